set_option maxRecDepth 20000 in
theorem wmt2_54 : (.constantLong RX6 323 (-9223372036854775808) : Cond) ∈ zw := List.mem_filter.mpr ⟨List.mem_append_right _ (List.mem_append_right _ (List.mem_append_left _ (List.mem_of_getElem? (l := tables_1_2) (i := 54) (by decide +kernel)))), by decide +kernel⟩
set_option maxRecDepth 20000 in
theorem wmt2_11 : (.methodLink RX6 374 Lib.MathLoose.abs_long.x : Cond) ∈ zw := List.mem_filter.mpr ⟨List.mem_append_right _ (List.mem_append_right _ (List.mem_append_left _ (List.mem_of_getElem? (l := tables_1_2) (i := 11) (by decide +kernel)))), by decide +kernel⟩
set_option maxRecDepth 20000 in
theorem wmt2_12 : (.static Lib.MathLoose.abs_long.x : Cond) ∈ zw := List.mem_filter.mpr ⟨List.mem_append_right _ (List.mem_append_right _ (List.mem_append_left _ (List.mem_of_getElem? (l := tables_1_2) (i := 12) (by decide +kernel)))), by decide +kernel⟩
set_option maxRecDepth 20000 in
theorem wmt1_10 : (.initialized "java/lang/Math" : Cond) ∈ zw := List.mem_filter.mpr ⟨List.mem_append_right _ (List.mem_append_left _ (List.mem_of_getElem? (l := tables_1_1) (i := 10) (by decide +kernel))), by decide +kernel⟩
set_option maxRecDepth 20000 in
theorem wmt2_13 : (.code Lib.MathLoose.abs_long.x Lib.MathLoose.abs_long.code 2 (some .long) : Cond) ∈ zw := List.mem_filter.mpr ⟨List.mem_append_right _ (List.mem_append_right _ (List.mem_append_left _ (List.mem_of_getElem? (l := tables_1_2) (i := 13) (by decide +kernel)))), by decide +kernel⟩
set_option maxRecDepth 20000 in
theorem wmt2_226 : (.constantLong RX6 333 (10) : Cond) ∈ zw := List.mem_filter.mpr ⟨List.mem_append_right _ (List.mem_append_right _ (List.mem_append_left _ (List.mem_of_getElem? (l := tables_1_2) (i := 226) (by decide +kernel)))), by decide +kernel⟩
set_option maxRecDepth 20000 in
theorem wmt1_122 : (.fieldLink RX1 29 "SecretLots$Design" "size" "I" : Cond) ∈ zw := List.mem_filter.mpr ⟨List.mem_append_right _ (List.mem_append_left _ (List.mem_of_getElem? (l := tables_1_1) (i := 122) (by decide +kernel))), by decide +kernel⟩
set_option maxRecDepth 20000 in
theorem wmt1_118 : (.fieldLink RX1 9 "SecretLots$Design" "text" "[I" : Cond) ∈ zw := List.mem_filter.mpr ⟨List.mem_append_right _ (List.mem_append_left _ (List.mem_of_getElem? (l := tables_1_1) (i := 118) (by decide +kernel))), by decide +kernel⟩
set_option maxRecDepth 20000 in
theorem wmt1_236 : (.code yX1_byteAt cX1_byteAt 2 (some .int) : Cond) ∈ zw := List.mem_filter.mpr ⟨List.mem_append_right _ (List.mem_append_left _ (List.mem_of_getElem? (l := tables_1_1) (i := 236) (by decide +kernel))), by decide +kernel⟩
set_option maxRecDepth 20000 in
theorem wmt1_233 : (.methodLink RX1 76 yX1_byteAt : Cond) ∈ zw := List.mem_filter.mpr ⟨List.mem_append_right _ (List.mem_append_left _ (List.mem_of_getElem? (l := tables_1_1) (i := 233) (by decide +kernel))), by decide +kernel⟩
set_option maxRecDepth 20000 in
theorem wmt1_235 : (.instanceMethod yX1_byteAt : Cond) ∈ zw := List.mem_filter.mpr ⟨List.mem_append_right _ (List.mem_append_left _ (List.mem_of_getElem? (l := tables_1_1) (i := 235) (by decide +kernel))), by decide +kernel⟩
set_option maxRecDepth 20000 in
theorem wmp1_2 : (.selects RX1 yX1_byteAt yX1_byteAt : Cond) ∈ zw := List.mem_filter.mpr ⟨List.mem_of_getElem? (l := lw_tbl) (i := 2) (by decide +kernel), by decide +kernel⟩
set_option maxRecDepth 20000 in
theorem wmt1_6 : (.initialized RX1 : Cond) ∈ zw := List.mem_filter.mpr ⟨List.mem_append_right _ (List.mem_append_left _ (List.mem_of_getElem? (l := tables_1_1) (i := 6) (by decide +kernel))), by decide +kernel⟩
set_option maxRecDepth 20000 in
theorem wmt1_121 : (.fieldLink RX1 25 "SecretLots$Design" "at" "I" : Cond) ∈ zw := List.mem_filter.mpr ⟨List.mem_append_right _ (List.mem_append_left _ (List.mem_of_getElem? (l := tables_1_1) (i := 121) (by decide +kernel))), by decide +kernel⟩
set_option maxRecDepth 20000 in
theorem wmt2_7 : (.code yX1_figureAt cX1_figureAt 3 (some .int) : Cond) ∈ zw := List.mem_filter.mpr ⟨List.mem_append_right _ (List.mem_append_right _ (List.mem_append_left _ (List.mem_of_getElem? (l := tables_1_2) (i := 7) (by decide +kernel)))), by decide +kernel⟩
set_option maxRecDepth 20000 in
theorem wmt2_4 : (.methodLink RX1 86 yX1_figureAt : Cond) ∈ zw := List.mem_filter.mpr ⟨List.mem_append_right _ (List.mem_append_right _ (List.mem_append_left _ (List.mem_of_getElem? (l := tables_1_2) (i := 4) (by decide +kernel)))), by decide +kernel⟩
set_option maxRecDepth 20000 in
theorem wmt2_6 : (.instanceMethod yX1_figureAt : Cond) ∈ zw := List.mem_filter.mpr ⟨List.mem_append_right _ (List.mem_append_right _ (List.mem_append_left _ (List.mem_of_getElem? (l := tables_1_2) (i := 6) (by decide +kernel)))), by decide +kernel⟩
set_option maxRecDepth 20000 in
theorem wmp1_4 : (.selects RX1 yX1_figureAt yX1_figureAt : Cond) ∈ zw := List.mem_filter.mpr ⟨List.mem_of_getElem? (l := lw_tbl) (i := 4) (by decide +kernel), by decide +kernel⟩
set_option maxRecDepth 20000 in
theorem wmt1_239 : (.code yX1_letterOf cX1_letterOf 1 (some .int) : Cond) ∈ zw := List.mem_filter.mpr ⟨List.mem_append_right _ (List.mem_append_left _ (List.mem_of_getElem? (l := tables_1_1) (i := 239) (by decide +kernel))), by decide +kernel⟩
set_option maxRecDepth 20000 in
theorem wmt1_237 : (.methodLink RX1 80 yX1_letterOf : Cond) ∈ zw := List.mem_filter.mpr ⟨List.mem_append_right _ (List.mem_append_left _ (List.mem_of_getElem? (l := tables_1_1) (i := 237) (by decide +kernel))), by decide +kernel⟩
set_option maxRecDepth 20000 in
theorem wmt1_238 : (.static yX1_letterOf : Cond) ∈ zw := List.mem_filter.mpr ⟨List.mem_append_right _ (List.mem_append_left _ (List.mem_of_getElem? (l := tables_1_1) (i := 238) (by decide +kernel))), by decide +kernel⟩
set_option maxRecDepth 20000 in
theorem wmt2_3 : (.code yX1_parseNumber cX1_parseNumber 3 (some .int) : Cond) ∈ zw := List.mem_filter.mpr ⟨List.mem_append_right _ (List.mem_append_right _ (List.mem_append_left _ (List.mem_of_getElem? (l := tables_1_2) (i := 3) (by decide +kernel)))), by decide +kernel⟩
set_option maxRecDepth 20000 in
theorem wmt2_0 : (.methodLink RX1 83 yX1_parseNumber : Cond) ∈ zw := List.mem_filter.mpr ⟨List.mem_append_right _ (List.mem_append_right _ (List.mem_append_left _ (List.mem_of_getElem? (l := tables_1_2) (i := 0) (by decide +kernel)))), by decide +kernel⟩
set_option maxRecDepth 20000 in
theorem wmt2_2 : (.instanceMethod yX1_parseNumber : Cond) ∈ zw := List.mem_filter.mpr ⟨List.mem_append_right _ (List.mem_append_right _ (List.mem_append_left _ (List.mem_of_getElem? (l := tables_1_2) (i := 2) (by decide +kernel)))), by decide +kernel⟩
set_option maxRecDepth 20000 in
theorem wmp1_3 : (.selects RX1 yX1_parseNumber yX1_parseNumber : Cond) ∈ zw := List.mem_filter.mpr ⟨List.mem_of_getElem? (l := lw_tbl) (i := 3) (by decide +kernel), by decide +kernel⟩
set_option maxRecDepth 20000 in
theorem wmt1_117 : (.constantLong RX1 19 (232792560) : Cond) ∈ zw := List.mem_filter.mpr ⟨List.mem_append_right _ (List.mem_append_left _ (List.mem_of_getElem? (l := tables_1_1) (i := 117) (by decide +kernel))), by decide +kernel⟩
set_option maxRecDepth 20000 in
theorem wmt1_119 : (.fieldLink RX1 15 "SecretLots$Design" "shares" "[J" : Cond) ∈ zw := List.mem_filter.mpr ⟨List.mem_append_right _ (List.mem_append_left _ (List.mem_of_getElem? (l := tables_1_1) (i := 119) (by decide +kernel))), by decide +kernel⟩
set_option maxRecDepth 20000 in
theorem wmt1_120 : (.fieldLink RX1 21 "SecretLots$Design" "common" "J" : Cond) ∈ zw := List.mem_filter.mpr ⟨List.mem_append_right _ (List.mem_append_left _ (List.mem_of_getElem? (l := tables_1_1) (i := 120) (by decide +kernel))), by decide +kernel⟩
set_option maxRecDepth 20000 in
theorem wmt2_10 : (.code yX6_commonDivisor cX6_commonDivisor 11 (some .long) : Cond) ∈ zw := List.mem_filter.mpr ⟨List.mem_append_right _ (List.mem_append_right _ (List.mem_append_left _ (List.mem_of_getElem? (l := tables_1_2) (i := 10) (by decide +kernel)))), by decide +kernel⟩
set_option maxRecDepth 20000 in
theorem wmt1_1 : (.initialized RX6 : Cond) ∈ zw := List.mem_filter.mpr ⟨List.mem_append_right _ (List.mem_append_left _ (List.mem_of_getElem? (l := tables_1_1) (i := 1) (by decide +kernel))), by decide +kernel⟩
set_option maxRecDepth 20000 in
theorem wmt2_9 : (.static yX6_commonDivisor : Cond) ∈ zw := List.mem_filter.mpr ⟨List.mem_append_right _ (List.mem_append_right _ (List.mem_append_left _ (List.mem_of_getElem? (l := tables_1_2) (i := 9) (by decide +kernel)))), by decide +kernel⟩
set_option maxRecDepth 20000 in
theorem wmt2_18 : (.constantLong RX1 58 (24) : Cond) ∈ zw := List.mem_filter.mpr ⟨List.mem_append_right _ (List.mem_append_right _ (List.mem_append_left _ (List.mem_of_getElem? (l := tables_1_2) (i := 18) (by decide +kernel)))), by decide +kernel⟩
set_option maxRecDepth 20000 in
theorem wmt1_228 : (.code yJ7_fill_d0a16 cJ7_fill_d0a16 5 none : Cond) ∈ zw := List.mem_filter.mpr ⟨List.mem_append_right _ (List.mem_append_left _ (List.mem_of_getElem? (l := tables_1_1) (i := 228) (by decide +kernel))), by decide +kernel⟩
set_option maxRecDepth 20000 in
theorem wmt1_226 : (.methodLink RX1 64 yJ7_fill_d0a16 : Cond) ∈ zw := List.mem_filter.mpr ⟨List.mem_append_right _ (List.mem_append_left _ (List.mem_of_getElem? (l := tables_1_1) (i := 226) (by decide +kernel))), by decide +kernel⟩
set_option maxRecDepth 20000 in
theorem wmt1_227 : (.static yJ7_fill_d0a16 : Cond) ∈ zw := List.mem_filter.mpr ⟨List.mem_append_right _ (List.mem_append_left _ (List.mem_of_getElem? (l := tables_1_1) (i := 227) (by decide +kernel))), by decide +kernel⟩
set_option maxRecDepth 20000 in
theorem wmt1_9 : (.initialized RJ7 : Cond) ∈ zw := List.mem_filter.mpr ⟨List.mem_append_right _ (List.mem_append_left _ (List.mem_of_getElem? (l := tables_1_1) (i := 9) (by decide +kernel))), by decide +kernel⟩
set_option maxRecDepth 20000 in
theorem wmt1_232 : (.code yX1_parsePart cX1_parsePart 8 (some .int) : Cond) ∈ zw := List.mem_filter.mpr ⟨List.mem_append_right _ (List.mem_append_left _ (List.mem_of_getElem? (l := tables_1_1) (i := 232) (by decide +kernel))), by decide +kernel⟩
set_option maxRecDepth 20000 in
theorem wmt1_229 : (.methodLink RX1 70 yX1_parsePart : Cond) ∈ zw := List.mem_filter.mpr ⟨List.mem_append_right _ (List.mem_append_left _ (List.mem_of_getElem? (l := tables_1_1) (i := 229) (by decide +kernel))), by decide +kernel⟩
set_option maxRecDepth 20000 in
theorem wmt1_231 : (.instanceMethod yX1_parsePart : Cond) ∈ zw := List.mem_filter.mpr ⟨List.mem_append_right _ (List.mem_append_left _ (List.mem_of_getElem? (l := tables_1_1) (i := 231) (by decide +kernel))), by decide +kernel⟩
set_option maxRecDepth 20000 in
theorem wmp1_1 : (.selects RX1 yX1_parsePart yX1_parsePart : Cond) ∈ zw := List.mem_filter.mpr ⟨List.mem_of_getElem? (l := lw_tbl) (i := 1) (by decide +kernel), by decide +kernel⟩
set_option maxRecDepth 20000 in
theorem wmt2_17 : (.code yX1_faultOfShares cX1_faultOfShares 4 (some .int) : Cond) ∈ zw := List.mem_filter.mpr ⟨List.mem_append_right _ (List.mem_append_right _ (List.mem_append_left _ (List.mem_of_getElem? (l := tables_1_2) (i := 17) (by decide +kernel)))), by decide +kernel⟩
set_option maxRecDepth 20000 in
theorem wmt2_14 : (.methodLink RX1 73 yX1_faultOfShares : Cond) ∈ zw := List.mem_filter.mpr ⟨List.mem_append_right _ (List.mem_append_right _ (List.mem_append_left _ (List.mem_of_getElem? (l := tables_1_2) (i := 14) (by decide +kernel)))), by decide +kernel⟩
set_option maxRecDepth 20000 in
theorem wmt2_16 : (.instanceMethod yX1_faultOfShares : Cond) ∈ zw := List.mem_filter.mpr ⟨List.mem_append_right _ (List.mem_append_right _ (List.mem_append_left _ (List.mem_of_getElem? (l := tables_1_2) (i := 16) (by decide +kernel)))), by decide +kernel⟩
set_option maxRecDepth 20000 in
theorem wmp1_5 : (.selects RX1 yX1_faultOfShares yX1_faultOfShares : Cond) ∈ zw := List.mem_filter.mpr ⟨List.mem_of_getElem? (l := lw_tbl) (i := 5) (by decide +kernel), by decide +kernel⟩
set_option maxRecDepth 20000 in
theorem wmt1_124 : (.fieldLink RX1 32 "SecretLots$Design" "faultAt" "I" : Cond) ∈ zw := List.mem_filter.mpr ⟨List.mem_append_right _ (List.mem_append_left _ (List.mem_of_getElem? (l := tables_1_1) (i := 124) (by decide +kernel))), by decide +kernel⟩
set_option maxRecDepth 20000 in
theorem wmt1_126 : (.fieldLink RX1 35 "SecretLots$Design" "yesIfHas" "I" : Cond) ∈ zw := List.mem_filter.mpr ⟨List.mem_append_right _ (List.mem_append_left _ (List.mem_of_getElem? (l := tables_1_1) (i := 126) (by decide +kernel))), by decide +kernel⟩
set_option maxRecDepth 20000 in
theorem wmt1_128 : (.fieldLink RX1 38 "SecretLots$Design" "yesIfHasNot" "I" : Cond) ∈ zw := List.mem_filter.mpr ⟨List.mem_append_right _ (List.mem_append_left _ (List.mem_of_getElem? (l := tables_1_1) (i := 128) (by decide +kernel))), by decide +kernel⟩
set_option maxRecDepth 20000 in
theorem wmt1_130 : (.fieldLink RX1 41 "SecretLots$Design" "lotUnit" "I" : Cond) ∈ zw := List.mem_filter.mpr ⟨List.mem_append_right _ (List.mem_append_left _ (List.mem_of_getElem? (l := tables_1_1) (i := 130) (by decide +kernel))), by decide +kernel⟩
set_option maxRecDepth 20000 in
theorem wmt2_27 : (.constantLong RX1 56 (5587021440) : Cond) ∈ zw := List.mem_filter.mpr ⟨List.mem_append_right _ (List.mem_append_right _ (List.mem_append_left _ (List.mem_of_getElem? (l := tables_1_2) (i := 27) (by decide +kernel)))), by decide +kernel⟩
set_option maxRecDepth 20000 in
theorem wmt1_225 : (.code yX1_parse cX1_parse 3 (some .int) : Cond) ∈ zw := List.mem_filter.mpr ⟨List.mem_append_right _ (List.mem_append_left _ (List.mem_of_getElem? (l := tables_1_1) (i := 225) (by decide +kernel))), by decide +kernel⟩
set_option maxRecDepth 20000 in
theorem wmt1_222 : (.methodLink RX1 44 yX1_parse : Cond) ∈ zw := List.mem_filter.mpr ⟨List.mem_append_right _ (List.mem_append_left _ (List.mem_of_getElem? (l := tables_1_1) (i := 222) (by decide +kernel))), by decide +kernel⟩
set_option maxRecDepth 20000 in
theorem wmt1_224 : (.instanceMethod yX1_parse : Cond) ∈ zw := List.mem_filter.mpr ⟨List.mem_append_right _ (List.mem_append_left _ (List.mem_of_getElem? (l := tables_1_1) (i := 224) (by decide +kernel))), by decide +kernel⟩
set_option maxRecDepth 20000 in
theorem wmp1_0 : (.selects RX1 yX1_parse yX1_parse : Cond) ∈ zw := List.mem_filter.mpr ⟨List.mem_of_getElem? (l := lw_tbl) (i := 0) (by decide +kernel), by decide +kernel⟩
set_option maxRecDepth 20000 in
theorem wmt2_22 : (.code yX1_isFaulty cX1_isFaulty 1 (some .boolean) : Cond) ∈ zw := List.mem_filter.mpr ⟨List.mem_append_right _ (List.mem_append_right _ (List.mem_append_left _ (List.mem_of_getElem? (l := tables_1_2) (i := 22) (by decide +kernel)))), by decide +kernel⟩
set_option maxRecDepth 20000 in
theorem wmt2_19 : (.methodLink RX1 48 yX1_isFaulty : Cond) ∈ zw := List.mem_filter.mpr ⟨List.mem_append_right _ (List.mem_append_right _ (List.mem_append_left _ (List.mem_of_getElem? (l := tables_1_2) (i := 19) (by decide +kernel)))), by decide +kernel⟩
set_option maxRecDepth 20000 in
theorem wmt2_20 : (.instanceMethod yX1_isFaulty : Cond) ∈ zw := List.mem_filter.mpr ⟨List.mem_append_right _ (List.mem_append_right _ (List.mem_append_left _ (List.mem_of_getElem? (l := tables_1_2) (i := 20) (by decide +kernel)))), by decide +kernel⟩
set_option maxRecDepth 20000 in
theorem wmt2_21 : (.selects RX1 yX1_isFaulty yX1_isFaulty : Cond) ∈ zw := List.mem_filter.mpr ⟨List.mem_append_right _ (List.mem_append_right _ (List.mem_append_left _ (List.mem_of_getElem? (l := tables_1_2) (i := 21) (by decide +kernel)))), by decide +kernel⟩
set_option maxRecDepth 20000 in
theorem wmt2_26 : (.code yX1_settleLots cX1_settleLots 12 none : Cond) ∈ zw := List.mem_filter.mpr ⟨List.mem_append_right _ (List.mem_append_right _ (List.mem_append_left _ (List.mem_of_getElem? (l := tables_1_2) (i := 26) (by decide +kernel)))), by decide +kernel⟩
set_option maxRecDepth 20000 in
theorem wmt2_23 : (.methodLink RX1 52 yX1_settleLots : Cond) ∈ zw := List.mem_filter.mpr ⟨List.mem_append_right _ (List.mem_append_right _ (List.mem_append_left _ (List.mem_of_getElem? (l := tables_1_2) (i := 23) (by decide +kernel)))), by decide +kernel⟩
set_option maxRecDepth 20000 in
theorem wmt2_25 : (.instanceMethod yX1_settleLots : Cond) ∈ zw := List.mem_filter.mpr ⟨List.mem_append_right _ (List.mem_append_right _ (List.mem_append_left _ (List.mem_of_getElem? (l := tables_1_2) (i := 25) (by decide +kernel)))), by decide +kernel⟩
set_option maxRecDepth 20000 in
theorem wmp1_6 : (.selects RX1 yX1_settleLots yX1_settleLots : Cond) ∈ zw := List.mem_filter.mpr ⟨List.mem_of_getElem? (l := lw_tbl) (i := 6) (by decide +kernel), by decide +kernel⟩
set_option maxRecDepth 20000 in
theorem wmt1_103 : (.fieldLink RX2 7 "SecretLots$Fraction" "above" "J" : Cond) ∈ zw := List.mem_filter.mpr ⟨List.mem_append_right _ (List.mem_append_left _ (List.mem_of_getElem? (l := tables_1_1) (i := 103) (by decide +kernel))), by decide +kernel⟩
set_option maxRecDepth 20000 in
theorem wmt1_105 : (.fieldLink RX2 13 "SecretLots$Fraction" "below" "J" : Cond) ∈ zw := List.mem_filter.mpr ⟨List.mem_append_right _ (List.mem_append_left _ (List.mem_of_getElem? (l := tables_1_1) (i := 105) (by decide +kernel))), by decide +kernel⟩
set_option maxRecDepth 20000 in
theorem wmt1_74 : (.fieldLink RX4 7 "SecretLots$Poll" "heard" "I" : Cond) ∈ zw := List.mem_filter.mpr ⟨List.mem_append_right _ (List.mem_append_left _ (List.mem_of_getElem? (l := tables_1_1) (i := 74) (by decide +kernel))), by decide +kernel⟩
set_option maxRecDepth 20000 in
theorem wmt1_75 : (.fieldLink RX4 13 "SecretLots$Poll" "people" "I" : Cond) ∈ zw := List.mem_filter.mpr ⟨List.mem_append_right _ (List.mem_append_left _ (List.mem_of_getElem? (l := tables_1_1) (i := 75) (by decide +kernel))), by decide +kernel⟩
set_option maxRecDepth 20000 in
theorem wmt1_77 : (.fieldLink RX4 16 "SecretLots$Poll" "yes" "I" : Cond) ∈ zw := List.mem_filter.mpr ⟨List.mem_append_right _ (List.mem_append_left _ (List.mem_of_getElem? (l := tables_1_1) (i := 77) (by decide +kernel))), by decide +kernel⟩
set_option maxRecDepth 20000 in
theorem wmt1_159 : (.fieldLink RX5 15 "SecretLots$Sheet" "kind" "I" : Cond) ∈ zw := List.mem_filter.mpr ⟨List.mem_append_right _ (List.mem_append_left _ (List.mem_of_getElem? (l := tables_1_1) (i := 159) (by decide +kernel))), by decide +kernel⟩
set_option maxRecDepth 20000 in
theorem wmt1_157 : (.fieldLink RX5 9 "SecretLots$Sheet" "items" "[I" : Cond) ∈ zw := List.mem_filter.mpr ⟨List.mem_append_right _ (List.mem_append_left _ (List.mem_of_getElem? (l := tables_1_1) (i := 157) (by decide +kernel))), by decide +kernel⟩
set_option maxRecDepth 20000 in
theorem wmt3_7 : (.code yJ7_fill_53178 cJ7_fill_53178 4 none : Cond) ∈ zw := List.mem_filter.mpr ⟨List.mem_append_right _ (List.mem_append_right _ (List.mem_append_right _ (List.mem_append_left _ (List.mem_of_getElem? (l := tables_1_3) (i := 7) (by decide +kernel))))), by decide +kernel⟩
set_option maxRecDepth 20000 in
theorem wmt3_96 : (.methodLink RX5 22 yJ7_fill_53178 : Cond) ∈ zw := List.mem_filter.mpr ⟨List.mem_append_right _ (List.mem_append_right _ (List.mem_append_right _ (List.mem_append_left _ (List.mem_of_getElem? (l := tables_1_3) (i := 96) (by decide +kernel))))), by decide +kernel⟩
set_option maxRecDepth 20000 in
theorem wmt3_6 : (.static yJ7_fill_53178 : Cond) ∈ zw := List.mem_filter.mpr ⟨List.mem_append_right _ (List.mem_append_right _ (List.mem_append_right _ (List.mem_append_left _ (List.mem_of_getElem? (l := tables_1_3) (i := 6) (by decide +kernel))))), by decide +kernel⟩
set_option maxRecDepth 20000 in
theorem wmt1_161 : (.fieldLink RX5 19 "SecretLots$Sheet" "size" "I" : Cond) ∈ zw := List.mem_filter.mpr ⟨List.mem_append_right _ (List.mem_append_left _ (List.mem_of_getElem? (l := tables_1_1) (i := 161) (by decide +kernel))), by decide +kernel⟩
set_option maxRecDepth 20000 in
theorem wmt1_92 : (.fieldLink RX3 9 "SecretLots$Lots" "ways" "[J" : Cond) ∈ zw := List.mem_filter.mpr ⟨List.mem_append_right _ (List.mem_append_left _ (List.mem_of_getElem? (l := tables_1_1) (i := 92) (by decide +kernel))), by decide +kernel⟩
set_option maxRecDepth 20000 in
theorem wmt2_203 : (.methodLink RX3 38 Lib.Math.max.name : Cond) ∈ zw := List.mem_filter.mpr ⟨List.mem_append_right _ (List.mem_append_right _ (List.mem_append_left _ (List.mem_of_getElem? (l := tables_1_2) (i := 203) (by decide +kernel)))), by decide +kernel⟩
set_option maxRecDepth 20000 in
theorem wmt2_204 : (.static Lib.Math.max.name : Cond) ∈ zw := List.mem_filter.mpr ⟨List.mem_append_right _ (List.mem_append_right _ (List.mem_append_left _ (List.mem_of_getElem? (l := tables_1_2) (i := 204) (by decide +kernel)))), by decide +kernel⟩
set_option maxRecDepth 20000 in
theorem wmt2_205 : (.code Lib.Math.max.name Lib.Math.max.code 2 (some .int) : Cond) ∈ zw := List.mem_filter.mpr ⟨List.mem_append_right _ (List.mem_append_right _ (List.mem_append_left _ (List.mem_of_getElem? (l := tables_1_2) (i := 205) (by decide +kernel)))), by decide +kernel⟩
set_option maxRecDepth 20000 in
theorem wmt2_186 : (.methodLink RX3 15 yJ7_fill_d0a16 : Cond) ∈ zw := List.mem_filter.mpr ⟨List.mem_append_right _ (List.mem_append_right _ (List.mem_append_left _ (List.mem_of_getElem? (l := tables_1_2) (i := 186) (by decide +kernel)))), by decide +kernel⟩
set_option maxRecDepth 20000 in
theorem wmt2_194 : (.code yX1_lotsIfHasNot cX1_lotsIfHasNot 2 (some .long) : Cond) ∈ zw := List.mem_filter.mpr ⟨List.mem_append_right _ (List.mem_append_right _ (List.mem_append_left _ (List.mem_of_getElem? (l := tables_1_2) (i := 194) (by decide +kernel)))), by decide +kernel⟩
set_option maxRecDepth 20000 in
theorem wmt2_191 : (.methodLink RX3 27 yX1_lotsIfHasNot : Cond) ∈ zw := List.mem_filter.mpr ⟨List.mem_append_right _ (List.mem_append_right _ (List.mem_append_left _ (List.mem_of_getElem? (l := tables_1_2) (i := 191) (by decide +kernel)))), by decide +kernel⟩
set_option maxRecDepth 20000 in
theorem wmt2_192 : (.instanceMethod yX1_lotsIfHasNot : Cond) ∈ zw := List.mem_filter.mpr ⟨List.mem_append_right _ (List.mem_append_right _ (List.mem_append_left _ (List.mem_of_getElem? (l := tables_1_2) (i := 192) (by decide +kernel)))), by decide +kernel⟩
set_option maxRecDepth 20000 in
theorem wmt2_193 : (.selects RX1 yX1_lotsIfHasNot yX1_lotsIfHasNot : Cond) ∈ zw := List.mem_filter.mpr ⟨List.mem_append_right _ (List.mem_append_right _ (List.mem_append_left _ (List.mem_of_getElem? (l := tables_1_2) (i := 193) (by decide +kernel)))), by decide +kernel⟩
set_option maxRecDepth 20000 in
theorem wmt1_131 : (.fieldLink RX3 30 "SecretLots$Design" "lotUnit" "I" : Cond) ∈ zw := List.mem_filter.mpr ⟨List.mem_append_right _ (List.mem_append_left _ (List.mem_of_getElem? (l := tables_1_1) (i := 131) (by decide +kernel))), by decide +kernel⟩
set_option maxRecDepth 20000 in
theorem wmt2_198 : (.code yX3_addPerson cX3_addPerson 7 none : Cond) ∈ zw := List.mem_filter.mpr ⟨List.mem_append_right _ (List.mem_append_right _ (List.mem_append_left _ (List.mem_of_getElem? (l := tables_1_2) (i := 198) (by decide +kernel)))), by decide +kernel⟩
set_option maxRecDepth 20000 in
theorem wmt2_195 : (.methodLink RX3 34 yX3_addPerson : Cond) ∈ zw := List.mem_filter.mpr ⟨List.mem_append_right _ (List.mem_append_right _ (List.mem_append_left _ (List.mem_of_getElem? (l := tables_1_2) (i := 195) (by decide +kernel)))), by decide +kernel⟩
set_option maxRecDepth 20000 in
theorem wmt2_197 : (.instanceMethod yX3_addPerson : Cond) ∈ zw := List.mem_filter.mpr ⟨List.mem_append_right _ (List.mem_append_right _ (List.mem_append_left _ (List.mem_of_getElem? (l := tables_1_2) (i := 197) (by decide +kernel)))), by decide +kernel⟩
set_option maxRecDepth 20000 in
theorem wmp1_13 : (.selects RX3 yX3_addPerson yX3_addPerson : Cond) ∈ zw := List.mem_filter.mpr ⟨List.mem_of_getElem? (l := lw_tbl) (i := 13) (by decide +kernel), by decide +kernel⟩
set_option maxRecDepth 20000 in
theorem wmt1_4 : (.initialized RX3 : Cond) ∈ zw := List.mem_filter.mpr ⟨List.mem_append_right _ (List.mem_append_left _ (List.mem_of_getElem? (l := tables_1_1) (i := 4) (by decide +kernel))), by decide +kernel⟩
set_option maxRecDepth 20000 in
theorem wmt2_190 : (.code yX1_lotsIfHas cX1_lotsIfHas 2 (some .long) : Cond) ∈ zw := List.mem_filter.mpr ⟨List.mem_append_right _ (List.mem_append_right _ (List.mem_append_left _ (List.mem_of_getElem? (l := tables_1_2) (i := 190) (by decide +kernel)))), by decide +kernel⟩
set_option maxRecDepth 20000 in
theorem wmt2_187 : (.methodLink RX3 21 yX1_lotsIfHas : Cond) ∈ zw := List.mem_filter.mpr ⟨List.mem_append_right _ (List.mem_append_right _ (List.mem_append_left _ (List.mem_of_getElem? (l := tables_1_2) (i := 187) (by decide +kernel)))), by decide +kernel⟩
set_option maxRecDepth 20000 in
theorem wmt2_188 : (.instanceMethod yX1_lotsIfHas : Cond) ∈ zw := List.mem_filter.mpr ⟨List.mem_append_right _ (List.mem_append_right _ (List.mem_append_left _ (List.mem_of_getElem? (l := tables_1_2) (i := 188) (by decide +kernel)))), by decide +kernel⟩
set_option maxRecDepth 20000 in
theorem wmt2_189 : (.selects RX1 yX1_lotsIfHas yX1_lotsIfHas : Cond) ∈ zw := List.mem_filter.mpr ⟨List.mem_append_right _ (List.mem_append_right _ (List.mem_append_left _ (List.mem_of_getElem? (l := tables_1_2) (i := 189) (by decide +kernel)))), by decide +kernel⟩
set_option maxRecDepth 20000 in
theorem wmt1_46 : (.fieldLink RX0 37 "SecretLots$Answers" "size" "I" : Cond) ∈ zw := List.mem_filter.mpr ⟨List.mem_append_right _ (List.mem_append_left _ (List.mem_of_getElem? (l := tables_1_1) (i := 46) (by decide +kernel))), by decide +kernel⟩
set_option maxRecDepth 20000 in
theorem wmt1_36 : (.fieldLink RX0 21 "SecretLots$Answers" "toldOn" "[I" : Cond) ∈ zw := List.mem_filter.mpr ⟨List.mem_append_right _ (List.mem_append_left _ (List.mem_of_getElem? (l := tables_1_1) (i := 36) (by decide +kernel))), by decide +kernel⟩
set_option maxRecDepth 20000 in
theorem wmt1_38 : (.fieldLink RX0 24 "SecretLots$Answers" "takenOn" "[I" : Cond) ∈ zw := List.mem_filter.mpr ⟨List.mem_append_right _ (List.mem_append_left _ (List.mem_of_getElem? (l := tables_1_1) (i := 38) (by decide +kernel))), by decide +kernel⟩
set_option maxRecDepth 20000 in
theorem wmt2_125 : (.code yX0_isKnown cX0_isKnown 3 (some .boolean) : Cond) ∈ zw := List.mem_filter.mpr ⟨List.mem_append_right _ (List.mem_append_right _ (List.mem_append_left _ (List.mem_of_getElem? (l := tables_1_2) (i := 125) (by decide +kernel)))), by decide +kernel⟩
set_option maxRecDepth 20000 in
theorem wmt3_8 : (.methodLink RX0 40 yX0_isKnown : Cond) ∈ zw := List.mem_filter.mpr ⟨List.mem_append_right _ (List.mem_append_right _ (List.mem_append_right _ (List.mem_append_left _ (List.mem_of_getElem? (l := tables_1_3) (i := 8) (by decide +kernel))))), by decide +kernel⟩
set_option maxRecDepth 20000 in
theorem wmt2_123 : (.instanceMethod yX0_isKnown : Cond) ∈ zw := List.mem_filter.mpr ⟨List.mem_append_right _ (List.mem_append_right _ (List.mem_append_left _ (List.mem_of_getElem? (l := tables_1_2) (i := 123) (by decide +kernel)))), by decide +kernel⟩
set_option maxRecDepth 20000 in
theorem wmt2_124 : (.selects RX0 yX0_isKnown yX0_isKnown : Cond) ∈ zw := List.mem_filter.mpr ⟨List.mem_append_right _ (List.mem_append_right _ (List.mem_append_left _ (List.mem_of_getElem? (l := tables_1_2) (i := 124) (by decide +kernel)))), by decide +kernel⟩
set_option maxRecDepth 20000 in
theorem wmt1_2 : (.initialized RX0 : Cond) ∈ zw := List.mem_filter.mpr ⟨List.mem_append_right _ (List.mem_append_left _ (List.mem_of_getElem? (l := tables_1_1) (i := 2) (by decide +kernel))), by decide +kernel⟩
set_option maxRecDepth 20000 in
theorem wmt1_34 : (.fieldLink RX0 18 "SecretLots$Answers" "saidYes" "[I" : Cond) ∈ zw := List.mem_filter.mpr ⟨List.mem_append_right _ (List.mem_append_left _ (List.mem_of_getElem? (l := tables_1_1) (i := 34) (by decide +kernel))), by decide +kernel⟩
set_option maxRecDepth 20000 in
theorem wmt1_30 : (.fieldLink RX0 9 "SecretLots$Answers" "people" "[I" : Cond) ∈ zw := List.mem_filter.mpr ⟨List.mem_append_right _ (List.mem_append_left _ (List.mem_of_getElem? (l := tables_1_1) (i := 30) (by decide +kernel))), by decide +kernel⟩
set_option maxRecDepth 20000 in
theorem wmt1_32 : (.fieldLink RX0 15 "SecretLots$Answers" "byDesign" "[I" : Cond) ∈ zw := List.mem_filter.mpr ⟨List.mem_append_right _ (List.mem_append_left _ (List.mem_of_getElem? (l := tables_1_1) (i := 32) (by decide +kernel))), by decide +kernel⟩
set_option maxRecDepth 20000 in
theorem wmt1_40 : (.fieldLink RX0 27 "SecretLots$Answers" "pickedBy" "[I" : Cond) ∈ zw := List.mem_filter.mpr ⟨List.mem_append_right _ (List.mem_append_left _ (List.mem_of_getElem? (l := tables_1_1) (i := 40) (by decide +kernel))), by decide +kernel⟩
set_option maxRecDepth 20000 in
theorem wmt3_5 : (.methodLink RX0 44 yJ7_fill_53178 : Cond) ∈ zw := List.mem_filter.mpr ⟨List.mem_append_right _ (List.mem_append_right _ (List.mem_append_right _ (List.mem_append_left _ (List.mem_of_getElem? (l := tables_1_3) (i := 5) (by decide +kernel))))), by decide +kernel⟩
set_option maxRecDepth 20000 in
theorem wmt1_44 : (.fieldLink RX0 33 "SecretLots$Answers" "pickedSize" "I" : Cond) ∈ zw := List.mem_filter.mpr ⟨List.mem_append_right _ (List.mem_append_left _ (List.mem_of_getElem? (l := tables_1_1) (i := 44) (by decide +kernel))), by decide +kernel⟩
set_option maxRecDepth 20000 in
theorem wmt1_42 : (.fieldLink RX0 30 "SecretLots$Answers" "picked" "[I" : Cond) ∈ zw := List.mem_filter.mpr ⟨List.mem_append_right _ (List.mem_append_left _ (List.mem_of_getElem? (l := tables_1_1) (i := 42) (by decide +kernel))), by decide +kernel⟩
set_option maxRecDepth 20000 in
theorem wmt1_178 : (.fieldLink RX6 57 "SecretLots" "lookBack" "I" : Cond) ∈ zw := List.mem_filter.mpr ⟨List.mem_append_right _ (List.mem_append_left _ (List.mem_of_getElem? (l := tables_1_1) (i := 178) (by decide +kernel))), by decide +kernel⟩
set_option maxRecDepth 20000 in
theorem wmt1_177 : (.fieldLink RX6 53 "SecretLots" "today" "I" : Cond) ∈ zw := List.mem_filter.mpr ⟨List.mem_append_right _ (List.mem_append_left _ (List.mem_of_getElem? (l := tables_1_1) (i := 177) (by decide +kernel))), by decide +kernel⟩
set_option maxRecDepth 20000 in
theorem wmt1_181 : (.fieldLink RX6 66 "SecretLots" "latestFinding" "I" : Cond) ∈ zw := List.mem_filter.mpr ⟨List.mem_append_right _ (List.mem_append_left _ (List.mem_of_getElem? (l := tables_1_1) (i := 181) (by decide +kernel))), by decide +kernel⟩
set_option maxRecDepth 20000 in
theorem wmt1_213 : (.code yX6_isDesign cX6_isDesign 1 (some .boolean) : Cond) ∈ zw := List.mem_filter.mpr ⟨List.mem_append_right _ (List.mem_append_left _ (List.mem_of_getElem? (l := tables_1_1) (i := 213) (by decide +kernel))), by decide +kernel⟩
set_option maxRecDepth 20000 in
theorem wmt1_211 : (.methodLink RX6 71 yX6_isDesign : Cond) ∈ zw := List.mem_filter.mpr ⟨List.mem_append_right _ (List.mem_append_left _ (List.mem_of_getElem? (l := tables_1_1) (i := 211) (by decide +kernel))), by decide +kernel⟩
set_option maxRecDepth 20000 in
theorem wmt1_212 : (.static yX6_isDesign : Cond) ∈ zw := List.mem_filter.mpr ⟨List.mem_append_right _ (List.mem_append_left _ (List.mem_of_getElem? (l := tables_1_1) (i := 212) (by decide +kernel))), by decide +kernel⟩
set_option maxRecDepth 20000 in
theorem wmt1_170 : (.fieldLink RX6 11 "SecretLots" "designs" "[LSecretLots$Design;" : Cond) ∈ zw := List.mem_filter.mpr ⟨List.mem_append_right _ (List.mem_append_left _ (List.mem_of_getElem? (l := tables_1_1) (i := 170) (by decide +kernel))), by decide +kernel⟩
set_option maxRecDepth 20000 in
theorem wmt1_125 : (.fieldLink RX6 88 "SecretLots$Design" "faultAt" "I" : Cond) ∈ zw := List.mem_filter.mpr ⟨List.mem_append_right _ (List.mem_append_left _ (List.mem_of_getElem? (l := tables_1_1) (i := 125) (by decide +kernel))), by decide +kernel⟩
set_option maxRecDepth 20000 in
theorem wmt2_55 : (.methodLink RX6 98 yX1_isFaulty : Cond) ∈ zw := List.mem_filter.mpr ⟨List.mem_append_right _ (List.mem_append_right _ (List.mem_append_left _ (List.mem_of_getElem? (l := tables_1_2) (i := 55) (by decide +kernel)))), by decide +kernel⟩
set_option maxRecDepth 20000 in
theorem wmt1_132 : (.fieldLink RX6 108 "SecretLots$Design" "lotUnit" "I" : Cond) ∈ zw := List.mem_filter.mpr ⟨List.mem_append_right _ (List.mem_append_left _ (List.mem_of_getElem? (l := tables_1_1) (i := 132) (by decide +kernel))), by decide +kernel⟩
set_option maxRecDepth 20000 in
theorem wmt1_176 : (.fieldLink RX6 49 "SecretLots" "fraction" "LSecretLots$Fraction;" : Cond) ∈ zw := List.mem_filter.mpr ⟨List.mem_append_right _ (List.mem_append_left _ (List.mem_of_getElem? (l := tables_1_1) (i := 176) (by decide +kernel))), by decide +kernel⟩
set_option maxRecDepth 20000 in
theorem wmt3_17 : (.constantLong RX6 351 (1000000000) : Cond) ∈ zw := List.mem_filter.mpr ⟨List.mem_append_right _ (List.mem_append_right _ (List.mem_append_right _ (List.mem_append_left _ (List.mem_of_getElem? (l := tables_1_3) (i := 17) (by decide +kernel))))), by decide +kernel⟩
set_option maxRecDepth 20000 in
theorem wmt3_21 : (.code yX2_isAbove cX2_isAbove 3 (some .boolean) : Cond) ∈ zw := List.mem_filter.mpr ⟨List.mem_append_right _ (List.mem_append_right _ (List.mem_append_right _ (List.mem_append_left _ (List.mem_of_getElem? (l := tables_1_3) (i := 21) (by decide +kernel))))), by decide +kernel⟩
set_option maxRecDepth 20000 in
theorem wmt3_18 : (.methodLink RX6 353 yX2_isAbove : Cond) ∈ zw := List.mem_filter.mpr ⟨List.mem_append_right _ (List.mem_append_right _ (List.mem_append_right _ (List.mem_append_left _ (List.mem_of_getElem? (l := tables_1_3) (i := 18) (by decide +kernel))))), by decide +kernel⟩
set_option maxRecDepth 20000 in
theorem wmt3_19 : (.instanceMethod yX2_isAbove : Cond) ∈ zw := List.mem_filter.mpr ⟨List.mem_append_right _ (List.mem_append_right _ (List.mem_append_right _ (List.mem_append_left _ (List.mem_of_getElem? (l := tables_1_3) (i := 19) (by decide +kernel))))), by decide +kernel⟩
set_option maxRecDepth 20000 in
theorem wmt3_20 : (.selects RX2 yX2_isAbove yX2_isAbove : Cond) ∈ zw := List.mem_filter.mpr ⟨List.mem_append_right _ (List.mem_append_right _ (List.mem_append_right _ (List.mem_append_left _ (List.mem_of_getElem? (l := tables_1_3) (i := 20) (by decide +kernel))))), by decide +kernel⟩
set_option maxRecDepth 20000 in
theorem wmt1_5 : (.initialized RX2 : Cond) ∈ zw := List.mem_filter.mpr ⟨List.mem_append_right _ (List.mem_append_left _ (List.mem_of_getElem? (l := tables_1_1) (i := 5) (by decide +kernel))), by decide +kernel⟩
set_option maxRecDepth 20000 in
theorem wmt1_104 : (.fieldLink RX6 219 "SecretLots$Fraction" "above" "J" : Cond) ∈ zw := List.mem_filter.mpr ⟨List.mem_append_right _ (List.mem_append_left _ (List.mem_of_getElem? (l := tables_1_1) (i := 104) (by decide +kernel))), by decide +kernel⟩
set_option maxRecDepth 20000 in
theorem wmt1_180 : (.fieldLink RX6 63 "SecretLots" "mostGivenAway" "I" : Cond) ∈ zw := List.mem_filter.mpr ⟨List.mem_append_right _ (List.mem_append_left _ (List.mem_of_getElem? (l := tables_1_1) (i := 180) (by decide +kernel))), by decide +kernel⟩
set_option maxRecDepth 20000 in
theorem wmt1_106 : (.fieldLink RX6 223 "SecretLots$Fraction" "below" "J" : Cond) ∈ zw := List.mem_filter.mpr ⟨List.mem_append_right _ (List.mem_append_left _ (List.mem_of_getElem? (l := tables_1_1) (i := 106) (by decide +kernel))), by decide +kernel⟩
set_option maxRecDepth 20000 in
theorem wmt1_174 : (.fieldLink RX6 35 "SecretLots" "asked" "LSecretLots$Poll;" : Cond) ∈ zw := List.mem_filter.mpr ⟨List.mem_append_right _ (List.mem_append_left _ (List.mem_of_getElem? (l := tables_1_1) (i := 174) (by decide +kernel))), by decide +kernel⟩
set_option maxRecDepth 20000 in
theorem wmt2_141 : (.code yX4_begin cX4_begin 1 none : Cond) ∈ zw := List.mem_filter.mpr ⟨List.mem_append_right _ (List.mem_append_right _ (List.mem_append_left _ (List.mem_of_getElem? (l := tables_1_2) (i := 141) (by decide +kernel)))), by decide +kernel⟩
set_option maxRecDepth 20000 in
theorem wmt2_138 : (.methodLink RX6 328 yX4_begin : Cond) ∈ zw := List.mem_filter.mpr ⟨List.mem_append_right _ (List.mem_append_right _ (List.mem_append_left _ (List.mem_of_getElem? (l := tables_1_2) (i := 138) (by decide +kernel)))), by decide +kernel⟩
set_option maxRecDepth 20000 in
theorem wmt2_139 : (.instanceMethod yX4_begin : Cond) ∈ zw := List.mem_filter.mpr ⟨List.mem_append_right _ (List.mem_append_right _ (List.mem_append_left _ (List.mem_of_getElem? (l := tables_1_2) (i := 139) (by decide +kernel)))), by decide +kernel⟩
set_option maxRecDepth 20000 in
theorem wmt2_140 : (.selects RX4 yX4_begin yX4_begin : Cond) ∈ zw := List.mem_filter.mpr ⟨List.mem_append_right _ (List.mem_append_right _ (List.mem_append_left _ (List.mem_of_getElem? (l := tables_1_2) (i := 140) (by decide +kernel)))), by decide +kernel⟩
set_option maxRecDepth 20000 in
theorem wmt1_3 : (.initialized RX4 : Cond) ∈ zw := List.mem_filter.mpr ⟨List.mem_append_right _ (List.mem_append_left _ (List.mem_of_getElem? (l := tables_1_1) (i := 3) (by decide +kernel))), by decide +kernel⟩
set_option maxRecDepth 20000 in
theorem wmt2_121 : (.code yX6_dayOfView cX6_dayOfView 1 (some .int) : Cond) ∈ zw := List.mem_filter.mpr ⟨List.mem_append_right _ (List.mem_append_right _ (List.mem_append_left _ (List.mem_of_getElem? (l := tables_1_2) (i := 121) (by decide +kernel)))), by decide +kernel⟩
set_option maxRecDepth 20000 in
theorem wmt2_118 : (.methodLink RX6 160 yX6_dayOfView : Cond) ∈ zw := List.mem_filter.mpr ⟨List.mem_append_right _ (List.mem_append_right _ (List.mem_append_left _ (List.mem_of_getElem? (l := tables_1_2) (i := 118) (by decide +kernel)))), by decide +kernel⟩
set_option maxRecDepth 20000 in
theorem wmt2_120 : (.instanceMethod yX6_dayOfView : Cond) ∈ zw := List.mem_filter.mpr ⟨List.mem_append_right _ (List.mem_append_right _ (List.mem_append_left _ (List.mem_of_getElem? (l := tables_1_2) (i := 120) (by decide +kernel)))), by decide +kernel⟩
set_option maxRecDepth 20000 in
theorem wmp1_8 : (.selects RX6 yX6_dayOfView yX6_dayOfView : Cond) ∈ zw := List.mem_filter.mpr ⟨List.mem_of_getElem? (l := lw_tbl) (i := 8) (by decide +kernel), by decide +kernel⟩
set_option maxRecDepth 20000 in
theorem wmt1_173 : (.fieldLink RX6 28 "SecretLots" "answers" "LSecretLots$Answers;" : Cond) ∈ zw := List.mem_filter.mpr ⟨List.mem_append_right _ (List.mem_append_left _ (List.mem_of_getElem? (l := tables_1_1) (i := 173) (by decide +kernel))), by decide +kernel⟩
set_option maxRecDepth 20000 in
theorem wmt1_47 : (.fieldLink RX6 287 "SecretLots$Answers" "size" "I" : Cond) ∈ zw := List.mem_filter.mpr ⟨List.mem_append_right _ (List.mem_append_left _ (List.mem_of_getElem? (l := tables_1_1) (i := 47) (by decide +kernel))), by decide +kernel⟩
set_option maxRecDepth 20000 in
theorem wmt1_31 : (.fieldLink RX6 148 "SecretLots$Answers" "people" "[I" : Cond) ∈ zw := List.mem_filter.mpr ⟨List.mem_append_right _ (List.mem_append_left _ (List.mem_of_getElem? (l := tables_1_1) (i := 31) (by decide +kernel))), by decide +kernel⟩
set_option maxRecDepth 20000 in
theorem wmt1_33 : (.fieldLink RX6 151 "SecretLots$Answers" "byDesign" "[I" : Cond) ∈ zw := List.mem_filter.mpr ⟨List.mem_append_right _ (List.mem_append_left _ (List.mem_of_getElem? (l := tables_1_1) (i := 33) (by decide +kernel))), by decide +kernel⟩
set_option maxRecDepth 20000 in
theorem wmt1_172 : (.fieldLink RX6 21 "SecretLots" "groups" "[I" : Cond) ∈ zw := List.mem_filter.mpr ⟨List.mem_append_right _ (List.mem_append_left _ (List.mem_of_getElem? (l := tables_1_1) (i := 172) (by decide +kernel))), by decide +kernel⟩
set_option maxRecDepth 20000 in
theorem wmt2_122 : (.methodLink RX6 164 yX0_isKnown : Cond) ∈ zw := List.mem_filter.mpr ⟨List.mem_append_right _ (List.mem_append_right _ (List.mem_append_left _ (List.mem_of_getElem? (l := tables_1_2) (i := 122) (by decide +kernel)))), by decide +kernel⟩
set_option maxRecDepth 20000 in
theorem wmt1_35 : (.fieldLink RX6 154 "SecretLots$Answers" "saidYes" "[I" : Cond) ∈ zw := List.mem_filter.mpr ⟨List.mem_append_right _ (List.mem_append_left _ (List.mem_of_getElem? (l := tables_1_1) (i := 35) (by decide +kernel))), by decide +kernel⟩
set_option maxRecDepth 20000 in
theorem wmt2_145 : (.code yX4_hear cX4_hear 4 none : Cond) ∈ zw := List.mem_filter.mpr ⟨List.mem_append_right _ (List.mem_append_right _ (List.mem_append_left _ (List.mem_of_getElem? (l := tables_1_2) (i := 145) (by decide +kernel)))), by decide +kernel⟩
set_option maxRecDepth 20000 in
theorem wmt2_142 : (.methodLink RX6 330 yX4_hear : Cond) ∈ zw := List.mem_filter.mpr ⟨List.mem_append_right _ (List.mem_append_right _ (List.mem_append_left _ (List.mem_of_getElem? (l := tables_1_2) (i := 142) (by decide +kernel)))), by decide +kernel⟩
set_option maxRecDepth 20000 in
theorem wmt2_143 : (.instanceMethod yX4_hear : Cond) ∈ zw := List.mem_filter.mpr ⟨List.mem_append_right _ (List.mem_append_right _ (List.mem_append_left _ (List.mem_of_getElem? (l := tables_1_2) (i := 143) (by decide +kernel)))), by decide +kernel⟩
set_option maxRecDepth 20000 in
theorem wmt2_144 : (.selects RX4 yX4_hear yX4_hear : Cond) ∈ zw := List.mem_filter.mpr ⟨List.mem_append_right _ (List.mem_append_right _ (List.mem_append_left _ (List.mem_of_getElem? (l := tables_1_2) (i := 144) (by decide +kernel)))), by decide +kernel⟩
set_option maxRecDepth 20000 in
theorem wmt2_82 : (.code yX6_isGroup cX6_isGroup 1 (some .boolean) : Cond) ∈ zw := List.mem_filter.mpr ⟨List.mem_append_right _ (List.mem_append_right _ (List.mem_append_left _ (List.mem_of_getElem? (l := tables_1_2) (i := 82) (by decide +kernel)))), by decide +kernel⟩
set_option maxRecDepth 20000 in
theorem wmt2_80 : (.methodLink RX6 121 yX6_isGroup : Cond) ∈ zw := List.mem_filter.mpr ⟨List.mem_append_right _ (List.mem_append_right _ (List.mem_append_left _ (List.mem_of_getElem? (l := tables_1_2) (i := 80) (by decide +kernel)))), by decide +kernel⟩
set_option maxRecDepth 20000 in
theorem wmt2_81 : (.static yX6_isGroup : Cond) ∈ zw := List.mem_filter.mpr ⟨List.mem_append_right _ (List.mem_append_right _ (List.mem_append_left _ (List.mem_of_getElem? (l := tables_1_2) (i := 81) (by decide +kernel)))), by decide +kernel⟩
set_option maxRecDepth 20000 in
theorem wmt2_50 : (.code yX6_isEither cX6_isEither 1 (some .boolean) : Cond) ∈ zw := List.mem_filter.mpr ⟨List.mem_append_right _ (List.mem_append_right _ (List.mem_append_left _ (List.mem_of_getElem? (l := tables_1_2) (i := 50) (by decide +kernel)))), by decide +kernel⟩
set_option maxRecDepth 20000 in
theorem wmt2_48 : (.methodLink RX6 91 yX6_isEither : Cond) ∈ zw := List.mem_filter.mpr ⟨List.mem_append_right _ (List.mem_append_right _ (List.mem_append_left _ (List.mem_of_getElem? (l := tables_1_2) (i := 48) (by decide +kernel)))), by decide +kernel⟩
set_option maxRecDepth 20000 in
theorem wmt2_49 : (.static yX6_isEither : Cond) ∈ zw := List.mem_filter.mpr ⟨List.mem_append_right _ (List.mem_append_right _ (List.mem_append_left _ (List.mem_of_getElem? (l := tables_1_2) (i := 49) (by decide +kernel)))), by decide +kernel⟩
set_option maxRecDepth 20000 in
theorem wmt2_137 : (.code yX6_takePoll cX6_takePoll 6 none : Cond) ∈ zw := List.mem_filter.mpr ⟨List.mem_append_right _ (List.mem_append_right _ (List.mem_append_left _ (List.mem_of_getElem? (l := tables_1_2) (i := 137) (by decide +kernel)))), by decide +kernel⟩
set_option maxRecDepth 20000 in
theorem wmt2_134 : (.methodLink RX6 168 yX6_takePoll : Cond) ∈ zw := List.mem_filter.mpr ⟨List.mem_append_right _ (List.mem_append_right _ (List.mem_append_left _ (List.mem_of_getElem? (l := tables_1_2) (i := 134) (by decide +kernel)))), by decide +kernel⟩
set_option maxRecDepth 20000 in
theorem wmt2_136 : (.instanceMethod yX6_takePoll : Cond) ∈ zw := List.mem_filter.mpr ⟨List.mem_append_right _ (List.mem_append_right _ (List.mem_append_left _ (List.mem_of_getElem? (l := tables_1_2) (i := 136) (by decide +kernel)))), by decide +kernel⟩
set_option maxRecDepth 20000 in
theorem wmp1_9 : (.selects RX6 yX6_takePoll yX6_takePoll : Cond) ∈ zw := List.mem_filter.mpr ⟨List.mem_of_getElem? (l := lw_tbl) (i := 9) (by decide +kernel), by decide +kernel⟩
set_option maxRecDepth 20000 in
theorem wmt1_78 : (.fieldLink RX6 174 "SecretLots$Poll" "yes" "I" : Cond) ∈ zw := List.mem_filter.mpr ⟨List.mem_append_right _ (List.mem_append_left _ (List.mem_of_getElem? (l := tables_1_1) (i := 78) (by decide +kernel))), by decide +kernel⟩
set_option maxRecDepth 20000 in
theorem wmt1_76 : (.fieldLink RX6 172 "SecretLots$Poll" "people" "I" : Cond) ∈ zw := List.mem_filter.mpr ⟨List.mem_append_right _ (List.mem_append_left _ (List.mem_of_getElem? (l := tables_1_1) (i := 76) (by decide +kernel))), by decide +kernel⟩
set_option maxRecDepth 20000 in
theorem wmt2_157 : (.code yX1_tells cX1_tells 1 (some .boolean) : Cond) ∈ zw := List.mem_filter.mpr ⟨List.mem_append_right _ (List.mem_append_right _ (List.mem_append_left _ (List.mem_of_getElem? (l := tables_1_2) (i := 157) (by decide +kernel)))), by decide +kernel⟩
set_option maxRecDepth 20000 in
theorem wmt2_154 : (.methodLink RX6 249 yX1_tells : Cond) ∈ zw := List.mem_filter.mpr ⟨List.mem_append_right _ (List.mem_append_right _ (List.mem_append_left _ (List.mem_of_getElem? (l := tables_1_2) (i := 154) (by decide +kernel)))), by decide +kernel⟩
set_option maxRecDepth 20000 in
theorem wmt2_155 : (.instanceMethod yX1_tells : Cond) ∈ zw := List.mem_filter.mpr ⟨List.mem_append_right _ (List.mem_append_right _ (List.mem_append_left _ (List.mem_of_getElem? (l := tables_1_2) (i := 155) (by decide +kernel)))), by decide +kernel⟩
set_option maxRecDepth 20000 in
theorem wmt2_156 : (.selects RX1 yX1_tells yX1_tells : Cond) ∈ zw := List.mem_filter.mpr ⟨List.mem_append_right _ (List.mem_append_right _ (List.mem_append_left _ (List.mem_of_getElem? (l := tables_1_2) (i := 156) (by decide +kernel)))), by decide +kernel⟩
set_option maxRecDepth 20000 in
theorem wmt2_177 : (.code yX1_isWide cX1_isWide 1 (some .boolean) : Cond) ∈ zw := List.mem_filter.mpr ⟨List.mem_append_right _ (List.mem_append_right _ (List.mem_append_left _ (List.mem_of_getElem? (l := tables_1_2) (i := 177) (by decide +kernel)))), by decide +kernel⟩
set_option maxRecDepth 20000 in
theorem wmt2_174 : (.methodLink RX6 325 yX1_isWide : Cond) ∈ zw := List.mem_filter.mpr ⟨List.mem_append_right _ (List.mem_append_right _ (List.mem_append_left _ (List.mem_of_getElem? (l := tables_1_2) (i := 174) (by decide +kernel)))), by decide +kernel⟩
set_option maxRecDepth 20000 in
theorem wmt2_175 : (.instanceMethod yX1_isWide : Cond) ∈ zw := List.mem_filter.mpr ⟨List.mem_append_right _ (List.mem_append_right _ (List.mem_append_left _ (List.mem_of_getElem? (l := tables_1_2) (i := 175) (by decide +kernel)))), by decide +kernel⟩
set_option maxRecDepth 20000 in
theorem wmt2_176 : (.selects RX1 yX1_isWide yX1_isWide : Cond) ∈ zw := List.mem_filter.mpr ⟨List.mem_append_right _ (List.mem_append_right _ (List.mem_append_left _ (List.mem_of_getElem? (l := tables_1_2) (i := 176) (by decide +kernel)))), by decide +kernel⟩
set_option maxRecDepth 20000 in
theorem wmt1_175 : (.fieldLink RX6 42 "SecretLots" "lots" "LSecretLots$Lots;" : Cond) ∈ zw := List.mem_filter.mpr ⟨List.mem_append_right _ (List.mem_append_left _ (List.mem_of_getElem? (l := tables_1_1) (i := 175) (by decide +kernel))), by decide +kernel⟩
set_option maxRecDepth 20000 in
theorem wmt2_185 : (.code yX3_fall cX3_fall 7 none : Cond) ∈ zw := List.mem_filter.mpr ⟨List.mem_append_right _ (List.mem_append_right _ (List.mem_append_left _ (List.mem_of_getElem? (l := tables_1_2) (i := 185) (by decide +kernel)))), by decide +kernel⟩
set_option maxRecDepth 20000 in
theorem wmt2_182 : (.methodLink RX6 198 yX3_fall : Cond) ∈ zw := List.mem_filter.mpr ⟨List.mem_append_right _ (List.mem_append_right _ (List.mem_append_left _ (List.mem_of_getElem? (l := tables_1_2) (i := 182) (by decide +kernel)))), by decide +kernel⟩
set_option maxRecDepth 20000 in
theorem wmt2_183 : (.instanceMethod yX3_fall : Cond) ∈ zw := List.mem_filter.mpr ⟨List.mem_append_right _ (List.mem_append_right _ (List.mem_append_left _ (List.mem_of_getElem? (l := tables_1_2) (i := 183) (by decide +kernel)))), by decide +kernel⟩
set_option maxRecDepth 20000 in
theorem wmt2_184 : (.selects RX3 yX3_fall yX3_fall : Cond) ∈ zw := List.mem_filter.mpr ⟨List.mem_append_right _ (List.mem_append_right _ (List.mem_append_left _ (List.mem_of_getElem? (l := tables_1_2) (i := 184) (by decide +kernel)))), by decide +kernel⟩
set_option maxRecDepth 20000 in
theorem wmt2_202 : (.code yX3_among cX3_among 6 (some .long) : Cond) ∈ zw := List.mem_filter.mpr ⟨List.mem_append_right _ (List.mem_append_right _ (List.mem_append_left _ (List.mem_of_getElem? (l := tables_1_2) (i := 202) (by decide +kernel)))), by decide +kernel⟩
set_option maxRecDepth 20000 in
theorem wmt2_199 : (.methodLink RX6 202 yX3_among : Cond) ∈ zw := List.mem_filter.mpr ⟨List.mem_append_right _ (List.mem_append_right _ (List.mem_append_left _ (List.mem_of_getElem? (l := tables_1_2) (i := 199) (by decide +kernel)))), by decide +kernel⟩
set_option maxRecDepth 20000 in
theorem wmt2_200 : (.instanceMethod yX3_among : Cond) ∈ zw := List.mem_filter.mpr ⟨List.mem_append_right _ (List.mem_append_right _ (List.mem_append_left _ (List.mem_of_getElem? (l := tables_1_2) (i := 200) (by decide +kernel)))), by decide +kernel⟩
set_option maxRecDepth 20000 in
theorem wmt2_201 : (.selects RX3 yX3_among yX3_among : Cond) ∈ zw := List.mem_filter.mpr ⟨List.mem_append_right _ (List.mem_append_right _ (List.mem_append_left _ (List.mem_of_getElem? (l := tables_1_2) (i := 201) (by decide +kernel)))), by decide +kernel⟩
set_option maxRecDepth 20000 in
theorem wmt2_181 : (.code yX6_waysOf cX6_waysOf 3 (some .long) : Cond) ∈ zw := List.mem_filter.mpr ⟨List.mem_append_right _ (List.mem_append_right _ (List.mem_append_left _ (List.mem_of_getElem? (l := tables_1_2) (i := 181) (by decide +kernel)))), by decide +kernel⟩
set_option maxRecDepth 20000 in
theorem wmt2_178 : (.methodLink RX6 188 yX6_waysOf : Cond) ∈ zw := List.mem_filter.mpr ⟨List.mem_append_right _ (List.mem_append_right _ (List.mem_append_left _ (List.mem_of_getElem? (l := tables_1_2) (i := 178) (by decide +kernel)))), by decide +kernel⟩
set_option maxRecDepth 20000 in
theorem wmt2_180 : (.instanceMethod yX6_waysOf : Cond) ∈ zw := List.mem_filter.mpr ⟨List.mem_append_right _ (List.mem_append_right _ (List.mem_append_left _ (List.mem_of_getElem? (l := tables_1_2) (i := 180) (by decide +kernel)))), by decide +kernel⟩
set_option maxRecDepth 20000 in
theorem wmp1_12 : (.selects RX6 yX6_waysOf yX6_waysOf : Cond) ∈ zw := List.mem_filter.mpr ⟨List.mem_of_getElem? (l := lw_tbl) (i := 12) (by decide +kernel), by decide +kernel⟩
set_option maxRecDepth 20000 in
theorem wmt2_173 : (.code yX6_lotsRefusal cX6_lotsRefusal 5 (some .int) : Cond) ∈ zw := List.mem_filter.mpr ⟨List.mem_append_right _ (List.mem_append_right _ (List.mem_append_left _ (List.mem_of_getElem? (l := tables_1_2) (i := 173) (by decide +kernel)))), by decide +kernel⟩
set_option maxRecDepth 20000 in
theorem wmt2_170 : (.methodLink RX6 184 yX6_lotsRefusal : Cond) ∈ zw := List.mem_filter.mpr ⟨List.mem_append_right _ (List.mem_append_right _ (List.mem_append_left _ (List.mem_of_getElem? (l := tables_1_2) (i := 170) (by decide +kernel)))), by decide +kernel⟩
set_option maxRecDepth 20000 in
theorem wmt2_172 : (.instanceMethod yX6_lotsRefusal : Cond) ∈ zw := List.mem_filter.mpr ⟨List.mem_append_right _ (List.mem_append_right _ (List.mem_append_left _ (List.mem_of_getElem? (l := tables_1_2) (i := 172) (by decide +kernel)))), by decide +kernel⟩
set_option maxRecDepth 20000 in
theorem wmp1_11 : (.selects RX6 yX6_lotsRefusal yX6_lotsRefusal : Cond) ∈ zw := List.mem_filter.mpr ⟨List.mem_of_getElem? (l := lw_tbl) (i := 11) (by decide +kernel), by decide +kernel⟩
set_option maxRecDepth 20000 in
theorem wmt2_213 : (.code yX6_mostLikely cX6_mostLikely 8 (some .int) : Cond) ∈ zw := List.mem_filter.mpr ⟨List.mem_append_right _ (List.mem_append_right _ (List.mem_append_left _ (List.mem_of_getElem? (l := tables_1_2) (i := 213) (by decide +kernel)))), by decide +kernel⟩
set_option maxRecDepth 20000 in
theorem wmt2_210 : (.methodLink RX6 192 yX6_mostLikely : Cond) ∈ zw := List.mem_filter.mpr ⟨List.mem_append_right _ (List.mem_append_right _ (List.mem_append_left _ (List.mem_of_getElem? (l := tables_1_2) (i := 210) (by decide +kernel)))), by decide +kernel⟩
set_option maxRecDepth 20000 in
theorem wmt2_212 : (.instanceMethod yX6_mostLikely : Cond) ∈ zw := List.mem_filter.mpr ⟨List.mem_append_right _ (List.mem_append_right _ (List.mem_append_left _ (List.mem_of_getElem? (l := tables_1_2) (i := 212) (by decide +kernel)))), by decide +kernel⟩
set_option maxRecDepth 20000 in
theorem wmp1_14 : (.selects RX6 yX6_mostLikely yX6_mostLikely : Cond) ∈ zw := List.mem_filter.mpr ⟨List.mem_of_getElem? (l := lw_tbl) (i := 14) (by decide +kernel), by decide +kernel⟩
set_option maxRecDepth 20000 in
theorem wmt2_53 : (.code yX6_asLong cX6_asLong 1 (some .long) : Cond) ∈ zw := List.mem_filter.mpr ⟨List.mem_append_right _ (List.mem_append_right _ (List.mem_append_left _ (List.mem_of_getElem? (l := tables_1_2) (i := 53) (by decide +kernel)))), by decide +kernel⟩
set_option maxRecDepth 20000 in
theorem wmt2_51 : (.methodLink RX6 94 yX6_asLong : Cond) ∈ zw := List.mem_filter.mpr ⟨List.mem_append_right _ (List.mem_append_right _ (List.mem_append_left _ (List.mem_of_getElem? (l := tables_1_2) (i := 51) (by decide +kernel)))), by decide +kernel⟩
set_option maxRecDepth 20000 in
theorem wmt2_52 : (.static yX6_asLong : Cond) ∈ zw := List.mem_filter.mpr ⟨List.mem_append_right _ (List.mem_append_right _ (List.mem_append_left _ (List.mem_of_getElem? (l := tables_1_2) (i := 52) (by decide +kernel)))), by decide +kernel⟩
set_option maxRecDepth 20000 in
theorem wmt2_218 : (.constantLong RX6 196 (100) : Cond) ∈ zw := List.mem_filter.mpr ⟨List.mem_append_right _ (List.mem_append_right _ (List.mem_append_left _ (List.mem_of_getElem? (l := tables_1_2) (i := 218) (by decide +kernel)))), by decide +kernel⟩
set_option maxRecDepth 20000 in
theorem wmt2_225 : (.code yX6_millionths cX6_millionths 9 (some .int) : Cond) ∈ zw := List.mem_filter.mpr ⟨List.mem_append_right _ (List.mem_append_right _ (List.mem_append_left _ (List.mem_of_getElem? (l := tables_1_2) (i := 225) (by decide +kernel)))), by decide +kernel⟩
set_option maxRecDepth 20000 in
theorem wmt2_223 : (.methodLink RX6 206 yX6_millionths : Cond) ∈ zw := List.mem_filter.mpr ⟨List.mem_append_right _ (List.mem_append_right _ (List.mem_append_left _ (List.mem_of_getElem? (l := tables_1_2) (i := 223) (by decide +kernel)))), by decide +kernel⟩
set_option maxRecDepth 20000 in
theorem wmt2_224 : (.static yX6_millionths : Cond) ∈ zw := List.mem_filter.mpr ⟨List.mem_append_right _ (List.mem_append_right _ (List.mem_append_left _ (List.mem_of_getElem? (l := tables_1_2) (i := 224) (by decide +kernel)))), by decide +kernel⟩
set_option maxRecDepth 20000 in
theorem wmt2_153 : (.code yX6_estimateRefusal cX6_estimateRefusal 6 (some .int) : Cond) ∈ zw := List.mem_filter.mpr ⟨List.mem_append_right _ (List.mem_append_right _ (List.mem_append_left _ (List.mem_of_getElem? (l := tables_1_2) (i := 153) (by decide +kernel)))), by decide +kernel⟩
set_option maxRecDepth 20000 in
theorem wmt2_150 : (.methodLink RX6 177 yX6_estimateRefusal : Cond) ∈ zw := List.mem_filter.mpr ⟨List.mem_append_right _ (List.mem_append_right _ (List.mem_append_left _ (List.mem_of_getElem? (l := tables_1_2) (i := 150) (by decide +kernel)))), by decide +kernel⟩
set_option maxRecDepth 20000 in
theorem wmt2_152 : (.instanceMethod yX6_estimateRefusal : Cond) ∈ zw := List.mem_filter.mpr ⟨List.mem_append_right _ (List.mem_append_right _ (List.mem_append_left _ (List.mem_of_getElem? (l := tables_1_2) (i := 152) (by decide +kernel)))), by decide +kernel⟩
set_option maxRecDepth 20000 in
theorem wmp1_10 : (.selects RX6 yX6_estimateRefusal yX6_estimateRefusal : Cond) ∈ zw := List.mem_filter.mpr ⟨List.mem_of_getElem? (l := lw_tbl) (i := 10) (by decide +kernel), by decide +kernel⟩
set_option maxRecDepth 20000 in
theorem wmt2_161 : (.code yX1_difference cX1_difference 1 (some .long) : Cond) ∈ zw := List.mem_filter.mpr ⟨List.mem_append_right _ (List.mem_append_right _ (List.mem_append_left _ (List.mem_of_getElem? (l := tables_1_2) (i := 161) (by decide +kernel)))), by decide +kernel⟩
set_option maxRecDepth 20000 in
theorem wmt2_158 : (.methodLink RX6 180 yX1_difference : Cond) ∈ zw := List.mem_filter.mpr ⟨List.mem_append_right _ (List.mem_append_right _ (List.mem_append_left _ (List.mem_of_getElem? (l := tables_1_2) (i := 158) (by decide +kernel)))), by decide +kernel⟩
set_option maxRecDepth 20000 in
theorem wmt2_159 : (.instanceMethod yX1_difference : Cond) ∈ zw := List.mem_filter.mpr ⟨List.mem_append_right _ (List.mem_append_right _ (List.mem_append_left _ (List.mem_of_getElem? (l := tables_1_2) (i := 159) (by decide +kernel)))), by decide +kernel⟩
set_option maxRecDepth 20000 in
theorem wmt2_160 : (.selects RX1 yX1_difference yX1_difference : Cond) ∈ zw := List.mem_filter.mpr ⟨List.mem_append_right _ (List.mem_append_right _ (List.mem_append_left _ (List.mem_of_getElem? (l := tables_1_2) (i := 160) (by decide +kernel)))), by decide +kernel⟩
set_option maxRecDepth 20000 in
theorem wmt1_129 : (.fieldLink RX6 105 "SecretLots$Design" "yesIfHasNot" "I" : Cond) ∈ zw := List.mem_filter.mpr ⟨List.mem_append_right _ (List.mem_append_left _ (List.mem_of_getElem? (l := tables_1_1) (i := 129) (by decide +kernel))), by decide +kernel⟩
set_option maxRecDepth 20000 in
theorem wmt2_59 : (.code yX2_become cX2_become 7 none : Cond) ∈ zw := List.mem_filter.mpr ⟨List.mem_append_right _ (List.mem_append_right _ (List.mem_append_left _ (List.mem_of_getElem? (l := tables_1_2) (i := 59) (by decide +kernel)))), by decide +kernel⟩
set_option maxRecDepth 20000 in
theorem wmt2_56 : (.methodLink RX6 111 yX2_become : Cond) ∈ zw := List.mem_filter.mpr ⟨List.mem_append_right _ (List.mem_append_right _ (List.mem_append_left _ (List.mem_of_getElem? (l := tables_1_2) (i := 56) (by decide +kernel)))), by decide +kernel⟩
set_option maxRecDepth 20000 in
theorem wmt2_57 : (.instanceMethod yX2_become : Cond) ∈ zw := List.mem_filter.mpr ⟨List.mem_append_right _ (List.mem_append_right _ (List.mem_append_left _ (List.mem_of_getElem? (l := tables_1_2) (i := 57) (by decide +kernel)))), by decide +kernel⟩
set_option maxRecDepth 20000 in
theorem wmt2_58 : (.selects RX2 yX2_become yX2_become : Cond) ∈ zw := List.mem_filter.mpr ⟨List.mem_append_right _ (List.mem_append_right _ (List.mem_append_left _ (List.mem_of_getElem? (l := tables_1_2) (i := 58) (by decide +kernel)))), by decide +kernel⟩
set_option maxRecDepth 20000 in
theorem wmt2_64 : (.code yX2_told cX2_told 2 (some .long) : Cond) ∈ zw := List.mem_filter.mpr ⟨List.mem_append_right _ (List.mem_append_right _ (List.mem_append_left _ (List.mem_of_getElem? (l := tables_1_2) (i := 64) (by decide +kernel)))), by decide +kernel⟩
set_option maxRecDepth 20000 in
theorem wmt2_61 : (.methodLink RX6 115 yX2_told : Cond) ∈ zw := List.mem_filter.mpr ⟨List.mem_append_right _ (List.mem_append_right _ (List.mem_append_left _ (List.mem_of_getElem? (l := tables_1_2) (i := 61) (by decide +kernel)))), by decide +kernel⟩
set_option maxRecDepth 20000 in
theorem wmt2_62 : (.instanceMethod yX2_told : Cond) ∈ zw := List.mem_filter.mpr ⟨List.mem_append_right _ (List.mem_append_right _ (List.mem_append_left _ (List.mem_of_getElem? (l := tables_1_2) (i := 62) (by decide +kernel)))), by decide +kernel⟩
set_option maxRecDepth 20000 in
theorem wmt2_63 : (.selects RX2 yX2_told yX2_told : Cond) ∈ zw := List.mem_filter.mpr ⟨List.mem_append_right _ (List.mem_append_right _ (List.mem_append_left _ (List.mem_of_getElem? (l := tables_1_2) (i := 63) (by decide +kernel)))), by decide +kernel⟩
set_option maxRecDepth 20000 in
theorem wmt1_127 : (.fieldLink RX6 102 "SecretLots$Design" "yesIfHas" "I" : Cond) ∈ zw := List.mem_filter.mpr ⟨List.mem_append_right _ (List.mem_append_left _ (List.mem_of_getElem? (l := tables_1_1) (i := 127) (by decide +kernel))), by decide +kernel⟩
set_option maxRecDepth 20000 in
theorem wmt2_231 : (.methodLink RX6 210 yX1_lotsIfHasNot : Cond) ∈ zw := List.mem_filter.mpr ⟨List.mem_append_right _ (List.mem_append_right _ (List.mem_append_left _ (List.mem_of_getElem? (l := tables_1_2) (i := 231) (by decide +kernel)))), by decide +kernel⟩
set_option maxRecDepth 20000 in
theorem wmt2_232 : (.methodLink RX6 213 yX1_lotsIfHas : Cond) ∈ zw := List.mem_filter.mpr ⟨List.mem_append_right _ (List.mem_append_right _ (List.mem_append_left _ (List.mem_of_getElem? (l := tables_1_2) (i := 232) (by decide +kernel)))), by decide +kernel⟩
set_option maxRecDepth 20000 in
theorem wmt3_33 : (.code yX1_isOpen cX1_isOpen 1 (some .boolean) : Cond) ∈ zw := List.mem_filter.mpr ⟨List.mem_append_right _ (List.mem_append_right _ (List.mem_append_right _ (List.mem_append_left _ (List.mem_of_getElem? (l := tables_1_3) (i := 33) (by decide +kernel))))), by decide +kernel⟩
set_option maxRecDepth 20000 in
theorem wmt3_30 : (.methodLink RX6 226 yX1_isOpen : Cond) ∈ zw := List.mem_filter.mpr ⟨List.mem_append_right _ (List.mem_append_right _ (List.mem_append_right _ (List.mem_append_left _ (List.mem_of_getElem? (l := tables_1_3) (i := 30) (by decide +kernel))))), by decide +kernel⟩
set_option maxRecDepth 20000 in
theorem wmt3_31 : (.instanceMethod yX1_isOpen : Cond) ∈ zw := List.mem_filter.mpr ⟨List.mem_append_right _ (List.mem_append_right _ (List.mem_append_right _ (List.mem_append_left _ (List.mem_of_getElem? (l := tables_1_3) (i := 31) (by decide +kernel))))), by decide +kernel⟩
set_option maxRecDepth 20000 in
theorem wmt3_32 : (.selects RX1 yX1_isOpen yX1_isOpen : Cond) ∈ zw := List.mem_filter.mpr ⟨List.mem_append_right _ (List.mem_append_right _ (List.mem_append_right _ (List.mem_append_left _ (List.mem_of_getElem? (l := tables_1_3) (i := 32) (by decide +kernel))))), by decide +kernel⟩
set_option maxRecDepth 20000 in
theorem wmt3_34 : (.methodLink RX6 229 Lib.Math.max.name : Cond) ∈ zw := List.mem_filter.mpr ⟨List.mem_append_right _ (List.mem_append_right _ (List.mem_append_right _ (List.mem_append_left _ (List.mem_of_getElem? (l := tables_1_3) (i := 34) (by decide +kernel))))), by decide +kernel⟩
set_option maxRecDepth 20000 in
theorem wmt3_35 : (.methodLink RX6 235 Lib.Math.min.name : Cond) ∈ zw := List.mem_filter.mpr ⟨List.mem_append_right _ (List.mem_append_right _ (List.mem_append_right _ (List.mem_append_left _ (List.mem_of_getElem? (l := tables_1_3) (i := 35) (by decide +kernel))))), by decide +kernel⟩
set_option maxRecDepth 20000 in
theorem wmt3_36 : (.static Lib.Math.min.name : Cond) ∈ zw := List.mem_filter.mpr ⟨List.mem_append_right _ (List.mem_append_right _ (List.mem_append_right _ (List.mem_append_left _ (List.mem_of_getElem? (l := tables_1_3) (i := 36) (by decide +kernel))))), by decide +kernel⟩
set_option maxRecDepth 20000 in
theorem wmt3_37 : (.code Lib.Math.min.name Lib.Math.min.code 2 (some .int) : Cond) ∈ zw := List.mem_filter.mpr ⟨List.mem_append_right _ (List.mem_append_right _ (List.mem_append_right _ (List.mem_append_left _ (List.mem_of_getElem? (l := tables_1_3) (i := 37) (by decide +kernel))))), by decide +kernel⟩
set_option maxRecDepth 20000 in
theorem wmt1_217 : (.code yX1_append cX1_append 2 (some .boolean) : Cond) ∈ zw := List.mem_filter.mpr ⟨List.mem_append_right _ (List.mem_append_left _ (List.mem_of_getElem? (l := tables_1_1) (i := 217) (by decide +kernel))), by decide +kernel⟩
set_option maxRecDepth 20000 in
theorem wmt1_214 : (.methodLink RX6 75 yX1_append : Cond) ∈ zw := List.mem_filter.mpr ⟨List.mem_append_right _ (List.mem_append_left _ (List.mem_of_getElem? (l := tables_1_1) (i := 214) (by decide +kernel))), by decide +kernel⟩
set_option maxRecDepth 20000 in
theorem wmt1_215 : (.instanceMethod yX1_append : Cond) ∈ zw := List.mem_filter.mpr ⟨List.mem_append_right _ (List.mem_append_left _ (List.mem_of_getElem? (l := tables_1_1) (i := 215) (by decide +kernel))), by decide +kernel⟩
set_option maxRecDepth 20000 in
theorem wmt1_216 : (.selects RX1 yX1_append yX1_append : Cond) ∈ zw := List.mem_filter.mpr ⟨List.mem_append_right _ (List.mem_append_left _ (List.mem_of_getElem? (l := tables_1_1) (i := 216) (by decide +kernel))), by decide +kernel⟩
set_option maxRecDepth 20000 in
theorem wmt1_179 : (.fieldLink RX6 60 "SecretLots" "othersYes" "I" : Cond) ∈ zw := List.mem_filter.mpr ⟨List.mem_append_right _ (List.mem_append_left _ (List.mem_of_getElem? (l := tables_1_1) (i := 179) (by decide +kernel))), by decide +kernel⟩
set_option maxRecDepth 20000 in
theorem wmt1_221 : (.code yX1_settle cX1_settle 2 none : Cond) ∈ zw := List.mem_filter.mpr ⟨List.mem_append_right _ (List.mem_append_left _ (List.mem_of_getElem? (l := tables_1_1) (i := 221) (by decide +kernel))), by decide +kernel⟩
set_option maxRecDepth 20000 in
theorem wmt1_218 : (.methodLink RX6 78 yX1_settle : Cond) ∈ zw := List.mem_filter.mpr ⟨List.mem_append_right _ (List.mem_append_left _ (List.mem_of_getElem? (l := tables_1_1) (i := 218) (by decide +kernel))), by decide +kernel⟩
set_option maxRecDepth 20000 in
theorem wmt1_219 : (.instanceMethod yX1_settle : Cond) ∈ zw := List.mem_filter.mpr ⟨List.mem_append_right _ (List.mem_append_left _ (List.mem_of_getElem? (l := tables_1_1) (i := 219) (by decide +kernel))), by decide +kernel⟩
set_option maxRecDepth 20000 in
theorem wmt1_220 : (.selects RX1 yX1_settle yX1_settle : Cond) ∈ zw := List.mem_filter.mpr ⟨List.mem_append_right _ (List.mem_append_left _ (List.mem_of_getElem? (l := tables_1_1) (i := 220) (by decide +kernel))), by decide +kernel⟩
set_option maxRecDepth 20000 in
theorem wmt1_123 : (.fieldLink RX6 82 "SecretLots$Design" "size" "I" : Cond) ∈ zw := List.mem_filter.mpr ⟨List.mem_append_right _ (List.mem_append_left _ (List.mem_of_getElem? (l := tables_1_1) (i := 123) (by decide +kernel))), by decide +kernel⟩
set_option maxRecDepth 20000 in
theorem wmt2_35 : (.code yX1_empty cX1_empty 1 none : Cond) ∈ zw := List.mem_filter.mpr ⟨List.mem_append_right _ (List.mem_append_right _ (List.mem_append_left _ (List.mem_of_getElem? (l := tables_1_2) (i := 35) (by decide +kernel)))), by decide +kernel⟩
set_option maxRecDepth 20000 in
theorem wmt2_32 : (.methodLink RX6 85 yX1_empty : Cond) ∈ zw := List.mem_filter.mpr ⟨List.mem_append_right _ (List.mem_append_right _ (List.mem_append_left _ (List.mem_of_getElem? (l := tables_1_2) (i := 32) (by decide +kernel)))), by decide +kernel⟩
set_option maxRecDepth 20000 in
theorem wmt2_33 : (.instanceMethod yX1_empty : Cond) ∈ zw := List.mem_filter.mpr ⟨List.mem_append_right _ (List.mem_append_right _ (List.mem_append_left _ (List.mem_of_getElem? (l := tables_1_2) (i := 33) (by decide +kernel)))), by decide +kernel⟩
set_option maxRecDepth 20000 in
theorem wmt2_34 : (.selects RX1 yX1_empty yX1_empty : Cond) ∈ zw := List.mem_filter.mpr ⟨List.mem_append_right _ (List.mem_append_right _ (List.mem_append_left _ (List.mem_of_getElem? (l := tables_1_2) (i := 34) (by decide +kernel)))), by decide +kernel⟩
set_option maxRecDepth 20000 in
theorem wmt2_79 : (.code yX6_isPerson cX6_isPerson 1 (some .boolean) : Cond) ∈ zw := List.mem_filter.mpr ⟨List.mem_append_right _ (List.mem_append_right _ (List.mem_append_left _ (List.mem_of_getElem? (l := tables_1_2) (i := 79) (by decide +kernel)))), by decide +kernel⟩
set_option maxRecDepth 20000 in
theorem wmt2_77 : (.methodLink RX6 118 yX6_isPerson : Cond) ∈ zw := List.mem_filter.mpr ⟨List.mem_append_right _ (List.mem_append_right _ (List.mem_append_left _ (List.mem_of_getElem? (l := tables_1_2) (i := 77) (by decide +kernel)))), by decide +kernel⟩
set_option maxRecDepth 20000 in
theorem wmt2_78 : (.static yX6_isPerson : Cond) ∈ zw := List.mem_filter.mpr ⟨List.mem_append_right _ (List.mem_append_right _ (List.mem_append_left _ (List.mem_of_getElem? (l := tables_1_2) (i := 78) (by decide +kernel)))), by decide +kernel⟩
set_option maxRecDepth 20000 in
theorem wmt2_90 : (.code yX0_tell cX0_tell 5 (some .int) : Cond) ∈ zw := List.mem_filter.mpr ⟨List.mem_append_right _ (List.mem_append_right _ (List.mem_append_left _ (List.mem_of_getElem? (l := tables_1_2) (i := 90) (by decide +kernel)))), by decide +kernel⟩
set_option maxRecDepth 20000 in
theorem wmt2_87 : (.methodLink RX6 124 yX0_tell : Cond) ∈ zw := List.mem_filter.mpr ⟨List.mem_append_right _ (List.mem_append_right _ (List.mem_append_left _ (List.mem_of_getElem? (l := tables_1_2) (i := 87) (by decide +kernel)))), by decide +kernel⟩
set_option maxRecDepth 20000 in
theorem wmt2_88 : (.instanceMethod yX0_tell : Cond) ∈ zw := List.mem_filter.mpr ⟨List.mem_append_right _ (List.mem_append_right _ (List.mem_append_left _ (List.mem_of_getElem? (l := tables_1_2) (i := 88) (by decide +kernel)))), by decide +kernel⟩
set_option maxRecDepth 20000 in
theorem wmt2_89 : (.selects RX0 yX0_tell yX0_tell : Cond) ∈ zw := List.mem_filter.mpr ⟨List.mem_append_right _ (List.mem_append_right _ (List.mem_append_left _ (List.mem_of_getElem? (l := tables_1_2) (i := 89) (by decide +kernel)))), by decide +kernel⟩
set_option maxRecDepth 20000 in
theorem wmt2_97 : (.code yX6_isSheet cX6_isSheet 1 (some .boolean) : Cond) ∈ zw := List.mem_filter.mpr ⟨List.mem_append_right _ (List.mem_append_right _ (List.mem_append_left _ (List.mem_of_getElem? (l := tables_1_2) (i := 97) (by decide +kernel)))), by decide +kernel⟩
set_option maxRecDepth 20000 in
theorem wmt2_95 : (.methodLink RX6 128 yX6_isSheet : Cond) ∈ zw := List.mem_filter.mpr ⟨List.mem_append_right _ (List.mem_append_right _ (List.mem_append_left _ (List.mem_of_getElem? (l := tables_1_2) (i := 95) (by decide +kernel)))), by decide +kernel⟩
set_option maxRecDepth 20000 in
theorem wmt2_96 : (.static yX6_isSheet : Cond) ∈ zw := List.mem_filter.mpr ⟨List.mem_append_right _ (List.mem_append_right _ (List.mem_append_left _ (List.mem_of_getElem? (l := tables_1_2) (i := 96) (by decide +kernel)))), by decide +kernel⟩
set_option maxRecDepth 20000 in
theorem wmt1_171 : (.fieldLink RX6 17 "SecretLots" "sheets" "[LSecretLots$Sheet;" : Cond) ∈ zw := List.mem_filter.mpr ⟨List.mem_append_right _ (List.mem_append_left _ (List.mem_of_getElem? (l := tables_1_1) (i := 171) (by decide +kernel))), by decide +kernel⟩
set_option maxRecDepth 20000 in
theorem wmt2_101 : (.code yX5_isLost cX5_isLost 1 (some .boolean) : Cond) ∈ zw := List.mem_filter.mpr ⟨List.mem_append_right _ (List.mem_append_right _ (List.mem_append_left _ (List.mem_of_getElem? (l := tables_1_2) (i := 101) (by decide +kernel)))), by decide +kernel⟩
set_option maxRecDepth 20000 in
theorem wmt2_98 : (.methodLink RX6 131 yX5_isLost : Cond) ∈ zw := List.mem_filter.mpr ⟨List.mem_append_right _ (List.mem_append_right _ (List.mem_append_left _ (List.mem_of_getElem? (l := tables_1_2) (i := 98) (by decide +kernel)))), by decide +kernel⟩
set_option maxRecDepth 20000 in
theorem wmt2_99 : (.instanceMethod yX5_isLost : Cond) ∈ zw := List.mem_filter.mpr ⟨List.mem_append_right _ (List.mem_append_right _ (List.mem_append_left _ (List.mem_of_getElem? (l := tables_1_2) (i := 99) (by decide +kernel)))), by decide +kernel⟩
set_option maxRecDepth 20000 in
theorem wmt2_100 : (.selects RX5 yX5_isLost yX5_isLost : Cond) ∈ zw := List.mem_filter.mpr ⟨List.mem_append_right _ (List.mem_append_right _ (List.mem_append_left _ (List.mem_of_getElem? (l := tables_1_2) (i := 100) (by decide +kernel)))), by decide +kernel⟩
set_option maxRecDepth 20000 in
theorem wmt1_7 : (.initialized RX5 : Cond) ∈ zw := List.mem_filter.mpr ⟨List.mem_append_right _ (List.mem_append_left _ (List.mem_of_getElem? (l := tables_1_1) (i := 7) (by decide +kernel))), by decide +kernel⟩
set_option maxRecDepth 20000 in
theorem wmt2_105 : (.code yX6_found cX6_found 2 (some .int) : Cond) ∈ zw := List.mem_filter.mpr ⟨List.mem_append_right _ (List.mem_append_right _ (List.mem_append_left _ (List.mem_of_getElem? (l := tables_1_2) (i := 105) (by decide +kernel)))), by decide +kernel⟩
set_option maxRecDepth 20000 in
theorem wmt2_102 : (.methodLink RX6 134 yX6_found : Cond) ∈ zw := List.mem_filter.mpr ⟨List.mem_append_right _ (List.mem_append_right _ (List.mem_append_left _ (List.mem_of_getElem? (l := tables_1_2) (i := 102) (by decide +kernel)))), by decide +kernel⟩
set_option maxRecDepth 20000 in
theorem wmt2_104 : (.instanceMethod yX6_found : Cond) ∈ zw := List.mem_filter.mpr ⟨List.mem_append_right _ (List.mem_append_right _ (List.mem_append_left _ (List.mem_of_getElem? (l := tables_1_2) (i := 104) (by decide +kernel)))), by decide +kernel⟩
set_option maxRecDepth 20000 in
theorem wmp1_7 : (.selects RX6 yX6_found yX6_found : Cond) ∈ zw := List.mem_filter.mpr ⟨List.mem_of_getElem? (l := lw_tbl) (i := 7) (by decide +kernel), by decide +kernel⟩
set_option maxRecDepth 20000 in
theorem wmt1_162 : (.fieldLink RX6 138 "SecretLots$Sheet" "size" "I" : Cond) ∈ zw := List.mem_filter.mpr ⟨List.mem_append_right _ (List.mem_append_left _ (List.mem_of_getElem? (l := tables_1_1) (i := 162) (by decide +kernel))), by decide +kernel⟩
set_option maxRecDepth 20000 in
theorem wmt1_158 : (.fieldLink RX6 139 "SecretLots$Sheet" "items" "[I" : Cond) ∈ zw := List.mem_filter.mpr ⟨List.mem_append_right _ (List.mem_append_left _ (List.mem_of_getElem? (l := tables_1_1) (i := 158) (by decide +kernel))), by decide +kernel⟩
set_option maxRecDepth 20000 in
theorem wmt2_113 : (.code yX0_isThere cX0_isThere 2 (some .boolean) : Cond) ∈ zw := List.mem_filter.mpr ⟨List.mem_append_right _ (List.mem_append_right _ (List.mem_append_left _ (List.mem_of_getElem? (l := tables_1_2) (i := 113) (by decide +kernel)))), by decide +kernel⟩
set_option maxRecDepth 20000 in
theorem wmt2_110 : (.methodLink RX6 142 yX0_isThere : Cond) ∈ zw := List.mem_filter.mpr ⟨List.mem_append_right _ (List.mem_append_right _ (List.mem_append_left _ (List.mem_of_getElem? (l := tables_1_2) (i := 110) (by decide +kernel)))), by decide +kernel⟩
set_option maxRecDepth 20000 in
theorem wmt2_111 : (.instanceMethod yX0_isThere : Cond) ∈ zw := List.mem_filter.mpr ⟨List.mem_append_right _ (List.mem_append_right _ (List.mem_append_left _ (List.mem_of_getElem? (l := tables_1_2) (i := 111) (by decide +kernel)))), by decide +kernel⟩
set_option maxRecDepth 20000 in
theorem wmt2_112 : (.selects RX0 yX0_isThere yX0_isThere : Cond) ∈ zw := List.mem_filter.mpr ⟨List.mem_append_right _ (List.mem_append_right _ (List.mem_append_left _ (List.mem_of_getElem? (l := tables_1_2) (i := 112) (by decide +kernel)))), by decide +kernel⟩
set_option maxRecDepth 20000 in
theorem wmt1_39 : (.fieldLink RX6 145 "SecretLots$Answers" "takenOn" "[I" : Cond) ∈ zw := List.mem_filter.mpr ⟨List.mem_append_right _ (List.mem_append_left _ (List.mem_of_getElem? (l := tables_1_1) (i := 39) (by decide +kernel))), by decide +kernel⟩
set_option maxRecDepth 20000 in
theorem wmt1_37 : (.fieldLink RX6 157 "SecretLots$Answers" "toldOn" "[I" : Cond) ∈ zw := List.mem_filter.mpr ⟨List.mem_append_right _ (List.mem_append_left _ (List.mem_of_getElem? (l := tables_1_1) (i := 37) (by decide +kernel))), by decide +kernel⟩
set_option maxRecDepth 20000 in
theorem wmt3_143 : (.code yX0_knownOnes cX0_knownOnes 5 (some .int) : Cond) ∈ zw := List.mem_filter.mpr ⟨List.mem_append_right _ (List.mem_append_right _ (List.mem_append_right _ (List.mem_append_left _ (List.mem_of_getElem? (l := tables_1_3) (i := 143) (by decide +kernel))))), by decide +kernel⟩
set_option maxRecDepth 20000 in
theorem wmt3_140 : (.methodLink RX6 288 yX0_knownOnes : Cond) ∈ zw := List.mem_filter.mpr ⟨List.mem_append_right _ (List.mem_append_right _ (List.mem_append_right _ (List.mem_append_left _ (List.mem_of_getElem? (l := tables_1_3) (i := 140) (by decide +kernel))))), by decide +kernel⟩
set_option maxRecDepth 20000 in
theorem wmt3_141 : (.instanceMethod yX0_knownOnes : Cond) ∈ zw := List.mem_filter.mpr ⟨List.mem_append_right _ (List.mem_append_right _ (List.mem_append_right _ (List.mem_append_left _ (List.mem_of_getElem? (l := tables_1_3) (i := 141) (by decide +kernel))))), by decide +kernel⟩
set_option maxRecDepth 20000 in
theorem wmt3_142 : (.selects RX0 yX0_knownOnes yX0_knownOnes : Cond) ∈ zw := List.mem_filter.mpr ⟨List.mem_append_right _ (List.mem_append_right _ (List.mem_append_right _ (List.mem_append_left _ (List.mem_of_getElem? (l := tables_1_3) (i := 142) (by decide +kernel))))), by decide +kernel⟩
set_option maxRecDepth 20000 in
theorem wmt3_147 : (.code yX6_bytesOfDesigns cX6_bytesOfDesigns 3 (some .int) : Cond) ∈ zw := List.mem_filter.mpr ⟨List.mem_append_right _ (List.mem_append_right _ (List.mem_append_right _ (List.mem_append_left _ (List.mem_of_getElem? (l := tables_1_3) (i := 147) (by decide +kernel))))), by decide +kernel⟩
set_option maxRecDepth 20000 in
theorem wmt3_144 : (.methodLink RX6 292 yX6_bytesOfDesigns : Cond) ∈ zw := List.mem_filter.mpr ⟨List.mem_append_right _ (List.mem_append_right _ (List.mem_append_right _ (List.mem_append_left _ (List.mem_of_getElem? (l := tables_1_3) (i := 144) (by decide +kernel))))), by decide +kernel⟩
set_option maxRecDepth 20000 in
theorem wmt3_146 : (.instanceMethod yX6_bytesOfDesigns : Cond) ∈ zw := List.mem_filter.mpr ⟨List.mem_append_right _ (List.mem_append_right _ (List.mem_append_right _ (List.mem_append_left _ (List.mem_of_getElem? (l := tables_1_3) (i := 146) (by decide +kernel))))), by decide +kernel⟩
set_option maxRecDepth 20000 in
theorem wmp2_5 : (.selects RX6 yX6_bytesOfDesigns yX6_bytesOfDesigns : Cond) ∈ zw := List.mem_filter.mpr ⟨List.mem_of_getElem? (l := lw_tbl) (i := 21) (by decide +kernel), by decide +kernel⟩
set_option maxRecDepth 20000 in
theorem wmt1_45 : (.fieldLink RX6 341 "SecretLots$Answers" "pickedSize" "I" : Cond) ∈ zw := List.mem_filter.mpr ⟨List.mem_append_right _ (List.mem_append_left _ (List.mem_of_getElem? (l := tables_1_1) (i := 45) (by decide +kernel))), by decide +kernel⟩
set_option maxRecDepth 20000 in
theorem wmt1_43 : (.fieldLink RX6 344 "SecretLots$Answers" "picked" "[I" : Cond) ∈ zw := List.mem_filter.mpr ⟨List.mem_append_right _ (List.mem_append_left _ (List.mem_of_getElem? (l := tables_1_1) (i := 43) (by decide +kernel))), by decide +kernel⟩
set_option maxRecDepth 20000 in
theorem wmt3_4 : (.code yX0_pick cX0_pick 5 none : Cond) ∈ zw := List.mem_filter.mpr ⟨List.mem_append_right _ (List.mem_append_right _ (List.mem_append_right _ (List.mem_append_left _ (List.mem_of_getElem? (l := tables_1_3) (i := 4) (by decide +kernel))))), by decide +kernel⟩
set_option maxRecDepth 20000 in
theorem wmt3_1 : (.methodLink RX6 335 yX0_pick : Cond) ∈ zw := List.mem_filter.mpr ⟨List.mem_append_right _ (List.mem_append_right _ (List.mem_append_right _ (List.mem_append_left _ (List.mem_of_getElem? (l := tables_1_3) (i := 1) (by decide +kernel))))), by decide +kernel⟩
set_option maxRecDepth 20000 in
theorem wmt3_2 : (.instanceMethod yX0_pick : Cond) ∈ zw := List.mem_filter.mpr ⟨List.mem_append_right _ (List.mem_append_right _ (List.mem_append_right _ (List.mem_append_left _ (List.mem_of_getElem? (l := tables_1_3) (i := 2) (by decide +kernel))))), by decide +kernel⟩
set_option maxRecDepth 20000 in
theorem wmt3_3 : (.selects RX0 yX0_pick yX0_pick : Cond) ∈ zw := List.mem_filter.mpr ⟨List.mem_append_right _ (List.mem_append_right _ (List.mem_append_right _ (List.mem_append_left _ (List.mem_of_getElem? (l := tables_1_3) (i := 3) (by decide +kernel))))), by decide +kernel⟩
set_option maxRecDepth 20000 in
theorem wmt3_12 : (.code yX6_pickedRefusal cX6_pickedRefusal 5 (some .int) : Cond) ∈ zw := List.mem_filter.mpr ⟨List.mem_append_right _ (List.mem_append_right _ (List.mem_append_right _ (List.mem_append_left _ (List.mem_of_getElem? (l := tables_1_3) (i := 12) (by decide +kernel))))), by decide +kernel⟩
set_option maxRecDepth 20000 in
theorem wmt3_9 : (.methodLink RX6 338 yX6_pickedRefusal : Cond) ∈ zw := List.mem_filter.mpr ⟨List.mem_append_right _ (List.mem_append_right _ (List.mem_append_right _ (List.mem_append_left _ (List.mem_of_getElem? (l := tables_1_3) (i := 9) (by decide +kernel))))), by decide +kernel⟩
set_option maxRecDepth 20000 in
theorem wmt3_11 : (.instanceMethod yX6_pickedRefusal : Cond) ∈ zw := List.mem_filter.mpr ⟨List.mem_append_right _ (List.mem_append_right _ (List.mem_append_right _ (List.mem_append_left _ (List.mem_of_getElem? (l := tables_1_3) (i := 11) (by decide +kernel))))), by decide +kernel⟩
set_option maxRecDepth 20000 in
theorem wmp2_0 : (.selects RX6 yX6_pickedRefusal yX6_pickedRefusal : Cond) ∈ zw := List.mem_filter.mpr ⟨List.mem_of_getElem? (l := lw_tbl) (i := 16) (by decide +kernel), by decide +kernel⟩
set_option maxRecDepth 20000 in
theorem wmt3_16 : (.code yX6_multiplyByAnswer cX6_multiplyByAnswer 3 none : Cond) ∈ zw := List.mem_filter.mpr ⟨List.mem_append_right _ (List.mem_append_right _ (List.mem_append_right _ (List.mem_append_left _ (List.mem_of_getElem? (l := tables_1_3) (i := 16) (by decide +kernel))))), by decide +kernel⟩
set_option maxRecDepth 20000 in
theorem wmt3_13 : (.methodLink RX6 347 yX6_multiplyByAnswer : Cond) ∈ zw := List.mem_filter.mpr ⟨List.mem_append_right _ (List.mem_append_right _ (List.mem_append_right _ (List.mem_append_left _ (List.mem_of_getElem? (l := tables_1_3) (i := 13) (by decide +kernel))))), by decide +kernel⟩
set_option maxRecDepth 20000 in
theorem wmt3_15 : (.instanceMethod yX6_multiplyByAnswer : Cond) ∈ zw := List.mem_filter.mpr ⟨List.mem_append_right _ (List.mem_append_right _ (List.mem_append_right _ (List.mem_append_left _ (List.mem_of_getElem? (l := tables_1_3) (i := 15) (by decide +kernel))))), by decide +kernel⟩
set_option maxRecDepth 20000 in
theorem wmp2_1 : (.selects RX6 yX6_multiplyByAnswer yX6_multiplyByAnswer : Cond) ∈ zw := List.mem_filter.mpr ⟨List.mem_of_getElem? (l := lw_tbl) (i := 17) (by decide +kernel), by decide +kernel⟩
set_option maxRecDepth 20000 in
theorem wmt3_0 : (.code yX6_multiplyGivenAway cX6_multiplyGivenAway 5 (some .int) : Cond) ∈ zw := List.mem_filter.mpr ⟨List.mem_append_right _ (List.mem_append_right _ (List.mem_append_right _ (List.mem_append_left _ (List.mem_of_getElem? (l := tables_1_3) (i := 0) (by decide +kernel))))), by decide +kernel⟩
set_option maxRecDepth 20000 in
theorem wmt2_237 : (.methodLink RX6 216 yX6_multiplyGivenAway : Cond) ∈ zw := List.mem_filter.mpr ⟨List.mem_append_right _ (List.mem_append_right _ (List.mem_append_left _ (List.mem_of_getElem? (l := tables_1_2) (i := 237) (by decide +kernel)))), by decide +kernel⟩
set_option maxRecDepth 20000 in
theorem wmt2_239 : (.instanceMethod yX6_multiplyGivenAway : Cond) ∈ zw := List.mem_filter.mpr ⟨List.mem_append_right _ (List.mem_append_right _ (List.mem_append_left _ (List.mem_of_getElem? (l := tables_1_2) (i := 239) (by decide +kernel)))), by decide +kernel⟩
set_option maxRecDepth 20000 in
theorem wmp1_15 : (.selects RX6 yX6_multiplyGivenAway yX6_multiplyGivenAway : Cond) ∈ zw := List.mem_filter.mpr ⟨List.mem_of_getElem? (l := lw_tbl) (i := 15) (by decide +kernel), by decide +kernel⟩
set_option maxRecDepth 20000 in
theorem wmt1_41 : (.fieldLink RX6 357 "SecretLots$Answers" "pickedBy" "[I" : Cond) ∈ zw := List.mem_filter.mpr ⟨List.mem_append_right _ (List.mem_append_left _ (List.mem_of_getElem? (l := tables_1_1) (i := 41) (by decide +kernel))), by decide +kernel⟩
set_option maxRecDepth 20000 in
theorem wmt3_53 : (.code yX6_isWithinLimit cX6_isWithinLimit 1 (some .boolean) : Cond) ∈ zw := List.mem_filter.mpr ⟨List.mem_append_right _ (List.mem_append_right _ (List.mem_append_right _ (List.mem_append_left _ (List.mem_of_getElem? (l := tables_1_3) (i := 53) (by decide +kernel))))), by decide +kernel⟩
set_option maxRecDepth 20000 in
theorem wmt3_50 : (.methodLink RX6 360 yX6_isWithinLimit : Cond) ∈ zw := List.mem_filter.mpr ⟨List.mem_append_right _ (List.mem_append_right _ (List.mem_append_right _ (List.mem_append_left _ (List.mem_of_getElem? (l := tables_1_3) (i := 50) (by decide +kernel))))), by decide +kernel⟩
set_option maxRecDepth 20000 in
theorem wmt3_52 : (.instanceMethod yX6_isWithinLimit : Cond) ∈ zw := List.mem_filter.mpr ⟨List.mem_append_right _ (List.mem_append_right _ (List.mem_append_right _ (List.mem_append_left _ (List.mem_of_getElem? (l := tables_1_3) (i := 52) (by decide +kernel))))), by decide +kernel⟩
set_option maxRecDepth 20000 in
theorem wmp2_3 : (.selects RX6 yX6_isWithinLimit yX6_isWithinLimit : Cond) ∈ zw := List.mem_filter.mpr ⟨List.mem_of_getElem? (l := lw_tbl) (i := 19) (by decide +kernel), by decide +kernel⟩
set_option maxRecDepth 20000 in
theorem wmt3_49 : (.code yX6_mayBeAsked cX6_mayBeAsked 11 (some .boolean) : Cond) ∈ zw := List.mem_filter.mpr ⟨List.mem_append_right _ (List.mem_append_right _ (List.mem_append_right _ (List.mem_append_left _ (List.mem_of_getElem? (l := tables_1_3) (i := 49) (by decide +kernel))))), by decide +kernel⟩
set_option maxRecDepth 20000 in
theorem wmt3_46 : (.methodLink RX6 238 yX6_mayBeAsked : Cond) ∈ zw := List.mem_filter.mpr ⟨List.mem_append_right _ (List.mem_append_right _ (List.mem_append_right _ (List.mem_append_left _ (List.mem_of_getElem? (l := tables_1_3) (i := 46) (by decide +kernel))))), by decide +kernel⟩
set_option maxRecDepth 20000 in
theorem wmt3_48 : (.instanceMethod yX6_mayBeAsked : Cond) ∈ zw := List.mem_filter.mpr ⟨List.mem_append_right _ (List.mem_append_right _ (List.mem_append_right _ (List.mem_append_left _ (List.mem_of_getElem? (l := tables_1_3) (i := 48) (by decide +kernel))))), by decide +kernel⟩
set_option maxRecDepth 20000 in
theorem wmp2_2 : (.selects RX6 yX6_mayBeAsked yX6_mayBeAsked : Cond) ∈ zw := List.mem_filter.mpr ⟨List.mem_of_getElem? (l := lw_tbl) (i := 18) (by decide +kernel), by decide +kernel⟩
set_option maxRecDepth 20000 in
theorem wmt1_160 : (.fieldLink RX6 275 "SecretLots$Sheet" "kind" "I" : Cond) ∈ zw := List.mem_filter.mpr ⟨List.mem_append_right _ (List.mem_append_left _ (List.mem_of_getElem? (l := tables_1_1) (i := 160) (by decide +kernel))), by decide +kernel⟩
set_option maxRecDepth 20000 in
theorem wmt3_115 : (.code yX5_hasItems cX5_hasItems 3 (some .boolean) : Cond) ∈ zw := List.mem_filter.mpr ⟨List.mem_append_right _ (List.mem_append_right _ (List.mem_append_right _ (List.mem_append_left _ (List.mem_of_getElem? (l := tables_1_3) (i := 115) (by decide +kernel))))), by decide +kernel⟩
set_option maxRecDepth 20000 in
theorem wmt3_112 : (.methodLink RX6 278 yX5_hasItems : Cond) ∈ zw := List.mem_filter.mpr ⟨List.mem_append_right _ (List.mem_append_right _ (List.mem_append_right _ (List.mem_append_left _ (List.mem_of_getElem? (l := tables_1_3) (i := 112) (by decide +kernel))))), by decide +kernel⟩
set_option maxRecDepth 20000 in
theorem wmt3_113 : (.instanceMethod yX5_hasItems : Cond) ∈ zw := List.mem_filter.mpr ⟨List.mem_append_right _ (List.mem_append_right _ (List.mem_append_right _ (List.mem_append_left _ (List.mem_of_getElem? (l := tables_1_3) (i := 113) (by decide +kernel))))), by decide +kernel⟩
set_option maxRecDepth 20000 in
theorem wmt3_114 : (.selects RX5 yX5_hasItems yX5_hasItems : Cond) ∈ zw := List.mem_filter.mpr ⟨List.mem_append_right _ (List.mem_append_right _ (List.mem_append_right _ (List.mem_append_left _ (List.mem_of_getElem? (l := tables_1_3) (i := 114) (by decide +kernel))))), by decide +kernel⟩
set_option maxRecDepth 20000 in
theorem wmt3_72 : (.constantLong RX6 368 (-1) : Cond) ∈ zw := List.mem_filter.mpr ⟨List.mem_append_right _ (List.mem_append_right _ (List.mem_append_right _ (List.mem_append_left _ (List.mem_of_getElem? (l := tables_1_3) (i := 72) (by decide +kernel))))), by decide +kernel⟩
set_option maxRecDepth 20000 in
theorem wmt3_80 : (.code yX1_weight cX1_weight 3 (some .long) : Cond) ∈ zw := List.mem_filter.mpr ⟨List.mem_append_right _ (List.mem_append_right _ (List.mem_append_right _ (List.mem_append_left _ (List.mem_of_getElem? (l := tables_1_3) (i := 80) (by decide +kernel))))), by decide +kernel⟩
set_option maxRecDepth 20000 in
theorem wmt3_77 : (.methodLink RX6 370 yX1_weight : Cond) ∈ zw := List.mem_filter.mpr ⟨List.mem_append_right _ (List.mem_append_right _ (List.mem_append_right _ (List.mem_append_left _ (List.mem_of_getElem? (l := tables_1_3) (i := 77) (by decide +kernel))))), by decide +kernel⟩
set_option maxRecDepth 20000 in
theorem wmt3_78 : (.instanceMethod yX1_weight : Cond) ∈ zw := List.mem_filter.mpr ⟨List.mem_append_right _ (List.mem_append_right _ (List.mem_append_right _ (List.mem_append_left _ (List.mem_of_getElem? (l := tables_1_3) (i := 78) (by decide +kernel))))), by decide +kernel⟩
set_option maxRecDepth 20000 in
theorem wmt3_79 : (.selects RX1 yX1_weight yX1_weight : Cond) ∈ zw := List.mem_filter.mpr ⟨List.mem_append_right _ (List.mem_append_right _ (List.mem_append_right _ (List.mem_append_left _ (List.mem_of_getElem? (l := tables_1_3) (i := 79) (by decide +kernel))))), by decide +kernel⟩
set_option maxRecDepth 20000 in
theorem wmt3_71 : (.code yX6_peopleCounted cX6_peopleCounted 5 (some .long) : Cond) ∈ zw := List.mem_filter.mpr ⟨List.mem_append_right _ (List.mem_append_right _ (List.mem_append_right _ (List.mem_append_left _ (List.mem_of_getElem? (l := tables_1_3) (i := 71) (by decide +kernel))))), by decide +kernel⟩
set_option maxRecDepth 20000 in
theorem wmt3_69 : (.methodLink RX6 245 yX6_peopleCounted : Cond) ∈ zw := List.mem_filter.mpr ⟨List.mem_append_right _ (List.mem_append_right _ (List.mem_append_right _ (List.mem_append_left _ (List.mem_of_getElem? (l := tables_1_3) (i := 69) (by decide +kernel))))), by decide +kernel⟩
set_option maxRecDepth 20000 in
theorem wmt3_70 : (.static yX6_peopleCounted : Cond) ∈ zw := List.mem_filter.mpr ⟨List.mem_append_right _ (List.mem_append_right _ (List.mem_append_right _ (List.mem_append_left _ (List.mem_of_getElem? (l := tables_1_3) (i := 70) (by decide +kernel))))), by decide +kernel⟩
set_option maxRecDepth 20000 in
theorem wmt3_76 : (.code yX6_part cX6_part 14 none : Cond) ∈ zw := List.mem_filter.mpr ⟨List.mem_append_right _ (List.mem_append_right _ (List.mem_append_right _ (List.mem_append_left _ (List.mem_of_getElem? (l := tables_1_3) (i := 76) (by decide +kernel))))), by decide +kernel⟩
set_option maxRecDepth 20000 in
theorem wmt3_73 : (.methodLink RX6 252 yX6_part : Cond) ∈ zw := List.mem_filter.mpr ⟨List.mem_append_right _ (List.mem_append_right _ (List.mem_append_right _ (List.mem_append_left _ (List.mem_of_getElem? (l := tables_1_3) (i := 73) (by decide +kernel))))), by decide +kernel⟩
set_option maxRecDepth 20000 in
theorem wmt3_75 : (.instanceMethod yX6_part : Cond) ∈ zw := List.mem_filter.mpr ⟨List.mem_append_right _ (List.mem_append_right _ (List.mem_append_right _ (List.mem_append_left _ (List.mem_of_getElem? (l := tables_1_3) (i := 75) (by decide +kernel))))), by decide +kernel⟩
set_option maxRecDepth 20000 in
theorem wmp2_4 : (.selects RX6 yX6_part yX6_part : Cond) ∈ zw := List.mem_filter.mpr ⟨List.mem_of_getElem? (l := lw_tbl) (i := 20) (by decide +kernel), by decide +kernel⟩
set_option maxRecDepth 20000 in
theorem wmt3_91 : (.code yX6_isType cX6_isType 1 (some .boolean) : Cond) ∈ zw := List.mem_filter.mpr ⟨List.mem_append_right _ (List.mem_append_right _ (List.mem_append_right _ (List.mem_append_left _ (List.mem_of_getElem? (l := tables_1_3) (i := 91) (by decide +kernel))))), by decide +kernel⟩
set_option maxRecDepth 20000 in
theorem wmt3_89 : (.methodLink RX6 256 yX6_isType : Cond) ∈ zw := List.mem_filter.mpr ⟨List.mem_append_right _ (List.mem_append_right _ (List.mem_append_right _ (List.mem_append_left _ (List.mem_of_getElem? (l := tables_1_3) (i := 89) (by decide +kernel))))), by decide +kernel⟩
set_option maxRecDepth 20000 in
theorem wmt3_90 : (.static yX6_isType : Cond) ∈ zw := List.mem_filter.mpr ⟨List.mem_append_right _ (List.mem_append_right _ (List.mem_append_right _ (List.mem_append_left _ (List.mem_of_getElem? (l := tables_1_3) (i := 90) (by decide +kernel))))), by decide +kernel⟩
set_option maxRecDepth 20000 in
theorem wmt3_95 : (.code yX5_begin cX5_begin 3 none : Cond) ∈ zw := List.mem_filter.mpr ⟨List.mem_append_right _ (List.mem_append_right _ (List.mem_append_right _ (List.mem_append_left _ (List.mem_of_getElem? (l := tables_1_3) (i := 95) (by decide +kernel))))), by decide +kernel⟩
set_option maxRecDepth 20000 in
theorem wmt3_92 : (.methodLink RX6 259 yX5_begin : Cond) ∈ zw := List.mem_filter.mpr ⟨List.mem_append_right _ (List.mem_append_right _ (List.mem_append_right _ (List.mem_append_left _ (List.mem_of_getElem? (l := tables_1_3) (i := 92) (by decide +kernel))))), by decide +kernel⟩
set_option maxRecDepth 20000 in
theorem wmt3_93 : (.instanceMethod yX5_begin : Cond) ∈ zw := List.mem_filter.mpr ⟨List.mem_append_right _ (List.mem_append_right _ (List.mem_append_right _ (List.mem_append_left _ (List.mem_of_getElem? (l := tables_1_3) (i := 93) (by decide +kernel))))), by decide +kernel⟩
set_option maxRecDepth 20000 in
theorem wmt3_94 : (.selects RX5 yX5_begin yX5_begin : Cond) ∈ zw := List.mem_filter.mpr ⟨List.mem_append_right _ (List.mem_append_right _ (List.mem_append_right _ (List.mem_append_left _ (List.mem_of_getElem? (l := tables_1_3) (i := 94) (by decide +kernel))))), by decide +kernel⟩
set_option maxRecDepth 20000 in
theorem wmt3_104 : (.code yX5_drop cX5_drop 2 (some .int) : Cond) ∈ zw := List.mem_filter.mpr ⟨List.mem_append_right _ (List.mem_append_right _ (List.mem_append_right _ (List.mem_append_left _ (List.mem_of_getElem? (l := tables_1_3) (i := 104) (by decide +kernel))))), by decide +kernel⟩
set_option maxRecDepth 20000 in
theorem wmt3_101 : (.methodLink RX6 262 yX5_drop : Cond) ∈ zw := List.mem_filter.mpr ⟨List.mem_append_right _ (List.mem_append_right _ (List.mem_append_right _ (List.mem_append_left _ (List.mem_of_getElem? (l := tables_1_3) (i := 101) (by decide +kernel))))), by decide +kernel⟩
set_option maxRecDepth 20000 in
theorem wmt3_102 : (.instanceMethod yX5_drop : Cond) ∈ zw := List.mem_filter.mpr ⟨List.mem_append_right _ (List.mem_append_right _ (List.mem_append_right _ (List.mem_append_left _ (List.mem_of_getElem? (l := tables_1_3) (i := 102) (by decide +kernel))))), by decide +kernel⟩
set_option maxRecDepth 20000 in
theorem wmt3_103 : (.selects RX5 yX5_drop yX5_drop : Cond) ∈ zw := List.mem_filter.mpr ⟨List.mem_append_right _ (List.mem_append_right _ (List.mem_append_right _ (List.mem_append_left _ (List.mem_of_getElem? (l := tables_1_3) (i := 103) (by decide +kernel))))), by decide +kernel⟩
set_option maxRecDepth 20000 in
theorem wmt3_111 : (.code yX6_itemFinding cX6_itemFinding 3 (some .int) : Cond) ∈ zw := List.mem_filter.mpr ⟨List.mem_append_right _ (List.mem_append_right _ (List.mem_append_right _ (List.mem_append_left _ (List.mem_of_getElem? (l := tables_1_3) (i := 111) (by decide +kernel))))), by decide +kernel⟩
set_option maxRecDepth 20000 in
theorem wmt3_109 : (.methodLink RX6 265 yX6_itemFinding : Cond) ∈ zw := List.mem_filter.mpr ⟨List.mem_append_right _ (List.mem_append_right _ (List.mem_append_right _ (List.mem_append_left _ (List.mem_of_getElem? (l := tables_1_3) (i := 109) (by decide +kernel))))), by decide +kernel⟩
set_option maxRecDepth 20000 in
theorem wmt3_110 : (.static yX6_itemFinding : Cond) ∈ zw := List.mem_filter.mpr ⟨List.mem_append_right _ (List.mem_append_right _ (List.mem_append_right _ (List.mem_append_left _ (List.mem_of_getElem? (l := tables_1_3) (i := 110) (by decide +kernel))))), by decide +kernel⟩
set_option maxRecDepth 20000 in
theorem wmt3_119 : (.code yX5_keep cX5_keep 3 none : Cond) ∈ zw := List.mem_filter.mpr ⟨List.mem_append_right _ (List.mem_append_right _ (List.mem_append_right _ (List.mem_append_left _ (List.mem_of_getElem? (l := tables_1_3) (i := 119) (by decide +kernel))))), by decide +kernel⟩
set_option maxRecDepth 20000 in
theorem wmt3_116 : (.methodLink RX6 269 yX5_keep : Cond) ∈ zw := List.mem_filter.mpr ⟨List.mem_append_right _ (List.mem_append_right _ (List.mem_append_right _ (List.mem_append_left _ (List.mem_of_getElem? (l := tables_1_3) (i := 116) (by decide +kernel))))), by decide +kernel⟩
set_option maxRecDepth 20000 in
theorem wmt3_117 : (.instanceMethod yX5_keep : Cond) ∈ zw := List.mem_filter.mpr ⟨List.mem_append_right _ (List.mem_append_right _ (List.mem_append_right _ (List.mem_append_left _ (List.mem_of_getElem? (l := tables_1_3) (i := 117) (by decide +kernel))))), by decide +kernel⟩
set_option maxRecDepth 20000 in
theorem wmt3_118 : (.selects RX5 yX5_keep yX5_keep : Cond) ∈ zw := List.mem_filter.mpr ⟨List.mem_append_right _ (List.mem_append_right _ (List.mem_append_right _ (List.mem_append_left _ (List.mem_of_getElem? (l := tables_1_3) (i := 118) (by decide +kernel))))), by decide +kernel⟩
set_option maxRecDepth 20000 in
theorem wmt3_124 : (.constant RX6 274 (-2147483648) : Cond) ∈ zw := List.mem_filter.mpr ⟨List.mem_append_right _ (List.mem_append_right _ (List.mem_append_right _ (List.mem_append_left _ (List.mem_of_getElem? (l := tables_1_3) (i := 124) (by decide +kernel))))), by decide +kernel⟩
set_option maxRecDepth 20000 in
theorem wmt3_129 : (.methodLink RX6 281 arraycopyName : Cond) ∈ zw := List.mem_filter.mpr ⟨List.mem_append_right _ (List.mem_append_right _ (List.mem_append_right _ (List.mem_append_left _ (List.mem_of_getElem? (l := tables_1_3) (i := 129) (by decide +kernel))))), by decide +kernel⟩
set_option maxRecDepth 20000 in
theorem wmt3_131 : (.native arraycopyName : Cond) ∈ zw := List.mem_filter.mpr ⟨List.mem_append_right _ (List.mem_append_right _ (List.mem_append_right _ (List.mem_append_left _ (List.mem_of_getElem? (l := tables_1_3) (i := 131) (by decide +kernel))))), by decide +kernel⟩
set_option maxRecDepth 20000 in
theorem wmt3_130 : (.static arraycopyName : Cond) ∈ zw := List.mem_filter.mpr ⟨List.mem_append_right _ (List.mem_append_right _ (List.mem_append_right _ (List.mem_append_left _ (List.mem_of_getElem? (l := tables_1_3) (i := 130) (by decide +kernel))))), by decide +kernel⟩
set_option maxRecDepth 20000 in
theorem wmt1_11 : (.initialized "java/lang/System" : Cond) ∈ zw := List.mem_filter.mpr ⟨List.mem_append_right _ (List.mem_append_left _ (List.mem_of_getElem? (l := tables_1_1) (i := 11) (by decide +kernel))), by decide +kernel⟩
set_option maxRecDepth 20000 in
theorem wmt3_152 : (.constantLong RX6 295 (17) : Cond) ∈ zw := List.mem_filter.mpr ⟨List.mem_append_right _ (List.mem_append_right _ (List.mem_append_right _ (List.mem_append_left _ (List.mem_of_getElem? (l := tables_1_3) (i := 152) (by decide +kernel))))), by decide +kernel⟩
set_option maxRecDepth 20000 in
theorem wmt3_153 : (.constantLong RX6 297 (31) : Cond) ∈ zw := List.mem_filter.mpr ⟨List.mem_append_right _ (List.mem_append_right _ (List.mem_append_right _ (List.mem_append_left _ (List.mem_of_getElem? (l := tables_1_3) (i := 153) (by decide +kernel))))), by decide +kernel⟩
set_option maxRecDepth 20000 in
theorem wmt2_236 : (.code yX6_given cX6_given 4 (some .long) : Cond) ∈ zw := List.mem_filter.mpr ⟨List.mem_append_right _ (List.mem_append_right _ (List.mem_append_left _ (List.mem_of_getElem? (l := tables_1_2) (i := 236) (by decide +kernel)))), by decide +kernel⟩
set_option maxRecDepth 20000 in
theorem wmt3_160 : (.methodLink RX6 318 yX6_given : Cond) ∈ zw := List.mem_filter.mpr ⟨List.mem_append_right _ (List.mem_append_right _ (List.mem_append_right _ (List.mem_append_left _ (List.mem_of_getElem? (l := tables_1_3) (i := 160) (by decide +kernel))))), by decide +kernel⟩
set_option maxRecDepth 20000 in
theorem wmt2_234 : (.instanceMethod yX6_given : Cond) ∈ zw := List.mem_filter.mpr ⟨List.mem_append_right _ (List.mem_append_right _ (List.mem_append_left _ (List.mem_of_getElem? (l := tables_1_2) (i := 234) (by decide +kernel)))), by decide +kernel⟩
set_option maxRecDepth 20000 in
theorem wmt2_235 : (.selects RX6 yX6_given yX6_given : Cond) ∈ zw := List.mem_filter.mpr ⟨List.mem_append_right _ (List.mem_append_right _ (List.mem_append_left _ (List.mem_of_getElem? (l := tables_1_2) (i := 235) (by decide +kernel)))), by decide +kernel⟩
set_option maxRecDepth 20000 in
theorem wmt2_133 : (.code yX6_poll cX6_poll 4 (some .int) : Cond) ∈ zw := List.mem_filter.mpr ⟨List.mem_append_right _ (List.mem_append_right _ (List.mem_append_left _ (List.mem_of_getElem? (l := tables_1_2) (i := 133) (by decide +kernel)))), by decide +kernel⟩
set_option maxRecDepth 20000 in
theorem wmt3_158 : (.methodLink RX6 312 yX6_poll : Cond) ∈ zw := List.mem_filter.mpr ⟨List.mem_append_right _ (List.mem_append_right _ (List.mem_append_right _ (List.mem_append_left _ (List.mem_of_getElem? (l := tables_1_3) (i := 158) (by decide +kernel))))), by decide +kernel⟩
set_option maxRecDepth 20000 in
theorem wmt2_131 : (.instanceMethod yX6_poll : Cond) ∈ zw := List.mem_filter.mpr ⟨List.mem_append_right _ (List.mem_append_right _ (List.mem_append_left _ (List.mem_of_getElem? (l := tables_1_2) (i := 131) (by decide +kernel)))), by decide +kernel⟩
set_option maxRecDepth 20000 in
theorem wmt2_132 : (.selects RX6 yX6_poll yX6_poll : Cond) ∈ zw := List.mem_filter.mpr ⟨List.mem_append_right _ (List.mem_append_right _ (List.mem_append_left _ (List.mem_of_getElem? (l := tables_1_2) (i := 132) (by decide +kernel)))), by decide +kernel⟩
set_option maxRecDepth 20000 in
theorem wmt2_209 : (.code yX6_likely cX6_likely 4 (some .int) : Cond) ∈ zw := List.mem_filter.mpr ⟨List.mem_append_right _ (List.mem_append_right _ (List.mem_append_left _ (List.mem_of_getElem? (l := tables_1_2) (i := 209) (by decide +kernel)))), by decide +kernel⟩
set_option maxRecDepth 20000 in
theorem wmt3_159 : (.methodLink RX6 315 yX6_likely : Cond) ∈ zw := List.mem_filter.mpr ⟨List.mem_append_right _ (List.mem_append_right _ (List.mem_append_right _ (List.mem_append_left _ (List.mem_of_getElem? (l := tables_1_3) (i := 159) (by decide +kernel))))), by decide +kernel⟩
set_option maxRecDepth 20000 in
theorem wmt2_207 : (.instanceMethod yX6_likely : Cond) ∈ zw := List.mem_filter.mpr ⟨List.mem_append_right _ (List.mem_append_right _ (List.mem_append_left _ (List.mem_of_getElem? (l := tables_1_2) (i := 207) (by decide +kernel)))), by decide +kernel⟩
set_option maxRecDepth 20000 in
theorem wmt2_208 : (.selects RX6 yX6_likely yX6_likely : Cond) ∈ zw := List.mem_filter.mpr ⟨List.mem_append_right _ (List.mem_append_right _ (List.mem_append_left _ (List.mem_of_getElem? (l := tables_1_2) (i := 208) (by decide +kernel)))), by decide +kernel⟩
set_option maxRecDepth 20000 in
theorem wmt2_39 : (.code yX6_fault cX6_fault 2 (some .int) : Cond) ∈ zw := List.mem_filter.mpr ⟨List.mem_append_right _ (List.mem_append_right _ (List.mem_append_left _ (List.mem_of_getElem? (l := tables_1_2) (i := 39) (by decide +kernel)))), by decide +kernel⟩
set_option maxRecDepth 20000 in
theorem wmt3_155 : (.methodLink RX6 302 yX6_fault : Cond) ∈ zw := List.mem_filter.mpr ⟨List.mem_append_right _ (List.mem_append_right _ (List.mem_append_right _ (List.mem_append_left _ (List.mem_of_getElem? (l := tables_1_3) (i := 155) (by decide +kernel))))), by decide +kernel⟩
set_option maxRecDepth 20000 in
theorem wmt2_37 : (.instanceMethod yX6_fault : Cond) ∈ zw := List.mem_filter.mpr ⟨List.mem_append_right _ (List.mem_append_right _ (List.mem_append_left _ (List.mem_of_getElem? (l := tables_1_2) (i := 37) (by decide +kernel)))), by decide +kernel⟩
set_option maxRecDepth 20000 in
theorem wmt2_38 : (.selects RX6 yX6_fault yX6_fault : Cond) ∈ zw := List.mem_filter.mpr ⟨List.mem_append_right _ (List.mem_append_right _ (List.mem_append_left _ (List.mem_of_getElem? (l := tables_1_2) (i := 38) (by decide +kernel)))), by decide +kernel⟩
set_option maxRecDepth 20000 in
theorem wmt2_68 : (.code yX6_unit cX6_unit 3 (some .int) : Cond) ∈ zw := List.mem_filter.mpr ⟨List.mem_append_right _ (List.mem_append_right _ (List.mem_append_left _ (List.mem_of_getElem? (l := tables_1_2) (i := 68) (by decide +kernel)))), by decide +kernel⟩
set_option maxRecDepth 20000 in
theorem wmt3_157 : (.methodLink RX6 309 yX6_unit : Cond) ∈ zw := List.mem_filter.mpr ⟨List.mem_append_right _ (List.mem_append_right _ (List.mem_append_right _ (List.mem_append_left _ (List.mem_of_getElem? (l := tables_1_3) (i := 157) (by decide +kernel))))), by decide +kernel⟩
set_option maxRecDepth 20000 in
theorem wmt2_66 : (.instanceMethod yX6_unit : Cond) ∈ zw := List.mem_filter.mpr ⟨List.mem_append_right _ (List.mem_append_right _ (List.mem_append_left _ (List.mem_of_getElem? (l := tables_1_2) (i := 66) (by decide +kernel)))), by decide +kernel⟩
set_option maxRecDepth 20000 in
theorem wmt2_67 : (.selects RX6 yX6_unit yX6_unit : Cond) ∈ zw := List.mem_filter.mpr ⟨List.mem_append_right _ (List.mem_append_right _ (List.mem_append_left _ (List.mem_of_getElem? (l := tables_1_2) (i := 67) (by decide +kernel)))), by decide +kernel⟩
set_option maxRecDepth 20000 in
theorem wmt2_47 : (.code yX6_saysYes cX6_saysYes 5 (some .long) : Cond) ∈ zw := List.mem_filter.mpr ⟨List.mem_append_right _ (List.mem_append_right _ (List.mem_append_left _ (List.mem_of_getElem? (l := tables_1_2) (i := 47) (by decide +kernel)))), by decide +kernel⟩
set_option maxRecDepth 20000 in
theorem wmt3_156 : (.methodLink RX6 305 yX6_saysYes : Cond) ∈ zw := List.mem_filter.mpr ⟨List.mem_append_right _ (List.mem_append_right _ (List.mem_append_right _ (List.mem_append_left _ (List.mem_of_getElem? (l := tables_1_3) (i := 156) (by decide +kernel))))), by decide +kernel⟩
set_option maxRecDepth 20000 in
theorem wmt2_45 : (.instanceMethod yX6_saysYes : Cond) ∈ zw := List.mem_filter.mpr ⟨List.mem_append_right _ (List.mem_append_right _ (List.mem_append_left _ (List.mem_of_getElem? (l := tables_1_2) (i := 45) (by decide +kernel)))), by decide +kernel⟩
set_option maxRecDepth 20000 in
theorem wmt2_46 : (.selects RX6 yX6_saysYes yX6_saysYes : Cond) ∈ zw := List.mem_filter.mpr ⟨List.mem_append_right _ (List.mem_append_right _ (List.mem_append_left _ (List.mem_of_getElem? (l := tables_1_2) (i := 46) (by decide +kernel)))), by decide +kernel⟩
set_option maxRecDepth 20000 in
theorem wmt3_139 : (.code yX6_count cX6_count 2 (some .int) : Cond) ∈ zw := List.mem_filter.mpr ⟨List.mem_append_right _ (List.mem_append_right _ (List.mem_append_right _ (List.mem_append_left _ (List.mem_of_getElem? (l := tables_1_3) (i := 139) (by decide +kernel))))), by decide +kernel⟩
set_option maxRecDepth 20000 in
theorem wmt3_154 : (.methodLink RX6 299 yX6_count : Cond) ∈ zw := List.mem_filter.mpr ⟨List.mem_append_right _ (List.mem_append_right _ (List.mem_append_right _ (List.mem_append_left _ (List.mem_of_getElem? (l := tables_1_3) (i := 154) (by decide +kernel))))), by decide +kernel⟩
set_option maxRecDepth 20000 in
theorem wmt3_137 : (.instanceMethod yX6_count : Cond) ∈ zw := List.mem_filter.mpr ⟨List.mem_append_right _ (List.mem_append_right _ (List.mem_append_right _ (List.mem_append_left _ (List.mem_of_getElem? (l := tables_1_3) (i := 137) (by decide +kernel))))), by decide +kernel⟩
set_option maxRecDepth 20000 in
theorem wmt3_138 : (.selects RX6 yX6_count yX6_count : Cond) ∈ zw := List.mem_filter.mpr ⟨List.mem_append_right _ (List.mem_append_right _ (List.mem_append_right _ (List.mem_append_left _ (List.mem_of_getElem? (l := tables_1_3) (i := 138) (by decide +kernel))))), by decide +kernel⟩
set_option maxRecDepth 20000 in
theorem wmt3_64 : (.constantLong RX6 366 (2400) : Cond) ∈ zw := List.mem_filter.mpr ⟨List.mem_append_right _ (List.mem_append_right _ (List.mem_append_right _ (List.mem_append_left _ (List.mem_of_getElem? (l := tables_1_3) (i := 64) (by decide +kernel))))), by decide +kernel⟩
set_option maxRecDepth 20000 in
theorem wmt3_63 : (.code yX6_spreadOfYes cX6_spreadOfYes 5 (some .long) : Cond) ∈ zw := List.mem_filter.mpr ⟨List.mem_append_right _ (List.mem_append_right _ (List.mem_append_right _ (List.mem_append_left _ (List.mem_of_getElem? (l := tables_1_3) (i := 63) (by decide +kernel))))), by decide +kernel⟩
set_option maxRecDepth 20000 in
theorem wmt3_61 : (.methodLink RX6 363 yX6_spreadOfYes : Cond) ∈ zw := List.mem_filter.mpr ⟨List.mem_append_right _ (List.mem_append_right _ (List.mem_append_right _ (List.mem_append_left _ (List.mem_of_getElem? (l := tables_1_3) (i := 61) (by decide +kernel))))), by decide +kernel⟩
set_option maxRecDepth 20000 in
theorem wmt3_62 : (.static yX6_spreadOfYes : Cond) ∈ zw := List.mem_filter.mpr ⟨List.mem_append_right _ (List.mem_append_right _ (List.mem_append_right _ (List.mem_append_left _ (List.mem_of_getElem? (l := tables_1_3) (i := 62) (by decide +kernel))))), by decide +kernel⟩
set_option maxRecDepth 20000 in
theorem wmt3_60 : (.code yX6_scattersLess cX6_scattersLess 9 (some .boolean) : Cond) ∈ zw := List.mem_filter.mpr ⟨List.mem_append_right _ (List.mem_append_right _ (List.mem_append_right _ (List.mem_append_left _ (List.mem_of_getElem? (l := tables_1_3) (i := 60) (by decide +kernel))))), by decide +kernel⟩
set_option maxRecDepth 20000 in
theorem wmt3_58 : (.methodLink RX6 241 yX6_scattersLess : Cond) ∈ zw := List.mem_filter.mpr ⟨List.mem_append_right _ (List.mem_append_right _ (List.mem_append_right _ (List.mem_append_left _ (List.mem_of_getElem? (l := tables_1_3) (i := 58) (by decide +kernel))))), by decide +kernel⟩
set_option maxRecDepth 20000 in
theorem wmt3_59 : (.static yX6_scattersLess : Cond) ∈ zw := List.mem_filter.mpr ⟨List.mem_append_right _ (List.mem_append_right _ (List.mem_append_right _ (List.mem_append_left _ (List.mem_of_getElem? (l := tables_1_3) (i := 59) (by decide +kernel))))), by decide +kernel⟩
set_option maxRecDepth 20000 in
theorem wmt4_64 : (.code yX7_in cX7_in 3 (some .boolean) : Cond) ∈ zw := List.mem_filter.mpr ⟨List.mem_append_right _ (List.mem_append_right _ (List.mem_append_right _ (List.mem_append_right _ (List.mem_append_left _ (List.mem_of_getElem? (l := tables_1_4) (i := 64) (by decide +kernel)))))), by decide +kernel⟩
set_option maxRecDepth 20000 in
theorem wmt4_62 : (.methodLink RX7 106 yX7_in : Cond) ∈ zw := List.mem_filter.mpr ⟨List.mem_append_right _ (List.mem_append_right _ (List.mem_append_right _ (List.mem_append_right _ (List.mem_append_left _ (List.mem_of_getElem? (l := tables_1_4) (i := 62) (by decide +kernel)))))), by decide +kernel⟩
set_option maxRecDepth 20000 in
theorem wmt4_63 : (.static yX7_in : Cond) ∈ zw := List.mem_filter.mpr ⟨List.mem_append_right _ (List.mem_append_right _ (List.mem_append_right _ (List.mem_append_right _ (List.mem_append_left _ (List.mem_of_getElem? (l := tables_1_4) (i := 63) (by decide +kernel)))))), by decide +kernel⟩
set_option maxRecDepth 20000 in
theorem wmt1_8 : (.initialized RX7 : Cond) ∈ zw := List.mem_filter.mpr ⟨List.mem_append_right _ (List.mem_append_left _ (List.mem_of_getElem? (l := tables_1_1) (i := 8) (by decide +kernel))), by decide +kernel⟩
set_option maxRecDepth 20000 in
theorem wmt4_158 : (.code yX7_isGroup cX7_isGroup 1 (some .boolean) : Cond) ∈ zw := List.mem_filter.mpr ⟨List.mem_append_right _ (List.mem_append_right _ (List.mem_append_right _ (List.mem_append_right _ (List.mem_append_left _ (List.mem_of_getElem? (l := tables_1_4) (i := 158) (by decide +kernel)))))), by decide +kernel⟩
set_option maxRecDepth 20000 in
theorem wmt4_156 : (.methodLink RX7 184 yX7_isGroup : Cond) ∈ zw := List.mem_filter.mpr ⟨List.mem_append_right _ (List.mem_append_right _ (List.mem_append_right _ (List.mem_append_right _ (List.mem_append_left _ (List.mem_of_getElem? (l := tables_1_4) (i := 156) (by decide +kernel)))))), by decide +kernel⟩
set_option maxRecDepth 20000 in
theorem wmt4_157 : (.static yX7_isGroup : Cond) ∈ zw := List.mem_filter.mpr ⟨List.mem_append_right _ (List.mem_append_right _ (List.mem_append_right _ (List.mem_append_right _ (List.mem_append_left _ (List.mem_of_getElem? (l := tables_1_4) (i := 157) (by decide +kernel)))))), by decide +kernel⟩
set_option maxRecDepth 20000 in
theorem wmt4_61 : (.code yX7_isDesign cX7_isDesign 1 (some .boolean) : Cond) ∈ zw := List.mem_filter.mpr ⟨List.mem_append_right _ (List.mem_append_right _ (List.mem_append_right _ (List.mem_append_right _ (List.mem_append_left _ (List.mem_of_getElem? (l := tables_1_4) (i := 61) (by decide +kernel)))))), by decide +kernel⟩
set_option maxRecDepth 20000 in
theorem wmt4_59 : (.methodLink RX7 110 yX7_isDesign : Cond) ∈ zw := List.mem_filter.mpr ⟨List.mem_append_right _ (List.mem_append_right _ (List.mem_append_right _ (List.mem_append_right _ (List.mem_append_left _ (List.mem_of_getElem? (l := tables_1_4) (i := 59) (by decide +kernel)))))), by decide +kernel⟩
set_option maxRecDepth 20000 in
theorem wmt4_60 : (.static yX7_isDesign : Cond) ∈ zw := List.mem_filter.mpr ⟨List.mem_append_right _ (List.mem_append_right _ (List.mem_append_right _ (List.mem_append_right _ (List.mem_append_left _ (List.mem_of_getElem? (l := tables_1_4) (i := 60) (by decide +kernel)))))), by decide +kernel⟩
set_option maxRecDepth 20000 in
theorem wmt4_119 : (.constantLong RX7 97 (-9223372036854775808) : Cond) ∈ zw := List.mem_filter.mpr ⟨List.mem_append_right _ (List.mem_append_right _ (List.mem_append_right _ (List.mem_append_right _ (List.mem_append_left _ (List.mem_of_getElem? (l := tables_1_4) (i := 119) (by decide +kernel)))))), by decide +kernel⟩
set_option maxRecDepth 20000 in
theorem wmt4_99 : (.code yX7_divisor cX7_divisor 10 (some .long) : Cond) ∈ zw := List.mem_filter.mpr ⟨List.mem_append_right _ (List.mem_append_right _ (List.mem_append_right _ (List.mem_append_right _ (List.mem_append_left _ (List.mem_of_getElem? (l := tables_1_4) (i := 99) (by decide +kernel)))))), by decide +kernel⟩
set_option maxRecDepth 20000 in
theorem wmt4_97 : (.methodLink RX7 99 yX7_divisor : Cond) ∈ zw := List.mem_filter.mpr ⟨List.mem_append_right _ (List.mem_append_right _ (List.mem_append_right _ (List.mem_append_right _ (List.mem_append_left _ (List.mem_of_getElem? (l := tables_1_4) (i := 97) (by decide +kernel)))))), by decide +kernel⟩
set_option maxRecDepth 20000 in
theorem wmt4_98 : (.static yX7_divisor : Cond) ∈ zw := List.mem_filter.mpr ⟨List.mem_append_right _ (List.mem_append_right _ (List.mem_append_right _ (List.mem_append_right _ (List.mem_append_left _ (List.mem_of_getElem? (l := tables_1_4) (i := 98) (by decide +kernel)))))), by decide +kernel⟩
set_option maxRecDepth 20000 in
theorem wmt3_167 : (.fieldLink RX7 103 "SecretLotsModel" "above" "J" : Cond) ∈ zw := List.mem_filter.mpr ⟨List.mem_append_right _ (List.mem_append_right _ (List.mem_append_right _ (List.mem_append_left _ (List.mem_of_getElem? (l := tables_1_3) (i := 167) (by decide +kernel))))), by decide +kernel⟩
set_option maxRecDepth 20000 in
theorem wmt3_168 : (.fieldLink RX7 7 "SecretLotsModel" "below" "J" : Cond) ∈ zw := List.mem_filter.mpr ⟨List.mem_append_right _ (List.mem_append_right _ (List.mem_append_right _ (List.mem_append_left _ (List.mem_of_getElem? (l := tables_1_3) (i := 168) (by decide +kernel))))), by decide +kernel⟩
set_option maxRecDepth 20000 in
theorem wmt3_180 : (.fieldLink RX7 114 "SecretLotsModel" "at" "I" : Cond) ∈ zw := List.mem_filter.mpr ⟨List.mem_append_right _ (List.mem_append_right _ (List.mem_append_right _ (List.mem_append_left _ (List.mem_of_getElem? (l := tables_1_3) (i := 180) (by decide +kernel))))), by decide +kernel⟩
set_option maxRecDepth 20000 in
theorem wmt3_169 : (.fieldLink RX7 13 "SecretLotsModel" "typed" "[I" : Cond) ∈ zw := List.mem_filter.mpr ⟨List.mem_append_right _ (List.mem_append_right _ (List.mem_append_right _ (List.mem_append_left _ (List.mem_of_getElem? (l := tables_1_3) (i := 169) (by decide +kernel))))), by decide +kernel⟩
set_option maxRecDepth 20000 in
theorem wmt3_179 : (.fieldLink RX7 117 "SecretLotsModel" "designNow" "I" : Cond) ∈ zw := List.mem_filter.mpr ⟨List.mem_append_right _ (List.mem_append_right _ (List.mem_append_right _ (List.mem_append_left _ (List.mem_of_getElem? (l := tables_1_3) (i := 179) (by decide +kernel))))), by decide +kernel⟩
set_option maxRecDepth 20000 in
theorem wmt3_170 : (.fieldLink RX7 17 "SecretLotsModel" "texts" "[I" : Cond) ∈ zw := List.mem_filter.mpr ⟨List.mem_append_right _ (List.mem_append_right _ (List.mem_append_right _ (List.mem_append_left _ (List.mem_of_getElem? (l := tables_1_3) (i := 170) (by decide +kernel))))), by decide +kernel⟩
set_option maxRecDepth 20000 in
theorem wmt3_181 : (.fieldLink RX7 120 "SecretLotsModel" "fault" "I" : Cond) ∈ zw := List.mem_filter.mpr ⟨List.mem_append_right _ (List.mem_append_right _ (List.mem_append_right _ (List.mem_append_left _ (List.mem_of_getElem? (l := tables_1_3) (i := 181) (by decide +kernel))))), by decide +kernel⟩
set_option maxRecDepth 20000 in
theorem wmt4_88 : (.code yX7_byteNow cX7_byteNow 1 (some .int) : Cond) ∈ zw := List.mem_filter.mpr ⟨List.mem_append_right _ (List.mem_append_right _ (List.mem_append_right _ (List.mem_append_right _ (List.mem_append_left _ (List.mem_of_getElem? (l := tables_1_4) (i := 88) (by decide +kernel)))))), by decide +kernel⟩
set_option maxRecDepth 20000 in
theorem wmt4_85 : (.methodLink RX7 123 yX7_byteNow : Cond) ∈ zw := List.mem_filter.mpr ⟨List.mem_append_right _ (List.mem_append_right _ (List.mem_append_right _ (List.mem_append_right _ (List.mem_append_left _ (List.mem_of_getElem? (l := tables_1_4) (i := 85) (by decide +kernel)))))), by decide +kernel⟩
set_option maxRecDepth 20000 in
theorem wmt4_87 : (.instanceMethod yX7_byteNow : Cond) ∈ zw := List.mem_filter.mpr ⟨List.mem_append_right _ (List.mem_append_right _ (List.mem_append_right _ (List.mem_append_right _ (List.mem_append_left _ (List.mem_of_getElem? (l := tables_1_4) (i := 87) (by decide +kernel)))))), by decide +kernel⟩
set_option maxRecDepth 20000 in
theorem wmp2_9 : (.selects RX7 yX7_byteNow yX7_byteNow : Cond) ∈ zw := List.mem_filter.mpr ⟨List.mem_of_getElem? (l := lw_tbl) (i := 25) (by decide +kernel), by decide +kernel⟩
set_option maxRecDepth 20000 in
theorem wmt4_92 : (.code yX7_number cX7_number 5 (some .int) : Cond) ∈ zw := List.mem_filter.mpr ⟨List.mem_append_right _ (List.mem_append_right _ (List.mem_append_right _ (List.mem_append_right _ (List.mem_append_left _ (List.mem_of_getElem? (l := tables_1_4) (i := 92) (by decide +kernel)))))), by decide +kernel⟩
set_option maxRecDepth 20000 in
theorem wmt4_89 : (.methodLink RX7 127 yX7_number : Cond) ∈ zw := List.mem_filter.mpr ⟨List.mem_append_right _ (List.mem_append_right _ (List.mem_append_right _ (List.mem_append_right _ (List.mem_append_left _ (List.mem_of_getElem? (l := tables_1_4) (i := 89) (by decide +kernel)))))), by decide +kernel⟩
set_option maxRecDepth 20000 in
theorem wmt4_91 : (.instanceMethod yX7_number : Cond) ∈ zw := List.mem_filter.mpr ⟨List.mem_append_right _ (List.mem_append_right _ (List.mem_append_right _ (List.mem_append_right _ (List.mem_append_left _ (List.mem_of_getElem? (l := tables_1_4) (i := 91) (by decide +kernel)))))), by decide +kernel⟩
set_option maxRecDepth 20000 in
theorem wmp2_10 : (.selects RX7 yX7_number yX7_number : Cond) ∈ zw := List.mem_filter.mpr ⟨List.mem_of_getElem? (l := lw_tbl) (i := 26) (by decide +kernel), by decide +kernel⟩
set_option maxRecDepth 20000 in
theorem wmt3_183 : (.fieldLink RX7 46 "SecretLotsModel" "letters" "[I" : Cond) ∈ zw := List.mem_filter.mpr ⟨List.mem_append_right _ (List.mem_append_right _ (List.mem_append_right _ (List.mem_append_left _ (List.mem_of_getElem? (l := tables_1_3) (i := 183) (by decide +kernel))))), by decide +kernel⟩
set_option maxRecDepth 20000 in
theorem wmt3_182 : (.fieldLink RX7 131 "SecretLotsModel" "parts" "I" : Cond) ∈ zw := List.mem_filter.mpr ⟨List.mem_append_right _ (List.mem_append_right _ (List.mem_append_right _ (List.mem_append_left _ (List.mem_of_getElem? (l := tables_1_3) (i := 182) (by decide +kernel))))), by decide +kernel⟩
set_option maxRecDepth 20000 in
theorem wmt3_184 : (.fieldLink RX7 49 "SecretLotsModel" "tops" "[I" : Cond) ∈ zw := List.mem_filter.mpr ⟨List.mem_append_right _ (List.mem_append_right _ (List.mem_append_right _ (List.mem_append_left _ (List.mem_of_getElem? (l := tables_1_3) (i := 184) (by decide +kernel))))), by decide +kernel⟩
set_option maxRecDepth 20000 in
theorem wmt3_185 : (.fieldLink RX7 52 "SecretLotsModel" "bottoms" "[I" : Cond) ∈ zw := List.mem_filter.mpr ⟨List.mem_append_right _ (List.mem_append_right _ (List.mem_append_right _ (List.mem_append_left _ (List.mem_of_getElem? (l := tables_1_3) (i := 185) (by decide +kernel))))), by decide +kernel⟩
set_option maxRecDepth 20000 in
theorem wmt3_171 : (.fieldLink RX7 20 "SecretLotsModel" "isRead" "[Z" : Cond) ∈ zw := List.mem_filter.mpr ⟨List.mem_append_right _ (List.mem_append_right _ (List.mem_append_right _ (List.mem_append_left _ (List.mem_of_getElem? (l := tables_1_3) (i := 171) (by decide +kernel))))), by decide +kernel⟩
set_option maxRecDepth 20000 in
theorem wmt3_173 : (.fieldLink RX7 27 "SecretLotsModel" "wholeOf" "[I" : Cond) ∈ zw := List.mem_filter.mpr ⟨List.mem_append_right _ (List.mem_append_right _ (List.mem_append_right _ (List.mem_append_left _ (List.mem_of_getElem? (l := tables_1_3) (i := 173) (by decide +kernel))))), by decide +kernel⟩
set_option maxRecDepth 20000 in
theorem wmt3_172 : (.fieldLink RX7 24 "SecretLotsModel" "faults" "[I" : Cond) ∈ zw := List.mem_filter.mpr ⟨List.mem_append_right _ (List.mem_append_right _ (List.mem_append_right _ (List.mem_append_left _ (List.mem_of_getElem? (l := tables_1_3) (i := 172) (by decide +kernel))))), by decide +kernel⟩
set_option maxRecDepth 20000 in
theorem wmt3_174 : (.fieldLink RX7 30 "SecretLotsModel" "truth" "[I" : Cond) ∈ zw := List.mem_filter.mpr ⟨List.mem_append_right _ (List.mem_append_right _ (List.mem_append_right _ (List.mem_append_left _ (List.mem_of_getElem? (l := tables_1_3) (i := 174) (by decide +kernel))))), by decide +kernel⟩
set_option maxRecDepth 20000 in
theorem wmt4_103 : (.code yX7_shareOf cX7_shareOf 5 (some .int) : Cond) ∈ zw := List.mem_filter.mpr ⟨List.mem_append_right _ (List.mem_append_right _ (List.mem_append_right _ (List.mem_append_right _ (List.mem_append_left _ (List.mem_of_getElem? (l := tables_1_4) (i := 103) (by decide +kernel)))))), by decide +kernel⟩
set_option maxRecDepth 20000 in
theorem wmt4_100 : (.methodLink RX7 140 yX7_shareOf : Cond) ∈ zw := List.mem_filter.mpr ⟨List.mem_append_right _ (List.mem_append_right _ (List.mem_append_right _ (List.mem_append_right _ (List.mem_append_left _ (List.mem_of_getElem? (l := tables_1_4) (i := 100) (by decide +kernel)))))), by decide +kernel⟩
set_option maxRecDepth 20000 in
theorem wmt4_102 : (.instanceMethod yX7_shareOf : Cond) ∈ zw := List.mem_filter.mpr ⟨List.mem_append_right _ (List.mem_append_right _ (List.mem_append_right _ (List.mem_append_right _ (List.mem_append_left _ (List.mem_of_getElem? (l := tables_1_4) (i := 102) (by decide +kernel)))))), by decide +kernel⟩
set_option maxRecDepth 20000 in
theorem wmp2_12 : (.selects RX7 yX7_shareOf yX7_shareOf : Cond) ∈ zw := List.mem_filter.mpr ⟨List.mem_of_getElem? (l := lw_tbl) (i := 28) (by decide +kernel), by decide +kernel⟩
set_option maxRecDepth 20000 in
theorem wmt3_175 : (.fieldLink RX7 33 "SecretLotsModel" "opposite" "[I" : Cond) ∈ zw := List.mem_filter.mpr ⟨List.mem_append_right _ (List.mem_append_right _ (List.mem_append_right _ (List.mem_append_left _ (List.mem_of_getElem? (l := tables_1_3) (i := 175) (by decide +kernel))))), by decide +kernel⟩
set_option maxRecDepth 20000 in
theorem wmt3_176 : (.fieldLink RX7 36 "SecretLotsModel" "alwaysYes" "[I" : Cond) ∈ zw := List.mem_filter.mpr ⟨List.mem_append_right _ (List.mem_append_right _ (List.mem_append_right _ (List.mem_append_left _ (List.mem_of_getElem? (l := tables_1_3) (i := 176) (by decide +kernel))))), by decide +kernel⟩
set_option maxRecDepth 20000 in
theorem wmt3_177 : (.fieldLink RX7 39 "SecretLotsModel" "another" "[I" : Cond) ∈ zw := List.mem_filter.mpr ⟨List.mem_append_right _ (List.mem_append_right _ (List.mem_append_right _ (List.mem_append_left _ (List.mem_of_getElem? (l := tables_1_3) (i := 177) (by decide +kernel))))), by decide +kernel⟩
set_option maxRecDepth 20000 in
theorem wmt4_96 : (.code yX7_wholeNow cX7_wholeNow 4 (some .int) : Cond) ∈ zw := List.mem_filter.mpr ⟨List.mem_append_right _ (List.mem_append_right _ (List.mem_append_right _ (List.mem_append_right _ (List.mem_append_left _ (List.mem_of_getElem? (l := tables_1_4) (i := 96) (by decide +kernel)))))), by decide +kernel⟩
set_option maxRecDepth 20000 in
theorem wmt4_93 : (.methodLink RX7 137 yX7_wholeNow : Cond) ∈ zw := List.mem_filter.mpr ⟨List.mem_append_right _ (List.mem_append_right _ (List.mem_append_right _ (List.mem_append_right _ (List.mem_append_left _ (List.mem_of_getElem? (l := tables_1_4) (i := 93) (by decide +kernel)))))), by decide +kernel⟩
set_option maxRecDepth 20000 in
theorem wmt4_95 : (.instanceMethod yX7_wholeNow : Cond) ∈ zw := List.mem_filter.mpr ⟨List.mem_append_right _ (List.mem_append_right _ (List.mem_append_right _ (List.mem_append_right _ (List.mem_append_left _ (List.mem_of_getElem? (l := tables_1_4) (i := 95) (by decide +kernel)))))), by decide +kernel⟩
set_option maxRecDepth 20000 in
theorem wmp2_11 : (.selects RX7 yX7_wholeNow yX7_wholeNow : Cond) ∈ zw := List.mem_filter.mpr ⟨List.mem_of_getElem? (l := lw_tbl) (i := 27) (by decide +kernel), by decide +kernel⟩
set_option maxRecDepth 20000 in
theorem wmt4_84 : (.code yX7_partRead cX7_partRead 4 none : Cond) ∈ zw := List.mem_filter.mpr ⟨List.mem_append_right _ (List.mem_append_right _ (List.mem_append_right _ (List.mem_append_right _ (List.mem_append_left _ (List.mem_of_getElem? (l := tables_1_4) (i := 84) (by decide +kernel)))))), by decide +kernel⟩
set_option maxRecDepth 20000 in
theorem wmt4_81 : (.methodLink RX7 134 yX7_partRead : Cond) ∈ zw := List.mem_filter.mpr ⟨List.mem_append_right _ (List.mem_append_right _ (List.mem_append_right _ (List.mem_append_right _ (List.mem_append_left _ (List.mem_of_getElem? (l := tables_1_4) (i := 81) (by decide +kernel)))))), by decide +kernel⟩
set_option maxRecDepth 20000 in
theorem wmt4_83 : (.instanceMethod yX7_partRead : Cond) ∈ zw := List.mem_filter.mpr ⟨List.mem_append_right _ (List.mem_append_right _ (List.mem_append_right _ (List.mem_append_right _ (List.mem_append_left _ (List.mem_of_getElem? (l := tables_1_4) (i := 83) (by decide +kernel)))))), by decide +kernel⟩
set_option maxRecDepth 20000 in
theorem wmp2_8 : (.selects RX7 yX7_partRead yX7_partRead : Cond) ∈ zw := List.mem_filter.mpr ⟨List.mem_of_getElem? (l := lw_tbl) (i := 24) (by decide +kernel), by decide +kernel⟩
set_option maxRecDepth 20000 in
theorem wmt4_80 : (.code yX7_reads cX7_reads 5 none : Cond) ∈ zw := List.mem_filter.mpr ⟨List.mem_append_right _ (List.mem_append_right _ (List.mem_append_right _ (List.mem_append_right _ (List.mem_append_left _ (List.mem_of_getElem? (l := tables_1_4) (i := 80) (by decide +kernel)))))), by decide +kernel⟩
set_option maxRecDepth 20000 in
theorem wmt4_77 : (.methodLink RX7 143 yX7_reads : Cond) ∈ zw := List.mem_filter.mpr ⟨List.mem_append_right _ (List.mem_append_right _ (List.mem_append_right _ (List.mem_append_right _ (List.mem_append_left _ (List.mem_of_getElem? (l := tables_1_4) (i := 77) (by decide +kernel)))))), by decide +kernel⟩
set_option maxRecDepth 20000 in
theorem wmt4_79 : (.instanceMethod yX7_reads : Cond) ∈ zw := List.mem_filter.mpr ⟨List.mem_append_right _ (List.mem_append_right _ (List.mem_append_right _ (List.mem_append_right _ (List.mem_append_left _ (List.mem_of_getElem? (l := tables_1_4) (i := 79) (by decide +kernel)))))), by decide +kernel⟩
set_option maxRecDepth 20000 in
theorem wmp2_7 : (.selects RX7 yX7_reads yX7_reads : Cond) ∈ zw := List.mem_filter.mpr ⟨List.mem_of_getElem? (l := lw_tbl) (i := 23) (by decide +kernel), by decide +kernel⟩
set_option maxRecDepth 20000 in
theorem wmt4_124 : (.constantLong RX7 151 (24) : Cond) ∈ zw := List.mem_filter.mpr ⟨List.mem_append_right _ (List.mem_append_right _ (List.mem_append_right _ (List.mem_append_right _ (List.mem_append_left _ (List.mem_of_getElem? (l := tables_1_4) (i := 124) (by decide +kernel)))))), by decide +kernel⟩
set_option maxRecDepth 20000 in
theorem wmt3_178 : (.fieldLink RX7 42 "SecretLotsModel" "otherNow" "I" : Cond) ∈ zw := List.mem_filter.mpr ⟨List.mem_append_right _ (List.mem_append_right _ (List.mem_append_right _ (List.mem_append_left _ (List.mem_of_getElem? (l := tables_1_3) (i := 178) (by decide +kernel))))), by decide +kernel⟩
set_option maxRecDepth 20000 in
theorem wmt4_123 : (.code yX7_yesIf cX7_yesIf 4 (some .long) : Cond) ∈ zw := List.mem_filter.mpr ⟨List.mem_append_right _ (List.mem_append_right _ (List.mem_append_right _ (List.mem_append_right _ (List.mem_append_left _ (List.mem_of_getElem? (l := tables_1_4) (i := 123) (by decide +kernel)))))), by decide +kernel⟩
set_option maxRecDepth 20000 in
theorem wmt4_120 : (.methodLink RX7 153 yX7_yesIf : Cond) ∈ zw := List.mem_filter.mpr ⟨List.mem_append_right _ (List.mem_append_right _ (List.mem_append_right _ (List.mem_append_right _ (List.mem_append_left _ (List.mem_of_getElem? (l := tables_1_4) (i := 120) (by decide +kernel)))))), by decide +kernel⟩
set_option maxRecDepth 20000 in
theorem wmt4_122 : (.instanceMethod yX7_yesIf : Cond) ∈ zw := List.mem_filter.mpr ⟨List.mem_append_right _ (List.mem_append_right _ (List.mem_append_right _ (List.mem_append_right _ (List.mem_append_left _ (List.mem_of_getElem? (l := tables_1_4) (i := 122) (by decide +kernel)))))), by decide +kernel⟩
set_option maxRecDepth 20000 in
theorem wmp2_14 : (.selects RX7 yX7_yesIf yX7_yesIf : Cond) ∈ zw := List.mem_filter.mpr ⟨List.mem_of_getElem? (l := lw_tbl) (i := 30) (by decide +kernel), by decide +kernel⟩
set_option maxRecDepth 20000 in
theorem wmt4_76 : (.code yX7_faultOf cX7_faultOf 2 (some .int) : Cond) ∈ zw := List.mem_filter.mpr ⟨List.mem_append_right _ (List.mem_append_right _ (List.mem_append_right _ (List.mem_append_right _ (List.mem_append_left _ (List.mem_of_getElem? (l := tables_1_4) (i := 76) (by decide +kernel)))))), by decide +kernel⟩
set_option maxRecDepth 20000 in
theorem wmt4_73 : (.methodLink RX7 147 yX7_faultOf : Cond) ∈ zw := List.mem_filter.mpr ⟨List.mem_append_right _ (List.mem_append_right _ (List.mem_append_right _ (List.mem_append_right _ (List.mem_append_left _ (List.mem_of_getElem? (l := tables_1_4) (i := 73) (by decide +kernel)))))), by decide +kernel⟩
set_option maxRecDepth 20000 in
theorem wmt4_75 : (.instanceMethod yX7_faultOf : Cond) ∈ zw := List.mem_filter.mpr ⟨List.mem_append_right _ (List.mem_append_right _ (List.mem_append_right _ (List.mem_append_right _ (List.mem_append_left _ (List.mem_of_getElem? (l := tables_1_4) (i := 75) (by decide +kernel)))))), by decide +kernel⟩
set_option maxRecDepth 20000 in
theorem wmp2_6 : (.selects RX7 yX7_faultOf yX7_faultOf : Cond) ∈ zw := List.mem_filter.mpr ⟨List.mem_of_getElem? (l := lw_tbl) (i := 22) (by decide +kernel), by decide +kernel⟩
set_option maxRecDepth 20000 in
theorem wmt4_128 : (.code yX7_base cX7_base 2 (some .long) : Cond) ∈ zw := List.mem_filter.mpr ⟨List.mem_append_right _ (List.mem_append_right _ (List.mem_append_right _ (List.mem_append_right _ (List.mem_append_left _ (List.mem_of_getElem? (l := tables_1_4) (i := 128) (by decide +kernel)))))), by decide +kernel⟩
set_option maxRecDepth 20000 in
theorem wmt4_125 : (.methodLink RX7 161 yX7_base : Cond) ∈ zw := List.mem_filter.mpr ⟨List.mem_append_right _ (List.mem_append_right _ (List.mem_append_right _ (List.mem_append_right _ (List.mem_append_left _ (List.mem_of_getElem? (l := tables_1_4) (i := 125) (by decide +kernel)))))), by decide +kernel⟩
set_option maxRecDepth 20000 in
theorem wmt4_127 : (.instanceMethod yX7_base : Cond) ∈ zw := List.mem_filter.mpr ⟨List.mem_append_right _ (List.mem_append_right _ (List.mem_append_right _ (List.mem_append_right _ (List.mem_append_left _ (List.mem_of_getElem? (l := tables_1_4) (i := 127) (by decide +kernel)))))), by decide +kernel⟩
set_option maxRecDepth 20000 in
theorem wmp2_15 : (.selects RX7 yX7_base yX7_base : Cond) ∈ zw := List.mem_filter.mpr ⟨List.mem_of_getElem? (l := lw_tbl) (i := 31) (by decide +kernel), by decide +kernel⟩
set_option maxRecDepth 20000 in
theorem wmt4_132 : (.code yX7_is cX7_is 7 none : Cond) ∈ zw := List.mem_filter.mpr ⟨List.mem_append_right _ (List.mem_append_right _ (List.mem_append_right _ (List.mem_append_right _ (List.mem_append_left _ (List.mem_of_getElem? (l := tables_1_4) (i := 132) (by decide +kernel)))))), by decide +kernel⟩
set_option maxRecDepth 20000 in
theorem wmt4_129 : (.methodLink RX7 164 yX7_is : Cond) ∈ zw := List.mem_filter.mpr ⟨List.mem_append_right _ (List.mem_append_right _ (List.mem_append_right _ (List.mem_append_right _ (List.mem_append_left _ (List.mem_of_getElem? (l := tables_1_4) (i := 129) (by decide +kernel)))))), by decide +kernel⟩
set_option maxRecDepth 20000 in
theorem wmt4_131 : (.instanceMethod yX7_is : Cond) ∈ zw := List.mem_filter.mpr ⟨List.mem_append_right _ (List.mem_append_right _ (List.mem_append_right _ (List.mem_append_right _ (List.mem_append_left _ (List.mem_of_getElem? (l := tables_1_4) (i := 131) (by decide +kernel)))))), by decide +kernel⟩
set_option maxRecDepth 20000 in
theorem wmp3_0 : (.selects RX7 yX7_is yX7_is : Cond) ∈ zw := List.mem_filter.mpr ⟨List.mem_of_getElem? (l := lw_tbl) (i := 32) (by decide +kernel), by decide +kernel⟩
set_option maxRecDepth 20000 in
theorem wmt4_136 : (.code yX7_part cX7_part 2 (some .long) : Cond) ∈ zw := List.mem_filter.mpr ⟨List.mem_append_right _ (List.mem_append_right _ (List.mem_append_right _ (List.mem_append_right _ (List.mem_append_left _ (List.mem_of_getElem? (l := tables_1_4) (i := 136) (by decide +kernel)))))), by decide +kernel⟩
set_option maxRecDepth 20000 in
theorem wmt4_133 : (.methodLink RX7 168 yX7_part : Cond) ∈ zw := List.mem_filter.mpr ⟨List.mem_append_right _ (List.mem_append_right _ (List.mem_append_right _ (List.mem_append_right _ (List.mem_append_left _ (List.mem_of_getElem? (l := tables_1_4) (i := 133) (by decide +kernel)))))), by decide +kernel⟩
set_option maxRecDepth 20000 in
theorem wmt4_135 : (.instanceMethod yX7_part : Cond) ∈ zw := List.mem_filter.mpr ⟨List.mem_append_right _ (List.mem_append_right _ (List.mem_append_right _ (List.mem_append_right _ (List.mem_append_left _ (List.mem_of_getElem? (l := tables_1_4) (i := 135) (by decide +kernel)))))), by decide +kernel⟩
set_option maxRecDepth 20000 in
theorem wmp3_1 : (.selects RX7 yX7_part yX7_part : Cond) ∈ zw := List.mem_filter.mpr ⟨List.mem_of_getElem? (l := lw_tbl) (i := 33) (by decide +kernel), by decide +kernel⟩
set_option maxRecDepth 20000 in
theorem wmt4_118 : (.code yX7_told cX7_told 1 (some .long) : Cond) ∈ zw := List.mem_filter.mpr ⟨List.mem_append_right _ (List.mem_append_right _ (List.mem_append_right _ (List.mem_append_right _ (List.mem_append_left _ (List.mem_of_getElem? (l := tables_1_4) (i := 118) (by decide +kernel)))))), by decide +kernel⟩
set_option maxRecDepth 20000 in
theorem wmt4_116 : (.methodLink RX7 157 yX7_told : Cond) ∈ zw := List.mem_filter.mpr ⟨List.mem_append_right _ (List.mem_append_right _ (List.mem_append_right _ (List.mem_append_right _ (List.mem_append_left _ (List.mem_of_getElem? (l := tables_1_4) (i := 116) (by decide +kernel)))))), by decide +kernel⟩
set_option maxRecDepth 20000 in
theorem wmt4_117 : (.static yX7_told : Cond) ∈ zw := List.mem_filter.mpr ⟨List.mem_append_right _ (List.mem_append_right _ (List.mem_append_right _ (List.mem_append_right _ (List.mem_append_left _ (List.mem_of_getElem? (l := tables_1_4) (i := 117) (by decide +kernel)))))), by decide +kernel⟩
set_option maxRecDepth 20000 in
theorem wmt4_115 : (.code yX7_saysOf cX7_saysOf 4 (some .long) : Cond) ∈ zw := List.mem_filter.mpr ⟨List.mem_append_right _ (List.mem_append_right _ (List.mem_append_right _ (List.mem_append_right _ (List.mem_append_left _ (List.mem_of_getElem? (l := tables_1_4) (i := 115) (by decide +kernel)))))), by decide +kernel⟩
set_option maxRecDepth 20000 in
theorem wmt4_112 : (.methodLink RX7 171 yX7_saysOf : Cond) ∈ zw := List.mem_filter.mpr ⟨List.mem_append_right _ (List.mem_append_right _ (List.mem_append_right _ (List.mem_append_right _ (List.mem_append_left _ (List.mem_of_getElem? (l := tables_1_4) (i := 112) (by decide +kernel)))))), by decide +kernel⟩
set_option maxRecDepth 20000 in
theorem wmt4_114 : (.instanceMethod yX7_saysOf : Cond) ∈ zw := List.mem_filter.mpr ⟨List.mem_append_right _ (List.mem_append_right _ (List.mem_append_right _ (List.mem_append_right _ (List.mem_append_left _ (List.mem_of_getElem? (l := tables_1_4) (i := 114) (by decide +kernel)))))), by decide +kernel⟩
set_option maxRecDepth 20000 in
theorem wmp2_13 : (.selects RX7 yX7_saysOf yX7_saysOf : Cond) ∈ zw := List.mem_filter.mpr ⟨List.mem_of_getElem? (l := lw_tbl) (i := 29) (by decide +kernel), by decide +kernel⟩
set_option maxRecDepth 20000 in
theorem wmt4_144 : (.code yX7_unitOf cX7_unitOf 4 (some .int) : Cond) ∈ zw := List.mem_filter.mpr ⟨List.mem_append_right _ (List.mem_append_right _ (List.mem_append_right _ (List.mem_append_right _ (List.mem_append_left _ (List.mem_of_getElem? (l := tables_1_4) (i := 144) (by decide +kernel)))))), by decide +kernel⟩
set_option maxRecDepth 20000 in
theorem wmt4_141 : (.methodLink RX7 175 yX7_unitOf : Cond) ∈ zw := List.mem_filter.mpr ⟨List.mem_append_right _ (List.mem_append_right _ (List.mem_append_right _ (List.mem_append_right _ (List.mem_append_left _ (List.mem_of_getElem? (l := tables_1_4) (i := 141) (by decide +kernel)))))), by decide +kernel⟩
set_option maxRecDepth 20000 in
theorem wmt4_143 : (.instanceMethod yX7_unitOf : Cond) ∈ zw := List.mem_filter.mpr ⟨List.mem_append_right _ (List.mem_append_right _ (List.mem_append_right _ (List.mem_append_right _ (List.mem_append_left _ (List.mem_of_getElem? (l := tables_1_4) (i := 143) (by decide +kernel)))))), by decide +kernel⟩
set_option maxRecDepth 20000 in
theorem wmp3_2 : (.selects RX7 yX7_unitOf yX7_unitOf : Cond) ∈ zw := List.mem_filter.mpr ⟨List.mem_of_getElem? (l := lw_tbl) (i := 34) (by decide +kernel), by decide +kernel⟩
set_option maxRecDepth 20000 in
theorem wmt3_186 : (.fieldLink RX7 178 "SecretLotsModel" "day" "I" : Cond) ∈ zw := List.mem_filter.mpr ⟨List.mem_append_right _ (List.mem_append_right _ (List.mem_append_right _ (List.mem_append_left _ (List.mem_of_getElem? (l := tables_1_3) (i := 186) (by decide +kernel))))), by decide +kernel⟩
set_option maxRecDepth 20000 in
theorem wmt4_155 : (.code yX7_isPerson cX7_isPerson 1 (some .boolean) : Cond) ∈ zw := List.mem_filter.mpr ⟨List.mem_append_right _ (List.mem_append_right _ (List.mem_append_right _ (List.mem_append_right _ (List.mem_append_left _ (List.mem_of_getElem? (l := tables_1_4) (i := 155) (by decide +kernel)))))), by decide +kernel⟩
set_option maxRecDepth 20000 in
theorem wmt4_153 : (.methodLink RX7 181 yX7_isPerson : Cond) ∈ zw := List.mem_filter.mpr ⟨List.mem_append_right _ (List.mem_append_right _ (List.mem_append_right _ (List.mem_append_right _ (List.mem_append_left _ (List.mem_of_getElem? (l := tables_1_4) (i := 153) (by decide +kernel)))))), by decide +kernel⟩
set_option maxRecDepth 20000 in
theorem wmt4_154 : (.static yX7_isPerson : Cond) ∈ zw := List.mem_filter.mpr ⟨List.mem_append_right _ (List.mem_append_right _ (List.mem_append_right _ (List.mem_append_right _ (List.mem_append_left _ (List.mem_of_getElem? (l := tables_1_4) (i := 154) (by decide +kernel)))))), by decide +kernel⟩
set_option maxRecDepth 20000 in
theorem wmt3_188 : (.fieldLink RX7 58 "SecretLotsModel" "groupOf" "[I" : Cond) ∈ zw := List.mem_filter.mpr ⟨List.mem_append_right _ (List.mem_append_right _ (List.mem_append_right _ (List.mem_append_left _ (List.mem_of_getElem? (l := tables_1_3) (i := 188) (by decide +kernel))))), by decide +kernel⟩
set_option maxRecDepth 20000 in
theorem wmt3_187 : (.fieldLink RX7 55 "SecretLotsModel" "knownTo" "I" : Cond) ∈ zw := List.mem_filter.mpr ⟨List.mem_append_right _ (List.mem_append_right _ (List.mem_append_right _ (List.mem_append_left _ (List.mem_of_getElem? (l := tables_1_3) (i := 187) (by decide +kernel))))), by decide +kernel⟩
set_option maxRecDepth 20000 in
theorem wmt3_202 : (.fieldLink RX7 79 "SecretLotsModel" "limitNow" "I" : Cond) ∈ zw := List.mem_filter.mpr ⟨List.mem_append_right _ (List.mem_append_right _ (List.mem_append_right _ (List.mem_append_left _ (List.mem_of_getElem? (l := tables_1_3) (i := 202) (by decide +kernel))))), by decide +kernel⟩
set_option maxRecDepth 20000 in
theorem wmt3_189 : (.fieldLink RX7 187 "SecretLotsModel" "answers" "I" : Cond) ∈ zw := List.mem_filter.mpr ⟨List.mem_append_right _ (List.mem_append_right _ (List.mem_append_right _ (List.mem_append_left _ (List.mem_of_getElem? (l := tables_1_3) (i := 189) (by decide +kernel))))), by decide +kernel⟩
set_option maxRecDepth 20000 in
theorem wmt3_190 : (.fieldLink RX7 61 "SecretLotsModel" "answerBy" "[I" : Cond) ∈ zw := List.mem_filter.mpr ⟨List.mem_append_right _ (List.mem_append_right _ (List.mem_append_right _ (List.mem_append_left _ (List.mem_of_getElem? (l := tables_1_3) (i := 190) (by decide +kernel))))), by decide +kernel⟩
set_option maxRecDepth 20000 in
theorem wmt3_191 : (.fieldLink RX7 64 "SecretLotsModel" "answerDesign" "[I" : Cond) ∈ zw := List.mem_filter.mpr ⟨List.mem_append_right _ (List.mem_append_right _ (List.mem_append_right _ (List.mem_append_left _ (List.mem_of_getElem? (l := tables_1_3) (i := 191) (by decide +kernel))))), by decide +kernel⟩
set_option maxRecDepth 20000 in
theorem wmt3_192 : (.fieldLink RX7 67 "SecretLotsModel" "answerYes" "[I" : Cond) ∈ zw := List.mem_filter.mpr ⟨List.mem_append_right _ (List.mem_append_right _ (List.mem_append_right _ (List.mem_append_left _ (List.mem_of_getElem? (l := tables_1_3) (i := 192) (by decide +kernel))))), by decide +kernel⟩
set_option maxRecDepth 20000 in
theorem wmt3_193 : (.fieldLink RX7 70 "SecretLotsModel" "answerOn" "[I" : Cond) ∈ zw := List.mem_filter.mpr ⟨List.mem_append_right _ (List.mem_append_right _ (List.mem_append_right _ (List.mem_append_left _ (List.mem_of_getElem? (l := tables_1_3) (i := 193) (by decide +kernel))))), by decide +kernel⟩
set_option maxRecDepth 20000 in
theorem wmt3_194 : (.fieldLink RX7 73 "SecretLotsModel" "answerBack" "[I" : Cond) ∈ zw := List.mem_filter.mpr ⟨List.mem_append_right _ (List.mem_append_right _ (List.mem_append_right _ (List.mem_append_left _ (List.mem_of_getElem? (l := tables_1_3) (i := 194) (by decide +kernel))))), by decide +kernel⟩
set_option maxRecDepth 20000 in
theorem wmt4_166 : (.code yX7_answersBy cX7_answersBy 4 (some .int) : Cond) ∈ zw := List.mem_filter.mpr ⟨List.mem_append_right _ (List.mem_append_right _ (List.mem_append_right _ (List.mem_append_right _ (List.mem_append_left _ (List.mem_of_getElem? (l := tables_1_4) (i := 166) (by decide +kernel)))))), by decide +kernel⟩
set_option maxRecDepth 20000 in
theorem wmt4_163 : (.methodLink RX7 190 yX7_answersBy : Cond) ∈ zw := List.mem_filter.mpr ⟨List.mem_append_right _ (List.mem_append_right _ (List.mem_append_right _ (List.mem_append_right _ (List.mem_append_left _ (List.mem_of_getElem? (l := tables_1_4) (i := 163) (by decide +kernel)))))), by decide +kernel⟩
set_option maxRecDepth 20000 in
theorem wmt4_165 : (.instanceMethod yX7_answersBy : Cond) ∈ zw := List.mem_filter.mpr ⟨List.mem_append_right _ (List.mem_append_right _ (List.mem_append_right _ (List.mem_append_right _ (List.mem_append_left _ (List.mem_of_getElem? (l := tables_1_4) (i := 165) (by decide +kernel)))))), by decide +kernel⟩
set_option maxRecDepth 20000 in
theorem wmp3_3 : (.selects RX7 yX7_answersBy yX7_answersBy : Cond) ∈ zw := List.mem_filter.mpr ⟨List.mem_of_getElem? (l := lw_tbl) (i := 35) (by decide +kernel), by decide +kernel⟩
set_option maxRecDepth 20000 in
theorem wmt3_208 : (.fieldLink RX7 291 "SecretLotsModel" "finding" "I" : Cond) ∈ zw := List.mem_filter.mpr ⟨List.mem_append_right _ (List.mem_append_right _ (List.mem_append_right _ (List.mem_append_left _ (List.mem_of_getElem? (l := tables_1_3) (i := 208) (by decide +kernel))))), by decide +kernel⟩
set_option maxRecDepth 20000 in
theorem wmt4_173 : (.code yX7_isSheet cX7_isSheet 1 (some .boolean) : Cond) ∈ zw := List.mem_filter.mpr ⟨List.mem_append_right _ (List.mem_append_right _ (List.mem_append_right _ (List.mem_append_right _ (List.mem_append_left _ (List.mem_of_getElem? (l := tables_1_4) (i := 173) (by decide +kernel)))))), by decide +kernel⟩
set_option maxRecDepth 20000 in
theorem wmt4_171 : (.methodLink RX7 194 yX7_isSheet : Cond) ∈ zw := List.mem_filter.mpr ⟨List.mem_append_right _ (List.mem_append_right _ (List.mem_append_right _ (List.mem_append_right _ (List.mem_append_left _ (List.mem_of_getElem? (l := tables_1_4) (i := 171) (by decide +kernel)))))), by decide +kernel⟩
set_option maxRecDepth 20000 in
theorem wmt4_172 : (.static yX7_isSheet : Cond) ∈ zw := List.mem_filter.mpr ⟨List.mem_append_right _ (List.mem_append_right _ (List.mem_append_right _ (List.mem_append_right _ (List.mem_append_left _ (List.mem_of_getElem? (l := tables_1_4) (i := 172) (by decide +kernel)))))), by decide +kernel⟩
set_option maxRecDepth 20000 in
theorem wmt3_203 : (.fieldLink RX7 82 "SecretLotsModel" "isThere" "[Z" : Cond) ∈ zw := List.mem_filter.mpr ⟨List.mem_append_right _ (List.mem_append_right _ (List.mem_append_right _ (List.mem_append_left _ (List.mem_of_getElem? (l := tables_1_3) (i := 203) (by decide +kernel))))), by decide +kernel⟩
set_option maxRecDepth 20000 in
theorem wmt3_205 : (.fieldLink RX7 88 "SecretLotsModel" "sizes" "[I" : Cond) ∈ zw := List.mem_filter.mpr ⟨List.mem_append_right _ (List.mem_append_right _ (List.mem_append_right _ (List.mem_append_left _ (List.mem_of_getElem? (l := tables_1_3) (i := 205) (by decide +kernel))))), by decide +kernel⟩
set_option maxRecDepth 20000 in
theorem wmt3_206 : (.fieldLink RX7 91 "SecretLotsModel" "items" "[I" : Cond) ∈ zw := List.mem_filter.mpr ⟨List.mem_append_right _ (List.mem_append_right _ (List.mem_append_right _ (List.mem_append_left _ (List.mem_of_getElem? (l := tables_1_3) (i := 206) (by decide +kernel))))), by decide +kernel⟩
set_option maxRecDepth 20000 in
theorem wmt4_177 : (.code yX7_meets cX7_meets 2 (some .int) : Cond) ∈ zw := List.mem_filter.mpr ⟨List.mem_append_right _ (List.mem_append_right _ (List.mem_append_right _ (List.mem_append_right _ (List.mem_append_left _ (List.mem_of_getElem? (l := tables_1_4) (i := 177) (by decide +kernel)))))), by decide +kernel⟩
set_option maxRecDepth 20000 in
theorem wmt4_174 : (.methodLink RX7 197 yX7_meets : Cond) ∈ zw := List.mem_filter.mpr ⟨List.mem_append_right _ (List.mem_append_right _ (List.mem_append_right _ (List.mem_append_right _ (List.mem_append_left _ (List.mem_of_getElem? (l := tables_1_4) (i := 174) (by decide +kernel)))))), by decide +kernel⟩
set_option maxRecDepth 20000 in
theorem wmt4_176 : (.instanceMethod yX7_meets : Cond) ∈ zw := List.mem_filter.mpr ⟨List.mem_append_right _ (List.mem_append_right _ (List.mem_append_right _ (List.mem_append_right _ (List.mem_append_left _ (List.mem_of_getElem? (l := tables_1_4) (i := 176) (by decide +kernel)))))), by decide +kernel⟩
set_option maxRecDepth 20000 in
theorem wmp3_4 : (.selects RX7 yX7_meets yX7_meets : Cond) ∈ zw := List.mem_filter.mpr ⟨List.mem_of_getElem? (l := lw_tbl) (i := 36) (by decide +kernel), by decide +kernel⟩
set_option maxRecDepth 20000 in
theorem wmt4_185 : (.code yX7_isAnswer cX7_isAnswer 2 (some .boolean) : Cond) ∈ zw := List.mem_filter.mpr ⟨List.mem_append_right _ (List.mem_append_right _ (List.mem_append_right _ (List.mem_append_right _ (List.mem_append_left _ (List.mem_of_getElem? (l := tables_1_4) (i := 185) (by decide +kernel)))))), by decide +kernel⟩
set_option maxRecDepth 20000 in
theorem wmt4_182 : (.methodLink RX7 200 yX7_isAnswer : Cond) ∈ zw := List.mem_filter.mpr ⟨List.mem_append_right _ (List.mem_append_right _ (List.mem_append_right _ (List.mem_append_right _ (List.mem_append_left _ (List.mem_of_getElem? (l := tables_1_4) (i := 182) (by decide +kernel)))))), by decide +kernel⟩
set_option maxRecDepth 20000 in
theorem wmt4_184 : (.instanceMethod yX7_isAnswer : Cond) ∈ zw := List.mem_filter.mpr ⟨List.mem_append_right _ (List.mem_append_right _ (List.mem_append_right _ (List.mem_append_right _ (List.mem_append_left _ (List.mem_of_getElem? (l := tables_1_4) (i := 184) (by decide +kernel)))))), by decide +kernel⟩
set_option maxRecDepth 20000 in
theorem wmp3_5 : (.selects RX7 yX7_isAnswer yX7_isAnswer : Cond) ∈ zw := List.mem_filter.mpr ⟨List.mem_of_getElem? (l := lw_tbl) (i := 37) (by decide +kernel), by decide +kernel⟩
set_option maxRecDepth 20000 in
theorem wmt4_193 : (.code yX7_isKnown cX7_isKnown 3 (some .boolean) : Cond) ∈ zw := List.mem_filter.mpr ⟨List.mem_append_right _ (List.mem_append_right _ (List.mem_append_right _ (List.mem_append_right _ (List.mem_append_left _ (List.mem_of_getElem? (l := tables_1_4) (i := 193) (by decide +kernel)))))), by decide +kernel⟩
set_option maxRecDepth 20000 in
theorem wmt4_190 : (.methodLink RX7 203 yX7_isKnown : Cond) ∈ zw := List.mem_filter.mpr ⟨List.mem_append_right _ (List.mem_append_right _ (List.mem_append_right _ (List.mem_append_right _ (List.mem_append_left _ (List.mem_of_getElem? (l := tables_1_4) (i := 190) (by decide +kernel)))))), by decide +kernel⟩
set_option maxRecDepth 20000 in
theorem wmt4_192 : (.instanceMethod yX7_isKnown : Cond) ∈ zw := List.mem_filter.mpr ⟨List.mem_append_right _ (List.mem_append_right _ (List.mem_append_right _ (List.mem_append_right _ (List.mem_append_left _ (List.mem_of_getElem? (l := tables_1_4) (i := 192) (by decide +kernel)))))), by decide +kernel⟩
set_option maxRecDepth 20000 in
theorem wmp3_6 : (.selects RX7 yX7_isKnown yX7_isKnown : Cond) ∈ zw := List.mem_filter.mpr ⟨List.mem_of_getElem? (l := lw_tbl) (i := 38) (by decide +kernel), by decide +kernel⟩
set_option maxRecDepth 20000 in
theorem wmt5_134 : (.code yX7_knownMany cX7_knownMany 4 (some .int) : Cond) ∈ zw := List.mem_filter.mpr ⟨List.mem_append_right _ (List.mem_append_right _ (List.mem_append_right _ (List.mem_append_right _ (List.mem_append_right _ (List.mem_of_getElem? (l := tables_1_5) (i := 134) (by decide +kernel)))))), by decide +kernel⟩
set_option maxRecDepth 20000 in
theorem wmt5_131 : (.methodLink RX7 302 yX7_knownMany : Cond) ∈ zw := List.mem_filter.mpr ⟨List.mem_append_right _ (List.mem_append_right _ (List.mem_append_right _ (List.mem_append_right _ (List.mem_append_right _ (List.mem_of_getElem? (l := tables_1_5) (i := 131) (by decide +kernel)))))), by decide +kernel⟩
set_option maxRecDepth 20000 in
theorem wmt5_133 : (.instanceMethod yX7_knownMany : Cond) ∈ zw := List.mem_filter.mpr ⟨List.mem_append_right _ (List.mem_append_right _ (List.mem_append_right _ (List.mem_append_right _ (List.mem_append_right _ (List.mem_of_getElem? (l := tables_1_5) (i := 133) (by decide +kernel)))))), by decide +kernel⟩
set_option maxRecDepth 20000 in
theorem wmp4_7 : (.selects RX7 yX7_knownMany yX7_knownMany : Cond) ∈ zw := List.mem_filter.mpr ⟨List.mem_of_getElem? (l := lw_tbl) (i := 55) (by decide +kernel), by decide +kernel⟩
set_option maxRecDepth 20000 in
theorem wmt3_195 : (.fieldLink RX7 206 "SecretLotsModel" "polled" "I" : Cond) ∈ zw := List.mem_filter.mpr ⟨List.mem_append_right _ (List.mem_append_right _ (List.mem_append_right _ (List.mem_append_left _ (List.mem_of_getElem? (l := tables_1_3) (i := 195) (by decide +kernel))))), by decide +kernel⟩
set_option maxRecDepth 20000 in
theorem wmt3_196 : (.fieldLink RX7 209 "SecretLotsModel" "polledYes" "I" : Cond) ∈ zw := List.mem_filter.mpr ⟨List.mem_append_right _ (List.mem_append_right _ (List.mem_append_right _ (List.mem_append_left _ (List.mem_of_getElem? (l := tables_1_3) (i := 196) (by decide +kernel))))), by decide +kernel⟩
set_option maxRecDepth 20000 in
theorem wmt4_204 : (.code yX7_isPoll cX7_isPoll 2 (some .boolean) : Cond) ∈ zw := List.mem_filter.mpr ⟨List.mem_append_right _ (List.mem_append_right _ (List.mem_append_right _ (List.mem_append_right _ (List.mem_append_left _ (List.mem_of_getElem? (l := tables_1_4) (i := 204) (by decide +kernel)))))), by decide +kernel⟩
set_option maxRecDepth 20000 in
theorem wmt4_202 : (.methodLink RX7 212 yX7_isPoll : Cond) ∈ zw := List.mem_filter.mpr ⟨List.mem_append_right _ (List.mem_append_right _ (List.mem_append_right _ (List.mem_append_right _ (List.mem_append_left _ (List.mem_of_getElem? (l := tables_1_4) (i := 202) (by decide +kernel)))))), by decide +kernel⟩
set_option maxRecDepth 20000 in
theorem wmt4_203 : (.static yX7_isPoll : Cond) ∈ zw := List.mem_filter.mpr ⟨List.mem_append_right _ (List.mem_append_right _ (List.mem_append_right _ (List.mem_append_right _ (List.mem_append_left _ (List.mem_of_getElem? (l := tables_1_4) (i := 203) (by decide +kernel)))))), by decide +kernel⟩
set_option maxRecDepth 20000 in
theorem wmt4_208 : (.code yX7_polls cX7_polls 6 none : Cond) ∈ zw := List.mem_filter.mpr ⟨List.mem_append_right _ (List.mem_append_right _ (List.mem_append_right _ (List.mem_append_right _ (List.mem_append_left _ (List.mem_of_getElem? (l := tables_1_4) (i := 208) (by decide +kernel)))))), by decide +kernel⟩
set_option maxRecDepth 20000 in
theorem wmt4_205 : (.methodLink RX7 216 yX7_polls : Cond) ∈ zw := List.mem_filter.mpr ⟨List.mem_append_right _ (List.mem_append_right _ (List.mem_append_right _ (List.mem_append_right _ (List.mem_append_left _ (List.mem_of_getElem? (l := tables_1_4) (i := 205) (by decide +kernel)))))), by decide +kernel⟩
set_option maxRecDepth 20000 in
theorem wmt4_207 : (.instanceMethod yX7_polls : Cond) ∈ zw := List.mem_filter.mpr ⟨List.mem_append_right _ (List.mem_append_right _ (List.mem_append_right _ (List.mem_append_right _ (List.mem_append_left _ (List.mem_of_getElem? (l := tables_1_4) (i := 207) (by decide +kernel)))))), by decide +kernel⟩
set_option maxRecDepth 20000 in
theorem wmp3_7 : (.selects RX7 yX7_polls yX7_polls : Cond) ∈ zw := List.mem_filter.mpr ⟨List.mem_of_getElem? (l := lw_tbl) (i := 39) (by decide +kernel), by decide +kernel⟩
set_option maxRecDepth 20000 in
theorem wmt4_235 : (.code yX7_choose cX7_choose 5 (some .long) : Cond) ∈ zw := List.mem_filter.mpr ⟨List.mem_append_right _ (List.mem_append_right _ (List.mem_append_right _ (List.mem_append_right _ (List.mem_append_left _ (List.mem_of_getElem? (l := tables_1_4) (i := 235) (by decide +kernel)))))), by decide +kernel⟩
set_option maxRecDepth 20000 in
theorem wmt4_233 : (.methodLink RX7 223 yX7_choose : Cond) ∈ zw := List.mem_filter.mpr ⟨List.mem_append_right _ (List.mem_append_right _ (List.mem_append_right _ (List.mem_append_right _ (List.mem_append_left _ (List.mem_of_getElem? (l := tables_1_4) (i := 233) (by decide +kernel)))))), by decide +kernel⟩
set_option maxRecDepth 20000 in
theorem wmt4_234 : (.static yX7_choose : Cond) ∈ zw := List.mem_filter.mpr ⟨List.mem_append_right _ (List.mem_append_right _ (List.mem_append_right _ (List.mem_append_right _ (List.mem_append_left _ (List.mem_of_getElem? (l := tables_1_4) (i := 234) (by decide +kernel)))))), by decide +kernel⟩
set_option maxRecDepth 20000 in
theorem wmt3_198 : (.fieldLink RX7 226 "SecretLotsModel" "hasNow" "J" : Cond) ∈ zw := List.mem_filter.mpr ⟨List.mem_append_right _ (List.mem_append_right _ (List.mem_append_right _ (List.mem_append_left _ (List.mem_of_getElem? (l := tables_1_3) (i := 198) (by decide +kernel))))), by decide +kernel⟩
set_option maxRecDepth 20000 in
theorem wmt4_238 : (.code yX7_power cX7_power 6 (some .long) : Cond) ∈ zw := List.mem_filter.mpr ⟨List.mem_append_right _ (List.mem_append_right _ (List.mem_append_right _ (List.mem_append_right _ (List.mem_append_left _ (List.mem_of_getElem? (l := tables_1_4) (i := 238) (by decide +kernel)))))), by decide +kernel⟩
set_option maxRecDepth 20000 in
theorem wmt4_236 : (.methodLink RX7 229 yX7_power : Cond) ∈ zw := List.mem_filter.mpr ⟨List.mem_append_right _ (List.mem_append_right _ (List.mem_append_right _ (List.mem_append_right _ (List.mem_append_left _ (List.mem_of_getElem? (l := tables_1_4) (i := 236) (by decide +kernel)))))), by decide +kernel⟩
set_option maxRecDepth 20000 in
theorem wmt4_237 : (.static yX7_power : Cond) ∈ zw := List.mem_filter.mpr ⟨List.mem_append_right _ (List.mem_append_right _ (List.mem_append_right _ (List.mem_append_right _ (List.mem_append_left _ (List.mem_of_getElem? (l := tables_1_4) (i := 237) (by decide +kernel)))))), by decide +kernel⟩
set_option maxRecDepth 20000 in
theorem wmt3_197 : (.fieldLink RX7 233 "SecretLotsModel" "unitNow" "J" : Cond) ∈ zw := List.mem_filter.mpr ⟨List.mem_append_right _ (List.mem_append_right _ (List.mem_append_right _ (List.mem_append_left _ (List.mem_of_getElem? (l := tables_1_3) (i := 197) (by decide +kernel))))), by decide +kernel⟩
set_option maxRecDepth 20000 in
theorem wmt3_199 : (.fieldLink RX7 236 "SecretLotsModel" "hasNotNow" "J" : Cond) ∈ zw := List.mem_filter.mpr ⟨List.mem_append_right _ (List.mem_append_right _ (List.mem_append_right _ (List.mem_append_left _ (List.mem_of_getElem? (l := tables_1_3) (i := 199) (by decide +kernel))))), by decide +kernel⟩
set_option maxRecDepth 20000 in
theorem wmt4_232 : (.code yX7_waysOf cX7_waysOf 12 (some .long) : Cond) ∈ zw := List.mem_filter.mpr ⟨List.mem_append_right _ (List.mem_append_right _ (List.mem_append_right _ (List.mem_append_right _ (List.mem_append_left _ (List.mem_of_getElem? (l := tables_1_4) (i := 232) (by decide +kernel)))))), by decide +kernel⟩
set_option maxRecDepth 20000 in
theorem wmt4_229 : (.methodLink RX7 242 yX7_waysOf : Cond) ∈ zw := List.mem_filter.mpr ⟨List.mem_append_right _ (List.mem_append_right _ (List.mem_append_right _ (List.mem_append_right _ (List.mem_append_left _ (List.mem_of_getElem? (l := tables_1_4) (i := 229) (by decide +kernel)))))), by decide +kernel⟩
set_option maxRecDepth 20000 in
theorem wmt4_231 : (.instanceMethod yX7_waysOf : Cond) ∈ zw := List.mem_filter.mpr ⟨List.mem_append_right _ (List.mem_append_right _ (List.mem_append_right _ (List.mem_append_right _ (List.mem_append_left _ (List.mem_of_getElem? (l := tables_1_4) (i := 231) (by decide +kernel)))))), by decide +kernel⟩
set_option maxRecDepth 20000 in
theorem wmp3_10 : (.selects RX7 yX7_waysOf yX7_waysOf : Cond) ∈ zw := List.mem_filter.mpr ⟨List.mem_of_getElem? (l := lw_tbl) (i := 42) (by decide +kernel), by decide +kernel⟩
set_option maxRecDepth 20000 in
theorem wmt4_228 : (.code yX7_refusesWays cX7_refusesWays 4 (some .int) : Cond) ∈ zw := List.mem_filter.mpr ⟨List.mem_append_right _ (List.mem_append_right _ (List.mem_append_right _ (List.mem_append_right _ (List.mem_append_left _ (List.mem_of_getElem? (l := tables_1_4) (i := 228) (by decide +kernel)))))), by decide +kernel⟩
set_option maxRecDepth 20000 in
theorem wmt4_225 : (.methodLink RX7 239 yX7_refusesWays : Cond) ∈ zw := List.mem_filter.mpr ⟨List.mem_append_right _ (List.mem_append_right _ (List.mem_append_right _ (List.mem_append_right _ (List.mem_append_left _ (List.mem_of_getElem? (l := tables_1_4) (i := 225) (by decide +kernel)))))), by decide +kernel⟩
set_option maxRecDepth 20000 in
theorem wmt4_227 : (.instanceMethod yX7_refusesWays : Cond) ∈ zw := List.mem_filter.mpr ⟨List.mem_append_right _ (List.mem_append_right _ (List.mem_append_right _ (List.mem_append_right _ (List.mem_append_left _ (List.mem_of_getElem? (l := tables_1_4) (i := 227) (by decide +kernel)))))), by decide +kernel⟩
set_option maxRecDepth 20000 in
theorem wmp3_9 : (.selects RX7 yX7_refusesWays yX7_refusesWays : Cond) ∈ zw := List.mem_filter.mpr ⟨List.mem_of_getElem? (l := lw_tbl) (i := 41) (by decide +kernel), by decide +kernel⟩
set_option maxRecDepth 20000 in
theorem wmt5_10 : (.code yX7_likelyNow cX7_likelyNow 3 (some .int) : Cond) ∈ zw := List.mem_filter.mpr ⟨List.mem_append_right _ (List.mem_append_right _ (List.mem_append_right _ (List.mem_append_right _ (List.mem_append_right _ (List.mem_of_getElem? (l := tables_1_5) (i := 10) (by decide +kernel)))))), by decide +kernel⟩
set_option maxRecDepth 20000 in
theorem wmt5_7 : (.methodLink RX7 245 yX7_likelyNow : Cond) ∈ zw := List.mem_filter.mpr ⟨List.mem_append_right _ (List.mem_append_right _ (List.mem_append_right _ (List.mem_append_right _ (List.mem_append_right _ (List.mem_of_getElem? (l := tables_1_5) (i := 7) (by decide +kernel)))))), by decide +kernel⟩
set_option maxRecDepth 20000 in
theorem wmt5_9 : (.instanceMethod yX7_likelyNow : Cond) ∈ zw := List.mem_filter.mpr ⟨List.mem_append_right _ (List.mem_append_right _ (List.mem_append_right _ (List.mem_append_right _ (List.mem_append_right _ (List.mem_of_getElem? (l := tables_1_5) (i := 9) (by decide +kernel)))))), by decide +kernel⟩
set_option maxRecDepth 20000 in
theorem wmp3_12 : (.selects RX7 yX7_likelyNow yX7_likelyNow : Cond) ∈ zw := List.mem_filter.mpr ⟨List.mem_of_getElem? (l := lw_tbl) (i := 44) (by decide +kernel), by decide +kernel⟩
set_option maxRecDepth 20000 in
theorem wmt5_6 : (.code yX7_likelyOf cX7_likelyOf 4 (some .int) : Cond) ∈ zw := List.mem_filter.mpr ⟨List.mem_append_right _ (List.mem_append_right _ (List.mem_append_right _ (List.mem_append_right _ (List.mem_append_right _ (List.mem_of_getElem? (l := tables_1_5) (i := 6) (by decide +kernel)))))), by decide +kernel⟩
set_option maxRecDepth 20000 in
theorem wmt5_3 : (.methodLink RX7 248 yX7_likelyOf : Cond) ∈ zw := List.mem_filter.mpr ⟨List.mem_append_right _ (List.mem_append_right _ (List.mem_append_right _ (List.mem_append_right _ (List.mem_append_right _ (List.mem_of_getElem? (l := tables_1_5) (i := 3) (by decide +kernel)))))), by decide +kernel⟩
set_option maxRecDepth 20000 in
theorem wmt5_5 : (.instanceMethod yX7_likelyOf : Cond) ∈ zw := List.mem_filter.mpr ⟨List.mem_append_right _ (List.mem_append_right _ (List.mem_append_right _ (List.mem_append_right _ (List.mem_append_right _ (List.mem_of_getElem? (l := tables_1_5) (i := 5) (by decide +kernel)))))), by decide +kernel⟩
set_option maxRecDepth 20000 in
theorem wmp3_11 : (.selects RX7 yX7_likelyOf yX7_likelyOf : Cond) ∈ zw := List.mem_filter.mpr ⟨List.mem_of_getElem? (l := lw_tbl) (i := 43) (by decide +kernel), by decide +kernel⟩
set_option maxRecDepth 20000 in
theorem wmt5_15 : (.constantLong RX7 251 (100) : Cond) ∈ zw := List.mem_filter.mpr ⟨List.mem_append_right _ (List.mem_append_right _ (List.mem_append_right _ (List.mem_append_right _ (List.mem_append_right _ (List.mem_of_getElem? (l := tables_1_5) (i := 15) (by decide +kernel)))))), by decide +kernel⟩
set_option maxRecDepth 20000 in
theorem wmt5_27 : (.constantLong RX7 253 (10) : Cond) ∈ zw := List.mem_filter.mpr ⟨List.mem_append_right _ (List.mem_append_right _ (List.mem_append_right _ (List.mem_append_right _ (List.mem_append_right _ (List.mem_of_getElem? (l := tables_1_5) (i := 27) (by decide +kernel)))))), by decide +kernel⟩
set_option maxRecDepth 20000 in
theorem wmt5_26 : (.code yX7_millionths cX7_millionths 8 (some .int) : Cond) ∈ zw := List.mem_filter.mpr ⟨List.mem_append_right _ (List.mem_append_right _ (List.mem_append_right _ (List.mem_append_right _ (List.mem_append_right _ (List.mem_of_getElem? (l := tables_1_5) (i := 26) (by decide +kernel)))))), by decide +kernel⟩
set_option maxRecDepth 20000 in
theorem wmt5_24 : (.methodLink RX7 255 yX7_millionths : Cond) ∈ zw := List.mem_filter.mpr ⟨List.mem_append_right _ (List.mem_append_right _ (List.mem_append_right _ (List.mem_append_right _ (List.mem_append_right _ (List.mem_of_getElem? (l := tables_1_5) (i := 24) (by decide +kernel)))))), by decide +kernel⟩
set_option maxRecDepth 20000 in
theorem wmt5_25 : (.static yX7_millionths : Cond) ∈ zw := List.mem_filter.mpr ⟨List.mem_append_right _ (List.mem_append_right _ (List.mem_append_right _ (List.mem_append_right _ (List.mem_append_right _ (List.mem_of_getElem? (l := tables_1_5) (i := 25) (by decide +kernel)))))), by decide +kernel⟩
set_option maxRecDepth 20000 in
theorem wmt5_23 : (.code yX7_shareOfWays cX7_shareOfWays 7 (some .int) : Cond) ∈ zw := List.mem_filter.mpr ⟨List.mem_append_right _ (List.mem_append_right _ (List.mem_append_right _ (List.mem_append_right _ (List.mem_append_right _ (List.mem_of_getElem? (l := tables_1_5) (i := 23) (by decide +kernel)))))), by decide +kernel⟩
set_option maxRecDepth 20000 in
theorem wmt5_20 : (.methodLink RX7 259 yX7_shareOfWays : Cond) ∈ zw := List.mem_filter.mpr ⟨List.mem_append_right _ (List.mem_append_right _ (List.mem_append_right _ (List.mem_append_right _ (List.mem_append_right _ (List.mem_of_getElem? (l := tables_1_5) (i := 20) (by decide +kernel)))))), by decide +kernel⟩
set_option maxRecDepth 20000 in
theorem wmt5_22 : (.instanceMethod yX7_shareOfWays : Cond) ∈ zw := List.mem_filter.mpr ⟨List.mem_append_right _ (List.mem_append_right _ (List.mem_append_right _ (List.mem_append_right _ (List.mem_append_right _ (List.mem_of_getElem? (l := tables_1_5) (i := 22) (by decide +kernel)))))), by decide +kernel⟩
set_option maxRecDepth 20000 in
theorem wmp3_13 : (.selects RX7 yX7_shareOfWays yX7_shareOfWays : Cond) ∈ zw := List.mem_filter.mpr ⟨List.mem_of_getElem? (l := lw_tbl) (i := 45) (by decide +kernel), by decide +kernel⟩
set_option maxRecDepth 20000 in
theorem wmt4_216 : (.code yX7_more cX7_more 2 (some .long) : Cond) ∈ zw := List.mem_filter.mpr ⟨List.mem_append_right _ (List.mem_append_right _ (List.mem_append_right _ (List.mem_append_right _ (List.mem_append_left _ (List.mem_of_getElem? (l := tables_1_4) (i := 216) (by decide +kernel)))))), by decide +kernel⟩
set_option maxRecDepth 20000 in
theorem wmt4_213 : (.methodLink RX7 220 yX7_more : Cond) ∈ zw := List.mem_filter.mpr ⟨List.mem_append_right _ (List.mem_append_right _ (List.mem_append_right _ (List.mem_append_right _ (List.mem_append_left _ (List.mem_of_getElem? (l := tables_1_4) (i := 213) (by decide +kernel)))))), by decide +kernel⟩
set_option maxRecDepth 20000 in
theorem wmt4_215 : (.instanceMethod yX7_more : Cond) ∈ zw := List.mem_filter.mpr ⟨List.mem_append_right _ (List.mem_append_right _ (List.mem_append_right _ (List.mem_append_right _ (List.mem_append_left _ (List.mem_of_getElem? (l := tables_1_4) (i := 215) (by decide +kernel)))))), by decide +kernel⟩
set_option maxRecDepth 20000 in
theorem wmp3_8 : (.selects RX7 yX7_more yX7_more : Cond) ∈ zw := List.mem_filter.mpr ⟨List.mem_of_getElem? (l := lw_tbl) (i := 40) (by decide +kernel), by decide +kernel⟩
set_option maxRecDepth 20000 in
theorem wmt5_35 : (.code yX7_gives cX7_gives 7 (some .boolean) : Cond) ∈ zw := List.mem_filter.mpr ⟨List.mem_append_right _ (List.mem_append_right _ (List.mem_append_right _ (List.mem_append_right _ (List.mem_append_right _ (List.mem_of_getElem? (l := tables_1_5) (i := 35) (by decide +kernel)))))), by decide +kernel⟩
set_option maxRecDepth 20000 in
theorem wmt5_32 : (.methodLink RX7 262 yX7_gives : Cond) ∈ zw := List.mem_filter.mpr ⟨List.mem_append_right _ (List.mem_append_right _ (List.mem_append_right _ (List.mem_append_right _ (List.mem_append_right _ (List.mem_of_getElem? (l := tables_1_5) (i := 32) (by decide +kernel)))))), by decide +kernel⟩
set_option maxRecDepth 20000 in
theorem wmt5_34 : (.instanceMethod yX7_gives : Cond) ∈ zw := List.mem_filter.mpr ⟨List.mem_append_right _ (List.mem_append_right _ (List.mem_append_right _ (List.mem_append_right _ (List.mem_append_right _ (List.mem_of_getElem? (l := tables_1_5) (i := 34) (by decide +kernel)))))), by decide +kernel⟩
set_option maxRecDepth 20000 in
theorem wmp3_14 : (.selects RX7 yX7_gives yX7_gives : Cond) ∈ zw := List.mem_filter.mpr ⟨List.mem_of_getElem? (l := lw_tbl) (i := 46) (by decide +kernel), by decide +kernel⟩
set_option maxRecDepth 20000 in
theorem wmt3_200 : (.fieldLink RX7 265 "SecretLotsModel" "isNone" "Z" : Cond) ∈ zw := List.mem_filter.mpr ⟨List.mem_append_right _ (List.mem_append_right _ (List.mem_append_right _ (List.mem_append_left _ (List.mem_of_getElem? (l := tables_1_3) (i := 200) (by decide +kernel))))), by decide +kernel⟩
set_option maxRecDepth 20000 in
theorem wmt3_201 : (.fieldLink RX7 76 "SecretLotsModel" "counts" "[I" : Cond) ∈ zw := List.mem_filter.mpr ⟨List.mem_append_right _ (List.mem_append_right _ (List.mem_append_right _ (List.mem_append_left _ (List.mem_of_getElem? (l := tables_1_3) (i := 201) (by decide +kernel))))), by decide +kernel⟩
set_option maxRecDepth 20000 in
theorem wmt5_48 : (.constantLong RX7 269 (1000000000) : Cond) ∈ zw := List.mem_filter.mpr ⟨List.mem_append_right _ (List.mem_append_right _ (List.mem_append_right _ (List.mem_append_right _ (List.mem_append_right _ (List.mem_of_getElem? (l := tables_1_5) (i := 48) (by decide +kernel)))))), by decide +kernel⟩
set_option maxRecDepth 20000 in
theorem wmt5_47 : (.code yX7_givenOf cX7_givenOf 11 (some .int) : Cond) ∈ zw := List.mem_filter.mpr ⟨List.mem_append_right _ (List.mem_append_right _ (List.mem_append_right _ (List.mem_append_right _ (List.mem_append_right _ (List.mem_of_getElem? (l := tables_1_5) (i := 47) (by decide +kernel)))))), by decide +kernel⟩
set_option maxRecDepth 20000 in
theorem wmt5_44 : (.methodLink RX7 271 yX7_givenOf : Cond) ∈ zw := List.mem_filter.mpr ⟨List.mem_append_right _ (List.mem_append_right _ (List.mem_append_right _ (List.mem_append_right _ (List.mem_append_right _ (List.mem_of_getElem? (l := tables_1_5) (i := 44) (by decide +kernel)))))), by decide +kernel⟩
set_option maxRecDepth 20000 in
theorem wmt5_46 : (.instanceMethod yX7_givenOf : Cond) ∈ zw := List.mem_filter.mpr ⟨List.mem_append_right _ (List.mem_append_right _ (List.mem_append_right _ (List.mem_append_right _ (List.mem_append_right _ (List.mem_of_getElem? (l := tables_1_5) (i := 46) (by decide +kernel)))))), by decide +kernel⟩
set_option maxRecDepth 20000 in
theorem wmp4_0 : (.selects RX7 yX7_givenOf yX7_givenOf : Cond) ∈ zw := List.mem_filter.mpr ⟨List.mem_of_getElem? (l := lw_tbl) (i := 48) (by decide +kernel), by decide +kernel⟩
set_option maxRecDepth 20000 in
theorem wmt5_43 : (.code yX7_givenTold cX7_givenTold 4 (some .long) : Cond) ∈ zw := List.mem_filter.mpr ⟨List.mem_append_right _ (List.mem_append_right _ (List.mem_append_right _ (List.mem_append_right _ (List.mem_append_right _ (List.mem_of_getElem? (l := tables_1_5) (i := 43) (by decide +kernel)))))), by decide +kernel⟩
set_option maxRecDepth 20000 in
theorem wmt5_40 : (.methodLink RX7 274 yX7_givenTold : Cond) ∈ zw := List.mem_filter.mpr ⟨List.mem_append_right _ (List.mem_append_right _ (List.mem_append_right _ (List.mem_append_right _ (List.mem_append_right _ (List.mem_of_getElem? (l := tables_1_5) (i := 40) (by decide +kernel)))))), by decide +kernel⟩
set_option maxRecDepth 20000 in
theorem wmt5_42 : (.instanceMethod yX7_givenTold : Cond) ∈ zw := List.mem_filter.mpr ⟨List.mem_append_right _ (List.mem_append_right _ (List.mem_append_right _ (List.mem_append_right _ (List.mem_append_right _ (List.mem_of_getElem? (l := tables_1_5) (i := 42) (by decide +kernel)))))), by decide +kernel⟩
set_option maxRecDepth 20000 in
theorem wmp3_15 : (.selects RX7 yX7_givenTold yX7_givenTold : Cond) ∈ zw := List.mem_filter.mpr ⟨List.mem_of_getElem? (l := lw_tbl) (i := 47) (by decide +kernel), by decide +kernel⟩
set_option maxRecDepth 20000 in
theorem wmt5_60 : (.code yX7_isExposed cX7_isExposed 6 (some .boolean) : Cond) ∈ zw := List.mem_filter.mpr ⟨List.mem_append_right _ (List.mem_append_right _ (List.mem_append_right _ (List.mem_append_right _ (List.mem_append_right _ (List.mem_of_getElem? (l := tables_1_5) (i := 60) (by decide +kernel)))))), by decide +kernel⟩
set_option maxRecDepth 20000 in
theorem wmt5_57 : (.methodLink RX7 277 yX7_isExposed : Cond) ∈ zw := List.mem_filter.mpr ⟨List.mem_append_right _ (List.mem_append_right _ (List.mem_append_right _ (List.mem_append_right _ (List.mem_append_right _ (List.mem_of_getElem? (l := tables_1_5) (i := 57) (by decide +kernel)))))), by decide +kernel⟩
set_option maxRecDepth 20000 in
theorem wmt5_59 : (.instanceMethod yX7_isExposed : Cond) ∈ zw := List.mem_filter.mpr ⟨List.mem_append_right _ (List.mem_append_right _ (List.mem_append_right _ (List.mem_append_right _ (List.mem_append_right _ (List.mem_of_getElem? (l := tables_1_5) (i := 59) (by decide +kernel)))))), by decide +kernel⟩
set_option maxRecDepth 20000 in
theorem wmp4_1 : (.selects RX7 yX7_isExposed yX7_isExposed : Cond) ∈ zw := List.mem_filter.mpr ⟨List.mem_of_getElem? (l := lw_tbl) (i := 49) (by decide +kernel), by decide +kernel⟩
set_option maxRecDepth 20000 in
theorem wmt5_76 : (.code yX7_isWithin cX7_isWithin 5 (some .boolean) : Cond) ∈ zw := List.mem_filter.mpr ⟨List.mem_append_right _ (List.mem_append_right _ (List.mem_append_right _ (List.mem_append_right _ (List.mem_append_right _ (List.mem_of_getElem? (l := tables_1_5) (i := 76) (by decide +kernel)))))), by decide +kernel⟩
set_option maxRecDepth 20000 in
theorem wmt5_73 : (.methodLink RX7 280 yX7_isWithin : Cond) ∈ zw := List.mem_filter.mpr ⟨List.mem_append_right _ (List.mem_append_right _ (List.mem_append_right _ (List.mem_append_right _ (List.mem_append_right _ (List.mem_of_getElem? (l := tables_1_5) (i := 73) (by decide +kernel)))))), by decide +kernel⟩
set_option maxRecDepth 20000 in
theorem wmt5_75 : (.instanceMethod yX7_isWithin : Cond) ∈ zw := List.mem_filter.mpr ⟨List.mem_append_right _ (List.mem_append_right _ (List.mem_append_right _ (List.mem_append_right _ (List.mem_append_right _ (List.mem_of_getElem? (l := tables_1_5) (i := 75) (by decide +kernel)))))), by decide +kernel⟩
set_option maxRecDepth 20000 in
theorem wmp4_3 : (.selects RX7 yX7_isWithin yX7_isWithin : Cond) ∈ zw := List.mem_filter.mpr ⟨List.mem_of_getElem? (l := lw_tbl) (i := 51) (by decide +kernel), by decide +kernel⟩
set_option maxRecDepth 20000 in
theorem wmt5_72 : (.code yX7_mayOf cX7_mayOf 10 (some .int) : Cond) ∈ zw := List.mem_filter.mpr ⟨List.mem_append_right _ (List.mem_append_right _ (List.mem_append_right _ (List.mem_append_right _ (List.mem_append_right _ (List.mem_of_getElem? (l := tables_1_5) (i := 72) (by decide +kernel)))))), by decide +kernel⟩
set_option maxRecDepth 20000 in
theorem wmt5_69 : (.methodLink RX7 284 yX7_mayOf : Cond) ∈ zw := List.mem_filter.mpr ⟨List.mem_append_right _ (List.mem_append_right _ (List.mem_append_right _ (List.mem_append_right _ (List.mem_append_right _ (List.mem_of_getElem? (l := tables_1_5) (i := 69) (by decide +kernel)))))), by decide +kernel⟩
set_option maxRecDepth 20000 in
theorem wmt5_71 : (.instanceMethod yX7_mayOf : Cond) ∈ zw := List.mem_filter.mpr ⟨List.mem_append_right _ (List.mem_append_right _ (List.mem_append_right _ (List.mem_append_right _ (List.mem_append_right _ (List.mem_of_getElem? (l := tables_1_5) (i := 71) (by decide +kernel)))))), by decide +kernel⟩
set_option maxRecDepth 20000 in
theorem wmp4_2 : (.selects RX7 yX7_mayOf yX7_mayOf : Cond) ∈ zw := List.mem_filter.mpr ⟨List.mem_of_getElem? (l := lw_tbl) (i := 50) (by decide +kernel), by decide +kernel⟩
set_option maxRecDepth 20000 in
theorem wmt3_204 : (.fieldLink RX7 85 "SecretLotsModel" "types" "[I" : Cond) ∈ zw := List.mem_filter.mpr ⟨List.mem_append_right _ (List.mem_append_right _ (List.mem_append_right _ (List.mem_append_left _ (List.mem_of_getElem? (l := tables_1_3) (i := 204) (by decide +kernel))))), by decide +kernel⟩
set_option maxRecDepth 20000 in
theorem wmt5_109 : (.code yX7_lacks cX7_lacks 4 (some .int) : Cond) ∈ zw := List.mem_filter.mpr ⟨List.mem_append_right _ (List.mem_append_right _ (List.mem_append_right _ (List.mem_append_right _ (List.mem_append_right _ (List.mem_of_getElem? (l := tables_1_5) (i := 109) (by decide +kernel)))))), by decide +kernel⟩
set_option maxRecDepth 20000 in
theorem wmt5_106 : (.methodLink RX7 294 yX7_lacks : Cond) ∈ zw := List.mem_filter.mpr ⟨List.mem_append_right _ (List.mem_append_right _ (List.mem_append_right _ (List.mem_append_right _ (List.mem_append_right _ (List.mem_of_getElem? (l := tables_1_5) (i := 106) (by decide +kernel)))))), by decide +kernel⟩
set_option maxRecDepth 20000 in
theorem wmt5_108 : (.instanceMethod yX7_lacks : Cond) ∈ zw := List.mem_filter.mpr ⟨List.mem_append_right _ (List.mem_append_right _ (List.mem_append_right _ (List.mem_append_right _ (List.mem_append_right _ (List.mem_of_getElem? (l := tables_1_5) (i := 108) (by decide +kernel)))))), by decide +kernel⟩
set_option maxRecDepth 20000 in
theorem wmp4_5 : (.selects RX7 yX7_lacks yX7_lacks : Cond) ∈ zw := List.mem_filter.mpr ⟨List.mem_of_getElem? (l := lw_tbl) (i := 53) (by decide +kernel), by decide +kernel⟩
set_option maxRecDepth 20000 in
theorem wmt5_113 : (.code yX7_lay cX7_lay 4 none : Cond) ∈ zw := List.mem_filter.mpr ⟨List.mem_append_right _ (List.mem_append_right _ (List.mem_append_right _ (List.mem_append_right _ (List.mem_append_right _ (List.mem_of_getElem? (l := tables_1_5) (i := 113) (by decide +kernel)))))), by decide +kernel⟩
set_option maxRecDepth 20000 in
theorem wmt5_110 : (.methodLink RX7 297 yX7_lay : Cond) ∈ zw := List.mem_filter.mpr ⟨List.mem_append_right _ (List.mem_append_right _ (List.mem_append_right _ (List.mem_append_right _ (List.mem_append_right _ (List.mem_of_getElem? (l := tables_1_5) (i := 110) (by decide +kernel)))))), by decide +kernel⟩
set_option maxRecDepth 20000 in
theorem wmt5_112 : (.instanceMethod yX7_lay : Cond) ∈ zw := List.mem_filter.mpr ⟨List.mem_append_right _ (List.mem_append_right _ (List.mem_append_right _ (List.mem_append_right _ (List.mem_append_right _ (List.mem_of_getElem? (l := tables_1_5) (i := 112) (by decide +kernel)))))), by decide +kernel⟩
set_option maxRecDepth 20000 in
theorem wmp4_6 : (.selects RX7 yX7_lay yX7_lay : Cond) ∈ zw := List.mem_filter.mpr ⟨List.mem_of_getElem? (l := lw_tbl) (i := 54) (by decide +kernel), by decide +kernel⟩
set_option maxRecDepth 20000 in
theorem wmt5_118 : (.constant RX7 301 (-2147483648) : Cond) ∈ zw := List.mem_filter.mpr ⟨List.mem_append_right _ (List.mem_append_right _ (List.mem_append_right _ (List.mem_append_right _ (List.mem_append_right _ (List.mem_of_getElem? (l := tables_1_5) (i := 118) (by decide +kernel)))))), by decide +kernel⟩
set_option maxRecDepth 20000 in
theorem wmt3_207 : (.fieldLink RX7 94 "SecretLotsModel" "moved" "[I" : Cond) ∈ zw := List.mem_filter.mpr ⟨List.mem_append_right _ (List.mem_append_right _ (List.mem_append_right _ (List.mem_append_left _ (List.mem_of_getElem? (l := tables_1_3) (i := 207) (by decide +kernel))))), by decide +kernel⟩
set_option maxRecDepth 20000 in
theorem wmt5_139 : (.constantLong RX7 306 (17) : Cond) ∈ zw := List.mem_filter.mpr ⟨List.mem_append_right _ (List.mem_append_right _ (List.mem_append_right _ (List.mem_append_right _ (List.mem_append_right _ (List.mem_of_getElem? (l := tables_1_5) (i := 139) (by decide +kernel)))))), by decide +kernel⟩
set_option maxRecDepth 20000 in
theorem wmt5_140 : (.constantLong RX7 308 (31) : Cond) ∈ zw := List.mem_filter.mpr ⟨List.mem_append_right _ (List.mem_append_right _ (List.mem_append_right _ (List.mem_append_right _ (List.mem_append_right _ (List.mem_of_getElem? (l := tables_1_5) (i := 140) (by decide +kernel)))))), by decide +kernel⟩
set_option maxRecDepth 20000 in
theorem wmt5_130 : (.code yX7_count cX7_count 2 (some .int) : Cond) ∈ zw := List.mem_filter.mpr ⟨List.mem_append_right _ (List.mem_append_right _ (List.mem_append_right _ (List.mem_append_right _ (List.mem_append_right _ (List.mem_of_getElem? (l := tables_1_5) (i := 130) (by decide +kernel)))))), by decide +kernel⟩
set_option maxRecDepth 20000 in
theorem wmt5_141 : (.methodLink RX7 310 yX7_count : Cond) ∈ zw := List.mem_filter.mpr ⟨List.mem_append_right _ (List.mem_append_right _ (List.mem_append_right _ (List.mem_append_right _ (List.mem_append_right _ (List.mem_of_getElem? (l := tables_1_5) (i := 141) (by decide +kernel)))))), by decide +kernel⟩
set_option maxRecDepth 20000 in
theorem wmt5_128 : (.instanceMethod yX7_count : Cond) ∈ zw := List.mem_filter.mpr ⟨List.mem_append_right _ (List.mem_append_right _ (List.mem_append_right _ (List.mem_append_right _ (List.mem_append_right _ (List.mem_of_getElem? (l := tables_1_5) (i := 128) (by decide +kernel)))))), by decide +kernel⟩
set_option maxRecDepth 20000 in
theorem wmt5_129 : (.selects RX7 yX7_count yX7_count : Cond) ∈ zw := List.mem_filter.mpr ⟨List.mem_append_right _ (List.mem_append_right _ (List.mem_append_right _ (List.mem_append_right _ (List.mem_append_right _ (List.mem_of_getElem? (l := tables_1_5) (i := 129) (by decide +kernel)))))), by decide +kernel⟩
set_option maxRecDepth 20000 in
theorem wmt5_81 : (.constantLong RX7 287 (2400) : Cond) ∈ zw := List.mem_filter.mpr ⟨List.mem_append_right _ (List.mem_append_right _ (List.mem_append_right _ (List.mem_append_right _ (List.mem_append_right _ (List.mem_of_getElem? (l := tables_1_5) (i := 81) (by decide +kernel)))))), by decide +kernel⟩
set_option maxRecDepth 20000 in
theorem wmt5_89 : (.code yX7_counts cX7_counts 4 (some .long) : Cond) ∈ zw := List.mem_filter.mpr ⟨List.mem_append_right _ (List.mem_append_right _ (List.mem_append_right _ (List.mem_append_right _ (List.mem_append_right _ (List.mem_of_getElem? (l := tables_1_5) (i := 89) (by decide +kernel)))))), by decide +kernel⟩
set_option maxRecDepth 20000 in
theorem wmt5_86 : (.methodLink RX7 289 yX7_counts : Cond) ∈ zw := List.mem_filter.mpr ⟨List.mem_append_right _ (List.mem_append_right _ (List.mem_append_right _ (List.mem_append_right _ (List.mem_append_right _ (List.mem_of_getElem? (l := tables_1_5) (i := 86) (by decide +kernel)))))), by decide +kernel⟩
set_option maxRecDepth 20000 in
theorem wmt5_88 : (.instanceMethod yX7_counts : Cond) ∈ zw := List.mem_filter.mpr ⟨List.mem_append_right _ (List.mem_append_right _ (List.mem_append_right _ (List.mem_append_right _ (List.mem_append_right _ (List.mem_of_getElem? (l := tables_1_5) (i := 88) (by decide +kernel)))))), by decide +kernel⟩
set_option maxRecDepth 20000 in
theorem wmp4_4 : (.selects RX7 yX7_counts yX7_counts : Cond) ∈ zw := List.mem_filter.mpr ⟨List.mem_of_getElem? (l := lw_tbl) (i := 52) (by decide +kernel), by decide +kernel⟩
set_option maxRecDepth 20000 in
theorem wmt1_207 : (.methodLink RL 13 yX6_type : Cond) ∈ zw := List.mem_filter.mpr ⟨List.mem_append_right _ (List.mem_append_left _ (List.mem_of_getElem? (l := tables_1_1) (i := 207) (by decide +kernel))), by decide +kernel⟩
set_option maxRecDepth 20000 in
theorem wmt1_208 : (.instanceMethod yX6_type : Cond) ∈ zw := List.mem_filter.mpr ⟨List.mem_append_right _ (List.mem_append_left _ (List.mem_of_getElem? (l := tables_1_1) (i := 208) (by decide +kernel))), by decide +kernel⟩
set_option maxRecDepth 20000 in
theorem wmt1_209 : (.selects RX6 yX6_type yX6_type : Cond) ∈ zw := List.mem_filter.mpr ⟨List.mem_append_right _ (List.mem_append_left _ (List.mem_of_getElem? (l := tables_1_1) (i := 209) (by decide +kernel))), by decide +kernel⟩
set_option maxRecDepth 20000 in
theorem wmt1_210 : (.code yX6_type cX6_type 4 (some .int) : Cond) ∈ zw := List.mem_filter.mpr ⟨List.mem_append_right _ (List.mem_append_left _ (List.mem_of_getElem? (l := tables_1_1) (i := 210) (by decide +kernel))), by decide +kernel⟩
set_option maxRecDepth 20000 in
theorem wmt4_55 : (.methodLink RL 17 yX7_type : Cond) ∈ zw := List.mem_filter.mpr ⟨List.mem_append_right _ (List.mem_append_right _ (List.mem_append_right _ (List.mem_append_right _ (List.mem_append_left _ (List.mem_of_getElem? (l := tables_1_4) (i := 55) (by decide +kernel)))))), by decide +kernel⟩
set_option maxRecDepth 20000 in
theorem wmt4_56 : (.instanceMethod yX7_type : Cond) ∈ zw := List.mem_filter.mpr ⟨List.mem_append_right _ (List.mem_append_right _ (List.mem_append_right _ (List.mem_append_right _ (List.mem_append_left _ (List.mem_of_getElem? (l := tables_1_4) (i := 56) (by decide +kernel)))))), by decide +kernel⟩
set_option maxRecDepth 20000 in
theorem wmt4_57 : (.selects RX7 yX7_type yX7_type : Cond) ∈ zw := List.mem_filter.mpr ⟨List.mem_append_right _ (List.mem_append_right _ (List.mem_append_right _ (List.mem_append_right _ (List.mem_append_left _ (List.mem_of_getElem? (l := tables_1_4) (i := 57) (by decide +kernel)))))), by decide +kernel⟩
set_option maxRecDepth 20000 in
theorem wmt4_58 : (.code yX7_type cX7_type 3 (some .int) : Cond) ∈ zw := List.mem_filter.mpr ⟨List.mem_append_right _ (List.mem_append_right _ (List.mem_append_right _ (List.mem_append_right _ (List.mem_append_left _ (List.mem_of_getElem? (l := tables_1_4) (i := 58) (by decide +kernel)))))), by decide +kernel⟩
set_option maxRecDepth 20000 in
theorem wmt2_28 : (.methodLink RL 18 yX6_wipe : Cond) ∈ zw := List.mem_filter.mpr ⟨List.mem_append_right _ (List.mem_append_right _ (List.mem_append_left _ (List.mem_of_getElem? (l := tables_1_2) (i := 28) (by decide +kernel)))), by decide +kernel⟩
set_option maxRecDepth 20000 in
theorem wmt2_29 : (.instanceMethod yX6_wipe : Cond) ∈ zw := List.mem_filter.mpr ⟨List.mem_append_right _ (List.mem_append_right _ (List.mem_append_left _ (List.mem_of_getElem? (l := tables_1_2) (i := 29) (by decide +kernel)))), by decide +kernel⟩
set_option maxRecDepth 20000 in
theorem wmt2_30 : (.selects RX6 yX6_wipe yX6_wipe : Cond) ∈ zw := List.mem_filter.mpr ⟨List.mem_append_right _ (List.mem_append_right _ (List.mem_append_left _ (List.mem_of_getElem? (l := tables_1_2) (i := 30) (by decide +kernel)))), by decide +kernel⟩
set_option maxRecDepth 20000 in
theorem wmt2_31 : (.code yX6_wipe cX6_wipe 4 (some .int) : Cond) ∈ zw := List.mem_filter.mpr ⟨List.mem_append_right _ (List.mem_append_right _ (List.mem_append_left _ (List.mem_of_getElem? (l := tables_1_2) (i := 31) (by decide +kernel)))), by decide +kernel⟩
set_option maxRecDepth 20000 in
theorem wmt4_65 : (.methodLink RL 22 yX7_wipe : Cond) ∈ zw := List.mem_filter.mpr ⟨List.mem_append_right _ (List.mem_append_right _ (List.mem_append_right _ (List.mem_append_right _ (List.mem_append_left _ (List.mem_of_getElem? (l := tables_1_4) (i := 65) (by decide +kernel)))))), by decide +kernel⟩
set_option maxRecDepth 20000 in
theorem wmt4_66 : (.instanceMethod yX7_wipe : Cond) ∈ zw := List.mem_filter.mpr ⟨List.mem_append_right _ (List.mem_append_right _ (List.mem_append_right _ (List.mem_append_right _ (List.mem_append_left _ (List.mem_of_getElem? (l := tables_1_4) (i := 66) (by decide +kernel)))))), by decide +kernel⟩
set_option maxRecDepth 20000 in
theorem wmt4_67 : (.selects RX7 yX7_wipe yX7_wipe : Cond) ∈ zw := List.mem_filter.mpr ⟨List.mem_append_right _ (List.mem_append_right _ (List.mem_append_right _ (List.mem_append_right _ (List.mem_append_left _ (List.mem_of_getElem? (l := tables_1_4) (i := 67) (by decide +kernel)))))), by decide +kernel⟩
set_option maxRecDepth 20000 in
theorem wmt4_68 : (.code yX7_wipe cX7_wipe 3 (some .int) : Cond) ∈ zw := List.mem_filter.mpr ⟨List.mem_append_right _ (List.mem_append_right _ (List.mem_append_right _ (List.mem_append_right _ (List.mem_append_left _ (List.mem_of_getElem? (l := tables_1_4) (i := 68) (by decide +kernel)))))), by decide +kernel⟩
set_option maxRecDepth 20000 in
theorem wmt2_36 : (.methodLink RL 23 yX6_fault : Cond) ∈ zw := List.mem_filter.mpr ⟨List.mem_append_right _ (List.mem_append_right _ (List.mem_append_left _ (List.mem_of_getElem? (l := tables_1_2) (i := 36) (by decide +kernel)))), by decide +kernel⟩
set_option maxRecDepth 20000 in
theorem wmt4_69 : (.methodLink RL 26 yX7_fault : Cond) ∈ zw := List.mem_filter.mpr ⟨List.mem_append_right _ (List.mem_append_right _ (List.mem_append_right _ (List.mem_append_right _ (List.mem_append_left _ (List.mem_of_getElem? (l := tables_1_4) (i := 69) (by decide +kernel)))))), by decide +kernel⟩
set_option maxRecDepth 20000 in
theorem wmt4_70 : (.instanceMethod yX7_fault : Cond) ∈ zw := List.mem_filter.mpr ⟨List.mem_append_right _ (List.mem_append_right _ (List.mem_append_right _ (List.mem_append_right _ (List.mem_append_left _ (List.mem_of_getElem? (l := tables_1_4) (i := 70) (by decide +kernel)))))), by decide +kernel⟩
set_option maxRecDepth 20000 in
theorem wmt4_71 : (.selects RX7 yX7_fault yX7_fault : Cond) ∈ zw := List.mem_filter.mpr ⟨List.mem_append_right _ (List.mem_append_right _ (List.mem_append_right _ (List.mem_append_right _ (List.mem_append_left _ (List.mem_of_getElem? (l := tables_1_4) (i := 71) (by decide +kernel)))))), by decide +kernel⟩
set_option maxRecDepth 20000 in
theorem wmt4_72 : (.code yX7_fault cX7_fault 2 (some .int) : Cond) ∈ zw := List.mem_filter.mpr ⟨List.mem_append_right _ (List.mem_append_right _ (List.mem_append_right _ (List.mem_append_right _ (List.mem_append_left _ (List.mem_of_getElem? (l := tables_1_4) (i := 72) (by decide +kernel)))))), by decide +kernel⟩
set_option maxRecDepth 20000 in
theorem wmt2_40 : (.methodLink RL 27 yX6_other : Cond) ∈ zw := List.mem_filter.mpr ⟨List.mem_append_right _ (List.mem_append_right _ (List.mem_append_left _ (List.mem_of_getElem? (l := tables_1_2) (i := 40) (by decide +kernel)))), by decide +kernel⟩
set_option maxRecDepth 20000 in
theorem wmt2_41 : (.instanceMethod yX6_other : Cond) ∈ zw := List.mem_filter.mpr ⟨List.mem_append_right _ (List.mem_append_right _ (List.mem_append_left _ (List.mem_of_getElem? (l := tables_1_2) (i := 41) (by decide +kernel)))), by decide +kernel⟩
set_option maxRecDepth 20000 in
theorem wmt2_42 : (.selects RX6 yX6_other yX6_other : Cond) ∈ zw := List.mem_filter.mpr ⟨List.mem_append_right _ (List.mem_append_right _ (List.mem_append_left _ (List.mem_of_getElem? (l := tables_1_2) (i := 42) (by decide +kernel)))), by decide +kernel⟩
set_option maxRecDepth 20000 in
theorem wmt2_43 : (.code yX6_other cX6_other 4 (some .int) : Cond) ∈ zw := List.mem_filter.mpr ⟨List.mem_append_right _ (List.mem_append_right _ (List.mem_append_left _ (List.mem_of_getElem? (l := tables_1_2) (i := 43) (by decide +kernel)))), by decide +kernel⟩
set_option maxRecDepth 20000 in
theorem wmt4_104 : (.methodLink RL 30 yX7_other : Cond) ∈ zw := List.mem_filter.mpr ⟨List.mem_append_right _ (List.mem_append_right _ (List.mem_append_right _ (List.mem_append_right _ (List.mem_append_left _ (List.mem_of_getElem? (l := tables_1_4) (i := 104) (by decide +kernel)))))), by decide +kernel⟩
set_option maxRecDepth 20000 in
theorem wmt4_105 : (.instanceMethod yX7_other : Cond) ∈ zw := List.mem_filter.mpr ⟨List.mem_append_right _ (List.mem_append_right _ (List.mem_append_right _ (List.mem_append_right _ (List.mem_append_left _ (List.mem_of_getElem? (l := tables_1_4) (i := 105) (by decide +kernel)))))), by decide +kernel⟩
set_option maxRecDepth 20000 in
theorem wmt4_106 : (.selects RX7 yX7_other yX7_other : Cond) ∈ zw := List.mem_filter.mpr ⟨List.mem_append_right _ (List.mem_append_right _ (List.mem_append_right _ (List.mem_append_right _ (List.mem_append_left _ (List.mem_of_getElem? (l := tables_1_4) (i := 106) (by decide +kernel)))))), by decide +kernel⟩
set_option maxRecDepth 20000 in
theorem wmt4_107 : (.code yX7_other cX7_other 3 (some .int) : Cond) ∈ zw := List.mem_filter.mpr ⟨List.mem_append_right _ (List.mem_append_right _ (List.mem_append_right _ (List.mem_append_right _ (List.mem_append_left _ (List.mem_of_getElem? (l := tables_1_4) (i := 107) (by decide +kernel)))))), by decide +kernel⟩
set_option maxRecDepth 20000 in
theorem wmt2_44 : (.methodLink RL 31 yX6_saysYes : Cond) ∈ zw := List.mem_filter.mpr ⟨List.mem_append_right _ (List.mem_append_right _ (List.mem_append_left _ (List.mem_of_getElem? (l := tables_1_2) (i := 44) (by decide +kernel)))), by decide +kernel⟩
set_option maxRecDepth 20000 in
theorem wmt4_108 : (.methodLink RL 35 yX7_saysYes : Cond) ∈ zw := List.mem_filter.mpr ⟨List.mem_append_right _ (List.mem_append_right _ (List.mem_append_right _ (List.mem_append_right _ (List.mem_append_left _ (List.mem_of_getElem? (l := tables_1_4) (i := 108) (by decide +kernel)))))), by decide +kernel⟩
set_option maxRecDepth 20000 in
theorem wmt4_109 : (.instanceMethod yX7_saysYes : Cond) ∈ zw := List.mem_filter.mpr ⟨List.mem_append_right _ (List.mem_append_right _ (List.mem_append_right _ (List.mem_append_right _ (List.mem_append_left _ (List.mem_of_getElem? (l := tables_1_4) (i := 109) (by decide +kernel)))))), by decide +kernel⟩
set_option maxRecDepth 20000 in
theorem wmt4_110 : (.selects RX7 yX7_saysYes yX7_saysYes : Cond) ∈ zw := List.mem_filter.mpr ⟨List.mem_append_right _ (List.mem_append_right _ (List.mem_append_right _ (List.mem_append_right _ (List.mem_append_left _ (List.mem_of_getElem? (l := tables_1_4) (i := 110) (by decide +kernel)))))), by decide +kernel⟩
set_option maxRecDepth 20000 in
theorem wmt4_111 : (.code yX7_saysYes cX7_saysYes 4 (some .long) : Cond) ∈ zw := List.mem_filter.mpr ⟨List.mem_append_right _ (List.mem_append_right _ (List.mem_append_right _ (List.mem_append_right _ (List.mem_append_left _ (List.mem_of_getElem? (l := tables_1_4) (i := 111) (by decide +kernel)))))), by decide +kernel⟩
set_option maxRecDepth 20000 in
theorem wmt2_65 : (.methodLink RL 36 yX6_unit : Cond) ∈ zw := List.mem_filter.mpr ⟨List.mem_append_right _ (List.mem_append_right _ (List.mem_append_left _ (List.mem_of_getElem? (l := tables_1_2) (i := 65) (by decide +kernel)))), by decide +kernel⟩
set_option maxRecDepth 20000 in
theorem wmt4_137 : (.methodLink RL 39 yX7_unit : Cond) ∈ zw := List.mem_filter.mpr ⟨List.mem_append_right _ (List.mem_append_right _ (List.mem_append_right _ (List.mem_append_right _ (List.mem_append_left _ (List.mem_of_getElem? (l := tables_1_4) (i := 137) (by decide +kernel)))))), by decide +kernel⟩
set_option maxRecDepth 20000 in
theorem wmt4_138 : (.instanceMethod yX7_unit : Cond) ∈ zw := List.mem_filter.mpr ⟨List.mem_append_right _ (List.mem_append_right _ (List.mem_append_right _ (List.mem_append_right _ (List.mem_append_left _ (List.mem_of_getElem? (l := tables_1_4) (i := 138) (by decide +kernel)))))), by decide +kernel⟩
set_option maxRecDepth 20000 in
theorem wmt4_139 : (.selects RX7 yX7_unit yX7_unit : Cond) ∈ zw := List.mem_filter.mpr ⟨List.mem_append_right _ (List.mem_append_right _ (List.mem_append_right _ (List.mem_append_right _ (List.mem_append_left _ (List.mem_of_getElem? (l := tables_1_4) (i := 139) (by decide +kernel)))))), by decide +kernel⟩
set_option maxRecDepth 20000 in
theorem wmt4_140 : (.code yX7_unit cX7_unit 2 (some .int) : Cond) ∈ zw := List.mem_filter.mpr ⟨List.mem_append_right _ (List.mem_append_right _ (List.mem_append_right _ (List.mem_append_right _ (List.mem_append_left _ (List.mem_of_getElem? (l := tables_1_4) (i := 140) (by decide +kernel)))))), by decide +kernel⟩
set_option maxRecDepth 20000 in
theorem wmt2_69 : (.methodLink RL 40 yX6_pass : Cond) ∈ zw := List.mem_filter.mpr ⟨List.mem_append_right _ (List.mem_append_right _ (List.mem_append_left _ (List.mem_of_getElem? (l := tables_1_2) (i := 69) (by decide +kernel)))), by decide +kernel⟩
set_option maxRecDepth 20000 in
theorem wmt2_70 : (.instanceMethod yX6_pass : Cond) ∈ zw := List.mem_filter.mpr ⟨List.mem_append_right _ (List.mem_append_right _ (List.mem_append_left _ (List.mem_of_getElem? (l := tables_1_2) (i := 70) (by decide +kernel)))), by decide +kernel⟩
set_option maxRecDepth 20000 in
theorem wmt2_71 : (.selects RX6 yX6_pass yX6_pass : Cond) ∈ zw := List.mem_filter.mpr ⟨List.mem_append_right _ (List.mem_append_right _ (List.mem_append_left _ (List.mem_of_getElem? (l := tables_1_2) (i := 71) (by decide +kernel)))), by decide +kernel⟩
set_option maxRecDepth 20000 in
theorem wmt2_72 : (.code yX6_pass cX6_pass 2 (some .int) : Cond) ∈ zw := List.mem_filter.mpr ⟨List.mem_append_right _ (List.mem_append_right _ (List.mem_append_left _ (List.mem_of_getElem? (l := tables_1_2) (i := 72) (by decide +kernel)))), by decide +kernel⟩
set_option maxRecDepth 20000 in
theorem wmt4_145 : (.methodLink RL 43 yX7_pass : Cond) ∈ zw := List.mem_filter.mpr ⟨List.mem_append_right _ (List.mem_append_right _ (List.mem_append_right _ (List.mem_append_right _ (List.mem_append_left _ (List.mem_of_getElem? (l := tables_1_4) (i := 145) (by decide +kernel)))))), by decide +kernel⟩
set_option maxRecDepth 20000 in
theorem wmt4_146 : (.instanceMethod yX7_pass : Cond) ∈ zw := List.mem_filter.mpr ⟨List.mem_append_right _ (List.mem_append_right _ (List.mem_append_right _ (List.mem_append_right _ (List.mem_append_left _ (List.mem_of_getElem? (l := tables_1_4) (i := 146) (by decide +kernel)))))), by decide +kernel⟩
set_option maxRecDepth 20000 in
theorem wmt4_147 : (.selects RX7 yX7_pass yX7_pass : Cond) ∈ zw := List.mem_filter.mpr ⟨List.mem_append_right _ (List.mem_append_right _ (List.mem_append_right _ (List.mem_append_right _ (List.mem_append_left _ (List.mem_of_getElem? (l := tables_1_4) (i := 147) (by decide +kernel)))))), by decide +kernel⟩
set_option maxRecDepth 20000 in
theorem wmt4_148 : (.code yX7_pass cX7_pass 2 (some .int) : Cond) ∈ zw := List.mem_filter.mpr ⟨List.mem_append_right _ (List.mem_append_right _ (List.mem_append_right _ (List.mem_append_right _ (List.mem_append_left _ (List.mem_of_getElem? (l := tables_1_4) (i := 148) (by decide +kernel)))))), by decide +kernel⟩
set_option maxRecDepth 20000 in
theorem wmt2_73 : (.methodLink RL 44 yX6_group : Cond) ∈ zw := List.mem_filter.mpr ⟨List.mem_append_right _ (List.mem_append_right _ (List.mem_append_left _ (List.mem_of_getElem? (l := tables_1_2) (i := 73) (by decide +kernel)))), by decide +kernel⟩
set_option maxRecDepth 20000 in
theorem wmt2_74 : (.instanceMethod yX6_group : Cond) ∈ zw := List.mem_filter.mpr ⟨List.mem_append_right _ (List.mem_append_right _ (List.mem_append_left _ (List.mem_of_getElem? (l := tables_1_2) (i := 74) (by decide +kernel)))), by decide +kernel⟩
set_option maxRecDepth 20000 in
theorem wmt2_75 : (.selects RX6 yX6_group yX6_group : Cond) ∈ zw := List.mem_filter.mpr ⟨List.mem_append_right _ (List.mem_append_right _ (List.mem_append_left _ (List.mem_of_getElem? (l := tables_1_2) (i := 75) (by decide +kernel)))), by decide +kernel⟩
set_option maxRecDepth 20000 in
theorem wmt2_76 : (.code yX6_group cX6_group 4 (some .int) : Cond) ∈ zw := List.mem_filter.mpr ⟨List.mem_append_right _ (List.mem_append_right _ (List.mem_append_left _ (List.mem_of_getElem? (l := tables_1_2) (i := 76) (by decide +kernel)))), by decide +kernel⟩
set_option maxRecDepth 20000 in
theorem wmt4_149 : (.methodLink RL 47 yX7_group : Cond) ∈ zw := List.mem_filter.mpr ⟨List.mem_append_right _ (List.mem_append_right _ (List.mem_append_right _ (List.mem_append_right _ (List.mem_append_left _ (List.mem_of_getElem? (l := tables_1_4) (i := 149) (by decide +kernel)))))), by decide +kernel⟩
set_option maxRecDepth 20000 in
theorem wmt4_150 : (.instanceMethod yX7_group : Cond) ∈ zw := List.mem_filter.mpr ⟨List.mem_append_right _ (List.mem_append_right _ (List.mem_append_right _ (List.mem_append_right _ (List.mem_append_left _ (List.mem_of_getElem? (l := tables_1_4) (i := 150) (by decide +kernel)))))), by decide +kernel⟩
set_option maxRecDepth 20000 in
theorem wmt4_151 : (.selects RX7 yX7_group yX7_group : Cond) ∈ zw := List.mem_filter.mpr ⟨List.mem_append_right _ (List.mem_append_right _ (List.mem_append_right _ (List.mem_append_right _ (List.mem_append_left _ (List.mem_of_getElem? (l := tables_1_4) (i := 151) (by decide +kernel)))))), by decide +kernel⟩
set_option maxRecDepth 20000 in
theorem wmt4_152 : (.code yX7_group cX7_group 4 (some .int) : Cond) ∈ zw := List.mem_filter.mpr ⟨List.mem_append_right _ (List.mem_append_right _ (List.mem_append_right _ (List.mem_append_right _ (List.mem_append_left _ (List.mem_of_getElem? (l := tables_1_4) (i := 152) (by decide +kernel)))))), by decide +kernel⟩
set_option maxRecDepth 20000 in
theorem wmt2_83 : (.methodLink RL 48 yX6_answer : Cond) ∈ zw := List.mem_filter.mpr ⟨List.mem_append_right _ (List.mem_append_right _ (List.mem_append_left _ (List.mem_of_getElem? (l := tables_1_2) (i := 83) (by decide +kernel)))), by decide +kernel⟩
set_option maxRecDepth 20000 in
theorem wmt2_84 : (.instanceMethod yX6_answer : Cond) ∈ zw := List.mem_filter.mpr ⟨List.mem_append_right _ (List.mem_append_right _ (List.mem_append_left _ (List.mem_of_getElem? (l := tables_1_2) (i := 84) (by decide +kernel)))), by decide +kernel⟩
set_option maxRecDepth 20000 in
theorem wmt2_85 : (.selects RX6 yX6_answer yX6_answer : Cond) ∈ zw := List.mem_filter.mpr ⟨List.mem_append_right _ (List.mem_append_right _ (List.mem_append_left _ (List.mem_of_getElem? (l := tables_1_2) (i := 85) (by decide +kernel)))), by decide +kernel⟩
set_option maxRecDepth 20000 in
theorem wmt2_86 : (.code yX6_answer cX6_answer 4 (some .int) : Cond) ∈ zw := List.mem_filter.mpr ⟨List.mem_append_right _ (List.mem_append_right _ (List.mem_append_left _ (List.mem_of_getElem? (l := tables_1_2) (i := 86) (by decide +kernel)))), by decide +kernel⟩
set_option maxRecDepth 20000 in
theorem wmt4_159 : (.methodLink RL 52 yX7_answer : Cond) ∈ zw := List.mem_filter.mpr ⟨List.mem_append_right _ (List.mem_append_right _ (List.mem_append_right _ (List.mem_append_right _ (List.mem_append_left _ (List.mem_of_getElem? (l := tables_1_4) (i := 159) (by decide +kernel)))))), by decide +kernel⟩
set_option maxRecDepth 20000 in
theorem wmt4_160 : (.instanceMethod yX7_answer : Cond) ∈ zw := List.mem_filter.mpr ⟨List.mem_append_right _ (List.mem_append_right _ (List.mem_append_right _ (List.mem_append_right _ (List.mem_append_left _ (List.mem_of_getElem? (l := tables_1_4) (i := 160) (by decide +kernel)))))), by decide +kernel⟩
set_option maxRecDepth 20000 in
theorem wmt4_161 : (.selects RX7 yX7_answer yX7_answer : Cond) ∈ zw := List.mem_filter.mpr ⟨List.mem_append_right _ (List.mem_append_right _ (List.mem_append_right _ (List.mem_append_right _ (List.mem_append_left _ (List.mem_of_getElem? (l := tables_1_4) (i := 161) (by decide +kernel)))))), by decide +kernel⟩
set_option maxRecDepth 20000 in
theorem wmt4_162 : (.code yX7_answer cX7_answer 4 (some .int) : Cond) ∈ zw := List.mem_filter.mpr ⟨List.mem_append_right _ (List.mem_append_right _ (List.mem_append_right _ (List.mem_append_right _ (List.mem_append_left _ (List.mem_of_getElem? (l := tables_1_4) (i := 162) (by decide +kernel)))))), by decide +kernel⟩
set_option maxRecDepth 20000 in
theorem wmt2_91 : (.methodLink RL 53 yX6_read : Cond) ∈ zw := List.mem_filter.mpr ⟨List.mem_append_right _ (List.mem_append_right _ (List.mem_append_left _ (List.mem_of_getElem? (l := tables_1_2) (i := 91) (by decide +kernel)))), by decide +kernel⟩
set_option maxRecDepth 20000 in
theorem wmt2_92 : (.instanceMethod yX6_read : Cond) ∈ zw := List.mem_filter.mpr ⟨List.mem_append_right _ (List.mem_append_right _ (List.mem_append_left _ (List.mem_of_getElem? (l := tables_1_2) (i := 92) (by decide +kernel)))), by decide +kernel⟩
set_option maxRecDepth 20000 in
theorem wmt2_93 : (.selects RX6 yX6_read yX6_read : Cond) ∈ zw := List.mem_filter.mpr ⟨List.mem_append_right _ (List.mem_append_right _ (List.mem_append_left _ (List.mem_of_getElem? (l := tables_1_2) (i := 93) (by decide +kernel)))), by decide +kernel⟩
set_option maxRecDepth 20000 in
theorem wmt2_94 : (.code yX6_read cX6_read 8 (some .int) : Cond) ∈ zw := List.mem_filter.mpr ⟨List.mem_append_right _ (List.mem_append_right _ (List.mem_append_left _ (List.mem_of_getElem? (l := tables_1_2) (i := 94) (by decide +kernel)))), by decide +kernel⟩
set_option maxRecDepth 20000 in
theorem wmt4_167 : (.methodLink RL 56 yX7_read : Cond) ∈ zw := List.mem_filter.mpr ⟨List.mem_append_right _ (List.mem_append_right _ (List.mem_append_right _ (List.mem_append_right _ (List.mem_append_left _ (List.mem_of_getElem? (l := tables_1_4) (i := 167) (by decide +kernel)))))), by decide +kernel⟩
set_option maxRecDepth 20000 in
theorem wmt4_168 : (.instanceMethod yX7_read : Cond) ∈ zw := List.mem_filter.mpr ⟨List.mem_append_right _ (List.mem_append_right _ (List.mem_append_right _ (List.mem_append_right _ (List.mem_append_left _ (List.mem_of_getElem? (l := tables_1_4) (i := 168) (by decide +kernel)))))), by decide +kernel⟩
set_option maxRecDepth 20000 in
theorem wmt4_169 : (.selects RX7 yX7_read yX7_read : Cond) ∈ zw := List.mem_filter.mpr ⟨List.mem_append_right _ (List.mem_append_right _ (List.mem_append_right _ (List.mem_append_right _ (List.mem_append_left _ (List.mem_of_getElem? (l := tables_1_4) (i := 169) (by decide +kernel)))))), by decide +kernel⟩
set_option maxRecDepth 20000 in
theorem wmt4_170 : (.code yX7_read cX7_read 4 (some .int) : Cond) ∈ zw := List.mem_filter.mpr ⟨List.mem_append_right _ (List.mem_append_right _ (List.mem_append_right _ (List.mem_append_right _ (List.mem_append_left _ (List.mem_of_getElem? (l := tables_1_4) (i := 170) (by decide +kernel)))))), by decide +kernel⟩
set_option maxRecDepth 20000 in
theorem wmt2_106 : (.methodLink RL 57 yX6_takeBack : Cond) ∈ zw := List.mem_filter.mpr ⟨List.mem_append_right _ (List.mem_append_right _ (List.mem_append_left _ (List.mem_of_getElem? (l := tables_1_2) (i := 106) (by decide +kernel)))), by decide +kernel⟩
set_option maxRecDepth 20000 in
theorem wmt2_107 : (.instanceMethod yX6_takeBack : Cond) ∈ zw := List.mem_filter.mpr ⟨List.mem_append_right _ (List.mem_append_right _ (List.mem_append_left _ (List.mem_of_getElem? (l := tables_1_2) (i := 107) (by decide +kernel)))), by decide +kernel⟩
set_option maxRecDepth 20000 in
theorem wmt2_108 : (.selects RX6 yX6_takeBack yX6_takeBack : Cond) ∈ zw := List.mem_filter.mpr ⟨List.mem_append_right _ (List.mem_append_right _ (List.mem_append_left _ (List.mem_of_getElem? (l := tables_1_2) (i := 108) (by decide +kernel)))), by decide +kernel⟩
set_option maxRecDepth 20000 in
theorem wmt2_109 : (.code yX6_takeBack cX6_takeBack 2 (some .int) : Cond) ∈ zw := List.mem_filter.mpr ⟨List.mem_append_right _ (List.mem_append_right _ (List.mem_append_left _ (List.mem_of_getElem? (l := tables_1_2) (i := 109) (by decide +kernel)))), by decide +kernel⟩
set_option maxRecDepth 20000 in
theorem wmt4_178 : (.methodLink RL 60 yX7_takeBack : Cond) ∈ zw := List.mem_filter.mpr ⟨List.mem_append_right _ (List.mem_append_right _ (List.mem_append_right _ (List.mem_append_right _ (List.mem_append_left _ (List.mem_of_getElem? (l := tables_1_4) (i := 178) (by decide +kernel)))))), by decide +kernel⟩
set_option maxRecDepth 20000 in
theorem wmt4_179 : (.instanceMethod yX7_takeBack : Cond) ∈ zw := List.mem_filter.mpr ⟨List.mem_append_right _ (List.mem_append_right _ (List.mem_append_right _ (List.mem_append_right _ (List.mem_append_left _ (List.mem_of_getElem? (l := tables_1_4) (i := 179) (by decide +kernel)))))), by decide +kernel⟩
set_option maxRecDepth 20000 in
theorem wmt4_180 : (.selects RX7 yX7_takeBack yX7_takeBack : Cond) ∈ zw := List.mem_filter.mpr ⟨List.mem_append_right _ (List.mem_append_right _ (List.mem_append_right _ (List.mem_append_right _ (List.mem_append_left _ (List.mem_of_getElem? (l := tables_1_4) (i := 180) (by decide +kernel)))))), by decide +kernel⟩
set_option maxRecDepth 20000 in
theorem wmt4_181 : (.code yX7_takeBack cX7_takeBack 2 (some .int) : Cond) ∈ zw := List.mem_filter.mpr ⟨List.mem_append_right _ (List.mem_append_right _ (List.mem_append_right _ (List.mem_append_right _ (List.mem_append_left _ (List.mem_of_getElem? (l := tables_1_4) (i := 181) (by decide +kernel)))))), by decide +kernel⟩
set_option maxRecDepth 20000 in
theorem wmt2_114 : (.methodLink RL 61 yX6_about : Cond) ∈ zw := List.mem_filter.mpr ⟨List.mem_append_right _ (List.mem_append_right _ (List.mem_append_left _ (List.mem_of_getElem? (l := tables_1_2) (i := 114) (by decide +kernel)))), by decide +kernel⟩
set_option maxRecDepth 20000 in
theorem wmt2_115 : (.instanceMethod yX6_about : Cond) ∈ zw := List.mem_filter.mpr ⟨List.mem_append_right _ (List.mem_append_right _ (List.mem_append_left _ (List.mem_of_getElem? (l := tables_1_2) (i := 115) (by decide +kernel)))), by decide +kernel⟩
set_option maxRecDepth 20000 in
theorem wmt2_116 : (.selects RX6 yX6_about yX6_about : Cond) ∈ zw := List.mem_filter.mpr ⟨List.mem_append_right _ (List.mem_append_right _ (List.mem_append_left _ (List.mem_of_getElem? (l := tables_1_2) (i := 116) (by decide +kernel)))), by decide +kernel⟩
set_option maxRecDepth 20000 in
theorem wmt2_117 : (.code yX6_about cX6_about 3 (some .int) : Cond) ∈ zw := List.mem_filter.mpr ⟨List.mem_append_right _ (List.mem_append_right _ (List.mem_append_left _ (List.mem_of_getElem? (l := tables_1_2) (i := 117) (by decide +kernel)))), by decide +kernel⟩
set_option maxRecDepth 20000 in
theorem wmt4_186 : (.methodLink RL 64 yX7_about : Cond) ∈ zw := List.mem_filter.mpr ⟨List.mem_append_right _ (List.mem_append_right _ (List.mem_append_right _ (List.mem_append_right _ (List.mem_append_left _ (List.mem_of_getElem? (l := tables_1_4) (i := 186) (by decide +kernel)))))), by decide +kernel⟩
set_option maxRecDepth 20000 in
theorem wmt4_187 : (.instanceMethod yX7_about : Cond) ∈ zw := List.mem_filter.mpr ⟨List.mem_append_right _ (List.mem_append_right _ (List.mem_append_right _ (List.mem_append_right _ (List.mem_append_left _ (List.mem_of_getElem? (l := tables_1_4) (i := 187) (by decide +kernel)))))), by decide +kernel⟩
set_option maxRecDepth 20000 in
theorem wmt4_188 : (.selects RX7 yX7_about yX7_about : Cond) ∈ zw := List.mem_filter.mpr ⟨List.mem_append_right _ (List.mem_append_right _ (List.mem_append_right _ (List.mem_append_right _ (List.mem_append_left _ (List.mem_of_getElem? (l := tables_1_4) (i := 188) (by decide +kernel)))))), by decide +kernel⟩
set_option maxRecDepth 20000 in
theorem wmt4_189 : (.code yX7_about cX7_about 3 (some .int) : Cond) ∈ zw := List.mem_filter.mpr ⟨List.mem_append_right _ (List.mem_append_right _ (List.mem_append_right _ (List.mem_append_right _ (List.mem_append_left _ (List.mem_of_getElem? (l := tables_1_4) (i := 189) (by decide +kernel)))))), by decide +kernel⟩
set_option maxRecDepth 20000 in
theorem wmt2_126 : (.methodLink RL 65 yX6_asOf : Cond) ∈ zw := List.mem_filter.mpr ⟨List.mem_append_right _ (List.mem_append_right _ (List.mem_append_left _ (List.mem_of_getElem? (l := tables_1_2) (i := 126) (by decide +kernel)))), by decide +kernel⟩
set_option maxRecDepth 20000 in
theorem wmt2_127 : (.instanceMethod yX6_asOf : Cond) ∈ zw := List.mem_filter.mpr ⟨List.mem_append_right _ (List.mem_append_right _ (List.mem_append_left _ (List.mem_of_getElem? (l := tables_1_2) (i := 127) (by decide +kernel)))), by decide +kernel⟩
set_option maxRecDepth 20000 in
theorem wmt2_128 : (.selects RX6 yX6_asOf yX6_asOf : Cond) ∈ zw := List.mem_filter.mpr ⟨List.mem_append_right _ (List.mem_append_right _ (List.mem_append_left _ (List.mem_of_getElem? (l := tables_1_2) (i := 128) (by decide +kernel)))), by decide +kernel⟩
set_option maxRecDepth 20000 in
theorem wmt2_129 : (.code yX6_asOf cX6_asOf 3 (some .int) : Cond) ∈ zw := List.mem_filter.mpr ⟨List.mem_append_right _ (List.mem_append_right _ (List.mem_append_left _ (List.mem_of_getElem? (l := tables_1_2) (i := 129) (by decide +kernel)))), by decide +kernel⟩
set_option maxRecDepth 20000 in
theorem wmt4_194 : (.methodLink RL 68 yX7_asOf : Cond) ∈ zw := List.mem_filter.mpr ⟨List.mem_append_right _ (List.mem_append_right _ (List.mem_append_right _ (List.mem_append_right _ (List.mem_append_left _ (List.mem_of_getElem? (l := tables_1_4) (i := 194) (by decide +kernel)))))), by decide +kernel⟩
set_option maxRecDepth 20000 in
theorem wmt4_195 : (.instanceMethod yX7_asOf : Cond) ∈ zw := List.mem_filter.mpr ⟨List.mem_append_right _ (List.mem_append_right _ (List.mem_append_right _ (List.mem_append_right _ (List.mem_append_left _ (List.mem_of_getElem? (l := tables_1_4) (i := 195) (by decide +kernel)))))), by decide +kernel⟩
set_option maxRecDepth 20000 in
theorem wmt4_196 : (.selects RX7 yX7_asOf yX7_asOf : Cond) ∈ zw := List.mem_filter.mpr ⟨List.mem_append_right _ (List.mem_append_right _ (List.mem_append_right _ (List.mem_append_right _ (List.mem_append_left _ (List.mem_of_getElem? (l := tables_1_4) (i := 196) (by decide +kernel)))))), by decide +kernel⟩
set_option maxRecDepth 20000 in
theorem wmt4_197 : (.code yX7_asOf cX7_asOf 3 (some .int) : Cond) ∈ zw := List.mem_filter.mpr ⟨List.mem_append_right _ (List.mem_append_right _ (List.mem_append_right _ (List.mem_append_right _ (List.mem_append_left _ (List.mem_of_getElem? (l := tables_1_4) (i := 197) (by decide +kernel)))))), by decide +kernel⟩
set_option maxRecDepth 20000 in
theorem wmt2_130 : (.methodLink RL 69 yX6_poll : Cond) ∈ zw := List.mem_filter.mpr ⟨List.mem_append_right _ (List.mem_append_right _ (List.mem_append_left _ (List.mem_of_getElem? (l := tables_1_2) (i := 130) (by decide +kernel)))), by decide +kernel⟩
set_option maxRecDepth 20000 in
theorem wmt4_198 : (.methodLink RL 72 yX7_poll : Cond) ∈ zw := List.mem_filter.mpr ⟨List.mem_append_right _ (List.mem_append_right _ (List.mem_append_right _ (List.mem_append_right _ (List.mem_append_left _ (List.mem_of_getElem? (l := tables_1_4) (i := 198) (by decide +kernel)))))), by decide +kernel⟩
set_option maxRecDepth 20000 in
theorem wmt4_199 : (.instanceMethod yX7_poll : Cond) ∈ zw := List.mem_filter.mpr ⟨List.mem_append_right _ (List.mem_append_right _ (List.mem_append_right _ (List.mem_append_right _ (List.mem_append_left _ (List.mem_of_getElem? (l := tables_1_4) (i := 199) (by decide +kernel)))))), by decide +kernel⟩
set_option maxRecDepth 20000 in
theorem wmt4_200 : (.selects RX7 yX7_poll yX7_poll : Cond) ∈ zw := List.mem_filter.mpr ⟨List.mem_append_right _ (List.mem_append_right _ (List.mem_append_right _ (List.mem_append_right _ (List.mem_append_left _ (List.mem_of_getElem? (l := tables_1_4) (i := 200) (by decide +kernel)))))), by decide +kernel⟩
set_option maxRecDepth 20000 in
theorem wmt4_201 : (.code yX7_poll cX7_poll 4 (some .int) : Cond) ∈ zw := List.mem_filter.mpr ⟨List.mem_append_right _ (List.mem_append_right _ (List.mem_append_right _ (List.mem_append_right _ (List.mem_append_left _ (List.mem_of_getElem? (l := tables_1_4) (i := 201) (by decide +kernel)))))), by decide +kernel⟩
set_option maxRecDepth 20000 in
theorem wmt2_146 : (.methodLink RL 73 yX6_share : Cond) ∈ zw := List.mem_filter.mpr ⟨List.mem_append_right _ (List.mem_append_right _ (List.mem_append_left _ (List.mem_of_getElem? (l := tables_1_2) (i := 146) (by decide +kernel)))), by decide +kernel⟩
set_option maxRecDepth 20000 in
theorem wmt2_147 : (.instanceMethod yX6_share : Cond) ∈ zw := List.mem_filter.mpr ⟨List.mem_append_right _ (List.mem_append_right _ (List.mem_append_left _ (List.mem_of_getElem? (l := tables_1_2) (i := 147) (by decide +kernel)))), by decide +kernel⟩
set_option maxRecDepth 20000 in
theorem wmt2_148 : (.selects RX6 yX6_share yX6_share : Cond) ∈ zw := List.mem_filter.mpr ⟨List.mem_append_right _ (List.mem_append_right _ (List.mem_append_left _ (List.mem_of_getElem? (l := tables_1_2) (i := 148) (by decide +kernel)))), by decide +kernel⟩
set_option maxRecDepth 20000 in
theorem wmt2_149 : (.code yX6_share cX6_share 8 (some .long) : Cond) ∈ zw := List.mem_filter.mpr ⟨List.mem_append_right _ (List.mem_append_right _ (List.mem_append_left _ (List.mem_of_getElem? (l := tables_1_2) (i := 149) (by decide +kernel)))), by decide +kernel⟩
set_option maxRecDepth 20000 in
theorem wmt4_209 : (.methodLink RL 76 yX7_share : Cond) ∈ zw := List.mem_filter.mpr ⟨List.mem_append_right _ (List.mem_append_right _ (List.mem_append_right _ (List.mem_append_right _ (List.mem_append_left _ (List.mem_of_getElem? (l := tables_1_4) (i := 209) (by decide +kernel)))))), by decide +kernel⟩
set_option maxRecDepth 20000 in
theorem wmt4_210 : (.instanceMethod yX7_share : Cond) ∈ zw := List.mem_filter.mpr ⟨List.mem_append_right _ (List.mem_append_right _ (List.mem_append_right _ (List.mem_append_right _ (List.mem_append_left _ (List.mem_of_getElem? (l := tables_1_4) (i := 210) (by decide +kernel)))))), by decide +kernel⟩
set_option maxRecDepth 20000 in
theorem wmt4_211 : (.selects RX7 yX7_share yX7_share : Cond) ∈ zw := List.mem_filter.mpr ⟨List.mem_append_right _ (List.mem_append_right _ (List.mem_append_right _ (List.mem_append_right _ (List.mem_append_left _ (List.mem_of_getElem? (l := tables_1_4) (i := 211) (by decide +kernel)))))), by decide +kernel⟩
set_option maxRecDepth 20000 in
theorem wmt4_212 : (.code yX7_share cX7_share 4 (some .long) : Cond) ∈ zw := List.mem_filter.mpr ⟨List.mem_append_right _ (List.mem_append_right _ (List.mem_append_right _ (List.mem_append_right _ (List.mem_append_left _ (List.mem_of_getElem? (l := tables_1_4) (i := 212) (by decide +kernel)))))), by decide +kernel⟩
set_option maxRecDepth 20000 in
theorem wmt2_162 : (.methodLink RL 77 yX6_scatter : Cond) ∈ zw := List.mem_filter.mpr ⟨List.mem_append_right _ (List.mem_append_right _ (List.mem_append_left _ (List.mem_of_getElem? (l := tables_1_2) (i := 162) (by decide +kernel)))), by decide +kernel⟩
set_option maxRecDepth 20000 in
theorem wmt2_163 : (.instanceMethod yX6_scatter : Cond) ∈ zw := List.mem_filter.mpr ⟨List.mem_append_right _ (List.mem_append_right _ (List.mem_append_left _ (List.mem_of_getElem? (l := tables_1_2) (i := 163) (by decide +kernel)))), by decide +kernel⟩
set_option maxRecDepth 20000 in
theorem wmt2_164 : (.selects RX6 yX6_scatter yX6_scatter : Cond) ∈ zw := List.mem_filter.mpr ⟨List.mem_append_right _ (List.mem_append_right _ (List.mem_append_left _ (List.mem_of_getElem? (l := tables_1_2) (i := 164) (by decide +kernel)))), by decide +kernel⟩
set_option maxRecDepth 20000 in
theorem wmt2_165 : (.code yX6_scatter cX6_scatter 14 (some .long) : Cond) ∈ zw := List.mem_filter.mpr ⟨List.mem_append_right _ (List.mem_append_right _ (List.mem_append_left _ (List.mem_of_getElem? (l := tables_1_2) (i := 165) (by decide +kernel)))), by decide +kernel⟩
set_option maxRecDepth 20000 in
theorem wmt4_217 : (.methodLink RL 80 yX7_scatter : Cond) ∈ zw := List.mem_filter.mpr ⟨List.mem_append_right _ (List.mem_append_right _ (List.mem_append_right _ (List.mem_append_right _ (List.mem_append_left _ (List.mem_of_getElem? (l := tables_1_4) (i := 217) (by decide +kernel)))))), by decide +kernel⟩
set_option maxRecDepth 20000 in
theorem wmt4_218 : (.instanceMethod yX7_scatter : Cond) ∈ zw := List.mem_filter.mpr ⟨List.mem_append_right _ (List.mem_append_right _ (List.mem_append_right _ (List.mem_append_right _ (List.mem_append_left _ (List.mem_of_getElem? (l := tables_1_4) (i := 218) (by decide +kernel)))))), by decide +kernel⟩
set_option maxRecDepth 20000 in
theorem wmt4_219 : (.selects RX7 yX7_scatter yX7_scatter : Cond) ∈ zw := List.mem_filter.mpr ⟨List.mem_append_right _ (List.mem_append_right _ (List.mem_append_right _ (List.mem_append_right _ (List.mem_append_left _ (List.mem_of_getElem? (l := tables_1_4) (i := 219) (by decide +kernel)))))), by decide +kernel⟩
set_option maxRecDepth 20000 in
theorem wmt4_220 : (.code yX7_scatter cX7_scatter 8 (some .long) : Cond) ∈ zw := List.mem_filter.mpr ⟨List.mem_append_right _ (List.mem_append_right _ (List.mem_append_right _ (List.mem_append_right _ (List.mem_append_left _ (List.mem_of_getElem? (l := tables_1_4) (i := 220) (by decide +kernel)))))), by decide +kernel⟩
set_option maxRecDepth 20000 in
theorem wmt2_166 : (.methodLink RL 81 yX6_ways : Cond) ∈ zw := List.mem_filter.mpr ⟨List.mem_append_right _ (List.mem_append_right _ (List.mem_append_left _ (List.mem_of_getElem? (l := tables_1_2) (i := 166) (by decide +kernel)))), by decide +kernel⟩
set_option maxRecDepth 20000 in
theorem wmt2_167 : (.instanceMethod yX6_ways : Cond) ∈ zw := List.mem_filter.mpr ⟨List.mem_append_right _ (List.mem_append_right _ (List.mem_append_left _ (List.mem_of_getElem? (l := tables_1_2) (i := 167) (by decide +kernel)))), by decide +kernel⟩
set_option maxRecDepth 20000 in
theorem wmt2_168 : (.selects RX6 yX6_ways yX6_ways : Cond) ∈ zw := List.mem_filter.mpr ⟨List.mem_append_right _ (List.mem_append_right _ (List.mem_append_left _ (List.mem_of_getElem? (l := tables_1_2) (i := 168) (by decide +kernel)))), by decide +kernel⟩
set_option maxRecDepth 20000 in
theorem wmt2_169 : (.code yX6_ways cX6_ways 5 (some .long) : Cond) ∈ zw := List.mem_filter.mpr ⟨List.mem_append_right _ (List.mem_append_right _ (List.mem_append_left _ (List.mem_of_getElem? (l := tables_1_2) (i := 169) (by decide +kernel)))), by decide +kernel⟩
set_option maxRecDepth 20000 in
theorem wmt4_221 : (.methodLink RL 84 yX7_ways : Cond) ∈ zw := List.mem_filter.mpr ⟨List.mem_append_right _ (List.mem_append_right _ (List.mem_append_right _ (List.mem_append_right _ (List.mem_append_left _ (List.mem_of_getElem? (l := tables_1_4) (i := 221) (by decide +kernel)))))), by decide +kernel⟩
set_option maxRecDepth 20000 in
theorem wmt4_222 : (.instanceMethod yX7_ways : Cond) ∈ zw := List.mem_filter.mpr ⟨List.mem_append_right _ (List.mem_append_right _ (List.mem_append_right _ (List.mem_append_right _ (List.mem_append_left _ (List.mem_of_getElem? (l := tables_1_4) (i := 222) (by decide +kernel)))))), by decide +kernel⟩
set_option maxRecDepth 20000 in
theorem wmt4_223 : (.selects RX7 yX7_ways yX7_ways : Cond) ∈ zw := List.mem_filter.mpr ⟨List.mem_append_right _ (List.mem_append_right _ (List.mem_append_right _ (List.mem_append_right _ (List.mem_append_left _ (List.mem_of_getElem? (l := tables_1_4) (i := 223) (by decide +kernel)))))), by decide +kernel⟩
set_option maxRecDepth 20000 in
theorem wmt4_224 : (.code yX7_ways cX7_ways 5 (some .long) : Cond) ∈ zw := List.mem_filter.mpr ⟨List.mem_append_right _ (List.mem_append_right _ (List.mem_append_right _ (List.mem_append_right _ (List.mem_append_left _ (List.mem_of_getElem? (l := tables_1_4) (i := 224) (by decide +kernel)))))), by decide +kernel⟩
set_option maxRecDepth 20000 in
theorem wmt2_206 : (.methodLink RL 85 yX6_likely : Cond) ∈ zw := List.mem_filter.mpr ⟨List.mem_append_right _ (List.mem_append_right _ (List.mem_append_left _ (List.mem_of_getElem? (l := tables_1_2) (i := 206) (by decide +kernel)))), by decide +kernel⟩
set_option maxRecDepth 20000 in
theorem wmt4_239 : (.methodLink RL 88 yX7_likely : Cond) ∈ zw := List.mem_filter.mpr ⟨List.mem_append_right _ (List.mem_append_right _ (List.mem_append_right _ (List.mem_append_right _ (List.mem_append_left _ (List.mem_of_getElem? (l := tables_1_4) (i := 239) (by decide +kernel)))))), by decide +kernel⟩
set_option maxRecDepth 20000 in
theorem wmt5_0 : (.instanceMethod yX7_likely : Cond) ∈ zw := List.mem_filter.mpr ⟨List.mem_append_right _ (List.mem_append_right _ (List.mem_append_right _ (List.mem_append_right _ (List.mem_append_right _ (List.mem_of_getElem? (l := tables_1_5) (i := 0) (by decide +kernel)))))), by decide +kernel⟩
set_option maxRecDepth 20000 in
theorem wmt5_1 : (.selects RX7 yX7_likely yX7_likely : Cond) ∈ zw := List.mem_filter.mpr ⟨List.mem_append_right _ (List.mem_append_right _ (List.mem_append_right _ (List.mem_append_right _ (List.mem_append_right _ (List.mem_of_getElem? (l := tables_1_5) (i := 1) (by decide +kernel)))))), by decide +kernel⟩
set_option maxRecDepth 20000 in
theorem wmt5_2 : (.code yX7_likely cX7_likely 3 (some .int) : Cond) ∈ zw := List.mem_filter.mpr ⟨List.mem_append_right _ (List.mem_append_right _ (List.mem_append_right _ (List.mem_append_right _ (List.mem_append_right _ (List.mem_of_getElem? (l := tables_1_5) (i := 2) (by decide +kernel)))))), by decide +kernel⟩
set_option maxRecDepth 20000 in
theorem wmt2_214 : (.methodLink RL 89 yX6_span : Cond) ∈ zw := List.mem_filter.mpr ⟨List.mem_append_right _ (List.mem_append_right _ (List.mem_append_left _ (List.mem_of_getElem? (l := tables_1_2) (i := 214) (by decide +kernel)))), by decide +kernel⟩
set_option maxRecDepth 20000 in
theorem wmt2_215 : (.instanceMethod yX6_span : Cond) ∈ zw := List.mem_filter.mpr ⟨List.mem_append_right _ (List.mem_append_right _ (List.mem_append_left _ (List.mem_of_getElem? (l := tables_1_2) (i := 215) (by decide +kernel)))), by decide +kernel⟩
set_option maxRecDepth 20000 in
theorem wmt2_216 : (.selects RX6 yX6_span yX6_span : Cond) ∈ zw := List.mem_filter.mpr ⟨List.mem_append_right _ (List.mem_append_right _ (List.mem_append_left _ (List.mem_of_getElem? (l := tables_1_2) (i := 216) (by decide +kernel)))), by decide +kernel⟩
set_option maxRecDepth 20000 in
theorem wmt2_217 : (.code yX6_span cX6_span 13 (some .int) : Cond) ∈ zw := List.mem_filter.mpr ⟨List.mem_append_right _ (List.mem_append_right _ (List.mem_append_left _ (List.mem_of_getElem? (l := tables_1_2) (i := 217) (by decide +kernel)))), by decide +kernel⟩
set_option maxRecDepth 20000 in
theorem wmt5_11 : (.methodLink RL 93 yX7_span : Cond) ∈ zw := List.mem_filter.mpr ⟨List.mem_append_right _ (List.mem_append_right _ (List.mem_append_right _ (List.mem_append_right _ (List.mem_append_right _ (List.mem_of_getElem? (l := tables_1_5) (i := 11) (by decide +kernel)))))), by decide +kernel⟩
set_option maxRecDepth 20000 in
theorem wmt5_12 : (.instanceMethod yX7_span : Cond) ∈ zw := List.mem_filter.mpr ⟨List.mem_append_right _ (List.mem_append_right _ (List.mem_append_right _ (List.mem_append_right _ (List.mem_append_right _ (List.mem_of_getElem? (l := tables_1_5) (i := 12) (by decide +kernel)))))), by decide +kernel⟩
set_option maxRecDepth 20000 in
theorem wmt5_13 : (.selects RX7 yX7_span yX7_span : Cond) ∈ zw := List.mem_filter.mpr ⟨List.mem_append_right _ (List.mem_append_right _ (List.mem_append_right _ (List.mem_append_right _ (List.mem_append_right _ (List.mem_of_getElem? (l := tables_1_5) (i := 13) (by decide +kernel)))))), by decide +kernel⟩
set_option maxRecDepth 20000 in
theorem wmt5_14 : (.code yX7_span cX7_span 11 (some .int) : Cond) ∈ zw := List.mem_filter.mpr ⟨List.mem_append_right _ (List.mem_append_right _ (List.mem_append_right _ (List.mem_append_right _ (List.mem_append_right _ (List.mem_of_getElem? (l := tables_1_5) (i := 14) (by decide +kernel)))))), by decide +kernel⟩
set_option maxRecDepth 20000 in
theorem wmt2_219 : (.methodLink RL 94 yX6_atLeast : Cond) ∈ zw := List.mem_filter.mpr ⟨List.mem_append_right _ (List.mem_append_right _ (List.mem_append_left _ (List.mem_of_getElem? (l := tables_1_2) (i := 219) (by decide +kernel)))), by decide +kernel⟩
set_option maxRecDepth 20000 in
theorem wmt2_220 : (.instanceMethod yX6_atLeast : Cond) ∈ zw := List.mem_filter.mpr ⟨List.mem_append_right _ (List.mem_append_right _ (List.mem_append_left _ (List.mem_of_getElem? (l := tables_1_2) (i := 220) (by decide +kernel)))), by decide +kernel⟩
set_option maxRecDepth 20000 in
theorem wmt2_221 : (.selects RX6 yX6_atLeast yX6_atLeast : Cond) ∈ zw := List.mem_filter.mpr ⟨List.mem_append_right _ (List.mem_append_right _ (List.mem_append_left _ (List.mem_of_getElem? (l := tables_1_2) (i := 221) (by decide +kernel)))), by decide +kernel⟩
set_option maxRecDepth 20000 in
theorem wmt2_222 : (.code yX6_atLeast cX6_atLeast 5 (some .int) : Cond) ∈ zw := List.mem_filter.mpr ⟨List.mem_append_right _ (List.mem_append_right _ (List.mem_append_left _ (List.mem_of_getElem? (l := tables_1_2) (i := 222) (by decide +kernel)))), by decide +kernel⟩
set_option maxRecDepth 20000 in
theorem wmt5_16 : (.methodLink RL 97 yX7_atLeast : Cond) ∈ zw := List.mem_filter.mpr ⟨List.mem_append_right _ (List.mem_append_right _ (List.mem_append_right _ (List.mem_append_right _ (List.mem_append_right _ (List.mem_of_getElem? (l := tables_1_5) (i := 16) (by decide +kernel)))))), by decide +kernel⟩
set_option maxRecDepth 20000 in
theorem wmt5_17 : (.instanceMethod yX7_atLeast : Cond) ∈ zw := List.mem_filter.mpr ⟨List.mem_append_right _ (List.mem_append_right _ (List.mem_append_right _ (List.mem_append_right _ (List.mem_append_right _ (List.mem_of_getElem? (l := tables_1_5) (i := 17) (by decide +kernel)))))), by decide +kernel⟩
set_option maxRecDepth 20000 in
theorem wmt5_18 : (.selects RX7 yX7_atLeast yX7_atLeast : Cond) ∈ zw := List.mem_filter.mpr ⟨List.mem_append_right _ (List.mem_append_right _ (List.mem_append_right _ (List.mem_append_right _ (List.mem_append_right _ (List.mem_of_getElem? (l := tables_1_5) (i := 18) (by decide +kernel)))))), by decide +kernel⟩
set_option maxRecDepth 20000 in
theorem wmt5_19 : (.code yX7_atLeast cX7_atLeast 5 (some .int) : Cond) ∈ zw := List.mem_filter.mpr ⟨List.mem_append_right _ (List.mem_append_right _ (List.mem_append_right _ (List.mem_append_right _ (List.mem_append_right _ (List.mem_of_getElem? (l := tables_1_5) (i := 19) (by decide +kernel)))))), by decide +kernel⟩
set_option maxRecDepth 20000 in
theorem wmt2_227 : (.methodLink RL 98 yX6_away : Cond) ∈ zw := List.mem_filter.mpr ⟨List.mem_append_right _ (List.mem_append_right _ (List.mem_append_left _ (List.mem_of_getElem? (l := tables_1_2) (i := 227) (by decide +kernel)))), by decide +kernel⟩
set_option maxRecDepth 20000 in
theorem wmt2_228 : (.instanceMethod yX6_away : Cond) ∈ zw := List.mem_filter.mpr ⟨List.mem_append_right _ (List.mem_append_right _ (List.mem_append_left _ (List.mem_of_getElem? (l := tables_1_2) (i := 228) (by decide +kernel)))), by decide +kernel⟩
set_option maxRecDepth 20000 in
theorem wmt2_229 : (.selects RX6 yX6_away yX6_away : Cond) ∈ zw := List.mem_filter.mpr ⟨List.mem_append_right _ (List.mem_append_right _ (List.mem_append_left _ (List.mem_of_getElem? (l := tables_1_2) (i := 229) (by decide +kernel)))), by decide +kernel⟩
set_option maxRecDepth 20000 in
theorem wmt2_230 : (.code yX6_away cX6_away 5 (some .long) : Cond) ∈ zw := List.mem_filter.mpr ⟨List.mem_append_right _ (List.mem_append_right _ (List.mem_append_left _ (List.mem_of_getElem? (l := tables_1_2) (i := 230) (by decide +kernel)))), by decide +kernel⟩
set_option maxRecDepth 20000 in
theorem wmt5_28 : (.methodLink RL 101 yX7_away : Cond) ∈ zw := List.mem_filter.mpr ⟨List.mem_append_right _ (List.mem_append_right _ (List.mem_append_right _ (List.mem_append_right _ (List.mem_append_right _ (List.mem_of_getElem? (l := tables_1_5) (i := 28) (by decide +kernel)))))), by decide +kernel⟩
set_option maxRecDepth 20000 in
theorem wmt5_29 : (.instanceMethod yX7_away : Cond) ∈ zw := List.mem_filter.mpr ⟨List.mem_append_right _ (List.mem_append_right _ (List.mem_append_right _ (List.mem_append_right _ (List.mem_append_right _ (List.mem_of_getElem? (l := tables_1_5) (i := 29) (by decide +kernel)))))), by decide +kernel⟩
set_option maxRecDepth 20000 in
theorem wmt5_30 : (.selects RX7 yX7_away yX7_away : Cond) ∈ zw := List.mem_filter.mpr ⟨List.mem_append_right _ (List.mem_append_right _ (List.mem_append_right _ (List.mem_append_right _ (List.mem_append_right _ (List.mem_of_getElem? (l := tables_1_5) (i := 30) (by decide +kernel)))))), by decide +kernel⟩
set_option maxRecDepth 20000 in
theorem wmt5_31 : (.code yX7_away cX7_away 4 (some .long) : Cond) ∈ zw := List.mem_filter.mpr ⟨List.mem_append_right _ (List.mem_append_right _ (List.mem_append_right _ (List.mem_append_right _ (List.mem_append_right _ (List.mem_of_getElem? (l := tables_1_5) (i := 31) (by decide +kernel)))))), by decide +kernel⟩
set_option maxRecDepth 20000 in
theorem wmt2_233 : (.methodLink RL 102 yX6_given : Cond) ∈ zw := List.mem_filter.mpr ⟨List.mem_append_right _ (List.mem_append_right _ (List.mem_append_left _ (List.mem_of_getElem? (l := tables_1_2) (i := 233) (by decide +kernel)))), by decide +kernel⟩
set_option maxRecDepth 20000 in
theorem wmt5_36 : (.methodLink RL 106 yX7_given : Cond) ∈ zw := List.mem_filter.mpr ⟨List.mem_append_right _ (List.mem_append_right _ (List.mem_append_right _ (List.mem_append_right _ (List.mem_append_right _ (List.mem_of_getElem? (l := tables_1_5) (i := 36) (by decide +kernel)))))), by decide +kernel⟩
set_option maxRecDepth 20000 in
theorem wmt5_37 : (.instanceMethod yX7_given : Cond) ∈ zw := List.mem_filter.mpr ⟨List.mem_append_right _ (List.mem_append_right _ (List.mem_append_right _ (List.mem_append_right _ (List.mem_append_right _ (List.mem_of_getElem? (l := tables_1_5) (i := 37) (by decide +kernel)))))), by decide +kernel⟩
set_option maxRecDepth 20000 in
theorem wmt5_38 : (.selects RX7 yX7_given yX7_given : Cond) ∈ zw := List.mem_filter.mpr ⟨List.mem_append_right _ (List.mem_append_right _ (List.mem_append_right _ (List.mem_append_right _ (List.mem_append_right _ (List.mem_of_getElem? (l := tables_1_5) (i := 38) (by decide +kernel)))))), by decide +kernel⟩
set_option maxRecDepth 20000 in
theorem wmt5_39 : (.code yX7_given cX7_given 3 (some .long) : Cond) ∈ zw := List.mem_filter.mpr ⟨List.mem_append_right _ (List.mem_append_right _ (List.mem_append_right _ (List.mem_append_right _ (List.mem_append_right _ (List.mem_of_getElem? (l := tables_1_5) (i := 39) (by decide +kernel)))))), by decide +kernel⟩
set_option maxRecDepth 20000 in
theorem wmt3_22 : (.methodLink RL 107 yX6_has : Cond) ∈ zw := List.mem_filter.mpr ⟨List.mem_append_right _ (List.mem_append_right _ (List.mem_append_right _ (List.mem_append_left _ (List.mem_of_getElem? (l := tables_1_3) (i := 22) (by decide +kernel))))), by decide +kernel⟩
set_option maxRecDepth 20000 in
theorem wmt3_23 : (.instanceMethod yX6_has : Cond) ∈ zw := List.mem_filter.mpr ⟨List.mem_append_right _ (List.mem_append_right _ (List.mem_append_right _ (List.mem_append_left _ (List.mem_of_getElem? (l := tables_1_3) (i := 23) (by decide +kernel))))), by decide +kernel⟩
set_option maxRecDepth 20000 in
theorem wmt3_24 : (.selects RX6 yX6_has yX6_has : Cond) ∈ zw := List.mem_filter.mpr ⟨List.mem_append_right _ (List.mem_append_right _ (List.mem_append_right _ (List.mem_append_left _ (List.mem_of_getElem? (l := tables_1_3) (i := 24) (by decide +kernel))))), by decide +kernel⟩
set_option maxRecDepth 20000 in
theorem wmt3_25 : (.code yX6_has cX6_has 7 (some .long) : Cond) ∈ zw := List.mem_filter.mpr ⟨List.mem_append_right _ (List.mem_append_right _ (List.mem_append_right _ (List.mem_append_left _ (List.mem_of_getElem? (l := tables_1_3) (i := 25) (by decide +kernel))))), by decide +kernel⟩
set_option maxRecDepth 20000 in
theorem wmt5_49 : (.methodLink RL 110 yX7_has : Cond) ∈ zw := List.mem_filter.mpr ⟨List.mem_append_right _ (List.mem_append_right _ (List.mem_append_right _ (List.mem_append_right _ (List.mem_append_right _ (List.mem_of_getElem? (l := tables_1_5) (i := 49) (by decide +kernel)))))), by decide +kernel⟩
set_option maxRecDepth 20000 in
theorem wmt5_50 : (.instanceMethod yX7_has : Cond) ∈ zw := List.mem_filter.mpr ⟨List.mem_append_right _ (List.mem_append_right _ (List.mem_append_right _ (List.mem_append_right _ (List.mem_append_right _ (List.mem_of_getElem? (l := tables_1_5) (i := 50) (by decide +kernel)))))), by decide +kernel⟩
set_option maxRecDepth 20000 in
theorem wmt5_51 : (.selects RX7 yX7_has yX7_has : Cond) ∈ zw := List.mem_filter.mpr ⟨List.mem_append_right _ (List.mem_append_right _ (List.mem_append_right _ (List.mem_append_right _ (List.mem_append_right _ (List.mem_of_getElem? (l := tables_1_5) (i := 51) (by decide +kernel)))))), by decide +kernel⟩
set_option maxRecDepth 20000 in
theorem wmt5_52 : (.code yX7_has cX7_has 5 (some .long) : Cond) ∈ zw := List.mem_filter.mpr ⟨List.mem_append_right _ (List.mem_append_right _ (List.mem_append_right _ (List.mem_append_right _ (List.mem_append_right _ (List.mem_of_getElem? (l := tables_1_5) (i := 52) (by decide +kernel)))))), by decide +kernel⟩
set_option maxRecDepth 20000 in
theorem wmt3_26 : (.methodLink RL 111 yX6_exposed : Cond) ∈ zw := List.mem_filter.mpr ⟨List.mem_append_right _ (List.mem_append_right _ (List.mem_append_right _ (List.mem_append_left _ (List.mem_of_getElem? (l := tables_1_3) (i := 26) (by decide +kernel))))), by decide +kernel⟩
set_option maxRecDepth 20000 in
theorem wmt3_27 : (.instanceMethod yX6_exposed : Cond) ∈ zw := List.mem_filter.mpr ⟨List.mem_append_right _ (List.mem_append_right _ (List.mem_append_right _ (List.mem_append_left _ (List.mem_of_getElem? (l := tables_1_3) (i := 27) (by decide +kernel))))), by decide +kernel⟩
set_option maxRecDepth 20000 in
theorem wmt3_28 : (.selects RX6 yX6_exposed yX6_exposed : Cond) ∈ zw := List.mem_filter.mpr ⟨List.mem_append_right _ (List.mem_append_right _ (List.mem_append_right _ (List.mem_append_left _ (List.mem_of_getElem? (l := tables_1_3) (i := 28) (by decide +kernel))))), by decide +kernel⟩
set_option maxRecDepth 20000 in
theorem wmt3_29 : (.code yX6_exposed cX6_exposed 12 (some .long) : Cond) ∈ zw := List.mem_filter.mpr ⟨List.mem_append_right _ (List.mem_append_right _ (List.mem_append_right _ (List.mem_append_left _ (List.mem_of_getElem? (l := tables_1_3) (i := 29) (by decide +kernel))))), by decide +kernel⟩
set_option maxRecDepth 20000 in
theorem wmt5_53 : (.methodLink RL 114 yX7_exposed : Cond) ∈ zw := List.mem_filter.mpr ⟨List.mem_append_right _ (List.mem_append_right _ (List.mem_append_right _ (List.mem_append_right _ (List.mem_append_right _ (List.mem_of_getElem? (l := tables_1_5) (i := 53) (by decide +kernel)))))), by decide +kernel⟩
set_option maxRecDepth 20000 in
theorem wmt5_54 : (.instanceMethod yX7_exposed : Cond) ∈ zw := List.mem_filter.mpr ⟨List.mem_append_right _ (List.mem_append_right _ (List.mem_append_right _ (List.mem_append_right _ (List.mem_append_right _ (List.mem_of_getElem? (l := tables_1_5) (i := 54) (by decide +kernel)))))), by decide +kernel⟩
set_option maxRecDepth 20000 in
theorem wmt5_55 : (.selects RX7 yX7_exposed yX7_exposed : Cond) ∈ zw := List.mem_filter.mpr ⟨List.mem_append_right _ (List.mem_append_right _ (List.mem_append_right _ (List.mem_append_right _ (List.mem_append_right _ (List.mem_of_getElem? (l := tables_1_5) (i := 55) (by decide +kernel)))))), by decide +kernel⟩
set_option maxRecDepth 20000 in
theorem wmt5_56 : (.code yX7_exposed cX7_exposed 12 (some .long) : Cond) ∈ zw := List.mem_filter.mpr ⟨List.mem_append_right _ (List.mem_append_right _ (List.mem_append_right _ (List.mem_append_right _ (List.mem_append_right _ (List.mem_of_getElem? (l := tables_1_5) (i := 56) (by decide +kernel)))))), by decide +kernel⟩
set_option maxRecDepth 20000 in
theorem wmt3_38 : (.methodLink RL 115 yX6_limit : Cond) ∈ zw := List.mem_filter.mpr ⟨List.mem_append_right _ (List.mem_append_right _ (List.mem_append_right _ (List.mem_append_left _ (List.mem_of_getElem? (l := tables_1_3) (i := 38) (by decide +kernel))))), by decide +kernel⟩
set_option maxRecDepth 20000 in
theorem wmt3_39 : (.instanceMethod yX6_limit : Cond) ∈ zw := List.mem_filter.mpr ⟨List.mem_append_right _ (List.mem_append_right _ (List.mem_append_right _ (List.mem_append_left _ (List.mem_of_getElem? (l := tables_1_3) (i := 39) (by decide +kernel))))), by decide +kernel⟩
set_option maxRecDepth 20000 in
theorem wmt3_40 : (.selects RX6 yX6_limit yX6_limit : Cond) ∈ zw := List.mem_filter.mpr ⟨List.mem_append_right _ (List.mem_append_right _ (List.mem_append_right _ (List.mem_append_left _ (List.mem_of_getElem? (l := tables_1_3) (i := 40) (by decide +kernel))))), by decide +kernel⟩
set_option maxRecDepth 20000 in
theorem wmt3_41 : (.code yX6_limit cX6_limit 3 (some .int) : Cond) ∈ zw := List.mem_filter.mpr ⟨List.mem_append_right _ (List.mem_append_right _ (List.mem_append_right _ (List.mem_append_left _ (List.mem_of_getElem? (l := tables_1_3) (i := 41) (by decide +kernel))))), by decide +kernel⟩
set_option maxRecDepth 20000 in
theorem wmt5_61 : (.methodLink RL 118 yX7_limit : Cond) ∈ zw := List.mem_filter.mpr ⟨List.mem_append_right _ (List.mem_append_right _ (List.mem_append_right _ (List.mem_append_right _ (List.mem_append_right _ (List.mem_of_getElem? (l := tables_1_5) (i := 61) (by decide +kernel)))))), by decide +kernel⟩
set_option maxRecDepth 20000 in
theorem wmt5_62 : (.instanceMethod yX7_limit : Cond) ∈ zw := List.mem_filter.mpr ⟨List.mem_append_right _ (List.mem_append_right _ (List.mem_append_right _ (List.mem_append_right _ (List.mem_append_right _ (List.mem_of_getElem? (l := tables_1_5) (i := 62) (by decide +kernel)))))), by decide +kernel⟩
set_option maxRecDepth 20000 in
theorem wmt5_63 : (.selects RX7 yX7_limit yX7_limit : Cond) ∈ zw := List.mem_filter.mpr ⟨List.mem_append_right _ (List.mem_append_right _ (List.mem_append_right _ (List.mem_append_right _ (List.mem_append_right _ (List.mem_of_getElem? (l := tables_1_5) (i := 63) (by decide +kernel)))))), by decide +kernel⟩
set_option maxRecDepth 20000 in
theorem wmt5_64 : (.code yX7_limit cX7_limit 3 (some .int) : Cond) ∈ zw := List.mem_filter.mpr ⟨List.mem_append_right _ (List.mem_append_right _ (List.mem_append_right _ (List.mem_append_right _ (List.mem_append_right _ (List.mem_of_getElem? (l := tables_1_5) (i := 64) (by decide +kernel)))))), by decide +kernel⟩
set_option maxRecDepth 20000 in
theorem wmt3_42 : (.methodLink RL 119 yX6_may : Cond) ∈ zw := List.mem_filter.mpr ⟨List.mem_append_right _ (List.mem_append_right _ (List.mem_append_right _ (List.mem_append_left _ (List.mem_of_getElem? (l := tables_1_3) (i := 42) (by decide +kernel))))), by decide +kernel⟩
set_option maxRecDepth 20000 in
theorem wmt3_43 : (.instanceMethod yX6_may : Cond) ∈ zw := List.mem_filter.mpr ⟨List.mem_append_right _ (List.mem_append_right _ (List.mem_append_right _ (List.mem_append_left _ (List.mem_of_getElem? (l := tables_1_3) (i := 43) (by decide +kernel))))), by decide +kernel⟩
set_option maxRecDepth 20000 in
theorem wmt3_44 : (.selects RX6 yX6_may yX6_may : Cond) ∈ zw := List.mem_filter.mpr ⟨List.mem_append_right _ (List.mem_append_right _ (List.mem_append_right _ (List.mem_append_left _ (List.mem_of_getElem? (l := tables_1_3) (i := 44) (by decide +kernel))))), by decide +kernel⟩
set_option maxRecDepth 20000 in
theorem wmt3_45 : (.code yX6_may cX6_may 3 (some .int) : Cond) ∈ zw := List.mem_filter.mpr ⟨List.mem_append_right _ (List.mem_append_right _ (List.mem_append_right _ (List.mem_append_left _ (List.mem_of_getElem? (l := tables_1_3) (i := 45) (by decide +kernel))))), by decide +kernel⟩
set_option maxRecDepth 20000 in
theorem wmt5_65 : (.methodLink RL 122 yX7_may : Cond) ∈ zw := List.mem_filter.mpr ⟨List.mem_append_right _ (List.mem_append_right _ (List.mem_append_right _ (List.mem_append_right _ (List.mem_append_right _ (List.mem_of_getElem? (l := tables_1_5) (i := 65) (by decide +kernel)))))), by decide +kernel⟩
set_option maxRecDepth 20000 in
theorem wmt5_66 : (.instanceMethod yX7_may : Cond) ∈ zw := List.mem_filter.mpr ⟨List.mem_append_right _ (List.mem_append_right _ (List.mem_append_right _ (List.mem_append_right _ (List.mem_append_right _ (List.mem_of_getElem? (l := tables_1_5) (i := 66) (by decide +kernel)))))), by decide +kernel⟩
set_option maxRecDepth 20000 in
theorem wmt5_67 : (.selects RX7 yX7_may yX7_may : Cond) ∈ zw := List.mem_filter.mpr ⟨List.mem_append_right _ (List.mem_append_right _ (List.mem_append_right _ (List.mem_append_right _ (List.mem_append_right _ (List.mem_of_getElem? (l := tables_1_5) (i := 67) (by decide +kernel)))))), by decide +kernel⟩
set_option maxRecDepth 20000 in
theorem wmt5_68 : (.code yX7_may cX7_may 3 (some .int) : Cond) ∈ zw := List.mem_filter.mpr ⟨List.mem_append_right _ (List.mem_append_right _ (List.mem_append_right _ (List.mem_append_right _ (List.mem_append_right _ (List.mem_of_getElem? (l := tables_1_5) (i := 68) (by decide +kernel)))))), by decide +kernel⟩
set_option maxRecDepth 20000 in
theorem wmt3_54 : (.methodLink RL 123 yX6_best : Cond) ∈ zw := List.mem_filter.mpr ⟨List.mem_append_right _ (List.mem_append_right _ (List.mem_append_right _ (List.mem_append_left _ (List.mem_of_getElem? (l := tables_1_3) (i := 54) (by decide +kernel))))), by decide +kernel⟩
set_option maxRecDepth 20000 in
theorem wmt3_55 : (.instanceMethod yX6_best : Cond) ∈ zw := List.mem_filter.mpr ⟨List.mem_append_right _ (List.mem_append_right _ (List.mem_append_right _ (List.mem_append_left _ (List.mem_of_getElem? (l := tables_1_3) (i := 55) (by decide +kernel))))), by decide +kernel⟩
set_option maxRecDepth 20000 in
theorem wmt3_56 : (.selects RX6 yX6_best yX6_best : Cond) ∈ zw := List.mem_filter.mpr ⟨List.mem_append_right _ (List.mem_append_right _ (List.mem_append_right _ (List.mem_append_left _ (List.mem_of_getElem? (l := tables_1_3) (i := 56) (by decide +kernel))))), by decide +kernel⟩
set_option maxRecDepth 20000 in
theorem wmt3_57 : (.code yX6_best cX6_best 9 (some .int) : Cond) ∈ zw := List.mem_filter.mpr ⟨List.mem_append_right _ (List.mem_append_right _ (List.mem_append_right _ (List.mem_append_left _ (List.mem_of_getElem? (l := tables_1_3) (i := 57) (by decide +kernel))))), by decide +kernel⟩
set_option maxRecDepth 20000 in
theorem wmt5_77 : (.methodLink RL 126 yX7_best : Cond) ∈ zw := List.mem_filter.mpr ⟨List.mem_append_right _ (List.mem_append_right _ (List.mem_append_right _ (List.mem_append_right _ (List.mem_append_right _ (List.mem_of_getElem? (l := tables_1_5) (i := 77) (by decide +kernel)))))), by decide +kernel⟩
set_option maxRecDepth 20000 in
theorem wmt5_78 : (.instanceMethod yX7_best : Cond) ∈ zw := List.mem_filter.mpr ⟨List.mem_append_right _ (List.mem_append_right _ (List.mem_append_right _ (List.mem_append_right _ (List.mem_append_right _ (List.mem_of_getElem? (l := tables_1_5) (i := 78) (by decide +kernel)))))), by decide +kernel⟩
set_option maxRecDepth 20000 in
theorem wmt5_79 : (.selects RX7 yX7_best yX7_best : Cond) ∈ zw := List.mem_filter.mpr ⟨List.mem_append_right _ (List.mem_append_right _ (List.mem_append_right _ (List.mem_append_right _ (List.mem_append_right _ (List.mem_of_getElem? (l := tables_1_5) (i := 79) (by decide +kernel)))))), by decide +kernel⟩
set_option maxRecDepth 20000 in
theorem wmt5_80 : (.code yX7_best cX7_best 19 (some .int) : Cond) ∈ zw := List.mem_filter.mpr ⟨List.mem_append_right _ (List.mem_append_right _ (List.mem_append_right _ (List.mem_append_right _ (List.mem_append_right _ (List.mem_of_getElem? (l := tables_1_5) (i := 80) (by decide +kernel)))))), by decide +kernel⟩
set_option maxRecDepth 20000 in
theorem wmt3_65 : (.methodLink RL 127 yX6_parted : Cond) ∈ zw := List.mem_filter.mpr ⟨List.mem_append_right _ (List.mem_append_right _ (List.mem_append_right _ (List.mem_append_left _ (List.mem_of_getElem? (l := tables_1_3) (i := 65) (by decide +kernel))))), by decide +kernel⟩
set_option maxRecDepth 20000 in
theorem wmt3_66 : (.instanceMethod yX6_parted : Cond) ∈ zw := List.mem_filter.mpr ⟨List.mem_append_right _ (List.mem_append_right _ (List.mem_append_right _ (List.mem_append_left _ (List.mem_of_getElem? (l := tables_1_3) (i := 66) (by decide +kernel))))), by decide +kernel⟩
set_option maxRecDepth 20000 in
theorem wmt3_67 : (.selects RX6 yX6_parted yX6_parted : Cond) ∈ zw := List.mem_filter.mpr ⟨List.mem_append_right _ (List.mem_append_right _ (List.mem_append_right _ (List.mem_append_left _ (List.mem_of_getElem? (l := tables_1_3) (i := 67) (by decide +kernel))))), by decide +kernel⟩
set_option maxRecDepth 20000 in
theorem wmt3_68 : (.code yX6_parted cX6_parted 11 (some .long) : Cond) ∈ zw := List.mem_filter.mpr ⟨List.mem_append_right _ (List.mem_append_right _ (List.mem_append_right _ (List.mem_append_left _ (List.mem_of_getElem? (l := tables_1_3) (i := 68) (by decide +kernel))))), by decide +kernel⟩
set_option maxRecDepth 20000 in
theorem wmt5_82 : (.methodLink RL 131 yX7_parted : Cond) ∈ zw := List.mem_filter.mpr ⟨List.mem_append_right _ (List.mem_append_right _ (List.mem_append_right _ (List.mem_append_right _ (List.mem_append_right _ (List.mem_of_getElem? (l := tables_1_5) (i := 82) (by decide +kernel)))))), by decide +kernel⟩
set_option maxRecDepth 20000 in
theorem wmt5_83 : (.instanceMethod yX7_parted : Cond) ∈ zw := List.mem_filter.mpr ⟨List.mem_append_right _ (List.mem_append_right _ (List.mem_append_right _ (List.mem_append_right _ (List.mem_append_right _ (List.mem_of_getElem? (l := tables_1_5) (i := 83) (by decide +kernel)))))), by decide +kernel⟩
set_option maxRecDepth 20000 in
theorem wmt5_84 : (.selects RX7 yX7_parted yX7_parted : Cond) ∈ zw := List.mem_filter.mpr ⟨List.mem_append_right _ (List.mem_append_right _ (List.mem_append_right _ (List.mem_append_right _ (List.mem_append_right _ (List.mem_of_getElem? (l := tables_1_5) (i := 84) (by decide +kernel)))))), by decide +kernel⟩
set_option maxRecDepth 20000 in
theorem wmt5_85 : (.code yX7_parted cX7_parted 13 (some .long) : Cond) ∈ zw := List.mem_filter.mpr ⟨List.mem_append_right _ (List.mem_append_right _ (List.mem_append_right _ (List.mem_append_right _ (List.mem_append_right _ (List.mem_of_getElem? (l := tables_1_5) (i := 85) (by decide +kernel)))))), by decide +kernel⟩
set_option maxRecDepth 20000 in
theorem wmt3_81 : (.methodLink RL 132 yX6_kept : Cond) ∈ zw := List.mem_filter.mpr ⟨List.mem_append_right _ (List.mem_append_right _ (List.mem_append_right _ (List.mem_append_left _ (List.mem_of_getElem? (l := tables_1_3) (i := 81) (by decide +kernel))))), by decide +kernel⟩
set_option maxRecDepth 20000 in
theorem wmt3_82 : (.instanceMethod yX6_kept : Cond) ∈ zw := List.mem_filter.mpr ⟨List.mem_append_right _ (List.mem_append_right _ (List.mem_append_right _ (List.mem_append_left _ (List.mem_of_getElem? (l := tables_1_3) (i := 82) (by decide +kernel))))), by decide +kernel⟩
set_option maxRecDepth 20000 in
theorem wmt3_83 : (.selects RX6 yX6_kept yX6_kept : Cond) ∈ zw := List.mem_filter.mpr ⟨List.mem_append_right _ (List.mem_append_right _ (List.mem_append_right _ (List.mem_append_left _ (List.mem_of_getElem? (l := tables_1_3) (i := 83) (by decide +kernel))))), by decide +kernel⟩
set_option maxRecDepth 20000 in
theorem wmt3_84 : (.code yX6_kept cX6_kept 5 (some .int) : Cond) ∈ zw := List.mem_filter.mpr ⟨List.mem_append_right _ (List.mem_append_right _ (List.mem_append_right _ (List.mem_append_left _ (List.mem_of_getElem? (l := tables_1_3) (i := 84) (by decide +kernel))))), by decide +kernel⟩
set_option maxRecDepth 20000 in
theorem wmt5_90 : (.methodLink RL 135 yX7_kept : Cond) ∈ zw := List.mem_filter.mpr ⟨List.mem_append_right _ (List.mem_append_right _ (List.mem_append_right _ (List.mem_append_right _ (List.mem_append_right _ (List.mem_of_getElem? (l := tables_1_5) (i := 90) (by decide +kernel)))))), by decide +kernel⟩
set_option maxRecDepth 20000 in
theorem wmt5_91 : (.instanceMethod yX7_kept : Cond) ∈ zw := List.mem_filter.mpr ⟨List.mem_append_right _ (List.mem_append_right _ (List.mem_append_right _ (List.mem_append_right _ (List.mem_append_right _ (List.mem_of_getElem? (l := tables_1_5) (i := 91) (by decide +kernel)))))), by decide +kernel⟩
set_option maxRecDepth 20000 in
theorem wmt5_92 : (.selects RX7 yX7_kept yX7_kept : Cond) ∈ zw := List.mem_filter.mpr ⟨List.mem_append_right _ (List.mem_append_right _ (List.mem_append_right _ (List.mem_append_right _ (List.mem_append_right _ (List.mem_of_getElem? (l := tables_1_5) (i := 92) (by decide +kernel)))))), by decide +kernel⟩
set_option maxRecDepth 20000 in
theorem wmt5_93 : (.code yX7_kept cX7_kept 4 (some .int) : Cond) ∈ zw := List.mem_filter.mpr ⟨List.mem_append_right _ (List.mem_append_right _ (List.mem_append_right _ (List.mem_append_right _ (List.mem_append_right _ (List.mem_of_getElem? (l := tables_1_5) (i := 93) (by decide +kernel)))))), by decide +kernel⟩
set_option maxRecDepth 20000 in
theorem wmt3_85 : (.methodLink RL 136 yX6_sheet : Cond) ∈ zw := List.mem_filter.mpr ⟨List.mem_append_right _ (List.mem_append_right _ (List.mem_append_right _ (List.mem_append_left _ (List.mem_of_getElem? (l := tables_1_3) (i := 85) (by decide +kernel))))), by decide +kernel⟩
set_option maxRecDepth 20000 in
theorem wmt3_86 : (.instanceMethod yX6_sheet : Cond) ∈ zw := List.mem_filter.mpr ⟨List.mem_append_right _ (List.mem_append_right _ (List.mem_append_right _ (List.mem_append_left _ (List.mem_of_getElem? (l := tables_1_3) (i := 86) (by decide +kernel))))), by decide +kernel⟩
set_option maxRecDepth 20000 in
theorem wmt3_87 : (.selects RX6 yX6_sheet yX6_sheet : Cond) ∈ zw := List.mem_filter.mpr ⟨List.mem_append_right _ (List.mem_append_right _ (List.mem_append_right _ (List.mem_append_left _ (List.mem_of_getElem? (l := tables_1_3) (i := 87) (by decide +kernel))))), by decide +kernel⟩
set_option maxRecDepth 20000 in
theorem wmt3_88 : (.code yX6_sheet cX6_sheet 4 (some .int) : Cond) ∈ zw := List.mem_filter.mpr ⟨List.mem_append_right _ (List.mem_append_right _ (List.mem_append_right _ (List.mem_append_left _ (List.mem_of_getElem? (l := tables_1_3) (i := 88) (by decide +kernel))))), by decide +kernel⟩
set_option maxRecDepth 20000 in
theorem wmt5_94 : (.methodLink RL 139 yX7_sheet : Cond) ∈ zw := List.mem_filter.mpr ⟨List.mem_append_right _ (List.mem_append_right _ (List.mem_append_right _ (List.mem_append_right _ (List.mem_append_right _ (List.mem_of_getElem? (l := tables_1_5) (i := 94) (by decide +kernel)))))), by decide +kernel⟩
set_option maxRecDepth 20000 in
theorem wmt5_95 : (.instanceMethod yX7_sheet : Cond) ∈ zw := List.mem_filter.mpr ⟨List.mem_append_right _ (List.mem_append_right _ (List.mem_append_right _ (List.mem_append_right _ (List.mem_append_right _ (List.mem_of_getElem? (l := tables_1_5) (i := 95) (by decide +kernel)))))), by decide +kernel⟩
set_option maxRecDepth 20000 in
theorem wmt5_96 : (.selects RX7 yX7_sheet yX7_sheet : Cond) ∈ zw := List.mem_filter.mpr ⟨List.mem_append_right _ (List.mem_append_right _ (List.mem_append_right _ (List.mem_append_right _ (List.mem_append_right _ (List.mem_of_getElem? (l := tables_1_5) (i := 96) (by decide +kernel)))))), by decide +kernel⟩
set_option maxRecDepth 20000 in
theorem wmt5_97 : (.code yX7_sheet cX7_sheet 5 (some .int) : Cond) ∈ zw := List.mem_filter.mpr ⟨List.mem_append_right _ (List.mem_append_right _ (List.mem_append_right _ (List.mem_append_right _ (List.mem_append_right _ (List.mem_of_getElem? (l := tables_1_5) (i := 97) (by decide +kernel)))))), by decide +kernel⟩
set_option maxRecDepth 20000 in
theorem wmt3_97 : (.methodLink RL 140 yX6_lose : Cond) ∈ zw := List.mem_filter.mpr ⟨List.mem_append_right _ (List.mem_append_right _ (List.mem_append_right _ (List.mem_append_left _ (List.mem_of_getElem? (l := tables_1_3) (i := 97) (by decide +kernel))))), by decide +kernel⟩
set_option maxRecDepth 20000 in
theorem wmt3_98 : (.instanceMethod yX6_lose : Cond) ∈ zw := List.mem_filter.mpr ⟨List.mem_append_right _ (List.mem_append_right _ (List.mem_append_right _ (List.mem_append_left _ (List.mem_of_getElem? (l := tables_1_3) (i := 98) (by decide +kernel))))), by decide +kernel⟩
set_option maxRecDepth 20000 in
theorem wmt3_99 : (.selects RX6 yX6_lose yX6_lose : Cond) ∈ zw := List.mem_filter.mpr ⟨List.mem_append_right _ (List.mem_append_right _ (List.mem_append_right _ (List.mem_append_left _ (List.mem_of_getElem? (l := tables_1_3) (i := 99) (by decide +kernel))))), by decide +kernel⟩
set_option maxRecDepth 20000 in
theorem wmt3_100 : (.code yX6_lose cX6_lose 2 (some .int) : Cond) ∈ zw := List.mem_filter.mpr ⟨List.mem_append_right _ (List.mem_append_right _ (List.mem_append_right _ (List.mem_append_left _ (List.mem_of_getElem? (l := tables_1_3) (i := 100) (by decide +kernel))))), by decide +kernel⟩
set_option maxRecDepth 20000 in
theorem wmt5_98 : (.methodLink RL 143 yX7_lose : Cond) ∈ zw := List.mem_filter.mpr ⟨List.mem_append_right _ (List.mem_append_right _ (List.mem_append_right _ (List.mem_append_right _ (List.mem_append_right _ (List.mem_of_getElem? (l := tables_1_5) (i := 98) (by decide +kernel)))))), by decide +kernel⟩
set_option maxRecDepth 20000 in
theorem wmt5_99 : (.instanceMethod yX7_lose : Cond) ∈ zw := List.mem_filter.mpr ⟨List.mem_append_right _ (List.mem_append_right _ (List.mem_append_right _ (List.mem_append_right _ (List.mem_append_right _ (List.mem_of_getElem? (l := tables_1_5) (i := 99) (by decide +kernel)))))), by decide +kernel⟩
set_option maxRecDepth 20000 in
theorem wmt5_100 : (.selects RX7 yX7_lose yX7_lose : Cond) ∈ zw := List.mem_filter.mpr ⟨List.mem_append_right _ (List.mem_append_right _ (List.mem_append_right _ (List.mem_append_right _ (List.mem_append_right _ (List.mem_of_getElem? (l := tables_1_5) (i := 100) (by decide +kernel)))))), by decide +kernel⟩
set_option maxRecDepth 20000 in
theorem wmt5_101 : (.code yX7_lose cX7_lose 2 (some .int) : Cond) ∈ zw := List.mem_filter.mpr ⟨List.mem_append_right _ (List.mem_append_right _ (List.mem_append_right _ (List.mem_append_right _ (List.mem_append_right _ (List.mem_of_getElem? (l := tables_1_5) (i := 101) (by decide +kernel)))))), by decide +kernel⟩
set_option maxRecDepth 20000 in
theorem wmt3_105 : (.methodLink RL 144 yX6_put : Cond) ∈ zw := List.mem_filter.mpr ⟨List.mem_append_right _ (List.mem_append_right _ (List.mem_append_right _ (List.mem_append_left _ (List.mem_of_getElem? (l := tables_1_3) (i := 105) (by decide +kernel))))), by decide +kernel⟩
set_option maxRecDepth 20000 in
theorem wmt3_106 : (.instanceMethod yX6_put : Cond) ∈ zw := List.mem_filter.mpr ⟨List.mem_append_right _ (List.mem_append_right _ (List.mem_append_right _ (List.mem_append_left _ (List.mem_of_getElem? (l := tables_1_3) (i := 106) (by decide +kernel))))), by decide +kernel⟩
set_option maxRecDepth 20000 in
theorem wmt3_107 : (.selects RX6 yX6_put yX6_put : Cond) ∈ zw := List.mem_filter.mpr ⟨List.mem_append_right _ (List.mem_append_right _ (List.mem_append_right _ (List.mem_append_left _ (List.mem_of_getElem? (l := tables_1_3) (i := 107) (by decide +kernel))))), by decide +kernel⟩
set_option maxRecDepth 20000 in
theorem wmt3_108 : (.code yX6_put cX6_put 6 (some .int) : Cond) ∈ zw := List.mem_filter.mpr ⟨List.mem_append_right _ (List.mem_append_right _ (List.mem_append_right _ (List.mem_append_left _ (List.mem_of_getElem? (l := tables_1_3) (i := 108) (by decide +kernel))))), by decide +kernel⟩
set_option maxRecDepth 20000 in
theorem wmt5_102 : (.methodLink RL 147 yX7_put : Cond) ∈ zw := List.mem_filter.mpr ⟨List.mem_append_right _ (List.mem_append_right _ (List.mem_append_right _ (List.mem_append_right _ (List.mem_append_right _ (List.mem_of_getElem? (l := tables_1_5) (i := 102) (by decide +kernel)))))), by decide +kernel⟩
set_option maxRecDepth 20000 in
theorem wmt5_103 : (.instanceMethod yX7_put : Cond) ∈ zw := List.mem_filter.mpr ⟨List.mem_append_right _ (List.mem_append_right _ (List.mem_append_right _ (List.mem_append_right _ (List.mem_append_right _ (List.mem_of_getElem? (l := tables_1_5) (i := 103) (by decide +kernel)))))), by decide +kernel⟩
set_option maxRecDepth 20000 in
theorem wmt5_104 : (.selects RX7 yX7_put yX7_put : Cond) ∈ zw := List.mem_filter.mpr ⟨List.mem_append_right _ (List.mem_append_right _ (List.mem_append_right _ (List.mem_append_right _ (List.mem_append_right _ (List.mem_of_getElem? (l := tables_1_5) (i := 104) (by decide +kernel)))))), by decide +kernel⟩
set_option maxRecDepth 20000 in
theorem wmt5_105 : (.code yX7_put cX7_put 6 (some .int) : Cond) ∈ zw := List.mem_filter.mpr ⟨List.mem_append_right _ (List.mem_append_right _ (List.mem_append_right _ (List.mem_append_right _ (List.mem_append_right _ (List.mem_of_getElem? (l := tables_1_5) (i := 105) (by decide +kernel)))))), by decide +kernel⟩
set_option maxRecDepth 20000 in
theorem wmt3_120 : (.methodLink RL 148 yX6_get : Cond) ∈ zw := List.mem_filter.mpr ⟨List.mem_append_right _ (List.mem_append_right _ (List.mem_append_right _ (List.mem_append_left _ (List.mem_of_getElem? (l := tables_1_3) (i := 120) (by decide +kernel))))), by decide +kernel⟩
set_option maxRecDepth 20000 in
theorem wmt3_121 : (.instanceMethod yX6_get : Cond) ∈ zw := List.mem_filter.mpr ⟨List.mem_append_right _ (List.mem_append_right _ (List.mem_append_right _ (List.mem_append_left _ (List.mem_of_getElem? (l := tables_1_3) (i := 121) (by decide +kernel))))), by decide +kernel⟩
set_option maxRecDepth 20000 in
theorem wmt3_122 : (.selects RX6 yX6_get yX6_get : Cond) ∈ zw := List.mem_filter.mpr ⟨List.mem_append_right _ (List.mem_append_right _ (List.mem_append_right _ (List.mem_append_left _ (List.mem_of_getElem? (l := tables_1_3) (i := 122) (by decide +kernel))))), by decide +kernel⟩
set_option maxRecDepth 20000 in
theorem wmt3_123 : (.code yX6_get cX6_get 5 (some .int) : Cond) ∈ zw := List.mem_filter.mpr ⟨List.mem_append_right _ (List.mem_append_right _ (List.mem_append_right _ (List.mem_append_left _ (List.mem_of_getElem? (l := tables_1_3) (i := 123) (by decide +kernel))))), by decide +kernel⟩
set_option maxRecDepth 20000 in
theorem wmt5_114 : (.methodLink RL 151 yX7_get : Cond) ∈ zw := List.mem_filter.mpr ⟨List.mem_append_right _ (List.mem_append_right _ (List.mem_append_right _ (List.mem_append_right _ (List.mem_append_right _ (List.mem_of_getElem? (l := tables_1_5) (i := 114) (by decide +kernel)))))), by decide +kernel⟩
set_option maxRecDepth 20000 in
theorem wmt5_115 : (.instanceMethod yX7_get : Cond) ∈ zw := List.mem_filter.mpr ⟨List.mem_append_right _ (List.mem_append_right _ (List.mem_append_right _ (List.mem_append_right _ (List.mem_append_right _ (List.mem_of_getElem? (l := tables_1_5) (i := 115) (by decide +kernel)))))), by decide +kernel⟩
set_option maxRecDepth 20000 in
theorem wmt5_116 : (.selects RX7 yX7_get yX7_get : Cond) ∈ zw := List.mem_filter.mpr ⟨List.mem_append_right _ (List.mem_append_right _ (List.mem_append_right _ (List.mem_append_right _ (List.mem_append_right _ (List.mem_of_getElem? (l := tables_1_5) (i := 116) (by decide +kernel)))))), by decide +kernel⟩
set_option maxRecDepth 20000 in
theorem wmt5_117 : (.code yX7_get cX7_get 5 (some .int) : Cond) ∈ zw := List.mem_filter.mpr ⟨List.mem_append_right _ (List.mem_append_right _ (List.mem_append_right _ (List.mem_append_right _ (List.mem_append_right _ (List.mem_of_getElem? (l := tables_1_5) (i := 117) (by decide +kernel)))))), by decide +kernel⟩
set_option maxRecDepth 20000 in
theorem wmt3_125 : (.methodLink RL 152 yX6_copy : Cond) ∈ zw := List.mem_filter.mpr ⟨List.mem_append_right _ (List.mem_append_right _ (List.mem_append_right _ (List.mem_append_left _ (List.mem_of_getElem? (l := tables_1_3) (i := 125) (by decide +kernel))))), by decide +kernel⟩
set_option maxRecDepth 20000 in
theorem wmt3_126 : (.instanceMethod yX6_copy : Cond) ∈ zw := List.mem_filter.mpr ⟨List.mem_append_right _ (List.mem_append_right _ (List.mem_append_right _ (List.mem_append_left _ (List.mem_of_getElem? (l := tables_1_3) (i := 126) (by decide +kernel))))), by decide +kernel⟩
set_option maxRecDepth 20000 in
theorem wmt3_127 : (.selects RX6 yX6_copy yX6_copy : Cond) ∈ zw := List.mem_filter.mpr ⟨List.mem_append_right _ (List.mem_append_right _ (List.mem_append_right _ (List.mem_append_left _ (List.mem_of_getElem? (l := tables_1_3) (i := 127) (by decide +kernel))))), by decide +kernel⟩
set_option maxRecDepth 20000 in
theorem wmt3_128 : (.code yX6_copy cX6_copy 8 (some .int) : Cond) ∈ zw := List.mem_filter.mpr ⟨List.mem_append_right _ (List.mem_append_right _ (List.mem_append_right _ (List.mem_append_left _ (List.mem_of_getElem? (l := tables_1_3) (i := 128) (by decide +kernel))))), by decide +kernel⟩
set_option maxRecDepth 20000 in
theorem wmt5_119 : (.methodLink RL 156 yX7_copy : Cond) ∈ zw := List.mem_filter.mpr ⟨List.mem_append_right _ (List.mem_append_right _ (List.mem_append_right _ (List.mem_append_right _ (List.mem_append_right _ (List.mem_of_getElem? (l := tables_1_5) (i := 119) (by decide +kernel)))))), by decide +kernel⟩
set_option maxRecDepth 20000 in
theorem wmt5_120 : (.instanceMethod yX7_copy : Cond) ∈ zw := List.mem_filter.mpr ⟨List.mem_append_right _ (List.mem_append_right _ (List.mem_append_right _ (List.mem_append_right _ (List.mem_append_right _ (List.mem_of_getElem? (l := tables_1_5) (i := 120) (by decide +kernel)))))), by decide +kernel⟩
set_option maxRecDepth 20000 in
theorem wmt5_121 : (.selects RX7 yX7_copy yX7_copy : Cond) ∈ zw := List.mem_filter.mpr ⟨List.mem_append_right _ (List.mem_append_right _ (List.mem_append_right _ (List.mem_append_right _ (List.mem_append_right _ (List.mem_of_getElem? (l := tables_1_5) (i := 121) (by decide +kernel)))))), by decide +kernel⟩
set_option maxRecDepth 20000 in
theorem wmt5_122 : (.code yX7_copy cX7_copy 7 (some .int) : Cond) ∈ zw := List.mem_filter.mpr ⟨List.mem_append_right _ (List.mem_append_right _ (List.mem_append_right _ (List.mem_append_right _ (List.mem_append_right _ (List.mem_of_getElem? (l := tables_1_5) (i := 122) (by decide +kernel)))))), by decide +kernel⟩
set_option maxRecDepth 20000 in
theorem wmt3_132 : (.methodLink RL 157 yX6_write : Cond) ∈ zw := List.mem_filter.mpr ⟨List.mem_append_right _ (List.mem_append_right _ (List.mem_append_right _ (List.mem_append_left _ (List.mem_of_getElem? (l := tables_1_3) (i := 132) (by decide +kernel))))), by decide +kernel⟩
set_option maxRecDepth 20000 in
theorem wmt3_133 : (.instanceMethod yX6_write : Cond) ∈ zw := List.mem_filter.mpr ⟨List.mem_append_right _ (List.mem_append_right _ (List.mem_append_right _ (List.mem_append_left _ (List.mem_of_getElem? (l := tables_1_3) (i := 133) (by decide +kernel))))), by decide +kernel⟩
set_option maxRecDepth 20000 in
theorem wmt3_134 : (.selects RX6 yX6_write yX6_write : Cond) ∈ zw := List.mem_filter.mpr ⟨List.mem_append_right _ (List.mem_append_right _ (List.mem_append_right _ (List.mem_append_left _ (List.mem_of_getElem? (l := tables_1_3) (i := 134) (by decide +kernel))))), by decide +kernel⟩
set_option maxRecDepth 20000 in
theorem wmt3_135 : (.code yX6_write cX6_write 6 (some .int) : Cond) ∈ zw := List.mem_filter.mpr ⟨List.mem_append_right _ (List.mem_append_right _ (List.mem_append_right _ (List.mem_append_left _ (List.mem_of_getElem? (l := tables_1_3) (i := 135) (by decide +kernel))))), by decide +kernel⟩
set_option maxRecDepth 20000 in
theorem wmt5_123 : (.methodLink RL 160 yX7_write : Cond) ∈ zw := List.mem_filter.mpr ⟨List.mem_append_right _ (List.mem_append_right _ (List.mem_append_right _ (List.mem_append_right _ (List.mem_append_right _ (List.mem_of_getElem? (l := tables_1_5) (i := 123) (by decide +kernel)))))), by decide +kernel⟩
set_option maxRecDepth 20000 in
theorem wmt5_124 : (.instanceMethod yX7_write : Cond) ∈ zw := List.mem_filter.mpr ⟨List.mem_append_right _ (List.mem_append_right _ (List.mem_append_right _ (List.mem_append_right _ (List.mem_append_right _ (List.mem_of_getElem? (l := tables_1_5) (i := 124) (by decide +kernel)))))), by decide +kernel⟩
set_option maxRecDepth 20000 in
theorem wmt5_125 : (.selects RX7 yX7_write yX7_write : Cond) ∈ zw := List.mem_filter.mpr ⟨List.mem_append_right _ (List.mem_append_right _ (List.mem_append_right _ (List.mem_append_right _ (List.mem_append_right _ (List.mem_of_getElem? (l := tables_1_5) (i := 125) (by decide +kernel)))))), by decide +kernel⟩
set_option maxRecDepth 20000 in
theorem wmt5_126 : (.code yX7_write cX7_write 4 (some .int) : Cond) ∈ zw := List.mem_filter.mpr ⟨List.mem_append_right _ (List.mem_append_right _ (List.mem_append_right _ (List.mem_append_right _ (List.mem_append_right _ (List.mem_of_getElem? (l := tables_1_5) (i := 126) (by decide +kernel)))))), by decide +kernel⟩
set_option maxRecDepth 20000 in
theorem wmt3_136 : (.methodLink RL 161 yX6_count : Cond) ∈ zw := List.mem_filter.mpr ⟨List.mem_append_right _ (List.mem_append_right _ (List.mem_append_right _ (List.mem_append_left _ (List.mem_of_getElem? (l := tables_1_3) (i := 136) (by decide +kernel))))), by decide +kernel⟩
set_option maxRecDepth 20000 in
theorem wmt5_127 : (.methodLink RL 164 yX7_count : Cond) ∈ zw := List.mem_filter.mpr ⟨List.mem_append_right _ (List.mem_append_right _ (List.mem_append_right _ (List.mem_append_right _ (List.mem_append_right _ (List.mem_of_getElem? (l := tables_1_5) (i := 127) (by decide +kernel)))))), by decide +kernel⟩
set_option maxRecDepth 20000 in
theorem wmt3_148 : (.methodLink RL 165 yX6_digest : Cond) ∈ zw := List.mem_filter.mpr ⟨List.mem_append_right _ (List.mem_append_right _ (List.mem_append_right _ (List.mem_append_left _ (List.mem_of_getElem? (l := tables_1_3) (i := 148) (by decide +kernel))))), by decide +kernel⟩
set_option maxRecDepth 20000 in
theorem wmt3_149 : (.instanceMethod yX6_digest : Cond) ∈ zw := List.mem_filter.mpr ⟨List.mem_append_right _ (List.mem_append_right _ (List.mem_append_right _ (List.mem_append_left _ (List.mem_of_getElem? (l := tables_1_3) (i := 149) (by decide +kernel))))), by decide +kernel⟩
set_option maxRecDepth 20000 in
theorem wmt3_150 : (.selects RX6 yX6_digest yX6_digest : Cond) ∈ zw := List.mem_filter.mpr ⟨List.mem_append_right _ (List.mem_append_right _ (List.mem_append_right _ (List.mem_append_left _ (List.mem_of_getElem? (l := tables_1_3) (i := 150) (by decide +kernel))))), by decide +kernel⟩
set_option maxRecDepth 20000 in
theorem wmt3_151 : (.code yX6_digest cX6_digest 5 (some .long) : Cond) ∈ zw := List.mem_filter.mpr ⟨List.mem_append_right _ (List.mem_append_right _ (List.mem_append_right _ (List.mem_append_left _ (List.mem_of_getElem? (l := tables_1_3) (i := 151) (by decide +kernel))))), by decide +kernel⟩
set_option maxRecDepth 20000 in
theorem wmt5_135 : (.methodLink RL 169 yX7_digest : Cond) ∈ zw := List.mem_filter.mpr ⟨List.mem_append_right _ (List.mem_append_right _ (List.mem_append_right _ (List.mem_append_right _ (List.mem_append_right _ (List.mem_of_getElem? (l := tables_1_5) (i := 135) (by decide +kernel)))))), by decide +kernel⟩
set_option maxRecDepth 20000 in
theorem wmt5_136 : (.instanceMethod yX7_digest : Cond) ∈ zw := List.mem_filter.mpr ⟨List.mem_append_right _ (List.mem_append_right _ (List.mem_append_right _ (List.mem_append_right _ (List.mem_append_right _ (List.mem_of_getElem? (l := tables_1_5) (i := 136) (by decide +kernel)))))), by decide +kernel⟩
set_option maxRecDepth 20000 in
theorem wmt5_137 : (.selects RX7 yX7_digest yX7_digest : Cond) ∈ zw := List.mem_filter.mpr ⟨List.mem_append_right _ (List.mem_append_right _ (List.mem_append_right _ (List.mem_append_right _ (List.mem_append_right _ (List.mem_of_getElem? (l := tables_1_5) (i := 137) (by decide +kernel)))))), by decide +kernel⟩
set_option maxRecDepth 20000 in
theorem wmt5_138 : (.code yX7_digest cX7_digest 5 (some .long) : Cond) ∈ zw := List.mem_filter.mpr ⟨List.mem_append_right _ (List.mem_append_right _ (List.mem_append_right _ (List.mem_append_right _ (List.mem_append_right _ (List.mem_of_getElem? (l := tables_1_5) (i := 138) (by decide +kernel)))))), by decide +kernel⟩
set_option maxRecDepth 20000 in
theorem wmt1_100 : (.instanceMethod yX2_init : Cond) ∈ zw := List.mem_filter.mpr ⟨List.mem_append_right _ (List.mem_append_left _ (List.mem_of_getElem? (l := tables_1_1) (i := 100) (by decide +kernel))), by decide +kernel⟩
set_option maxRecDepth 20000 in
theorem wmt1_101 : (.code yX2_init cX2_init 1 none : Cond) ∈ zw := List.mem_filter.mpr ⟨List.mem_append_right _ (List.mem_append_left _ (List.mem_of_getElem? (l := tables_1_1) (i := 101) (by decide +kernel))), by decide +kernel⟩
set_option maxRecDepth 20000 in
theorem wmt1_102 : (.methodLink RX2 1 objectInit : Cond) ∈ zw := List.mem_filter.mpr ⟨List.mem_append_right _ (List.mem_append_left _ (List.mem_of_getElem? (l := tables_1_1) (i := 102) (by decide +kernel))), by decide +kernel⟩
set_option maxRecDepth 20000 in
theorem wmt1_112 : (.instantiable RX1 9 : Cond) ∈ zw := List.mem_filter.mpr ⟨List.mem_append_right _ (List.mem_append_left _ (List.mem_of_getElem? (l := tables_1_1) (i := 112) (by decide +kernel))), by decide +kernel⟩
set_option maxRecDepth 20000 in
theorem wmt1_114 : (.instanceMethod yX1_init : Cond) ∈ zw := List.mem_filter.mpr ⟨List.mem_append_right _ (List.mem_append_left _ (List.mem_of_getElem? (l := tables_1_1) (i := 114) (by decide +kernel))), by decide +kernel⟩
set_option maxRecDepth 20000 in
theorem wmt1_115 : (.code yX1_init cX1_init 1 none : Cond) ∈ zw := List.mem_filter.mpr ⟨List.mem_append_right _ (List.mem_append_left _ (List.mem_of_getElem? (l := tables_1_1) (i := 115) (by decide +kernel))), by decide +kernel⟩
set_option maxRecDepth 20000 in
theorem wmt1_116 : (.methodLink RX1 3 objectInit : Cond) ∈ zw := List.mem_filter.mpr ⟨List.mem_append_right _ (List.mem_append_left _ (List.mem_of_getElem? (l := tables_1_1) (i := 116) (by decide +kernel))), by decide +kernel⟩
set_option maxRecDepth 20000 in
theorem wmt1_12 : (.classLink RL 7 RX6 : Cond) ∈ zw := List.mem_filter.mpr ⟨List.mem_append_right _ (List.mem_append_left _ (List.mem_of_getElem? (l := tables_1_1) (i := 12) (by decide +kernel))), by decide +kernel⟩
set_option maxRecDepth 20000 in
theorem wmt1_13 : (.instantiable RX6 12 : Cond) ∈ zw := List.mem_filter.mpr ⟨List.mem_append_right _ (List.mem_append_left _ (List.mem_of_getElem? (l := tables_1_1) (i := 13) (by decide +kernel))), by decide +kernel⟩
set_option maxRecDepth 20000 in
theorem wmt1_14 : (.methodLink RL 9 yX6_init : Cond) ∈ zw := List.mem_filter.mpr ⟨List.mem_append_right _ (List.mem_append_left _ (List.mem_of_getElem? (l := tables_1_1) (i := 14) (by decide +kernel))), by decide +kernel⟩
set_option maxRecDepth 20000 in
theorem wmt1_15 : (.instanceMethod yX6_init : Cond) ∈ zw := List.mem_filter.mpr ⟨List.mem_append_right _ (List.mem_append_left _ (List.mem_of_getElem? (l := tables_1_1) (i := 15) (by decide +kernel))), by decide +kernel⟩
set_option maxRecDepth 20000 in
theorem wmt1_152 : (.instantiable RX5 3 : Cond) ∈ zw := List.mem_filter.mpr ⟨List.mem_append_right _ (List.mem_append_left _ (List.mem_of_getElem? (l := tables_1_1) (i := 152) (by decide +kernel))), by decide +kernel⟩
set_option maxRecDepth 20000 in
theorem wmt1_154 : (.instanceMethod yX5_init : Cond) ∈ zw := List.mem_filter.mpr ⟨List.mem_append_right _ (List.mem_append_left _ (List.mem_of_getElem? (l := tables_1_1) (i := 154) (by decide +kernel))), by decide +kernel⟩
set_option maxRecDepth 20000 in
theorem wmt1_155 : (.code yX5_init cX5_init 1 none : Cond) ∈ zw := List.mem_filter.mpr ⟨List.mem_append_right _ (List.mem_append_left _ (List.mem_of_getElem? (l := tables_1_1) (i := 155) (by decide +kernel))), by decide +kernel⟩
set_option maxRecDepth 20000 in
theorem wmt1_156 : (.methodLink RX5 3 objectInit : Cond) ∈ zw := List.mem_filter.mpr ⟨List.mem_append_right _ (List.mem_append_left _ (List.mem_of_getElem? (l := tables_1_1) (i := 156) (by decide +kernel))), by decide +kernel⟩
set_option maxRecDepth 20000 in
theorem wmt1_16 : (.code yX6_init cX6_init 2 none : Cond) ∈ zw := List.mem_filter.mpr ⟨List.mem_append_right _ (List.mem_append_left _ (List.mem_of_getElem? (l := tables_1_1) (i := 16) (by decide +kernel))), by decide +kernel⟩
set_option maxRecDepth 20000 in
theorem wmt1_17 : (.methodLink RX6 1 objectInit : Cond) ∈ zw := List.mem_filter.mpr ⟨List.mem_append_right _ (List.mem_append_left _ (List.mem_of_getElem? (l := tables_1_1) (i := 17) (by decide +kernel))), by decide +kernel⟩
set_option maxRecDepth 20000 in
theorem wmt1_18 : (.instanceMethod objectInit : Cond) ∈ zw := List.mem_filter.mpr ⟨List.mem_append_right _ (List.mem_append_left _ (List.mem_of_getElem? (l := tables_1_1) (i := 18) (by decide +kernel))), by decide +kernel⟩
set_option maxRecDepth 20000 in
theorem wmt1_19 : (.code objectInit ⟨#[0xb1]⟩ 1 none : Cond) ∈ zw := List.mem_filter.mpr ⟨List.mem_append_right _ (List.mem_append_left _ (List.mem_of_getElem? (l := tables_1_1) (i := 19) (by decide +kernel))), by decide +kernel⟩
set_option maxRecDepth 20000 in
theorem wmt1_20 : (.classLink RX6 9 RX1 : Cond) ∈ zw := List.mem_filter.mpr ⟨List.mem_append_right _ (List.mem_append_left _ (List.mem_of_getElem? (l := tables_1_1) (i := 20) (by decide +kernel))), by decide +kernel⟩
set_option maxRecDepth 20000 in
theorem wmt1_22 : (.classLink RX6 15 RX5 : Cond) ∈ zw := List.mem_filter.mpr ⟨List.mem_append_right _ (List.mem_append_left _ (List.mem_of_getElem? (l := tables_1_1) (i := 22) (by decide +kernel))), by decide +kernel⟩
set_option maxRecDepth 20000 in
theorem wmt1_24 : (.classLink RX6 25 RX0 : Cond) ∈ zw := List.mem_filter.mpr ⟨List.mem_append_right _ (List.mem_append_left _ (List.mem_of_getElem? (l := tables_1_1) (i := 24) (by decide +kernel))), by decide +kernel⟩
set_option maxRecDepth 20000 in
theorem wmt1_25 : (.instantiable RX0 9 : Cond) ∈ zw := List.mem_filter.mpr ⟨List.mem_append_right _ (List.mem_append_left _ (List.mem_of_getElem? (l := tables_1_1) (i := 25) (by decide +kernel))), by decide +kernel⟩
set_option maxRecDepth 20000 in
theorem wmt1_27 : (.instanceMethod yX0_init : Cond) ∈ zw := List.mem_filter.mpr ⟨List.mem_append_right _ (List.mem_append_left _ (List.mem_of_getElem? (l := tables_1_1) (i := 27) (by decide +kernel))), by decide +kernel⟩
set_option maxRecDepth 20000 in
theorem wmt1_28 : (.code yX0_init cX0_init 1 none : Cond) ∈ zw := List.mem_filter.mpr ⟨List.mem_append_right _ (List.mem_append_left _ (List.mem_of_getElem? (l := tables_1_1) (i := 28) (by decide +kernel))), by decide +kernel⟩
set_option maxRecDepth 20000 in
theorem wmt1_29 : (.methodLink RX0 3 objectInit : Cond) ∈ zw := List.mem_filter.mpr ⟨List.mem_append_right _ (List.mem_append_left _ (List.mem_of_getElem? (l := tables_1_1) (i := 29) (by decide +kernel))), by decide +kernel⟩
set_option maxRecDepth 20000 in
theorem wmt1_67 : (.arrayClass .int : Cond) ∈ zw := List.mem_filter.mpr ⟨List.mem_append_right _ (List.mem_append_left _ (List.mem_of_getElem? (l := tables_1_1) (i := 67) (by decide +kernel))), by decide +kernel⟩
set_option maxRecDepth 20000 in
theorem wmt1_68 : (.classLink RX6 32 RX4 : Cond) ∈ zw := List.mem_filter.mpr ⟨List.mem_append_right _ (List.mem_append_left _ (List.mem_of_getElem? (l := tables_1_1) (i := 68) (by decide +kernel))), by decide +kernel⟩
set_option maxRecDepth 20000 in
theorem wmt1_69 : (.instantiable RX4 3 : Cond) ∈ zw := List.mem_filter.mpr ⟨List.mem_append_right _ (List.mem_append_left _ (List.mem_of_getElem? (l := tables_1_1) (i := 69) (by decide +kernel))), by decide +kernel⟩
set_option maxRecDepth 20000 in
theorem wmt1_71 : (.instanceMethod yX4_init : Cond) ∈ zw := List.mem_filter.mpr ⟨List.mem_append_right _ (List.mem_append_left _ (List.mem_of_getElem? (l := tables_1_1) (i := 71) (by decide +kernel))), by decide +kernel⟩
set_option maxRecDepth 20000 in
theorem wmt1_72 : (.code yX4_init cX4_init 1 none : Cond) ∈ zw := List.mem_filter.mpr ⟨List.mem_append_right _ (List.mem_append_left _ (List.mem_of_getElem? (l := tables_1_1) (i := 72) (by decide +kernel))), by decide +kernel⟩
set_option maxRecDepth 20000 in
theorem wmt1_73 : (.methodLink RX4 1 objectInit : Cond) ∈ zw := List.mem_filter.mpr ⟨List.mem_append_right _ (List.mem_append_left _ (List.mem_of_getElem? (l := tables_1_1) (i := 73) (by decide +kernel))), by decide +kernel⟩
set_option maxRecDepth 20000 in
theorem wmt1_86 : (.classLink RX6 39 RX3 : Cond) ∈ zw := List.mem_filter.mpr ⟨List.mem_append_right _ (List.mem_append_left _ (List.mem_of_getElem? (l := tables_1_1) (i := 86) (by decide +kernel))), by decide +kernel⟩
set_option maxRecDepth 20000 in
theorem wmt1_87 : (.instantiable RX3 1 : Cond) ∈ zw := List.mem_filter.mpr ⟨List.mem_append_right _ (List.mem_append_left _ (List.mem_of_getElem? (l := tables_1_1) (i := 87) (by decide +kernel))), by decide +kernel⟩
set_option maxRecDepth 20000 in
theorem wmt1_89 : (.instanceMethod yX3_init : Cond) ∈ zw := List.mem_filter.mpr ⟨List.mem_append_right _ (List.mem_append_left _ (List.mem_of_getElem? (l := tables_1_1) (i := 89) (by decide +kernel))), by decide +kernel⟩
set_option maxRecDepth 20000 in
theorem wmt1_90 : (.code yX3_init cX3_init 1 none : Cond) ∈ zw := List.mem_filter.mpr ⟨List.mem_append_right _ (List.mem_append_left _ (List.mem_of_getElem? (l := tables_1_1) (i := 90) (by decide +kernel))), by decide +kernel⟩
set_option maxRecDepth 20000 in
theorem wmt1_91 : (.methodLink RX3 3 objectInit : Cond) ∈ zw := List.mem_filter.mpr ⟨List.mem_append_right _ (List.mem_append_left _ (List.mem_of_getElem? (l := tables_1_1) (i := 91) (by decide +kernel))), by decide +kernel⟩
set_option maxRecDepth 20000 in
theorem wmt1_96 : (.arrayClass .long : Cond) ∈ zw := List.mem_filter.mpr ⟨List.mem_append_right _ (List.mem_append_left _ (List.mem_of_getElem? (l := tables_1_1) (i := 96) (by decide +kernel))), by decide +kernel⟩
set_option maxRecDepth 20000 in
theorem wmt1_97 : (.classLink RX6 46 RX2 : Cond) ∈ zw := List.mem_filter.mpr ⟨List.mem_append_right _ (List.mem_append_left _ (List.mem_of_getElem? (l := tables_1_1) (i := 97) (by decide +kernel))), by decide +kernel⟩
set_option maxRecDepth 20000 in
theorem wmt1_98 : (.instantiable RX2 2 : Cond) ∈ zw := List.mem_filter.mpr ⟨List.mem_append_right _ (List.mem_append_left _ (List.mem_of_getElem? (l := tables_1_1) (i := 98) (by decide +kernel))), by decide +kernel⟩
set_option maxRecDepth 20000 in
theorem wmt3_161 : (.classLink RL 10 RX7 : Cond) ∈ zw := List.mem_filter.mpr ⟨List.mem_append_right _ (List.mem_append_right _ (List.mem_append_right _ (List.mem_append_left _ (List.mem_of_getElem? (l := tables_1_3) (i := 161) (by decide +kernel))))), by decide +kernel⟩
set_option maxRecDepth 20000 in
theorem wmt3_162 : (.instantiable RX7 42 : Cond) ∈ zw := List.mem_filter.mpr ⟨List.mem_append_right _ (List.mem_append_right _ (List.mem_append_right _ (List.mem_append_left _ (List.mem_of_getElem? (l := tables_1_3) (i := 162) (by decide +kernel))))), by decide +kernel⟩
set_option maxRecDepth 20000 in
theorem wmt3_163 : (.methodLink RL 12 yX7_init : Cond) ∈ zw := List.mem_filter.mpr ⟨List.mem_append_right _ (List.mem_append_right _ (List.mem_append_right _ (List.mem_append_left _ (List.mem_of_getElem? (l := tables_1_3) (i := 163) (by decide +kernel))))), by decide +kernel⟩
set_option maxRecDepth 20000 in
theorem wmt3_164 : (.instanceMethod yX7_init : Cond) ∈ zw := List.mem_filter.mpr ⟨List.mem_append_right _ (List.mem_append_right _ (List.mem_append_right _ (List.mem_append_left _ (List.mem_of_getElem? (l := tables_1_3) (i := 164) (by decide +kernel))))), by decide +kernel⟩
set_option maxRecDepth 20000 in
theorem wmt3_165 : (.code yX7_init cX7_init 1 none : Cond) ∈ zw := List.mem_filter.mpr ⟨List.mem_append_right _ (List.mem_append_right _ (List.mem_append_right _ (List.mem_append_left _ (List.mem_of_getElem? (l := tables_1_3) (i := 165) (by decide +kernel))))), by decide +kernel⟩
set_option maxRecDepth 20000 in
theorem wmt3_166 : (.methodLink RX7 1 objectInit : Cond) ∈ zw := List.mem_filter.mpr ⟨List.mem_append_right _ (List.mem_append_right _ (List.mem_append_right _ (List.mem_append_left _ (List.mem_of_getElem? (l := tables_1_3) (i := 166) (by decide +kernel))))), by decide +kernel⟩
set_option maxRecDepth 20000 in
theorem wmt4_54 : (.arrayClass .boolean : Cond) ∈ zw := List.mem_filter.mpr ⟨List.mem_append_right _ (List.mem_append_right _ (List.mem_append_right _ (List.mem_append_right _ (List.mem_append_left _ (List.mem_of_getElem? (l := tables_1_4) (i := 54) (by decide +kernel)))))), by decide +kernel⟩
set_option maxRecDepth 20000 in
theorem inq0 : ∀ w ∈ u_ws RX0 TX0 9, w ∈ lw_tbl := by decide +kernel
set_option maxRecDepth 20000 in
theorem inq1 : ∀ w ∈ u_ws RX1 TX1 9, w ∈ lw_tbl := by decide +kernel
set_option maxRecDepth 20000 in
theorem inq2 : ∀ w ∈ u_ws RX2 TX2 2, w ∈ lw_tbl := by decide +kernel
set_option maxRecDepth 20000 in
theorem inq3 : ∀ w ∈ u_ws RX3 TX3 1, w ∈ lw_tbl := by decide +kernel
set_option maxRecDepth 20000 in
theorem inq4 : ∀ w ∈ u_ws RX4 TX4 3, w ∈ lw_tbl := by decide +kernel
set_option maxRecDepth 20000 in
theorem inq5 : ∀ w ∈ u_ws RX5 TX5 3, w ∈ lw_tbl := by decide +kernel
set_option maxRecDepth 20000 in
theorem inq6 : ∀ w ∈ u_ws RX6 TX6 12, w ∈ lw_tbl := by decide +kernel
set_option maxRecDepth 20000 in
theorem inq7 : ∀ w ∈ u_ws RX7 TX7 42, w ∈ lw_tbl := by decide +kernel
theorem inr0 : (u_ws RX0 TX0 9).all goodWord = true := by decide +kernel
theorem inr1 : (u_ws RX1 TX1 9).all goodWord = true := by decide +kernel
theorem inr2 : (u_ws RX2 TX2 2).all goodWord = true := by decide +kernel
theorem inr3 : (u_ws RX3 TX3 1).all goodWord = true := by decide +kernel
theorem inr4 : (u_ws RX4 TX4 3).all goodWord = true := by decide +kernel
theorem inr5 : (u_ws RX5 TX5 3).all goodWord = true := by decide +kernel
theorem inr6 : (u_ws RX6 TX6 12).all goodWord = true := by decide +kernel
theorem inr7 : (u_ws RX7 TX7 42).all goodWord = true := by decide +kernel
theorem inw0 : ∀ w ∈ u_ws RX0 TX0 9, w ∈ zw := fun w h => List.mem_filter.mpr ⟨inq0 w h, List.all_eq_true.mp inr0 w h⟩
theorem inw1 : ∀ w ∈ u_ws RX1 TX1 9, w ∈ zw := fun w h => List.mem_filter.mpr ⟨inq1 w h, List.all_eq_true.mp inr1 w h⟩
theorem inw2 : ∀ w ∈ u_ws RX2 TX2 2, w ∈ zw := fun w h => List.mem_filter.mpr ⟨inq2 w h, List.all_eq_true.mp inr2 w h⟩
theorem inw3 : ∀ w ∈ u_ws RX3 TX3 1, w ∈ zw := fun w h => List.mem_filter.mpr ⟨inq3 w h, List.all_eq_true.mp inr3 w h⟩
theorem inw4 : ∀ w ∈ u_ws RX4 TX4 3, w ∈ zw := fun w h => List.mem_filter.mpr ⟨inq4 w h, List.all_eq_true.mp inr4 w h⟩
theorem inw5 : ∀ w ∈ u_ws RX5 TX5 3, w ∈ zw := fun w h => List.mem_filter.mpr ⟨inq5 w h, List.all_eq_true.mp inr5 w h⟩
theorem inw6 : ∀ w ∈ u_ws RX6 TX6 12, w ∈ zw := fun w h => List.mem_filter.mpr ⟨inq6 w h, List.all_eq_true.mp inr6 w h⟩
theorem inw7 : ∀ w ∈ u_ws RX7 TX7 42, w ∈ zw := fun w h => List.mem_filter.mpr ⟨inq7 w h, List.all_eq_true.mp inr7 w h⟩
