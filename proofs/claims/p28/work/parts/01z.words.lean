set_option maxRecDepth 20000 in
theorem wmt2_54 : (.constantLong RX6 323 (-9223372036854775808) : Cond) ∈ zw := List.mem_filter.mpr ⟨List.mem_append_right _ (List.mem_append_right _ (List.mem_append_left _ (List.mem_of_getElem? (l := tables_1_2) (i := 54) (by decide +kernel)))), by decide +kernel⟩
set_option maxRecDepth 20000 in
theorem wmt2_11 : (.methodLink RX6 374 Lib.MathLoose.abs_long.x : Cond) ∈ zw := List.mem_filter.mpr ⟨List.mem_append_right _ (List.mem_append_right _ (List.mem_append_left _ (List.mem_of_getElem? (l := tables_1_2) (i := 11) (by decide +kernel)))), by decide +kernel⟩
set_option maxRecDepth 20000 in
theorem wmt2_12 : (.static Lib.MathLoose.abs_long.x : Cond) ∈ zw := List.mem_filter.mpr ⟨List.mem_append_right _ (List.mem_append_right _ (List.mem_append_left _ (List.mem_of_getElem? (l := tables_1_2) (i := 12) (by decide +kernel)))), by decide +kernel⟩
set_option maxRecDepth 20000 in
theorem wmt1_10 : (.initialized "java/lang/Math" : Cond) ∈ zw := List.mem_filter.mpr ⟨List.mem_append_right _ (List.mem_append_left _ (List.mem_of_getElem? (l := tables_1_1) (i := 10) (by decide +kernel))), by decide +kernel⟩
set_option maxRecDepth 20000 in
theorem wmt2_13 : (.code Lib.MathLoose.abs_long.x Lib.MathLoose.abs_long.code 2 (some .long) : Cond) ∈ zw := List.mem_filter.mpr ⟨List.mem_append_right _ (List.mem_append_right _ (List.mem_append_left _ (List.mem_of_getElem? (l := tables_1_2) (i := 13) (by decide +kernel)))), by decide +kernel⟩
set_option maxRecDepth 20000 in
theorem wmt2_226 : (.constantLong RX6 333 (10) : Cond) ∈ zw := List.mem_filter.mpr ⟨List.mem_append_right _ (List.mem_append_right _ (List.mem_append_left _ (List.mem_of_getElem? (l := tables_1_2) (i := 226) (by decide +kernel)))), by decide +kernel⟩
set_option maxRecDepth 20000 in
theorem wmt1_122 : (.fieldLink RX1 29 "SecretLots$Design" "size" "I" : Cond) ∈ zw := List.mem_filter.mpr ⟨List.mem_append_right _ (List.mem_append_left _ (List.mem_of_getElem? (l := tables_1_1) (i := 122) (by decide +kernel))), by decide +kernel⟩
set_option maxRecDepth 20000 in
theorem wmt1_118 : (.fieldLink RX1 9 "SecretLots$Design" "text" "[I" : Cond) ∈ zw := List.mem_filter.mpr ⟨List.mem_append_right _ (List.mem_append_left _ (List.mem_of_getElem? (l := tables_1_1) (i := 118) (by decide +kernel))), by decide +kernel⟩
set_option maxRecDepth 20000 in
theorem wmt1_236 : (.code yX1_byteAt cX1_byteAt 2 (some .int) : Cond) ∈ zw := List.mem_filter.mpr ⟨List.mem_append_right _ (List.mem_append_left _ (List.mem_of_getElem? (l := tables_1_1) (i := 236) (by decide +kernel))), by decide +kernel⟩
set_option maxRecDepth 20000 in
theorem wmt1_233 : (.methodLink RX1 76 yX1_byteAt : Cond) ∈ zw := List.mem_filter.mpr ⟨List.mem_append_right _ (List.mem_append_left _ (List.mem_of_getElem? (l := tables_1_1) (i := 233) (by decide +kernel))), by decide +kernel⟩
set_option maxRecDepth 20000 in
theorem wmt1_235 : (.instanceMethod yX1_byteAt : Cond) ∈ zw := List.mem_filter.mpr ⟨List.mem_append_right _ (List.mem_append_left _ (List.mem_of_getElem? (l := tables_1_1) (i := 235) (by decide +kernel))), by decide +kernel⟩
set_option maxRecDepth 20000 in
theorem wmp1_2 : (.selects RX1 yX1_byteAt yX1_byteAt : Cond) ∈ zw := List.mem_filter.mpr ⟨List.mem_of_getElem? (l := lw_tbl) (i := 2) (by decide +kernel), by decide +kernel⟩
set_option maxRecDepth 20000 in
theorem wmt1_6 : (.initialized RX1 : Cond) ∈ zw := List.mem_filter.mpr ⟨List.mem_append_right _ (List.mem_append_left _ (List.mem_of_getElem? (l := tables_1_1) (i := 6) (by decide +kernel))), by decide +kernel⟩
set_option maxRecDepth 20000 in
theorem wmt1_121 : (.fieldLink RX1 25 "SecretLots$Design" "at" "I" : Cond) ∈ zw := List.mem_filter.mpr ⟨List.mem_append_right _ (List.mem_append_left _ (List.mem_of_getElem? (l := tables_1_1) (i := 121) (by decide +kernel))), by decide +kernel⟩
set_option maxRecDepth 20000 in
theorem wmt2_7 : (.code yX1_figureAt cX1_figureAt 3 (some .int) : Cond) ∈ zw := List.mem_filter.mpr ⟨List.mem_append_right _ (List.mem_append_right _ (List.mem_append_left _ (List.mem_of_getElem? (l := tables_1_2) (i := 7) (by decide +kernel)))), by decide +kernel⟩
set_option maxRecDepth 20000 in
theorem wmt2_4 : (.methodLink RX1 86 yX1_figureAt : Cond) ∈ zw := List.mem_filter.mpr ⟨List.mem_append_right _ (List.mem_append_right _ (List.mem_append_left _ (List.mem_of_getElem? (l := tables_1_2) (i := 4) (by decide +kernel)))), by decide +kernel⟩
set_option maxRecDepth 20000 in
theorem wmt2_6 : (.instanceMethod yX1_figureAt : Cond) ∈ zw := List.mem_filter.mpr ⟨List.mem_append_right _ (List.mem_append_right _ (List.mem_append_left _ (List.mem_of_getElem? (l := tables_1_2) (i := 6) (by decide +kernel)))), by decide +kernel⟩
set_option maxRecDepth 20000 in
theorem wmp1_4 : (.selects RX1 yX1_figureAt yX1_figureAt : Cond) ∈ zw := List.mem_filter.mpr ⟨List.mem_of_getElem? (l := lw_tbl) (i := 4) (by decide +kernel), by decide +kernel⟩
set_option maxRecDepth 20000 in
theorem wmt1_239 : (.code yX1_letterOf cX1_letterOf 1 (some .int) : Cond) ∈ zw := List.mem_filter.mpr ⟨List.mem_append_right _ (List.mem_append_left _ (List.mem_of_getElem? (l := tables_1_1) (i := 239) (by decide +kernel))), by decide +kernel⟩
set_option maxRecDepth 20000 in
theorem wmt1_237 : (.methodLink RX1 80 yX1_letterOf : Cond) ∈ zw := List.mem_filter.mpr ⟨List.mem_append_right _ (List.mem_append_left _ (List.mem_of_getElem? (l := tables_1_1) (i := 237) (by decide +kernel))), by decide +kernel⟩
set_option maxRecDepth 20000 in
theorem wmt1_238 : (.static yX1_letterOf : Cond) ∈ zw := List.mem_filter.mpr ⟨List.mem_append_right _ (List.mem_append_left _ (List.mem_of_getElem? (l := tables_1_1) (i := 238) (by decide +kernel))), by decide +kernel⟩
set_option maxRecDepth 20000 in
theorem wmt2_3 : (.code yX1_parseNumber cX1_parseNumber 3 (some .int) : Cond) ∈ zw := List.mem_filter.mpr ⟨List.mem_append_right _ (List.mem_append_right _ (List.mem_append_left _ (List.mem_of_getElem? (l := tables_1_2) (i := 3) (by decide +kernel)))), by decide +kernel⟩
set_option maxRecDepth 20000 in
theorem wmt2_0 : (.methodLink RX1 83 yX1_parseNumber : Cond) ∈ zw := List.mem_filter.mpr ⟨List.mem_append_right _ (List.mem_append_right _ (List.mem_append_left _ (List.mem_of_getElem? (l := tables_1_2) (i := 0) (by decide +kernel)))), by decide +kernel⟩
set_option maxRecDepth 20000 in
theorem wmt2_2 : (.instanceMethod yX1_parseNumber : Cond) ∈ zw := List.mem_filter.mpr ⟨List.mem_append_right _ (List.mem_append_right _ (List.mem_append_left _ (List.mem_of_getElem? (l := tables_1_2) (i := 2) (by decide +kernel)))), by decide +kernel⟩
set_option maxRecDepth 20000 in
theorem wmp1_3 : (.selects RX1 yX1_parseNumber yX1_parseNumber : Cond) ∈ zw := List.mem_filter.mpr ⟨List.mem_of_getElem? (l := lw_tbl) (i := 3) (by decide +kernel), by decide +kernel⟩
set_option maxRecDepth 20000 in
theorem wmt1_117 : (.constantLong RX1 19 (232792560) : Cond) ∈ zw := List.mem_filter.mpr ⟨List.mem_append_right _ (List.mem_append_left _ (List.mem_of_getElem? (l := tables_1_1) (i := 117) (by decide +kernel))), by decide +kernel⟩
set_option maxRecDepth 20000 in
theorem wmt1_119 : (.fieldLink RX1 15 "SecretLots$Design" "shares" "[J" : Cond) ∈ zw := List.mem_filter.mpr ⟨List.mem_append_right _ (List.mem_append_left _ (List.mem_of_getElem? (l := tables_1_1) (i := 119) (by decide +kernel))), by decide +kernel⟩
set_option maxRecDepth 20000 in
theorem wmt1_120 : (.fieldLink RX1 21 "SecretLots$Design" "common" "J" : Cond) ∈ zw := List.mem_filter.mpr ⟨List.mem_append_right _ (List.mem_append_left _ (List.mem_of_getElem? (l := tables_1_1) (i := 120) (by decide +kernel))), by decide +kernel⟩
set_option maxRecDepth 20000 in
theorem wmt2_10 : (.code yX6_commonDivisor cX6_commonDivisor 11 (some .long) : Cond) ∈ zw := List.mem_filter.mpr ⟨List.mem_append_right _ (List.mem_append_right _ (List.mem_append_left _ (List.mem_of_getElem? (l := tables_1_2) (i := 10) (by decide +kernel)))), by decide +kernel⟩
set_option maxRecDepth 20000 in
theorem wmt1_1 : (.initialized RX6 : Cond) ∈ zw := List.mem_filter.mpr ⟨List.mem_append_right _ (List.mem_append_left _ (List.mem_of_getElem? (l := tables_1_1) (i := 1) (by decide +kernel))), by decide +kernel⟩
set_option maxRecDepth 20000 in
theorem wmt2_9 : (.static yX6_commonDivisor : Cond) ∈ zw := List.mem_filter.mpr ⟨List.mem_append_right _ (List.mem_append_right _ (List.mem_append_left _ (List.mem_of_getElem? (l := tables_1_2) (i := 9) (by decide +kernel)))), by decide +kernel⟩
set_option maxRecDepth 20000 in
theorem wmt2_18 : (.constantLong RX1 58 (24) : Cond) ∈ zw := List.mem_filter.mpr ⟨List.mem_append_right _ (List.mem_append_right _ (List.mem_append_left _ (List.mem_of_getElem? (l := tables_1_2) (i := 18) (by decide +kernel)))), by decide +kernel⟩
set_option maxRecDepth 20000 in
theorem wmt1_228 : (.code yJ7_fill_d0a16 cJ7_fill_d0a16 5 none : Cond) ∈ zw := List.mem_filter.mpr ⟨List.mem_append_right _ (List.mem_append_left _ (List.mem_of_getElem? (l := tables_1_1) (i := 228) (by decide +kernel))), by decide +kernel⟩
set_option maxRecDepth 20000 in
theorem wmt1_226 : (.methodLink RX1 64 yJ7_fill_d0a16 : Cond) ∈ zw := List.mem_filter.mpr ⟨List.mem_append_right _ (List.mem_append_left _ (List.mem_of_getElem? (l := tables_1_1) (i := 226) (by decide +kernel))), by decide +kernel⟩
set_option maxRecDepth 20000 in
theorem wmt1_227 : (.static yJ7_fill_d0a16 : Cond) ∈ zw := List.mem_filter.mpr ⟨List.mem_append_right _ (List.mem_append_left _ (List.mem_of_getElem? (l := tables_1_1) (i := 227) (by decide +kernel))), by decide +kernel⟩
set_option maxRecDepth 20000 in
theorem wmt1_9 : (.initialized RJ7 : Cond) ∈ zw := List.mem_filter.mpr ⟨List.mem_append_right _ (List.mem_append_left _ (List.mem_of_getElem? (l := tables_1_1) (i := 9) (by decide +kernel))), by decide +kernel⟩
set_option maxRecDepth 20000 in
theorem wmt1_232 : (.code yX1_parsePart cX1_parsePart 8 (some .int) : Cond) ∈ zw := List.mem_filter.mpr ⟨List.mem_append_right _ (List.mem_append_left _ (List.mem_of_getElem? (l := tables_1_1) (i := 232) (by decide +kernel))), by decide +kernel⟩
set_option maxRecDepth 20000 in
theorem wmt1_229 : (.methodLink RX1 70 yX1_parsePart : Cond) ∈ zw := List.mem_filter.mpr ⟨List.mem_append_right _ (List.mem_append_left _ (List.mem_of_getElem? (l := tables_1_1) (i := 229) (by decide +kernel))), by decide +kernel⟩
set_option maxRecDepth 20000 in
theorem wmt1_231 : (.instanceMethod yX1_parsePart : Cond) ∈ zw := List.mem_filter.mpr ⟨List.mem_append_right _ (List.mem_append_left _ (List.mem_of_getElem? (l := tables_1_1) (i := 231) (by decide +kernel))), by decide +kernel⟩
set_option maxRecDepth 20000 in
theorem wmp1_1 : (.selects RX1 yX1_parsePart yX1_parsePart : Cond) ∈ zw := List.mem_filter.mpr ⟨List.mem_of_getElem? (l := lw_tbl) (i := 1) (by decide +kernel), by decide +kernel⟩
set_option maxRecDepth 20000 in
theorem wmt2_17 : (.code yX1_faultOfShares cX1_faultOfShares 4 (some .int) : Cond) ∈ zw := List.mem_filter.mpr ⟨List.mem_append_right _ (List.mem_append_right _ (List.mem_append_left _ (List.mem_of_getElem? (l := tables_1_2) (i := 17) (by decide +kernel)))), by decide +kernel⟩
set_option maxRecDepth 20000 in
theorem wmt2_14 : (.methodLink RX1 73 yX1_faultOfShares : Cond) ∈ zw := List.mem_filter.mpr ⟨List.mem_append_right _ (List.mem_append_right _ (List.mem_append_left _ (List.mem_of_getElem? (l := tables_1_2) (i := 14) (by decide +kernel)))), by decide +kernel⟩
set_option maxRecDepth 20000 in
theorem wmt2_16 : (.instanceMethod yX1_faultOfShares : Cond) ∈ zw := List.mem_filter.mpr ⟨List.mem_append_right _ (List.mem_append_right _ (List.mem_append_left _ (List.mem_of_getElem? (l := tables_1_2) (i := 16) (by decide +kernel)))), by decide +kernel⟩
set_option maxRecDepth 20000 in
theorem wmp1_5 : (.selects RX1 yX1_faultOfShares yX1_faultOfShares : Cond) ∈ zw := List.mem_filter.mpr ⟨List.mem_of_getElem? (l := lw_tbl) (i := 5) (by decide +kernel), by decide +kernel⟩
set_option maxRecDepth 20000 in
theorem wmt1_124 : (.fieldLink RX1 32 "SecretLots$Design" "faultAt" "I" : Cond) ∈ zw := List.mem_filter.mpr ⟨List.mem_append_right _ (List.mem_append_left _ (List.mem_of_getElem? (l := tables_1_1) (i := 124) (by decide +kernel))), by decide +kernel⟩
set_option maxRecDepth 20000 in
theorem wmt1_126 : (.fieldLink RX1 35 "SecretLots$Design" "yesIfHas" "I" : Cond) ∈ zw := List.mem_filter.mpr ⟨List.mem_append_right _ (List.mem_append_left _ (List.mem_of_getElem? (l := tables_1_1) (i := 126) (by decide +kernel))), by decide +kernel⟩
set_option maxRecDepth 20000 in
theorem wmt1_128 : (.fieldLink RX1 38 "SecretLots$Design" "yesIfHasNot" "I" : Cond) ∈ zw := List.mem_filter.mpr ⟨List.mem_append_right _ (List.mem_append_left _ (List.mem_of_getElem? (l := tables_1_1) (i := 128) (by decide +kernel))), by decide +kernel⟩
set_option maxRecDepth 20000 in
theorem wmt1_130 : (.fieldLink RX1 41 "SecretLots$Design" "lotUnit" "I" : Cond) ∈ zw := List.mem_filter.mpr ⟨List.mem_append_right _ (List.mem_append_left _ (List.mem_of_getElem? (l := tables_1_1) (i := 130) (by decide +kernel))), by decide +kernel⟩
set_option maxRecDepth 20000 in
theorem wmt2_27 : (.constantLong RX1 56 (5587021440) : Cond) ∈ zw := List.mem_filter.mpr ⟨List.mem_append_right _ (List.mem_append_right _ (List.mem_append_left _ (List.mem_of_getElem? (l := tables_1_2) (i := 27) (by decide +kernel)))), by decide +kernel⟩
set_option maxRecDepth 20000 in
theorem wmt1_225 : (.code yX1_parse cX1_parse 3 (some .int) : Cond) ∈ zw := List.mem_filter.mpr ⟨List.mem_append_right _ (List.mem_append_left _ (List.mem_of_getElem? (l := tables_1_1) (i := 225) (by decide +kernel))), by decide +kernel⟩
set_option maxRecDepth 20000 in
theorem wmt1_222 : (.methodLink RX1 44 yX1_parse : Cond) ∈ zw := List.mem_filter.mpr ⟨List.mem_append_right _ (List.mem_append_left _ (List.mem_of_getElem? (l := tables_1_1) (i := 222) (by decide +kernel))), by decide +kernel⟩
set_option maxRecDepth 20000 in
theorem wmt1_224 : (.instanceMethod yX1_parse : Cond) ∈ zw := List.mem_filter.mpr ⟨List.mem_append_right _ (List.mem_append_left _ (List.mem_of_getElem? (l := tables_1_1) (i := 224) (by decide +kernel))), by decide +kernel⟩
set_option maxRecDepth 20000 in
theorem wmp1_0 : (.selects RX1 yX1_parse yX1_parse : Cond) ∈ zw := List.mem_filter.mpr ⟨List.mem_of_getElem? (l := lw_tbl) (i := 0) (by decide +kernel), by decide +kernel⟩
set_option maxRecDepth 20000 in
theorem wmt2_22 : (.code yX1_isFaulty cX1_isFaulty 1 (some .boolean) : Cond) ∈ zw := List.mem_filter.mpr ⟨List.mem_append_right _ (List.mem_append_right _ (List.mem_append_left _ (List.mem_of_getElem? (l := tables_1_2) (i := 22) (by decide +kernel)))), by decide +kernel⟩
set_option maxRecDepth 20000 in
theorem wmt2_19 : (.methodLink RX1 48 yX1_isFaulty : Cond) ∈ zw := List.mem_filter.mpr ⟨List.mem_append_right _ (List.mem_append_right _ (List.mem_append_left _ (List.mem_of_getElem? (l := tables_1_2) (i := 19) (by decide +kernel)))), by decide +kernel⟩
set_option maxRecDepth 20000 in
theorem wmt2_20 : (.instanceMethod yX1_isFaulty : Cond) ∈ zw := List.mem_filter.mpr ⟨List.mem_append_right _ (List.mem_append_right _ (List.mem_append_left _ (List.mem_of_getElem? (l := tables_1_2) (i := 20) (by decide +kernel)))), by decide +kernel⟩
set_option maxRecDepth 20000 in
theorem wmt2_21 : (.selects RX1 yX1_isFaulty yX1_isFaulty : Cond) ∈ zw := List.mem_filter.mpr ⟨List.mem_append_right _ (List.mem_append_right _ (List.mem_append_left _ (List.mem_of_getElem? (l := tables_1_2) (i := 21) (by decide +kernel)))), by decide +kernel⟩
set_option maxRecDepth 20000 in
theorem wmt2_26 : (.code yX1_settleLots cX1_settleLots 12 none : Cond) ∈ zw := List.mem_filter.mpr ⟨List.mem_append_right _ (List.mem_append_right _ (List.mem_append_left _ (List.mem_of_getElem? (l := tables_1_2) (i := 26) (by decide +kernel)))), by decide +kernel⟩
set_option maxRecDepth 20000 in
theorem wmt2_23 : (.methodLink RX1 52 yX1_settleLots : Cond) ∈ zw := List.mem_filter.mpr ⟨List.mem_append_right _ (List.mem_append_right _ (List.mem_append_left _ (List.mem_of_getElem? (l := tables_1_2) (i := 23) (by decide +kernel)))), by decide +kernel⟩
set_option maxRecDepth 20000 in
theorem wmt2_25 : (.instanceMethod yX1_settleLots : Cond) ∈ zw := List.mem_filter.mpr ⟨List.mem_append_right _ (List.mem_append_right _ (List.mem_append_left _ (List.mem_of_getElem? (l := tables_1_2) (i := 25) (by decide +kernel)))), by decide +kernel⟩
set_option maxRecDepth 20000 in
theorem wmp1_6 : (.selects RX1 yX1_settleLots yX1_settleLots : Cond) ∈ zw := List.mem_filter.mpr ⟨List.mem_of_getElem? (l := lw_tbl) (i := 6) (by decide +kernel), by decide +kernel⟩
set_option maxRecDepth 20000 in
theorem wmt1_103 : (.fieldLink RX2 7 "SecretLots$Fraction" "above" "J" : Cond) ∈ zw := List.mem_filter.mpr ⟨List.mem_append_right _ (List.mem_append_left _ (List.mem_of_getElem? (l := tables_1_1) (i := 103) (by decide +kernel))), by decide +kernel⟩
set_option maxRecDepth 20000 in
theorem wmt1_105 : (.fieldLink RX2 13 "SecretLots$Fraction" "below" "J" : Cond) ∈ zw := List.mem_filter.mpr ⟨List.mem_append_right _ (List.mem_append_left _ (List.mem_of_getElem? (l := tables_1_1) (i := 105) (by decide +kernel))), by decide +kernel⟩
set_option maxRecDepth 20000 in
theorem wmt1_74 : (.fieldLink RX4 7 "SecretLots$Poll" "heard" "I" : Cond) ∈ zw := List.mem_filter.mpr ⟨List.mem_append_right _ (List.mem_append_left _ (List.mem_of_getElem? (l := tables_1_1) (i := 74) (by decide +kernel))), by decide +kernel⟩
set_option maxRecDepth 20000 in
theorem wmt1_75 : (.fieldLink RX4 13 "SecretLots$Poll" "people" "I" : Cond) ∈ zw := List.mem_filter.mpr ⟨List.mem_append_right _ (List.mem_append_left _ (List.mem_of_getElem? (l := tables_1_1) (i := 75) (by decide +kernel))), by decide +kernel⟩
set_option maxRecDepth 20000 in
theorem wmt1_77 : (.fieldLink RX4 16 "SecretLots$Poll" "yes" "I" : Cond) ∈ zw := List.mem_filter.mpr ⟨List.mem_append_right _ (List.mem_append_left _ (List.mem_of_getElem? (l := tables_1_1) (i := 77) (by decide +kernel))), by decide +kernel⟩
set_option maxRecDepth 20000 in
theorem wmt1_159 : (.fieldLink RX5 15 "SecretLots$Sheet" "kind" "I" : Cond) ∈ zw := List.mem_filter.mpr ⟨List.mem_append_right _ (List.mem_append_left _ (List.mem_of_getElem? (l := tables_1_1) (i := 159) (by decide +kernel))), by decide +kernel⟩
set_option maxRecDepth 20000 in
theorem wmt1_157 : (.fieldLink RX5 9 "SecretLots$Sheet" "items" "[I" : Cond) ∈ zw := List.mem_filter.mpr ⟨List.mem_append_right _ (List.mem_append_left _ (List.mem_of_getElem? (l := tables_1_1) (i := 157) (by decide +kernel))), by decide +kernel⟩
set_option maxRecDepth 20000 in
theorem wmt3_7 : (.code yJ7_fill_53178 cJ7_fill_53178 4 none : Cond) ∈ zw := List.mem_filter.mpr ⟨List.mem_append_right _ (List.mem_append_right _ (List.mem_append_right _ (List.mem_append_left _ (List.mem_of_getElem? (l := tables_1_3) (i := 7) (by decide +kernel))))), by decide +kernel⟩
set_option maxRecDepth 20000 in
theorem wmt3_96 : (.methodLink RX5 22 yJ7_fill_53178 : Cond) ∈ zw := List.mem_filter.mpr ⟨List.mem_append_right _ (List.mem_append_right _ (List.mem_append_right _ (List.mem_append_left _ (List.mem_of_getElem? (l := tables_1_3) (i := 96) (by decide +kernel))))), by decide +kernel⟩
set_option maxRecDepth 20000 in
theorem wmt3_6 : (.static yJ7_fill_53178 : Cond) ∈ zw := List.mem_filter.mpr ⟨List.mem_append_right _ (List.mem_append_right _ (List.mem_append_right _ (List.mem_append_left _ (List.mem_of_getElem? (l := tables_1_3) (i := 6) (by decide +kernel))))), by decide +kernel⟩
set_option maxRecDepth 20000 in
theorem wmt1_161 : (.fieldLink RX5 19 "SecretLots$Sheet" "size" "I" : Cond) ∈ zw := List.mem_filter.mpr ⟨List.mem_append_right _ (List.mem_append_left _ (List.mem_of_getElem? (l := tables_1_1) (i := 161) (by decide +kernel))), by decide +kernel⟩
set_option maxRecDepth 20000 in
theorem wmt1_92 : (.fieldLink RX3 9 "SecretLots$Lots" "ways" "[J" : Cond) ∈ zw := List.mem_filter.mpr ⟨List.mem_append_right _ (List.mem_append_left _ (List.mem_of_getElem? (l := tables_1_1) (i := 92) (by decide +kernel))), by decide +kernel⟩
set_option maxRecDepth 20000 in
theorem wmt2_203 : (.methodLink RX3 38 Lib.Math.max.name : Cond) ∈ zw := List.mem_filter.mpr ⟨List.mem_append_right _ (List.mem_append_right _ (List.mem_append_left _ (List.mem_of_getElem? (l := tables_1_2) (i := 203) (by decide +kernel)))), by decide +kernel⟩
set_option maxRecDepth 20000 in
theorem wmt2_204 : (.static Lib.Math.max.name : Cond) ∈ zw := List.mem_filter.mpr ⟨List.mem_append_right _ (List.mem_append_right _ (List.mem_append_left _ (List.mem_of_getElem? (l := tables_1_2) (i := 204) (by decide +kernel)))), by decide +kernel⟩
set_option maxRecDepth 20000 in
theorem wmt2_205 : (.code Lib.Math.max.name Lib.Math.max.code 2 (some .int) : Cond) ∈ zw := List.mem_filter.mpr ⟨List.mem_append_right _ (List.mem_append_right _ (List.mem_append_left _ (List.mem_of_getElem? (l := tables_1_2) (i := 205) (by decide +kernel)))), by decide +kernel⟩
set_option maxRecDepth 20000 in
theorem wmt2_186 : (.methodLink RX3 15 yJ7_fill_d0a16 : Cond) ∈ zw := List.mem_filter.mpr ⟨List.mem_append_right _ (List.mem_append_right _ (List.mem_append_left _ (List.mem_of_getElem? (l := tables_1_2) (i := 186) (by decide +kernel)))), by decide +kernel⟩
set_option maxRecDepth 20000 in
theorem wmt2_194 : (.code yX1_lotsIfHasNot cX1_lotsIfHasNot 2 (some .long) : Cond) ∈ zw := List.mem_filter.mpr ⟨List.mem_append_right _ (List.mem_append_right _ (List.mem_append_left _ (List.mem_of_getElem? (l := tables_1_2) (i := 194) (by decide +kernel)))), by decide +kernel⟩
set_option maxRecDepth 20000 in
theorem wmt2_191 : (.methodLink RX3 27 yX1_lotsIfHasNot : Cond) ∈ zw := List.mem_filter.mpr ⟨List.mem_append_right _ (List.mem_append_right _ (List.mem_append_left _ (List.mem_of_getElem? (l := tables_1_2) (i := 191) (by decide +kernel)))), by decide +kernel⟩
set_option maxRecDepth 20000 in
theorem wmt2_192 : (.instanceMethod yX1_lotsIfHasNot : Cond) ∈ zw := List.mem_filter.mpr ⟨List.mem_append_right _ (List.mem_append_right _ (List.mem_append_left _ (List.mem_of_getElem? (l := tables_1_2) (i := 192) (by decide +kernel)))), by decide +kernel⟩
set_option maxRecDepth 20000 in
theorem wmt2_193 : (.selects RX1 yX1_lotsIfHasNot yX1_lotsIfHasNot : Cond) ∈ zw := List.mem_filter.mpr ⟨List.mem_append_right _ (List.mem_append_right _ (List.mem_append_left _ (List.mem_of_getElem? (l := tables_1_2) (i := 193) (by decide +kernel)))), by decide +kernel⟩
set_option maxRecDepth 20000 in
theorem wmt1_131 : (.fieldLink RX3 30 "SecretLots$Design" "lotUnit" "I" : Cond) ∈ zw := List.mem_filter.mpr ⟨List.mem_append_right _ (List.mem_append_left _ (List.mem_of_getElem? (l := tables_1_1) (i := 131) (by decide +kernel))), by decide +kernel⟩
set_option maxRecDepth 20000 in
theorem wmt2_198 : (.code yX3_addPerson cX3_addPerson 7 none : Cond) ∈ zw := List.mem_filter.mpr ⟨List.mem_append_right _ (List.mem_append_right _ (List.mem_append_left _ (List.mem_of_getElem? (l := tables_1_2) (i := 198) (by decide +kernel)))), by decide +kernel⟩
set_option maxRecDepth 20000 in
theorem wmt2_195 : (.methodLink RX3 34 yX3_addPerson : Cond) ∈ zw := List.mem_filter.mpr ⟨List.mem_append_right _ (List.mem_append_right _ (List.mem_append_left _ (List.mem_of_getElem? (l := tables_1_2) (i := 195) (by decide +kernel)))), by decide +kernel⟩
set_option maxRecDepth 20000 in
theorem wmt2_197 : (.instanceMethod yX3_addPerson : Cond) ∈ zw := List.mem_filter.mpr ⟨List.mem_append_right _ (List.mem_append_right _ (List.mem_append_left _ (List.mem_of_getElem? (l := tables_1_2) (i := 197) (by decide +kernel)))), by decide +kernel⟩
set_option maxRecDepth 20000 in
theorem wmp1_13 : (.selects RX3 yX3_addPerson yX3_addPerson : Cond) ∈ zw := List.mem_filter.mpr ⟨List.mem_of_getElem? (l := lw_tbl) (i := 13) (by decide +kernel), by decide +kernel⟩
set_option maxRecDepth 20000 in
theorem wmt1_4 : (.initialized RX3 : Cond) ∈ zw := List.mem_filter.mpr ⟨List.mem_append_right _ (List.mem_append_left _ (List.mem_of_getElem? (l := tables_1_1) (i := 4) (by decide +kernel))), by decide +kernel⟩
set_option maxRecDepth 20000 in
theorem wmt2_190 : (.code yX1_lotsIfHas cX1_lotsIfHas 2 (some .long) : Cond) ∈ zw := List.mem_filter.mpr ⟨List.mem_append_right _ (List.mem_append_right _ (List.mem_append_left _ (List.mem_of_getElem? (l := tables_1_2) (i := 190) (by decide +kernel)))), by decide +kernel⟩
set_option maxRecDepth 20000 in
theorem wmt2_187 : (.methodLink RX3 21 yX1_lotsIfHas : Cond) ∈ zw := List.mem_filter.mpr ⟨List.mem_append_right _ (List.mem_append_right _ (List.mem_append_left _ (List.mem_of_getElem? (l := tables_1_2) (i := 187) (by decide +kernel)))), by decide +kernel⟩
set_option maxRecDepth 20000 in
theorem wmt2_188 : (.instanceMethod yX1_lotsIfHas : Cond) ∈ zw := List.mem_filter.mpr ⟨List.mem_append_right _ (List.mem_append_right _ (List.mem_append_left _ (List.mem_of_getElem? (l := tables_1_2) (i := 188) (by decide +kernel)))), by decide +kernel⟩
set_option maxRecDepth 20000 in
theorem wmt2_189 : (.selects RX1 yX1_lotsIfHas yX1_lotsIfHas : Cond) ∈ zw := List.mem_filter.mpr ⟨List.mem_append_right _ (List.mem_append_right _ (List.mem_append_left _ (List.mem_of_getElem? (l := tables_1_2) (i := 189) (by decide +kernel)))), by decide +kernel⟩
set_option maxRecDepth 20000 in
theorem wmt1_46 : (.fieldLink RX0 37 "SecretLots$Answers" "size" "I" : Cond) ∈ zw := List.mem_filter.mpr ⟨List.mem_append_right _ (List.mem_append_left _ (List.mem_of_getElem? (l := tables_1_1) (i := 46) (by decide +kernel))), by decide +kernel⟩
set_option maxRecDepth 20000 in
theorem wmt1_36 : (.fieldLink RX0 21 "SecretLots$Answers" "toldOn" "[I" : Cond) ∈ zw := List.mem_filter.mpr ⟨List.mem_append_right _ (List.mem_append_left _ (List.mem_of_getElem? (l := tables_1_1) (i := 36) (by decide +kernel))), by decide +kernel⟩
set_option maxRecDepth 20000 in
theorem wmt1_38 : (.fieldLink RX0 24 "SecretLots$Answers" "takenOn" "[I" : Cond) ∈ zw := List.mem_filter.mpr ⟨List.mem_append_right _ (List.mem_append_left _ (List.mem_of_getElem? (l := tables_1_1) (i := 38) (by decide +kernel))), by decide +kernel⟩
set_option maxRecDepth 20000 in
theorem wmt2_125 : (.code yX0_isKnown cX0_isKnown 3 (some .boolean) : Cond) ∈ zw := List.mem_filter.mpr ⟨List.mem_append_right _ (List.mem_append_right _ (List.mem_append_left _ (List.mem_of_getElem? (l := tables_1_2) (i := 125) (by decide +kernel)))), by decide +kernel⟩
set_option maxRecDepth 20000 in
theorem wmt3_8 : (.methodLink RX0 40 yX0_isKnown : Cond) ∈ zw := List.mem_filter.mpr ⟨List.mem_append_right _ (List.mem_append_right _ (List.mem_append_right _ (List.mem_append_left _ (List.mem_of_getElem? (l := tables_1_3) (i := 8) (by decide +kernel))))), by decide +kernel⟩
set_option maxRecDepth 20000 in
theorem wmt2_123 : (.instanceMethod yX0_isKnown : Cond) ∈ zw := List.mem_filter.mpr ⟨List.mem_append_right _ (List.mem_append_right _ (List.mem_append_left _ (List.mem_of_getElem? (l := tables_1_2) (i := 123) (by decide +kernel)))), by decide +kernel⟩
set_option maxRecDepth 20000 in
theorem wmt2_124 : (.selects RX0 yX0_isKnown yX0_isKnown : Cond) ∈ zw := List.mem_filter.mpr ⟨List.mem_append_right _ (List.mem_append_right _ (List.mem_append_left _ (List.mem_of_getElem? (l := tables_1_2) (i := 124) (by decide +kernel)))), by decide +kernel⟩
set_option maxRecDepth 20000 in
theorem wmt1_2 : (.initialized RX0 : Cond) ∈ zw := List.mem_filter.mpr ⟨List.mem_append_right _ (List.mem_append_left _ (List.mem_of_getElem? (l := tables_1_1) (i := 2) (by decide +kernel))), by decide +kernel⟩
set_option maxRecDepth 20000 in
theorem wmt1_34 : (.fieldLink RX0 18 "SecretLots$Answers" "saidYes" "[I" : Cond) ∈ zw := List.mem_filter.mpr ⟨List.mem_append_right _ (List.mem_append_left _ (List.mem_of_getElem? (l := tables_1_1) (i := 34) (by decide +kernel))), by decide +kernel⟩
set_option maxRecDepth 20000 in
theorem wmt1_30 : (.fieldLink RX0 9 "SecretLots$Answers" "people" "[I" : Cond) ∈ zw := List.mem_filter.mpr ⟨List.mem_append_right _ (List.mem_append_left _ (List.mem_of_getElem? (l := tables_1_1) (i := 30) (by decide +kernel))), by decide +kernel⟩
set_option maxRecDepth 20000 in
theorem wmt1_32 : (.fieldLink RX0 15 "SecretLots$Answers" "byDesign" "[I" : Cond) ∈ zw := List.mem_filter.mpr ⟨List.mem_append_right _ (List.mem_append_left _ (List.mem_of_getElem? (l := tables_1_1) (i := 32) (by decide +kernel))), by decide +kernel⟩
set_option maxRecDepth 20000 in
theorem wmt1_40 : (.fieldLink RX0 27 "SecretLots$Answers" "pickedBy" "[I" : Cond) ∈ zw := List.mem_filter.mpr ⟨List.mem_append_right _ (List.mem_append_left _ (List.mem_of_getElem? (l := tables_1_1) (i := 40) (by decide +kernel))), by decide +kernel⟩
set_option maxRecDepth 20000 in
theorem wmt3_5 : (.methodLink RX0 44 yJ7_fill_53178 : Cond) ∈ zw := List.mem_filter.mpr ⟨List.mem_append_right _ (List.mem_append_right _ (List.mem_append_right _ (List.mem_append_left _ (List.mem_of_getElem? (l := tables_1_3) (i := 5) (by decide +kernel))))), by decide +kernel⟩
set_option maxRecDepth 20000 in
theorem wmt1_44 : (.fieldLink RX0 33 "SecretLots$Answers" "pickedSize" "I" : Cond) ∈ zw := List.mem_filter.mpr ⟨List.mem_append_right _ (List.mem_append_left _ (List.mem_of_getElem? (l := tables_1_1) (i := 44) (by decide +kernel))), by decide +kernel⟩
set_option maxRecDepth 20000 in
theorem wmt1_42 : (.fieldLink RX0 30 "SecretLots$Answers" "picked" "[I" : Cond) ∈ zw := List.mem_filter.mpr ⟨List.mem_append_right _ (List.mem_append_left _ (List.mem_of_getElem? (l := tables_1_1) (i := 42) (by decide +kernel))), by decide +kernel⟩
set_option maxRecDepth 20000 in
theorem wmt1_3 : (.initialized RX4 : Cond) ∈ zw := List.mem_filter.mpr ⟨List.mem_append_right _ (List.mem_append_left _ (List.mem_of_getElem? (l := tables_1_1) (i := 3) (by decide +kernel))), by decide +kernel⟩
set_option maxRecDepth 20000 in
theorem wmt1_7 : (.initialized RX5 : Cond) ∈ zw := List.mem_filter.mpr ⟨List.mem_append_right _ (List.mem_append_left _ (List.mem_of_getElem? (l := tables_1_1) (i := 7) (by decide +kernel))), by decide +kernel⟩
set_option maxRecDepth 20000 in
theorem wmt3_9 : (.methodLink RX6 338 yX6_pickedRefusal : Cond) ∈ zw := List.mem_filter.mpr ⟨List.mem_append_right _ (List.mem_append_right _ (List.mem_append_right _ (List.mem_append_left _ (List.mem_of_getElem? (l := tables_1_3) (i := 9) (by decide +kernel))))), by decide +kernel⟩
set_option maxRecDepth 20000 in
theorem wmt1_11 : (.initialized "java/lang/System" : Cond) ∈ zw := List.mem_filter.mpr ⟨List.mem_append_right _ (List.mem_append_left _ (List.mem_of_getElem? (l := tables_1_1) (i := 11) (by decide +kernel))), by decide +kernel⟩
set_option maxRecDepth 20000 in
theorem inq0 : ∀ w ∈ u_ws RX0 TX0 9, w ∈ lw_tbl := by decide +kernel
set_option maxRecDepth 20000 in
theorem inq1 : ∀ w ∈ u_ws RX1 TX1 9, w ∈ lw_tbl := by decide +kernel
set_option maxRecDepth 20000 in
theorem inq2 : ∀ w ∈ u_ws RX2 TX2 2, w ∈ lw_tbl := by decide +kernel
set_option maxRecDepth 20000 in
theorem inq3 : ∀ w ∈ u_ws RX3 TX3 1, w ∈ lw_tbl := by decide +kernel
set_option maxRecDepth 20000 in
theorem inq4 : ∀ w ∈ u_ws RX4 TX4 3, w ∈ lw_tbl := by decide +kernel
set_option maxRecDepth 20000 in
theorem inq5 : ∀ w ∈ u_ws RX5 TX5 3, w ∈ lw_tbl := by decide +kernel
set_option maxRecDepth 20000 in
theorem inq6 : ∀ w ∈ u_ws RX6 TX6 12, w ∈ lw_tbl := by decide +kernel
set_option maxRecDepth 20000 in
theorem inq7 : ∀ w ∈ u_ws RX7 TX7 42, w ∈ lw_tbl := by decide +kernel
theorem inr0 : (u_ws RX0 TX0 9).all goodWord = true := by decide +kernel
theorem inr1 : (u_ws RX1 TX1 9).all goodWord = true := by decide +kernel
theorem inr2 : (u_ws RX2 TX2 2).all goodWord = true := by decide +kernel
theorem inr3 : (u_ws RX3 TX3 1).all goodWord = true := by decide +kernel
theorem inr4 : (u_ws RX4 TX4 3).all goodWord = true := by decide +kernel
theorem inr5 : (u_ws RX5 TX5 3).all goodWord = true := by decide +kernel
theorem inr6 : (u_ws RX6 TX6 12).all goodWord = true := by decide +kernel
theorem inr7 : (u_ws RX7 TX7 42).all goodWord = true := by decide +kernel
theorem inw0 : ∀ w ∈ u_ws RX0 TX0 9, w ∈ zw := fun w h => List.mem_filter.mpr ⟨inq0 w h, List.all_eq_true.mp inr0 w h⟩
theorem inw1 : ∀ w ∈ u_ws RX1 TX1 9, w ∈ zw := fun w h => List.mem_filter.mpr ⟨inq1 w h, List.all_eq_true.mp inr1 w h⟩
theorem inw2 : ∀ w ∈ u_ws RX2 TX2 2, w ∈ zw := fun w h => List.mem_filter.mpr ⟨inq2 w h, List.all_eq_true.mp inr2 w h⟩
theorem inw3 : ∀ w ∈ u_ws RX3 TX3 1, w ∈ zw := fun w h => List.mem_filter.mpr ⟨inq3 w h, List.all_eq_true.mp inr3 w h⟩
theorem inw4 : ∀ w ∈ u_ws RX4 TX4 3, w ∈ zw := fun w h => List.mem_filter.mpr ⟨inq4 w h, List.all_eq_true.mp inr4 w h⟩
theorem inw5 : ∀ w ∈ u_ws RX5 TX5 3, w ∈ zw := fun w h => List.mem_filter.mpr ⟨inq5 w h, List.all_eq_true.mp inr5 w h⟩
theorem inw6 : ∀ w ∈ u_ws RX6 TX6 12, w ∈ zw := fun w h => List.mem_filter.mpr ⟨inq6 w h, List.all_eq_true.mp inr6 w h⟩
theorem inw7 : ∀ w ∈ u_ws RX7 TX7 42, w ∈ zw := fun w h => List.mem_filter.mpr ⟨inq7 w h, List.all_eq_true.mp inr7 w h⟩
