theorem wm_2_37 : Cond.fieldLink RX7 22 "OppositeHouse$State" "house" "LOppositeHouse$House;" ∈ WG := wg_t2 (List.mem_of_getElem? (i := 37) rfl) rfl
theorem wm_1_83 : Cond.fieldLink RX7 42 "OppositeHouse$House" "people" "I" ∈ WG := wg_t1 (List.mem_of_getElem? (i := 83) rfl) rfl
theorem wm_1_106 : Cond.fieldLink RX7 45 "OppositeHouse$House" "first" "[I" ∈ WG := wg_t1 (List.mem_of_getElem? (i := 106) rfl) rfl
theorem wm_1_110 : Cond.fieldLink RX7 48 "OppositeHouse$House" "last" "[I" ∈ WG := wg_t1 (List.mem_of_getElem? (i := 110) rfl) rfl
theorem wm_2_48 : Cond.fieldLink RX7 15 "OppositeHouse$State" "away" "I" ∈ WG := wg_t2 (List.mem_of_getElem? (i := 48) rfl) rfl
theorem wm_2_43 : Cond.fieldLink RX7 9 "OppositeHouse$State" "day" "I" ∈ WG := wg_t2 (List.mem_of_getElem? (i := 43) rfl) rfl
theorem wm_3_183 : Cond.methodLink RX7 38 yX7_inTownOn ∈ WG := wg_t3 (List.mem_of_getElem? (i := 183) rfl) rfl
theorem wm_3_186 : Cond.code yX7_inTownOn cX7_inTownOn 4 (some .int) ∈ WG := wg_t3 (List.mem_of_getElem? (i := 186) rfl) rfl
theorem wm_1_9 : Cond.initialized RX7 ∈ WG := wg_t1 (List.mem_of_getElem? (i := 9) rfl) rfl
theorem wm_3_184 : Cond.instanceMethod yX7_inTownOn ∈ WG := wg_t3 (List.mem_of_getElem? (i := 184) rfl) rfl
theorem wm_3_185 : Cond.selects RX7 yX7_inTownOn yX7_inTownOn ∈ WG := wg_t3 (List.mem_of_getElem? (i := 185) rfl) rfl
theorem wm_2_50 : Cond.fieldLink RX7 18 "OppositeHouse$State" "views" "[I" ∈ WG := wg_t2 (List.mem_of_getElem? (i := 50) rfl) rfl
theorem wm_3_161 : Cond.methodLink RX7 32 arraycopyName ∈ WG := wg_t3 (List.mem_of_getElem? (i := 161) rfl) rfl
theorem wm_3_152 : Cond.native arraycopyName ∈ WG := wg_t3 (List.mem_of_getElem? (i := 152) rfl) rfl
theorem wm_3_151 : Cond.static arraycopyName ∈ WG := wg_t3 (List.mem_of_getElem? (i := 151) rfl) rfl
theorem wm_1_21 : Cond.initialized RJ10 ∈ WG := wg_t1 (List.mem_of_getElem? (i := 21) rfl) rfl
theorem wm_2_41 : Cond.fieldLink RX6 28 "OppositeHouse$State" "house" "LOppositeHouse$House;" ∈ WG := wg_t2 (List.mem_of_getElem? (i := 41) rfl) rfl
theorem wm_1_94 : Cond.fieldLink RX6 34 "OppositeHouse$House" "opposing" "LOppositeHouse$Law;" ∈ WG := wg_t1 (List.mem_of_getElem? (i := 94) rfl) rfl
theorem wm_2_53 : Cond.fieldLink RX6 40 "OppositeHouse$State" "views" "[I" ∈ WG := wg_t2 (List.mem_of_getElem? (i := 53) rfl) rfl
theorem wm_1_84 : Cond.fieldLink RX6 47 "OppositeHouse$House" "people" "I" ∈ WG := wg_t1 (List.mem_of_getElem? (i := 84) rfl) rfl
theorem wm_3_231 : Cond.methodLink RX6 51 yX6_areOpposites ∈ WG := wg_t3 (List.mem_of_getElem? (i := 231) rfl) rfl
theorem wm_3_199 : Cond.code yX6_areOpposites cX6_areOpposites 8 (some .boolean) ∈ WG := wg_t3 (List.mem_of_getElem? (i := 199) rfl) rfl
theorem wm_1_5 : Cond.initialized RX6 ∈ WG := wg_t1 (List.mem_of_getElem? (i := 5) rfl) rfl
theorem wm_3_197 : Cond.instanceMethod yX6_areOpposites ∈ WG := wg_t3 (List.mem_of_getElem? (i := 197) rfl) rfl
theorem wm_3_198 : Cond.selects RX6 yX6_areOpposites yX6_areOpposites ∈ WG := wg_t3 (List.mem_of_getElem? (i := 198) rfl) rfl
theorem wm_2_38 : Cond.fieldLink RX0 25 "OppositeHouse$State" "house" "LOppositeHouse$House;" ∈ WG := wg_t2 (List.mem_of_getElem? (i := 38) rfl) rfl
theorem wm_1_80 : Cond.fieldLink RX0 31 "OppositeHouse$House" "people" "I" ∈ WG := wg_t1 (List.mem_of_getElem? (i := 80) rfl) rfl
theorem wm_1_198 : Cond.fieldLink RX0 9 "OppositeHouse$Circle" "people" "I" ∈ WG := wg_t1 (List.mem_of_getElem? (i := 198) rfl) rfl
theorem wm_1_199 : Cond.fieldLink RX0 15 "OppositeHouse$Circle" "rows" "[I" ∈ WG := wg_t1 (List.mem_of_getElem? (i := 199) rfl) rfl
theorem wm_4_105 : Cond.methodLink RX0 34 yJ7_fill_53178 ∈ WG := wg_t4 (List.mem_of_getElem? (i := 105) rfl) rfl
theorem wm_4_107 : Cond.code yJ7_fill_53178 cJ7_fill_53178 4 none ∈ WG := wg_t4 (List.mem_of_getElem? (i := 107) rfl) rfl
theorem wm_1_20 : Cond.initialized RJ7 ∈ WG := wg_t1 (List.mem_of_getElem? (i := 20) rfl) rfl
theorem wm_4_106 : Cond.static yJ7_fill_53178 ∈ WG := wg_t4 (List.mem_of_getElem? (i := 106) rfl) rfl
theorem wm_2_52 : Cond.fieldLink RX0 40 "OppositeHouse$State" "views" "[I" ∈ WG := wg_t2 (List.mem_of_getElem? (i := 52) rfl) rfl
theorem wm_4_108 : Cond.methodLink RX0 43 yX6_areOpposites ∈ WG := wg_t4 (List.mem_of_getElem? (i := 108) rfl) rfl
theorem wm_1_184 : Cond.fieldLink RX6 9 "OppositeHouse$Scales" "given" "[I" ∈ WG := wg_t1 (List.mem_of_getElem? (i := 184) rfl) rfl
theorem wm_3_204 : Cond.methodLink RX6 18 yX6_put ∈ WG := wg_t3 (List.mem_of_getElem? (i := 204) rfl) rfl
theorem wm_3_207 : Cond.code yX6_put cX6_put 4 none ∈ WG := wg_t3 (List.mem_of_getElem? (i := 207) rfl) rfl
theorem wm_3_206 : Cond.instanceMethod yX6_put ∈ WG := wg_t3 (List.mem_of_getElem? (i := 206) rfl) rfl
theorem wp_2_10 : Cond.selects RX6 yX6_put yX6_put ∈ WG := wg_p (q := (yX6_put, 2)) (wg_p2 (List.mem_of_getElem? (i := 10) rfl)) rfl
theorem wm_2_46 : Cond.fieldLink RX6 58 "OppositeHouse$State" "day" "I" ∈ WG := wg_t2 (List.mem_of_getElem? (i := 46) rfl) rfl
theorem wm_1_77 : Cond.fieldLink RX6 61 "OppositeHouse$House" "lines" "I" ∈ WG := wg_t1 (List.mem_of_getElem? (i := 77) rfl) rfl
theorem wm_1_100 : Cond.fieldLink RX6 64 "OppositeHouse$House" "swaying" "LOppositeHouse$Law;" ∈ WG := wg_t1 (List.mem_of_getElem? (i := 100) rfl) rfl
theorem wm_4_30 : Cond.methodLink RX6 67 yX6_swayOf ∈ WG := wg_t4 (List.mem_of_getElem? (i := 30) rfl) rfl
theorem wm_4_33 : Cond.code yX6_swayOf cX6_swayOf 3 (some .int) ∈ WG := wg_t4 (List.mem_of_getElem? (i := 33) rfl) rfl
theorem wm_4_32 : Cond.instanceMethod yX6_swayOf ∈ WG := wg_t4 (List.mem_of_getElem? (i := 32) rfl) rfl
theorem wp_2_14 : Cond.selects RX6 yX6_swayOf yX6_swayOf ∈ WG := wg_p (q := (yX6_swayOf, 2)) (wg_p2 (List.mem_of_getElem? (i := 14) rfl)) rfl
theorem wm_4_34 : Cond.methodLink RX6 71 yJ6_compare_7cf53 ∈ WG := wg_t4 (List.mem_of_getElem? (i := 34) rfl) rfl
theorem wm_4_36 : Cond.code yJ6_compare_7cf53 cJ6_compare_7cf53 2 (some .int) ∈ WG := wg_t4 (List.mem_of_getElem? (i := 36) rfl) rfl
theorem wm_1_22 : Cond.initialized RJ6 ∈ WG := wg_t1 (List.mem_of_getElem? (i := 22) rfl) rfl
theorem wm_4_35 : Cond.static yJ6_compare_7cf53 ∈ WG := wg_t4 (List.mem_of_getElem? (i := 35) rfl) rfl
theorem wm_4_37 : Cond.methodLink RX6 77 yJ9_min_7cf53 ∈ WG := wg_t4 (List.mem_of_getElem? (i := 37) rfl) rfl
theorem wm_2_171 : Cond.static yJ9_min_7cf53 ∈ WG := wg_t2 (List.mem_of_getElem? (i := 171) rfl) rfl
theorem wm_1_13 : Cond.initialized RJ9 ∈ WG := wg_t1 (List.mem_of_getElem? (i := 13) rfl) rfl
theorem wm_2_172 : Cond.code yJ9_min_7cf53 cJ9_min_7cf53 2 (some .int) ∈ WG := wg_t2 (List.mem_of_getElem? (i := 172) rfl) rfl
theorem wm_4_38 : Cond.methodLink RX6 82 yJ9_max_7cf53 ∈ WG := wg_t4 (List.mem_of_getElem? (i := 38) rfl) rfl
theorem wm_3_23 : Cond.static yJ9_max_7cf53 ∈ WG := wg_t3 (List.mem_of_getElem? (i := 23) rfl) rfl
theorem wm_3_24 : Cond.code yJ9_max_7cf53 cJ9_max_7cf53 2 (some .int) ∈ WG := wg_t3 (List.mem_of_getElem? (i := 24) rfl) rfl
theorem wm_1_97 : Cond.fieldLink RX6 55 "OppositeHouse$House" "saying" "LOppositeHouse$Law;" ∈ WG := wg_t1 (List.mem_of_getElem? (i := 97) rfl) rfl
theorem wm_4_8 : Cond.constantLong RX7 51 (-1) ∈ WG := wg_t4 (List.mem_of_getElem? (i := 8) rfl) rfl
theorem wm_4_9 : Cond.constantLong RX7 53 (100) ∈ WG := wg_t4 (List.mem_of_getElem? (i := 9) rfl) rfl
theorem wm_4_14 : Cond.methodLink RX7 65 yX7_inTown ∈ WG := wg_t4 (List.mem_of_getElem? (i := 14) rfl) rfl
theorem wm_3_182 : Cond.code yX7_inTown cX7_inTown 1 (some .int) ∈ WG := wg_t3 (List.mem_of_getElem? (i := 182) rfl) rfl
theorem wm_3_180 : Cond.instanceMethod yX7_inTown ∈ WG := wg_t3 (List.mem_of_getElem? (i := 180) rfl) rfl
theorem wm_3_181 : Cond.selects RX7 yX7_inTown yX7_inTown ∈ WG := wg_t3 (List.mem_of_getElem? (i := 181) rfl) rfl
theorem wm_4_10 : Cond.methodLink RX7 55 yX7_whyNoTalk ∈ WG := wg_t4 (List.mem_of_getElem? (i := 10) rfl) rfl
theorem wm_4_13 : Cond.code yX7_whyNoTalk cX7_whyNoTalk 4 (some .int) ∈ WG := wg_t4 (List.mem_of_getElem? (i := 13) rfl) rfl
theorem wm_4_12 : Cond.instanceMethod yX7_whyNoTalk ∈ WG := wg_t4 (List.mem_of_getElem? (i := 12) rfl) rfl
theorem wp_2_13 : Cond.selects RX7 yX7_whyNoTalk yX7_whyNoTalk ∈ WG := wg_p (q := (yX7_whyNoTalk, 4)) (wg_p2 (List.mem_of_getElem? (i := 13) rfl)) rfl
theorem wm_4_15 : Cond.constantLong RX7 59 (110) ∈ WG := wg_t4 (List.mem_of_getElem? (i := 15) rfl) rfl
theorem wm_4_16 : Cond.constantLong RX7 61 (200) ∈ WG := wg_t4 (List.mem_of_getElem? (i := 16) rfl) rfl
theorem wm_4_17 : Cond.constantLong RX7 63 (210) ∈ WG := wg_t4 (List.mem_of_getElem? (i := 17) rfl) rfl
theorem wm_5_83 : Cond.methodLink RX1 43 yX7_inTown ∈ WG := wg_t5 (List.mem_of_getElem? (i := 83) rfl) rfl
theorem wm_2_12 : Cond.fieldLink RX1 9 "OppositeHouse$Guess" "one" "I" ∈ WG := wg_t2 (List.mem_of_getElem? (i := 12) rfl) rfl
theorem wm_2_39 : Cond.fieldLink RX1 28 "OppositeHouse$State" "house" "LOppositeHouse$House;" ∈ WG := wg_t2 (List.mem_of_getElem? (i := 39) rfl) rfl
theorem wm_1_81 : Cond.fieldLink RX1 47 "OppositeHouse$House" "people" "I" ∈ WG := wg_t1 (List.mem_of_getElem? (i := 81) rfl) rfl
theorem wm_2_15 : Cond.fieldLink RX1 21 "OppositeHouse$Guess" "size" "I" ∈ WG := wg_t2 (List.mem_of_getElem? (i := 15) rfl) rfl
theorem wm_2_17 : Cond.fieldLink RX1 24 "OppositeHouse$Guess" "fitting" "[I" ∈ WG := wg_t2 (List.mem_of_getElem? (i := 17) rfl) rfl
theorem wm_2_45 : Cond.fieldLink RX1 50 "OppositeHouse$State" "day" "I" ∈ WG := wg_t2 (List.mem_of_getElem? (i := 45) rfl) rfl
theorem wm_5_84 : Cond.methodLink RX1 53 yX6_areOpposites ∈ WG := wg_t5 (List.mem_of_getElem? (i := 84) rfl) rfl
theorem wm_5_101 : Cond.methodLink RX1 63 yJ9_min_7cf53 ∈ WG := wg_t5 (List.mem_of_getElem? (i := 101) rfl) rfl
theorem wm_5_97 : Cond.methodLink RX1 59 yX1_lesserPart ∈ WG := wg_t5 (List.mem_of_getElem? (i := 97) rfl) rfl
theorem wm_5_100 : Cond.code yX1_lesserPart cX1_lesserPart 6 (some .int) ∈ WG := wg_t5 (List.mem_of_getElem? (i := 100) rfl) rfl
theorem wm_1_8 : Cond.initialized RX1 ∈ WG := wg_t1 (List.mem_of_getElem? (i := 8) rfl) rfl
theorem wm_5_99 : Cond.instanceMethod yX1_lesserPart ∈ WG := wg_t5 (List.mem_of_getElem? (i := 99) rfl) rfl
theorem wp_4_1 : Cond.selects RX1 yX1_lesserPart yX1_lesserPart ∈ WG := wg_p (q := (yX1_lesserPart, 5)) (wg_p4 (List.mem_of_getElem? (i := 1) rfl)) rfl
theorem wm_1_219 : Cond.fieldLink RX10 9 "OppositeHouse$Turning" "one" "I" ∈ WG := wg_t1 (List.mem_of_getElem? (i := 219) rfl) rfl
theorem wm_1_220 : Cond.fieldLink RX10 15 "OppositeHouse$Turning" "other" "I" ∈ WG := wg_t1 (List.mem_of_getElem? (i := 220) rfl) rfl
theorem wm_1_221 : Cond.fieldLink RX10 18 "OppositeHouse$Turning" "stamp" "I" ∈ WG := wg_t1 (List.mem_of_getElem? (i := 221) rfl) rfl
theorem wm_2_51 : Cond.fieldLink RX10 37 "OppositeHouse$State" "views" "[I" ∈ WG := wg_t2 (List.mem_of_getElem? (i := 51) rfl) rfl
theorem wm_2_44 : Cond.fieldLink RX10 42 "OppositeHouse$State" "day" "I" ∈ WG := wg_t2 (List.mem_of_getElem? (i := 44) rfl) rfl
theorem wm_5_7 : Cond.methodLink RX10 45 yX6_areOpposites ∈ WG := wg_t5 (List.mem_of_getElem? (i := 7) rfl) rfl
theorem wm_5_8 : Cond.methodLink RX10 51 yX7_inTown ∈ WG := wg_t5 (List.mem_of_getElem? (i := 8) rfl) rfl
theorem wm_1_227 : Cond.fieldLink RX10 31 "OppositeHouse$Turning" "from" "[I" ∈ WG := wg_t1 (List.mem_of_getElem? (i := 227) rfl) rfl
theorem wm_5_13 : Cond.methodLink RX10 63 yJ7_fill_53178 ∈ WG := wg_t5 (List.mem_of_getElem? (i := 13) rfl) rfl
theorem wm_1_226 : Cond.fieldLink RX10 28 "OppositeHouse$Turning" "queue" "[I" ∈ WG := wg_t1 (List.mem_of_getElem? (i := 226) rfl) rfl
theorem wm_2_40 : Cond.fieldLink RX10 69 "OppositeHouse$State" "house" "LOppositeHouse$House;" ∈ WG := wg_t2 (List.mem_of_getElem? (i := 40) rfl) rfl
theorem wm_1_82 : Cond.fieldLink RX10 73 "OppositeHouse$House" "people" "I" ∈ WG := wg_t1 (List.mem_of_getElem? (i := 82) rfl) rfl
theorem wm_5_14 : Cond.methodLink RX10 78 yX6_swayed ∈ WG := wg_t5 (List.mem_of_getElem? (i := 14) rfl) rfl
theorem wm_4_29 : Cond.code yX6_swayed cX6_swayed 9 (some .int) ∈ WG := wg_t4 (List.mem_of_getElem? (i := 29) rfl) rfl
theorem wm_4_27 : Cond.instanceMethod yX6_swayed ∈ WG := wg_t4 (List.mem_of_getElem? (i := 27) rfl) rfl
theorem wm_4_28 : Cond.selects RX6 yX6_swayed yX6_swayed ∈ WG := wg_t4 (List.mem_of_getElem? (i := 28) rfl) rfl
theorem wm_1_228 : Cond.fieldLink RX10 34 "OppositeHouse$Turning" "by" "[I" ∈ WG := wg_t1 (List.mem_of_getElem? (i := 228) rfl) rfl
theorem wm_5_9 : Cond.methodLink RX10 55 yX10_lastViews ∈ WG := wg_t5 (List.mem_of_getElem? (i := 9) rfl) rfl
theorem wm_5_12 : Cond.code yX10_lastViews cX10_lastViews 10 (some .int) ∈ WG := wg_t5 (List.mem_of_getElem? (i := 12) rfl) rfl
theorem wm_1_7 : Cond.initialized RX10 ∈ WG := wg_t1 (List.mem_of_getElem? (i := 7) rfl) rfl
theorem wm_5_11 : Cond.instanceMethod yX10_lastViews ∈ WG := wg_t5 (List.mem_of_getElem? (i := 11) rfl) rfl
theorem wp_3_10 : Cond.selects RX10 yX10_lastViews yX10_lastViews ∈ WG := wg_p (q := (yX10_lastViews, 8)) (wg_p3 (List.mem_of_getElem? (i := 10) rfl)) rfl
theorem wm_1_222 : Cond.fieldLink RX10 21 "OppositeHouse$Turning" "length" "I" ∈ WG := wg_t1 (List.mem_of_getElem? (i := 222) rfl) rfl
theorem wm_1_224 : Cond.fieldLink RX10 24 "OppositeHouse$Turning" "path" "[I" ∈ WG := wg_t1 (List.mem_of_getElem? (i := 224) rfl) rfl
theorem wm_5_15 : Cond.methodLink RX10 59 yX10_trace ∈ WG := wg_t5 (List.mem_of_getElem? (i := 15) rfl) rfl
theorem wm_5_18 : Cond.code yX10_trace cX10_trace 5 none ∈ WG := wg_t5 (List.mem_of_getElem? (i := 18) rfl) rfl
theorem wm_5_17 : Cond.instanceMethod yX10_trace ∈ WG := wg_t5 (List.mem_of_getElem? (i := 17) rfl) rfl
theorem wp_3_11 : Cond.selects RX10 yX10_trace yX10_trace ∈ WG := wg_p (q := (yX10_trace, 8)) (wg_p3 (List.mem_of_getElem? (i := 11) rfl)) rfl
theorem wm_2_13 : Cond.fieldLink RX1 15 "OppositeHouse$Guess" "opposing" "I" ∈ WG := wg_t2 (List.mem_of_getElem? (i := 13) rfl) rfl
theorem wm_2_14 : Cond.fieldLink RX1 18 "OppositeHouse$Guess" "stamp" "I" ∈ WG := wg_t2 (List.mem_of_getElem? (i := 14) rfl) rfl
theorem wm_1_75 : Cond.fieldLink RX1 34 "OppositeHouse$House" "lines" "I" ∈ WG := wg_t1 (List.mem_of_getElem? (i := 75) rfl) rfl
theorem wm_5_79 : Cond.methodLink RX1 39 yX1_fits ∈ WG := wg_t5 (List.mem_of_getElem? (i := 79) rfl) rfl
theorem wm_5_82 : Cond.code yX1_fits cX1_fits 7 (some .boolean) ∈ WG := wg_t5 (List.mem_of_getElem? (i := 82) rfl) rfl
theorem wm_5_81 : Cond.instanceMethod yX1_fits ∈ WG := wg_t5 (List.mem_of_getElem? (i := 81) rfl) rfl
theorem wp_4_0 : Cond.selects RX1 yX1_fits yX1_fits ∈ WG := wg_p (q := (yX1_fits, 5)) (wg_p4 (List.mem_of_getElem? (i := 0) rfl)) rfl
theorem wm_1_203 : Cond.fieldLink RX0 22 "OppositeHouse$Circle" "worth" "[I" ∈ WG := wg_t1 (List.mem_of_getElem? (i := 203) rfl) rfl
theorem wm_4_60 : Cond.constant RJ6 265 (1431655765) ∈ WG := wg_t4 (List.mem_of_getElem? (i := 60) rfl) rfl
theorem wm_4_61 : Cond.constant RJ6 266 (858993459) ∈ WG := wg_t4 (List.mem_of_getElem? (i := 61) rfl) rfl
theorem wm_4_62 : Cond.constant RJ6 267 (252645135) ∈ WG := wg_t4 (List.mem_of_getElem? (i := 62) rfl) rfl
theorem wm_4_116 : Cond.methodLink RX0 49 yJ6_bitCount_0f7a4 ∈ WG := wg_t4 (List.mem_of_getElem? (i := 116) rfl) rfl
theorem wm_4_59 : Cond.code yJ6_bitCount_0f7a4 cJ6_bitCount_0f7a4 1 (some .int) ∈ WG := wg_t4 (List.mem_of_getElem? (i := 59) rfl) rfl
theorem wm_4_58 : Cond.static yJ6_bitCount_0f7a4 ∈ WG := wg_t4 (List.mem_of_getElem? (i := 58) rfl) rfl
theorem wm_4_113 : Cond.methodLink RX0 55 yX0_lowestOf ∈ WG := wg_t4 (List.mem_of_getElem? (i := 113) rfl) rfl
theorem wm_4_115 : Cond.code yX0_lowestOf cX0_lowestOf 1 (some .int) ∈ WG := wg_t4 (List.mem_of_getElem? (i := 115) rfl) rfl
theorem wm_1_6 : Cond.initialized RX0 ∈ WG := wg_t1 (List.mem_of_getElem? (i := 6) rfl) rfl
theorem wm_4_114 : Cond.static yX0_lowestOf ∈ WG := wg_t4 (List.mem_of_getElem? (i := 114) rfl) rfl
theorem wm_4_117 : Cond.methodLink RX0 58 yX0_canSit ∈ WG := wg_t4 (List.mem_of_getElem? (i := 117) rfl) rfl
theorem wm_4_112 : Cond.code yX0_canSit cX0_canSit 6 (some .boolean) ∈ WG := wg_t4 (List.mem_of_getElem? (i := 112) rfl) rfl
theorem wm_4_110 : Cond.instanceMethod yX0_canSit ∈ WG := wg_t4 (List.mem_of_getElem? (i := 110) rfl) rfl
theorem wm_4_111 : Cond.selects RX0 yX0_canSit yX0_canSit ∈ WG := wg_t4 (List.mem_of_getElem? (i := 111) rfl) rfl
theorem wm_1_201 : Cond.fieldLink RX0 19 "OppositeHouse$Circle" "partings" "[I" ∈ WG := wg_t1 (List.mem_of_getElem? (i := 201) rfl) rfl
theorem wm_4_157 : Cond.methodLink RX0 62 yX0_worthWith ∈ WG := wg_t4 (List.mem_of_getElem? (i := 157) rfl) rfl
theorem wm_4_160 : Cond.code yX0_worthWith cX0_worthWith 5 (some .int) ∈ WG := wg_t4 (List.mem_of_getElem? (i := 160) rfl) rfl
theorem wm_4_159 : Cond.instanceMethod yX0_worthWith ∈ WG := wg_t4 (List.mem_of_getElem? (i := 159) rfl) rfl
theorem wp_3_6 : Cond.selects RX0 yX0_worthWith yX0_worthWith ∈ WG := wg_p (q := (yX0_worthWith, 4)) (wg_p3 (List.mem_of_getElem? (i := 6) rfl)) rfl
theorem wm_4_161 : Cond.methodLink RX0 66 yJ9_max_7cf53 ∈ WG := wg_t4 (List.mem_of_getElem? (i := 161) rfl) rfl
theorem wm_4_199 : Cond.methodLink RX0 76 yX0_pieceOf ∈ WG := wg_t4 (List.mem_of_getElem? (i := 199) rfl) rfl
theorem wm_4_202 : Cond.code yX0_pieceOf cX0_pieceOf 8 (some .int) ∈ WG := wg_t4 (List.mem_of_getElem? (i := 202) rfl) rfl
theorem wm_4_201 : Cond.instanceMethod yX0_pieceOf ∈ WG := wg_t4 (List.mem_of_getElem? (i := 201) rfl) rfl
theorem wp_3_8 : Cond.selects RX0 yX0_pieceOf yX0_pieceOf ∈ WG := wg_p (q := (yX0_pieceOf, 4)) (wg_p3 (List.mem_of_getElem? (i := 8) rfl)) rfl
theorem wm_4_194 : Cond.methodLink RX0 79 yX0_twosOf ∈ WG := wg_t4 (List.mem_of_getElem? (i := 194) rfl) rfl
theorem wm_4_165 : Cond.code yX0_twosOf cX0_twosOf 2 (some .int) ∈ WG := wg_t4 (List.mem_of_getElem? (i := 165) rfl) rfl
theorem wm_4_163 : Cond.instanceMethod yX0_twosOf ∈ WG := wg_t4 (List.mem_of_getElem? (i := 163) rfl) rfl
theorem wm_4_164 : Cond.selects RX0 yX0_twosOf yX0_twosOf ∈ WG := wg_t4 (List.mem_of_getElem? (i := 164) rfl) rfl
theorem wm_4_195 : Cond.methodLink RX0 82 yX0_countPieces ∈ WG := wg_t4 (List.mem_of_getElem? (i := 195) rfl) rfl
theorem wm_4_198 : Cond.code yX0_countPieces cX0_countPieces 7 (some .int) ∈ WG := wg_t4 (List.mem_of_getElem? (i := 198) rfl) rfl
theorem wm_4_196 : Cond.instanceMethod yX0_countPieces ∈ WG := wg_t4 (List.mem_of_getElem? (i := 196) rfl) rfl
theorem wm_4_197 : Cond.selects RX0 yX0_countPieces yX0_countPieces ∈ WG := wg_t4 (List.mem_of_getElem? (i := 197) rfl) rfl
theorem wm_4_228 : Cond.methodLink RX0 86 yX0_opposeAllOf ∈ WG := wg_t4 (List.mem_of_getElem? (i := 228) rfl) rfl
theorem wm_4_231 : Cond.code yX0_opposeAllOf cX0_opposeAllOf 4 (some .boolean) ∈ WG := wg_t4 (List.mem_of_getElem? (i := 231) rfl) rfl
theorem wm_4_230 : Cond.instanceMethod yX0_opposeAllOf ∈ WG := wg_t4 (List.mem_of_getElem? (i := 230) rfl) rfl
theorem wp_3_9 : Cond.selects RX0 yX0_opposeAllOf yX0_opposeAllOf ∈ WG := wg_p (q := (yX0_opposeAllOf, 4)) (wg_p3 (List.mem_of_getElem? (i := 9) rfl)) rfl
theorem wm_4_174 : Cond.methodLink RX0 72 yX0_firstPartner ∈ WG := wg_t4 (List.mem_of_getElem? (i := 174) rfl) rfl
theorem wm_4_177 : Cond.code yX0_firstPartner cX0_firstPartner 6 (some .int) ∈ WG := wg_t4 (List.mem_of_getElem? (i := 177) rfl) rfl
theorem wm_4_176 : Cond.instanceMethod yX0_firstPartner ∈ WG := wg_t4 (List.mem_of_getElem? (i := 176) rfl) rfl
theorem wp_3_7 : Cond.selects RX0 yX0_firstPartner yX0_firstPartner ∈ WG := wg_p (q := (yX0_firstPartner, 4)) (wg_p3 (List.mem_of_getElem? (i := 7) rfl)) rfl
theorem wm_2_85 : Cond.fieldLink RX9 9 "OppositeHouse$Tray" "sort" "I" ∈ WG := wg_t2 (List.mem_of_getElem? (i := 85) rfl) rfl
theorem wm_2_86 : Cond.fieldLink RX9 15 "OppositeHouse$Tray" "size" "I" ∈ WG := wg_t2 (List.mem_of_getElem? (i := 86) rfl) rfl
theorem wm_2_88 : Cond.fieldLink RX9 18 "OppositeHouse$Tray" "row" "[J" ∈ WG := wg_t2 (List.mem_of_getElem? (i := 88) rfl) rfl
theorem wm_5_128 : Cond.methodLink RX9 22 yJ7_fill_d0a16 ∈ WG := wg_t5 (List.mem_of_getElem? (i := 128) rfl) rfl
theorem wm_5_130 : Cond.code yJ7_fill_d0a16 cJ7_fill_d0a16 5 none ∈ WG := wg_t5 (List.mem_of_getElem? (i := 130) rfl) rfl
theorem wm_5_129 : Cond.static yJ7_fill_d0a16 ∈ WG := wg_t5 (List.mem_of_getElem? (i := 129) rfl) rfl
theorem wm_1_185 : Cond.fieldLink RX6 15 "OppositeHouse$Scales" "held" "[I" ∈ WG := wg_t1 (List.mem_of_getElem? (i := 185) rfl) rfl
theorem wm_3_153 : Cond.fieldLink RX4 15 "OppositeHouse$Law" "steps" "[I" ∈ WG := wg_t3 (List.mem_of_getElem? (i := 153) rfl) rfl
theorem wm_3_215 : Cond.constantLong RX4 25 (-1000000) ∈ WG := wg_t3 (List.mem_of_getElem? (i := 215) rfl) rfl
theorem wm_3_216 : Cond.constantLong RX4 27 (1000000) ∈ WG := wg_t3 (List.mem_of_getElem? (i := 216) rfl) rfl
theorem wm_3_217 : Cond.methodLink RX4 29 yJ9_min_f86c9 ∈ WG := wg_t3 (List.mem_of_getElem? (i := 217) rfl) rfl
theorem wm_3_218 : Cond.static yJ9_min_f86c9 ∈ WG := wg_t3 (List.mem_of_getElem? (i := 218) rfl) rfl
theorem wm_3_219 : Cond.code yJ9_min_f86c9 cJ9_min_f86c9 4 (some .long) ∈ WG := wg_t3 (List.mem_of_getElem? (i := 219) rfl) rfl
theorem wm_3_220 : Cond.methodLink RX4 35 yJ9_max_f86c9 ∈ WG := wg_t3 (List.mem_of_getElem? (i := 220) rfl) rfl
theorem wm_3_221 : Cond.static yJ9_max_f86c9 ∈ WG := wg_t3 (List.mem_of_getElem? (i := 221) rfl) rfl
theorem wm_3_222 : Cond.code yJ9_max_f86c9 cJ9_max_f86c9 4 (some .long) ∈ WG := wg_t3 (List.mem_of_getElem? (i := 222) rfl) rfl
theorem wm_3_212 : Cond.methodLink RX4 21 yX4_joined ∈ WG := wg_t3 (List.mem_of_getElem? (i := 212) rfl) rfl
theorem wm_3_214 : Cond.code yX4_joined cX4_joined 5 (some .int) ∈ WG := wg_t3 (List.mem_of_getElem? (i := 214) rfl) rfl
theorem wm_1_19 : Cond.initialized RX4 ∈ WG := wg_t1 (List.mem_of_getElem? (i := 19) rfl) rfl
theorem wm_3_213 : Cond.static yX4_joined ∈ WG := wg_t3 (List.mem_of_getElem? (i := 213) rfl) rfl
theorem wm_3_208 : Cond.methodLink RX6 22 yX4_valueFor ∈ WG := wg_t3 (List.mem_of_getElem? (i := 208) rfl) rfl
theorem wm_3_211 : Cond.code yX4_valueFor cX4_valueFor 7 (some .int) ∈ WG := wg_t3 (List.mem_of_getElem? (i := 211) rfl) rfl
theorem wm_3_209 : Cond.instanceMethod yX4_valueFor ∈ WG := wg_t3 (List.mem_of_getElem? (i := 209) rfl) rfl
theorem wm_3_210 : Cond.selects RX4 yX4_valueFor yX4_valueFor ∈ WG := wg_t3 (List.mem_of_getElem? (i := 210) rfl) rfl
theorem wm_3_200 : Cond.methodLink RX6 43 yX6_opposesOneWay ∈ WG := wg_t3 (List.mem_of_getElem? (i := 200) rfl) rfl
theorem wm_3_203 : Cond.code yX6_opposesOneWay cX6_opposesOneWay 6 (some .boolean) ∈ WG := wg_t3 (List.mem_of_getElem? (i := 203) rfl) rfl
theorem wm_3_202 : Cond.instanceMethod yX6_opposesOneWay ∈ WG := wg_t3 (List.mem_of_getElem? (i := 202) rfl) rfl
theorem wp_2_9 : Cond.selects RX6 yX6_opposesOneWay yX6_opposesOneWay ∈ WG := wg_p (q := (yX6_opposesOneWay, 2)) (wg_p2 (List.mem_of_getElem? (i := 9) rfl)) rfl
theorem wf_0 : ∀ w ∈ u_ws RX0 TX0 4, w ∈ WG := by
  intro w hw
  obtain ⟨k, hk, rfl⟩ := List.mem_map.mp hw
  have hk := List.mem_range.mp hk
  match k, hk with
  | 0, _ => exact wg_t1 (List.mem_of_getElem? (i := 204) rfl) rfl
  | 1, _ => exact wg_t1 (List.mem_of_getElem? (i := 206) rfl) rfl
  | 2, _ => exact wg_t1 (List.mem_of_getElem? (i := 208) rfl) rfl
  | 3, _ => exact wg_t1 (List.mem_of_getElem? (i := 210) rfl) rfl
  | n + 4, hk => exact absurd hk (by omega)
theorem df_0 : ∀ j, j < 4 → defaultValue (tyX0 j) = vp_V [.int 0, .null, .null, .null] j := by
  intro k hk
  match k, hk with
  | 0, _ => rfl
  | 1, _ => rfl
  | 2, _ => rfl
  | 3, _ => rfl
  | n + 4, hk => exact absurd hk (by omega)
theorem wf_1 : ∀ w ∈ u_ws RX1 TX1 5, w ∈ WG := by
  intro w hw
  obtain ⟨k, hk, rfl⟩ := List.mem_map.mp hw
  have hk := List.mem_range.mp hk
  match k, hk with
  | 0, _ => exact wg_t2 (List.mem_of_getElem? (i := 19) rfl) rfl
  | 1, _ => exact wg_t2 (List.mem_of_getElem? (i := 21) rfl) rfl
  | 2, _ => exact wg_t2 (List.mem_of_getElem? (i := 23) rfl) rfl
  | 3, _ => exact wg_t2 (List.mem_of_getElem? (i := 25) rfl) rfl
  | 4, _ => exact wg_t2 (List.mem_of_getElem? (i := 27) rfl) rfl
  | n + 5, hk => exact absurd hk (by omega)
theorem df_1 : ∀ j, j < 5 → defaultValue (tyX1 j) = vp_V [.int 0, .int 0, .int 0, .int 0, .null] j := by
  intro k hk
  match k, hk with
  | 0, _ => rfl
  | 1, _ => rfl
  | 2, _ => rfl
  | 3, _ => rfl
  | 4, _ => rfl
  | n + 5, hk => exact absurd hk (by omega)
theorem wf_2 : ∀ w ∈ u_ws RX2 TX2 2, w ∈ WG := by
  intro w hw
  obtain ⟨k, hk, rfl⟩ := List.mem_map.mp hw
  have hk := List.mem_range.mp hk
  match k, hk with
  | 0, _ => exact wg_t2 (List.mem_of_getElem? (i := 75) rfl) rfl
  | 1, _ => exact wg_t2 (List.mem_of_getElem? (i := 77) rfl) rfl
  | n + 2, hk => exact absurd hk (by omega)
theorem df_2 : ∀ j, j < 2 → defaultValue (tyX2 j) = vp_V [.int 0, .null] j := by
  intro k hk
  match k, hk with
  | 0, _ => rfl
  | 1, _ => rfl
  | n + 2, hk => exact absurd hk (by omega)
theorem wf_3 : ∀ w ∈ u_ws RX3 TX3 12, w ∈ WG := by
  intro w hw
  obtain ⟨k, hk, rfl⟩ := List.mem_map.mp hw
  have hk := List.mem_range.mp hk
  match k, hk with
  | 0, _ => exact wg_t1 (List.mem_of_getElem? (i := 119) rfl) rfl
  | 1, _ => exact wg_t1 (List.mem_of_getElem? (i := 121) rfl) rfl
  | 2, _ => exact wg_t1 (List.mem_of_getElem? (i := 123) rfl) rfl
  | 3, _ => exact wg_t1 (List.mem_of_getElem? (i := 125) rfl) rfl
  | 4, _ => exact wg_t1 (List.mem_of_getElem? (i := 127) rfl) rfl
  | 5, _ => exact wg_t1 (List.mem_of_getElem? (i := 129) rfl) rfl
  | 6, _ => exact wg_t1 (List.mem_of_getElem? (i := 131) rfl) rfl
  | 7, _ => exact wg_t1 (List.mem_of_getElem? (i := 133) rfl) rfl
  | 8, _ => exact wg_t1 (List.mem_of_getElem? (i := 135) rfl) rfl
  | 9, _ => exact wg_t1 (List.mem_of_getElem? (i := 137) rfl) rfl
  | 10, _ => exact wg_t1 (List.mem_of_getElem? (i := 139) rfl) rfl
  | 11, _ => exact wg_t1 (List.mem_of_getElem? (i := 141) rfl) rfl
  | n + 12, hk => exact absurd hk (by omega)
theorem df_3 : ∀ j, j < 12 → defaultValue (tyX3 j) = vp_V [.int 0, .int 0, .int 0, .int 0, .null, .null, .null, .null, .null, .null, .null, .null] j := by
  intro k hk
  match k, hk with
  | 0, _ => rfl
  | 1, _ => rfl
  | 2, _ => rfl
  | 3, _ => rfl
  | 4, _ => rfl
  | 5, _ => rfl
  | 6, _ => rfl
  | 7, _ => rfl
  | 8, _ => rfl
  | 9, _ => rfl
  | 10, _ => rfl
  | 11, _ => rfl
  | n + 12, hk => exact absurd hk (by omega)
theorem wf_4 : ∀ w ∈ u_ws RX4 TX4 1, w ∈ WG := by
  intro w hw
  obtain ⟨k, hk, rfl⟩ := List.mem_map.mp hw
  have hk := List.mem_range.mp hk
  match k, hk with
  | 0, _ => exact wg_t3 (List.mem_of_getElem? (i := 154) rfl) rfl
  | n + 1, hk => exact absurd hk (by omega)
theorem df_4 : ∀ j, j < 1 → defaultValue (tyX4 j) = vp_V [.null] j := by
  intro k hk
  match k, hk with
  | 0, _ => rfl
  | n + 1, hk => exact absurd hk (by omega)
theorem wf_5 : ∀ w ∈ u_ws RX5 TX5 9, w ∈ WG := by
  intro w hw
  obtain ⟨k, hk, rfl⟩ := List.mem_map.mp hw
  have hk := List.mem_range.mp hk
  match k, hk with
  | 0, _ => exact wg_t1 (List.mem_of_getElem? (i := 155) rfl) rfl
  | 1, _ => exact wg_t1 (List.mem_of_getElem? (i := 157) rfl) rfl
  | 2, _ => exact wg_t1 (List.mem_of_getElem? (i := 159) rfl) rfl
  | 3, _ => exact wg_t1 (List.mem_of_getElem? (i := 161) rfl) rfl
  | 4, _ => exact wg_t1 (List.mem_of_getElem? (i := 163) rfl) rfl
  | 5, _ => exact wg_t1 (List.mem_of_getElem? (i := 165) rfl) rfl
  | 6, _ => exact wg_t1 (List.mem_of_getElem? (i := 167) rfl) rfl
  | 7, _ => exact wg_t1 (List.mem_of_getElem? (i := 169) rfl) rfl
  | 8, _ => exact wg_t1 (List.mem_of_getElem? (i := 171) rfl) rfl
  | n + 9, hk => exact absurd hk (by omega)
theorem df_5 : ∀ j, j < 9 → defaultValue (tyX5 j) = vp_V [.null, .int 0, .int 0, .int 0, .int 0, .null, .null, .int 0, .int 0] j := by
  intro k hk
  match k, hk with
  | 0, _ => rfl
  | 1, _ => rfl
  | 2, _ => rfl
  | 3, _ => rfl
  | 4, _ => rfl
  | 5, _ => rfl
  | 6, _ => rfl
  | 7, _ => rfl
  | 8, _ => rfl
  | n + 9, hk => exact absurd hk (by omega)
theorem wf_6 : ∀ w ∈ u_ws RX6 TX6 2, w ∈ WG := by
  intro w hw
  obtain ⟨k, hk, rfl⟩ := List.mem_map.mp hw
  have hk := List.mem_range.mp hk
  match k, hk with
  | 0, _ => exact wg_t1 (List.mem_of_getElem? (i := 186) rfl) rfl
  | 1, _ => exact wg_t1 (List.mem_of_getElem? (i := 188) rfl) rfl
  | n + 2, hk => exact absurd hk (by omega)
theorem df_6 : ∀ j, j < 2 → defaultValue (tyX6 j) = vp_V [.null, .null] j := by
  intro k hk
  match k, hk with
  | 0, _ => rfl
  | 1, _ => rfl
  | n + 2, hk => exact absurd hk (by omega)
theorem wf_7 : ∀ w ∈ u_ws RX7 TX7 4, w ∈ WG := by
  intro w hw
  obtain ⟨k, hk, rfl⟩ := List.mem_map.mp hw
  have hk := List.mem_range.mp hk
  match k, hk with
  | 0, _ => exact wg_t2 (List.mem_of_getElem? (i := 55) rfl) rfl
  | 1, _ => exact wg_t2 (List.mem_of_getElem? (i := 57) rfl) rfl
  | 2, _ => exact wg_t2 (List.mem_of_getElem? (i := 59) rfl) rfl
  | 3, _ => exact wg_t2 (List.mem_of_getElem? (i := 61) rfl) rfl
  | n + 4, hk => exact absurd hk (by omega)
theorem df_7 : ∀ j, j < 4 → defaultValue (tyX7 j) = vp_V [.null, .int 0, .int 0, .null] j := by
  intro k hk
  match k, hk with
  | 0, _ => rfl
  | 1, _ => rfl
  | 2, _ => rfl
  | 3, _ => rfl
  | n + 4, hk => exact absurd hk (by omega)
theorem wf_8 : ∀ w ∈ u_ws RX8 TX8 6, w ∈ WG := by
  intro w hw
  obtain ⟨k, hk, rfl⟩ := List.mem_map.mp hw
  have hk := List.mem_range.mp hk
  match k, hk with
  | 0, _ => exact wg_t1 (List.mem_of_getElem? (i := 53) rfl) rfl
  | 1, _ => exact wg_t1 (List.mem_of_getElem? (i := 55) rfl) rfl
  | 2, _ => exact wg_t1 (List.mem_of_getElem? (i := 57) rfl) rfl
  | 3, _ => exact wg_t1 (List.mem_of_getElem? (i := 59) rfl) rfl
  | 4, _ => exact wg_t1 (List.mem_of_getElem? (i := 61) rfl) rfl
  | 5, _ => exact wg_t1 (List.mem_of_getElem? (i := 63) rfl) rfl
  | n + 6, hk => exact absurd hk (by omega)
theorem df_8 : ∀ j, j < 6 → defaultValue (tyX8 j) = vp_V [.null, .int 0, .int 0, .null, .null, .null] j := by
  intro k hk
  match k, hk with
  | 0, _ => rfl
  | 1, _ => rfl
  | 2, _ => rfl
  | 3, _ => rfl
  | 4, _ => rfl
  | 5, _ => rfl
  | n + 6, hk => exact absurd hk (by omega)
theorem wf_9 : ∀ w ∈ u_ws RX9 TX9 3, w ∈ WG := by
  intro w hw
  obtain ⟨k, hk, rfl⟩ := List.mem_map.mp hw
  have hk := List.mem_range.mp hk
  match k, hk with
  | 0, _ => exact wg_t2 (List.mem_of_getElem? (i := 90) rfl) rfl
  | 1, _ => exact wg_t2 (List.mem_of_getElem? (i := 92) rfl) rfl
  | 2, _ => exact wg_t2 (List.mem_of_getElem? (i := 94) rfl) rfl
  | n + 3, hk => exact absurd hk (by omega)
theorem df_9 : ∀ j, j < 3 → defaultValue (tyX9 j) = vp_V [.int 0, .int 0, .null] j := by
  intro k hk
  match k, hk with
  | 0, _ => rfl
  | 1, _ => rfl
  | 2, _ => rfl
  | n + 3, hk => exact absurd hk (by omega)
theorem wf_10 : ∀ w ∈ u_ws RX10 TX10 8, w ∈ WG := by
  intro w hw
  obtain ⟨k, hk, rfl⟩ := List.mem_map.mp hw
  have hk := List.mem_range.mp hk
  match k, hk with
  | 0, _ => exact wg_t1 (List.mem_of_getElem? (i := 229) rfl) rfl
  | 1, _ => exact wg_t1 (List.mem_of_getElem? (i := 231) rfl) rfl
  | 2, _ => exact wg_t1 (List.mem_of_getElem? (i := 233) rfl) rfl
  | 3, _ => exact wg_t1 (List.mem_of_getElem? (i := 235) rfl) rfl
  | 4, _ => exact wg_t1 (List.mem_of_getElem? (i := 237) rfl) rfl
  | 5, _ => exact wg_t1 (List.mem_of_getElem? (i := 239) rfl) rfl
  | 6, _ => exact wg_t2 (List.mem_of_getElem? (i := 1) rfl) rfl
  | 7, _ => exact wg_t2 (List.mem_of_getElem? (i := 3) rfl) rfl
  | n + 8, hk => exact absurd hk (by omega)
theorem df_10 : ∀ j, j < 8 → defaultValue (tyX10 j) = vp_V [.int 0, .int 0, .int 0, .int 0, .null, .null, .null, .null] j := by
  intro k hk
  match k, hk with
  | 0, _ => rfl
  | 1, _ => rfl
  | 2, _ => rfl
  | 3, _ => rfl
  | 4, _ => rfl
  | 5, _ => rfl
  | 6, _ => rfl
  | 7, _ => rfl
  | n + 8, hk => exact absurd hk (by omega)
theorem wf_11 : ∀ w ∈ u_ws RX11 TX11 17, w ∈ WG := by
  intro w hw
  obtain ⟨k, hk, rfl⟩ := List.mem_map.mp hw
  have hk := List.mem_range.mp hk
  match k, hk with
  | 0, _ => exact wg_t2 (List.mem_of_getElem? (i := 115) rfl) rfl
  | 1, _ => exact wg_t2 (List.mem_of_getElem? (i := 117) rfl) rfl
  | 2, _ => exact wg_t2 (List.mem_of_getElem? (i := 119) rfl) rfl
  | 3, _ => exact wg_t2 (List.mem_of_getElem? (i := 121) rfl) rfl
  | 4, _ => exact wg_t2 (List.mem_of_getElem? (i := 123) rfl) rfl
  | 5, _ => exact wg_t2 (List.mem_of_getElem? (i := 125) rfl) rfl
  | 6, _ => exact wg_t2 (List.mem_of_getElem? (i := 127) rfl) rfl
  | 7, _ => exact wg_t2 (List.mem_of_getElem? (i := 129) rfl) rfl
  | 8, _ => exact wg_t2 (List.mem_of_getElem? (i := 131) rfl) rfl
  | 9, _ => exact wg_t2 (List.mem_of_getElem? (i := 133) rfl) rfl
  | 10, _ => exact wg_t2 (List.mem_of_getElem? (i := 135) rfl) rfl
  | 11, _ => exact wg_t2 (List.mem_of_getElem? (i := 137) rfl) rfl
  | 12, _ => exact wg_t2 (List.mem_of_getElem? (i := 139) rfl) rfl
  | 13, _ => exact wg_t2 (List.mem_of_getElem? (i := 141) rfl) rfl
  | 14, _ => exact wg_t2 (List.mem_of_getElem? (i := 143) rfl) rfl
  | 15, _ => exact wg_t2 (List.mem_of_getElem? (i := 145) rfl) rfl
  | 16, _ => exact wg_t2 (List.mem_of_getElem? (i := 147) rfl) rfl
  | n + 17, hk => exact absurd hk (by omega)
theorem df_11 : ∀ j, j < 17 → defaultValue (tyX11 j) = vp_V [.null, .int 0, .int 0, .int 0, .null, .null, .null, .null, .null, .null, .null, .null, .null, .null, .null, .null, .int 0] j := by
  intro k hk
  match k, hk with
  | 0, _ => rfl
  | 1, _ => rfl
  | 2, _ => rfl
  | 3, _ => rfl
  | 4, _ => rfl
  | 5, _ => rfl
  | 6, _ => rfl
  | 7, _ => rfl
  | 8, _ => rfl
  | 9, _ => rfl
  | 10, _ => rfl
  | 11, _ => rfl
  | 12, _ => rfl
  | 13, _ => rfl
  | 14, _ => rfl
  | 15, _ => rfl
  | 16, _ => rfl
  | n + 17, hk => exact absurd hk (by omega)
theorem wf_12 : ∀ w ∈ u_ws RX12 TX12 37, w ∈ WG := by
  intro w hw
  obtain ⟨k, hk, rfl⟩ := List.mem_map.mp hw
  have hk := List.mem_range.mp hk
  match k, hk with
  | 0, _ => exact wg_t5 (List.mem_of_getElem? (i := 207) rfl) rfl
  | 1, _ => exact wg_t5 (List.mem_of_getElem? (i := 209) rfl) rfl
  | 2, _ => exact wg_t5 (List.mem_of_getElem? (i := 211) rfl) rfl
  | 3, _ => exact wg_t5 (List.mem_of_getElem? (i := 213) rfl) rfl
  | 4, _ => exact wg_t5 (List.mem_of_getElem? (i := 215) rfl) rfl
  | 5, _ => exact wg_t5 (List.mem_of_getElem? (i := 217) rfl) rfl
  | 6, _ => exact wg_t5 (List.mem_of_getElem? (i := 219) rfl) rfl
  | 7, _ => exact wg_t5 (List.mem_of_getElem? (i := 221) rfl) rfl
  | 8, _ => exact wg_t5 (List.mem_of_getElem? (i := 223) rfl) rfl
  | 9, _ => exact wg_t5 (List.mem_of_getElem? (i := 225) rfl) rfl
  | 10, _ => exact wg_t5 (List.mem_of_getElem? (i := 227) rfl) rfl
  | 11, _ => exact wg_t5 (List.mem_of_getElem? (i := 229) rfl) rfl
  | 12, _ => exact wg_t5 (List.mem_of_getElem? (i := 231) rfl) rfl
  | 13, _ => exact wg_t5 (List.mem_of_getElem? (i := 233) rfl) rfl
  | 14, _ => exact wg_t5 (List.mem_of_getElem? (i := 235) rfl) rfl
  | 15, _ => exact wg_t5 (List.mem_of_getElem? (i := 237) rfl) rfl
  | 16, _ => exact wg_t5 (List.mem_of_getElem? (i := 239) rfl) rfl
  | 17, _ => exact wg_t6 (List.mem_of_getElem? (i := 1) rfl) rfl
  | 18, _ => exact wg_t6 (List.mem_of_getElem? (i := 3) rfl) rfl
  | 19, _ => exact wg_t6 (List.mem_of_getElem? (i := 5) rfl) rfl
  | 20, _ => exact wg_t6 (List.mem_of_getElem? (i := 7) rfl) rfl
  | 21, _ => exact wg_t6 (List.mem_of_getElem? (i := 9) rfl) rfl
  | 22, _ => exact wg_t6 (List.mem_of_getElem? (i := 11) rfl) rfl
  | 23, _ => exact wg_t6 (List.mem_of_getElem? (i := 13) rfl) rfl
  | 24, _ => exact wg_t6 (List.mem_of_getElem? (i := 15) rfl) rfl
  | 25, _ => exact wg_t6 (List.mem_of_getElem? (i := 17) rfl) rfl
  | 26, _ => exact wg_t6 (List.mem_of_getElem? (i := 19) rfl) rfl
  | 27, _ => exact wg_t6 (List.mem_of_getElem? (i := 21) rfl) rfl
  | 28, _ => exact wg_t6 (List.mem_of_getElem? (i := 23) rfl) rfl
  | 29, _ => exact wg_t6 (List.mem_of_getElem? (i := 25) rfl) rfl
  | 30, _ => exact wg_t6 (List.mem_of_getElem? (i := 27) rfl) rfl
  | 31, _ => exact wg_t6 (List.mem_of_getElem? (i := 29) rfl) rfl
  | 32, _ => exact wg_t6 (List.mem_of_getElem? (i := 31) rfl) rfl
  | 33, _ => exact wg_t6 (List.mem_of_getElem? (i := 33) rfl) rfl
  | 34, _ => exact wg_t6 (List.mem_of_getElem? (i := 35) rfl) rfl
  | 35, _ => exact wg_t6 (List.mem_of_getElem? (i := 37) rfl) rfl
  | 36, _ => exact wg_t6 (List.mem_of_getElem? (i := 39) rfl) rfl
  | n + 37, hk => exact absurd hk (by omega)
theorem df_12 : ∀ j, j < 37 → defaultValue (tyX12 j) = vp_V [.int 0, .null, .null, .null, .null, .int 0, .int 0, .int 0, .int 0, .int 0, .int 0, .int 0, .int 0, .int 0, .int 0, .int 0, .null, .null, .null, .null, .null, .int 0, .int 0, .null, .null, .null, .int 0, .int 0, .null, .null, .null, .null, .null, .int 0, .null, .null, .null] j := by
  intro k hk
  match k, hk with
  | 0, _ => rfl
  | 1, _ => rfl
  | 2, _ => rfl
  | 3, _ => rfl
  | 4, _ => rfl
  | 5, _ => rfl
  | 6, _ => rfl
  | 7, _ => rfl
  | 8, _ => rfl
  | 9, _ => rfl
  | 10, _ => rfl
  | 11, _ => rfl
  | 12, _ => rfl
  | 13, _ => rfl
  | 14, _ => rfl
  | 15, _ => rfl
  | 16, _ => rfl
  | 17, _ => rfl
  | 18, _ => rfl
  | 19, _ => rfl
  | 20, _ => rfl
  | 21, _ => rfl
  | 22, _ => rfl
  | 23, _ => rfl
  | 24, _ => rfl
  | 25, _ => rfl
  | 26, _ => rfl
  | 27, _ => rfl
  | 28, _ => rfl
  | 29, _ => rfl
  | 30, _ => rfl
  | 31, _ => rfl
  | 32, _ => rfl
  | 33, _ => rfl
  | 34, _ => rfl
  | 35, _ => rfl
  | 36, _ => rfl
  | n + 37, hk => exact absurd hk (by omega)
theorem hd_X7_inTownOn : yX7_inTownOn.cls ≠ "java/lang/invoke/MethodHandle" ∧ yX7_inTownOn.cls ≠ "java/lang/invoke/VarHandle" ∧ (parseMethodDescriptor yX7_inTownOn.desc).map (fun d => d.parameters.length) = some 1 := by decide +kernel
theorem hd_X6_areOpposites : yX6_areOpposites.cls ≠ "java/lang/invoke/MethodHandle" ∧ yX6_areOpposites.cls ≠ "java/lang/invoke/VarHandle" ∧ (parseMethodDescriptor yX6_areOpposites.desc).map (fun d => d.parameters.length) = some 5 := by decide +kernel
theorem hd_J7_fill_53178 : yJ7_fill_53178.cls ≠ "java/lang/invoke/MethodHandle" ∧ yJ7_fill_53178.cls ≠ "java/lang/invoke/VarHandle" ∧ (parseMethodDescriptor yJ7_fill_53178.desc).map (fun d => d.parameters.length) = some 2 := by decide +kernel
theorem hd_X6_put : yX6_put.cls ≠ "java/lang/invoke/MethodHandle" ∧ yX6_put.cls ≠ "java/lang/invoke/VarHandle" ∧ (parseMethodDescriptor yX6_put.desc).map (fun d => d.parameters.length) = some 3 := by decide +kernel
theorem hd_X6_swayOf : yX6_swayOf.cls ≠ "java/lang/invoke/MethodHandle" ∧ yX6_swayOf.cls ≠ "java/lang/invoke/VarHandle" ∧ (parseMethodDescriptor yX6_swayOf.desc).map (fun d => d.parameters.length) = some 2 := by decide +kernel
theorem hd_J6_compare_7cf53 : yJ6_compare_7cf53.cls ≠ "java/lang/invoke/MethodHandle" ∧ yJ6_compare_7cf53.cls ≠ "java/lang/invoke/VarHandle" ∧ (parseMethodDescriptor yJ6_compare_7cf53.desc).map (fun d => d.parameters.length) = some 2 := by decide +kernel
theorem hd_X7_inTown : yX7_inTown.cls ≠ "java/lang/invoke/MethodHandle" ∧ yX7_inTown.cls ≠ "java/lang/invoke/VarHandle" ∧ (parseMethodDescriptor yX7_inTown.desc).map (fun d => d.parameters.length) = some 0 := by decide +kernel
theorem hd_X7_whyNoTalk : yX7_whyNoTalk.cls ≠ "java/lang/invoke/MethodHandle" ∧ yX7_whyNoTalk.cls ≠ "java/lang/invoke/VarHandle" ∧ (parseMethodDescriptor yX7_whyNoTalk.desc).map (fun d => d.parameters.length) = some 2 := by decide +kernel
theorem hd_X1_lesserPart : yX1_lesserPart.cls ≠ "java/lang/invoke/MethodHandle" ∧ yX1_lesserPart.cls ≠ "java/lang/invoke/VarHandle" ∧ (parseMethodDescriptor yX1_lesserPart.desc).map (fun d => d.parameters.length) = some 3 := by decide +kernel
theorem hd_X6_swayed : yX6_swayed.cls ≠ "java/lang/invoke/MethodHandle" ∧ yX6_swayed.cls ≠ "java/lang/invoke/VarHandle" ∧ (parseMethodDescriptor yX6_swayed.desc).map (fun d => d.parameters.length) = some 4 := by decide +kernel
theorem hd_X10_lastViews : yX10_lastViews.cls ≠ "java/lang/invoke/MethodHandle" ∧ yX10_lastViews.cls ≠ "java/lang/invoke/VarHandle" ∧ (parseMethodDescriptor yX10_lastViews.desc).map (fun d => d.parameters.length) = some 2 := by decide +kernel
theorem hd_X10_trace : yX10_trace.cls ≠ "java/lang/invoke/MethodHandle" ∧ yX10_trace.cls ≠ "java/lang/invoke/VarHandle" ∧ (parseMethodDescriptor yX10_trace.desc).map (fun d => d.parameters.length) = some 2 := by decide +kernel
theorem hd_X1_fits : yX1_fits.cls ≠ "java/lang/invoke/MethodHandle" ∧ yX1_fits.cls ≠ "java/lang/invoke/VarHandle" ∧ (parseMethodDescriptor yX1_fits.desc).map (fun d => d.parameters.length) = some 3 := by decide +kernel
theorem hd_J6_bitCount_0f7a4 : yJ6_bitCount_0f7a4.cls ≠ "java/lang/invoke/MethodHandle" ∧ yJ6_bitCount_0f7a4.cls ≠ "java/lang/invoke/VarHandle" ∧ (parseMethodDescriptor yJ6_bitCount_0f7a4.desc).map (fun d => d.parameters.length) = some 1 := by decide +kernel
theorem hd_X0_lowestOf : yX0_lowestOf.cls ≠ "java/lang/invoke/MethodHandle" ∧ yX0_lowestOf.cls ≠ "java/lang/invoke/VarHandle" ∧ (parseMethodDescriptor yX0_lowestOf.desc).map (fun d => d.parameters.length) = some 1 := by decide +kernel
theorem hd_X0_canSit : yX0_canSit.cls ≠ "java/lang/invoke/MethodHandle" ∧ yX0_canSit.cls ≠ "java/lang/invoke/VarHandle" ∧ (parseMethodDescriptor yX0_canSit.desc).map (fun d => d.parameters.length) = some 2 := by decide +kernel
theorem hd_X0_worthWith : yX0_worthWith.cls ≠ "java/lang/invoke/MethodHandle" ∧ yX0_worthWith.cls ≠ "java/lang/invoke/VarHandle" ∧ (parseMethodDescriptor yX0_worthWith.desc).map (fun d => d.parameters.length) = some 4 := by decide +kernel
theorem hd_X0_pieceOf : yX0_pieceOf.cls ≠ "java/lang/invoke/MethodHandle" ∧ yX0_pieceOf.cls ≠ "java/lang/invoke/VarHandle" ∧ (parseMethodDescriptor yX0_pieceOf.desc).map (fun d => d.parameters.length) = some 2 := by decide +kernel
theorem hd_X0_twosOf : yX0_twosOf.cls ≠ "java/lang/invoke/MethodHandle" ∧ yX0_twosOf.cls ≠ "java/lang/invoke/VarHandle" ∧ (parseMethodDescriptor yX0_twosOf.desc).map (fun d => d.parameters.length) = some 1 := by decide +kernel
theorem hd_X0_countPieces : yX0_countPieces.cls ≠ "java/lang/invoke/MethodHandle" ∧ yX0_countPieces.cls ≠ "java/lang/invoke/VarHandle" ∧ (parseMethodDescriptor yX0_countPieces.desc).map (fun d => d.parameters.length) = some 2 := by decide +kernel
theorem hd_X0_opposeAllOf : yX0_opposeAllOf.cls ≠ "java/lang/invoke/MethodHandle" ∧ yX0_opposeAllOf.cls ≠ "java/lang/invoke/VarHandle" ∧ (parseMethodDescriptor yX0_opposeAllOf.desc).map (fun d => d.parameters.length) = some 2 := by decide +kernel
theorem hd_X0_firstPartner : yX0_firstPartner.cls ≠ "java/lang/invoke/MethodHandle" ∧ yX0_firstPartner.cls ≠ "java/lang/invoke/VarHandle" ∧ (parseMethodDescriptor yX0_firstPartner.desc).map (fun d => d.parameters.length) = some 3 := by decide +kernel
theorem hd_J7_fill_d0a16 : yJ7_fill_d0a16.cls ≠ "java/lang/invoke/MethodHandle" ∧ yJ7_fill_d0a16.cls ≠ "java/lang/invoke/VarHandle" ∧ (parseMethodDescriptor yJ7_fill_d0a16.desc).map (fun d => d.parameters.length) = some 2 := by decide +kernel
theorem hd_X4_joined : yX4_joined.cls ≠ "java/lang/invoke/MethodHandle" ∧ yX4_joined.cls ≠ "java/lang/invoke/VarHandle" ∧ (parseMethodDescriptor yX4_joined.desc).map (fun d => d.parameters.length) = some 3 := by decide +kernel
theorem hd_X4_valueFor : yX4_valueFor.cls ≠ "java/lang/invoke/MethodHandle" ∧ yX4_valueFor.cls ≠ "java/lang/invoke/VarHandle" ∧ (parseMethodDescriptor yX4_valueFor.desc).map (fun d => d.parameters.length) = some 2 := by decide +kernel
theorem hd_X6_opposesOneWay : yX6_opposesOneWay.cls ≠ "java/lang/invoke/MethodHandle" ∧ yX6_opposesOneWay.cls ≠ "java/lang/invoke/VarHandle" ∧ (parseMethodDescriptor yX6_opposesOneWay.desc).map (fun d => d.parameters.length) = some 5 := by decide +kernel
