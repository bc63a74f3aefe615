theorem wm_2_99 : Cond.fieldLink RX11 13 "OppositeHouse" "tapeLength" "I" ∈ WG := wg_t2 (List.mem_of_getElem? (i := 99) rfl) rfl
theorem wm_2_98 : Cond.fieldLink RX11 9 "OppositeHouse" "tape" "[B" ∈ WG := wg_t2 (List.mem_of_getElem? (i := 98) rfl) rfl
theorem wm_2_154 : Cond.methodLink RX11 101 yX11_putOnTape ∈ WG := wg_t2 (List.mem_of_getElem? (i := 154) rfl) rfl
theorem wm_2_157 : Cond.code yX11_putOnTape cX11_putOnTape 3 none ∈ WG := wg_t2 (List.mem_of_getElem? (i := 157) rfl) rfl
theorem wm_1_1 : Cond.initialized RX11 ∈ WG := wg_t1 (List.mem_of_getElem? (i := 1) rfl) rfl
theorem wm_2_156 : Cond.instanceMethod yX11_putOnTape ∈ WG := wg_t2 (List.mem_of_getElem? (i := 156) rfl) rfl
theorem wp_1_0 : Cond.selects RX11 yX11_putOnTape yX11_putOnTape ∈ WG := wg_p (q := (yX11_putOnTape, 17)) (wg_p1 (List.mem_of_getElem? (i := 0) rfl)) rfl
theorem wm_2_101 : Cond.fieldLink RX11 20 "OppositeHouse" "faultPlace" "I" ∈ WG := wg_t2 (List.mem_of_getElem? (i := 101) rfl) rfl
theorem wm_2_100 : Cond.fieldLink RX11 17 "OppositeHouse" "faultKind" "I" ∈ WG := wg_t2 (List.mem_of_getElem? (i := 100) rfl) rfl
theorem wm_2_103 : Cond.fieldLink RX11 83 "OppositeHouse" "now" "LOppositeHouse$State;" ∈ WG := wg_t2 (List.mem_of_getElem? (i := 103) rfl) rfl
theorem wm_2_42 : Cond.fieldLink RX11 126 "OppositeHouse$State" "house" "LOppositeHouse$House;" ∈ WG := wg_t2 (List.mem_of_getElem? (i := 42) rfl) rfl
theorem wm_1_85 : Cond.fieldLink RX11 159 "OppositeHouse$House" "people" "I" ∈ WG := wg_t1 (List.mem_of_getElem? (i := 85) rfl) rfl
theorem wm_3_174 : Cond.methodLink RX11 122 yX11_isPerson ∈ WG := wg_t3 (List.mem_of_getElem? (i := 174) rfl) rfl
theorem wm_3_177 : Cond.code yX11_isPerson cX11_isPerson 2 (some .boolean) ∈ WG := wg_t3 (List.mem_of_getElem? (i := 177) rfl) rfl
theorem wm_3_176 : Cond.instanceMethod yX11_isPerson ∈ WG := wg_t3 (List.mem_of_getElem? (i := 176) rfl) rfl
theorem wp_2_8 : Cond.selects RX11 yX11_isPerson yX11_isPerson ∈ WG := wg_p (q := (yX11_isPerson, 17)) (wg_p2 (List.mem_of_getElem? (i := 8) rfl)) rfl
theorem wm_2_54 : Cond.fieldLink RX11 130 "OppositeHouse$State" "views" "[I" ∈ WG := wg_t2 (List.mem_of_getElem? (i := 54) rfl) rfl
theorem wm_1_107 : Cond.fieldLink RX11 134 "OppositeHouse$House" "first" "[I" ∈ WG := wg_t1 (List.mem_of_getElem? (i := 107) rfl) rfl
theorem wm_1_111 : Cond.fieldLink RX11 137 "OppositeHouse$House" "last" "[I" ∈ WG := wg_t1 (List.mem_of_getElem? (i := 111) rfl) rfl
theorem wm_3_178 : Cond.methodLink RX11 140 yJ9_min_7cf53 ∈ WG := wg_t3 (List.mem_of_getElem? (i := 178) rfl) rfl
theorem wm_2_171 : Cond.static yJ9_min_7cf53 ∈ WG := wg_t2 (List.mem_of_getElem? (i := 171) rfl) rfl
theorem wm_1_13 : Cond.initialized RJ9 ∈ WG := wg_t1 (List.mem_of_getElem? (i := 13) rfl) rfl
theorem wm_2_172 : Cond.code yJ9_min_7cf53 cJ9_min_7cf53 2 (some .int) ∈ WG := wg_t2 (List.mem_of_getElem? (i := 172) rfl) rfl
theorem wm_1_114 : Cond.fieldLink RX11 146 "OppositeHouse$House" "temper" "[I" ∈ WG := wg_t1 (List.mem_of_getElem? (i := 114) rfl) rfl
theorem wm_1_117 : Cond.fieldLink RX11 149 "OppositeHouse$House" "weight" "[I" ∈ WG := wg_t1 (List.mem_of_getElem? (i := 117) rfl) rfl
theorem wm_2_49 : Cond.fieldLink RX11 152 "OppositeHouse$State" "away" "I" ∈ WG := wg_t2 (List.mem_of_getElem? (i := 49) rfl) rfl
theorem wm_2_43 : Cond.fieldLink RX7 9 "OppositeHouse$State" "day" "I" ∈ WG := wg_t2 (List.mem_of_getElem? (i := 43) rfl) rfl
theorem wm_2_37 : Cond.fieldLink RX7 22 "OppositeHouse$State" "house" "LOppositeHouse$House;" ∈ WG := wg_t2 (List.mem_of_getElem? (i := 37) rfl) rfl
theorem wm_1_83 : Cond.fieldLink RX7 42 "OppositeHouse$House" "people" "I" ∈ WG := wg_t1 (List.mem_of_getElem? (i := 83) rfl) rfl
theorem wm_1_106 : Cond.fieldLink RX7 45 "OppositeHouse$House" "first" "[I" ∈ WG := wg_t1 (List.mem_of_getElem? (i := 106) rfl) rfl
theorem wm_1_110 : Cond.fieldLink RX7 48 "OppositeHouse$House" "last" "[I" ∈ WG := wg_t1 (List.mem_of_getElem? (i := 110) rfl) rfl
theorem wm_2_48 : Cond.fieldLink RX7 15 "OppositeHouse$State" "away" "I" ∈ WG := wg_t2 (List.mem_of_getElem? (i := 48) rfl) rfl
theorem wm_3_183 : Cond.methodLink RX7 38 yX7_inTownOn ∈ WG := wg_t3 (List.mem_of_getElem? (i := 183) rfl) rfl
theorem wm_3_186 : Cond.code yX7_inTownOn cX7_inTownOn 4 (some .int) ∈ WG := wg_t3 (List.mem_of_getElem? (i := 186) rfl) rfl
theorem wm_1_9 : Cond.initialized RX7 ∈ WG := wg_t1 (List.mem_of_getElem? (i := 9) rfl) rfl
theorem wm_3_184 : Cond.instanceMethod yX7_inTownOn ∈ WG := wg_t3 (List.mem_of_getElem? (i := 184) rfl) rfl
theorem wm_3_185 : Cond.selects RX7 yX7_inTownOn yX7_inTownOn ∈ WG := wg_t3 (List.mem_of_getElem? (i := 185) rfl) rfl
theorem wm_3_179 : Cond.methodLink RX11 155 yX7_inTown ∈ WG := wg_t3 (List.mem_of_getElem? (i := 179) rfl) rfl
theorem wm_3_182 : Cond.code yX7_inTown cX7_inTown 1 (some .int) ∈ WG := wg_t3 (List.mem_of_getElem? (i := 182) rfl) rfl
theorem wm_3_180 : Cond.instanceMethod yX7_inTown ∈ WG := wg_t3 (List.mem_of_getElem? (i := 180) rfl) rfl
theorem wm_3_181 : Cond.selects RX7 yX7_inTown yX7_inTown ∈ WG := wg_t3 (List.mem_of_getElem? (i := 181) rfl) rfl
theorem wm_2_47 : Cond.fieldLink RX11 165 "OppositeHouse$State" "day" "I" ∈ WG := wg_t2 (List.mem_of_getElem? (i := 47) rfl) rfl
theorem wm_3_191 : Cond.methodLink RX11 168 yX7_inTownOn ∈ WG := wg_t3 (List.mem_of_getElem? (i := 191) rfl) rfl
theorem wm_2_110 : Cond.fieldLink RX11 49 "OppositeHouse" "scales" "LOppositeHouse$Scales;" ∈ WG := wg_t2 (List.mem_of_getElem? (i := 110) rfl) rfl
theorem wm_2_41 : Cond.fieldLink RX6 28 "OppositeHouse$State" "house" "LOppositeHouse$House;" ∈ WG := wg_t2 (List.mem_of_getElem? (i := 41) rfl) rfl
theorem wm_1_94 : Cond.fieldLink RX6 34 "OppositeHouse$House" "opposing" "LOppositeHouse$Law;" ∈ WG := wg_t1 (List.mem_of_getElem? (i := 94) rfl) rfl
theorem wm_2_53 : Cond.fieldLink RX6 40 "OppositeHouse$State" "views" "[I" ∈ WG := wg_t2 (List.mem_of_getElem? (i := 53) rfl) rfl
theorem wm_3_196 : Cond.methodLink RX11 172 yX6_areOpposites ∈ WG := wg_t3 (List.mem_of_getElem? (i := 196) rfl) rfl
theorem wm_3_199 : Cond.code yX6_areOpposites cX6_areOpposites 8 (some .boolean) ∈ WG := wg_t3 (List.mem_of_getElem? (i := 199) rfl) rfl
theorem wm_1_5 : Cond.initialized RX6 ∈ WG := wg_t1 (List.mem_of_getElem? (i := 5) rfl) rfl
theorem wm_3_197 : Cond.instanceMethod yX6_areOpposites ∈ WG := wg_t3 (List.mem_of_getElem? (i := 197) rfl) rfl
theorem wm_3_198 : Cond.selects RX6 yX6_areOpposites yX6_areOpposites ∈ WG := wg_t3 (List.mem_of_getElem? (i := 198) rfl) rfl
theorem wm_1_184 : Cond.fieldLink RX6 9 "OppositeHouse$Scales" "given" "[I" ∈ WG := wg_t1 (List.mem_of_getElem? (i := 184) rfl) rfl
theorem wm_3_204 : Cond.methodLink RX6 18 yX6_put ∈ WG := wg_t3 (List.mem_of_getElem? (i := 204) rfl) rfl
theorem wm_3_207 : Cond.code yX6_put cX6_put 4 none ∈ WG := wg_t3 (List.mem_of_getElem? (i := 207) rfl) rfl
theorem wm_3_206 : Cond.instanceMethod yX6_put ∈ WG := wg_t3 (List.mem_of_getElem? (i := 206) rfl) rfl
theorem wp_2_10 : Cond.selects RX6 yX6_put yX6_put ∈ WG := wg_p (q := (yX6_put, 2)) (wg_p2 (List.mem_of_getElem? (i := 10) rfl)) rfl
theorem wm_1_185 : Cond.fieldLink RX6 15 "OppositeHouse$Scales" "held" "[I" ∈ WG := wg_t1 (List.mem_of_getElem? (i := 185) rfl) rfl
theorem wm_3_153 : Cond.fieldLink RX4 15 "OppositeHouse$Law" "steps" "[I" ∈ WG := wg_t3 (List.mem_of_getElem? (i := 153) rfl) rfl
theorem wm_3_215 : Cond.constantLong RX4 25 (-1000000) ∈ WG := wg_t3 (List.mem_of_getElem? (i := 215) rfl) rfl
theorem wm_3_216 : Cond.constantLong RX4 27 (1000000) ∈ WG := wg_t3 (List.mem_of_getElem? (i := 216) rfl) rfl
theorem wm_3_217 : Cond.methodLink RX4 29 yJ9_min_f86c9 ∈ WG := wg_t3 (List.mem_of_getElem? (i := 217) rfl) rfl
theorem wm_3_218 : Cond.static yJ9_min_f86c9 ∈ WG := wg_t3 (List.mem_of_getElem? (i := 218) rfl) rfl
theorem wm_3_219 : Cond.code yJ9_min_f86c9 cJ9_min_f86c9 4 (some .long) ∈ WG := wg_t3 (List.mem_of_getElem? (i := 219) rfl) rfl
theorem wm_3_220 : Cond.methodLink RX4 35 yJ9_max_f86c9 ∈ WG := wg_t3 (List.mem_of_getElem? (i := 220) rfl) rfl
theorem wm_3_221 : Cond.static yJ9_max_f86c9 ∈ WG := wg_t3 (List.mem_of_getElem? (i := 221) rfl) rfl
theorem wm_3_222 : Cond.code yJ9_max_f86c9 cJ9_max_f86c9 4 (some .long) ∈ WG := wg_t3 (List.mem_of_getElem? (i := 222) rfl) rfl
theorem wm_3_212 : Cond.methodLink RX4 21 yX4_joined ∈ WG := wg_t3 (List.mem_of_getElem? (i := 212) rfl) rfl
theorem wm_3_214 : Cond.code yX4_joined cX4_joined 5 (some .int) ∈ WG := wg_t3 (List.mem_of_getElem? (i := 214) rfl) rfl
theorem wm_1_19 : Cond.initialized RX4 ∈ WG := wg_t1 (List.mem_of_getElem? (i := 19) rfl) rfl
theorem wm_3_213 : Cond.static yX4_joined ∈ WG := wg_t3 (List.mem_of_getElem? (i := 213) rfl) rfl
theorem wm_3_208 : Cond.methodLink RX6 22 yX4_valueFor ∈ WG := wg_t3 (List.mem_of_getElem? (i := 208) rfl) rfl
theorem wm_3_211 : Cond.code yX4_valueFor cX4_valueFor 7 (some .int) ∈ WG := wg_t3 (List.mem_of_getElem? (i := 211) rfl) rfl
theorem wm_3_209 : Cond.instanceMethod yX4_valueFor ∈ WG := wg_t3 (List.mem_of_getElem? (i := 209) rfl) rfl
theorem wm_3_210 : Cond.selects RX4 yX4_valueFor yX4_valueFor ∈ WG := wg_t3 (List.mem_of_getElem? (i := 210) rfl) rfl
theorem wm_3_200 : Cond.methodLink RX6 43 yX6_opposesOneWay ∈ WG := wg_t3 (List.mem_of_getElem? (i := 200) rfl) rfl
theorem wm_3_203 : Cond.code yX6_opposesOneWay cX6_opposesOneWay 6 (some .boolean) ∈ WG := wg_t3 (List.mem_of_getElem? (i := 203) rfl) rfl
theorem wm_3_202 : Cond.instanceMethod yX6_opposesOneWay ∈ WG := wg_t3 (List.mem_of_getElem? (i := 202) rfl) rfl
theorem wp_2_9 : Cond.selects RX6 yX6_opposesOneWay yX6_opposesOneWay ∈ WG := wg_p (q := (yX6_opposesOneWay, 2)) (wg_p2 (List.mem_of_getElem? (i := 9) rfl)) rfl
theorem wm_1_84 : Cond.fieldLink RX6 47 "OppositeHouse$House" "people" "I" ∈ WG := wg_t1 (List.mem_of_getElem? (i := 84) rfl) rfl
theorem wm_3_231 : Cond.methodLink RX6 51 yX6_areOpposites ∈ WG := wg_t3 (List.mem_of_getElem? (i := 231) rfl) rfl
theorem wm_3_227 : Cond.methodLink RX11 176 yX6_rowOf ∈ WG := wg_t3 (List.mem_of_getElem? (i := 227) rfl) rfl
theorem wm_3_230 : Cond.code yX6_rowOf cX6_rowOf 7 (some .int) ∈ WG := wg_t3 (List.mem_of_getElem? (i := 230) rfl) rfl
theorem wm_3_228 : Cond.instanceMethod yX6_rowOf ∈ WG := wg_t3 (List.mem_of_getElem? (i := 228) rfl) rfl
theorem wm_3_229 : Cond.selects RX6 yX6_rowOf yX6_rowOf ∈ WG := wg_t3 (List.mem_of_getElem? (i := 229) rfl) rfl
theorem wm_4_141 : Cond.methodLink RX11 162 yX11_everybody ∈ WG := wg_t4 (List.mem_of_getElem? (i := 141) rfl) rfl
theorem wm_4_144 : Cond.code yX11_everybody cX11_everybody 1 (some .int) ∈ WG := wg_t4 (List.mem_of_getElem? (i := 144) rfl) rfl
theorem wm_4_143 : Cond.instanceMethod yX11_everybody ∈ WG := wg_t4 (List.mem_of_getElem? (i := 143) rfl) rfl
theorem wp_3_4 : Cond.selects RX11 yX11_everybody yX11_everybody ∈ WG := wg_p (q := (yX11_everybody, 17)) (wg_p3 (List.mem_of_getElem? (i := 4) rfl)) rfl
theorem wm_4_137 : Cond.methodLink RX11 257 yX11_isSet ∈ WG := wg_t4 (List.mem_of_getElem? (i := 137) rfl) rfl
theorem wm_4_140 : Cond.code yX11_isSet cX11_isSet 2 (some .boolean) ∈ WG := wg_t4 (List.mem_of_getElem? (i := 140) rfl) rfl
theorem wm_4_139 : Cond.instanceMethod yX11_isSet ∈ WG := wg_t4 (List.mem_of_getElem? (i := 139) rfl) rfl
theorem wp_3_3 : Cond.selects RX11 yX11_isSet yX11_isSet ∈ WG := wg_p (q := (yX11_isSet, 17)) (wg_p3 (List.mem_of_getElem? (i := 3) rfl)) rfl
theorem wm_2_111 : Cond.fieldLink RX11 56 "OppositeHouse" "circle" "LOppositeHouse$Circle;" ∈ WG := wg_t2 (List.mem_of_getElem? (i := 111) rfl) rfl
theorem wm_2_38 : Cond.fieldLink RX0 25 "OppositeHouse$State" "house" "LOppositeHouse$House;" ∈ WG := wg_t2 (List.mem_of_getElem? (i := 38) rfl) rfl
theorem wm_1_80 : Cond.fieldLink RX0 31 "OppositeHouse$House" "people" "I" ∈ WG := wg_t1 (List.mem_of_getElem? (i := 80) rfl) rfl
theorem wm_1_198 : Cond.fieldLink RX0 9 "OppositeHouse$Circle" "people" "I" ∈ WG := wg_t1 (List.mem_of_getElem? (i := 198) rfl) rfl
theorem wm_1_199 : Cond.fieldLink RX0 15 "OppositeHouse$Circle" "rows" "[I" ∈ WG := wg_t1 (List.mem_of_getElem? (i := 199) rfl) rfl
theorem wm_4_105 : Cond.methodLink RX0 34 yJ7_fill_53178 ∈ WG := wg_t4 (List.mem_of_getElem? (i := 105) rfl) rfl
theorem wm_4_107 : Cond.code yJ7_fill_53178 cJ7_fill_53178 4 none ∈ WG := wg_t4 (List.mem_of_getElem? (i := 107) rfl) rfl
theorem wm_1_20 : Cond.initialized RJ7 ∈ WG := wg_t1 (List.mem_of_getElem? (i := 20) rfl) rfl
theorem wm_4_106 : Cond.static yJ7_fill_53178 ∈ WG := wg_t4 (List.mem_of_getElem? (i := 106) rfl) rfl
theorem wm_2_52 : Cond.fieldLink RX0 40 "OppositeHouse$State" "views" "[I" ∈ WG := wg_t2 (List.mem_of_getElem? (i := 52) rfl) rfl
theorem wm_4_108 : Cond.methodLink RX0 43 yX6_areOpposites ∈ WG := wg_t4 (List.mem_of_getElem? (i := 108) rfl) rfl
theorem wm_4_101 : Cond.methodLink RX11 243 yX0_draw ∈ WG := wg_t4 (List.mem_of_getElem? (i := 101) rfl) rfl
theorem wm_4_104 : Cond.code yX0_draw cX0_draw 6 none ∈ WG := wg_t4 (List.mem_of_getElem? (i := 104) rfl) rfl
theorem wm_1_6 : Cond.initialized RX0 ∈ WG := wg_t1 (List.mem_of_getElem? (i := 6) rfl) rfl
theorem wm_4_102 : Cond.instanceMethod yX0_draw ∈ WG := wg_t4 (List.mem_of_getElem? (i := 102) rfl) rfl
theorem wm_4_103 : Cond.selects RX0 yX0_draw yX0_draw ∈ WG := wg_t4 (List.mem_of_getElem? (i := 103) rfl) rfl
theorem wm_4_145 : Cond.methodLink RX11 260 yX11_drawToday ∈ WG := wg_t4 (List.mem_of_getElem? (i := 145) rfl) rfl
theorem wm_4_148 : Cond.code yX11_drawToday cX11_drawToday 1 none ∈ WG := wg_t4 (List.mem_of_getElem? (i := 148) rfl) rfl
theorem wm_4_147 : Cond.instanceMethod yX11_drawToday ∈ WG := wg_t4 (List.mem_of_getElem? (i := 147) rfl) rfl
theorem wp_3_5 : Cond.selects RX11 yX11_drawToday yX11_drawToday ∈ WG := wg_p (q := (yX11_drawToday, 17)) (wg_p3 (List.mem_of_getElem? (i := 5) rfl)) rfl
theorem wm_4_60 : Cond.constant RJ6 265 (1431655765) ∈ WG := wg_t4 (List.mem_of_getElem? (i := 60) rfl) rfl
theorem wm_4_61 : Cond.constant RJ6 266 (858993459) ∈ WG := wg_t4 (List.mem_of_getElem? (i := 61) rfl) rfl
theorem wm_4_62 : Cond.constant RJ6 267 (252645135) ∈ WG := wg_t4 (List.mem_of_getElem? (i := 62) rfl) rfl
theorem wm_4_116 : Cond.methodLink RX0 49 yJ6_bitCount_0f7a4 ∈ WG := wg_t4 (List.mem_of_getElem? (i := 116) rfl) rfl
theorem wm_4_59 : Cond.code yJ6_bitCount_0f7a4 cJ6_bitCount_0f7a4 1 (some .int) ∈ WG := wg_t4 (List.mem_of_getElem? (i := 59) rfl) rfl
theorem wm_1_22 : Cond.initialized RJ6 ∈ WG := wg_t1 (List.mem_of_getElem? (i := 22) rfl) rfl
theorem wm_4_58 : Cond.static yJ6_bitCount_0f7a4 ∈ WG := wg_t4 (List.mem_of_getElem? (i := 58) rfl) rfl
theorem wm_4_113 : Cond.methodLink RX0 55 yX0_lowestOf ∈ WG := wg_t4 (List.mem_of_getElem? (i := 113) rfl) rfl
theorem wm_4_115 : Cond.code yX0_lowestOf cX0_lowestOf 1 (some .int) ∈ WG := wg_t4 (List.mem_of_getElem? (i := 115) rfl) rfl
theorem wm_4_114 : Cond.static yX0_lowestOf ∈ WG := wg_t4 (List.mem_of_getElem? (i := 114) rfl) rfl
theorem wm_4_117 : Cond.methodLink RX0 58 yX0_canSit ∈ WG := wg_t4 (List.mem_of_getElem? (i := 117) rfl) rfl
theorem wm_4_112 : Cond.code yX0_canSit cX0_canSit 6 (some .boolean) ∈ WG := wg_t4 (List.mem_of_getElem? (i := 112) rfl) rfl
theorem wm_4_110 : Cond.instanceMethod yX0_canSit ∈ WG := wg_t4 (List.mem_of_getElem? (i := 110) rfl) rfl
theorem wm_4_111 : Cond.selects RX0 yX0_canSit yX0_canSit ∈ WG := wg_t4 (List.mem_of_getElem? (i := 111) rfl) rfl
theorem wm_4_109 : Cond.methodLink RX11 247 yX0_canSit ∈ WG := wg_t4 (List.mem_of_getElem? (i := 109) rfl) rfl
theorem wm_1_203 : Cond.fieldLink RX0 22 "OppositeHouse$Circle" "worth" "[I" ∈ WG := wg_t1 (List.mem_of_getElem? (i := 203) rfl) rfl
theorem wf_0 : ∀ w ∈ u_ws RX0 TX0 4, w ∈ WG := by
  intro w hw
  obtain ⟨k, hk, rfl⟩ := List.mem_map.mp hw
  have hk := List.mem_range.mp hk
  match k, hk with
  | 0, _ => exact wg_t1 (List.mem_of_getElem? (i := 204) rfl) rfl
  | 1, _ => exact wg_t1 (List.mem_of_getElem? (i := 206) rfl) rfl
  | 2, _ => exact wg_t1 (List.mem_of_getElem? (i := 208) rfl) rfl
  | 3, _ => exact wg_t1 (List.mem_of_getElem? (i := 210) rfl) rfl
  | n + 4, hk => exact absurd hk (by omega)
theorem wf_3 : ∀ w ∈ u_ws RX3 TX3 12, w ∈ WG := by
  intro w hw
  obtain ⟨k, hk, rfl⟩ := List.mem_map.mp hw
  have hk := List.mem_range.mp hk
  match k, hk with
  | 0, _ => exact wg_t1 (List.mem_of_getElem? (i := 119) rfl) rfl
  | 1, _ => exact wg_t1 (List.mem_of_getElem? (i := 121) rfl) rfl
  | 2, _ => exact wg_t1 (List.mem_of_getElem? (i := 123) rfl) rfl
  | 3, _ => exact wg_t1 (List.mem_of_getElem? (i := 125) rfl) rfl
  | 4, _ => exact wg_t1 (List.mem_of_getElem? (i := 127) rfl) rfl
  | 5, _ => exact wg_t1 (List.mem_of_getElem? (i := 129) rfl) rfl
  | 6, _ => exact wg_t1 (List.mem_of_getElem? (i := 131) rfl) rfl
  | 7, _ => exact wg_t1 (List.mem_of_getElem? (i := 133) rfl) rfl
  | 8, _ => exact wg_t1 (List.mem_of_getElem? (i := 135) rfl) rfl
  | 9, _ => exact wg_t1 (List.mem_of_getElem? (i := 137) rfl) rfl
  | 10, _ => exact wg_t1 (List.mem_of_getElem? (i := 139) rfl) rfl
  | 11, _ => exact wg_t1 (List.mem_of_getElem? (i := 141) rfl) rfl
  | n + 12, hk => exact absurd hk (by omega)
theorem wf_4 : ∀ w ∈ u_ws RX4 TX4 1, w ∈ WG := by
  intro w hw
  obtain ⟨k, hk, rfl⟩ := List.mem_map.mp hw
  have hk := List.mem_range.mp hk
  match k, hk with
  | 0, _ => exact wg_t3 (List.mem_of_getElem? (i := 154) rfl) rfl
  | n + 1, hk => exact absurd hk (by omega)
theorem wf_6 : ∀ w ∈ u_ws RX6 TX6 2, w ∈ WG := by
  intro w hw
  obtain ⟨k, hk, rfl⟩ := List.mem_map.mp hw
  have hk := List.mem_range.mp hk
  match k, hk with
  | 0, _ => exact wg_t1 (List.mem_of_getElem? (i := 186) rfl) rfl
  | 1, _ => exact wg_t1 (List.mem_of_getElem? (i := 188) rfl) rfl
  | n + 2, hk => exact absurd hk (by omega)
theorem wf_7 : ∀ w ∈ u_ws RX7 TX7 4, w ∈ WG := by
  intro w hw
  obtain ⟨k, hk, rfl⟩ := List.mem_map.mp hw
  have hk := List.mem_range.mp hk
  match k, hk with
  | 0, _ => exact wg_t2 (List.mem_of_getElem? (i := 55) rfl) rfl
  | 1, _ => exact wg_t2 (List.mem_of_getElem? (i := 57) rfl) rfl
  | 2, _ => exact wg_t2 (List.mem_of_getElem? (i := 59) rfl) rfl
  | 3, _ => exact wg_t2 (List.mem_of_getElem? (i := 61) rfl) rfl
  | n + 4, hk => exact absurd hk (by omega)
theorem wf_11 : ∀ w ∈ u_ws RX11 TX11 17, w ∈ WG := by
  intro w hw
  obtain ⟨k, hk, rfl⟩ := List.mem_map.mp hw
  have hk := List.mem_range.mp hk
  match k, hk with
  | 0, _ => exact wg_t2 (List.mem_of_getElem? (i := 115) rfl) rfl
  | 1, _ => exact wg_t2 (List.mem_of_getElem? (i := 117) rfl) rfl
  | 2, _ => exact wg_t2 (List.mem_of_getElem? (i := 119) rfl) rfl
  | 3, _ => exact wg_t2 (List.mem_of_getElem? (i := 121) rfl) rfl
  | 4, _ => exact wg_t2 (List.mem_of_getElem? (i := 123) rfl) rfl
  | 5, _ => exact wg_t2 (List.mem_of_getElem? (i := 125) rfl) rfl
  | 6, _ => exact wg_t2 (List.mem_of_getElem? (i := 127) rfl) rfl
  | 7, _ => exact wg_t2 (List.mem_of_getElem? (i := 129) rfl) rfl
  | 8, _ => exact wg_t2 (List.mem_of_getElem? (i := 131) rfl) rfl
  | 9, _ => exact wg_t2 (List.mem_of_getElem? (i := 133) rfl) rfl
  | 10, _ => exact wg_t2 (List.mem_of_getElem? (i := 135) rfl) rfl
  | 11, _ => exact wg_t2 (List.mem_of_getElem? (i := 137) rfl) rfl
  | 12, _ => exact wg_t2 (List.mem_of_getElem? (i := 139) rfl) rfl
  | 13, _ => exact wg_t2 (List.mem_of_getElem? (i := 141) rfl) rfl
  | 14, _ => exact wg_t2 (List.mem_of_getElem? (i := 143) rfl) rfl
  | 15, _ => exact wg_t2 (List.mem_of_getElem? (i := 145) rfl) rfl
  | 16, _ => exact wg_t2 (List.mem_of_getElem? (i := 147) rfl) rfl
  | n + 17, hk => exact absurd hk (by omega)
theorem hd_X11_putOnTape : yX11_putOnTape.cls ≠ "java/lang/invoke/MethodHandle" ∧ yX11_putOnTape.cls ≠ "java/lang/invoke/VarHandle" ∧ (parseMethodDescriptor yX11_putOnTape.desc).map (fun d => d.parameters.length) = some 1 := by decide +kernel
theorem hd_X11_isPerson : yX11_isPerson.cls ≠ "java/lang/invoke/MethodHandle" ∧ yX11_isPerson.cls ≠ "java/lang/invoke/VarHandle" ∧ (parseMethodDescriptor yX11_isPerson.desc).map (fun d => d.parameters.length) = some 1 := by decide +kernel
theorem hd_X7_inTownOn : yX7_inTownOn.cls ≠ "java/lang/invoke/MethodHandle" ∧ yX7_inTownOn.cls ≠ "java/lang/invoke/VarHandle" ∧ (parseMethodDescriptor yX7_inTownOn.desc).map (fun d => d.parameters.length) = some 1 := by decide +kernel
theorem hd_X7_inTown : yX7_inTown.cls ≠ "java/lang/invoke/MethodHandle" ∧ yX7_inTown.cls ≠ "java/lang/invoke/VarHandle" ∧ (parseMethodDescriptor yX7_inTown.desc).map (fun d => d.parameters.length) = some 0 := by decide +kernel
theorem hd_X6_areOpposites : yX6_areOpposites.cls ≠ "java/lang/invoke/MethodHandle" ∧ yX6_areOpposites.cls ≠ "java/lang/invoke/VarHandle" ∧ (parseMethodDescriptor yX6_areOpposites.desc).map (fun d => d.parameters.length) = some 5 := by decide +kernel
theorem hd_X6_put : yX6_put.cls ≠ "java/lang/invoke/MethodHandle" ∧ yX6_put.cls ≠ "java/lang/invoke/VarHandle" ∧ (parseMethodDescriptor yX6_put.desc).map (fun d => d.parameters.length) = some 3 := by decide +kernel
theorem hd_X4_joined : yX4_joined.cls ≠ "java/lang/invoke/MethodHandle" ∧ yX4_joined.cls ≠ "java/lang/invoke/VarHandle" ∧ (parseMethodDescriptor yX4_joined.desc).map (fun d => d.parameters.length) = some 3 := by decide +kernel
theorem hd_X4_valueFor : yX4_valueFor.cls ≠ "java/lang/invoke/MethodHandle" ∧ yX4_valueFor.cls ≠ "java/lang/invoke/VarHandle" ∧ (parseMethodDescriptor yX4_valueFor.desc).map (fun d => d.parameters.length) = some 2 := by decide +kernel
theorem hd_X6_opposesOneWay : yX6_opposesOneWay.cls ≠ "java/lang/invoke/MethodHandle" ∧ yX6_opposesOneWay.cls ≠ "java/lang/invoke/VarHandle" ∧ (parseMethodDescriptor yX6_opposesOneWay.desc).map (fun d => d.parameters.length) = some 5 := by decide +kernel
theorem hd_X6_rowOf : yX6_rowOf.cls ≠ "java/lang/invoke/MethodHandle" ∧ yX6_rowOf.cls ≠ "java/lang/invoke/VarHandle" ∧ (parseMethodDescriptor yX6_rowOf.desc).map (fun d => d.parameters.length) = some 4 := by decide +kernel
theorem hd_X11_everybody : yX11_everybody.cls ≠ "java/lang/invoke/MethodHandle" ∧ yX11_everybody.cls ≠ "java/lang/invoke/VarHandle" ∧ (parseMethodDescriptor yX11_everybody.desc).map (fun d => d.parameters.length) = some 0 := by decide +kernel
theorem hd_X11_isSet : yX11_isSet.cls ≠ "java/lang/invoke/MethodHandle" ∧ yX11_isSet.cls ≠ "java/lang/invoke/VarHandle" ∧ (parseMethodDescriptor yX11_isSet.desc).map (fun d => d.parameters.length) = some 1 := by decide +kernel
theorem hd_J7_fill_53178 : yJ7_fill_53178.cls ≠ "java/lang/invoke/MethodHandle" ∧ yJ7_fill_53178.cls ≠ "java/lang/invoke/VarHandle" ∧ (parseMethodDescriptor yJ7_fill_53178.desc).map (fun d => d.parameters.length) = some 2 := by decide +kernel
theorem hd_X0_draw : yX0_draw.cls ≠ "java/lang/invoke/MethodHandle" ∧ yX0_draw.cls ≠ "java/lang/invoke/VarHandle" ∧ (parseMethodDescriptor yX0_draw.desc).map (fun d => d.parameters.length) = some 3 := by decide +kernel
theorem hd_X11_drawToday : yX11_drawToday.cls ≠ "java/lang/invoke/MethodHandle" ∧ yX11_drawToday.cls ≠ "java/lang/invoke/VarHandle" ∧ (parseMethodDescriptor yX11_drawToday.desc).map (fun d => d.parameters.length) = some 0 := by decide +kernel
theorem hd_J6_bitCount_0f7a4 : yJ6_bitCount_0f7a4.cls ≠ "java/lang/invoke/MethodHandle" ∧ yJ6_bitCount_0f7a4.cls ≠ "java/lang/invoke/VarHandle" ∧ (parseMethodDescriptor yJ6_bitCount_0f7a4.desc).map (fun d => d.parameters.length) = some 1 := by decide +kernel
theorem hd_X0_lowestOf : yX0_lowestOf.cls ≠ "java/lang/invoke/MethodHandle" ∧ yX0_lowestOf.cls ≠ "java/lang/invoke/VarHandle" ∧ (parseMethodDescriptor yX0_lowestOf.desc).map (fun d => d.parameters.length) = some 1 := by decide +kernel
theorem hd_X0_canSit : yX0_canSit.cls ≠ "java/lang/invoke/MethodHandle" ∧ yX0_canSit.cls ≠ "java/lang/invoke/VarHandle" ∧ (parseMethodDescriptor yX0_canSit.desc).map (fun d => d.parameters.length) = some 2 := by decide +kernel
theorem dJ6_bitCount_0f7a4_0 : decode cJ6_bitCount_0f7a4 0 = .ok (.iload_n 0, 1) := by decide +kernel
theorem dJ6_bitCount_0f7a4_1 : decode cJ6_bitCount_0f7a4 1 = .ok (.iload_n 0, 1) := by decide +kernel
theorem dJ6_bitCount_0f7a4_2 : decode cJ6_bitCount_0f7a4 2 = .ok (.iconst 1, 1) := by decide +kernel
theorem dJ6_bitCount_0f7a4_3 : decode cJ6_bitCount_0f7a4 3 = .ok (.iushr, 1) := by decide +kernel
theorem dJ6_bitCount_0f7a4_4 : decode cJ6_bitCount_0f7a4 4 = .ok (.ldc_w 265, 3) := by decide +kernel
theorem dJ6_bitCount_0f7a4_7 : decode cJ6_bitCount_0f7a4 7 = .ok (.iand, 1) := by decide +kernel
theorem dJ6_bitCount_0f7a4_8 : decode cJ6_bitCount_0f7a4 8 = .ok (.isub, 1) := by decide +kernel
theorem dJ6_bitCount_0f7a4_9 : decode cJ6_bitCount_0f7a4 9 = .ok (.istore_n 0, 1) := by decide +kernel
theorem dJ6_bitCount_0f7a4_10 : decode cJ6_bitCount_0f7a4 10 = .ok (.iload_n 0, 1) := by decide +kernel
theorem dJ6_bitCount_0f7a4_11 : decode cJ6_bitCount_0f7a4 11 = .ok (.ldc_w 266, 3) := by decide +kernel
theorem dJ6_bitCount_0f7a4_14 : decode cJ6_bitCount_0f7a4 14 = .ok (.iand, 1) := by decide +kernel
theorem dJ6_bitCount_0f7a4_15 : decode cJ6_bitCount_0f7a4 15 = .ok (.iload_n 0, 1) := by decide +kernel
theorem dJ6_bitCount_0f7a4_16 : decode cJ6_bitCount_0f7a4 16 = .ok (.iconst 2, 1) := by decide +kernel
theorem dJ6_bitCount_0f7a4_17 : decode cJ6_bitCount_0f7a4 17 = .ok (.iushr, 1) := by decide +kernel
theorem dJ6_bitCount_0f7a4_18 : decode cJ6_bitCount_0f7a4 18 = .ok (.ldc_w 266, 3) := by decide +kernel
theorem dJ6_bitCount_0f7a4_21 : decode cJ6_bitCount_0f7a4 21 = .ok (.iand, 1) := by decide +kernel
theorem dJ6_bitCount_0f7a4_22 : decode cJ6_bitCount_0f7a4 22 = .ok (.iadd, 1) := by decide +kernel
theorem dJ6_bitCount_0f7a4_23 : decode cJ6_bitCount_0f7a4 23 = .ok (.istore_n 0, 1) := by decide +kernel
theorem dJ6_bitCount_0f7a4_24 : decode cJ6_bitCount_0f7a4 24 = .ok (.iload_n 0, 1) := by decide +kernel
theorem dJ6_bitCount_0f7a4_25 : decode cJ6_bitCount_0f7a4 25 = .ok (.iload_n 0, 1) := by decide +kernel
theorem dJ6_bitCount_0f7a4_26 : decode cJ6_bitCount_0f7a4 26 = .ok (.iconst 4, 1) := by decide +kernel
theorem dJ6_bitCount_0f7a4_27 : decode cJ6_bitCount_0f7a4 27 = .ok (.iushr, 1) := by decide +kernel
theorem dJ6_bitCount_0f7a4_28 : decode cJ6_bitCount_0f7a4 28 = .ok (.iadd, 1) := by decide +kernel
theorem dJ6_bitCount_0f7a4_29 : decode cJ6_bitCount_0f7a4 29 = .ok (.ldc_w 267, 3) := by decide +kernel
theorem dJ6_bitCount_0f7a4_32 : decode cJ6_bitCount_0f7a4 32 = .ok (.iand, 1) := by decide +kernel
theorem dJ6_bitCount_0f7a4_33 : decode cJ6_bitCount_0f7a4 33 = .ok (.istore_n 0, 1) := by decide +kernel
theorem dJ6_bitCount_0f7a4_34 : decode cJ6_bitCount_0f7a4 34 = .ok (.iload_n 0, 1) := by decide +kernel
theorem dJ6_bitCount_0f7a4_35 : decode cJ6_bitCount_0f7a4 35 = .ok (.iload_n 0, 1) := by decide +kernel
theorem dJ6_bitCount_0f7a4_36 : decode cJ6_bitCount_0f7a4 36 = .ok (.bipush 8, 2) := by decide +kernel
theorem dJ6_bitCount_0f7a4_38 : decode cJ6_bitCount_0f7a4 38 = .ok (.iushr, 1) := by decide +kernel
theorem dJ6_bitCount_0f7a4_39 : decode cJ6_bitCount_0f7a4 39 = .ok (.iadd, 1) := by decide +kernel
theorem dJ6_bitCount_0f7a4_40 : decode cJ6_bitCount_0f7a4 40 = .ok (.istore_n 0, 1) := by decide +kernel
theorem dJ6_bitCount_0f7a4_41 : decode cJ6_bitCount_0f7a4 41 = .ok (.iload_n 0, 1) := by decide +kernel
theorem dJ6_bitCount_0f7a4_42 : decode cJ6_bitCount_0f7a4 42 = .ok (.iload_n 0, 1) := by decide +kernel
theorem dJ6_bitCount_0f7a4_43 : decode cJ6_bitCount_0f7a4 43 = .ok (.bipush 16, 2) := by decide +kernel
theorem dJ6_bitCount_0f7a4_45 : decode cJ6_bitCount_0f7a4 45 = .ok (.iushr, 1) := by decide +kernel
theorem dJ6_bitCount_0f7a4_46 : decode cJ6_bitCount_0f7a4 46 = .ok (.iadd, 1) := by decide +kernel
theorem dJ6_bitCount_0f7a4_47 : decode cJ6_bitCount_0f7a4 47 = .ok (.istore_n 0, 1) := by decide +kernel
theorem dJ6_bitCount_0f7a4_48 : decode cJ6_bitCount_0f7a4 48 = .ok (.iload_n 0, 1) := by decide +kernel
theorem dJ6_bitCount_0f7a4_49 : decode cJ6_bitCount_0f7a4 49 = .ok (.bipush 63, 2) := by decide +kernel
theorem dJ6_bitCount_0f7a4_51 : decode cJ6_bitCount_0f7a4 51 = .ok (.iand, 1) := by decide +kernel
theorem dJ6_bitCount_0f7a4_52 : decode cJ6_bitCount_0f7a4 52 = .ok (.ireturn, 1) := by decide +kernel
theorem dJ7_fill_53178_0 : decode cJ7_fill_53178 0 = .ok (.iconst 0, 1) := by decide +kernel
theorem dJ7_fill_53178_1 : decode cJ7_fill_53178 1 = .ok (.istore_n 2, 1) := by decide +kernel
theorem dJ7_fill_53178_2 : decode cJ7_fill_53178 2 = .ok (.aload_n 0, 1) := by decide +kernel
theorem dJ7_fill_53178_3 : decode cJ7_fill_53178 3 = .ok (.arraylength, 1) := by decide +kernel
theorem dJ7_fill_53178_4 : decode cJ7_fill_53178 4 = .ok (.istore_n 3, 1) := by decide +kernel
theorem dJ7_fill_53178_5 : decode cJ7_fill_53178 5 = .ok (.iload_n 2, 1) := by decide +kernel
theorem dJ7_fill_53178_6 : decode cJ7_fill_53178 6 = .ok (.iload_n 3, 1) := by decide +kernel
theorem dJ7_fill_53178_7 : decode cJ7_fill_53178 7 = .ok (.if_icmp .ge 13, 3) := by decide +kernel
theorem dJ7_fill_53178_10 : decode cJ7_fill_53178 10 = .ok (.aload_n 0, 1) := by decide +kernel
theorem dJ7_fill_53178_11 : decode cJ7_fill_53178 11 = .ok (.iload_n 2, 1) := by decide +kernel
theorem dJ7_fill_53178_12 : decode cJ7_fill_53178 12 = .ok (.iload_n 1, 1) := by decide +kernel
theorem dJ7_fill_53178_13 : decode cJ7_fill_53178 13 = .ok (.iastore, 1) := by decide +kernel
theorem dJ7_fill_53178_14 : decode cJ7_fill_53178 14 = .ok (.iinc 2 1, 3) := by decide +kernel
theorem dJ7_fill_53178_17 : decode cJ7_fill_53178 17 = .ok (.goto (-12), 3) := by decide +kernel
theorem dJ7_fill_53178_20 : decode cJ7_fill_53178 20 = .ok (.return_, 1) := by decide +kernel
theorem dX0_canSit_0 : decode cX0_canSit 0 = .ok (.iload_n 1, 1) := by decide +kernel
theorem dX0_canSit_1 : decode cX0_canSit 1 = .ok (.ifCond .ne 5, 3) := by decide +kernel
theorem dX0_canSit_4 : decode cX0_canSit 4 = .ok (.iconst 1, 1) := by decide +kernel
theorem dX0_canSit_5 : decode cX0_canSit 5 = .ok (.ireturn, 1) := by decide +kernel
theorem dX0_canSit_6 : decode cX0_canSit 6 = .ok (.iload_n 2, 1) := by decide +kernel
theorem dX0_canSit_7 : decode cX0_canSit 7 = .ok (.bipush 10, 2) := by decide +kernel
theorem dX0_canSit_9 : decode cX0_canSit 9 = .ok (.if_icmp .lt 5, 3) := by decide +kernel
theorem dX0_canSit_12 : decode cX0_canSit 12 = .ok (.iconst 0, 1) := by decide +kernel
theorem dX0_canSit_13 : decode cX0_canSit 13 = .ok (.ireturn, 1) := by decide +kernel
theorem dX0_canSit_14 : decode cX0_canSit 14 = .ok (.iload_n 1, 1) := by decide +kernel
theorem dX0_canSit_15 : decode cX0_canSit 15 = .ok (.invokestatic 55, 3) := by decide +kernel
theorem dX0_canSit_18 : decode cX0_canSit 18 = .ok (.istore_n 3, 1) := by decide +kernel
theorem dX0_canSit_19 : decode cX0_canSit 19 = .ok (.aload_n 0, 1) := by decide +kernel
theorem dX0_canSit_20 : decode cX0_canSit 20 = .ok (.getfield 15, 3) := by decide +kernel
theorem dX0_canSit_23 : decode cX0_canSit 23 = .ok (.iload_n 3, 1) := by decide +kernel
theorem dX0_canSit_24 : decode cX0_canSit 24 = .ok (.iaload, 1) := by decide +kernel
theorem dX0_canSit_25 : decode cX0_canSit 25 = .ok (.iload_n 1, 1) := by decide +kernel
theorem dX0_canSit_26 : decode cX0_canSit 26 = .ok (.iand, 1) := by decide +kernel
theorem dX0_canSit_27 : decode cX0_canSit 27 = .ok (.istore 4, 2) := by decide +kernel
theorem dX0_canSit_29 : decode cX0_canSit 29 = .ok (.iload_n 3, 1) := by decide +kernel
theorem dX0_canSit_30 : decode cX0_canSit 30 = .ok (.iconst 1, 1) := by decide +kernel
theorem dX0_canSit_31 : decode cX0_canSit 31 = .ok (.iadd, 1) := by decide +kernel
theorem dX0_canSit_32 : decode cX0_canSit 32 = .ok (.istore 5, 2) := by decide +kernel
theorem dX0_canSit_34 : decode cX0_canSit 34 = .ok (.iload 5, 2) := by decide +kernel
theorem dX0_canSit_36 : decode cX0_canSit 36 = .ok (.aload_n 0, 1) := by decide +kernel
theorem dX0_canSit_37 : decode cX0_canSit 37 = .ok (.getfield 9, 3) := by decide +kernel
theorem dX0_canSit_40 : decode cX0_canSit 40 = .ok (.if_icmp .ge 44, 3) := by decide +kernel
theorem dX0_canSit_43 : decode cX0_canSit 43 = .ok (.iload 4, 2) := by decide +kernel
theorem dX0_canSit_45 : decode cX0_canSit 45 = .ok (.iload 5, 2) := by decide +kernel
theorem dX0_canSit_47 : decode cX0_canSit 47 = .ok (.ishr, 1) := by decide +kernel
theorem dX0_canSit_48 : decode cX0_canSit 48 = .ok (.iconst 1, 1) := by decide +kernel
theorem dX0_canSit_49 : decode cX0_canSit 49 = .ok (.iand, 1) := by decide +kernel
theorem dX0_canSit_50 : decode cX0_canSit 50 = .ok (.iconst 1, 1) := by decide +kernel
theorem dX0_canSit_51 : decode cX0_canSit 51 = .ok (.if_icmp .ne 27, 3) := by decide +kernel
theorem dX0_canSit_54 : decode cX0_canSit 54 = .ok (.aload_n 0, 1) := by decide +kernel
theorem dX0_canSit_55 : decode cX0_canSit 55 = .ok (.iload_n 1, 1) := by decide +kernel
theorem dX0_canSit_56 : decode cX0_canSit 56 = .ok (.iconst 1, 1) := by decide +kernel
theorem dX0_canSit_57 : decode cX0_canSit 57 = .ok (.iload_n 3, 1) := by decide +kernel
theorem dX0_canSit_58 : decode cX0_canSit 58 = .ok (.ishl, 1) := by decide +kernel
theorem dX0_canSit_59 : decode cX0_canSit 59 = .ok (.iconst 1, 1) := by decide +kernel
theorem dX0_canSit_60 : decode cX0_canSit 60 = .ok (.iload 5, 2) := by decide +kernel
theorem dX0_canSit_62 : decode cX0_canSit 62 = .ok (.ishl, 1) := by decide +kernel
theorem dX0_canSit_63 : decode cX0_canSit 63 = .ok (.ior, 1) := by decide +kernel
theorem dX0_canSit_64 : decode cX0_canSit 64 = .ok (.iconst (-1), 1) := by decide +kernel
theorem dX0_canSit_65 : decode cX0_canSit 65 = .ok (.ixor, 1) := by decide +kernel
theorem dX0_canSit_66 : decode cX0_canSit 66 = .ok (.iand, 1) := by decide +kernel
theorem dX0_canSit_67 : decode cX0_canSit 67 = .ok (.iload_n 2, 1) := by decide +kernel
theorem dX0_canSit_68 : decode cX0_canSit 68 = .ok (.iconst 1, 1) := by decide +kernel
theorem dX0_canSit_69 : decode cX0_canSit 69 = .ok (.iadd, 1) := by decide +kernel
theorem dX0_canSit_70 : decode cX0_canSit 70 = .ok (.invokevirtual 58, 3) := by decide +kernel
theorem dX0_canSit_73 : decode cX0_canSit 73 = .ok (.ifCond .eq 5, 3) := by decide +kernel
theorem dX0_canSit_76 : decode cX0_canSit 76 = .ok (.iconst 1, 1) := by decide +kernel
theorem dX0_canSit_77 : decode cX0_canSit 77 = .ok (.ireturn, 1) := by decide +kernel
theorem dX0_canSit_78 : decode cX0_canSit 78 = .ok (.iinc 5 1, 3) := by decide +kernel
theorem dX0_canSit_81 : decode cX0_canSit 81 = .ok (.goto (-47), 3) := by decide +kernel
theorem dX0_canSit_84 : decode cX0_canSit 84 = .ok (.iconst 0, 1) := by decide +kernel
theorem dX0_canSit_85 : decode cX0_canSit 85 = .ok (.ireturn, 1) := by decide +kernel
theorem dX0_draw_0 : decode cX0_draw 0 = .ok (.aload_n 0, 1) := by decide +kernel
theorem dX0_draw_1 : decode cX0_draw 1 = .ok (.aload_n 1, 1) := by decide +kernel
theorem dX0_draw_2 : decode cX0_draw 2 = .ok (.getfield 25, 3) := by decide +kernel
theorem dX0_draw_5 : decode cX0_draw 5 = .ok (.getfield 31, 3) := by decide +kernel
theorem dX0_draw_8 : decode cX0_draw 8 = .ok (.putfield 9, 3) := by decide +kernel
theorem dX0_draw_11 : decode cX0_draw 11 = .ok (.aload_n 0, 1) := by decide +kernel
theorem dX0_draw_12 : decode cX0_draw 12 = .ok (.getfield 15, 3) := by decide +kernel
theorem dX0_draw_15 : decode cX0_draw 15 = .ok (.iconst 0, 1) := by decide +kernel
theorem dX0_draw_16 : decode cX0_draw 16 = .ok (.invokestatic 34, 3) := by decide +kernel
theorem dX0_draw_19 : decode cX0_draw 19 = .ok (.iconst 0, 1) := by decide +kernel
theorem dX0_draw_20 : decode cX0_draw 20 = .ok (.istore 4, 2) := by decide +kernel
theorem dX0_draw_22 : decode cX0_draw 22 = .ok (.iload 4, 2) := by decide +kernel
theorem dX0_draw_24 : decode cX0_draw 24 = .ok (.aload_n 0, 1) := by decide +kernel
theorem dX0_draw_25 : decode cX0_draw 25 = .ok (.getfield 9, 3) := by decide +kernel
theorem dX0_draw_28 : decode cX0_draw 28 = .ok (.if_icmp .ge 78, 3) := by decide +kernel
theorem dX0_draw_31 : decode cX0_draw 31 = .ok (.iload 4, 2) := by decide +kernel
theorem dX0_draw_33 : decode cX0_draw 33 = .ok (.iconst 1, 1) := by decide +kernel
theorem dX0_draw_34 : decode cX0_draw 34 = .ok (.iadd, 1) := by decide +kernel
theorem dX0_draw_35 : decode cX0_draw 35 = .ok (.istore 5, 2) := by decide +kernel
theorem dX0_draw_37 : decode cX0_draw 37 = .ok (.iload 5, 2) := by decide +kernel
theorem dX0_draw_39 : decode cX0_draw 39 = .ok (.aload_n 0, 1) := by decide +kernel
theorem dX0_draw_40 : decode cX0_draw 40 = .ok (.getfield 9, 3) := by decide +kernel
theorem dX0_draw_43 : decode cX0_draw 43 = .ok (.if_icmp .ge 57, 3) := by decide +kernel
theorem dX0_draw_46 : decode cX0_draw 46 = .ok (.aload_n 3, 1) := by decide +kernel
theorem dX0_draw_47 : decode cX0_draw 47 = .ok (.aload_n 1, 1) := by decide +kernel
theorem dX0_draw_48 : decode cX0_draw 48 = .ok (.iload 4, 2) := by decide +kernel
theorem dX0_draw_50 : decode cX0_draw 50 = .ok (.aload_n 1, 1) := by decide +kernel
theorem dX0_draw_51 : decode cX0_draw 51 = .ok (.getfield 40, 3) := by decide +kernel
theorem dX0_draw_54 : decode cX0_draw 54 = .ok (.iload 4, 2) := by decide +kernel
theorem dX0_draw_56 : decode cX0_draw 56 = .ok (.iaload, 1) := by decide +kernel
theorem dX0_draw_57 : decode cX0_draw 57 = .ok (.iload 5, 2) := by decide +kernel
theorem dX0_draw_59 : decode cX0_draw 59 = .ok (.iload_n 2, 1) := by decide +kernel
theorem dX0_draw_60 : decode cX0_draw 60 = .ok (.invokevirtual 43, 3) := by decide +kernel
theorem dX0_draw_63 : decode cX0_draw 63 = .ok (.ifCond .eq 31, 3) := by decide +kernel
theorem dX0_draw_66 : decode cX0_draw 66 = .ok (.aload_n 0, 1) := by decide +kernel
theorem dX0_draw_67 : decode cX0_draw 67 = .ok (.getfield 15, 3) := by decide +kernel
theorem dX0_draw_70 : decode cX0_draw 70 = .ok (.iload 4, 2) := by decide +kernel
theorem dX0_draw_72 : decode cX0_draw 72 = .ok (.dup2, 1) := by decide +kernel
theorem dX0_draw_73 : decode cX0_draw 73 = .ok (.iaload, 1) := by decide +kernel
theorem dX0_draw_74 : decode cX0_draw 74 = .ok (.iconst 1, 1) := by decide +kernel
theorem dX0_draw_75 : decode cX0_draw 75 = .ok (.iload 5, 2) := by decide +kernel
theorem dX0_draw_77 : decode cX0_draw 77 = .ok (.ishl, 1) := by decide +kernel
theorem dX0_draw_78 : decode cX0_draw 78 = .ok (.ior, 1) := by decide +kernel
theorem dX0_draw_79 : decode cX0_draw 79 = .ok (.iastore, 1) := by decide +kernel
theorem dX0_draw_80 : decode cX0_draw 80 = .ok (.aload_n 0, 1) := by decide +kernel
theorem dX0_draw_81 : decode cX0_draw 81 = .ok (.getfield 15, 3) := by decide +kernel
theorem dX0_draw_84 : decode cX0_draw 84 = .ok (.iload 5, 2) := by decide +kernel
theorem dX0_draw_86 : decode cX0_draw 86 = .ok (.dup2, 1) := by decide +kernel
theorem dX0_draw_87 : decode cX0_draw 87 = .ok (.iaload, 1) := by decide +kernel
theorem dX0_draw_88 : decode cX0_draw 88 = .ok (.iconst 1, 1) := by decide +kernel
theorem dX0_draw_89 : decode cX0_draw 89 = .ok (.iload 4, 2) := by decide +kernel
theorem dX0_draw_91 : decode cX0_draw 91 = .ok (.ishl, 1) := by decide +kernel
theorem dX0_draw_92 : decode cX0_draw 92 = .ok (.ior, 1) := by decide +kernel
theorem dX0_draw_93 : decode cX0_draw 93 = .ok (.iastore, 1) := by decide +kernel
theorem dX0_draw_94 : decode cX0_draw 94 = .ok (.iinc 5 1, 3) := by decide +kernel
theorem dX0_draw_97 : decode cX0_draw 97 = .ok (.goto (-60), 3) := by decide +kernel
theorem dX0_draw_100 : decode cX0_draw 100 = .ok (.iinc 4 1, 3) := by decide +kernel
theorem dX0_draw_103 : decode cX0_draw 103 = .ok (.goto (-81), 3) := by decide +kernel
theorem dX0_draw_106 : decode cX0_draw 106 = .ok (.return_, 1) := by decide +kernel
theorem dX0_lowestOf_0 : decode cX0_lowestOf 0 = .ok (.iload_n 0, 1) := by decide +kernel
theorem dX0_lowestOf_1 : decode cX0_lowestOf 1 = .ok (.iload_n 0, 1) := by decide +kernel
theorem dX0_lowestOf_2 : decode cX0_lowestOf 2 = .ok (.ineg, 1) := by decide +kernel
theorem dX0_lowestOf_3 : decode cX0_lowestOf 3 = .ok (.iand, 1) := by decide +kernel
theorem dX0_lowestOf_4 : decode cX0_lowestOf 4 = .ok (.iconst 1, 1) := by decide +kernel
theorem dX0_lowestOf_5 : decode cX0_lowestOf 5 = .ok (.isub, 1) := by decide +kernel
theorem dX0_lowestOf_6 : decode cX0_lowestOf 6 = .ok (.invokestatic 49, 3) := by decide +kernel
theorem dX0_lowestOf_9 : decode cX0_lowestOf 9 = .ok (.ireturn, 1) := by decide +kernel
theorem dX0_worthWith_0 : decode cX0_worthWith 0 = .ok (.aload_n 0, 1) := by decide +kernel
theorem dX0_worthWith_1 : decode cX0_worthWith 1 = .ok (.getfield 22, 3) := by decide +kernel
theorem dX0_worthWith_4 : decode cX0_worthWith 4 = .ok (.iload_n 3, 1) := by decide +kernel
theorem dX0_worthWith_5 : decode cX0_worthWith 5 = .ok (.iconst 1, 1) := by decide +kernel
theorem dX0_worthWith_6 : decode cX0_worthWith 6 = .ok (.iload_n 1, 1) := by decide +kernel
theorem dX0_worthWith_7 : decode cX0_worthWith 7 = .ok (.ishl, 1) := by decide +kernel
theorem dX0_worthWith_8 : decode cX0_worthWith 8 = .ok (.iconst 1, 1) := by decide +kernel
theorem dX0_worthWith_9 : decode cX0_worthWith 9 = .ok (.iload_n 2, 1) := by decide +kernel
theorem dX0_worthWith_10 : decode cX0_worthWith 10 = .ok (.ishl, 1) := by decide +kernel
theorem dX0_worthWith_11 : decode cX0_worthWith 11 = .ok (.ior, 1) := by decide +kernel
theorem dX0_worthWith_12 : decode cX0_worthWith 12 = .ok (.iconst (-1), 1) := by decide +kernel
theorem dX0_worthWith_13 : decode cX0_worthWith 13 = .ok (.ixor, 1) := by decide +kernel
theorem dX0_worthWith_14 : decode cX0_worthWith 14 = .ok (.iand, 1) := by decide +kernel
theorem dX0_worthWith_15 : decode cX0_worthWith 15 = .ok (.iaload, 1) := by decide +kernel
theorem dX0_worthWith_16 : decode cX0_worthWith 16 = .ok (.sipush 1000, 3) := by decide +kernel
theorem dX0_worthWith_19 : decode cX0_worthWith 19 = .ok (.iadd, 1) := by decide +kernel
theorem dX0_worthWith_20 : decode cX0_worthWith 20 = .ok (.aload 4, 2) := by decide +kernel
theorem dX0_worthWith_22 : decode cX0_worthWith 22 = .ok (.iload_n 1, 1) := by decide +kernel
theorem dX0_worthWith_23 : decode cX0_worthWith 23 = .ok (.iaload, 1) := by decide +kernel
theorem dX0_worthWith_24 : decode cX0_worthWith 24 = .ok (.iadd, 1) := by decide +kernel
theorem dX0_worthWith_25 : decode cX0_worthWith 25 = .ok (.aload 4, 2) := by decide +kernel
theorem dX0_worthWith_27 : decode cX0_worthWith 27 = .ok (.iload_n 2, 1) := by decide +kernel
theorem dX0_worthWith_28 : decode cX0_worthWith 28 = .ok (.iaload, 1) := by decide +kernel
theorem dX0_worthWith_29 : decode cX0_worthWith 29 = .ok (.iadd, 1) := by decide +kernel
theorem dX0_worthWith_30 : decode cX0_worthWith 30 = .ok (.ireturn, 1) := by decide +kernel
theorem dX11_drawToday_0 : decode cX11_drawToday 0 = .ok (.aload_n 0, 1) := by decide +kernel
theorem dX11_drawToday_1 : decode cX11_drawToday 1 = .ok (.getfield 56, 3) := by decide +kernel
theorem dX11_drawToday_4 : decode cX11_drawToday 4 = .ok (.aload_n 0, 1) := by decide +kernel
theorem dX11_drawToday_5 : decode cX11_drawToday 5 = .ok (.getfield 83, 3) := by decide +kernel
theorem dX11_drawToday_8 : decode cX11_drawToday 8 = .ok (.aload_n 0, 1) := by decide +kernel
theorem dX11_drawToday_9 : decode cX11_drawToday 9 = .ok (.getfield 83, 3) := by decide +kernel
theorem dX11_drawToday_12 : decode cX11_drawToday 12 = .ok (.getfield 165, 3) := by decide +kernel
theorem dX11_drawToday_15 : decode cX11_drawToday 15 = .ok (.aload_n 0, 1) := by decide +kernel
theorem dX11_drawToday_16 : decode cX11_drawToday 16 = .ok (.getfield 49, 3) := by decide +kernel
theorem dX11_drawToday_19 : decode cX11_drawToday 19 = .ok (.invokevirtual 243, 3) := by decide +kernel
theorem dX11_drawToday_22 : decode cX11_drawToday 22 = .ok (.return_, 1) := by decide +kernel
theorem dX11_everybody_0 : decode cX11_everybody 0 = .ok (.iconst 1, 1) := by decide +kernel
theorem dX11_everybody_1 : decode cX11_everybody 1 = .ok (.aload_n 0, 1) := by decide +kernel
theorem dX11_everybody_2 : decode cX11_everybody 2 = .ok (.getfield 83, 3) := by decide +kernel
theorem dX11_everybody_5 : decode cX11_everybody 5 = .ok (.getfield 126, 3) := by decide +kernel
theorem dX11_everybody_8 : decode cX11_everybody 8 = .ok (.getfield 159, 3) := by decide +kernel
theorem dX11_everybody_11 : decode cX11_everybody 11 = .ok (.ishl, 1) := by decide +kernel
theorem dX11_everybody_12 : decode cX11_everybody 12 = .ok (.iconst 1, 1) := by decide +kernel
theorem dX11_everybody_13 : decode cX11_everybody 13 = .ok (.isub, 1) := by decide +kernel
theorem dX11_everybody_14 : decode cX11_everybody 14 = .ok (.ireturn, 1) := by decide +kernel
theorem dX11_fault_0 : decode cX11_fault 0 = .ok (.iload_n 1, 1) := by decide +kernel
theorem dX11_fault_1 : decode cX11_fault 1 = .ok (.ifCond .ne 8, 3) := by decide +kernel
theorem dX11_fault_4 : decode cX11_fault 4 = .ok (.aload_n 0, 1) := by decide +kernel
theorem dX11_fault_5 : decode cX11_fault 5 = .ok (.getfield 17, 3) := by decide +kernel
theorem dX11_fault_8 : decode cX11_fault 8 = .ok (.ireturn, 1) := by decide +kernel
theorem dX11_fault_9 : decode cX11_fault 9 = .ok (.iload_n 1, 1) := by decide +kernel
theorem dX11_fault_10 : decode cX11_fault 10 = .ok (.iconst 1, 1) := by decide +kernel
theorem dX11_fault_11 : decode cX11_fault 11 = .ok (.if_icmp .ne 10, 3) := by decide +kernel
theorem dX11_fault_14 : decode cX11_fault 14 = .ok (.aload_n 0, 1) := by decide +kernel
theorem dX11_fault_15 : decode cX11_fault 15 = .ok (.getfield 20, 3) := by decide +kernel
theorem dX11_fault_18 : decode cX11_fault 18 = .ok (.goto 4, 3) := by decide +kernel
theorem dX11_fault_21 : decode cX11_fault 21 = .ok (.iconst (-1), 1) := by decide +kernel
theorem dX11_fault_22 : decode cX11_fault 22 = .ok (.ireturn, 1) := by decide +kernel
theorem dX11_feed_0 : decode cX11_feed 0 = .ok (.aload_n 0, 1) := by decide +kernel
theorem dX11_feed_1 : decode cX11_feed 1 = .ok (.getfield 13, 3) := by decide +kernel
theorem dX11_feed_4 : decode cX11_feed 4 = .ok (.bipush 20, 2) := by decide +kernel
theorem dX11_feed_6 : decode cX11_feed 6 = .ok (.iadd, 1) := by decide +kernel
theorem dX11_feed_7 : decode cX11_feed 7 = .ok (.sipush 900, 3) := by decide +kernel
theorem dX11_feed_10 : decode cX11_feed 10 = .ok (.if_icmp .le 6, 3) := by decide +kernel
theorem dX11_feed_13 : decode cX11_feed 13 = .ok (.bipush (-5), 2) := by decide +kernel
theorem dX11_feed_15 : decode cX11_feed 15 = .ok (.ireturn, 1) := by decide +kernel
theorem dX11_feed_16 : decode cX11_feed 16 = .ok (.aload_n 0, 1) := by decide +kernel
theorem dX11_feed_17 : decode cX11_feed 17 = .ok (.iload_n 1, 1) := by decide +kernel
theorem dX11_feed_18 : decode cX11_feed 18 = .ok (.invokevirtual 101, 3) := by decide +kernel
theorem dX11_feed_21 : decode cX11_feed 21 = .ok (.aload_n 0, 1) := by decide +kernel
theorem dX11_feed_22 : decode cX11_feed 22 = .ok (.iload_n 2, 1) := by decide +kernel
theorem dX11_feed_23 : decode cX11_feed 23 = .ok (.invokevirtual 101, 3) := by decide +kernel
theorem dX11_feed_26 : decode cX11_feed 26 = .ok (.aload_n 0, 1) := by decide +kernel
theorem dX11_feed_27 : decode cX11_feed 27 = .ok (.iload_n 3, 1) := by decide +kernel
theorem dX11_feed_28 : decode cX11_feed 28 = .ok (.invokevirtual 101, 3) := by decide +kernel
theorem dX11_feed_31 : decode cX11_feed 31 = .ok (.aload_n 0, 1) := by decide +kernel
theorem dX11_feed_32 : decode cX11_feed 32 = .ok (.iload 4, 2) := by decide +kernel
theorem dX11_feed_34 : decode cX11_feed 34 = .ok (.invokevirtual 101, 3) := by decide +kernel
theorem dX11_feed_37 : decode cX11_feed 37 = .ok (.aload_n 0, 1) := by decide +kernel
theorem dX11_feed_38 : decode cX11_feed 38 = .ok (.iload 5, 2) := by decide +kernel
theorem dX11_feed_40 : decode cX11_feed 40 = .ok (.invokevirtual 101, 3) := by decide +kernel
theorem dX11_feed_43 : decode cX11_feed 43 = .ok (.aload_n 0, 1) := by decide +kernel
theorem dX11_feed_44 : decode cX11_feed 44 = .ok (.getfield 13, 3) := by decide +kernel
theorem dX11_feed_47 : decode cX11_feed 47 = .ok (.ireturn, 1) := by decide +kernel
theorem dX11_isPerson_0 : decode cX11_isPerson 0 = .ok (.iload_n 1, 1) := by decide +kernel
theorem dX11_isPerson_1 : decode cX11_isPerson 1 = .ok (.ifCond .lt 21, 3) := by decide +kernel
theorem dX11_isPerson_4 : decode cX11_isPerson 4 = .ok (.iload_n 1, 1) := by decide +kernel
theorem dX11_isPerson_5 : decode cX11_isPerson 5 = .ok (.aload_n 0, 1) := by decide +kernel
theorem dX11_isPerson_6 : decode cX11_isPerson 6 = .ok (.getfield 83, 3) := by decide +kernel
theorem dX11_isPerson_9 : decode cX11_isPerson 9 = .ok (.getfield 126, 3) := by decide +kernel
theorem dX11_isPerson_12 : decode cX11_isPerson 12 = .ok (.getfield 159, 3) := by decide +kernel
theorem dX11_isPerson_15 : decode cX11_isPerson 15 = .ok (.if_icmp .ge 7, 3) := by decide +kernel
theorem dX11_isPerson_18 : decode cX11_isPerson 18 = .ok (.iconst 1, 1) := by decide +kernel
theorem dX11_isPerson_19 : decode cX11_isPerson 19 = .ok (.goto 4, 3) := by decide +kernel
theorem dX11_isPerson_22 : decode cX11_isPerson 22 = .ok (.iconst 0, 1) := by decide +kernel
theorem dX11_isPerson_23 : decode cX11_isPerson 23 = .ok (.ireturn, 1) := by decide +kernel
theorem dX11_isSet_0 : decode cX11_isSet 0 = .ok (.iload_n 1, 1) := by decide +kernel
theorem dX11_isSet_1 : decode cX11_isSet 1 = .ok (.aload_n 0, 1) := by decide +kernel
theorem dX11_isSet_2 : decode cX11_isSet 2 = .ok (.invokevirtual 162, 3) := by decide +kernel
theorem dX11_isSet_5 : decode cX11_isSet 5 = .ok (.iconst (-1), 1) := by decide +kernel
theorem dX11_isSet_6 : decode cX11_isSet 6 = .ok (.ixor, 1) := by decide +kernel
theorem dX11_isSet_7 : decode cX11_isSet 7 = .ok (.iand, 1) := by decide +kernel
theorem dX11_isSet_8 : decode cX11_isSet 8 = .ok (.ifCond .ne 7, 3) := by decide +kernel
theorem dX11_isSet_11 : decode cX11_isSet 11 = .ok (.iconst 1, 1) := by decide +kernel
theorem dX11_isSet_12 : decode cX11_isSet 12 = .ok (.goto 4, 3) := by decide +kernel
theorem dX11_isSet_15 : decode cX11_isSet 15 = .ok (.iconst 0, 1) := by decide +kernel
theorem dX11_isSet_16 : decode cX11_isSet 16 = .ok (.ireturn, 1) := by decide +kernel
theorem dX11_opposed_0 : decode cX11_opposed 0 = .ok (.aload_n 0, 1) := by decide +kernel
theorem dX11_opposed_1 : decode cX11_opposed 1 = .ok (.iload_n 1, 1) := by decide +kernel
theorem dX11_opposed_2 : decode cX11_opposed 2 = .ok (.invokevirtual 122, 3) := by decide +kernel
theorem dX11_opposed_5 : decode cX11_opposed 5 = .ok (.ifCond .eq 11, 3) := by decide +kernel
theorem dX11_opposed_8 : decode cX11_opposed 8 = .ok (.aload_n 0, 1) := by decide +kernel
theorem dX11_opposed_9 : decode cX11_opposed 9 = .ok (.iload_n 2, 1) := by decide +kernel
theorem dX11_opposed_10 : decode cX11_opposed 10 = .ok (.invokevirtual 122, 3) := by decide +kernel
theorem dX11_opposed_13 : decode cX11_opposed 13 = .ok (.ifCond .ne 6, 3) := by decide +kernel
theorem dX11_opposed_16 : decode cX11_opposed 16 = .ok (.bipush (-2), 2) := by decide +kernel
theorem dX11_opposed_18 : decode cX11_opposed 18 = .ok (.ireturn, 1) := by decide +kernel
theorem dX11_opposed_19 : decode cX11_opposed 19 = .ok (.iload_n 1, 1) := by decide +kernel
theorem dX11_opposed_20 : decode cX11_opposed 20 = .ok (.iload_n 2, 1) := by decide +kernel
theorem dX11_opposed_21 : decode cX11_opposed 21 = .ok (.if_icmp .eq 39, 3) := by decide +kernel
theorem dX11_opposed_24 : decode cX11_opposed 24 = .ok (.aload_n 0, 1) := by decide +kernel
theorem dX11_opposed_25 : decode cX11_opposed 25 = .ok (.getfield 49, 3) := by decide +kernel
theorem dX11_opposed_28 : decode cX11_opposed 28 = .ok (.aload_n 0, 1) := by decide +kernel
theorem dX11_opposed_29 : decode cX11_opposed 29 = .ok (.getfield 83, 3) := by decide +kernel
theorem dX11_opposed_32 : decode cX11_opposed 32 = .ok (.iload_n 1, 1) := by decide +kernel
theorem dX11_opposed_33 : decode cX11_opposed 33 = .ok (.aload_n 0, 1) := by decide +kernel
theorem dX11_opposed_34 : decode cX11_opposed 34 = .ok (.getfield 83, 3) := by decide +kernel
theorem dX11_opposed_37 : decode cX11_opposed 37 = .ok (.getfield 130, 3) := by decide +kernel
theorem dX11_opposed_40 : decode cX11_opposed 40 = .ok (.iload_n 1, 1) := by decide +kernel
theorem dX11_opposed_41 : decode cX11_opposed 41 = .ok (.iaload, 1) := by decide +kernel
theorem dX11_opposed_42 : decode cX11_opposed 42 = .ok (.iload_n 2, 1) := by decide +kernel
theorem dX11_opposed_43 : decode cX11_opposed 43 = .ok (.aload_n 0, 1) := by decide +kernel
theorem dX11_opposed_44 : decode cX11_opposed 44 = .ok (.getfield 83, 3) := by decide +kernel
theorem dX11_opposed_47 : decode cX11_opposed 47 = .ok (.getfield 165, 3) := by decide +kernel
theorem dX11_opposed_50 : decode cX11_opposed 50 = .ok (.invokevirtual 172, 3) := by decide +kernel
theorem dX11_opposed_53 : decode cX11_opposed 53 = .ok (.ifCond .eq 7, 3) := by decide +kernel
theorem dX11_opposed_56 : decode cX11_opposed 56 = .ok (.iconst 1, 1) := by decide +kernel
theorem dX11_opposed_57 : decode cX11_opposed 57 = .ok (.goto 4, 3) := by decide +kernel
theorem dX11_opposed_60 : decode cX11_opposed 60 = .ok (.iconst 0, 1) := by decide +kernel
theorem dX11_opposed_61 : decode cX11_opposed 61 = .ok (.ireturn, 1) := by decide +kernel
theorem dX11_opposites_0 : decode cX11_opposites 0 = .ok (.aload_n 0, 1) := by decide +kernel
theorem dX11_opposites_1 : decode cX11_opposites 1 = .ok (.iload_n 1, 1) := by decide +kernel
theorem dX11_opposites_2 : decode cX11_opposites 2 = .ok (.invokevirtual 122, 3) := by decide +kernel
theorem dX11_opposites_5 : decode cX11_opposites 5 = .ok (.ifCond .ne 6, 3) := by decide +kernel
theorem dX11_opposites_8 : decode cX11_opposites 8 = .ok (.bipush (-2), 2) := by decide +kernel
theorem dX11_opposites_10 : decode cX11_opposites 10 = .ok (.ireturn, 1) := by decide +kernel
theorem dX11_opposites_11 : decode cX11_opposites 11 = .ok (.aload_n 0, 1) := by decide +kernel
theorem dX11_opposites_12 : decode cX11_opposites 12 = .ok (.getfield 49, 3) := by decide +kernel
theorem dX11_opposites_15 : decode cX11_opposites 15 = .ok (.aload_n 0, 1) := by decide +kernel
theorem dX11_opposites_16 : decode cX11_opposites 16 = .ok (.getfield 83, 3) := by decide +kernel
theorem dX11_opposites_19 : decode cX11_opposites 19 = .ok (.iload_n 1, 1) := by decide +kernel
theorem dX11_opposites_20 : decode cX11_opposites 20 = .ok (.aload_n 0, 1) := by decide +kernel
theorem dX11_opposites_21 : decode cX11_opposites 21 = .ok (.getfield 83, 3) := by decide +kernel
theorem dX11_opposites_24 : decode cX11_opposites 24 = .ok (.getfield 130, 3) := by decide +kernel
theorem dX11_opposites_27 : decode cX11_opposites 27 = .ok (.iload_n 1, 1) := by decide +kernel
theorem dX11_opposites_28 : decode cX11_opposites 28 = .ok (.iaload, 1) := by decide +kernel
theorem dX11_opposites_29 : decode cX11_opposites 29 = .ok (.aload_n 0, 1) := by decide +kernel
theorem dX11_opposites_30 : decode cX11_opposites 30 = .ok (.getfield 83, 3) := by decide +kernel
theorem dX11_opposites_33 : decode cX11_opposites 33 = .ok (.getfield 165, 3) := by decide +kernel
theorem dX11_opposites_36 : decode cX11_opposites 36 = .ok (.invokevirtual 176, 3) := by decide +kernel
theorem dX11_opposites_39 : decode cX11_opposites 39 = .ok (.ireturn, 1) := by decide +kernel
theorem dX11_person_0 : decode cX11_person 0 = .ok (.aload_n 0, 1) := by decide +kernel
theorem dX11_person_1 : decode cX11_person 1 = .ok (.iload_n 1, 1) := by decide +kernel
theorem dX11_person_2 : decode cX11_person 2 = .ok (.invokevirtual 122, 3) := by decide +kernel
theorem dX11_person_5 : decode cX11_person 5 = .ok (.ifCond .ne 6, 3) := by decide +kernel
theorem dX11_person_8 : decode cX11_person 8 = .ok (.bipush (-2), 2) := by decide +kernel
theorem dX11_person_10 : decode cX11_person 10 = .ok (.ireturn, 1) := by decide +kernel
theorem dX11_person_11 : decode cX11_person 11 = .ok (.aload_n 0, 1) := by decide +kernel
theorem dX11_person_12 : decode cX11_person 12 = .ok (.getfield 83, 3) := by decide +kernel
theorem dX11_person_15 : decode cX11_person 15 = .ok (.getfield 126, 3) := by decide +kernel
theorem dX11_person_18 : decode cX11_person 18 = .ok (.astore_n 3, 1) := by decide +kernel
theorem dX11_person_19 : decode cX11_person 19 = .ok (.iload_n 2, 1) := by decide +kernel
theorem dX11_person_20 : decode cX11_person 20 = .ok (.tableswitch 152 0 8 #[52, 65, 81, 94, 101, 114, 121, 128, 140], 52) := by decide +kernel
theorem dX11_person_72 : decode cX11_person 72 = .ok (.aload_n 0, 1) := by decide +kernel
theorem dX11_person_73 : decode cX11_person 73 = .ok (.getfield 83, 3) := by decide +kernel
theorem dX11_person_76 : decode cX11_person 76 = .ok (.getfield 130, 3) := by decide +kernel
theorem dX11_person_79 : decode cX11_person 79 = .ok (.iload_n 1, 1) := by decide +kernel
theorem dX11_person_80 : decode cX11_person 80 = .ok (.iaload, 1) := by decide +kernel
theorem dX11_person_81 : decode cX11_person 81 = .ok (.bipush 100, 2) := by decide +kernel
theorem dX11_person_83 : decode cX11_person 83 = .ok (.idiv, 1) := by decide +kernel
theorem dX11_person_84 : decode cX11_person 84 = .ok (.ireturn, 1) := by decide +kernel
theorem dX11_person_85 : decode cX11_person 85 = .ok (.aload_n 0, 1) := by decide +kernel
theorem dX11_person_86 : decode cX11_person 86 = .ok (.getfield 83, 3) := by decide +kernel
theorem dX11_person_89 : decode cX11_person 89 = .ok (.getfield 130, 3) := by decide +kernel
theorem dX11_person_92 : decode cX11_person 92 = .ok (.iload_n 1, 1) := by decide +kernel
theorem dX11_person_93 : decode cX11_person 93 = .ok (.iaload, 1) := by decide +kernel
theorem dX11_person_94 : decode cX11_person 94 = .ok (.bipush 10, 2) := by decide +kernel
theorem dX11_person_96 : decode cX11_person 96 = .ok (.idiv, 1) := by decide +kernel
theorem dX11_person_97 : decode cX11_person 97 = .ok (.bipush 10, 2) := by decide +kernel
theorem dX11_person_99 : decode cX11_person 99 = .ok (.irem, 1) := by decide +kernel
theorem dX11_person_100 : decode cX11_person 100 = .ok (.ireturn, 1) := by decide +kernel
theorem dX11_person_101 : decode cX11_person 101 = .ok (.aload_n 0, 1) := by decide +kernel
theorem dX11_person_102 : decode cX11_person 102 = .ok (.getfield 83, 3) := by decide +kernel
theorem dX11_person_105 : decode cX11_person 105 = .ok (.getfield 130, 3) := by decide +kernel
theorem dX11_person_108 : decode cX11_person 108 = .ok (.iload_n 1, 1) := by decide +kernel
theorem dX11_person_109 : decode cX11_person 109 = .ok (.iaload, 1) := by decide +kernel
theorem dX11_person_110 : decode cX11_person 110 = .ok (.bipush 10, 2) := by decide +kernel
theorem dX11_person_112 : decode cX11_person 112 = .ok (.irem, 1) := by decide +kernel
theorem dX11_person_113 : decode cX11_person 113 = .ok (.ireturn, 1) := by decide +kernel
theorem dX11_person_114 : decode cX11_person 114 = .ok (.aload_n 3, 1) := by decide +kernel
theorem dX11_person_115 : decode cX11_person 115 = .ok (.getfield 134, 3) := by decide +kernel
theorem dX11_person_118 : decode cX11_person 118 = .ok (.iload_n 1, 1) := by decide +kernel
theorem dX11_person_119 : decode cX11_person 119 = .ok (.iaload, 1) := by decide +kernel
theorem dX11_person_120 : decode cX11_person 120 = .ok (.ireturn, 1) := by decide +kernel
theorem dX11_person_121 : decode cX11_person 121 = .ok (.aload_n 3, 1) := by decide +kernel
theorem dX11_person_122 : decode cX11_person 122 = .ok (.getfield 137, 3) := by decide +kernel
theorem dX11_person_125 : decode cX11_person 125 = .ok (.iload_n 1, 1) := by decide +kernel
theorem dX11_person_126 : decode cX11_person 126 = .ok (.iaload, 1) := by decide +kernel
theorem dX11_person_127 : decode cX11_person 127 = .ok (.sipush 999, 3) := by decide +kernel
theorem dX11_person_130 : decode cX11_person 130 = .ok (.invokestatic 140, 3) := by decide +kernel
theorem dX11_person_133 : decode cX11_person 133 = .ok (.ireturn, 1) := by decide +kernel
theorem dX11_person_134 : decode cX11_person 134 = .ok (.aload_n 3, 1) := by decide +kernel
theorem dX11_person_135 : decode cX11_person 135 = .ok (.getfield 146, 3) := by decide +kernel
theorem dX11_person_138 : decode cX11_person 138 = .ok (.iload_n 1, 1) := by decide +kernel
theorem dX11_person_139 : decode cX11_person 139 = .ok (.iaload, 1) := by decide +kernel
theorem dX11_person_140 : decode cX11_person 140 = .ok (.ireturn, 1) := by decide +kernel
theorem dX11_person_141 : decode cX11_person 141 = .ok (.aload_n 3, 1) := by decide +kernel
theorem dX11_person_142 : decode cX11_person 142 = .ok (.getfield 149, 3) := by decide +kernel
theorem dX11_person_145 : decode cX11_person 145 = .ok (.iload_n 1, 1) := by decide +kernel
theorem dX11_person_146 : decode cX11_person 146 = .ok (.iaload, 1) := by decide +kernel
theorem dX11_person_147 : decode cX11_person 147 = .ok (.ireturn, 1) := by decide +kernel
theorem dX11_person_148 : decode cX11_person 148 = .ok (.aload_n 0, 1) := by decide +kernel
theorem dX11_person_149 : decode cX11_person 149 = .ok (.getfield 83, 3) := by decide +kernel
theorem dX11_person_152 : decode cX11_person 152 = .ok (.getfield 152, 3) := by decide +kernel
theorem dX11_person_155 : decode cX11_person 155 = .ok (.iload_n 1, 1) := by decide +kernel
theorem dX11_person_156 : decode cX11_person 156 = .ok (.ishr, 1) := by decide +kernel
theorem dX11_person_157 : decode cX11_person 157 = .ok (.iconst 1, 1) := by decide +kernel
theorem dX11_person_158 : decode cX11_person 158 = .ok (.iand, 1) := by decide +kernel
theorem dX11_person_159 : decode cX11_person 159 = .ok (.ireturn, 1) := by decide +kernel
theorem dX11_person_160 : decode cX11_person 160 = .ok (.aload_n 0, 1) := by decide +kernel
theorem dX11_person_161 : decode cX11_person 161 = .ok (.getfield 83, 3) := by decide +kernel
theorem dX11_person_164 : decode cX11_person 164 = .ok (.invokevirtual 155, 3) := by decide +kernel
theorem dX11_person_167 : decode cX11_person 167 = .ok (.iload_n 1, 1) := by decide +kernel
theorem dX11_person_168 : decode cX11_person 168 = .ok (.ishr, 1) := by decide +kernel
theorem dX11_person_169 : decode cX11_person 169 = .ok (.iconst 1, 1) := by decide +kernel
theorem dX11_person_170 : decode cX11_person 170 = .ok (.iand, 1) := by decide +kernel
theorem dX11_person_171 : decode cX11_person 171 = .ok (.ireturn, 1) := by decide +kernel
theorem dX11_person_172 : decode cX11_person 172 = .ok (.bipush (-2), 2) := by decide +kernel
theorem dX11_person_174 : decode cX11_person 174 = .ok (.ireturn, 1) := by decide +kernel
theorem dX11_putOnTape_0 : decode cX11_putOnTape 0 = .ok (.bipush 24, 2) := by decide +kernel
theorem dX11_putOnTape_2 : decode cX11_putOnTape 2 = .ok (.istore_n 2, 1) := by decide +kernel
theorem dX11_putOnTape_3 : decode cX11_putOnTape 3 = .ok (.iload_n 2, 1) := by decide +kernel
theorem dX11_putOnTape_4 : decode cX11_putOnTape 4 = .ok (.ifCond .lt 42, 3) := by decide +kernel
theorem dX11_putOnTape_7 : decode cX11_putOnTape 7 = .ok (.aload_n 0, 1) := by decide +kernel
theorem dX11_putOnTape_8 : decode cX11_putOnTape 8 = .ok (.getfield 13, 3) := by decide +kernel
theorem dX11_putOnTape_11 : decode cX11_putOnTape 11 = .ok (.sipush 900, 3) := by decide +kernel
theorem dX11_putOnTape_14 : decode cX11_putOnTape 14 = .ok (.if_icmp .ge 32, 3) := by decide +kernel
theorem dX11_putOnTape_17 : decode cX11_putOnTape 17 = .ok (.aload_n 0, 1) := by decide +kernel
theorem dX11_putOnTape_18 : decode cX11_putOnTape 18 = .ok (.getfield 9, 3) := by decide +kernel
theorem dX11_putOnTape_21 : decode cX11_putOnTape 21 = .ok (.aload_n 0, 1) := by decide +kernel
theorem dX11_putOnTape_22 : decode cX11_putOnTape 22 = .ok (.getfield 13, 3) := by decide +kernel
theorem dX11_putOnTape_25 : decode cX11_putOnTape 25 = .ok (.iload_n 1, 1) := by decide +kernel
theorem dX11_putOnTape_26 : decode cX11_putOnTape 26 = .ok (.iload_n 2, 1) := by decide +kernel
theorem dX11_putOnTape_27 : decode cX11_putOnTape 27 = .ok (.iushr, 1) := by decide +kernel
theorem dX11_putOnTape_28 : decode cX11_putOnTape 28 = .ok (.i2b, 1) := by decide +kernel
theorem dX11_putOnTape_29 : decode cX11_putOnTape 29 = .ok (.bastore, 1) := by decide +kernel
theorem dX11_putOnTape_30 : decode cX11_putOnTape 30 = .ok (.aload_n 0, 1) := by decide +kernel
theorem dX11_putOnTape_31 : decode cX11_putOnTape 31 = .ok (.dup, 1) := by decide +kernel
theorem dX11_putOnTape_32 : decode cX11_putOnTape 32 = .ok (.getfield 13, 3) := by decide +kernel
theorem dX11_putOnTape_35 : decode cX11_putOnTape 35 = .ok (.iconst 1, 1) := by decide +kernel
theorem dX11_putOnTape_36 : decode cX11_putOnTape 36 = .ok (.iadd, 1) := by decide +kernel
theorem dX11_putOnTape_37 : decode cX11_putOnTape 37 = .ok (.putfield 13, 3) := by decide +kernel
theorem dX11_putOnTape_40 : decode cX11_putOnTape 40 = .ok (.iinc 2 (-8), 3) := by decide +kernel
theorem dX11_putOnTape_43 : decode cX11_putOnTape 43 = .ok (.goto (-40), 3) := by decide +kernel
theorem dX11_putOnTape_46 : decode cX11_putOnTape 46 = .ok (.return_, 1) := by decide +kernel
theorem dX11_sits_0 : decode cX11_sits 0 = .ok (.aload_n 0, 1) := by decide +kernel
theorem dX11_sits_1 : decode cX11_sits 1 = .ok (.iload_n 1, 1) := by decide +kernel
theorem dX11_sits_2 : decode cX11_sits 2 = .ok (.invokevirtual 257, 3) := by decide +kernel
theorem dX11_sits_5 : decode cX11_sits 5 = .ok (.ifCond .ne 6, 3) := by decide +kernel
theorem dX11_sits_8 : decode cX11_sits 8 = .ok (.bipush (-3), 2) := by decide +kernel
theorem dX11_sits_10 : decode cX11_sits 10 = .ok (.ireturn, 1) := by decide +kernel
theorem dX11_sits_11 : decode cX11_sits 11 = .ok (.aload_n 0, 1) := by decide +kernel
theorem dX11_sits_12 : decode cX11_sits 12 = .ok (.invokevirtual 260, 3) := by decide +kernel
theorem dX11_sits_15 : decode cX11_sits 15 = .ok (.aload_n 0, 1) := by decide +kernel
theorem dX11_sits_16 : decode cX11_sits 16 = .ok (.getfield 56, 3) := by decide +kernel
theorem dX11_sits_19 : decode cX11_sits 19 = .ok (.iload_n 1, 1) := by decide +kernel
theorem dX11_sits_20 : decode cX11_sits 20 = .ok (.iconst 0, 1) := by decide +kernel
theorem dX11_sits_21 : decode cX11_sits 21 = .ok (.invokevirtual 247, 3) := by decide +kernel
theorem dX11_sits_24 : decode cX11_sits 24 = .ok (.ifCond .eq 7, 3) := by decide +kernel
theorem dX11_sits_27 : decode cX11_sits 27 = .ok (.iconst 1, 1) := by decide +kernel
theorem dX11_sits_28 : decode cX11_sits 28 = .ok (.goto 4, 3) := by decide +kernel
theorem dX11_sits_31 : decode cX11_sits 31 = .ok (.iconst 0, 1) := by decide +kernel
theorem dX11_sits_32 : decode cX11_sits 32 = .ok (.ireturn, 1) := by decide +kernel
theorem dX11_town_0 : decode cX11_town 0 = .ok (.iload_n 1, 1) := by decide +kernel
theorem dX11_town_1 : decode cX11_town 1 = .ok (.ifCond .lt 10, 3) := by decide +kernel
theorem dX11_town_4 : decode cX11_town 4 = .ok (.iload_n 1, 1) := by decide +kernel
theorem dX11_town_5 : decode cX11_town 5 = .ok (.sipush 999, 3) := by decide +kernel
theorem dX11_town_8 : decode cX11_town 8 = .ok (.if_icmp .le 6, 3) := by decide +kernel
theorem dX11_town_11 : decode cX11_town 11 = .ok (.bipush (-3), 2) := by decide +kernel
theorem dX11_town_13 : decode cX11_town 13 = .ok (.ireturn, 1) := by decide +kernel
theorem dX11_town_14 : decode cX11_town 14 = .ok (.aload_n 0, 1) := by decide +kernel
theorem dX11_town_15 : decode cX11_town 15 = .ok (.getfield 83, 3) := by decide +kernel
theorem dX11_town_18 : decode cX11_town 18 = .ok (.aload_n 0, 1) := by decide +kernel
theorem dX11_town_19 : decode cX11_town 19 = .ok (.getfield 83, 3) := by decide +kernel
theorem dX11_town_22 : decode cX11_town 22 = .ok (.getfield 165, 3) := by decide +kernel
theorem dX11_town_25 : decode cX11_town 25 = .ok (.iload_n 1, 1) := by decide +kernel
theorem dX11_town_26 : decode cX11_town 26 = .ok (.iadd, 1) := by decide +kernel
theorem dX11_town_27 : decode cX11_town 27 = .ok (.invokevirtual 168, 3) := by decide +kernel
theorem dX11_town_30 : decode cX11_town 30 = .ok (.ireturn, 1) := by decide +kernel
theorem dX4_joined_0 : decode cX4_joined 0 = .ok (.iload_n 0, 1) := by decide +kernel
theorem dX4_joined_1 : decode cX4_joined 1 = .ok (.lookupswitch 144 #[(22, 136), (42, 85), (43, 67), (45, 76), (60, 108), (61, 94), (62, 122)], 67) := by decide +kernel
theorem dX4_joined_68 : decode cX4_joined 68 = .ok (.iload_n 1, 1) := by decide +kernel
theorem dX4_joined_69 : decode cX4_joined 69 = .ok (.i2l, 1) := by decide +kernel
theorem dX4_joined_70 : decode cX4_joined 70 = .ok (.iload_n 2, 1) := by decide +kernel
theorem dX4_joined_71 : decode cX4_joined 71 = .ok (.i2l, 1) := by decide +kernel
theorem dX4_joined_72 : decode cX4_joined 72 = .ok (.ladd, 1) := by decide +kernel
theorem dX4_joined_73 : decode cX4_joined 73 = .ok (.lstore_n 3, 1) := by decide +kernel
theorem dX4_joined_74 : decode cX4_joined 74 = .ok (.goto 76, 3) := by decide +kernel
theorem dX4_joined_77 : decode cX4_joined 77 = .ok (.iload_n 1, 1) := by decide +kernel
theorem dX4_joined_78 : decode cX4_joined 78 = .ok (.i2l, 1) := by decide +kernel
theorem dX4_joined_79 : decode cX4_joined 79 = .ok (.iload_n 2, 1) := by decide +kernel
theorem dX4_joined_80 : decode cX4_joined 80 = .ok (.i2l, 1) := by decide +kernel
theorem dX4_joined_81 : decode cX4_joined 81 = .ok (.lsub, 1) := by decide +kernel
theorem dX4_joined_82 : decode cX4_joined 82 = .ok (.lstore_n 3, 1) := by decide +kernel
theorem dX4_joined_83 : decode cX4_joined 83 = .ok (.goto 67, 3) := by decide +kernel
theorem dX4_joined_86 : decode cX4_joined 86 = .ok (.iload_n 1, 1) := by decide +kernel
theorem dX4_joined_87 : decode cX4_joined 87 = .ok (.i2l, 1) := by decide +kernel
theorem dX4_joined_88 : decode cX4_joined 88 = .ok (.iload_n 2, 1) := by decide +kernel
theorem dX4_joined_89 : decode cX4_joined 89 = .ok (.i2l, 1) := by decide +kernel
theorem dX4_joined_90 : decode cX4_joined 90 = .ok (.lmul, 1) := by decide +kernel
theorem dX4_joined_91 : decode cX4_joined 91 = .ok (.lstore_n 3, 1) := by decide +kernel
theorem dX4_joined_92 : decode cX4_joined 92 = .ok (.goto 58, 3) := by decide +kernel
theorem dX4_joined_95 : decode cX4_joined 95 = .ok (.iload_n 1, 1) := by decide +kernel
theorem dX4_joined_96 : decode cX4_joined 96 = .ok (.iload_n 2, 1) := by decide +kernel
theorem dX4_joined_97 : decode cX4_joined 97 = .ok (.if_icmp .ne 7, 3) := by decide +kernel
theorem dX4_joined_100 : decode cX4_joined 100 = .ok (.lconst 1, 1) := by decide +kernel
theorem dX4_joined_101 : decode cX4_joined 101 = .ok (.goto 4, 3) := by decide +kernel
theorem dX4_joined_104 : decode cX4_joined 104 = .ok (.lconst 0, 1) := by decide +kernel
theorem dX4_joined_105 : decode cX4_joined 105 = .ok (.lstore_n 3, 1) := by decide +kernel
theorem dX4_joined_106 : decode cX4_joined 106 = .ok (.goto 44, 3) := by decide +kernel
theorem dX4_joined_109 : decode cX4_joined 109 = .ok (.iload_n 1, 1) := by decide +kernel
theorem dX4_joined_110 : decode cX4_joined 110 = .ok (.iload_n 2, 1) := by decide +kernel
theorem dX4_joined_111 : decode cX4_joined 111 = .ok (.if_icmp .ge 7, 3) := by decide +kernel
theorem dX4_joined_114 : decode cX4_joined 114 = .ok (.lconst 1, 1) := by decide +kernel
theorem dX4_joined_115 : decode cX4_joined 115 = .ok (.goto 4, 3) := by decide +kernel
theorem dX4_joined_118 : decode cX4_joined 118 = .ok (.lconst 0, 1) := by decide +kernel
theorem dX4_joined_119 : decode cX4_joined 119 = .ok (.lstore_n 3, 1) := by decide +kernel
theorem dX4_joined_120 : decode cX4_joined 120 = .ok (.goto 30, 3) := by decide +kernel
theorem dX4_joined_123 : decode cX4_joined 123 = .ok (.iload_n 1, 1) := by decide +kernel
theorem dX4_joined_124 : decode cX4_joined 124 = .ok (.iload_n 2, 1) := by decide +kernel
theorem dX4_joined_125 : decode cX4_joined 125 = .ok (.if_icmp .le 7, 3) := by decide +kernel
theorem dX4_joined_128 : decode cX4_joined 128 = .ok (.lconst 1, 1) := by decide +kernel
theorem dX4_joined_129 : decode cX4_joined 129 = .ok (.goto 4, 3) := by decide +kernel
theorem dX4_joined_132 : decode cX4_joined 132 = .ok (.lconst 0, 1) := by decide +kernel
theorem dX4_joined_133 : decode cX4_joined 133 = .ok (.lstore_n 3, 1) := by decide +kernel
theorem dX4_joined_134 : decode cX4_joined 134 = .ok (.goto 16, 3) := by decide +kernel
theorem dX4_joined_137 : decode cX4_joined 137 = .ok (.iload_n 1, 1) := by decide +kernel
theorem dX4_joined_138 : decode cX4_joined 138 = .ok (.iload_n 2, 1) := by decide +kernel
theorem dX4_joined_139 : decode cX4_joined 139 = .ok (.iand, 1) := by decide +kernel
theorem dX4_joined_140 : decode cX4_joined 140 = .ok (.i2l, 1) := by decide +kernel
theorem dX4_joined_141 : decode cX4_joined 141 = .ok (.lstore_n 3, 1) := by decide +kernel
theorem dX4_joined_142 : decode cX4_joined 142 = .ok (.goto 8, 3) := by decide +kernel
theorem dX4_joined_145 : decode cX4_joined 145 = .ok (.iload_n 1, 1) := by decide +kernel
theorem dX4_joined_146 : decode cX4_joined 146 = .ok (.iload_n 2, 1) := by decide +kernel
theorem dX4_joined_147 : decode cX4_joined 147 = .ok (.ior, 1) := by decide +kernel
theorem dX4_joined_148 : decode cX4_joined 148 = .ok (.i2l, 1) := by decide +kernel
theorem dX4_joined_149 : decode cX4_joined 149 = .ok (.lstore_n 3, 1) := by decide +kernel
theorem dX4_joined_150 : decode cX4_joined 150 = .ok (.ldc2_w 25, 3) := by decide +kernel
theorem dX4_joined_153 : decode cX4_joined 153 = .ok (.ldc2_w 27, 3) := by decide +kernel
theorem dX4_joined_156 : decode cX4_joined 156 = .ok (.lload_n 3, 1) := by decide +kernel
theorem dX4_joined_157 : decode cX4_joined 157 = .ok (.invokestatic 29, 3) := by decide +kernel
theorem dX4_joined_160 : decode cX4_joined 160 = .ok (.invokestatic 35, 3) := by decide +kernel
theorem dX4_joined_163 : decode cX4_joined 163 = .ok (.l2i, 1) := by decide +kernel
theorem dX4_joined_164 : decode cX4_joined 164 = .ok (.ireturn, 1) := by decide +kernel
theorem dX4_valueFor_0 : decode cX4_valueFor 0 = .ok (.iconst 0, 1) := by decide +kernel
theorem dX4_valueFor_1 : decode cX4_valueFor 1 = .ok (.istore_n 3, 1) := by decide +kernel
theorem dX4_valueFor_2 : decode cX4_valueFor 2 = .ok (.iconst 0, 1) := by decide +kernel
theorem dX4_valueFor_3 : decode cX4_valueFor 3 = .ok (.istore 4, 2) := by decide +kernel
theorem dX4_valueFor_5 : decode cX4_valueFor 5 = .ok (.iload 4, 2) := by decide +kernel
theorem dX4_valueFor_7 : decode cX4_valueFor 7 = .ok (.aload_n 0, 1) := by decide +kernel
theorem dX4_valueFor_8 : decode cX4_valueFor 8 = .ok (.getfield 15, 3) := by decide +kernel
theorem dX4_valueFor_11 : decode cX4_valueFor 11 = .ok (.arraylength, 1) := by decide +kernel
theorem dX4_valueFor_12 : decode cX4_valueFor 12 = .ok (.if_icmp .ge 127, 3) := by decide +kernel
theorem dX4_valueFor_15 : decode cX4_valueFor 15 = .ok (.aload_n 0, 1) := by decide +kernel
theorem dX4_valueFor_16 : decode cX4_valueFor 16 = .ok (.getfield 15, 3) := by decide +kernel
theorem dX4_valueFor_19 : decode cX4_valueFor 19 = .ok (.iload 4, 2) := by decide +kernel
theorem dX4_valueFor_21 : decode cX4_valueFor 21 = .ok (.iaload, 1) := by decide +kernel
theorem dX4_valueFor_22 : decode cX4_valueFor 22 = .ok (.istore 5, 2) := by decide +kernel
theorem dX4_valueFor_24 : decode cX4_valueFor 24 = .ok (.iload 5, 2) := by decide +kernel
theorem dX4_valueFor_26 : decode cX4_valueFor 26 = .ok (.sipush 2000, 3) := by decide +kernel
theorem dX4_valueFor_29 : decode cX4_valueFor 29 = .ok (.if_icmp .ge 47, 3) := by decide +kernel
theorem dX4_valueFor_32 : decode cX4_valueFor 32 = .ok (.iload 5, 2) := by decide +kernel
theorem dX4_valueFor_34 : decode cX4_valueFor 34 = .ok (.sipush 1000, 3) := by decide +kernel
theorem dX4_valueFor_37 : decode cX4_valueFor 37 = .ok (.isub, 1) := by decide +kernel
theorem dX4_valueFor_38 : decode cX4_valueFor 38 = .ok (.istore 6, 2) := by decide +kernel
theorem dX4_valueFor_40 : decode cX4_valueFor 40 = .ok (.iload_n 3, 1) := by decide +kernel
theorem dX4_valueFor_41 : decode cX4_valueFor 41 = .ok (.aload_n 2, 1) := by decide +kernel
theorem dX4_valueFor_42 : decode cX4_valueFor 42 = .ok (.arraylength, 1) := by decide +kernel
theorem dX4_valueFor_43 : decode cX4_valueFor 43 = .ok (.if_icmp .ge 30, 3) := by decide +kernel
theorem dX4_valueFor_46 : decode cX4_valueFor 46 = .ok (.iload 6, 2) := by decide +kernel
theorem dX4_valueFor_48 : decode cX4_valueFor 48 = .ok (.aload_n 1, 1) := by decide +kernel
theorem dX4_valueFor_49 : decode cX4_valueFor 49 = .ok (.arraylength, 1) := by decide +kernel
theorem dX4_valueFor_50 : decode cX4_valueFor 50 = .ok (.if_icmp .ge 23, 3) := by decide +kernel
theorem dX4_valueFor_53 : decode cX4_valueFor 53 = .ok (.aload_n 2, 1) := by decide +kernel
theorem dX4_valueFor_54 : decode cX4_valueFor 54 = .ok (.iload_n 3, 1) := by decide +kernel
theorem dX4_valueFor_55 : decode cX4_valueFor 55 = .ok (.iload 6, 2) := by decide +kernel
theorem dX4_valueFor_57 : decode cX4_valueFor 57 = .ok (.ifCond .ge 8, 3) := by decide +kernel
theorem dX4_valueFor_60 : decode cX4_valueFor 60 = .ok (.iload 5, 2) := by decide +kernel
theorem dX4_valueFor_62 : decode cX4_valueFor 62 = .ok (.goto 7, 3) := by decide +kernel
theorem dX4_valueFor_65 : decode cX4_valueFor 65 = .ok (.aload_n 1, 1) := by decide +kernel
theorem dX4_valueFor_66 : decode cX4_valueFor 66 = .ok (.iload 6, 2) := by decide +kernel
theorem dX4_valueFor_68 : decode cX4_valueFor 68 = .ok (.iaload, 1) := by decide +kernel
theorem dX4_valueFor_69 : decode cX4_valueFor 69 = .ok (.iastore, 1) := by decide +kernel
theorem dX4_valueFor_70 : decode cX4_valueFor 70 = .ok (.iinc 3 1, 3) := by decide +kernel
theorem dX4_valueFor_73 : decode cX4_valueFor 73 = .ok (.goto 60, 3) := by decide +kernel
theorem dX4_valueFor_76 : decode cX4_valueFor 76 = .ok (.iload 5, 2) := by decide +kernel
theorem dX4_valueFor_78 : decode cX4_valueFor 78 = .ok (.sipush 2023, 3) := by decide +kernel
theorem dX4_valueFor_81 : decode cX4_valueFor 81 = .ok (.if_icmp .ne 22, 3) := by decide +kernel
theorem dX4_valueFor_84 : decode cX4_valueFor 84 = .ok (.iload_n 3, 1) := by decide +kernel
theorem dX4_valueFor_85 : decode cX4_valueFor 85 = .ok (.ifCond .le 48, 3) := by decide +kernel
theorem dX4_valueFor_88 : decode cX4_valueFor 88 = .ok (.aload_n 2, 1) := by decide +kernel
theorem dX4_valueFor_89 : decode cX4_valueFor 89 = .ok (.iload_n 3, 1) := by decide +kernel
theorem dX4_valueFor_90 : decode cX4_valueFor 90 = .ok (.iconst 1, 1) := by decide +kernel
theorem dX4_valueFor_91 : decode cX4_valueFor 91 = .ok (.isub, 1) := by decide +kernel
theorem dX4_valueFor_92 : decode cX4_valueFor 92 = .ok (.iconst 1, 1) := by decide +kernel
theorem dX4_valueFor_93 : decode cX4_valueFor 93 = .ok (.aload_n 2, 1) := by decide +kernel
theorem dX4_valueFor_94 : decode cX4_valueFor 94 = .ok (.iload_n 3, 1) := by decide +kernel
theorem dX4_valueFor_95 : decode cX4_valueFor 95 = .ok (.iconst 1, 1) := by decide +kernel
theorem dX4_valueFor_96 : decode cX4_valueFor 96 = .ok (.isub, 1) := by decide +kernel
theorem dX4_valueFor_97 : decode cX4_valueFor 97 = .ok (.iaload, 1) := by decide +kernel
theorem dX4_valueFor_98 : decode cX4_valueFor 98 = .ok (.isub, 1) := by decide +kernel
theorem dX4_valueFor_99 : decode cX4_valueFor 99 = .ok (.iastore, 1) := by decide +kernel
theorem dX4_valueFor_100 : decode cX4_valueFor 100 = .ok (.goto 33, 3) := by decide +kernel
theorem dX4_valueFor_103 : decode cX4_valueFor 103 = .ok (.iload_n 3, 1) := by decide +kernel
theorem dX4_valueFor_104 : decode cX4_valueFor 104 = .ok (.iconst 1, 1) := by decide +kernel
theorem dX4_valueFor_105 : decode cX4_valueFor 105 = .ok (.if_icmp .le 28, 3) := by decide +kernel
theorem dX4_valueFor_108 : decode cX4_valueFor 108 = .ok (.iinc 3 (-1), 3) := by decide +kernel
theorem dX4_valueFor_111 : decode cX4_valueFor 111 = .ok (.aload_n 2, 1) := by decide +kernel
theorem dX4_valueFor_112 : decode cX4_valueFor 112 = .ok (.iload_n 3, 1) := by decide +kernel
theorem dX4_valueFor_113 : decode cX4_valueFor 113 = .ok (.iconst 1, 1) := by decide +kernel
theorem dX4_valueFor_114 : decode cX4_valueFor 114 = .ok (.isub, 1) := by decide +kernel
theorem dX4_valueFor_115 : decode cX4_valueFor 115 = .ok (.iload 5, 2) := by decide +kernel
theorem dX4_valueFor_117 : decode cX4_valueFor 117 = .ok (.sipush 2000, 3) := by decide +kernel
theorem dX4_valueFor_120 : decode cX4_valueFor 120 = .ok (.isub, 1) := by decide +kernel
theorem dX4_valueFor_121 : decode cX4_valueFor 121 = .ok (.aload_n 2, 1) := by decide +kernel
theorem dX4_valueFor_122 : decode cX4_valueFor 122 = .ok (.iload_n 3, 1) := by decide +kernel
theorem dX4_valueFor_123 : decode cX4_valueFor 123 = .ok (.iconst 1, 1) := by decide +kernel
theorem dX4_valueFor_124 : decode cX4_valueFor 124 = .ok (.isub, 1) := by decide +kernel
theorem dX4_valueFor_125 : decode cX4_valueFor 125 = .ok (.iaload, 1) := by decide +kernel
theorem dX4_valueFor_126 : decode cX4_valueFor 126 = .ok (.aload_n 2, 1) := by decide +kernel
theorem dX4_valueFor_127 : decode cX4_valueFor 127 = .ok (.iload_n 3, 1) := by decide +kernel
theorem dX4_valueFor_128 : decode cX4_valueFor 128 = .ok (.iaload, 1) := by decide +kernel
theorem dX4_valueFor_129 : decode cX4_valueFor 129 = .ok (.invokestatic 21, 3) := by decide +kernel
theorem dX4_valueFor_132 : decode cX4_valueFor 132 = .ok (.iastore, 1) := by decide +kernel
theorem dX4_valueFor_133 : decode cX4_valueFor 133 = .ok (.iinc 4 1, 3) := by decide +kernel
theorem dX4_valueFor_136 : decode cX4_valueFor 136 = .ok (.goto (-131), 3) := by decide +kernel
theorem dX4_valueFor_139 : decode cX4_valueFor 139 = .ok (.iload_n 3, 1) := by decide +kernel
theorem dX4_valueFor_140 : decode cX4_valueFor 140 = .ok (.ifCond .le 9, 3) := by decide +kernel
theorem dX4_valueFor_143 : decode cX4_valueFor 143 = .ok (.aload_n 2, 1) := by decide +kernel
theorem dX4_valueFor_144 : decode cX4_valueFor 144 = .ok (.iconst 0, 1) := by decide +kernel
theorem dX4_valueFor_145 : decode cX4_valueFor 145 = .ok (.iaload, 1) := by decide +kernel
theorem dX4_valueFor_146 : decode cX4_valueFor 146 = .ok (.goto 4, 3) := by decide +kernel
theorem dX4_valueFor_149 : decode cX4_valueFor 149 = .ok (.iconst 0, 1) := by decide +kernel
theorem dX4_valueFor_150 : decode cX4_valueFor 150 = .ok (.ireturn, 1) := by decide +kernel
theorem dX6_areOpposites_0 : decode cX6_areOpposites 0 = .ok (.aload_n 1, 1) := by decide +kernel
theorem dX6_areOpposites_1 : decode cX6_areOpposites 1 = .ok (.getfield 28, 3) := by decide +kernel
theorem dX6_areOpposites_4 : decode cX6_areOpposites 4 = .ok (.getfield 34, 3) := by decide +kernel
theorem dX6_areOpposites_7 : decode cX6_areOpposites 7 = .ok (.astore 6, 2) := by decide +kernel
theorem dX6_areOpposites_9 : decode cX6_areOpposites 9 = .ok (.aload_n 1, 1) := by decide +kernel
theorem dX6_areOpposites_10 : decode cX6_areOpposites 10 = .ok (.getfield 40, 3) := by decide +kernel
theorem dX6_areOpposites_13 : decode cX6_areOpposites 13 = .ok (.iload 4, 2) := by decide +kernel
theorem dX6_areOpposites_15 : decode cX6_areOpposites 15 = .ok (.iaload, 1) := by decide +kernel
theorem dX6_areOpposites_16 : decode cX6_areOpposites 16 = .ok (.istore 7, 2) := by decide +kernel
theorem dX6_areOpposites_18 : decode cX6_areOpposites 18 = .ok (.aload 6, 2) := by decide +kernel
theorem dX6_areOpposites_20 : decode cX6_areOpposites 20 = .ok (.ifnonnull 24, 3) := by decide +kernel
theorem dX6_areOpposites_23 : decode cX6_areOpposites 23 = .ok (.iload_n 3, 1) := by decide +kernel
theorem dX6_areOpposites_24 : decode cX6_areOpposites 24 = .ok (.bipush 100, 2) := by decide +kernel
theorem dX6_areOpposites_26 : decode cX6_areOpposites 26 = .ok (.idiv, 1) := by decide +kernel
theorem dX6_areOpposites_27 : decode cX6_areOpposites 27 = .ok (.iload 7, 2) := by decide +kernel
theorem dX6_areOpposites_29 : decode cX6_areOpposites 29 = .ok (.bipush 100, 2) := by decide +kernel
theorem dX6_areOpposites_31 : decode cX6_areOpposites 31 = .ok (.idiv, 1) := by decide +kernel
theorem dX6_areOpposites_32 : decode cX6_areOpposites 32 = .ok (.iadd, 1) := by decide +kernel
theorem dX6_areOpposites_33 : decode cX6_areOpposites 33 = .ok (.bipush 9, 2) := by decide +kernel
theorem dX6_areOpposites_35 : decode cX6_areOpposites 35 = .ok (.if_icmp .ne 7, 3) := by decide +kernel
theorem dX6_areOpposites_38 : decode cX6_areOpposites 38 = .ok (.iconst 1, 1) := by decide +kernel
theorem dX6_areOpposites_39 : decode cX6_areOpposites 39 = .ok (.goto 4, 3) := by decide +kernel
theorem dX6_areOpposites_42 : decode cX6_areOpposites 42 = .ok (.iconst 0, 1) := by decide +kernel
theorem dX6_areOpposites_43 : decode cX6_areOpposites 43 = .ok (.ireturn, 1) := by decide +kernel
theorem dX6_areOpposites_44 : decode cX6_areOpposites 44 = .ok (.aload_n 0, 1) := by decide +kernel
theorem dX6_areOpposites_45 : decode cX6_areOpposites 45 = .ok (.getfield 9, 3) := by decide +kernel
theorem dX6_areOpposites_48 : decode cX6_areOpposites 48 = .ok (.bipush 8, 2) := by decide +kernel
theorem dX6_areOpposites_50 : decode cX6_areOpposites 50 = .ok (.iload 5, 2) := by decide +kernel
theorem dX6_areOpposites_52 : decode cX6_areOpposites 52 = .ok (.bipush 7, 2) := by decide +kernel
theorem dX6_areOpposites_54 : decode cX6_areOpposites 54 = .ok (.irem, 1) := by decide +kernel
theorem dX6_areOpposites_55 : decode cX6_areOpposites 55 = .ok (.iastore, 1) := by decide +kernel
theorem dX6_areOpposites_56 : decode cX6_areOpposites 56 = .ok (.aload_n 0, 1) := by decide +kernel
theorem dX6_areOpposites_57 : decode cX6_areOpposites 57 = .ok (.aload 6, 2) := by decide +kernel
theorem dX6_areOpposites_59 : decode cX6_areOpposites 59 = .ok (.iload_n 2, 1) := by decide +kernel
theorem dX6_areOpposites_60 : decode cX6_areOpposites 60 = .ok (.iload_n 3, 1) := by decide +kernel
theorem dX6_areOpposites_61 : decode cX6_areOpposites 61 = .ok (.iload 4, 2) := by decide +kernel
theorem dX6_areOpposites_63 : decode cX6_areOpposites 63 = .ok (.iload 7, 2) := by decide +kernel
theorem dX6_areOpposites_65 : decode cX6_areOpposites 65 = .ok (.invokevirtual 43, 3) := by decide +kernel
theorem dX6_areOpposites_68 : decode cX6_areOpposites 68 = .ok (.ifCond .ne 18, 3) := by decide +kernel
theorem dX6_areOpposites_71 : decode cX6_areOpposites 71 = .ok (.aload_n 0, 1) := by decide +kernel
theorem dX6_areOpposites_72 : decode cX6_areOpposites 72 = .ok (.aload 6, 2) := by decide +kernel
theorem dX6_areOpposites_74 : decode cX6_areOpposites 74 = .ok (.iload 4, 2) := by decide +kernel
theorem dX6_areOpposites_76 : decode cX6_areOpposites 76 = .ok (.iload 7, 2) := by decide +kernel
theorem dX6_areOpposites_78 : decode cX6_areOpposites 78 = .ok (.iload_n 2, 1) := by decide +kernel
theorem dX6_areOpposites_79 : decode cX6_areOpposites 79 = .ok (.iload_n 3, 1) := by decide +kernel
theorem dX6_areOpposites_80 : decode cX6_areOpposites 80 = .ok (.invokevirtual 43, 3) := by decide +kernel
theorem dX6_areOpposites_83 : decode cX6_areOpposites 83 = .ok (.ifCond .eq 7, 3) := by decide +kernel
theorem dX6_areOpposites_86 : decode cX6_areOpposites 86 = .ok (.iconst 1, 1) := by decide +kernel
theorem dX6_areOpposites_87 : decode cX6_areOpposites 87 = .ok (.goto 4, 3) := by decide +kernel
theorem dX6_areOpposites_90 : decode cX6_areOpposites 90 = .ok (.iconst 0, 1) := by decide +kernel
theorem dX6_areOpposites_91 : decode cX6_areOpposites 91 = .ok (.ireturn, 1) := by decide +kernel
theorem dX6_opposesOneWay_0 : decode cX6_opposesOneWay 0 = .ok (.aload_n 0, 1) := by decide +kernel
theorem dX6_opposesOneWay_1 : decode cX6_opposesOneWay 1 = .ok (.iconst 0, 1) := by decide +kernel
theorem dX6_opposesOneWay_2 : decode cX6_opposesOneWay 2 = .ok (.iload_n 3, 1) := by decide +kernel
theorem dX6_opposesOneWay_3 : decode cX6_opposesOneWay 3 = .ok (.iload_n 2, 1) := by decide +kernel
theorem dX6_opposesOneWay_4 : decode cX6_opposesOneWay 4 = .ok (.invokevirtual 18, 3) := by decide +kernel
theorem dX6_opposesOneWay_7 : decode cX6_opposesOneWay 7 = .ok (.aload_n 0, 1) := by decide +kernel
theorem dX6_opposesOneWay_8 : decode cX6_opposesOneWay 8 = .ok (.iconst 4, 1) := by decide +kernel
theorem dX6_opposesOneWay_9 : decode cX6_opposesOneWay 9 = .ok (.iload 5, 2) := by decide +kernel
theorem dX6_opposesOneWay_11 : decode cX6_opposesOneWay 11 = .ok (.iload 4, 2) := by decide +kernel
theorem dX6_opposesOneWay_13 : decode cX6_opposesOneWay 13 = .ok (.invokevirtual 18, 3) := by decide +kernel
theorem dX6_opposesOneWay_16 : decode cX6_opposesOneWay 16 = .ok (.aload_n 1, 1) := by decide +kernel
theorem dX6_opposesOneWay_17 : decode cX6_opposesOneWay 17 = .ok (.aload_n 0, 1) := by decide +kernel
theorem dX6_opposesOneWay_18 : decode cX6_opposesOneWay 18 = .ok (.getfield 9, 3) := by decide +kernel
theorem dX6_opposesOneWay_21 : decode cX6_opposesOneWay 21 = .ok (.aload_n 0, 1) := by decide +kernel
theorem dX6_opposesOneWay_22 : decode cX6_opposesOneWay 22 = .ok (.getfield 15, 3) := by decide +kernel
theorem dX6_opposesOneWay_25 : decode cX6_opposesOneWay 25 = .ok (.invokevirtual 22, 3) := by decide +kernel
theorem dX6_opposesOneWay_28 : decode cX6_opposesOneWay 28 = .ok (.ifCond .eq 7, 3) := by decide +kernel
theorem dX6_opposesOneWay_31 : decode cX6_opposesOneWay 31 = .ok (.iconst 1, 1) := by decide +kernel
theorem dX6_opposesOneWay_32 : decode cX6_opposesOneWay 32 = .ok (.goto 4, 3) := by decide +kernel
theorem dX6_opposesOneWay_35 : decode cX6_opposesOneWay 35 = .ok (.iconst 0, 1) := by decide +kernel
theorem dX6_opposesOneWay_36 : decode cX6_opposesOneWay 36 = .ok (.ireturn, 1) := by decide +kernel
theorem dX6_put_0 : decode cX6_put 0 = .ok (.aload_n 0, 1) := by decide +kernel
theorem dX6_put_1 : decode cX6_put 1 = .ok (.getfield 9, 3) := by decide +kernel
theorem dX6_put_4 : decode cX6_put 4 = .ok (.iload_n 1, 1) := by decide +kernel
theorem dX6_put_5 : decode cX6_put 5 = .ok (.iload_n 2, 1) := by decide +kernel
theorem dX6_put_6 : decode cX6_put 6 = .ok (.bipush 100, 2) := by decide +kernel
theorem dX6_put_8 : decode cX6_put 8 = .ok (.idiv, 1) := by decide +kernel
theorem dX6_put_9 : decode cX6_put 9 = .ok (.iastore, 1) := by decide +kernel
theorem dX6_put_10 : decode cX6_put 10 = .ok (.aload_n 0, 1) := by decide +kernel
theorem dX6_put_11 : decode cX6_put 11 = .ok (.getfield 9, 3) := by decide +kernel
theorem dX6_put_14 : decode cX6_put 14 = .ok (.iload_n 1, 1) := by decide +kernel
theorem dX6_put_15 : decode cX6_put 15 = .ok (.iconst 1, 1) := by decide +kernel
theorem dX6_put_16 : decode cX6_put 16 = .ok (.iadd, 1) := by decide +kernel
theorem dX6_put_17 : decode cX6_put 17 = .ok (.iload_n 2, 1) := by decide +kernel
theorem dX6_put_18 : decode cX6_put 18 = .ok (.bipush 10, 2) := by decide +kernel
theorem dX6_put_20 : decode cX6_put 20 = .ok (.idiv, 1) := by decide +kernel
theorem dX6_put_21 : decode cX6_put 21 = .ok (.bipush 10, 2) := by decide +kernel
theorem dX6_put_23 : decode cX6_put 23 = .ok (.irem, 1) := by decide +kernel
theorem dX6_put_24 : decode cX6_put 24 = .ok (.iastore, 1) := by decide +kernel
theorem dX6_put_25 : decode cX6_put 25 = .ok (.aload_n 0, 1) := by decide +kernel
theorem dX6_put_26 : decode cX6_put 26 = .ok (.getfield 9, 3) := by decide +kernel
theorem dX6_put_29 : decode cX6_put 29 = .ok (.iload_n 1, 1) := by decide +kernel
theorem dX6_put_30 : decode cX6_put 30 = .ok (.iconst 2, 1) := by decide +kernel
theorem dX6_put_31 : decode cX6_put 31 = .ok (.iadd, 1) := by decide +kernel
theorem dX6_put_32 : decode cX6_put 32 = .ok (.iload_n 2, 1) := by decide +kernel
theorem dX6_put_33 : decode cX6_put 33 = .ok (.bipush 10, 2) := by decide +kernel
theorem dX6_put_35 : decode cX6_put 35 = .ok (.irem, 1) := by decide +kernel
theorem dX6_put_36 : decode cX6_put 36 = .ok (.iastore, 1) := by decide +kernel
theorem dX6_put_37 : decode cX6_put 37 = .ok (.aload_n 0, 1) := by decide +kernel
theorem dX6_put_38 : decode cX6_put 38 = .ok (.getfield 9, 3) := by decide +kernel
theorem dX6_put_41 : decode cX6_put 41 = .ok (.iload_n 1, 1) := by decide +kernel
theorem dX6_put_42 : decode cX6_put 42 = .ok (.iconst 3, 1) := by decide +kernel
theorem dX6_put_43 : decode cX6_put 43 = .ok (.iadd, 1) := by decide +kernel
theorem dX6_put_44 : decode cX6_put 44 = .ok (.iload_n 3, 1) := by decide +kernel
theorem dX6_put_45 : decode cX6_put 45 = .ok (.iastore, 1) := by decide +kernel
theorem dX6_put_46 : decode cX6_put 46 = .ok (.return_, 1) := by decide +kernel
theorem dX6_rowOf_0 : decode cX6_rowOf 0 = .ok (.iconst 0, 1) := by decide +kernel
theorem dX6_rowOf_1 : decode cX6_rowOf 1 = .ok (.istore 5, 2) := by decide +kernel
theorem dX6_rowOf_3 : decode cX6_rowOf 3 = .ok (.iconst 0, 1) := by decide +kernel
theorem dX6_rowOf_4 : decode cX6_rowOf 4 = .ok (.istore 6, 2) := by decide +kernel
theorem dX6_rowOf_6 : decode cX6_rowOf 6 = .ok (.iload 6, 2) := by decide +kernel
theorem dX6_rowOf_8 : decode cX6_rowOf 8 = .ok (.aload_n 1, 1) := by decide +kernel
theorem dX6_rowOf_9 : decode cX6_rowOf 9 = .ok (.getfield 28, 3) := by decide +kernel
theorem dX6_rowOf_12 : decode cX6_rowOf 12 = .ok (.getfield 47, 3) := by decide +kernel
theorem dX6_rowOf_15 : decode cX6_rowOf 15 = .ok (.if_icmp .ge 38, 3) := by decide +kernel
theorem dX6_rowOf_18 : decode cX6_rowOf 18 = .ok (.iload 6, 2) := by decide +kernel
theorem dX6_rowOf_20 : decode cX6_rowOf 20 = .ok (.iload_n 2, 1) := by decide +kernel
theorem dX6_rowOf_21 : decode cX6_rowOf 21 = .ok (.if_icmp .eq 26, 3) := by decide +kernel
theorem dX6_rowOf_24 : decode cX6_rowOf 24 = .ok (.aload_n 0, 1) := by decide +kernel
theorem dX6_rowOf_25 : decode cX6_rowOf 25 = .ok (.aload_n 1, 1) := by decide +kernel
theorem dX6_rowOf_26 : decode cX6_rowOf 26 = .ok (.iload_n 2, 1) := by decide +kernel
theorem dX6_rowOf_27 : decode cX6_rowOf 27 = .ok (.iload_n 3, 1) := by decide +kernel
theorem dX6_rowOf_28 : decode cX6_rowOf 28 = .ok (.iload 6, 2) := by decide +kernel
theorem dX6_rowOf_30 : decode cX6_rowOf 30 = .ok (.iload 4, 2) := by decide +kernel
theorem dX6_rowOf_32 : decode cX6_rowOf 32 = .ok (.invokevirtual 51, 3) := by decide +kernel
theorem dX6_rowOf_35 : decode cX6_rowOf 35 = .ok (.ifCond .eq 12, 3) := by decide +kernel
theorem dX6_rowOf_38 : decode cX6_rowOf 38 = .ok (.iload 5, 2) := by decide +kernel
theorem dX6_rowOf_40 : decode cX6_rowOf 40 = .ok (.iconst 1, 1) := by decide +kernel
theorem dX6_rowOf_41 : decode cX6_rowOf 41 = .ok (.iload 6, 2) := by decide +kernel
theorem dX6_rowOf_43 : decode cX6_rowOf 43 = .ok (.ishl, 1) := by decide +kernel
theorem dX6_rowOf_44 : decode cX6_rowOf 44 = .ok (.ior, 1) := by decide +kernel
theorem dX6_rowOf_45 : decode cX6_rowOf 45 = .ok (.istore 5, 2) := by decide +kernel
theorem dX6_rowOf_47 : decode cX6_rowOf 47 = .ok (.iinc 6 1, 3) := by decide +kernel
theorem dX6_rowOf_50 : decode cX6_rowOf 50 = .ok (.goto (-44), 3) := by decide +kernel
theorem dX6_rowOf_53 : decode cX6_rowOf 53 = .ok (.iload 5, 2) := by decide +kernel
theorem dX6_rowOf_55 : decode cX6_rowOf 55 = .ok (.ireturn, 1) := by decide +kernel
theorem dX7_inTown_0 : decode cX7_inTown 0 = .ok (.aload_n 0, 1) := by decide +kernel
theorem dX7_inTown_1 : decode cX7_inTown 1 = .ok (.aload_n 0, 1) := by decide +kernel
theorem dX7_inTown_2 : decode cX7_inTown 2 = .ok (.getfield 9, 3) := by decide +kernel
theorem dX7_inTown_5 : decode cX7_inTown 5 = .ok (.invokevirtual 38, 3) := by decide +kernel
theorem dX7_inTown_8 : decode cX7_inTown 8 = .ok (.ireturn, 1) := by decide +kernel
theorem dX7_inTownOn_0 : decode cX7_inTownOn 0 = .ok (.iconst 0, 1) := by decide +kernel
theorem dX7_inTownOn_1 : decode cX7_inTownOn 1 = .ok (.istore_n 2, 1) := by decide +kernel
theorem dX7_inTownOn_2 : decode cX7_inTownOn 2 = .ok (.iconst 0, 1) := by decide +kernel
theorem dX7_inTownOn_3 : decode cX7_inTownOn 3 = .ok (.istore_n 3, 1) := by decide +kernel
theorem dX7_inTownOn_4 : decode cX7_inTownOn 4 = .ok (.iload_n 3, 1) := by decide +kernel
theorem dX7_inTownOn_5 : decode cX7_inTownOn 5 = .ok (.aload_n 0, 1) := by decide +kernel
theorem dX7_inTownOn_6 : decode cX7_inTownOn 6 = .ok (.getfield 22, 3) := by decide +kernel
theorem dX7_inTownOn_9 : decode cX7_inTownOn 9 = .ok (.getfield 42, 3) := by decide +kernel
theorem dX7_inTownOn_12 : decode cX7_inTownOn 12 = .ok (.if_icmp .ge 41, 3) := by decide +kernel
theorem dX7_inTownOn_15 : decode cX7_inTownOn 15 = .ok (.aload_n 0, 1) := by decide +kernel
theorem dX7_inTownOn_16 : decode cX7_inTownOn 16 = .ok (.getfield 22, 3) := by decide +kernel
theorem dX7_inTownOn_19 : decode cX7_inTownOn 19 = .ok (.getfield 45, 3) := by decide +kernel
theorem dX7_inTownOn_22 : decode cX7_inTownOn 22 = .ok (.iload_n 3, 1) := by decide +kernel
theorem dX7_inTownOn_23 : decode cX7_inTownOn 23 = .ok (.iaload, 1) := by decide +kernel
theorem dX7_inTownOn_24 : decode cX7_inTownOn 24 = .ok (.iload_n 1, 1) := by decide +kernel
theorem dX7_inTownOn_25 : decode cX7_inTownOn 25 = .ok (.if_icmp .gt 22, 3) := by decide +kernel
theorem dX7_inTownOn_28 : decode cX7_inTownOn 28 = .ok (.iload_n 1, 1) := by decide +kernel
theorem dX7_inTownOn_29 : decode cX7_inTownOn 29 = .ok (.aload_n 0, 1) := by decide +kernel
theorem dX7_inTownOn_30 : decode cX7_inTownOn 30 = .ok (.getfield 22, 3) := by decide +kernel
theorem dX7_inTownOn_33 : decode cX7_inTownOn 33 = .ok (.getfield 48, 3) := by decide +kernel
theorem dX7_inTownOn_36 : decode cX7_inTownOn 36 = .ok (.iload_n 3, 1) := by decide +kernel
theorem dX7_inTownOn_37 : decode cX7_inTownOn 37 = .ok (.iaload, 1) := by decide +kernel
theorem dX7_inTownOn_38 : decode cX7_inTownOn 38 = .ok (.if_icmp .gt 9, 3) := by decide +kernel
theorem dX7_inTownOn_41 : decode cX7_inTownOn 41 = .ok (.iload_n 2, 1) := by decide +kernel
theorem dX7_inTownOn_42 : decode cX7_inTownOn 42 = .ok (.iconst 1, 1) := by decide +kernel
theorem dX7_inTownOn_43 : decode cX7_inTownOn 43 = .ok (.iload_n 3, 1) := by decide +kernel
theorem dX7_inTownOn_44 : decode cX7_inTownOn 44 = .ok (.ishl, 1) := by decide +kernel
theorem dX7_inTownOn_45 : decode cX7_inTownOn 45 = .ok (.ior, 1) := by decide +kernel
theorem dX7_inTownOn_46 : decode cX7_inTownOn 46 = .ok (.istore_n 2, 1) := by decide +kernel
theorem dX7_inTownOn_47 : decode cX7_inTownOn 47 = .ok (.iinc 3 1, 3) := by decide +kernel
theorem dX7_inTownOn_50 : decode cX7_inTownOn 50 = .ok (.goto (-46), 3) := by decide +kernel
theorem dX7_inTownOn_53 : decode cX7_inTownOn 53 = .ok (.iload_n 2, 1) := by decide +kernel
theorem dX7_inTownOn_54 : decode cX7_inTownOn 54 = .ok (.aload_n 0, 1) := by decide +kernel
theorem dX7_inTownOn_55 : decode cX7_inTownOn 55 = .ok (.getfield 15, 3) := by decide +kernel
theorem dX7_inTownOn_58 : decode cX7_inTownOn 58 = .ok (.iconst (-1), 1) := by decide +kernel
theorem dX7_inTownOn_59 : decode cX7_inTownOn 59 = .ok (.ixor, 1) := by decide +kernel
theorem dX7_inTownOn_60 : decode cX7_inTownOn 60 = .ok (.iand, 1) := by decide +kernel
theorem dX7_inTownOn_61 : decode cX7_inTownOn 61 = .ok (.ireturn, 1) := by decide +kernel
set_option maxHeartbeats 4000000 in
set_option maxRecDepth 100000 in
theorem gX11_putOnTape_646e11c (l : Launch) (D : va_G) (cy : Nat → ClassId) (h0 : Nat) (h1 : Nat) (p0 : Int32) (p1 : Int32) (p2 : Int32) (p3 : Int32) (w0 : Value) (w1 : Value) (w2 : Value) (w3 : Value) (w4 : Value) (w5 : Value) (w6 : Value) (w7 : Value) (w8 : Value) (w9 : Value) (w10 : Value) (w11 : Value) (p4 : Int32) (f0 : Nat → Int32) (hp0 : (-2147483648) ≤ (p0).toInt ∧ (p0).toInt ≤ 2147483647) (hp1 : 0 ≤ (p1).toInt ∧ (p1).toInt ≤ 900) (hp2 : (-2147483648) ≤ (p2).toInt ∧ (p2).toInt ≤ 2147483647) (hp3 : (-2147483648) ≤ (p3).toInt ∧ (p3).toInt ≤ 2147483647) (hp4 : (-2147483648) ≤ (p4).toInt ∧ (p4).toInt ≤ 2147483647) (sz : Nat) : MV l yX11_putOnTape cX11_putOnTape 3 { frames := 0, cells := 0, slots := 0, locals := 0 } [.ref h0, .int p0] D cy [(h0, .inr (11, [.ref h1, .int p1, .int p2, .int p3, w0, w1, w2, w3, w4, w5, w6, w7, w8, w9, w10, w11, .int p4])), (h1, .inl (cy 0, 900, .inl f0))] sz (fun u => (0 ≤ (u.2.1 0 0).toInt ∧ (u.2.1 0 0).toInt ≤ 900) ∧ True) (fun u => [(h0, .inr (11, [.ref h1, .int (u.2.1 0 0), .int p2, .int p3, w0, w1, w2, w3, w4, w5, w6, w7, w8, w9, w10, w11, .int p4])), (h1, .inl (cy 0, 900, .inl (u.2.1 1)))]) 0 0 := by
  refine q_ent (own := RX11) (by decide) rfl (Nat.le_of_ble_eq_true rfl) (fun p e s m below meth c ls X hr hlk hnm hK hT h hA hl => ?_)
  obtain ⟨hx, hb, hml, hown, ht⟩ := id X
  replace hl : lv_has ls 3 [(0, .ref h0), (1, .int p0)] := hl
  refine lv_bipush (v := 24) hx hb dX11_putOnTape_0 (by decide) ?_
  refine lv_istore_n (lv' := [(2, .int 24), (0, .ref h0), (1, .int p0)]) hx hb dX11_putOnTape_2 rfl hl (by decide) rfl (fun ls_1 hl_1 => ?_)
  clear hl
  refine q_wl (fun (q : Int32 × Int32) H locs ls => match q with | (v3_2_0, v3_2_1) => ∃ v3_2_2 : Nat → Int32, ((-9) ≤ (v3_2_0).toInt ∧ (v3_2_0).toInt ≤ 24) ∧ (0 ≤ (v3_2_1).toInt ∧ (v3_2_1).toInt ≤ 900) ∧ qW D (va_A [(h0, .inr (11, [.ref h1, .int p1, .int p2, .int p3, w0, w1, w2, w3, w4, w5, w6, w7, w8, w9, w10, w11, .int p4])), (h1, .inl (cy 0, 900, .inl f0))] sz) s.heap [(h0, .inr (11, [.ref h1, .int v3_2_1, .int p2, .int p3, w0, w1, w2, w3, w4, w5, w6, w7, w8, w9, w10, w11, .int p4])), (h1, .inl (cy 0, 900, .inl v3_2_2))] H locs ∧ lv_has ls 3 [(0, .ref h0), (1, .int p0), (2, .int v3_2_0)]) (fun (q : Int32 × Int32) => match q with | (v3_2_0, v3_2_1) => ((v3_2_0).toInt - (-10)).toNat) (fun q_3 ih_3 H locs ls hP => ?_) (24, p1) ⟨f0, ⟨by decide +kernel, by decide +kernel⟩, hp1, h, (lv_sub hl_1 [1, 2, 0] rfl)⟩
  obtain ⟨v3_2_0, v3_2_1⟩ := q_3
  obtain ⟨v3_2_2, hv3_2_0, hv3_2_1, h, hl⟩ := hP
  refine lv_iload_n hx hb dX11_putOnTape_3 rfl (lv_at hl 2 rfl) ?_
  refine q_jn (pc2 := 46) (fun H locs ls st => st = [] ∧ qW D (va_A [(h0, .inr (11, [.ref h1, .int p1, .int p2, .int p3, w0, w1, w2, w3, w4, w5, w6, w7, w8, w9, w10, w11, .int p4])), (h1, .inl (cy 0, 900, .inl f0))] sz) s.heap [(h0, .inr (11, [.ref h1, .int v3_2_1, .int p2, .int p3, w0, w1, w2, w3, w4, w5, w6, w7, w8, w9, w10, w11, .int p4])), (h1, .inl (cy 0, 900, .inl v3_2_2))] H locs ∧ lv_has ls 3 [(0, .ref h0), (1, .int p0), (2, .int v3_2_0)]) (fun H locs ls st hP => ?_) (fun J_46 => ?_)
  · obtain ⟨rfl, h, hl⟩ := hP
    exact q_vret X hr hlk hK h (fun _ => 0, fun k => List.getD [(fun _ => v3_2_1), v3_2_2] k (fun _ => 0), fun _ _ => 0) ⟨(hv3_2_1 : 0 ≤ (v3_2_1 : Int32).toInt ∧ (v3_2_1 : Int32).toInt ≤ 900), trivial⟩ [0, 1] rfl rfl dX11_putOnTape_46 (Nat.le_of_ble_eq_true rfl) (Nat.le_of_ble_eq_true rfl)
  · skip
    refine lv_if_lt (tgt := 46) hx hb dX11_putOnTape_4 (by decide) (fun c_4 => ?_) (fun c_4 => ?_)
    · replace c_4 := i_lt (x := v3_2_0) (y := 0) rfl (show (0 : Int32).toInt = 0 by decide) c_4
      exact J_46 _ _ _ _ ⟨rfl, h, (lv_sub hl [0, 1, 2] rfl)⟩
    · replace c_4 := i_nlt (x := v3_2_0) (y := 0) rfl (show (0 : Int32).toInt = 0 by decide) c_4
      refine lv_aload_n hx hb dX11_putOnTape_7 rfl (lv_at hl 0 rfl) ?_
      refine q_get X hK h 0 rfl rfl wf_11 1 (by decide) rfl wm_2_99 dX11_putOnTape_8 ?_
      refine lv_sipush (v := 900) hx hb dX11_putOnTape_11 (by decide) ?_
      refine lv_icmp_ge (tgt := 46) hx hb dX11_putOnTape_14 (by decide) (fun c_5 => ?_) (fun c_5 => ?_)
      · replace c_5 := i_le (x := 900) (y := v3_2_1) (show (900 : Int32).toInt = 900 by decide) rfl c_5
        exact J_46 _ _ _ _ ⟨rfl, h, (lv_sub hl [0, 1, 2] rfl)⟩
      · replace c_5 := i_nle (x := 900) (y := v3_2_1) (show (900 : Int32).toInt = 900 by decide) rfl c_5
        refine lv_aload_n hx hb dX11_putOnTape_17 rfl (lv_at hl 0 rfl) ?_
        refine q_get X hK h 0 rfl rfl wf_11 0 (by decide) rfl wm_2_98 dX11_putOnTape_18 ?_
        refine lv_aload_n hx hb dX11_putOnTape_21 rfl (lv_at hl 0 rfl) ?_
        refine q_get X hK h 0 rfl rfl wf_11 1 (by decide) rfl wm_2_99 dX11_putOnTape_22 ?_
        refine lv_iload_n hx hb dX11_putOnTape_25 rfl (lv_at hl 1 rfl) ?_
        refine lv_iload_n hx hb dX11_putOnTape_26 rfl (lv_at hl 2 rfl) ?_
        refine lv_iushr hx hb dX11_putOnTape_27 rfl ?_
        refine q_any (fun z_6 hz_6 => ?_)
        refine lv_i2b hx hb dX11_putOnTape_28 rfl ?_
        obtain ⟨z_7, ez_7, hz_7⟩ := e_i2b z_6
        refine q_c z_7 ez_7 ?_
        clear ez_7
        refine q_bast X hK h 1 rfl (i_in rfl (by omega) (by omega)) dX11_putOnTape_29 (fun H locs h_9 => ?_)
        clear h
        replace h_9 : qW D _ _ [(h0, .inr (11, [.ref h1, .int v3_2_1, .int p2, .int p3, w0, w1, w2, w3, w4, w5, w6, w7, w8, w9, w10, w11, .int p4])), (h1, .inl (cy 0, 900, .inl (upd v3_2_2 (Int32.toNatClampNeg v3_2_1) (vp_nar .byte z_7))))] _ _ := h_9
        obtain ⟨F_8, eF_8⟩ : ∃ z, (upd v3_2_2 (Int32.toNatClampNeg v3_2_1) (vp_nar .byte z_7)) = z := ⟨_, rfl⟩
        rw [eF_8] at h_9
        clear eF_8
        refine lv_aload_n hx hb dX11_putOnTape_30 rfl (lv_at hl 0 rfl) ?_
        refine lv_dup hx hb dX11_putOnTape_31 rfl ?_
        refine q_get X hK h_9 0 rfl rfl wf_11 1 (by decide) rfl wm_2_99 dX11_putOnTape_32 ?_
        refine lv_iconst (v := 1) hx hb dX11_putOnTape_35 (by decide) ?_
        refine lv_iadd hx hb dX11_putOnTape_36 ?_
        obtain ⟨z_10, ez_10, hz_10⟩ := e_add (x := v3_2_1) (y := 1) rfl (show (1 : Int32).toInt = 1 by decide) (by omega) (by omega)
        refine q_c z_10 ez_10 ?_
        clear ez_10
        refine q_put (v := .int z_10) X hK h_9 0 rfl rfl wf_11 tyX11 tyX11_ok nmX11 1 (by decide) wm_2_99 rfl rfl rfl (Nat.le_of_ble_eq_true rfl) dX11_putOnTape_37 (fun H locs h_11 => ?_)
        clear h_9
        replace h_11 : qW D _ _ [(h0, .inr (11, [.ref h1, .int z_10, .int p2, .int p3, w0, w1, w2, w3, w4, w5, w6, w7, w8, w9, w10, w11, .int p4])), (h1, .inl (cy 0, 900, .inl F_8))] _ _ := h_11
        obtain ⟨z_12, ez_12, hz_12⟩ := e_add (x := v3_2_0) (y := Int32.ofInt (-8)) rfl (b := (-8)) (by decide) (by omega) (by omega)
        refine lv_iinc (v := z_12) (lv' := [(2, .int z_12), (0, .ref h0), (1, .int p0)]) hx hb dX11_putOnTape_40 hl (k := 2) rfl ez_12 (by decide) rfl (fun ls_12 hl_12 => ?_)
        clear hl
        refine lv_goto (tgt := 3) hx hb dX11_putOnTape_43 (by decide) ?_
        exact ih_3 (z_12, z_10) (by show ((z_12).toInt - (-10)).toNat < ((v3_2_0).toInt - (-10)).toNat; omega) _ _ _ ⟨F_8, ⟨by omega, by omega⟩, ⟨by omega, by omega⟩, h_11, (lv_sub hl_12 [1, 2, 0] rfl)⟩
set_option maxHeartbeats 4000000 in
set_option maxRecDepth 100000 in
theorem gX11_feed_37a4b30 (l : Launch) (D : va_G) (cy : Nat → ClassId) (h0 : Nat) (h1 : Nat) (p0 : Int32) (p1 : Int32) (p2 : Int32) (p3 : Int32) (p4 : Int32) (p5 : Int32) (p6 : Int32) (p7 : Int32) (w0 : Value) (w1 : Value) (w2 : Value) (w3 : Value) (w4 : Value) (w5 : Value) (w6 : Value) (w7 : Value) (w8 : Value) (w9 : Value) (w10 : Value) (w11 : Value) (p8 : Int32) (f0 : Nat → Int32) (hp0 : (-2147483648) ≤ (p0).toInt ∧ (p0).toInt ≤ 2147483647) (hp1 : (-2147483648) ≤ (p1).toInt ∧ (p1).toInt ≤ 2147483647) (hp2 : (-2147483648) ≤ (p2).toInt ∧ (p2).toInt ≤ 2147483647) (hp3 : (-2147483648) ≤ (p3).toInt ∧ (p3).toInt ≤ 2147483647) (hp4 : (-2147483648) ≤ (p4).toInt ∧ (p4).toInt ≤ 2147483647) (hp5 : 0 ≤ (p5).toInt ∧ (p5).toInt ≤ 900) (hp6 : (-2147483648) ≤ (p6).toInt ∧ (p6).toInt ≤ 2147483647) (hp7 : (-2147483648) ≤ (p7).toInt ∧ (p7).toInt ≤ 2147483647) (hp8 : (-2147483648) ≤ (p8).toInt ∧ (p8).toInt ≤ 2147483647) (sz : Nat) : MI l yX11_feed cX11_feed 6 .int { frames := 1, cells := 0, slots := 0, locals := 22 } [.ref h0, .int p0, .int p1, .int p2, .int p3, .int p4] D cy [(h0, .inr (11, [.ref h1, .int p5, .int p6, .int p7, w0, w1, w2, w3, w4, w5, w6, w7, w8, w9, w10, w11, .int p8])), (h1, .inl (cy 0, 900, .inl f0))] sz (fun r u => ((-5) ≤ r.toInt ∧ r.toInt ≤ 900) ∧ (0 ≤ (u.2.1 0 0).toInt ∧ (u.2.1 0 0).toInt ≤ 900) ∧ True) (fun u => [(h0, .inr (11, [.ref h1, .int (u.2.1 0 0), .int p6, .int p7, w0, w1, w2, w3, w4, w5, w6, w7, w8, w9, w10, w11, .int p8])), (h1, .inl (cy 0, 900, .inl (u.2.1 1)))]) 0 0 := by
  refine q_ent (own := RX11) (by decide) rfl (Nat.le_of_ble_eq_true rfl) (fun p e s m below meth c ls X hr hlk hnm hK hT h hA hl => ?_)
  obtain ⟨hx, hb, hml, hown, ht⟩ := id X
  replace hl : lv_has ls 6 [(0, .ref h0), (1, .int p0), (2, .int p1), (3, .int p2), (4, .int p3), (5, .int p4)] := hl
  refine lv_aload_n hx hb dX11_feed_0 rfl (lv_at hl 0 rfl) ?_
  refine q_get X hK h 0 rfl rfl wf_11 1 (by decide) rfl wm_2_99 dX11_feed_1 ?_
  refine lv_bipush (v := 20) hx hb dX11_feed_4 (by decide) ?_
  refine lv_iadd hx hb dX11_feed_6 ?_
  obtain ⟨z_1, ez_1, hz_1⟩ := e_add (x := p5) (y := 20) rfl (show (20 : Int32).toInt = 20 by decide) (by omega) (by omega)
  refine q_c z_1 ez_1 ?_
  clear ez_1
  refine lv_sipush (v := 900) hx hb dX11_feed_7 (by decide) ?_
  refine lv_icmp_le (tgt := 16) hx hb dX11_feed_10 (by decide) (fun c_2 => ?_) (fun c_2 => ?_)
  · replace c_2 := i_le (x := z_1) (y := 900) rfl (show (900 : Int32).toInt = 900 by decide) c_2
    refine lv_aload_n hx hb dX11_feed_16 rfl (lv_at hl 0 rfl) ?_
    refine lv_iload_n hx hb dX11_feed_17 rfl (lv_at hl 1 rfl) ?_
    refine q_callVv (rest := []) (wr := []) X hK hT hA h (fun sz => gX11_putOnTape_646e11c l D cy h0 h1 p0 p5 p6 p7 w0 w1 w2 w3 w4 w5 w6 w7 w8 w9 w10 w11 p8 f0 (i_rng _) hp5 (i_rng _) (i_rng _) (i_rng _) sz) wm_2_154 wm_2_157 wm_1_1 hd_X11_putOnTape wm_2_156 wp_1_0 (ci := 11) (q0 := 0) rfl rfl ⟨Nat.le_of_ble_eq_true rfl, Nat.le_of_ble_eq_true rfl⟩ hl.1 rfl (Nat.le_of_ble_eq_true rfl) dX11_feed_18 ⟨Nat.le_of_ble_eq_true rfl, Nat.le_of_ble_eq_true rfl⟩ [0, 1] [] rfl rfl (by decide) rfl rfl (fun u_3 H locs w_3 h_3 => ?_)
    clear h
    obtain ⟨w3_0, _⟩ := w_3
    replace h_3 : qW D _ _ [(h0, .inr (11, [.ref h1, .int (u_3.2.1 0 0), .int p6, .int p7, w0, w1, w2, w3, w4, w5, w6, w7, w8, w9, w10, w11, .int p8])), (h1, .inl (cy 0, 900, .inl (u_3.2.1 1)))] _ _ := h_3
    refine lv_aload_n hx hb dX11_feed_21 rfl (lv_at hl 0 rfl) ?_
    refine lv_iload_n hx hb dX11_feed_22 rfl (lv_at hl 2 rfl) ?_
    refine q_callVv (rest := []) (wr := []) X hK hT hA h_3 (fun sz => gX11_putOnTape_646e11c l D cy h0 h1 p1 (u_3.2.1 0 0) p6 p7 w0 w1 w2 w3 w4 w5 w6 w7 w8 w9 w10 w11 p8 (u_3.2.1 1) (i_rng _) w3_0 (i_rng _) (i_rng _) (i_rng _) sz) wm_2_154 wm_2_157 wm_1_1 hd_X11_putOnTape wm_2_156 wp_1_0 (ci := 11) (q0 := 0) rfl rfl ⟨Nat.le_of_ble_eq_true rfl, Nat.le_of_ble_eq_true rfl⟩ hl.1 rfl (Nat.le_of_ble_eq_true rfl) dX11_feed_23 ⟨Nat.le_of_ble_eq_true rfl, Nat.le_of_ble_eq_true rfl⟩ [0, 1] [] rfl rfl (by decide) rfl rfl (fun u_4 H locs w_4 h_4 => ?_)
    clear h_3
    obtain ⟨w4_0, _⟩ := w_4
    replace h_4 : qW D _ _ [(h0, .inr (11, [.ref h1, .int (u_4.2.1 0 0), .int p6, .int p7, w0, w1, w2, w3, w4, w5, w6, w7, w8, w9, w10, w11, .int p8])), (h1, .inl (cy 0, 900, .inl (u_4.2.1 1)))] _ _ := h_4
    refine lv_aload_n hx hb dX11_feed_26 rfl (lv_at hl 0 rfl) ?_
    refine lv_iload_n hx hb dX11_feed_27 rfl (lv_at hl 3 rfl) ?_
    refine q_callVv (rest := []) (wr := []) X hK hT hA h_4 (fun sz => gX11_putOnTape_646e11c l D cy h0 h1 p2 (u_4.2.1 0 0) p6 p7 w0 w1 w2 w3 w4 w5 w6 w7 w8 w9 w10 w11 p8 (u_4.2.1 1) (i_rng _) w4_0 (i_rng _) (i_rng _) (i_rng _) sz) wm_2_154 wm_2_157 wm_1_1 hd_X11_putOnTape wm_2_156 wp_1_0 (ci := 11) (q0 := 0) rfl rfl ⟨Nat.le_of_ble_eq_true rfl, Nat.le_of_ble_eq_true rfl⟩ hl.1 rfl (Nat.le_of_ble_eq_true rfl) dX11_feed_28 ⟨Nat.le_of_ble_eq_true rfl, Nat.le_of_ble_eq_true rfl⟩ [0, 1] [] rfl rfl (by decide) rfl rfl (fun u_5 H locs w_5 h_5 => ?_)
    clear h_4
    obtain ⟨w5_0, _⟩ := w_5
    replace h_5 : qW D _ _ [(h0, .inr (11, [.ref h1, .int (u_5.2.1 0 0), .int p6, .int p7, w0, w1, w2, w3, w4, w5, w6, w7, w8, w9, w10, w11, .int p8])), (h1, .inl (cy 0, 900, .inl (u_5.2.1 1)))] _ _ := h_5
    refine lv_aload_n hx hb dX11_feed_31 rfl (lv_at hl 0 rfl) ?_
    refine lv_iload hx hb dX11_feed_32 (lv_at hl 4 rfl) ?_
    refine q_callVv (rest := []) (wr := []) X hK hT hA h_5 (fun sz => gX11_putOnTape_646e11c l D cy h0 h1 p3 (u_5.2.1 0 0) p6 p7 w0 w1 w2 w3 w4 w5 w6 w7 w8 w9 w10 w11 p8 (u_5.2.1 1) (i_rng _) w5_0 (i_rng _) (i_rng _) (i_rng _) sz) wm_2_154 wm_2_157 wm_1_1 hd_X11_putOnTape wm_2_156 wp_1_0 (ci := 11) (q0 := 0) rfl rfl ⟨Nat.le_of_ble_eq_true rfl, Nat.le_of_ble_eq_true rfl⟩ hl.1 rfl (Nat.le_of_ble_eq_true rfl) dX11_feed_34 ⟨Nat.le_of_ble_eq_true rfl, Nat.le_of_ble_eq_true rfl⟩ [0, 1] [] rfl rfl (by decide) rfl rfl (fun u_6 H locs w_6 h_6 => ?_)
    clear h_5
    obtain ⟨w6_0, _⟩ := w_6
    replace h_6 : qW D _ _ [(h0, .inr (11, [.ref h1, .int (u_6.2.1 0 0), .int p6, .int p7, w0, w1, w2, w3, w4, w5, w6, w7, w8, w9, w10, w11, .int p8])), (h1, .inl (cy 0, 900, .inl (u_6.2.1 1)))] _ _ := h_6
    refine lv_aload_n hx hb dX11_feed_37 rfl (lv_at hl 0 rfl) ?_
    refine lv_iload hx hb dX11_feed_38 (lv_at hl 5 rfl) ?_
    refine q_callVv (rest := []) (wr := []) X hK hT hA h_6 (fun sz => gX11_putOnTape_646e11c l D cy h0 h1 p4 (u_6.2.1 0 0) p6 p7 w0 w1 w2 w3 w4 w5 w6 w7 w8 w9 w10 w11 p8 (u_6.2.1 1) (i_rng _) w6_0 (i_rng _) (i_rng _) (i_rng _) sz) wm_2_154 wm_2_157 wm_1_1 hd_X11_putOnTape wm_2_156 wp_1_0 (ci := 11) (q0 := 0) rfl rfl ⟨Nat.le_of_ble_eq_true rfl, Nat.le_of_ble_eq_true rfl⟩ hl.1 rfl (Nat.le_of_ble_eq_true rfl) dX11_feed_40 ⟨Nat.le_of_ble_eq_true rfl, Nat.le_of_ble_eq_true rfl⟩ [0, 1] [] rfl rfl (by decide) rfl rfl (fun u_7 H locs w_7 h_7 => ?_)
    clear h_6
    obtain ⟨w7_0, _⟩ := w_7
    replace h_7 : qW D _ _ [(h0, .inr (11, [.ref h1, .int (u_7.2.1 0 0), .int p6, .int p7, w0, w1, w2, w3, w4, w5, w6, w7, w8, w9, w10, w11, .int p8])), (h1, .inl (cy 0, 900, .inl (u_7.2.1 1)))] _ _ := h_7
    refine lv_aload_n hx hb dX11_feed_43 rfl (lv_at hl 0 rfl) ?_
    refine q_get X hK h_7 0 rfl rfl wf_11 1 (by decide) rfl wm_2_99 dX11_feed_44 ?_
    exact q_iret X hr hlk hK h_7 rfl (fun _ => 0, fun k => List.getD [(fun _ => (u_7.2.1 0 0)), (u_7.2.1 1)] k (fun _ => 0), fun _ _ => 0) ⟨(bw w7_0 (by decide) (by decide)), (w7_0 : 0 ≤ ((u_7.2.1 0 0) : Int32).toInt ∧ ((u_7.2.1 0 0) : Int32).toInt ≤ 900), trivial⟩ [0, 1] rfl rfl dX11_feed_47 (Nat.le_of_ble_eq_true rfl) (Nat.le_of_ble_eq_true rfl)
  · replace c_2 := i_nle (x := z_1) (y := 900) rfl (show (900 : Int32).toInt = 900 by decide) c_2
    refine lv_bipush (v := (-5)) hx hb dX11_feed_13 (by decide) ?_
    exact q_iret X hr hlk hK h rfl (fun _ => 0, fun k => List.getD [(fun _ => p5), f0] k (fun _ => 0), fun _ _ => 0) ⟨⟨by decide +kernel, by decide +kernel⟩, (hp5 : 0 ≤ (p5 : Int32).toInt ∧ (p5 : Int32).toInt ≤ 900), trivial⟩ [0, 1] rfl rfl dX11_feed_15 (Nat.le_of_ble_eq_true rfl) (Nat.le_of_ble_eq_true rfl)
set_option maxHeartbeats 4000000 in
set_option maxRecDepth 100000 in
theorem gX11_fault_62d14f6 (l : Launch) (D : va_G) (cy : Nat → ClassId) (h0 : Nat) (p0 : Int32) (w0 : Value) (p1 : Int32) (p2 : Int32) (p3 : Int32) (w1 : Value) (w2 : Value) (w3 : Value) (w4 : Value) (w5 : Value) (w6 : Value) (w7 : Value) (w8 : Value) (w9 : Value) (w10 : Value) (w11 : Value) (w12 : Value) (p4 : Int32) (hp0 : (-2147483648) ≤ (p0).toInt ∧ (p0).toInt ≤ 2147483647) (hp1 : 0 ≤ (p1).toInt ∧ (p1).toInt ≤ 900) (hp2 : (-2147483648) ≤ (p2).toInt ∧ (p2).toInt ≤ 2147483647) (hp3 : (-2147483648) ≤ (p3).toInt ∧ (p3).toInt ≤ 2147483647) (hp4 : (-2147483648) ≤ (p4).toInt ∧ (p4).toInt ≤ 2147483647) (sz : Nat) : MI l yX11_fault cX11_fault 2 .int { frames := 0, cells := 0, slots := 0, locals := 0 } [.ref h0, .int p0] D cy [(h0, .inr (11, [w0, .int p1, .int p2, .int p3, w1, w2, w3, w4, w5, w6, w7, w8, w9, w10, w11, w12, .int p4]))] sz (fun r u => ((-2147483648) ≤ r.toInt ∧ r.toInt ≤ 2147483647) ∧ True) (fun u => [(h0, .inr (11, [w0, .int p1, .int p2, .int p3, w1, w2, w3, w4, w5, w6, w7, w8, w9, w10, w11, w12, .int p4]))]) 0 0 := by
  refine q_ent (own := RX11) (by decide) rfl (Nat.le_of_ble_eq_true rfl) (fun p e s m below meth c ls X hr hlk hnm hK hT h hA hl => ?_)
  obtain ⟨hx, hb, hml, hown, ht⟩ := id X
  replace hl : lv_has ls 2 [(0, .ref h0), (1, .int p0)] := hl
  refine lv_iload_n hx hb dX11_fault_0 rfl (lv_at hl 1 rfl) ?_
  refine lv_if_ne (tgt := 9) hx hb dX11_fault_1 (by decide) (fun c_1 => ?_) (fun c_1 => ?_)
  · replace c_1 := i_ne (x := p0) (y := 0) rfl (show (0 : Int32).toInt = 0 by decide) c_1
    refine lv_iload_n hx hb dX11_fault_9 rfl (lv_at hl 1 rfl) ?_
    refine lv_iconst (v := 1) hx hb dX11_fault_10 (by decide) ?_
    refine q_jn (pc2 := 22) (fun H locs ls st => ∃ v22_2_0 : Int32, ((-2147483648) ≤ (v22_2_0).toInt ∧ (v22_2_0).toInt ≤ 2147483647) ∧ st = [.int v22_2_0] ∧ qW D (va_A [(h0, .inr (11, [w0, .int p1, .int p2, .int p3, w1, w2, w3, w4, w5, w6, w7, w8, w9, w10, w11, w12, .int p4]))] sz) s.heap [(h0, .inr (11, [w0, .int p1, .int p2, .int p3, w1, w2, w3, w4, w5, w6, w7, w8, w9, w10, w11, w12, .int p4]))] H locs ∧ lv_has ls 2 [(0, .ref h0), (1, .int p0)]) (fun H locs ls st hP => ?_) (fun J_22 => ?_)
    · obtain ⟨v22_2_0, hv22_2_0, rfl, h, hl⟩ := hP
      exact q_iret X hr hlk hK h rfl (fun _ => 0, fun _ _ => 0, fun _ _ => 0) ⟨hv22_2_0, trivial⟩ [0] rfl rfl dX11_fault_22 (Nat.le_of_ble_eq_true rfl) (Nat.le_of_ble_eq_true rfl)
    · skip
      refine lv_icmp_ne (tgt := 21) hx hb dX11_fault_11 (by decide) (fun c_3 => ?_) (fun c_3 => ?_)
      · replace c_3 := i_ne (x := p0) (y := 1) rfl (show (1 : Int32).toInt = 1 by decide) c_3
        refine lv_iconst (v := (-1)) hx hb dX11_fault_21 (by decide) ?_
        exact J_22 _ _ _ _ ⟨(-1), ⟨by decide +kernel, by decide +kernel⟩, rfl, h, (lv_sub hl [0, 1] rfl)⟩
      · replace c_3 := i_eq (x := p0) (y := 1) rfl (show (1 : Int32).toInt = 1 by decide) c_3
        refine lv_aload_n hx hb dX11_fault_14 rfl (lv_at hl 0 rfl) ?_
        refine q_get X hK h 0 rfl rfl wf_11 3 (by decide) rfl wm_2_101 dX11_fault_15 ?_
        refine lv_goto (tgt := 22) hx hb dX11_fault_18 (by decide) ?_
        exact J_22 _ _ _ _ ⟨p3, hp3, rfl, h, (lv_sub hl [0, 1] rfl)⟩
  · replace c_1 := i_eq (x := p0) (y := 0) rfl (show (0 : Int32).toInt = 0 by decide) c_1
    refine lv_aload_n hx hb dX11_fault_4 rfl (lv_at hl 0 rfl) ?_
    refine q_get X hK h 0 rfl rfl wf_11 2 (by decide) rfl wm_2_100 dX11_fault_5 ?_
    exact q_iret X hr hlk hK h rfl (fun _ => 0, fun _ _ => 0, fun _ _ => 0) ⟨hp2, trivial⟩ [0] rfl rfl dX11_fault_8 (Nat.le_of_ble_eq_true rfl) (Nat.le_of_ble_eq_true rfl)
set_option maxHeartbeats 4000000 in
set_option maxRecDepth 100000 in
theorem gX11_isPerson_96aca4a (l : Launch) (D : va_G) (cy : Nat → ClassId) (h0 : Nat) (h1 : Nat) (h2 : Nat) (p0 : Int32) (w0 : Value) (p1 : Int32) (p2 : Int32) (p3 : Int32) (w1 : Value) (w2 : Value) (w3 : Value) (w4 : Value) (w5 : Value) (w6 : Value) (w7 : Value) (w8 : Value) (w9 : Value) (w10 : Value) (w11 : Value) (p4 : Int32) (p5 : Int32) (p6 : Int32) (w12 : Value) (p7 : Int32) (p8 : Int32) (p9 : Int32) (p10 : Int32) (w13 : Value) (w14 : Value) (w15 : Value) (w16 : Value) (w17 : Value) (w18 : Value) (hp0 : (-2147483648) ≤ (p0).toInt ∧ (p0).toInt ≤ 2147483647) (hp1 : 0 ≤ (p1).toInt ∧ (p1).toInt ≤ 900) (hp2 : (-2147483648) ≤ (p2).toInt ∧ (p2).toInt ≤ 2147483647) (hp3 : (-2147483648) ≤ (p3).toInt ∧ (p3).toInt ≤ 2147483647) (hp4 : (-2147483648) ≤ (p4).toInt ∧ (p4).toInt ≤ 2147483647) (hp5 : (-2147483648) ≤ (p5).toInt ∧ (p5).toInt ≤ 2147483647) (hp6 : (-2147483648) ≤ (p6).toInt ∧ (p6).toInt ≤ 2147483647) (hp7 : 1 ≤ (p7).toInt ∧ (p7).toInt ≤ 3) (hp8 : 0 ≤ (p8).toInt ∧ (p8).toInt ≤ 10) (hp9 : (-2147483648) ≤ (p9).toInt ∧ (p9).toInt ≤ 2147483647) (hp10 : (-2147483648) ≤ (p10).toInt ∧ (p10).toInt ≤ 2147483647) (sz : Nat) : MI l yX11_isPerson cX11_isPerson 2 .boolean { frames := 0, cells := 0, slots := 0, locals := 0 } [.ref h0, .int p0] D cy [(h0, .inr (11, [w0, .int p1, .int p2, .int p3, w1, .ref h1, w2, w3, w4, w5, w6, w7, w8, w9, w10, w11, .int p4])), (h1, .inr (7, [.ref h2, .int p5, .int p6, w12])), (h2, .inr (3, [.int p7, .int p8, .int p9, .int p10, w13, w13, w13, w14, w15, w16, w17, w18]))] sz (fun r u => (0 ≤ r.toInt ∧ r.toInt ≤ 1) ∧ ((r : Int32).toInt = 0 ∨ (0 ≤ (p0 : Int32).toInt ∧ (p0 : Int32).toInt < (p8 : Int32).toInt)) ∧ True) (fun u => [(h0, .inr (11, [w0, .int p1, .int p2, .int p3, w1, .ref h1, w2, w3, w4, w5, w6, w7, w8, w9, w10, w11, .int p4])), (h1, .inr (7, [.ref h2, .int p5, .int p6, w12])), (h2, .inr (3, [.int p7, .int p8, .int p9, .int p10, w13, w13, w13, w14, w15, w16, w17, w18]))]) 0 0 := by
  refine q_ent (own := RX11) (by decide) rfl (Nat.le_of_ble_eq_true rfl) (fun p e s m below meth c ls X hr hlk hnm hK hT h hA hl => ?_)
  obtain ⟨hx, hb, hml, hown, ht⟩ := id X
  replace hl : lv_has ls 2 [(0, .ref h0), (1, .int p0)] := hl
  refine lv_iload_n hx hb dX11_isPerson_0 rfl (lv_at hl 1 rfl) ?_
  refine lv_if_lt (tgt := 22) hx hb dX11_isPerson_1 (by decide) (fun c_1 => ?_) (fun c_1 => ?_)
  · replace c_1 := i_lt (x := p0) (y := 0) rfl (show (0 : Int32).toInt = 0 by decide) c_1
    refine lv_iconst (v := 0) hx hb dX11_isPerson_22 (by decide) ?_
    exact q_iret X hr hlk hK h rfl (fun _ => 0, fun _ _ => 0, fun _ _ => 0) ⟨⟨by decide +kernel, by decide +kernel⟩, (show (0 : Int32).toInt = 0 ∨ (0 ≤ (p0 : Int32).toInt ∧ (p0 : Int32).toInt < (p8 : Int32).toInt) from by have q0 : (0 : Int32).toInt = 0 := (by decide); omega), trivial⟩ [0, 1, 2] rfl rfl dX11_isPerson_23 (Nat.le_of_ble_eq_true rfl) (Nat.le_of_ble_eq_true rfl)
  · replace c_1 := i_nlt (x := p0) (y := 0) rfl (show (0 : Int32).toInt = 0 by decide) c_1
    refine lv_iload_n hx hb dX11_isPerson_4 rfl (lv_at hl 1 rfl) ?_
    refine lv_aload_n hx hb dX11_isPerson_5 rfl (lv_at hl 0 rfl) ?_
    refine q_get X hK h 0 rfl rfl wf_11 5 (by decide) rfl wm_2_103 dX11_isPerson_6 ?_
    refine q_get X hK h 1 rfl rfl wf_7 0 (by decide) rfl wm_2_42 dX11_isPerson_9 ?_
    refine q_get X hK h 2 rfl rfl wf_3 1 (by decide) rfl wm_1_85 dX11_isPerson_12 ?_
    refine lv_icmp_ge (tgt := 22) hx hb dX11_isPerson_15 (by decide) (fun c_2 => ?_) (fun c_2 => ?_)
    · replace c_2 := i_le (x := p8) (y := p0) rfl rfl c_2
      refine lv_iconst (v := 0) hx hb dX11_isPerson_22 (by decide) ?_
      exact q_iret X hr hlk hK h rfl (fun _ => 0, fun _ _ => 0, fun _ _ => 0) ⟨⟨by decide +kernel, by decide +kernel⟩, (show (0 : Int32).toInt = 0 ∨ (0 ≤ (p0 : Int32).toInt ∧ (p0 : Int32).toInt < (p8 : Int32).toInt) from by have q0 : (0 : Int32).toInt = 0 := (by decide); omega), trivial⟩ [0, 1, 2] rfl rfl dX11_isPerson_23 (Nat.le_of_ble_eq_true rfl) (Nat.le_of_ble_eq_true rfl)
    · replace c_2 := i_nle (x := p8) (y := p0) rfl rfl c_2
      refine lv_iconst (v := 1) hx hb dX11_isPerson_18 (by decide) ?_
      refine lv_goto (tgt := 23) hx hb dX11_isPerson_19 (by decide) ?_
      exact q_iret X hr hlk hK h rfl (fun _ => 0, fun _ _ => 0, fun _ _ => 0) ⟨⟨by decide +kernel, by decide +kernel⟩, (show (1 : Int32).toInt = 0 ∨ (0 ≤ (p0 : Int32).toInt ∧ (p0 : Int32).toInt < (p8 : Int32).toInt) from by have q0 : (1 : Int32).toInt = 1 := (by decide); omega), trivial⟩ [0, 1, 2] rfl rfl dX11_isPerson_23 (Nat.le_of_ble_eq_true rfl) (Nat.le_of_ble_eq_true rfl)
set_option maxHeartbeats 4000000 in
set_option maxRecDepth 100000 in
theorem gX7_inTownOn_10d176d (l : Launch) (D : va_G) (cy : Nat → ClassId) (h0 : Nat) (h1 : Nat) (h2 : Nat) (h3 : Nat) (p0 : Int32) (p1 : Int32) (w0 : Value) (p2 : Int32) (p3 : Int32) (p4 : Int32) (p5 : Int32) (w1 : Value) (w2 : Value) (w3 : Value) (w4 : Value) (f0 : Nat → Int32) (f1 : Nat → Int32) (hp0 : (-2147483648) ≤ (p0).toInt ∧ (p0).toInt ≤ 2147483647) (hp1 : (-2147483648) ≤ (p1).toInt ∧ (p1).toInt ≤ 2147483647) (hp2 : 1 ≤ (p2).toInt ∧ (p2).toInt ≤ 3) (hp3 : 0 ≤ (p3).toInt ∧ (p3).toInt ≤ 10) (hp4 : (-2147483648) ≤ (p4).toInt ∧ (p4).toInt ≤ 2147483647) (hp5 : (-2147483648) ≤ (p5).toInt ∧ (p5).toInt ≤ 2147483647) (sz : Nat) : MI l yX7_inTownOn cX7_inTownOn 4 .int { frames := 0, cells := 0, slots := 0, locals := 0 } [.ref h0, .int p0] D cy [(h0, .inr (7, [.ref h1, .int p0, .int p1, w0])), (h1, .inr (3, [.int p2, .int p3, .int p4, .int p5, w1, w1, w1, w2, .ref h2, .ref h3, w3, w4])), (h2, .inl (cy 1, 10, .inl f0)), (h3, .inl (cy 1, 10, .inl f1))] sz (fun r u => (0 ≤ r.toInt ∧ r.toInt ≤ 1023) ∧ True) (fun u => [(h0, .inr (7, [.ref h1, .int p0, .int p1, w0])), (h1, .inr (3, [.int p2, .int p3, .int p4, .int p5, w1, w1, w1, w2, .ref h2, .ref h3, w3, w4])), (h2, .inl (cy 1, 10, .inl f0)), (h3, .inl (cy 1, 10, .inl f1))]) 0 0 := by
  refine q_ent (own := RX7) (by decide) rfl (Nat.le_of_ble_eq_true rfl) (fun p e s m below meth c ls X hr hlk hnm hK hT h hA hl => ?_)
  obtain ⟨hx, hb, hml, hown, ht⟩ := id X
  replace hl : lv_has ls 4 [(0, .ref h0), (1, .int p0)] := hl
  refine lv_iconst (v := 0) hx hb dX7_inTownOn_0 (by decide) ?_
  refine lv_istore_n (lv' := [(2, .int 0), (0, .ref h0), (1, .int p0)]) hx hb dX7_inTownOn_1 rfl hl (by decide) rfl (fun ls_1 hl_1 => ?_)
  clear hl
  refine lv_iconst (v := 0) hx hb dX7_inTownOn_2 (by decide) ?_
  refine lv_istore_n (lv' := [(3, .int 0), (2, .int 0), (0, .ref h0), (1, .int p0)]) hx hb dX7_inTownOn_3 rfl hl_1 (by decide) rfl (fun ls_2 hl_2 => ?_)
  clear hl_1
  refine q_wl (fun (q : Int32 × Int32) H locs ls => match q with | (v4_3_0, v4_3_1) => (0 ≤ (v4_3_0).toInt ∧ (v4_3_0).toInt ≤ 10) ∧ (0 ≤ (v4_3_1).toInt ∧ (v4_3_1).toInt ≤ 1023) ∧ qW D (va_A [(h0, .inr (7, [.ref h1, .int p0, .int p1, w0])), (h1, .inr (3, [.int p2, .int p3, .int p4, .int p5, w1, w1, w1, w2, .ref h2, .ref h3, w3, w4])), (h2, .inl (cy 1, 10, .inl f0)), (h3, .inl (cy 1, 10, .inl f1))] sz) s.heap [(h0, .inr (7, [.ref h1, .int p0, .int p1, w0])), (h1, .inr (3, [.int p2, .int p3, .int p4, .int p5, w1, w1, w1, w2, .ref h2, .ref h3, w3, w4])), (h2, .inl (cy 1, 10, .inl f0)), (h3, .inl (cy 1, 10, .inl f1))] H locs ∧ lv_has ls 4 [(0, .ref h0), (1, .int p0), (2, .int v4_3_1), (3, .int v4_3_0)]) (fun (q : Int32 × Int32) => match q with | (v4_3_0, v4_3_1) => (11 - (v4_3_0).toInt).toNat) (fun q_4 ih_4 H locs ls hP => ?_) (0, 0) ⟨⟨by decide +kernel, by decide +kernel⟩, ⟨by decide +kernel, by decide +kernel⟩, h, (lv_sub hl_2 [2, 3, 1, 0] rfl)⟩
  obtain ⟨v4_3_0, v4_3_1⟩ := q_4
  obtain ⟨hv4_3_0, hv4_3_1, h, hl⟩ := hP
  refine lv_iload_n hx hb dX7_inTownOn_4 rfl (lv_at hl 3 rfl) ?_
  refine lv_aload_n hx hb dX7_inTownOn_5 rfl (lv_at hl 0 rfl) ?_
  refine q_get X hK h 0 rfl rfl wf_7 0 (by decide) rfl wm_2_37 dX7_inTownOn_6 ?_
  refine q_get X hK h 1 rfl rfl wf_3 1 (by decide) rfl wm_1_83 dX7_inTownOn_9 ?_
  refine lv_icmp_ge (tgt := 53) hx hb dX7_inTownOn_12 (by decide) (fun c_4 => ?_) (fun c_4 => ?_)
  · replace c_4 := i_le (x := p3) (y := v4_3_0) rfl rfl c_4
    refine lv_iload_n hx hb dX7_inTownOn_53 rfl (lv_at hl 2 rfl) ?_
    refine lv_aload_n hx hb dX7_inTownOn_54 rfl (lv_at hl 0 rfl) ?_
    refine q_get X hK h 0 rfl rfl wf_7 2 (by decide) rfl wm_2_48 dX7_inTownOn_55 ?_
    refine lv_iconst (v := (-1)) hx hb dX7_inTownOn_58 (by decide) ?_
    refine lv_ixor hx hb dX7_inTownOn_59 ?_
    refine q_any (fun z_5 hz_5 => ?_)
    refine lv_iand hx hb dX7_inTownOn_60 ?_
    obtain ⟨z_6, ez_6, hz_6⟩ := e_and1 (x := v4_3_1) (y := z_5) rfl (by omega)
    refine q_c z_6 ez_6 ?_
    clear ez_6
    exact q_iret X hr hlk hK h rfl (fun _ => 0, fun _ _ => 0, fun _ _ => 0) ⟨⟨by omega, by omega⟩, trivial⟩ [0, 1, 2, 3] rfl rfl dX7_inTownOn_61 (Nat.le_of_ble_eq_true rfl) (Nat.le_of_ble_eq_true rfl)
  · replace c_4 := i_nle (x := p3) (y := v4_3_0) rfl rfl c_4
    refine lv_aload_n hx hb dX7_inTownOn_15 rfl (lv_at hl 0 rfl) ?_
    refine q_get X hK h 0 rfl rfl wf_7 0 (by decide) rfl wm_2_37 dX7_inTownOn_16 ?_
    refine q_get X hK h 1 rfl rfl wf_3 8 (by decide) rfl wm_1_106 dX7_inTownOn_19 ?_
    refine lv_iload_n hx hb dX7_inTownOn_22 rfl (lv_at hl 3 rfl) ?_
    refine q_iald X hK h 2 rfl (i_in rfl (by omega) (by omega)) dX7_inTownOn_23 ?_
    refine q_any (fun z_7 hz_7 => ?_)
    refine lv_iload_n hx hb dX7_inTownOn_24 rfl (lv_at hl 1 rfl) ?_
    refine q_jn (pc2 := 47) (fun H locs ls st => ∃ v47_8_0 : Int32, (0 ≤ (v47_8_0).toInt ∧ (v47_8_0).toInt ≤ 1023) ∧ st = [] ∧ qW D (va_A [(h0, .inr (7, [.ref h1, .int p0, .int p1, w0])), (h1, .inr (3, [.int p2, .int p3, .int p4, .int p5, w1, w1, w1, w2, .ref h2, .ref h3, w3, w4])), (h2, .inl (cy 1, 10, .inl f0)), (h3, .inl (cy 1, 10, .inl f1))] sz) s.heap [(h0, .inr (7, [.ref h1, .int p0, .int p1, w0])), (h1, .inr (3, [.int p2, .int p3, .int p4, .int p5, w1, w1, w1, w2, .ref h2, .ref h3, w3, w4])), (h2, .inl (cy 1, 10, .inl f0)), (h3, .inl (cy 1, 10, .inl f1))] H locs ∧ lv_has ls 4 [(0, .ref h0), (1, .int p0), (2, .int v47_8_0), (3, .int v4_3_0)]) (fun H locs ls st hP => ?_) (fun J_47 => ?_)
    · obtain ⟨v47_8_0, hv47_8_0, rfl, h, hl⟩ := hP
      obtain ⟨z_9, ez_9, hz_9⟩ := e_add (x := v4_3_0) (y := Int32.ofInt 1) rfl (b := 1) (by decide) (by omega) (by omega)
      refine lv_iinc (v := z_9) (lv' := [(3, .int z_9), (0, .ref h0), (1, .int p0), (2, .int v47_8_0)]) hx hb dX7_inTownOn_47 hl (k := 3) rfl ez_9 (by decide) rfl (fun ls_9 hl_9 => ?_)
      clear hl
      refine lv_goto (tgt := 4) hx hb dX7_inTownOn_50 (by decide) ?_
      exact ih_4 (z_9, v47_8_0) (by show (11 - (z_9).toInt).toNat < (11 - (v4_3_0).toInt).toNat; omega) _ _ _ ⟨⟨by omega, by omega⟩, hv47_8_0, h, (lv_sub hl_9 [1, 2, 3, 0] rfl)⟩
    · skip
      refine lv_icmp_gt (tgt := 47) hx hb dX7_inTownOn_25 (by decide) (fun c_10 => ?_) (fun c_10 => ?_)
      · replace c_10 := i_lt (x := p0) (y := z_7) rfl rfl c_10
        exact J_47 _ _ _ _ ⟨v4_3_1, hv4_3_1, rfl, h, (lv_sub hl [0, 1, 2, 3] rfl)⟩
      · replace c_10 := i_nlt (x := p0) (y := z_7) rfl rfl c_10
        refine lv_iload_n hx hb dX7_inTownOn_28 rfl (lv_at hl 1 rfl) ?_
        refine lv_aload_n hx hb dX7_inTownOn_29 rfl (lv_at hl 0 rfl) ?_
        refine q_get X hK h 0 rfl rfl wf_7 0 (by decide) rfl wm_2_37 dX7_inTownOn_30 ?_
        refine q_get X hK h 1 rfl rfl wf_3 9 (by decide) rfl wm_1_110 dX7_inTownOn_33 ?_
        refine lv_iload_n hx hb dX7_inTownOn_36 rfl (lv_at hl 3 rfl) ?_
        refine q_iald X hK h 3 rfl (i_in rfl (by omega) (by omega)) dX7_inTownOn_37 ?_
        refine q_any (fun z_11 hz_11 => ?_)
        refine lv_icmp_gt (tgt := 47) hx hb dX7_inTownOn_38 (by decide) (fun c_12 => ?_) (fun c_12 => ?_)
        · replace c_12 := i_lt (x := z_11) (y := p0) rfl rfl c_12
          exact J_47 _ _ _ _ ⟨v4_3_1, hv4_3_1, rfl, h, (lv_sub hl [0, 1, 2, 3] rfl)⟩
        · replace c_12 := i_nlt (x := z_11) (y := p0) rfl rfl c_12
          refine lv_iload_n hx hb dX7_inTownOn_41 rfl (lv_at hl 2 rfl) ?_
          refine lv_iconst (v := 1) hx hb dX7_inTownOn_42 (by decide) ?_
          refine lv_iload_n hx hb dX7_inTownOn_43 rfl (lv_at hl 3 rfl) ?_
          refine lv_ishl hx hb dX7_inTownOn_44 ?_
          obtain ⟨z_13, ez_13, hz_13⟩ := e_shlk (p := v4_3_0) 9 (by decide) rfl (by omega) (by omega)
          refine q_c z_13 ez_13 ?_
          clear ez_13
          refine lv_ior hx hb dX7_inTownOn_45 ?_
          obtain ⟨z_14, ez_14, hz_14⟩ := e_or (x := v4_3_1) (y := z_13) 10 (by decide) rfl rfl (by omega) (by omega) (by omega) (by omega)
          refine q_c z_14 ez_14 ?_
          clear ez_14
          refine lv_istore_n (lv' := [(2, .int z_14), (0, .ref h0), (1, .int p0), (3, .int v4_3_0)]) hx hb dX7_inTownOn_46 rfl hl (by decide) rfl (fun ls_15 hl_15 => ?_)
          clear hl
          exact J_47 _ _ _ _ ⟨z_14, ⟨by omega, by omega⟩, rfl, h, (lv_sub hl_15 [1, 2, 0, 3] rfl)⟩
set_option maxHeartbeats 4000000 in
set_option maxRecDepth 100000 in
theorem gX7_inTown_77fe0ec (l : Launch) (D : va_G) (cy : Nat → ClassId) (h0 : Nat) (h1 : Nat) (h2 : Nat) (h3 : Nat) (p0 : Int32) (p1 : Int32) (w0 : Value) (p2 : Int32) (p3 : Int32) (p4 : Int32) (p5 : Int32) (w1 : Value) (w2 : Value) (w3 : Value) (w4 : Value) (f0 : Nat → Int32) (f1 : Nat → Int32) (hp0 : (-2147483648) ≤ (p0).toInt ∧ (p0).toInt ≤ 2147483647) (hp1 : (-2147483648) ≤ (p1).toInt ∧ (p1).toInt ≤ 2147483647) (hp2 : 1 ≤ (p2).toInt ∧ (p2).toInt ≤ 3) (hp3 : 0 ≤ (p3).toInt ∧ (p3).toInt ≤ 10) (hp4 : (-2147483648) ≤ (p4).toInt ∧ (p4).toInt ≤ 2147483647) (hp5 : (-2147483648) ≤ (p5).toInt ∧ (p5).toInt ≤ 2147483647) (sz : Nat) : MI l yX7_inTown cX7_inTown 1 .int { frames := 1, cells := 0, slots := 0, locals := 23 } [.ref h0] D cy [(h0, .inr (7, [.ref h1, .int p0, .int p1, w0])), (h1, .inr (3, [.int p2, .int p3, .int p4, .int p5, w1, w1, w1, w2, .ref h2, .ref h3, w3, w4])), (h2, .inl (cy 1, 10, .inl f0)), (h3, .inl (cy 1, 10, .inl f1))] sz (fun r u => (0 ≤ r.toInt ∧ r.toInt ≤ 1023) ∧ True) (fun u => [(h0, .inr (7, [.ref h1, .int p0, .int p1, w0])), (h1, .inr (3, [.int p2, .int p3, .int p4, .int p5, w1, w1, w1, w2, .ref h2, .ref h3, w3, w4])), (h2, .inl (cy 1, 10, .inl f0)), (h3, .inl (cy 1, 10, .inl f1))]) 0 0 := by
  refine q_ent (own := RX7) (by decide) rfl (Nat.le_of_ble_eq_true rfl) (fun p e s m below meth c ls X hr hlk hnm hK hT h hA hl => ?_)
  obtain ⟨hx, hb, hml, hown, ht⟩ := id X
  replace hl : lv_has ls 1 [(0, .ref h0)] := hl
  refine lv_aload_n hx hb dX7_inTown_0 rfl (lv_at hl 0 rfl) ?_
  refine lv_aload_n hx hb dX7_inTown_1 rfl (lv_at hl 0 rfl) ?_
  refine q_get X hK h 0 rfl rfl wf_7 1 (by decide) rfl wm_2_43 dX7_inTown_2 ?_
  refine q_callVi (rest := []) (wr := []) X hK hT hA h (fun sz => gX7_inTownOn_10d176d l D cy h0 h1 h2 h3 p0 p1 w0 p2 p3 p4 p5 w1 w2 w3 w4 f0 f1 (i_rng _) (i_rng _) hp2 hp3 (i_rng _) (i_rng _) sz) wm_3_183 wm_3_186 wm_1_9 hd_X7_inTownOn wm_3_184 wm_3_185 (ci := 7) (q0 := 0) rfl rfl ⟨Nat.le_of_ble_eq_true rfl, Nat.le_of_ble_eq_true rfl⟩ hl.1 rfl (Nat.le_of_ble_eq_true rfl) dX7_inTown_5 ⟨Nat.le_of_ble_eq_true rfl, Nat.le_of_ble_eq_true rfl⟩ [0, 1, 2, 3] [] rfl rfl (by decide) rfl rfl (fun r_1 u_1 H locs w_1 h_1 => ?_)
  clear h
  obtain ⟨wr_1, _⟩ := w_1
  replace h_1 : qW D _ _ [(h0, .inr (7, [.ref h1, .int p0, .int p1, w0])), (h1, .inr (3, [.int p2, .int p3, .int p4, .int p5, w1, w1, w1, w2, .ref h2, .ref h3, w3, w4])), (h2, .inl (cy 1, 10, .inl f0)), (h3, .inl (cy 1, 10, .inl f1))] _ _ := h_1
  exact q_iret X hr hlk hK h_1 rfl (fun _ => 0, fun _ _ => 0, fun _ _ => 0) ⟨wr_1, trivial⟩ [0, 1, 2, 3] rfl rfl dX7_inTown_8 (Nat.le_of_ble_eq_true rfl) (Nat.le_of_ble_eq_true rfl)
set_option maxHeartbeats 4000000 in
set_option maxRecDepth 100000 in
theorem gX11_person_5079782 (l : Launch) (D : va_G) (cy : Nat → ClassId) (h0 : Nat) (h1 : Nat) (h2 : Nat) (h3 : Nat) (h4 : Nat) (h5 : Nat) (h6 : Nat) (h7 : Nat) (p0 : Int32) (p1 : Int32) (w0 : Value) (p2 : Int32) (p3 : Int32) (p4 : Int32) (w1 : Value) (w2 : Value) (w3 : Value) (w4 : Value) (w5 : Value) (w6 : Value) (w7 : Value) (w8 : Value) (w9 : Value) (w10 : Value) (w11 : Value) (p5 : Int32) (p6 : Int32) (p7 : Int32) (p8 : Int32) (p9 : Int32) (p10 : Int32) (p11 : Int32) (w12 : Value) (w13 : Value) (f0 : Nat → Int32) (f1 : Nat → Int32) (f2 : Nat → Int32) (f3 : Nat → Int32) (f4 : Nat → Int32) (hp0 : (-2147483648) ≤ (p0).toInt ∧ (p0).toInt ≤ 2147483647) (hp1 : (-2147483648) ≤ (p1).toInt ∧ (p1).toInt ≤ 2147483647) (hp2 : 0 ≤ (p2).toInt ∧ (p2).toInt ≤ 900) (hp3 : (-2147483648) ≤ (p3).toInt ∧ (p3).toInt ≤ 2147483647) (hp4 : (-2147483648) ≤ (p4).toInt ∧ (p4).toInt ≤ 2147483647) (hp5 : (-2147483648) ≤ (p5).toInt ∧ (p5).toInt ≤ 2147483647) (hp6 : (-2147483648) ≤ (p6).toInt ∧ (p6).toInt ≤ 2147483647) (hp7 : (-2147483648) ≤ (p7).toInt ∧ (p7).toInt ≤ 2147483647) (hp8 : 1 ≤ (p8).toInt ∧ (p8).toInt ≤ 3) (hp9 : 0 ≤ (p9).toInt ∧ (p9).toInt ≤ 10) (hp10 : (-2147483648) ≤ (p10).toInt ∧ (p10).toInt ≤ 2147483647) (hp11 : (-2147483648) ≤ (p11).toInt ∧ (p11).toInt ≤ 2147483647) (rf4 : RG f4 10 0 999) (sz : Nat) : MI l yX11_person cX11_person 4 .int { frames := 2, cells := 0, slots := 0, locals := 43 } [.ref h0, .int p0, .int p1] D cy [(h0, .inr (11, [w0, .int p2, .int p3, .int p4, w1, .ref h1, w2, w3, w4, w5, w6, w7, w8, w9, w10, w11, .int p5])), (h1, .inr (7, [.ref h2, .int p6, .int p7, .ref h7])), (h2, .inr (3, [.int p8, .int p9, .int p10, .int p11, w12, w12, w12, w13, .ref h3, .ref h4, .ref h5, .ref h6])), (h3, .inl (cy 1, 10, .inl f0)), (h4, .inl (cy 1, 10, .inl f1)), (h5, .inl (cy 1, 10, .inl f2)), (h6, .inl (cy 1, 10, .inl f3)), (h7, .inl (cy 1, 10, .inl f4))] sz (fun r u => ((-2147483648) ≤ r.toInt ∧ r.toInt ≤ 2147483647) ∧ True) (fun u => [(h0, .inr (11, [w0, .int p2, .int p3, .int p4, w1, .ref h1, w2, w3, w4, w5, w6, w7, w8, w9, w10, w11, .int p5])), (h1, .inr (7, [.ref h2, .int p6, .int p7, .ref h7])), (h2, .inr (3, [.int p8, .int p9, .int p10, .int p11, w12, w12, w12, w13, .ref h3, .ref h4, .ref h5, .ref h6])), (h3, .inl (cy 1, 10, .inl f0)), (h4, .inl (cy 1, 10, .inl f1)), (h5, .inl (cy 1, 10, .inl f2)), (h6, .inl (cy 1, 10, .inl f3)), (h7, .inl (cy 1, 10, .inl f4))]) 0 0 := by
  refine q_ent (own := RX11) (by decide) rfl (Nat.le_of_ble_eq_true rfl) (fun p e s m below meth c ls X hr hlk hnm hK hT h hA hl => ?_)
  obtain ⟨hx, hb, hml, hown, ht⟩ := id X
  replace hl : lv_has ls 4 [(0, .ref h0), (1, .int p0), (2, .int p1)] := hl
  refine lv_aload_n hx hb dX11_person_0 rfl (lv_at hl 0 rfl) ?_
  refine lv_iload_n hx hb dX11_person_1 rfl (lv_at hl 1 rfl) ?_
  refine q_callVi (rest := []) (wr := [(h3, .inl (cy 1, 10, .inl f0)), (h4, .inl (cy 1, 10, .inl f1)), (h5, .inl (cy 1, 10, .inl f2)), (h6, .inl (cy 1, 10, .inl f3)), (h7, .inl (cy 1, 10, .inl f4))]) X hK hT hA h (fun sz => gX11_isPerson_96aca4a l D cy h0 h1 h2 p0 w0 p2 p3 p4 w1 w2 w3 w4 w5 w6 w7 w8 w9 w10 w11 p5 p6 p7 (.ref h7) p8 p9 p10 p11 w12 w13 (.ref h3) (.ref h4) (.ref h5) (.ref h6) (i_rng _) hp2 (i_rng _) (i_rng _) (i_rng _) (i_rng _) (i_rng _) hp8 hp9 (i_rng _) (i_rng _) sz) wm_3_174 wm_3_177 wm_1_1 hd_X11_isPerson wm_3_176 wp_2_8 (ci := 11) (q0 := 0) rfl rfl ⟨Nat.le_of_ble_eq_true rfl, Nat.le_of_ble_eq_true rfl⟩ hl.1 rfl (Nat.le_of_ble_eq_true rfl) dX11_person_2 ⟨Nat.le_of_ble_eq_true rfl, Nat.le_of_ble_eq_true rfl⟩ [0, 1, 2] [3, 4, 5, 6, 7] rfl rfl (by decide) rfl rfl (fun r_1 u_1 H locs w_1 h_1 => ?_)
  clear h
  obtain ⟨wr_1, y1_0, _⟩ := w_1
  replace h_1 : qW D _ _ [(h3, .inl (cy 1, 10, .inl f0)), (h4, .inl (cy 1, 10, .inl f1)), (h5, .inl (cy 1, 10, .inl f2)), (h6, .inl (cy 1, 10, .inl f3)), (h7, .inl (cy 1, 10, .inl f4)), (h0, .inr (11, [w0, .int p2, .int p3, .int p4, w1, .ref h1, w2, w3, w4, w5, w6, w7, w8, w9, w10, w11, .int p5])), (h1, .inr (7, [.ref h2, .int p6, .int p7, .ref h7])), (h2, .inr (3, [.int p8, .int p9, .int p10, .int p11, w12, w12, w12, w13, .ref h3, .ref h4, .ref h5, .ref h6]))] _ _ := h_1
  refine lv_if_ne (tgt := 11) hx hb dX11_person_5 (by decide) (fun c_2 => ?_) (fun c_2 => ?_)
  · replace c_2 := i_ne (x := r_1) (y := 0) rfl (show (0 : Int32).toInt = 0 by decide) c_2
    refine lv_aload_n hx hb dX11_person_11 rfl (lv_at hl 0 rfl) ?_
    refine q_get X hK h_1 5 rfl rfl wf_11 5 (by decide) rfl wm_2_103 dX11_person_12 ?_
    refine q_get X hK h_1 6 rfl rfl wf_7 0 (by decide) rfl wm_2_42 dX11_person_15 ?_
    refine lv_astore_n (lv' := [(3, .ref h2), (0, .ref h0), (1, .int p0), (2, .int p1)]) hx hb dX11_person_18 rfl hl (by decide) rfl (fun ls_3 hl_3 => ?_)
    clear hl
    refine lv_iload_n hx hb dX11_person_19 rfl (lv_at hl_3 3 rfl) ?_
    by_cases c_4 : p1 = 0
    · have ec_4 : (p1).toInt = 0 := by rw [c_4]; decide
      refine lv_tableIn (off := 52) (tgt := 72) hx hb dX11_person_20 (by rw [c_4]; decide +kernel) (by rw [c_4]; decide +kernel) (by rw [c_4]; decide +kernel) (by decide) ?_
      refine lv_aload_n hx hb dX11_person_72 rfl (lv_at hl_3 1 rfl) ?_
      refine q_get X hK h_1 5 rfl rfl wf_11 5 (by decide) rfl wm_2_103 dX11_person_73 ?_
      refine q_get X hK h_1 6 rfl rfl wf_7 3 (by decide) rfl wm_2_54 dX11_person_76 ?_
      refine lv_iload_n hx hb dX11_person_79 rfl (lv_at hl_3 2 rfl) ?_
      refine q_iald X hK h_1 4 rfl (i_in rfl (by omega) (by omega)) dX11_person_80 ?_
      obtain ⟨z_5, ez_5, hz_5⟩ := rg_get rf4 (x := p0) rfl (by omega) (by omega)
      refine q_c z_5 ez_5 ?_
      clear ez_5
      refine lv_bipush (v := 100) hx hb dX11_person_81 (by decide) ?_
      refine lv_idiv hx hb dX11_person_83 (by decide) ?_
      obtain ⟨z_6, ez_6, hz_6⟩ := e_div (x := z_5) (y := 100) rfl (show (100 : Int32).toInt = 100 by decide) (by omega) (by omega)
      refine q_c z_6 ez_6 ?_
      clear ez_6
      exact q_iret X hr hlk hK h_1 rfl (fun _ => 0, fun _ _ => 0, fun _ _ => 0) ⟨⟨by omega, by omega⟩, trivial⟩ [5, 6, 7, 0, 1, 2, 3, 4] rfl rfl dX11_person_84 (Nat.le_of_ble_eq_true rfl) (Nat.le_of_ble_eq_true rfl)
    by_cases c_7 : p1 = 1
    · have ec_7 : (p1).toInt = 1 := by rw [c_7]; decide
      refine lv_tableIn (off := 65) (tgt := 85) hx hb dX11_person_20 (by rw [c_7]; decide +kernel) (by rw [c_7]; decide +kernel) (by rw [c_7]; decide +kernel) (by decide) ?_
      refine lv_aload_n hx hb dX11_person_85 rfl (lv_at hl_3 1 rfl) ?_
      refine q_get X hK h_1 5 rfl rfl wf_11 5 (by decide) rfl wm_2_103 dX11_person_86 ?_
      refine q_get X hK h_1 6 rfl rfl wf_7 3 (by decide) rfl wm_2_54 dX11_person_89 ?_
      refine lv_iload_n hx hb dX11_person_92 rfl (lv_at hl_3 2 rfl) ?_
      refine q_iald X hK h_1 4 rfl (i_in rfl (by omega) (by omega)) dX11_person_93 ?_
      obtain ⟨z_8, ez_8, hz_8⟩ := rg_get rf4 (x := p0) rfl (by omega) (by omega)
      refine q_c z_8 ez_8 ?_
      clear ez_8
      refine lv_bipush (v := 10) hx hb dX11_person_94 (by decide) ?_
      refine lv_idiv hx hb dX11_person_96 (by decide) ?_
      obtain ⟨z_9, ez_9, hz_9⟩ := e_div (x := z_8) (y := 10) rfl (show (10 : Int32).toInt = 10 by decide) (by omega) (by omega)
      refine q_c z_9 ez_9 ?_
      clear ez_9
      refine lv_bipush (v := 10) hx hb dX11_person_97 (by decide) ?_
      refine lv_irem hx hb dX11_person_99 (by decide) ?_
      obtain ⟨z_10, ez_10, hz_10⟩ := e_rem (x := z_9) (y := 10) rfl (show (10 : Int32).toInt = 10 by decide) (by omega) (by omega)
      refine q_c z_10 ez_10 ?_
      clear ez_10
      exact q_iret X hr hlk hK h_1 rfl (fun _ => 0, fun _ _ => 0, fun _ _ => 0) ⟨⟨by omega, by omega⟩, trivial⟩ [5, 6, 7, 0, 1, 2, 3, 4] rfl rfl dX11_person_100 (Nat.le_of_ble_eq_true rfl) (Nat.le_of_ble_eq_true rfl)
    by_cases c_11 : p1 = 2
    · have ec_11 : (p1).toInt = 2 := by rw [c_11]; decide
      refine lv_tableIn (off := 81) (tgt := 101) hx hb dX11_person_20 (by rw [c_11]; decide +kernel) (by rw [c_11]; decide +kernel) (by rw [c_11]; decide +kernel) (by decide) ?_
      refine lv_aload_n hx hb dX11_person_101 rfl (lv_at hl_3 1 rfl) ?_
      refine q_get X hK h_1 5 rfl rfl wf_11 5 (by decide) rfl wm_2_103 dX11_person_102 ?_
      refine q_get X hK h_1 6 rfl rfl wf_7 3 (by decide) rfl wm_2_54 dX11_person_105 ?_
      refine lv_iload_n hx hb dX11_person_108 rfl (lv_at hl_3 2 rfl) ?_
      refine q_iald X hK h_1 4 rfl (i_in rfl (by omega) (by omega)) dX11_person_109 ?_
      obtain ⟨z_12, ez_12, hz_12⟩ := rg_get rf4 (x := p0) rfl (by omega) (by omega)
      refine q_c z_12 ez_12 ?_
      clear ez_12
      refine lv_bipush (v := 10) hx hb dX11_person_110 (by decide) ?_
      refine lv_irem hx hb dX11_person_112 (by decide) ?_
      obtain ⟨z_13, ez_13, hz_13⟩ := e_rem (x := z_12) (y := 10) rfl (show (10 : Int32).toInt = 10 by decide) (by omega) (by omega)
      refine q_c z_13 ez_13 ?_
      clear ez_13
      exact q_iret X hr hlk hK h_1 rfl (fun _ => 0, fun _ _ => 0, fun _ _ => 0) ⟨⟨by omega, by omega⟩, trivial⟩ [5, 6, 7, 0, 1, 2, 3, 4] rfl rfl dX11_person_113 (Nat.le_of_ble_eq_true rfl) (Nat.le_of_ble_eq_true rfl)
    by_cases c_14 : p1 = 3
    · have ec_14 : (p1).toInt = 3 := by rw [c_14]; decide
      refine lv_tableIn (off := 94) (tgt := 114) hx hb dX11_person_20 (by rw [c_14]; decide +kernel) (by rw [c_14]; decide +kernel) (by rw [c_14]; decide +kernel) (by decide) ?_
      refine lv_aload_n hx hb dX11_person_114 rfl (lv_at hl_3 0 rfl) ?_
      refine q_get X hK h_1 7 rfl rfl wf_3 8 (by decide) rfl wm_1_107 dX11_person_115 ?_
      refine lv_iload_n hx hb dX11_person_118 rfl (lv_at hl_3 2 rfl) ?_
      refine q_iald X hK h_1 0 rfl (i_in rfl (by omega) (by omega)) dX11_person_119 ?_
      refine q_any (fun z_15 hz_15 => ?_)
      exact q_iret X hr hlk hK h_1 rfl (fun _ => 0, fun _ _ => 0, fun _ _ => 0) ⟨⟨by omega, by omega⟩, trivial⟩ [5, 6, 7, 0, 1, 2, 3, 4] rfl rfl dX11_person_120 (Nat.le_of_ble_eq_true rfl) (Nat.le_of_ble_eq_true rfl)
    by_cases c_16 : p1 = 4
    · have ec_16 : (p1).toInt = 4 := by rw [c_16]; decide
      refine lv_tableIn (off := 101) (tgt := 121) hx hb dX11_person_20 (by rw [c_16]; decide +kernel) (by rw [c_16]; decide +kernel) (by rw [c_16]; decide +kernel) (by decide) ?_
      refine lv_aload_n hx hb dX11_person_121 rfl (lv_at hl_3 0 rfl) ?_
      refine q_get X hK h_1 7 rfl rfl wf_3 9 (by decide) rfl wm_1_111 dX11_person_122 ?_
      refine lv_iload_n hx hb dX11_person_125 rfl (lv_at hl_3 2 rfl) ?_
      refine q_iald X hK h_1 1 rfl (i_in rfl (by omega) (by omega)) dX11_person_126 ?_
      refine q_any (fun z_17 hz_17 => ?_)
      refine lv_sipush (v := 999) hx hb dX11_person_127 (by decide) ?_
      refine va_mmin hx hb (hml.trans hl_3.1.symm) hown (ht _ wm_3_178) (ht _ wm_2_171) (ht _ wm_1_13) (ht _ wm_2_172) (Nat.le_of_ble_eq_true rfl) (Nat.le_of_ble_eq_true rfl) (Nat.le_of_ble_eq_true rfl) (Nat.le_of_ble_eq_true rfl) dX11_person_130 ?_
      obtain ⟨z_18, ez_18, hz_18⟩ := e_min (x := z_17) (y := 999) rfl (show (999 : Int32).toInt = 999 by decide)
      refine q_c z_18 ez_18 ?_
      clear ez_18
      exact q_iret X hr hlk hK h_1 rfl (fun _ => 0, fun _ _ => 0, fun _ _ => 0) ⟨⟨by omega, by omega⟩, trivial⟩ [5, 6, 7, 0, 1, 2, 3, 4] rfl rfl dX11_person_133 (Nat.le_of_ble_eq_true rfl) (Nat.le_of_ble_eq_true rfl)
    by_cases c_19 : p1 = 5
    · have ec_19 : (p1).toInt = 5 := by rw [c_19]; decide
      refine lv_tableIn (off := 114) (tgt := 134) hx hb dX11_person_20 (by rw [c_19]; decide +kernel) (by rw [c_19]; decide +kernel) (by rw [c_19]; decide +kernel) (by decide) ?_
      refine lv_aload_n hx hb dX11_person_134 rfl (lv_at hl_3 0 rfl) ?_
      refine q_get X hK h_1 7 rfl rfl wf_3 10 (by decide) rfl wm_1_114 dX11_person_135 ?_
      refine lv_iload_n hx hb dX11_person_138 rfl (lv_at hl_3 2 rfl) ?_
      refine q_iald X hK h_1 2 rfl (i_in rfl (by omega) (by omega)) dX11_person_139 ?_
      refine q_any (fun z_20 hz_20 => ?_)
      exact q_iret X hr hlk hK h_1 rfl (fun _ => 0, fun _ _ => 0, fun _ _ => 0) ⟨⟨by omega, by omega⟩, trivial⟩ [5, 6, 7, 0, 1, 2, 3, 4] rfl rfl dX11_person_140 (Nat.le_of_ble_eq_true rfl) (Nat.le_of_ble_eq_true rfl)
    by_cases c_21 : p1 = 6
    · have ec_21 : (p1).toInt = 6 := by rw [c_21]; decide
      refine lv_tableIn (off := 121) (tgt := 141) hx hb dX11_person_20 (by rw [c_21]; decide +kernel) (by rw [c_21]; decide +kernel) (by rw [c_21]; decide +kernel) (by decide) ?_
      refine lv_aload_n hx hb dX11_person_141 rfl (lv_at hl_3 0 rfl) ?_
      refine q_get X hK h_1 7 rfl rfl wf_3 11 (by decide) rfl wm_1_117 dX11_person_142 ?_
      refine lv_iload_n hx hb dX11_person_145 rfl (lv_at hl_3 2 rfl) ?_
      refine q_iald X hK h_1 3 rfl (i_in rfl (by omega) (by omega)) dX11_person_146 ?_
      refine q_any (fun z_22 hz_22 => ?_)
      exact q_iret X hr hlk hK h_1 rfl (fun _ => 0, fun _ _ => 0, fun _ _ => 0) ⟨⟨by omega, by omega⟩, trivial⟩ [5, 6, 7, 0, 1, 2, 3, 4] rfl rfl dX11_person_147 (Nat.le_of_ble_eq_true rfl) (Nat.le_of_ble_eq_true rfl)
    by_cases c_23 : p1 = 7
    · have ec_23 : (p1).toInt = 7 := by rw [c_23]; decide
      refine lv_tableIn (off := 128) (tgt := 148) hx hb dX11_person_20 (by rw [c_23]; decide +kernel) (by rw [c_23]; decide +kernel) (by rw [c_23]; decide +kernel) (by decide) ?_
      refine lv_aload_n hx hb dX11_person_148 rfl (lv_at hl_3 1 rfl) ?_
      refine q_get X hK h_1 5 rfl rfl wf_11 5 (by decide) rfl wm_2_103 dX11_person_149 ?_
      refine q_get X hK h_1 6 rfl rfl wf_7 2 (by decide) rfl wm_2_49 dX11_person_152 ?_
      refine lv_iload_n hx hb dX11_person_155 rfl (lv_at hl_3 2 rfl) ?_
      refine lv_ishr hx hb dX11_person_156 ?_
      refine q_any (fun z_24 hz_24 => ?_)
      refine lv_iconst (v := 1) hx hb dX11_person_157 (by decide) ?_
      refine lv_iand hx hb dX11_person_158 ?_
      obtain ⟨z_25, ez_25, hz_25⟩ := e_and2 (x := z_24) (y := 1) (show (1 : Int32).toInt = 1 by decide) (by omega)
      refine q_c z_25 ez_25 ?_
      clear ez_25
      exact q_iret X hr hlk hK h_1 rfl (fun _ => 0, fun _ _ => 0, fun _ _ => 0) ⟨⟨by omega, by omega⟩, trivial⟩ [5, 6, 7, 0, 1, 2, 3, 4] rfl rfl dX11_person_159 (Nat.le_of_ble_eq_true rfl) (Nat.le_of_ble_eq_true rfl)
    by_cases c_26 : p1 = 8
    · have ec_26 : (p1).toInt = 8 := by rw [c_26]; decide
      refine lv_tableIn (off := 140) (tgt := 160) hx hb dX11_person_20 (by rw [c_26]; decide +kernel) (by rw [c_26]; decide +kernel) (by rw [c_26]; decide +kernel) (by decide) ?_
      refine lv_aload_n hx hb dX11_person_160 rfl (lv_at hl_3 1 rfl) ?_
      refine q_get X hK h_1 5 rfl rfl wf_11 5 (by decide) rfl wm_2_103 dX11_person_161 ?_
      refine q_callVi (rest := []) (wr := [(h5, .inl (cy 1, 10, .inl f2)), (h6, .inl (cy 1, 10, .inl f3)), (h7, .inl (cy 1, 10, .inl f4)), (h0, .inr (11, [w0, .int p2, .int p3, .int p4, w1, .ref h1, w2, w3, w4, w5, w6, w7, w8, w9, w10, w11, .int p5]))]) X hK hT hA h_1 (fun sz => gX7_inTown_77fe0ec l D cy h1 h2 h3 h4 p6 p7 (.ref h7) p8 p9 p10 p11 w12 w13 (.ref h5) (.ref h6) f0 f1 (i_rng _) (i_rng _) hp8 hp9 (i_rng _) (i_rng _) sz) wm_3_179 wm_3_182 wm_1_9 hd_X7_inTown wm_3_180 wm_3_181 (ci := 7) (q0 := 0) rfl rfl ⟨Nat.le_of_ble_eq_true rfl, Nat.le_of_ble_eq_true rfl⟩ hl_3.1 rfl (Nat.le_of_ble_eq_true rfl) dX11_person_164 ⟨Nat.le_of_ble_eq_true rfl, Nat.le_of_ble_eq_true rfl⟩ [6, 7, 0, 1] [2, 3, 4, 5] rfl rfl (by decide) rfl rfl (fun r_27 u_27 H locs w_27 h_27 => ?_)
      clear h_1
      obtain ⟨wr_27, _⟩ := w_27
      replace h_27 : qW D _ _ [(h5, .inl (cy 1, 10, .inl f2)), (h6, .inl (cy 1, 10, .inl f3)), (h7, .inl (cy 1, 10, .inl f4)), (h0, .inr (11, [w0, .int p2, .int p3, .int p4, w1, .ref h1, w2, w3, w4, w5, w6, w7, w8, w9, w10, w11, .int p5])), (h1, .inr (7, [.ref h2, .int p6, .int p7, .ref h7])), (h2, .inr (3, [.int p8, .int p9, .int p10, .int p11, w12, w12, w12, w13, .ref h3, .ref h4, .ref h5, .ref h6])), (h3, .inl (cy 1, 10, .inl f0)), (h4, .inl (cy 1, 10, .inl f1))] _ _ := h_27
      refine lv_iload_n hx hb dX11_person_167 rfl (lv_at hl_3 2 rfl) ?_
      refine lv_ishr hx hb dX11_person_168 ?_
      obtain ⟨z_28, ez_28, hz_28⟩ := e_shr (x := r_27) p0 rfl (by omega)
      refine q_c z_28 ez_28 ?_
      clear ez_28
      refine lv_iconst (v := 1) hx hb dX11_person_169 (by decide) ?_
      refine lv_iand hx hb dX11_person_170 ?_
      obtain ⟨z_29, ez_29, hz_29⟩ := e_and2 (x := z_28) (y := 1) (show (1 : Int32).toInt = 1 by decide) (by omega)
      refine q_c z_29 ez_29 ?_
      clear ez_29
      exact q_iret X hr hlk hK h_27 rfl (fun _ => 0, fun _ _ => 0, fun _ _ => 0) ⟨⟨by omega, by omega⟩, trivial⟩ [3, 4, 5, 6, 7, 0, 1, 2] rfl rfl dX11_person_171 (Nat.le_of_ble_eq_true rfl) (Nat.le_of_ble_eq_true rfl)
    have nc_4 := lv_neT c_4 (show (0 : Int32).toInt = 0 by decide)
    have nc_7 := lv_neT c_7 (show (1 : Int32).toInt = 1 by decide)
    have nc_11 := lv_neT c_11 (show (2 : Int32).toInt = 2 by decide)
    have nc_14 := lv_neT c_14 (show (3 : Int32).toInt = 3 by decide)
    have nc_16 := lv_neT c_16 (show (4 : Int32).toInt = 4 by decide)
    have nc_19 := lv_neT c_19 (show (5 : Int32).toInt = 5 by decide)
    have nc_21 := lv_neT c_21 (show (6 : Int32).toInt = 6 by decide)
    have nc_23 := lv_neT c_23 (show (7 : Int32).toInt = 7 by decide)
    have nc_26 := lv_neT c_26 (show (8 : Int32).toInt = 8 by decide)
    refine lv_tableOut (tgt := 172) hx hb dX11_person_20 (by omega) (by decide) ?_
    refine lv_bipush (v := (-2)) hx hb dX11_person_172 (by decide) ?_
    exact q_iret X hr hlk hK h_1 rfl (fun _ => 0, fun _ _ => 0, fun _ _ => 0) ⟨⟨by decide +kernel, by decide +kernel⟩, trivial⟩ [5, 6, 7, 0, 1, 2, 3, 4] rfl rfl dX11_person_174 (Nat.le_of_ble_eq_true rfl) (Nat.le_of_ble_eq_true rfl)
  · replace c_2 := i_eq (x := r_1) (y := 0) rfl (show (0 : Int32).toInt = 0 by decide) c_2
    refine lv_bipush (v := (-2)) hx hb dX11_person_8 (by decide) ?_
    exact q_iret X hr hlk hK h_1 rfl (fun _ => 0, fun _ _ => 0, fun _ _ => 0) ⟨⟨by decide +kernel, by decide +kernel⟩, trivial⟩ [5, 6, 7, 0, 1, 2, 3, 4] rfl rfl dX11_person_10 (Nat.le_of_ble_eq_true rfl) (Nat.le_of_ble_eq_true rfl)
set_option maxHeartbeats 4000000 in
set_option maxRecDepth 100000 in
theorem gX7_inTownOn_79cd656 (l : Launch) (D : va_G) (cy : Nat → ClassId) (h0 : Nat) (h1 : Nat) (h2 : Nat) (h3 : Nat) (p0 : Int32) (p1 : Int32) (p2 : Int32) (w0 : Value) (p3 : Int32) (p4 : Int32) (p5 : Int32) (p6 : Int32) (w1 : Value) (w2 : Value) (w3 : Value) (w4 : Value) (f0 : Nat → Int32) (f1 : Nat → Int32) (hp0 : (-2147483648) ≤ (p0).toInt ∧ (p0).toInt ≤ 2147483647) (hp1 : (-2147483648) ≤ (p1).toInt ∧ (p1).toInt ≤ 2147483647) (hp2 : (-2147483648) ≤ (p2).toInt ∧ (p2).toInt ≤ 2147483647) (hp3 : 1 ≤ (p3).toInt ∧ (p3).toInt ≤ 3) (hp4 : 0 ≤ (p4).toInt ∧ (p4).toInt ≤ 10) (hp5 : (-2147483648) ≤ (p5).toInt ∧ (p5).toInt ≤ 2147483647) (hp6 : (-2147483648) ≤ (p6).toInt ∧ (p6).toInt ≤ 2147483647) (sz : Nat) : MI l yX7_inTownOn cX7_inTownOn 4 .int { frames := 0, cells := 0, slots := 0, locals := 0 } [.ref h0, .int p0] D cy [(h0, .inr (7, [.ref h1, .int p1, .int p2, w0])), (h1, .inr (3, [.int p3, .int p4, .int p5, .int p6, w1, w1, w1, w2, .ref h2, .ref h3, w3, w4])), (h2, .inl (cy 1, 10, .inl f0)), (h3, .inl (cy 1, 10, .inl f1))] sz (fun r u => (0 ≤ r.toInt ∧ r.toInt ≤ 1023) ∧ True) (fun u => [(h0, .inr (7, [.ref h1, .int p1, .int p2, w0])), (h1, .inr (3, [.int p3, .int p4, .int p5, .int p6, w1, w1, w1, w2, .ref h2, .ref h3, w3, w4])), (h2, .inl (cy 1, 10, .inl f0)), (h3, .inl (cy 1, 10, .inl f1))]) 0 0 := by
  refine q_ent (own := RX7) (by decide) rfl (Nat.le_of_ble_eq_true rfl) (fun p e s m below meth c ls X hr hlk hnm hK hT h hA hl => ?_)
  obtain ⟨hx, hb, hml, hown, ht⟩ := id X
  replace hl : lv_has ls 4 [(0, .ref h0), (1, .int p0)] := hl
  refine lv_iconst (v := 0) hx hb dX7_inTownOn_0 (by decide) ?_
  refine lv_istore_n (lv' := [(2, .int 0), (0, .ref h0), (1, .int p0)]) hx hb dX7_inTownOn_1 rfl hl (by decide) rfl (fun ls_1 hl_1 => ?_)
  clear hl
  refine lv_iconst (v := 0) hx hb dX7_inTownOn_2 (by decide) ?_
  refine lv_istore_n (lv' := [(3, .int 0), (2, .int 0), (0, .ref h0), (1, .int p0)]) hx hb dX7_inTownOn_3 rfl hl_1 (by decide) rfl (fun ls_2 hl_2 => ?_)
  clear hl_1
  refine q_wl (fun (q : Int32 × Int32) H locs ls => match q with | (v4_3_0, v4_3_1) => (0 ≤ (v4_3_0).toInt ∧ (v4_3_0).toInt ≤ 10) ∧ (0 ≤ (v4_3_1).toInt ∧ (v4_3_1).toInt ≤ 1023) ∧ qW D (va_A [(h0, .inr (7, [.ref h1, .int p1, .int p2, w0])), (h1, .inr (3, [.int p3, .int p4, .int p5, .int p6, w1, w1, w1, w2, .ref h2, .ref h3, w3, w4])), (h2, .inl (cy 1, 10, .inl f0)), (h3, .inl (cy 1, 10, .inl f1))] sz) s.heap [(h0, .inr (7, [.ref h1, .int p1, .int p2, w0])), (h1, .inr (3, [.int p3, .int p4, .int p5, .int p6, w1, w1, w1, w2, .ref h2, .ref h3, w3, w4])), (h2, .inl (cy 1, 10, .inl f0)), (h3, .inl (cy 1, 10, .inl f1))] H locs ∧ lv_has ls 4 [(0, .ref h0), (1, .int p0), (2, .int v4_3_1), (3, .int v4_3_0)]) (fun (q : Int32 × Int32) => match q with | (v4_3_0, v4_3_1) => (11 - (v4_3_0).toInt).toNat) (fun q_4 ih_4 H locs ls hP => ?_) (0, 0) ⟨⟨by decide +kernel, by decide +kernel⟩, ⟨by decide +kernel, by decide +kernel⟩, h, (lv_sub hl_2 [2, 3, 1, 0] rfl)⟩
  obtain ⟨v4_3_0, v4_3_1⟩ := q_4
  obtain ⟨hv4_3_0, hv4_3_1, h, hl⟩ := hP
  refine lv_iload_n hx hb dX7_inTownOn_4 rfl (lv_at hl 3 rfl) ?_
  refine lv_aload_n hx hb dX7_inTownOn_5 rfl (lv_at hl 0 rfl) ?_
  refine q_get X hK h 0 rfl rfl wf_7 0 (by decide) rfl wm_2_37 dX7_inTownOn_6 ?_
  refine q_get X hK h 1 rfl rfl wf_3 1 (by decide) rfl wm_1_83 dX7_inTownOn_9 ?_
  refine lv_icmp_ge (tgt := 53) hx hb dX7_inTownOn_12 (by decide) (fun c_4 => ?_) (fun c_4 => ?_)
  · replace c_4 := i_le (x := p4) (y := v4_3_0) rfl rfl c_4
    refine lv_iload_n hx hb dX7_inTownOn_53 rfl (lv_at hl 2 rfl) ?_
    refine lv_aload_n hx hb dX7_inTownOn_54 rfl (lv_at hl 0 rfl) ?_
    refine q_get X hK h 0 rfl rfl wf_7 2 (by decide) rfl wm_2_48 dX7_inTownOn_55 ?_
    refine lv_iconst (v := (-1)) hx hb dX7_inTownOn_58 (by decide) ?_
    refine lv_ixor hx hb dX7_inTownOn_59 ?_
    refine q_any (fun z_5 hz_5 => ?_)
    refine lv_iand hx hb dX7_inTownOn_60 ?_
    obtain ⟨z_6, ez_6, hz_6⟩ := e_and1 (x := v4_3_1) (y := z_5) rfl (by omega)
    refine q_c z_6 ez_6 ?_
    clear ez_6
    exact q_iret X hr hlk hK h rfl (fun _ => 0, fun _ _ => 0, fun _ _ => 0) ⟨⟨by omega, by omega⟩, trivial⟩ [0, 1, 2, 3] rfl rfl dX7_inTownOn_61 (Nat.le_of_ble_eq_true rfl) (Nat.le_of_ble_eq_true rfl)
  · replace c_4 := i_nle (x := p4) (y := v4_3_0) rfl rfl c_4
    refine lv_aload_n hx hb dX7_inTownOn_15 rfl (lv_at hl 0 rfl) ?_
    refine q_get X hK h 0 rfl rfl wf_7 0 (by decide) rfl wm_2_37 dX7_inTownOn_16 ?_
    refine q_get X hK h 1 rfl rfl wf_3 8 (by decide) rfl wm_1_106 dX7_inTownOn_19 ?_
    refine lv_iload_n hx hb dX7_inTownOn_22 rfl (lv_at hl 3 rfl) ?_
    refine q_iald X hK h 2 rfl (i_in rfl (by omega) (by omega)) dX7_inTownOn_23 ?_
    refine q_any (fun z_7 hz_7 => ?_)
    refine lv_iload_n hx hb dX7_inTownOn_24 rfl (lv_at hl 1 rfl) ?_
    refine q_jn (pc2 := 47) (fun H locs ls st => ∃ v47_8_0 : Int32, (0 ≤ (v47_8_0).toInt ∧ (v47_8_0).toInt ≤ 1023) ∧ st = [] ∧ qW D (va_A [(h0, .inr (7, [.ref h1, .int p1, .int p2, w0])), (h1, .inr (3, [.int p3, .int p4, .int p5, .int p6, w1, w1, w1, w2, .ref h2, .ref h3, w3, w4])), (h2, .inl (cy 1, 10, .inl f0)), (h3, .inl (cy 1, 10, .inl f1))] sz) s.heap [(h0, .inr (7, [.ref h1, .int p1, .int p2, w0])), (h1, .inr (3, [.int p3, .int p4, .int p5, .int p6, w1, w1, w1, w2, .ref h2, .ref h3, w3, w4])), (h2, .inl (cy 1, 10, .inl f0)), (h3, .inl (cy 1, 10, .inl f1))] H locs ∧ lv_has ls 4 [(0, .ref h0), (1, .int p0), (2, .int v47_8_0), (3, .int v4_3_0)]) (fun H locs ls st hP => ?_) (fun J_47 => ?_)
    · obtain ⟨v47_8_0, hv47_8_0, rfl, h, hl⟩ := hP
      obtain ⟨z_9, ez_9, hz_9⟩ := e_add (x := v4_3_0) (y := Int32.ofInt 1) rfl (b := 1) (by decide) (by omega) (by omega)
      refine lv_iinc (v := z_9) (lv' := [(3, .int z_9), (0, .ref h0), (1, .int p0), (2, .int v47_8_0)]) hx hb dX7_inTownOn_47 hl (k := 3) rfl ez_9 (by decide) rfl (fun ls_9 hl_9 => ?_)
      clear hl
      refine lv_goto (tgt := 4) hx hb dX7_inTownOn_50 (by decide) ?_
      exact ih_4 (z_9, v47_8_0) (by show (11 - (z_9).toInt).toNat < (11 - (v4_3_0).toInt).toNat; omega) _ _ _ ⟨⟨by omega, by omega⟩, hv47_8_0, h, (lv_sub hl_9 [1, 2, 3, 0] rfl)⟩
    · skip
      refine lv_icmp_gt (tgt := 47) hx hb dX7_inTownOn_25 (by decide) (fun c_10 => ?_) (fun c_10 => ?_)
      · replace c_10 := i_lt (x := p0) (y := z_7) rfl rfl c_10
        exact J_47 _ _ _ _ ⟨v4_3_1, hv4_3_1, rfl, h, (lv_sub hl [0, 1, 2, 3] rfl)⟩
      · replace c_10 := i_nlt (x := p0) (y := z_7) rfl rfl c_10
        refine lv_iload_n hx hb dX7_inTownOn_28 rfl (lv_at hl 1 rfl) ?_
        refine lv_aload_n hx hb dX7_inTownOn_29 rfl (lv_at hl 0 rfl) ?_
        refine q_get X hK h 0 rfl rfl wf_7 0 (by decide) rfl wm_2_37 dX7_inTownOn_30 ?_
        refine q_get X hK h 1 rfl rfl wf_3 9 (by decide) rfl wm_1_110 dX7_inTownOn_33 ?_
        refine lv_iload_n hx hb dX7_inTownOn_36 rfl (lv_at hl 3 rfl) ?_
        refine q_iald X hK h 3 rfl (i_in rfl (by omega) (by omega)) dX7_inTownOn_37 ?_
        refine q_any (fun z_11 hz_11 => ?_)
        refine lv_icmp_gt (tgt := 47) hx hb dX7_inTownOn_38 (by decide) (fun c_12 => ?_) (fun c_12 => ?_)
        · replace c_12 := i_lt (x := z_11) (y := p0) rfl rfl c_12
          exact J_47 _ _ _ _ ⟨v4_3_1, hv4_3_1, rfl, h, (lv_sub hl [0, 1, 2, 3] rfl)⟩
        · replace c_12 := i_nlt (x := z_11) (y := p0) rfl rfl c_12
          refine lv_iload_n hx hb dX7_inTownOn_41 rfl (lv_at hl 2 rfl) ?_
          refine lv_iconst (v := 1) hx hb dX7_inTownOn_42 (by decide) ?_
          refine lv_iload_n hx hb dX7_inTownOn_43 rfl (lv_at hl 3 rfl) ?_
          refine lv_ishl hx hb dX7_inTownOn_44 ?_
          obtain ⟨z_13, ez_13, hz_13⟩ := e_shlk (p := v4_3_0) 9 (by decide) rfl (by omega) (by omega)
          refine q_c z_13 ez_13 ?_
          clear ez_13
          refine lv_ior hx hb dX7_inTownOn_45 ?_
          obtain ⟨z_14, ez_14, hz_14⟩ := e_or (x := v4_3_1) (y := z_13) 10 (by decide) rfl rfl (by omega) (by omega) (by omega) (by omega)
          refine q_c z_14 ez_14 ?_
          clear ez_14
          refine lv_istore_n (lv' := [(2, .int z_14), (0, .ref h0), (1, .int p0), (3, .int v4_3_0)]) hx hb dX7_inTownOn_46 rfl hl (by decide) rfl (fun ls_15 hl_15 => ?_)
          clear hl
          exact J_47 _ _ _ _ ⟨z_14, ⟨by omega, by omega⟩, rfl, h, (lv_sub hl_15 [1, 2, 0, 3] rfl)⟩
set_option maxHeartbeats 4000000 in
set_option maxRecDepth 100000 in
theorem gX11_town_6d229c3 (l : Launch) (D : va_G) (cy : Nat → ClassId) (h0 : Nat) (h1 : Nat) (h2 : Nat) (h3 : Nat) (h4 : Nat) (p0 : Int32) (w0 : Value) (p1 : Int32) (p2 : Int32) (p3 : Int32) (w1 : Value) (w2 : Value) (w3 : Value) (w4 : Value) (w5 : Value) (w6 : Value) (w7 : Value) (w8 : Value) (w9 : Value) (w10 : Value) (w11 : Value) (p4 : Int32) (p5 : Int32) (p6 : Int32) (w12 : Value) (p7 : Int32) (p8 : Int32) (p9 : Int32) (p10 : Int32) (w13 : Value) (w14 : Value) (w15 : Value) (w16 : Value) (f0 : Nat → Int32) (f1 : Nat → Int32) (hp0 : (-2147483648) ≤ (p0).toInt ∧ (p0).toInt ≤ 2147483647) (hp1 : 0 ≤ (p1).toInt ∧ (p1).toInt ≤ 900) (hp2 : (-2147483648) ≤ (p2).toInt ∧ (p2).toInt ≤ 2147483647) (hp3 : (-2147483648) ≤ (p3).toInt ∧ (p3).toInt ≤ 2147483647) (hp4 : (-2147483648) ≤ (p4).toInt ∧ (p4).toInt ≤ 2147483647) (hp5 : (-2147483648) ≤ (p5).toInt ∧ (p5).toInt ≤ 2147483647) (hp6 : (-2147483648) ≤ (p6).toInt ∧ (p6).toInt ≤ 2147483647) (hp7 : 1 ≤ (p7).toInt ∧ (p7).toInt ≤ 3) (hp8 : 0 ≤ (p8).toInt ∧ (p8).toInt ≤ 10) (hp9 : (-2147483648) ≤ (p9).toInt ∧ (p9).toInt ≤ 2147483647) (hp10 : (-2147483648) ≤ (p10).toInt ∧ (p10).toInt ≤ 2147483647) (sz : Nat) : MI l yX11_town cX11_town 2 .int { frames := 1, cells := 0, slots := 0, locals := 23 } [.ref h0, .int p0] D cy [(h0, .inr (11, [w0, .int p1, .int p2, .int p3, w1, .ref h1, w2, w3, w4, w5, w6, w7, w8, w9, w10, w11, .int p4])), (h1, .inr (7, [.ref h2, .int p5, .int p6, w12])), (h2, .inr (3, [.int p7, .int p8, .int p9, .int p10, w13, w13, w13, w14, .ref h3, .ref h4, w15, w16])), (h3, .inl (cy 1, 10, .inl f0)), (h4, .inl (cy 1, 10, .inl f1))] sz (fun r u => ((-3) ≤ r.toInt ∧ r.toInt ≤ 1023) ∧ True) (fun u => [(h0, .inr (11, [w0, .int p1, .int p2, .int p3, w1, .ref h1, w2, w3, w4, w5, w6, w7, w8, w9, w10, w11, .int p4])), (h1, .inr (7, [.ref h2, .int p5, .int p6, w12])), (h2, .inr (3, [.int p7, .int p8, .int p9, .int p10, w13, w13, w13, w14, .ref h3, .ref h4, w15, w16])), (h3, .inl (cy 1, 10, .inl f0)), (h4, .inl (cy 1, 10, .inl f1))]) 0 0 := by
  refine q_ent (own := RX11) (by decide) rfl (Nat.le_of_ble_eq_true rfl) (fun p e s m below meth c ls X hr hlk hnm hK hT h hA hl => ?_)
  obtain ⟨hx, hb, hml, hown, ht⟩ := id X
  replace hl : lv_has ls 2 [(0, .ref h0), (1, .int p0)] := hl
  refine lv_iload_n hx hb dX11_town_0 rfl (lv_at hl 1 rfl) ?_
  refine q_jn (pc2 := 11) (fun H locs ls st => st = [] ∧ qW D (va_A [(h0, .inr (11, [w0, .int p1, .int p2, .int p3, w1, .ref h1, w2, w3, w4, w5, w6, w7, w8, w9, w10, w11, .int p4])), (h1, .inr (7, [.ref h2, .int p5, .int p6, w12])), (h2, .inr (3, [.int p7, .int p8, .int p9, .int p10, w13, w13, w13, w14, .ref h3, .ref h4, w15, w16])), (h3, .inl (cy 1, 10, .inl f0)), (h4, .inl (cy 1, 10, .inl f1))] sz) s.heap [(h0, .inr (11, [w0, .int p1, .int p2, .int p3, w1, .ref h1, w2, w3, w4, w5, w6, w7, w8, w9, w10, w11, .int p4])), (h1, .inr (7, [.ref h2, .int p5, .int p6, w12])), (h2, .inr (3, [.int p7, .int p8, .int p9, .int p10, w13, w13, w13, w14, .ref h3, .ref h4, w15, w16])), (h3, .inl (cy 1, 10, .inl f0)), (h4, .inl (cy 1, 10, .inl f1))] H locs ∧ lv_has ls 2 [(0, .ref h0), (1, .int p0)]) (fun H locs ls st hP => ?_) (fun J_11 => ?_)
  · obtain ⟨rfl, h, hl⟩ := hP
    refine lv_bipush (v := (-3)) hx hb dX11_town_11 (by decide) ?_
    exact q_iret X hr hlk hK h rfl (fun _ => 0, fun _ _ => 0, fun _ _ => 0) ⟨⟨by decide +kernel, by decide +kernel⟩, trivial⟩ [0, 1, 2, 3, 4] rfl rfl dX11_town_13 (Nat.le_of_ble_eq_true rfl) (Nat.le_of_ble_eq_true rfl)
  · skip
    refine lv_if_lt (tgt := 11) hx hb dX11_town_1 (by decide) (fun c_2 => ?_) (fun c_2 => ?_)
    · replace c_2 := i_lt (x := p0) (y := 0) rfl (show (0 : Int32).toInt = 0 by decide) c_2
      exact J_11 _ _ _ _ ⟨rfl, h, (lv_sub hl [0, 1] rfl)⟩
    · replace c_2 := i_nlt (x := p0) (y := 0) rfl (show (0 : Int32).toInt = 0 by decide) c_2
      refine lv_iload_n hx hb dX11_town_4 rfl (lv_at hl 1 rfl) ?_
      refine lv_sipush (v := 999) hx hb dX11_town_5 (by decide) ?_
      refine lv_icmp_le (tgt := 14) hx hb dX11_town_8 (by decide) (fun c_3 => ?_) (fun c_3 => ?_)
      · replace c_3 := i_le (x := p0) (y := 999) rfl (show (999 : Int32).toInt = 999 by decide) c_3
        refine lv_aload_n hx hb dX11_town_14 rfl (lv_at hl 0 rfl) ?_
        refine q_get X hK h 0 rfl rfl wf_11 5 (by decide) rfl wm_2_103 dX11_town_15 ?_
        refine lv_aload_n hx hb dX11_town_18 rfl (lv_at hl 0 rfl) ?_
        refine q_get X hK h 0 rfl rfl wf_11 5 (by decide) rfl wm_2_103 dX11_town_19 ?_
        refine q_get X hK h 1 rfl rfl wf_7 1 (by decide) rfl wm_2_47 dX11_town_22 ?_
        refine lv_iload_n hx hb dX11_town_25 rfl (lv_at hl 1 rfl) ?_
        refine lv_iadd hx hb dX11_town_26 ?_
        refine q_any (fun z_4 hz_4 => ?_)
        refine q_callVi (rest := []) (wr := [(h0, .inr (11, [w0, .int p1, .int p2, .int p3, w1, .ref h1, w2, w3, w4, w5, w6, w7, w8, w9, w10, w11, .int p4]))]) X hK hT hA h (fun sz => gX7_inTownOn_79cd656 l D cy h1 h2 h3 h4 z_4 p5 p6 w12 p7 p8 p9 p10 w13 w14 w15 w16 f0 f1 (i_rng _) (i_rng _) (i_rng _) hp7 hp8 (i_rng _) (i_rng _) sz) wm_3_191 wm_3_186 wm_1_9 hd_X7_inTownOn wm_3_184 wm_3_185 (ci := 7) (q0 := 0) rfl rfl ⟨Nat.le_of_ble_eq_true rfl, Nat.le_of_ble_eq_true rfl⟩ hl.1 rfl (Nat.le_of_ble_eq_true rfl) dX11_town_27 ⟨Nat.le_of_ble_eq_true rfl, Nat.le_of_ble_eq_true rfl⟩ [1, 2, 3, 4] [0] rfl rfl (by decide) rfl rfl (fun r_5 u_5 H locs w_5 h_5 => ?_)
        clear h
        obtain ⟨wr_5, _⟩ := w_5
        replace h_5 : qW D _ _ [(h0, .inr (11, [w0, .int p1, .int p2, .int p3, w1, .ref h1, w2, w3, w4, w5, w6, w7, w8, w9, w10, w11, .int p4])), (h1, .inr (7, [.ref h2, .int p5, .int p6, w12])), (h2, .inr (3, [.int p7, .int p8, .int p9, .int p10, w13, w13, w13, w14, .ref h3, .ref h4, w15, w16])), (h3, .inl (cy 1, 10, .inl f0)), (h4, .inl (cy 1, 10, .inl f1))] _ _ := h_5
        exact q_iret X hr hlk hK h_5 rfl (fun _ => 0, fun _ _ => 0, fun _ _ => 0) ⟨(bw wr_5 (by decide) (by decide)), trivial⟩ [0, 1, 2, 3, 4] rfl rfl dX11_town_30 (Nat.le_of_ble_eq_true rfl) (Nat.le_of_ble_eq_true rfl)
      · replace c_3 := i_nle (x := p0) (y := 999) rfl (show (999 : Int32).toInt = 999 by decide) c_3
        exact J_11 _ _ _ _ ⟨rfl, h, (lv_sub hl [0, 1] rfl)⟩
set_option maxHeartbeats 4000000 in
set_option maxRecDepth 100000 in
theorem gX11_isPerson_c6d5f45 (l : Launch) (D : va_G) (cy : Nat → ClassId) (h0 : Nat) (h1 : Nat) (h2 : Nat) (p0 : Int32) (w0 : Value) (p1 : Int32) (p2 : Int32) (p3 : Int32) (w1 : Value) (w2 : Value) (w3 : Value) (w4 : Value) (w5 : Value) (w6 : Value) (w7 : Value) (w8 : Value) (w9 : Value) (w10 : Value) (w11 : Value) (p4 : Int32) (p5 : Int32) (p6 : Int32) (w12 : Value) (p7 : Int32) (p8 : Int32) (p9 : Int32) (p10 : Int32) (w13 : Value) (w14 : Value) (w15 : Value) (w16 : Value) (w17 : Value) (w18 : Value) (w19 : Value) (hp0 : (-2147483648) ≤ (p0).toInt ∧ (p0).toInt ≤ 2147483647) (hp1 : 0 ≤ (p1).toInt ∧ (p1).toInt ≤ 900) (hp2 : (-2147483648) ≤ (p2).toInt ∧ (p2).toInt ≤ 2147483647) (hp3 : (-2147483648) ≤ (p3).toInt ∧ (p3).toInt ≤ 2147483647) (hp4 : (-2147483648) ≤ (p4).toInt ∧ (p4).toInt ≤ 2147483647) (hp5 : (-2147483648) ≤ (p5).toInt ∧ (p5).toInt ≤ 2147483647) (hp6 : (-2147483648) ≤ (p6).toInt ∧ (p6).toInt ≤ 2147483647) (hp7 : 1 ≤ (p7).toInt ∧ (p7).toInt ≤ 3) (hp8 : 0 ≤ (p8).toInt ∧ (p8).toInt ≤ 10) (hp9 : (-2147483648) ≤ (p9).toInt ∧ (p9).toInt ≤ 2147483647) (hp10 : (-2147483648) ≤ (p10).toInt ∧ (p10).toInt ≤ 2147483647) (sz : Nat) : MI l yX11_isPerson cX11_isPerson 2 .boolean { frames := 0, cells := 0, slots := 0, locals := 0 } [.ref h0, .int p0] D cy [(h0, .inr (11, [w0, .int p1, .int p2, .int p3, w1, .ref h1, w2, w3, w4, w5, w6, w7, w8, w9, w10, w11, .int p4])), (h1, .inr (7, [.ref h2, .int p5, .int p6, w12])), (h2, .inr (3, [.int p7, .int p8, .int p9, .int p10, w13, w14, w14, w15, w16, w17, w18, w19]))] sz (fun r u => (0 ≤ r.toInt ∧ r.toInt ≤ 1) ∧ ((r : Int32).toInt = 0 ∨ (0 ≤ (p0 : Int32).toInt ∧ (p0 : Int32).toInt < (p8 : Int32).toInt)) ∧ True) (fun u => [(h0, .inr (11, [w0, .int p1, .int p2, .int p3, w1, .ref h1, w2, w3, w4, w5, w6, w7, w8, w9, w10, w11, .int p4])), (h1, .inr (7, [.ref h2, .int p5, .int p6, w12])), (h2, .inr (3, [.int p7, .int p8, .int p9, .int p10, w13, w14, w14, w15, w16, w17, w18, w19]))]) 0 0 := by
  refine q_ent (own := RX11) (by decide) rfl (Nat.le_of_ble_eq_true rfl) (fun p e s m below meth c ls X hr hlk hnm hK hT h hA hl => ?_)
  obtain ⟨hx, hb, hml, hown, ht⟩ := id X
  replace hl : lv_has ls 2 [(0, .ref h0), (1, .int p0)] := hl
  refine lv_iload_n hx hb dX11_isPerson_0 rfl (lv_at hl 1 rfl) ?_
  refine lv_if_lt (tgt := 22) hx hb dX11_isPerson_1 (by decide) (fun c_1 => ?_) (fun c_1 => ?_)
  · replace c_1 := i_lt (x := p0) (y := 0) rfl (show (0 : Int32).toInt = 0 by decide) c_1
    refine lv_iconst (v := 0) hx hb dX11_isPerson_22 (by decide) ?_
    exact q_iret X hr hlk hK h rfl (fun _ => 0, fun _ _ => 0, fun _ _ => 0) ⟨⟨by decide +kernel, by decide +kernel⟩, (show (0 : Int32).toInt = 0 ∨ (0 ≤ (p0 : Int32).toInt ∧ (p0 : Int32).toInt < (p8 : Int32).toInt) from by have q0 : (0 : Int32).toInt = 0 := (by decide); omega), trivial⟩ [0, 1, 2] rfl rfl dX11_isPerson_23 (Nat.le_of_ble_eq_true rfl) (Nat.le_of_ble_eq_true rfl)
  · replace c_1 := i_nlt (x := p0) (y := 0) rfl (show (0 : Int32).toInt = 0 by decide) c_1
    refine lv_iload_n hx hb dX11_isPerson_4 rfl (lv_at hl 1 rfl) ?_
    refine lv_aload_n hx hb dX11_isPerson_5 rfl (lv_at hl 0 rfl) ?_
    refine q_get X hK h 0 rfl rfl wf_11 5 (by decide) rfl wm_2_103 dX11_isPerson_6 ?_
    refine q_get X hK h 1 rfl rfl wf_7 0 (by decide) rfl wm_2_42 dX11_isPerson_9 ?_
    refine q_get X hK h 2 rfl rfl wf_3 1 (by decide) rfl wm_1_85 dX11_isPerson_12 ?_
    refine lv_icmp_ge (tgt := 22) hx hb dX11_isPerson_15 (by decide) (fun c_2 => ?_) (fun c_2 => ?_)
    · replace c_2 := i_le (x := p8) (y := p0) rfl rfl c_2
      refine lv_iconst (v := 0) hx hb dX11_isPerson_22 (by decide) ?_
      exact q_iret X hr hlk hK h rfl (fun _ => 0, fun _ _ => 0, fun _ _ => 0) ⟨⟨by decide +kernel, by decide +kernel⟩, (show (0 : Int32).toInt = 0 ∨ (0 ≤ (p0 : Int32).toInt ∧ (p0 : Int32).toInt < (p8 : Int32).toInt) from by have q0 : (0 : Int32).toInt = 0 := (by decide); omega), trivial⟩ [0, 1, 2] rfl rfl dX11_isPerson_23 (Nat.le_of_ble_eq_true rfl) (Nat.le_of_ble_eq_true rfl)
    · replace c_2 := i_nle (x := p8) (y := p0) rfl rfl c_2
      refine lv_iconst (v := 1) hx hb dX11_isPerson_18 (by decide) ?_
      refine lv_goto (tgt := 23) hx hb dX11_isPerson_19 (by decide) ?_
      exact q_iret X hr hlk hK h rfl (fun _ => 0, fun _ _ => 0, fun _ _ => 0) ⟨⟨by decide +kernel, by decide +kernel⟩, (show (1 : Int32).toInt = 0 ∨ (0 ≤ (p0 : Int32).toInt ∧ (p0 : Int32).toInt < (p8 : Int32).toInt) from by have q0 : (1 : Int32).toInt = 1 := (by decide); omega), trivial⟩ [0, 1, 2] rfl rfl dX11_isPerson_23 (Nat.le_of_ble_eq_true rfl) (Nat.le_of_ble_eq_true rfl)
set_option maxHeartbeats 4000000 in
set_option maxRecDepth 100000 in
theorem gX6_areOpposites_54bab82 (l : Launch) (D : va_G) (cy : Nat → ClassId) (h0 : Nat) (h1 : Nat) (h2 : Nat) (h3 : Nat) (p0 : Int32) (p1 : Int32) (p2 : Int32) (p3 : Int32) (w0 : Value) (w1 : Value) (p4 : Int32) (p5 : Int32) (p6 : Int32) (p7 : Int32) (p8 : Int32) (w2 : Value) (w3 : Value) (w4 : Value) (w5 : Value) (w6 : Value) (w7 : Value) (f0 : Nat → Int32) (hp0 : 0 ≤ (p0).toInt ∧ (p0).toInt ≤ 9) (hp1 : 0 ≤ (p1).toInt ∧ (p1).toInt ≤ 999) (hp2 : 0 ≤ (p2).toInt ∧ (p2).toInt ≤ 9) (hp3 : (-2147483648) ≤ (p3).toInt ∧ (p3).toInt ≤ 2147483647) (hp4 : (-2147483648) ≤ (p4).toInt ∧ (p4).toInt ≤ 2147483647) (hp5 : 1 ≤ (p5).toInt ∧ (p5).toInt ≤ 3) (hp6 : 0 ≤ (p6).toInt ∧ (p6).toInt ≤ 10) (hp7 : (-2147483648) ≤ (p7).toInt ∧ (p7).toInt ≤ 2147483647) (hp8 : (-2147483648) ≤ (p8).toInt ∧ (p8).toInt ≤ 2147483647) (rf0 : RG f0 10 0 999) (sz : Nat) : MI l yX6_areOpposites cX6_areOpposites 8 .boolean { frames := 0, cells := 0, slots := 0, locals := 0 } [.ref h0, .ref h1, .int p0, .int p1, .int p2, .int p3] D cy [(h0, .inr (6, [w0, w1])), (h1, .inr (7, [.ref h2, .int p3, .int p4, .ref h3])), (h2, .inr (3, [.int p5, .int p6, .int p7, .int p8, .null, w2, w2, w3, w4, w5, w6, w7])), (h3, .inl (cy 1, 10, .inl f0))] sz (fun r u => (0 ≤ r.toInt ∧ r.toInt ≤ 1) ∧ True) (fun u => [(h0, .inr (6, [w0, w1])), (h1, .inr (7, [.ref h2, .int p3, .int p4, .ref h3])), (h2, .inr (3, [.int p5, .int p6, .int p7, .int p8, .null, w2, w2, w3, w4, w5, w6, w7])), (h3, .inl (cy 1, 10, .inl f0))]) 0 0 := by
  refine q_ent (own := RX6) (by decide) rfl (Nat.le_of_ble_eq_true rfl) (fun p e s m below meth c ls X hr hlk hnm hK hT h hA hl => ?_)
  obtain ⟨hx, hb, hml, hown, ht⟩ := id X
  replace hl : lv_has ls 8 [(0, .ref h0), (1, .ref h1), (2, .int p0), (3, .int p1), (4, .int p2), (5, .int p3)] := hl
  refine lv_aload_n hx hb dX6_areOpposites_0 rfl (lv_at hl 1 rfl) ?_
  refine q_get X hK h 1 rfl rfl wf_7 0 (by decide) rfl wm_2_41 dX6_areOpposites_1 ?_
  refine q_get X hK h 2 rfl rfl wf_3 4 (by decide) rfl wm_1_94 dX6_areOpposites_4 ?_
  refine lv_astoreN (lv' := [(6, .null), (0, .ref h0), (1, .ref h1), (2, .int p0), (3, .int p1), (4, .int p2), (5, .int p3)]) hx hb dX6_areOpposites_7 hl (by decide) rfl (fun ls_1 hl_1 => ?_)
  clear hl
  refine lv_aload_n hx hb dX6_areOpposites_9 rfl (lv_at hl_1 2 rfl) ?_
  refine q_get X hK h 1 rfl rfl wf_7 3 (by decide) rfl wm_2_53 dX6_areOpposites_10 ?_
  refine lv_iload hx hb dX6_areOpposites_13 (lv_at hl_1 5 rfl) ?_
  refine q_iald X hK h 3 rfl (i_in rfl (by omega) (by omega)) dX6_areOpposites_15 ?_
  obtain ⟨z_2, ez_2, hz_2⟩ := rg_get rf0 (x := p2) rfl (by omega) (by omega)
  refine q_c z_2 ez_2 ?_
  clear ez_2
  refine lv_istore (lv' := [(7, .int z_2), (6, .null), (0, .ref h0), (1, .ref h1), (2, .int p0), (3, .int p1), (4, .int p2), (5, .int p3)]) hx hb dX6_areOpposites_16 hl_1 (by decide) rfl (fun ls_3 hl_3 => ?_)
  clear hl_1
  refine lv_aloadN hx hb dX6_areOpposites_18 (lv_at hl_3 1 rfl) ?_
  refine lv_ifnonnullN hx hb dX6_areOpposites_20 ?_
  refine lv_iload_n hx hb dX6_areOpposites_23 rfl (lv_at hl_3 5 rfl) ?_
  refine lv_bipush (v := 100) hx hb dX6_areOpposites_24 (by decide) ?_
  refine lv_idiv hx hb dX6_areOpposites_26 (by decide) ?_
  obtain ⟨z_4, ez_4, hz_4⟩ := e_div (x := p1) (y := 100) rfl (show (100 : Int32).toInt = 100 by decide) (by omega) (by omega)
  refine q_c z_4 ez_4 ?_
  clear ez_4
  refine lv_iload hx hb dX6_areOpposites_27 (lv_at hl_3 0 rfl) ?_
  refine lv_bipush (v := 100) hx hb dX6_areOpposites_29 (by decide) ?_
  refine lv_idiv hx hb dX6_areOpposites_31 (by decide) ?_
  obtain ⟨z_5, ez_5, hz_5⟩ := e_div (x := z_2) (y := 100) rfl (show (100 : Int32).toInt = 100 by decide) (by omega) (by omega)
  refine q_c z_5 ez_5 ?_
  clear ez_5
  refine lv_iadd hx hb dX6_areOpposites_32 ?_
  obtain ⟨z_6, ez_6, hz_6⟩ := e_add (x := z_4) (y := z_5) rfl rfl (by omega) (by omega)
  refine q_c z_6 ez_6 ?_
  clear ez_6
  refine lv_bipush (v := 9) hx hb dX6_areOpposites_33 (by decide) ?_
  refine q_jn (pc2 := 43) (fun H locs ls st => ∃ v43_7_0 : Int32, (0 ≤ (v43_7_0).toInt ∧ (v43_7_0).toInt ≤ 1) ∧ st = [.int v43_7_0] ∧ qW D (va_A [(h0, .inr (6, [w0, w1])), (h1, .inr (7, [.ref h2, .int p3, .int p4, .ref h3])), (h2, .inr (3, [.int p5, .int p6, .int p7, .int p8, .null, w2, w2, w3, w4, w5, w6, w7])), (h3, .inl (cy 1, 10, .inl f0))] sz) s.heap [(h0, .inr (6, [w0, w1])), (h1, .inr (7, [.ref h2, .int p3, .int p4, .ref h3])), (h2, .inr (3, [.int p5, .int p6, .int p7, .int p8, .null, w2, w2, w3, w4, w5, w6, w7])), (h3, .inl (cy 1, 10, .inl f0))] H locs ∧ lv_has ls 8 [(0, .ref h0), (1, .ref h1), (2, .int p0), (3, .int p1), (4, .int p2), (5, .int p3), (6, .null), (7, .int z_2)]) (fun H locs ls st hP => ?_) (fun J_43 => ?_)
  · obtain ⟨v43_7_0, hv43_7_0, rfl, h, hl⟩ := hP
    exact q_iret X hr hlk hK h (q_nz (by omega) (by omega)) (fun _ => 0, fun _ _ => 0, fun _ _ => 0) ⟨hv43_7_0, trivial⟩ [0, 1, 2, 3] rfl rfl dX6_areOpposites_43 (Nat.le_of_ble_eq_true rfl) (Nat.le_of_ble_eq_true rfl)
  · skip
    refine lv_icmp_ne (tgt := 42) hx hb dX6_areOpposites_35 (by decide) (fun c_8 => ?_) (fun c_8 => ?_)
    · replace c_8 := i_ne (x := z_6) (y := 9) rfl (show (9 : Int32).toInt = 9 by decide) c_8
      refine lv_iconst (v := 0) hx hb dX6_areOpposites_42 (by decide) ?_
      exact J_43 _ _ _ _ ⟨0, ⟨by decide +kernel, by decide +kernel⟩, rfl, h, (lv_sub hl_3 [2, 3, 4, 5, 6, 7, 1, 0] rfl)⟩
    · replace c_8 := i_eq (x := z_6) (y := 9) rfl (show (9 : Int32).toInt = 9 by decide) c_8
      refine lv_iconst (v := 1) hx hb dX6_areOpposites_38 (by decide) ?_
      refine lv_goto (tgt := 43) hx hb dX6_areOpposites_39 (by decide) ?_
      exact J_43 _ _ _ _ ⟨1, ⟨by decide +kernel, by decide +kernel⟩, rfl, h, (lv_sub hl_3 [2, 3, 4, 5, 6, 7, 1, 0] rfl)⟩
set_option maxHeartbeats 4000000 in
set_option maxRecDepth 100000 in
theorem gX11_opposed_481563e (l : Launch) (D : va_G) (cy : Nat → ClassId) (h0 : Nat) (h1 : Nat) (h2 : Nat) (h3 : Nat) (h4 : Nat) (p0 : Int32) (p1 : Int32) (w0 : Value) (p2 : Int32) (p3 : Int32) (p4 : Int32) (w1 : Value) (w2 : Value) (w3 : Value) (w4 : Value) (w5 : Value) (w6 : Value) (w7 : Value) (w8 : Value) (w9 : Value) (w10 : Value) (p5 : Int32) (p6 : Int32) (p7 : Int32) (p8 : Int32) (p9 : Int32) (p10 : Int32) (p11 : Int32) (w11 : Value) (w12 : Value) (w13 : Value) (w14 : Value) (w15 : Value) (w16 : Value) (f0 : Nat → Int32) (w17 : Value) (w18 : Value) (hp0 : (-2147483648) ≤ (p0).toInt ∧ (p0).toInt ≤ 2147483647) (hp1 : (-2147483648) ≤ (p1).toInt ∧ (p1).toInt ≤ 2147483647) (hp2 : 0 ≤ (p2).toInt ∧ (p2).toInt ≤ 900) (hp3 : (-2147483648) ≤ (p3).toInt ∧ (p3).toInt ≤ 2147483647) (hp4 : (-2147483648) ≤ (p4).toInt ∧ (p4).toInt ≤ 2147483647) (hp5 : (-2147483648) ≤ (p5).toInt ∧ (p5).toInt ≤ 2147483647) (hp6 : (-2147483648) ≤ (p6).toInt ∧ (p6).toInt ≤ 2147483647) (hp7 : (-2147483648) ≤ (p7).toInt ∧ (p7).toInt ≤ 2147483647) (hp8 : 1 ≤ (p8).toInt ∧ (p8).toInt ≤ 3) (hp9 : 0 ≤ (p9).toInt ∧ (p9).toInt ≤ 10) (hp10 : (-2147483648) ≤ (p10).toInt ∧ (p10).toInt ≤ 2147483647) (hp11 : (-2147483648) ≤ (p11).toInt ∧ (p11).toInt ≤ 2147483647) (rf0 : RG f0 10 0 999) (sz : Nat) : MI l yX11_opposed cX11_opposed 3 .int { frames := 1, cells := 0, slots := 0, locals := 27 } [.ref h0, .int p0, .int p1] D cy [(h0, .inr (11, [w0, .int p2, .int p3, .int p4, w1, .ref h1, w2, w3, w4, w5, w6, w7, .ref h4, w8, w9, w10, .int p5])), (h1, .inr (7, [.ref h2, .int p6, .int p7, .ref h3])), (h2, .inr (3, [.int p8, .int p9, .int p10, .int p11, .null, w11, w11, w12, w13, w14, w15, w16])), (h3, .inl (cy 1, 10, .inl f0)), (h4, .inr (6, [w17, w18]))] sz (fun r u => ((-2) ≤ r.toInt ∧ r.toInt ≤ 1) ∧ True) (fun u => [(h0, .inr (11, [w0, .int p2, .int p3, .int p4, w1, .ref h1, w2, w3, w4, w5, w6, w7, .ref h4, w8, w9, w10, .int p5])), (h1, .inr (7, [.ref h2, .int p6, .int p7, .ref h3])), (h2, .inr (3, [.int p8, .int p9, .int p10, .int p11, .null, w11, w11, w12, w13, w14, w15, w16])), (h3, .inl (cy 1, 10, .inl f0)), (h4, .inr (6, [w17, w18]))]) 0 0 := by
  refine q_ent (own := RX11) (by decide) rfl (Nat.le_of_ble_eq_true rfl) (fun p e s m below meth c ls X hr hlk hnm hK hT h hA hl => ?_)
  obtain ⟨hx, hb, hml, hown, ht⟩ := id X
  replace hl : lv_has ls 3 [(0, .ref h0), (1, .int p0), (2, .int p1)] := hl
  refine lv_aload_n hx hb dX11_opposed_0 rfl (lv_at hl 0 rfl) ?_
  refine lv_iload_n hx hb dX11_opposed_1 rfl (lv_at hl 1 rfl) ?_
  refine q_callVi (rest := []) (wr := [(h3, .inl (cy 1, 10, .inl f0)), (h4, .inr (6, [w17, w18]))]) X hK hT hA h (fun sz => gX11_isPerson_c6d5f45 l D cy h0 h1 h2 p0 w0 p2 p3 p4 w1 w2 w3 w4 w5 w6 w7 (.ref h4) w8 w9 w10 p5 p6 p7 (.ref h3) p8 p9 p10 p11 Value.null w11 w12 w13 w14 w15 w16 (i_rng _) hp2 (i_rng _) (i_rng _) (i_rng _) (i_rng _) (i_rng _) hp8 hp9 (i_rng _) (i_rng _) sz) wm_3_174 wm_3_177 wm_1_1 hd_X11_isPerson wm_3_176 wp_2_8 (ci := 11) (q0 := 0) rfl rfl ⟨Nat.le_of_ble_eq_true rfl, Nat.le_of_ble_eq_true rfl⟩ hl.1 rfl (Nat.le_of_ble_eq_true rfl) dX11_opposed_2 ⟨Nat.le_of_ble_eq_true rfl, Nat.le_of_ble_eq_true rfl⟩ [0, 1, 2] [3, 4] rfl rfl (by decide) rfl rfl (fun r_1 u_1 H locs w_1 h_1 => ?_)
  clear h
  obtain ⟨wr_1, y1_0, _⟩ := w_1
  replace h_1 : qW D _ _ [(h3, .inl (cy 1, 10, .inl f0)), (h4, .inr (6, [w17, w18])), (h0, .inr (11, [w0, .int p2, .int p3, .int p4, w1, .ref h1, w2, w3, w4, w5, w6, w7, .ref h4, w8, w9, w10, .int p5])), (h1, .inr (7, [.ref h2, .int p6, .int p7, .ref h3])), (h2, .inr (3, [.int p8, .int p9, .int p10, .int p11, .null, w11, w11, w12, w13, w14, w15, w16]))] _ _ := h_1
  refine q_jn (pc2 := 16) (fun H locs ls st => st = [] ∧ qW D (va_A [(h0, .inr (11, [w0, .int p2, .int p3, .int p4, w1, .ref h1, w2, w3, w4, w5, w6, w7, .ref h4, w8, w9, w10, .int p5])), (h1, .inr (7, [.ref h2, .int p6, .int p7, .ref h3])), (h2, .inr (3, [.int p8, .int p9, .int p10, .int p11, .null, w11, w11, w12, w13, w14, w15, w16])), (h3, .inl (cy 1, 10, .inl f0)), (h4, .inr (6, [w17, w18]))] sz) s.heap [(h3, .inl (cy 1, 10, .inl f0)), (h4, .inr (6, [w17, w18])), (h0, .inr (11, [w0, .int p2, .int p3, .int p4, w1, .ref h1, w2, w3, w4, w5, w6, w7, .ref h4, w8, w9, w10, .int p5])), (h1, .inr (7, [.ref h2, .int p6, .int p7, .ref h3])), (h2, .inr (3, [.int p8, .int p9, .int p10, .int p11, .null, w11, w11, w12, w13, w14, w15, w16]))] H locs ∧ lv_has ls 3 [(0, .ref h0), (1, .int p0), (2, .int p1)]) (fun H locs ls st hP => ?_) (fun J_16 => ?_)
  · obtain ⟨rfl, h, hl⟩ := hP
    refine lv_bipush (v := (-2)) hx hb dX11_opposed_16 (by decide) ?_
    exact q_iret X hr hlk hK h rfl (fun _ => 0, fun _ _ => 0, fun _ _ => 0) ⟨⟨by decide +kernel, by decide +kernel⟩, trivial⟩ [2, 3, 4, 0, 1] rfl rfl dX11_opposed_18 (Nat.le_of_ble_eq_true rfl) (Nat.le_of_ble_eq_true rfl)
  · skip
    refine lv_if_eq (tgt := 16) hx hb dX11_opposed_5 (by decide) (fun c_3 => ?_) (fun c_3 => ?_)
    · replace c_3 := i_eq (x := r_1) (y := 0) rfl (show (0 : Int32).toInt = 0 by decide) c_3
      exact J_16 _ _ _ _ ⟨rfl, h_1, (lv_sub hl [0, 1, 2] rfl)⟩
    · replace c_3 := i_ne (x := r_1) (y := 0) rfl (show (0 : Int32).toInt = 0 by decide) c_3
      refine lv_aload_n hx hb dX11_opposed_8 rfl (lv_at hl 0 rfl) ?_
      refine lv_iload_n hx hb dX11_opposed_9 rfl (lv_at hl 2 rfl) ?_
      refine q_callVi (rest := []) (wr := [(h3, .inl (cy 1, 10, .inl f0)), (h4, .inr (6, [w17, w18]))]) X hK hT hA h_1 (fun sz => gX11_isPerson_c6d5f45 l D cy h0 h1 h2 p1 w0 p2 p3 p4 w1 w2 w3 w4 w5 w6 w7 (.ref h4) w8 w9 w10 p5 p6 p7 (.ref h3) p8 p9 p10 p11 Value.null w11 w12 w13 w14 w15 w16 (i_rng _) hp2 (i_rng _) (i_rng _) (i_rng _) (i_rng _) (i_rng _) hp8 hp9 (i_rng _) (i_rng _) sz) wm_3_174 wm_3_177 wm_1_1 hd_X11_isPerson wm_3_176 wp_2_8 (ci := 11) (q0 := 0) rfl rfl ⟨Nat.le_of_ble_eq_true rfl, Nat.le_of_ble_eq_true rfl⟩ hl.1 rfl (Nat.le_of_ble_eq_true rfl) dX11_opposed_10 ⟨Nat.le_of_ble_eq_true rfl, Nat.le_of_ble_eq_true rfl⟩ [2, 3, 4] [0, 1] rfl rfl (by decide) rfl rfl (fun r_4 u_4 H locs w_4 h_4 => ?_)
      clear h_1
      obtain ⟨wr_4, y4_0, _⟩ := w_4
      replace h_4 : qW D _ _ [(h3, .inl (cy 1, 10, .inl f0)), (h4, .inr (6, [w17, w18])), (h0, .inr (11, [w0, .int p2, .int p3, .int p4, w1, .ref h1, w2, w3, w4, w5, w6, w7, .ref h4, w8, w9, w10, .int p5])), (h1, .inr (7, [.ref h2, .int p6, .int p7, .ref h3])), (h2, .inr (3, [.int p8, .int p9, .int p10, .int p11, .null, w11, w11, w12, w13, w14, w15, w16]))] _ _ := h_4
      refine lv_if_ne (tgt := 19) hx hb dX11_opposed_13 (by decide) (fun c_5 => ?_) (fun c_5 => ?_)
      · replace c_5 := i_ne (x := r_4) (y := 0) rfl (show (0 : Int32).toInt = 0 by decide) c_5
        refine lv_iload_n hx hb dX11_opposed_19 rfl (lv_at hl 1 rfl) ?_
        refine lv_iload_n hx hb dX11_opposed_20 rfl (lv_at hl 2 rfl) ?_
        refine q_jn (pc2 := 61) (fun H locs ls st => ∃ v61_6_0 : Int32, (0 ≤ (v61_6_0).toInt ∧ (v61_6_0).toInt ≤ 1) ∧ st = [.int v61_6_0] ∧ qW D (va_A [(h0, .inr (11, [w0, .int p2, .int p3, .int p4, w1, .ref h1, w2, w3, w4, w5, w6, w7, .ref h4, w8, w9, w10, .int p5])), (h1, .inr (7, [.ref h2, .int p6, .int p7, .ref h3])), (h2, .inr (3, [.int p8, .int p9, .int p10, .int p11, .null, w11, w11, w12, w13, w14, w15, w16])), (h3, .inl (cy 1, 10, .inl f0)), (h4, .inr (6, [w17, w18]))] sz) s.heap [(h3, .inl (cy 1, 10, .inl f0)), (h4, .inr (6, [w17, w18])), (h0, .inr (11, [w0, .int p2, .int p3, .int p4, w1, .ref h1, w2, w3, w4, w5, w6, w7, .ref h4, w8, w9, w10, .int p5])), (h1, .inr (7, [.ref h2, .int p6, .int p7, .ref h3])), (h2, .inr (3, [.int p8, .int p9, .int p10, .int p11, .null, w11, w11, w12, w13, w14, w15, w16]))] H locs ∧ lv_has ls 3 [(0, .ref h0), (1, .int p0), (2, .int p1)]) (fun H locs ls st hP => ?_) (fun J_61 => ?_)
        · obtain ⟨v61_6_0, hv61_6_0, rfl, h, hl⟩ := hP
          exact q_iret X hr hlk hK h rfl (fun _ => 0, fun _ _ => 0, fun _ _ => 0) ⟨(bw hv61_6_0 (by decide) (by decide)), trivial⟩ [2, 3, 4, 0, 1] rfl rfl dX11_opposed_61 (Nat.le_of_ble_eq_true rfl) (Nat.le_of_ble_eq_true rfl)
        · skip
          refine q_jn (pc2 := 60) (fun H locs ls st => st = [] ∧ qW D (va_A [(h0, .inr (11, [w0, .int p2, .int p3, .int p4, w1, .ref h1, w2, w3, w4, w5, w6, w7, .ref h4, w8, w9, w10, .int p5])), (h1, .inr (7, [.ref h2, .int p6, .int p7, .ref h3])), (h2, .inr (3, [.int p8, .int p9, .int p10, .int p11, .null, w11, w11, w12, w13, w14, w15, w16])), (h3, .inl (cy 1, 10, .inl f0)), (h4, .inr (6, [w17, w18]))] sz) s.heap [(h3, .inl (cy 1, 10, .inl f0)), (h4, .inr (6, [w17, w18])), (h0, .inr (11, [w0, .int p2, .int p3, .int p4, w1, .ref h1, w2, w3, w4, w5, w6, w7, .ref h4, w8, w9, w10, .int p5])), (h1, .inr (7, [.ref h2, .int p6, .int p7, .ref h3])), (h2, .inr (3, [.int p8, .int p9, .int p10, .int p11, .null, w11, w11, w12, w13, w14, w15, w16]))] H locs ∧ lv_has ls 3 [(0, .ref h0), (1, .int p0), (2, .int p1)]) (fun H locs ls st hP => ?_) (fun J_60 => ?_)
          · obtain ⟨rfl, h, hl⟩ := hP
            refine lv_iconst (v := 0) hx hb dX11_opposed_60 (by decide) ?_
            exact J_61 _ _ _ _ ⟨0, ⟨by decide +kernel, by decide +kernel⟩, rfl, h, (lv_sub hl [0, 1, 2] rfl)⟩
          · skip
            refine lv_icmp_eq (tgt := 60) hx hb dX11_opposed_21 (by decide) (fun c_8 => ?_) (fun c_8 => ?_)
            · replace c_8 := i_eq (x := p0) (y := p1) rfl rfl c_8
              exact J_60 _ _ _ _ ⟨rfl, h_4, (lv_sub hl [0, 1, 2] rfl)⟩
            · replace c_8 := i_ne (x := p0) (y := p1) rfl rfl c_8
              refine lv_aload_n hx hb dX11_opposed_24 rfl (lv_at hl 0 rfl) ?_
              refine q_get X hK h_4 2 rfl rfl wf_11 12 (by decide) rfl wm_2_110 dX11_opposed_25 ?_
              refine lv_aload_n hx hb dX11_opposed_28 rfl (lv_at hl 0 rfl) ?_
              refine q_get X hK h_4 2 rfl rfl wf_11 5 (by decide) rfl wm_2_103 dX11_opposed_29 ?_
              refine lv_iload_n hx hb dX11_opposed_32 rfl (lv_at hl 1 rfl) ?_
              refine lv_aload_n hx hb dX11_opposed_33 rfl (lv_at hl 0 rfl) ?_
              refine q_get X hK h_4 2 rfl rfl wf_11 5 (by decide) rfl wm_2_103 dX11_opposed_34 ?_
              refine q_get X hK h_4 3 rfl rfl wf_7 3 (by decide) rfl wm_2_54 dX11_opposed_37 ?_
              refine lv_iload_n hx hb dX11_opposed_40 rfl (lv_at hl 1 rfl) ?_
              refine q_iald X hK h_4 0 rfl (i_in rfl (by omega) (by omega)) dX11_opposed_41 ?_
              obtain ⟨z_9, ez_9, hz_9⟩ := rg_get rf0 (x := p0) rfl (by omega) (by omega)
              refine q_c z_9 ez_9 ?_
              clear ez_9
              refine lv_iload_n hx hb dX11_opposed_42 rfl (lv_at hl 2 rfl) ?_
              refine lv_aload_n hx hb dX11_opposed_43 rfl (lv_at hl 0 rfl) ?_
              refine q_get X hK h_4 2 rfl rfl wf_11 5 (by decide) rfl wm_2_103 dX11_opposed_44 ?_
              refine q_get X hK h_4 3 rfl rfl wf_7 1 (by decide) rfl wm_2_47 dX11_opposed_47 ?_
              refine q_callVi (rest := []) (wr := [(h0, .inr (11, [w0, .int p2, .int p3, .int p4, w1, .ref h1, w2, w3, w4, w5, w6, w7, .ref h4, w8, w9, w10, .int p5]))]) X hK hT hA h_4 (fun sz => gX6_areOpposites_54bab82 l D cy h4 h1 h2 h3 p0 z_9 p1 p6 w17 w18 p7 p8 p9 p10 p11 w11 w12 w13 w14 w15 w16 f0 ⟨by omega, by omega⟩ ⟨by omega, by omega⟩ ⟨by omega, by omega⟩ (i_rng _) (i_rng _) hp8 hp9 (i_rng _) (i_rng _) (rg_wide rf0 (by decide) (by decide)) sz) wm_3_196 wm_3_199 wm_1_5 hd_X6_areOpposites wm_3_197 wm_3_198 (ci := 6) (q0 := 0) rfl rfl ⟨Nat.le_of_ble_eq_true rfl, Nat.le_of_ble_eq_true rfl⟩ hl.1 rfl (Nat.le_of_ble_eq_true rfl) dX11_opposed_50 ⟨Nat.le_of_ble_eq_true rfl, Nat.le_of_ble_eq_true rfl⟩ [1, 3, 4, 0] [2] rfl rfl (by decide) rfl rfl (fun r_10 u_10 H locs w_10 h_10 => ?_)
              clear h_4
              obtain ⟨wr_10, _⟩ := w_10
              replace h_10 : qW D _ _ [(h0, .inr (11, [w0, .int p2, .int p3, .int p4, w1, .ref h1, w2, w3, w4, w5, w6, w7, .ref h4, w8, w9, w10, .int p5])), (h4, .inr (6, [w17, w18])), (h1, .inr (7, [.ref h2, .int p6, .int p7, .ref h3])), (h2, .inr (3, [.int p8, .int p9, .int p10, .int p11, .null, w11, w11, w12, w13, w14, w15, w16])), (h3, .inl (cy 1, 10, .inl f0))] _ _ := h_10
              refine lv_if_eq (tgt := 60) hx hb dX11_opposed_53 (by decide) (fun c_11 => ?_) (fun c_11 => ?_)
              · replace c_11 := i_eq (x := r_10) (y := 0) rfl (show (0 : Int32).toInt = 0 by decide) c_11
                exact J_60 _ _ _ _ ⟨rfl, (q_re h_10 [4, 1, 0, 2, 3] rfl rfl), (lv_sub hl [0, 1, 2] rfl)⟩
              · replace c_11 := i_ne (x := r_10) (y := 0) rfl (show (0 : Int32).toInt = 0 by decide) c_11
                refine lv_iconst (v := 1) hx hb dX11_opposed_56 (by decide) ?_
                refine lv_goto (tgt := 61) hx hb dX11_opposed_57 (by decide) ?_
                exact J_61 _ _ _ _ ⟨1, ⟨by decide +kernel, by decide +kernel⟩, rfl, (q_re h_10 [4, 1, 0, 2, 3] rfl rfl), (lv_sub hl [0, 1, 2] rfl)⟩
      · replace c_5 := i_eq (x := r_4) (y := 0) rfl (show (0 : Int32).toInt = 0 by decide) c_5
        exact J_16 _ _ _ _ ⟨rfl, h_4, (lv_sub hl [0, 1, 2] rfl)⟩
set_option maxHeartbeats 4000000 in
set_option maxRecDepth 100000 in
theorem gX6_put_ab0800e (l : Launch) (D : va_G) (cy : Nat → ClassId) (h0 : Nat) (h1 : Nat) (p0 : Int32) (p1 : Int32) (p2 : Int32) (w0 : Value) (f0 : Nat → Int32) (hp0 : 0 ≤ (p0).toInt ∧ (p0).toInt ≤ 4) (hp1 : 0 ≤ (p1).toInt ∧ (p1).toInt ≤ 999) (hp2 : 0 ≤ (p2).toInt ∧ (p2).toInt ≤ 9) (sz : Nat) : MV l yX6_put cX6_put 4 { frames := 0, cells := 0, slots := 0, locals := 0 } [.ref h0, .int p0, .int p1, .int p2] D cy [(h0, .inr (6, [.ref h1, w0])), (h1, .inl (cy 1, 11, .inl f0))] sz (fun u => True) (fun u => [(h0, .inr (6, [.ref h1, w0])), (h1, .inl (cy 1, 11, .inl (u.2.1 0)))]) 0 0 := by
  refine q_ent (own := RX6) (by decide) rfl (Nat.le_of_ble_eq_true rfl) (fun p e s m below meth c ls X hr hlk hnm hK hT h hA hl => ?_)
  obtain ⟨hx, hb, hml, hown, ht⟩ := id X
  replace hl : lv_has ls 4 [(0, .ref h0), (1, .int p0), (2, .int p1), (3, .int p2)] := hl
  refine lv_aload_n hx hb dX6_put_0 rfl (lv_at hl 0 rfl) ?_
  refine q_get X hK h 0 rfl rfl wf_6 0 (by decide) rfl wm_1_184 dX6_put_1 ?_
  refine lv_iload_n hx hb dX6_put_4 rfl (lv_at hl 1 rfl) ?_
  refine lv_iload_n hx hb dX6_put_5 rfl (lv_at hl 2 rfl) ?_
  refine lv_bipush (v := 100) hx hb dX6_put_6 (by decide) ?_
  refine lv_idiv hx hb dX6_put_8 (by decide) ?_
  obtain ⟨z_1, ez_1, hz_1⟩ := e_div (x := p1) (y := 100) rfl (show (100 : Int32).toInt = 100 by decide) (by omega) (by omega)
  refine q_c z_1 ez_1 ?_
  clear ez_1
  refine q_iast X hK h 1 rfl (i_in rfl (by omega) (by omega)) dX6_put_9 (fun H locs h_3 => ?_)
  clear h
  replace h_3 : qW D _ _ [(h0, .inr (6, [.ref h1, w0])), (h1, .inl (cy 1, 11, .inl (upd f0 (Int32.toNatClampNeg p0) z_1)))] _ _ := h_3
  obtain ⟨F_2, eF_2⟩ : ∃ z, (upd f0 (Int32.toNatClampNeg p0) z_1) = z := ⟨_, rfl⟩
  rw [eF_2] at h_3
  clear eF_2
  refine lv_aload_n hx hb dX6_put_10 rfl (lv_at hl 0 rfl) ?_
  refine q_get X hK h_3 0 rfl rfl wf_6 0 (by decide) rfl wm_1_184 dX6_put_11 ?_
  refine lv_iload_n hx hb dX6_put_14 rfl (lv_at hl 1 rfl) ?_
  refine lv_iconst (v := 1) hx hb dX6_put_15 (by decide) ?_
  refine lv_iadd hx hb dX6_put_16 ?_
  obtain ⟨z_4, ez_4, hz_4⟩ := e_add (x := p0) (y := 1) rfl (show (1 : Int32).toInt = 1 by decide) (by omega) (by omega)
  refine q_c z_4 ez_4 ?_
  clear ez_4
  refine lv_iload_n hx hb dX6_put_17 rfl (lv_at hl 2 rfl) ?_
  refine lv_bipush (v := 10) hx hb dX6_put_18 (by decide) ?_
  refine lv_idiv hx hb dX6_put_20 (by decide) ?_
  obtain ⟨z_5, ez_5, hz_5⟩ := e_div (x := p1) (y := 10) rfl (show (10 : Int32).toInt = 10 by decide) (by omega) (by omega)
  refine q_c z_5 ez_5 ?_
  clear ez_5
  refine lv_bipush (v := 10) hx hb dX6_put_21 (by decide) ?_
  refine lv_irem hx hb dX6_put_23 (by decide) ?_
  obtain ⟨z_6, ez_6, hz_6⟩ := e_rem (x := z_5) (y := 10) rfl (show (10 : Int32).toInt = 10 by decide) (by omega) (by omega)
  refine q_c z_6 ez_6 ?_
  clear ez_6
  refine q_iast X hK h_3 1 rfl (i_in rfl (by omega) (by omega)) dX6_put_24 (fun H locs h_8 => ?_)
  clear h_3
  replace h_8 : qW D _ _ [(h0, .inr (6, [.ref h1, w0])), (h1, .inl (cy 1, 11, .inl (upd F_2 (Int32.toNatClampNeg z_4) z_6)))] _ _ := h_8
  obtain ⟨F_7, eF_7⟩ : ∃ z, (upd F_2 (Int32.toNatClampNeg z_4) z_6) = z := ⟨_, rfl⟩
  rw [eF_7] at h_8
  clear eF_7
  refine lv_aload_n hx hb dX6_put_25 rfl (lv_at hl 0 rfl) ?_
  refine q_get X hK h_8 0 rfl rfl wf_6 0 (by decide) rfl wm_1_184 dX6_put_26 ?_
  refine lv_iload_n hx hb dX6_put_29 rfl (lv_at hl 1 rfl) ?_
  refine lv_iconst (v := 2) hx hb dX6_put_30 (by decide) ?_
  refine lv_iadd hx hb dX6_put_31 ?_
  obtain ⟨z_9, ez_9, hz_9⟩ := e_add (x := p0) (y := 2) rfl (show (2 : Int32).toInt = 2 by decide) (by omega) (by omega)
  refine q_c z_9 ez_9 ?_
  clear ez_9
  refine lv_iload_n hx hb dX6_put_32 rfl (lv_at hl 2 rfl) ?_
  refine lv_bipush (v := 10) hx hb dX6_put_33 (by decide) ?_
  refine lv_irem hx hb dX6_put_35 (by decide) ?_
  obtain ⟨z_10, ez_10, hz_10⟩ := e_rem (x := p1) (y := 10) rfl (show (10 : Int32).toInt = 10 by decide) (by omega) (by omega)
  refine q_c z_10 ez_10 ?_
  clear ez_10
  refine q_iast X hK h_8 1 rfl (i_in rfl (by omega) (by omega)) dX6_put_36 (fun H locs h_12 => ?_)
  clear h_8
  replace h_12 : qW D _ _ [(h0, .inr (6, [.ref h1, w0])), (h1, .inl (cy 1, 11, .inl (upd F_7 (Int32.toNatClampNeg z_9) z_10)))] _ _ := h_12
  obtain ⟨F_11, eF_11⟩ : ∃ z, (upd F_7 (Int32.toNatClampNeg z_9) z_10) = z := ⟨_, rfl⟩
  rw [eF_11] at h_12
  clear eF_11
  refine lv_aload_n hx hb dX6_put_37 rfl (lv_at hl 0 rfl) ?_
  refine q_get X hK h_12 0 rfl rfl wf_6 0 (by decide) rfl wm_1_184 dX6_put_38 ?_
  refine lv_iload_n hx hb dX6_put_41 rfl (lv_at hl 1 rfl) ?_
  refine lv_iconst (v := 3) hx hb dX6_put_42 (by decide) ?_
  refine lv_iadd hx hb dX6_put_43 ?_
  obtain ⟨z_13, ez_13, hz_13⟩ := e_add (x := p0) (y := 3) rfl (show (3 : Int32).toInt = 3 by decide) (by omega) (by omega)
  refine q_c z_13 ez_13 ?_
  clear ez_13
  refine lv_iload_n hx hb dX6_put_44 rfl (lv_at hl 3 rfl) ?_
  refine q_iast X hK h_12 1 rfl (i_in rfl (by omega) (by omega)) dX6_put_45 (fun H locs h_15 => ?_)
  clear h_12
  replace h_15 : qW D _ _ [(h0, .inr (6, [.ref h1, w0])), (h1, .inl (cy 1, 11, .inl (upd F_11 (Int32.toNatClampNeg z_13) p2)))] _ _ := h_15
  obtain ⟨F_14, eF_14⟩ : ∃ z, (upd F_11 (Int32.toNatClampNeg z_13) p2) = z := ⟨_, rfl⟩
  rw [eF_14] at h_15
  clear eF_14
  exact q_vret X hr hlk hK h_15 (fun _ => 0, fun k => List.getD [F_14] k (fun _ => 0), fun _ _ => 0) trivial [0, 1] rfl rfl dX6_put_46 (Nat.le_of_ble_eq_true rfl) (Nat.le_of_ble_eq_true rfl)
set_option maxHeartbeats 4000000 in
set_option maxRecDepth 100000 in
theorem gX4_joined_15bcc7b (l : Launch) (D : va_G) (cy : Nat → ClassId) (p0 : Int32) (p1 : Int32) (p2 : Int32) (hp0 : 0 ≤ (p0).toInt ∧ (p0).toInt ≤ 2147481647) (hp1 : (-2147483648) ≤ (p1).toInt ∧ (p1).toInt ≤ 2147483647) (hp2 : (-2147483648) ≤ (p2).toInt ∧ (p2).toInt ≤ 2147483647) (sz : Nat) : MI l yX4_joined cX4_joined 5 .int { frames := 1, cells := 0, slots := 0, locals := 17 } [.int p0, .int p1, .int p2] D cy [] sz (fun r u => ((-1000000) ≤ r.toInt ∧ r.toInt ≤ 1000000) ∧ True) (fun u => []) 0 0 := by
  refine q_ent (own := RX4) (by decide) rfl (Nat.le_of_ble_eq_true rfl) (fun p e s m below meth c ls X hr hlk hnm hK hT h hA hl => ?_)
  obtain ⟨hx, hb, hml, hown, ht⟩ := id X
  replace hl : lv_has ls 5 [(0, .int p0), (1, .int p1), (2, .int p2)] := hl
  refine lv_iload_n hx hb dX4_joined_0 rfl (lv_at hl 0 rfl) ?_
  refine q_jn (pc2 := 150) (fun H locs ls st => ∃ v150_1_0 : Int64, ((-9223372036854775808) ≤ (v150_1_0).toInt ∧ (v150_1_0).toInt ≤ 9223372036854775807) ∧ st = [] ∧ qW D (va_A [] sz) s.heap [] H locs ∧ lv_has ls 5 [(0, .int p0), (1, .int p1), (2, .int p2), (3, .long v150_1_0)]) (fun H locs ls st hP => ?_) (fun J_150 => ?_)
  · obtain ⟨v150_1_0, hv150_1_0, rfl, h, hl⟩ := hP
    refine lv_ldc2 hx hb hown (ht _ wm_3_215) dX4_joined_150 ?_
    refine lv_ldc2 hx hb hown (ht _ wm_3_216) dX4_joined_153 ?_
    refine lv_lload_n hx hb dX4_joined_156 rfl (lv_at hl 3 rfl) ?_
    refine va_mmin_long hx hb (hml.trans hl.1.symm) hown (ht _ wm_3_217) (ht _ wm_3_218) (ht _ wm_1_13) (ht _ wm_3_219) (Nat.le_of_ble_eq_true rfl) (Nat.le_of_ble_eq_true rfl) (Nat.le_of_ble_eq_true rfl) (Nat.le_of_ble_eq_true rfl) dX4_joined_157 ?_
    obtain ⟨z_2, ez_2, hz_2⟩ := e_minJ (x := 1000000) (y := v150_1_0) (show (1000000 : Int64).toInt = 1000000 by decide) rfl
    refine q_cl z_2 ez_2 ?_
    clear ez_2
    refine va_mmax_long hx hb (hml.trans hl.1.symm) hown (ht _ wm_3_220) (ht _ wm_3_221) (ht _ wm_1_13) (ht _ wm_3_222) (Nat.le_of_ble_eq_true rfl) (Nat.le_of_ble_eq_true rfl) (Nat.le_of_ble_eq_true rfl) (Nat.le_of_ble_eq_true rfl) dX4_joined_160 ?_
    obtain ⟨z_3, ez_3, hz_3⟩ := e_maxJ (x := (-1000000)) (y := z_2) (show ((-1000000) : Int64).toInt = -1000000 by decide) rfl
    refine q_cl z_3 ez_3 ?_
    clear ez_3
    refine lv_l2i hx hb dX4_joined_163 rfl ?_
    obtain ⟨z_4, ez_4, hz_4⟩ := e_l2i (x := z_3) rfl (by omega) (by omega)
    refine q_c z_4 ez_4 ?_
    clear ez_4
    exact q_iret X hr hlk hK h rfl (fun _ => 0, fun _ _ => 0, fun _ _ => 0) ⟨⟨by omega, by omega⟩, trivial⟩ [] rfl rfl dX4_joined_164 (Nat.le_of_ble_eq_true rfl) (Nat.le_of_ble_eq_true rfl)
  · skip
    by_cases c_5 : p0 = 22
    · have ec_5 : (p0).toInt = 22 := by rw [c_5]; decide
      refine lv_lookup (off := 136) (tgt := 137) hx hb dX4_joined_1 (by decide +kernel) (by rw [c_5]; decide +kernel) (by decide) ?_
      refine lv_iload_n hx hb dX4_joined_137 rfl (lv_at hl 1 rfl) ?_
      refine lv_iload_n hx hb dX4_joined_138 rfl (lv_at hl 2 rfl) ?_
      refine lv_iand hx hb dX4_joined_139 ?_
      refine q_any (fun z_6 hz_6 => ?_)
      refine lv_i2l hx hb dX4_joined_140 rfl ?_
      obtain ⟨z_7, ez_7, hz_7⟩ := e_i2l (x := z_6) rfl
      refine q_cl z_7 ez_7 ?_
      clear ez_7
      refine lv_lstore_n (lv' := [(3, .long z_7), (0, .int p0), (1, .int p1), (2, .int p2)]) hx hb dX4_joined_141 rfl hl (by decide) rfl (fun ls_8 hl_8 => ?_)
      clear hl
      refine lv_goto (tgt := 150) hx hb dX4_joined_142 (by decide) ?_
      exact J_150 _ _ _ _ ⟨z_7, ⟨by omega, by omega⟩, rfl, h, (lv_sub hl_8 [1, 2, 3, 0] rfl)⟩
    by_cases c_9 : p0 = 42
    · have ec_9 : (p0).toInt = 42 := by rw [c_9]; decide
      refine lv_lookup (off := 85) (tgt := 86) hx hb dX4_joined_1 (by decide +kernel) (by rw [c_9]; decide +kernel) (by decide) ?_
      refine lv_iload_n hx hb dX4_joined_86 rfl (lv_at hl 1 rfl) ?_
      refine lv_i2l hx hb dX4_joined_87 rfl ?_
      obtain ⟨z_10, ez_10, hz_10⟩ := e_i2l (x := p1) rfl
      refine q_cl z_10 ez_10 ?_
      clear ez_10
      refine lv_iload_n hx hb dX4_joined_88 rfl (lv_at hl 2 rfl) ?_
      refine lv_i2l hx hb dX4_joined_89 rfl ?_
      obtain ⟨z_11, ez_11, hz_11⟩ := e_i2l (x := p2) rfl
      refine q_cl z_11 ez_11 ?_
      clear ez_11
      refine lv_lmul hx hb dX4_joined_90 ?_
      refine q_anyJ (fun z_12 hz_12 => ?_)
      refine lv_lstore_n (lv' := [(3, .long z_12), (0, .int p0), (1, .int p1), (2, .int p2)]) hx hb dX4_joined_91 rfl hl (by decide) rfl (fun ls_13 hl_13 => ?_)
      clear hl
      refine lv_goto (tgt := 150) hx hb dX4_joined_92 (by decide) ?_
      exact J_150 _ _ _ _ ⟨z_12, ⟨by omega, by omega⟩, rfl, h, (lv_sub hl_13 [1, 2, 3, 0] rfl)⟩
    by_cases c_14 : p0 = 43
    · have ec_14 : (p0).toInt = 43 := by rw [c_14]; decide
      refine lv_lookup (off := 67) (tgt := 68) hx hb dX4_joined_1 (by decide +kernel) (by rw [c_14]; decide +kernel) (by decide) ?_
      refine lv_iload_n hx hb dX4_joined_68 rfl (lv_at hl 1 rfl) ?_
      refine lv_i2l hx hb dX4_joined_69 rfl ?_
      obtain ⟨z_15, ez_15, hz_15⟩ := e_i2l (x := p1) rfl
      refine q_cl z_15 ez_15 ?_
      clear ez_15
      refine lv_iload_n hx hb dX4_joined_70 rfl (lv_at hl 2 rfl) ?_
      refine lv_i2l hx hb dX4_joined_71 rfl ?_
      obtain ⟨z_16, ez_16, hz_16⟩ := e_i2l (x := p2) rfl
      refine q_cl z_16 ez_16 ?_
      clear ez_16
      refine lv_ladd hx hb dX4_joined_72 ?_
      refine q_anyJ (fun z_17 hz_17 => ?_)
      refine lv_lstore_n (lv' := [(3, .long z_17), (0, .int p0), (1, .int p1), (2, .int p2)]) hx hb dX4_joined_73 rfl hl (by decide) rfl (fun ls_18 hl_18 => ?_)
      clear hl
      refine lv_goto (tgt := 150) hx hb dX4_joined_74 (by decide) ?_
      exact J_150 _ _ _ _ ⟨z_17, ⟨by omega, by omega⟩, rfl, h, (lv_sub hl_18 [1, 2, 3, 0] rfl)⟩
    by_cases c_19 : p0 = 45
    · have ec_19 : (p0).toInt = 45 := by rw [c_19]; decide
      refine lv_lookup (off := 76) (tgt := 77) hx hb dX4_joined_1 (by decide +kernel) (by rw [c_19]; decide +kernel) (by decide) ?_
      refine lv_iload_n hx hb dX4_joined_77 rfl (lv_at hl 1 rfl) ?_
      refine lv_i2l hx hb dX4_joined_78 rfl ?_
      obtain ⟨z_20, ez_20, hz_20⟩ := e_i2l (x := p1) rfl
      refine q_cl z_20 ez_20 ?_
      clear ez_20
      refine lv_iload_n hx hb dX4_joined_79 rfl (lv_at hl 2 rfl) ?_
      refine lv_i2l hx hb dX4_joined_80 rfl ?_
      obtain ⟨z_21, ez_21, hz_21⟩ := e_i2l (x := p2) rfl
      refine q_cl z_21 ez_21 ?_
      clear ez_21
      refine lv_lsub hx hb dX4_joined_81 ?_
      refine q_anyJ (fun z_22 hz_22 => ?_)
      refine lv_lstore_n (lv' := [(3, .long z_22), (0, .int p0), (1, .int p1), (2, .int p2)]) hx hb dX4_joined_82 rfl hl (by decide) rfl (fun ls_23 hl_23 => ?_)
      clear hl
      refine lv_goto (tgt := 150) hx hb dX4_joined_83 (by decide) ?_
      exact J_150 _ _ _ _ ⟨z_22, ⟨by omega, by omega⟩, rfl, h, (lv_sub hl_23 [1, 2, 3, 0] rfl)⟩
    by_cases c_24 : p0 = 60
    · have ec_24 : (p0).toInt = 60 := by rw [c_24]; decide
      refine lv_lookup (off := 108) (tgt := 109) hx hb dX4_joined_1 (by decide +kernel) (by rw [c_24]; decide +kernel) (by decide) ?_
      refine lv_iload_n hx hb dX4_joined_109 rfl (lv_at hl 1 rfl) ?_
      refine lv_iload_n hx hb dX4_joined_110 rfl (lv_at hl 2 rfl) ?_
      refine q_jn (pc2 := 119) (fun H locs ls st => ∃ v119_25_0 : Int64, (0 ≤ (v119_25_0).toInt ∧ (v119_25_0).toInt ≤ 1) ∧ st = [.long v119_25_0] ∧ qW D (va_A [] sz) s.heap [] H locs ∧ lv_has ls 5 [(0, .int p0), (1, .int p1), (2, .int p2)]) (fun H locs ls st hP => ?_) (fun J_119 => ?_)
      · obtain ⟨v119_25_0, hv119_25_0, rfl, h, hl⟩ := hP
        refine lv_lstore_n (lv' := [(3, .long v119_25_0), (0, .int p0), (1, .int p1), (2, .int p2)]) hx hb dX4_joined_119 rfl hl (by decide) rfl (fun ls_26 hl_26 => ?_)
        clear hl
        refine lv_goto (tgt := 150) hx hb dX4_joined_120 (by decide) ?_
        exact J_150 _ _ _ _ ⟨v119_25_0, (bw hv119_25_0 (by decide) (by decide)), rfl, h, (lv_sub hl_26 [1, 2, 3, 0] rfl)⟩
      · skip
        refine lv_icmp_ge (tgt := 118) hx hb dX4_joined_111 (by decide) (fun c_27 => ?_) (fun c_27 => ?_)
        · replace c_27 := i_le (x := p2) (y := p1) rfl rfl c_27
          refine lv_lconst (v := 0) hx hb dX4_joined_118 (by decide) ?_
          exact J_119 _ _ _ _ ⟨0, ⟨by decide +kernel, by decide +kernel⟩, rfl, h, (lv_sub hl [0, 1, 2] rfl)⟩
        · replace c_27 := i_nle (x := p2) (y := p1) rfl rfl c_27
          refine lv_lconst (v := 1) hx hb dX4_joined_114 (by decide) ?_
          refine lv_goto (tgt := 119) hx hb dX4_joined_115 (by decide) ?_
          exact J_119 _ _ _ _ ⟨1, ⟨by decide +kernel, by decide +kernel⟩, rfl, h, (lv_sub hl [0, 1, 2] rfl)⟩
    by_cases c_28 : p0 = 61
    · have ec_28 : (p0).toInt = 61 := by rw [c_28]; decide
      refine lv_lookup (off := 94) (tgt := 95) hx hb dX4_joined_1 (by decide +kernel) (by rw [c_28]; decide +kernel) (by decide) ?_
      refine lv_iload_n hx hb dX4_joined_95 rfl (lv_at hl 1 rfl) ?_
      refine lv_iload_n hx hb dX4_joined_96 rfl (lv_at hl 2 rfl) ?_
      refine q_jn (pc2 := 105) (fun H locs ls st => ∃ v105_29_0 : Int64, (0 ≤ (v105_29_0).toInt ∧ (v105_29_0).toInt ≤ 1) ∧ st = [.long v105_29_0] ∧ qW D (va_A [] sz) s.heap [] H locs ∧ lv_has ls 5 [(0, .int p0), (1, .int p1), (2, .int p2)]) (fun H locs ls st hP => ?_) (fun J_105 => ?_)
      · obtain ⟨v105_29_0, hv105_29_0, rfl, h, hl⟩ := hP
        refine lv_lstore_n (lv' := [(3, .long v105_29_0), (0, .int p0), (1, .int p1), (2, .int p2)]) hx hb dX4_joined_105 rfl hl (by decide) rfl (fun ls_30 hl_30 => ?_)
        clear hl
        refine lv_goto (tgt := 150) hx hb dX4_joined_106 (by decide) ?_
        exact J_150 _ _ _ _ ⟨v105_29_0, (bw hv105_29_0 (by decide) (by decide)), rfl, h, (lv_sub hl_30 [1, 2, 3, 0] rfl)⟩
      · skip
        refine lv_icmp_ne (tgt := 104) hx hb dX4_joined_97 (by decide) (fun c_31 => ?_) (fun c_31 => ?_)
        · replace c_31 := i_ne (x := p1) (y := p2) rfl rfl c_31
          refine lv_lconst (v := 0) hx hb dX4_joined_104 (by decide) ?_
          exact J_105 _ _ _ _ ⟨0, ⟨by decide +kernel, by decide +kernel⟩, rfl, h, (lv_sub hl [0, 1, 2] rfl)⟩
        · replace c_31 := i_eq (x := p1) (y := p2) rfl rfl c_31
          refine lv_lconst (v := 1) hx hb dX4_joined_100 (by decide) ?_
          refine lv_goto (tgt := 105) hx hb dX4_joined_101 (by decide) ?_
          exact J_105 _ _ _ _ ⟨1, ⟨by decide +kernel, by decide +kernel⟩, rfl, h, (lv_sub hl [0, 1, 2] rfl)⟩
    by_cases c_32 : p0 = 62
    · have ec_32 : (p0).toInt = 62 := by rw [c_32]; decide
      refine lv_lookup (off := 122) (tgt := 123) hx hb dX4_joined_1 (by decide +kernel) (by rw [c_32]; decide +kernel) (by decide) ?_
      refine lv_iload_n hx hb dX4_joined_123 rfl (lv_at hl 1 rfl) ?_
      refine lv_iload_n hx hb dX4_joined_124 rfl (lv_at hl 2 rfl) ?_
      refine q_jn (pc2 := 133) (fun H locs ls st => ∃ v133_33_0 : Int64, (0 ≤ (v133_33_0).toInt ∧ (v133_33_0).toInt ≤ 1) ∧ st = [.long v133_33_0] ∧ qW D (va_A [] sz) s.heap [] H locs ∧ lv_has ls 5 [(0, .int p0), (1, .int p1), (2, .int p2)]) (fun H locs ls st hP => ?_) (fun J_133 => ?_)
      · obtain ⟨v133_33_0, hv133_33_0, rfl, h, hl⟩ := hP
        refine lv_lstore_n (lv' := [(3, .long v133_33_0), (0, .int p0), (1, .int p1), (2, .int p2)]) hx hb dX4_joined_133 rfl hl (by decide) rfl (fun ls_34 hl_34 => ?_)
        clear hl
        refine lv_goto (tgt := 150) hx hb dX4_joined_134 (by decide) ?_
        exact J_150 _ _ _ _ ⟨v133_33_0, (bw hv133_33_0 (by decide) (by decide)), rfl, h, (lv_sub hl_34 [1, 2, 3, 0] rfl)⟩
      · skip
        refine lv_icmp_le (tgt := 132) hx hb dX4_joined_125 (by decide) (fun c_35 => ?_) (fun c_35 => ?_)
        · replace c_35 := i_le (x := p1) (y := p2) rfl rfl c_35
          refine lv_lconst (v := 0) hx hb dX4_joined_132 (by decide) ?_
          exact J_133 _ _ _ _ ⟨0, ⟨by decide +kernel, by decide +kernel⟩, rfl, h, (lv_sub hl [0, 1, 2] rfl)⟩
        · replace c_35 := i_nle (x := p1) (y := p2) rfl rfl c_35
          refine lv_lconst (v := 1) hx hb dX4_joined_128 (by decide) ?_
          refine lv_goto (tgt := 133) hx hb dX4_joined_129 (by decide) ?_
          exact J_133 _ _ _ _ ⟨1, ⟨by decide +kernel, by decide +kernel⟩, rfl, h, (lv_sub hl [0, 1, 2] rfl)⟩
    have nc_5 := lv_neT c_5 (show (22 : Int32).toInt = 22 by decide)
    have nc_9 := lv_neT c_9 (show (42 : Int32).toInt = 42 by decide)
    have nc_14 := lv_neT c_14 (show (43 : Int32).toInt = 43 by decide)
    have nc_19 := lv_neT c_19 (show (45 : Int32).toInt = 45 by decide)
    have nc_24 := lv_neT c_24 (show (60 : Int32).toInt = 60 by decide)
    have nc_28 := lv_neT c_28 (show (61 : Int32).toInt = 61 by decide)
    have nc_32 := lv_neT c_32 (show (62 : Int32).toInt = 62 by decide)
    refine lv_lookup (off := 144) (tgt := 145) hx hb dX4_joined_1 (by decide +kernel) ((lv_osw c_5 (by decide)).trans ((lv_osw c_9 (by decide)).trans ((lv_osw c_14 (by decide)).trans ((lv_osw c_19 (by decide)).trans ((lv_osw c_24 (by decide)).trans ((lv_osw c_28 (by decide)).trans ((lv_osw c_32 (by decide)).trans rfl))))))) (by decide) ?_
    refine lv_iload_n hx hb dX4_joined_145 rfl (lv_at hl 1 rfl) ?_
    refine lv_iload_n hx hb dX4_joined_146 rfl (lv_at hl 2 rfl) ?_
    refine lv_ior hx hb dX4_joined_147 ?_
    refine q_any (fun z_36 hz_36 => ?_)
    refine lv_i2l hx hb dX4_joined_148 rfl ?_
    obtain ⟨z_37, ez_37, hz_37⟩ := e_i2l (x := z_36) rfl
    refine q_cl z_37 ez_37 ?_
    clear ez_37
    refine lv_lstore_n (lv' := [(3, .long z_37), (0, .int p0), (1, .int p1), (2, .int p2)]) hx hb dX4_joined_149 rfl hl (by decide) rfl (fun ls_38 hl_38 => ?_)
    clear hl
    exact J_150 _ _ _ _ ⟨z_37, ⟨by omega, by omega⟩, rfl, h, (lv_sub hl_38 [1, 2, 3, 0] rfl)⟩
set_option maxHeartbeats 4000000 in
set_option maxRecDepth 100000 in
theorem gX4_valueFor_d25d6d8 (l : Launch) (D : va_G) (cy : Nat → ClassId) (h0 : Nat) (h1 : Nat) (h2 : Nat) (h3 : Nat) (m0 : Nat) (f0 : Nat → Int32) (f1 : Nat → Int32) (f2 : Nat → Int32) (hm0 : m0 ≤ 900) (sz : Nat) : MI l yX4_valueFor cX4_valueFor 7 .int { frames := 2, cells := 0, slots := 0, locals := 41 } [.ref h0, .ref h2, .ref h3] D cy [(h0, .inr (4, [.ref h1])), (h1, .inl (cy 1, m0, .inl f0)), (h2, .inl (cy 1, 11, .inl f1)), (h3, .inl (cy 1, 64, .inl f2))] sz (fun r u => ((-2147483648) ≤ r.toInt ∧ r.toInt ≤ 2147483647) ∧ True) (fun u => [(h0, .inr (4, [.ref h1])), (h1, .inl (cy 1, m0, .inl f0)), (h2, .inl (cy 1, 11, .inl f1)), (h3, .inl (cy 1, 64, .inl (u.2.1 0)))]) 0 0 := by
  refine q_ent (own := RX4) (by decide) rfl (Nat.le_of_ble_eq_true rfl) (fun p e s m below meth c ls X hr hlk hnm hK hT h hA hl => ?_)
  obtain ⟨hx, hb, hml, hown, ht⟩ := id X
  replace hl : lv_has ls 7 [(0, .ref h0), (1, .ref h2), (2, .ref h3)] := hl
  refine lv_iconst (v := 0) hx hb dX4_valueFor_0 (by decide) ?_
  refine lv_istore_n (lv' := [(3, .int 0), (0, .ref h0), (1, .ref h2), (2, .ref h3)]) hx hb dX4_valueFor_1 rfl hl (by decide) rfl (fun ls_1 hl_1 => ?_)
  clear hl
  refine lv_iconst (v := 0) hx hb dX4_valueFor_2 (by decide) ?_
  refine lv_istore (lv' := [(4, .int 0), (3, .int 0), (0, .ref h0), (1, .ref h2), (2, .ref h3)]) hx hb dX4_valueFor_3 hl_1 (by decide) rfl (fun ls_2 hl_2 => ?_)
  clear hl_1
  refine q_wl (fun (q : Int32 × Int32) H locs ls => match q with | (v5_3_0, v5_3_1) => ∃ v5_3_2 : Nat → Int32, (0 ≤ (v5_3_0).toInt ∧ (v5_3_0).toInt ≤ 900) ∧ (0 ≤ (v5_3_1).toInt ∧ (v5_3_1).toInt ≤ 64) ∧ qW D (va_A [(h0, .inr (4, [.ref h1])), (h1, .inl (cy 1, m0, .inl f0)), (h2, .inl (cy 1, 11, .inl f1)), (h3, .inl (cy 1, 64, .inl f2))] sz) s.heap [(h0, .inr (4, [.ref h1])), (h1, .inl (cy 1, m0, .inl f0)), (h2, .inl (cy 1, 11, .inl f1)), (h3, .inl (cy 1, 64, .inl v5_3_2))] H locs ∧ lv_has ls 7 [(0, .ref h0), (1, .ref h2), (2, .ref h3), (3, .int v5_3_1), (4, .int v5_3_0)]) (fun (q : Int32 × Int32) => match q with | (v5_3_0, v5_3_1) => (901 - (v5_3_0).toInt).toNat) (fun q_5 ih_5 H locs ls hP => ?_) (0, 0) ⟨f2, ⟨by decide +kernel, by decide +kernel⟩, ⟨by decide +kernel, by decide +kernel⟩, h, (lv_sub hl_2 [2, 3, 4, 1, 0] rfl)⟩
  obtain ⟨v5_3_0, v5_3_1⟩ := q_5
  obtain ⟨v5_3_2, hv5_3_0, hv5_3_1, h, hl⟩ := hP
  refine lv_iload hx hb dX4_valueFor_5 (lv_at hl 4 rfl) ?_
  refine lv_aload_n hx hb dX4_valueFor_7 rfl (lv_at hl 0 rfl) ?_
  refine q_get X hK h 0 rfl rfl wf_4 0 (by decide) rfl wm_3_153 dX4_valueFor_8 ?_
  refine q_alen X hK h 1 1 rfl rfl (Int32.ofNat m0) rfl dX4_valueFor_11 ?_
  obtain ⟨z_4, ez_4, hz_4⟩ := e_len (n := m0) (by omega)
  refine q_c z_4 ez_4 ?_
  clear ez_4
  refine lv_icmp_ge (tgt := 139) hx hb dX4_valueFor_12 (by decide) (fun c_5 => ?_) (fun c_5 => ?_)
  · replace c_5 := i_le (x := z_4) (y := v5_3_0) rfl rfl c_5
    refine lv_iload_n hx hb dX4_valueFor_139 rfl (lv_at hl 3 rfl) ?_
    refine q_jn (pc2 := 150) (fun H locs ls st => ∃ v150_6_0 : Int32, ((-2147483648) ≤ (v150_6_0).toInt ∧ (v150_6_0).toInt ≤ 2147483647) ∧ st = [.int v150_6_0] ∧ qW D (va_A [(h0, .inr (4, [.ref h1])), (h1, .inl (cy 1, m0, .inl f0)), (h2, .inl (cy 1, 11, .inl f1)), (h3, .inl (cy 1, 64, .inl f2))] sz) s.heap [(h0, .inr (4, [.ref h1])), (h1, .inl (cy 1, m0, .inl f0)), (h2, .inl (cy 1, 11, .inl f1)), (h3, .inl (cy 1, 64, .inl v5_3_2))] H locs ∧ lv_has ls 7 [(0, .ref h0), (1, .ref h2), (2, .ref h3), (3, .int v5_3_1), (4, .int v5_3_0)]) (fun H locs ls st hP => ?_) (fun J_150 => ?_)
    · obtain ⟨v150_6_0, hv150_6_0, rfl, h, hl⟩ := hP
      exact q_iret X hr hlk hK h rfl (fun _ => 0, fun k => List.getD [v5_3_2] k (fun _ => 0), fun _ _ => 0) ⟨hv150_6_0, trivial⟩ [0, 1, 2, 3] rfl rfl dX4_valueFor_150 (Nat.le_of_ble_eq_true rfl) (Nat.le_of_ble_eq_true rfl)
    · skip
      refine lv_if_le (tgt := 149) hx hb dX4_valueFor_140 (by decide) (fun c_7 => ?_) (fun c_7 => ?_)
      · replace c_7 := i_le (x := v5_3_1) (y := 0) rfl (show (0 : Int32).toInt = 0 by decide) c_7
        refine lv_iconst (v := 0) hx hb dX4_valueFor_149 (by decide) ?_
        exact J_150 _ _ _ _ ⟨0, ⟨by decide +kernel, by decide +kernel⟩, rfl, h, (lv_sub hl [0, 1, 2, 3, 4] rfl)⟩
      · replace c_7 := i_nle (x := v5_3_1) (y := 0) rfl (show (0 : Int32).toInt = 0 by decide) c_7
        refine lv_aload_n hx hb dX4_valueFor_143 rfl (lv_at hl 2 rfl) ?_
        refine lv_iconst (v := 0) hx hb dX4_valueFor_144 (by decide) ?_
        refine q_iald X hK h 3 rfl (q_in (by decide +kernel)) dX4_valueFor_145 ?_
        refine q_any (fun z_8 hz_8 => ?_)
        refine lv_goto (tgt := 150) hx hb dX4_valueFor_146 (by decide) ?_
        exact J_150 _ _ _ _ ⟨z_8, ⟨by omega, by omega⟩, rfl, h, (lv_sub hl [0, 1, 2, 3, 4] rfl)⟩
  · replace c_5 := i_nle (x := z_4) (y := v5_3_0) rfl rfl c_5
    refine lv_aload_n hx hb dX4_valueFor_15 rfl (lv_at hl 0 rfl) ?_
    refine q_get X hK h 0 rfl rfl wf_4 0 (by decide) rfl wm_3_153 dX4_valueFor_16 ?_
    refine lv_iload hx hb dX4_valueFor_19 (lv_at hl 4 rfl) ?_
    refine q_iald X hK h 1 rfl (i_in rfl (by omega) (by omega)) dX4_valueFor_21 ?_
    refine q_any (fun z_9 hz_9 => ?_)
    refine lv_istore (lv' := [(5, .int z_9), (0, .ref h0), (1, .ref h2), (2, .ref h3), (3, .int v5_3_1), (4, .int v5_3_0)]) hx hb dX4_valueFor_22 hl (by decide) rfl (fun ls_10 hl_10 => ?_)
    clear hl
    refine lv_iload hx hb dX4_valueFor_24 (lv_at hl_10 0 rfl) ?_
    refine lv_sipush (v := 2000) hx hb dX4_valueFor_26 (by decide) ?_
    refine q_jn (pc2 := 133) (fun H locs ls st => ∃ v133_11_0 : Int32, ∃ v133_11_1 : Nat → Int32, (0 ≤ (v133_11_0).toInt ∧ (v133_11_0).toInt ≤ 64) ∧ st = [] ∧ qW D (va_A [(h0, .inr (4, [.ref h1])), (h1, .inl (cy 1, m0, .inl f0)), (h2, .inl (cy 1, 11, .inl f1)), (h3, .inl (cy 1, 64, .inl f2))] sz) s.heap [(h0, .inr (4, [.ref h1])), (h1, .inl (cy 1, m0, .inl f0)), (h2, .inl (cy 1, 11, .inl f1)), (h3, .inl (cy 1, 64, .inl v133_11_1))] H locs ∧ lv_has ls 7 [(0, .ref h0), (1, .ref h2), (2, .ref h3), (3, .int v133_11_0), (4, .int v5_3_0), (5, .int z_9)]) (fun H locs ls st hP => ?_) (fun J_133 => ?_)
    · obtain ⟨v133_11_0, v133_11_1, hv133_11_0, rfl, h, hl⟩ := hP
      obtain ⟨z_12, ez_12, hz_12⟩ := e_add (x := v5_3_0) (y := Int32.ofInt 1) rfl (b := 1) (by decide) (by omega) (by omega)
      refine lv_iinc (v := z_12) (lv' := [(4, .int z_12), (0, .ref h0), (1, .ref h2), (2, .ref h3), (3, .int v133_11_0), (5, .int z_9)]) hx hb dX4_valueFor_133 hl (k := 4) rfl ez_12 (by decide) rfl (fun ls_12 hl_12 => ?_)
      clear hl
      refine lv_goto (tgt := 5) hx hb dX4_valueFor_136 (by decide) ?_
      exact ih_5 (z_12, v133_11_0) (by show (901 - (z_12).toInt).toNat < (901 - (v5_3_0).toInt).toNat; omega) _ _ _ ⟨v133_11_1, ⟨by omega, by omega⟩, hv133_11_0, h, (lv_sub hl_12 [1, 2, 3, 4, 0] rfl)⟩
    · skip
      refine lv_icmp_ge (tgt := 76) hx hb dX4_valueFor_29 (by decide) (fun c_13 => ?_) (fun c_13 => ?_)
      · replace c_13 := i_le (x := 2000) (y := z_9) (show (2000 : Int32).toInt = 2000 by decide) rfl c_13
        refine lv_iload hx hb dX4_valueFor_76 (lv_at hl_10 0 rfl) ?_
        refine lv_sipush (v := 2023) hx hb dX4_valueFor_78 (by decide) ?_
        refine lv_icmp_ne (tgt := 103) hx hb dX4_valueFor_81 (by decide) (fun c_14 => ?_) (fun c_14 => ?_)
        · replace c_14 := i_ne (x := z_9) (y := 2023) rfl (show (2023 : Int32).toInt = 2023 by decide) c_14
          refine lv_iload_n hx hb dX4_valueFor_103 rfl (lv_at hl_10 4 rfl) ?_
          refine lv_iconst (v := 1) hx hb dX4_valueFor_104 (by decide) ?_
          refine lv_icmp_le (tgt := 133) hx hb dX4_valueFor_105 (by decide) (fun c_15 => ?_) (fun c_15 => ?_)
          · replace c_15 := i_le (x := v5_3_1) (y := 1) rfl (show (1 : Int32).toInt = 1 by decide) c_15
            exact J_133 _ _ _ _ ⟨v5_3_1, v5_3_2, hv5_3_1, rfl, h, (lv_sub hl_10 [1, 2, 3, 4, 5, 0] rfl)⟩
          · replace c_15 := i_nle (x := v5_3_1) (y := 1) rfl (show (1 : Int32).toInt = 1 by decide) c_15
            obtain ⟨z_16, ez_16, hz_16⟩ := e_add (x := v5_3_1) (y := Int32.ofInt (-1)) rfl (b := (-1)) (by decide) (by omega) (by omega)
            refine lv_iinc (v := z_16) (lv' := [(3, .int z_16), (5, .int z_9), (0, .ref h0), (1, .ref h2), (2, .ref h3), (4, .int v5_3_0)]) hx hb dX4_valueFor_108 hl_10 (k := 4) rfl ez_16 (by decide) rfl (fun ls_16 hl_16 => ?_)
            clear hl_10
            refine lv_aload_n hx hb dX4_valueFor_111 rfl (lv_at hl_16 4 rfl) ?_
            refine lv_iload_n hx hb dX4_valueFor_112 rfl (lv_at hl_16 0 rfl) ?_
            refine lv_iconst (v := 1) hx hb dX4_valueFor_113 (by decide) ?_
            refine lv_isub hx hb dX4_valueFor_114 ?_
            obtain ⟨z_17, ez_17, hz_17⟩ := e_sub (x := z_16) (y := 1) rfl (show (1 : Int32).toInt = 1 by decide) (by omega) (by omega)
            refine q_c z_17 ez_17 ?_
            clear ez_17
            refine lv_iload hx hb dX4_valueFor_115 (lv_at hl_16 1 rfl) ?_
            refine lv_sipush (v := 2000) hx hb dX4_valueFor_117 (by decide) ?_
            refine lv_isub hx hb dX4_valueFor_120 ?_
            obtain ⟨z_18, ez_18, hz_18⟩ := e_sub (x := z_9) (y := 2000) rfl (show (2000 : Int32).toInt = 2000 by decide) (by omega) (by omega)
            refine q_c z_18 ez_18 ?_
            clear ez_18
            refine lv_aload_n hx hb dX4_valueFor_121 rfl (lv_at hl_16 4 rfl) ?_
            refine lv_iload_n hx hb dX4_valueFor_122 rfl (lv_at hl_16 0 rfl) ?_
            refine lv_iconst (v := 1) hx hb dX4_valueFor_123 (by decide) ?_
            refine lv_isub hx hb dX4_valueFor_124 ?_
            obtain ⟨z_19, ez_19, hz_19⟩ := e_sub (x := z_16) (y := 1) rfl (show (1 : Int32).toInt = 1 by decide) (by omega) (by omega)
            refine q_c z_19 ez_19 ?_
            clear ez_19
            refine q_iald X hK h 3 rfl (i_in rfl (by omega) (by omega)) dX4_valueFor_125 ?_
            refine q_any (fun z_20 hz_20 => ?_)
            refine lv_aload_n hx hb dX4_valueFor_126 rfl (lv_at hl_16 4 rfl) ?_
            refine lv_iload_n hx hb dX4_valueFor_127 rfl (lv_at hl_16 0 rfl) ?_
            refine q_iald X hK h 3 rfl (i_in rfl (by omega) (by omega)) dX4_valueFor_128 ?_
            refine q_any (fun z_21 hz_21 => ?_)
            refine q_callSi (rest := [.int z_17, .ref h3]) (wr := [(h0, .inr (4, [.ref h1])), (h1, .inl (cy 1, m0, .inl f0)), (h2, .inl (cy 1, 11, .inl f1)), (h3, .inl (cy 1, 64, .inl v5_3_2))]) X hK hT hA h (fun sz => gX4_joined_15bcc7b l D cy z_18 z_20 z_21 ⟨by omega, by omega⟩ (i_rng _) (i_rng _) sz) wm_3_212 wm_3_214 wm_1_19 hd_X4_joined wm_3_213 ⟨Nat.le_of_ble_eq_true rfl, Nat.le_of_ble_eq_true rfl⟩ hl_16.1 rfl (Nat.le_of_ble_eq_true rfl) dX4_valueFor_129 ⟨Nat.le_of_ble_eq_true rfl, Nat.le_of_ble_eq_true rfl⟩ [] [0, 1, 2, 3] rfl rfl (by decide) rfl rfl (fun r_22 u_22 H locs w_22 h_22 => ?_)
            clear h
            obtain ⟨wr_22, _⟩ := w_22
            replace h_22 : qW D _ _ [(h0, .inr (4, [.ref h1])), (h1, .inl (cy 1, m0, .inl f0)), (h2, .inl (cy 1, 11, .inl f1)), (h3, .inl (cy 1, 64, .inl v5_3_2))] _ _ := h_22
            refine q_iast X hK h_22 3 rfl (i_in rfl (by omega) (by omega)) dX4_valueFor_132 (fun H locs h_24 => ?_)
            clear h_22
            replace h_24 : qW D _ _ [(h0, .inr (4, [.ref h1])), (h1, .inl (cy 1, m0, .inl f0)), (h2, .inl (cy 1, 11, .inl f1)), (h3, .inl (cy 1, 64, .inl (upd v5_3_2 (Int32.toNatClampNeg z_17) r_22)))] _ _ := h_24
            obtain ⟨F_23, eF_23⟩ : ∃ z, (upd v5_3_2 (Int32.toNatClampNeg z_17) r_22) = z := ⟨_, rfl⟩
            rw [eF_23] at h_24
            clear eF_23
            exact J_133 _ _ _ _ ⟨z_16, F_23, ⟨by omega, by omega⟩, rfl, h_24, (lv_sub hl_16 [2, 3, 4, 0, 5, 1] rfl)⟩
        · replace c_14 := i_eq (x := z_9) (y := 2023) rfl (show (2023 : Int32).toInt = 2023 by decide) c_14
          refine lv_iload_n hx hb dX4_valueFor_84 rfl (lv_at hl_10 4 rfl) ?_
          refine lv_if_le (tgt := 133) hx hb dX4_valueFor_85 (by decide) (fun c_25 => ?_) (fun c_25 => ?_)
          · replace c_25 := i_le (x := v5_3_1) (y := 0) rfl (show (0 : Int32).toInt = 0 by decide) c_25
            exact J_133 _ _ _ _ ⟨v5_3_1, v5_3_2, hv5_3_1, rfl, h, (lv_sub hl_10 [1, 2, 3, 4, 5, 0] rfl)⟩
          · replace c_25 := i_nle (x := v5_3_1) (y := 0) rfl (show (0 : Int32).toInt = 0 by decide) c_25
            refine lv_aload_n hx hb dX4_valueFor_88 rfl (lv_at hl_10 3 rfl) ?_
            refine lv_iload_n hx hb dX4_valueFor_89 rfl (lv_at hl_10 4 rfl) ?_
            refine lv_iconst (v := 1) hx hb dX4_valueFor_90 (by decide) ?_
            refine lv_isub hx hb dX4_valueFor_91 ?_
            obtain ⟨z_26, ez_26, hz_26⟩ := e_sub (x := v5_3_1) (y := 1) rfl (show (1 : Int32).toInt = 1 by decide) (by omega) (by omega)
            refine q_c z_26 ez_26 ?_
            clear ez_26
            refine lv_iconst (v := 1) hx hb dX4_valueFor_92 (by decide) ?_
            refine lv_aload_n hx hb dX4_valueFor_93 rfl (lv_at hl_10 3 rfl) ?_
            refine lv_iload_n hx hb dX4_valueFor_94 rfl (lv_at hl_10 4 rfl) ?_
            refine lv_iconst (v := 1) hx hb dX4_valueFor_95 (by decide) ?_
            refine lv_isub hx hb dX4_valueFor_96 ?_
            obtain ⟨z_27, ez_27, hz_27⟩ := e_sub (x := v5_3_1) (y := 1) rfl (show (1 : Int32).toInt = 1 by decide) (by omega) (by omega)
            refine q_c z_27 ez_27 ?_
            clear ez_27
            refine q_iald X hK h 3 rfl (i_in rfl (by omega) (by omega)) dX4_valueFor_97 ?_
            refine q_any (fun z_28 hz_28 => ?_)
            refine lv_isub hx hb dX4_valueFor_98 ?_
            refine q_any (fun z_29 hz_29 => ?_)
            refine q_iast X hK h 3 rfl (i_in rfl (by omega) (by omega)) dX4_valueFor_99 (fun H locs h_31 => ?_)
            clear h
            replace h_31 : qW D _ _ [(h0, .inr (4, [.ref h1])), (h1, .inl (cy 1, m0, .inl f0)), (h2, .inl (cy 1, 11, .inl f1)), (h3, .inl (cy 1, 64, .inl (upd v5_3_2 (Int32.toNatClampNeg z_26) z_29)))] _ _ := h_31
            obtain ⟨F_30, eF_30⟩ : ∃ z, (upd v5_3_2 (Int32.toNatClampNeg z_26) z_29) = z := ⟨_, rfl⟩
            rw [eF_30] at h_31
            clear eF_30
            refine lv_goto (tgt := 133) hx hb dX4_valueFor_100 (by decide) ?_
            exact J_133 _ _ _ _ ⟨v5_3_1, F_30, hv5_3_1, rfl, h_31, (lv_sub hl_10 [1, 2, 3, 4, 5, 0] rfl)⟩
      · replace c_13 := i_nle (x := 2000) (y := z_9) (show (2000 : Int32).toInt = 2000 by decide) rfl c_13
        refine lv_iload hx hb dX4_valueFor_32 (lv_at hl_10 0 rfl) ?_
        refine lv_sipush (v := 1000) hx hb dX4_valueFor_34 (by decide) ?_
        refine lv_isub hx hb dX4_valueFor_37 ?_
        refine q_any (fun z_32 hz_32 => ?_)
        refine lv_istore (lv' := [(6, .int z_32), (5, .int z_9), (0, .ref h0), (1, .ref h2), (2, .ref h3), (3, .int v5_3_1), (4, .int v5_3_0)]) hx hb dX4_valueFor_38 hl_10 (by decide) rfl (fun ls_33 hl_33 => ?_)
        clear hl_10
        refine lv_iload_n hx hb dX4_valueFor_40 rfl (lv_at hl_33 5 rfl) ?_
        refine lv_aload_n hx hb dX4_valueFor_41 rfl (lv_at hl_33 4 rfl) ?_
        refine q_alen X hK h 3 1 rfl rfl 64 (show Int32.ofNat 64 = 64 by decide) dX4_valueFor_42 ?_
        refine q_jn (pc2 := 73) (fun H locs ls st => ∃ v73_34_0 : Int32, ∃ v73_34_1 : Nat → Int32, (0 ≤ (v73_34_0).toInt ∧ (v73_34_0).toInt ≤ 64) ∧ st = [] ∧ qW D (va_A [(h0, .inr (4, [.ref h1])), (h1, .inl (cy 1, m0, .inl f0)), (h2, .inl (cy 1, 11, .inl f1)), (h3, .inl (cy 1, 64, .inl f2))] sz) s.heap [(h0, .inr (4, [.ref h1])), (h1, .inl (cy 1, m0, .inl f0)), (h2, .inl (cy 1, 11, .inl f1)), (h3, .inl (cy 1, 64, .inl v73_34_1))] H locs ∧ lv_has ls 7 [(0, .ref h0), (1, .ref h2), (2, .ref h3), (3, .int v73_34_0), (4, .int v5_3_0), (5, .int z_9), (6, .int z_32)]) (fun H locs ls st hP => ?_) (fun J_73 => ?_)
        · obtain ⟨v73_34_0, v73_34_1, hv73_34_0, rfl, h, hl⟩ := hP
          refine lv_goto (tgt := 133) hx hb dX4_valueFor_73 (by decide) ?_
          exact J_133 _ _ _ _ ⟨v73_34_0, v73_34_1, hv73_34_0, rfl, h, (lv_sub hl [0, 1, 2, 3, 4, 5] rfl)⟩
        · skip
          refine lv_icmp_ge (tgt := 73) hx hb dX4_valueFor_43 (by decide) (fun c_35 => ?_) (fun c_35 => ?_)
          · replace c_35 := i_le (x := 64) (y := v5_3_1) (show (64 : Int32).toInt = 64 by decide) rfl c_35
            exact J_73 _ _ _ _ ⟨v5_3_1, v5_3_2, hv5_3_1, rfl, h, (lv_sub hl_33 [2, 3, 4, 5, 6, 1, 0] rfl)⟩
          · replace c_35 := i_nle (x := 64) (y := v5_3_1) (show (64 : Int32).toInt = 64 by decide) rfl c_35
            refine lv_iload hx hb dX4_valueFor_46 (lv_at hl_33 0 rfl) ?_
            refine lv_aload_n hx hb dX4_valueFor_48 rfl (lv_at hl_33 3 rfl) ?_
            refine q_alen X hK h 2 1 rfl rfl 11 (show Int32.ofNat 11 = 11 by decide) dX4_valueFor_49 ?_
            refine lv_icmp_ge (tgt := 73) hx hb dX4_valueFor_50 (by decide) (fun c_36 => ?_) (fun c_36 => ?_)
            · replace c_36 := i_le (x := 11) (y := z_32) (show (11 : Int32).toInt = 11 by decide) rfl c_36
              exact J_73 _ _ _ _ ⟨v5_3_1, v5_3_2, hv5_3_1, rfl, h, (lv_sub hl_33 [2, 3, 4, 5, 6, 1, 0] rfl)⟩
            · replace c_36 := i_nle (x := 11) (y := z_32) (show (11 : Int32).toInt = 11 by decide) rfl c_36
              refine lv_aload_n hx hb dX4_valueFor_53 rfl (lv_at hl_33 4 rfl) ?_
              refine lv_iload_n hx hb dX4_valueFor_54 rfl (lv_at hl_33 5 rfl) ?_
              refine lv_iload hx hb dX4_valueFor_55 (lv_at hl_33 0 rfl) ?_
              refine q_jn (pc2 := 69) (fun H locs ls st => ∃ v69_37_0 : Int32, ((-2147483648) ≤ (v69_37_0).toInt ∧ (v69_37_0).toInt ≤ 2147483647) ∧ st = [.int v69_37_0, .int v5_3_1, .ref h3] ∧ qW D (va_A [(h0, .inr (4, [.ref h1])), (h1, .inl (cy 1, m0, .inl f0)), (h2, .inl (cy 1, 11, .inl f1)), (h3, .inl (cy 1, 64, .inl f2))] sz) s.heap [(h0, .inr (4, [.ref h1])), (h1, .inl (cy 1, m0, .inl f0)), (h2, .inl (cy 1, 11, .inl f1)), (h3, .inl (cy 1, 64, .inl v5_3_2))] H locs ∧ lv_has ls 7 [(0, .ref h0), (1, .ref h2), (2, .ref h3), (3, .int v5_3_1), (4, .int v5_3_0), (5, .int z_9), (6, .int z_32)]) (fun H locs ls st hP => ?_) (fun J_69 => ?_)
              · obtain ⟨v69_37_0, hv69_37_0, rfl, h, hl⟩ := hP
                refine q_iast X hK h 3 rfl (i_in rfl (by omega) (by omega)) dX4_valueFor_69 (fun H locs h_39 => ?_)
                clear h
                replace h_39 : qW D _ _ [(h0, .inr (4, [.ref h1])), (h1, .inl (cy 1, m0, .inl f0)), (h2, .inl (cy 1, 11, .inl f1)), (h3, .inl (cy 1, 64, .inl (upd v5_3_2 (Int32.toNatClampNeg v5_3_1) v69_37_0)))] _ _ := h_39
                obtain ⟨F_38, eF_38⟩ : ∃ z, (upd v5_3_2 (Int32.toNatClampNeg v5_3_1) v69_37_0) = z := ⟨_, rfl⟩
                rw [eF_38] at h_39
                clear eF_38
                obtain ⟨z_40, ez_40, hz_40⟩ := e_add (x := v5_3_1) (y := Int32.ofInt 1) rfl (b := 1) (by decide) (by omega) (by omega)
                refine lv_iinc (v := z_40) (lv' := [(3, .int z_40), (0, .ref h0), (1, .ref h2), (2, .ref h3), (4, .int v5_3_0), (5, .int z_9), (6, .int z_32)]) hx hb dX4_valueFor_70 hl (k := 3) rfl ez_40 (by decide) rfl (fun ls_40 hl_40 => ?_)
                clear hl
                exact J_73 _ _ _ _ ⟨z_40, F_38, ⟨by omega, by omega⟩, rfl, h_39, (lv_sub hl_40 [1, 2, 3, 0, 4, 5, 6] rfl)⟩
              · skip
                refine lv_if_ge (tgt := 65) hx hb dX4_valueFor_57 (by decide) (fun c_41 => ?_) (fun c_41 => ?_)
                · replace c_41 := i_le (x := 0) (y := z_32) (show (0 : Int32).toInt = 0 by decide) rfl c_41
                  refine lv_aload_n hx hb dX4_valueFor_65 rfl (lv_at hl_33 3 rfl) ?_
                  refine lv_iload hx hb dX4_valueFor_66 (lv_at hl_33 0 rfl) ?_
                  refine q_iald X hK h 2 rfl (i_in rfl (by omega) (by omega)) dX4_valueFor_68 ?_
                  refine q_any (fun z_42 hz_42 => ?_)
                  exact J_69 _ _ _ _ ⟨z_42, ⟨by omega, by omega⟩, rfl, h, (lv_sub hl_33 [2, 3, 4, 5, 6, 1, 0] rfl)⟩
                · replace c_41 := i_nle (x := 0) (y := z_32) (show (0 : Int32).toInt = 0 by decide) rfl c_41
                  refine lv_iload hx hb dX4_valueFor_60 (lv_at hl_33 1 rfl) ?_
                  refine lv_goto (tgt := 69) hx hb dX4_valueFor_62 (by decide) ?_
                  exact J_69 _ _ _ _ ⟨z_9, ⟨by omega, by omega⟩, rfl, h, (lv_sub hl_33 [2, 3, 4, 5, 6, 1, 0] rfl)⟩
set_option maxHeartbeats 4000000 in
set_option maxRecDepth 100000 in
theorem gX6_opposesOneWay_bd62700 (l : Launch) (D : va_G) (cy : Nat → ClassId) (h0 : Nat) (h1 : Nat) (h2 : Nat) (h3 : Nat) (h4 : Nat) (p0 : Int32) (p1 : Int32) (p2 : Int32) (p3 : Int32) (f0 : Nat → Int32) (f1 : Nat → Int32) (m0 : Nat) (f2 : Nat → Int32) (hp0 : 0 ≤ (p0).toInt ∧ (p0).toInt ≤ 9) (hp1 : 0 ≤ (p1).toInt ∧ (p1).toInt ≤ 999) (hp2 : 0 ≤ (p2).toInt ∧ (p2).toInt ≤ 9) (hp3 : 0 ≤ (p3).toInt ∧ (p3).toInt ≤ 999) (hm0 : m0 ≤ 900) (sz : Nat) : MI l yX6_opposesOneWay cX6_opposesOneWay 6 .boolean { frames := 3, cells := 0, slots := 0, locals := 67 } [.ref h0, .ref h3, .int p0, .int p1, .int p2, .int p3] D cy [(h0, .inr (6, [.ref h1, .ref h2])), (h1, .inl (cy 1, 11, .inl f0)), (h2, .inl (cy 1, 64, .inl f1)), (h3, .inr (4, [.ref h4])), (h4, .inl (cy 1, m0, .inl f2))] sz (fun r u => (0 ≤ r.toInt ∧ r.toInt ≤ 1) ∧ True) (fun u => [(h0, .inr (6, [.ref h1, .ref h2])), (h1, .inl (cy 1, 11, .inl (u.2.1 0))), (h2, .inl (cy 1, 64, .inl (u.2.1 1))), (h3, .inr (4, [.ref h4])), (h4, .inl (cy 1, m0, .inl f2))]) 0 0 := by
  refine q_ent (own := RX6) (by decide) rfl (Nat.le_of_ble_eq_true rfl) (fun p e s m below meth c ls X hr hlk hnm hK hT h hA hl => ?_)
  obtain ⟨hx, hb, hml, hown, ht⟩ := id X
  replace hl : lv_has ls 6 [(0, .ref h0), (1, .ref h3), (2, .int p0), (3, .int p1), (4, .int p2), (5, .int p3)] := hl
  refine lv_aload_n hx hb dX6_opposesOneWay_0 rfl (lv_at hl 0 rfl) ?_
  refine lv_iconst (v := 0) hx hb dX6_opposesOneWay_1 (by decide) ?_
  refine lv_iload_n hx hb dX6_opposesOneWay_2 rfl (lv_at hl 3 rfl) ?_
  refine lv_iload_n hx hb dX6_opposesOneWay_3 rfl (lv_at hl 2 rfl) ?_
  refine q_callVv (rest := []) (wr := [(h2, .inl (cy 1, 64, .inl f1)), (h3, .inr (4, [.ref h4])), (h4, .inl (cy 1, m0, .inl f2))]) X hK hT hA h (fun sz => gX6_put_ab0800e l D cy h0 h1 (0 : Int32) p1 p0 (.ref h2) f0 ⟨by decide +kernel, by decide +kernel⟩ hp1 hp0 sz) wm_3_204 wm_3_207 wm_1_5 hd_X6_put wm_3_206 wp_2_10 (ci := 6) (q0 := 0) rfl rfl ⟨Nat.le_of_ble_eq_true rfl, Nat.le_of_ble_eq_true rfl⟩ hl.1 rfl (Nat.le_of_ble_eq_true rfl) dX6_opposesOneWay_4 ⟨Nat.le_of_ble_eq_true rfl, Nat.le_of_ble_eq_true rfl⟩ [0, 1] [2, 3, 4] rfl rfl (by decide) rfl rfl (fun u_1 H locs w_1 h_1 => ?_)
  clear h
  clear w_1
  replace h_1 : qW D _ _ [(h2, .inl (cy 1, 64, .inl f1)), (h3, .inr (4, [.ref h4])), (h4, .inl (cy 1, m0, .inl f2)), (h0, .inr (6, [.ref h1, .ref h2])), (h1, .inl (cy 1, 11, .inl (u_1.2.1 0)))] _ _ := h_1
  refine lv_aload_n hx hb dX6_opposesOneWay_7 rfl (lv_at hl 0 rfl) ?_
  refine lv_iconst (v := 4) hx hb dX6_opposesOneWay_8 (by decide) ?_
  refine lv_iload hx hb dX6_opposesOneWay_9 (lv_at hl 5 rfl) ?_
  refine lv_iload hx hb dX6_opposesOneWay_11 (lv_at hl 4 rfl) ?_
  refine q_callVv (rest := []) (wr := [(h2, .inl (cy 1, 64, .inl f1)), (h3, .inr (4, [.ref h4])), (h4, .inl (cy 1, m0, .inl f2))]) X hK hT hA h_1 (fun sz => gX6_put_ab0800e l D cy h0 h1 (4 : Int32) p3 p2 (.ref h2) (u_1.2.1 0) ⟨by decide +kernel, by decide +kernel⟩ hp3 hp2 sz) wm_3_204 wm_3_207 wm_1_5 hd_X6_put wm_3_206 wp_2_10 (ci := 6) (q0 := 0) rfl rfl ⟨Nat.le_of_ble_eq_true rfl, Nat.le_of_ble_eq_true rfl⟩ hl.1 rfl (Nat.le_of_ble_eq_true rfl) dX6_opposesOneWay_13 ⟨Nat.le_of_ble_eq_true rfl, Nat.le_of_ble_eq_true rfl⟩ [3, 4] [0, 1, 2] rfl rfl (by decide) rfl rfl (fun u_2 H locs w_2 h_2 => ?_)
  clear h_1
  clear w_2
  replace h_2 : qW D _ _ [(h2, .inl (cy 1, 64, .inl f1)), (h3, .inr (4, [.ref h4])), (h4, .inl (cy 1, m0, .inl f2)), (h0, .inr (6, [.ref h1, .ref h2])), (h1, .inl (cy 1, 11, .inl (u_2.2.1 0)))] _ _ := h_2
  refine lv_aload_n hx hb dX6_opposesOneWay_16 rfl (lv_at hl 1 rfl) ?_
  refine lv_aload_n hx hb dX6_opposesOneWay_17 rfl (lv_at hl 0 rfl) ?_
  refine q_get X hK h_2 3 rfl rfl wf_6 0 (by decide) rfl wm_1_184 dX6_opposesOneWay_18 ?_
  refine lv_aload_n hx hb dX6_opposesOneWay_21 rfl (lv_at hl 0 rfl) ?_
  refine q_get X hK h_2 3 rfl rfl wf_6 1 (by decide) rfl wm_1_185 dX6_opposesOneWay_22 ?_
  refine q_callVi (rest := []) (wr := [(h0, .inr (6, [.ref h1, .ref h2]))]) X hK hT hA h_2 (fun sz => gX4_valueFor_d25d6d8 l D cy h3 h4 h1 h2 m0 f2 (u_2.2.1 0) f1 (by omega) sz) wm_3_208 wm_3_211 wm_1_19 hd_X4_valueFor wm_3_209 wm_3_210 (ci := 4) (q0 := 0) rfl rfl ⟨Nat.le_of_ble_eq_true rfl, Nat.le_of_ble_eq_true rfl⟩ hl.1 rfl (Nat.le_of_ble_eq_true rfl) dX6_opposesOneWay_25 ⟨Nat.le_of_ble_eq_true rfl, Nat.le_of_ble_eq_true rfl⟩ [1, 2, 4, 0] [3] rfl rfl (by decide) rfl rfl (fun r_3 u_3 H locs w_3 h_3 => ?_)
  clear h_2
  obtain ⟨wr_3, _⟩ := w_3
  replace h_3 : qW D _ _ [(h0, .inr (6, [.ref h1, .ref h2])), (h3, .inr (4, [.ref h4])), (h4, .inl (cy 1, m0, .inl f2)), (h1, .inl (cy 1, 11, .inl (u_2.2.1 0))), (h2, .inl (cy 1, 64, .inl (u_3.2.1 0)))] _ _ := h_3
  refine q_jn (pc2 := 36) (fun H locs ls st => ∃ v36_4_0 : Int32, (0 ≤ (v36_4_0).toInt ∧ (v36_4_0).toInt ≤ 1) ∧ st = [.int v36_4_0] ∧ qW D (va_A [(h0, .inr (6, [.ref h1, .ref h2])), (h1, .inl (cy 1, 11, .inl f0)), (h2, .inl (cy 1, 64, .inl f1)), (h3, .inr (4, [.ref h4])), (h4, .inl (cy 1, m0, .inl f2))] sz) s.heap [(h0, .inr (6, [.ref h1, .ref h2])), (h3, .inr (4, [.ref h4])), (h4, .inl (cy 1, m0, .inl f2)), (h1, .inl (cy 1, 11, .inl (u_2.2.1 0))), (h2, .inl (cy 1, 64, .inl (u_3.2.1 0)))] H locs ∧ lv_has ls 6 [(0, .ref h0), (1, .ref h3), (2, .int p0), (3, .int p1), (4, .int p2), (5, .int p3)]) (fun H locs ls st hP => ?_) (fun J_36 => ?_)
  · obtain ⟨v36_4_0, hv36_4_0, rfl, h, hl⟩ := hP
    exact q_iret X hr hlk hK h (q_nz (by omega) (by omega)) (fun _ => 0, fun k => List.getD [(u_2.2.1 0), (u_3.2.1 0)] k (fun _ => 0), fun _ _ => 0) ⟨hv36_4_0, trivial⟩ [0, 3, 4, 1, 2] rfl rfl dX6_opposesOneWay_36 (Nat.le_of_ble_eq_true rfl) (Nat.le_of_ble_eq_true rfl)
  · skip
    refine lv_if_eq (tgt := 35) hx hb dX6_opposesOneWay_28 (by decide) (fun c_5 => ?_) (fun c_5 => ?_)
    · replace c_5 := i_eq (x := r_3) (y := 0) rfl (show (0 : Int32).toInt = 0 by decide) c_5
      refine lv_iconst (v := 0) hx hb dX6_opposesOneWay_35 (by decide) ?_
      exact J_36 _ _ _ _ ⟨0, ⟨by decide +kernel, by decide +kernel⟩, rfl, h_3, (lv_sub hl [0, 1, 2, 3, 4, 5] rfl)⟩
    · replace c_5 := i_ne (x := r_3) (y := 0) rfl (show (0 : Int32).toInt = 0 by decide) c_5
      refine lv_iconst (v := 1) hx hb dX6_opposesOneWay_31 (by decide) ?_
      refine lv_goto (tgt := 36) hx hb dX6_opposesOneWay_32 (by decide) ?_
      exact J_36 _ _ _ _ ⟨1, ⟨by decide +kernel, by decide +kernel⟩, rfl, h_3, (lv_sub hl [0, 1, 2, 3, 4, 5] rfl)⟩
set_option maxHeartbeats 4000000 in
set_option maxRecDepth 100000 in
theorem gX6_areOpposites_74387cf (l : Launch) (D : va_G) (cy : Nat → ClassId) (h0 : Nat) (h1 : Nat) (h2 : Nat) (h3 : Nat) (h4 : Nat) (h5 : Nat) (h6 : Nat) (h7 : Nat) (p0 : Int32) (p1 : Int32) (p2 : Int32) (p3 : Int32) (f0 : Nat → Int32) (f1 : Nat → Int32) (p4 : Int32) (p5 : Int32) (p6 : Int32) (p7 : Int32) (p8 : Int32) (w0 : Value) (w1 : Value) (w2 : Value) (w3 : Value) (w4 : Value) (w5 : Value) (m0 : Nat) (f2 : Nat → Int32) (f3 : Nat → Int32) (hp0 : 0 ≤ (p0).toInt ∧ (p0).toInt ≤ 9) (hp1 : 0 ≤ (p1).toInt ∧ (p1).toInt ≤ 999) (hp2 : 0 ≤ (p2).toInt ∧ (p2).toInt ≤ 9) (hp3 : (-2147483648) ≤ (p3).toInt ∧ (p3).toInt ≤ 2147483647) (hp4 : (-2147483648) ≤ (p4).toInt ∧ (p4).toInt ≤ 2147483647) (hp5 : 1 ≤ (p5).toInt ∧ (p5).toInt ≤ 3) (hp6 : 0 ≤ (p6).toInt ∧ (p6).toInt ≤ 10) (hp7 : (-2147483648) ≤ (p7).toInt ∧ (p7).toInt ≤ 2147483647) (hp8 : (-2147483648) ≤ (p8).toInt ∧ (p8).toInt ≤ 2147483647) (hm0 : m0 ≤ 900) (rf3 : RG f3 10 0 999) (sz : Nat) : MI l yX6_areOpposites cX6_areOpposites 8 .boolean { frames := 4, cells := 0, slots := 0, locals := 92 } [.ref h0, .ref h3, .int p0, .int p1, .int p2, .int p3] D cy [(h0, .inr (6, [.ref h1, .ref h2])), (h1, .inl (cy 1, 11, .inl f0)), (h2, .inl (cy 1, 64, .inl f1)), (h3, .inr (7, [.ref h4, .int p3, .int p4, .ref h7])), (h4, .inr (3, [.int p5, .int p6, .int p7, .int p8, .ref h5, w0, w0, w1, w2, w3, w4, w5])), (h5, .inr (4, [.ref h6])), (h6, .inl (cy 1, m0, .inl f2)), (h7, .inl (cy 1, 10, .inl f3))] sz (fun r u => (0 ≤ r.toInt ∧ r.toInt ≤ 1) ∧ True) (fun u => [(h0, .inr (6, [.ref h1, .ref h2])), (h1, .inl (cy 1, 11, .inl (u.2.1 0))), (h2, .inl (cy 1, 64, .inl (u.2.1 1))), (h3, .inr (7, [.ref h4, .int p3, .int p4, .ref h7])), (h4, .inr (3, [.int p5, .int p6, .int p7, .int p8, .ref h5, w0, w0, w1, w2, w3, w4, w5])), (h5, .inr (4, [.ref h6])), (h6, .inl (cy 1, m0, .inl f2)), (h7, .inl (cy 1, 10, .inl f3))]) 0 0 := by
  refine q_ent (own := RX6) (by decide) rfl (Nat.le_of_ble_eq_true rfl) (fun p e s m below meth c ls X hr hlk hnm hK hT h hA hl => ?_)
  obtain ⟨hx, hb, hml, hown, ht⟩ := id X
  replace hl : lv_has ls 8 [(0, .ref h0), (1, .ref h3), (2, .int p0), (3, .int p1), (4, .int p2), (5, .int p3)] := hl
  refine lv_aload_n hx hb dX6_areOpposites_0 rfl (lv_at hl 1 rfl) ?_
  refine q_get X hK h 3 rfl rfl wf_7 0 (by decide) rfl wm_2_41 dX6_areOpposites_1 ?_
  refine q_get X hK h 4 rfl rfl wf_3 4 (by decide) rfl wm_1_94 dX6_areOpposites_4 ?_
  refine lv_astore (lv' := [(6, .ref h5), (0, .ref h0), (1, .ref h3), (2, .int p0), (3, .int p1), (4, .int p2), (5, .int p3)]) hx hb dX6_areOpposites_7 hl (by decide) rfl (fun ls_1 hl_1 => ?_)
  clear hl
  refine lv_aload_n hx hb dX6_areOpposites_9 rfl (lv_at hl_1 2 rfl) ?_
  refine q_get X hK h 3 rfl rfl wf_7 3 (by decide) rfl wm_2_53 dX6_areOpposites_10 ?_
  refine lv_iload hx hb dX6_areOpposites_13 (lv_at hl_1 5 rfl) ?_
  refine q_iald X hK h 7 rfl (i_in rfl (by omega) (by omega)) dX6_areOpposites_15 ?_
  obtain ⟨z_2, ez_2, hz_2⟩ := rg_get rf3 (x := p2) rfl (by omega) (by omega)
  refine q_c z_2 ez_2 ?_
  clear ez_2
  refine lv_istore (lv' := [(7, .int z_2), (6, .ref h5), (0, .ref h0), (1, .ref h3), (2, .int p0), (3, .int p1), (4, .int p2), (5, .int p3)]) hx hb dX6_areOpposites_16 hl_1 (by decide) rfl (fun ls_3 hl_3 => ?_)
  clear hl_1
  refine lv_aload hx hb dX6_areOpposites_18 (lv_at hl_3 1 rfl) ?_
  refine lv_ifnonnull (tgt := 44) hx hb dX6_areOpposites_20 (by decide) ?_
  refine lv_aload_n hx hb dX6_areOpposites_44 rfl (lv_at hl_3 2 rfl) ?_
  refine q_get X hK h 0 rfl rfl wf_6 0 (by decide) rfl wm_1_184 dX6_areOpposites_45 ?_
  refine lv_bipush (v := 8) hx hb dX6_areOpposites_48 (by decide) ?_
  refine lv_iload hx hb dX6_areOpposites_50 (lv_at hl_3 7 rfl) ?_
  refine lv_bipush (v := 7) hx hb dX6_areOpposites_52 (by decide) ?_
  refine lv_irem hx hb dX6_areOpposites_54 (by decide) ?_
  refine q_any (fun z_4 hz_4 => ?_)
  refine q_iast X hK h 1 rfl (q_in (by decide +kernel)) dX6_areOpposites_55 (fun H locs h_6 => ?_)
  clear h
  replace h_6 : qW D _ _ [(h0, .inr (6, [.ref h1, .ref h2])), (h1, .inl (cy 1, 11, .inl (upd f0 (Int32.toNatClampNeg 8) z_4))), (h2, .inl (cy 1, 64, .inl f1)), (h3, .inr (7, [.ref h4, .int p3, .int p4, .ref h7])), (h4, .inr (3, [.int p5, .int p6, .int p7, .int p8, .ref h5, w0, w0, w1, w2, w3, w4, w5])), (h5, .inr (4, [.ref h6])), (h6, .inl (cy 1, m0, .inl f2)), (h7, .inl (cy 1, 10, .inl f3))] _ _ := h_6
  obtain ⟨F_5, eF_5⟩ : ∃ z, (upd f0 (Int32.toNatClampNeg 8) z_4) = z := ⟨_, rfl⟩
  rw [eF_5] at h_6
  clear eF_5
  refine lv_aload_n hx hb dX6_areOpposites_56 rfl (lv_at hl_3 2 rfl) ?_
  refine lv_aload hx hb dX6_areOpposites_57 (lv_at hl_3 1 rfl) ?_
  refine lv_iload_n hx hb dX6_areOpposites_59 rfl (lv_at hl_3 4 rfl) ?_
  refine lv_iload_n hx hb dX6_areOpposites_60 rfl (lv_at hl_3 5 rfl) ?_
  refine lv_iload hx hb dX6_areOpposites_61 (lv_at hl_3 6 rfl) ?_
  refine lv_iload hx hb dX6_areOpposites_63 (lv_at hl_3 0 rfl) ?_
  refine q_callVi (rest := []) (wr := [(h3, .inr (7, [.ref h4, .int p3, .int p4, .ref h7])), (h4, .inr (3, [.int p5, .int p6, .int p7, .int p8, .ref h5, w0, w0, w1, w2, w3, w4, w5])), (h7, .inl (cy 1, 10, .inl f3))]) X hK hT hA h_6 (fun sz => gX6_opposesOneWay_bd62700 l D cy h0 h1 h2 h5 h6 p0 p1 p2 z_2 F_5 f1 m0 f2 hp0 hp1 hp2 ⟨by omega, by omega⟩ (by omega) sz) wm_3_200 wm_3_203 wm_1_5 hd_X6_opposesOneWay wm_3_202 wp_2_9 (ci := 6) (q0 := 0) rfl rfl ⟨Nat.le_of_ble_eq_true rfl, Nat.le_of_ble_eq_true rfl⟩ hl_3.1 rfl (Nat.le_of_ble_eq_true rfl) dX6_areOpposites_65 ⟨Nat.le_of_ble_eq_true rfl, Nat.le_of_ble_eq_true rfl⟩ [0, 1, 2, 5, 6] [3, 4, 7] rfl rfl (by decide) rfl rfl (fun r_7 u_7 H locs w_7 h_7 => ?_)
  clear h_6
  obtain ⟨wr_7, _⟩ := w_7
  replace h_7 : qW D _ _ [(h3, .inr (7, [.ref h4, .int p3, .int p4, .ref h7])), (h4, .inr (3, [.int p5, .int p6, .int p7, .int p8, .ref h5, w0, w0, w1, w2, w3, w4, w5])), (h7, .inl (cy 1, 10, .inl f3)), (h0, .inr (6, [.ref h1, .ref h2])), (h1, .inl (cy 1, 11, .inl (u_7.2.1 0))), (h2, .inl (cy 1, 64, .inl (u_7.2.1 1))), (h5, .inr (4, [.ref h6])), (h6, .inl (cy 1, m0, .inl f2))] _ _ := h_7
  refine q_jn (pc2 := 91) (fun H locs ls st => ∃ v91_8_2 : Int32, ∃ v91_8_0 : Nat → Int32, ∃ v91_8_1 : Nat → Int32, (0 ≤ (v91_8_2).toInt ∧ (v91_8_2).toInt ≤ 1) ∧ st = [.int v91_8_2] ∧ qW D (va_A [(h0, .inr (6, [.ref h1, .ref h2])), (h1, .inl (cy 1, 11, .inl f0)), (h2, .inl (cy 1, 64, .inl f1)), (h3, .inr (7, [.ref h4, .int p3, .int p4, .ref h7])), (h4, .inr (3, [.int p5, .int p6, .int p7, .int p8, .ref h5, w0, w0, w1, w2, w3, w4, w5])), (h5, .inr (4, [.ref h6])), (h6, .inl (cy 1, m0, .inl f2)), (h7, .inl (cy 1, 10, .inl f3))] sz) s.heap [(h3, .inr (7, [.ref h4, .int p3, .int p4, .ref h7])), (h4, .inr (3, [.int p5, .int p6, .int p7, .int p8, .ref h5, w0, w0, w1, w2, w3, w4, w5])), (h7, .inl (cy 1, 10, .inl f3)), (h0, .inr (6, [.ref h1, .ref h2])), (h1, .inl (cy 1, 11, .inl v91_8_0)), (h2, .inl (cy 1, 64, .inl v91_8_1)), (h5, .inr (4, [.ref h6])), (h6, .inl (cy 1, m0, .inl f2))] H locs ∧ lv_has ls 8 [(0, .ref h0), (1, .ref h3), (2, .int p0), (3, .int p1), (4, .int p2), (5, .int p3), (6, .ref h5), (7, .int z_2)]) (fun H locs ls st hP => ?_) (fun J_91 => ?_)
  · obtain ⟨v91_8_2, v91_8_0, v91_8_1, hv91_8_2, rfl, h, hl⟩ := hP
    exact q_iret X hr hlk hK h (q_nz (by omega) (by omega)) (fun _ => 0, fun k => List.getD [v91_8_0, v91_8_1] k (fun _ => 0), fun _ _ => 0) ⟨hv91_8_2, trivial⟩ [3, 4, 5, 0, 1, 6, 7, 2] rfl rfl dX6_areOpposites_91 (Nat.le_of_ble_eq_true rfl) (Nat.le_of_ble_eq_true rfl)
  · skip
    refine q_jn (pc2 := 86) (fun H locs ls st => ∃ v86_9_0 : Nat → Int32, ∃ v86_9_1 : Nat → Int32, st = [] ∧ qW D (va_A [(h0, .inr (6, [.ref h1, .ref h2])), (h1, .inl (cy 1, 11, .inl f0)), (h2, .inl (cy 1, 64, .inl f1)), (h3, .inr (7, [.ref h4, .int p3, .int p4, .ref h7])), (h4, .inr (3, [.int p5, .int p6, .int p7, .int p8, .ref h5, w0, w0, w1, w2, w3, w4, w5])), (h5, .inr (4, [.ref h6])), (h6, .inl (cy 1, m0, .inl f2)), (h7, .inl (cy 1, 10, .inl f3))] sz) s.heap [(h3, .inr (7, [.ref h4, .int p3, .int p4, .ref h7])), (h4, .inr (3, [.int p5, .int p6, .int p7, .int p8, .ref h5, w0, w0, w1, w2, w3, w4, w5])), (h7, .inl (cy 1, 10, .inl f3)), (h0, .inr (6, [.ref h1, .ref h2])), (h1, .inl (cy 1, 11, .inl v86_9_0)), (h2, .inl (cy 1, 64, .inl v86_9_1)), (h5, .inr (4, [.ref h6])), (h6, .inl (cy 1, m0, .inl f2))] H locs ∧ lv_has ls 8 [(0, .ref h0), (1, .ref h3), (2, .int p0), (3, .int p1), (4, .int p2), (5, .int p3), (6, .ref h5), (7, .int z_2)]) (fun H locs ls st hP => ?_) (fun J_86 => ?_)
    · obtain ⟨v86_9_0, v86_9_1, rfl, h, hl⟩ := hP
      refine lv_iconst (v := 1) hx hb dX6_areOpposites_86 (by decide) ?_
      refine lv_goto (tgt := 91) hx hb dX6_areOpposites_87 (by decide) ?_
      exact J_91 _ _ _ _ ⟨1, v86_9_0, v86_9_1, ⟨by decide +kernel, by decide +kernel⟩, rfl, h, (lv_sub hl [0, 1, 2, 3, 4, 5, 6, 7] rfl)⟩
    · skip
      refine lv_if_ne (tgt := 86) hx hb dX6_areOpposites_68 (by decide) (fun c_10 => ?_) (fun c_10 => ?_)
      · replace c_10 := i_ne (x := r_7) (y := 0) rfl (show (0 : Int32).toInt = 0 by decide) c_10
        exact J_86 _ _ _ _ ⟨(u_7.2.1 0), (u_7.2.1 1), rfl, h_7, (lv_sub hl_3 [2, 3, 4, 5, 6, 7, 1, 0] rfl)⟩
      · replace c_10 := i_eq (x := r_7) (y := 0) rfl (show (0 : Int32).toInt = 0 by decide) c_10
        refine lv_aload_n hx hb dX6_areOpposites_71 rfl (lv_at hl_3 2 rfl) ?_
        refine lv_aload hx hb dX6_areOpposites_72 (lv_at hl_3 1 rfl) ?_
        refine lv_iload hx hb dX6_areOpposites_74 (lv_at hl_3 6 rfl) ?_
        refine lv_iload hx hb dX6_areOpposites_76 (lv_at hl_3 0 rfl) ?_
        refine lv_iload_n hx hb dX6_areOpposites_78 rfl (lv_at hl_3 4 rfl) ?_
        refine lv_iload_n hx hb dX6_areOpposites_79 rfl (lv_at hl_3 5 rfl) ?_
        refine q_callVi (rest := []) (wr := [(h3, .inr (7, [.ref h4, .int p3, .int p4, .ref h7])), (h4, .inr (3, [.int p5, .int p6, .int p7, .int p8, .ref h5, w0, w0, w1, w2, w3, w4, w5])), (h7, .inl (cy 1, 10, .inl f3))]) X hK hT hA h_7 (fun sz => gX6_opposesOneWay_bd62700 l D cy h0 h1 h2 h5 h6 p2 z_2 p0 p1 (u_7.2.1 0) (u_7.2.1 1) m0 f2 hp2 ⟨by omega, by omega⟩ hp0 hp1 (by omega) sz) wm_3_200 wm_3_203 wm_1_5 hd_X6_opposesOneWay wm_3_202 wp_2_9 (ci := 6) (q0 := 0) rfl rfl ⟨Nat.le_of_ble_eq_true rfl, Nat.le_of_ble_eq_true rfl⟩ hl_3.1 rfl (Nat.le_of_ble_eq_true rfl) dX6_areOpposites_80 ⟨Nat.le_of_ble_eq_true rfl, Nat.le_of_ble_eq_true rfl⟩ [3, 4, 5, 6, 7] [0, 1, 2] rfl rfl (by decide) rfl rfl (fun r_11 u_11 H locs w_11 h_11 => ?_)
        clear h_7
        obtain ⟨wr_11, _⟩ := w_11
        replace h_11 : qW D _ _ [(h3, .inr (7, [.ref h4, .int p3, .int p4, .ref h7])), (h4, .inr (3, [.int p5, .int p6, .int p7, .int p8, .ref h5, w0, w0, w1, w2, w3, w4, w5])), (h7, .inl (cy 1, 10, .inl f3)), (h0, .inr (6, [.ref h1, .ref h2])), (h1, .inl (cy 1, 11, .inl (u_11.2.1 0))), (h2, .inl (cy 1, 64, .inl (u_11.2.1 1))), (h5, .inr (4, [.ref h6])), (h6, .inl (cy 1, m0, .inl f2))] _ _ := h_11
        refine lv_if_eq (tgt := 90) hx hb dX6_areOpposites_83 (by decide) (fun c_12 => ?_) (fun c_12 => ?_)
        · replace c_12 := i_eq (x := r_11) (y := 0) rfl (show (0 : Int32).toInt = 0 by decide) c_12
          refine lv_iconst (v := 0) hx hb dX6_areOpposites_90 (by decide) ?_
          exact J_91 _ _ _ _ ⟨0, (u_11.2.1 0), (u_11.2.1 1), ⟨by decide +kernel, by decide +kernel⟩, rfl, h_11, (lv_sub hl_3 [2, 3, 4, 5, 6, 7, 1, 0] rfl)⟩
        · replace c_12 := i_ne (x := r_11) (y := 0) rfl (show (0 : Int32).toInt = 0 by decide) c_12
          exact J_86 _ _ _ _ ⟨(u_11.2.1 0), (u_11.2.1 1), rfl, h_11, (lv_sub hl_3 [2, 3, 4, 5, 6, 7, 1, 0] rfl)⟩
set_option maxHeartbeats 4000000 in
set_option maxRecDepth 100000 in
theorem gX11_opposed_df61979 (l : Launch) (D : va_G) (cy : Nat → ClassId) (h0 : Nat) (h1 : Nat) (h2 : Nat) (h3 : Nat) (h4 : Nat) (h5 : Nat) (h6 : Nat) (h7 : Nat) (h8 : Nat) (p0 : Int32) (p1 : Int32) (w0 : Value) (p2 : Int32) (p3 : Int32) (p4 : Int32) (w1 : Value) (w2 : Value) (w3 : Value) (w4 : Value) (w5 : Value) (w6 : Value) (w7 : Value) (w8 : Value) (w9 : Value) (w10 : Value) (p5 : Int32) (p6 : Int32) (p7 : Int32) (p8 : Int32) (p9 : Int32) (p10 : Int32) (p11 : Int32) (w11 : Value) (w12 : Value) (w13 : Value) (w14 : Value) (w15 : Value) (w16 : Value) (m0 : Nat) (f0 : Nat → Int32) (f1 : Nat → Int32) (f2 : Nat → Int32) (f3 : Nat → Int32) (hp0 : (-2147483648) ≤ (p0).toInt ∧ (p0).toInt ≤ 2147483647) (hp1 : (-2147483648) ≤ (p1).toInt ∧ (p1).toInt ≤ 2147483647) (hp2 : 0 ≤ (p2).toInt ∧ (p2).toInt ≤ 900) (hp3 : (-2147483648) ≤ (p3).toInt ∧ (p3).toInt ≤ 2147483647) (hp4 : (-2147483648) ≤ (p4).toInt ∧ (p4).toInt ≤ 2147483647) (hp5 : (-2147483648) ≤ (p5).toInt ∧ (p5).toInt ≤ 2147483647) (hp6 : (-2147483648) ≤ (p6).toInt ∧ (p6).toInt ≤ 2147483647) (hp7 : (-2147483648) ≤ (p7).toInt ∧ (p7).toInt ≤ 2147483647) (hp8 : 1 ≤ (p8).toInt ∧ (p8).toInt ≤ 3) (hp9 : 0 ≤ (p9).toInt ∧ (p9).toInt ≤ 10) (hp10 : (-2147483648) ≤ (p10).toInt ∧ (p10).toInt ≤ 2147483647) (hp11 : (-2147483648) ≤ (p11).toInt ∧ (p11).toInt ≤ 2147483647) (hm0 : m0 ≤ 900) (rf1 : RG f1 10 0 999) (sz : Nat) : MI l yX11_opposed cX11_opposed 3 .int { frames := 5, cells := 0, slots := 0, locals := 119 } [.ref h0, .int p0, .int p1] D cy [(h0, .inr (11, [w0, .int p2, .int p3, .int p4, w1, .ref h1, w2, w3, w4, w5, w6, w7, .ref h6, w8, w9, w10, .int p5])), (h1, .inr (7, [.ref h2, .int p6, .int p7, .ref h5])), (h2, .inr (3, [.int p8, .int p9, .int p10, .int p11, .ref h3, w11, w11, w12, w13, w14, w15, w16])), (h3, .inr (4, [.ref h4])), (h4, .inl (cy 1, m0, .inl f0)), (h5, .inl (cy 1, 10, .inl f1)), (h6, .inr (6, [.ref h7, .ref h8])), (h7, .inl (cy 1, 11, .inl f2)), (h8, .inl (cy 1, 64, .inl f3))] sz (fun r u => ((-2) ≤ r.toInt ∧ r.toInt ≤ 1) ∧ True) (fun u => [(h0, .inr (11, [w0, .int p2, .int p3, .int p4, w1, .ref h1, w2, w3, w4, w5, w6, w7, .ref h6, w8, w9, w10, .int p5])), (h1, .inr (7, [.ref h2, .int p6, .int p7, .ref h5])), (h2, .inr (3, [.int p8, .int p9, .int p10, .int p11, .ref h3, w11, w11, w12, w13, w14, w15, w16])), (h3, .inr (4, [.ref h4])), (h4, .inl (cy 1, m0, .inl f0)), (h5, .inl (cy 1, 10, .inl f1)), (h6, .inr (6, [.ref h7, .ref h8])), (h7, .inl (cy 1, 11, .inl (u.2.1 0))), (h8, .inl (cy 1, 64, .inl (u.2.1 1)))]) 0 0 := by
  refine q_ent (own := RX11) (by decide) rfl (Nat.le_of_ble_eq_true rfl) (fun p e s m below meth c ls X hr hlk hnm hK hT h hA hl => ?_)
  obtain ⟨hx, hb, hml, hown, ht⟩ := id X
  replace hl : lv_has ls 3 [(0, .ref h0), (1, .int p0), (2, .int p1)] := hl
  refine lv_aload_n hx hb dX11_opposed_0 rfl (lv_at hl 0 rfl) ?_
  refine lv_iload_n hx hb dX11_opposed_1 rfl (lv_at hl 1 rfl) ?_
  refine q_callVi (rest := []) (wr := [(h3, .inr (4, [.ref h4])), (h4, .inl (cy 1, m0, .inl f0)), (h5, .inl (cy 1, 10, .inl f1)), (h6, .inr (6, [.ref h7, .ref h8])), (h7, .inl (cy 1, 11, .inl f2)), (h8, .inl (cy 1, 64, .inl f3))]) X hK hT hA h (fun sz => gX11_isPerson_c6d5f45 l D cy h0 h1 h2 p0 w0 p2 p3 p4 w1 w2 w3 w4 w5 w6 w7 (.ref h6) w8 w9 w10 p5 p6 p7 (.ref h5) p8 p9 p10 p11 (.ref h3) w11 w12 w13 w14 w15 w16 (i_rng _) hp2 (i_rng _) (i_rng _) (i_rng _) (i_rng _) (i_rng _) hp8 hp9 (i_rng _) (i_rng _) sz) wm_3_174 wm_3_177 wm_1_1 hd_X11_isPerson wm_3_176 wp_2_8 (ci := 11) (q0 := 0) rfl rfl ⟨Nat.le_of_ble_eq_true rfl, Nat.le_of_ble_eq_true rfl⟩ hl.1 rfl (Nat.le_of_ble_eq_true rfl) dX11_opposed_2 ⟨Nat.le_of_ble_eq_true rfl, Nat.le_of_ble_eq_true rfl⟩ [0, 1, 2] [3, 4, 5, 6, 7, 8] rfl rfl (by decide) rfl rfl (fun r_1 u_1 H locs w_1 h_1 => ?_)
  clear h
  obtain ⟨wr_1, y1_0, _⟩ := w_1
  replace h_1 : qW D _ _ [(h3, .inr (4, [.ref h4])), (h4, .inl (cy 1, m0, .inl f0)), (h5, .inl (cy 1, 10, .inl f1)), (h6, .inr (6, [.ref h7, .ref h8])), (h7, .inl (cy 1, 11, .inl f2)), (h8, .inl (cy 1, 64, .inl f3)), (h0, .inr (11, [w0, .int p2, .int p3, .int p4, w1, .ref h1, w2, w3, w4, w5, w6, w7, .ref h6, w8, w9, w10, .int p5])), (h1, .inr (7, [.ref h2, .int p6, .int p7, .ref h5])), (h2, .inr (3, [.int p8, .int p9, .int p10, .int p11, .ref h3, w11, w11, w12, w13, w14, w15, w16]))] _ _ := h_1
  refine q_jn (pc2 := 16) (fun H locs ls st => st = [] ∧ qW D (va_A [(h0, .inr (11, [w0, .int p2, .int p3, .int p4, w1, .ref h1, w2, w3, w4, w5, w6, w7, .ref h6, w8, w9, w10, .int p5])), (h1, .inr (7, [.ref h2, .int p6, .int p7, .ref h5])), (h2, .inr (3, [.int p8, .int p9, .int p10, .int p11, .ref h3, w11, w11, w12, w13, w14, w15, w16])), (h3, .inr (4, [.ref h4])), (h4, .inl (cy 1, m0, .inl f0)), (h5, .inl (cy 1, 10, .inl f1)), (h6, .inr (6, [.ref h7, .ref h8])), (h7, .inl (cy 1, 11, .inl f2)), (h8, .inl (cy 1, 64, .inl f3))] sz) s.heap [(h3, .inr (4, [.ref h4])), (h4, .inl (cy 1, m0, .inl f0)), (h5, .inl (cy 1, 10, .inl f1)), (h6, .inr (6, [.ref h7, .ref h8])), (h7, .inl (cy 1, 11, .inl f2)), (h8, .inl (cy 1, 64, .inl f3)), (h0, .inr (11, [w0, .int p2, .int p3, .int p4, w1, .ref h1, w2, w3, w4, w5, w6, w7, .ref h6, w8, w9, w10, .int p5])), (h1, .inr (7, [.ref h2, .int p6, .int p7, .ref h5])), (h2, .inr (3, [.int p8, .int p9, .int p10, .int p11, .ref h3, w11, w11, w12, w13, w14, w15, w16]))] H locs ∧ lv_has ls 3 [(0, .ref h0), (1, .int p0), (2, .int p1)]) (fun H locs ls st hP => ?_) (fun J_16 => ?_)
  · obtain ⟨rfl, h, hl⟩ := hP
    refine lv_bipush (v := (-2)) hx hb dX11_opposed_16 (by decide) ?_
    exact q_iret X hr hlk hK h rfl (fun _ => 0, fun k => List.getD [f2, f3] k (fun _ => 0), fun _ _ => 0) ⟨⟨by decide +kernel, by decide +kernel⟩, trivial⟩ [6, 7, 8, 0, 1, 2, 3, 4, 5] rfl rfl dX11_opposed_18 (Nat.le_of_ble_eq_true rfl) (Nat.le_of_ble_eq_true rfl)
  · skip
    refine lv_if_eq (tgt := 16) hx hb dX11_opposed_5 (by decide) (fun c_3 => ?_) (fun c_3 => ?_)
    · replace c_3 := i_eq (x := r_1) (y := 0) rfl (show (0 : Int32).toInt = 0 by decide) c_3
      exact J_16 _ _ _ _ ⟨rfl, h_1, (lv_sub hl [0, 1, 2] rfl)⟩
    · replace c_3 := i_ne (x := r_1) (y := 0) rfl (show (0 : Int32).toInt = 0 by decide) c_3
      refine lv_aload_n hx hb dX11_opposed_8 rfl (lv_at hl 0 rfl) ?_
      refine lv_iload_n hx hb dX11_opposed_9 rfl (lv_at hl 2 rfl) ?_
      refine q_callVi (rest := []) (wr := [(h3, .inr (4, [.ref h4])), (h4, .inl (cy 1, m0, .inl f0)), (h5, .inl (cy 1, 10, .inl f1)), (h6, .inr (6, [.ref h7, .ref h8])), (h7, .inl (cy 1, 11, .inl f2)), (h8, .inl (cy 1, 64, .inl f3))]) X hK hT hA h_1 (fun sz => gX11_isPerson_c6d5f45 l D cy h0 h1 h2 p1 w0 p2 p3 p4 w1 w2 w3 w4 w5 w6 w7 (.ref h6) w8 w9 w10 p5 p6 p7 (.ref h5) p8 p9 p10 p11 (.ref h3) w11 w12 w13 w14 w15 w16 (i_rng _) hp2 (i_rng _) (i_rng _) (i_rng _) (i_rng _) (i_rng _) hp8 hp9 (i_rng _) (i_rng _) sz) wm_3_174 wm_3_177 wm_1_1 hd_X11_isPerson wm_3_176 wp_2_8 (ci := 11) (q0 := 0) rfl rfl ⟨Nat.le_of_ble_eq_true rfl, Nat.le_of_ble_eq_true rfl⟩ hl.1 rfl (Nat.le_of_ble_eq_true rfl) dX11_opposed_10 ⟨Nat.le_of_ble_eq_true rfl, Nat.le_of_ble_eq_true rfl⟩ [6, 7, 8] [0, 1, 2, 3, 4, 5] rfl rfl (by decide) rfl rfl (fun r_4 u_4 H locs w_4 h_4 => ?_)
      clear h_1
      obtain ⟨wr_4, y4_0, _⟩ := w_4
      replace h_4 : qW D _ _ [(h3, .inr (4, [.ref h4])), (h4, .inl (cy 1, m0, .inl f0)), (h5, .inl (cy 1, 10, .inl f1)), (h6, .inr (6, [.ref h7, .ref h8])), (h7, .inl (cy 1, 11, .inl f2)), (h8, .inl (cy 1, 64, .inl f3)), (h0, .inr (11, [w0, .int p2, .int p3, .int p4, w1, .ref h1, w2, w3, w4, w5, w6, w7, .ref h6, w8, w9, w10, .int p5])), (h1, .inr (7, [.ref h2, .int p6, .int p7, .ref h5])), (h2, .inr (3, [.int p8, .int p9, .int p10, .int p11, .ref h3, w11, w11, w12, w13, w14, w15, w16]))] _ _ := h_4
      refine lv_if_ne (tgt := 19) hx hb dX11_opposed_13 (by decide) (fun c_5 => ?_) (fun c_5 => ?_)
      · replace c_5 := i_ne (x := r_4) (y := 0) rfl (show (0 : Int32).toInt = 0 by decide) c_5
        refine lv_iload_n hx hb dX11_opposed_19 rfl (lv_at hl 1 rfl) ?_
        refine lv_iload_n hx hb dX11_opposed_20 rfl (lv_at hl 2 rfl) ?_
        refine q_jn (pc2 := 61) (fun H locs ls st => ∃ v61_6_2 : Int32, ∃ v61_6_0 : Nat → Int32, ∃ v61_6_1 : Nat → Int32, (0 ≤ (v61_6_2).toInt ∧ (v61_6_2).toInt ≤ 1) ∧ st = [.int v61_6_2] ∧ qW D (va_A [(h0, .inr (11, [w0, .int p2, .int p3, .int p4, w1, .ref h1, w2, w3, w4, w5, w6, w7, .ref h6, w8, w9, w10, .int p5])), (h1, .inr (7, [.ref h2, .int p6, .int p7, .ref h5])), (h2, .inr (3, [.int p8, .int p9, .int p10, .int p11, .ref h3, w11, w11, w12, w13, w14, w15, w16])), (h3, .inr (4, [.ref h4])), (h4, .inl (cy 1, m0, .inl f0)), (h5, .inl (cy 1, 10, .inl f1)), (h6, .inr (6, [.ref h7, .ref h8])), (h7, .inl (cy 1, 11, .inl f2)), (h8, .inl (cy 1, 64, .inl f3))] sz) s.heap [(h3, .inr (4, [.ref h4])), (h4, .inl (cy 1, m0, .inl f0)), (h5, .inl (cy 1, 10, .inl f1)), (h6, .inr (6, [.ref h7, .ref h8])), (h7, .inl (cy 1, 11, .inl v61_6_0)), (h8, .inl (cy 1, 64, .inl v61_6_1)), (h0, .inr (11, [w0, .int p2, .int p3, .int p4, w1, .ref h1, w2, w3, w4, w5, w6, w7, .ref h6, w8, w9, w10, .int p5])), (h1, .inr (7, [.ref h2, .int p6, .int p7, .ref h5])), (h2, .inr (3, [.int p8, .int p9, .int p10, .int p11, .ref h3, w11, w11, w12, w13, w14, w15, w16]))] H locs ∧ lv_has ls 3 [(0, .ref h0), (1, .int p0), (2, .int p1)]) (fun H locs ls st hP => ?_) (fun J_61 => ?_)
        · obtain ⟨v61_6_2, v61_6_0, v61_6_1, hv61_6_2, rfl, h, hl⟩ := hP
          exact q_iret X hr hlk hK h rfl (fun _ => 0, fun k => List.getD [v61_6_0, v61_6_1] k (fun _ => 0), fun _ _ => 0) ⟨(bw hv61_6_2 (by decide) (by decide)), trivial⟩ [6, 7, 8, 0, 1, 2, 3, 4, 5] rfl rfl dX11_opposed_61 (Nat.le_of_ble_eq_true rfl) (Nat.le_of_ble_eq_true rfl)
        · skip
          refine q_jn (pc2 := 60) (fun H locs ls st => ∃ v60_7_0 : Nat → Int32, ∃ v60_7_1 : Nat → Int32, st = [] ∧ qW D (va_A [(h0, .inr (11, [w0, .int p2, .int p3, .int p4, w1, .ref h1, w2, w3, w4, w5, w6, w7, .ref h6, w8, w9, w10, .int p5])), (h1, .inr (7, [.ref h2, .int p6, .int p7, .ref h5])), (h2, .inr (3, [.int p8, .int p9, .int p10, .int p11, .ref h3, w11, w11, w12, w13, w14, w15, w16])), (h3, .inr (4, [.ref h4])), (h4, .inl (cy 1, m0, .inl f0)), (h5, .inl (cy 1, 10, .inl f1)), (h6, .inr (6, [.ref h7, .ref h8])), (h7, .inl (cy 1, 11, .inl f2)), (h8, .inl (cy 1, 64, .inl f3))] sz) s.heap [(h3, .inr (4, [.ref h4])), (h4, .inl (cy 1, m0, .inl f0)), (h5, .inl (cy 1, 10, .inl f1)), (h6, .inr (6, [.ref h7, .ref h8])), (h7, .inl (cy 1, 11, .inl v60_7_0)), (h8, .inl (cy 1, 64, .inl v60_7_1)), (h0, .inr (11, [w0, .int p2, .int p3, .int p4, w1, .ref h1, w2, w3, w4, w5, w6, w7, .ref h6, w8, w9, w10, .int p5])), (h1, .inr (7, [.ref h2, .int p6, .int p7, .ref h5])), (h2, .inr (3, [.int p8, .int p9, .int p10, .int p11, .ref h3, w11, w11, w12, w13, w14, w15, w16]))] H locs ∧ lv_has ls 3 [(0, .ref h0), (1, .int p0), (2, .int p1)]) (fun H locs ls st hP => ?_) (fun J_60 => ?_)
          · obtain ⟨v60_7_0, v60_7_1, rfl, h, hl⟩ := hP
            refine lv_iconst (v := 0) hx hb dX11_opposed_60 (by decide) ?_
            exact J_61 _ _ _ _ ⟨0, v60_7_0, v60_7_1, ⟨by decide +kernel, by decide +kernel⟩, rfl, h, (lv_sub hl [0, 1, 2] rfl)⟩
          · skip
            refine lv_icmp_eq (tgt := 60) hx hb dX11_opposed_21 (by decide) (fun c_8 => ?_) (fun c_8 => ?_)
            · replace c_8 := i_eq (x := p0) (y := p1) rfl rfl c_8
              exact J_60 _ _ _ _ ⟨f2, f3, rfl, h_4, (lv_sub hl [0, 1, 2] rfl)⟩
            · replace c_8 := i_ne (x := p0) (y := p1) rfl rfl c_8
              refine lv_aload_n hx hb dX11_opposed_24 rfl (lv_at hl 0 rfl) ?_
              refine q_get X hK h_4 6 rfl rfl wf_11 12 (by decide) rfl wm_2_110 dX11_opposed_25 ?_
              refine lv_aload_n hx hb dX11_opposed_28 rfl (lv_at hl 0 rfl) ?_
              refine q_get X hK h_4 6 rfl rfl wf_11 5 (by decide) rfl wm_2_103 dX11_opposed_29 ?_
              refine lv_iload_n hx hb dX11_opposed_32 rfl (lv_at hl 1 rfl) ?_
              refine lv_aload_n hx hb dX11_opposed_33 rfl (lv_at hl 0 rfl) ?_
              refine q_get X hK h_4 6 rfl rfl wf_11 5 (by decide) rfl wm_2_103 dX11_opposed_34 ?_
              refine q_get X hK h_4 7 rfl rfl wf_7 3 (by decide) rfl wm_2_54 dX11_opposed_37 ?_
              refine lv_iload_n hx hb dX11_opposed_40 rfl (lv_at hl 1 rfl) ?_
              refine q_iald X hK h_4 2 rfl (i_in rfl (by omega) (by omega)) dX11_opposed_41 ?_
              obtain ⟨z_9, ez_9, hz_9⟩ := rg_get rf1 (x := p0) rfl (by omega) (by omega)
              refine q_c z_9 ez_9 ?_
              clear ez_9
              refine lv_iload_n hx hb dX11_opposed_42 rfl (lv_at hl 2 rfl) ?_
              refine lv_aload_n hx hb dX11_opposed_43 rfl (lv_at hl 0 rfl) ?_
              refine q_get X hK h_4 6 rfl rfl wf_11 5 (by decide) rfl wm_2_103 dX11_opposed_44 ?_
              refine q_get X hK h_4 7 rfl rfl wf_7 1 (by decide) rfl wm_2_47 dX11_opposed_47 ?_
              refine q_callVi (rest := []) (wr := [(h0, .inr (11, [w0, .int p2, .int p3, .int p4, w1, .ref h1, w2, w3, w4, w5, w6, w7, .ref h6, w8, w9, w10, .int p5]))]) X hK hT hA h_4 (fun sz => gX6_areOpposites_74387cf l D cy h6 h7 h8 h1 h2 h3 h4 h5 p0 z_9 p1 p6 f2 f3 p7 p8 p9 p10 p11 w11 w12 w13 w14 w15 w16 m0 f0 f1 ⟨by omega, by omega⟩ ⟨by omega, by omega⟩ ⟨by omega, by omega⟩ (i_rng _) (i_rng _) hp8 hp9 (i_rng _) (i_rng _) (by omega) (rg_wide rf1 (by decide) (by decide)) sz) wm_3_196 wm_3_199 wm_1_5 hd_X6_areOpposites wm_3_197 wm_3_198 (ci := 6) (q0 := 0) rfl rfl ⟨Nat.le_of_ble_eq_true rfl, Nat.le_of_ble_eq_true rfl⟩ hl.1 rfl (Nat.le_of_ble_eq_true rfl) dX11_opposed_50 ⟨Nat.le_of_ble_eq_true rfl, Nat.le_of_ble_eq_true rfl⟩ [3, 4, 5, 7, 8, 0, 1, 2] [6] rfl rfl (by decide) rfl rfl (fun r_10 u_10 H locs w_10 h_10 => ?_)
              clear h_4
              obtain ⟨wr_10, _⟩ := w_10
              replace h_10 : qW D _ _ [(h0, .inr (11, [w0, .int p2, .int p3, .int p4, w1, .ref h1, w2, w3, w4, w5, w6, w7, .ref h6, w8, w9, w10, .int p5])), (h6, .inr (6, [.ref h7, .ref h8])), (h7, .inl (cy 1, 11, .inl (u_10.2.1 0))), (h8, .inl (cy 1, 64, .inl (u_10.2.1 1))), (h1, .inr (7, [.ref h2, .int p6, .int p7, .ref h5])), (h2, .inr (3, [.int p8, .int p9, .int p10, .int p11, .ref h3, w11, w11, w12, w13, w14, w15, w16])), (h3, .inr (4, [.ref h4])), (h4, .inl (cy 1, m0, .inl f0)), (h5, .inl (cy 1, 10, .inl f1))] _ _ := h_10
              refine lv_if_eq (tgt := 60) hx hb dX11_opposed_53 (by decide) (fun c_11 => ?_) (fun c_11 => ?_)
              · replace c_11 := i_eq (x := r_10) (y := 0) rfl (show (0 : Int32).toInt = 0 by decide) c_11
                exact J_60 _ _ _ _ ⟨(u_10.2.1 0), (u_10.2.1 1), rfl, (q_re h_10 [6, 7, 8, 1, 2, 3, 0, 4, 5] rfl rfl), (lv_sub hl [0, 1, 2] rfl)⟩
              · replace c_11 := i_ne (x := r_10) (y := 0) rfl (show (0 : Int32).toInt = 0 by decide) c_11
                refine lv_iconst (v := 1) hx hb dX11_opposed_56 (by decide) ?_
                refine lv_goto (tgt := 61) hx hb dX11_opposed_57 (by decide) ?_
                exact J_61 _ _ _ _ ⟨1, (u_10.2.1 0), (u_10.2.1 1), ⟨by decide +kernel, by decide +kernel⟩, rfl, (q_re h_10 [6, 7, 8, 1, 2, 3, 0, 4, 5] rfl rfl), (lv_sub hl [0, 1, 2] rfl)⟩
      · replace c_5 := i_eq (x := r_4) (y := 0) rfl (show (0 : Int32).toInt = 0 by decide) c_5
        exact J_16 _ _ _ _ ⟨rfl, h_4, (lv_sub hl [0, 1, 2] rfl)⟩
set_option maxHeartbeats 4000000 in
set_option maxRecDepth 100000 in
theorem gX6_rowOf_8f8c3b7 (l : Launch) (D : va_G) (cy : Nat → ClassId) (h0 : Nat) (h1 : Nat) (h2 : Nat) (h3 : Nat) (p0 : Int32) (p1 : Int32) (p2 : Int32) (w0 : Value) (w1 : Value) (p3 : Int32) (p4 : Int32) (p5 : Int32) (p6 : Int32) (p7 : Int32) (w2 : Value) (w3 : Value) (w4 : Value) (w5 : Value) (w6 : Value) (w7 : Value) (f0 : Nat → Int32) (hp0 : 0 ≤ (p0).toInt ∧ (p0).toInt ≤ 9) (hp1 : 0 ≤ (p1).toInt ∧ (p1).toInt ≤ 999) (hp2 : (-2147483648) ≤ (p2).toInt ∧ (p2).toInt ≤ 2147483647) (hp3 : (-2147483648) ≤ (p3).toInt ∧ (p3).toInt ≤ 2147483647) (hp4 : 1 ≤ (p4).toInt ∧ (p4).toInt ≤ 3) (hp5 : 0 ≤ (p5).toInt ∧ (p5).toInt ≤ 10) (hp6 : (-2147483648) ≤ (p6).toInt ∧ (p6).toInt ≤ 2147483647) (hp7 : (-2147483648) ≤ (p7).toInt ∧ (p7).toInt ≤ 2147483647) (rf0 : RG f0 10 0 999) (sz : Nat) : MI l yX6_rowOf cX6_rowOf 7 .int { frames := 1, cells := 0, slots := 0, locals := 27 } [.ref h0, .ref h1, .int p0, .int p1, .int p2] D cy [(h0, .inr (6, [w0, w1])), (h1, .inr (7, [.ref h2, .int p2, .int p3, .ref h3])), (h2, .inr (3, [.int p4, .int p5, .int p6, .int p7, .null, w2, w2, w3, w4, w5, w6, w7])), (h3, .inl (cy 1, 10, .inl f0))] sz (fun r u => (0 ≤ r.toInt ∧ r.toInt ≤ 1023) ∧ True) (fun u => [(h0, .inr (6, [w0, w1])), (h1, .inr (7, [.ref h2, .int p2, .int p3, .ref h3])), (h2, .inr (3, [.int p4, .int p5, .int p6, .int p7, .null, w2, w2, w3, w4, w5, w6, w7])), (h3, .inl (cy 1, 10, .inl f0))]) 0 0 := by
  refine q_ent (own := RX6) (by decide) rfl (Nat.le_of_ble_eq_true rfl) (fun p e s m below meth c ls X hr hlk hnm hK hT h hA hl => ?_)
  obtain ⟨hx, hb, hml, hown, ht⟩ := id X
  replace hl : lv_has ls 7 [(0, .ref h0), (1, .ref h1), (2, .int p0), (3, .int p1), (4, .int p2)] := hl
  refine lv_iconst (v := 0) hx hb dX6_rowOf_0 (by decide) ?_
  refine lv_istore (lv' := [(5, .int 0), (0, .ref h0), (1, .ref h1), (2, .int p0), (3, .int p1), (4, .int p2)]) hx hb dX6_rowOf_1 hl (by decide) rfl (fun ls_1 hl_1 => ?_)
  clear hl
  refine lv_iconst (v := 0) hx hb dX6_rowOf_3 (by decide) ?_
  refine lv_istore (lv' := [(6, .int 0), (5, .int 0), (0, .ref h0), (1, .ref h1), (2, .int p0), (3, .int p1), (4, .int p2)]) hx hb dX6_rowOf_4 hl_1 (by decide) rfl (fun ls_2 hl_2 => ?_)
  clear hl_1
  refine q_wl (fun (q : Int32 × Int32) H locs ls => match q with | (v6_3_0, v6_3_1) => (0 ≤ (v6_3_0).toInt ∧ (v6_3_0).toInt ≤ 10) ∧ (0 ≤ (v6_3_1).toInt ∧ (v6_3_1).toInt ≤ 1023) ∧ qW D (va_A [(h0, .inr (6, [w0, w1])), (h1, .inr (7, [.ref h2, .int p2, .int p3, .ref h3])), (h2, .inr (3, [.int p4, .int p5, .int p6, .int p7, .null, w2, w2, w3, w4, w5, w6, w7])), (h3, .inl (cy 1, 10, .inl f0))] sz) s.heap [(h0, .inr (6, [w0, w1])), (h1, .inr (7, [.ref h2, .int p2, .int p3, .ref h3])), (h2, .inr (3, [.int p4, .int p5, .int p6, .int p7, .null, w2, w2, w3, w4, w5, w6, w7])), (h3, .inl (cy 1, 10, .inl f0))] H locs ∧ lv_has ls 7 [(0, .ref h0), (1, .ref h1), (2, .int p0), (3, .int p1), (4, .int p2), (5, .int v6_3_1), (6, .int v6_3_0)]) (fun (q : Int32 × Int32) => match q with | (v6_3_0, v6_3_1) => (11 - (v6_3_0).toInt).toNat) (fun q_6 ih_6 H locs ls hP => ?_) (0, 0) ⟨⟨by decide +kernel, by decide +kernel⟩, ⟨by decide +kernel, by decide +kernel⟩, h, (lv_sub hl_2 [2, 3, 4, 5, 6, 1, 0] rfl)⟩
  obtain ⟨v6_3_0, v6_3_1⟩ := q_6
  obtain ⟨hv6_3_0, hv6_3_1, h, hl⟩ := hP
  refine lv_iload hx hb dX6_rowOf_6 (lv_at hl 6 rfl) ?_
  refine lv_aload_n hx hb dX6_rowOf_8 rfl (lv_at hl 1 rfl) ?_
  refine q_get X hK h 1 rfl rfl wf_7 0 (by decide) rfl wm_2_41 dX6_rowOf_9 ?_
  refine q_get X hK h 2 rfl rfl wf_3 1 (by decide) rfl wm_1_84 dX6_rowOf_12 ?_
  refine lv_icmp_ge (tgt := 53) hx hb dX6_rowOf_15 (by decide) (fun c_4 => ?_) (fun c_4 => ?_)
  · replace c_4 := i_le (x := p5) (y := v6_3_0) rfl rfl c_4
    refine lv_iload hx hb dX6_rowOf_53 (lv_at hl 5 rfl) ?_
    exact q_iret X hr hlk hK h rfl (fun _ => 0, fun _ _ => 0, fun _ _ => 0) ⟨hv6_3_1, trivial⟩ [0, 1, 2, 3] rfl rfl dX6_rowOf_55 (Nat.le_of_ble_eq_true rfl) (Nat.le_of_ble_eq_true rfl)
  · replace c_4 := i_nle (x := p5) (y := v6_3_0) rfl rfl c_4
    refine lv_iload hx hb dX6_rowOf_18 (lv_at hl 6 rfl) ?_
    refine lv_iload_n hx hb dX6_rowOf_20 rfl (lv_at hl 2 rfl) ?_
    refine q_jn (pc2 := 47) (fun H locs ls st => ∃ v47_5_0 : Int32, (0 ≤ (v47_5_0).toInt ∧ (v47_5_0).toInt ≤ 1023) ∧ st = [] ∧ qW D (va_A [(h0, .inr (6, [w0, w1])), (h1, .inr (7, [.ref h2, .int p2, .int p3, .ref h3])), (h2, .inr (3, [.int p4, .int p5, .int p6, .int p7, .null, w2, w2, w3, w4, w5, w6, w7])), (h3, .inl (cy 1, 10, .inl f0))] sz) s.heap [(h0, .inr (6, [w0, w1])), (h1, .inr (7, [.ref h2, .int p2, .int p3, .ref h3])), (h2, .inr (3, [.int p4, .int p5, .int p6, .int p7, .null, w2, w2, w3, w4, w5, w6, w7])), (h3, .inl (cy 1, 10, .inl f0))] H locs ∧ lv_has ls 7 [(0, .ref h0), (1, .ref h1), (2, .int p0), (3, .int p1), (4, .int p2), (5, .int v47_5_0), (6, .int v6_3_0)]) (fun H locs ls st hP => ?_) (fun J_47 => ?_)
    · obtain ⟨v47_5_0, hv47_5_0, rfl, h, hl⟩ := hP
      obtain ⟨z_6, ez_6, hz_6⟩ := e_add (x := v6_3_0) (y := Int32.ofInt 1) rfl (b := 1) (by decide) (by omega) (by omega)
      refine lv_iinc (v := z_6) (lv' := [(6, .int z_6), (0, .ref h0), (1, .ref h1), (2, .int p0), (3, .int p1), (4, .int p2), (5, .int v47_5_0)]) hx hb dX6_rowOf_47 hl (k := 6) rfl ez_6 (by decide) rfl (fun ls_6 hl_6 => ?_)
      clear hl
      refine lv_goto (tgt := 6) hx hb dX6_rowOf_50 (by decide) ?_
      exact ih_6 (z_6, v47_5_0) (by show (11 - (z_6).toInt).toNat < (11 - (v6_3_0).toInt).toNat; omega) _ _ _ ⟨⟨by omega, by omega⟩, hv47_5_0, h, (lv_sub hl_6 [1, 2, 3, 4, 5, 6, 0] rfl)⟩
    · skip
      refine lv_icmp_eq (tgt := 47) hx hb dX6_rowOf_21 (by decide) (fun c_7 => ?_) (fun c_7 => ?_)
      · replace c_7 := i_eq (x := v6_3_0) (y := p0) rfl rfl c_7
        exact J_47 _ _ _ _ ⟨v6_3_1, hv6_3_1, rfl, h, (lv_sub hl [0, 1, 2, 3, 4, 5, 6] rfl)⟩
      · replace c_7 := i_ne (x := v6_3_0) (y := p0) rfl rfl c_7
        refine lv_aload_n hx hb dX6_rowOf_24 rfl (lv_at hl 0 rfl) ?_
        refine lv_aload_n hx hb dX6_rowOf_25 rfl (lv_at hl 1 rfl) ?_
        refine lv_iload_n hx hb dX6_rowOf_26 rfl (lv_at hl 2 rfl) ?_
        refine lv_iload_n hx hb dX6_rowOf_27 rfl (lv_at hl 3 rfl) ?_
        refine lv_iload hx hb dX6_rowOf_28 (lv_at hl 6 rfl) ?_
        refine lv_iload hx hb dX6_rowOf_30 (lv_at hl 4 rfl) ?_
        refine q_callVi (rest := []) (wr := []) X hK hT hA h (fun sz => gX6_areOpposites_54bab82 l D cy h0 h1 h2 h3 p0 p1 v6_3_0 p2 w0 w1 p3 p4 p5 p6 p7 w2 w3 w4 w5 w6 w7 f0 hp0 hp1 ⟨by omega, by omega⟩ (i_rng _) (i_rng _) hp4 hp5 (i_rng _) (i_rng _) (rg_wide rf0 (by decide) (by decide)) sz) wm_3_231 wm_3_199 wm_1_5 hd_X6_areOpposites wm_3_197 wm_3_198 (ci := 6) (q0 := 0) rfl rfl ⟨Nat.le_of_ble_eq_true rfl, Nat.le_of_ble_eq_true rfl⟩ hl.1 rfl (Nat.le_of_ble_eq_true rfl) dX6_rowOf_32 ⟨Nat.le_of_ble_eq_true rfl, Nat.le_of_ble_eq_true rfl⟩ [0, 1, 2, 3] [] rfl rfl (by decide) rfl rfl (fun r_8 u_8 H locs w_8 h_8 => ?_)
        clear h
        obtain ⟨wr_8, _⟩ := w_8
        replace h_8 : qW D _ _ [(h0, .inr (6, [w0, w1])), (h1, .inr (7, [.ref h2, .int p2, .int p3, .ref h3])), (h2, .inr (3, [.int p4, .int p5, .int p6, .int p7, .null, w2, w2, w3, w4, w5, w6, w7])), (h3, .inl (cy 1, 10, .inl f0))] _ _ := h_8
        refine lv_if_eq (tgt := 47) hx hb dX6_rowOf_35 (by decide) (fun c_9 => ?_) (fun c_9 => ?_)
        · replace c_9 := i_eq (x := r_8) (y := 0) rfl (show (0 : Int32).toInt = 0 by decide) c_9
          exact J_47 _ _ _ _ ⟨v6_3_1, hv6_3_1, rfl, h_8, (lv_sub hl [0, 1, 2, 3, 4, 5, 6] rfl)⟩
        · replace c_9 := i_ne (x := r_8) (y := 0) rfl (show (0 : Int32).toInt = 0 by decide) c_9
          refine lv_iload hx hb dX6_rowOf_38 (lv_at hl 5 rfl) ?_
          refine lv_iconst (v := 1) hx hb dX6_rowOf_40 (by decide) ?_
          refine lv_iload hx hb dX6_rowOf_41 (lv_at hl 6 rfl) ?_
          refine lv_ishl hx hb dX6_rowOf_43 ?_
          obtain ⟨z_10, ez_10, hz_10⟩ := e_shlk (p := v6_3_0) 9 (by decide) rfl (by omega) (by omega)
          refine q_c z_10 ez_10 ?_
          clear ez_10
          refine lv_ior hx hb dX6_rowOf_44 ?_
          obtain ⟨z_11, ez_11, hz_11⟩ := e_or (x := v6_3_1) (y := z_10) 10 (by decide) rfl rfl (by omega) (by omega) (by omega) (by omega)
          refine q_c z_11 ez_11 ?_
          clear ez_11
          refine lv_istore (lv' := [(5, .int z_11), (0, .ref h0), (1, .ref h1), (2, .int p0), (3, .int p1), (4, .int p2), (6, .int v6_3_0)]) hx hb dX6_rowOf_45 hl (by decide) rfl (fun ls_12 hl_12 => ?_)
          clear hl
          exact J_47 _ _ _ _ ⟨z_11, ⟨by omega, by omega⟩, rfl, h_8, (lv_sub hl_12 [1, 2, 3, 4, 5, 0, 6] rfl)⟩
set_option maxHeartbeats 4000000 in
set_option maxRecDepth 100000 in
theorem gX11_opposites_bee1add (l : Launch) (D : va_G) (cy : Nat → ClassId) (h0 : Nat) (h1 : Nat) (h2 : Nat) (h3 : Nat) (h4 : Nat) (p0 : Int32) (w0 : Value) (p1 : Int32) (p2 : Int32) (p3 : Int32) (w1 : Value) (w2 : Value) (w3 : Value) (w4 : Value) (w5 : Value) (w6 : Value) (w7 : Value) (w8 : Value) (w9 : Value) (w10 : Value) (p4 : Int32) (p5 : Int32) (p6 : Int32) (p7 : Int32) (p8 : Int32) (p9 : Int32) (p10 : Int32) (w11 : Value) (w12 : Value) (w13 : Value) (w14 : Value) (w15 : Value) (w16 : Value) (f0 : Nat → Int32) (w17 : Value) (w18 : Value) (hp0 : (-2147483648) ≤ (p0).toInt ∧ (p0).toInt ≤ 2147483647) (hp1 : 0 ≤ (p1).toInt ∧ (p1).toInt ≤ 900) (hp2 : (-2147483648) ≤ (p2).toInt ∧ (p2).toInt ≤ 2147483647) (hp3 : (-2147483648) ≤ (p3).toInt ∧ (p3).toInt ≤ 2147483647) (hp4 : (-2147483648) ≤ (p4).toInt ∧ (p4).toInt ≤ 2147483647) (hp5 : (-2147483648) ≤ (p5).toInt ∧ (p5).toInt ≤ 2147483647) (hp6 : (-2147483648) ≤ (p6).toInt ∧ (p6).toInt ≤ 2147483647) (hp7 : 1 ≤ (p7).toInt ∧ (p7).toInt ≤ 3) (hp8 : 0 ≤ (p8).toInt ∧ (p8).toInt ≤ 10) (hp9 : (-2147483648) ≤ (p9).toInt ∧ (p9).toInt ≤ 2147483647) (hp10 : (-2147483648) ≤ (p10).toInt ∧ (p10).toInt ≤ 2147483647) (rf0 : RG f0 10 0 999) (sz : Nat) : MI l yX11_opposites cX11_opposites 2 .int { frames := 2, cells := 0, slots := 0, locals := 53 } [.ref h0, .int p0] D cy [(h0, .inr (11, [w0, .int p1, .int p2, .int p3, w1, .ref h1, w2, w3, w4, w5, w6, w7, .ref h4, w8, w9, w10, .int p4])), (h1, .inr (7, [.ref h2, .int p5, .int p6, .ref h3])), (h2, .inr (3, [.int p7, .int p8, .int p9, .int p10, .null, w11, w11, w12, w13, w14, w15, w16])), (h3, .inl (cy 1, 10, .inl f0)), (h4, .inr (6, [w17, w18]))] sz (fun r u => ((-2) ≤ r.toInt ∧ r.toInt ≤ 1023) ∧ True) (fun u => [(h0, .inr (11, [w0, .int p1, .int p2, .int p3, w1, .ref h1, w2, w3, w4, w5, w6, w7, .ref h4, w8, w9, w10, .int p4])), (h1, .inr (7, [.ref h2, .int p5, .int p6, .ref h3])), (h2, .inr (3, [.int p7, .int p8, .int p9, .int p10, .null, w11, w11, w12, w13, w14, w15, w16])), (h3, .inl (cy 1, 10, .inl f0)), (h4, .inr (6, [w17, w18]))]) 0 0 := by
  refine q_ent (own := RX11) (by decide) rfl (Nat.le_of_ble_eq_true rfl) (fun p e s m below meth c ls X hr hlk hnm hK hT h hA hl => ?_)
  obtain ⟨hx, hb, hml, hown, ht⟩ := id X
  replace hl : lv_has ls 2 [(0, .ref h0), (1, .int p0)] := hl
  refine lv_aload_n hx hb dX11_opposites_0 rfl (lv_at hl 0 rfl) ?_
  refine lv_iload_n hx hb dX11_opposites_1 rfl (lv_at hl 1 rfl) ?_
  refine q_callVi (rest := []) (wr := [(h3, .inl (cy 1, 10, .inl f0)), (h4, .inr (6, [w17, w18]))]) X hK hT hA h (fun sz => gX11_isPerson_c6d5f45 l D cy h0 h1 h2 p0 w0 p1 p2 p3 w1 w2 w3 w4 w5 w6 w7 (.ref h4) w8 w9 w10 p4 p5 p6 (.ref h3) p7 p8 p9 p10 Value.null w11 w12 w13 w14 w15 w16 (i_rng _) hp1 (i_rng _) (i_rng _) (i_rng _) (i_rng _) (i_rng _) hp7 hp8 (i_rng _) (i_rng _) sz) wm_3_174 wm_3_177 wm_1_1 hd_X11_isPerson wm_3_176 wp_2_8 (ci := 11) (q0 := 0) rfl rfl ⟨Nat.le_of_ble_eq_true rfl, Nat.le_of_ble_eq_true rfl⟩ hl.1 rfl (Nat.le_of_ble_eq_true rfl) dX11_opposites_2 ⟨Nat.le_of_ble_eq_true rfl, Nat.le_of_ble_eq_true rfl⟩ [0, 1, 2] [3, 4] rfl rfl (by decide) rfl rfl (fun r_1 u_1 H locs w_1 h_1 => ?_)
  clear h
  obtain ⟨wr_1, y1_0, _⟩ := w_1
  replace h_1 : qW D _ _ [(h3, .inl (cy 1, 10, .inl f0)), (h4, .inr (6, [w17, w18])), (h0, .inr (11, [w0, .int p1, .int p2, .int p3, w1, .ref h1, w2, w3, w4, w5, w6, w7, .ref h4, w8, w9, w10, .int p4])), (h1, .inr (7, [.ref h2, .int p5, .int p6, .ref h3])), (h2, .inr (3, [.int p7, .int p8, .int p9, .int p10, .null, w11, w11, w12, w13, w14, w15, w16]))] _ _ := h_1
  refine lv_if_ne (tgt := 11) hx hb dX11_opposites_5 (by decide) (fun c_2 => ?_) (fun c_2 => ?_)
  · replace c_2 := i_ne (x := r_1) (y := 0) rfl (show (0 : Int32).toInt = 0 by decide) c_2
    refine lv_aload_n hx hb dX11_opposites_11 rfl (lv_at hl 0 rfl) ?_
    refine q_get X hK h_1 2 rfl rfl wf_11 12 (by decide) rfl wm_2_110 dX11_opposites_12 ?_
    refine lv_aload_n hx hb dX11_opposites_15 rfl (lv_at hl 0 rfl) ?_
    refine q_get X hK h_1 2 rfl rfl wf_11 5 (by decide) rfl wm_2_103 dX11_opposites_16 ?_
    refine lv_iload_n hx hb dX11_opposites_19 rfl (lv_at hl 1 rfl) ?_
    refine lv_aload_n hx hb dX11_opposites_20 rfl (lv_at hl 0 rfl) ?_
    refine q_get X hK h_1 2 rfl rfl wf_11 5 (by decide) rfl wm_2_103 dX11_opposites_21 ?_
    refine q_get X hK h_1 3 rfl rfl wf_7 3 (by decide) rfl wm_2_54 dX11_opposites_24 ?_
    refine lv_iload_n hx hb dX11_opposites_27 rfl (lv_at hl 1 rfl) ?_
    refine q_iald X hK h_1 0 rfl (i_in rfl (by omega) (by omega)) dX11_opposites_28 ?_
    obtain ⟨z_3, ez_3, hz_3⟩ := rg_get rf0 (x := p0) rfl (by omega) (by omega)
    refine q_c z_3 ez_3 ?_
    clear ez_3
    refine lv_aload_n hx hb dX11_opposites_29 rfl (lv_at hl 0 rfl) ?_
    refine q_get X hK h_1 2 rfl rfl wf_11 5 (by decide) rfl wm_2_103 dX11_opposites_30 ?_
    refine q_get X hK h_1 3 rfl rfl wf_7 1 (by decide) rfl wm_2_47 dX11_opposites_33 ?_
    refine q_callVi (rest := []) (wr := [(h0, .inr (11, [w0, .int p1, .int p2, .int p3, w1, .ref h1, w2, w3, w4, w5, w6, w7, .ref h4, w8, w9, w10, .int p4]))]) X hK hT hA h_1 (fun sz => gX6_rowOf_8f8c3b7 l D cy h4 h1 h2 h3 p0 z_3 p5 w17 w18 p6 p7 p8 p9 p10 w11 w12 w13 w14 w15 w16 f0 ⟨by omega, by omega⟩ ⟨by omega, by omega⟩ (i_rng _) (i_rng _) hp7 hp8 (i_rng _) (i_rng _) (rg_wide rf0 (by decide) (by decide)) sz) wm_3_227 wm_3_230 wm_1_5 hd_X6_rowOf wm_3_228 wm_3_229 (ci := 6) (q0 := 0) rfl rfl ⟨Nat.le_of_ble_eq_true rfl, Nat.le_of_ble_eq_true rfl⟩ hl.1 rfl (Nat.le_of_ble_eq_true rfl) dX11_opposites_36 ⟨Nat.le_of_ble_eq_true rfl, Nat.le_of_ble_eq_true rfl⟩ [1, 3, 4, 0] [2] rfl rfl (by decide) rfl rfl (fun r_4 u_4 H locs w_4 h_4 => ?_)
    clear h_1
    obtain ⟨wr_4, _⟩ := w_4
    replace h_4 : qW D _ _ [(h0, .inr (11, [w0, .int p1, .int p2, .int p3, w1, .ref h1, w2, w3, w4, w5, w6, w7, .ref h4, w8, w9, w10, .int p4])), (h4, .inr (6, [w17, w18])), (h1, .inr (7, [.ref h2, .int p5, .int p6, .ref h3])), (h2, .inr (3, [.int p7, .int p8, .int p9, .int p10, .null, w11, w11, w12, w13, w14, w15, w16])), (h3, .inl (cy 1, 10, .inl f0))] _ _ := h_4
    exact q_iret X hr hlk hK h_4 rfl (fun _ => 0, fun _ _ => 0, fun _ _ => 0) ⟨(bw wr_4 (by decide) (by decide)), trivial⟩ [0, 2, 3, 4, 1] rfl rfl dX11_opposites_39 (Nat.le_of_ble_eq_true rfl) (Nat.le_of_ble_eq_true rfl)
  · replace c_2 := i_eq (x := r_1) (y := 0) rfl (show (0 : Int32).toInt = 0 by decide) c_2
    refine lv_bipush (v := (-2)) hx hb dX11_opposites_8 (by decide) ?_
    exact q_iret X hr hlk hK h_1 rfl (fun _ => 0, fun _ _ => 0, fun _ _ => 0) ⟨⟨by decide +kernel, by decide +kernel⟩, trivial⟩ [2, 3, 4, 0, 1] rfl rfl dX11_opposites_10 (Nat.le_of_ble_eq_true rfl) (Nat.le_of_ble_eq_true rfl)
set_option maxHeartbeats 4000000 in
set_option maxRecDepth 100000 in
theorem gX6_rowOf_5102544 (l : Launch) (D : va_G) (cy : Nat → ClassId) (h0 : Nat) (h1 : Nat) (h2 : Nat) (h3 : Nat) (h4 : Nat) (h5 : Nat) (h6 : Nat) (h7 : Nat) (p0 : Int32) (p1 : Int32) (p2 : Int32) (f0 : Nat → Int32) (f1 : Nat → Int32) (p3 : Int32) (p4 : Int32) (p5 : Int32) (p6 : Int32) (p7 : Int32) (w0 : Value) (w1 : Value) (w2 : Value) (w3 : Value) (w4 : Value) (w5 : Value) (m0 : Nat) (f2 : Nat → Int32) (f3 : Nat → Int32) (hp0 : 0 ≤ (p0).toInt ∧ (p0).toInt ≤ 9) (hp1 : 0 ≤ (p1).toInt ∧ (p1).toInt ≤ 999) (hp2 : (-2147483648) ≤ (p2).toInt ∧ (p2).toInt ≤ 2147483647) (hp3 : (-2147483648) ≤ (p3).toInt ∧ (p3).toInt ≤ 2147483647) (hp4 : 1 ≤ (p4).toInt ∧ (p4).toInt ≤ 3) (hp5 : 0 ≤ (p5).toInt ∧ (p5).toInt ≤ 10) (hp6 : (-2147483648) ≤ (p6).toInt ∧ (p6).toInt ≤ 2147483647) (hp7 : (-2147483648) ≤ (p7).toInt ∧ (p7).toInt ≤ 2147483647) (hm0 : m0 ≤ 900) (rf3 : RG f3 10 0 999) (sz : Nat) : MI l yX6_rowOf cX6_rowOf 7 .int { frames := 5, cells := 0, slots := 0, locals := 119 } [.ref h0, .ref h3, .int p0, .int p1, .int p2] D cy [(h0, .inr (6, [.ref h1, .ref h2])), (h1, .inl (cy 1, 11, .inl f0)), (h2, .inl (cy 1, 64, .inl f1)), (h3, .inr (7, [.ref h4, .int p2, .int p3, .ref h7])), (h4, .inr (3, [.int p4, .int p5, .int p6, .int p7, .ref h5, w0, w0, w1, w2, w3, w4, w5])), (h5, .inr (4, [.ref h6])), (h6, .inl (cy 1, m0, .inl f2)), (h7, .inl (cy 1, 10, .inl f3))] sz (fun r u => (0 ≤ r.toInt ∧ r.toInt ≤ 1023) ∧ True) (fun u => [(h0, .inr (6, [.ref h1, .ref h2])), (h1, .inl (cy 1, 11, .inl (u.2.1 0))), (h2, .inl (cy 1, 64, .inl (u.2.1 1))), (h3, .inr (7, [.ref h4, .int p2, .int p3, .ref h7])), (h4, .inr (3, [.int p4, .int p5, .int p6, .int p7, .ref h5, w0, w0, w1, w2, w3, w4, w5])), (h5, .inr (4, [.ref h6])), (h6, .inl (cy 1, m0, .inl f2)), (h7, .inl (cy 1, 10, .inl f3))]) 0 0 := by
  refine q_ent (own := RX6) (by decide) rfl (Nat.le_of_ble_eq_true rfl) (fun p e s m below meth c ls X hr hlk hnm hK hT h hA hl => ?_)
  obtain ⟨hx, hb, hml, hown, ht⟩ := id X
  replace hl : lv_has ls 7 [(0, .ref h0), (1, .ref h3), (2, .int p0), (3, .int p1), (4, .int p2)] := hl
  refine lv_iconst (v := 0) hx hb dX6_rowOf_0 (by decide) ?_
  refine lv_istore (lv' := [(5, .int 0), (0, .ref h0), (1, .ref h3), (2, .int p0), (3, .int p1), (4, .int p2)]) hx hb dX6_rowOf_1 hl (by decide) rfl (fun ls_1 hl_1 => ?_)
  clear hl
  refine lv_iconst (v := 0) hx hb dX6_rowOf_3 (by decide) ?_
  refine lv_istore (lv' := [(6, .int 0), (5, .int 0), (0, .ref h0), (1, .ref h3), (2, .int p0), (3, .int p1), (4, .int p2)]) hx hb dX6_rowOf_4 hl_1 (by decide) rfl (fun ls_2 hl_2 => ?_)
  clear hl_1
  refine q_wl (fun (q : Int32 × Int32) H locs ls => match q with | (v6_3_0, v6_3_1) => ∃ v6_3_2 : Nat → Int32, ∃ v6_3_3 : Nat → Int32, (0 ≤ (v6_3_0).toInt ∧ (v6_3_0).toInt ≤ 10) ∧ (0 ≤ (v6_3_1).toInt ∧ (v6_3_1).toInt ≤ 1023) ∧ qW D (va_A [(h0, .inr (6, [.ref h1, .ref h2])), (h1, .inl (cy 1, 11, .inl f0)), (h2, .inl (cy 1, 64, .inl f1)), (h3, .inr (7, [.ref h4, .int p2, .int p3, .ref h7])), (h4, .inr (3, [.int p4, .int p5, .int p6, .int p7, .ref h5, w0, w0, w1, w2, w3, w4, w5])), (h5, .inr (4, [.ref h6])), (h6, .inl (cy 1, m0, .inl f2)), (h7, .inl (cy 1, 10, .inl f3))] sz) s.heap [(h0, .inr (6, [.ref h1, .ref h2])), (h1, .inl (cy 1, 11, .inl v6_3_2)), (h2, .inl (cy 1, 64, .inl v6_3_3)), (h3, .inr (7, [.ref h4, .int p2, .int p3, .ref h7])), (h4, .inr (3, [.int p4, .int p5, .int p6, .int p7, .ref h5, w0, w0, w1, w2, w3, w4, w5])), (h5, .inr (4, [.ref h6])), (h6, .inl (cy 1, m0, .inl f2)), (h7, .inl (cy 1, 10, .inl f3))] H locs ∧ lv_has ls 7 [(0, .ref h0), (1, .ref h3), (2, .int p0), (3, .int p1), (4, .int p2), (5, .int v6_3_1), (6, .int v6_3_0)]) (fun (q : Int32 × Int32) => match q with | (v6_3_0, v6_3_1) => (11 - (v6_3_0).toInt).toNat) (fun q_6 ih_6 H locs ls hP => ?_) (0, 0) ⟨f0, f1, ⟨by decide +kernel, by decide +kernel⟩, ⟨by decide +kernel, by decide +kernel⟩, h, (lv_sub hl_2 [2, 3, 4, 5, 6, 1, 0] rfl)⟩
  obtain ⟨v6_3_0, v6_3_1⟩ := q_6
  obtain ⟨v6_3_2, v6_3_3, hv6_3_0, hv6_3_1, h, hl⟩ := hP
  refine lv_iload hx hb dX6_rowOf_6 (lv_at hl 6 rfl) ?_
  refine lv_aload_n hx hb dX6_rowOf_8 rfl (lv_at hl 1 rfl) ?_
  refine q_get X hK h 3 rfl rfl wf_7 0 (by decide) rfl wm_2_41 dX6_rowOf_9 ?_
  refine q_get X hK h 4 rfl rfl wf_3 1 (by decide) rfl wm_1_84 dX6_rowOf_12 ?_
  refine lv_icmp_ge (tgt := 53) hx hb dX6_rowOf_15 (by decide) (fun c_4 => ?_) (fun c_4 => ?_)
  · replace c_4 := i_le (x := p5) (y := v6_3_0) rfl rfl c_4
    refine lv_iload hx hb dX6_rowOf_53 (lv_at hl 5 rfl) ?_
    exact q_iret X hr hlk hK h rfl (fun _ => 0, fun k => List.getD [v6_3_2, v6_3_3] k (fun _ => 0), fun _ _ => 0) ⟨hv6_3_1, trivial⟩ [0, 1, 2, 3, 4, 5, 6, 7] rfl rfl dX6_rowOf_55 (Nat.le_of_ble_eq_true rfl) (Nat.le_of_ble_eq_true rfl)
  · replace c_4 := i_nle (x := p5) (y := v6_3_0) rfl rfl c_4
    refine lv_iload hx hb dX6_rowOf_18 (lv_at hl 6 rfl) ?_
    refine lv_iload_n hx hb dX6_rowOf_20 rfl (lv_at hl 2 rfl) ?_
    refine q_jn (pc2 := 47) (fun H locs ls st => ∃ v47_5_2 : Int32, ∃ v47_5_0 : Nat → Int32, ∃ v47_5_1 : Nat → Int32, (0 ≤ (v47_5_2).toInt ∧ (v47_5_2).toInt ≤ 1023) ∧ st = [] ∧ qW D (va_A [(h0, .inr (6, [.ref h1, .ref h2])), (h1, .inl (cy 1, 11, .inl f0)), (h2, .inl (cy 1, 64, .inl f1)), (h3, .inr (7, [.ref h4, .int p2, .int p3, .ref h7])), (h4, .inr (3, [.int p4, .int p5, .int p6, .int p7, .ref h5, w0, w0, w1, w2, w3, w4, w5])), (h5, .inr (4, [.ref h6])), (h6, .inl (cy 1, m0, .inl f2)), (h7, .inl (cy 1, 10, .inl f3))] sz) s.heap [(h0, .inr (6, [.ref h1, .ref h2])), (h1, .inl (cy 1, 11, .inl v47_5_0)), (h2, .inl (cy 1, 64, .inl v47_5_1)), (h3, .inr (7, [.ref h4, .int p2, .int p3, .ref h7])), (h4, .inr (3, [.int p4, .int p5, .int p6, .int p7, .ref h5, w0, w0, w1, w2, w3, w4, w5])), (h5, .inr (4, [.ref h6])), (h6, .inl (cy 1, m0, .inl f2)), (h7, .inl (cy 1, 10, .inl f3))] H locs ∧ lv_has ls 7 [(0, .ref h0), (1, .ref h3), (2, .int p0), (3, .int p1), (4, .int p2), (5, .int v47_5_2), (6, .int v6_3_0)]) (fun H locs ls st hP => ?_) (fun J_47 => ?_)
    · obtain ⟨v47_5_2, v47_5_0, v47_5_1, hv47_5_2, rfl, h, hl⟩ := hP
      obtain ⟨z_6, ez_6, hz_6⟩ := e_add (x := v6_3_0) (y := Int32.ofInt 1) rfl (b := 1) (by decide) (by omega) (by omega)
      refine lv_iinc (v := z_6) (lv' := [(6, .int z_6), (0, .ref h0), (1, .ref h3), (2, .int p0), (3, .int p1), (4, .int p2), (5, .int v47_5_2)]) hx hb dX6_rowOf_47 hl (k := 6) rfl ez_6 (by decide) rfl (fun ls_6 hl_6 => ?_)
      clear hl
      refine lv_goto (tgt := 6) hx hb dX6_rowOf_50 (by decide) ?_
      exact ih_6 (z_6, v47_5_2) (by show (11 - (z_6).toInt).toNat < (11 - (v6_3_0).toInt).toNat; omega) _ _ _ ⟨v47_5_0, v47_5_1, ⟨by omega, by omega⟩, hv47_5_2, h, (lv_sub hl_6 [1, 2, 3, 4, 5, 6, 0] rfl)⟩
    · skip
      refine lv_icmp_eq (tgt := 47) hx hb dX6_rowOf_21 (by decide) (fun c_7 => ?_) (fun c_7 => ?_)
      · replace c_7 := i_eq (x := v6_3_0) (y := p0) rfl rfl c_7
        exact J_47 _ _ _ _ ⟨v6_3_1, v6_3_2, v6_3_3, hv6_3_1, rfl, h, (lv_sub hl [0, 1, 2, 3, 4, 5, 6] rfl)⟩
      · replace c_7 := i_ne (x := v6_3_0) (y := p0) rfl rfl c_7
        refine lv_aload_n hx hb dX6_rowOf_24 rfl (lv_at hl 0 rfl) ?_
        refine lv_aload_n hx hb dX6_rowOf_25 rfl (lv_at hl 1 rfl) ?_
        refine lv_iload_n hx hb dX6_rowOf_26 rfl (lv_at hl 2 rfl) ?_
        refine lv_iload_n hx hb dX6_rowOf_27 rfl (lv_at hl 3 rfl) ?_
        refine lv_iload hx hb dX6_rowOf_28 (lv_at hl 6 rfl) ?_
        refine lv_iload hx hb dX6_rowOf_30 (lv_at hl 4 rfl) ?_
        refine q_callVi (rest := []) (wr := []) X hK hT hA h (fun sz => gX6_areOpposites_74387cf l D cy h0 h1 h2 h3 h4 h5 h6 h7 p0 p1 v6_3_0 p2 v6_3_2 v6_3_3 p3 p4 p5 p6 p7 w0 w1 w2 w3 w4 w5 m0 f2 f3 hp0 hp1 ⟨by omega, by omega⟩ (i_rng _) (i_rng _) hp4 hp5 (i_rng _) (i_rng _) (by omega) (rg_wide rf3 (by decide) (by decide)) sz) wm_3_231 wm_3_199 wm_1_5 hd_X6_areOpposites wm_3_197 wm_3_198 (ci := 6) (q0 := 0) rfl rfl ⟨Nat.le_of_ble_eq_true rfl, Nat.le_of_ble_eq_true rfl⟩ hl.1 rfl (Nat.le_of_ble_eq_true rfl) dX6_rowOf_32 ⟨Nat.le_of_ble_eq_true rfl, Nat.le_of_ble_eq_true rfl⟩ [0, 1, 2, 3, 4, 5, 6, 7] [] rfl rfl (by decide) rfl rfl (fun r_8 u_8 H locs w_8 h_8 => ?_)
        clear h
        obtain ⟨wr_8, _⟩ := w_8
        replace h_8 : qW D _ _ [(h0, .inr (6, [.ref h1, .ref h2])), (h1, .inl (cy 1, 11, .inl (u_8.2.1 0))), (h2, .inl (cy 1, 64, .inl (u_8.2.1 1))), (h3, .inr (7, [.ref h4, .int p2, .int p3, .ref h7])), (h4, .inr (3, [.int p4, .int p5, .int p6, .int p7, .ref h5, w0, w0, w1, w2, w3, w4, w5])), (h5, .inr (4, [.ref h6])), (h6, .inl (cy 1, m0, .inl f2)), (h7, .inl (cy 1, 10, .inl f3))] _ _ := h_8
        refine lv_if_eq (tgt := 47) hx hb dX6_rowOf_35 (by decide) (fun c_9 => ?_) (fun c_9 => ?_)
        · replace c_9 := i_eq (x := r_8) (y := 0) rfl (show (0 : Int32).toInt = 0 by decide) c_9
          exact J_47 _ _ _ _ ⟨v6_3_1, (u_8.2.1 0), (u_8.2.1 1), hv6_3_1, rfl, h_8, (lv_sub hl [0, 1, 2, 3, 4, 5, 6] rfl)⟩
        · replace c_9 := i_ne (x := r_8) (y := 0) rfl (show (0 : Int32).toInt = 0 by decide) c_9
          refine lv_iload hx hb dX6_rowOf_38 (lv_at hl 5 rfl) ?_
          refine lv_iconst (v := 1) hx hb dX6_rowOf_40 (by decide) ?_
          refine lv_iload hx hb dX6_rowOf_41 (lv_at hl 6 rfl) ?_
          refine lv_ishl hx hb dX6_rowOf_43 ?_
          obtain ⟨z_10, ez_10, hz_10⟩ := e_shlk (p := v6_3_0) 9 (by decide) rfl (by omega) (by omega)
          refine q_c z_10 ez_10 ?_
          clear ez_10
          refine lv_ior hx hb dX6_rowOf_44 ?_
          obtain ⟨z_11, ez_11, hz_11⟩ := e_or (x := v6_3_1) (y := z_10) 10 (by decide) rfl rfl (by omega) (by omega) (by omega) (by omega)
          refine q_c z_11 ez_11 ?_
          clear ez_11
          refine lv_istore (lv' := [(5, .int z_11), (0, .ref h0), (1, .ref h3), (2, .int p0), (3, .int p1), (4, .int p2), (6, .int v6_3_0)]) hx hb dX6_rowOf_45 hl (by decide) rfl (fun ls_12 hl_12 => ?_)
          clear hl
          exact J_47 _ _ _ _ ⟨z_11, (u_8.2.1 0), (u_8.2.1 1), ⟨by omega, by omega⟩, rfl, h_8, (lv_sub hl_12 [1, 2, 3, 4, 5, 0, 6] rfl)⟩
set_option maxHeartbeats 4000000 in
set_option maxRecDepth 100000 in
theorem gX11_opposites_c6111e6 (l : Launch) (D : va_G) (cy : Nat → ClassId) (h0 : Nat) (h1 : Nat) (h2 : Nat) (h3 : Nat) (h4 : Nat) (h5 : Nat) (h6 : Nat) (h7 : Nat) (h8 : Nat) (p0 : Int32) (w0 : Value) (p1 : Int32) (p2 : Int32) (p3 : Int32) (w1 : Value) (w2 : Value) (w3 : Value) (w4 : Value) (w5 : Value) (w6 : Value) (w7 : Value) (w8 : Value) (w9 : Value) (w10 : Value) (p4 : Int32) (p5 : Int32) (p6 : Int32) (p7 : Int32) (p8 : Int32) (p9 : Int32) (p10 : Int32) (w11 : Value) (w12 : Value) (w13 : Value) (w14 : Value) (w15 : Value) (w16 : Value) (m0 : Nat) (f0 : Nat → Int32) (f1 : Nat → Int32) (f2 : Nat → Int32) (f3 : Nat → Int32) (hp0 : (-2147483648) ≤ (p0).toInt ∧ (p0).toInt ≤ 2147483647) (hp1 : 0 ≤ (p1).toInt ∧ (p1).toInt ≤ 900) (hp2 : (-2147483648) ≤ (p2).toInt ∧ (p2).toInt ≤ 2147483647) (hp3 : (-2147483648) ≤ (p3).toInt ∧ (p3).toInt ≤ 2147483647) (hp4 : (-2147483648) ≤ (p4).toInt ∧ (p4).toInt ≤ 2147483647) (hp5 : (-2147483648) ≤ (p5).toInt ∧ (p5).toInt ≤ 2147483647) (hp6 : (-2147483648) ≤ (p6).toInt ∧ (p6).toInt ≤ 2147483647) (hp7 : 1 ≤ (p7).toInt ∧ (p7).toInt ≤ 3) (hp8 : 0 ≤ (p8).toInt ∧ (p8).toInt ≤ 10) (hp9 : (-2147483648) ≤ (p9).toInt ∧ (p9).toInt ≤ 2147483647) (hp10 : (-2147483648) ≤ (p10).toInt ∧ (p10).toInt ≤ 2147483647) (hm0 : m0 ≤ 900) (rf1 : RG f1 10 0 999) (sz : Nat) : MI l yX11_opposites cX11_opposites 2 .int { frames := 6, cells := 0, slots := 0, locals := 145 } [.ref h0, .int p0] D cy [(h0, .inr (11, [w0, .int p1, .int p2, .int p3, w1, .ref h1, w2, w3, w4, w5, w6, w7, .ref h6, w8, w9, w10, .int p4])), (h1, .inr (7, [.ref h2, .int p5, .int p6, .ref h5])), (h2, .inr (3, [.int p7, .int p8, .int p9, .int p10, .ref h3, w11, w11, w12, w13, w14, w15, w16])), (h3, .inr (4, [.ref h4])), (h4, .inl (cy 1, m0, .inl f0)), (h5, .inl (cy 1, 10, .inl f1)), (h6, .inr (6, [.ref h7, .ref h8])), (h7, .inl (cy 1, 11, .inl f2)), (h8, .inl (cy 1, 64, .inl f3))] sz (fun r u => ((-2) ≤ r.toInt ∧ r.toInt ≤ 1023) ∧ True) (fun u => [(h0, .inr (11, [w0, .int p1, .int p2, .int p3, w1, .ref h1, w2, w3, w4, w5, w6, w7, .ref h6, w8, w9, w10, .int p4])), (h1, .inr (7, [.ref h2, .int p5, .int p6, .ref h5])), (h2, .inr (3, [.int p7, .int p8, .int p9, .int p10, .ref h3, w11, w11, w12, w13, w14, w15, w16])), (h3, .inr (4, [.ref h4])), (h4, .inl (cy 1, m0, .inl f0)), (h5, .inl (cy 1, 10, .inl f1)), (h6, .inr (6, [.ref h7, .ref h8])), (h7, .inl (cy 1, 11, .inl (u.2.1 0))), (h8, .inl (cy 1, 64, .inl (u.2.1 1)))]) 0 0 := by
  refine q_ent (own := RX11) (by decide) rfl (Nat.le_of_ble_eq_true rfl) (fun p e s m below meth c ls X hr hlk hnm hK hT h hA hl => ?_)
  obtain ⟨hx, hb, hml, hown, ht⟩ := id X
  replace hl : lv_has ls 2 [(0, .ref h0), (1, .int p0)] := hl
  refine lv_aload_n hx hb dX11_opposites_0 rfl (lv_at hl 0 rfl) ?_
  refine lv_iload_n hx hb dX11_opposites_1 rfl (lv_at hl 1 rfl) ?_
  refine q_callVi (rest := []) (wr := [(h3, .inr (4, [.ref h4])), (h4, .inl (cy 1, m0, .inl f0)), (h5, .inl (cy 1, 10, .inl f1)), (h6, .inr (6, [.ref h7, .ref h8])), (h7, .inl (cy 1, 11, .inl f2)), (h8, .inl (cy 1, 64, .inl f3))]) X hK hT hA h (fun sz => gX11_isPerson_c6d5f45 l D cy h0 h1 h2 p0 w0 p1 p2 p3 w1 w2 w3 w4 w5 w6 w7 (.ref h6) w8 w9 w10 p4 p5 p6 (.ref h5) p7 p8 p9 p10 (.ref h3) w11 w12 w13 w14 w15 w16 (i_rng _) hp1 (i_rng _) (i_rng _) (i_rng _) (i_rng _) (i_rng _) hp7 hp8 (i_rng _) (i_rng _) sz) wm_3_174 wm_3_177 wm_1_1 hd_X11_isPerson wm_3_176 wp_2_8 (ci := 11) (q0 := 0) rfl rfl ⟨Nat.le_of_ble_eq_true rfl, Nat.le_of_ble_eq_true rfl⟩ hl.1 rfl (Nat.le_of_ble_eq_true rfl) dX11_opposites_2 ⟨Nat.le_of_ble_eq_true rfl, Nat.le_of_ble_eq_true rfl⟩ [0, 1, 2] [3, 4, 5, 6, 7, 8] rfl rfl (by decide) rfl rfl (fun r_1 u_1 H locs w_1 h_1 => ?_)
  clear h
  obtain ⟨wr_1, y1_0, _⟩ := w_1
  replace h_1 : qW D _ _ [(h3, .inr (4, [.ref h4])), (h4, .inl (cy 1, m0, .inl f0)), (h5, .inl (cy 1, 10, .inl f1)), (h6, .inr (6, [.ref h7, .ref h8])), (h7, .inl (cy 1, 11, .inl f2)), (h8, .inl (cy 1, 64, .inl f3)), (h0, .inr (11, [w0, .int p1, .int p2, .int p3, w1, .ref h1, w2, w3, w4, w5, w6, w7, .ref h6, w8, w9, w10, .int p4])), (h1, .inr (7, [.ref h2, .int p5, .int p6, .ref h5])), (h2, .inr (3, [.int p7, .int p8, .int p9, .int p10, .ref h3, w11, w11, w12, w13, w14, w15, w16]))] _ _ := h_1
  refine lv_if_ne (tgt := 11) hx hb dX11_opposites_5 (by decide) (fun c_2 => ?_) (fun c_2 => ?_)
  · replace c_2 := i_ne (x := r_1) (y := 0) rfl (show (0 : Int32).toInt = 0 by decide) c_2
    refine lv_aload_n hx hb dX11_opposites_11 rfl (lv_at hl 0 rfl) ?_
    refine q_get X hK h_1 6 rfl rfl wf_11 12 (by decide) rfl wm_2_110 dX11_opposites_12 ?_
    refine lv_aload_n hx hb dX11_opposites_15 rfl (lv_at hl 0 rfl) ?_
    refine q_get X hK h_1 6 rfl rfl wf_11 5 (by decide) rfl wm_2_103 dX11_opposites_16 ?_
    refine lv_iload_n hx hb dX11_opposites_19 rfl (lv_at hl 1 rfl) ?_
    refine lv_aload_n hx hb dX11_opposites_20 rfl (lv_at hl 0 rfl) ?_
    refine q_get X hK h_1 6 rfl rfl wf_11 5 (by decide) rfl wm_2_103 dX11_opposites_21 ?_
    refine q_get X hK h_1 7 rfl rfl wf_7 3 (by decide) rfl wm_2_54 dX11_opposites_24 ?_
    refine lv_iload_n hx hb dX11_opposites_27 rfl (lv_at hl 1 rfl) ?_
    refine q_iald X hK h_1 2 rfl (i_in rfl (by omega) (by omega)) dX11_opposites_28 ?_
    obtain ⟨z_3, ez_3, hz_3⟩ := rg_get rf1 (x := p0) rfl (by omega) (by omega)
    refine q_c z_3 ez_3 ?_
    clear ez_3
    refine lv_aload_n hx hb dX11_opposites_29 rfl (lv_at hl 0 rfl) ?_
    refine q_get X hK h_1 6 rfl rfl wf_11 5 (by decide) rfl wm_2_103 dX11_opposites_30 ?_
    refine q_get X hK h_1 7 rfl rfl wf_7 1 (by decide) rfl wm_2_47 dX11_opposites_33 ?_
    refine q_callVi (rest := []) (wr := [(h0, .inr (11, [w0, .int p1, .int p2, .int p3, w1, .ref h1, w2, w3, w4, w5, w6, w7, .ref h6, w8, w9, w10, .int p4]))]) X hK hT hA h_1 (fun sz => gX6_rowOf_5102544 l D cy h6 h7 h8 h1 h2 h3 h4 h5 p0 z_3 p5 f2 f3 p6 p7 p8 p9 p10 w11 w12 w13 w14 w15 w16 m0 f0 f1 ⟨by omega, by omega⟩ ⟨by omega, by omega⟩ (i_rng _) (i_rng _) hp7 hp8 (i_rng _) (i_rng _) (by omega) (rg_wide rf1 (by decide) (by decide)) sz) wm_3_227 wm_3_230 wm_1_5 hd_X6_rowOf wm_3_228 wm_3_229 (ci := 6) (q0 := 0) rfl rfl ⟨Nat.le_of_ble_eq_true rfl, Nat.le_of_ble_eq_true rfl⟩ hl.1 rfl (Nat.le_of_ble_eq_true rfl) dX11_opposites_36 ⟨Nat.le_of_ble_eq_true rfl, Nat.le_of_ble_eq_true rfl⟩ [3, 4, 5, 7, 8, 0, 1, 2] [6] rfl rfl (by decide) rfl rfl (fun r_4 u_4 H locs w_4 h_4 => ?_)
    clear h_1
    obtain ⟨wr_4, _⟩ := w_4
    replace h_4 : qW D _ _ [(h0, .inr (11, [w0, .int p1, .int p2, .int p3, w1, .ref h1, w2, w3, w4, w5, w6, w7, .ref h6, w8, w9, w10, .int p4])), (h6, .inr (6, [.ref h7, .ref h8])), (h7, .inl (cy 1, 11, .inl (u_4.2.1 0))), (h8, .inl (cy 1, 64, .inl (u_4.2.1 1))), (h1, .inr (7, [.ref h2, .int p5, .int p6, .ref h5])), (h2, .inr (3, [.int p7, .int p8, .int p9, .int p10, .ref h3, w11, w11, w12, w13, w14, w15, w16])), (h3, .inr (4, [.ref h4])), (h4, .inl (cy 1, m0, .inl f0)), (h5, .inl (cy 1, 10, .inl f1))] _ _ := h_4
    exact q_iret X hr hlk hK h_4 rfl (fun _ => 0, fun k => List.getD [(u_4.2.1 0), (u_4.2.1 1)] k (fun _ => 0), fun _ _ => 0) ⟨(bw wr_4 (by decide) (by decide)), trivial⟩ [0, 4, 5, 6, 7, 8, 1, 2, 3] rfl rfl dX11_opposites_39 (Nat.le_of_ble_eq_true rfl) (Nat.le_of_ble_eq_true rfl)
  · replace c_2 := i_eq (x := r_1) (y := 0) rfl (show (0 : Int32).toInt = 0 by decide) c_2
    refine lv_bipush (v := (-2)) hx hb dX11_opposites_8 (by decide) ?_
    exact q_iret X hr hlk hK h_1 rfl (fun _ => 0, fun k => List.getD [f2, f3] k (fun _ => 0), fun _ _ => 0) ⟨⟨by decide +kernel, by decide +kernel⟩, trivial⟩ [6, 7, 8, 0, 1, 2, 3, 4, 5] rfl rfl dX11_opposites_10 (Nat.le_of_ble_eq_true rfl) (Nat.le_of_ble_eq_true rfl)
set_option maxHeartbeats 4000000 in
set_option maxRecDepth 100000 in
theorem gX11_everybody_3be38f1 (l : Launch) (D : va_G) (cy : Nat → ClassId) (h0 : Nat) (h1 : Nat) (h2 : Nat) (w0 : Value) (p0 : Int32) (p1 : Int32) (p2 : Int32) (w1 : Value) (w2 : Value) (w3 : Value) (w4 : Value) (w5 : Value) (w6 : Value) (w7 : Value) (w8 : Value) (w9 : Value) (w10 : Value) (w11 : Value) (p3 : Int32) (p4 : Int32) (p5 : Int32) (w12 : Value) (p6 : Int32) (p7 : Int32) (p8 : Int32) (p9 : Int32) (w13 : Value) (w14 : Value) (w15 : Value) (w16 : Value) (w17 : Value) (w18 : Value) (w19 : Value) (hp0 : 0 ≤ (p0).toInt ∧ (p0).toInt ≤ 900) (hp1 : (-2147483648) ≤ (p1).toInt ∧ (p1).toInt ≤ 2147483647) (hp2 : (-2147483648) ≤ (p2).toInt ∧ (p2).toInt ≤ 2147483647) (hp3 : (-2147483648) ≤ (p3).toInt ∧ (p3).toInt ≤ 2147483647) (hp4 : (-2147483648) ≤ (p4).toInt ∧ (p4).toInt ≤ 2147483647) (hp5 : (-2147483648) ≤ (p5).toInt ∧ (p5).toInt ≤ 2147483647) (hp6 : 1 ≤ (p6).toInt ∧ (p6).toInt ≤ 3) (hp7 : 0 ≤ (p7).toInt ∧ (p7).toInt ≤ 10) (hp8 : (-2147483648) ≤ (p8).toInt ∧ (p8).toInt ≤ 2147483647) (hp9 : (-2147483648) ≤ (p9).toInt ∧ (p9).toInt ≤ 2147483647) (sz : Nat) : MI l yX11_everybody cX11_everybody 1 .int { frames := 0, cells := 0, slots := 0, locals := 0 } [.ref h0] D cy [(h0, .inr (11, [w0, .int p0, .int p1, .int p2, w1, .ref h1, w2, w3, w4, w5, w6, w7, w8, w9, w10, w11, .int p3])), (h1, .inr (7, [.ref h2, .int p4, .int p5, w12])), (h2, .inr (3, [.int p6, .int p7, .int p8, .int p9, w13, w14, w14, w15, w16, w17, w18, w19]))] sz (fun r u => (0 ≤ r.toInt ∧ r.toInt ≤ 1023) ∧ True) (fun u => [(h0, .inr (11, [w0, .int p0, .int p1, .int p2, w1, .ref h1, w2, w3, w4, w5, w6, w7, w8, w9, w10, w11, .int p3])), (h1, .inr (7, [.ref h2, .int p4, .int p5, w12])), (h2, .inr (3, [.int p6, .int p7, .int p8, .int p9, w13, w14, w14, w15, w16, w17, w18, w19]))]) 0 0 := by
  refine q_ent (own := RX11) (by decide) rfl (Nat.le_of_ble_eq_true rfl) (fun p e s m below meth c ls X hr hlk hnm hK hT h hA hl => ?_)
  obtain ⟨hx, hb, hml, hown, ht⟩ := id X
  replace hl : lv_has ls 1 [(0, .ref h0)] := hl
  refine lv_iconst (v := 1) hx hb dX11_everybody_0 (by decide) ?_
  refine lv_aload_n hx hb dX11_everybody_1 rfl (lv_at hl 0 rfl) ?_
  refine q_get X hK h 0 rfl rfl wf_11 5 (by decide) rfl wm_2_103 dX11_everybody_2 ?_
  refine q_get X hK h 1 rfl rfl wf_7 0 (by decide) rfl wm_2_42 dX11_everybody_5 ?_
  refine q_get X hK h 2 rfl rfl wf_3 1 (by decide) rfl wm_1_85 dX11_everybody_8 ?_
  refine lv_ishl hx hb dX11_everybody_11 ?_
  obtain ⟨z_1, ez_1, hz_1⟩ := e_shlk (p := p7) 10 (by decide) rfl (by omega) (by omega)
  refine q_c z_1 ez_1 ?_
  clear ez_1
  refine lv_iconst (v := 1) hx hb dX11_everybody_12 (by decide) ?_
  refine lv_isub hx hb dX11_everybody_13 ?_
  obtain ⟨z_2, ez_2, hz_2⟩ := e_sub (x := z_1) (y := 1) rfl (show (1 : Int32).toInt = 1 by decide) (by omega) (by omega)
  refine q_c z_2 ez_2 ?_
  clear ez_2
  exact q_iret X hr hlk hK h rfl (fun _ => 0, fun _ _ => 0, fun _ _ => 0) ⟨⟨by omega, by omega⟩, trivial⟩ [0, 1, 2] rfl rfl dX11_everybody_14 (Nat.le_of_ble_eq_true rfl) (Nat.le_of_ble_eq_true rfl)
set_option maxHeartbeats 4000000 in
set_option maxRecDepth 100000 in
theorem gX11_isSet_6da9589 (l : Launch) (D : va_G) (cy : Nat → ClassId) (h0 : Nat) (h1 : Nat) (h2 : Nat) (p0 : Int32) (w0 : Value) (p1 : Int32) (p2 : Int32) (p3 : Int32) (w1 : Value) (w2 : Value) (w3 : Value) (w4 : Value) (w5 : Value) (w6 : Value) (w7 : Value) (w8 : Value) (w9 : Value) (w10 : Value) (w11 : Value) (p4 : Int32) (p5 : Int32) (p6 : Int32) (w12 : Value) (p7 : Int32) (p8 : Int32) (p9 : Int32) (p10 : Int32) (w13 : Value) (w14 : Value) (w15 : Value) (w16 : Value) (w17 : Value) (w18 : Value) (w19 : Value) (hp0 : (-2147483648) ≤ (p0).toInt ∧ (p0).toInt ≤ 2147483647) (hp1 : 0 ≤ (p1).toInt ∧ (p1).toInt ≤ 900) (hp2 : (-2147483648) ≤ (p2).toInt ∧ (p2).toInt ≤ 2147483647) (hp3 : (-2147483648) ≤ (p3).toInt ∧ (p3).toInt ≤ 2147483647) (hp4 : (-2147483648) ≤ (p4).toInt ∧ (p4).toInt ≤ 2147483647) (hp5 : (-2147483648) ≤ (p5).toInt ∧ (p5).toInt ≤ 2147483647) (hp6 : (-2147483648) ≤ (p6).toInt ∧ (p6).toInt ≤ 2147483647) (hp7 : 1 ≤ (p7).toInt ∧ (p7).toInt ≤ 3) (hp8 : 0 ≤ (p8).toInt ∧ (p8).toInt ≤ 10) (hp9 : (-2147483648) ≤ (p9).toInt ∧ (p9).toInt ≤ 2147483647) (hp10 : (-2147483648) ≤ (p10).toInt ∧ (p10).toInt ≤ 2147483647) (sz : Nat) : MI l yX11_isSet cX11_isSet 2 .boolean { frames := 1, cells := 0, slots := 0, locals := 20 } [.ref h0, .int p0] D cy [(h0, .inr (11, [w0, .int p1, .int p2, .int p3, w1, .ref h1, w2, w3, w4, w5, w6, w7, w8, w9, w10, w11, .int p4])), (h1, .inr (7, [.ref h2, .int p5, .int p6, w12])), (h2, .inr (3, [.int p7, .int p8, .int p9, .int p10, w13, w14, w14, w15, w16, w17, w18, w19]))] sz (fun r u => (0 ≤ r.toInt ∧ r.toInt ≤ 1) ∧ ((r : Int32).toInt = 0 ∨ (0 ≤ (p0 : Int32).toInt ∧ (p0 : Int32).toInt ≤ 1023)) ∧ True) (fun u => [(h0, .inr (11, [w0, .int p1, .int p2, .int p3, w1, .ref h1, w2, w3, w4, w5, w6, w7, w8, w9, w10, w11, .int p4])), (h1, .inr (7, [.ref h2, .int p5, .int p6, w12])), (h2, .inr (3, [.int p7, .int p8, .int p9, .int p10, w13, w14, w14, w15, w16, w17, w18, w19]))]) 0 0 := by
  refine q_ent (own := RX11) (by decide) rfl (Nat.le_of_ble_eq_true rfl) (fun p e s m below meth c ls X hr hlk hnm hK hT h hA hl => ?_)
  obtain ⟨hx, hb, hml, hown, ht⟩ := id X
  replace hl : lv_has ls 2 [(0, .ref h0), (1, .int p0)] := hl
  refine lv_iload_n hx hb dX11_isSet_0 rfl (lv_at hl 1 rfl) ?_
  refine lv_aload_n hx hb dX11_isSet_1 rfl (lv_at hl 0 rfl) ?_
  refine q_callVi (rest := [.int p0]) (wr := []) X hK hT hA h (fun sz => gX11_everybody_3be38f1 l D cy h0 h1 h2 w0 p1 p2 p3 w1 w2 w3 w4 w5 w6 w7 w8 w9 w10 w11 p4 p5 p6 w12 p7 p8 p9 p10 w13 w14 w15 w16 w17 w18 w19 hp1 (i_rng _) (i_rng _) (i_rng _) (i_rng _) (i_rng _) hp7 hp8 (i_rng _) (i_rng _) sz) wm_4_141 wm_4_144 wm_1_1 hd_X11_everybody wm_4_143 wp_3_4 (ci := 11) (q0 := 0) rfl rfl ⟨Nat.le_of_ble_eq_true rfl, Nat.le_of_ble_eq_true rfl⟩ hl.1 rfl (Nat.le_of_ble_eq_true rfl) dX11_isSet_2 ⟨Nat.le_of_ble_eq_true rfl, Nat.le_of_ble_eq_true rfl⟩ [0, 1, 2] [] rfl rfl (by decide) rfl rfl (fun r_1 u_1 H locs w_1 h_1 => ?_)
  clear h
  obtain ⟨wr_1, _⟩ := w_1
  replace h_1 : qW D _ _ [(h0, .inr (11, [w0, .int p1, .int p2, .int p3, w1, .ref h1, w2, w3, w4, w5, w6, w7, w8, w9, w10, w11, .int p4])), (h1, .inr (7, [.ref h2, .int p5, .int p6, w12])), (h2, .inr (3, [.int p7, .int p8, .int p9, .int p10, w13, w14, w14, w15, w16, w17, w18, w19]))] _ _ := h_1
  refine lv_iconst (v := (-1)) hx hb dX11_isSet_5 (by decide) ?_
  refine lv_ixor hx hb dX11_isSet_6 ?_
  refine lv_iand hx hb dX11_isSet_7 ?_
  refine lv_if_ne (tgt := 15) hx hb dX11_isSet_8 (by decide) (fun c_2 => ?_) (fun c_2 => ?_)
  · replace c_2 := i_ne (x := (p0 &&& (r_1 ^^^ (-1)))) (y := 0) rfl (show (0 : Int32).toInt = 0 by decide) c_2
    refine lv_iconst (v := 0) hx hb dX11_isSet_15 (by decide) ?_
    exact q_iret X hr hlk hK h_1 rfl (fun _ => 0, fun _ _ => 0, fun _ _ => 0) ⟨⟨by decide +kernel, by decide +kernel⟩, (show (0 : Int32).toInt = 0 ∨ (0 ≤ (p0 : Int32).toInt ∧ (p0 : Int32).toInt ≤ 1023) from by have q0 : (0 : Int32).toInt = 0 := (by decide); omega), trivial⟩ [0, 1, 2] rfl rfl dX11_isSet_16 (Nat.le_of_ble_eq_true rfl) (Nat.le_of_ble_eq_true rfl)
  · replace c_2 := i_eq (x := (p0 &&& (r_1 ^^^ (-1)))) (y := 0) rfl (show (0 : Int32).toInt = 0 by decide) c_2
    have is_3 := bs_set (x := p0) c_2 (by omega)
    refine lv_iconst (v := 1) hx hb dX11_isSet_11 (by decide) ?_
    refine lv_goto (tgt := 16) hx hb dX11_isSet_12 (by decide) ?_
    exact q_iret X hr hlk hK h_1 rfl (fun _ => 0, fun _ _ => 0, fun _ _ => 0) ⟨⟨by decide +kernel, by decide +kernel⟩, (show (1 : Int32).toInt = 0 ∨ (0 ≤ (p0 : Int32).toInt ∧ (p0 : Int32).toInt ≤ 1023) from by have q0 : (1 : Int32).toInt = 1 := (by decide); omega), trivial⟩ [0, 1, 2] rfl rfl dX11_isSet_16 (Nat.le_of_ble_eq_true rfl) (Nat.le_of_ble_eq_true rfl)
set_option maxHeartbeats 4000000 in
set_option maxRecDepth 100000 in
theorem gJ7_fill_53178_d807778 (l : Launch) (D : va_G) (cy : Nat → ClassId) (h0 : Nat) (p0 : Int32) (f0 : Nat → Int32) (hp0 : 0 ≤ (p0).toInt ∧ (p0).toInt ≤ 0) (rf0 : RG f0 10 0 1023) (sz : Nat) : MV l yJ7_fill_53178 cJ7_fill_53178 4 { frames := 0, cells := 0, slots := 0, locals := 0 } [.ref h0, .int p0] D cy [(h0, .inl (cy 1, 10, .inl f0))] sz (fun u => RG (u.2.1 0) 10 0 1023 ∧ (FLL (u.2.1 0) 10 p0) ∧ True) (fun u => [(h0, .inl (cy 1, 10, .inl (u.2.1 0)))]) 0 0 := by
  refine q_ent (own := RJ7) (by decide) rfl (Nat.le_of_ble_eq_true rfl) (fun p e s m below meth c ls X hr hlk hnm hK hT h hA hl => ?_)
  obtain ⟨hx, hb, hml, hown, ht⟩ := id X
  replace hl : lv_has ls 4 [(0, .ref h0), (1, .int p0)] := hl
  refine lv_iconst (v := 0) hx hb dJ7_fill_53178_0 (by decide) ?_
  refine lv_istore_n (lv' := [(2, .int 0), (0, .ref h0), (1, .int p0)]) hx hb dJ7_fill_53178_1 rfl hl (by decide) rfl (fun ls_1 hl_1 => ?_)
  clear hl
  refine lv_aload_n hx hb dJ7_fill_53178_2 rfl (lv_at hl_1 1 rfl) ?_
  refine q_alen X hK h 0 1 rfl rfl 10 (show Int32.ofNat 10 = 10 by decide) dJ7_fill_53178_3 ?_
  refine lv_istore_n (lv' := [(3, .int 10), (2, .int 0), (0, .ref h0), (1, .int p0)]) hx hb dJ7_fill_53178_4 rfl hl_1 (by decide) rfl (fun ls_2 hl_2 => ?_)
  clear hl_1
  refine q_wl (fun (v5_3_0 : Int32) H locs ls => ∃ v5_3_1 : Nat → Int32, (0 ≤ (v5_3_0).toInt ∧ (v5_3_0).toInt ≤ 10) ∧ RG v5_3_1 10 0 1023 ∧ (FLL v5_3_1 (v5_3_0 : Int32).toInt p0) ∧ qW D (va_A [(h0, .inl (cy 1, 10, .inl f0))] sz) s.heap [(h0, .inl (cy 1, 10, .inl v5_3_1))] H locs ∧ lv_has ls 4 [(0, .ref h0), (1, .int p0), (2, .int v5_3_0), (3, .int 10)]) (fun (v5_3_0 : Int32) => (11 - (v5_3_0).toInt).toNat) (fun q_5 ih_5 H locs ls hP => ?_) 0 ⟨f0, ⟨by decide +kernel, by decide +kernel⟩, (rg_wide rf0 (by decide) (by decide)), (fll_0 (by have q0 : (0 : Int32).toInt = 0 := (by decide); omega)), h, (lv_sub hl_2 [2, 3, 1, 0] rfl)⟩
  obtain ⟨v5_3_0, rfl⟩ : ∃ z, z = q_5 := ⟨_, rfl⟩
  obtain ⟨v5_3_1, hv5_3_0, rv5_3_1, x4_0, h, hl⟩ := hP
  refine lv_iload_n hx hb dJ7_fill_53178_5 rfl (lv_at hl 2 rfl) ?_
  refine lv_iload_n hx hb dJ7_fill_53178_6 rfl (lv_at hl 3 rfl) ?_
  refine lv_icmp_ge (tgt := 20) hx hb dJ7_fill_53178_7 (by decide) (fun c_5 => ?_) (fun c_5 => ?_)
  · replace c_5 := i_le (x := 10) (y := v5_3_0) (show (10 : Int32).toInt = 10 by decide) rfl c_5
    exact q_vret X hr hlk hK h (fun _ => 0, fun k => List.getD [v5_3_1] k (fun _ => 0), fun _ _ => 0) ⟨(rg_wide rv5_3_1 (by decide) (by decide)), (show FLL v5_3_1 10 p0 from fll_le x4_0 (by omega)), trivial⟩ [0] rfl rfl dJ7_fill_53178_20 (Nat.le_of_ble_eq_true rfl) (Nat.le_of_ble_eq_true rfl)
  · replace c_5 := i_nle (x := 10) (y := v5_3_0) (show (10 : Int32).toInt = 10 by decide) rfl c_5
    refine lv_aload_n hx hb dJ7_fill_53178_10 rfl (lv_at hl 0 rfl) ?_
    refine lv_iload_n hx hb dJ7_fill_53178_11 rfl (lv_at hl 2 rfl) ?_
    refine lv_iload_n hx hb dJ7_fill_53178_12 rfl (lv_at hl 1 rfl) ?_
    refine q_iast X hK h 0 rfl (i_in rfl (by omega) (by omega)) dJ7_fill_53178_13 (fun H locs h_7 => ?_)
    clear h
    replace h_7 : qW D _ _ [(h0, .inl (cy 1, 10, .inl (upd v5_3_1 (Int32.toNatClampNeg v5_3_0) p0)))] _ _ := h_7
    obtain ⟨F_6, eF_6, rF_6⟩ := rg_upd rv5_3_1 (Int32.toNatClampNeg v5_3_0) (x := p0) rfl (by omega) (by omega)
    rw [eF_6] at h_7
    have fs_8 := fll_s x4_0 (by omega) eF_6
    obtain ⟨z_9, ez_9, hz_9⟩ := e_add (x := v5_3_0) (y := Int32.ofInt 1) rfl (b := 1) (by decide) (by omega) (by omega)
    refine lv_iinc (v := z_9) (lv' := [(2, .int z_9), (0, .ref h0), (1, .int p0), (3, .int 10)]) hx hb dJ7_fill_53178_14 hl (k := 2) rfl ez_9 (by decide) rfl (fun ls_9 hl_9 => ?_)
    clear hl
    refine lv_goto (tgt := 5) hx hb dJ7_fill_53178_17 (by decide) ?_
    exact ih_5 z_9 (by show (11 - (z_9).toInt).toNat < (11 - (v5_3_0).toInt).toNat; omega) _ _ _ ⟨F_6, ⟨by omega, by omega⟩, (rg_wide rF_6 (by decide) (by decide)), (fll_le fs_8 (by omega)), h_7, (lv_sub hl_9 [1, 2, 0, 3] rfl)⟩
set_option maxHeartbeats 4000000 in
set_option maxRecDepth 100000 in
theorem gX0_draw_01860c8 (l : Launch) (D : va_G) (cy : Nat → ClassId) (h0 : Nat) (h1 : Nat) (h2 : Nat) (h3 : Nat) (h4 : Nat) (h5 : Nat) (p0 : Int32) (p1 : Int32) (w0 : Value) (w1 : Value) (f0 : Nat → Int32) (p2 : Int32) (p3 : Int32) (p4 : Int32) (p5 : Int32) (p6 : Int32) (w2 : Value) (w3 : Value) (w4 : Value) (w5 : Value) (w6 : Value) (w7 : Value) (f1 : Nat → Int32) (w8 : Value) (w9 : Value) (hp0 : (-2147483648) ≤ (p0).toInt ∧ (p0).toInt ≤ 2147483647) (hp1 : 0 ≤ (p1).toInt ∧ (p1).toInt ≤ 10) (hp2 : (-2147483648) ≤ (p2).toInt ∧ (p2).toInt ≤ 2147483647) (hp3 : 1 ≤ (p3).toInt ∧ (p3).toInt ≤ 3) (hp4 : 0 ≤ (p4).toInt ∧ (p4).toInt ≤ 10) (hp5 : (-2147483648) ≤ (p5).toInt ∧ (p5).toInt ≤ 2147483647) (hp6 : (-2147483648) ≤ (p6).toInt ∧ (p6).toInt ≤ 2147483647) (rf0 : RG f0 10 0 1023) (rf1 : RG f1 10 0 999) (sz : Nat) : MV l yX0_draw cX0_draw 6 { frames := 1, cells := 0, slots := 0, locals := 27 } [.ref h0, .ref h2, .int p0, .ref h5] D cy [(h0, .inr (0, [.int p1, .ref h1, w0, w1])), (h1, .inl (cy 1, 10, .inl f0)), (h2, .inr (7, [.ref h3, .int p0, .int p2, .ref h4])), (h3, .inr (3, [.int p3, .int p4, .int p5, .int p6, .null, w2, w2, w3, w4, w5, w6, w7])), (h4, .inl (cy 1, 10, .inl f1)), (h5, .inr (6, [w8, w9]))] sz (fun u => (0 ≤ (u.2.1 0 0).toInt ∧ (u.2.1 0 0).toInt ≤ 10) ∧ RG (u.2.1 1) 10 0 1023 ∧ True) (fun u => [(h0, .inr (0, [.int (u.2.1 0 0), .ref h1, w0, w1])), (h1, .inl (cy 1, 10, .inl (u.2.1 1))), (h2, .inr (7, [.ref h3, .int p0, .int p2, .ref h4])), (h3, .inr (3, [.int p3, .int p4, .int p5, .int p6, .null, w2, w2, w3, w4, w5, w6, w7])), (h4, .inl (cy 1, 10, .inl f1)), (h5, .inr (6, [w8, w9]))]) 0 0 := by
  refine q_ent (own := RX0) (by decide) rfl (Nat.le_of_ble_eq_true rfl) (fun p e s m below meth c ls X hr hlk hnm hK hT h hA hl => ?_)
  obtain ⟨hx, hb, hml, hown, ht⟩ := id X
  replace hl : lv_has ls 6 [(0, .ref h0), (1, .ref h2), (2, .int p0), (3, .ref h5)] := hl
  refine lv_aload_n hx hb dX0_draw_0 rfl (lv_at hl 0 rfl) ?_
  refine lv_aload_n hx hb dX0_draw_1 rfl (lv_at hl 1 rfl) ?_
  refine q_get X hK h 2 rfl rfl wf_7 0 (by decide) rfl wm_2_38 dX0_draw_2 ?_
  refine q_get X hK h 3 rfl rfl wf_3 1 (by decide) rfl wm_1_80 dX0_draw_5 ?_
  refine q_put (v := .int p4) X hK h 0 rfl rfl wf_0 tyX0 tyX0_ok nmX0 0 (by decide) wm_1_198 rfl rfl rfl (Nat.le_of_ble_eq_true rfl) dX0_draw_8 (fun H locs h_1 => ?_)
  clear h
  replace h_1 : qW D _ _ [(h0, .inr (0, [.int p4, .ref h1, w0, w1])), (h1, .inl (cy 1, 10, .inl f0)), (h2, .inr (7, [.ref h3, .int p0, .int p2, .ref h4])), (h3, .inr (3, [.int p3, .int p4, .int p5, .int p6, .null, w2, w2, w3, w4, w5, w6, w7])), (h4, .inl (cy 1, 10, .inl f1)), (h5, .inr (6, [w8, w9]))] _ _ := h_1
  refine lv_aload_n hx hb dX0_draw_11 rfl (lv_at hl 0 rfl) ?_
  refine q_get X hK h_1 0 rfl rfl wf_0 1 (by decide) rfl wm_1_199 dX0_draw_12 ?_
  refine lv_iconst (v := 0) hx hb dX0_draw_15 (by decide) ?_
  refine q_callSv (rest := []) (wr := [(h0, .inr (0, [.int p4, .ref h1, w0, w1])), (h2, .inr (7, [.ref h3, .int p0, .int p2, .ref h4])), (h3, .inr (3, [.int p3, .int p4, .int p5, .int p6, .null, w2, w2, w3, w4, w5, w6, w7])), (h4, .inl (cy 1, 10, .inl f1)), (h5, .inr (6, [w8, w9]))]) X hK hT hA h_1 (fun sz => gJ7_fill_53178_d807778 l D cy h1 (0 : Int32) f0 ⟨by decide +kernel, by decide +kernel⟩ (rg_wide rf0 (by decide) (by decide)) sz) wm_4_105 wm_4_107 wm_1_20 hd_J7_fill_53178 wm_4_106 ⟨Nat.le_of_ble_eq_true rfl, Nat.le_of_ble_eq_true rfl⟩ hl.1 rfl (Nat.le_of_ble_eq_true rfl) dX0_draw_16 ⟨Nat.le_of_ble_eq_true rfl, Nat.le_of_ble_eq_true rfl⟩ [1] [0, 2, 3, 4, 5] rfl rfl (by decide) rfl rfl (fun u_2 H locs w_2 h_2 => ?_)
  clear h_1
  obtain ⟨w2_0, y2_0, _⟩ := w_2
  replace h_2 : qW D _ _ [(h0, .inr (0, [.int p4, .ref h1, w0, w1])), (h2, .inr (7, [.ref h3, .int p0, .int p2, .ref h4])), (h3, .inr (3, [.int p3, .int p4, .int p5, .int p6, .null, w2, w2, w3, w4, w5, w6, w7])), (h4, .inl (cy 1, 10, .inl f1)), (h5, .inr (6, [w8, w9])), (h1, .inl (cy 1, 10, .inl (u_2.2.1 0)))] _ _ := h_2
  refine lv_iconst (v := 0) hx hb dX0_draw_19 (by decide) ?_
  refine lv_istore (lv' := [(4, .int 0), (0, .ref h0), (1, .ref h2), (2, .int p0), (3, .ref h5)]) hx hb dX0_draw_20 hl (by decide) rfl (fun ls_3 hl_3 => ?_)
  clear hl
  refine q_wl (fun (v22_4_0 : Int32) H locs ls => ∃ v22_4_1 : Nat → Int32, (0 ≤ (v22_4_0).toInt ∧ (v22_4_0).toInt ≤ 10) ∧ RG v22_4_1 10 0 1023 ∧ qW D (va_A [(h0, .inr (0, [.int p1, .ref h1, w0, w1])), (h1, .inl (cy 1, 10, .inl f0)), (h2, .inr (7, [.ref h3, .int p0, .int p2, .ref h4])), (h3, .inr (3, [.int p3, .int p4, .int p5, .int p6, .null, w2, w2, w3, w4, w5, w6, w7])), (h4, .inl (cy 1, 10, .inl f1)), (h5, .inr (6, [w8, w9]))] sz) s.heap [(h0, .inr (0, [.int p4, .ref h1, w0, w1])), (h2, .inr (7, [.ref h3, .int p0, .int p2, .ref h4])), (h3, .inr (3, [.int p3, .int p4, .int p5, .int p6, .null, w2, w2, w3, w4, w5, w6, w7])), (h4, .inl (cy 1, 10, .inl f1)), (h5, .inr (6, [w8, w9])), (h1, .inl (cy 1, 10, .inl v22_4_1))] H locs ∧ lv_has ls 6 [(0, .ref h0), (1, .ref h2), (2, .int p0), (3, .ref h5), (4, .int v22_4_0)]) (fun (v22_4_0 : Int32) => (11 - (v22_4_0).toInt).toNat) (fun q_22 ih_22 H locs ls hP => ?_) 0 ⟨(u_2.2.1 0), ⟨by decide +kernel, by decide +kernel⟩, (rg_wide w2_0 (by decide) (by decide)), h_2, (lv_sub hl_3 [1, 2, 3, 4, 0] rfl)⟩
  obtain ⟨v22_4_0, rfl⟩ : ∃ z, z = q_22 := ⟨_, rfl⟩
  obtain ⟨v22_4_1, hv22_4_0, rv22_4_1, h, hl⟩ := hP
  refine lv_iload hx hb dX0_draw_22 (lv_at hl 4 rfl) ?_
  refine lv_aload_n hx hb dX0_draw_24 rfl (lv_at hl 0 rfl) ?_
  refine q_get X hK h 0 rfl rfl wf_0 0 (by decide) rfl wm_1_198 dX0_draw_25 ?_
  refine lv_icmp_ge (tgt := 106) hx hb dX0_draw_28 (by decide) (fun c_5 => ?_) (fun c_5 => ?_)
  · replace c_5 := i_le (x := p4) (y := v22_4_0) rfl rfl c_5
    exact q_vret X hr hlk hK h (fun _ => 0, fun k => List.getD [(fun _ => p4), v22_4_1] k (fun _ => 0), fun _ _ => 0) ⟨(hp4 : 0 ≤ (p4 : Int32).toInt ∧ (p4 : Int32).toInt ≤ 10), (rg_wide rv22_4_1 (by decide) (by decide)), trivial⟩ [0, 5, 1, 2, 3, 4] rfl rfl dX0_draw_106 (Nat.le_of_ble_eq_true rfl) (Nat.le_of_ble_eq_true rfl)
  · replace c_5 := i_nle (x := p4) (y := v22_4_0) rfl rfl c_5
    refine lv_iload hx hb dX0_draw_31 (lv_at hl 4 rfl) ?_
    refine lv_iconst (v := 1) hx hb dX0_draw_33 (by decide) ?_
    refine lv_iadd hx hb dX0_draw_34 ?_
    obtain ⟨z_6, ez_6, hz_6⟩ := e_add (x := v22_4_0) (y := 1) rfl (show (1 : Int32).toInt = 1 by decide) (by omega) (by omega)
    refine q_c z_6 ez_6 ?_
    clear ez_6
    refine lv_istore (lv' := [(5, .int z_6), (0, .ref h0), (1, .ref h2), (2, .int p0), (3, .ref h5), (4, .int v22_4_0)]) hx hb dX0_draw_35 hl (by decide) rfl (fun ls_7 hl_7 => ?_)
    clear hl
    refine q_wl (fun (v37_8_0 : Int32) H locs ls => ∃ v37_8_1 : Nat → Int32, (1 ≤ (v37_8_0).toInt ∧ (v37_8_0).toInt ≤ 10) ∧ RG v37_8_1 10 0 1023 ∧ qW D (va_A [(h0, .inr (0, [.int p1, .ref h1, w0, w1])), (h1, .inl (cy 1, 10, .inl f0)), (h2, .inr (7, [.ref h3, .int p0, .int p2, .ref h4])), (h3, .inr (3, [.int p3, .int p4, .int p5, .int p6, .null, w2, w2, w3, w4, w5, w6, w7])), (h4, .inl (cy 1, 10, .inl f1)), (h5, .inr (6, [w8, w9]))] sz) s.heap [(h0, .inr (0, [.int p4, .ref h1, w0, w1])), (h2, .inr (7, [.ref h3, .int p0, .int p2, .ref h4])), (h3, .inr (3, [.int p3, .int p4, .int p5, .int p6, .null, w2, w2, w3, w4, w5, w6, w7])), (h4, .inl (cy 1, 10, .inl f1)), (h5, .inr (6, [w8, w9])), (h1, .inl (cy 1, 10, .inl v37_8_1))] H locs ∧ lv_has ls 6 [(0, .ref h0), (1, .ref h2), (2, .int p0), (3, .ref h5), (4, .int v22_4_0), (5, .int v37_8_0)]) (fun (v37_8_0 : Int32) => (11 - (v37_8_0).toInt).toNat) (fun q_37 ih_37 H locs ls hP => ?_) z_6 ⟨v22_4_1, ⟨by omega, by omega⟩, (rg_wide rv22_4_1 (by decide) (by decide)), h, (lv_sub hl_7 [1, 2, 3, 4, 5, 0] rfl)⟩
    obtain ⟨v37_8_0, rfl⟩ : ∃ z, z = q_37 := ⟨_, rfl⟩
    obtain ⟨v37_8_1, hv37_8_0, rv37_8_1, h, hl⟩ := hP
    refine lv_iload hx hb dX0_draw_37 (lv_at hl 5 rfl) ?_
    refine lv_aload_n hx hb dX0_draw_39 rfl (lv_at hl 0 rfl) ?_
    refine q_get X hK h 0 rfl rfl wf_0 0 (by decide) rfl wm_1_198 dX0_draw_40 ?_
    refine lv_icmp_ge (tgt := 100) hx hb dX0_draw_43 (by decide) (fun c_9 => ?_) (fun c_9 => ?_)
    · replace c_9 := i_le (x := p4) (y := v37_8_0) rfl rfl c_9
      obtain ⟨z_10, ez_10, hz_10⟩ := e_add (x := v22_4_0) (y := Int32.ofInt 1) rfl (b := 1) (by decide) (by omega) (by omega)
      refine lv_iinc (v := z_10) (lv' := [(4, .int z_10), (0, .ref h0), (1, .ref h2), (2, .int p0), (3, .ref h5), (5, .int v37_8_0)]) hx hb dX0_draw_100 hl (k := 4) rfl ez_10 (by decide) rfl (fun ls_10 hl_10 => ?_)
      clear hl
      refine lv_goto (tgt := 22) hx hb dX0_draw_103 (by decide) ?_
      exact ih_22 z_10 (by show (11 - (z_10).toInt).toNat < (11 - (v22_4_0).toInt).toNat; omega) _ _ _ ⟨v37_8_1, ⟨by omega, by omega⟩, (rg_wide rv37_8_1 (by decide) (by decide)), h, (lv_sub hl_10 [1, 2, 3, 4, 0] rfl)⟩
    · replace c_9 := i_nle (x := p4) (y := v37_8_0) rfl rfl c_9
      refine lv_aload_n hx hb dX0_draw_46 rfl (lv_at hl 3 rfl) ?_
      refine lv_aload_n hx hb dX0_draw_47 rfl (lv_at hl 1 rfl) ?_
      refine lv_iload hx hb dX0_draw_48 (lv_at hl 4 rfl) ?_
      refine lv_aload_n hx hb dX0_draw_50 rfl (lv_at hl 1 rfl) ?_
      refine q_get X hK h 1 rfl rfl wf_7 3 (by decide) rfl wm_2_52 dX0_draw_51 ?_
      refine lv_iload hx hb dX0_draw_54 (lv_at hl 4 rfl) ?_
      refine q_iald X hK h 3 rfl (i_in rfl (by omega) (by omega)) dX0_draw_56 ?_
      obtain ⟨z_11, ez_11, hz_11⟩ := rg_get rf1 (x := v22_4_0) rfl (by omega) (by omega)
      refine q_c z_11 ez_11 ?_
      clear ez_11
      refine lv_iload hx hb dX0_draw_57 (lv_at hl 5 rfl) ?_
      refine lv_iload_n hx hb dX0_draw_59 rfl (lv_at hl 2 rfl) ?_
      refine q_callVi (rest := []) (wr := [(h0, .inr (0, [.int p4, .ref h1, w0, w1])), (h1, .inl (cy 1, 10, .inl v37_8_1))]) X hK hT hA h (fun sz => gX6_areOpposites_54bab82 l D cy h5 h2 h3 h4 v22_4_0 z_11 v37_8_0 p0 w8 w9 p2 p3 p4 p5 p6 w2 w3 w4 w5 w6 w7 f1 ⟨by omega, by omega⟩ ⟨by omega, by omega⟩ ⟨by omega, by omega⟩ (i_rng _) (i_rng _) hp3 hp4 (i_rng _) (i_rng _) (rg_wide rf1 (by decide) (by decide)) sz) wm_4_108 wm_3_199 wm_1_5 hd_X6_areOpposites wm_3_197 wm_3_198 (ci := 6) (q0 := 0) rfl rfl ⟨Nat.le_of_ble_eq_true rfl, Nat.le_of_ble_eq_true rfl⟩ hl.1 rfl (Nat.le_of_ble_eq_true rfl) dX0_draw_60 ⟨Nat.le_of_ble_eq_true rfl, Nat.le_of_ble_eq_true rfl⟩ [4, 1, 2, 3] [0, 5] rfl rfl (by decide) rfl rfl (fun r_12 u_12 H locs w_12 h_12 => ?_)
      clear h
      obtain ⟨wr_12, _⟩ := w_12
      replace h_12 : qW D _ _ [(h0, .inr (0, [.int p4, .ref h1, w0, w1])), (h1, .inl (cy 1, 10, .inl v37_8_1)), (h5, .inr (6, [w8, w9])), (h2, .inr (7, [.ref h3, .int p0, .int p2, .ref h4])), (h3, .inr (3, [.int p3, .int p4, .int p5, .int p6, .null, w2, w2, w3, w4, w5, w6, w7])), (h4, .inl (cy 1, 10, .inl f1))] _ _ := h_12
      refine q_jn (pc2 := 94) (fun H locs ls st => ∃ v94_13_0 : Nat → Int32, RG v94_13_0 10 0 1023 ∧ st = [] ∧ qW D (va_A [(h0, .inr (0, [.int p1, .ref h1, w0, w1])), (h1, .inl (cy 1, 10, .inl f0)), (h2, .inr (7, [.ref h3, .int p0, .int p2, .ref h4])), (h3, .inr (3, [.int p3, .int p4, .int p5, .int p6, .null, w2, w2, w3, w4, w5, w6, w7])), (h4, .inl (cy 1, 10, .inl f1)), (h5, .inr (6, [w8, w9]))] sz) s.heap [(h0, .inr (0, [.int p4, .ref h1, w0, w1])), (h1, .inl (cy 1, 10, .inl v94_13_0)), (h5, .inr (6, [w8, w9])), (h2, .inr (7, [.ref h3, .int p0, .int p2, .ref h4])), (h3, .inr (3, [.int p3, .int p4, .int p5, .int p6, .null, w2, w2, w3, w4, w5, w6, w7])), (h4, .inl (cy 1, 10, .inl f1))] H locs ∧ lv_has ls 6 [(0, .ref h0), (1, .ref h2), (2, .int p0), (3, .ref h5), (4, .int v22_4_0), (5, .int v37_8_0)]) (fun H locs ls st hP => ?_) (fun J_94 => ?_)
      · obtain ⟨v94_13_0, rv94_13_0, rfl, h, hl⟩ := hP
        obtain ⟨z_14, ez_14, hz_14⟩ := e_add (x := v37_8_0) (y := Int32.ofInt 1) rfl (b := 1) (by decide) (by omega) (by omega)
        refine lv_iinc (v := z_14) (lv' := [(5, .int z_14), (0, .ref h0), (1, .ref h2), (2, .int p0), (3, .ref h5), (4, .int v22_4_0)]) hx hb dX0_draw_94 hl (k := 5) rfl ez_14 (by decide) rfl (fun ls_14 hl_14 => ?_)
        clear hl
        refine lv_goto (tgt := 37) hx hb dX0_draw_97 (by decide) ?_
        exact ih_37 z_14 (by show (11 - (z_14).toInt).toNat < (11 - (v37_8_0).toInt).toNat; omega) _ _ _ ⟨v94_13_0, ⟨by omega, by omega⟩, (rg_wide rv94_13_0 (by decide) (by decide)), (q_re h [0, 3, 4, 5, 2, 1] rfl rfl), (lv_sub hl_14 [1, 2, 3, 4, 5, 0] rfl)⟩
      · skip
        refine lv_if_eq (tgt := 94) hx hb dX0_draw_63 (by decide) (fun c_15 => ?_) (fun c_15 => ?_)
        · replace c_15 := i_eq (x := r_12) (y := 0) rfl (show (0 : Int32).toInt = 0 by decide) c_15
          exact J_94 _ _ _ _ ⟨v37_8_1, (rg_wide rv37_8_1 (by decide) (by decide)), rfl, h_12, (lv_sub hl [0, 1, 2, 3, 4, 5] rfl)⟩
        · replace c_15 := i_ne (x := r_12) (y := 0) rfl (show (0 : Int32).toInt = 0 by decide) c_15
          refine lv_aload_n hx hb dX0_draw_66 rfl (lv_at hl 0 rfl) ?_
          refine q_get X hK h_12 0 rfl rfl wf_0 1 (by decide) rfl wm_1_199 dX0_draw_67 ?_
          refine lv_iload hx hb dX0_draw_70 (lv_at hl 4 rfl) ?_
          refine lv_dup2_11 hx hb dX0_draw_72 rfl rfl ?_
          refine q_iald X hK h_12 1 rfl (i_in rfl (by omega) (by omega)) dX0_draw_73 ?_
          obtain ⟨z_16, ez_16, hz_16⟩ := rg_get rv37_8_1 (x := v22_4_0) rfl (by omega) (by omega)
          refine q_c z_16 ez_16 ?_
          clear ez_16
          refine lv_iconst (v := 1) hx hb dX0_draw_74 (by decide) ?_
          refine lv_iload hx hb dX0_draw_75 (lv_at hl 5 rfl) ?_
          refine lv_ishl hx hb dX0_draw_77 ?_
          obtain ⟨z_17, ez_17, hz_17⟩ := e_shlk (p := v37_8_0) 9 (by decide) rfl (by omega) (by omega)
          refine q_c z_17 ez_17 ?_
          clear ez_17
          refine lv_ior hx hb dX0_draw_78 ?_
          obtain ⟨z_18, ez_18, hz_18⟩ := e_or (x := z_16) (y := z_17) 10 (by decide) rfl rfl (by omega) (by omega) (by omega) (by omega)
          refine q_c z_18 ez_18 ?_
          clear ez_18
          refine q_iast X hK h_12 1 rfl (i_in rfl (by omega) (by omega)) dX0_draw_79 (fun H locs h_20 => ?_)
          clear h_12
          replace h_20 : qW D _ _ [(h0, .inr (0, [.int p4, .ref h1, w0, w1])), (h1, .inl (cy 1, 10, .inl (upd v37_8_1 (Int32.toNatClampNeg v22_4_0) z_18))), (h5, .inr (6, [w8, w9])), (h2, .inr (7, [.ref h3, .int p0, .int p2, .ref h4])), (h3, .inr (3, [.int p3, .int p4, .int p5, .int p6, .null, w2, w2, w3, w4, w5, w6, w7])), (h4, .inl (cy 1, 10, .inl f1))] _ _ := h_20
          obtain ⟨F_19, eF_19, rF_19⟩ := rg_upd rv37_8_1 (Int32.toNatClampNeg v22_4_0) (x := z_18) rfl (by omega) (by omega)
          rw [eF_19] at h_20
          clear eF_19
          refine lv_aload_n hx hb dX0_draw_80 rfl (lv_at hl 0 rfl) ?_
          refine q_get X hK h_20 0 rfl rfl wf_0 1 (by decide) rfl wm_1_199 dX0_draw_81 ?_
          refine lv_iload hx hb dX0_draw_84 (lv_at hl 5 rfl) ?_
          refine lv_dup2_11 hx hb dX0_draw_86 rfl rfl ?_
          refine q_iald X hK h_20 1 rfl (i_in rfl (by omega) (by omega)) dX0_draw_87 ?_
          obtain ⟨z_21, ez_21, hz_21⟩ := rg_get rF_19 (x := v37_8_0) rfl (by omega) (by omega)
          refine q_c z_21 ez_21 ?_
          clear ez_21
          refine lv_iconst (v := 1) hx hb dX0_draw_88 (by decide) ?_
          refine lv_iload hx hb dX0_draw_89 (lv_at hl 4 rfl) ?_
          refine lv_ishl hx hb dX0_draw_91 ?_
          obtain ⟨z_22, ez_22, hz_22⟩ := e_shlk (p := v22_4_0) 9 (by decide) rfl (by omega) (by omega)
          refine q_c z_22 ez_22 ?_
          clear ez_22
          refine lv_ior hx hb dX0_draw_92 ?_
          obtain ⟨z_23, ez_23, hz_23⟩ := e_or (x := z_21) (y := z_22) 10 (by decide) rfl rfl (by omega) (by omega) (by omega) (by omega)
          refine q_c z_23 ez_23 ?_
          clear ez_23
          refine q_iast X hK h_20 1 rfl (i_in rfl (by omega) (by omega)) dX0_draw_93 (fun H locs h_25 => ?_)
          clear h_20
          replace h_25 : qW D _ _ [(h0, .inr (0, [.int p4, .ref h1, w0, w1])), (h1, .inl (cy 1, 10, .inl (upd F_19 (Int32.toNatClampNeg v37_8_0) z_23))), (h5, .inr (6, [w8, w9])), (h2, .inr (7, [.ref h3, .int p0, .int p2, .ref h4])), (h3, .inr (3, [.int p3, .int p4, .int p5, .int p6, .null, w2, w2, w3, w4, w5, w6, w7])), (h4, .inl (cy 1, 10, .inl f1))] _ _ := h_25
          obtain ⟨F_24, eF_24, rF_24⟩ := rg_upd rF_19 (Int32.toNatClampNeg v37_8_0) (x := z_23) rfl (by omega) (by omega)
          rw [eF_24] at h_25
          clear eF_24
          exact J_94 _ _ _ _ ⟨F_24, (rg_wide rF_24 (by decide) (by decide)), rfl, h_25, (lv_sub hl [0, 1, 2, 3, 4, 5] rfl)⟩
set_option maxHeartbeats 4000000 in
set_option maxRecDepth 100000 in
theorem gX11_drawToday_4f144ea (l : Launch) (D : va_G) (cy : Nat → ClassId) (h0 : Nat) (h1 : Nat) (h2 : Nat) (h3 : Nat) (h4 : Nat) (h5 : Nat) (h6 : Nat) (w0 : Value) (p0 : Int32) (p1 : Int32) (p2 : Int32) (w1 : Value) (w2 : Value) (w3 : Value) (w4 : Value) (w5 : Value) (w6 : Value) (w7 : Value) (w8 : Value) (w9 : Value) (p3 : Int32) (p4 : Int32) (p5 : Int32) (p6 : Int32) (p7 : Int32) (p8 : Int32) (p9 : Int32) (w10 : Value) (w11 : Value) (w12 : Value) (w13 : Value) (w14 : Value) (w15 : Value) (f0 : Nat → Int32) (w16 : Value) (w17 : Value) (p10 : Int32) (w18 : Value) (w19 : Value) (f1 : Nat → Int32) (hp0 : 0 ≤ (p0).toInt ∧ (p0).toInt ≤ 900) (hp1 : (-2147483648) ≤ (p1).toInt ∧ (p1).toInt ≤ 2147483647) (hp2 : (-2147483648) ≤ (p2).toInt ∧ (p2).toInt ≤ 2147483647) (hp3 : (-2147483648) ≤ (p3).toInt ∧ (p3).toInt ≤ 2147483647) (hp4 : (-2147483648) ≤ (p4).toInt ∧ (p4).toInt ≤ 2147483647) (hp5 : (-2147483648) ≤ (p5).toInt ∧ (p5).toInt ≤ 2147483647) (hp6 : 1 ≤ (p6).toInt ∧ (p6).toInt ≤ 3) (hp7 : 0 ≤ (p7).toInt ∧ (p7).toInt ≤ 10) (hp8 : (-2147483648) ≤ (p8).toInt ∧ (p8).toInt ≤ 2147483647) (hp9 : (-2147483648) ≤ (p9).toInt ∧ (p9).toInt ≤ 2147483647) (hp10 : 0 ≤ (p10).toInt ∧ (p10).toInt ≤ 10) (rf0 : RG f0 10 0 999) (rf1 : RG f1 10 0 1023) (sz : Nat) : MV l yX11_drawToday cX11_drawToday 1 { frames := 2, cells := 0, slots := 0, locals := 52 } [.ref h0] D cy [(h0, .inr (11, [w0, .int p0, .int p1, .int p2, w1, .ref h1, w2, w3, w4, w5, w6, w7, .ref h4, .ref h5, w8, w9, .int p3])), (h1, .inr (7, [.ref h2, .int p4, .int p5, .ref h3])), (h2, .inr (3, [.int p6, .int p7, .int p8, .int p9, .null, w10, w10, w11, w12, w13, w14, w15])), (h3, .inl (cy 1, 10, .inl f0)), (h4, .inr (6, [w16, w17])), (h5, .inr (0, [.int p10, .ref h6, w18, w19])), (h6, .inl (cy 1, 10, .inl f1))] sz (fun u => (0 ≤ (u.2.1 0 0).toInt ∧ (u.2.1 0 0).toInt ≤ 10) ∧ RG (u.2.1 1) 10 0 1023 ∧ True) (fun u => [(h0, .inr (11, [w0, .int p0, .int p1, .int p2, w1, .ref h1, w2, w3, w4, w5, w6, w7, .ref h4, .ref h5, w8, w9, .int p3])), (h1, .inr (7, [.ref h2, .int p4, .int p5, .ref h3])), (h2, .inr (3, [.int p6, .int p7, .int p8, .int p9, .null, w10, w10, w11, w12, w13, w14, w15])), (h3, .inl (cy 1, 10, .inl f0)), (h4, .inr (6, [w16, w17])), (h5, .inr (0, [.int (u.2.1 0 0), .ref h6, w18, w19])), (h6, .inl (cy 1, 10, .inl (u.2.1 1)))]) 0 0 := by
  refine q_ent (own := RX11) (by decide) rfl (Nat.le_of_ble_eq_true rfl) (fun p e s m below meth c ls X hr hlk hnm hK hT h hA hl => ?_)
  obtain ⟨hx, hb, hml, hown, ht⟩ := id X
  replace hl : lv_has ls 1 [(0, .ref h0)] := hl
  refine lv_aload_n hx hb dX11_drawToday_0 rfl (lv_at hl 0 rfl) ?_
  refine q_get X hK h 0 rfl rfl wf_11 13 (by decide) rfl wm_2_111 dX11_drawToday_1 ?_
  refine lv_aload_n hx hb dX11_drawToday_4 rfl (lv_at hl 0 rfl) ?_
  refine q_get X hK h 0 rfl rfl wf_11 5 (by decide) rfl wm_2_103 dX11_drawToday_5 ?_
  refine lv_aload_n hx hb dX11_drawToday_8 rfl (lv_at hl 0 rfl) ?_
  refine q_get X hK h 0 rfl rfl wf_11 5 (by decide) rfl wm_2_103 dX11_drawToday_9 ?_
  refine q_get X hK h 1 rfl rfl wf_7 1 (by decide) rfl wm_2_47 dX11_drawToday_12 ?_
  refine lv_aload_n hx hb dX11_drawToday_15 rfl (lv_at hl 0 rfl) ?_
  refine q_get X hK h 0 rfl rfl wf_11 12 (by decide) rfl wm_2_110 dX11_drawToday_16 ?_
  refine q_callVv (rest := []) (wr := [(h0, .inr (11, [w0, .int p0, .int p1, .int p2, w1, .ref h1, w2, w3, w4, w5, w6, w7, .ref h4, .ref h5, w8, w9, .int p3]))]) X hK hT hA h (fun sz => gX0_draw_01860c8 l D cy h5 h6 h1 h2 h3 h4 p4 p10 w18 w19 f1 p5 p6 p7 p8 p9 w10 w11 w12 w13 w14 w15 f0 w16 w17 (i_rng _) hp10 (i_rng _) hp6 hp7 (i_rng _) (i_rng _) (rg_wide rf1 (by decide) (by decide)) (rg_wide rf0 (by decide) (by decide)) sz) wm_4_101 wm_4_104 wm_1_6 hd_X0_draw wm_4_102 wm_4_103 (ci := 0) (q0 := 0) rfl rfl ⟨Nat.le_of_ble_eq_true rfl, Nat.le_of_ble_eq_true rfl⟩ hl.1 rfl (Nat.le_of_ble_eq_true rfl) dX11_drawToday_19 ⟨Nat.le_of_ble_eq_true rfl, Nat.le_of_ble_eq_true rfl⟩ [5, 6, 1, 2, 3, 4] [0] rfl rfl (by decide) rfl rfl (fun u_1 H locs w_1 h_1 => ?_)
  clear h
  obtain ⟨w1_0, w1_1, _⟩ := w_1
  replace h_1 : qW D _ _ [(h0, .inr (11, [w0, .int p0, .int p1, .int p2, w1, .ref h1, w2, w3, w4, w5, w6, w7, .ref h4, .ref h5, w8, w9, .int p3])), (h5, .inr (0, [.int (u_1.2.1 0 0), .ref h6, w18, w19])), (h6, .inl (cy 1, 10, .inl (u_1.2.1 1))), (h1, .inr (7, [.ref h2, .int p4, .int p5, .ref h3])), (h2, .inr (3, [.int p6, .int p7, .int p8, .int p9, .null, w10, w10, w11, w12, w13, w14, w15])), (h3, .inl (cy 1, 10, .inl f0)), (h4, .inr (6, [w16, w17]))] _ _ := h_1
  exact q_vret X hr hlk hK h_1 (fun _ => 0, fun k => List.getD [(fun _ => (u_1.2.1 0 0)), (u_1.2.1 1)] k (fun _ => 0), fun _ _ => 0) ⟨(w1_0 : 0 ≤ ((u_1.2.1 0 0) : Int32).toInt ∧ ((u_1.2.1 0 0) : Int32).toInt ≤ 10), (rg_wide w1_1 (by decide) (by decide)), trivial⟩ [0, 3, 4, 5, 6, 1, 2] rfl rfl dX11_drawToday_22 (Nat.le_of_ble_eq_true rfl) (Nat.le_of_ble_eq_true rfl)
set_option maxHeartbeats 4000000 in
set_option maxRecDepth 100000 in
theorem gJ6_bitCount_0f7a4_df1b4d9 (l : Launch) (D : va_G) (cy : Nat → ClassId) (p0 : Int32) (hp0 : (-2147483648) ≤ (p0).toInt ∧ (p0).toInt ≤ 2147483647) (sz : Nat) : MI l yJ6_bitCount_0f7a4 cJ6_bitCount_0f7a4 1 .int { frames := 0, cells := 0, slots := 0, locals := 0 } [.int p0] D cy [] sz (fun r u => r = bcx p0 ∧ True) (fun u => []) 0 0 := by
  refine q_ent (own := RJ6) (by decide) rfl (Nat.le_of_ble_eq_true rfl) (fun p e s m below meth c ls X hr hlk hnm hK hT h hA hl => ?_)
  obtain ⟨hx, hb, hml, hown, ht⟩ := id X
  replace hl : lv_has ls 1 [(0, .int p0)] := hl
  refine lv_iload_n hx hb dJ6_bitCount_0f7a4_0 rfl (lv_at hl 0 rfl) ?_
  refine lv_iload_n hx hb dJ6_bitCount_0f7a4_1 rfl (lv_at hl 0 rfl) ?_
  refine lv_iconst (v := 1) hx hb dJ6_bitCount_0f7a4_2 (by decide) ?_
  refine lv_iushr hx hb dJ6_bitCount_0f7a4_3 rfl ?_
  refine lv_ldcw hx hb hown (ht _ wm_4_60) dJ6_bitCount_0f7a4_4 ?_
  refine lv_iand hx hb dJ6_bitCount_0f7a4_7 ?_
  refine lv_isub hx hb dJ6_bitCount_0f7a4_8 ?_
  refine lv_istore_n (lv' := [(0, .int (p0 - ((((p0).toUInt32 >>> ((1 : Int32).toUInt32 &&& Int32.toUInt32 31)).toInt32) &&& 1431655765)))]) hx hb dJ6_bitCount_0f7a4_9 rfl hl (by decide) rfl (fun ls_1 hl_1 => ?_)
  clear hl
  refine lv_iload_n hx hb dJ6_bitCount_0f7a4_10 rfl (lv_at hl_1 0 rfl) ?_
  refine lv_ldcw hx hb hown (ht _ wm_4_61) dJ6_bitCount_0f7a4_11 ?_
  refine lv_iand hx hb dJ6_bitCount_0f7a4_14 ?_
  refine lv_iload_n hx hb dJ6_bitCount_0f7a4_15 rfl (lv_at hl_1 0 rfl) ?_
  refine lv_iconst (v := 2) hx hb dJ6_bitCount_0f7a4_16 (by decide) ?_
  refine lv_iushr hx hb dJ6_bitCount_0f7a4_17 rfl ?_
  refine lv_ldcw hx hb hown (ht _ wm_4_61) dJ6_bitCount_0f7a4_18 ?_
  refine lv_iand hx hb dJ6_bitCount_0f7a4_21 ?_
  refine lv_iadd hx hb dJ6_bitCount_0f7a4_22 ?_
  refine lv_istore_n (lv' := [(0, .int (((p0 - ((((p0).toUInt32 >>> ((1 : Int32).toUInt32 &&& Int32.toUInt32 31)).toInt32) &&& 1431655765)) &&& 858993459) + (((((p0 - ((((p0).toUInt32 >>> ((1 : Int32).toUInt32 &&& Int32.toUInt32 31)).toInt32) &&& 1431655765))).toUInt32 >>> ((2 : Int32).toUInt32 &&& Int32.toUInt32 31)).toInt32) &&& 858993459)))]) hx hb dJ6_bitCount_0f7a4_23 rfl hl_1 (by decide) rfl (fun ls_2 hl_2 => ?_)
  clear hl_1
  refine lv_iload_n hx hb dJ6_bitCount_0f7a4_24 rfl (lv_at hl_2 0 rfl) ?_
  refine lv_iload_n hx hb dJ6_bitCount_0f7a4_25 rfl (lv_at hl_2 0 rfl) ?_
  refine lv_iconst (v := 4) hx hb dJ6_bitCount_0f7a4_26 (by decide) ?_
  refine lv_iushr hx hb dJ6_bitCount_0f7a4_27 rfl ?_
  refine lv_iadd hx hb dJ6_bitCount_0f7a4_28 ?_
  refine lv_ldcw hx hb hown (ht _ wm_4_62) dJ6_bitCount_0f7a4_29 ?_
  refine lv_iand hx hb dJ6_bitCount_0f7a4_32 ?_
  refine lv_istore_n (lv' := [(0, .int (((((p0 - ((((p0).toUInt32 >>> ((1 : Int32).toUInt32 &&& Int32.toUInt32 31)).toInt32) &&& 1431655765)) &&& 858993459) + (((((p0 - ((((p0).toUInt32 >>> ((1 : Int32).toUInt32 &&& Int32.toUInt32 31)).toInt32) &&& 1431655765))).toUInt32 >>> ((2 : Int32).toUInt32 &&& Int32.toUInt32 31)).toInt32) &&& 858993459)) + ((((((p0 - ((((p0).toUInt32 >>> ((1 : Int32).toUInt32 &&& Int32.toUInt32 31)).toInt32) &&& 1431655765)) &&& 858993459) + (((((p0 - ((((p0).toUInt32 >>> ((1 : Int32).toUInt32 &&& Int32.toUInt32 31)).toInt32) &&& 1431655765))).toUInt32 >>> ((2 : Int32).toUInt32 &&& Int32.toUInt32 31)).toInt32) &&& 858993459))).toUInt32 >>> ((4 : Int32).toUInt32 &&& Int32.toUInt32 31)).toInt32)) &&& 252645135))]) hx hb dJ6_bitCount_0f7a4_33 rfl hl_2 (by decide) rfl (fun ls_3 hl_3 => ?_)
  clear hl_2
  refine lv_iload_n hx hb dJ6_bitCount_0f7a4_34 rfl (lv_at hl_3 0 rfl) ?_
  refine lv_iload_n hx hb dJ6_bitCount_0f7a4_35 rfl (lv_at hl_3 0 rfl) ?_
  refine lv_bipush (v := 8) hx hb dJ6_bitCount_0f7a4_36 (by decide) ?_
  refine lv_iushr hx hb dJ6_bitCount_0f7a4_38 rfl ?_
  refine lv_iadd hx hb dJ6_bitCount_0f7a4_39 ?_
  refine lv_istore_n (lv' := [(0, .int ((((((p0 - ((((p0).toUInt32 >>> ((1 : Int32).toUInt32 &&& Int32.toUInt32 31)).toInt32) &&& 1431655765)) &&& 858993459) + (((((p0 - ((((p0).toUInt32 >>> ((1 : Int32).toUInt32 &&& Int32.toUInt32 31)).toInt32) &&& 1431655765))).toUInt32 >>> ((2 : Int32).toUInt32 &&& Int32.toUInt32 31)).toInt32) &&& 858993459)) + ((((((p0 - ((((p0).toUInt32 >>> ((1 : Int32).toUInt32 &&& Int32.toUInt32 31)).toInt32) &&& 1431655765)) &&& 858993459) + (((((p0 - ((((p0).toUInt32 >>> ((1 : Int32).toUInt32 &&& Int32.toUInt32 31)).toInt32) &&& 1431655765))).toUInt32 >>> ((2 : Int32).toUInt32 &&& Int32.toUInt32 31)).toInt32) &&& 858993459))).toUInt32 >>> ((4 : Int32).toUInt32 &&& Int32.toUInt32 31)).toInt32)) &&& 252645135) + ((((((((p0 - ((((p0).toUInt32 >>> ((1 : Int32).toUInt32 &&& Int32.toUInt32 31)).toInt32) &&& 1431655765)) &&& 858993459) + (((((p0 - ((((p0).toUInt32 >>> ((1 : Int32).toUInt32 &&& Int32.toUInt32 31)).toInt32) &&& 1431655765))).toUInt32 >>> ((2 : Int32).toUInt32 &&& Int32.toUInt32 31)).toInt32) &&& 858993459)) + ((((((p0 - ((((p0).toUInt32 >>> ((1 : Int32).toUInt32 &&& Int32.toUInt32 31)).toInt32) &&& 1431655765)) &&& 858993459) + (((((p0 - ((((p0).toUInt32 >>> ((1 : Int32).toUInt32 &&& Int32.toUInt32 31)).toInt32) &&& 1431655765))).toUInt32 >>> ((2 : Int32).toUInt32 &&& Int32.toUInt32 31)).toInt32) &&& 858993459))).toUInt32 >>> ((4 : Int32).toUInt32 &&& Int32.toUInt32 31)).toInt32)) &&& 252645135)).toUInt32 >>> ((8 : Int32).toUInt32 &&& Int32.toUInt32 31)).toInt32)))]) hx hb dJ6_bitCount_0f7a4_40 rfl hl_3 (by decide) rfl (fun ls_4 hl_4 => ?_)
  clear hl_3
  refine lv_iload_n hx hb dJ6_bitCount_0f7a4_41 rfl (lv_at hl_4 0 rfl) ?_
  refine lv_iload_n hx hb dJ6_bitCount_0f7a4_42 rfl (lv_at hl_4 0 rfl) ?_
  refine lv_bipush (v := 16) hx hb dJ6_bitCount_0f7a4_43 (by decide) ?_
  refine lv_iushr hx hb dJ6_bitCount_0f7a4_45 rfl ?_
  refine lv_iadd hx hb dJ6_bitCount_0f7a4_46 ?_
  refine lv_istore_n (lv' := [(0, .int (((((((p0 - ((((p0).toUInt32 >>> ((1 : Int32).toUInt32 &&& Int32.toUInt32 31)).toInt32) &&& 1431655765)) &&& 858993459) + (((((p0 - ((((p0).toUInt32 >>> ((1 : Int32).toUInt32 &&& Int32.toUInt32 31)).toInt32) &&& 1431655765))).toUInt32 >>> ((2 : Int32).toUInt32 &&& Int32.toUInt32 31)).toInt32) &&& 858993459)) + ((((((p0 - ((((p0).toUInt32 >>> ((1 : Int32).toUInt32 &&& Int32.toUInt32 31)).toInt32) &&& 1431655765)) &&& 858993459) + (((((p0 - ((((p0).toUInt32 >>> ((1 : Int32).toUInt32 &&& Int32.toUInt32 31)).toInt32) &&& 1431655765))).toUInt32 >>> ((2 : Int32).toUInt32 &&& Int32.toUInt32 31)).toInt32) &&& 858993459))).toUInt32 >>> ((4 : Int32).toUInt32 &&& Int32.toUInt32 31)).toInt32)) &&& 252645135) + ((((((((p0 - ((((p0).toUInt32 >>> ((1 : Int32).toUInt32 &&& Int32.toUInt32 31)).toInt32) &&& 1431655765)) &&& 858993459) + (((((p0 - ((((p0).toUInt32 >>> ((1 : Int32).toUInt32 &&& Int32.toUInt32 31)).toInt32) &&& 1431655765))).toUInt32 >>> ((2 : Int32).toUInt32 &&& Int32.toUInt32 31)).toInt32) &&& 858993459)) + ((((((p0 - ((((p0).toUInt32 >>> ((1 : Int32).toUInt32 &&& Int32.toUInt32 31)).toInt32) &&& 1431655765)) &&& 858993459) + (((((p0 - ((((p0).toUInt32 >>> ((1 : Int32).toUInt32 &&& Int32.toUInt32 31)).toInt32) &&& 1431655765))).toUInt32 >>> ((2 : Int32).toUInt32 &&& Int32.toUInt32 31)).toInt32) &&& 858993459))).toUInt32 >>> ((4 : Int32).toUInt32 &&& Int32.toUInt32 31)).toInt32)) &&& 252645135)).toUInt32 >>> ((8 : Int32).toUInt32 &&& Int32.toUInt32 31)).toInt32)) + (((((((((p0 - ((((p0).toUInt32 >>> ((1 : Int32).toUInt32 &&& Int32.toUInt32 31)).toInt32) &&& 1431655765)) &&& 858993459) + (((((p0 - ((((p0).toUInt32 >>> ((1 : Int32).toUInt32 &&& Int32.toUInt32 31)).toInt32) &&& 1431655765))).toUInt32 >>> ((2 : Int32).toUInt32 &&& Int32.toUInt32 31)).toInt32) &&& 858993459)) + ((((((p0 - ((((p0).toUInt32 >>> ((1 : Int32).toUInt32 &&& Int32.toUInt32 31)).toInt32) &&& 1431655765)) &&& 858993459) + (((((p0 - ((((p0).toUInt32 >>> ((1 : Int32).toUInt32 &&& Int32.toUInt32 31)).toInt32) &&& 1431655765))).toUInt32 >>> ((2 : Int32).toUInt32 &&& Int32.toUInt32 31)).toInt32) &&& 858993459))).toUInt32 >>> ((4 : Int32).toUInt32 &&& Int32.toUInt32 31)).toInt32)) &&& 252645135) + ((((((((p0 - ((((p0).toUInt32 >>> ((1 : Int32).toUInt32 &&& Int32.toUInt32 31)).toInt32) &&& 1431655765)) &&& 858993459) + (((((p0 - ((((p0).toUInt32 >>> ((1 : Int32).toUInt32 &&& Int32.toUInt32 31)).toInt32) &&& 1431655765))).toUInt32 >>> ((2 : Int32).toUInt32 &&& Int32.toUInt32 31)).toInt32) &&& 858993459)) + ((((((p0 - ((((p0).toUInt32 >>> ((1 : Int32).toUInt32 &&& Int32.toUInt32 31)).toInt32) &&& 1431655765)) &&& 858993459) + (((((p0 - ((((p0).toUInt32 >>> ((1 : Int32).toUInt32 &&& Int32.toUInt32 31)).toInt32) &&& 1431655765))).toUInt32 >>> ((2 : Int32).toUInt32 &&& Int32.toUInt32 31)).toInt32) &&& 858993459))).toUInt32 >>> ((4 : Int32).toUInt32 &&& Int32.toUInt32 31)).toInt32)) &&& 252645135)).toUInt32 >>> ((8 : Int32).toUInt32 &&& Int32.toUInt32 31)).toInt32))).toUInt32 >>> ((16 : Int32).toUInt32 &&& Int32.toUInt32 31)).toInt32)))]) hx hb dJ6_bitCount_0f7a4_47 rfl hl_4 (by decide) rfl (fun ls_5 hl_5 => ?_)
  clear hl_4
  refine lv_iload_n hx hb dJ6_bitCount_0f7a4_48 rfl (lv_at hl_5 0 rfl) ?_
  refine lv_bipush (v := 63) hx hb dJ6_bitCount_0f7a4_49 (by decide) ?_
  refine lv_iand hx hb dJ6_bitCount_0f7a4_51 ?_
  exact q_iret X hr hlk hK h rfl (fun _ => 0, fun _ _ => 0, fun _ _ => 0) ⟨rfl, trivial⟩ [] rfl rfl dJ6_bitCount_0f7a4_52 (Nat.le_of_ble_eq_true rfl) (Nat.le_of_ble_eq_true rfl)
set_option maxHeartbeats 4000000 in
set_option maxRecDepth 100000 in
theorem gX0_lowestOf_af0d02d (l : Launch) (D : va_G) (cy : Nat → ClassId) (p0 : Int32) (hp0 : 1 ≤ (p0).toInt ∧ (p0).toInt ≤ 1023) (sz : Nat) : MI l yX0_lowestOf cX0_lowestOf 1 .int { frames := 1, cells := 0, slots := 0, locals := 20 } [.int p0] D cy [] sz (fun r u => (0 ≤ r.toInt ∧ r.toInt ≤ 9) ∧ True) (fun u => []) 0 0 := by
  refine q_ent (own := RX0) (by decide) rfl (Nat.le_of_ble_eq_true rfl) (fun p e s m below meth c ls X hr hlk hnm hK hT h hA hl => ?_)
  obtain ⟨hx, hb, hml, hown, ht⟩ := id X
  replace hl : lv_has ls 1 [(0, .int p0)] := hl
  refine lv_iload_n hx hb dX0_lowestOf_0 rfl (lv_at hl 0 rfl) ?_
  refine lv_iload_n hx hb dX0_lowestOf_1 rfl (lv_at hl 0 rfl) ?_
  refine lv_ineg hx hb dX0_lowestOf_2 ?_
  refine lv_iand hx hb dX0_lowestOf_3 ?_
  refine lv_iconst (v := 1) hx hb dX0_lowestOf_4 (by decide) ?_
  refine lv_isub hx hb dX0_lowestOf_5 ?_
  refine q_callSi (rest := []) (wr := []) X hK hT hA h (fun sz => gJ6_bitCount_0f7a4_df1b4d9 l D cy ((p0 &&& (-p0)) - 1) (i_rng _) sz) wm_4_116 wm_4_59 wm_1_22 hd_J6_bitCount_0f7a4 wm_4_58 ⟨Nat.le_of_ble_eq_true rfl, Nat.le_of_ble_eq_true rfl⟩ hl.1 rfl (Nat.le_of_ble_eq_true rfl) dX0_lowestOf_6 ⟨Nat.le_of_ble_eq_true rfl, Nat.le_of_ble_eq_true rfl⟩ [] [] rfl rfl (by decide) rfl rfl (fun r_1 u_1 H locs w_1 h_1 => ?_)
  clear h
  obtain ⟨wr_1, _⟩ := w_1
  replace h_1 : qW D _ _ [] _ _ := h_1
  exact q_iret X hr hlk hK h_1 rfl (fun _ => 0, fun _ _ => 0, fun _ _ => 0) ⟨(by rw [wr_1]; exact bc_low hp0), trivial⟩ [] rfl rfl dX0_lowestOf_9 (Nat.le_of_ble_eq_true rfl) (Nat.le_of_ble_eq_true rfl)
set_option maxHeartbeats 4000000 in
set_option maxRecDepth 100000 in
theorem gX0_canSit_94cbe12 (l : Launch) (D : va_G) (cy : Nat → ClassId) (h0 : Nat) (p0 : Int32) (p1 : Int32) (w0 : Value) (w1 : Value) (w2 : Value) (hp0 : 0 ≤ (p0).toInt ∧ (p0).toInt ≤ 1023) (hp1 : 2 ≤ (p1).toInt ∧ (p1).toInt ≤ 10) (sz : Nat) : MI l yX0_canSit cX0_canSit 6 .boolean { frames := 0, cells := 0, slots := 0, locals := 0 } [.ref h0, .int p0, .int 10] D cy [(h0, .inr (0, [.int p1, w0, w1, w2]))] sz (fun r u => (0 ≤ r.toInt ∧ r.toInt ≤ 1) ∧ True) (fun u => [(h0, .inr (0, [.int p1, w0, w1, w2]))]) 0 0 := by
  refine q_ent (own := RX0) (by decide) rfl (Nat.le_of_ble_eq_true rfl) (fun p e s m below meth c ls X hr hlk hnm hK hT h hA hl => ?_)
  obtain ⟨hx, hb, hml, hown, ht⟩ := id X
  replace hl : lv_has ls 6 [(0, .ref h0), (1, .int p0), (2, .int 10)] := hl
  refine lv_iload_n hx hb dX0_canSit_0 rfl (lv_at hl 1 rfl) ?_
  refine lv_if_ne (tgt := 6) hx hb dX0_canSit_1 (by decide) (fun c_1 => ?_) (fun c_1 => ?_)
  · replace c_1 := i_ne (x := p0) (y := 0) rfl (show (0 : Int32).toInt = 0 by decide) c_1
    refine lv_iload_n hx hb dX0_canSit_6 rfl (lv_at hl 2 rfl) ?_
    refine lv_bipush (v := 10) hx hb dX0_canSit_7 (by decide) ?_
    refine lv_icmp_lt (tgt := 14) hx hb dX0_canSit_9 (by decide) (fun c => absurd c (by decide +kernel)) (fun _ => ?_)
    refine lv_iconst (v := 0) hx hb dX0_canSit_12 (by decide) ?_
    exact q_iret X hr hlk hK h rfl (fun _ => 0, fun _ _ => 0, fun _ _ => 0) ⟨⟨by decide +kernel, by decide +kernel⟩, trivial⟩ [0] rfl rfl dX0_canSit_13 (Nat.le_of_ble_eq_true rfl) (Nat.le_of_ble_eq_true rfl)
  · replace c_1 := i_eq (x := p0) (y := 0) rfl (show (0 : Int32).toInt = 0 by decide) c_1
    refine lv_iconst (v := 1) hx hb dX0_canSit_4 (by decide) ?_
    exact q_iret X hr hlk hK h rfl (fun _ => 0, fun _ _ => 0, fun _ _ => 0) ⟨⟨by decide +kernel, by decide +kernel⟩, trivial⟩ [0] rfl rfl dX0_canSit_5 (Nat.le_of_ble_eq_true rfl) (Nat.le_of_ble_eq_true rfl)
set_option maxHeartbeats 4000000 in
set_option maxRecDepth 100000 in
theorem gX0_canSit_3c62cd5 (l : Launch) (D : va_G) (cy : Nat → ClassId) (h0 : Nat) (h1 : Nat) (p0 : Int32) (p1 : Int32) (w0 : Value) (w1 : Value) (f0 : Nat → Int32) (hp0 : 0 ≤ (p0).toInt ∧ (p0).toInt ≤ 1023) (hp1 : 2 ≤ (p1).toInt ∧ (p1).toInt ≤ 10) (sz : Nat) : MI l yX0_canSit cX0_canSit 6 .boolean { frames := 2, cells := 0, slots := 0, locals := 40 } [.ref h0, .int p0, .int 9] D cy [(h0, .inr (0, [.int p1, .ref h1, w0, w1])), (h1, .inl (cy 1, 10, .inl f0))] sz (fun r u => (0 ≤ r.toInt ∧ r.toInt ≤ 1) ∧ True) (fun u => [(h0, .inr (0, [.int p1, .ref h1, w0, w1])), (h1, .inl (cy 1, 10, .inl f0))]) 0 0 := by
  refine q_ent (own := RX0) (by decide) rfl (Nat.le_of_ble_eq_true rfl) (fun p e s m below meth c ls X hr hlk hnm hK hT h hA hl => ?_)
  obtain ⟨hx, hb, hml, hown, ht⟩ := id X
  replace hl : lv_has ls 6 [(0, .ref h0), (1, .int p0), (2, .int 9)] := hl
  refine lv_iload_n hx hb dX0_canSit_0 rfl (lv_at hl 1 rfl) ?_
  refine lv_if_ne (tgt := 6) hx hb dX0_canSit_1 (by decide) (fun c_1 => ?_) (fun c_1 => ?_)
  · replace c_1 := i_ne (x := p0) (y := 0) rfl (show (0 : Int32).toInt = 0 by decide) c_1
    refine lv_iload_n hx hb dX0_canSit_6 rfl (lv_at hl 2 rfl) ?_
    refine lv_bipush (v := 10) hx hb dX0_canSit_7 (by decide) ?_
    refine lv_icmp_lt (tgt := 14) hx hb dX0_canSit_9 (by decide) (fun _ => ?_) (fun c => absurd c (by decide +kernel))
    refine lv_iload_n hx hb dX0_canSit_14 rfl (lv_at hl 1 rfl) ?_
    refine q_callSi (rest := []) (wr := [(h0, .inr (0, [.int p1, .ref h1, w0, w1])), (h1, .inl (cy 1, 10, .inl f0))]) X hK hT hA h (fun sz => gX0_lowestOf_af0d02d l D cy p0 ⟨by omega, by omega⟩ sz) wm_4_113 wm_4_115 wm_1_6 hd_X0_lowestOf wm_4_114 ⟨Nat.le_of_ble_eq_true rfl, Nat.le_of_ble_eq_true rfl⟩ hl.1 rfl (Nat.le_of_ble_eq_true rfl) dX0_canSit_15 ⟨Nat.le_of_ble_eq_true rfl, Nat.le_of_ble_eq_true rfl⟩ [] [0, 1] rfl rfl (by decide) rfl rfl (fun r_2 u_2 H locs w_2 h_2 => ?_)
    clear h
    obtain ⟨wr_2, _⟩ := w_2
    replace h_2 : qW D _ _ [(h0, .inr (0, [.int p1, .ref h1, w0, w1])), (h1, .inl (cy 1, 10, .inl f0))] _ _ := h_2
    refine lv_istore_n (lv' := [(3, .int r_2), (0, .ref h0), (1, .int p0), (2, .int 9)]) hx hb dX0_canSit_18 rfl hl (by decide) rfl (fun ls_3 hl_3 => ?_)
    clear hl
    refine lv_aload_n hx hb dX0_canSit_19 rfl (lv_at hl_3 1 rfl) ?_
    refine q_get X hK h_2 0 rfl rfl wf_0 1 (by decide) rfl wm_1_199 dX0_canSit_20 ?_
    refine lv_iload_n hx hb dX0_canSit_23 rfl (lv_at hl_3 0 rfl) ?_
    refine q_iald X hK h_2 1 rfl (i_in rfl (by omega) (by omega)) dX0_canSit_24 ?_
    refine q_any (fun z_4 hz_4 => ?_)
    refine lv_iload_n hx hb dX0_canSit_25 rfl (lv_at hl_3 2 rfl) ?_
    refine lv_iand hx hb dX0_canSit_26 ?_
    obtain ⟨z_5, ez_5, hz_5⟩ := e_and2 (x := z_4) (y := p0) rfl (by omega)
    refine q_c z_5 ez_5 ?_
    clear ez_5
    refine lv_istore (lv' := [(4, .int z_5), (3, .int r_2), (0, .ref h0), (1, .int p0), (2, .int 9)]) hx hb dX0_canSit_27 hl_3 (by decide) rfl (fun ls_6 hl_6 => ?_)
    clear hl_3
    refine lv_iload_n hx hb dX0_canSit_29 rfl (lv_at hl_6 1 rfl) ?_
    refine lv_iconst (v := 1) hx hb dX0_canSit_30 (by decide) ?_
    refine lv_iadd hx hb dX0_canSit_31 ?_
    obtain ⟨z_7, ez_7, hz_7⟩ := e_add (x := r_2) (y := 1) rfl (show (1 : Int32).toInt = 1 by decide) (by omega) (by omega)
    refine q_c z_7 ez_7 ?_
    clear ez_7
    refine lv_istore (lv' := [(5, .int z_7), (4, .int z_5), (3, .int r_2), (0, .ref h0), (1, .int p0), (2, .int 9)]) hx hb dX0_canSit_32 hl_6 (by decide) rfl (fun ls_8 hl_8 => ?_)
    clear hl_6
    refine q_wl (fun (v34_9_0 : Int32) H locs ls => (1 ≤ (v34_9_0).toInt ∧ (v34_9_0).toInt ≤ 10) ∧ qW D (va_A [(h0, .inr (0, [.int p1, .ref h1, w0, w1])), (h1, .inl (cy 1, 10, .inl f0))] sz) s.heap [(h0, .inr (0, [.int p1, .ref h1, w0, w1])), (h1, .inl (cy 1, 10, .inl f0))] H locs ∧ lv_has ls 6 [(0, .ref h0), (1, .int p0), (2, .int 9), (3, .int r_2), (4, .int z_5), (5, .int v34_9_0)]) (fun (v34_9_0 : Int32) => (11 - (v34_9_0).toInt).toNat) (fun q_34 ih_34 H locs ls hP => ?_) z_7 ⟨⟨by omega, by omega⟩, h_2, (lv_sub hl_8 [3, 4, 5, 2, 1, 0] rfl)⟩
    obtain ⟨v34_9_0, rfl⟩ : ∃ z, z = q_34 := ⟨_, rfl⟩
    obtain ⟨hv34_9_0, h, hl⟩ := hP
    refine lv_iload hx hb dX0_canSit_34 (lv_at hl 5 rfl) ?_
    refine lv_aload_n hx hb dX0_canSit_36 rfl (lv_at hl 0 rfl) ?_
    refine q_get X hK h 0 rfl rfl wf_0 0 (by decide) rfl wm_1_198 dX0_canSit_37 ?_
    refine lv_icmp_ge (tgt := 84) hx hb dX0_canSit_40 (by decide) (fun c_10 => ?_) (fun c_10 => ?_)
    · replace c_10 := i_le (x := p1) (y := v34_9_0) rfl rfl c_10
      refine lv_iconst (v := 0) hx hb dX0_canSit_84 (by decide) ?_
      exact q_iret X hr hlk hK h rfl (fun _ => 0, fun _ _ => 0, fun _ _ => 0) ⟨⟨by decide +kernel, by decide +kernel⟩, trivial⟩ [0, 1] rfl rfl dX0_canSit_85 (Nat.le_of_ble_eq_true rfl) (Nat.le_of_ble_eq_true rfl)
    · replace c_10 := i_nle (x := p1) (y := v34_9_0) rfl rfl c_10
      refine lv_iload hx hb dX0_canSit_43 (lv_at hl 4 rfl) ?_
      refine lv_iload hx hb dX0_canSit_45 (lv_at hl 5 rfl) ?_
      refine lv_ishr hx hb dX0_canSit_47 ?_
      obtain ⟨z_11, ez_11, hz_11⟩ := e_shr (x := z_5) v34_9_0 rfl (by omega)
      refine q_c z_11 ez_11 ?_
      clear ez_11
      refine lv_iconst (v := 1) hx hb dX0_canSit_48 (by decide) ?_
      refine lv_iand hx hb dX0_canSit_49 ?_
      obtain ⟨z_12, ez_12, hz_12⟩ := e_and2 (x := z_11) (y := 1) (show (1 : Int32).toInt = 1 by decide) (by omega)
      refine q_c z_12 ez_12 ?_
      clear ez_12
      refine lv_iconst (v := 1) hx hb dX0_canSit_50 (by decide) ?_
      refine q_jn (pc2 := 78) (fun H locs ls st => st = [] ∧ qW D (va_A [(h0, .inr (0, [.int p1, .ref h1, w0, w1])), (h1, .inl (cy 1, 10, .inl f0))] sz) s.heap [(h0, .inr (0, [.int p1, .ref h1, w0, w1])), (h1, .inl (cy 1, 10, .inl f0))] H locs ∧ lv_has ls 6 [(0, .ref h0), (1, .int p0), (2, .int 9), (3, .int r_2), (4, .int z_5), (5, .int v34_9_0)]) (fun H locs ls st hP => ?_) (fun J_78 => ?_)
      · obtain ⟨rfl, h, hl⟩ := hP
        obtain ⟨z_14, ez_14, hz_14⟩ := e_add (x := v34_9_0) (y := Int32.ofInt 1) rfl (b := 1) (by decide) (by omega) (by omega)
        refine lv_iinc (v := z_14) (lv' := [(5, .int z_14), (0, .ref h0), (1, .int p0), (2, .int 9), (3, .int r_2), (4, .int z_5)]) hx hb dX0_canSit_78 hl (k := 5) rfl ez_14 (by decide) rfl (fun ls_14 hl_14 => ?_)
        clear hl
        refine lv_goto (tgt := 34) hx hb dX0_canSit_81 (by decide) ?_
        exact ih_34 z_14 (by show (11 - (z_14).toInt).toNat < (11 - (v34_9_0).toInt).toNat; omega) _ _ _ ⟨⟨by omega, by omega⟩, h, (lv_sub hl_14 [1, 2, 3, 4, 5, 0] rfl)⟩
      · skip
        refine lv_icmp_ne (tgt := 78) hx hb dX0_canSit_51 (by decide) (fun c_15 => ?_) (fun c_15 => ?_)
        · replace c_15 := i_ne (x := z_12) (y := 1) rfl (show (1 : Int32).toInt = 1 by decide) c_15
          exact J_78 _ _ _ _ ⟨rfl, h, (lv_sub hl [0, 1, 2, 3, 4, 5] rfl)⟩
        · replace c_15 := i_eq (x := z_12) (y := 1) rfl (show (1 : Int32).toInt = 1 by decide) c_15
          refine lv_aload_n hx hb dX0_canSit_54 rfl (lv_at hl 0 rfl) ?_
          refine lv_iload_n hx hb dX0_canSit_55 rfl (lv_at hl 1 rfl) ?_
          refine lv_iconst (v := 1) hx hb dX0_canSit_56 (by decide) ?_
          refine lv_iload_n hx hb dX0_canSit_57 rfl (lv_at hl 3 rfl) ?_
          refine lv_ishl hx hb dX0_canSit_58 ?_
          obtain ⟨z_16, ez_16, hz_16⟩ := e_shlk (p := r_2) 9 (by decide) rfl (by omega) (by omega)
          refine q_c z_16 ez_16 ?_
          clear ez_16
          refine lv_iconst (v := 1) hx hb dX0_canSit_59 (by decide) ?_
          refine lv_iload hx hb dX0_canSit_60 (lv_at hl 5 rfl) ?_
          refine lv_ishl hx hb dX0_canSit_62 ?_
          obtain ⟨z_17, ez_17, hz_17⟩ := e_shlk (p := v34_9_0) 9 (by decide) rfl (by omega) (by omega)
          refine q_c z_17 ez_17 ?_
          clear ez_17
          refine lv_ior hx hb dX0_canSit_63 ?_
          obtain ⟨z_18, ez_18, hz_18⟩ := e_or (x := z_16) (y := z_17) 10 (by decide) rfl rfl (by omega) (by omega) (by omega) (by omega)
          refine q_c z_18 ez_18 ?_
          clear ez_18
          refine lv_iconst (v := (-1)) hx hb dX0_canSit_64 (by decide) ?_
          refine lv_ixor hx hb dX0_canSit_65 ?_
          refine q_any (fun z_19 hz_19 => ?_)
          refine lv_iand hx hb dX0_canSit_66 ?_
          obtain ⟨z_20, ez_20, hz_20⟩ := e_and1 (x := p0) (y := z_19) rfl (by omega)
          refine q_c z_20 ez_20 ?_
          clear ez_20
          refine lv_iload_n hx hb dX0_canSit_67 rfl (lv_at hl 2 rfl) ?_
          refine lv_iconst (v := 1) hx hb dX0_canSit_68 (by decide) ?_
          refine lv_iadd hx hb dX0_canSit_69 ?_
          refine q_c 10 (by decide +kernel) ?_
          refine q_callVi (rest := []) (wr := [(h1, .inl (cy 1, 10, .inl f0))]) X hK hT hA h (fun sz => gX0_canSit_94cbe12 l D cy h0 z_20 p1 (.ref h1) w0 w1 ⟨by omega, by omega⟩ hp1 sz) wm_4_117 wm_4_112 wm_1_6 hd_X0_canSit wm_4_110 wm_4_111 (ci := 0) (q0 := 0) rfl rfl ⟨Nat.le_of_ble_eq_true rfl, Nat.le_of_ble_eq_true rfl⟩ hl.1 rfl (Nat.le_of_ble_eq_true rfl) dX0_canSit_70 ⟨Nat.le_of_ble_eq_true rfl, Nat.le_of_ble_eq_true rfl⟩ [0] [1] rfl rfl (by decide) rfl rfl (fun r_21 u_21 H locs w_21 h_21 => ?_)
          clear h
          obtain ⟨wr_21, _⟩ := w_21
          replace h_21 : qW D _ _ [(h1, .inl (cy 1, 10, .inl f0)), (h0, .inr (0, [.int p1, .ref h1, w0, w1]))] _ _ := h_21
          refine lv_if_eq (tgt := 78) hx hb dX0_canSit_73 (by decide) (fun c_22 => ?_) (fun c_22 => ?_)
          · replace c_22 := i_eq (x := r_21) (y := 0) rfl (show (0 : Int32).toInt = 0 by decide) c_22
            exact J_78 _ _ _ _ ⟨rfl, (q_re h_21 [1, 0] rfl rfl), (lv_sub hl [0, 1, 2, 3, 4, 5] rfl)⟩
          · replace c_22 := i_ne (x := r_21) (y := 0) rfl (show (0 : Int32).toInt = 0 by decide) c_22
            refine lv_iconst (v := 1) hx hb dX0_canSit_76 (by decide) ?_
            exact q_iret X hr hlk hK h_21 rfl (fun _ => 0, fun _ _ => 0, fun _ _ => 0) ⟨⟨by decide +kernel, by decide +kernel⟩, trivial⟩ [1, 0] rfl rfl dX0_canSit_77 (Nat.le_of_ble_eq_true rfl) (Nat.le_of_ble_eq_true rfl)
  · replace c_1 := i_eq (x := p0) (y := 0) rfl (show (0 : Int32).toInt = 0 by decide) c_1
    refine lv_iconst (v := 1) hx hb dX0_canSit_4 (by decide) ?_
    exact q_iret X hr hlk hK h rfl (fun _ => 0, fun _ _ => 0, fun _ _ => 0) ⟨⟨by decide +kernel, by decide +kernel⟩, trivial⟩ [0, 1] rfl rfl dX0_canSit_5 (Nat.le_of_ble_eq_true rfl) (Nat.le_of_ble_eq_true rfl)
set_option maxHeartbeats 4000000 in
set_option maxRecDepth 100000 in
theorem gX0_canSit_b0edb97 (l : Launch) (D : va_G) (cy : Nat → ClassId) (h0 : Nat) (h1 : Nat) (p0 : Int32) (p1 : Int32) (w0 : Value) (w1 : Value) (f0 : Nat → Int32) (hp0 : 0 ≤ (p0).toInt ∧ (p0).toInt ≤ 1023) (hp1 : 2 ≤ (p1).toInt ∧ (p1).toInt ≤ 10) (sz : Nat) : MI l yX0_canSit cX0_canSit 6 .boolean { frames := 3, cells := 0, slots := 0, locals := 65 } [.ref h0, .int p0, .int 8] D cy [(h0, .inr (0, [.int p1, .ref h1, w0, w1])), (h1, .inl (cy 1, 10, .inl f0))] sz (fun r u => (0 ≤ r.toInt ∧ r.toInt ≤ 1) ∧ True) (fun u => [(h0, .inr (0, [.int p1, .ref h1, w0, w1])), (h1, .inl (cy 1, 10, .inl f0))]) 0 0 := by
  refine q_ent (own := RX0) (by decide) rfl (Nat.le_of_ble_eq_true rfl) (fun p e s m below meth c ls X hr hlk hnm hK hT h hA hl => ?_)
  obtain ⟨hx, hb, hml, hown, ht⟩ := id X
  replace hl : lv_has ls 6 [(0, .ref h0), (1, .int p0), (2, .int 8)] := hl
  refine lv_iload_n hx hb dX0_canSit_0 rfl (lv_at hl 1 rfl) ?_
  refine lv_if_ne (tgt := 6) hx hb dX0_canSit_1 (by decide) (fun c_1 => ?_) (fun c_1 => ?_)
  · replace c_1 := i_ne (x := p0) (y := 0) rfl (show (0 : Int32).toInt = 0 by decide) c_1
    refine lv_iload_n hx hb dX0_canSit_6 rfl (lv_at hl 2 rfl) ?_
    refine lv_bipush (v := 10) hx hb dX0_canSit_7 (by decide) ?_
    refine lv_icmp_lt (tgt := 14) hx hb dX0_canSit_9 (by decide) (fun _ => ?_) (fun c => absurd c (by decide +kernel))
    refine lv_iload_n hx hb dX0_canSit_14 rfl (lv_at hl 1 rfl) ?_
    refine q_callSi (rest := []) (wr := [(h0, .inr (0, [.int p1, .ref h1, w0, w1])), (h1, .inl (cy 1, 10, .inl f0))]) X hK hT hA h (fun sz => gX0_lowestOf_af0d02d l D cy p0 ⟨by omega, by omega⟩ sz) wm_4_113 wm_4_115 wm_1_6 hd_X0_lowestOf wm_4_114 ⟨Nat.le_of_ble_eq_true rfl, Nat.le_of_ble_eq_true rfl⟩ hl.1 rfl (Nat.le_of_ble_eq_true rfl) dX0_canSit_15 ⟨Nat.le_of_ble_eq_true rfl, Nat.le_of_ble_eq_true rfl⟩ [] [0, 1] rfl rfl (by decide) rfl rfl (fun r_2 u_2 H locs w_2 h_2 => ?_)
    clear h
    obtain ⟨wr_2, _⟩ := w_2
    replace h_2 : qW D _ _ [(h0, .inr (0, [.int p1, .ref h1, w0, w1])), (h1, .inl (cy 1, 10, .inl f0))] _ _ := h_2
    refine lv_istore_n (lv' := [(3, .int r_2), (0, .ref h0), (1, .int p0), (2, .int 8)]) hx hb dX0_canSit_18 rfl hl (by decide) rfl (fun ls_3 hl_3 => ?_)
    clear hl
    refine lv_aload_n hx hb dX0_canSit_19 rfl (lv_at hl_3 1 rfl) ?_
    refine q_get X hK h_2 0 rfl rfl wf_0 1 (by decide) rfl wm_1_199 dX0_canSit_20 ?_
    refine lv_iload_n hx hb dX0_canSit_23 rfl (lv_at hl_3 0 rfl) ?_
    refine q_iald X hK h_2 1 rfl (i_in rfl (by omega) (by omega)) dX0_canSit_24 ?_
    refine q_any (fun z_4 hz_4 => ?_)
    refine lv_iload_n hx hb dX0_canSit_25 rfl (lv_at hl_3 2 rfl) ?_
    refine lv_iand hx hb dX0_canSit_26 ?_
    obtain ⟨z_5, ez_5, hz_5⟩ := e_and2 (x := z_4) (y := p0) rfl (by omega)
    refine q_c z_5 ez_5 ?_
    clear ez_5
    refine lv_istore (lv' := [(4, .int z_5), (3, .int r_2), (0, .ref h0), (1, .int p0), (2, .int 8)]) hx hb dX0_canSit_27 hl_3 (by decide) rfl (fun ls_6 hl_6 => ?_)
    clear hl_3
    refine lv_iload_n hx hb dX0_canSit_29 rfl (lv_at hl_6 1 rfl) ?_
    refine lv_iconst (v := 1) hx hb dX0_canSit_30 (by decide) ?_
    refine lv_iadd hx hb dX0_canSit_31 ?_
    obtain ⟨z_7, ez_7, hz_7⟩ := e_add (x := r_2) (y := 1) rfl (show (1 : Int32).toInt = 1 by decide) (by omega) (by omega)
    refine q_c z_7 ez_7 ?_
    clear ez_7
    refine lv_istore (lv' := [(5, .int z_7), (4, .int z_5), (3, .int r_2), (0, .ref h0), (1, .int p0), (2, .int 8)]) hx hb dX0_canSit_32 hl_6 (by decide) rfl (fun ls_8 hl_8 => ?_)
    clear hl_6
    refine q_wl (fun (v34_9_0 : Int32) H locs ls => (1 ≤ (v34_9_0).toInt ∧ (v34_9_0).toInt ≤ 10) ∧ qW D (va_A [(h0, .inr (0, [.int p1, .ref h1, w0, w1])), (h1, .inl (cy 1, 10, .inl f0))] sz) s.heap [(h0, .inr (0, [.int p1, .ref h1, w0, w1])), (h1, .inl (cy 1, 10, .inl f0))] H locs ∧ lv_has ls 6 [(0, .ref h0), (1, .int p0), (2, .int 8), (3, .int r_2), (4, .int z_5), (5, .int v34_9_0)]) (fun (v34_9_0 : Int32) => (11 - (v34_9_0).toInt).toNat) (fun q_34 ih_34 H locs ls hP => ?_) z_7 ⟨⟨by omega, by omega⟩, h_2, (lv_sub hl_8 [3, 4, 5, 2, 1, 0] rfl)⟩
    obtain ⟨v34_9_0, rfl⟩ : ∃ z, z = q_34 := ⟨_, rfl⟩
    obtain ⟨hv34_9_0, h, hl⟩ := hP
    refine lv_iload hx hb dX0_canSit_34 (lv_at hl 5 rfl) ?_
    refine lv_aload_n hx hb dX0_canSit_36 rfl (lv_at hl 0 rfl) ?_
    refine q_get X hK h 0 rfl rfl wf_0 0 (by decide) rfl wm_1_198 dX0_canSit_37 ?_
    refine lv_icmp_ge (tgt := 84) hx hb dX0_canSit_40 (by decide) (fun c_10 => ?_) (fun c_10 => ?_)
    · replace c_10 := i_le (x := p1) (y := v34_9_0) rfl rfl c_10
      refine lv_iconst (v := 0) hx hb dX0_canSit_84 (by decide) ?_
      exact q_iret X hr hlk hK h rfl (fun _ => 0, fun _ _ => 0, fun _ _ => 0) ⟨⟨by decide +kernel, by decide +kernel⟩, trivial⟩ [0, 1] rfl rfl dX0_canSit_85 (Nat.le_of_ble_eq_true rfl) (Nat.le_of_ble_eq_true rfl)
    · replace c_10 := i_nle (x := p1) (y := v34_9_0) rfl rfl c_10
      refine lv_iload hx hb dX0_canSit_43 (lv_at hl 4 rfl) ?_
      refine lv_iload hx hb dX0_canSit_45 (lv_at hl 5 rfl) ?_
      refine lv_ishr hx hb dX0_canSit_47 ?_
      obtain ⟨z_11, ez_11, hz_11⟩ := e_shr (x := z_5) v34_9_0 rfl (by omega)
      refine q_c z_11 ez_11 ?_
      clear ez_11
      refine lv_iconst (v := 1) hx hb dX0_canSit_48 (by decide) ?_
      refine lv_iand hx hb dX0_canSit_49 ?_
      obtain ⟨z_12, ez_12, hz_12⟩ := e_and2 (x := z_11) (y := 1) (show (1 : Int32).toInt = 1 by decide) (by omega)
      refine q_c z_12 ez_12 ?_
      clear ez_12
      refine lv_iconst (v := 1) hx hb dX0_canSit_50 (by decide) ?_
      refine q_jn (pc2 := 78) (fun H locs ls st => st = [] ∧ qW D (va_A [(h0, .inr (0, [.int p1, .ref h1, w0, w1])), (h1, .inl (cy 1, 10, .inl f0))] sz) s.heap [(h0, .inr (0, [.int p1, .ref h1, w0, w1])), (h1, .inl (cy 1, 10, .inl f0))] H locs ∧ lv_has ls 6 [(0, .ref h0), (1, .int p0), (2, .int 8), (3, .int r_2), (4, .int z_5), (5, .int v34_9_0)]) (fun H locs ls st hP => ?_) (fun J_78 => ?_)
      · obtain ⟨rfl, h, hl⟩ := hP
        obtain ⟨z_14, ez_14, hz_14⟩ := e_add (x := v34_9_0) (y := Int32.ofInt 1) rfl (b := 1) (by decide) (by omega) (by omega)
        refine lv_iinc (v := z_14) (lv' := [(5, .int z_14), (0, .ref h0), (1, .int p0), (2, .int 8), (3, .int r_2), (4, .int z_5)]) hx hb dX0_canSit_78 hl (k := 5) rfl ez_14 (by decide) rfl (fun ls_14 hl_14 => ?_)
        clear hl
        refine lv_goto (tgt := 34) hx hb dX0_canSit_81 (by decide) ?_
        exact ih_34 z_14 (by show (11 - (z_14).toInt).toNat < (11 - (v34_9_0).toInt).toNat; omega) _ _ _ ⟨⟨by omega, by omega⟩, h, (lv_sub hl_14 [1, 2, 3, 4, 5, 0] rfl)⟩
      · skip
        refine lv_icmp_ne (tgt := 78) hx hb dX0_canSit_51 (by decide) (fun c_15 => ?_) (fun c_15 => ?_)
        · replace c_15 := i_ne (x := z_12) (y := 1) rfl (show (1 : Int32).toInt = 1 by decide) c_15
          exact J_78 _ _ _ _ ⟨rfl, h, (lv_sub hl [0, 1, 2, 3, 4, 5] rfl)⟩
        · replace c_15 := i_eq (x := z_12) (y := 1) rfl (show (1 : Int32).toInt = 1 by decide) c_15
          refine lv_aload_n hx hb dX0_canSit_54 rfl (lv_at hl 0 rfl) ?_
          refine lv_iload_n hx hb dX0_canSit_55 rfl (lv_at hl 1 rfl) ?_
          refine lv_iconst (v := 1) hx hb dX0_canSit_56 (by decide) ?_
          refine lv_iload_n hx hb dX0_canSit_57 rfl (lv_at hl 3 rfl) ?_
          refine lv_ishl hx hb dX0_canSit_58 ?_
          obtain ⟨z_16, ez_16, hz_16⟩ := e_shlk (p := r_2) 9 (by decide) rfl (by omega) (by omega)
          refine q_c z_16 ez_16 ?_
          clear ez_16
          refine lv_iconst (v := 1) hx hb dX0_canSit_59 (by decide) ?_
          refine lv_iload hx hb dX0_canSit_60 (lv_at hl 5 rfl) ?_
          refine lv_ishl hx hb dX0_canSit_62 ?_
          obtain ⟨z_17, ez_17, hz_17⟩ := e_shlk (p := v34_9_0) 9 (by decide) rfl (by omega) (by omega)
          refine q_c z_17 ez_17 ?_
          clear ez_17
          refine lv_ior hx hb dX0_canSit_63 ?_
          obtain ⟨z_18, ez_18, hz_18⟩ := e_or (x := z_16) (y := z_17) 10 (by decide) rfl rfl (by omega) (by omega) (by omega) (by omega)
          refine q_c z_18 ez_18 ?_
          clear ez_18
          refine lv_iconst (v := (-1)) hx hb dX0_canSit_64 (by decide) ?_
          refine lv_ixor hx hb dX0_canSit_65 ?_
          refine q_any (fun z_19 hz_19 => ?_)
          refine lv_iand hx hb dX0_canSit_66 ?_
          obtain ⟨z_20, ez_20, hz_20⟩ := e_and1 (x := p0) (y := z_19) rfl (by omega)
          refine q_c z_20 ez_20 ?_
          clear ez_20
          refine lv_iload_n hx hb dX0_canSit_67 rfl (lv_at hl 2 rfl) ?_
          refine lv_iconst (v := 1) hx hb dX0_canSit_68 (by decide) ?_
          refine lv_iadd hx hb dX0_canSit_69 ?_
          refine q_c 9 (by decide +kernel) ?_
          refine q_callVi (rest := []) (wr := []) X hK hT hA h (fun sz => gX0_canSit_3c62cd5 l D cy h0 h1 z_20 p1 w0 w1 f0 ⟨by omega, by omega⟩ hp1 sz) wm_4_117 wm_4_112 wm_1_6 hd_X0_canSit wm_4_110 wm_4_111 (ci := 0) (q0 := 0) rfl rfl ⟨Nat.le_of_ble_eq_true rfl, Nat.le_of_ble_eq_true rfl⟩ hl.1 rfl (Nat.le_of_ble_eq_true rfl) dX0_canSit_70 ⟨Nat.le_of_ble_eq_true rfl, Nat.le_of_ble_eq_true rfl⟩ [0, 1] [] rfl rfl (by decide) rfl rfl (fun r_21 u_21 H locs w_21 h_21 => ?_)
          clear h
          obtain ⟨wr_21, _⟩ := w_21
          replace h_21 : qW D _ _ [(h0, .inr (0, [.int p1, .ref h1, w0, w1])), (h1, .inl (cy 1, 10, .inl f0))] _ _ := h_21
          refine lv_if_eq (tgt := 78) hx hb dX0_canSit_73 (by decide) (fun c_22 => ?_) (fun c_22 => ?_)
          · replace c_22 := i_eq (x := r_21) (y := 0) rfl (show (0 : Int32).toInt = 0 by decide) c_22
            exact J_78 _ _ _ _ ⟨rfl, h_21, (lv_sub hl [0, 1, 2, 3, 4, 5] rfl)⟩
          · replace c_22 := i_ne (x := r_21) (y := 0) rfl (show (0 : Int32).toInt = 0 by decide) c_22
            refine lv_iconst (v := 1) hx hb dX0_canSit_76 (by decide) ?_
            exact q_iret X hr hlk hK h_21 rfl (fun _ => 0, fun _ _ => 0, fun _ _ => 0) ⟨⟨by decide +kernel, by decide +kernel⟩, trivial⟩ [0, 1] rfl rfl dX0_canSit_77 (Nat.le_of_ble_eq_true rfl) (Nat.le_of_ble_eq_true rfl)
  · replace c_1 := i_eq (x := p0) (y := 0) rfl (show (0 : Int32).toInt = 0 by decide) c_1
    refine lv_iconst (v := 1) hx hb dX0_canSit_4 (by decide) ?_
    exact q_iret X hr hlk hK h rfl (fun _ => 0, fun _ _ => 0, fun _ _ => 0) ⟨⟨by decide +kernel, by decide +kernel⟩, trivial⟩ [0, 1] rfl rfl dX0_canSit_5 (Nat.le_of_ble_eq_true rfl) (Nat.le_of_ble_eq_true rfl)
set_option maxHeartbeats 4000000 in
set_option maxRecDepth 100000 in
theorem gX0_canSit_1864e05 (l : Launch) (D : va_G) (cy : Nat → ClassId) (h0 : Nat) (h1 : Nat) (p0 : Int32) (p1 : Int32) (w0 : Value) (w1 : Value) (f0 : Nat → Int32) (hp0 : 0 ≤ (p0).toInt ∧ (p0).toInt ≤ 1023) (hp1 : 2 ≤ (p1).toInt ∧ (p1).toInt ≤ 10) (sz : Nat) : MI l yX0_canSit cX0_canSit 6 .boolean { frames := 4, cells := 0, slots := 0, locals := 90 } [.ref h0, .int p0, .int 7] D cy [(h0, .inr (0, [.int p1, .ref h1, w0, w1])), (h1, .inl (cy 1, 10, .inl f0))] sz (fun r u => (0 ≤ r.toInt ∧ r.toInt ≤ 1) ∧ True) (fun u => [(h0, .inr (0, [.int p1, .ref h1, w0, w1])), (h1, .inl (cy 1, 10, .inl f0))]) 0 0 := by
  refine q_ent (own := RX0) (by decide) rfl (Nat.le_of_ble_eq_true rfl) (fun p e s m below meth c ls X hr hlk hnm hK hT h hA hl => ?_)
  obtain ⟨hx, hb, hml, hown, ht⟩ := id X
  replace hl : lv_has ls 6 [(0, .ref h0), (1, .int p0), (2, .int 7)] := hl
  refine lv_iload_n hx hb dX0_canSit_0 rfl (lv_at hl 1 rfl) ?_
  refine lv_if_ne (tgt := 6) hx hb dX0_canSit_1 (by decide) (fun c_1 => ?_) (fun c_1 => ?_)
  · replace c_1 := i_ne (x := p0) (y := 0) rfl (show (0 : Int32).toInt = 0 by decide) c_1
    refine lv_iload_n hx hb dX0_canSit_6 rfl (lv_at hl 2 rfl) ?_
    refine lv_bipush (v := 10) hx hb dX0_canSit_7 (by decide) ?_
    refine lv_icmp_lt (tgt := 14) hx hb dX0_canSit_9 (by decide) (fun _ => ?_) (fun c => absurd c (by decide +kernel))
    refine lv_iload_n hx hb dX0_canSit_14 rfl (lv_at hl 1 rfl) ?_
    refine q_callSi (rest := []) (wr := [(h0, .inr (0, [.int p1, .ref h1, w0, w1])), (h1, .inl (cy 1, 10, .inl f0))]) X hK hT hA h (fun sz => gX0_lowestOf_af0d02d l D cy p0 ⟨by omega, by omega⟩ sz) wm_4_113 wm_4_115 wm_1_6 hd_X0_lowestOf wm_4_114 ⟨Nat.le_of_ble_eq_true rfl, Nat.le_of_ble_eq_true rfl⟩ hl.1 rfl (Nat.le_of_ble_eq_true rfl) dX0_canSit_15 ⟨Nat.le_of_ble_eq_true rfl, Nat.le_of_ble_eq_true rfl⟩ [] [0, 1] rfl rfl (by decide) rfl rfl (fun r_2 u_2 H locs w_2 h_2 => ?_)
    clear h
    obtain ⟨wr_2, _⟩ := w_2
    replace h_2 : qW D _ _ [(h0, .inr (0, [.int p1, .ref h1, w0, w1])), (h1, .inl (cy 1, 10, .inl f0))] _ _ := h_2
    refine lv_istore_n (lv' := [(3, .int r_2), (0, .ref h0), (1, .int p0), (2, .int 7)]) hx hb dX0_canSit_18 rfl hl (by decide) rfl (fun ls_3 hl_3 => ?_)
    clear hl
    refine lv_aload_n hx hb dX0_canSit_19 rfl (lv_at hl_3 1 rfl) ?_
    refine q_get X hK h_2 0 rfl rfl wf_0 1 (by decide) rfl wm_1_199 dX0_canSit_20 ?_
    refine lv_iload_n hx hb dX0_canSit_23 rfl (lv_at hl_3 0 rfl) ?_
    refine q_iald X hK h_2 1 rfl (i_in rfl (by omega) (by omega)) dX0_canSit_24 ?_
    refine q_any (fun z_4 hz_4 => ?_)
    refine lv_iload_n hx hb dX0_canSit_25 rfl (lv_at hl_3 2 rfl) ?_
    refine lv_iand hx hb dX0_canSit_26 ?_
    obtain ⟨z_5, ez_5, hz_5⟩ := e_and2 (x := z_4) (y := p0) rfl (by omega)
    refine q_c z_5 ez_5 ?_
    clear ez_5
    refine lv_istore (lv' := [(4, .int z_5), (3, .int r_2), (0, .ref h0), (1, .int p0), (2, .int 7)]) hx hb dX0_canSit_27 hl_3 (by decide) rfl (fun ls_6 hl_6 => ?_)
    clear hl_3
    refine lv_iload_n hx hb dX0_canSit_29 rfl (lv_at hl_6 1 rfl) ?_
    refine lv_iconst (v := 1) hx hb dX0_canSit_30 (by decide) ?_
    refine lv_iadd hx hb dX0_canSit_31 ?_
    obtain ⟨z_7, ez_7, hz_7⟩ := e_add (x := r_2) (y := 1) rfl (show (1 : Int32).toInt = 1 by decide) (by omega) (by omega)
    refine q_c z_7 ez_7 ?_
    clear ez_7
    refine lv_istore (lv' := [(5, .int z_7), (4, .int z_5), (3, .int r_2), (0, .ref h0), (1, .int p0), (2, .int 7)]) hx hb dX0_canSit_32 hl_6 (by decide) rfl (fun ls_8 hl_8 => ?_)
    clear hl_6
    refine q_wl (fun (v34_9_0 : Int32) H locs ls => (1 ≤ (v34_9_0).toInt ∧ (v34_9_0).toInt ≤ 10) ∧ qW D (va_A [(h0, .inr (0, [.int p1, .ref h1, w0, w1])), (h1, .inl (cy 1, 10, .inl f0))] sz) s.heap [(h0, .inr (0, [.int p1, .ref h1, w0, w1])), (h1, .inl (cy 1, 10, .inl f0))] H locs ∧ lv_has ls 6 [(0, .ref h0), (1, .int p0), (2, .int 7), (3, .int r_2), (4, .int z_5), (5, .int v34_9_0)]) (fun (v34_9_0 : Int32) => (11 - (v34_9_0).toInt).toNat) (fun q_34 ih_34 H locs ls hP => ?_) z_7 ⟨⟨by omega, by omega⟩, h_2, (lv_sub hl_8 [3, 4, 5, 2, 1, 0] rfl)⟩
    obtain ⟨v34_9_0, rfl⟩ : ∃ z, z = q_34 := ⟨_, rfl⟩
    obtain ⟨hv34_9_0, h, hl⟩ := hP
    refine lv_iload hx hb dX0_canSit_34 (lv_at hl 5 rfl) ?_
    refine lv_aload_n hx hb dX0_canSit_36 rfl (lv_at hl 0 rfl) ?_
    refine q_get X hK h 0 rfl rfl wf_0 0 (by decide) rfl wm_1_198 dX0_canSit_37 ?_
    refine lv_icmp_ge (tgt := 84) hx hb dX0_canSit_40 (by decide) (fun c_10 => ?_) (fun c_10 => ?_)
    · replace c_10 := i_le (x := p1) (y := v34_9_0) rfl rfl c_10
      refine lv_iconst (v := 0) hx hb dX0_canSit_84 (by decide) ?_
      exact q_iret X hr hlk hK h rfl (fun _ => 0, fun _ _ => 0, fun _ _ => 0) ⟨⟨by decide +kernel, by decide +kernel⟩, trivial⟩ [0, 1] rfl rfl dX0_canSit_85 (Nat.le_of_ble_eq_true rfl) (Nat.le_of_ble_eq_true rfl)
    · replace c_10 := i_nle (x := p1) (y := v34_9_0) rfl rfl c_10
      refine lv_iload hx hb dX0_canSit_43 (lv_at hl 4 rfl) ?_
      refine lv_iload hx hb dX0_canSit_45 (lv_at hl 5 rfl) ?_
      refine lv_ishr hx hb dX0_canSit_47 ?_
      obtain ⟨z_11, ez_11, hz_11⟩ := e_shr (x := z_5) v34_9_0 rfl (by omega)
      refine q_c z_11 ez_11 ?_
      clear ez_11
      refine lv_iconst (v := 1) hx hb dX0_canSit_48 (by decide) ?_
      refine lv_iand hx hb dX0_canSit_49 ?_
      obtain ⟨z_12, ez_12, hz_12⟩ := e_and2 (x := z_11) (y := 1) (show (1 : Int32).toInt = 1 by decide) (by omega)
      refine q_c z_12 ez_12 ?_
      clear ez_12
      refine lv_iconst (v := 1) hx hb dX0_canSit_50 (by decide) ?_
      refine q_jn (pc2 := 78) (fun H locs ls st => st = [] ∧ qW D (va_A [(h0, .inr (0, [.int p1, .ref h1, w0, w1])), (h1, .inl (cy 1, 10, .inl f0))] sz) s.heap [(h0, .inr (0, [.int p1, .ref h1, w0, w1])), (h1, .inl (cy 1, 10, .inl f0))] H locs ∧ lv_has ls 6 [(0, .ref h0), (1, .int p0), (2, .int 7), (3, .int r_2), (4, .int z_5), (5, .int v34_9_0)]) (fun H locs ls st hP => ?_) (fun J_78 => ?_)
      · obtain ⟨rfl, h, hl⟩ := hP
        obtain ⟨z_14, ez_14, hz_14⟩ := e_add (x := v34_9_0) (y := Int32.ofInt 1) rfl (b := 1) (by decide) (by omega) (by omega)
        refine lv_iinc (v := z_14) (lv' := [(5, .int z_14), (0, .ref h0), (1, .int p0), (2, .int 7), (3, .int r_2), (4, .int z_5)]) hx hb dX0_canSit_78 hl (k := 5) rfl ez_14 (by decide) rfl (fun ls_14 hl_14 => ?_)
        clear hl
        refine lv_goto (tgt := 34) hx hb dX0_canSit_81 (by decide) ?_
        exact ih_34 z_14 (by show (11 - (z_14).toInt).toNat < (11 - (v34_9_0).toInt).toNat; omega) _ _ _ ⟨⟨by omega, by omega⟩, h, (lv_sub hl_14 [1, 2, 3, 4, 5, 0] rfl)⟩
      · skip
        refine lv_icmp_ne (tgt := 78) hx hb dX0_canSit_51 (by decide) (fun c_15 => ?_) (fun c_15 => ?_)
        · replace c_15 := i_ne (x := z_12) (y := 1) rfl (show (1 : Int32).toInt = 1 by decide) c_15
          exact J_78 _ _ _ _ ⟨rfl, h, (lv_sub hl [0, 1, 2, 3, 4, 5] rfl)⟩
        · replace c_15 := i_eq (x := z_12) (y := 1) rfl (show (1 : Int32).toInt = 1 by decide) c_15
          refine lv_aload_n hx hb dX0_canSit_54 rfl (lv_at hl 0 rfl) ?_
          refine lv_iload_n hx hb dX0_canSit_55 rfl (lv_at hl 1 rfl) ?_
          refine lv_iconst (v := 1) hx hb dX0_canSit_56 (by decide) ?_
          refine lv_iload_n hx hb dX0_canSit_57 rfl (lv_at hl 3 rfl) ?_
          refine lv_ishl hx hb dX0_canSit_58 ?_
          obtain ⟨z_16, ez_16, hz_16⟩ := e_shlk (p := r_2) 9 (by decide) rfl (by omega) (by omega)
          refine q_c z_16 ez_16 ?_
          clear ez_16
          refine lv_iconst (v := 1) hx hb dX0_canSit_59 (by decide) ?_
          refine lv_iload hx hb dX0_canSit_60 (lv_at hl 5 rfl) ?_
          refine lv_ishl hx hb dX0_canSit_62 ?_
          obtain ⟨z_17, ez_17, hz_17⟩ := e_shlk (p := v34_9_0) 9 (by decide) rfl (by omega) (by omega)
          refine q_c z_17 ez_17 ?_
          clear ez_17
          refine lv_ior hx hb dX0_canSit_63 ?_
          obtain ⟨z_18, ez_18, hz_18⟩ := e_or (x := z_16) (y := z_17) 10 (by decide) rfl rfl (by omega) (by omega) (by omega) (by omega)
          refine q_c z_18 ez_18 ?_
          clear ez_18
          refine lv_iconst (v := (-1)) hx hb dX0_canSit_64 (by decide) ?_
          refine lv_ixor hx hb dX0_canSit_65 ?_
          refine q_any (fun z_19 hz_19 => ?_)
          refine lv_iand hx hb dX0_canSit_66 ?_
          obtain ⟨z_20, ez_20, hz_20⟩ := e_and1 (x := p0) (y := z_19) rfl (by omega)
          refine q_c z_20 ez_20 ?_
          clear ez_20
          refine lv_iload_n hx hb dX0_canSit_67 rfl (lv_at hl 2 rfl) ?_
          refine lv_iconst (v := 1) hx hb dX0_canSit_68 (by decide) ?_
          refine lv_iadd hx hb dX0_canSit_69 ?_
          refine q_c 8 (by decide +kernel) ?_
          refine q_callVi (rest := []) (wr := []) X hK hT hA h (fun sz => gX0_canSit_b0edb97 l D cy h0 h1 z_20 p1 w0 w1 f0 ⟨by omega, by omega⟩ hp1 sz) wm_4_117 wm_4_112 wm_1_6 hd_X0_canSit wm_4_110 wm_4_111 (ci := 0) (q0 := 0) rfl rfl ⟨Nat.le_of_ble_eq_true rfl, Nat.le_of_ble_eq_true rfl⟩ hl.1 rfl (Nat.le_of_ble_eq_true rfl) dX0_canSit_70 ⟨Nat.le_of_ble_eq_true rfl, Nat.le_of_ble_eq_true rfl⟩ [0, 1] [] rfl rfl (by decide) rfl rfl (fun r_21 u_21 H locs w_21 h_21 => ?_)
          clear h
          obtain ⟨wr_21, _⟩ := w_21
          replace h_21 : qW D _ _ [(h0, .inr (0, [.int p1, .ref h1, w0, w1])), (h1, .inl (cy 1, 10, .inl f0))] _ _ := h_21
          refine lv_if_eq (tgt := 78) hx hb dX0_canSit_73 (by decide) (fun c_22 => ?_) (fun c_22 => ?_)
          · replace c_22 := i_eq (x := r_21) (y := 0) rfl (show (0 : Int32).toInt = 0 by decide) c_22
            exact J_78 _ _ _ _ ⟨rfl, h_21, (lv_sub hl [0, 1, 2, 3, 4, 5] rfl)⟩
          · replace c_22 := i_ne (x := r_21) (y := 0) rfl (show (0 : Int32).toInt = 0 by decide) c_22
            refine lv_iconst (v := 1) hx hb dX0_canSit_76 (by decide) ?_
            exact q_iret X hr hlk hK h_21 rfl (fun _ => 0, fun _ _ => 0, fun _ _ => 0) ⟨⟨by decide +kernel, by decide +kernel⟩, trivial⟩ [0, 1] rfl rfl dX0_canSit_77 (Nat.le_of_ble_eq_true rfl) (Nat.le_of_ble_eq_true rfl)
  · replace c_1 := i_eq (x := p0) (y := 0) rfl (show (0 : Int32).toInt = 0 by decide) c_1
    refine lv_iconst (v := 1) hx hb dX0_canSit_4 (by decide) ?_
    exact q_iret X hr hlk hK h rfl (fun _ => 0, fun _ _ => 0, fun _ _ => 0) ⟨⟨by decide +kernel, by decide +kernel⟩, trivial⟩ [0, 1] rfl rfl dX0_canSit_5 (Nat.le_of_ble_eq_true rfl) (Nat.le_of_ble_eq_true rfl)
set_option maxHeartbeats 4000000 in
set_option maxRecDepth 100000 in
theorem gX0_canSit_642cf7d (l : Launch) (D : va_G) (cy : Nat → ClassId) (h0 : Nat) (h1 : Nat) (p0 : Int32) (p1 : Int32) (w0 : Value) (w1 : Value) (f0 : Nat → Int32) (hp0 : 0 ≤ (p0).toInt ∧ (p0).toInt ≤ 1023) (hp1 : 2 ≤ (p1).toInt ∧ (p1).toInt ≤ 10) (sz : Nat) : MI l yX0_canSit cX0_canSit 6 .boolean { frames := 5, cells := 0, slots := 0, locals := 115 } [.ref h0, .int p0, .int 6] D cy [(h0, .inr (0, [.int p1, .ref h1, w0, w1])), (h1, .inl (cy 1, 10, .inl f0))] sz (fun r u => (0 ≤ r.toInt ∧ r.toInt ≤ 1) ∧ True) (fun u => [(h0, .inr (0, [.int p1, .ref h1, w0, w1])), (h1, .inl (cy 1, 10, .inl f0))]) 0 0 := by
  refine q_ent (own := RX0) (by decide) rfl (Nat.le_of_ble_eq_true rfl) (fun p e s m below meth c ls X hr hlk hnm hK hT h hA hl => ?_)
  obtain ⟨hx, hb, hml, hown, ht⟩ := id X
  replace hl : lv_has ls 6 [(0, .ref h0), (1, .int p0), (2, .int 6)] := hl
  refine lv_iload_n hx hb dX0_canSit_0 rfl (lv_at hl 1 rfl) ?_
  refine lv_if_ne (tgt := 6) hx hb dX0_canSit_1 (by decide) (fun c_1 => ?_) (fun c_1 => ?_)
  · replace c_1 := i_ne (x := p0) (y := 0) rfl (show (0 : Int32).toInt = 0 by decide) c_1
    refine lv_iload_n hx hb dX0_canSit_6 rfl (lv_at hl 2 rfl) ?_
    refine lv_bipush (v := 10) hx hb dX0_canSit_7 (by decide) ?_
    refine lv_icmp_lt (tgt := 14) hx hb dX0_canSit_9 (by decide) (fun _ => ?_) (fun c => absurd c (by decide +kernel))
    refine lv_iload_n hx hb dX0_canSit_14 rfl (lv_at hl 1 rfl) ?_
    refine q_callSi (rest := []) (wr := [(h0, .inr (0, [.int p1, .ref h1, w0, w1])), (h1, .inl (cy 1, 10, .inl f0))]) X hK hT hA h (fun sz => gX0_lowestOf_af0d02d l D cy p0 ⟨by omega, by omega⟩ sz) wm_4_113 wm_4_115 wm_1_6 hd_X0_lowestOf wm_4_114 ⟨Nat.le_of_ble_eq_true rfl, Nat.le_of_ble_eq_true rfl⟩ hl.1 rfl (Nat.le_of_ble_eq_true rfl) dX0_canSit_15 ⟨Nat.le_of_ble_eq_true rfl, Nat.le_of_ble_eq_true rfl⟩ [] [0, 1] rfl rfl (by decide) rfl rfl (fun r_2 u_2 H locs w_2 h_2 => ?_)
    clear h
    obtain ⟨wr_2, _⟩ := w_2
    replace h_2 : qW D _ _ [(h0, .inr (0, [.int p1, .ref h1, w0, w1])), (h1, .inl (cy 1, 10, .inl f0))] _ _ := h_2
    refine lv_istore_n (lv' := [(3, .int r_2), (0, .ref h0), (1, .int p0), (2, .int 6)]) hx hb dX0_canSit_18 rfl hl (by decide) rfl (fun ls_3 hl_3 => ?_)
    clear hl
    refine lv_aload_n hx hb dX0_canSit_19 rfl (lv_at hl_3 1 rfl) ?_
    refine q_get X hK h_2 0 rfl rfl wf_0 1 (by decide) rfl wm_1_199 dX0_canSit_20 ?_
    refine lv_iload_n hx hb dX0_canSit_23 rfl (lv_at hl_3 0 rfl) ?_
    refine q_iald X hK h_2 1 rfl (i_in rfl (by omega) (by omega)) dX0_canSit_24 ?_
    refine q_any (fun z_4 hz_4 => ?_)
    refine lv_iload_n hx hb dX0_canSit_25 rfl (lv_at hl_3 2 rfl) ?_
    refine lv_iand hx hb dX0_canSit_26 ?_
    obtain ⟨z_5, ez_5, hz_5⟩ := e_and2 (x := z_4) (y := p0) rfl (by omega)
    refine q_c z_5 ez_5 ?_
    clear ez_5
    refine lv_istore (lv' := [(4, .int z_5), (3, .int r_2), (0, .ref h0), (1, .int p0), (2, .int 6)]) hx hb dX0_canSit_27 hl_3 (by decide) rfl (fun ls_6 hl_6 => ?_)
    clear hl_3
    refine lv_iload_n hx hb dX0_canSit_29 rfl (lv_at hl_6 1 rfl) ?_
    refine lv_iconst (v := 1) hx hb dX0_canSit_30 (by decide) ?_
    refine lv_iadd hx hb dX0_canSit_31 ?_
    obtain ⟨z_7, ez_7, hz_7⟩ := e_add (x := r_2) (y := 1) rfl (show (1 : Int32).toInt = 1 by decide) (by omega) (by omega)
    refine q_c z_7 ez_7 ?_
    clear ez_7
    refine lv_istore (lv' := [(5, .int z_7), (4, .int z_5), (3, .int r_2), (0, .ref h0), (1, .int p0), (2, .int 6)]) hx hb dX0_canSit_32 hl_6 (by decide) rfl (fun ls_8 hl_8 => ?_)
    clear hl_6
    refine q_wl (fun (v34_9_0 : Int32) H locs ls => (1 ≤ (v34_9_0).toInt ∧ (v34_9_0).toInt ≤ 10) ∧ qW D (va_A [(h0, .inr (0, [.int p1, .ref h1, w0, w1])), (h1, .inl (cy 1, 10, .inl f0))] sz) s.heap [(h0, .inr (0, [.int p1, .ref h1, w0, w1])), (h1, .inl (cy 1, 10, .inl f0))] H locs ∧ lv_has ls 6 [(0, .ref h0), (1, .int p0), (2, .int 6), (3, .int r_2), (4, .int z_5), (5, .int v34_9_0)]) (fun (v34_9_0 : Int32) => (11 - (v34_9_0).toInt).toNat) (fun q_34 ih_34 H locs ls hP => ?_) z_7 ⟨⟨by omega, by omega⟩, h_2, (lv_sub hl_8 [3, 4, 5, 2, 1, 0] rfl)⟩
    obtain ⟨v34_9_0, rfl⟩ : ∃ z, z = q_34 := ⟨_, rfl⟩
    obtain ⟨hv34_9_0, h, hl⟩ := hP
    refine lv_iload hx hb dX0_canSit_34 (lv_at hl 5 rfl) ?_
    refine lv_aload_n hx hb dX0_canSit_36 rfl (lv_at hl 0 rfl) ?_
    refine q_get X hK h 0 rfl rfl wf_0 0 (by decide) rfl wm_1_198 dX0_canSit_37 ?_
    refine lv_icmp_ge (tgt := 84) hx hb dX0_canSit_40 (by decide) (fun c_10 => ?_) (fun c_10 => ?_)
    · replace c_10 := i_le (x := p1) (y := v34_9_0) rfl rfl c_10
      refine lv_iconst (v := 0) hx hb dX0_canSit_84 (by decide) ?_
      exact q_iret X hr hlk hK h rfl (fun _ => 0, fun _ _ => 0, fun _ _ => 0) ⟨⟨by decide +kernel, by decide +kernel⟩, trivial⟩ [0, 1] rfl rfl dX0_canSit_85 (Nat.le_of_ble_eq_true rfl) (Nat.le_of_ble_eq_true rfl)
    · replace c_10 := i_nle (x := p1) (y := v34_9_0) rfl rfl c_10
      refine lv_iload hx hb dX0_canSit_43 (lv_at hl 4 rfl) ?_
      refine lv_iload hx hb dX0_canSit_45 (lv_at hl 5 rfl) ?_
      refine lv_ishr hx hb dX0_canSit_47 ?_
      obtain ⟨z_11, ez_11, hz_11⟩ := e_shr (x := z_5) v34_9_0 rfl (by omega)
      refine q_c z_11 ez_11 ?_
      clear ez_11
      refine lv_iconst (v := 1) hx hb dX0_canSit_48 (by decide) ?_
      refine lv_iand hx hb dX0_canSit_49 ?_
      obtain ⟨z_12, ez_12, hz_12⟩ := e_and2 (x := z_11) (y := 1) (show (1 : Int32).toInt = 1 by decide) (by omega)
      refine q_c z_12 ez_12 ?_
      clear ez_12
      refine lv_iconst (v := 1) hx hb dX0_canSit_50 (by decide) ?_
      refine q_jn (pc2 := 78) (fun H locs ls st => st = [] ∧ qW D (va_A [(h0, .inr (0, [.int p1, .ref h1, w0, w1])), (h1, .inl (cy 1, 10, .inl f0))] sz) s.heap [(h0, .inr (0, [.int p1, .ref h1, w0, w1])), (h1, .inl (cy 1, 10, .inl f0))] H locs ∧ lv_has ls 6 [(0, .ref h0), (1, .int p0), (2, .int 6), (3, .int r_2), (4, .int z_5), (5, .int v34_9_0)]) (fun H locs ls st hP => ?_) (fun J_78 => ?_)
      · obtain ⟨rfl, h, hl⟩ := hP
        obtain ⟨z_14, ez_14, hz_14⟩ := e_add (x := v34_9_0) (y := Int32.ofInt 1) rfl (b := 1) (by decide) (by omega) (by omega)
        refine lv_iinc (v := z_14) (lv' := [(5, .int z_14), (0, .ref h0), (1, .int p0), (2, .int 6), (3, .int r_2), (4, .int z_5)]) hx hb dX0_canSit_78 hl (k := 5) rfl ez_14 (by decide) rfl (fun ls_14 hl_14 => ?_)
        clear hl
        refine lv_goto (tgt := 34) hx hb dX0_canSit_81 (by decide) ?_
        exact ih_34 z_14 (by show (11 - (z_14).toInt).toNat < (11 - (v34_9_0).toInt).toNat; omega) _ _ _ ⟨⟨by omega, by omega⟩, h, (lv_sub hl_14 [1, 2, 3, 4, 5, 0] rfl)⟩
      · skip
        refine lv_icmp_ne (tgt := 78) hx hb dX0_canSit_51 (by decide) (fun c_15 => ?_) (fun c_15 => ?_)
        · replace c_15 := i_ne (x := z_12) (y := 1) rfl (show (1 : Int32).toInt = 1 by decide) c_15
          exact J_78 _ _ _ _ ⟨rfl, h, (lv_sub hl [0, 1, 2, 3, 4, 5] rfl)⟩
        · replace c_15 := i_eq (x := z_12) (y := 1) rfl (show (1 : Int32).toInt = 1 by decide) c_15
          refine lv_aload_n hx hb dX0_canSit_54 rfl (lv_at hl 0 rfl) ?_
          refine lv_iload_n hx hb dX0_canSit_55 rfl (lv_at hl 1 rfl) ?_
          refine lv_iconst (v := 1) hx hb dX0_canSit_56 (by decide) ?_
          refine lv_iload_n hx hb dX0_canSit_57 rfl (lv_at hl 3 rfl) ?_
          refine lv_ishl hx hb dX0_canSit_58 ?_
          obtain ⟨z_16, ez_16, hz_16⟩ := e_shlk (p := r_2) 9 (by decide) rfl (by omega) (by omega)
          refine q_c z_16 ez_16 ?_
          clear ez_16
          refine lv_iconst (v := 1) hx hb dX0_canSit_59 (by decide) ?_
          refine lv_iload hx hb dX0_canSit_60 (lv_at hl 5 rfl) ?_
          refine lv_ishl hx hb dX0_canSit_62 ?_
          obtain ⟨z_17, ez_17, hz_17⟩ := e_shlk (p := v34_9_0) 9 (by decide) rfl (by omega) (by omega)
          refine q_c z_17 ez_17 ?_
          clear ez_17
          refine lv_ior hx hb dX0_canSit_63 ?_
          obtain ⟨z_18, ez_18, hz_18⟩ := e_or (x := z_16) (y := z_17) 10 (by decide) rfl rfl (by omega) (by omega) (by omega) (by omega)
          refine q_c z_18 ez_18 ?_
          clear ez_18
          refine lv_iconst (v := (-1)) hx hb dX0_canSit_64 (by decide) ?_
          refine lv_ixor hx hb dX0_canSit_65 ?_
          refine q_any (fun z_19 hz_19 => ?_)
          refine lv_iand hx hb dX0_canSit_66 ?_
          obtain ⟨z_20, ez_20, hz_20⟩ := e_and1 (x := p0) (y := z_19) rfl (by omega)
          refine q_c z_20 ez_20 ?_
          clear ez_20
          refine lv_iload_n hx hb dX0_canSit_67 rfl (lv_at hl 2 rfl) ?_
          refine lv_iconst (v := 1) hx hb dX0_canSit_68 (by decide) ?_
          refine lv_iadd hx hb dX0_canSit_69 ?_
          refine q_c 7 (by decide +kernel) ?_
          refine q_callVi (rest := []) (wr := []) X hK hT hA h (fun sz => gX0_canSit_1864e05 l D cy h0 h1 z_20 p1 w0 w1 f0 ⟨by omega, by omega⟩ hp1 sz) wm_4_117 wm_4_112 wm_1_6 hd_X0_canSit wm_4_110 wm_4_111 (ci := 0) (q0 := 0) rfl rfl ⟨Nat.le_of_ble_eq_true rfl, Nat.le_of_ble_eq_true rfl⟩ hl.1 rfl (Nat.le_of_ble_eq_true rfl) dX0_canSit_70 ⟨Nat.le_of_ble_eq_true rfl, Nat.le_of_ble_eq_true rfl⟩ [0, 1] [] rfl rfl (by decide) rfl rfl (fun r_21 u_21 H locs w_21 h_21 => ?_)
          clear h
          obtain ⟨wr_21, _⟩ := w_21
          replace h_21 : qW D _ _ [(h0, .inr (0, [.int p1, .ref h1, w0, w1])), (h1, .inl (cy 1, 10, .inl f0))] _ _ := h_21
          refine lv_if_eq (tgt := 78) hx hb dX0_canSit_73 (by decide) (fun c_22 => ?_) (fun c_22 => ?_)
          · replace c_22 := i_eq (x := r_21) (y := 0) rfl (show (0 : Int32).toInt = 0 by decide) c_22
            exact J_78 _ _ _ _ ⟨rfl, h_21, (lv_sub hl [0, 1, 2, 3, 4, 5] rfl)⟩
          · replace c_22 := i_ne (x := r_21) (y := 0) rfl (show (0 : Int32).toInt = 0 by decide) c_22
            refine lv_iconst (v := 1) hx hb dX0_canSit_76 (by decide) ?_
            exact q_iret X hr hlk hK h_21 rfl (fun _ => 0, fun _ _ => 0, fun _ _ => 0) ⟨⟨by decide +kernel, by decide +kernel⟩, trivial⟩ [0, 1] rfl rfl dX0_canSit_77 (Nat.le_of_ble_eq_true rfl) (Nat.le_of_ble_eq_true rfl)
  · replace c_1 := i_eq (x := p0) (y := 0) rfl (show (0 : Int32).toInt = 0 by decide) c_1
    refine lv_iconst (v := 1) hx hb dX0_canSit_4 (by decide) ?_
    exact q_iret X hr hlk hK h rfl (fun _ => 0, fun _ _ => 0, fun _ _ => 0) ⟨⟨by decide +kernel, by decide +kernel⟩, trivial⟩ [0, 1] rfl rfl dX0_canSit_5 (Nat.le_of_ble_eq_true rfl) (Nat.le_of_ble_eq_true rfl)
set_option maxHeartbeats 4000000 in
set_option maxRecDepth 100000 in
theorem gX0_canSit_b7946c3 (l : Launch) (D : va_G) (cy : Nat → ClassId) (h0 : Nat) (h1 : Nat) (p0 : Int32) (p1 : Int32) (w0 : Value) (w1 : Value) (f0 : Nat → Int32) (hp0 : 0 ≤ (p0).toInt ∧ (p0).toInt ≤ 1023) (hp1 : 2 ≤ (p1).toInt ∧ (p1).toInt ≤ 10) (sz : Nat) : MI l yX0_canSit cX0_canSit 6 .boolean { frames := 6, cells := 0, slots := 0, locals := 140 } [.ref h0, .int p0, .int 5] D cy [(h0, .inr (0, [.int p1, .ref h1, w0, w1])), (h1, .inl (cy 1, 10, .inl f0))] sz (fun r u => (0 ≤ r.toInt ∧ r.toInt ≤ 1) ∧ True) (fun u => [(h0, .inr (0, [.int p1, .ref h1, w0, w1])), (h1, .inl (cy 1, 10, .inl f0))]) 0 0 := by
  refine q_ent (own := RX0) (by decide) rfl (Nat.le_of_ble_eq_true rfl) (fun p e s m below meth c ls X hr hlk hnm hK hT h hA hl => ?_)
  obtain ⟨hx, hb, hml, hown, ht⟩ := id X
  replace hl : lv_has ls 6 [(0, .ref h0), (1, .int p0), (2, .int 5)] := hl
  refine lv_iload_n hx hb dX0_canSit_0 rfl (lv_at hl 1 rfl) ?_
  refine lv_if_ne (tgt := 6) hx hb dX0_canSit_1 (by decide) (fun c_1 => ?_) (fun c_1 => ?_)
  · replace c_1 := i_ne (x := p0) (y := 0) rfl (show (0 : Int32).toInt = 0 by decide) c_1
    refine lv_iload_n hx hb dX0_canSit_6 rfl (lv_at hl 2 rfl) ?_
    refine lv_bipush (v := 10) hx hb dX0_canSit_7 (by decide) ?_
    refine lv_icmp_lt (tgt := 14) hx hb dX0_canSit_9 (by decide) (fun _ => ?_) (fun c => absurd c (by decide +kernel))
    refine lv_iload_n hx hb dX0_canSit_14 rfl (lv_at hl 1 rfl) ?_
    refine q_callSi (rest := []) (wr := [(h0, .inr (0, [.int p1, .ref h1, w0, w1])), (h1, .inl (cy 1, 10, .inl f0))]) X hK hT hA h (fun sz => gX0_lowestOf_af0d02d l D cy p0 ⟨by omega, by omega⟩ sz) wm_4_113 wm_4_115 wm_1_6 hd_X0_lowestOf wm_4_114 ⟨Nat.le_of_ble_eq_true rfl, Nat.le_of_ble_eq_true rfl⟩ hl.1 rfl (Nat.le_of_ble_eq_true rfl) dX0_canSit_15 ⟨Nat.le_of_ble_eq_true rfl, Nat.le_of_ble_eq_true rfl⟩ [] [0, 1] rfl rfl (by decide) rfl rfl (fun r_2 u_2 H locs w_2 h_2 => ?_)
    clear h
    obtain ⟨wr_2, _⟩ := w_2
    replace h_2 : qW D _ _ [(h0, .inr (0, [.int p1, .ref h1, w0, w1])), (h1, .inl (cy 1, 10, .inl f0))] _ _ := h_2
    refine lv_istore_n (lv' := [(3, .int r_2), (0, .ref h0), (1, .int p0), (2, .int 5)]) hx hb dX0_canSit_18 rfl hl (by decide) rfl (fun ls_3 hl_3 => ?_)
    clear hl
    refine lv_aload_n hx hb dX0_canSit_19 rfl (lv_at hl_3 1 rfl) ?_
    refine q_get X hK h_2 0 rfl rfl wf_0 1 (by decide) rfl wm_1_199 dX0_canSit_20 ?_
    refine lv_iload_n hx hb dX0_canSit_23 rfl (lv_at hl_3 0 rfl) ?_
    refine q_iald X hK h_2 1 rfl (i_in rfl (by omega) (by omega)) dX0_canSit_24 ?_
    refine q_any (fun z_4 hz_4 => ?_)
    refine lv_iload_n hx hb dX0_canSit_25 rfl (lv_at hl_3 2 rfl) ?_
    refine lv_iand hx hb dX0_canSit_26 ?_
    obtain ⟨z_5, ez_5, hz_5⟩ := e_and2 (x := z_4) (y := p0) rfl (by omega)
    refine q_c z_5 ez_5 ?_
    clear ez_5
    refine lv_istore (lv' := [(4, .int z_5), (3, .int r_2), (0, .ref h0), (1, .int p0), (2, .int 5)]) hx hb dX0_canSit_27 hl_3 (by decide) rfl (fun ls_6 hl_6 => ?_)
    clear hl_3
    refine lv_iload_n hx hb dX0_canSit_29 rfl (lv_at hl_6 1 rfl) ?_
    refine lv_iconst (v := 1) hx hb dX0_canSit_30 (by decide) ?_
    refine lv_iadd hx hb dX0_canSit_31 ?_
    obtain ⟨z_7, ez_7, hz_7⟩ := e_add (x := r_2) (y := 1) rfl (show (1 : Int32).toInt = 1 by decide) (by omega) (by omega)
    refine q_c z_7 ez_7 ?_
    clear ez_7
    refine lv_istore (lv' := [(5, .int z_7), (4, .int z_5), (3, .int r_2), (0, .ref h0), (1, .int p0), (2, .int 5)]) hx hb dX0_canSit_32 hl_6 (by decide) rfl (fun ls_8 hl_8 => ?_)
    clear hl_6
    refine q_wl (fun (v34_9_0 : Int32) H locs ls => (1 ≤ (v34_9_0).toInt ∧ (v34_9_0).toInt ≤ 10) ∧ qW D (va_A [(h0, .inr (0, [.int p1, .ref h1, w0, w1])), (h1, .inl (cy 1, 10, .inl f0))] sz) s.heap [(h0, .inr (0, [.int p1, .ref h1, w0, w1])), (h1, .inl (cy 1, 10, .inl f0))] H locs ∧ lv_has ls 6 [(0, .ref h0), (1, .int p0), (2, .int 5), (3, .int r_2), (4, .int z_5), (5, .int v34_9_0)]) (fun (v34_9_0 : Int32) => (11 - (v34_9_0).toInt).toNat) (fun q_34 ih_34 H locs ls hP => ?_) z_7 ⟨⟨by omega, by omega⟩, h_2, (lv_sub hl_8 [3, 4, 5, 2, 1, 0] rfl)⟩
    obtain ⟨v34_9_0, rfl⟩ : ∃ z, z = q_34 := ⟨_, rfl⟩
    obtain ⟨hv34_9_0, h, hl⟩ := hP
    refine lv_iload hx hb dX0_canSit_34 (lv_at hl 5 rfl) ?_
    refine lv_aload_n hx hb dX0_canSit_36 rfl (lv_at hl 0 rfl) ?_
    refine q_get X hK h 0 rfl rfl wf_0 0 (by decide) rfl wm_1_198 dX0_canSit_37 ?_
    refine lv_icmp_ge (tgt := 84) hx hb dX0_canSit_40 (by decide) (fun c_10 => ?_) (fun c_10 => ?_)
    · replace c_10 := i_le (x := p1) (y := v34_9_0) rfl rfl c_10
      refine lv_iconst (v := 0) hx hb dX0_canSit_84 (by decide) ?_
      exact q_iret X hr hlk hK h rfl (fun _ => 0, fun _ _ => 0, fun _ _ => 0) ⟨⟨by decide +kernel, by decide +kernel⟩, trivial⟩ [0, 1] rfl rfl dX0_canSit_85 (Nat.le_of_ble_eq_true rfl) (Nat.le_of_ble_eq_true rfl)
    · replace c_10 := i_nle (x := p1) (y := v34_9_0) rfl rfl c_10
      refine lv_iload hx hb dX0_canSit_43 (lv_at hl 4 rfl) ?_
      refine lv_iload hx hb dX0_canSit_45 (lv_at hl 5 rfl) ?_
      refine lv_ishr hx hb dX0_canSit_47 ?_
      obtain ⟨z_11, ez_11, hz_11⟩ := e_shr (x := z_5) v34_9_0 rfl (by omega)
      refine q_c z_11 ez_11 ?_
      clear ez_11
      refine lv_iconst (v := 1) hx hb dX0_canSit_48 (by decide) ?_
      refine lv_iand hx hb dX0_canSit_49 ?_
      obtain ⟨z_12, ez_12, hz_12⟩ := e_and2 (x := z_11) (y := 1) (show (1 : Int32).toInt = 1 by decide) (by omega)
      refine q_c z_12 ez_12 ?_
      clear ez_12
      refine lv_iconst (v := 1) hx hb dX0_canSit_50 (by decide) ?_
      refine q_jn (pc2 := 78) (fun H locs ls st => st = [] ∧ qW D (va_A [(h0, .inr (0, [.int p1, .ref h1, w0, w1])), (h1, .inl (cy 1, 10, .inl f0))] sz) s.heap [(h0, .inr (0, [.int p1, .ref h1, w0, w1])), (h1, .inl (cy 1, 10, .inl f0))] H locs ∧ lv_has ls 6 [(0, .ref h0), (1, .int p0), (2, .int 5), (3, .int r_2), (4, .int z_5), (5, .int v34_9_0)]) (fun H locs ls st hP => ?_) (fun J_78 => ?_)
      · obtain ⟨rfl, h, hl⟩ := hP
        obtain ⟨z_14, ez_14, hz_14⟩ := e_add (x := v34_9_0) (y := Int32.ofInt 1) rfl (b := 1) (by decide) (by omega) (by omega)
        refine lv_iinc (v := z_14) (lv' := [(5, .int z_14), (0, .ref h0), (1, .int p0), (2, .int 5), (3, .int r_2), (4, .int z_5)]) hx hb dX0_canSit_78 hl (k := 5) rfl ez_14 (by decide) rfl (fun ls_14 hl_14 => ?_)
        clear hl
        refine lv_goto (tgt := 34) hx hb dX0_canSit_81 (by decide) ?_
        exact ih_34 z_14 (by show (11 - (z_14).toInt).toNat < (11 - (v34_9_0).toInt).toNat; omega) _ _ _ ⟨⟨by omega, by omega⟩, h, (lv_sub hl_14 [1, 2, 3, 4, 5, 0] rfl)⟩
      · skip
        refine lv_icmp_ne (tgt := 78) hx hb dX0_canSit_51 (by decide) (fun c_15 => ?_) (fun c_15 => ?_)
        · replace c_15 := i_ne (x := z_12) (y := 1) rfl (show (1 : Int32).toInt = 1 by decide) c_15
          exact J_78 _ _ _ _ ⟨rfl, h, (lv_sub hl [0, 1, 2, 3, 4, 5] rfl)⟩
        · replace c_15 := i_eq (x := z_12) (y := 1) rfl (show (1 : Int32).toInt = 1 by decide) c_15
          refine lv_aload_n hx hb dX0_canSit_54 rfl (lv_at hl 0 rfl) ?_
          refine lv_iload_n hx hb dX0_canSit_55 rfl (lv_at hl 1 rfl) ?_
          refine lv_iconst (v := 1) hx hb dX0_canSit_56 (by decide) ?_
          refine lv_iload_n hx hb dX0_canSit_57 rfl (lv_at hl 3 rfl) ?_
          refine lv_ishl hx hb dX0_canSit_58 ?_
          obtain ⟨z_16, ez_16, hz_16⟩ := e_shlk (p := r_2) 9 (by decide) rfl (by omega) (by omega)
          refine q_c z_16 ez_16 ?_
          clear ez_16
          refine lv_iconst (v := 1) hx hb dX0_canSit_59 (by decide) ?_
          refine lv_iload hx hb dX0_canSit_60 (lv_at hl 5 rfl) ?_
          refine lv_ishl hx hb dX0_canSit_62 ?_
          obtain ⟨z_17, ez_17, hz_17⟩ := e_shlk (p := v34_9_0) 9 (by decide) rfl (by omega) (by omega)
          refine q_c z_17 ez_17 ?_
          clear ez_17
          refine lv_ior hx hb dX0_canSit_63 ?_
          obtain ⟨z_18, ez_18, hz_18⟩ := e_or (x := z_16) (y := z_17) 10 (by decide) rfl rfl (by omega) (by omega) (by omega) (by omega)
          refine q_c z_18 ez_18 ?_
          clear ez_18
          refine lv_iconst (v := (-1)) hx hb dX0_canSit_64 (by decide) ?_
          refine lv_ixor hx hb dX0_canSit_65 ?_
          refine q_any (fun z_19 hz_19 => ?_)
          refine lv_iand hx hb dX0_canSit_66 ?_
          obtain ⟨z_20, ez_20, hz_20⟩ := e_and1 (x := p0) (y := z_19) rfl (by omega)
          refine q_c z_20 ez_20 ?_
          clear ez_20
          refine lv_iload_n hx hb dX0_canSit_67 rfl (lv_at hl 2 rfl) ?_
          refine lv_iconst (v := 1) hx hb dX0_canSit_68 (by decide) ?_
          refine lv_iadd hx hb dX0_canSit_69 ?_
          refine q_c 6 (by decide +kernel) ?_
          refine q_callVi (rest := []) (wr := []) X hK hT hA h (fun sz => gX0_canSit_642cf7d l D cy h0 h1 z_20 p1 w0 w1 f0 ⟨by omega, by omega⟩ hp1 sz) wm_4_117 wm_4_112 wm_1_6 hd_X0_canSit wm_4_110 wm_4_111 (ci := 0) (q0 := 0) rfl rfl ⟨Nat.le_of_ble_eq_true rfl, Nat.le_of_ble_eq_true rfl⟩ hl.1 rfl (Nat.le_of_ble_eq_true rfl) dX0_canSit_70 ⟨Nat.le_of_ble_eq_true rfl, Nat.le_of_ble_eq_true rfl⟩ [0, 1] [] rfl rfl (by decide) rfl rfl (fun r_21 u_21 H locs w_21 h_21 => ?_)
          clear h
          obtain ⟨wr_21, _⟩ := w_21
          replace h_21 : qW D _ _ [(h0, .inr (0, [.int p1, .ref h1, w0, w1])), (h1, .inl (cy 1, 10, .inl f0))] _ _ := h_21
          refine lv_if_eq (tgt := 78) hx hb dX0_canSit_73 (by decide) (fun c_22 => ?_) (fun c_22 => ?_)
          · replace c_22 := i_eq (x := r_21) (y := 0) rfl (show (0 : Int32).toInt = 0 by decide) c_22
            exact J_78 _ _ _ _ ⟨rfl, h_21, (lv_sub hl [0, 1, 2, 3, 4, 5] rfl)⟩
          · replace c_22 := i_ne (x := r_21) (y := 0) rfl (show (0 : Int32).toInt = 0 by decide) c_22
            refine lv_iconst (v := 1) hx hb dX0_canSit_76 (by decide) ?_
            exact q_iret X hr hlk hK h_21 rfl (fun _ => 0, fun _ _ => 0, fun _ _ => 0) ⟨⟨by decide +kernel, by decide +kernel⟩, trivial⟩ [0, 1] rfl rfl dX0_canSit_77 (Nat.le_of_ble_eq_true rfl) (Nat.le_of_ble_eq_true rfl)
  · replace c_1 := i_eq (x := p0) (y := 0) rfl (show (0 : Int32).toInt = 0 by decide) c_1
    refine lv_iconst (v := 1) hx hb dX0_canSit_4 (by decide) ?_
    exact q_iret X hr hlk hK h rfl (fun _ => 0, fun _ _ => 0, fun _ _ => 0) ⟨⟨by decide +kernel, by decide +kernel⟩, trivial⟩ [0, 1] rfl rfl dX0_canSit_5 (Nat.le_of_ble_eq_true rfl) (Nat.le_of_ble_eq_true rfl)
set_option maxHeartbeats 4000000 in
set_option maxRecDepth 100000 in
theorem gX0_canSit_d62df5b (l : Launch) (D : va_G) (cy : Nat → ClassId) (h0 : Nat) (h1 : Nat) (p0 : Int32) (p1 : Int32) (w0 : Value) (w1 : Value) (f0 : Nat → Int32) (hp0 : 0 ≤ (p0).toInt ∧ (p0).toInt ≤ 1023) (hp1 : 2 ≤ (p1).toInt ∧ (p1).toInt ≤ 10) (sz : Nat) : MI l yX0_canSit cX0_canSit 6 .boolean { frames := 7, cells := 0, slots := 0, locals := 165 } [.ref h0, .int p0, .int 4] D cy [(h0, .inr (0, [.int p1, .ref h1, w0, w1])), (h1, .inl (cy 1, 10, .inl f0))] sz (fun r u => (0 ≤ r.toInt ∧ r.toInt ≤ 1) ∧ True) (fun u => [(h0, .inr (0, [.int p1, .ref h1, w0, w1])), (h1, .inl (cy 1, 10, .inl f0))]) 0 0 := by
  refine q_ent (own := RX0) (by decide) rfl (Nat.le_of_ble_eq_true rfl) (fun p e s m below meth c ls X hr hlk hnm hK hT h hA hl => ?_)
  obtain ⟨hx, hb, hml, hown, ht⟩ := id X
  replace hl : lv_has ls 6 [(0, .ref h0), (1, .int p0), (2, .int 4)] := hl
  refine lv_iload_n hx hb dX0_canSit_0 rfl (lv_at hl 1 rfl) ?_
  refine lv_if_ne (tgt := 6) hx hb dX0_canSit_1 (by decide) (fun c_1 => ?_) (fun c_1 => ?_)
  · replace c_1 := i_ne (x := p0) (y := 0) rfl (show (0 : Int32).toInt = 0 by decide) c_1
    refine lv_iload_n hx hb dX0_canSit_6 rfl (lv_at hl 2 rfl) ?_
    refine lv_bipush (v := 10) hx hb dX0_canSit_7 (by decide) ?_
    refine lv_icmp_lt (tgt := 14) hx hb dX0_canSit_9 (by decide) (fun _ => ?_) (fun c => absurd c (by decide +kernel))
    refine lv_iload_n hx hb dX0_canSit_14 rfl (lv_at hl 1 rfl) ?_
    refine q_callSi (rest := []) (wr := [(h0, .inr (0, [.int p1, .ref h1, w0, w1])), (h1, .inl (cy 1, 10, .inl f0))]) X hK hT hA h (fun sz => gX0_lowestOf_af0d02d l D cy p0 ⟨by omega, by omega⟩ sz) wm_4_113 wm_4_115 wm_1_6 hd_X0_lowestOf wm_4_114 ⟨Nat.le_of_ble_eq_true rfl, Nat.le_of_ble_eq_true rfl⟩ hl.1 rfl (Nat.le_of_ble_eq_true rfl) dX0_canSit_15 ⟨Nat.le_of_ble_eq_true rfl, Nat.le_of_ble_eq_true rfl⟩ [] [0, 1] rfl rfl (by decide) rfl rfl (fun r_2 u_2 H locs w_2 h_2 => ?_)
    clear h
    obtain ⟨wr_2, _⟩ := w_2
    replace h_2 : qW D _ _ [(h0, .inr (0, [.int p1, .ref h1, w0, w1])), (h1, .inl (cy 1, 10, .inl f0))] _ _ := h_2
    refine lv_istore_n (lv' := [(3, .int r_2), (0, .ref h0), (1, .int p0), (2, .int 4)]) hx hb dX0_canSit_18 rfl hl (by decide) rfl (fun ls_3 hl_3 => ?_)
    clear hl
    refine lv_aload_n hx hb dX0_canSit_19 rfl (lv_at hl_3 1 rfl) ?_
    refine q_get X hK h_2 0 rfl rfl wf_0 1 (by decide) rfl wm_1_199 dX0_canSit_20 ?_
    refine lv_iload_n hx hb dX0_canSit_23 rfl (lv_at hl_3 0 rfl) ?_
    refine q_iald X hK h_2 1 rfl (i_in rfl (by omega) (by omega)) dX0_canSit_24 ?_
    refine q_any (fun z_4 hz_4 => ?_)
    refine lv_iload_n hx hb dX0_canSit_25 rfl (lv_at hl_3 2 rfl) ?_
    refine lv_iand hx hb dX0_canSit_26 ?_
    obtain ⟨z_5, ez_5, hz_5⟩ := e_and2 (x := z_4) (y := p0) rfl (by omega)
    refine q_c z_5 ez_5 ?_
    clear ez_5
    refine lv_istore (lv' := [(4, .int z_5), (3, .int r_2), (0, .ref h0), (1, .int p0), (2, .int 4)]) hx hb dX0_canSit_27 hl_3 (by decide) rfl (fun ls_6 hl_6 => ?_)
    clear hl_3
    refine lv_iload_n hx hb dX0_canSit_29 rfl (lv_at hl_6 1 rfl) ?_
    refine lv_iconst (v := 1) hx hb dX0_canSit_30 (by decide) ?_
    refine lv_iadd hx hb dX0_canSit_31 ?_
    obtain ⟨z_7, ez_7, hz_7⟩ := e_add (x := r_2) (y := 1) rfl (show (1 : Int32).toInt = 1 by decide) (by omega) (by omega)
    refine q_c z_7 ez_7 ?_
    clear ez_7
    refine lv_istore (lv' := [(5, .int z_7), (4, .int z_5), (3, .int r_2), (0, .ref h0), (1, .int p0), (2, .int 4)]) hx hb dX0_canSit_32 hl_6 (by decide) rfl (fun ls_8 hl_8 => ?_)
    clear hl_6
    refine q_wl (fun (v34_9_0 : Int32) H locs ls => (1 ≤ (v34_9_0).toInt ∧ (v34_9_0).toInt ≤ 10) ∧ qW D (va_A [(h0, .inr (0, [.int p1, .ref h1, w0, w1])), (h1, .inl (cy 1, 10, .inl f0))] sz) s.heap [(h0, .inr (0, [.int p1, .ref h1, w0, w1])), (h1, .inl (cy 1, 10, .inl f0))] H locs ∧ lv_has ls 6 [(0, .ref h0), (1, .int p0), (2, .int 4), (3, .int r_2), (4, .int z_5), (5, .int v34_9_0)]) (fun (v34_9_0 : Int32) => (11 - (v34_9_0).toInt).toNat) (fun q_34 ih_34 H locs ls hP => ?_) z_7 ⟨⟨by omega, by omega⟩, h_2, (lv_sub hl_8 [3, 4, 5, 2, 1, 0] rfl)⟩
    obtain ⟨v34_9_0, rfl⟩ : ∃ z, z = q_34 := ⟨_, rfl⟩
    obtain ⟨hv34_9_0, h, hl⟩ := hP
    refine lv_iload hx hb dX0_canSit_34 (lv_at hl 5 rfl) ?_
    refine lv_aload_n hx hb dX0_canSit_36 rfl (lv_at hl 0 rfl) ?_
    refine q_get X hK h 0 rfl rfl wf_0 0 (by decide) rfl wm_1_198 dX0_canSit_37 ?_
    refine lv_icmp_ge (tgt := 84) hx hb dX0_canSit_40 (by decide) (fun c_10 => ?_) (fun c_10 => ?_)
    · replace c_10 := i_le (x := p1) (y := v34_9_0) rfl rfl c_10
      refine lv_iconst (v := 0) hx hb dX0_canSit_84 (by decide) ?_
      exact q_iret X hr hlk hK h rfl (fun _ => 0, fun _ _ => 0, fun _ _ => 0) ⟨⟨by decide +kernel, by decide +kernel⟩, trivial⟩ [0, 1] rfl rfl dX0_canSit_85 (Nat.le_of_ble_eq_true rfl) (Nat.le_of_ble_eq_true rfl)
    · replace c_10 := i_nle (x := p1) (y := v34_9_0) rfl rfl c_10
      refine lv_iload hx hb dX0_canSit_43 (lv_at hl 4 rfl) ?_
      refine lv_iload hx hb dX0_canSit_45 (lv_at hl 5 rfl) ?_
      refine lv_ishr hx hb dX0_canSit_47 ?_
      obtain ⟨z_11, ez_11, hz_11⟩ := e_shr (x := z_5) v34_9_0 rfl (by omega)
      refine q_c z_11 ez_11 ?_
      clear ez_11
      refine lv_iconst (v := 1) hx hb dX0_canSit_48 (by decide) ?_
      refine lv_iand hx hb dX0_canSit_49 ?_
      obtain ⟨z_12, ez_12, hz_12⟩ := e_and2 (x := z_11) (y := 1) (show (1 : Int32).toInt = 1 by decide) (by omega)
      refine q_c z_12 ez_12 ?_
      clear ez_12
      refine lv_iconst (v := 1) hx hb dX0_canSit_50 (by decide) ?_
      refine q_jn (pc2 := 78) (fun H locs ls st => st = [] ∧ qW D (va_A [(h0, .inr (0, [.int p1, .ref h1, w0, w1])), (h1, .inl (cy 1, 10, .inl f0))] sz) s.heap [(h0, .inr (0, [.int p1, .ref h1, w0, w1])), (h1, .inl (cy 1, 10, .inl f0))] H locs ∧ lv_has ls 6 [(0, .ref h0), (1, .int p0), (2, .int 4), (3, .int r_2), (4, .int z_5), (5, .int v34_9_0)]) (fun H locs ls st hP => ?_) (fun J_78 => ?_)
      · obtain ⟨rfl, h, hl⟩ := hP
        obtain ⟨z_14, ez_14, hz_14⟩ := e_add (x := v34_9_0) (y := Int32.ofInt 1) rfl (b := 1) (by decide) (by omega) (by omega)
        refine lv_iinc (v := z_14) (lv' := [(5, .int z_14), (0, .ref h0), (1, .int p0), (2, .int 4), (3, .int r_2), (4, .int z_5)]) hx hb dX0_canSit_78 hl (k := 5) rfl ez_14 (by decide) rfl (fun ls_14 hl_14 => ?_)
        clear hl
        refine lv_goto (tgt := 34) hx hb dX0_canSit_81 (by decide) ?_
        exact ih_34 z_14 (by show (11 - (z_14).toInt).toNat < (11 - (v34_9_0).toInt).toNat; omega) _ _ _ ⟨⟨by omega, by omega⟩, h, (lv_sub hl_14 [1, 2, 3, 4, 5, 0] rfl)⟩
      · skip
        refine lv_icmp_ne (tgt := 78) hx hb dX0_canSit_51 (by decide) (fun c_15 => ?_) (fun c_15 => ?_)
        · replace c_15 := i_ne (x := z_12) (y := 1) rfl (show (1 : Int32).toInt = 1 by decide) c_15
          exact J_78 _ _ _ _ ⟨rfl, h, (lv_sub hl [0, 1, 2, 3, 4, 5] rfl)⟩
        · replace c_15 := i_eq (x := z_12) (y := 1) rfl (show (1 : Int32).toInt = 1 by decide) c_15
          refine lv_aload_n hx hb dX0_canSit_54 rfl (lv_at hl 0 rfl) ?_
          refine lv_iload_n hx hb dX0_canSit_55 rfl (lv_at hl 1 rfl) ?_
          refine lv_iconst (v := 1) hx hb dX0_canSit_56 (by decide) ?_
          refine lv_iload_n hx hb dX0_canSit_57 rfl (lv_at hl 3 rfl) ?_
          refine lv_ishl hx hb dX0_canSit_58 ?_
          obtain ⟨z_16, ez_16, hz_16⟩ := e_shlk (p := r_2) 9 (by decide) rfl (by omega) (by omega)
          refine q_c z_16 ez_16 ?_
          clear ez_16
          refine lv_iconst (v := 1) hx hb dX0_canSit_59 (by decide) ?_
          refine lv_iload hx hb dX0_canSit_60 (lv_at hl 5 rfl) ?_
          refine lv_ishl hx hb dX0_canSit_62 ?_
          obtain ⟨z_17, ez_17, hz_17⟩ := e_shlk (p := v34_9_0) 9 (by decide) rfl (by omega) (by omega)
          refine q_c z_17 ez_17 ?_
          clear ez_17
          refine lv_ior hx hb dX0_canSit_63 ?_
          obtain ⟨z_18, ez_18, hz_18⟩ := e_or (x := z_16) (y := z_17) 10 (by decide) rfl rfl (by omega) (by omega) (by omega) (by omega)
          refine q_c z_18 ez_18 ?_
          clear ez_18
          refine lv_iconst (v := (-1)) hx hb dX0_canSit_64 (by decide) ?_
          refine lv_ixor hx hb dX0_canSit_65 ?_
          refine q_any (fun z_19 hz_19 => ?_)
          refine lv_iand hx hb dX0_canSit_66 ?_
          obtain ⟨z_20, ez_20, hz_20⟩ := e_and1 (x := p0) (y := z_19) rfl (by omega)
          refine q_c z_20 ez_20 ?_
          clear ez_20
          refine lv_iload_n hx hb dX0_canSit_67 rfl (lv_at hl 2 rfl) ?_
          refine lv_iconst (v := 1) hx hb dX0_canSit_68 (by decide) ?_
          refine lv_iadd hx hb dX0_canSit_69 ?_
          refine q_c 5 (by decide +kernel) ?_
          refine q_callVi (rest := []) (wr := []) X hK hT hA h (fun sz => gX0_canSit_b7946c3 l D cy h0 h1 z_20 p1 w0 w1 f0 ⟨by omega, by omega⟩ hp1 sz) wm_4_117 wm_4_112 wm_1_6 hd_X0_canSit wm_4_110 wm_4_111 (ci := 0) (q0 := 0) rfl rfl ⟨Nat.le_of_ble_eq_true rfl, Nat.le_of_ble_eq_true rfl⟩ hl.1 rfl (Nat.le_of_ble_eq_true rfl) dX0_canSit_70 ⟨Nat.le_of_ble_eq_true rfl, Nat.le_of_ble_eq_true rfl⟩ [0, 1] [] rfl rfl (by decide) rfl rfl (fun r_21 u_21 H locs w_21 h_21 => ?_)
          clear h
          obtain ⟨wr_21, _⟩ := w_21
          replace h_21 : qW D _ _ [(h0, .inr (0, [.int p1, .ref h1, w0, w1])), (h1, .inl (cy 1, 10, .inl f0))] _ _ := h_21
          refine lv_if_eq (tgt := 78) hx hb dX0_canSit_73 (by decide) (fun c_22 => ?_) (fun c_22 => ?_)
          · replace c_22 := i_eq (x := r_21) (y := 0) rfl (show (0 : Int32).toInt = 0 by decide) c_22
            exact J_78 _ _ _ _ ⟨rfl, h_21, (lv_sub hl [0, 1, 2, 3, 4, 5] rfl)⟩
          · replace c_22 := i_ne (x := r_21) (y := 0) rfl (show (0 : Int32).toInt = 0 by decide) c_22
            refine lv_iconst (v := 1) hx hb dX0_canSit_76 (by decide) ?_
            exact q_iret X hr hlk hK h_21 rfl (fun _ => 0, fun _ _ => 0, fun _ _ => 0) ⟨⟨by decide +kernel, by decide +kernel⟩, trivial⟩ [0, 1] rfl rfl dX0_canSit_77 (Nat.le_of_ble_eq_true rfl) (Nat.le_of_ble_eq_true rfl)
  · replace c_1 := i_eq (x := p0) (y := 0) rfl (show (0 : Int32).toInt = 0 by decide) c_1
    refine lv_iconst (v := 1) hx hb dX0_canSit_4 (by decide) ?_
    exact q_iret X hr hlk hK h rfl (fun _ => 0, fun _ _ => 0, fun _ _ => 0) ⟨⟨by decide +kernel, by decide +kernel⟩, trivial⟩ [0, 1] rfl rfl dX0_canSit_5 (Nat.le_of_ble_eq_true rfl) (Nat.le_of_ble_eq_true rfl)
set_option maxHeartbeats 4000000 in
set_option maxRecDepth 100000 in
theorem gX0_canSit_c0eee13 (l : Launch) (D : va_G) (cy : Nat → ClassId) (h0 : Nat) (h1 : Nat) (p0 : Int32) (p1 : Int32) (w0 : Value) (w1 : Value) (f0 : Nat → Int32) (hp0 : 0 ≤ (p0).toInt ∧ (p0).toInt ≤ 1023) (hp1 : 2 ≤ (p1).toInt ∧ (p1).toInt ≤ 10) (sz : Nat) : MI l yX0_canSit cX0_canSit 6 .boolean { frames := 8, cells := 0, slots := 0, locals := 190 } [.ref h0, .int p0, .int 3] D cy [(h0, .inr (0, [.int p1, .ref h1, w0, w1])), (h1, .inl (cy 1, 10, .inl f0))] sz (fun r u => (0 ≤ r.toInt ∧ r.toInt ≤ 1) ∧ True) (fun u => [(h0, .inr (0, [.int p1, .ref h1, w0, w1])), (h1, .inl (cy 1, 10, .inl f0))]) 0 0 := by
  refine q_ent (own := RX0) (by decide) rfl (Nat.le_of_ble_eq_true rfl) (fun p e s m below meth c ls X hr hlk hnm hK hT h hA hl => ?_)
  obtain ⟨hx, hb, hml, hown, ht⟩ := id X
  replace hl : lv_has ls 6 [(0, .ref h0), (1, .int p0), (2, .int 3)] := hl
  refine lv_iload_n hx hb dX0_canSit_0 rfl (lv_at hl 1 rfl) ?_
  refine lv_if_ne (tgt := 6) hx hb dX0_canSit_1 (by decide) (fun c_1 => ?_) (fun c_1 => ?_)
  · replace c_1 := i_ne (x := p0) (y := 0) rfl (show (0 : Int32).toInt = 0 by decide) c_1
    refine lv_iload_n hx hb dX0_canSit_6 rfl (lv_at hl 2 rfl) ?_
    refine lv_bipush (v := 10) hx hb dX0_canSit_7 (by decide) ?_
    refine lv_icmp_lt (tgt := 14) hx hb dX0_canSit_9 (by decide) (fun _ => ?_) (fun c => absurd c (by decide +kernel))
    refine lv_iload_n hx hb dX0_canSit_14 rfl (lv_at hl 1 rfl) ?_
    refine q_callSi (rest := []) (wr := [(h0, .inr (0, [.int p1, .ref h1, w0, w1])), (h1, .inl (cy 1, 10, .inl f0))]) X hK hT hA h (fun sz => gX0_lowestOf_af0d02d l D cy p0 ⟨by omega, by omega⟩ sz) wm_4_113 wm_4_115 wm_1_6 hd_X0_lowestOf wm_4_114 ⟨Nat.le_of_ble_eq_true rfl, Nat.le_of_ble_eq_true rfl⟩ hl.1 rfl (Nat.le_of_ble_eq_true rfl) dX0_canSit_15 ⟨Nat.le_of_ble_eq_true rfl, Nat.le_of_ble_eq_true rfl⟩ [] [0, 1] rfl rfl (by decide) rfl rfl (fun r_2 u_2 H locs w_2 h_2 => ?_)
    clear h
    obtain ⟨wr_2, _⟩ := w_2
    replace h_2 : qW D _ _ [(h0, .inr (0, [.int p1, .ref h1, w0, w1])), (h1, .inl (cy 1, 10, .inl f0))] _ _ := h_2
    refine lv_istore_n (lv' := [(3, .int r_2), (0, .ref h0), (1, .int p0), (2, .int 3)]) hx hb dX0_canSit_18 rfl hl (by decide) rfl (fun ls_3 hl_3 => ?_)
    clear hl
    refine lv_aload_n hx hb dX0_canSit_19 rfl (lv_at hl_3 1 rfl) ?_
    refine q_get X hK h_2 0 rfl rfl wf_0 1 (by decide) rfl wm_1_199 dX0_canSit_20 ?_
    refine lv_iload_n hx hb dX0_canSit_23 rfl (lv_at hl_3 0 rfl) ?_
    refine q_iald X hK h_2 1 rfl (i_in rfl (by omega) (by omega)) dX0_canSit_24 ?_
    refine q_any (fun z_4 hz_4 => ?_)
    refine lv_iload_n hx hb dX0_canSit_25 rfl (lv_at hl_3 2 rfl) ?_
    refine lv_iand hx hb dX0_canSit_26 ?_
    obtain ⟨z_5, ez_5, hz_5⟩ := e_and2 (x := z_4) (y := p0) rfl (by omega)
    refine q_c z_5 ez_5 ?_
    clear ez_5
    refine lv_istore (lv' := [(4, .int z_5), (3, .int r_2), (0, .ref h0), (1, .int p0), (2, .int 3)]) hx hb dX0_canSit_27 hl_3 (by decide) rfl (fun ls_6 hl_6 => ?_)
    clear hl_3
    refine lv_iload_n hx hb dX0_canSit_29 rfl (lv_at hl_6 1 rfl) ?_
    refine lv_iconst (v := 1) hx hb dX0_canSit_30 (by decide) ?_
    refine lv_iadd hx hb dX0_canSit_31 ?_
    obtain ⟨z_7, ez_7, hz_7⟩ := e_add (x := r_2) (y := 1) rfl (show (1 : Int32).toInt = 1 by decide) (by omega) (by omega)
    refine q_c z_7 ez_7 ?_
    clear ez_7
    refine lv_istore (lv' := [(5, .int z_7), (4, .int z_5), (3, .int r_2), (0, .ref h0), (1, .int p0), (2, .int 3)]) hx hb dX0_canSit_32 hl_6 (by decide) rfl (fun ls_8 hl_8 => ?_)
    clear hl_6
    refine q_wl (fun (v34_9_0 : Int32) H locs ls => (1 ≤ (v34_9_0).toInt ∧ (v34_9_0).toInt ≤ 10) ∧ qW D (va_A [(h0, .inr (0, [.int p1, .ref h1, w0, w1])), (h1, .inl (cy 1, 10, .inl f0))] sz) s.heap [(h0, .inr (0, [.int p1, .ref h1, w0, w1])), (h1, .inl (cy 1, 10, .inl f0))] H locs ∧ lv_has ls 6 [(0, .ref h0), (1, .int p0), (2, .int 3), (3, .int r_2), (4, .int z_5), (5, .int v34_9_0)]) (fun (v34_9_0 : Int32) => (11 - (v34_9_0).toInt).toNat) (fun q_34 ih_34 H locs ls hP => ?_) z_7 ⟨⟨by omega, by omega⟩, h_2, (lv_sub hl_8 [3, 4, 5, 2, 1, 0] rfl)⟩
    obtain ⟨v34_9_0, rfl⟩ : ∃ z, z = q_34 := ⟨_, rfl⟩
    obtain ⟨hv34_9_0, h, hl⟩ := hP
    refine lv_iload hx hb dX0_canSit_34 (lv_at hl 5 rfl) ?_
    refine lv_aload_n hx hb dX0_canSit_36 rfl (lv_at hl 0 rfl) ?_
    refine q_get X hK h 0 rfl rfl wf_0 0 (by decide) rfl wm_1_198 dX0_canSit_37 ?_
    refine lv_icmp_ge (tgt := 84) hx hb dX0_canSit_40 (by decide) (fun c_10 => ?_) (fun c_10 => ?_)
    · replace c_10 := i_le (x := p1) (y := v34_9_0) rfl rfl c_10
      refine lv_iconst (v := 0) hx hb dX0_canSit_84 (by decide) ?_
      exact q_iret X hr hlk hK h rfl (fun _ => 0, fun _ _ => 0, fun _ _ => 0) ⟨⟨by decide +kernel, by decide +kernel⟩, trivial⟩ [0, 1] rfl rfl dX0_canSit_85 (Nat.le_of_ble_eq_true rfl) (Nat.le_of_ble_eq_true rfl)
    · replace c_10 := i_nle (x := p1) (y := v34_9_0) rfl rfl c_10
      refine lv_iload hx hb dX0_canSit_43 (lv_at hl 4 rfl) ?_
      refine lv_iload hx hb dX0_canSit_45 (lv_at hl 5 rfl) ?_
      refine lv_ishr hx hb dX0_canSit_47 ?_
      obtain ⟨z_11, ez_11, hz_11⟩ := e_shr (x := z_5) v34_9_0 rfl (by omega)
      refine q_c z_11 ez_11 ?_
      clear ez_11
      refine lv_iconst (v := 1) hx hb dX0_canSit_48 (by decide) ?_
      refine lv_iand hx hb dX0_canSit_49 ?_
      obtain ⟨z_12, ez_12, hz_12⟩ := e_and2 (x := z_11) (y := 1) (show (1 : Int32).toInt = 1 by decide) (by omega)
      refine q_c z_12 ez_12 ?_
      clear ez_12
      refine lv_iconst (v := 1) hx hb dX0_canSit_50 (by decide) ?_
      refine q_jn (pc2 := 78) (fun H locs ls st => st = [] ∧ qW D (va_A [(h0, .inr (0, [.int p1, .ref h1, w0, w1])), (h1, .inl (cy 1, 10, .inl f0))] sz) s.heap [(h0, .inr (0, [.int p1, .ref h1, w0, w1])), (h1, .inl (cy 1, 10, .inl f0))] H locs ∧ lv_has ls 6 [(0, .ref h0), (1, .int p0), (2, .int 3), (3, .int r_2), (4, .int z_5), (5, .int v34_9_0)]) (fun H locs ls st hP => ?_) (fun J_78 => ?_)
      · obtain ⟨rfl, h, hl⟩ := hP
        obtain ⟨z_14, ez_14, hz_14⟩ := e_add (x := v34_9_0) (y := Int32.ofInt 1) rfl (b := 1) (by decide) (by omega) (by omega)
        refine lv_iinc (v := z_14) (lv' := [(5, .int z_14), (0, .ref h0), (1, .int p0), (2, .int 3), (3, .int r_2), (4, .int z_5)]) hx hb dX0_canSit_78 hl (k := 5) rfl ez_14 (by decide) rfl (fun ls_14 hl_14 => ?_)
        clear hl
        refine lv_goto (tgt := 34) hx hb dX0_canSit_81 (by decide) ?_
        exact ih_34 z_14 (by show (11 - (z_14).toInt).toNat < (11 - (v34_9_0).toInt).toNat; omega) _ _ _ ⟨⟨by omega, by omega⟩, h, (lv_sub hl_14 [1, 2, 3, 4, 5, 0] rfl)⟩
      · skip
        refine lv_icmp_ne (tgt := 78) hx hb dX0_canSit_51 (by decide) (fun c_15 => ?_) (fun c_15 => ?_)
        · replace c_15 := i_ne (x := z_12) (y := 1) rfl (show (1 : Int32).toInt = 1 by decide) c_15
          exact J_78 _ _ _ _ ⟨rfl, h, (lv_sub hl [0, 1, 2, 3, 4, 5] rfl)⟩
        · replace c_15 := i_eq (x := z_12) (y := 1) rfl (show (1 : Int32).toInt = 1 by decide) c_15
          refine lv_aload_n hx hb dX0_canSit_54 rfl (lv_at hl 0 rfl) ?_
          refine lv_iload_n hx hb dX0_canSit_55 rfl (lv_at hl 1 rfl) ?_
          refine lv_iconst (v := 1) hx hb dX0_canSit_56 (by decide) ?_
          refine lv_iload_n hx hb dX0_canSit_57 rfl (lv_at hl 3 rfl) ?_
          refine lv_ishl hx hb dX0_canSit_58 ?_
          obtain ⟨z_16, ez_16, hz_16⟩ := e_shlk (p := r_2) 9 (by decide) rfl (by omega) (by omega)
          refine q_c z_16 ez_16 ?_
          clear ez_16
          refine lv_iconst (v := 1) hx hb dX0_canSit_59 (by decide) ?_
          refine lv_iload hx hb dX0_canSit_60 (lv_at hl 5 rfl) ?_
          refine lv_ishl hx hb dX0_canSit_62 ?_
          obtain ⟨z_17, ez_17, hz_17⟩ := e_shlk (p := v34_9_0) 9 (by decide) rfl (by omega) (by omega)
          refine q_c z_17 ez_17 ?_
          clear ez_17
          refine lv_ior hx hb dX0_canSit_63 ?_
          obtain ⟨z_18, ez_18, hz_18⟩ := e_or (x := z_16) (y := z_17) 10 (by decide) rfl rfl (by omega) (by omega) (by omega) (by omega)
          refine q_c z_18 ez_18 ?_
          clear ez_18
          refine lv_iconst (v := (-1)) hx hb dX0_canSit_64 (by decide) ?_
          refine lv_ixor hx hb dX0_canSit_65 ?_
          refine q_any (fun z_19 hz_19 => ?_)
          refine lv_iand hx hb dX0_canSit_66 ?_
          obtain ⟨z_20, ez_20, hz_20⟩ := e_and1 (x := p0) (y := z_19) rfl (by omega)
          refine q_c z_20 ez_20 ?_
          clear ez_20
          refine lv_iload_n hx hb dX0_canSit_67 rfl (lv_at hl 2 rfl) ?_
          refine lv_iconst (v := 1) hx hb dX0_canSit_68 (by decide) ?_
          refine lv_iadd hx hb dX0_canSit_69 ?_
          refine q_c 4 (by decide +kernel) ?_
          refine q_callVi (rest := []) (wr := []) X hK hT hA h (fun sz => gX0_canSit_d62df5b l D cy h0 h1 z_20 p1 w0 w1 f0 ⟨by omega, by omega⟩ hp1 sz) wm_4_117 wm_4_112 wm_1_6 hd_X0_canSit wm_4_110 wm_4_111 (ci := 0) (q0 := 0) rfl rfl ⟨Nat.le_of_ble_eq_true rfl, Nat.le_of_ble_eq_true rfl⟩ hl.1 rfl (Nat.le_of_ble_eq_true rfl) dX0_canSit_70 ⟨Nat.le_of_ble_eq_true rfl, Nat.le_of_ble_eq_true rfl⟩ [0, 1] [] rfl rfl (by decide) rfl rfl (fun r_21 u_21 H locs w_21 h_21 => ?_)
          clear h
          obtain ⟨wr_21, _⟩ := w_21
          replace h_21 : qW D _ _ [(h0, .inr (0, [.int p1, .ref h1, w0, w1])), (h1, .inl (cy 1, 10, .inl f0))] _ _ := h_21
          refine lv_if_eq (tgt := 78) hx hb dX0_canSit_73 (by decide) (fun c_22 => ?_) (fun c_22 => ?_)
          · replace c_22 := i_eq (x := r_21) (y := 0) rfl (show (0 : Int32).toInt = 0 by decide) c_22
            exact J_78 _ _ _ _ ⟨rfl, h_21, (lv_sub hl [0, 1, 2, 3, 4, 5] rfl)⟩
          · replace c_22 := i_ne (x := r_21) (y := 0) rfl (show (0 : Int32).toInt = 0 by decide) c_22
            refine lv_iconst (v := 1) hx hb dX0_canSit_76 (by decide) ?_
            exact q_iret X hr hlk hK h_21 rfl (fun _ => 0, fun _ _ => 0, fun _ _ => 0) ⟨⟨by decide +kernel, by decide +kernel⟩, trivial⟩ [0, 1] rfl rfl dX0_canSit_77 (Nat.le_of_ble_eq_true rfl) (Nat.le_of_ble_eq_true rfl)
  · replace c_1 := i_eq (x := p0) (y := 0) rfl (show (0 : Int32).toInt = 0 by decide) c_1
    refine lv_iconst (v := 1) hx hb dX0_canSit_4 (by decide) ?_
    exact q_iret X hr hlk hK h rfl (fun _ => 0, fun _ _ => 0, fun _ _ => 0) ⟨⟨by decide +kernel, by decide +kernel⟩, trivial⟩ [0, 1] rfl rfl dX0_canSit_5 (Nat.le_of_ble_eq_true rfl) (Nat.le_of_ble_eq_true rfl)
set_option maxHeartbeats 4000000 in
set_option maxRecDepth 100000 in
theorem gX0_canSit_09cf255 (l : Launch) (D : va_G) (cy : Nat → ClassId) (h0 : Nat) (h1 : Nat) (p0 : Int32) (p1 : Int32) (w0 : Value) (w1 : Value) (f0 : Nat → Int32) (hp0 : 0 ≤ (p0).toInt ∧ (p0).toInt ≤ 1023) (hp1 : 2 ≤ (p1).toInt ∧ (p1).toInt ≤ 10) (sz : Nat) : MI l yX0_canSit cX0_canSit 6 .boolean { frames := 9, cells := 0, slots := 0, locals := 215 } [.ref h0, .int p0, .int 2] D cy [(h0, .inr (0, [.int p1, .ref h1, w0, w1])), (h1, .inl (cy 1, 10, .inl f0))] sz (fun r u => (0 ≤ r.toInt ∧ r.toInt ≤ 1) ∧ True) (fun u => [(h0, .inr (0, [.int p1, .ref h1, w0, w1])), (h1, .inl (cy 1, 10, .inl f0))]) 0 0 := by
  refine q_ent (own := RX0) (by decide) rfl (Nat.le_of_ble_eq_true rfl) (fun p e s m below meth c ls X hr hlk hnm hK hT h hA hl => ?_)
  obtain ⟨hx, hb, hml, hown, ht⟩ := id X
  replace hl : lv_has ls 6 [(0, .ref h0), (1, .int p0), (2, .int 2)] := hl
  refine lv_iload_n hx hb dX0_canSit_0 rfl (lv_at hl 1 rfl) ?_
  refine lv_if_ne (tgt := 6) hx hb dX0_canSit_1 (by decide) (fun c_1 => ?_) (fun c_1 => ?_)
  · replace c_1 := i_ne (x := p0) (y := 0) rfl (show (0 : Int32).toInt = 0 by decide) c_1
    refine lv_iload_n hx hb dX0_canSit_6 rfl (lv_at hl 2 rfl) ?_
    refine lv_bipush (v := 10) hx hb dX0_canSit_7 (by decide) ?_
    refine lv_icmp_lt (tgt := 14) hx hb dX0_canSit_9 (by decide) (fun _ => ?_) (fun c => absurd c (by decide +kernel))
    refine lv_iload_n hx hb dX0_canSit_14 rfl (lv_at hl 1 rfl) ?_
    refine q_callSi (rest := []) (wr := [(h0, .inr (0, [.int p1, .ref h1, w0, w1])), (h1, .inl (cy 1, 10, .inl f0))]) X hK hT hA h (fun sz => gX0_lowestOf_af0d02d l D cy p0 ⟨by omega, by omega⟩ sz) wm_4_113 wm_4_115 wm_1_6 hd_X0_lowestOf wm_4_114 ⟨Nat.le_of_ble_eq_true rfl, Nat.le_of_ble_eq_true rfl⟩ hl.1 rfl (Nat.le_of_ble_eq_true rfl) dX0_canSit_15 ⟨Nat.le_of_ble_eq_true rfl, Nat.le_of_ble_eq_true rfl⟩ [] [0, 1] rfl rfl (by decide) rfl rfl (fun r_2 u_2 H locs w_2 h_2 => ?_)
    clear h
    obtain ⟨wr_2, _⟩ := w_2
    replace h_2 : qW D _ _ [(h0, .inr (0, [.int p1, .ref h1, w0, w1])), (h1, .inl (cy 1, 10, .inl f0))] _ _ := h_2
    refine lv_istore_n (lv' := [(3, .int r_2), (0, .ref h0), (1, .int p0), (2, .int 2)]) hx hb dX0_canSit_18 rfl hl (by decide) rfl (fun ls_3 hl_3 => ?_)
    clear hl
    refine lv_aload_n hx hb dX0_canSit_19 rfl (lv_at hl_3 1 rfl) ?_
    refine q_get X hK h_2 0 rfl rfl wf_0 1 (by decide) rfl wm_1_199 dX0_canSit_20 ?_
    refine lv_iload_n hx hb dX0_canSit_23 rfl (lv_at hl_3 0 rfl) ?_
    refine q_iald X hK h_2 1 rfl (i_in rfl (by omega) (by omega)) dX0_canSit_24 ?_
    refine q_any (fun z_4 hz_4 => ?_)
    refine lv_iload_n hx hb dX0_canSit_25 rfl (lv_at hl_3 2 rfl) ?_
    refine lv_iand hx hb dX0_canSit_26 ?_
    obtain ⟨z_5, ez_5, hz_5⟩ := e_and2 (x := z_4) (y := p0) rfl (by omega)
    refine q_c z_5 ez_5 ?_
    clear ez_5
    refine lv_istore (lv' := [(4, .int z_5), (3, .int r_2), (0, .ref h0), (1, .int p0), (2, .int 2)]) hx hb dX0_canSit_27 hl_3 (by decide) rfl (fun ls_6 hl_6 => ?_)
    clear hl_3
    refine lv_iload_n hx hb dX0_canSit_29 rfl (lv_at hl_6 1 rfl) ?_
    refine lv_iconst (v := 1) hx hb dX0_canSit_30 (by decide) ?_
    refine lv_iadd hx hb dX0_canSit_31 ?_
    obtain ⟨z_7, ez_7, hz_7⟩ := e_add (x := r_2) (y := 1) rfl (show (1 : Int32).toInt = 1 by decide) (by omega) (by omega)
    refine q_c z_7 ez_7 ?_
    clear ez_7
    refine lv_istore (lv' := [(5, .int z_7), (4, .int z_5), (3, .int r_2), (0, .ref h0), (1, .int p0), (2, .int 2)]) hx hb dX0_canSit_32 hl_6 (by decide) rfl (fun ls_8 hl_8 => ?_)
    clear hl_6
    refine q_wl (fun (v34_9_0 : Int32) H locs ls => (1 ≤ (v34_9_0).toInt ∧ (v34_9_0).toInt ≤ 10) ∧ qW D (va_A [(h0, .inr (0, [.int p1, .ref h1, w0, w1])), (h1, .inl (cy 1, 10, .inl f0))] sz) s.heap [(h0, .inr (0, [.int p1, .ref h1, w0, w1])), (h1, .inl (cy 1, 10, .inl f0))] H locs ∧ lv_has ls 6 [(0, .ref h0), (1, .int p0), (2, .int 2), (3, .int r_2), (4, .int z_5), (5, .int v34_9_0)]) (fun (v34_9_0 : Int32) => (11 - (v34_9_0).toInt).toNat) (fun q_34 ih_34 H locs ls hP => ?_) z_7 ⟨⟨by omega, by omega⟩, h_2, (lv_sub hl_8 [3, 4, 5, 2, 1, 0] rfl)⟩
    obtain ⟨v34_9_0, rfl⟩ : ∃ z, z = q_34 := ⟨_, rfl⟩
    obtain ⟨hv34_9_0, h, hl⟩ := hP
    refine lv_iload hx hb dX0_canSit_34 (lv_at hl 5 rfl) ?_
    refine lv_aload_n hx hb dX0_canSit_36 rfl (lv_at hl 0 rfl) ?_
    refine q_get X hK h 0 rfl rfl wf_0 0 (by decide) rfl wm_1_198 dX0_canSit_37 ?_
    refine lv_icmp_ge (tgt := 84) hx hb dX0_canSit_40 (by decide) (fun c_10 => ?_) (fun c_10 => ?_)
    · replace c_10 := i_le (x := p1) (y := v34_9_0) rfl rfl c_10
      refine lv_iconst (v := 0) hx hb dX0_canSit_84 (by decide) ?_
      exact q_iret X hr hlk hK h rfl (fun _ => 0, fun _ _ => 0, fun _ _ => 0) ⟨⟨by decide +kernel, by decide +kernel⟩, trivial⟩ [0, 1] rfl rfl dX0_canSit_85 (Nat.le_of_ble_eq_true rfl) (Nat.le_of_ble_eq_true rfl)
    · replace c_10 := i_nle (x := p1) (y := v34_9_0) rfl rfl c_10
      refine lv_iload hx hb dX0_canSit_43 (lv_at hl 4 rfl) ?_
      refine lv_iload hx hb dX0_canSit_45 (lv_at hl 5 rfl) ?_
      refine lv_ishr hx hb dX0_canSit_47 ?_
      obtain ⟨z_11, ez_11, hz_11⟩ := e_shr (x := z_5) v34_9_0 rfl (by omega)
      refine q_c z_11 ez_11 ?_
      clear ez_11
      refine lv_iconst (v := 1) hx hb dX0_canSit_48 (by decide) ?_
      refine lv_iand hx hb dX0_canSit_49 ?_
      obtain ⟨z_12, ez_12, hz_12⟩ := e_and2 (x := z_11) (y := 1) (show (1 : Int32).toInt = 1 by decide) (by omega)
      refine q_c z_12 ez_12 ?_
      clear ez_12
      refine lv_iconst (v := 1) hx hb dX0_canSit_50 (by decide) ?_
      refine q_jn (pc2 := 78) (fun H locs ls st => st = [] ∧ qW D (va_A [(h0, .inr (0, [.int p1, .ref h1, w0, w1])), (h1, .inl (cy 1, 10, .inl f0))] sz) s.heap [(h0, .inr (0, [.int p1, .ref h1, w0, w1])), (h1, .inl (cy 1, 10, .inl f0))] H locs ∧ lv_has ls 6 [(0, .ref h0), (1, .int p0), (2, .int 2), (3, .int r_2), (4, .int z_5), (5, .int v34_9_0)]) (fun H locs ls st hP => ?_) (fun J_78 => ?_)
      · obtain ⟨rfl, h, hl⟩ := hP
        obtain ⟨z_14, ez_14, hz_14⟩ := e_add (x := v34_9_0) (y := Int32.ofInt 1) rfl (b := 1) (by decide) (by omega) (by omega)
        refine lv_iinc (v := z_14) (lv' := [(5, .int z_14), (0, .ref h0), (1, .int p0), (2, .int 2), (3, .int r_2), (4, .int z_5)]) hx hb dX0_canSit_78 hl (k := 5) rfl ez_14 (by decide) rfl (fun ls_14 hl_14 => ?_)
        clear hl
        refine lv_goto (tgt := 34) hx hb dX0_canSit_81 (by decide) ?_
        exact ih_34 z_14 (by show (11 - (z_14).toInt).toNat < (11 - (v34_9_0).toInt).toNat; omega) _ _ _ ⟨⟨by omega, by omega⟩, h, (lv_sub hl_14 [1, 2, 3, 4, 5, 0] rfl)⟩
      · skip
        refine lv_icmp_ne (tgt := 78) hx hb dX0_canSit_51 (by decide) (fun c_15 => ?_) (fun c_15 => ?_)
        · replace c_15 := i_ne (x := z_12) (y := 1) rfl (show (1 : Int32).toInt = 1 by decide) c_15
          exact J_78 _ _ _ _ ⟨rfl, h, (lv_sub hl [0, 1, 2, 3, 4, 5] rfl)⟩
        · replace c_15 := i_eq (x := z_12) (y := 1) rfl (show (1 : Int32).toInt = 1 by decide) c_15
          refine lv_aload_n hx hb dX0_canSit_54 rfl (lv_at hl 0 rfl) ?_
          refine lv_iload_n hx hb dX0_canSit_55 rfl (lv_at hl 1 rfl) ?_
          refine lv_iconst (v := 1) hx hb dX0_canSit_56 (by decide) ?_
          refine lv_iload_n hx hb dX0_canSit_57 rfl (lv_at hl 3 rfl) ?_
          refine lv_ishl hx hb dX0_canSit_58 ?_
          obtain ⟨z_16, ez_16, hz_16⟩ := e_shlk (p := r_2) 9 (by decide) rfl (by omega) (by omega)
          refine q_c z_16 ez_16 ?_
          clear ez_16
          refine lv_iconst (v := 1) hx hb dX0_canSit_59 (by decide) ?_
          refine lv_iload hx hb dX0_canSit_60 (lv_at hl 5 rfl) ?_
          refine lv_ishl hx hb dX0_canSit_62 ?_
          obtain ⟨z_17, ez_17, hz_17⟩ := e_shlk (p := v34_9_0) 9 (by decide) rfl (by omega) (by omega)
          refine q_c z_17 ez_17 ?_
          clear ez_17
          refine lv_ior hx hb dX0_canSit_63 ?_
          obtain ⟨z_18, ez_18, hz_18⟩ := e_or (x := z_16) (y := z_17) 10 (by decide) rfl rfl (by omega) (by omega) (by omega) (by omega)
          refine q_c z_18 ez_18 ?_
          clear ez_18
          refine lv_iconst (v := (-1)) hx hb dX0_canSit_64 (by decide) ?_
          refine lv_ixor hx hb dX0_canSit_65 ?_
          refine q_any (fun z_19 hz_19 => ?_)
          refine lv_iand hx hb dX0_canSit_66 ?_
          obtain ⟨z_20, ez_20, hz_20⟩ := e_and1 (x := p0) (y := z_19) rfl (by omega)
          refine q_c z_20 ez_20 ?_
          clear ez_20
          refine lv_iload_n hx hb dX0_canSit_67 rfl (lv_at hl 2 rfl) ?_
          refine lv_iconst (v := 1) hx hb dX0_canSit_68 (by decide) ?_
          refine lv_iadd hx hb dX0_canSit_69 ?_
          refine q_c 3 (by decide +kernel) ?_
          refine q_callVi (rest := []) (wr := []) X hK hT hA h (fun sz => gX0_canSit_c0eee13 l D cy h0 h1 z_20 p1 w0 w1 f0 ⟨by omega, by omega⟩ hp1 sz) wm_4_117 wm_4_112 wm_1_6 hd_X0_canSit wm_4_110 wm_4_111 (ci := 0) (q0 := 0) rfl rfl ⟨Nat.le_of_ble_eq_true rfl, Nat.le_of_ble_eq_true rfl⟩ hl.1 rfl (Nat.le_of_ble_eq_true rfl) dX0_canSit_70 ⟨Nat.le_of_ble_eq_true rfl, Nat.le_of_ble_eq_true rfl⟩ [0, 1] [] rfl rfl (by decide) rfl rfl (fun r_21 u_21 H locs w_21 h_21 => ?_)
          clear h
          obtain ⟨wr_21, _⟩ := w_21
          replace h_21 : qW D _ _ [(h0, .inr (0, [.int p1, .ref h1, w0, w1])), (h1, .inl (cy 1, 10, .inl f0))] _ _ := h_21
          refine lv_if_eq (tgt := 78) hx hb dX0_canSit_73 (by decide) (fun c_22 => ?_) (fun c_22 => ?_)
          · replace c_22 := i_eq (x := r_21) (y := 0) rfl (show (0 : Int32).toInt = 0 by decide) c_22
            exact J_78 _ _ _ _ ⟨rfl, h_21, (lv_sub hl [0, 1, 2, 3, 4, 5] rfl)⟩
          · replace c_22 := i_ne (x := r_21) (y := 0) rfl (show (0 : Int32).toInt = 0 by decide) c_22
            refine lv_iconst (v := 1) hx hb dX0_canSit_76 (by decide) ?_
            exact q_iret X hr hlk hK h_21 rfl (fun _ => 0, fun _ _ => 0, fun _ _ => 0) ⟨⟨by decide +kernel, by decide +kernel⟩, trivial⟩ [0, 1] rfl rfl dX0_canSit_77 (Nat.le_of_ble_eq_true rfl) (Nat.le_of_ble_eq_true rfl)
  · replace c_1 := i_eq (x := p0) (y := 0) rfl (show (0 : Int32).toInt = 0 by decide) c_1
    refine lv_iconst (v := 1) hx hb dX0_canSit_4 (by decide) ?_
    exact q_iret X hr hlk hK h rfl (fun _ => 0, fun _ _ => 0, fun _ _ => 0) ⟨⟨by decide +kernel, by decide +kernel⟩, trivial⟩ [0, 1] rfl rfl dX0_canSit_5 (Nat.le_of_ble_eq_true rfl) (Nat.le_of_ble_eq_true rfl)
set_option maxHeartbeats 4000000 in
set_option maxRecDepth 100000 in
theorem gX0_canSit_6582a98 (l : Launch) (D : va_G) (cy : Nat → ClassId) (h0 : Nat) (h1 : Nat) (p0 : Int32) (p1 : Int32) (w0 : Value) (w1 : Value) (f0 : Nat → Int32) (hp0 : 0 ≤ (p0).toInt ∧ (p0).toInt ≤ 1023) (hp1 : 2 ≤ (p1).toInt ∧ (p1).toInt ≤ 10) (sz : Nat) : MI l yX0_canSit cX0_canSit 6 .boolean { frames := 10, cells := 0, slots := 0, locals := 240 } [.ref h0, .int p0, .int 1] D cy [(h0, .inr (0, [.int p1, .ref h1, w0, w1])), (h1, .inl (cy 1, 10, .inl f0))] sz (fun r u => (0 ≤ r.toInt ∧ r.toInt ≤ 1) ∧ True) (fun u => [(h0, .inr (0, [.int p1, .ref h1, w0, w1])), (h1, .inl (cy 1, 10, .inl f0))]) 0 0 := by
  refine q_ent (own := RX0) (by decide) rfl (Nat.le_of_ble_eq_true rfl) (fun p e s m below meth c ls X hr hlk hnm hK hT h hA hl => ?_)
  obtain ⟨hx, hb, hml, hown, ht⟩ := id X
  replace hl : lv_has ls 6 [(0, .ref h0), (1, .int p0), (2, .int 1)] := hl
  refine lv_iload_n hx hb dX0_canSit_0 rfl (lv_at hl 1 rfl) ?_
  refine lv_if_ne (tgt := 6) hx hb dX0_canSit_1 (by decide) (fun c_1 => ?_) (fun c_1 => ?_)
  · replace c_1 := i_ne (x := p0) (y := 0) rfl (show (0 : Int32).toInt = 0 by decide) c_1
    refine lv_iload_n hx hb dX0_canSit_6 rfl (lv_at hl 2 rfl) ?_
    refine lv_bipush (v := 10) hx hb dX0_canSit_7 (by decide) ?_
    refine lv_icmp_lt (tgt := 14) hx hb dX0_canSit_9 (by decide) (fun _ => ?_) (fun c => absurd c (by decide +kernel))
    refine lv_iload_n hx hb dX0_canSit_14 rfl (lv_at hl 1 rfl) ?_
    refine q_callSi (rest := []) (wr := [(h0, .inr (0, [.int p1, .ref h1, w0, w1])), (h1, .inl (cy 1, 10, .inl f0))]) X hK hT hA h (fun sz => gX0_lowestOf_af0d02d l D cy p0 ⟨by omega, by omega⟩ sz) wm_4_113 wm_4_115 wm_1_6 hd_X0_lowestOf wm_4_114 ⟨Nat.le_of_ble_eq_true rfl, Nat.le_of_ble_eq_true rfl⟩ hl.1 rfl (Nat.le_of_ble_eq_true rfl) dX0_canSit_15 ⟨Nat.le_of_ble_eq_true rfl, Nat.le_of_ble_eq_true rfl⟩ [] [0, 1] rfl rfl (by decide) rfl rfl (fun r_2 u_2 H locs w_2 h_2 => ?_)
    clear h
    obtain ⟨wr_2, _⟩ := w_2
    replace h_2 : qW D _ _ [(h0, .inr (0, [.int p1, .ref h1, w0, w1])), (h1, .inl (cy 1, 10, .inl f0))] _ _ := h_2
    refine lv_istore_n (lv' := [(3, .int r_2), (0, .ref h0), (1, .int p0), (2, .int 1)]) hx hb dX0_canSit_18 rfl hl (by decide) rfl (fun ls_3 hl_3 => ?_)
    clear hl
    refine lv_aload_n hx hb dX0_canSit_19 rfl (lv_at hl_3 1 rfl) ?_
    refine q_get X hK h_2 0 rfl rfl wf_0 1 (by decide) rfl wm_1_199 dX0_canSit_20 ?_
    refine lv_iload_n hx hb dX0_canSit_23 rfl (lv_at hl_3 0 rfl) ?_
    refine q_iald X hK h_2 1 rfl (i_in rfl (by omega) (by omega)) dX0_canSit_24 ?_
    refine q_any (fun z_4 hz_4 => ?_)
    refine lv_iload_n hx hb dX0_canSit_25 rfl (lv_at hl_3 2 rfl) ?_
    refine lv_iand hx hb dX0_canSit_26 ?_
    obtain ⟨z_5, ez_5, hz_5⟩ := e_and2 (x := z_4) (y := p0) rfl (by omega)
    refine q_c z_5 ez_5 ?_
    clear ez_5
    refine lv_istore (lv' := [(4, .int z_5), (3, .int r_2), (0, .ref h0), (1, .int p0), (2, .int 1)]) hx hb dX0_canSit_27 hl_3 (by decide) rfl (fun ls_6 hl_6 => ?_)
    clear hl_3
    refine lv_iload_n hx hb dX0_canSit_29 rfl (lv_at hl_6 1 rfl) ?_
    refine lv_iconst (v := 1) hx hb dX0_canSit_30 (by decide) ?_
    refine lv_iadd hx hb dX0_canSit_31 ?_
    obtain ⟨z_7, ez_7, hz_7⟩ := e_add (x := r_2) (y := 1) rfl (show (1 : Int32).toInt = 1 by decide) (by omega) (by omega)
    refine q_c z_7 ez_7 ?_
    clear ez_7
    refine lv_istore (lv' := [(5, .int z_7), (4, .int z_5), (3, .int r_2), (0, .ref h0), (1, .int p0), (2, .int 1)]) hx hb dX0_canSit_32 hl_6 (by decide) rfl (fun ls_8 hl_8 => ?_)
    clear hl_6
    refine q_wl (fun (v34_9_0 : Int32) H locs ls => (1 ≤ (v34_9_0).toInt ∧ (v34_9_0).toInt ≤ 10) ∧ qW D (va_A [(h0, .inr (0, [.int p1, .ref h1, w0, w1])), (h1, .inl (cy 1, 10, .inl f0))] sz) s.heap [(h0, .inr (0, [.int p1, .ref h1, w0, w1])), (h1, .inl (cy 1, 10, .inl f0))] H locs ∧ lv_has ls 6 [(0, .ref h0), (1, .int p0), (2, .int 1), (3, .int r_2), (4, .int z_5), (5, .int v34_9_0)]) (fun (v34_9_0 : Int32) => (11 - (v34_9_0).toInt).toNat) (fun q_34 ih_34 H locs ls hP => ?_) z_7 ⟨⟨by omega, by omega⟩, h_2, (lv_sub hl_8 [3, 4, 5, 2, 1, 0] rfl)⟩
    obtain ⟨v34_9_0, rfl⟩ : ∃ z, z = q_34 := ⟨_, rfl⟩
    obtain ⟨hv34_9_0, h, hl⟩ := hP
    refine lv_iload hx hb dX0_canSit_34 (lv_at hl 5 rfl) ?_
    refine lv_aload_n hx hb dX0_canSit_36 rfl (lv_at hl 0 rfl) ?_
    refine q_get X hK h 0 rfl rfl wf_0 0 (by decide) rfl wm_1_198 dX0_canSit_37 ?_
    refine lv_icmp_ge (tgt := 84) hx hb dX0_canSit_40 (by decide) (fun c_10 => ?_) (fun c_10 => ?_)
    · replace c_10 := i_le (x := p1) (y := v34_9_0) rfl rfl c_10
      refine lv_iconst (v := 0) hx hb dX0_canSit_84 (by decide) ?_
      exact q_iret X hr hlk hK h rfl (fun _ => 0, fun _ _ => 0, fun _ _ => 0) ⟨⟨by decide +kernel, by decide +kernel⟩, trivial⟩ [0, 1] rfl rfl dX0_canSit_85 (Nat.le_of_ble_eq_true rfl) (Nat.le_of_ble_eq_true rfl)
    · replace c_10 := i_nle (x := p1) (y := v34_9_0) rfl rfl c_10
      refine lv_iload hx hb dX0_canSit_43 (lv_at hl 4 rfl) ?_
      refine lv_iload hx hb dX0_canSit_45 (lv_at hl 5 rfl) ?_
      refine lv_ishr hx hb dX0_canSit_47 ?_
      obtain ⟨z_11, ez_11, hz_11⟩ := e_shr (x := z_5) v34_9_0 rfl (by omega)
      refine q_c z_11 ez_11 ?_
      clear ez_11
      refine lv_iconst (v := 1) hx hb dX0_canSit_48 (by decide) ?_
      refine lv_iand hx hb dX0_canSit_49 ?_
      obtain ⟨z_12, ez_12, hz_12⟩ := e_and2 (x := z_11) (y := 1) (show (1 : Int32).toInt = 1 by decide) (by omega)
      refine q_c z_12 ez_12 ?_
      clear ez_12
      refine lv_iconst (v := 1) hx hb dX0_canSit_50 (by decide) ?_
      refine q_jn (pc2 := 78) (fun H locs ls st => st = [] ∧ qW D (va_A [(h0, .inr (0, [.int p1, .ref h1, w0, w1])), (h1, .inl (cy 1, 10, .inl f0))] sz) s.heap [(h0, .inr (0, [.int p1, .ref h1, w0, w1])), (h1, .inl (cy 1, 10, .inl f0))] H locs ∧ lv_has ls 6 [(0, .ref h0), (1, .int p0), (2, .int 1), (3, .int r_2), (4, .int z_5), (5, .int v34_9_0)]) (fun H locs ls st hP => ?_) (fun J_78 => ?_)
      · obtain ⟨rfl, h, hl⟩ := hP
        obtain ⟨z_14, ez_14, hz_14⟩ := e_add (x := v34_9_0) (y := Int32.ofInt 1) rfl (b := 1) (by decide) (by omega) (by omega)
        refine lv_iinc (v := z_14) (lv' := [(5, .int z_14), (0, .ref h0), (1, .int p0), (2, .int 1), (3, .int r_2), (4, .int z_5)]) hx hb dX0_canSit_78 hl (k := 5) rfl ez_14 (by decide) rfl (fun ls_14 hl_14 => ?_)
        clear hl
        refine lv_goto (tgt := 34) hx hb dX0_canSit_81 (by decide) ?_
        exact ih_34 z_14 (by show (11 - (z_14).toInt).toNat < (11 - (v34_9_0).toInt).toNat; omega) _ _ _ ⟨⟨by omega, by omega⟩, h, (lv_sub hl_14 [1, 2, 3, 4, 5, 0] rfl)⟩
      · skip
        refine lv_icmp_ne (tgt := 78) hx hb dX0_canSit_51 (by decide) (fun c_15 => ?_) (fun c_15 => ?_)
        · replace c_15 := i_ne (x := z_12) (y := 1) rfl (show (1 : Int32).toInt = 1 by decide) c_15
          exact J_78 _ _ _ _ ⟨rfl, h, (lv_sub hl [0, 1, 2, 3, 4, 5] rfl)⟩
        · replace c_15 := i_eq (x := z_12) (y := 1) rfl (show (1 : Int32).toInt = 1 by decide) c_15
          refine lv_aload_n hx hb dX0_canSit_54 rfl (lv_at hl 0 rfl) ?_
          refine lv_iload_n hx hb dX0_canSit_55 rfl (lv_at hl 1 rfl) ?_
          refine lv_iconst (v := 1) hx hb dX0_canSit_56 (by decide) ?_
          refine lv_iload_n hx hb dX0_canSit_57 rfl (lv_at hl 3 rfl) ?_
          refine lv_ishl hx hb dX0_canSit_58 ?_
          obtain ⟨z_16, ez_16, hz_16⟩ := e_shlk (p := r_2) 9 (by decide) rfl (by omega) (by omega)
          refine q_c z_16 ez_16 ?_
          clear ez_16
          refine lv_iconst (v := 1) hx hb dX0_canSit_59 (by decide) ?_
          refine lv_iload hx hb dX0_canSit_60 (lv_at hl 5 rfl) ?_
          refine lv_ishl hx hb dX0_canSit_62 ?_
          obtain ⟨z_17, ez_17, hz_17⟩ := e_shlk (p := v34_9_0) 9 (by decide) rfl (by omega) (by omega)
          refine q_c z_17 ez_17 ?_
          clear ez_17
          refine lv_ior hx hb dX0_canSit_63 ?_
          obtain ⟨z_18, ez_18, hz_18⟩ := e_or (x := z_16) (y := z_17) 10 (by decide) rfl rfl (by omega) (by omega) (by omega) (by omega)
          refine q_c z_18 ez_18 ?_
          clear ez_18
          refine lv_iconst (v := (-1)) hx hb dX0_canSit_64 (by decide) ?_
          refine lv_ixor hx hb dX0_canSit_65 ?_
          refine q_any (fun z_19 hz_19 => ?_)
          refine lv_iand hx hb dX0_canSit_66 ?_
          obtain ⟨z_20, ez_20, hz_20⟩ := e_and1 (x := p0) (y := z_19) rfl (by omega)
          refine q_c z_20 ez_20 ?_
          clear ez_20
          refine lv_iload_n hx hb dX0_canSit_67 rfl (lv_at hl 2 rfl) ?_
          refine lv_iconst (v := 1) hx hb dX0_canSit_68 (by decide) ?_
          refine lv_iadd hx hb dX0_canSit_69 ?_
          refine q_c 2 (by decide +kernel) ?_
          refine q_callVi (rest := []) (wr := []) X hK hT hA h (fun sz => gX0_canSit_09cf255 l D cy h0 h1 z_20 p1 w0 w1 f0 ⟨by omega, by omega⟩ hp1 sz) wm_4_117 wm_4_112 wm_1_6 hd_X0_canSit wm_4_110 wm_4_111 (ci := 0) (q0 := 0) rfl rfl ⟨Nat.le_of_ble_eq_true rfl, Nat.le_of_ble_eq_true rfl⟩ hl.1 rfl (Nat.le_of_ble_eq_true rfl) dX0_canSit_70 ⟨Nat.le_of_ble_eq_true rfl, Nat.le_of_ble_eq_true rfl⟩ [0, 1] [] rfl rfl (by decide) rfl rfl (fun r_21 u_21 H locs w_21 h_21 => ?_)
          clear h
          obtain ⟨wr_21, _⟩ := w_21
          replace h_21 : qW D _ _ [(h0, .inr (0, [.int p1, .ref h1, w0, w1])), (h1, .inl (cy 1, 10, .inl f0))] _ _ := h_21
          refine lv_if_eq (tgt := 78) hx hb dX0_canSit_73 (by decide) (fun c_22 => ?_) (fun c_22 => ?_)
          · replace c_22 := i_eq (x := r_21) (y := 0) rfl (show (0 : Int32).toInt = 0 by decide) c_22
            exact J_78 _ _ _ _ ⟨rfl, h_21, (lv_sub hl [0, 1, 2, 3, 4, 5] rfl)⟩
          · replace c_22 := i_ne (x := r_21) (y := 0) rfl (show (0 : Int32).toInt = 0 by decide) c_22
            refine lv_iconst (v := 1) hx hb dX0_canSit_76 (by decide) ?_
            exact q_iret X hr hlk hK h_21 rfl (fun _ => 0, fun _ _ => 0, fun _ _ => 0) ⟨⟨by decide +kernel, by decide +kernel⟩, trivial⟩ [0, 1] rfl rfl dX0_canSit_77 (Nat.le_of_ble_eq_true rfl) (Nat.le_of_ble_eq_true rfl)
  · replace c_1 := i_eq (x := p0) (y := 0) rfl (show (0 : Int32).toInt = 0 by decide) c_1
    refine lv_iconst (v := 1) hx hb dX0_canSit_4 (by decide) ?_
    exact q_iret X hr hlk hK h rfl (fun _ => 0, fun _ _ => 0, fun _ _ => 0) ⟨⟨by decide +kernel, by decide +kernel⟩, trivial⟩ [0, 1] rfl rfl dX0_canSit_5 (Nat.le_of_ble_eq_true rfl) (Nat.le_of_ble_eq_true rfl)
set_option maxHeartbeats 4000000 in
set_option maxRecDepth 100000 in
theorem gX0_canSit_8989582 (l : Launch) (D : va_G) (cy : Nat → ClassId) (h0 : Nat) (h1 : Nat) (p0 : Int32) (p1 : Int32) (w0 : Value) (w1 : Value) (f0 : Nat → Int32) (hp0 : 0 ≤ (p0).toInt ∧ (p0).toInt ≤ 1023) (hp1 : 0 ≤ (p1).toInt ∧ (p1).toInt ≤ 10) (sz : Nat) : MI l yX0_canSit cX0_canSit 6 .boolean { frames := 11, cells := 0, slots := 0, locals := 265 } [.ref h0, .int p0, .int 0] D cy [(h0, .inr (0, [.int p1, .ref h1, w0, w1])), (h1, .inl (cy 1, 10, .inl f0))] sz (fun r u => (0 ≤ r.toInt ∧ r.toInt ≤ 1) ∧ True) (fun u => [(h0, .inr (0, [.int p1, .ref h1, w0, w1])), (h1, .inl (cy 1, 10, .inl f0))]) 0 0 := by
  refine q_ent (own := RX0) (by decide) rfl (Nat.le_of_ble_eq_true rfl) (fun p e s m below meth c ls X hr hlk hnm hK hT h hA hl => ?_)
  obtain ⟨hx, hb, hml, hown, ht⟩ := id X
  replace hl : lv_has ls 6 [(0, .ref h0), (1, .int p0), (2, .int 0)] := hl
  refine lv_iload_n hx hb dX0_canSit_0 rfl (lv_at hl 1 rfl) ?_
  refine lv_if_ne (tgt := 6) hx hb dX0_canSit_1 (by decide) (fun c_1 => ?_) (fun c_1 => ?_)
  · replace c_1 := i_ne (x := p0) (y := 0) rfl (show (0 : Int32).toInt = 0 by decide) c_1
    refine lv_iload_n hx hb dX0_canSit_6 rfl (lv_at hl 2 rfl) ?_
    refine lv_bipush (v := 10) hx hb dX0_canSit_7 (by decide) ?_
    refine lv_icmp_lt (tgt := 14) hx hb dX0_canSit_9 (by decide) (fun _ => ?_) (fun c => absurd c (by decide +kernel))
    refine lv_iload_n hx hb dX0_canSit_14 rfl (lv_at hl 1 rfl) ?_
    refine q_callSi (rest := []) (wr := [(h0, .inr (0, [.int p1, .ref h1, w0, w1])), (h1, .inl (cy 1, 10, .inl f0))]) X hK hT hA h (fun sz => gX0_lowestOf_af0d02d l D cy p0 ⟨by omega, by omega⟩ sz) wm_4_113 wm_4_115 wm_1_6 hd_X0_lowestOf wm_4_114 ⟨Nat.le_of_ble_eq_true rfl, Nat.le_of_ble_eq_true rfl⟩ hl.1 rfl (Nat.le_of_ble_eq_true rfl) dX0_canSit_15 ⟨Nat.le_of_ble_eq_true rfl, Nat.le_of_ble_eq_true rfl⟩ [] [0, 1] rfl rfl (by decide) rfl rfl (fun r_2 u_2 H locs w_2 h_2 => ?_)
    clear h
    obtain ⟨wr_2, _⟩ := w_2
    replace h_2 : qW D _ _ [(h0, .inr (0, [.int p1, .ref h1, w0, w1])), (h1, .inl (cy 1, 10, .inl f0))] _ _ := h_2
    refine lv_istore_n (lv' := [(3, .int r_2), (0, .ref h0), (1, .int p0), (2, .int 0)]) hx hb dX0_canSit_18 rfl hl (by decide) rfl (fun ls_3 hl_3 => ?_)
    clear hl
    refine lv_aload_n hx hb dX0_canSit_19 rfl (lv_at hl_3 1 rfl) ?_
    refine q_get X hK h_2 0 rfl rfl wf_0 1 (by decide) rfl wm_1_199 dX0_canSit_20 ?_
    refine lv_iload_n hx hb dX0_canSit_23 rfl (lv_at hl_3 0 rfl) ?_
    refine q_iald X hK h_2 1 rfl (i_in rfl (by omega) (by omega)) dX0_canSit_24 ?_
    refine q_any (fun z_4 hz_4 => ?_)
    refine lv_iload_n hx hb dX0_canSit_25 rfl (lv_at hl_3 2 rfl) ?_
    refine lv_iand hx hb dX0_canSit_26 ?_
    obtain ⟨z_5, ez_5, hz_5⟩ := e_and2 (x := z_4) (y := p0) rfl (by omega)
    refine q_c z_5 ez_5 ?_
    clear ez_5
    refine lv_istore (lv' := [(4, .int z_5), (3, .int r_2), (0, .ref h0), (1, .int p0), (2, .int 0)]) hx hb dX0_canSit_27 hl_3 (by decide) rfl (fun ls_6 hl_6 => ?_)
    clear hl_3
    refine lv_iload_n hx hb dX0_canSit_29 rfl (lv_at hl_6 1 rfl) ?_
    refine lv_iconst (v := 1) hx hb dX0_canSit_30 (by decide) ?_
    refine lv_iadd hx hb dX0_canSit_31 ?_
    obtain ⟨z_7, ez_7, hz_7⟩ := e_add (x := r_2) (y := 1) rfl (show (1 : Int32).toInt = 1 by decide) (by omega) (by omega)
    refine q_c z_7 ez_7 ?_
    clear ez_7
    refine lv_istore (lv' := [(5, .int z_7), (4, .int z_5), (3, .int r_2), (0, .ref h0), (1, .int p0), (2, .int 0)]) hx hb dX0_canSit_32 hl_6 (by decide) rfl (fun ls_8 hl_8 => ?_)
    clear hl_6
    refine q_wl (fun (v34_9_0 : Int32) H locs ls => (1 ≤ (v34_9_0).toInt ∧ (v34_9_0).toInt ≤ 10) ∧ qW D (va_A [(h0, .inr (0, [.int p1, .ref h1, w0, w1])), (h1, .inl (cy 1, 10, .inl f0))] sz) s.heap [(h0, .inr (0, [.int p1, .ref h1, w0, w1])), (h1, .inl (cy 1, 10, .inl f0))] H locs ∧ lv_has ls 6 [(0, .ref h0), (1, .int p0), (2, .int 0), (3, .int r_2), (4, .int z_5), (5, .int v34_9_0)]) (fun (v34_9_0 : Int32) => (11 - (v34_9_0).toInt).toNat) (fun q_34 ih_34 H locs ls hP => ?_) z_7 ⟨⟨by omega, by omega⟩, h_2, (lv_sub hl_8 [3, 4, 5, 2, 1, 0] rfl)⟩
    obtain ⟨v34_9_0, rfl⟩ : ∃ z, z = q_34 := ⟨_, rfl⟩
    obtain ⟨hv34_9_0, h, hl⟩ := hP
    refine lv_iload hx hb dX0_canSit_34 (lv_at hl 5 rfl) ?_
    refine lv_aload_n hx hb dX0_canSit_36 rfl (lv_at hl 0 rfl) ?_
    refine q_get X hK h 0 rfl rfl wf_0 0 (by decide) rfl wm_1_198 dX0_canSit_37 ?_
    refine lv_icmp_ge (tgt := 84) hx hb dX0_canSit_40 (by decide) (fun c_10 => ?_) (fun c_10 => ?_)
    · replace c_10 := i_le (x := p1) (y := v34_9_0) rfl rfl c_10
      refine lv_iconst (v := 0) hx hb dX0_canSit_84 (by decide) ?_
      exact q_iret X hr hlk hK h rfl (fun _ => 0, fun _ _ => 0, fun _ _ => 0) ⟨⟨by decide +kernel, by decide +kernel⟩, trivial⟩ [0, 1] rfl rfl dX0_canSit_85 (Nat.le_of_ble_eq_true rfl) (Nat.le_of_ble_eq_true rfl)
    · replace c_10 := i_nle (x := p1) (y := v34_9_0) rfl rfl c_10
      refine lv_iload hx hb dX0_canSit_43 (lv_at hl 4 rfl) ?_
      refine lv_iload hx hb dX0_canSit_45 (lv_at hl 5 rfl) ?_
      refine lv_ishr hx hb dX0_canSit_47 ?_
      obtain ⟨z_11, ez_11, hz_11⟩ := e_shr (x := z_5) v34_9_0 rfl (by omega)
      refine q_c z_11 ez_11 ?_
      clear ez_11
      refine lv_iconst (v := 1) hx hb dX0_canSit_48 (by decide) ?_
      refine lv_iand hx hb dX0_canSit_49 ?_
      obtain ⟨z_12, ez_12, hz_12⟩ := e_and2 (x := z_11) (y := 1) (show (1 : Int32).toInt = 1 by decide) (by omega)
      refine q_c z_12 ez_12 ?_
      clear ez_12
      refine lv_iconst (v := 1) hx hb dX0_canSit_50 (by decide) ?_
      refine q_jn (pc2 := 78) (fun H locs ls st => st = [] ∧ qW D (va_A [(h0, .inr (0, [.int p1, .ref h1, w0, w1])), (h1, .inl (cy 1, 10, .inl f0))] sz) s.heap [(h0, .inr (0, [.int p1, .ref h1, w0, w1])), (h1, .inl (cy 1, 10, .inl f0))] H locs ∧ lv_has ls 6 [(0, .ref h0), (1, .int p0), (2, .int 0), (3, .int r_2), (4, .int z_5), (5, .int v34_9_0)]) (fun H locs ls st hP => ?_) (fun J_78 => ?_)
      · obtain ⟨rfl, h, hl⟩ := hP
        obtain ⟨z_14, ez_14, hz_14⟩ := e_add (x := v34_9_0) (y := Int32.ofInt 1) rfl (b := 1) (by decide) (by omega) (by omega)
        refine lv_iinc (v := z_14) (lv' := [(5, .int z_14), (0, .ref h0), (1, .int p0), (2, .int 0), (3, .int r_2), (4, .int z_5)]) hx hb dX0_canSit_78 hl (k := 5) rfl ez_14 (by decide) rfl (fun ls_14 hl_14 => ?_)
        clear hl
        refine lv_goto (tgt := 34) hx hb dX0_canSit_81 (by decide) ?_
        exact ih_34 z_14 (by show (11 - (z_14).toInt).toNat < (11 - (v34_9_0).toInt).toNat; omega) _ _ _ ⟨⟨by omega, by omega⟩, h, (lv_sub hl_14 [1, 2, 3, 4, 5, 0] rfl)⟩
      · skip
        refine lv_icmp_ne (tgt := 78) hx hb dX0_canSit_51 (by decide) (fun c_15 => ?_) (fun c_15 => ?_)
        · replace c_15 := i_ne (x := z_12) (y := 1) rfl (show (1 : Int32).toInt = 1 by decide) c_15
          exact J_78 _ _ _ _ ⟨rfl, h, (lv_sub hl [0, 1, 2, 3, 4, 5] rfl)⟩
        · replace c_15 := i_eq (x := z_12) (y := 1) rfl (show (1 : Int32).toInt = 1 by decide) c_15
          refine lv_aload_n hx hb dX0_canSit_54 rfl (lv_at hl 0 rfl) ?_
          refine lv_iload_n hx hb dX0_canSit_55 rfl (lv_at hl 1 rfl) ?_
          refine lv_iconst (v := 1) hx hb dX0_canSit_56 (by decide) ?_
          refine lv_iload_n hx hb dX0_canSit_57 rfl (lv_at hl 3 rfl) ?_
          refine lv_ishl hx hb dX0_canSit_58 ?_
          obtain ⟨z_16, ez_16, hz_16⟩ := e_shlk (p := r_2) 9 (by decide) rfl (by omega) (by omega)
          refine q_c z_16 ez_16 ?_
          clear ez_16
          refine lv_iconst (v := 1) hx hb dX0_canSit_59 (by decide) ?_
          refine lv_iload hx hb dX0_canSit_60 (lv_at hl 5 rfl) ?_
          refine lv_ishl hx hb dX0_canSit_62 ?_
          obtain ⟨z_17, ez_17, hz_17⟩ := e_shlk (p := v34_9_0) 9 (by decide) rfl (by omega) (by omega)
          refine q_c z_17 ez_17 ?_
          clear ez_17
          refine lv_ior hx hb dX0_canSit_63 ?_
          obtain ⟨z_18, ez_18, hz_18⟩ := e_or (x := z_16) (y := z_17) 10 (by decide) rfl rfl (by omega) (by omega) (by omega) (by omega)
          refine q_c z_18 ez_18 ?_
          clear ez_18
          refine lv_iconst (v := (-1)) hx hb dX0_canSit_64 (by decide) ?_
          refine lv_ixor hx hb dX0_canSit_65 ?_
          refine q_any (fun z_19 hz_19 => ?_)
          refine lv_iand hx hb dX0_canSit_66 ?_
          obtain ⟨z_20, ez_20, hz_20⟩ := e_and1 (x := p0) (y := z_19) rfl (by omega)
          refine q_c z_20 ez_20 ?_
          clear ez_20
          refine lv_iload_n hx hb dX0_canSit_67 rfl (lv_at hl 2 rfl) ?_
          refine lv_iconst (v := 1) hx hb dX0_canSit_68 (by decide) ?_
          refine lv_iadd hx hb dX0_canSit_69 ?_
          refine q_c 1 (by decide +kernel) ?_
          refine q_callVi (rest := []) (wr := []) X hK hT hA h (fun sz => gX0_canSit_6582a98 l D cy h0 h1 z_20 p1 w0 w1 f0 ⟨by omega, by omega⟩ ⟨by omega, by omega⟩ sz) wm_4_117 wm_4_112 wm_1_6 hd_X0_canSit wm_4_110 wm_4_111 (ci := 0) (q0 := 0) rfl rfl ⟨Nat.le_of_ble_eq_true rfl, Nat.le_of_ble_eq_true rfl⟩ hl.1 rfl (Nat.le_of_ble_eq_true rfl) dX0_canSit_70 ⟨Nat.le_of_ble_eq_true rfl, Nat.le_of_ble_eq_true rfl⟩ [0, 1] [] rfl rfl (by decide) rfl rfl (fun r_21 u_21 H locs w_21 h_21 => ?_)
          clear h
          obtain ⟨wr_21, _⟩ := w_21
          replace h_21 : qW D _ _ [(h0, .inr (0, [.int p1, .ref h1, w0, w1])), (h1, .inl (cy 1, 10, .inl f0))] _ _ := h_21
          refine lv_if_eq (tgt := 78) hx hb dX0_canSit_73 (by decide) (fun c_22 => ?_) (fun c_22 => ?_)
          · replace c_22 := i_eq (x := r_21) (y := 0) rfl (show (0 : Int32).toInt = 0 by decide) c_22
            exact J_78 _ _ _ _ ⟨rfl, h_21, (lv_sub hl [0, 1, 2, 3, 4, 5] rfl)⟩
          · replace c_22 := i_ne (x := r_21) (y := 0) rfl (show (0 : Int32).toInt = 0 by decide) c_22
            refine lv_iconst (v := 1) hx hb dX0_canSit_76 (by decide) ?_
            exact q_iret X hr hlk hK h_21 rfl (fun _ => 0, fun _ _ => 0, fun _ _ => 0) ⟨⟨by decide +kernel, by decide +kernel⟩, trivial⟩ [0, 1] rfl rfl dX0_canSit_77 (Nat.le_of_ble_eq_true rfl) (Nat.le_of_ble_eq_true rfl)
  · replace c_1 := i_eq (x := p0) (y := 0) rfl (show (0 : Int32).toInt = 0 by decide) c_1
    refine lv_iconst (v := 1) hx hb dX0_canSit_4 (by decide) ?_
    exact q_iret X hr hlk hK h rfl (fun _ => 0, fun _ _ => 0, fun _ _ => 0) ⟨⟨by decide +kernel, by decide +kernel⟩, trivial⟩ [0, 1] rfl rfl dX0_canSit_5 (Nat.le_of_ble_eq_true rfl) (Nat.le_of_ble_eq_true rfl)
set_option maxHeartbeats 4000000 in
set_option maxRecDepth 100000 in
theorem gX11_sits_33093ce (l : Launch) (D : va_G) (cy : Nat → ClassId) (h0 : Nat) (h1 : Nat) (h2 : Nat) (h3 : Nat) (h4 : Nat) (h5 : Nat) (h6 : Nat) (p0 : Int32) (w0 : Value) (p1 : Int32) (p2 : Int32) (p3 : Int32) (w1 : Value) (w2 : Value) (w3 : Value) (w4 : Value) (w5 : Value) (w6 : Value) (w7 : Value) (w8 : Value) (w9 : Value) (p4 : Int32) (p5 : Int32) (p6 : Int32) (p7 : Int32) (p8 : Int32) (p9 : Int32) (p10 : Int32) (w10 : Value) (w11 : Value) (w12 : Value) (w13 : Value) (w14 : Value) (w15 : Value) (f0 : Nat → Int32) (w16 : Value) (w17 : Value) (p11 : Int32) (w18 : Value) (w19 : Value) (f1 : Nat → Int32) (hp0 : (-2147483648) ≤ (p0).toInt ∧ (p0).toInt ≤ 2147483647) (hp1 : 0 ≤ (p1).toInt ∧ (p1).toInt ≤ 900) (hp2 : (-2147483648) ≤ (p2).toInt ∧ (p2).toInt ≤ 2147483647) (hp3 : (-2147483648) ≤ (p3).toInt ∧ (p3).toInt ≤ 2147483647) (hp4 : (-2147483648) ≤ (p4).toInt ∧ (p4).toInt ≤ 2147483647) (hp5 : (-2147483648) ≤ (p5).toInt ∧ (p5).toInt ≤ 2147483647) (hp6 : (-2147483648) ≤ (p6).toInt ∧ (p6).toInt ≤ 2147483647) (hp7 : 1 ≤ (p7).toInt ∧ (p7).toInt ≤ 3) (hp8 : 0 ≤ (p8).toInt ∧ (p8).toInt ≤ 10) (hp9 : (-2147483648) ≤ (p9).toInt ∧ (p9).toInt ≤ 2147483647) (hp10 : (-2147483648) ≤ (p10).toInt ∧ (p10).toInt ≤ 2147483647) (hp11 : 0 ≤ (p11).toInt ∧ (p11).toInt ≤ 10) (rf0 : RG f0 10 0 999) (rf1 : RG f1 10 0 1023) (sz : Nat) : MI l yX11_sits cX11_sits 2 .int { frames := 12, cells := 0, slots := 0, locals := 290 } [.ref h0, .int p0] D cy [(h0, .inr (11, [w0, .int p1, .int p2, .int p3, w1, .ref h1, w2, w3, w4, w5, w6, w7, .ref h4, .ref h5, w8, w9, .int p4])), (h1, .inr (7, [.ref h2, .int p5, .int p6, .ref h3])), (h2, .inr (3, [.int p7, .int p8, .int p9, .int p10, .null, w10, w10, w11, w12, w13, w14, w15])), (h3, .inl (cy 1, 10, .inl f0)), (h4, .inr (6, [w16, w17])), (h5, .inr (0, [.int p11, .ref h6, w18, w19])), (h6, .inl (cy 1, 10, .inl f1))] sz (fun r u => ((-3) ≤ r.toInt ∧ r.toInt ≤ 1) ∧ (0 ≤ (u.2.1 0 0).toInt ∧ (u.2.1 0 0).toInt ≤ 10) ∧ RG (u.2.1 1) 10 0 1023 ∧ True) (fun u => [(h0, .inr (11, [w0, .int p1, .int p2, .int p3, w1, .ref h1, w2, w3, w4, w5, w6, w7, .ref h4, .ref h5, w8, w9, .int p4])), (h1, .inr (7, [.ref h2, .int p5, .int p6, .ref h3])), (h2, .inr (3, [.int p7, .int p8, .int p9, .int p10, .null, w10, w10, w11, w12, w13, w14, w15])), (h3, .inl (cy 1, 10, .inl f0)), (h4, .inr (6, [w16, w17])), (h5, .inr (0, [.int (u.2.1 0 0), .ref h6, w18, w19])), (h6, .inl (cy 1, 10, .inl (u.2.1 1)))]) 0 0 := by
  refine q_ent (own := RX11) (by decide) rfl (Nat.le_of_ble_eq_true rfl) (fun p e s m below meth c ls X hr hlk hnm hK hT h hA hl => ?_)
  obtain ⟨hx, hb, hml, hown, ht⟩ := id X
  replace hl : lv_has ls 2 [(0, .ref h0), (1, .int p0)] := hl
  refine lv_aload_n hx hb dX11_sits_0 rfl (lv_at hl 0 rfl) ?_
  refine lv_iload_n hx hb dX11_sits_1 rfl (lv_at hl 1 rfl) ?_
  refine q_callVi (rest := []) (wr := [(h3, .inl (cy 1, 10, .inl f0)), (h4, .inr (6, [w16, w17])), (h5, .inr (0, [.int p11, .ref h6, w18, w19])), (h6, .inl (cy 1, 10, .inl f1))]) X hK hT hA h (fun sz => gX11_isSet_6da9589 l D cy h0 h1 h2 p0 w0 p1 p2 p3 w1 w2 w3 w4 w5 w6 w7 (.ref h4) (.ref h5) w8 w9 p4 p5 p6 (.ref h3) p7 p8 p9 p10 Value.null w10 w11 w12 w13 w14 w15 (i_rng _) hp1 (i_rng _) (i_rng _) (i_rng _) (i_rng _) (i_rng _) hp7 hp8 (i_rng _) (i_rng _) sz) wm_4_137 wm_4_140 wm_1_1 hd_X11_isSet wm_4_139 wp_3_3 (ci := 11) (q0 := 0) rfl rfl ⟨Nat.le_of_ble_eq_true rfl, Nat.le_of_ble_eq_true rfl⟩ hl.1 rfl (Nat.le_of_ble_eq_true rfl) dX11_sits_2 ⟨Nat.le_of_ble_eq_true rfl, Nat.le_of_ble_eq_true rfl⟩ [0, 1, 2] [3, 4, 5, 6] rfl rfl (by decide) rfl rfl (fun r_1 u_1 H locs w_1 h_1 => ?_)
  clear h
  obtain ⟨wr_1, y1_0, _⟩ := w_1
  replace h_1 : qW D _ _ [(h3, .inl (cy 1, 10, .inl f0)), (h4, .inr (6, [w16, w17])), (h5, .inr (0, [.int p11, .ref h6, w18, w19])), (h6, .inl (cy 1, 10, .inl f1)), (h0, .inr (11, [w0, .int p1, .int p2, .int p3, w1, .ref h1, w2, w3, w4, w5, w6, w7, .ref h4, .ref h5, w8, w9, .int p4])), (h1, .inr (7, [.ref h2, .int p5, .int p6, .ref h3])), (h2, .inr (3, [.int p7, .int p8, .int p9, .int p10, .null, w10, w10, w11, w12, w13, w14, w15]))] _ _ := h_1
  refine lv_if_ne (tgt := 11) hx hb dX11_sits_5 (by decide) (fun c_2 => ?_) (fun c_2 => ?_)
  · replace c_2 := i_ne (x := r_1) (y := 0) rfl (show (0 : Int32).toInt = 0 by decide) c_2
    refine lv_aload_n hx hb dX11_sits_11 rfl (lv_at hl 0 rfl) ?_
    refine q_callVv (rest := []) (wr := []) X hK hT hA h_1 (fun sz => gX11_drawToday_4f144ea l D cy h0 h1 h2 h3 h4 h5 h6 w0 p1 p2 p3 w1 w2 w3 w4 w5 w6 w7 w8 w9 p4 p5 p6 p7 p8 p9 p10 w10 w11 w12 w13 w14 w15 f0 w16 w17 p11 w18 w19 f1 hp1 (i_rng _) (i_rng _) (i_rng _) (i_rng _) (i_rng _) hp7 hp8 (i_rng _) (i_rng _) hp11 (rg_wide rf0 (by decide) (by decide)) (rg_wide rf1 (by decide) (by decide)) sz) wm_4_145 wm_4_148 wm_1_1 hd_X11_drawToday wm_4_147 wp_3_5 (ci := 11) (q0 := 0) rfl rfl ⟨Nat.le_of_ble_eq_true rfl, Nat.le_of_ble_eq_true rfl⟩ hl.1 rfl (Nat.le_of_ble_eq_true rfl) dX11_sits_12 ⟨Nat.le_of_ble_eq_true rfl, Nat.le_of_ble_eq_true rfl⟩ [4, 5, 6, 0, 1, 2, 3] [] rfl rfl (by decide) rfl rfl (fun u_3 H locs w_3 h_3 => ?_)
    clear h_1
    obtain ⟨w3_0, w3_1, _⟩ := w_3
    replace h_3 : qW D _ _ [(h0, .inr (11, [w0, .int p1, .int p2, .int p3, w1, .ref h1, w2, w3, w4, w5, w6, w7, .ref h4, .ref h5, w8, w9, .int p4])), (h1, .inr (7, [.ref h2, .int p5, .int p6, .ref h3])), (h2, .inr (3, [.int p7, .int p8, .int p9, .int p10, .null, w10, w10, w11, w12, w13, w14, w15])), (h3, .inl (cy 1, 10, .inl f0)), (h4, .inr (6, [w16, w17])), (h5, .inr (0, [.int (u_3.2.1 0 0), .ref h6, w18, w19])), (h6, .inl (cy 1, 10, .inl (u_3.2.1 1)))] _ _ := h_3
    refine lv_aload_n hx hb dX11_sits_15 rfl (lv_at hl 0 rfl) ?_
    refine q_get X hK h_3 0 rfl rfl wf_11 13 (by decide) rfl wm_2_111 dX11_sits_16 ?_
    refine lv_iload_n hx hb dX11_sits_19 rfl (lv_at hl 1 rfl) ?_
    refine lv_iconst (v := 0) hx hb dX11_sits_20 (by decide) ?_
    refine q_callVi (rest := []) (wr := [(h0, .inr (11, [w0, .int p1, .int p2, .int p3, w1, .ref h1, w2, w3, w4, w5, w6, w7, .ref h4, .ref h5, w8, w9, .int p4])), (h1, .inr (7, [.ref h2, .int p5, .int p6, .ref h3])), (h2, .inr (3, [.int p7, .int p8, .int p9, .int p10, .null, w10, w10, w11, w12, w13, w14, w15])), (h3, .inl (cy 1, 10, .inl f0)), (h4, .inr (6, [w16, w17]))]) X hK hT hA h_3 (fun sz => gX0_canSit_8989582 l D cy h5 h6 p0 (u_3.2.1 0 0) w18 w19 (u_3.2.1 1) ⟨by omega, by omega⟩ w3_0 sz) wm_4_109 wm_4_112 wm_1_6 hd_X0_canSit wm_4_110 wm_4_111 (ci := 0) (q0 := 0) rfl rfl ⟨Nat.le_of_ble_eq_true rfl, Nat.le_of_ble_eq_true rfl⟩ hl.1 rfl (Nat.le_of_ble_eq_true rfl) dX11_sits_21 ⟨Nat.le_of_ble_eq_true rfl, Nat.le_of_ble_eq_true rfl⟩ [5, 6] [0, 1, 2, 3, 4] rfl rfl (by decide) rfl rfl (fun r_4 u_4 H locs w_4 h_4 => ?_)
    clear h_3
    obtain ⟨wr_4, _⟩ := w_4
    replace h_4 : qW D _ _ [(h0, .inr (11, [w0, .int p1, .int p2, .int p3, w1, .ref h1, w2, w3, w4, w5, w6, w7, .ref h4, .ref h5, w8, w9, .int p4])), (h1, .inr (7, [.ref h2, .int p5, .int p6, .ref h3])), (h2, .inr (3, [.int p7, .int p8, .int p9, .int p10, .null, w10, w10, w11, w12, w13, w14, w15])), (h3, .inl (cy 1, 10, .inl f0)), (h4, .inr (6, [w16, w17])), (h5, .inr (0, [.int (u_3.2.1 0 0), .ref h6, w18, w19])), (h6, .inl (cy 1, 10, .inl (u_3.2.1 1)))] _ _ := h_4
    refine q_jn (pc2 := 32) (fun H locs ls st => ∃ v32_5_0 : Int32, (0 ≤ (v32_5_0).toInt ∧ (v32_5_0).toInt ≤ 1) ∧ st = [.int v32_5_0] ∧ qW D (va_A [(h0, .inr (11, [w0, .int p1, .int p2, .int p3, w1, .ref h1, w2, w3, w4, w5, w6, w7, .ref h4, .ref h5, w8, w9, .int p4])), (h1, .inr (7, [.ref h2, .int p5, .int p6, .ref h3])), (h2, .inr (3, [.int p7, .int p8, .int p9, .int p10, .null, w10, w10, w11, w12, w13, w14, w15])), (h3, .inl (cy 1, 10, .inl f0)), (h4, .inr (6, [w16, w17])), (h5, .inr (0, [.int p11, .ref h6, w18, w19])), (h6, .inl (cy 1, 10, .inl f1))] sz) s.heap [(h0, .inr (11, [w0, .int p1, .int p2, .int p3, w1, .ref h1, w2, w3, w4, w5, w6, w7, .ref h4, .ref h5, w8, w9, .int p4])), (h1, .inr (7, [.ref h2, .int p5, .int p6, .ref h3])), (h2, .inr (3, [.int p7, .int p8, .int p9, .int p10, .null, w10, w10, w11, w12, w13, w14, w15])), (h3, .inl (cy 1, 10, .inl f0)), (h4, .inr (6, [w16, w17])), (h5, .inr (0, [.int (u_3.2.1 0 0), .ref h6, w18, w19])), (h6, .inl (cy 1, 10, .inl (u_3.2.1 1)))] H locs ∧ lv_has ls 2 [(0, .ref h0), (1, .int p0)]) (fun H locs ls st hP => ?_) (fun J_32 => ?_)
    · obtain ⟨v32_5_0, hv32_5_0, rfl, h, hl⟩ := hP
      exact q_iret X hr hlk hK h rfl (fun _ => 0, fun k => List.getD [(fun _ => (u_3.2.1 0 0)), (u_3.2.1 1)] k (fun _ => 0), fun _ _ => 0) ⟨(bw hv32_5_0 (by decide) (by decide)), (w3_0 : 0 ≤ ((u_3.2.1 0 0) : Int32).toInt ∧ ((u_3.2.1 0 0) : Int32).toInt ≤ 10), (rg_wide w3_1 (by decide) (by decide)), trivial⟩ [0, 1, 2, 3, 4, 5, 6] rfl rfl dX11_sits_32 (Nat.le_of_ble_eq_true rfl) (Nat.le_of_ble_eq_true rfl)
    · skip
      refine lv_if_eq (tgt := 31) hx hb dX11_sits_24 (by decide) (fun c_6 => ?_) (fun c_6 => ?_)
      · replace c_6 := i_eq (x := r_4) (y := 0) rfl (show (0 : Int32).toInt = 0 by decide) c_6
        refine lv_iconst (v := 0) hx hb dX11_sits_31 (by decide) ?_
        exact J_32 _ _ _ _ ⟨0, ⟨by decide +kernel, by decide +kernel⟩, rfl, h_4, (lv_sub hl [0, 1] rfl)⟩
      · replace c_6 := i_ne (x := r_4) (y := 0) rfl (show (0 : Int32).toInt = 0 by decide) c_6
        refine lv_iconst (v := 1) hx hb dX11_sits_27 (by decide) ?_
        refine lv_goto (tgt := 32) hx hb dX11_sits_28 (by decide) ?_
        exact J_32 _ _ _ _ ⟨1, ⟨by decide +kernel, by decide +kernel⟩, rfl, h_4, (lv_sub hl [0, 1] rfl)⟩
  · replace c_2 := i_eq (x := r_1) (y := 0) rfl (show (0 : Int32).toInt = 0 by decide) c_2
    refine lv_bipush (v := (-3)) hx hb dX11_sits_8 (by decide) ?_
    exact q_iret X hr hlk hK h_1 rfl (fun _ => 0, fun k => List.getD [(fun _ => p11), f1] k (fun _ => 0), fun _ _ => 0) ⟨⟨by decide +kernel, by decide +kernel⟩, (hp11 : 0 ≤ (p11 : Int32).toInt ∧ (p11 : Int32).toInt ≤ 10), (rg_wide rf1 (by decide) (by decide)), trivial⟩ [4, 5, 6, 0, 1, 2, 3] rfl rfl dX11_sits_10 (Nat.le_of_ble_eq_true rfl) (Nat.le_of_ble_eq_true rfl)
set_option maxHeartbeats 4000000 in
set_option maxRecDepth 100000 in
theorem gX0_draw_bfba8f1 (l : Launch) (D : va_G) (cy : Nat → ClassId) (h0 : Nat) (h1 : Nat) (h2 : Nat) (h3 : Nat) (h4 : Nat) (h5 : Nat) (h6 : Nat) (h7 : Nat) (h8 : Nat) (h9 : Nat) (p0 : Int32) (p1 : Int32) (w0 : Value) (w1 : Value) (f0 : Nat → Int32) (p2 : Int32) (p3 : Int32) (p4 : Int32) (p5 : Int32) (p6 : Int32) (w2 : Value) (w3 : Value) (w4 : Value) (w5 : Value) (w6 : Value) (w7 : Value) (m0 : Nat) (f1 : Nat → Int32) (f2 : Nat → Int32) (f3 : Nat → Int32) (f4 : Nat → Int32) (hp0 : (-2147483648) ≤ (p0).toInt ∧ (p0).toInt ≤ 2147483647) (hp1 : 0 ≤ (p1).toInt ∧ (p1).toInt ≤ 10) (hp2 : (-2147483648) ≤ (p2).toInt ∧ (p2).toInt ≤ 2147483647) (hp3 : 1 ≤ (p3).toInt ∧ (p3).toInt ≤ 3) (hp4 : 0 ≤ (p4).toInt ∧ (p4).toInt ≤ 10) (hp5 : (-2147483648) ≤ (p5).toInt ∧ (p5).toInt ≤ 2147483647) (hp6 : (-2147483648) ≤ (p6).toInt ∧ (p6).toInt ≤ 2147483647) (hm0 : m0 ≤ 900) (rf0 : RG f0 10 0 1023) (rf2 : RG f2 10 0 999) (sz : Nat) : MV l yX0_draw cX0_draw 6 { frames := 5, cells := 0, slots := 0, locals := 119 } [.ref h0, .ref h2, .int p0, .ref h7] D cy [(h0, .inr (0, [.int p1, .ref h1, w0, w1])), (h1, .inl (cy 1, 10, .inl f0)), (h2, .inr (7, [.ref h3, .int p0, .int p2, .ref h6])), (h3, .inr (3, [.int p3, .int p4, .int p5, .int p6, .ref h4, w2, w2, w3, w4, w5, w6, w7])), (h4, .inr (4, [.ref h5])), (h5, .inl (cy 1, m0, .inl f1)), (h6, .inl (cy 1, 10, .inl f2)), (h7, .inr (6, [.ref h8, .ref h9])), (h8, .inl (cy 1, 11, .inl f3)), (h9, .inl (cy 1, 64, .inl f4))] sz (fun u => (0 ≤ (u.2.1 0 0).toInt ∧ (u.2.1 0 0).toInt ≤ 10) ∧ RG (u.2.1 3) 10 0 1023 ∧ True) (fun u => [(h0, .inr (0, [.int (u.2.1 0 0), .ref h1, w0, w1])), (h1, .inl (cy 1, 10, .inl (u.2.1 3))), (h2, .inr (7, [.ref h3, .int p0, .int p2, .ref h6])), (h3, .inr (3, [.int p3, .int p4, .int p5, .int p6, .ref h4, w2, w2, w3, w4, w5, w6, w7])), (h4, .inr (4, [.ref h5])), (h5, .inl (cy 1, m0, .inl f1)), (h6, .inl (cy 1, 10, .inl f2)), (h7, .inr (6, [.ref h8, .ref h9])), (h8, .inl (cy 1, 11, .inl (u.2.1 1))), (h9, .inl (cy 1, 64, .inl (u.2.1 2)))]) 0 0 := by
  refine q_ent (own := RX0) (by decide) rfl (Nat.le_of_ble_eq_true rfl) (fun p e s m below meth c ls X hr hlk hnm hK hT h hA hl => ?_)
  obtain ⟨hx, hb, hml, hown, ht⟩ := id X
  replace hl : lv_has ls 6 [(0, .ref h0), (1, .ref h2), (2, .int p0), (3, .ref h7)] := hl
  refine lv_aload_n hx hb dX0_draw_0 rfl (lv_at hl 0 rfl) ?_
  refine lv_aload_n hx hb dX0_draw_1 rfl (lv_at hl 1 rfl) ?_
  refine q_get X hK h 2 rfl rfl wf_7 0 (by decide) rfl wm_2_38 dX0_draw_2 ?_
  refine q_get X hK h 3 rfl rfl wf_3 1 (by decide) rfl wm_1_80 dX0_draw_5 ?_
  refine q_put (v := .int p4) X hK h 0 rfl rfl wf_0 tyX0 tyX0_ok nmX0 0 (by decide) wm_1_198 rfl rfl rfl (Nat.le_of_ble_eq_true rfl) dX0_draw_8 (fun H locs h_1 => ?_)
  clear h
  replace h_1 : qW D _ _ [(h0, .inr (0, [.int p4, .ref h1, w0, w1])), (h1, .inl (cy 1, 10, .inl f0)), (h2, .inr (7, [.ref h3, .int p0, .int p2, .ref h6])), (h3, .inr (3, [.int p3, .int p4, .int p5, .int p6, .ref h4, w2, w2, w3, w4, w5, w6, w7])), (h4, .inr (4, [.ref h5])), (h5, .inl (cy 1, m0, .inl f1)), (h6, .inl (cy 1, 10, .inl f2)), (h7, .inr (6, [.ref h8, .ref h9])), (h8, .inl (cy 1, 11, .inl f3)), (h9, .inl (cy 1, 64, .inl f4))] _ _ := h_1
  refine lv_aload_n hx hb dX0_draw_11 rfl (lv_at hl 0 rfl) ?_
  refine q_get X hK h_1 0 rfl rfl wf_0 1 (by decide) rfl wm_1_199 dX0_draw_12 ?_
  refine lv_iconst (v := 0) hx hb dX0_draw_15 (by decide) ?_
  refine q_callSv (rest := []) (wr := [(h0, .inr (0, [.int p4, .ref h1, w0, w1])), (h2, .inr (7, [.ref h3, .int p0, .int p2, .ref h6])), (h3, .inr (3, [.int p3, .int p4, .int p5, .int p6, .ref h4, w2, w2, w3, w4, w5, w6, w7])), (h4, .inr (4, [.ref h5])), (h5, .inl (cy 1, m0, .inl f1)), (h6, .inl (cy 1, 10, .inl f2)), (h7, .inr (6, [.ref h8, .ref h9])), (h8, .inl (cy 1, 11, .inl f3)), (h9, .inl (cy 1, 64, .inl f4))]) X hK hT hA h_1 (fun sz => gJ7_fill_53178_d807778 l D cy h1 (0 : Int32) f0 ⟨by decide +kernel, by decide +kernel⟩ (rg_wide rf0 (by decide) (by decide)) sz) wm_4_105 wm_4_107 wm_1_20 hd_J7_fill_53178 wm_4_106 ⟨Nat.le_of_ble_eq_true rfl, Nat.le_of_ble_eq_true rfl⟩ hl.1 rfl (Nat.le_of_ble_eq_true rfl) dX0_draw_16 ⟨Nat.le_of_ble_eq_true rfl, Nat.le_of_ble_eq_true rfl⟩ [1] [0, 2, 3, 4, 5, 6, 7, 8, 9] rfl rfl (by decide) rfl rfl (fun u_2 H locs w_2 h_2 => ?_)
  clear h_1
  obtain ⟨w2_0, y2_0, _⟩ := w_2
  replace h_2 : qW D _ _ [(h0, .inr (0, [.int p4, .ref h1, w0, w1])), (h2, .inr (7, [.ref h3, .int p0, .int p2, .ref h6])), (h3, .inr (3, [.int p3, .int p4, .int p5, .int p6, .ref h4, w2, w2, w3, w4, w5, w6, w7])), (h4, .inr (4, [.ref h5])), (h5, .inl (cy 1, m0, .inl f1)), (h6, .inl (cy 1, 10, .inl f2)), (h7, .inr (6, [.ref h8, .ref h9])), (h8, .inl (cy 1, 11, .inl f3)), (h9, .inl (cy 1, 64, .inl f4)), (h1, .inl (cy 1, 10, .inl (u_2.2.1 0)))] _ _ := h_2
  refine lv_iconst (v := 0) hx hb dX0_draw_19 (by decide) ?_
  refine lv_istore (lv' := [(4, .int 0), (0, .ref h0), (1, .ref h2), (2, .int p0), (3, .ref h7)]) hx hb dX0_draw_20 hl (by decide) rfl (fun ls_3 hl_3 => ?_)
  clear hl
  refine q_wl (fun (v22_4_0 : Int32) H locs ls => ∃ v22_4_1 : Nat → Int32, ∃ v22_4_2 : Nat → Int32, ∃ v22_4_3 : Nat → Int32, (0 ≤ (v22_4_0).toInt ∧ (v22_4_0).toInt ≤ 10) ∧ RG v22_4_3 10 0 1023 ∧ qW D (va_A [(h0, .inr (0, [.int p1, .ref h1, w0, w1])), (h1, .inl (cy 1, 10, .inl f0)), (h2, .inr (7, [.ref h3, .int p0, .int p2, .ref h6])), (h3, .inr (3, [.int p3, .int p4, .int p5, .int p6, .ref h4, w2, w2, w3, w4, w5, w6, w7])), (h4, .inr (4, [.ref h5])), (h5, .inl (cy 1, m0, .inl f1)), (h6, .inl (cy 1, 10, .inl f2)), (h7, .inr (6, [.ref h8, .ref h9])), (h8, .inl (cy 1, 11, .inl f3)), (h9, .inl (cy 1, 64, .inl f4))] sz) s.heap [(h0, .inr (0, [.int p4, .ref h1, w0, w1])), (h2, .inr (7, [.ref h3, .int p0, .int p2, .ref h6])), (h3, .inr (3, [.int p3, .int p4, .int p5, .int p6, .ref h4, w2, w2, w3, w4, w5, w6, w7])), (h4, .inr (4, [.ref h5])), (h5, .inl (cy 1, m0, .inl f1)), (h6, .inl (cy 1, 10, .inl f2)), (h7, .inr (6, [.ref h8, .ref h9])), (h8, .inl (cy 1, 11, .inl v22_4_1)), (h9, .inl (cy 1, 64, .inl v22_4_2)), (h1, .inl (cy 1, 10, .inl v22_4_3))] H locs ∧ lv_has ls 6 [(0, .ref h0), (1, .ref h2), (2, .int p0), (3, .ref h7), (4, .int v22_4_0)]) (fun (v22_4_0 : Int32) => (11 - (v22_4_0).toInt).toNat) (fun q_22 ih_22 H locs ls hP => ?_) 0 ⟨f3, f4, (u_2.2.1 0), ⟨by decide +kernel, by decide +kernel⟩, (rg_wide w2_0 (by decide) (by decide)), h_2, (lv_sub hl_3 [1, 2, 3, 4, 0] rfl)⟩
  obtain ⟨v22_4_0, rfl⟩ : ∃ z, z = q_22 := ⟨_, rfl⟩
  obtain ⟨v22_4_1, v22_4_2, v22_4_3, hv22_4_0, rv22_4_3, h, hl⟩ := hP
  refine lv_iload hx hb dX0_draw_22 (lv_at hl 4 rfl) ?_
  refine lv_aload_n hx hb dX0_draw_24 rfl (lv_at hl 0 rfl) ?_
  refine q_get X hK h 0 rfl rfl wf_0 0 (by decide) rfl wm_1_198 dX0_draw_25 ?_
  refine lv_icmp_ge (tgt := 106) hx hb dX0_draw_28 (by decide) (fun c_5 => ?_) (fun c_5 => ?_)
  · replace c_5 := i_le (x := p4) (y := v22_4_0) rfl rfl c_5
    exact q_vret X hr hlk hK h (fun _ => 0, fun k => List.getD [(fun _ => p4), v22_4_1, v22_4_2, v22_4_3] k (fun _ => 0), fun _ _ => 0) ⟨(hp4 : 0 ≤ (p4 : Int32).toInt ∧ (p4 : Int32).toInt ≤ 10), (rg_wide rv22_4_3 (by decide) (by decide)), trivial⟩ [0, 9, 1, 2, 3, 4, 5, 6, 7, 8] rfl rfl dX0_draw_106 (Nat.le_of_ble_eq_true rfl) (Nat.le_of_ble_eq_true rfl)
  · replace c_5 := i_nle (x := p4) (y := v22_4_0) rfl rfl c_5
    refine lv_iload hx hb dX0_draw_31 (lv_at hl 4 rfl) ?_
    refine lv_iconst (v := 1) hx hb dX0_draw_33 (by decide) ?_
    refine lv_iadd hx hb dX0_draw_34 ?_
    obtain ⟨z_6, ez_6, hz_6⟩ := e_add (x := v22_4_0) (y := 1) rfl (show (1 : Int32).toInt = 1 by decide) (by omega) (by omega)
    refine q_c z_6 ez_6 ?_
    clear ez_6
    refine lv_istore (lv' := [(5, .int z_6), (0, .ref h0), (1, .ref h2), (2, .int p0), (3, .ref h7), (4, .int v22_4_0)]) hx hb dX0_draw_35 hl (by decide) rfl (fun ls_7 hl_7 => ?_)
    clear hl
    refine q_wl (fun (v37_8_0 : Int32) H locs ls => ∃ v37_8_1 : Nat → Int32, ∃ v37_8_2 : Nat → Int32, ∃ v37_8_3 : Nat → Int32, (1 ≤ (v37_8_0).toInt ∧ (v37_8_0).toInt ≤ 10) ∧ RG v37_8_1 10 0 1023 ∧ qW D (va_A [(h0, .inr (0, [.int p1, .ref h1, w0, w1])), (h1, .inl (cy 1, 10, .inl f0)), (h2, .inr (7, [.ref h3, .int p0, .int p2, .ref h6])), (h3, .inr (3, [.int p3, .int p4, .int p5, .int p6, .ref h4, w2, w2, w3, w4, w5, w6, w7])), (h4, .inr (4, [.ref h5])), (h5, .inl (cy 1, m0, .inl f1)), (h6, .inl (cy 1, 10, .inl f2)), (h7, .inr (6, [.ref h8, .ref h9])), (h8, .inl (cy 1, 11, .inl f3)), (h9, .inl (cy 1, 64, .inl f4))] sz) s.heap [(h0, .inr (0, [.int p4, .ref h1, w0, w1])), (h2, .inr (7, [.ref h3, .int p0, .int p2, .ref h6])), (h3, .inr (3, [.int p3, .int p4, .int p5, .int p6, .ref h4, w2, w2, w3, w4, w5, w6, w7])), (h4, .inr (4, [.ref h5])), (h5, .inl (cy 1, m0, .inl f1)), (h6, .inl (cy 1, 10, .inl f2)), (h7, .inr (6, [.ref h8, .ref h9])), (h8, .inl (cy 1, 11, .inl v37_8_2)), (h9, .inl (cy 1, 64, .inl v37_8_3)), (h1, .inl (cy 1, 10, .inl v37_8_1))] H locs ∧ lv_has ls 6 [(0, .ref h0), (1, .ref h2), (2, .int p0), (3, .ref h7), (4, .int v22_4_0), (5, .int v37_8_0)]) (fun (v37_8_0 : Int32) => (11 - (v37_8_0).toInt).toNat) (fun q_37 ih_37 H locs ls hP => ?_) z_6 ⟨v22_4_3, v22_4_1, v22_4_2, ⟨by omega, by omega⟩, (rg_wide rv22_4_3 (by decide) (by decide)), h, (lv_sub hl_7 [1, 2, 3, 4, 5, 0] rfl)⟩
    obtain ⟨v37_8_0, rfl⟩ : ∃ z, z = q_37 := ⟨_, rfl⟩
    obtain ⟨v37_8_1, v37_8_2, v37_8_3, hv37_8_0, rv37_8_1, h, hl⟩ := hP
    refine lv_iload hx hb dX0_draw_37 (lv_at hl 5 rfl) ?_
    refine lv_aload_n hx hb dX0_draw_39 rfl (lv_at hl 0 rfl) ?_
    refine q_get X hK h 0 rfl rfl wf_0 0 (by decide) rfl wm_1_198 dX0_draw_40 ?_
    refine lv_icmp_ge (tgt := 100) hx hb dX0_draw_43 (by decide) (fun c_9 => ?_) (fun c_9 => ?_)
    · replace c_9 := i_le (x := p4) (y := v37_8_0) rfl rfl c_9
      obtain ⟨z_10, ez_10, hz_10⟩ := e_add (x := v22_4_0) (y := Int32.ofInt 1) rfl (b := 1) (by decide) (by omega) (by omega)
      refine lv_iinc (v := z_10) (lv' := [(4, .int z_10), (0, .ref h0), (1, .ref h2), (2, .int p0), (3, .ref h7), (5, .int v37_8_0)]) hx hb dX0_draw_100 hl (k := 4) rfl ez_10 (by decide) rfl (fun ls_10 hl_10 => ?_)
      clear hl
      refine lv_goto (tgt := 22) hx hb dX0_draw_103 (by decide) ?_
      exact ih_22 z_10 (by show (11 - (z_10).toInt).toNat < (11 - (v22_4_0).toInt).toNat; omega) _ _ _ ⟨v37_8_2, v37_8_3, v37_8_1, ⟨by omega, by omega⟩, (rg_wide rv37_8_1 (by decide) (by decide)), h, (lv_sub hl_10 [1, 2, 3, 4, 0] rfl)⟩
    · replace c_9 := i_nle (x := p4) (y := v37_8_0) rfl rfl c_9
      refine lv_aload_n hx hb dX0_draw_46 rfl (lv_at hl 3 rfl) ?_
      refine lv_aload_n hx hb dX0_draw_47 rfl (lv_at hl 1 rfl) ?_
      refine lv_iload hx hb dX0_draw_48 (lv_at hl 4 rfl) ?_
      refine lv_aload_n hx hb dX0_draw_50 rfl (lv_at hl 1 rfl) ?_
      refine q_get X hK h 1 rfl rfl wf_7 3 (by decide) rfl wm_2_52 dX0_draw_51 ?_
      refine lv_iload hx hb dX0_draw_54 (lv_at hl 4 rfl) ?_
      refine q_iald X hK h 5 rfl (i_in rfl (by omega) (by omega)) dX0_draw_56 ?_
      obtain ⟨z_11, ez_11, hz_11⟩ := rg_get rf2 (x := v22_4_0) rfl (by omega) (by omega)
      refine q_c z_11 ez_11 ?_
      clear ez_11
      refine lv_iload hx hb dX0_draw_57 (lv_at hl 5 rfl) ?_
      refine lv_iload_n hx hb dX0_draw_59 rfl (lv_at hl 2 rfl) ?_
      refine q_callVi (rest := []) (wr := [(h0, .inr (0, [.int p4, .ref h1, w0, w1])), (h1, .inl (cy 1, 10, .inl v37_8_1))]) X hK hT hA h (fun sz => gX6_areOpposites_74387cf l D cy h7 h8 h9 h2 h3 h4 h5 h6 v22_4_0 z_11 v37_8_0 p0 v37_8_2 v37_8_3 p2 p3 p4 p5 p6 w2 w3 w4 w5 w6 w7 m0 f1 f2 ⟨by omega, by omega⟩ ⟨by omega, by omega⟩ ⟨by omega, by omega⟩ (i_rng _) (i_rng _) hp3 hp4 (i_rng _) (i_rng _) (by omega) (rg_wide rf2 (by decide) (by decide)) sz) wm_4_108 wm_3_199 wm_1_5 hd_X6_areOpposites wm_3_197 wm_3_198 (ci := 6) (q0 := 0) rfl rfl ⟨Nat.le_of_ble_eq_true rfl, Nat.le_of_ble_eq_true rfl⟩ hl.1 rfl (Nat.le_of_ble_eq_true rfl) dX0_draw_60 ⟨Nat.le_of_ble_eq_true rfl, Nat.le_of_ble_eq_true rfl⟩ [6, 7, 8, 1, 2, 3, 4, 5] [0, 9] rfl rfl (by decide) rfl rfl (fun r_12 u_12 H locs w_12 h_12 => ?_)
      clear h
      obtain ⟨wr_12, _⟩ := w_12
      replace h_12 : qW D _ _ [(h0, .inr (0, [.int p4, .ref h1, w0, w1])), (h1, .inl (cy 1, 10, .inl v37_8_1)), (h7, .inr (6, [.ref h8, .ref h9])), (h8, .inl (cy 1, 11, .inl (u_12.2.1 0))), (h9, .inl (cy 1, 64, .inl (u_12.2.1 1))), (h2, .inr (7, [.ref h3, .int p0, .int p2, .ref h6])), (h3, .inr (3, [.int p3, .int p4, .int p5, .int p6, .ref h4, w2, w2, w3, w4, w5, w6, w7])), (h4, .inr (4, [.ref h5])), (h5, .inl (cy 1, m0, .inl f1)), (h6, .inl (cy 1, 10, .inl f2))] _ _ := h_12
      refine q_jn (pc2 := 94) (fun H locs ls st => ∃ v94_13_0 : Nat → Int32, RG v94_13_0 10 0 1023 ∧ st = [] ∧ qW D (va_A [(h0, .inr (0, [.int p1, .ref h1, w0, w1])), (h1, .inl (cy 1, 10, .inl f0)), (h2, .inr (7, [.ref h3, .int p0, .int p2, .ref h6])), (h3, .inr (3, [.int p3, .int p4, .int p5, .int p6, .ref h4, w2, w2, w3, w4, w5, w6, w7])), (h4, .inr (4, [.ref h5])), (h5, .inl (cy 1, m0, .inl f1)), (h6, .inl (cy 1, 10, .inl f2)), (h7, .inr (6, [.ref h8, .ref h9])), (h8, .inl (cy 1, 11, .inl f3)), (h9, .inl (cy 1, 64, .inl f4))] sz) s.heap [(h0, .inr (0, [.int p4, .ref h1, w0, w1])), (h1, .inl (cy 1, 10, .inl v94_13_0)), (h7, .inr (6, [.ref h8, .ref h9])), (h8, .inl (cy 1, 11, .inl (u_12.2.1 0))), (h9, .inl (cy 1, 64, .inl (u_12.2.1 1))), (h2, .inr (7, [.ref h3, .int p0, .int p2, .ref h6])), (h3, .inr (3, [.int p3, .int p4, .int p5, .int p6, .ref h4, w2, w2, w3, w4, w5, w6, w7])), (h4, .inr (4, [.ref h5])), (h5, .inl (cy 1, m0, .inl f1)), (h6, .inl (cy 1, 10, .inl f2))] H locs ∧ lv_has ls 6 [(0, .ref h0), (1, .ref h2), (2, .int p0), (3, .ref h7), (4, .int v22_4_0), (5, .int v37_8_0)]) (fun H locs ls st hP => ?_) (fun J_94 => ?_)
      · obtain ⟨v94_13_0, rv94_13_0, rfl, h, hl⟩ := hP
        obtain ⟨z_14, ez_14, hz_14⟩ := e_add (x := v37_8_0) (y := Int32.ofInt 1) rfl (b := 1) (by decide) (by omega) (by omega)
        refine lv_iinc (v := z_14) (lv' := [(5, .int z_14), (0, .ref h0), (1, .ref h2), (2, .int p0), (3, .ref h7), (4, .int v22_4_0)]) hx hb dX0_draw_94 hl (k := 5) rfl ez_14 (by decide) rfl (fun ls_14 hl_14 => ?_)
        clear hl
        refine lv_goto (tgt := 37) hx hb dX0_draw_97 (by decide) ?_
        exact ih_37 z_14 (by show (11 - (z_14).toInt).toNat < (11 - (v37_8_0).toInt).toNat; omega) _ _ _ ⟨v94_13_0, (u_12.2.1 0), (u_12.2.1 1), ⟨by omega, by omega⟩, (rg_wide rv94_13_0 (by decide) (by decide)), (q_re h [0, 5, 6, 7, 8, 9, 2, 3, 4, 1] rfl rfl), (lv_sub hl_14 [1, 2, 3, 4, 5, 0] rfl)⟩
      · skip
        refine lv_if_eq (tgt := 94) hx hb dX0_draw_63 (by decide) (fun c_15 => ?_) (fun c_15 => ?_)
        · replace c_15 := i_eq (x := r_12) (y := 0) rfl (show (0 : Int32).toInt = 0 by decide) c_15
          exact J_94 _ _ _ _ ⟨v37_8_1, (rg_wide rv37_8_1 (by decide) (by decide)), rfl, h_12, (lv_sub hl [0, 1, 2, 3, 4, 5] rfl)⟩
        · replace c_15 := i_ne (x := r_12) (y := 0) rfl (show (0 : Int32).toInt = 0 by decide) c_15
          refine lv_aload_n hx hb dX0_draw_66 rfl (lv_at hl 0 rfl) ?_
          refine q_get X hK h_12 0 rfl rfl wf_0 1 (by decide) rfl wm_1_199 dX0_draw_67 ?_
          refine lv_iload hx hb dX0_draw_70 (lv_at hl 4 rfl) ?_
          refine lv_dup2_11 hx hb dX0_draw_72 rfl rfl ?_
          refine q_iald X hK h_12 1 rfl (i_in rfl (by omega) (by omega)) dX0_draw_73 ?_
          obtain ⟨z_16, ez_16, hz_16⟩ := rg_get rv37_8_1 (x := v22_4_0) rfl (by omega) (by omega)
          refine q_c z_16 ez_16 ?_
          clear ez_16
          refine lv_iconst (v := 1) hx hb dX0_draw_74 (by decide) ?_
          refine lv_iload hx hb dX0_draw_75 (lv_at hl 5 rfl) ?_
          refine lv_ishl hx hb dX0_draw_77 ?_
          obtain ⟨z_17, ez_17, hz_17⟩ := e_shlk (p := v37_8_0) 9 (by decide) rfl (by omega) (by omega)
          refine q_c z_17 ez_17 ?_
          clear ez_17
          refine lv_ior hx hb dX0_draw_78 ?_
          obtain ⟨z_18, ez_18, hz_18⟩ := e_or (x := z_16) (y := z_17) 10 (by decide) rfl rfl (by omega) (by omega) (by omega) (by omega)
          refine q_c z_18 ez_18 ?_
          clear ez_18
          refine q_iast X hK h_12 1 rfl (i_in rfl (by omega) (by omega)) dX0_draw_79 (fun H locs h_20 => ?_)
          clear h_12
          replace h_20 : qW D _ _ [(h0, .inr (0, [.int p4, .ref h1, w0, w1])), (h1, .inl (cy 1, 10, .inl (upd v37_8_1 (Int32.toNatClampNeg v22_4_0) z_18))), (h7, .inr (6, [.ref h8, .ref h9])), (h8, .inl (cy 1, 11, .inl (u_12.2.1 0))), (h9, .inl (cy 1, 64, .inl (u_12.2.1 1))), (h2, .inr (7, [.ref h3, .int p0, .int p2, .ref h6])), (h3, .inr (3, [.int p3, .int p4, .int p5, .int p6, .ref h4, w2, w2, w3, w4, w5, w6, w7])), (h4, .inr (4, [.ref h5])), (h5, .inl (cy 1, m0, .inl f1)), (h6, .inl (cy 1, 10, .inl f2))] _ _ := h_20
          obtain ⟨F_19, eF_19, rF_19⟩ := rg_upd rv37_8_1 (Int32.toNatClampNeg v22_4_0) (x := z_18) rfl (by omega) (by omega)
          rw [eF_19] at h_20
          clear eF_19
          refine lv_aload_n hx hb dX0_draw_80 rfl (lv_at hl 0 rfl) ?_
          refine q_get X hK h_20 0 rfl rfl wf_0 1 (by decide) rfl wm_1_199 dX0_draw_81 ?_
          refine lv_iload hx hb dX0_draw_84 (lv_at hl 5 rfl) ?_
          refine lv_dup2_11 hx hb dX0_draw_86 rfl rfl ?_
          refine q_iald X hK h_20 1 rfl (i_in rfl (by omega) (by omega)) dX0_draw_87 ?_
          obtain ⟨z_21, ez_21, hz_21⟩ := rg_get rF_19 (x := v37_8_0) rfl (by omega) (by omega)
          refine q_c z_21 ez_21 ?_
          clear ez_21
          refine lv_iconst (v := 1) hx hb dX0_draw_88 (by decide) ?_
          refine lv_iload hx hb dX0_draw_89 (lv_at hl 4 rfl) ?_
          refine lv_ishl hx hb dX0_draw_91 ?_
          obtain ⟨z_22, ez_22, hz_22⟩ := e_shlk (p := v22_4_0) 9 (by decide) rfl (by omega) (by omega)
          refine q_c z_22 ez_22 ?_
          clear ez_22
          refine lv_ior hx hb dX0_draw_92 ?_
          obtain ⟨z_23, ez_23, hz_23⟩ := e_or (x := z_21) (y := z_22) 10 (by decide) rfl rfl (by omega) (by omega) (by omega) (by omega)
          refine q_c z_23 ez_23 ?_
          clear ez_23
          refine q_iast X hK h_20 1 rfl (i_in rfl (by omega) (by omega)) dX0_draw_93 (fun H locs h_25 => ?_)
          clear h_20
          replace h_25 : qW D _ _ [(h0, .inr (0, [.int p4, .ref h1, w0, w1])), (h1, .inl (cy 1, 10, .inl (upd F_19 (Int32.toNatClampNeg v37_8_0) z_23))), (h7, .inr (6, [.ref h8, .ref h9])), (h8, .inl (cy 1, 11, .inl (u_12.2.1 0))), (h9, .inl (cy 1, 64, .inl (u_12.2.1 1))), (h2, .inr (7, [.ref h3, .int p0, .int p2, .ref h6])), (h3, .inr (3, [.int p3, .int p4, .int p5, .int p6, .ref h4, w2, w2, w3, w4, w5, w6, w7])), (h4, .inr (4, [.ref h5])), (h5, .inl (cy 1, m0, .inl f1)), (h6, .inl (cy 1, 10, .inl f2))] _ _ := h_25
          obtain ⟨F_24, eF_24, rF_24⟩ := rg_upd rF_19 (Int32.toNatClampNeg v37_8_0) (x := z_23) rfl (by omega) (by omega)
          rw [eF_24] at h_25
          clear eF_24
          exact J_94 _ _ _ _ ⟨F_24, (rg_wide rF_24 (by decide) (by decide)), rfl, h_25, (lv_sub hl [0, 1, 2, 3, 4, 5] rfl)⟩
set_option maxHeartbeats 4000000 in
set_option maxRecDepth 100000 in
theorem gX11_drawToday_4204d3b (l : Launch) (D : va_G) (cy : Nat → ClassId) (h0 : Nat) (h1 : Nat) (h2 : Nat) (h3 : Nat) (h4 : Nat) (h5 : Nat) (h6 : Nat) (h7 : Nat) (h8 : Nat) (h9 : Nat) (h10 : Nat) (w0 : Value) (p0 : Int32) (p1 : Int32) (p2 : Int32) (w1 : Value) (w2 : Value) (w3 : Value) (w4 : Value) (w5 : Value) (w6 : Value) (w7 : Value) (w8 : Value) (w9 : Value) (p3 : Int32) (p4 : Int32) (p5 : Int32) (p6 : Int32) (p7 : Int32) (p8 : Int32) (p9 : Int32) (w10 : Value) (w11 : Value) (w12 : Value) (w13 : Value) (w14 : Value) (w15 : Value) (m0 : Nat) (f0 : Nat → Int32) (f1 : Nat → Int32) (f2 : Nat → Int32) (f3 : Nat → Int32) (p10 : Int32) (w16 : Value) (w17 : Value) (f4 : Nat → Int32) (hp0 : 0 ≤ (p0).toInt ∧ (p0).toInt ≤ 900) (hp1 : (-2147483648) ≤ (p1).toInt ∧ (p1).toInt ≤ 2147483647) (hp2 : (-2147483648) ≤ (p2).toInt ∧ (p2).toInt ≤ 2147483647) (hp3 : (-2147483648) ≤ (p3).toInt ∧ (p3).toInt ≤ 2147483647) (hp4 : (-2147483648) ≤ (p4).toInt ∧ (p4).toInt ≤ 2147483647) (hp5 : (-2147483648) ≤ (p5).toInt ∧ (p5).toInt ≤ 2147483647) (hp6 : 1 ≤ (p6).toInt ∧ (p6).toInt ≤ 3) (hp7 : 0 ≤ (p7).toInt ∧ (p7).toInt ≤ 10) (hp8 : (-2147483648) ≤ (p8).toInt ∧ (p8).toInt ≤ 2147483647) (hp9 : (-2147483648) ≤ (p9).toInt ∧ (p9).toInt ≤ 2147483647) (hm0 : m0 ≤ 900) (hp10 : 0 ≤ (p10).toInt ∧ (p10).toInt ≤ 10) (rf1 : RG f1 10 0 999) (rf4 : RG f4 10 0 1023) (sz : Nat) : MV l yX11_drawToday cX11_drawToday 1 { frames := 6, cells := 0, slots := 0, locals := 144 } [.ref h0] D cy [(h0, .inr (11, [w0, .int p0, .int p1, .int p2, w1, .ref h1, w2, w3, w4, w5, w6, w7, .ref h6, .ref h9, w8, w9, .int p3])), (h1, .inr (7, [.ref h2, .int p4, .int p5, .ref h5])), (h2, .inr (3, [.int p6, .int p7, .int p8, .int p9, .ref h3, w10, w10, w11, w12, w13, w14, w15])), (h3, .inr (4, [.ref h4])), (h4, .inl (cy 1, m0, .inl f0)), (h5, .inl (cy 1, 10, .inl f1)), (h6, .inr (6, [.ref h7, .ref h8])), (h7, .inl (cy 1, 11, .inl f2)), (h8, .inl (cy 1, 64, .inl f3)), (h9, .inr (0, [.int p10, .ref h10, w16, w17])), (h10, .inl (cy 1, 10, .inl f4))] sz (fun u => (0 ≤ (u.2.1 0 0).toInt ∧ (u.2.1 0 0).toInt ≤ 10) ∧ RG (u.2.1 1) 10 0 1023 ∧ True) (fun u => [(h0, .inr (11, [w0, .int p0, .int p1, .int p2, w1, .ref h1, w2, w3, w4, w5, w6, w7, .ref h6, .ref h9, w8, w9, .int p3])), (h1, .inr (7, [.ref h2, .int p4, .int p5, .ref h5])), (h2, .inr (3, [.int p6, .int p7, .int p8, .int p9, .ref h3, w10, w10, w11, w12, w13, w14, w15])), (h3, .inr (4, [.ref h4])), (h4, .inl (cy 1, m0, .inl f0)), (h5, .inl (cy 1, 10, .inl f1)), (h6, .inr (6, [.ref h7, .ref h8])), (h7, .inl (cy 1, 11, .inl (u.2.1 2))), (h8, .inl (cy 1, 64, .inl (u.2.1 3))), (h9, .inr (0, [.int (u.2.1 0 0), .ref h10, w16, w17])), (h10, .inl (cy 1, 10, .inl (u.2.1 1)))]) 0 0 := by
  refine q_ent (own := RX11) (by decide) rfl (Nat.le_of_ble_eq_true rfl) (fun p e s m below meth c ls X hr hlk hnm hK hT h hA hl => ?_)
  obtain ⟨hx, hb, hml, hown, ht⟩ := id X
  replace hl : lv_has ls 1 [(0, .ref h0)] := hl
  refine lv_aload_n hx hb dX11_drawToday_0 rfl (lv_at hl 0 rfl) ?_
  refine q_get X hK h 0 rfl rfl wf_11 13 (by decide) rfl wm_2_111 dX11_drawToday_1 ?_
  refine lv_aload_n hx hb dX11_drawToday_4 rfl (lv_at hl 0 rfl) ?_
  refine q_get X hK h 0 rfl rfl wf_11 5 (by decide) rfl wm_2_103 dX11_drawToday_5 ?_
  refine lv_aload_n hx hb dX11_drawToday_8 rfl (lv_at hl 0 rfl) ?_
  refine q_get X hK h 0 rfl rfl wf_11 5 (by decide) rfl wm_2_103 dX11_drawToday_9 ?_
  refine q_get X hK h 1 rfl rfl wf_7 1 (by decide) rfl wm_2_47 dX11_drawToday_12 ?_
  refine lv_aload_n hx hb dX11_drawToday_15 rfl (lv_at hl 0 rfl) ?_
  refine q_get X hK h 0 rfl rfl wf_11 12 (by decide) rfl wm_2_110 dX11_drawToday_16 ?_
  refine q_callVv (rest := []) (wr := [(h0, .inr (11, [w0, .int p0, .int p1, .int p2, w1, .ref h1, w2, w3, w4, w5, w6, w7, .ref h6, .ref h9, w8, w9, .int p3]))]) X hK hT hA h (fun sz => gX0_draw_bfba8f1 l D cy h9 h10 h1 h2 h3 h4 h5 h6 h7 h8 p4 p10 w16 w17 f4 p5 p6 p7 p8 p9 w10 w11 w12 w13 w14 w15 m0 f0 f1 f2 f3 (i_rng _) hp10 (i_rng _) hp6 hp7 (i_rng _) (i_rng _) (by omega) (rg_wide rf4 (by decide) (by decide)) (rg_wide rf1 (by decide) (by decide)) sz) wm_4_101 wm_4_104 wm_1_6 hd_X0_draw wm_4_102 wm_4_103 (ci := 0) (q0 := 0) rfl rfl ⟨Nat.le_of_ble_eq_true rfl, Nat.le_of_ble_eq_true rfl⟩ hl.1 rfl (Nat.le_of_ble_eq_true rfl) dX11_drawToday_19 ⟨Nat.le_of_ble_eq_true rfl, Nat.le_of_ble_eq_true rfl⟩ [9, 10, 1, 2, 3, 4, 5, 6, 7, 8] [0] rfl rfl (by decide) rfl rfl (fun u_1 H locs w_1 h_1 => ?_)
  clear h
  obtain ⟨w1_0, w1_1, _⟩ := w_1
  replace h_1 : qW D _ _ [(h0, .inr (11, [w0, .int p0, .int p1, .int p2, w1, .ref h1, w2, w3, w4, w5, w6, w7, .ref h6, .ref h9, w8, w9, .int p3])), (h9, .inr (0, [.int (u_1.2.1 0 0), .ref h10, w16, w17])), (h10, .inl (cy 1, 10, .inl (u_1.2.1 3))), (h1, .inr (7, [.ref h2, .int p4, .int p5, .ref h5])), (h2, .inr (3, [.int p6, .int p7, .int p8, .int p9, .ref h3, w10, w10, w11, w12, w13, w14, w15])), (h3, .inr (4, [.ref h4])), (h4, .inl (cy 1, m0, .inl f0)), (h5, .inl (cy 1, 10, .inl f1)), (h6, .inr (6, [.ref h7, .ref h8])), (h7, .inl (cy 1, 11, .inl (u_1.2.1 1))), (h8, .inl (cy 1, 64, .inl (u_1.2.1 2)))] _ _ := h_1
  exact q_vret X hr hlk hK h_1 (fun _ => 0, fun k => List.getD [(fun _ => (u_1.2.1 0 0)), (u_1.2.1 3), (u_1.2.1 1), (u_1.2.1 2)] k (fun _ => 0), fun _ _ => 0) ⟨(w1_0 : 0 ≤ ((u_1.2.1 0 0) : Int32).toInt ∧ ((u_1.2.1 0 0) : Int32).toInt ≤ 10), (rg_wide w1_1 (by decide) (by decide)), trivial⟩ [0, 3, 4, 5, 6, 7, 8, 9, 10, 1, 2] rfl rfl dX11_drawToday_22 (Nat.le_of_ble_eq_true rfl) (Nat.le_of_ble_eq_true rfl)
set_option maxHeartbeats 4000000 in
set_option maxRecDepth 100000 in
theorem gX11_sits_76a2af3 (l : Launch) (D : va_G) (cy : Nat → ClassId) (h0 : Nat) (h1 : Nat) (h2 : Nat) (h3 : Nat) (h4 : Nat) (h5 : Nat) (h6 : Nat) (h7 : Nat) (h8 : Nat) (h9 : Nat) (h10 : Nat) (p0 : Int32) (w0 : Value) (p1 : Int32) (p2 : Int32) (p3 : Int32) (w1 : Value) (w2 : Value) (w3 : Value) (w4 : Value) (w5 : Value) (w6 : Value) (w7 : Value) (w8 : Value) (w9 : Value) (p4 : Int32) (p5 : Int32) (p6 : Int32) (p7 : Int32) (p8 : Int32) (p9 : Int32) (p10 : Int32) (w10 : Value) (w11 : Value) (w12 : Value) (w13 : Value) (w14 : Value) (w15 : Value) (m0 : Nat) (f0 : Nat → Int32) (f1 : Nat → Int32) (f2 : Nat → Int32) (f3 : Nat → Int32) (p11 : Int32) (w16 : Value) (w17 : Value) (f4 : Nat → Int32) (hp0 : (-2147483648) ≤ (p0).toInt ∧ (p0).toInt ≤ 2147483647) (hp1 : 0 ≤ (p1).toInt ∧ (p1).toInt ≤ 900) (hp2 : (-2147483648) ≤ (p2).toInt ∧ (p2).toInt ≤ 2147483647) (hp3 : (-2147483648) ≤ (p3).toInt ∧ (p3).toInt ≤ 2147483647) (hp4 : (-2147483648) ≤ (p4).toInt ∧ (p4).toInt ≤ 2147483647) (hp5 : (-2147483648) ≤ (p5).toInt ∧ (p5).toInt ≤ 2147483647) (hp6 : (-2147483648) ≤ (p6).toInt ∧ (p6).toInt ≤ 2147483647) (hp7 : 1 ≤ (p7).toInt ∧ (p7).toInt ≤ 3) (hp8 : 0 ≤ (p8).toInt ∧ (p8).toInt ≤ 10) (hp9 : (-2147483648) ≤ (p9).toInt ∧ (p9).toInt ≤ 2147483647) (hp10 : (-2147483648) ≤ (p10).toInt ∧ (p10).toInt ≤ 2147483647) (hm0 : m0 ≤ 900) (hp11 : 0 ≤ (p11).toInt ∧ (p11).toInt ≤ 10) (rf1 : RG f1 10 0 999) (rf4 : RG f4 10 0 1023) (sz : Nat) : MI l yX11_sits cX11_sits 2 .int { frames := 12, cells := 0, slots := 0, locals := 290 } [.ref h0, .int p0] D cy [(h0, .inr (11, [w0, .int p1, .int p2, .int p3, w1, .ref h1, w2, w3, w4, w5, w6, w7, .ref h6, .ref h9, w8, w9, .int p4])), (h1, .inr (7, [.ref h2, .int p5, .int p6, .ref h5])), (h2, .inr (3, [.int p7, .int p8, .int p9, .int p10, .ref h3, w10, w10, w11, w12, w13, w14, w15])), (h3, .inr (4, [.ref h4])), (h4, .inl (cy 1, m0, .inl f0)), (h5, .inl (cy 1, 10, .inl f1)), (h6, .inr (6, [.ref h7, .ref h8])), (h7, .inl (cy 1, 11, .inl f2)), (h8, .inl (cy 1, 64, .inl f3)), (h9, .inr (0, [.int p11, .ref h10, w16, w17])), (h10, .inl (cy 1, 10, .inl f4))] sz (fun r u => ((-3) ≤ r.toInt ∧ r.toInt ≤ 1) ∧ (0 ≤ (u.2.1 2 0).toInt ∧ (u.2.1 2 0).toInt ≤ 10) ∧ RG (u.2.1 3) 10 0 1023 ∧ True) (fun u => [(h0, .inr (11, [w0, .int p1, .int p2, .int p3, w1, .ref h1, w2, w3, w4, w5, w6, w7, .ref h6, .ref h9, w8, w9, .int p4])), (h1, .inr (7, [.ref h2, .int p5, .int p6, .ref h5])), (h2, .inr (3, [.int p7, .int p8, .int p9, .int p10, .ref h3, w10, w10, w11, w12, w13, w14, w15])), (h3, .inr (4, [.ref h4])), (h4, .inl (cy 1, m0, .inl f0)), (h5, .inl (cy 1, 10, .inl f1)), (h6, .inr (6, [.ref h7, .ref h8])), (h7, .inl (cy 1, 11, .inl (u.2.1 0))), (h8, .inl (cy 1, 64, .inl (u.2.1 1))), (h9, .inr (0, [.int (u.2.1 2 0), .ref h10, w16, w17])), (h10, .inl (cy 1, 10, .inl (u.2.1 3)))]) 0 0 := by
  refine q_ent (own := RX11) (by decide) rfl (Nat.le_of_ble_eq_true rfl) (fun p e s m below meth c ls X hr hlk hnm hK hT h hA hl => ?_)
  obtain ⟨hx, hb, hml, hown, ht⟩ := id X
  replace hl : lv_has ls 2 [(0, .ref h0), (1, .int p0)] := hl
  refine lv_aload_n hx hb dX11_sits_0 rfl (lv_at hl 0 rfl) ?_
  refine lv_iload_n hx hb dX11_sits_1 rfl (lv_at hl 1 rfl) ?_
  refine q_callVi (rest := []) (wr := [(h3, .inr (4, [.ref h4])), (h4, .inl (cy 1, m0, .inl f0)), (h5, .inl (cy 1, 10, .inl f1)), (h6, .inr (6, [.ref h7, .ref h8])), (h7, .inl (cy 1, 11, .inl f2)), (h8, .inl (cy 1, 64, .inl f3)), (h9, .inr (0, [.int p11, .ref h10, w16, w17])), (h10, .inl (cy 1, 10, .inl f4))]) X hK hT hA h (fun sz => gX11_isSet_6da9589 l D cy h0 h1 h2 p0 w0 p1 p2 p3 w1 w2 w3 w4 w5 w6 w7 (.ref h6) (.ref h9) w8 w9 p4 p5 p6 (.ref h5) p7 p8 p9 p10 (.ref h3) w10 w11 w12 w13 w14 w15 (i_rng _) hp1 (i_rng _) (i_rng _) (i_rng _) (i_rng _) (i_rng _) hp7 hp8 (i_rng _) (i_rng _) sz) wm_4_137 wm_4_140 wm_1_1 hd_X11_isSet wm_4_139 wp_3_3 (ci := 11) (q0 := 0) rfl rfl ⟨Nat.le_of_ble_eq_true rfl, Nat.le_of_ble_eq_true rfl⟩ hl.1 rfl (Nat.le_of_ble_eq_true rfl) dX11_sits_2 ⟨Nat.le_of_ble_eq_true rfl, Nat.le_of_ble_eq_true rfl⟩ [0, 1, 2] [3, 4, 5, 6, 7, 8, 9, 10] rfl rfl (by decide) rfl rfl (fun r_1 u_1 H locs w_1 h_1 => ?_)
  clear h
  obtain ⟨wr_1, y1_0, _⟩ := w_1
  replace h_1 : qW D _ _ [(h3, .inr (4, [.ref h4])), (h4, .inl (cy 1, m0, .inl f0)), (h5, .inl (cy 1, 10, .inl f1)), (h6, .inr (6, [.ref h7, .ref h8])), (h7, .inl (cy 1, 11, .inl f2)), (h8, .inl (cy 1, 64, .inl f3)), (h9, .inr (0, [.int p11, .ref h10, w16, w17])), (h10, .inl (cy 1, 10, .inl f4)), (h0, .inr (11, [w0, .int p1, .int p2, .int p3, w1, .ref h1, w2, w3, w4, w5, w6, w7, .ref h6, .ref h9, w8, w9, .int p4])), (h1, .inr (7, [.ref h2, .int p5, .int p6, .ref h5])), (h2, .inr (3, [.int p7, .int p8, .int p9, .int p10, .ref h3, w10, w10, w11, w12, w13, w14, w15]))] _ _ := h_1
  refine lv_if_ne (tgt := 11) hx hb dX11_sits_5 (by decide) (fun c_2 => ?_) (fun c_2 => ?_)
  · replace c_2 := i_ne (x := r_1) (y := 0) rfl (show (0 : Int32).toInt = 0 by decide) c_2
    refine lv_aload_n hx hb dX11_sits_11 rfl (lv_at hl 0 rfl) ?_
    refine q_callVv (rest := []) (wr := []) X hK hT hA h_1 (fun sz => gX11_drawToday_4204d3b l D cy h0 h1 h2 h3 h4 h5 h6 h7 h8 h9 h10 w0 p1 p2 p3 w1 w2 w3 w4 w5 w6 w7 w8 w9 p4 p5 p6 p7 p8 p9 p10 w10 w11 w12 w13 w14 w15 m0 f0 f1 f2 f3 p11 w16 w17 f4 hp1 (i_rng _) (i_rng _) (i_rng _) (i_rng _) (i_rng _) hp7 hp8 (i_rng _) (i_rng _) (by omega) hp11 (rg_wide rf1 (by decide) (by decide)) (rg_wide rf4 (by decide) (by decide)) sz) wm_4_145 wm_4_148 wm_1_1 hd_X11_drawToday wm_4_147 wp_3_5 (ci := 11) (q0 := 0) rfl rfl ⟨Nat.le_of_ble_eq_true rfl, Nat.le_of_ble_eq_true rfl⟩ hl.1 rfl (Nat.le_of_ble_eq_true rfl) dX11_sits_12 ⟨Nat.le_of_ble_eq_true rfl, Nat.le_of_ble_eq_true rfl⟩ [8, 9, 10, 0, 1, 2, 3, 4, 5, 6, 7] [] rfl rfl (by decide) rfl rfl (fun u_3 H locs w_3 h_3 => ?_)
    clear h_1
    obtain ⟨w3_0, w3_1, _⟩ := w_3
    replace h_3 : qW D _ _ [(h0, .inr (11, [w0, .int p1, .int p2, .int p3, w1, .ref h1, w2, w3, w4, w5, w6, w7, .ref h6, .ref h9, w8, w9, .int p4])), (h1, .inr (7, [.ref h2, .int p5, .int p6, .ref h5])), (h2, .inr (3, [.int p7, .int p8, .int p9, .int p10, .ref h3, w10, w10, w11, w12, w13, w14, w15])), (h3, .inr (4, [.ref h4])), (h4, .inl (cy 1, m0, .inl f0)), (h5, .inl (cy 1, 10, .inl f1)), (h6, .inr (6, [.ref h7, .ref h8])), (h7, .inl (cy 1, 11, .inl (u_3.2.1 2))), (h8, .inl (cy 1, 64, .inl (u_3.2.1 3))), (h9, .inr (0, [.int (u_3.2.1 0 0), .ref h10, w16, w17])), (h10, .inl (cy 1, 10, .inl (u_3.2.1 1)))] _ _ := h_3
    refine lv_aload_n hx hb dX11_sits_15 rfl (lv_at hl 0 rfl) ?_
    refine q_get X hK h_3 0 rfl rfl wf_11 13 (by decide) rfl wm_2_111 dX11_sits_16 ?_
    refine lv_iload_n hx hb dX11_sits_19 rfl (lv_at hl 1 rfl) ?_
    refine lv_iconst (v := 0) hx hb dX11_sits_20 (by decide) ?_
    refine q_callVi (rest := []) (wr := [(h0, .inr (11, [w0, .int p1, .int p2, .int p3, w1, .ref h1, w2, w3, w4, w5, w6, w7, .ref h6, .ref h9, w8, w9, .int p4])), (h1, .inr (7, [.ref h2, .int p5, .int p6, .ref h5])), (h2, .inr (3, [.int p7, .int p8, .int p9, .int p10, .ref h3, w10, w10, w11, w12, w13, w14, w15])), (h3, .inr (4, [.ref h4])), (h4, .inl (cy 1, m0, .inl f0)), (h5, .inl (cy 1, 10, .inl f1)), (h6, .inr (6, [.ref h7, .ref h8])), (h7, .inl (cy 1, 11, .inl (u_3.2.1 2))), (h8, .inl (cy 1, 64, .inl (u_3.2.1 3)))]) X hK hT hA h_3 (fun sz => gX0_canSit_8989582 l D cy h9 h10 p0 (u_3.2.1 0 0) w16 w17 (u_3.2.1 1) ⟨by omega, by omega⟩ w3_0 sz) wm_4_109 wm_4_112 wm_1_6 hd_X0_canSit wm_4_110 wm_4_111 (ci := 0) (q0 := 0) rfl rfl ⟨Nat.le_of_ble_eq_true rfl, Nat.le_of_ble_eq_true rfl⟩ hl.1 rfl (Nat.le_of_ble_eq_true rfl) dX11_sits_21 ⟨Nat.le_of_ble_eq_true rfl, Nat.le_of_ble_eq_true rfl⟩ [9, 10] [0, 1, 2, 3, 4, 5, 6, 7, 8] rfl rfl (by decide) rfl rfl (fun r_4 u_4 H locs w_4 h_4 => ?_)
    clear h_3
    obtain ⟨wr_4, _⟩ := w_4
    replace h_4 : qW D _ _ [(h0, .inr (11, [w0, .int p1, .int p2, .int p3, w1, .ref h1, w2, w3, w4, w5, w6, w7, .ref h6, .ref h9, w8, w9, .int p4])), (h1, .inr (7, [.ref h2, .int p5, .int p6, .ref h5])), (h2, .inr (3, [.int p7, .int p8, .int p9, .int p10, .ref h3, w10, w10, w11, w12, w13, w14, w15])), (h3, .inr (4, [.ref h4])), (h4, .inl (cy 1, m0, .inl f0)), (h5, .inl (cy 1, 10, .inl f1)), (h6, .inr (6, [.ref h7, .ref h8])), (h7, .inl (cy 1, 11, .inl (u_3.2.1 2))), (h8, .inl (cy 1, 64, .inl (u_3.2.1 3))), (h9, .inr (0, [.int (u_3.2.1 0 0), .ref h10, w16, w17])), (h10, .inl (cy 1, 10, .inl (u_3.2.1 1)))] _ _ := h_4
    refine q_jn (pc2 := 32) (fun H locs ls st => ∃ v32_5_0 : Int32, (0 ≤ (v32_5_0).toInt ∧ (v32_5_0).toInt ≤ 1) ∧ st = [.int v32_5_0] ∧ qW D (va_A [(h0, .inr (11, [w0, .int p1, .int p2, .int p3, w1, .ref h1, w2, w3, w4, w5, w6, w7, .ref h6, .ref h9, w8, w9, .int p4])), (h1, .inr (7, [.ref h2, .int p5, .int p6, .ref h5])), (h2, .inr (3, [.int p7, .int p8, .int p9, .int p10, .ref h3, w10, w10, w11, w12, w13, w14, w15])), (h3, .inr (4, [.ref h4])), (h4, .inl (cy 1, m0, .inl f0)), (h5, .inl (cy 1, 10, .inl f1)), (h6, .inr (6, [.ref h7, .ref h8])), (h7, .inl (cy 1, 11, .inl f2)), (h8, .inl (cy 1, 64, .inl f3)), (h9, .inr (0, [.int p11, .ref h10, w16, w17])), (h10, .inl (cy 1, 10, .inl f4))] sz) s.heap [(h0, .inr (11, [w0, .int p1, .int p2, .int p3, w1, .ref h1, w2, w3, w4, w5, w6, w7, .ref h6, .ref h9, w8, w9, .int p4])), (h1, .inr (7, [.ref h2, .int p5, .int p6, .ref h5])), (h2, .inr (3, [.int p7, .int p8, .int p9, .int p10, .ref h3, w10, w10, w11, w12, w13, w14, w15])), (h3, .inr (4, [.ref h4])), (h4, .inl (cy 1, m0, .inl f0)), (h5, .inl (cy 1, 10, .inl f1)), (h6, .inr (6, [.ref h7, .ref h8])), (h7, .inl (cy 1, 11, .inl (u_3.2.1 2))), (h8, .inl (cy 1, 64, .inl (u_3.2.1 3))), (h9, .inr (0, [.int (u_3.2.1 0 0), .ref h10, w16, w17])), (h10, .inl (cy 1, 10, .inl (u_3.2.1 1)))] H locs ∧ lv_has ls 2 [(0, .ref h0), (1, .int p0)]) (fun H locs ls st hP => ?_) (fun J_32 => ?_)
    · obtain ⟨v32_5_0, hv32_5_0, rfl, h, hl⟩ := hP
      exact q_iret X hr hlk hK h rfl (fun _ => 0, fun k => List.getD [(u_3.2.1 2), (u_3.2.1 3), (fun _ => (u_3.2.1 0 0)), (u_3.2.1 1)] k (fun _ => 0), fun _ _ => 0) ⟨(bw hv32_5_0 (by decide) (by decide)), (w3_0 : 0 ≤ ((u_3.2.1 0 0) : Int32).toInt ∧ ((u_3.2.1 0 0) : Int32).toInt ≤ 10), (rg_wide w3_1 (by decide) (by decide)), trivial⟩ [0, 1, 2, 3, 4, 5, 6, 7, 8, 9, 10] rfl rfl dX11_sits_32 (Nat.le_of_ble_eq_true rfl) (Nat.le_of_ble_eq_true rfl)
    · skip
      refine lv_if_eq (tgt := 31) hx hb dX11_sits_24 (by decide) (fun c_6 => ?_) (fun c_6 => ?_)
      · replace c_6 := i_eq (x := r_4) (y := 0) rfl (show (0 : Int32).toInt = 0 by decide) c_6
        refine lv_iconst (v := 0) hx hb dX11_sits_31 (by decide) ?_
        exact J_32 _ _ _ _ ⟨0, ⟨by decide +kernel, by decide +kernel⟩, rfl, h_4, (lv_sub hl [0, 1] rfl)⟩
      · replace c_6 := i_ne (x := r_4) (y := 0) rfl (show (0 : Int32).toInt = 0 by decide) c_6
        refine lv_iconst (v := 1) hx hb dX11_sits_27 (by decide) ?_
        refine lv_goto (tgt := 32) hx hb dX11_sits_28 (by decide) ?_
        exact J_32 _ _ _ _ ⟨1, ⟨by decide +kernel, by decide +kernel⟩, rfl, h_4, (lv_sub hl [0, 1] rfl)⟩
  · replace c_2 := i_eq (x := r_1) (y := 0) rfl (show (0 : Int32).toInt = 0 by decide) c_2
    refine lv_bipush (v := (-3)) hx hb dX11_sits_8 (by decide) ?_
    exact q_iret X hr hlk hK h_1 rfl (fun _ => 0, fun k => List.getD [f2, f3, (fun _ => p11), f4] k (fun _ => 0), fun _ _ => 0) ⟨⟨by decide +kernel, by decide +kernel⟩, (hp11 : 0 ≤ (p11 : Int32).toInt ∧ (p11 : Int32).toInt ≤ 10), (rg_wide rf4 (by decide) (by decide)), trivial⟩ [8, 9, 10, 0, 1, 2, 3, 4, 5, 6, 7] rfl rfl dX11_sits_10 (Nat.le_of_ble_eq_true rfl) (Nat.le_of_ble_eq_true rfl)
set_option maxHeartbeats 4000000 in
set_option maxRecDepth 100000 in
theorem gX0_worthWith_017910b (l : Launch) (D : va_G) (cy : Nat → ClassId) (h0 : Nat) (h1 : Nat) (h2 : Nat) (p0 : Int32) (p1 : Int32) (p2 : Int32) (p3 : Int32) (w0 : Value) (w1 : Value) (f0 : Nat → Int32) (f1 : Nat → Int32) (hp0 : 0 ≤ (p0).toInt ∧ (p0).toInt ≤ 9) (hp1 : 1 ≤ (p1).toInt ∧ (p1).toInt ≤ 9) (hp2 : 0 ≤ (p2).toInt ∧ (p2).toInt ≤ 1023) (hp3 : 2 ≤ (p3).toInt ∧ (p3).toInt ≤ 10) (sz : Nat) : MI l yX0_worthWith cX0_worthWith 5 .int { frames := 0, cells := 0, slots := 0, locals := 0 } [.ref h0, .int p0, .int p1, .int p2, .ref h2] D cy [(h0, .inr (0, [.int p3, w0, w1, .ref h1])), (h1, .inl (cy 1, 1024, .inl f0)), (h2, .inl (cy 1, 10, .inl f1))] sz (fun r u => ((-2147483648) ≤ r.toInt ∧ r.toInt ≤ 2147483647) ∧ True) (fun u => [(h0, .inr (0, [.int p3, w0, w1, .ref h1])), (h1, .inl (cy 1, 1024, .inl f0)), (h2, .inl (cy 1, 10, .inl f1))]) 0 0 := by
  refine q_ent (own := RX0) (by decide) rfl (Nat.le_of_ble_eq_true rfl) (fun p e s m below meth c ls X hr hlk hnm hK hT h hA hl => ?_)
  obtain ⟨hx, hb, hml, hown, ht⟩ := id X
  replace hl : lv_has ls 5 [(0, .ref h0), (1, .int p0), (2, .int p1), (3, .int p2), (4, .ref h2)] := hl
  refine lv_aload_n hx hb dX0_worthWith_0 rfl (lv_at hl 0 rfl) ?_
  refine q_get X hK h 0 rfl rfl wf_0 3 (by decide) rfl wm_1_203 dX0_worthWith_1 ?_
  refine lv_iload_n hx hb dX0_worthWith_4 rfl (lv_at hl 3 rfl) ?_
  refine lv_iconst (v := 1) hx hb dX0_worthWith_5 (by decide) ?_
  refine lv_iload_n hx hb dX0_worthWith_6 rfl (lv_at hl 1 rfl) ?_
  refine lv_ishl hx hb dX0_worthWith_7 ?_
  obtain ⟨z_1, ez_1, hz_1⟩ := e_shlk (p := p0) 9 (by decide) rfl (by omega) (by omega)
  refine q_c z_1 ez_1 ?_
  clear ez_1
  refine lv_iconst (v := 1) hx hb dX0_worthWith_8 (by decide) ?_
  refine lv_iload_n hx hb dX0_worthWith_9 rfl (lv_at hl 2 rfl) ?_
  refine lv_ishl hx hb dX0_worthWith_10 ?_
  obtain ⟨z_2, ez_2, hz_2⟩ := e_shlk (p := p1) 9 (by decide) rfl (by omega) (by omega)
  refine q_c z_2 ez_2 ?_
  clear ez_2
  refine lv_ior hx hb dX0_worthWith_11 ?_
  obtain ⟨z_3, ez_3, hz_3⟩ := e_or (x := z_1) (y := z_2) 10 (by decide) rfl rfl (by omega) (by omega) (by omega) (by omega)
  refine q_c z_3 ez_3 ?_
  clear ez_3
  refine lv_iconst (v := (-1)) hx hb dX0_worthWith_12 (by decide) ?_
  refine lv_ixor hx hb dX0_worthWith_13 ?_
  refine q_any (fun z_4 hz_4 => ?_)
  refine lv_iand hx hb dX0_worthWith_14 ?_
  obtain ⟨z_5, ez_5, hz_5⟩ := e_and1 (x := p2) (y := z_4) rfl (by omega)
  refine q_c z_5 ez_5 ?_
  clear ez_5
  refine q_iald X hK h 1 rfl (i_in rfl (by omega) (by omega)) dX0_worthWith_15 ?_
  refine q_any (fun z_6 hz_6 => ?_)
  refine lv_sipush (v := 1000) hx hb dX0_worthWith_16 (by decide) ?_
  refine lv_iadd hx hb dX0_worthWith_19 ?_
  refine q_any (fun z_7 hz_7 => ?_)
  refine lv_aload hx hb dX0_worthWith_20 (lv_at hl 4 rfl) ?_
  refine lv_iload_n hx hb dX0_worthWith_22 rfl (lv_at hl 1 rfl) ?_
  refine q_iald X hK h 2 rfl (i_in rfl (by omega) (by omega)) dX0_worthWith_23 ?_
  refine q_any (fun z_8 hz_8 => ?_)
  refine lv_iadd hx hb dX0_worthWith_24 ?_
  refine q_any (fun z_9 hz_9 => ?_)
  refine lv_aload hx hb dX0_worthWith_25 (lv_at hl 4 rfl) ?_
  refine lv_iload_n hx hb dX0_worthWith_27 rfl (lv_at hl 2 rfl) ?_
  refine q_iald X hK h 2 rfl (i_in rfl (by omega) (by omega)) dX0_worthWith_28 ?_
  refine q_any (fun z_10 hz_10 => ?_)
  refine lv_iadd hx hb dX0_worthWith_29 ?_
  refine q_any (fun z_11 hz_11 => ?_)
  exact q_iret X hr hlk hK h rfl (fun _ => 0, fun _ _ => 0, fun _ _ => 0) ⟨⟨by omega, by omega⟩, trivial⟩ [0, 1, 2] rfl rfl dX0_worthWith_30 (Nat.le_of_ble_eq_true rfl) (Nat.le_of_ble_eq_true rfl)
