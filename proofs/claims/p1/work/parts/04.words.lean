theorem wm_1_1 : Cond.initialized RX11 ∈ WG := wg_t1 (List.mem_of_getElem? (i := 1) rfl) rfl
theorem wm_1_10 : Cond.initialized RX2 ∈ WG := wg_t1 (List.mem_of_getElem? (i := 10) rfl) rfl
theorem wm_1_102 : Cond.fieldLink RX3 34 "OppositeHouse$House" "views" "[I" ∈ WG := wg_t1 (List.mem_of_getElem? (i := 102) rfl) rfl
theorem wm_1_105 : Cond.fieldLink RX3 38 "OppositeHouse$House" "first" "[I" ∈ WG := wg_t1 (List.mem_of_getElem? (i := 105) rfl) rfl
theorem wm_1_109 : Cond.fieldLink RX3 41 "OppositeHouse$House" "last" "[I" ∈ WG := wg_t1 (List.mem_of_getElem? (i := 109) rfl) rfl
theorem wm_1_11 : Cond.initialized RX9 ∈ WG := wg_t1 (List.mem_of_getElem? (i := 11) rfl) rfl
theorem wm_1_113 : Cond.fieldLink RX3 44 "OppositeHouse$House" "temper" "[I" ∈ WG := wg_t1 (List.mem_of_getElem? (i := 113) rfl) rfl
theorem wm_1_114 : Cond.fieldLink RX11 146 "OppositeHouse$House" "temper" "[I" ∈ WG := wg_t1 (List.mem_of_getElem? (i := 114) rfl) rfl
theorem wm_1_116 : Cond.fieldLink RX3 47 "OppositeHouse$House" "weight" "[I" ∈ WG := wg_t1 (List.mem_of_getElem? (i := 116) rfl) rfl
theorem wm_1_117 : Cond.fieldLink RX11 149 "OppositeHouse$House" "weight" "[I" ∈ WG := wg_t1 (List.mem_of_getElem? (i := 117) rfl) rfl
theorem wm_1_12 : Cond.initialized RX12 ∈ WG := wg_t1 (List.mem_of_getElem? (i := 12) rfl) rfl
theorem wm_1_13 : Cond.initialized RJ9 ∈ WG := wg_t1 (List.mem_of_getElem? (i := 13) rfl) rfl
theorem wm_1_144 : Cond.fieldLink RX5 12 "OppositeHouse$Reader" "tokens" "LOppositeHouse$Tokens;" ∈ WG := wg_t1 (List.mem_of_getElem? (i := 144) rfl) rfl
theorem wm_1_145 : Cond.fieldLink RX5 18 "OppositeHouse$Reader" "at" "I" ∈ WG := wg_t1 (List.mem_of_getElem? (i := 145) rfl) rfl
theorem wm_1_146 : Cond.fieldLink RX5 22 "OppositeHouse$Reader" "token" "I" ∈ WG := wg_t1 (List.mem_of_getElem? (i := 146) rfl) rfl
theorem wm_1_147 : Cond.fieldLink RX5 25 "OppositeHouse$Reader" "fault" "I" ∈ WG := wg_t1 (List.mem_of_getElem? (i := 147) rfl) rfl
theorem wm_1_148 : Cond.fieldLink RX11 109 "OppositeHouse$Reader" "fault" "I" ∈ WG := wg_t1 (List.mem_of_getElem? (i := 148) rfl) rfl
theorem wm_1_149 : Cond.fieldLink RX5 28 "OppositeHouse$Reader" "faultPlace" "I" ∈ WG := wg_t1 (List.mem_of_getElem? (i := 149) rfl) rfl
theorem wm_1_150 : Cond.fieldLink RX11 112 "OppositeHouse$Reader" "faultPlace" "I" ∈ WG := wg_t1 (List.mem_of_getElem? (i := 150) rfl) rfl
theorem wm_1_151 : Cond.fieldLink RX5 34 "OppositeHouse$Reader" "told" "LOppositeHouse$House;" ∈ WG := wg_t1 (List.mem_of_getElem? (i := 151) rfl) rfl
theorem wm_1_152 : Cond.fieldLink RX5 38 "OppositeHouse$Reader" "code" "[I" ∈ WG := wg_t1 (List.mem_of_getElem? (i := 152) rfl) rfl
theorem wm_1_153 : Cond.fieldLink RX5 42 "OppositeHouse$Reader" "codeSize" "I" ∈ WG := wg_t1 (List.mem_of_getElem? (i := 153) rfl) rfl
theorem wm_1_154 : Cond.fieldLink RX5 45 "OppositeHouse$Reader" "namesAllowed" "I" ∈ WG := wg_t1 (List.mem_of_getElem? (i := 154) rfl) rfl
theorem wm_1_174 : Cond.classLink RX11 30 RX9 ∈ WG := wg_t1 (List.mem_of_getElem? (i := 174) rfl) rfl
theorem wm_1_176 : Cond.classLink RX11 36 RX7 ∈ WG := wg_t1 (List.mem_of_getElem? (i := 176) rfl) rfl
theorem wm_1_178 : Cond.classLink RX11 46 RX6 ∈ WG := wg_t1 (List.mem_of_getElem? (i := 178) rfl) rfl
theorem wm_1_179 : Cond.instantiable RX6 2 ∈ WG := wg_t1 (List.mem_of_getElem? (i := 179) rfl) rfl
theorem wm_1_181 : Cond.instanceMethod yX6_init ∈ WG := wg_t1 (List.mem_of_getElem? (i := 181) rfl) rfl
theorem wm_1_182 : Cond.code yX6_init cX6_init 1 none ∈ WG := wg_t1 (List.mem_of_getElem? (i := 182) rfl) rfl
theorem wm_1_183 : Cond.methodLink RX6 3 Lib.objectInit ∈ WG := wg_t1 (List.mem_of_getElem? (i := 183) rfl) rfl
theorem wm_1_184 : Cond.fieldLink RX6 9 "OppositeHouse$Scales" "given" "[I" ∈ WG := wg_t1 (List.mem_of_getElem? (i := 184) rfl) rfl
theorem wm_1_185 : Cond.fieldLink RX6 15 "OppositeHouse$Scales" "held" "[I" ∈ WG := wg_t1 (List.mem_of_getElem? (i := 185) rfl) rfl
theorem wm_1_191 : Cond.arrayClass .boolean ∈ WG := wg_t1 (List.mem_of_getElem? (i := 191) rfl) rfl
theorem wm_1_192 : Cond.classLink RX11 53 RX0 ∈ WG := wg_t1 (List.mem_of_getElem? (i := 192) rfl) rfl
theorem wm_1_193 : Cond.instantiable RX0 4 ∈ WG := wg_t1 (List.mem_of_getElem? (i := 193) rfl) rfl
theorem wm_1_195 : Cond.instanceMethod yX0_init ∈ WG := wg_t1 (List.mem_of_getElem? (i := 195) rfl) rfl
theorem wm_1_196 : Cond.code yX0_init cX0_init 1 none ∈ WG := wg_t1 (List.mem_of_getElem? (i := 196) rfl) rfl
theorem wm_1_197 : Cond.methodLink RX0 3 Lib.objectInit ∈ WG := wg_t1 (List.mem_of_getElem? (i := 197) rfl) rfl
theorem wm_1_198 : Cond.fieldLink RX0 9 "OppositeHouse$Circle" "people" "I" ∈ WG := wg_t1 (List.mem_of_getElem? (i := 198) rfl) rfl
theorem wm_1_199 : Cond.fieldLink RX0 15 "OppositeHouse$Circle" "rows" "[I" ∈ WG := wg_t1 (List.mem_of_getElem? (i := 199) rfl) rfl
theorem wm_1_2 : Cond.initialized RX5 ∈ WG := wg_t1 (List.mem_of_getElem? (i := 2) rfl) rfl
theorem wm_1_20 : Cond.initialized RJ7 ∈ WG := wg_t1 (List.mem_of_getElem? (i := 20) rfl) rfl
theorem wm_1_201 : Cond.fieldLink RX0 19 "OppositeHouse$Circle" "partings" "[I" ∈ WG := wg_t1 (List.mem_of_getElem? (i := 201) rfl) rfl
theorem wm_1_202 : Cond.fieldLink RX11 280 "OppositeHouse$Circle" "partings" "[I" ∈ WG := wg_t1 (List.mem_of_getElem? (i := 202) rfl) rfl
theorem wm_1_203 : Cond.fieldLink RX0 22 "OppositeHouse$Circle" "worth" "[I" ∈ WG := wg_t1 (List.mem_of_getElem? (i := 203) rfl) rfl
theorem wm_1_21 : Cond.initialized RJ10 ∈ WG := wg_t1 (List.mem_of_getElem? (i := 21) rfl) rfl
theorem wm_1_213 : Cond.classLink RX11 60 RX10 ∈ WG := wg_t1 (List.mem_of_getElem? (i := 213) rfl) rfl
theorem wm_1_214 : Cond.instantiable RX10 8 ∈ WG := wg_t1 (List.mem_of_getElem? (i := 214) rfl) rfl
theorem wm_1_216 : Cond.instanceMethod yX10_init ∈ WG := wg_t1 (List.mem_of_getElem? (i := 216) rfl) rfl
theorem wm_1_217 : Cond.code yX10_init cX10_init 1 none ∈ WG := wg_t1 (List.mem_of_getElem? (i := 217) rfl) rfl
theorem wm_1_218 : Cond.methodLink RX10 3 Lib.objectInit ∈ WG := wg_t1 (List.mem_of_getElem? (i := 218) rfl) rfl
theorem wm_1_219 : Cond.fieldLink RX10 9 "OppositeHouse$Turning" "one" "I" ∈ WG := wg_t1 (List.mem_of_getElem? (i := 219) rfl) rfl
theorem wm_1_22 : Cond.initialized RJ6 ∈ WG := wg_t1 (List.mem_of_getElem? (i := 22) rfl) rfl
theorem wm_1_220 : Cond.fieldLink RX10 15 "OppositeHouse$Turning" "other" "I" ∈ WG := wg_t1 (List.mem_of_getElem? (i := 220) rfl) rfl
theorem wm_1_221 : Cond.fieldLink RX10 18 "OppositeHouse$Turning" "stamp" "I" ∈ WG := wg_t1 (List.mem_of_getElem? (i := 221) rfl) rfl
theorem wm_1_222 : Cond.fieldLink RX10 21 "OppositeHouse$Turning" "length" "I" ∈ WG := wg_t1 (List.mem_of_getElem? (i := 222) rfl) rfl
theorem wm_1_224 : Cond.fieldLink RX10 24 "OppositeHouse$Turning" "path" "[I" ∈ WG := wg_t1 (List.mem_of_getElem? (i := 224) rfl) rfl
theorem wm_1_226 : Cond.fieldLink RX10 28 "OppositeHouse$Turning" "queue" "[I" ∈ WG := wg_t1 (List.mem_of_getElem? (i := 226) rfl) rfl
theorem wm_1_227 : Cond.fieldLink RX10 31 "OppositeHouse$Turning" "from" "[I" ∈ WG := wg_t1 (List.mem_of_getElem? (i := 227) rfl) rfl
theorem wm_1_228 : Cond.fieldLink RX10 34 "OppositeHouse$Turning" "by" "[I" ∈ WG := wg_t1 (List.mem_of_getElem? (i := 228) rfl) rfl
theorem wm_1_23 : Cond.classLink RL 7 RX11 ∈ WG := wg_t1 (List.mem_of_getElem? (i := 23) rfl) rfl
theorem wm_1_24 : Cond.instantiable RX11 17 ∈ WG := wg_t1 (List.mem_of_getElem? (i := 24) rfl) rfl
theorem wm_1_25 : Cond.methodLink RL 9 yX11_init ∈ WG := wg_t1 (List.mem_of_getElem? (i := 25) rfl) rfl
theorem wm_1_26 : Cond.instanceMethod yX11_init ∈ WG := wg_t1 (List.mem_of_getElem? (i := 26) rfl) rfl
theorem wm_1_27 : Cond.code yX11_init cX11_init 3 none ∈ WG := wg_t1 (List.mem_of_getElem? (i := 27) rfl) rfl
theorem wm_1_28 : Cond.methodLink RX11 1 Lib.objectInit ∈ WG := wg_t1 (List.mem_of_getElem? (i := 28) rfl) rfl
theorem wm_1_29 : Cond.instanceMethod Lib.objectInit ∈ WG := wg_t1 (List.mem_of_getElem? (i := 29) rfl) rfl
theorem wm_1_3 : Cond.initialized RX8 ∈ WG := wg_t1 (List.mem_of_getElem? (i := 3) rfl) rfl
theorem wm_1_30 : Cond.code Lib.objectInit ⟨#[0xb1]⟩ 1 none ∈ WG := wg_t1 (List.mem_of_getElem? (i := 30) rfl) rfl
theorem wm_1_31 : Cond.classLink RX11 23 RX5 ∈ WG := wg_t1 (List.mem_of_getElem? (i := 31) rfl) rfl
theorem wm_1_32 : Cond.instantiable RX5 9 ∈ WG := wg_t1 (List.mem_of_getElem? (i := 32) rfl) rfl
theorem wm_1_34 : Cond.instanceMethod yX5_init ∈ WG := wg_t1 (List.mem_of_getElem? (i := 34) rfl) rfl
theorem wm_1_35 : Cond.code yX5_init cX5_init 1 none ∈ WG := wg_t1 (List.mem_of_getElem? (i := 35) rfl) rfl
theorem wm_1_36 : Cond.methodLink RX5 3 Lib.objectInit ∈ WG := wg_t1 (List.mem_of_getElem? (i := 36) rfl) rfl
theorem wm_1_37 : Cond.classLink RX5 9 RX8 ∈ WG := wg_t1 (List.mem_of_getElem? (i := 37) rfl) rfl
theorem wm_1_38 : Cond.instantiable RX8 6 ∈ WG := wg_t1 (List.mem_of_getElem? (i := 38) rfl) rfl
theorem wm_1_4 : Cond.initialized RX3 ∈ WG := wg_t1 (List.mem_of_getElem? (i := 4) rfl) rfl
theorem wm_1_40 : Cond.instanceMethod yX8_init ∈ WG := wg_t1 (List.mem_of_getElem? (i := 40) rfl) rfl
theorem wm_1_41 : Cond.code yX8_init cX8_init 1 none ∈ WG := wg_t1 (List.mem_of_getElem? (i := 41) rfl) rfl
theorem wm_1_42 : Cond.methodLink RX8 3 Lib.objectInit ∈ WG := wg_t1 (List.mem_of_getElem? (i := 42) rfl) rfl
theorem wm_1_43 : Cond.fieldLink RX8 9 "OppositeHouse$Tokens" "text" "[B" ∈ WG := wg_t1 (List.mem_of_getElem? (i := 43) rfl) rfl
theorem wm_1_44 : Cond.fieldLink RX8 15 "OppositeHouse$Tokens" "length" "I" ∈ WG := wg_t1 (List.mem_of_getElem? (i := 44) rfl) rfl
theorem wm_1_45 : Cond.fieldLink RX8 19 "OppositeHouse$Tokens" "size" "I" ∈ WG := wg_t1 (List.mem_of_getElem? (i := 45) rfl) rfl
theorem wm_1_46 : Cond.fieldLink RX5 69 "OppositeHouse$Tokens" "size" "I" ∈ WG := wg_t1 (List.mem_of_getElem? (i := 46) rfl) rfl
theorem wm_1_47 : Cond.fieldLink RX8 22 "OppositeHouse$Tokens" "kinds" "[I" ∈ WG := wg_t1 (List.mem_of_getElem? (i := 47) rfl) rfl
theorem wm_1_48 : Cond.fieldLink RX5 78 "OppositeHouse$Tokens" "kinds" "[I" ∈ WG := wg_t1 (List.mem_of_getElem? (i := 48) rfl) rfl
theorem wm_1_49 : Cond.fieldLink RX8 26 "OppositeHouse$Tokens" "places" "[I" ∈ WG := wg_t1 (List.mem_of_getElem? (i := 49) rfl) rfl
theorem wm_1_5 : Cond.initialized RX6 ∈ WG := wg_t1 (List.mem_of_getElem? (i := 5) rfl) rfl
theorem wm_1_50 : Cond.fieldLink RX5 75 "OppositeHouse$Tokens" "places" "[I" ∈ WG := wg_t1 (List.mem_of_getElem? (i := 50) rfl) rfl
theorem wm_1_51 : Cond.fieldLink RX8 29 "OppositeHouse$Tokens" "values" "[I" ∈ WG := wg_t1 (List.mem_of_getElem? (i := 51) rfl) rfl
theorem wm_1_6 : Cond.initialized RX0 ∈ WG := wg_t1 (List.mem_of_getElem? (i := 6) rfl) rfl
theorem wm_1_66 : Cond.arrayClass .byte ∈ WG := wg_t1 (List.mem_of_getElem? (i := 66) rfl) rfl
theorem wm_1_67 : Cond.arrayClass .int ∈ WG := wg_t1 (List.mem_of_getElem? (i := 67) rfl) rfl
theorem wm_1_68 : Cond.classLink RX5 31 RX3 ∈ WG := wg_t1 (List.mem_of_getElem? (i := 68) rfl) rfl
theorem wm_1_69 : Cond.instantiable RX3 12 ∈ WG := wg_t1 (List.mem_of_getElem? (i := 69) rfl) rfl
theorem wm_1_7 : Cond.initialized RX10 ∈ WG := wg_t1 (List.mem_of_getElem? (i := 7) rfl) rfl
theorem wm_1_71 : Cond.instanceMethod yX3_init ∈ WG := wg_t1 (List.mem_of_getElem? (i := 71) rfl) rfl
theorem wm_1_72 : Cond.code yX3_init cX3_init 1 none ∈ WG := wg_t1 (List.mem_of_getElem? (i := 72) rfl) rfl
theorem wm_1_73 : Cond.methodLink RX3 3 Lib.objectInit ∈ WG := wg_t1 (List.mem_of_getElem? (i := 73) rfl) rfl
theorem wm_1_74 : Cond.fieldLink RX3 9 "OppositeHouse$House" "lines" "I" ∈ WG := wg_t1 (List.mem_of_getElem? (i := 74) rfl) rfl
theorem wm_1_76 : Cond.fieldLink RX5 63 "OppositeHouse$House" "lines" "I" ∈ WG := wg_t1 (List.mem_of_getElem? (i := 76) rfl) rfl
theorem wm_1_78 : Cond.fieldLink RX11 368 "OppositeHouse$House" "lines" "I" ∈ WG := wg_t1 (List.mem_of_getElem? (i := 78) rfl) rfl
theorem wm_1_79 : Cond.fieldLink RX3 15 "OppositeHouse$House" "people" "I" ∈ WG := wg_t1 (List.mem_of_getElem? (i := 79) rfl) rfl
theorem wm_1_8 : Cond.initialized RX1 ∈ WG := wg_t1 (List.mem_of_getElem? (i := 8) rfl) rfl
theorem wm_1_80 : Cond.fieldLink RX0 31 "OppositeHouse$House" "people" "I" ∈ WG := wg_t1 (List.mem_of_getElem? (i := 80) rfl) rfl
theorem wm_1_83 : Cond.fieldLink RX7 42 "OppositeHouse$House" "people" "I" ∈ WG := wg_t1 (List.mem_of_getElem? (i := 83) rfl) rfl
theorem wm_1_85 : Cond.fieldLink RX11 159 "OppositeHouse$House" "people" "I" ∈ WG := wg_t1 (List.mem_of_getElem? (i := 85) rfl) rfl
theorem wm_1_87 : Cond.fieldLink RX3 18 "OppositeHouse$House" "textLines" "I" ∈ WG := wg_t1 (List.mem_of_getElem? (i := 87) rfl) rfl
theorem wm_1_88 : Cond.fieldLink RX5 66 "OppositeHouse$House" "textLines" "I" ∈ WG := wg_t1 (List.mem_of_getElem? (i := 88) rfl) rfl
theorem wm_1_89 : Cond.fieldLink RX11 119 "OppositeHouse$House" "textLines" "I" ∈ WG := wg_t1 (List.mem_of_getElem? (i := 89) rfl) rfl
theorem wm_1_9 : Cond.initialized RX7 ∈ WG := wg_t1 (List.mem_of_getElem? (i := 9) rfl) rfl
theorem wm_1_90 : Cond.fieldLink RX3 21 "OppositeHouse$House" "startDay" "I" ∈ WG := wg_t1 (List.mem_of_getElem? (i := 90) rfl) rfl
theorem wm_1_93 : Cond.fieldLink RX3 24 "OppositeHouse$House" "opposing" "LOppositeHouse$Law;" ∈ WG := wg_t1 (List.mem_of_getElem? (i := 93) rfl) rfl
theorem wm_1_96 : Cond.fieldLink RX3 28 "OppositeHouse$House" "saying" "LOppositeHouse$Law;" ∈ WG := wg_t1 (List.mem_of_getElem? (i := 96) rfl) rfl
theorem wm_1_99 : Cond.fieldLink RX3 31 "OppositeHouse$House" "swaying" "LOppositeHouse$Law;" ∈ WG := wg_t1 (List.mem_of_getElem? (i := 99) rfl) rfl
theorem wm_2_10 : Cond.code yX1_init cX1_init 1 none ∈ WG := wg_t2 (List.mem_of_getElem? (i := 10) rfl) rfl
theorem wm_2_100 : Cond.fieldLink RX11 17 "OppositeHouse" "faultKind" "I" ∈ WG := wg_t2 (List.mem_of_getElem? (i := 100) rfl) rfl
theorem wm_2_101 : Cond.fieldLink RX11 20 "OppositeHouse" "faultPlace" "I" ∈ WG := wg_t2 (List.mem_of_getElem? (i := 101) rfl) rfl
theorem wm_2_102 : Cond.fieldLink RX11 26 "OppositeHouse" "reader" "LOppositeHouse$Reader;" ∈ WG := wg_t2 (List.mem_of_getElem? (i := 102) rfl) rfl
theorem wm_2_103 : Cond.fieldLink RX11 83 "OppositeHouse" "now" "LOppositeHouse$State;" ∈ WG := wg_t2 (List.mem_of_getElem? (i := 103) rfl) rfl
theorem wm_2_104 : Cond.fieldLink RX11 87 "OppositeHouse" "before" "LOppositeHouse$State;" ∈ WG := wg_t2 (List.mem_of_getElem? (i := 104) rfl) rfl
theorem wm_2_105 : Cond.fieldLink RX11 90 "OppositeHouse" "trial" "LOppositeHouse$State;" ∈ WG := wg_t2 (List.mem_of_getElem? (i := 105) rfl) rfl
theorem wm_2_106 : Cond.fieldLink RX11 96 "OppositeHouse" "history" "LOppositeHouse$History;" ∈ WG := wg_t2 (List.mem_of_getElem? (i := 106) rfl) rfl
theorem wm_2_107 : Cond.fieldLink RX11 32 "OppositeHouse" "trays" "[LOppositeHouse$Tray;" ∈ WG := wg_t2 (List.mem_of_getElem? (i := 107) rfl) rfl
theorem wm_2_108 : Cond.fieldLink RX11 38 "OppositeHouse" "images" "[LOppositeHouse$State;" ∈ WG := wg_t2 (List.mem_of_getElem? (i := 108) rfl) rfl
theorem wm_2_109 : Cond.fieldLink RX11 42 "OppositeHouse" "imageMade" "[Z" ∈ WG := wg_t2 (List.mem_of_getElem? (i := 109) rfl) rfl
theorem wm_2_11 : Cond.methodLink RX1 3 Lib.objectInit ∈ WG := wg_t2 (List.mem_of_getElem? (i := 11) rfl) rfl
theorem wm_2_110 : Cond.fieldLink RX11 49 "OppositeHouse" "scales" "LOppositeHouse$Scales;" ∈ WG := wg_t2 (List.mem_of_getElem? (i := 110) rfl) rfl
theorem wm_2_111 : Cond.fieldLink RX11 56 "OppositeHouse" "circle" "LOppositeHouse$Circle;" ∈ WG := wg_t2 (List.mem_of_getElem? (i := 111) rfl) rfl
theorem wm_2_112 : Cond.fieldLink RX11 63 "OppositeHouse" "turning" "LOppositeHouse$Turning;" ∈ WG := wg_t2 (List.mem_of_getElem? (i := 112) rfl) rfl
theorem wm_2_113 : Cond.fieldLink RX11 70 "OppositeHouse" "guess" "LOppositeHouse$Guess;" ∈ WG := wg_t2 (List.mem_of_getElem? (i := 113) rfl) rfl
theorem wm_2_114 : Cond.fieldLink RX11 74 "OppositeHouse" "changes" "I" ∈ WG := wg_t2 (List.mem_of_getElem? (i := 114) rfl) rfl
theorem wm_2_12 : Cond.fieldLink RX1 9 "OppositeHouse$Guess" "one" "I" ∈ WG := wg_t2 (List.mem_of_getElem? (i := 12) rfl) rfl
theorem wm_2_13 : Cond.fieldLink RX1 15 "OppositeHouse$Guess" "opposing" "I" ∈ WG := wg_t2 (List.mem_of_getElem? (i := 13) rfl) rfl
theorem wm_2_14 : Cond.fieldLink RX1 18 "OppositeHouse$Guess" "stamp" "I" ∈ WG := wg_t2 (List.mem_of_getElem? (i := 14) rfl) rfl
theorem wm_2_15 : Cond.fieldLink RX1 21 "OppositeHouse$Guess" "size" "I" ∈ WG := wg_t2 (List.mem_of_getElem? (i := 15) rfl) rfl
theorem wm_2_150 : Cond.methodLink RL 13 yX11_feed ∈ WG := wg_t2 (List.mem_of_getElem? (i := 150) rfl) rfl
theorem wm_2_151 : Cond.instanceMethod yX11_feed ∈ WG := wg_t2 (List.mem_of_getElem? (i := 151) rfl) rfl
theorem wm_2_152 : Cond.selects RX11 yX11_feed yX11_feed ∈ WG := wg_t2 (List.mem_of_getElem? (i := 152) rfl) rfl
theorem wm_2_153 : Cond.code yX11_feed cX11_feed 6 (some .int) ∈ WG := wg_t2 (List.mem_of_getElem? (i := 153) rfl) rfl
theorem wm_2_154 : Cond.methodLink RX11 101 yX11_putOnTape ∈ WG := wg_t2 (List.mem_of_getElem? (i := 154) rfl) rfl
theorem wm_2_156 : Cond.instanceMethod yX11_putOnTape ∈ WG := wg_t2 (List.mem_of_getElem? (i := 156) rfl) rfl
theorem wm_2_157 : Cond.code yX11_putOnTape cX11_putOnTape 3 none ∈ WG := wg_t2 (List.mem_of_getElem? (i := 157) rfl) rfl
theorem wm_2_158 : Cond.methodLink RL 18 yX11_house ∈ WG := wg_t2 (List.mem_of_getElem? (i := 158) rfl) rfl
theorem wm_2_159 : Cond.instanceMethod yX11_house ∈ WG := wg_t2 (List.mem_of_getElem? (i := 159) rfl) rfl
theorem wm_2_160 : Cond.selects RX11 yX11_house yX11_house ∈ WG := wg_t2 (List.mem_of_getElem? (i := 160) rfl) rfl
theorem wm_2_161 : Cond.code yX11_house cX11_house 3 (some .int) ∈ WG := wg_t2 (List.mem_of_getElem? (i := 161) rfl) rfl
theorem wm_2_162 : Cond.methodLink RX11 105 yX5_read ∈ WG := wg_t2 (List.mem_of_getElem? (i := 162) rfl) rfl
theorem wm_2_163 : Cond.instanceMethod yX5_read ∈ WG := wg_t2 (List.mem_of_getElem? (i := 163) rfl) rfl
theorem wm_2_164 : Cond.selects RX5 yX5_read yX5_read ∈ WG := wg_t2 (List.mem_of_getElem? (i := 164) rfl) rfl
theorem wm_2_165 : Cond.code yX5_read cX5_read 4 (some (.object "OppositeHouse$House")) ∈ WG := wg_t2 (List.mem_of_getElem? (i := 165) rfl) rfl
theorem wm_2_166 : Cond.methodLink RX5 48 yX8_cut ∈ WG := wg_t2 (List.mem_of_getElem? (i := 166) rfl) rfl
theorem wm_2_167 : Cond.instanceMethod yX8_cut ∈ WG := wg_t2 (List.mem_of_getElem? (i := 167) rfl) rfl
theorem wm_2_168 : Cond.selects RX8 yX8_cut yX8_cut ∈ WG := wg_t2 (List.mem_of_getElem? (i := 168) rfl) rfl
theorem wm_2_169 : Cond.code yX8_cut cX8_cut 7 none ∈ WG := wg_t2 (List.mem_of_getElem? (i := 169) rfl) rfl
theorem wm_2_17 : Cond.fieldLink RX1 24 "OppositeHouse$Guess" "fitting" "[I" ∈ WG := wg_t2 (List.mem_of_getElem? (i := 17) rfl) rfl
theorem wm_2_170 : Cond.methodLink RX8 32 yJ9_min_7cf53 ∈ WG := wg_t2 (List.mem_of_getElem? (i := 170) rfl) rfl
theorem wm_2_171 : Cond.static yJ9_min_7cf53 ∈ WG := wg_t2 (List.mem_of_getElem? (i := 171) rfl) rfl
theorem wm_2_172 : Cond.code yJ9_min_7cf53 cJ9_min_7cf53 2 (some .int) ∈ WG := wg_t2 (List.mem_of_getElem? (i := 172) rfl) rfl
theorem wm_2_173 : Cond.methodLink RX8 38 yX8_endOf ∈ WG := wg_t2 (List.mem_of_getElem? (i := 173) rfl) rfl
theorem wm_2_175 : Cond.instanceMethod yX8_endOf ∈ WG := wg_t2 (List.mem_of_getElem? (i := 175) rfl) rfl
theorem wm_2_176 : Cond.code yX8_endOf cX8_endOf 3 (some .int) ∈ WG := wg_t2 (List.mem_of_getElem? (i := 176) rfl) rfl
theorem wm_2_177 : Cond.methodLink RX8 48 yX8_isLetter ∈ WG := wg_t2 (List.mem_of_getElem? (i := 177) rfl) rfl
theorem wm_2_179 : Cond.instanceMethod yX8_isLetter ∈ WG := wg_t2 (List.mem_of_getElem? (i := 179) rfl) rfl
theorem wm_2_180 : Cond.code yX8_isLetter cX8_isLetter 2 (some .boolean) ∈ WG := wg_t2 (List.mem_of_getElem? (i := 180) rfl) rfl
theorem wm_2_181 : Cond.methodLink RX8 52 yX8_isDigit ∈ WG := wg_t2 (List.mem_of_getElem? (i := 181) rfl) rfl
theorem wm_2_183 : Cond.instanceMethod yX8_isDigit ∈ WG := wg_t2 (List.mem_of_getElem? (i := 183) rfl) rfl
theorem wm_2_184 : Cond.code yX8_isDigit cX8_isDigit 2 (some .boolean) ∈ WG := wg_t2 (List.mem_of_getElem? (i := 184) rfl) rfl
theorem wm_2_185 : Cond.methodLink RX8 42 yX8_kindOf ∈ WG := wg_t2 (List.mem_of_getElem? (i := 185) rfl) rfl
theorem wm_2_187 : Cond.instanceMethod yX8_kindOf ∈ WG := wg_t2 (List.mem_of_getElem? (i := 187) rfl) rfl
theorem wm_2_188 : Cond.code yX8_kindOf cX8_kindOf 4 (some .int) ∈ WG := wg_t2 (List.mem_of_getElem? (i := 188) rfl) rfl
theorem wm_2_30 : Cond.classLink RX11 77 RX3 ∈ WG := wg_t2 (List.mem_of_getElem? (i := 30) rfl) rfl
theorem wm_2_32 : Cond.instantiable RX7 4 ∈ WG := wg_t2 (List.mem_of_getElem? (i := 32) rfl) rfl
theorem wm_2_33 : Cond.methodLink RX11 80 yX7_init ∈ WG := wg_t2 (List.mem_of_getElem? (i := 33) rfl) rfl
theorem wm_2_34 : Cond.instanceMethod yX7_init ∈ WG := wg_t2 (List.mem_of_getElem? (i := 34) rfl) rfl
theorem wm_2_35 : Cond.code yX7_init cX7_init 2 none ∈ WG := wg_t2 (List.mem_of_getElem? (i := 35) rfl) rfl
theorem wm_2_36 : Cond.methodLink RX7 3 Lib.objectInit ∈ WG := wg_t2 (List.mem_of_getElem? (i := 36) rfl) rfl
theorem wm_2_37 : Cond.fieldLink RX7 22 "OppositeHouse$State" "house" "LOppositeHouse$House;" ∈ WG := wg_t2 (List.mem_of_getElem? (i := 37) rfl) rfl
theorem wm_2_38 : Cond.fieldLink RX0 25 "OppositeHouse$State" "house" "LOppositeHouse$House;" ∈ WG := wg_t2 (List.mem_of_getElem? (i := 38) rfl) rfl
theorem wm_2_42 : Cond.fieldLink RX11 126 "OppositeHouse$State" "house" "LOppositeHouse$House;" ∈ WG := wg_t2 (List.mem_of_getElem? (i := 42) rfl) rfl
theorem wm_2_43 : Cond.fieldLink RX7 9 "OppositeHouse$State" "day" "I" ∈ WG := wg_t2 (List.mem_of_getElem? (i := 43) rfl) rfl
theorem wm_2_47 : Cond.fieldLink RX11 165 "OppositeHouse$State" "day" "I" ∈ WG := wg_t2 (List.mem_of_getElem? (i := 47) rfl) rfl
theorem wm_2_48 : Cond.fieldLink RX7 15 "OppositeHouse$State" "away" "I" ∈ WG := wg_t2 (List.mem_of_getElem? (i := 48) rfl) rfl
theorem wm_2_49 : Cond.fieldLink RX11 152 "OppositeHouse$State" "away" "I" ∈ WG := wg_t2 (List.mem_of_getElem? (i := 49) rfl) rfl
theorem wm_2_50 : Cond.fieldLink RX7 18 "OppositeHouse$State" "views" "[I" ∈ WG := wg_t2 (List.mem_of_getElem? (i := 50) rfl) rfl
theorem wm_2_6 : Cond.classLink RX11 67 RX1 ∈ WG := wg_t2 (List.mem_of_getElem? (i := 6) rfl) rfl
theorem wm_2_64 : Cond.classLink RX11 93 RX2 ∈ WG := wg_t2 (List.mem_of_getElem? (i := 64) rfl) rfl
theorem wm_2_65 : Cond.instantiable RX2 2 ∈ WG := wg_t2 (List.mem_of_getElem? (i := 65) rfl) rfl
theorem wm_2_66 : Cond.methodLink RX11 95 yX2_init ∈ WG := wg_t2 (List.mem_of_getElem? (i := 66) rfl) rfl
theorem wm_2_67 : Cond.instanceMethod yX2_init ∈ WG := wg_t2 (List.mem_of_getElem? (i := 67) rfl) rfl
theorem wm_2_68 : Cond.code yX2_init cX2_init 3 none ∈ WG := wg_t2 (List.mem_of_getElem? (i := 68) rfl) rfl
theorem wm_2_69 : Cond.methodLink RX2 3 Lib.objectInit ∈ WG := wg_t2 (List.mem_of_getElem? (i := 69) rfl) rfl
theorem wm_2_7 : Cond.instantiable RX1 5 ∈ WG := wg_t2 (List.mem_of_getElem? (i := 7) rfl) rfl
theorem wm_2_70 : Cond.classLink RX2 15 RX7 ∈ WG := wg_t2 (List.mem_of_getElem? (i := 70) rfl) rfl
theorem wm_2_71 : Cond.methodLink RX2 21 yX7_init ∈ WG := wg_t2 (List.mem_of_getElem? (i := 71) rfl) rfl
theorem wm_2_72 : Cond.fieldLink RX2 9 "OppositeHouse$History" "size" "I" ∈ WG := wg_t2 (List.mem_of_getElem? (i := 72) rfl) rfl
theorem wm_2_73 : Cond.fieldLink RX11 216 "OppositeHouse$History" "size" "I" ∈ WG := wg_t2 (List.mem_of_getElem? (i := 73) rfl) rfl
theorem wm_2_74 : Cond.fieldLink RX2 17 "OppositeHouse$History" "past" "[LOppositeHouse$State;" ∈ WG := wg_t2 (List.mem_of_getElem? (i := 74) rfl) rfl
theorem wm_2_80 : Cond.instantiable RX9 3 ∈ WG := wg_t2 (List.mem_of_getElem? (i := 80) rfl) rfl
theorem wm_2_82 : Cond.instanceMethod yX9_init ∈ WG := wg_t2 (List.mem_of_getElem? (i := 82) rfl) rfl
theorem wm_2_83 : Cond.code yX9_init cX9_init 1 none ∈ WG := wg_t2 (List.mem_of_getElem? (i := 83) rfl) rfl
theorem wm_2_84 : Cond.methodLink RX9 3 Lib.objectInit ∈ WG := wg_t2 (List.mem_of_getElem? (i := 84) rfl) rfl
theorem wm_2_85 : Cond.fieldLink RX9 9 "OppositeHouse$Tray" "sort" "I" ∈ WG := wg_t2 (List.mem_of_getElem? (i := 85) rfl) rfl
theorem wm_2_86 : Cond.fieldLink RX9 15 "OppositeHouse$Tray" "size" "I" ∈ WG := wg_t2 (List.mem_of_getElem? (i := 86) rfl) rfl
theorem wm_2_88 : Cond.fieldLink RX9 18 "OppositeHouse$Tray" "row" "[J" ∈ WG := wg_t2 (List.mem_of_getElem? (i := 88) rfl) rfl
theorem wm_2_9 : Cond.instanceMethod yX1_init ∈ WG := wg_t2 (List.mem_of_getElem? (i := 9) rfl) rfl
theorem wm_2_97 : Cond.arrayClass .long ∈ WG := wg_t2 (List.mem_of_getElem? (i := 97) rfl) rfl
theorem wm_2_98 : Cond.fieldLink RX11 9 "OppositeHouse" "tape" "[B" ∈ WG := wg_t2 (List.mem_of_getElem? (i := 98) rfl) rfl
theorem wm_2_99 : Cond.fieldLink RX11 13 "OppositeHouse" "tapeLength" "I" ∈ WG := wg_t2 (List.mem_of_getElem? (i := 99) rfl) rfl
theorem wm_3_151 : Cond.static arraycopyName ∈ WG := wg_t3 (List.mem_of_getElem? (i := 151) rfl) rfl
theorem wm_3_152 : Cond.native arraycopyName ∈ WG := wg_t3 (List.mem_of_getElem? (i := 152) rfl) rfl
theorem wm_3_161 : Cond.methodLink RX7 32 arraycopyName ∈ WG := wg_t3 (List.mem_of_getElem? (i := 161) rfl) rfl
theorem wm_3_166 : Cond.methodLink RL 23 yX11_fault ∈ WG := wg_t3 (List.mem_of_getElem? (i := 166) rfl) rfl
theorem wm_3_167 : Cond.instanceMethod yX11_fault ∈ WG := wg_t3 (List.mem_of_getElem? (i := 167) rfl) rfl
theorem wm_3_168 : Cond.selects RX11 yX11_fault yX11_fault ∈ WG := wg_t3 (List.mem_of_getElem? (i := 168) rfl) rfl
theorem wm_3_169 : Cond.code yX11_fault cX11_fault 2 (some .int) ∈ WG := wg_t3 (List.mem_of_getElem? (i := 169) rfl) rfl
theorem wm_3_170 : Cond.methodLink RL 27 yX11_person ∈ WG := wg_t3 (List.mem_of_getElem? (i := 170) rfl) rfl
theorem wm_3_171 : Cond.instanceMethod yX11_person ∈ WG := wg_t3 (List.mem_of_getElem? (i := 171) rfl) rfl
theorem wm_3_172 : Cond.selects RX11 yX11_person yX11_person ∈ WG := wg_t3 (List.mem_of_getElem? (i := 172) rfl) rfl
theorem wm_3_173 : Cond.code yX11_person cX11_person 4 (some .int) ∈ WG := wg_t3 (List.mem_of_getElem? (i := 173) rfl) rfl
theorem wm_3_174 : Cond.methodLink RX11 122 yX11_isPerson ∈ WG := wg_t3 (List.mem_of_getElem? (i := 174) rfl) rfl
theorem wm_3_176 : Cond.instanceMethod yX11_isPerson ∈ WG := wg_t3 (List.mem_of_getElem? (i := 176) rfl) rfl
theorem wm_3_177 : Cond.code yX11_isPerson cX11_isPerson 2 (some .boolean) ∈ WG := wg_t3 (List.mem_of_getElem? (i := 177) rfl) rfl
theorem wm_3_179 : Cond.methodLink RX11 155 yX7_inTown ∈ WG := wg_t3 (List.mem_of_getElem? (i := 179) rfl) rfl
theorem wm_3_180 : Cond.instanceMethod yX7_inTown ∈ WG := wg_t3 (List.mem_of_getElem? (i := 180) rfl) rfl
theorem wm_3_181 : Cond.selects RX7 yX7_inTown yX7_inTown ∈ WG := wg_t3 (List.mem_of_getElem? (i := 181) rfl) rfl
theorem wm_3_182 : Cond.code yX7_inTown cX7_inTown 1 (some .int) ∈ WG := wg_t3 (List.mem_of_getElem? (i := 182) rfl) rfl
theorem wm_3_183 : Cond.methodLink RX7 38 yX7_inTownOn ∈ WG := wg_t3 (List.mem_of_getElem? (i := 183) rfl) rfl
theorem wm_3_184 : Cond.instanceMethod yX7_inTownOn ∈ WG := wg_t3 (List.mem_of_getElem? (i := 184) rfl) rfl
theorem wm_3_185 : Cond.selects RX7 yX7_inTownOn yX7_inTownOn ∈ WG := wg_t3 (List.mem_of_getElem? (i := 185) rfl) rfl
theorem wm_3_186 : Cond.code yX7_inTownOn cX7_inTownOn 4 (some .int) ∈ WG := wg_t3 (List.mem_of_getElem? (i := 186) rfl) rfl
theorem wm_3_187 : Cond.methodLink RL 32 yX11_town ∈ WG := wg_t3 (List.mem_of_getElem? (i := 187) rfl) rfl
theorem wm_3_188 : Cond.instanceMethod yX11_town ∈ WG := wg_t3 (List.mem_of_getElem? (i := 188) rfl) rfl
theorem wm_3_189 : Cond.selects RX11 yX11_town yX11_town ∈ WG := wg_t3 (List.mem_of_getElem? (i := 189) rfl) rfl
theorem wm_3_190 : Cond.code yX11_town cX11_town 2 (some .int) ∈ WG := wg_t3 (List.mem_of_getElem? (i := 190) rfl) rfl
theorem wm_3_191 : Cond.methodLink RX11 168 yX7_inTownOn ∈ WG := wg_t3 (List.mem_of_getElem? (i := 191) rfl) rfl
theorem wm_3_192 : Cond.methodLink RL 36 yX11_opposed ∈ WG := wg_t3 (List.mem_of_getElem? (i := 192) rfl) rfl
theorem wm_3_193 : Cond.instanceMethod yX11_opposed ∈ WG := wg_t3 (List.mem_of_getElem? (i := 193) rfl) rfl
theorem wm_3_194 : Cond.selects RX11 yX11_opposed yX11_opposed ∈ WG := wg_t3 (List.mem_of_getElem? (i := 194) rfl) rfl
theorem wm_3_195 : Cond.code yX11_opposed cX11_opposed 3 (some .int) ∈ WG := wg_t3 (List.mem_of_getElem? (i := 195) rfl) rfl
theorem wm_3_223 : Cond.methodLink RL 40 yX11_opposites ∈ WG := wg_t3 (List.mem_of_getElem? (i := 223) rfl) rfl
theorem wm_3_224 : Cond.instanceMethod yX11_opposites ∈ WG := wg_t3 (List.mem_of_getElem? (i := 224) rfl) rfl
theorem wm_3_225 : Cond.selects RX11 yX11_opposites yX11_opposites ∈ WG := wg_t3 (List.mem_of_getElem? (i := 225) rfl) rfl
theorem wm_3_226 : Cond.code yX11_opposites cX11_opposites 2 (some .int) ∈ WG := wg_t3 (List.mem_of_getElem? (i := 226) rfl) rfl
theorem wm_3_232 : Cond.methodLink RL 44 yX11_talk ∈ WG := wg_t3 (List.mem_of_getElem? (i := 232) rfl) rfl
theorem wm_3_233 : Cond.instanceMethod yX11_talk ∈ WG := wg_t3 (List.mem_of_getElem? (i := 233) rfl) rfl
theorem wm_3_234 : Cond.selects RX11 yX11_talk yX11_talk ∈ WG := wg_t3 (List.mem_of_getElem? (i := 234) rfl) rfl
theorem wm_3_235 : Cond.code yX11_talk cX11_talk 4 (some .int) ∈ WG := wg_t3 (List.mem_of_getElem? (i := 235) rfl) rfl
theorem wm_3_236 : Cond.methodLink RX11 180 yX11_areTwoPeople ∈ WG := wg_t3 (List.mem_of_getElem? (i := 236) rfl) rfl
theorem wm_3_238 : Cond.instanceMethod yX11_areTwoPeople ∈ WG := wg_t3 (List.mem_of_getElem? (i := 238) rfl) rfl
theorem wm_3_239 : Cond.code yX11_areTwoPeople cX11_areTwoPeople 3 (some .boolean) ∈ WG := wg_t3 (List.mem_of_getElem? (i := 239) rfl) rfl
theorem wm_3_68 : Cond.methodLink RX5 52 yX5_advance ∈ WG := wg_t3 (List.mem_of_getElem? (i := 68) rfl) rfl
theorem wm_3_70 : Cond.instanceMethod yX5_advance ∈ WG := wg_t3 (List.mem_of_getElem? (i := 70) rfl) rfl
theorem wm_3_71 : Cond.code yX5_advance cX5_advance 1 none ∈ WG := wg_t3 (List.mem_of_getElem? (i := 71) rfl) rfl
theorem wm_3_72 : Cond.methodLink RX5 55 yX5_take ∈ WG := wg_t3 (List.mem_of_getElem? (i := 72) rfl) rfl
theorem wm_3_74 : Cond.instanceMethod yX5_take ∈ WG := wg_t3 (List.mem_of_getElem? (i := 74) rfl) rfl
theorem wm_3_75 : Cond.code yX5_take cX5_take 2 none ∈ WG := wg_t3 (List.mem_of_getElem? (i := 75) rfl) rfl
theorem wm_3_76 : Cond.methodLink RX5 81 yX5_refuse ∈ WG := wg_t3 (List.mem_of_getElem? (i := 76) rfl) rfl
theorem wm_3_78 : Cond.instanceMethod yX5_refuse ∈ WG := wg_t3 (List.mem_of_getElem? (i := 78) rfl) rfl
theorem wm_3_79 : Cond.code yX5_refuse cX5_refuse 2 none ∈ WG := wg_t3 (List.mem_of_getElem? (i := 79) rfl) rfl
theorem wm_3_80 : Cond.methodLink RX5 59 yX5_takeNumber ∈ WG := wg_t3 (List.mem_of_getElem? (i := 80) rfl) rfl
theorem wm_3_82 : Cond.instanceMethod yX5_takeNumber ∈ WG := wg_t3 (List.mem_of_getElem? (i := 82) rfl) rfl
theorem wm_3_83 : Cond.code yX5_takeNumber cX5_takeNumber 4 (some .int) ∈ WG := wg_t3 (List.mem_of_getElem? (i := 83) rfl) rfl
theorem wm_4_10 : Cond.methodLink RX7 55 yX7_whyNoTalk ∈ WG := wg_t4 (List.mem_of_getElem? (i := 10) rfl) rfl
theorem wm_4_100 : Cond.code yX11_townSits cX11_townSits 2 (some .boolean) ∈ WG := wg_t4 (List.mem_of_getElem? (i := 100) rfl) rfl
theorem wm_4_101 : Cond.methodLink RX11 243 yX0_draw ∈ WG := wg_t4 (List.mem_of_getElem? (i := 101) rfl) rfl
theorem wm_4_102 : Cond.instanceMethod yX0_draw ∈ WG := wg_t4 (List.mem_of_getElem? (i := 102) rfl) rfl
theorem wm_4_103 : Cond.selects RX0 yX0_draw yX0_draw ∈ WG := wg_t4 (List.mem_of_getElem? (i := 103) rfl) rfl
theorem wm_4_104 : Cond.code yX0_draw cX0_draw 6 none ∈ WG := wg_t4 (List.mem_of_getElem? (i := 104) rfl) rfl
theorem wm_4_105 : Cond.methodLink RX0 34 yJ7_fill_53178 ∈ WG := wg_t4 (List.mem_of_getElem? (i := 105) rfl) rfl
theorem wm_4_106 : Cond.static yJ7_fill_53178 ∈ WG := wg_t4 (List.mem_of_getElem? (i := 106) rfl) rfl
theorem wm_4_107 : Cond.code yJ7_fill_53178 cJ7_fill_53178 4 none ∈ WG := wg_t4 (List.mem_of_getElem? (i := 107) rfl) rfl
theorem wm_4_109 : Cond.methodLink RX11 247 yX0_canSit ∈ WG := wg_t4 (List.mem_of_getElem? (i := 109) rfl) rfl
theorem wm_4_110 : Cond.instanceMethod yX0_canSit ∈ WG := wg_t4 (List.mem_of_getElem? (i := 110) rfl) rfl
theorem wm_4_111 : Cond.selects RX0 yX0_canSit yX0_canSit ∈ WG := wg_t4 (List.mem_of_getElem? (i := 111) rfl) rfl
theorem wm_4_112 : Cond.code yX0_canSit cX0_canSit 6 (some .boolean) ∈ WG := wg_t4 (List.mem_of_getElem? (i := 112) rfl) rfl
theorem wm_4_116 : Cond.methodLink RX0 49 yJ6_bitCount_0f7a4 ∈ WG := wg_t4 (List.mem_of_getElem? (i := 116) rfl) rfl
theorem wm_4_118 : Cond.methodLink RL 68 yX11_perform ∈ WG := wg_t4 (List.mem_of_getElem? (i := 118) rfl) rfl
theorem wm_4_119 : Cond.instanceMethod yX11_perform ∈ WG := wg_t4 (List.mem_of_getElem? (i := 119) rfl) rfl
theorem wm_4_12 : Cond.instanceMethod yX7_whyNoTalk ∈ WG := wg_t4 (List.mem_of_getElem? (i := 12) rfl) rfl
theorem wm_4_120 : Cond.selects RX11 yX11_perform yX11_perform ∈ WG := wg_t4 (List.mem_of_getElem? (i := 120) rfl) rfl
theorem wm_4_121 : Cond.code yX11_perform cX11_perform 3 (some .int) ∈ WG := wg_t4 (List.mem_of_getElem? (i := 121) rfl) rfl
theorem wm_4_122 : Cond.methodLink RL 72 yX11_year ∈ WG := wg_t4 (List.mem_of_getElem? (i := 122) rfl) rfl
theorem wm_4_123 : Cond.instanceMethod yX11_year ∈ WG := wg_t4 (List.mem_of_getElem? (i := 123) rfl) rfl
theorem wm_4_124 : Cond.selects RX11 yX11_year yX11_year ∈ WG := wg_t4 (List.mem_of_getElem? (i := 124) rfl) rfl
theorem wm_4_125 : Cond.code yX11_year cX11_year 8 (some .int) ∈ WG := wg_t4 (List.mem_of_getElem? (i := 125) rfl) rfl
theorem wm_4_126 : Cond.methodLink RX11 250 yX11_nextDraw ∈ WG := wg_t4 (List.mem_of_getElem? (i := 126) rfl) rfl
theorem wm_4_127 : Cond.static yX11_nextDraw ∈ WG := wg_t4 (List.mem_of_getElem? (i := 127) rfl) rfl
theorem wm_4_128 : Cond.code yX11_nextDraw cX11_nextDraw 1 (some .int) ∈ WG := wg_t4 (List.mem_of_getElem? (i := 128) rfl) rfl
theorem wm_4_129 : Cond.constant RX11 256 (1103515245) ∈ WG := wg_t4 (List.mem_of_getElem? (i := 129) rfl) rfl
theorem wm_4_13 : Cond.code yX7_whyNoTalk cX7_whyNoTalk 4 (some .int) ∈ WG := wg_t4 (List.mem_of_getElem? (i := 13) rfl) rfl
theorem wm_4_130 : Cond.methodLink RX11 253 yX11_drawn ∈ WG := wg_t4 (List.mem_of_getElem? (i := 130) rfl) rfl
theorem wm_4_131 : Cond.static yX11_drawn ∈ WG := wg_t4 (List.mem_of_getElem? (i := 131) rfl) rfl
theorem wm_4_132 : Cond.code yX11_drawn cX11_drawn 1 (some .int) ∈ WG := wg_t4 (List.mem_of_getElem? (i := 132) rfl) rfl
theorem wm_4_133 : Cond.methodLink RL 76 yX11_sits ∈ WG := wg_t4 (List.mem_of_getElem? (i := 133) rfl) rfl
theorem wm_4_134 : Cond.instanceMethod yX11_sits ∈ WG := wg_t4 (List.mem_of_getElem? (i := 134) rfl) rfl
theorem wm_4_135 : Cond.selects RX11 yX11_sits yX11_sits ∈ WG := wg_t4 (List.mem_of_getElem? (i := 135) rfl) rfl
theorem wm_4_136 : Cond.code yX11_sits cX11_sits 2 (some .int) ∈ WG := wg_t4 (List.mem_of_getElem? (i := 136) rfl) rfl
theorem wm_4_137 : Cond.methodLink RX11 257 yX11_isSet ∈ WG := wg_t4 (List.mem_of_getElem? (i := 137) rfl) rfl
theorem wm_4_139 : Cond.instanceMethod yX11_isSet ∈ WG := wg_t4 (List.mem_of_getElem? (i := 139) rfl) rfl
theorem wm_4_140 : Cond.code yX11_isSet cX11_isSet 2 (some .boolean) ∈ WG := wg_t4 (List.mem_of_getElem? (i := 140) rfl) rfl
theorem wm_4_141 : Cond.methodLink RX11 162 yX11_everybody ∈ WG := wg_t4 (List.mem_of_getElem? (i := 141) rfl) rfl
theorem wm_4_143 : Cond.instanceMethod yX11_everybody ∈ WG := wg_t4 (List.mem_of_getElem? (i := 143) rfl) rfl
theorem wm_4_144 : Cond.code yX11_everybody cX11_everybody 1 (some .int) ∈ WG := wg_t4 (List.mem_of_getElem? (i := 144) rfl) rfl
theorem wm_4_145 : Cond.methodLink RX11 260 yX11_drawToday ∈ WG := wg_t4 (List.mem_of_getElem? (i := 145) rfl) rfl
theorem wm_4_147 : Cond.instanceMethod yX11_drawToday ∈ WG := wg_t4 (List.mem_of_getElem? (i := 147) rfl) rfl
theorem wm_4_148 : Cond.code yX11_drawToday cX11_drawToday 1 none ∈ WG := wg_t4 (List.mem_of_getElem? (i := 148) rfl) rfl
theorem wm_4_149 : Cond.methodLink RL 80 yX11_pairs ∈ WG := wg_t4 (List.mem_of_getElem? (i := 149) rfl) rfl
theorem wm_4_15 : Cond.constantLong RX7 59 (110) ∈ WG := wg_t4 (List.mem_of_getElem? (i := 15) rfl) rfl
theorem wm_4_150 : Cond.instanceMethod yX11_pairs ∈ WG := wg_t4 (List.mem_of_getElem? (i := 150) rfl) rfl
theorem wm_4_151 : Cond.selects RX11 yX11_pairs yX11_pairs ∈ WG := wg_t4 (List.mem_of_getElem? (i := 151) rfl) rfl
theorem wm_4_152 : Cond.code yX11_pairs cX11_pairs 3 (some .int) ∈ WG := wg_t4 (List.mem_of_getElem? (i := 152) rfl) rfl
theorem wm_4_153 : Cond.methodLink RX11 263 yX0_weighPairs ∈ WG := wg_t4 (List.mem_of_getElem? (i := 153) rfl) rfl
theorem wm_4_154 : Cond.instanceMethod yX0_weighPairs ∈ WG := wg_t4 (List.mem_of_getElem? (i := 154) rfl) rfl
theorem wm_4_155 : Cond.selects RX0 yX0_weighPairs yX0_weighPairs ∈ WG := wg_t4 (List.mem_of_getElem? (i := 155) rfl) rfl
theorem wm_4_156 : Cond.code yX0_weighPairs cX0_weighPairs 7 none ∈ WG := wg_t4 (List.mem_of_getElem? (i := 156) rfl) rfl
theorem wm_4_16 : Cond.constantLong RX7 61 (200) ∈ WG := wg_t4 (List.mem_of_getElem? (i := 16) rfl) rfl
theorem wm_4_162 : Cond.methodLink RX11 267 yX0_twosOf ∈ WG := wg_t4 (List.mem_of_getElem? (i := 162) rfl) rfl
theorem wm_4_163 : Cond.instanceMethod yX0_twosOf ∈ WG := wg_t4 (List.mem_of_getElem? (i := 163) rfl) rfl
theorem wm_4_164 : Cond.selects RX0 yX0_twosOf yX0_twosOf ∈ WG := wg_t4 (List.mem_of_getElem? (i := 164) rfl) rfl
theorem wm_4_165 : Cond.code yX0_twosOf cX0_twosOf 2 (some .int) ∈ WG := wg_t4 (List.mem_of_getElem? (i := 165) rfl) rfl
theorem wm_4_166 : Cond.methodLink RX11 270 yX0_weightOf ∈ WG := wg_t4 (List.mem_of_getElem? (i := 166) rfl) rfl
theorem wm_4_167 : Cond.instanceMethod yX0_weightOf ∈ WG := wg_t4 (List.mem_of_getElem? (i := 167) rfl) rfl
theorem wm_4_168 : Cond.selects RX0 yX0_weightOf yX0_weightOf ∈ WG := wg_t4 (List.mem_of_getElem? (i := 168) rfl) rfl
theorem wm_4_169 : Cond.code yX0_weightOf cX0_weightOf 2 (some .int) ∈ WG := wg_t4 (List.mem_of_getElem? (i := 169) rfl) rfl
theorem wm_4_17 : Cond.constantLong RX7 63 (210) ∈ WG := wg_t4 (List.mem_of_getElem? (i := 17) rfl) rfl
theorem wm_4_178 : Cond.methodLink RL 84 yX11_ways ∈ WG := wg_t4 (List.mem_of_getElem? (i := 178) rfl) rfl
theorem wm_4_179 : Cond.instanceMethod yX11_ways ∈ WG := wg_t4 (List.mem_of_getElem? (i := 179) rfl) rfl
theorem wm_4_18 : Cond.methodLink RX11 202 yX7_takeFrom ∈ WG := wg_t4 (List.mem_of_getElem? (i := 18) rfl) rfl
theorem wm_4_180 : Cond.selects RX11 yX11_ways yX11_ways ∈ WG := wg_t4 (List.mem_of_getElem? (i := 180) rfl) rfl
theorem wm_4_181 : Cond.code yX11_ways cX11_ways 2 (some .int) ∈ WG := wg_t4 (List.mem_of_getElem? (i := 181) rfl) rfl
theorem wm_4_182 : Cond.methodLink RX11 277 yX0_countPartings ∈ WG := wg_t4 (List.mem_of_getElem? (i := 182) rfl) rfl
theorem wm_4_183 : Cond.instanceMethod yX0_countPartings ∈ WG := wg_t4 (List.mem_of_getElem? (i := 183) rfl) rfl
theorem wm_4_184 : Cond.selects RX0 yX0_countPartings yX0_countPartings ∈ WG := wg_t4 (List.mem_of_getElem? (i := 184) rfl) rfl
theorem wm_4_185 : Cond.code yX0_countPartings cX0_countPartings 6 none ∈ WG := wg_t4 (List.mem_of_getElem? (i := 185) rfl) rfl
theorem wm_4_186 : Cond.methodLink RL 88 yX11_bar ∈ WG := wg_t4 (List.mem_of_getElem? (i := 186) rfl) rfl
theorem wm_4_187 : Cond.instanceMethod yX11_bar ∈ WG := wg_t4 (List.mem_of_getElem? (i := 187) rfl) rfl
theorem wm_4_188 : Cond.selects RX11 yX11_bar yX11_bar ∈ WG := wg_t4 (List.mem_of_getElem? (i := 188) rfl) rfl
theorem wm_4_189 : Cond.code yX11_bar cX11_bar 4 (some .int) ∈ WG := wg_t4 (List.mem_of_getElem? (i := 189) rfl) rfl
theorem wm_4_19 : Cond.instanceMethod yX7_takeFrom ∈ WG := wg_t4 (List.mem_of_getElem? (i := 19) rfl) rfl
theorem wm_4_190 : Cond.methodLink RX11 283 yX0_leastBar ∈ WG := wg_t4 (List.mem_of_getElem? (i := 190) rfl) rfl
theorem wm_4_191 : Cond.instanceMethod yX0_leastBar ∈ WG := wg_t4 (List.mem_of_getElem? (i := 191) rfl) rfl
theorem wm_4_192 : Cond.selects RX0 yX0_leastBar yX0_leastBar ∈ WG := wg_t4 (List.mem_of_getElem? (i := 192) rfl) rfl
theorem wm_4_193 : Cond.code yX0_leastBar cX0_leastBar 7 (some .int) ∈ WG := wg_t4 (List.mem_of_getElem? (i := 193) rfl) rfl
theorem wm_4_194 : Cond.methodLink RX0 79 yX0_twosOf ∈ WG := wg_t4 (List.mem_of_getElem? (i := 194) rfl) rfl
theorem wm_4_195 : Cond.methodLink RX0 82 yX0_countPieces ∈ WG := wg_t4 (List.mem_of_getElem? (i := 195) rfl) rfl
theorem wm_4_196 : Cond.instanceMethod yX0_countPieces ∈ WG := wg_t4 (List.mem_of_getElem? (i := 196) rfl) rfl
theorem wm_4_197 : Cond.selects RX0 yX0_countPieces yX0_countPieces ∈ WG := wg_t4 (List.mem_of_getElem? (i := 197) rfl) rfl
theorem wm_4_198 : Cond.code yX0_countPieces cX0_countPieces 7 (some .int) ∈ WG := wg_t4 (List.mem_of_getElem? (i := 198) rfl) rfl
theorem wm_4_20 : Cond.selects RX7 yX7_takeFrom yX7_takeFrom ∈ WG := wg_t4 (List.mem_of_getElem? (i := 20) rfl) rfl
theorem wm_4_203 : Cond.methodLink RL 92 yX11_pieces ∈ WG := wg_t4 (List.mem_of_getElem? (i := 203) rfl) rfl
theorem wm_4_204 : Cond.instanceMethod yX11_pieces ∈ WG := wg_t4 (List.mem_of_getElem? (i := 204) rfl) rfl
theorem wm_4_205 : Cond.selects RX11 yX11_pieces yX11_pieces ∈ WG := wg_t4 (List.mem_of_getElem? (i := 205) rfl) rfl
theorem wm_4_206 : Cond.code yX11_pieces cX11_pieces 2 (some .int) ∈ WG := wg_t4 (List.mem_of_getElem? (i := 206) rfl) rfl
theorem wm_4_207 : Cond.methodLink RX11 286 yX0_countPieces ∈ WG := wg_t4 (List.mem_of_getElem? (i := 207) rfl) rfl
theorem wm_4_208 : Cond.methodLink RL 96 yX11_bestDay ∈ WG := wg_t4 (List.mem_of_getElem? (i := 208) rfl) rfl
theorem wm_4_209 : Cond.instanceMethod yX11_bestDay ∈ WG := wg_t4 (List.mem_of_getElem? (i := 209) rfl) rfl
theorem wm_4_21 : Cond.code yX7_takeFrom cX7_takeFrom 2 none ∈ WG := wg_t4 (List.mem_of_getElem? (i := 21) rfl) rfl
theorem wm_4_210 : Cond.selects RX11 yX11_bestDay yX11_bestDay ∈ WG := wg_t4 (List.mem_of_getElem? (i := 210) rfl) rfl
theorem wm_4_211 : Cond.code yX11_bestDay cX11_bestDay 6 (some .int) ∈ WG := wg_t4 (List.mem_of_getElem? (i := 211) rfl) rfl
theorem wm_4_212 : Cond.methodLink RL 101 yX11_firstDay ∈ WG := wg_t4 (List.mem_of_getElem? (i := 212) rfl) rfl
theorem wm_4_213 : Cond.instanceMethod yX11_firstDay ∈ WG := wg_t4 (List.mem_of_getElem? (i := 213) rfl) rfl
theorem wm_4_214 : Cond.selects RX11 yX11_firstDay yX11_firstDay ∈ WG := wg_t4 (List.mem_of_getElem? (i := 214) rfl) rfl
theorem wm_4_215 : Cond.code yX11_firstDay cX11_firstDay 5 (some .int) ∈ WG := wg_t4 (List.mem_of_getElem? (i := 215) rfl) rfl
theorem wm_4_216 : Cond.methodLink RL 105 yX11_quorum ∈ WG := wg_t4 (List.mem_of_getElem? (i := 216) rfl) rfl
theorem wm_4_217 : Cond.instanceMethod yX11_quorum ∈ WG := wg_t4 (List.mem_of_getElem? (i := 217) rfl) rfl
theorem wm_4_218 : Cond.selects RX11 yX11_quorum yX11_quorum ∈ WG := wg_t4 (List.mem_of_getElem? (i := 218) rfl) rfl
theorem wm_4_219 : Cond.code yX11_quorum cX11_quorum 4 (some .int) ∈ WG := wg_t4 (List.mem_of_getElem? (i := 219) rfl) rfl
theorem wm_4_22 : Cond.methodLink RX11 206 yX7_carryOut ∈ WG := wg_t4 (List.mem_of_getElem? (i := 22) rfl) rfl
theorem wm_4_220 : Cond.methodLink RL 109 yX11_cover ∈ WG := wg_t4 (List.mem_of_getElem? (i := 220) rfl) rfl
theorem wm_4_221 : Cond.instanceMethod yX11_cover ∈ WG := wg_t4 (List.mem_of_getElem? (i := 221) rfl) rfl
theorem wm_4_222 : Cond.selects RX11 yX11_cover yX11_cover ∈ WG := wg_t4 (List.mem_of_getElem? (i := 222) rfl) rfl
theorem wm_4_223 : Cond.code yX11_cover cX11_cover 3 (some .int) ∈ WG := wg_t4 (List.mem_of_getElem? (i := 223) rfl) rfl
theorem wm_4_224 : Cond.methodLink RX11 290 yX0_leastCover ∈ WG := wg_t4 (List.mem_of_getElem? (i := 224) rfl) rfl
theorem wm_4_225 : Cond.instanceMethod yX0_leastCover ∈ WG := wg_t4 (List.mem_of_getElem? (i := 225) rfl) rfl
theorem wm_4_226 : Cond.selects RX0 yX0_leastCover yX0_leastCover ∈ WG := wg_t4 (List.mem_of_getElem? (i := 226) rfl) rfl
theorem wm_4_227 : Cond.code yX0_leastCover cX0_leastCover 6 (some .int) ∈ WG := wg_t4 (List.mem_of_getElem? (i := 227) rfl) rfl
theorem wm_4_228 : Cond.methodLink RX0 86 yX0_opposeAllOf ∈ WG := wg_t4 (List.mem_of_getElem? (i := 228) rfl) rfl
theorem wm_4_23 : Cond.instanceMethod yX7_carryOut ∈ WG := wg_t4 (List.mem_of_getElem? (i := 23) rfl) rfl
theorem wm_4_230 : Cond.instanceMethod yX0_opposeAllOf ∈ WG := wg_t4 (List.mem_of_getElem? (i := 230) rfl) rfl
theorem wm_4_231 : Cond.code yX0_opposeAllOf cX0_opposeAllOf 4 (some .boolean) ∈ WG := wg_t4 (List.mem_of_getElem? (i := 231) rfl) rfl
theorem wm_4_232 : Cond.methodLink RX11 293 yX11_numberOrSet ∈ WG := wg_t4 (List.mem_of_getElem? (i := 232) rfl) rfl
theorem wm_4_233 : Cond.static yX11_numberOrSet ∈ WG := wg_t4 (List.mem_of_getElem? (i := 233) rfl) rfl
theorem wm_4_234 : Cond.code yX11_numberOrSet cX11_numberOrSet 2 (some .int) ∈ WG := wg_t4 (List.mem_of_getElem? (i := 234) rfl) rfl
theorem wm_4_235 : Cond.methodLink RL 113 yX11_laundress ∈ WG := wg_t4 (List.mem_of_getElem? (i := 235) rfl) rfl
theorem wm_4_236 : Cond.instanceMethod yX11_laundress ∈ WG := wg_t4 (List.mem_of_getElem? (i := 236) rfl) rfl
theorem wm_4_237 : Cond.selects RX11 yX11_laundress yX11_laundress ∈ WG := wg_t4 (List.mem_of_getElem? (i := 237) rfl) rfl
theorem wm_4_238 : Cond.code yX11_laundress cX11_laundress 7 (some .int) ∈ WG := wg_t4 (List.mem_of_getElem? (i := 238) rfl) rfl
theorem wm_4_239 : Cond.methodLink RL 117 yX11_talks ∈ WG := wg_t4 (List.mem_of_getElem? (i := 239) rfl) rfl
theorem wm_4_24 : Cond.selects RX7 yX7_carryOut yX7_carryOut ∈ WG := wg_t4 (List.mem_of_getElem? (i := 24) rfl) rfl
theorem wm_4_25 : Cond.code yX7_carryOut cX7_carryOut 5 none ∈ WG := wg_t4 (List.mem_of_getElem? (i := 25) rfl) rfl
theorem wm_4_39 : Cond.methodLink RX11 210 yX11_remember ∈ WG := wg_t4 (List.mem_of_getElem? (i := 39) rfl) rfl
theorem wm_4_4 : Cond.methodLink RX11 198 yX7_whyNot ∈ WG := wg_t4 (List.mem_of_getElem? (i := 4) rfl) rfl
theorem wm_4_41 : Cond.instanceMethod yX11_remember ∈ WG := wg_t4 (List.mem_of_getElem? (i := 41) rfl) rfl
theorem wm_4_42 : Cond.code yX11_remember cX11_remember 1 none ∈ WG := wg_t4 (List.mem_of_getElem? (i := 42) rfl) rfl
theorem wm_4_43 : Cond.methodLink RX11 213 yX2_add ∈ WG := wg_t4 (List.mem_of_getElem? (i := 43) rfl) rfl
theorem wm_4_44 : Cond.instanceMethod yX2_add ∈ WG := wg_t4 (List.mem_of_getElem? (i := 44) rfl) rfl
theorem wm_4_45 : Cond.selects RX2 yX2_add yX2_add ∈ WG := wg_t4 (List.mem_of_getElem? (i := 45) rfl) rfl
theorem wm_4_46 : Cond.code yX2_add cX2_add 4 none ∈ WG := wg_t4 (List.mem_of_getElem? (i := 46) rfl) rfl
theorem wm_4_47 : Cond.methodLink RX2 24 yX7_takeFrom ∈ WG := wg_t4 (List.mem_of_getElem? (i := 47) rfl) rfl
theorem wm_4_49 : Cond.methodLink RL 48 yX11_send ∈ WG := wg_t4 (List.mem_of_getElem? (i := 49) rfl) rfl
theorem wm_4_5 : Cond.instanceMethod yX7_whyNot ∈ WG := wg_t4 (List.mem_of_getElem? (i := 5) rfl) rfl
theorem wm_4_50 : Cond.instanceMethod yX11_send ∈ WG := wg_t4 (List.mem_of_getElem? (i := 50) rfl) rfl
theorem wm_4_51 : Cond.selects RX11 yX11_send yX11_send ∈ WG := wg_t4 (List.mem_of_getElem? (i := 51) rfl) rfl
theorem wm_4_52 : Cond.code yX11_send cX11_send 2 (some .int) ∈ WG := wg_t4 (List.mem_of_getElem? (i := 52) rfl) rfl
theorem wm_4_53 : Cond.methodLink RX11 190 yX11_sendOrCall ∈ WG := wg_t4 (List.mem_of_getElem? (i := 53) rfl) rfl
theorem wm_4_55 : Cond.instanceMethod yX11_sendOrCall ∈ WG := wg_t4 (List.mem_of_getElem? (i := 55) rfl) rfl
theorem wm_4_56 : Cond.code yX11_sendOrCall cX11_sendOrCall 4 (some .int) ∈ WG := wg_t4 (List.mem_of_getElem? (i := 56) rfl) rfl
theorem wm_4_57 : Cond.methodLink RX11 193 yJ6_bitCount_0f7a4 ∈ WG := wg_t4 (List.mem_of_getElem? (i := 57) rfl) rfl
theorem wm_4_58 : Cond.static yJ6_bitCount_0f7a4 ∈ WG := wg_t4 (List.mem_of_getElem? (i := 58) rfl) rfl
theorem wm_4_59 : Cond.code yJ6_bitCount_0f7a4 cJ6_bitCount_0f7a4 1 (some .int) ∈ WG := wg_t4 (List.mem_of_getElem? (i := 59) rfl) rfl
theorem wm_4_6 : Cond.selects RX7 yX7_whyNot yX7_whyNot ∈ WG := wg_t4 (List.mem_of_getElem? (i := 6) rfl) rfl
theorem wm_4_60 : Cond.constant RJ6 265 (1431655765) ∈ WG := wg_t4 (List.mem_of_getElem? (i := 60) rfl) rfl
theorem wm_4_61 : Cond.constant RJ6 266 (858993459) ∈ WG := wg_t4 (List.mem_of_getElem? (i := 61) rfl) rfl
theorem wm_4_62 : Cond.constant RJ6 267 (252645135) ∈ WG := wg_t4 (List.mem_of_getElem? (i := 62) rfl) rfl
theorem wm_4_63 : Cond.methodLink RL 52 yX11_call ∈ WG := wg_t4 (List.mem_of_getElem? (i := 63) rfl) rfl
theorem wm_4_64 : Cond.instanceMethod yX11_call ∈ WG := wg_t4 (List.mem_of_getElem? (i := 64) rfl) rfl
theorem wm_4_65 : Cond.selects RX11 yX11_call yX11_call ∈ WG := wg_t4 (List.mem_of_getElem? (i := 65) rfl) rfl
theorem wm_4_66 : Cond.code yX11_call cX11_call 2 (some .int) ∈ WG := wg_t4 (List.mem_of_getElem? (i := 66) rfl) rfl
theorem wm_4_67 : Cond.methodLink RL 56 yX11_days ∈ WG := wg_t4 (List.mem_of_getElem? (i := 67) rfl) rfl
theorem wm_4_68 : Cond.instanceMethod yX11_days ∈ WG := wg_t4 (List.mem_of_getElem? (i := 68) rfl) rfl
theorem wm_4_69 : Cond.selects RX11 yX11_days yX11_days ∈ WG := wg_t4 (List.mem_of_getElem? (i := 69) rfl) rfl
theorem wm_4_7 : Cond.code yX7_whyNot cX7_whyNot 6 (some .int) ∈ WG := wg_t4 (List.mem_of_getElem? (i := 7) rfl) rfl
theorem wm_4_70 : Cond.code yX11_days cX11_days 2 (some .int) ∈ WG := wg_t4 (List.mem_of_getElem? (i := 70) rfl) rfl
theorem wm_4_71 : Cond.methodLink RL 60 yX11_undo ∈ WG := wg_t4 (List.mem_of_getElem? (i := 71) rfl) rfl
theorem wm_4_72 : Cond.instanceMethod yX11_undo ∈ WG := wg_t4 (List.mem_of_getElem? (i := 72) rfl) rfl
theorem wm_4_73 : Cond.selects RX11 yX11_undo yX11_undo ∈ WG := wg_t4 (List.mem_of_getElem? (i := 73) rfl) rfl
theorem wm_4_74 : Cond.code yX11_undo cX11_undo 2 (some .int) ∈ WG := wg_t4 (List.mem_of_getElem? (i := 74) rfl) rfl
theorem wm_4_79 : Cond.methodLink RL 64 yX11_judge ∈ WG := wg_t4 (List.mem_of_getElem? (i := 79) rfl) rfl
theorem wm_4_8 : Cond.constantLong RX7 51 (-1) ∈ WG := wg_t4 (List.mem_of_getElem? (i := 8) rfl) rfl
theorem wm_4_80 : Cond.instanceMethod yX11_judge ∈ WG := wg_t4 (List.mem_of_getElem? (i := 80) rfl) rfl
theorem wm_4_81 : Cond.selects RX11 yX11_judge yX11_judge ∈ WG := wg_t4 (List.mem_of_getElem? (i := 81) rfl) rfl
theorem wm_4_82 : Cond.code yX11_judge cX11_judge 5 (some .int) ∈ WG := wg_t4 (List.mem_of_getElem? (i := 82) rfl) rfl
theorem wm_4_83 : Cond.methodLink RX11 223 yX11_isTray ∈ WG := wg_t4 (List.mem_of_getElem? (i := 83) rfl) rfl
theorem wm_4_85 : Cond.instanceMethod yX11_isTray ∈ WG := wg_t4 (List.mem_of_getElem? (i := 85) rfl) rfl
theorem wm_4_86 : Cond.code yX11_isTray cX11_isTray 2 (some .boolean) ∈ WG := wg_t4 (List.mem_of_getElem? (i := 86) rfl) rfl
theorem wm_4_87 : Cond.methodLink RX11 226 yX9_isMissing ∈ WG := wg_t4 (List.mem_of_getElem? (i := 87) rfl) rfl
theorem wm_4_88 : Cond.instanceMethod yX9_isMissing ∈ WG := wg_t4 (List.mem_of_getElem? (i := 88) rfl) rfl
theorem wm_4_89 : Cond.selects RX9 yX9_isMissing yX9_isMissing ∈ WG := wg_t4 (List.mem_of_getElem? (i := 89) rfl) rfl
theorem wm_4_9 : Cond.constantLong RX7 53 (100) ∈ WG := wg_t4 (List.mem_of_getElem? (i := 9) rfl) rfl
theorem wm_4_90 : Cond.code yX9_isMissing cX9_isMissing 1 (some .boolean) ∈ WG := wg_t4 (List.mem_of_getElem? (i := 90) rfl) rfl
theorem wm_4_97 : Cond.methodLink RX11 239 yX11_townSits ∈ WG := wg_t4 (List.mem_of_getElem? (i := 97) rfl) rfl
theorem wm_4_99 : Cond.instanceMethod yX11_townSits ∈ WG := wg_t4 (List.mem_of_getElem? (i := 99) rfl) rfl
theorem wm_5_0 : Cond.instanceMethod yX11_talks ∈ WG := wg_t5 (List.mem_of_getElem? (i := 0) rfl) rfl
theorem wm_5_1 : Cond.selects RX11 yX11_talks yX11_talks ∈ WG := wg_t5 (List.mem_of_getElem? (i := 1) rfl) rfl
theorem wm_5_102 : Cond.methodLink RL 158 yX11_chance ∈ WG := wg_t5 (List.mem_of_getElem? (i := 102) rfl) rfl
theorem wm_5_103 : Cond.instanceMethod yX11_chance ∈ WG := wg_t5 (List.mem_of_getElem? (i := 103) rfl) rfl
theorem wm_5_104 : Cond.selects RX11 yX11_chance yX11_chance ∈ WG := wg_t5 (List.mem_of_getElem? (i := 104) rfl) rfl
theorem wm_5_105 : Cond.code yX11_chance cX11_chance 9 (some .long) ∈ WG := wg_t5 (List.mem_of_getElem? (i := 105) rfl) rfl
theorem wm_5_106 : Cond.constantLong RX11 343 (-2) ∈ WG := wg_t5 (List.mem_of_getElem? (i := 106) rfl) rfl
theorem wm_5_107 : Cond.constantLong RX11 345 (-3) ∈ WG := wg_t5 (List.mem_of_getElem? (i := 107) rfl) rfl
theorem wm_5_108 : Cond.methodLink RX11 347 yX0_shareOf ∈ WG := wg_t5 (List.mem_of_getElem? (i := 108) rfl) rfl
theorem wm_5_109 : Cond.instanceMethod yX0_shareOf ∈ WG := wg_t5 (List.mem_of_getElem? (i := 109) rfl) rfl
theorem wm_5_110 : Cond.selects RX0 yX0_shareOf yX0_shareOf ∈ WG := wg_t5 (List.mem_of_getElem? (i := 110) rfl) rfl
theorem wm_5_111 : Cond.code yX0_shareOf cX0_shareOf 9 (some .long) ∈ WG := wg_t5 (List.mem_of_getElem? (i := 111) rfl) rfl
theorem wm_5_112 : Cond.constantLong RX11 351 (10) ∈ WG := wg_t5 (List.mem_of_getElem? (i := 112) rfl) rfl
theorem wm_5_113 : Cond.methodLink RX11 353 yX11_commonDivisor ∈ WG := wg_t5 (List.mem_of_getElem? (i := 113) rfl) rfl
theorem wm_5_114 : Cond.static yX11_commonDivisor ∈ WG := wg_t5 (List.mem_of_getElem? (i := 114) rfl) rfl
theorem wm_5_115 : Cond.code yX11_commonDivisor cX11_commonDivisor 11 (some .long) ∈ WG := wg_t5 (List.mem_of_getElem? (i := 115) rfl) rfl
theorem wm_5_116 : Cond.methodLink RL 163 yX11_reserve ∈ WG := wg_t5 (List.mem_of_getElem? (i := 116) rfl) rfl
theorem wm_5_117 : Cond.instanceMethod yX11_reserve ∈ WG := wg_t5 (List.mem_of_getElem? (i := 117) rfl) rfl
theorem wm_5_118 : Cond.selects RX11 yX11_reserve yX11_reserve ∈ WG := wg_t5 (List.mem_of_getElem? (i := 118) rfl) rfl
theorem wm_5_119 : Cond.code yX11_reserve cX11_reserve 9 (some .int) ∈ WG := wg_t5 (List.mem_of_getElem? (i := 119) rfl) rfl
theorem wm_5_120 : Cond.methodLink RL 167 yX11_numbers ∈ WG := wg_t5 (List.mem_of_getElem? (i := 120) rfl) rfl
theorem wm_5_121 : Cond.instanceMethod yX11_numbers ∈ WG := wg_t5 (List.mem_of_getElem? (i := 121) rfl) rfl
theorem wm_5_122 : Cond.selects RX11 yX11_numbers yX11_numbers ∈ WG := wg_t5 (List.mem_of_getElem? (i := 122) rfl) rfl
theorem wm_5_123 : Cond.code yX11_numbers cX11_numbers 4 (some .int) ∈ WG := wg_t5 (List.mem_of_getElem? (i := 123) rfl) rfl
theorem wm_5_124 : Cond.methodLink RX11 357 yX9_lay ∈ WG := wg_t5 (List.mem_of_getElem? (i := 124) rfl) rfl
theorem wm_5_125 : Cond.instanceMethod yX9_lay ∈ WG := wg_t5 (List.mem_of_getElem? (i := 125) rfl) rfl
theorem wm_5_126 : Cond.selects RX9 yX9_lay yX9_lay ∈ WG := wg_t5 (List.mem_of_getElem? (i := 126) rfl) rfl
theorem wm_5_127 : Cond.code yX9_lay cX9_lay 3 none ∈ WG := wg_t5 (List.mem_of_getElem? (i := 127) rfl) rfl
theorem wm_5_128 : Cond.methodLink RX9 22 yJ7_fill_d0a16 ∈ WG := wg_t5 (List.mem_of_getElem? (i := 128) rfl) rfl
theorem wm_5_129 : Cond.static yJ7_fill_d0a16 ∈ WG := wg_t5 (List.mem_of_getElem? (i := 129) rfl) rfl
theorem wm_5_130 : Cond.code yJ7_fill_d0a16 cJ7_fill_d0a16 5 none ∈ WG := wg_t5 (List.mem_of_getElem? (i := 130) rfl) rfl
theorem wm_5_131 : Cond.methodLink RL 173 yX11_write ∈ WG := wg_t5 (List.mem_of_getElem? (i := 131) rfl) rfl
theorem wm_5_132 : Cond.instanceMethod yX11_write ∈ WG := wg_t5 (List.mem_of_getElem? (i := 132) rfl) rfl
theorem wm_5_133 : Cond.selects RX11 yX11_write yX11_write ∈ WG := wg_t5 (List.mem_of_getElem? (i := 133) rfl) rfl
theorem wm_5_134 : Cond.code yX11_write cX11_write 6 (some .long) ∈ WG := wg_t5 (List.mem_of_getElem? (i := 134) rfl) rfl
theorem wm_5_135 : Cond.constantLong RX11 360 (-6) ∈ WG := wg_t5 (List.mem_of_getElem? (i := 135) rfl) rfl
theorem wm_5_141 : Cond.methodLink RL 178 yX11_lists ∈ WG := wg_t5 (List.mem_of_getElem? (i := 141) rfl) rfl
theorem wm_5_142 : Cond.instanceMethod yX11_lists ∈ WG := wg_t5 (List.mem_of_getElem? (i := 142) rfl) rfl
theorem wm_5_143 : Cond.selects RX11 yX11_lists yX11_lists ∈ WG := wg_t5 (List.mem_of_getElem? (i := 143) rfl) rfl
theorem wm_5_144 : Cond.code yX11_lists cX11_lists 7 (some .int) ∈ WG := wg_t5 (List.mem_of_getElem? (i := 144) rfl) rfl
theorem wm_5_145 : Cond.methodLink RL 182 yX11_image ∈ WG := wg_t5 (List.mem_of_getElem? (i := 145) rfl) rfl
theorem wm_5_146 : Cond.instanceMethod yX11_image ∈ WG := wg_t5 (List.mem_of_getElem? (i := 146) rfl) rfl
theorem wm_5_147 : Cond.selects RX11 yX11_image yX11_image ∈ WG := wg_t5 (List.mem_of_getElem? (i := 147) rfl) rfl
theorem wm_5_148 : Cond.code yX11_image cX11_image 2 (some .int) ∈ WG := wg_t5 (List.mem_of_getElem? (i := 148) rfl) rfl
theorem wm_5_149 : Cond.methodLink RL 186 yX11_restore ∈ WG := wg_t5 (List.mem_of_getElem? (i := 149) rfl) rfl
theorem wm_5_150 : Cond.instanceMethod yX11_restore ∈ WG := wg_t5 (List.mem_of_getElem? (i := 150) rfl) rfl
theorem wm_5_151 : Cond.selects RX11 yX11_restore yX11_restore ∈ WG := wg_t5 (List.mem_of_getElem? (i := 151) rfl) rfl
theorem wm_5_152 : Cond.code yX11_restore cX11_restore 2 (some .int) ∈ WG := wg_t5 (List.mem_of_getElem? (i := 152) rfl) rfl
theorem wm_5_153 : Cond.methodLink RL 190 yX11_count ∈ WG := wg_t5 (List.mem_of_getElem? (i := 153) rfl) rfl
theorem wm_5_154 : Cond.instanceMethod yX11_count ∈ WG := wg_t5 (List.mem_of_getElem? (i := 154) rfl) rfl
theorem wm_5_155 : Cond.selects RX11 yX11_count yX11_count ∈ WG := wg_t5 (List.mem_of_getElem? (i := 155) rfl) rfl
theorem wm_5_156 : Cond.code yX11_count cX11_count 2 (some .int) ∈ WG := wg_t5 (List.mem_of_getElem? (i := 156) rfl) rfl
theorem wm_5_157 : Cond.methodLink RX11 371 yX11_opposedTwos ∈ WG := wg_t5 (List.mem_of_getElem? (i := 157) rfl) rfl
theorem wm_5_159 : Cond.instanceMethod yX11_opposedTwos ∈ WG := wg_t5 (List.mem_of_getElem? (i := 159) rfl) rfl
theorem wm_5_160 : Cond.code yX11_opposedTwos cX11_opposedTwos 3 (some .int) ∈ WG := wg_t5 (List.mem_of_getElem? (i := 160) rfl) rfl
theorem wm_5_161 : Cond.classLink RL 10 RX12 ∈ WG := wg_t5 (List.mem_of_getElem? (i := 161) rfl) rfl
theorem wm_5_162 : Cond.instantiable RX12 37 ∈ WG := wg_t5 (List.mem_of_getElem? (i := 162) rfl) rfl
theorem wm_5_163 : Cond.methodLink RL 12 yX12_init ∈ WG := wg_t5 (List.mem_of_getElem? (i := 163) rfl) rfl
theorem wm_5_164 : Cond.instanceMethod yX12_init ∈ WG := wg_t5 (List.mem_of_getElem? (i := 164) rfl) rfl
theorem wm_5_165 : Cond.code yX12_init cX12_init 1 none ∈ WG := wg_t5 (List.mem_of_getElem? (i := 165) rfl) rfl
theorem wm_5_166 : Cond.methodLink RX12 7 Lib.objectInit ∈ WG := wg_t5 (List.mem_of_getElem? (i := 166) rfl) rfl
theorem wm_5_167 : Cond.methodLink RX12 79 yX12_plain ∈ WG := wg_t5 (List.mem_of_getElem? (i := 167) rfl) rfl
theorem wm_5_168 : Cond.static yX12_plain ∈ WG := wg_t5 (List.mem_of_getElem? (i := 168) rfl) rfl
theorem wm_5_169 : Cond.code yX12_plain cX12_plain 2 none ∈ WG := wg_t5 (List.mem_of_getElem? (i := 169) rfl) rfl
theorem wm_5_170 : Cond.fieldLink RX12 1 "OppositeHouseModel" "thrown" "I" ∈ WG := wg_t5 (List.mem_of_getElem? (i := 170) rfl) rfl
theorem wm_5_171 : Cond.fieldLink RX12 13 "OppositeHouseModel" "all" "[I" ∈ WG := wg_t5 (List.mem_of_getElem? (i := 171) rfl) rfl
theorem wm_5_172 : Cond.fieldLink RX12 17 "OppositeHouseModel" "hasImage" "[Z" ∈ WG := wg_t5 (List.mem_of_getElem? (i := 172) rfl) rfl
theorem wm_5_173 : Cond.fieldLink RX12 21 "OppositeHouseModel" "tape" "[I" ∈ WG := wg_t5 (List.mem_of_getElem? (i := 173) rfl) rfl
theorem wm_5_174 : Cond.fieldLink RX12 24 "OppositeHouseModel" "fresh" "[I" ∈ WG := wg_t5 (List.mem_of_getElem? (i := 174) rfl) rfl
theorem wm_5_175 : Cond.fieldLink RX12 83 "OppositeHouseModel" "taped" "I" ∈ WG := wg_t5 (List.mem_of_getElem? (i := 175) rfl) rfl
theorem wm_5_176 : Cond.fieldLink RX12 101 "OppositeHouseModel" "at" "I" ∈ WG := wg_t5 (List.mem_of_getElem? (i := 176) rfl) rfl
theorem wm_5_177 : Cond.fieldLink RX12 104 "OppositeHouseModel" "behind" "I" ∈ WG := wg_t5 (List.mem_of_getElem? (i := 177) rfl) rfl
theorem wm_5_178 : Cond.fieldLink RX12 86 "OppositeHouseModel" "size" "I" ∈ WG := wg_t5 (List.mem_of_getElem? (i := 178) rfl) rfl
theorem wm_5_179 : Cond.fieldLink RX12 111 "OppositeHouseModel" "kind" "I" ∈ WG := wg_t5 (List.mem_of_getElem? (i := 179) rfl) rfl
theorem wm_5_180 : Cond.fieldLink RX12 124 "OppositeHouseModel" "number" "I" ∈ WG := wg_t5 (List.mem_of_getElem? (i := 180) rfl) rfl
theorem wm_5_181 : Cond.fieldLink RX12 129 "OppositeHouseModel" "wrong" "I" ∈ WG := wg_t5 (List.mem_of_getElem? (i := 181) rfl) rfl
theorem wm_5_182 : Cond.fieldLink RX12 132 "OppositeHouseModel" "wrongAt" "I" ∈ WG := wg_t5 (List.mem_of_getElem? (i := 182) rfl) rfl
theorem wm_5_183 : Cond.fieldLink RX12 214 "OppositeHouseModel" "faultKind" "I" ∈ WG := wg_t5 (List.mem_of_getElem? (i := 183) rfl) rfl
theorem wm_5_184 : Cond.fieldLink RX12 27 "OppositeHouseModel" "faultPlace" "I" ∈ WG := wg_t5 (List.mem_of_getElem? (i := 184) rfl) rfl
theorem wm_5_186 : Cond.fieldLink RX12 30 "OppositeHouseModel" "reckoned" "[I" ∈ WG := wg_t5 (List.mem_of_getElem? (i := 186) rfl) rfl
theorem wm_5_187 : Cond.fieldLink RX12 33 "OppositeHouseModel" "words" "[I" ∈ WG := wg_t5 (List.mem_of_getElem? (i := 187) rfl) rfl
theorem wm_5_188 : Cond.fieldLink RX12 36 "OppositeHouseModel" "swayed" "[I" ∈ WG := wg_t5 (List.mem_of_getElem? (i := 188) rfl) rfl
theorem wm_5_189 : Cond.fieldLink RX12 39 "OppositeHouseModel" "opposed" "[I" ∈ WG := wg_t5 (List.mem_of_getElem? (i := 189) rfl) rfl
theorem wm_5_19 : Cond.methodLink RL 121 yX11_talkBy ∈ WG := wg_t5 (List.mem_of_getElem? (i := 19) rfl) rfl
theorem wm_5_190 : Cond.fieldLink RX12 42 "OppositeHouseModel" "was" "[I" ∈ WG := wg_t5 (List.mem_of_getElem? (i := 190) rfl) rfl
theorem wm_5_192 : Cond.fieldLink RX12 326 "OppositeHouseModel" "x" "I" ∈ WG := wg_t5 (List.mem_of_getElem? (i := 192) rfl) rfl
theorem wm_5_193 : Cond.fieldLink RX12 45 "OppositeHouseModel" "parted" "[I" ∈ WG := wg_t5 (List.mem_of_getElem? (i := 193) rfl) rfl
theorem wm_5_194 : Cond.fieldLink RX12 48 "OppositeHouseModel" "with" "[I" ∈ WG := wg_t5 (List.mem_of_getElem? (i := 194) rfl) rfl
theorem wm_5_195 : Cond.fieldLink RX12 51 "OppositeHouseModel" "bestWith" "[I" ∈ WG := wg_t5 (List.mem_of_getElem? (i := 195) rfl) rfl
theorem wm_5_196 : Cond.fieldLink RX12 352 "OppositeHouseModel" "bestTwos" "I" ∈ WG := wg_t5 (List.mem_of_getElem? (i := 196) rfl) rfl
theorem wm_5_197 : Cond.fieldLink RX12 355 "OppositeHouseModel" "bestWeight" "I" ∈ WG := wg_t5 (List.mem_of_getElem? (i := 197) rfl) rfl
theorem wm_5_198 : Cond.fieldLink RX12 54 "OppositeHouseModel" "met" "[I" ∈ WG := wg_t5 (List.mem_of_getElem? (i := 198) rfl) rfl
theorem wm_5_199 : Cond.fieldLink RX12 57 "OppositeHouseModel" "metWith" "[I" ∈ WG := wg_t5 (List.mem_of_getElem? (i := 199) rfl) rfl
theorem wm_5_2 : Cond.code yX11_talks cX11_talks 3 (some .int) ∈ WG := wg_t5 (List.mem_of_getElem? (i := 2) rfl) rfl
theorem wm_5_20 : Cond.instanceMethod yX11_talkBy ∈ WG := wg_t5 (List.mem_of_getElem? (i := 20) rfl) rfl
theorem wm_5_200 : Cond.fieldLink RX12 60 "OppositeHouseModel" "metFrom" "[I" ∈ WG := wg_t5 (List.mem_of_getElem? (i := 200) rfl) rfl
theorem wm_5_201 : Cond.fieldLink RX12 63 "OppositeHouseModel" "turning" "[I" ∈ WG := wg_t5 (List.mem_of_getElem? (i := 201) rfl) rfl
theorem wm_5_202 : Cond.fieldLink RX12 66 "OppositeHouseModel" "isMet" "[Z" ∈ WG := wg_t5 (List.mem_of_getElem? (i := 202) rfl) rfl
theorem wm_5_204 : Cond.fieldLink RX12 69 "OppositeHouseModel" "rowSort" "[I" ∈ WG := wg_t5 (List.mem_of_getElem? (i := 204) rfl) rfl
theorem wm_5_205 : Cond.fieldLink RX12 72 "OppositeHouseModel" "rowMany" "[I" ∈ WG := wg_t5 (List.mem_of_getElem? (i := 205) rfl) rfl
theorem wm_5_206 : Cond.fieldLink RX12 75 "OppositeHouseModel" "numbers" "[J" ∈ WG := wg_t5 (List.mem_of_getElem? (i := 206) rfl) rfl
theorem wm_5_21 : Cond.selects RX11 yX11_talkBy yX11_talkBy ∈ WG := wg_t5 (List.mem_of_getElem? (i := 21) rfl) rfl
theorem wm_5_22 : Cond.code yX11_talkBy cX11_talkBy 4 (some .int) ∈ WG := wg_t5 (List.mem_of_getElem? (i := 22) rfl) rfl
theorem wm_5_23 : Cond.methodLink RL 126 yX11_word ∈ WG := wg_t5 (List.mem_of_getElem? (i := 23) rfl) rfl
theorem wm_5_24 : Cond.instanceMethod yX11_word ∈ WG := wg_t5 (List.mem_of_getElem? (i := 24) rfl) rfl
theorem wm_5_25 : Cond.selects RX11 yX11_word yX11_word ∈ WG := wg_t5 (List.mem_of_getElem? (i := 25) rfl) rfl
theorem wm_5_26 : Cond.code yX11_word cX11_word 7 (some .int) ∈ WG := wg_t5 (List.mem_of_getElem? (i := 26) rfl) rfl
theorem wm_5_32 : Cond.methodLink RL 130 yX11_ayes ∈ WG := wg_t5 (List.mem_of_getElem? (i := 32) rfl) rfl
theorem wm_5_33 : Cond.instanceMethod yX11_ayes ∈ WG := wg_t5 (List.mem_of_getElem? (i := 33) rfl) rfl
theorem wm_5_34 : Cond.selects RX11 yX11_ayes yX11_ayes ∈ WG := wg_t5 (List.mem_of_getElem? (i := 34) rfl) rfl
theorem wm_5_35 : Cond.code yX11_ayes cX11_ayes 2 (some .int) ∈ WG := wg_t5 (List.mem_of_getElem? (i := 35) rfl) rfl
theorem wm_5_36 : Cond.methodLink RX11 316 yX11_isBill ∈ WG := wg_t5 (List.mem_of_getElem? (i := 36) rfl) rfl
theorem wm_5_38 : Cond.instanceMethod yX11_isBill ∈ WG := wg_t5 (List.mem_of_getElem? (i := 38) rfl) rfl
theorem wm_5_39 : Cond.code yX11_isBill cX11_isBill 2 (some .boolean) ∈ WG := wg_t5 (List.mem_of_getElem? (i := 39) rfl) rfl
theorem wm_5_40 : Cond.methodLink RX11 319 yX11_sayers ∈ WG := wg_t5 (List.mem_of_getElem? (i := 40) rfl) rfl
theorem wm_5_42 : Cond.instanceMethod yX11_sayers ∈ WG := wg_t5 (List.mem_of_getElem? (i := 42) rfl) rfl
theorem wm_5_43 : Cond.code yX11_sayers cX11_sayers 5 (some .int) ∈ WG := wg_t5 (List.mem_of_getElem? (i := 43) rfl) rfl
theorem wm_5_48 : Cond.methodLink RL 134 yX11_passes ∈ WG := wg_t5 (List.mem_of_getElem? (i := 48) rfl) rfl
theorem wm_5_49 : Cond.instanceMethod yX11_passes ∈ WG := wg_t5 (List.mem_of_getElem? (i := 49) rfl) rfl
theorem wm_5_50 : Cond.selects RX11 yX11_passes yX11_passes ∈ WG := wg_t5 (List.mem_of_getElem? (i := 50) rfl) rfl
theorem wm_5_51 : Cond.code yX11_passes cX11_passes 2 (some .int) ∈ WG := wg_t5 (List.mem_of_getElem? (i := 51) rfl) rfl
theorem wm_5_52 : Cond.methodLink RX11 326 yX11_hasMore ∈ WG := wg_t5 (List.mem_of_getElem? (i := 52) rfl) rfl
theorem wm_5_53 : Cond.static yX11_hasMore ∈ WG := wg_t5 (List.mem_of_getElem? (i := 53) rfl) rfl
theorem wm_5_54 : Cond.code yX11_hasMore cX11_hasMore 2 (some .boolean) ∈ WG := wg_t5 (List.mem_of_getElem? (i := 54) rfl) rfl
theorem wm_5_55 : Cond.methodLink RL 138 yX11_passed ∈ WG := wg_t5 (List.mem_of_getElem? (i := 55) rfl) rfl
theorem wm_5_56 : Cond.instanceMethod yX11_passed ∈ WG := wg_t5 (List.mem_of_getElem? (i := 56) rfl) rfl
theorem wm_5_57 : Cond.selects RX11 yX11_passed yX11_passed ∈ WG := wg_t5 (List.mem_of_getElem? (i := 57) rfl) rfl
theorem wm_5_58 : Cond.code yX11_passed cX11_passed 3 (some .int) ∈ WG := wg_t5 (List.mem_of_getElem? (i := 58) rfl) rfl
theorem wm_5_59 : Cond.methodLink RX11 329 yX11_fewestSent ∈ WG := wg_t5 (List.mem_of_getElem? (i := 59) rfl) rfl
theorem wm_5_61 : Cond.instanceMethod yX11_fewestSent ∈ WG := wg_t5 (List.mem_of_getElem? (i := 61) rfl) rfl
theorem wm_5_62 : Cond.code yX11_fewestSent cX11_fewestSent 8 (some .int) ∈ WG := wg_t5 (List.mem_of_getElem? (i := 62) rfl) rfl
theorem wm_5_63 : Cond.methodLink RL 142 yX11_easiest ∈ WG := wg_t5 (List.mem_of_getElem? (i := 63) rfl) rfl
theorem wm_5_64 : Cond.instanceMethod yX11_easiest ∈ WG := wg_t5 (List.mem_of_getElem? (i := 64) rfl) rfl
theorem wm_5_65 : Cond.selects RX11 yX11_easiest yX11_easiest ∈ WG := wg_t5 (List.mem_of_getElem? (i := 65) rfl) rfl
theorem wm_5_66 : Cond.code yX11_easiest cX11_easiest 5 (some .int) ∈ WG := wg_t5 (List.mem_of_getElem? (i := 66) rfl) rfl
theorem wm_5_67 : Cond.methodLink RL 146 yX11_hidden ∈ WG := wg_t5 (List.mem_of_getElem? (i := 67) rfl) rfl
theorem wm_5_68 : Cond.instanceMethod yX11_hidden ∈ WG := wg_t5 (List.mem_of_getElem? (i := 68) rfl) rfl
theorem wm_5_69 : Cond.selects RX11 yX11_hidden yX11_hidden ∈ WG := wg_t5 (List.mem_of_getElem? (i := 69) rfl) rfl
theorem wm_5_70 : Cond.code yX11_hidden cX11_hidden 4 (some .int) ∈ WG := wg_t5 (List.mem_of_getElem? (i := 70) rfl) rfl
theorem wm_5_71 : Cond.methodLink RX11 332 yX11_refusedGuess ∈ WG := wg_t5 (List.mem_of_getElem? (i := 71) rfl) rfl
theorem wm_5_73 : Cond.instanceMethod yX11_refusedGuess ∈ WG := wg_t5 (List.mem_of_getElem? (i := 73) rfl) rfl
theorem wm_5_74 : Cond.code yX11_refusedGuess cX11_refusedGuess 3 (some .int) ∈ WG := wg_t5 (List.mem_of_getElem? (i := 74) rfl) rfl
theorem wm_5_85 : Cond.methodLink RL 150 yX11_hiddenAt ∈ WG := wg_t5 (List.mem_of_getElem? (i := 85) rfl) rfl
theorem wm_5_86 : Cond.instanceMethod yX11_hiddenAt ∈ WG := wg_t5 (List.mem_of_getElem? (i := 86) rfl) rfl
theorem wm_5_87 : Cond.selects RX11 yX11_hiddenAt yX11_hiddenAt ∈ WG := wg_t5 (List.mem_of_getElem? (i := 87) rfl) rfl
theorem wm_5_88 : Cond.code yX11_hiddenAt cX11_hiddenAt 5 (some .int) ∈ WG := wg_t5 (List.mem_of_getElem? (i := 88) rfl) rfl
theorem wm_5_89 : Cond.methodLink RL 154 yX11_probe ∈ WG := wg_t5 (List.mem_of_getElem? (i := 89) rfl) rfl
theorem wm_5_90 : Cond.instanceMethod yX11_probe ∈ WG := wg_t5 (List.mem_of_getElem? (i := 90) rfl) rfl
theorem wm_5_91 : Cond.selects RX11 yX11_probe yX11_probe ∈ WG := wg_t5 (List.mem_of_getElem? (i := 91) rfl) rfl
theorem wm_5_92 : Cond.code yX11_probe cX11_probe 4 (some .int) ∈ WG := wg_t5 (List.mem_of_getElem? (i := 92) rfl) rfl
theorem wm_6_109 : Cond.constantLong RX12 203 (9) ∈ WG := wg_t6 (List.mem_of_getElem? (i := 109) rfl) rfl
theorem wm_6_154 : Cond.methodLink RL 26 yX12_fault ∈ WG := wg_t6 (List.mem_of_getElem? (i := 154) rfl) rfl
theorem wm_6_155 : Cond.instanceMethod yX12_fault ∈ WG := wg_t6 (List.mem_of_getElem? (i := 155) rfl) rfl
theorem wm_6_156 : Cond.selects RX12 yX12_fault yX12_fault ∈ WG := wg_t6 (List.mem_of_getElem? (i := 156) rfl) rfl
theorem wm_6_157 : Cond.code yX12_fault cX12_fault 2 (some .int) ∈ WG := wg_t6 (List.mem_of_getElem? (i := 157) rfl) rfl
theorem wm_6_158 : Cond.methodLink RL 31 yX12_person ∈ WG := wg_t6 (List.mem_of_getElem? (i := 158) rfl) rfl
theorem wm_6_159 : Cond.instanceMethod yX12_person ∈ WG := wg_t6 (List.mem_of_getElem? (i := 159) rfl) rfl
theorem wm_6_160 : Cond.selects RX12 yX12_person yX12_person ∈ WG := wg_t6 (List.mem_of_getElem? (i := 160) rfl) rfl
theorem wm_6_161 : Cond.code yX12_person cX12_person 3 (some .int) ∈ WG := wg_t6 (List.mem_of_getElem? (i := 161) rfl) rfl
theorem wm_6_162 : Cond.methodLink RX12 245 yX12_isPerson ∈ WG := wg_t6 (List.mem_of_getElem? (i := 162) rfl) rfl
theorem wm_6_164 : Cond.instanceMethod yX12_isPerson ∈ WG := wg_t6 (List.mem_of_getElem? (i := 164) rfl) rfl
theorem wm_6_165 : Cond.code yX12_isPerson cX12_isPerson 3 (some .boolean) ∈ WG := wg_t6 (List.mem_of_getElem? (i := 165) rfl) rfl
theorem wm_6_170 : Cond.methodLink RX12 255 yX12_townNow ∈ WG := wg_t6 (List.mem_of_getElem? (i := 170) rfl) rfl
theorem wm_6_172 : Cond.instanceMethod yX12_townNow ∈ WG := wg_t6 (List.mem_of_getElem? (i := 172) rfl) rfl
theorem wm_6_173 : Cond.code yX12_townNow cX12_townNow 1 (some .int) ∈ WG := wg_t6 (List.mem_of_getElem? (i := 173) rfl) rfl
theorem wm_6_174 : Cond.methodLink RX12 220 yX12_townOn ∈ WG := wg_t6 (List.mem_of_getElem? (i := 174) rfl) rfl
theorem wm_6_176 : Cond.instanceMethod yX12_townOn ∈ WG := wg_t6 (List.mem_of_getElem? (i := 176) rfl) rfl
theorem wm_6_177 : Cond.code yX12_townOn cX12_townOn 4 (some .int) ∈ WG := wg_t6 (List.mem_of_getElem? (i := 177) rfl) rfl
theorem wm_6_178 : Cond.methodLink RL 35 yX12_town ∈ WG := wg_t6 (List.mem_of_getElem? (i := 178) rfl) rfl
theorem wm_6_179 : Cond.instanceMethod yX12_town ∈ WG := wg_t6 (List.mem_of_getElem? (i := 179) rfl) rfl
theorem wm_6_180 : Cond.selects RX12 yX12_town yX12_town ∈ WG := wg_t6 (List.mem_of_getElem? (i := 180) rfl) rfl
theorem wm_6_181 : Cond.code yX12_town cX12_town 2 (some .int) ∈ WG := wg_t6 (List.mem_of_getElem? (i := 181) rfl) rfl
theorem wm_6_182 : Cond.constantLong RX12 258 (999) ∈ WG := wg_t6 (List.mem_of_getElem? (i := 182) rfl) rfl
theorem wm_6_183 : Cond.methodLink RL 39 yX12_opposed ∈ WG := wg_t6 (List.mem_of_getElem? (i := 183) rfl) rfl
theorem wm_6_184 : Cond.instanceMethod yX12_opposed ∈ WG := wg_t6 (List.mem_of_getElem? (i := 184) rfl) rfl
theorem wm_6_185 : Cond.selects RX12 yX12_opposed yX12_opposed ∈ WG := wg_t6 (List.mem_of_getElem? (i := 185) rfl) rfl
theorem wm_6_186 : Cond.code yX12_opposed cX12_opposed 3 (some .int) ∈ WG := wg_t6 (List.mem_of_getElem? (i := 186) rfl) rfl
theorem wm_6_204 : Cond.methodLink RL 43 yX12_opposites ∈ WG := wg_t6 (List.mem_of_getElem? (i := 204) rfl) rfl
theorem wm_6_205 : Cond.instanceMethod yX12_opposites ∈ WG := wg_t6 (List.mem_of_getElem? (i := 205) rfl) rfl
theorem wm_6_206 : Cond.selects RX12 yX12_opposites yX12_opposites ∈ WG := wg_t6 (List.mem_of_getElem? (i := 206) rfl) rfl
theorem wm_6_207 : Cond.code yX12_opposites cX12_opposites 2 (some .int) ∈ WG := wg_t6 (List.mem_of_getElem? (i := 207) rfl) rfl
theorem wm_6_212 : Cond.methodLink RL 47 yX12_talk ∈ WG := wg_t6 (List.mem_of_getElem? (i := 212) rfl) rfl
theorem wm_6_213 : Cond.instanceMethod yX12_talk ∈ WG := wg_t6 (List.mem_of_getElem? (i := 213) rfl) rfl
theorem wm_6_214 : Cond.selects RX12 yX12_talk yX12_talk ∈ WG := wg_t6 (List.mem_of_getElem? (i := 214) rfl) rfl
theorem wm_6_215 : Cond.code yX12_talk cX12_talk 4 (some .int) ∈ WG := wg_t6 (List.mem_of_getElem? (i := 215) rfl) rfl
theorem wm_6_216 : Cond.methodLink RX12 263 yX12_whyTalk ∈ WG := wg_t6 (List.mem_of_getElem? (i := 216) rfl) rfl
theorem wm_6_218 : Cond.instanceMethod yX12_whyTalk ∈ WG := wg_t6 (List.mem_of_getElem? (i := 218) rfl) rfl
theorem wm_6_219 : Cond.code yX12_whyTalk cX12_whyTalk 5 (some .int) ∈ WG := wg_t6 (List.mem_of_getElem? (i := 219) rfl) rfl
theorem wm_6_220 : Cond.methodLink RX12 267 yX12_keeps ∈ WG := wg_t6 (List.mem_of_getElem? (i := 220) rfl) rfl
theorem wm_6_222 : Cond.instanceMethod yX12_keeps ∈ WG := wg_t6 (List.mem_of_getElem? (i := 222) rfl) rfl
theorem wm_6_223 : Cond.code yX12_keeps cX12_keeps 2 none ∈ WG := wg_t6 (List.mem_of_getElem? (i := 223) rfl) rfl
theorem wm_6_232 : Cond.methodLink RX12 274 yX12_notes ∈ WG := wg_t6 (List.mem_of_getElem? (i := 232) rfl) rfl
theorem wm_6_234 : Cond.instanceMethod yX12_notes ∈ WG := wg_t6 (List.mem_of_getElem? (i := 234) rfl) rfl
theorem wm_6_235 : Cond.code yX12_notes cX12_notes 2 none ∈ WG := wg_t6 (List.mem_of_getElem? (i := 235) rfl) rfl
theorem wm_6_236 : Cond.methodLink RL 51 yX12_send ∈ WG := wg_t6 (List.mem_of_getElem? (i := 236) rfl) rfl
theorem wm_6_237 : Cond.instanceMethod yX12_send ∈ WG := wg_t6 (List.mem_of_getElem? (i := 237) rfl) rfl
theorem wm_6_238 : Cond.selects RX12 yX12_send yX12_send ∈ WG := wg_t6 (List.mem_of_getElem? (i := 238) rfl) rfl
theorem wm_6_239 : Cond.code yX12_send cX12_send 2 (some .int) ∈ WG := wg_t6 (List.mem_of_getElem? (i := 239) rfl) rfl
theorem wm_6_42 : Cond.methodLink RL 17 yX12_feed ∈ WG := wg_t6 (List.mem_of_getElem? (i := 42) rfl) rfl
theorem wm_6_43 : Cond.instanceMethod yX12_feed ∈ WG := wg_t6 (List.mem_of_getElem? (i := 43) rfl) rfl
theorem wm_6_44 : Cond.selects RX12 yX12_feed yX12_feed ∈ WG := wg_t6 (List.mem_of_getElem? (i := 44) rfl) rfl
theorem wm_6_45 : Cond.code yX12_feed cX12_feed 8 (some .int) ∈ WG := wg_t6 (List.mem_of_getElem? (i := 45) rfl) rfl
theorem wm_6_46 : Cond.methodLink RL 22 yX12_house ∈ WG := wg_t6 (List.mem_of_getElem? (i := 46) rfl) rfl
theorem wm_6_47 : Cond.instanceMethod yX12_house ∈ WG := wg_t6 (List.mem_of_getElem? (i := 47) rfl) rfl
theorem wm_6_48 : Cond.selects RX12 yX12_house yX12_house ∈ WG := wg_t6 (List.mem_of_getElem? (i := 48) rfl) rfl
theorem wm_6_49 : Cond.code yX12_house cX12_house 3 (some .int) ∈ WG := wg_t6 (List.mem_of_getElem? (i := 49) rfl) rfl
theorem wm_6_50 : Cond.methodLink RX12 145 yX12_within ∈ WG := wg_t6 (List.mem_of_getElem? (i := 50) rfl) rfl
theorem wm_6_51 : Cond.static yX12_within ∈ WG := wg_t6 (List.mem_of_getElem? (i := 51) rfl) rfl
theorem wm_6_52 : Cond.code yX12_within cX12_within 6 (some .boolean) ∈ WG := wg_t6 (List.mem_of_getElem? (i := 52) rfl) rfl
theorem wm_6_53 : Cond.methodLink RX12 138 yX12_next ∈ WG := wg_t6 (List.mem_of_getElem? (i := 53) rfl) rfl
theorem wm_6_55 : Cond.instanceMethod yX12_next ∈ WG := wg_t6 (List.mem_of_getElem? (i := 55) rfl) rfl
theorem wm_6_56 : Cond.code yX12_next cX12_next 2 none ∈ WG := wg_t6 (List.mem_of_getElem? (i := 56) rfl) rfl
theorem wm_6_57 : Cond.methodLink RX12 107 yX12_see ∈ WG := wg_t6 (List.mem_of_getElem? (i := 57) rfl) rfl
theorem wm_6_59 : Cond.instanceMethod yX12_see ∈ WG := wg_t6 (List.mem_of_getElem? (i := 59) rfl) rfl
theorem wm_6_60 : Cond.code yX12_see cX12_see 2 (some .int) ∈ WG := wg_t6 (List.mem_of_getElem? (i := 60) rfl) rfl
theorem wm_6_75 : Cond.methodLink RX12 172 yX12_eats ∈ WG := wg_t6 (List.mem_of_getElem? (i := 75) rfl) rfl
theorem wm_6_77 : Cond.instanceMethod yX12_eats ∈ WG := wg_t6 (List.mem_of_getElem? (i := 77) rfl) rfl
theorem wm_6_78 : Cond.code yX12_eats cX12_eats 2 (some .boolean) ∈ WG := wg_t6 (List.mem_of_getElem? (i := 78) rfl) rfl
theorem wm_6_79 : Cond.methodLink RX12 135 yX12_is ∈ WG := wg_t6 (List.mem_of_getElem? (i := 79) rfl) rfl
theorem wm_6_81 : Cond.instanceMethod yX12_is ∈ WG := wg_t6 (List.mem_of_getElem? (i := 81) rfl) rfl
theorem wm_6_82 : Cond.code yX12_is cX12_is 2 (some .boolean) ∈ WG := wg_t6 (List.mem_of_getElem? (i := 82) rfl) rfl
theorem wm_6_83 : Cond.methodLink RX12 141 yX12_fails ∈ WG := wg_t6 (List.mem_of_getElem? (i := 83) rfl) rfl
theorem wm_6_85 : Cond.instanceMethod yX12_fails ∈ WG := wg_t6 (List.mem_of_getElem? (i := 85) rfl) rfl
theorem wm_6_86 : Cond.code yX12_fails cX12_fails 2 none ∈ WG := wg_t6 (List.mem_of_getElem? (i := 86) rfl) rfl
theorem wm_6_87 : Cond.methodLink RX12 190 yX12_takes ∈ WG := wg_t6 (List.mem_of_getElem? (i := 87) rfl) rfl
theorem wm_6_89 : Cond.instanceMethod yX12_takes ∈ WG := wg_t6 (List.mem_of_getElem? (i := 89) rfl) rfl
theorem wm_6_90 : Cond.code yX12_takes cX12_takes 4 (some .int) ∈ WG := wg_t6 (List.mem_of_getElem? (i := 90) rfl) rfl
theorem wm_6_91 : Cond.methodLink RX12 208 yX12_ends ∈ WG := wg_t6 (List.mem_of_getElem? (i := 91) rfl) rfl
theorem wm_6_93 : Cond.instanceMethod yX12_ends ∈ WG := wg_t6 (List.mem_of_getElem? (i := 93) rfl) rfl
theorem wm_6_94 : Cond.code yX12_ends cX12_ends 1 none ∈ WG := wg_t6 (List.mem_of_getElem? (i := 94) rfl) rfl
theorem wm_7_0 : Cond.methodLink RX12 284 yX12_goes ∈ WG := wg_t7 (List.mem_of_getElem? (i := 0) rfl) rfl
theorem wm_7_10 : Cond.code yX12_bitsOf cX12_bitsOf 3 (some .int) ∈ WG := wg_t7 (List.mem_of_getElem? (i := 10) rfl) rfl
theorem wm_7_100 : Cond.methodLink RX12 217 yX12_everybody ∈ WG := wg_t7 (List.mem_of_getElem? (i := 100) rfl) rfl
theorem wm_7_102 : Cond.instanceMethod yX12_everybody ∈ WG := wg_t7 (List.mem_of_getElem? (i := 102) rfl) rfl
theorem wm_7_103 : Cond.code yX12_everybody cX12_everybody 1 (some .int) ∈ WG := wg_t7 (List.mem_of_getElem? (i := 103) rfl) rfl
theorem wm_7_104 : Cond.methodLink RL 87 yX12_ways ∈ WG := wg_t7 (List.mem_of_getElem? (i := 104) rfl) rfl
theorem wm_7_105 : Cond.instanceMethod yX12_ways ∈ WG := wg_t7 (List.mem_of_getElem? (i := 105) rfl) rfl
theorem wm_7_106 : Cond.selects RX12 yX12_ways yX12_ways ∈ WG := wg_t7 (List.mem_of_getElem? (i := 106) rfl) rfl
theorem wm_7_107 : Cond.code yX12_ways cX12_ways 2 (some .int) ∈ WG := wg_t7 (List.mem_of_getElem? (i := 107) rfl) rfl
theorem wm_7_108 : Cond.methodLink RL 83 yX12_pairs ∈ WG := wg_t7 (List.mem_of_getElem? (i := 108) rfl) rfl
theorem wm_7_109 : Cond.instanceMethod yX12_pairs ∈ WG := wg_t7 (List.mem_of_getElem? (i := 109) rfl) rfl
theorem wm_7_11 : Cond.methodLink RL 55 yX12_call ∈ WG := wg_t7 (List.mem_of_getElem? (i := 11) rfl) rfl
theorem wm_7_110 : Cond.selects RX12 yX12_pairs yX12_pairs ∈ WG := wg_t7 (List.mem_of_getElem? (i := 110) rfl) rfl
theorem wm_7_111 : Cond.code yX12_pairs cX12_pairs 3 (some .int) ∈ WG := wg_t7 (List.mem_of_getElem? (i := 111) rfl) rfl
theorem wm_7_112 : Cond.methodLink RX12 361 yX12_laysPairs ∈ WG := wg_t7 (List.mem_of_getElem? (i := 112) rfl) rfl
theorem wm_7_114 : Cond.instanceMethod yX12_laysPairs ∈ WG := wg_t7 (List.mem_of_getElem? (i := 114) rfl) rfl
theorem wm_7_115 : Cond.code yX12_laysPairs cX12_laysPairs 3 none ∈ WG := wg_t7 (List.mem_of_getElem? (i := 115) rfl) rfl
theorem wm_7_116 : Cond.methodLink RX12 358 yX12_goesPairs ∈ WG := wg_t7 (List.mem_of_getElem? (i := 116) rfl) rfl
theorem wm_7_118 : Cond.instanceMethod yX12_goesPairs ∈ WG := wg_t7 (List.mem_of_getElem? (i := 118) rfl) rfl
theorem wm_7_119 : Cond.code yX12_goesPairs cX12_goesPairs 7 none ∈ WG := wg_t7 (List.mem_of_getElem? (i := 119) rfl) rfl
theorem wm_7_12 : Cond.instanceMethod yX12_call ∈ WG := wg_t7 (List.mem_of_getElem? (i := 12) rfl) rfl
theorem wm_7_120 : Cond.methodLink RL 91 yX12_bar ∈ WG := wg_t7 (List.mem_of_getElem? (i := 120) rfl) rfl
theorem wm_7_121 : Cond.instanceMethod yX12_bar ∈ WG := wg_t7 (List.mem_of_getElem? (i := 121) rfl) rfl
theorem wm_7_122 : Cond.selects RX12 yX12_bar yX12_bar ∈ WG := wg_t7 (List.mem_of_getElem? (i := 122) rfl) rfl
theorem wm_7_123 : Cond.code yX12_bar cX12_bar 6 (some .int) ∈ WG := wg_t7 (List.mem_of_getElem? (i := 123) rfl) rfl
theorem wm_7_124 : Cond.methodLink RX12 367 yX12_piecesOf ∈ WG := wg_t7 (List.mem_of_getElem? (i := 124) rfl) rfl
theorem wm_7_126 : Cond.instanceMethod yX12_piecesOf ∈ WG := wg_t7 (List.mem_of_getElem? (i := 126) rfl) rfl
theorem wm_7_127 : Cond.code yX12_piecesOf cX12_piecesOf 6 (some .int) ∈ WG := wg_t7 (List.mem_of_getElem? (i := 127) rfl) rfl
theorem wm_7_13 : Cond.selects RX12 yX12_call yX12_call ∈ WG := wg_t7 (List.mem_of_getElem? (i := 13) rfl) rfl
theorem wm_7_132 : Cond.methodLink RL 95 yX12_pieces ∈ WG := wg_t7 (List.mem_of_getElem? (i := 132) rfl) rfl
theorem wm_7_133 : Cond.instanceMethod yX12_pieces ∈ WG := wg_t7 (List.mem_of_getElem? (i := 133) rfl) rfl
theorem wm_7_134 : Cond.selects RX12 yX12_pieces yX12_pieces ∈ WG := wg_t7 (List.mem_of_getElem? (i := 134) rfl) rfl
theorem wm_7_135 : Cond.code yX12_pieces cX12_pieces 2 (some .int) ∈ WG := wg_t7 (List.mem_of_getElem? (i := 135) rfl) rfl
theorem wm_7_136 : Cond.methodLink RL 100 yX12_bestDay ∈ WG := wg_t7 (List.mem_of_getElem? (i := 136) rfl) rfl
theorem wm_7_137 : Cond.instanceMethod yX12_bestDay ∈ WG := wg_t7 (List.mem_of_getElem? (i := 137) rfl) rfl
theorem wm_7_138 : Cond.selects RX12 yX12_bestDay yX12_bestDay ∈ WG := wg_t7 (List.mem_of_getElem? (i := 138) rfl) rfl
theorem wm_7_139 : Cond.code yX12_bestDay cX12_bestDay 4 (some .int) ∈ WG := wg_t7 (List.mem_of_getElem? (i := 139) rfl) rfl
theorem wm_7_14 : Cond.code yX12_call cX12_call 2 (some .int) ∈ WG := wg_t7 (List.mem_of_getElem? (i := 14) rfl) rfl
theorem wm_7_140 : Cond.methodLink RL 104 yX12_firstDay ∈ WG := wg_t7 (List.mem_of_getElem? (i := 140) rfl) rfl
theorem wm_7_141 : Cond.instanceMethod yX12_firstDay ∈ WG := wg_t7 (List.mem_of_getElem? (i := 141) rfl) rfl
theorem wm_7_142 : Cond.selects RX12 yX12_firstDay yX12_firstDay ∈ WG := wg_t7 (List.mem_of_getElem? (i := 142) rfl) rfl
theorem wm_7_143 : Cond.code yX12_firstDay cX12_firstDay 3 (some .int) ∈ WG := wg_t7 (List.mem_of_getElem? (i := 143) rfl) rfl
theorem wm_7_144 : Cond.methodLink RL 108 yX12_quorum ∈ WG := wg_t7 (List.mem_of_getElem? (i := 144) rfl) rfl
theorem wm_7_145 : Cond.instanceMethod yX12_quorum ∈ WG := wg_t7 (List.mem_of_getElem? (i := 145) rfl) rfl
theorem wm_7_146 : Cond.selects RX12 yX12_quorum yX12_quorum ∈ WG := wg_t7 (List.mem_of_getElem? (i := 146) rfl) rfl
theorem wm_7_147 : Cond.code yX12_quorum cX12_quorum 4 (some .int) ∈ WG := wg_t7 (List.mem_of_getElem? (i := 147) rfl) rfl
theorem wm_7_148 : Cond.methodLink RL 112 yX12_cover ∈ WG := wg_t7 (List.mem_of_getElem? (i := 148) rfl) rfl
theorem wm_7_149 : Cond.instanceMethod yX12_cover ∈ WG := wg_t7 (List.mem_of_getElem? (i := 149) rfl) rfl
theorem wm_7_15 : Cond.methodLink RL 59 yX12_days ∈ WG := wg_t7 (List.mem_of_getElem? (i := 15) rfl) rfl
theorem wm_7_150 : Cond.selects RX12 yX12_cover yX12_cover ∈ WG := wg_t7 (List.mem_of_getElem? (i := 150) rfl) rfl
theorem wm_7_151 : Cond.code yX12_cover cX12_cover 6 (some .int) ∈ WG := wg_t7 (List.mem_of_getElem? (i := 151) rfl) rfl
theorem wm_7_152 : Cond.methodLink RX12 371 yX12_isCovered ∈ WG := wg_t7 (List.mem_of_getElem? (i := 152) rfl) rfl
theorem wm_7_154 : Cond.instanceMethod yX12_isCovered ∈ WG := wg_t7 (List.mem_of_getElem? (i := 154) rfl) rfl
theorem wm_7_155 : Cond.code yX12_isCovered cX12_isCovered 4 (some .boolean) ∈ WG := wg_t7 (List.mem_of_getElem? (i := 155) rfl) rfl
theorem wm_7_156 : Cond.methodLink RL 116 yX12_laundress ∈ WG := wg_t7 (List.mem_of_getElem? (i := 156) rfl) rfl
theorem wm_7_157 : Cond.instanceMethod yX12_laundress ∈ WG := wg_t7 (List.mem_of_getElem? (i := 157) rfl) rfl
theorem wm_7_158 : Cond.selects RX12 yX12_laundress yX12_laundress ∈ WG := wg_t7 (List.mem_of_getElem? (i := 158) rfl) rfl
theorem wm_7_159 : Cond.code yX12_laundress cX12_laundress 5 (some .int) ∈ WG := wg_t7 (List.mem_of_getElem? (i := 159) rfl) rfl
theorem wm_7_16 : Cond.instanceMethod yX12_days ∈ WG := wg_t7 (List.mem_of_getElem? (i := 16) rfl) rfl
theorem wm_7_160 : Cond.methodLink RL 120 yX12_talks ∈ WG := wg_t7 (List.mem_of_getElem? (i := 160) rfl) rfl
theorem wm_7_161 : Cond.instanceMethod yX12_talks ∈ WG := wg_t7 (List.mem_of_getElem? (i := 161) rfl) rfl
theorem wm_7_162 : Cond.selects RX12 yX12_talks yX12_talks ∈ WG := wg_t7 (List.mem_of_getElem? (i := 162) rfl) rfl
theorem wm_7_163 : Cond.code yX12_talks cX12_talks 3 (some .int) ∈ WG := wg_t7 (List.mem_of_getElem? (i := 163) rfl) rfl
theorem wm_7_164 : Cond.methodLink RX12 384 yX12_areTwo ∈ WG := wg_t7 (List.mem_of_getElem? (i := 164) rfl) rfl
theorem wm_7_166 : Cond.instanceMethod yX12_areTwo ∈ WG := wg_t7 (List.mem_of_getElem? (i := 166) rfl) rfl
theorem wm_7_167 : Cond.code yX12_areTwo cX12_areTwo 3 (some .boolean) ∈ WG := wg_t7 (List.mem_of_getElem? (i := 167) rfl) rfl
theorem wm_7_17 : Cond.selects RX12 yX12_days yX12_days ∈ WG := wg_t7 (List.mem_of_getElem? (i := 17) rfl) rfl
theorem wm_7_18 : Cond.code yX12_days cX12_days 2 (some .int) ∈ WG := wg_t7 (List.mem_of_getElem? (i := 18) rfl) rfl
theorem wm_7_180 : Cond.methodLink RL 125 yX12_talkBy ∈ WG := wg_t7 (List.mem_of_getElem? (i := 180) rfl) rfl
theorem wm_7_181 : Cond.instanceMethod yX12_talkBy ∈ WG := wg_t7 (List.mem_of_getElem? (i := 181) rfl) rfl
theorem wm_7_182 : Cond.selects RX12 yX12_talkBy yX12_talkBy ∈ WG := wg_t7 (List.mem_of_getElem? (i := 182) rfl) rfl
theorem wm_7_183 : Cond.code yX12_talkBy cX12_talkBy 5 (some .int) ∈ WG := wg_t7 (List.mem_of_getElem? (i := 183) rfl) rfl
theorem wm_7_184 : Cond.methodLink RL 129 yX12_word ∈ WG := wg_t7 (List.mem_of_getElem? (i := 184) rfl) rfl
theorem wm_7_185 : Cond.instanceMethod yX12_word ∈ WG := wg_t7 (List.mem_of_getElem? (i := 185) rfl) rfl
theorem wm_7_186 : Cond.selects RX12 yX12_word yX12_word ∈ WG := wg_t7 (List.mem_of_getElem? (i := 186) rfl) rfl
theorem wm_7_187 : Cond.code yX12_word cX12_word 5 (some .int) ∈ WG := wg_t7 (List.mem_of_getElem? (i := 187) rfl) rfl
theorem wm_7_188 : Cond.methodLink RL 133 yX12_ayes ∈ WG := wg_t7 (List.mem_of_getElem? (i := 188) rfl) rfl
theorem wm_7_189 : Cond.instanceMethod yX12_ayes ∈ WG := wg_t7 (List.mem_of_getElem? (i := 189) rfl) rfl
theorem wm_7_19 : Cond.constantLong RX12 287 (99) ∈ WG := wg_t7 (List.mem_of_getElem? (i := 19) rfl) rfl
theorem wm_7_190 : Cond.selects RX12 yX12_ayes yX12_ayes ∈ WG := wg_t7 (List.mem_of_getElem? (i := 190) rfl) rfl
theorem wm_7_191 : Cond.code yX12_ayes cX12_ayes 2 (some .int) ∈ WG := wg_t7 (List.mem_of_getElem? (i := 191) rfl) rfl
theorem wm_7_192 : Cond.methodLink RX12 393 yX12_isBill ∈ WG := wg_t7 (List.mem_of_getElem? (i := 192) rfl) rfl
theorem wm_7_193 : Cond.static yX12_isBill ∈ WG := wg_t7 (List.mem_of_getElem? (i := 193) rfl) rfl
theorem wm_7_194 : Cond.code yX12_isBill cX12_isBill 1 (some .boolean) ∈ WG := wg_t7 (List.mem_of_getElem? (i := 194) rfl) rfl
theorem wm_7_195 : Cond.methodLink RX12 396 yX12_ayesOf ∈ WG := wg_t7 (List.mem_of_getElem? (i := 195) rfl) rfl
theorem wm_7_197 : Cond.instanceMethod yX12_ayesOf ∈ WG := wg_t7 (List.mem_of_getElem? (i := 197) rfl) rfl
theorem wm_7_198 : Cond.code yX12_ayesOf cX12_ayesOf 5 (some .int) ∈ WG := wg_t7 (List.mem_of_getElem? (i := 198) rfl) rfl
theorem wm_7_2 : Cond.instanceMethod yX12_goes ∈ WG := wg_t7 (List.mem_of_getElem? (i := 2) rfl) rfl
theorem wm_7_20 : Cond.methodLink RL 63 yX12_undo ∈ WG := wg_t7 (List.mem_of_getElem? (i := 20) rfl) rfl
theorem wm_7_203 : Cond.methodLink RL 137 yX12_passes ∈ WG := wg_t7 (List.mem_of_getElem? (i := 203) rfl) rfl
theorem wm_7_204 : Cond.instanceMethod yX12_passes ∈ WG := wg_t7 (List.mem_of_getElem? (i := 204) rfl) rfl
theorem wm_7_205 : Cond.selects RX12 yX12_passes yX12_passes ∈ WG := wg_t7 (List.mem_of_getElem? (i := 205) rfl) rfl
theorem wm_7_206 : Cond.code yX12_passes cX12_passes 2 (some .int) ∈ WG := wg_t7 (List.mem_of_getElem? (i := 206) rfl) rfl
theorem wm_7_207 : Cond.methodLink RX12 399 yX12_passedBy ∈ WG := wg_t7 (List.mem_of_getElem? (i := 207) rfl) rfl
theorem wm_7_209 : Cond.instanceMethod yX12_passedBy ∈ WG := wg_t7 (List.mem_of_getElem? (i := 209) rfl) rfl
theorem wm_7_21 : Cond.instanceMethod yX12_undo ∈ WG := wg_t7 (List.mem_of_getElem? (i := 21) rfl) rfl
theorem wm_7_210 : Cond.code yX12_passedBy cX12_passedBy 7 (some .int) ∈ WG := wg_t7 (List.mem_of_getElem? (i := 210) rfl) rfl
theorem wm_7_211 : Cond.methodLink RL 141 yX12_passed ∈ WG := wg_t7 (List.mem_of_getElem? (i := 211) rfl) rfl
theorem wm_7_212 : Cond.instanceMethod yX12_passed ∈ WG := wg_t7 (List.mem_of_getElem? (i := 212) rfl) rfl
theorem wm_7_213 : Cond.selects RX12 yX12_passed yX12_passed ∈ WG := wg_t7 (List.mem_of_getElem? (i := 213) rfl) rfl
theorem wm_7_214 : Cond.code yX12_passed cX12_passed 4 (some .int) ∈ WG := wg_t7 (List.mem_of_getElem? (i := 214) rfl) rfl
theorem wm_7_215 : Cond.methodLink RL 145 yX12_easiest ∈ WG := wg_t7 (List.mem_of_getElem? (i := 215) rfl) rfl
theorem wm_7_216 : Cond.instanceMethod yX12_easiest ∈ WG := wg_t7 (List.mem_of_getElem? (i := 216) rfl) rfl
theorem wm_7_217 : Cond.selects RX12 yX12_easiest yX12_easiest ∈ WG := wg_t7 (List.mem_of_getElem? (i := 217) rfl) rfl
theorem wm_7_218 : Cond.code yX12_easiest cX12_easiest 5 (some .int) ∈ WG := wg_t7 (List.mem_of_getElem? (i := 218) rfl) rfl
theorem wm_7_219 : Cond.methodLink RL 149 yX12_hidden ∈ WG := wg_t7 (List.mem_of_getElem? (i := 219) rfl) rfl
theorem wm_7_22 : Cond.selects RX12 yX12_undo yX12_undo ∈ WG := wg_t7 (List.mem_of_getElem? (i := 22) rfl) rfl
theorem wm_7_220 : Cond.instanceMethod yX12_hidden ∈ WG := wg_t7 (List.mem_of_getElem? (i := 220) rfl) rfl
theorem wm_7_221 : Cond.selects RX12 yX12_hidden yX12_hidden ∈ WG := wg_t7 (List.mem_of_getElem? (i := 221) rfl) rfl
theorem wm_7_222 : Cond.code yX12_hidden cX12_hidden 4 (some .int) ∈ WG := wg_t7 (List.mem_of_getElem? (i := 222) rfl) rfl
theorem wm_7_223 : Cond.methodLink RX12 408 yX12_noHidden ∈ WG := wg_t7 (List.mem_of_getElem? (i := 223) rfl) rfl
theorem wm_7_225 : Cond.instanceMethod yX12_noHidden ∈ WG := wg_t7 (List.mem_of_getElem? (i := 225) rfl) rfl
theorem wm_7_226 : Cond.code yX12_noHidden cX12_noHidden 3 (some .int) ∈ WG := wg_t7 (List.mem_of_getElem? (i := 226) rfl) rfl
theorem wm_7_23 : Cond.code yX12_undo cX12_undo 3 (some .int) ∈ WG := wg_t7 (List.mem_of_getElem? (i := 23) rfl) rfl
theorem wm_7_239 : Cond.methodLink RL 153 yX12_hiddenAt ∈ WG := wg_t7 (List.mem_of_getElem? (i := 239) rfl) rfl
theorem wm_7_24 : Cond.constantLong RX12 289 (10) ∈ WG := wg_t7 (List.mem_of_getElem? (i := 24) rfl) rfl
theorem wm_7_25 : Cond.methodLink RL 67 yX12_judge ∈ WG := wg_t7 (List.mem_of_getElem? (i := 25) rfl) rfl
theorem wm_7_26 : Cond.instanceMethod yX12_judge ∈ WG := wg_t7 (List.mem_of_getElem? (i := 26) rfl) rfl
theorem wm_7_27 : Cond.selects RX12 yX12_judge yX12_judge ∈ WG := wg_t7 (List.mem_of_getElem? (i := 27) rfl) rfl
theorem wm_7_28 : Cond.code yX12_judge cX12_judge 7 (some .int) ∈ WG := wg_t7 (List.mem_of_getElem? (i := 28) rfl) rfl
theorem wm_7_29 : Cond.constantLong RX12 311 (3) ∈ WG := wg_t7 (List.mem_of_getElem? (i := 29) rfl) rfl
theorem wm_7_3 : Cond.code yX12_goes cX12_goes 4 (some .int) ∈ WG := wg_t7 (List.mem_of_getElem? (i := 3) rfl) rfl
theorem wm_7_30 : Cond.methodLink RX12 313 yX12_noTray ∈ WG := wg_t7 (List.mem_of_getElem? (i := 30) rfl) rfl
theorem wm_7_32 : Cond.instanceMethod yX12_noTray ∈ WG := wg_t7 (List.mem_of_getElem? (i := 32) rfl) rfl
theorem wm_7_33 : Cond.code yX12_noTray cX12_noTray 2 (some .int) ∈ WG := wg_t7 (List.mem_of_getElem? (i := 33) rfl) rfl
theorem wm_7_38 : Cond.methodLink RX12 304 yX12_whyNot ∈ WG := wg_t7 (List.mem_of_getElem? (i := 38) rfl) rfl
theorem wm_7_4 : Cond.methodLink RX12 277 yX12_whySend ∈ WG := wg_t7 (List.mem_of_getElem? (i := 4) rfl) rfl
theorem wm_7_40 : Cond.instanceMethod yX12_whyNot ∈ WG := wg_t7 (List.mem_of_getElem? (i := 40) rfl) rfl
theorem wm_7_41 : Cond.code yX12_whyNot cX12_whyNot 3 (some .int) ∈ WG := wg_t7 (List.mem_of_getElem? (i := 41) rfl) rfl
theorem wm_7_42 : Cond.constantLong RX12 291 (-1) ∈ WG := wg_t7 (List.mem_of_getElem? (i := 42) rfl) rfl
theorem wm_7_43 : Cond.constantLong RX12 293 (100) ∈ WG := wg_t7 (List.mem_of_getElem? (i := 43) rfl) rfl
theorem wm_7_44 : Cond.constantLong RX12 295 (109) ∈ WG := wg_t7 (List.mem_of_getElem? (i := 44) rfl) rfl
theorem wm_7_45 : Cond.constantLong RX12 297 (200) ∈ WG := wg_t7 (List.mem_of_getElem? (i := 45) rfl) rfl
theorem wm_7_46 : Cond.constantLong RX12 299 (209) ∈ WG := wg_t7 (List.mem_of_getElem? (i := 46) rfl) rfl
theorem wm_7_47 : Cond.methodLink RX12 308 yX12_does ∈ WG := wg_t7 (List.mem_of_getElem? (i := 47) rfl) rfl
theorem wm_7_49 : Cond.instanceMethod yX12_does ∈ WG := wg_t7 (List.mem_of_getElem? (i := 49) rfl) rfl
theorem wm_7_50 : Cond.code yX12_does cX12_does 2 none ∈ WG := wg_t7 (List.mem_of_getElem? (i := 50) rfl) rfl
theorem wm_7_51 : Cond.methodLink RX12 319 yX12_sitsNow ∈ WG := wg_t7 (List.mem_of_getElem? (i := 51) rfl) rfl
theorem wm_7_53 : Cond.instanceMethod yX12_sitsNow ∈ WG := wg_t7 (List.mem_of_getElem? (i := 53) rfl) rfl
theorem wm_7_54 : Cond.code yX12_sitsNow cX12_sitsNow 2 (some .boolean) ∈ WG := wg_t7 (List.mem_of_getElem? (i := 54) rfl) rfl
theorem wm_7_55 : Cond.methodLink RX12 346 yX12_laysNow ∈ WG := wg_t7 (List.mem_of_getElem? (i := 55) rfl) rfl
theorem wm_7_57 : Cond.instanceMethod yX12_laysNow ∈ WG := wg_t7 (List.mem_of_getElem? (i := 57) rfl) rfl
theorem wm_7_58 : Cond.code yX12_laysNow cX12_laysNow 1 none ∈ WG := wg_t7 (List.mem_of_getElem? (i := 58) rfl) rfl
theorem wm_7_59 : Cond.methodLink RX12 340 yX12_laysOpposed ∈ WG := wg_t7 (List.mem_of_getElem? (i := 59) rfl) rfl
theorem wm_7_6 : Cond.instanceMethod yX12_whySend ∈ WG := wg_t7 (List.mem_of_getElem? (i := 6) rfl) rfl
theorem wm_7_61 : Cond.instanceMethod yX12_laysOpposed ∈ WG := wg_t7 (List.mem_of_getElem? (i := 61) rfl) rfl
theorem wm_7_62 : Cond.code yX12_laysOpposed cX12_laysOpposed 4 none ∈ WG := wg_t7 (List.mem_of_getElem? (i := 62) rfl) rfl
theorem wm_7_63 : Cond.methodLink RX12 343 yX12_laysParted ∈ WG := wg_t7 (List.mem_of_getElem? (i := 63) rfl) rfl
theorem wm_7_65 : Cond.instanceMethod yX12_laysParted ∈ WG := wg_t7 (List.mem_of_getElem? (i := 65) rfl) rfl
theorem wm_7_66 : Cond.code yX12_laysParted cX12_laysParted 5 none ∈ WG := wg_t7 (List.mem_of_getElem? (i := 66) rfl) rfl
theorem wm_7_7 : Cond.code yX12_whySend cX12_whySend 4 (some .int) ∈ WG := wg_t7 (List.mem_of_getElem? (i := 7) rfl) rfl
theorem wm_7_74 : Cond.methodLink RL 71 yX12_perform ∈ WG := wg_t7 (List.mem_of_getElem? (i := 74) rfl) rfl
theorem wm_7_75 : Cond.instanceMethod yX12_perform ∈ WG := wg_t7 (List.mem_of_getElem? (i := 75) rfl) rfl
theorem wm_7_76 : Cond.selects RX12 yX12_perform yX12_perform ∈ WG := wg_t7 (List.mem_of_getElem? (i := 76) rfl) rfl
theorem wm_7_77 : Cond.code yX12_perform cX12_perform 4 (some .int) ∈ WG := wg_t7 (List.mem_of_getElem? (i := 77) rfl) rfl
theorem wm_7_78 : Cond.methodLink RL 75 yX12_year ∈ WG := wg_t7 (List.mem_of_getElem? (i := 78) rfl) rfl
theorem wm_7_79 : Cond.instanceMethod yX12_year ∈ WG := wg_t7 (List.mem_of_getElem? (i := 79) rfl) rfl
theorem wm_7_8 : Cond.methodLink RX12 281 yX12_bitsOf ∈ WG := wg_t7 (List.mem_of_getElem? (i := 8) rfl) rfl
theorem wm_7_80 : Cond.selects RX12 yX12_year yX12_year ∈ WG := wg_t7 (List.mem_of_getElem? (i := 80) rfl) rfl
theorem wm_7_81 : Cond.code yX12_year cX12_year 6 (some .int) ∈ WG := wg_t7 (List.mem_of_getElem? (i := 81) rfl) rfl
theorem wm_7_82 : Cond.constantLong RX12 332 (40) ∈ WG := wg_t7 (List.mem_of_getElem? (i := 82) rfl) rfl
theorem wm_7_83 : Cond.methodLink RX12 334 yX12_drawn ∈ WG := wg_t7 (List.mem_of_getElem? (i := 83) rfl) rfl
theorem wm_7_85 : Cond.instanceMethod yX12_drawn ∈ WG := wg_t7 (List.mem_of_getElem? (i := 85) rfl) rfl
theorem wm_7_86 : Cond.code yX12_drawn cX12_drawn 3 (some .int) ∈ WG := wg_t7 (List.mem_of_getElem? (i := 86) rfl) rfl
theorem wm_7_87 : Cond.methodLink RX12 329 yX12_draw ∈ WG := wg_t7 (List.mem_of_getElem? (i := 87) rfl) rfl
theorem wm_7_89 : Cond.instanceMethod yX12_draw ∈ WG := wg_t7 (List.mem_of_getElem? (i := 89) rfl) rfl
theorem wm_7_9 : Cond.static yX12_bitsOf ∈ WG := wg_t7 (List.mem_of_getElem? (i := 9) rfl) rfl
theorem wm_7_90 : Cond.code yX12_draw cX12_draw 2 (some .int) ∈ WG := wg_t7 (List.mem_of_getElem? (i := 90) rfl) rfl
theorem wm_7_91 : Cond.constant RX12 325 (1103515245) ∈ WG := wg_t7 (List.mem_of_getElem? (i := 91) rfl) rfl
theorem wm_7_92 : Cond.methodLink RL 79 yX12_sits ∈ WG := wg_t7 (List.mem_of_getElem? (i := 92) rfl) rfl
theorem wm_7_93 : Cond.instanceMethod yX12_sits ∈ WG := wg_t7 (List.mem_of_getElem? (i := 93) rfl) rfl
theorem wm_7_94 : Cond.selects RX12 yX12_sits yX12_sits ∈ WG := wg_t7 (List.mem_of_getElem? (i := 94) rfl) rfl
theorem wm_7_95 : Cond.code yX12_sits cX12_sits 2 (some .int) ∈ WG := wg_t7 (List.mem_of_getElem? (i := 95) rfl) rfl
theorem wm_7_96 : Cond.methodLink RX12 349 yX12_isSet ∈ WG := wg_t7 (List.mem_of_getElem? (i := 96) rfl) rfl
theorem wm_7_98 : Cond.instanceMethod yX12_isSet ∈ WG := wg_t7 (List.mem_of_getElem? (i := 98) rfl) rfl
theorem wm_7_99 : Cond.code yX12_isSet cX12_isSet 2 (some .boolean) ∈ WG := wg_t7 (List.mem_of_getElem? (i := 99) rfl) rfl
theorem wm_8_0 : Cond.instanceMethod yX12_hiddenAt ∈ WG := wg_t8 (List.mem_of_getElem? (i := 0) rfl) rfl
theorem wm_8_1 : Cond.selects RX12 yX12_hiddenAt yX12_hiddenAt ∈ WG := wg_t8 (List.mem_of_getElem? (i := 1) rfl) rfl
theorem wm_8_10 : Cond.code yX12_chance cX12_chance 9 (some .long) ∈ WG := wg_t8 (List.mem_of_getElem? (i := 10) rfl) rfl
theorem wm_8_11 : Cond.constantLong RX12 418 (-2) ∈ WG := wg_t8 (List.mem_of_getElem? (i := 11) rfl) rfl
theorem wm_8_12 : Cond.constantLong RX12 420 (-3) ∈ WG := wg_t8 (List.mem_of_getElem? (i := 12) rfl) rfl
theorem wm_8_13 : Cond.methodLink RX12 422 yX12_chanceOf ∈ WG := wg_t8 (List.mem_of_getElem? (i := 13) rfl) rfl
theorem wm_8_15 : Cond.instanceMethod yX12_chanceOf ∈ WG := wg_t8 (List.mem_of_getElem? (i := 15) rfl) rfl
theorem wm_8_16 : Cond.code yX12_chanceOf cX12_chanceOf 8 (some .long) ∈ WG := wg_t8 (List.mem_of_getElem? (i := 16) rfl) rfl
theorem wm_8_17 : Cond.methodLink RX12 426 yX12_tens ∈ WG := wg_t8 (List.mem_of_getElem? (i := 17) rfl) rfl
theorem wm_8_18 : Cond.static yX12_tens ∈ WG := wg_t8 (List.mem_of_getElem? (i := 18) rfl) rfl
theorem wm_8_19 : Cond.code yX12_tens cX12_tens 4 (some .long) ∈ WG := wg_t8 (List.mem_of_getElem? (i := 19) rfl) rfl
theorem wm_8_2 : Cond.code yX12_hiddenAt cX12_hiddenAt 5 (some .int) ∈ WG := wg_t8 (List.mem_of_getElem? (i := 2) rfl) rfl
theorem wm_8_20 : Cond.methodLink RX12 414 yX12_common ∈ WG := wg_t8 (List.mem_of_getElem? (i := 20) rfl) rfl
theorem wm_8_21 : Cond.static yX12_common ∈ WG := wg_t8 (List.mem_of_getElem? (i := 21) rfl) rfl
theorem wm_8_22 : Cond.code yX12_common cX12_common 4 (some .long) ∈ WG := wg_t8 (List.mem_of_getElem? (i := 22) rfl) rfl
theorem wm_8_23 : Cond.methodLink RL 166 yX12_reserve ∈ WG := wg_t8 (List.mem_of_getElem? (i := 23) rfl) rfl
theorem wm_8_24 : Cond.instanceMethod yX12_reserve ∈ WG := wg_t8 (List.mem_of_getElem? (i := 24) rfl) rfl
theorem wm_8_25 : Cond.selects RX12 yX12_reserve yX12_reserve ∈ WG := wg_t8 (List.mem_of_getElem? (i := 25) rfl) rfl
theorem wm_8_26 : Cond.code yX12_reserve cX12_reserve 9 (some .int) ∈ WG := wg_t8 (List.mem_of_getElem? (i := 26) rfl) rfl
theorem wm_8_27 : Cond.methodLink RL 170 yX12_numbers ∈ WG := wg_t8 (List.mem_of_getElem? (i := 27) rfl) rfl
theorem wm_8_28 : Cond.instanceMethod yX12_numbers ∈ WG := wg_t8 (List.mem_of_getElem? (i := 28) rfl) rfl
theorem wm_8_29 : Cond.selects RX12 yX12_numbers yX12_numbers ∈ WG := wg_t8 (List.mem_of_getElem? (i := 29) rfl) rfl
theorem wm_8_3 : Cond.methodLink RL 157 yX12_probe ∈ WG := wg_t8 (List.mem_of_getElem? (i := 3) rfl) rfl
theorem wm_8_30 : Cond.code yX12_numbers cX12_numbers 5 (some .int) ∈ WG := wg_t8 (List.mem_of_getElem? (i := 30) rfl) rfl
theorem wm_8_31 : Cond.methodLink RL 177 yX12_write ∈ WG := wg_t8 (List.mem_of_getElem? (i := 31) rfl) rfl
theorem wm_8_32 : Cond.instanceMethod yX12_write ∈ WG := wg_t8 (List.mem_of_getElem? (i := 32) rfl) rfl
theorem wm_8_33 : Cond.selects RX12 yX12_write yX12_write ∈ WG := wg_t8 (List.mem_of_getElem? (i := 33) rfl) rfl
theorem wm_8_34 : Cond.code yX12_write cX12_write 6 (some .long) ∈ WG := wg_t8 (List.mem_of_getElem? (i := 34) rfl) rfl
theorem wm_8_39 : Cond.methodLink RL 181 yX12_lists ∈ WG := wg_t8 (List.mem_of_getElem? (i := 39) rfl) rfl
theorem wm_8_4 : Cond.instanceMethod yX12_probe ∈ WG := wg_t8 (List.mem_of_getElem? (i := 4) rfl) rfl
theorem wm_8_40 : Cond.instanceMethod yX12_lists ∈ WG := wg_t8 (List.mem_of_getElem? (i := 40) rfl) rfl
theorem wm_8_41 : Cond.selects RX12 yX12_lists yX12_lists ∈ WG := wg_t8 (List.mem_of_getElem? (i := 41) rfl) rfl
theorem wm_8_42 : Cond.code yX12_lists cX12_lists 8 (some .int) ∈ WG := wg_t8 (List.mem_of_getElem? (i := 42) rfl) rfl
theorem wm_8_43 : Cond.methodLink RL 185 yX12_image ∈ WG := wg_t8 (List.mem_of_getElem? (i := 43) rfl) rfl
theorem wm_8_44 : Cond.instanceMethod yX12_image ∈ WG := wg_t8 (List.mem_of_getElem? (i := 44) rfl) rfl
theorem wm_8_45 : Cond.selects RX12 yX12_image yX12_image ∈ WG := wg_t8 (List.mem_of_getElem? (i := 45) rfl) rfl
theorem wm_8_46 : Cond.code yX12_image cX12_image 3 (some .int) ∈ WG := wg_t8 (List.mem_of_getElem? (i := 46) rfl) rfl
theorem wm_8_47 : Cond.methodLink RL 189 yX12_restore ∈ WG := wg_t8 (List.mem_of_getElem? (i := 47) rfl) rfl
theorem wm_8_48 : Cond.instanceMethod yX12_restore ∈ WG := wg_t8 (List.mem_of_getElem? (i := 48) rfl) rfl
theorem wm_8_49 : Cond.selects RX12 yX12_restore yX12_restore ∈ WG := wg_t8 (List.mem_of_getElem? (i := 49) rfl) rfl
theorem wm_8_5 : Cond.selects RX12 yX12_probe yX12_probe ∈ WG := wg_t8 (List.mem_of_getElem? (i := 5) rfl) rfl
theorem wm_8_50 : Cond.code yX12_restore cX12_restore 3 (some .int) ∈ WG := wg_t8 (List.mem_of_getElem? (i := 50) rfl) rfl
theorem wm_8_51 : Cond.methodLink RL 193 yX12_count ∈ WG := wg_t8 (List.mem_of_getElem? (i := 51) rfl) rfl
theorem wm_8_52 : Cond.instanceMethod yX12_count ∈ WG := wg_t8 (List.mem_of_getElem? (i := 52) rfl) rfl
theorem wm_8_53 : Cond.selects RX12 yX12_count yX12_count ∈ WG := wg_t8 (List.mem_of_getElem? (i := 53) rfl) rfl
theorem wm_8_54 : Cond.code yX12_count cX12_count 2 (some .int) ∈ WG := wg_t8 (List.mem_of_getElem? (i := 54) rfl) rfl
theorem wm_8_55 : Cond.methodLink RX12 435 yX12_twosNow ∈ WG := wg_t8 (List.mem_of_getElem? (i := 55) rfl) rfl
theorem wm_8_57 : Cond.instanceMethod yX12_twosNow ∈ WG := wg_t8 (List.mem_of_getElem? (i := 57) rfl) rfl
theorem wm_8_58 : Cond.code yX12_twosNow cX12_twosNow 3 (some .int) ∈ WG := wg_t8 (List.mem_of_getElem? (i := 58) rfl) rfl
theorem wm_8_59 : Cond.constantLong RL 171 (4294967295) ∈ WG := wg_t8 (List.mem_of_getElem? (i := 59) rfl) rfl
theorem wm_8_6 : Cond.code yX12_probe cX12_probe 11 (some .int) ∈ WG := wg_t8 (List.mem_of_getElem? (i := 6) rfl) rfl
theorem wm_8_7 : Cond.methodLink RL 162 yX12_chance ∈ WG := wg_t8 (List.mem_of_getElem? (i := 7) rfl) rfl
theorem wm_8_8 : Cond.instanceMethod yX12_chance ∈ WG := wg_t8 (List.mem_of_getElem? (i := 8) rfl) rfl
theorem wm_8_9 : Cond.selects RX12 yX12_chance yX12_chance ∈ WG := wg_t8 (List.mem_of_getElem? (i := 9) rfl) rfl
theorem wp_1_0 : Cond.selects RX11 yX11_putOnTape yX11_putOnTape ∈ WG := wg_p (q := (yX11_putOnTape, 17)) (wg_p1 (List.mem_of_getElem? (i := 0) rfl)) rfl
theorem wp_1_1 : Cond.selects RX8 yX8_endOf yX8_endOf ∈ WG := wg_p (q := (yX8_endOf, 6)) (wg_p1 (List.mem_of_getElem? (i := 1) rfl)) rfl
theorem wp_1_10 : Cond.selects RX5 yX5_refuse yX5_refuse ∈ WG := wg_p (q := (yX5_refuse, 9)) (wg_p1 (List.mem_of_getElem? (i := 10) rfl)) rfl
theorem wp_1_11 : Cond.selects RX5 yX5_takeNumber yX5_takeNumber ∈ WG := wg_p (q := (yX5_takeNumber, 9)) (wg_p1 (List.mem_of_getElem? (i := 11) rfl)) rfl
theorem wp_1_2 : Cond.selects RX8 yX8_isLetter yX8_isLetter ∈ WG := wg_p (q := (yX8_isLetter, 6)) (wg_p1 (List.mem_of_getElem? (i := 2) rfl)) rfl
theorem wp_1_3 : Cond.selects RX8 yX8_isDigit yX8_isDigit ∈ WG := wg_p (q := (yX8_isDigit, 6)) (wg_p1 (List.mem_of_getElem? (i := 3) rfl)) rfl
theorem wp_1_4 : Cond.selects RX8 yX8_kindOf yX8_kindOf ∈ WG := wg_p (q := (yX8_kindOf, 6)) (wg_p1 (List.mem_of_getElem? (i := 4) rfl)) rfl
theorem wp_1_8 : Cond.selects RX5 yX5_advance yX5_advance ∈ WG := wg_p (q := (yX5_advance, 9)) (wg_p1 (List.mem_of_getElem? (i := 8) rfl)) rfl
theorem wp_1_9 : Cond.selects RX5 yX5_take yX5_take ∈ WG := wg_p (q := (yX5_take, 9)) (wg_p1 (List.mem_of_getElem? (i := 9) rfl)) rfl
theorem wp_2_11 : Cond.selects RX11 yX11_areTwoPeople yX11_areTwoPeople ∈ WG := wg_p (q := (yX11_areTwoPeople, 17)) (wg_p2 (List.mem_of_getElem? (i := 11) rfl)) rfl
theorem wp_2_13 : Cond.selects RX7 yX7_whyNoTalk yX7_whyNoTalk ∈ WG := wg_p (q := (yX7_whyNoTalk, 4)) (wg_p2 (List.mem_of_getElem? (i := 13) rfl)) rfl
theorem wp_2_15 : Cond.selects RX11 yX11_remember yX11_remember ∈ WG := wg_p (q := (yX11_remember, 17)) (wg_p2 (List.mem_of_getElem? (i := 15) rfl)) rfl
theorem wp_2_8 : Cond.selects RX11 yX11_isPerson yX11_isPerson ∈ WG := wg_p (q := (yX11_isPerson, 17)) (wg_p2 (List.mem_of_getElem? (i := 8) rfl)) rfl
theorem wp_3_0 : Cond.selects RX11 yX11_sendOrCall yX11_sendOrCall ∈ WG := wg_p (q := (yX11_sendOrCall, 17)) (wg_p3 (List.mem_of_getElem? (i := 0) rfl)) rfl
theorem wp_3_1 : Cond.selects RX11 yX11_isTray yX11_isTray ∈ WG := wg_p (q := (yX11_isTray, 17)) (wg_p3 (List.mem_of_getElem? (i := 1) rfl)) rfl
theorem wp_3_12 : Cond.selects RX11 yX11_isBill yX11_isBill ∈ WG := wg_p (q := (yX11_isBill, 17)) (wg_p3 (List.mem_of_getElem? (i := 12) rfl)) rfl
theorem wp_3_13 : Cond.selects RX11 yX11_sayers yX11_sayers ∈ WG := wg_p (q := (yX11_sayers, 17)) (wg_p3 (List.mem_of_getElem? (i := 13) rfl)) rfl
theorem wp_3_14 : Cond.selects RX11 yX11_fewestSent yX11_fewestSent ∈ WG := wg_p (q := (yX11_fewestSent, 17)) (wg_p3 (List.mem_of_getElem? (i := 14) rfl)) rfl
theorem wp_3_15 : Cond.selects RX11 yX11_refusedGuess yX11_refusedGuess ∈ WG := wg_p (q := (yX11_refusedGuess, 17)) (wg_p3 (List.mem_of_getElem? (i := 15) rfl)) rfl
theorem wp_3_2 : Cond.selects RX11 yX11_townSits yX11_townSits ∈ WG := wg_p (q := (yX11_townSits, 17)) (wg_p3 (List.mem_of_getElem? (i := 2) rfl)) rfl
theorem wp_3_3 : Cond.selects RX11 yX11_isSet yX11_isSet ∈ WG := wg_p (q := (yX11_isSet, 17)) (wg_p3 (List.mem_of_getElem? (i := 3) rfl)) rfl
theorem wp_3_4 : Cond.selects RX11 yX11_everybody yX11_everybody ∈ WG := wg_p (q := (yX11_everybody, 17)) (wg_p3 (List.mem_of_getElem? (i := 4) rfl)) rfl
theorem wp_3_5 : Cond.selects RX11 yX11_drawToday yX11_drawToday ∈ WG := wg_p (q := (yX11_drawToday, 17)) (wg_p3 (List.mem_of_getElem? (i := 5) rfl)) rfl
theorem wp_3_9 : Cond.selects RX0 yX0_opposeAllOf yX0_opposeAllOf ∈ WG := wg_p (q := (yX0_opposeAllOf, 4)) (wg_p3 (List.mem_of_getElem? (i := 9) rfl)) rfl
theorem wp_4_10 : Cond.selects RX12 yX12_ends yX12_ends ∈ WG := wg_p (q := (yX12_ends, 37)) (wg_p4 (List.mem_of_getElem? (i := 10) rfl)) rfl
theorem wp_4_2 : Cond.selects RX11 yX11_opposedTwos yX11_opposedTwos ∈ WG := wg_p (q := (yX11_opposedTwos, 17)) (wg_p4 (List.mem_of_getElem? (i := 2) rfl)) rfl
theorem wp_4_3 : Cond.selects RX12 yX12_next yX12_next ∈ WG := wg_p (q := (yX12_next, 37)) (wg_p4 (List.mem_of_getElem? (i := 3) rfl)) rfl
theorem wp_4_4 : Cond.selects RX12 yX12_see yX12_see ∈ WG := wg_p (q := (yX12_see, 37)) (wg_p4 (List.mem_of_getElem? (i := 4) rfl)) rfl
theorem wp_4_6 : Cond.selects RX12 yX12_eats yX12_eats ∈ WG := wg_p (q := (yX12_eats, 37)) (wg_p4 (List.mem_of_getElem? (i := 6) rfl)) rfl
theorem wp_4_7 : Cond.selects RX12 yX12_is yX12_is ∈ WG := wg_p (q := (yX12_is, 37)) (wg_p4 (List.mem_of_getElem? (i := 7) rfl)) rfl
theorem wp_4_8 : Cond.selects RX12 yX12_fails yX12_fails ∈ WG := wg_p (q := (yX12_fails, 37)) (wg_p4 (List.mem_of_getElem? (i := 8) rfl)) rfl
theorem wp_4_9 : Cond.selects RX12 yX12_takes yX12_takes ∈ WG := wg_p (q := (yX12_takes, 37)) (wg_p4 (List.mem_of_getElem? (i := 9) rfl)) rfl
theorem wp_5_10 : Cond.selects RX12 yX12_townOn yX12_townOn ∈ WG := wg_p (q := (yX12_townOn, 37)) (wg_p5 (List.mem_of_getElem? (i := 10) rfl)) rfl
theorem wp_5_15 : Cond.selects RX12 yX12_whyTalk yX12_whyTalk ∈ WG := wg_p (q := (yX12_whyTalk, 37)) (wg_p5 (List.mem_of_getElem? (i := 15) rfl)) rfl
theorem wp_5_8 : Cond.selects RX12 yX12_isPerson yX12_isPerson ∈ WG := wg_p (q := (yX12_isPerson, 37)) (wg_p5 (List.mem_of_getElem? (i := 8) rfl)) rfl
theorem wp_5_9 : Cond.selects RX12 yX12_townNow yX12_townNow ∈ WG := wg_p (q := (yX12_townNow, 37)) (wg_p5 (List.mem_of_getElem? (i := 9) rfl)) rfl
theorem wp_6_0 : Cond.selects RX12 yX12_keeps yX12_keeps ∈ WG := wg_p (q := (yX12_keeps, 37)) (wg_p6 (List.mem_of_getElem? (i := 0) rfl)) rfl
theorem wp_6_10 : Cond.selects RX12 yX12_sitsNow yX12_sitsNow ∈ WG := wg_p (q := (yX12_sitsNow, 37)) (wg_p6 (List.mem_of_getElem? (i := 10) rfl)) rfl
theorem wp_6_11 : Cond.selects RX12 yX12_laysNow yX12_laysNow ∈ WG := wg_p (q := (yX12_laysNow, 37)) (wg_p6 (List.mem_of_getElem? (i := 11) rfl)) rfl
theorem wp_6_12 : Cond.selects RX12 yX12_laysOpposed yX12_laysOpposed ∈ WG := wg_p (q := (yX12_laysOpposed, 37)) (wg_p6 (List.mem_of_getElem? (i := 12) rfl)) rfl
theorem wp_6_13 : Cond.selects RX12 yX12_laysParted yX12_laysParted ∈ WG := wg_p (q := (yX12_laysParted, 37)) (wg_p6 (List.mem_of_getElem? (i := 13) rfl)) rfl
theorem wp_6_15 : Cond.selects RX12 yX12_drawn yX12_drawn ∈ WG := wg_p (q := (yX12_drawn, 37)) (wg_p6 (List.mem_of_getElem? (i := 15) rfl)) rfl
theorem wp_6_3 : Cond.selects RX12 yX12_notes yX12_notes ∈ WG := wg_p (q := (yX12_notes, 37)) (wg_p6 (List.mem_of_getElem? (i := 3) rfl)) rfl
theorem wp_6_4 : Cond.selects RX12 yX12_goes yX12_goes ∈ WG := wg_p (q := (yX12_goes, 37)) (wg_p6 (List.mem_of_getElem? (i := 4) rfl)) rfl
theorem wp_6_5 : Cond.selects RX12 yX12_whySend yX12_whySend ∈ WG := wg_p (q := (yX12_whySend, 37)) (wg_p6 (List.mem_of_getElem? (i := 5) rfl)) rfl
theorem wp_6_6 : Cond.selects RX12 yX12_noTray yX12_noTray ∈ WG := wg_p (q := (yX12_noTray, 37)) (wg_p6 (List.mem_of_getElem? (i := 6) rfl)) rfl
theorem wp_6_8 : Cond.selects RX12 yX12_whyNot yX12_whyNot ∈ WG := wg_p (q := (yX12_whyNot, 37)) (wg_p6 (List.mem_of_getElem? (i := 8) rfl)) rfl
theorem wp_6_9 : Cond.selects RX12 yX12_does yX12_does ∈ WG := wg_p (q := (yX12_does, 37)) (wg_p6 (List.mem_of_getElem? (i := 9) rfl)) rfl
theorem wp_7_0 : Cond.selects RX12 yX12_draw yX12_draw ∈ WG := wg_p (q := (yX12_draw, 37)) (wg_p7 (List.mem_of_getElem? (i := 0) rfl)) rfl
theorem wp_7_1 : Cond.selects RX12 yX12_isSet yX12_isSet ∈ WG := wg_p (q := (yX12_isSet, 37)) (wg_p7 (List.mem_of_getElem? (i := 1) rfl)) rfl
theorem wp_7_12 : Cond.selects RX12 yX12_ayesOf yX12_ayesOf ∈ WG := wg_p (q := (yX12_ayesOf, 37)) (wg_p7 (List.mem_of_getElem? (i := 12) rfl)) rfl
theorem wp_7_14 : Cond.selects RX12 yX12_passedBy yX12_passedBy ∈ WG := wg_p (q := (yX12_passedBy, 37)) (wg_p7 (List.mem_of_getElem? (i := 14) rfl)) rfl
theorem wp_7_15 : Cond.selects RX12 yX12_noHidden yX12_noHidden ∈ WG := wg_p (q := (yX12_noHidden, 37)) (wg_p7 (List.mem_of_getElem? (i := 15) rfl)) rfl
theorem wp_7_2 : Cond.selects RX12 yX12_everybody yX12_everybody ∈ WG := wg_p (q := (yX12_everybody, 37)) (wg_p7 (List.mem_of_getElem? (i := 2) rfl)) rfl
theorem wp_7_3 : Cond.selects RX12 yX12_laysPairs yX12_laysPairs ∈ WG := wg_p (q := (yX12_laysPairs, 37)) (wg_p7 (List.mem_of_getElem? (i := 3) rfl)) rfl
theorem wp_7_4 : Cond.selects RX12 yX12_goesPairs yX12_goesPairs ∈ WG := wg_p (q := (yX12_goesPairs, 37)) (wg_p7 (List.mem_of_getElem? (i := 4) rfl)) rfl
theorem wp_7_5 : Cond.selects RX12 yX12_piecesOf yX12_piecesOf ∈ WG := wg_p (q := (yX12_piecesOf, 37)) (wg_p7 (List.mem_of_getElem? (i := 5) rfl)) rfl
theorem wp_7_7 : Cond.selects RX12 yX12_isCovered yX12_isCovered ∈ WG := wg_p (q := (yX12_isCovered, 37)) (wg_p7 (List.mem_of_getElem? (i := 7) rfl)) rfl
theorem wp_7_8 : Cond.selects RX12 yX12_areTwo yX12_areTwo ∈ WG := wg_p (q := (yX12_areTwo, 37)) (wg_p7 (List.mem_of_getElem? (i := 8) rfl)) rfl
theorem wp_8_3 : Cond.selects RX12 yX12_chanceOf yX12_chanceOf ∈ WG := wg_p (q := (yX12_chanceOf, 37)) (wg_p8 (List.mem_of_getElem? (i := 3) rfl)) rfl
theorem wp_8_4 : Cond.selects RX12 yX12_twosNow yX12_twosNow ∈ WG := wg_p (q := (yX12_twosNow, 37)) (wg_p8 (List.mem_of_getElem? (i := 4) rfl)) rfl
theorem wf_0 : ∀ w ∈ u_ws RX0 TX0 4, w ∈ WG := by
  intro w hw
  obtain ⟨k, hk, rfl⟩ := List.mem_map.mp hw
  have hk := List.mem_range.mp hk
  match k, hk with
  | 0, _ => exact wg_t1 (List.mem_of_getElem? (i := 204) rfl) rfl
  | 1, _ => exact wg_t1 (List.mem_of_getElem? (i := 206) rfl) rfl
  | 2, _ => exact wg_t1 (List.mem_of_getElem? (i := 208) rfl) rfl
  | 3, _ => exact wg_t1 (List.mem_of_getElem? (i := 210) rfl) rfl
  | n + 4, hk => exact absurd hk (by omega)
theorem df_0 : ∀ j, j < 4 → defaultValue (tyX0 j) = vp_V [.int 0, .null, .null, .null] j := by
  intro k hk
  match k, hk with
  | 0, _ => rfl
  | 1, _ => rfl
  | 2, _ => rfl
  | 3, _ => rfl
  | n + 4, hk => exact absurd hk (by omega)
theorem wf_1 : ∀ w ∈ u_ws RX1 TX1 5, w ∈ WG := by
  intro w hw
  obtain ⟨k, hk, rfl⟩ := List.mem_map.mp hw
  have hk := List.mem_range.mp hk
  match k, hk with
  | 0, _ => exact wg_t2 (List.mem_of_getElem? (i := 19) rfl) rfl
  | 1, _ => exact wg_t2 (List.mem_of_getElem? (i := 21) rfl) rfl
  | 2, _ => exact wg_t2 (List.mem_of_getElem? (i := 23) rfl) rfl
  | 3, _ => exact wg_t2 (List.mem_of_getElem? (i := 25) rfl) rfl
  | 4, _ => exact wg_t2 (List.mem_of_getElem? (i := 27) rfl) rfl
  | n + 5, hk => exact absurd hk (by omega)
theorem df_1 : ∀ j, j < 5 → defaultValue (tyX1 j) = vp_V [.int 0, .int 0, .int 0, .int 0, .null] j := by
  intro k hk
  match k, hk with
  | 0, _ => rfl
  | 1, _ => rfl
  | 2, _ => rfl
  | 3, _ => rfl
  | 4, _ => rfl
  | n + 5, hk => exact absurd hk (by omega)
theorem wf_2 : ∀ w ∈ u_ws RX2 TX2 2, w ∈ WG := by
  intro w hw
  obtain ⟨k, hk, rfl⟩ := List.mem_map.mp hw
  have hk := List.mem_range.mp hk
  match k, hk with
  | 0, _ => exact wg_t2 (List.mem_of_getElem? (i := 75) rfl) rfl
  | 1, _ => exact wg_t2 (List.mem_of_getElem? (i := 77) rfl) rfl
  | n + 2, hk => exact absurd hk (by omega)
theorem df_2 : ∀ j, j < 2 → defaultValue (tyX2 j) = vp_V [.int 0, .null] j := by
  intro k hk
  match k, hk with
  | 0, _ => rfl
  | 1, _ => rfl
  | n + 2, hk => exact absurd hk (by omega)
theorem wf_3 : ∀ w ∈ u_ws RX3 TX3 12, w ∈ WG := by
  intro w hw
  obtain ⟨k, hk, rfl⟩ := List.mem_map.mp hw
  have hk := List.mem_range.mp hk
  match k, hk with
  | 0, _ => exact wg_t1 (List.mem_of_getElem? (i := 119) rfl) rfl
  | 1, _ => exact wg_t1 (List.mem_of_getElem? (i := 121) rfl) rfl
  | 2, _ => exact wg_t1 (List.mem_of_getElem? (i := 123) rfl) rfl
  | 3, _ => exact wg_t1 (List.mem_of_getElem? (i := 125) rfl) rfl
  | 4, _ => exact wg_t1 (List.mem_of_getElem? (i := 127) rfl) rfl
  | 5, _ => exact wg_t1 (List.mem_of_getElem? (i := 129) rfl) rfl
  | 6, _ => exact wg_t1 (List.mem_of_getElem? (i := 131) rfl) rfl
  | 7, _ => exact wg_t1 (List.mem_of_getElem? (i := 133) rfl) rfl
  | 8, _ => exact wg_t1 (List.mem_of_getElem? (i := 135) rfl) rfl
  | 9, _ => exact wg_t1 (List.mem_of_getElem? (i := 137) rfl) rfl
  | 10, _ => exact wg_t1 (List.mem_of_getElem? (i := 139) rfl) rfl
  | 11, _ => exact wg_t1 (List.mem_of_getElem? (i := 141) rfl) rfl
  | n + 12, hk => exact absurd hk (by omega)
theorem df_3 : ∀ j, j < 12 → defaultValue (tyX3 j) = vp_V [.int 0, .int 0, .int 0, .int 0, .null, .null, .null, .null, .null, .null, .null, .null] j := by
  intro k hk
  match k, hk with
  | 0, _ => rfl
  | 1, _ => rfl
  | 2, _ => rfl
  | 3, _ => rfl
  | 4, _ => rfl
  | 5, _ => rfl
  | 6, _ => rfl
  | 7, _ => rfl
  | 8, _ => rfl
  | 9, _ => rfl
  | 10, _ => rfl
  | 11, _ => rfl
  | n + 12, hk => exact absurd hk (by omega)
theorem wf_4 : ∀ w ∈ u_ws RX4 TX4 1, w ∈ WG := by
  intro w hw
  obtain ⟨k, hk, rfl⟩ := List.mem_map.mp hw
  have hk := List.mem_range.mp hk
  match k, hk with
  | 0, _ => exact wg_t3 (List.mem_of_getElem? (i := 154) rfl) rfl
  | n + 1, hk => exact absurd hk (by omega)
theorem df_4 : ∀ j, j < 1 → defaultValue (tyX4 j) = vp_V [.null] j := by
  intro k hk
  match k, hk with
  | 0, _ => rfl
  | n + 1, hk => exact absurd hk (by omega)
theorem wf_5 : ∀ w ∈ u_ws RX5 TX5 9, w ∈ WG := by
  intro w hw
  obtain ⟨k, hk, rfl⟩ := List.mem_map.mp hw
  have hk := List.mem_range.mp hk
  match k, hk with
  | 0, _ => exact wg_t1 (List.mem_of_getElem? (i := 155) rfl) rfl
  | 1, _ => exact wg_t1 (List.mem_of_getElem? (i := 157) rfl) rfl
  | 2, _ => exact wg_t1 (List.mem_of_getElem? (i := 159) rfl) rfl
  | 3, _ => exact wg_t1 (List.mem_of_getElem? (i := 161) rfl) rfl
  | 4, _ => exact wg_t1 (List.mem_of_getElem? (i := 163) rfl) rfl
  | 5, _ => exact wg_t1 (List.mem_of_getElem? (i := 165) rfl) rfl
  | 6, _ => exact wg_t1 (List.mem_of_getElem? (i := 167) rfl) rfl
  | 7, _ => exact wg_t1 (List.mem_of_getElem? (i := 169) rfl) rfl
  | 8, _ => exact wg_t1 (List.mem_of_getElem? (i := 171) rfl) rfl
  | n + 9, hk => exact absurd hk (by omega)
theorem df_5 : ∀ j, j < 9 → defaultValue (tyX5 j) = vp_V [.null, .int 0, .int 0, .int 0, .int 0, .null, .null, .int 0, .int 0] j := by
  intro k hk
  match k, hk with
  | 0, _ => rfl
  | 1, _ => rfl
  | 2, _ => rfl
  | 3, _ => rfl
  | 4, _ => rfl
  | 5, _ => rfl
  | 6, _ => rfl
  | 7, _ => rfl
  | 8, _ => rfl
  | n + 9, hk => exact absurd hk (by omega)
theorem wf_6 : ∀ w ∈ u_ws RX6 TX6 2, w ∈ WG := by
  intro w hw
  obtain ⟨k, hk, rfl⟩ := List.mem_map.mp hw
  have hk := List.mem_range.mp hk
  match k, hk with
  | 0, _ => exact wg_t1 (List.mem_of_getElem? (i := 186) rfl) rfl
  | 1, _ => exact wg_t1 (List.mem_of_getElem? (i := 188) rfl) rfl
  | n + 2, hk => exact absurd hk (by omega)
theorem df_6 : ∀ j, j < 2 → defaultValue (tyX6 j) = vp_V [.null, .null] j := by
  intro k hk
  match k, hk with
  | 0, _ => rfl
  | 1, _ => rfl
  | n + 2, hk => exact absurd hk (by omega)
theorem wf_7 : ∀ w ∈ u_ws RX7 TX7 4, w ∈ WG := by
  intro w hw
  obtain ⟨k, hk, rfl⟩ := List.mem_map.mp hw
  have hk := List.mem_range.mp hk
  match k, hk with
  | 0, _ => exact wg_t2 (List.mem_of_getElem? (i := 55) rfl) rfl
  | 1, _ => exact wg_t2 (List.mem_of_getElem? (i := 57) rfl) rfl
  | 2, _ => exact wg_t2 (List.mem_of_getElem? (i := 59) rfl) rfl
  | 3, _ => exact wg_t2 (List.mem_of_getElem? (i := 61) rfl) rfl
  | n + 4, hk => exact absurd hk (by omega)
theorem df_7 : ∀ j, j < 4 → defaultValue (tyX7 j) = vp_V [.null, .int 0, .int 0, .null] j := by
  intro k hk
  match k, hk with
  | 0, _ => rfl
  | 1, _ => rfl
  | 2, _ => rfl
  | 3, _ => rfl
  | n + 4, hk => exact absurd hk (by omega)
theorem wf_8 : ∀ w ∈ u_ws RX8 TX8 6, w ∈ WG := by
  intro w hw
  obtain ⟨k, hk, rfl⟩ := List.mem_map.mp hw
  have hk := List.mem_range.mp hk
  match k, hk with
  | 0, _ => exact wg_t1 (List.mem_of_getElem? (i := 53) rfl) rfl
  | 1, _ => exact wg_t1 (List.mem_of_getElem? (i := 55) rfl) rfl
  | 2, _ => exact wg_t1 (List.mem_of_getElem? (i := 57) rfl) rfl
  | 3, _ => exact wg_t1 (List.mem_of_getElem? (i := 59) rfl) rfl
  | 4, _ => exact wg_t1 (List.mem_of_getElem? (i := 61) rfl) rfl
  | 5, _ => exact wg_t1 (List.mem_of_getElem? (i := 63) rfl) rfl
  | n + 6, hk => exact absurd hk (by omega)
theorem df_8 : ∀ j, j < 6 → defaultValue (tyX8 j) = vp_V [.null, .int 0, .int 0, .null, .null, .null] j := by
  intro k hk
  match k, hk with
  | 0, _ => rfl
  | 1, _ => rfl
  | 2, _ => rfl
  | 3, _ => rfl
  | 4, _ => rfl
  | 5, _ => rfl
  | n + 6, hk => exact absurd hk (by omega)
theorem wf_9 : ∀ w ∈ u_ws RX9 TX9 3, w ∈ WG := by
  intro w hw
  obtain ⟨k, hk, rfl⟩ := List.mem_map.mp hw
  have hk := List.mem_range.mp hk
  match k, hk with
  | 0, _ => exact wg_t2 (List.mem_of_getElem? (i := 90) rfl) rfl
  | 1, _ => exact wg_t2 (List.mem_of_getElem? (i := 92) rfl) rfl
  | 2, _ => exact wg_t2 (List.mem_of_getElem? (i := 94) rfl) rfl
  | n + 3, hk => exact absurd hk (by omega)
theorem df_9 : ∀ j, j < 3 → defaultValue (tyX9 j) = vp_V [.int 0, .int 0, .null] j := by
  intro k hk
  match k, hk with
  | 0, _ => rfl
  | 1, _ => rfl
  | 2, _ => rfl
  | n + 3, hk => exact absurd hk (by omega)
theorem wf_10 : ∀ w ∈ u_ws RX10 TX10 8, w ∈ WG := by
  intro w hw
  obtain ⟨k, hk, rfl⟩ := List.mem_map.mp hw
  have hk := List.mem_range.mp hk
  match k, hk with
  | 0, _ => exact wg_t1 (List.mem_of_getElem? (i := 229) rfl) rfl
  | 1, _ => exact wg_t1 (List.mem_of_getElem? (i := 231) rfl) rfl
  | 2, _ => exact wg_t1 (List.mem_of_getElem? (i := 233) rfl) rfl
  | 3, _ => exact wg_t1 (List.mem_of_getElem? (i := 235) rfl) rfl
  | 4, _ => exact wg_t1 (List.mem_of_getElem? (i := 237) rfl) rfl
  | 5, _ => exact wg_t1 (List.mem_of_getElem? (i := 239) rfl) rfl
  | 6, _ => exact wg_t2 (List.mem_of_getElem? (i := 1) rfl) rfl
  | 7, _ => exact wg_t2 (List.mem_of_getElem? (i := 3) rfl) rfl
  | n + 8, hk => exact absurd hk (by omega)
theorem df_10 : ∀ j, j < 8 → defaultValue (tyX10 j) = vp_V [.int 0, .int 0, .int 0, .int 0, .null, .null, .null, .null] j := by
  intro k hk
  match k, hk with
  | 0, _ => rfl
  | 1, _ => rfl
  | 2, _ => rfl
  | 3, _ => rfl
  | 4, _ => rfl
  | 5, _ => rfl
  | 6, _ => rfl
  | 7, _ => rfl
  | n + 8, hk => exact absurd hk (by omega)
theorem wf_11 : ∀ w ∈ u_ws RX11 TX11 17, w ∈ WG := by
  intro w hw
  obtain ⟨k, hk, rfl⟩ := List.mem_map.mp hw
  have hk := List.mem_range.mp hk
  match k, hk with
  | 0, _ => exact wg_t2 (List.mem_of_getElem? (i := 115) rfl) rfl
  | 1, _ => exact wg_t2 (List.mem_of_getElem? (i := 117) rfl) rfl
  | 2, _ => exact wg_t2 (List.mem_of_getElem? (i := 119) rfl) rfl
  | 3, _ => exact wg_t2 (List.mem_of_getElem? (i := 121) rfl) rfl
  | 4, _ => exact wg_t2 (List.mem_of_getElem? (i := 123) rfl) rfl
  | 5, _ => exact wg_t2 (List.mem_of_getElem? (i := 125) rfl) rfl
  | 6, _ => exact wg_t2 (List.mem_of_getElem? (i := 127) rfl) rfl
  | 7, _ => exact wg_t2 (List.mem_of_getElem? (i := 129) rfl) rfl
  | 8, _ => exact wg_t2 (List.mem_of_getElem? (i := 131) rfl) rfl
  | 9, _ => exact wg_t2 (List.mem_of_getElem? (i := 133) rfl) rfl
  | 10, _ => exact wg_t2 (List.mem_of_getElem? (i := 135) rfl) rfl
  | 11, _ => exact wg_t2 (List.mem_of_getElem? (i := 137) rfl) rfl
  | 12, _ => exact wg_t2 (List.mem_of_getElem? (i := 139) rfl) rfl
  | 13, _ => exact wg_t2 (List.mem_of_getElem? (i := 141) rfl) rfl
  | 14, _ => exact wg_t2 (List.mem_of_getElem? (i := 143) rfl) rfl
  | 15, _ => exact wg_t2 (List.mem_of_getElem? (i := 145) rfl) rfl
  | 16, _ => exact wg_t2 (List.mem_of_getElem? (i := 147) rfl) rfl
  | n + 17, hk => exact absurd hk (by omega)
theorem df_11 : ∀ j, j < 17 → defaultValue (tyX11 j) = vp_V [.null, .int 0, .int 0, .int 0, .null, .null, .null, .null, .null, .null, .null, .null, .null, .null, .null, .null, .int 0] j := by
  intro k hk
  match k, hk with
  | 0, _ => rfl
  | 1, _ => rfl
  | 2, _ => rfl
  | 3, _ => rfl
  | 4, _ => rfl
  | 5, _ => rfl
  | 6, _ => rfl
  | 7, _ => rfl
  | 8, _ => rfl
  | 9, _ => rfl
  | 10, _ => rfl
  | 11, _ => rfl
  | 12, _ => rfl
  | 13, _ => rfl
  | 14, _ => rfl
  | 15, _ => rfl
  | 16, _ => rfl
  | n + 17, hk => exact absurd hk (by omega)
theorem wf_12 : ∀ w ∈ u_ws RX12 TX12 37, w ∈ WG := by
  intro w hw
  obtain ⟨k, hk, rfl⟩ := List.mem_map.mp hw
  have hk := List.mem_range.mp hk
  match k, hk with
  | 0, _ => exact wg_t5 (List.mem_of_getElem? (i := 207) rfl) rfl
  | 1, _ => exact wg_t5 (List.mem_of_getElem? (i := 209) rfl) rfl
  | 2, _ => exact wg_t5 (List.mem_of_getElem? (i := 211) rfl) rfl
  | 3, _ => exact wg_t5 (List.mem_of_getElem? (i := 213) rfl) rfl
  | 4, _ => exact wg_t5 (List.mem_of_getElem? (i := 215) rfl) rfl
  | 5, _ => exact wg_t5 (List.mem_of_getElem? (i := 217) rfl) rfl
  | 6, _ => exact wg_t5 (List.mem_of_getElem? (i := 219) rfl) rfl
  | 7, _ => exact wg_t5 (List.mem_of_getElem? (i := 221) rfl) rfl
  | 8, _ => exact wg_t5 (List.mem_of_getElem? (i := 223) rfl) rfl
  | 9, _ => exact wg_t5 (List.mem_of_getElem? (i := 225) rfl) rfl
  | 10, _ => exact wg_t5 (List.mem_of_getElem? (i := 227) rfl) rfl
  | 11, _ => exact wg_t5 (List.mem_of_getElem? (i := 229) rfl) rfl
  | 12, _ => exact wg_t5 (List.mem_of_getElem? (i := 231) rfl) rfl
  | 13, _ => exact wg_t5 (List.mem_of_getElem? (i := 233) rfl) rfl
  | 14, _ => exact wg_t5 (List.mem_of_getElem? (i := 235) rfl) rfl
  | 15, _ => exact wg_t5 (List.mem_of_getElem? (i := 237) rfl) rfl
  | 16, _ => exact wg_t5 (List.mem_of_getElem? (i := 239) rfl) rfl
  | 17, _ => exact wg_t6 (List.mem_of_getElem? (i := 1) rfl) rfl
  | 18, _ => exact wg_t6 (List.mem_of_getElem? (i := 3) rfl) rfl
  | 19, _ => exact wg_t6 (List.mem_of_getElem? (i := 5) rfl) rfl
  | 20, _ => exact wg_t6 (List.mem_of_getElem? (i := 7) rfl) rfl
  | 21, _ => exact wg_t6 (List.mem_of_getElem? (i := 9) rfl) rfl
  | 22, _ => exact wg_t6 (List.mem_of_getElem? (i := 11) rfl) rfl
  | 23, _ => exact wg_t6 (List.mem_of_getElem? (i := 13) rfl) rfl
  | 24, _ => exact wg_t6 (List.mem_of_getElem? (i := 15) rfl) rfl
  | 25, _ => exact wg_t6 (List.mem_of_getElem? (i := 17) rfl) rfl
  | 26, _ => exact wg_t6 (List.mem_of_getElem? (i := 19) rfl) rfl
  | 27, _ => exact wg_t6 (List.mem_of_getElem? (i := 21) rfl) rfl
  | 28, _ => exact wg_t6 (List.mem_of_getElem? (i := 23) rfl) rfl
  | 29, _ => exact wg_t6 (List.mem_of_getElem? (i := 25) rfl) rfl
  | 30, _ => exact wg_t6 (List.mem_of_getElem? (i := 27) rfl) rfl
  | 31, _ => exact wg_t6 (List.mem_of_getElem? (i := 29) rfl) rfl
  | 32, _ => exact wg_t6 (List.mem_of_getElem? (i := 31) rfl) rfl
  | 33, _ => exact wg_t6 (List.mem_of_getElem? (i := 33) rfl) rfl
  | 34, _ => exact wg_t6 (List.mem_of_getElem? (i := 35) rfl) rfl
  | 35, _ => exact wg_t6 (List.mem_of_getElem? (i := 37) rfl) rfl
  | 36, _ => exact wg_t6 (List.mem_of_getElem? (i := 39) rfl) rfl
  | n + 37, hk => exact absurd hk (by omega)
theorem df_12 : ∀ j, j < 37 → defaultValue (tyX12 j) = vp_V [.int 0, .null, .null, .null, .null, .int 0, .int 0, .int 0, .int 0, .int 0, .int 0, .int 0, .int 0, .int 0, .int 0, .int 0, .null, .null, .null, .null, .null, .int 0, .int 0, .null, .null, .null, .int 0, .int 0, .null, .null, .null, .null, .null, .int 0, .null, .null, .null] j := by
  intro k hk
  match k, hk with
  | 0, _ => rfl
  | 1, _ => rfl
  | 2, _ => rfl
  | 3, _ => rfl
  | 4, _ => rfl
  | 5, _ => rfl
  | 6, _ => rfl
  | 7, _ => rfl
  | 8, _ => rfl
  | 9, _ => rfl
  | 10, _ => rfl
  | 11, _ => rfl
  | 12, _ => rfl
  | 13, _ => rfl
  | 14, _ => rfl
  | 15, _ => rfl
  | 16, _ => rfl
  | 17, _ => rfl
  | 18, _ => rfl
  | 19, _ => rfl
  | 20, _ => rfl
  | 21, _ => rfl
  | 22, _ => rfl
  | 23, _ => rfl
  | 24, _ => rfl
  | 25, _ => rfl
  | 26, _ => rfl
  | 27, _ => rfl
  | 28, _ => rfl
  | 29, _ => rfl
  | 30, _ => rfl
  | 31, _ => rfl
  | 32, _ => rfl
  | 33, _ => rfl
  | 34, _ => rfl
  | 35, _ => rfl
  | 36, _ => rfl
  | n + 37, hk => exact absurd hk (by omega)
theorem hd_J6_bitCount_0f7a4 : yJ6_bitCount_0f7a4.cls ≠ "java/lang/invoke/MethodHandle" ∧ yJ6_bitCount_0f7a4.cls ≠ "java/lang/invoke/VarHandle" ∧ (parseMethodDescriptor yJ6_bitCount_0f7a4.desc).map (fun d => d.parameters.length) = some 1 := by decide +kernel
theorem hd_J7_fill_53178 : yJ7_fill_53178.cls ≠ "java/lang/invoke/MethodHandle" ∧ yJ7_fill_53178.cls ≠ "java/lang/invoke/VarHandle" ∧ (parseMethodDescriptor yJ7_fill_53178.desc).map (fun d => d.parameters.length) = some 2 := by decide +kernel
theorem hd_J7_fill_d0a16 : yJ7_fill_d0a16.cls ≠ "java/lang/invoke/MethodHandle" ∧ yJ7_fill_d0a16.cls ≠ "java/lang/invoke/VarHandle" ∧ (parseMethodDescriptor yJ7_fill_d0a16.desc).map (fun d => d.parameters.length) = some 2 := by decide +kernel
theorem hd_X0_canSit : yX0_canSit.cls ≠ "java/lang/invoke/MethodHandle" ∧ yX0_canSit.cls ≠ "java/lang/invoke/VarHandle" ∧ (parseMethodDescriptor yX0_canSit.desc).map (fun d => d.parameters.length) = some 2 := by decide +kernel
theorem hd_X0_countPartings : yX0_countPartings.cls ≠ "java/lang/invoke/MethodHandle" ∧ yX0_countPartings.cls ≠ "java/lang/invoke/VarHandle" ∧ (parseMethodDescriptor yX0_countPartings.desc).map (fun d => d.parameters.length) = some 0 := by decide +kernel
theorem hd_X0_countPieces : yX0_countPieces.cls ≠ "java/lang/invoke/MethodHandle" ∧ yX0_countPieces.cls ≠ "java/lang/invoke/VarHandle" ∧ (parseMethodDescriptor yX0_countPieces.desc).map (fun d => d.parameters.length) = some 2 := by decide +kernel
theorem hd_X0_draw : yX0_draw.cls ≠ "java/lang/invoke/MethodHandle" ∧ yX0_draw.cls ≠ "java/lang/invoke/VarHandle" ∧ (parseMethodDescriptor yX0_draw.desc).map (fun d => d.parameters.length) = some 3 := by decide +kernel
theorem hd_X0_init : yX0_init.cls ≠ "java/lang/invoke/MethodHandle" ∧ yX0_init.cls ≠ "java/lang/invoke/VarHandle" ∧ (parseMethodDescriptor yX0_init.desc).map (fun d => d.parameters.length) = some 0 := by decide +kernel
theorem hd_X0_leastBar : yX0_leastBar.cls ≠ "java/lang/invoke/MethodHandle" ∧ yX0_leastBar.cls ≠ "java/lang/invoke/VarHandle" ∧ (parseMethodDescriptor yX0_leastBar.desc).map (fun d => d.parameters.length) = some 1 := by decide +kernel
theorem hd_X0_leastCover : yX0_leastCover.cls ≠ "java/lang/invoke/MethodHandle" ∧ yX0_leastCover.cls ≠ "java/lang/invoke/VarHandle" ∧ (parseMethodDescriptor yX0_leastCover.desc).map (fun d => d.parameters.length) = some 2 := by decide +kernel
theorem hd_X0_opposeAllOf : yX0_opposeAllOf.cls ≠ "java/lang/invoke/MethodHandle" ∧ yX0_opposeAllOf.cls ≠ "java/lang/invoke/VarHandle" ∧ (parseMethodDescriptor yX0_opposeAllOf.desc).map (fun d => d.parameters.length) = some 2 := by decide +kernel
theorem hd_X0_shareOf : yX0_shareOf.cls ≠ "java/lang/invoke/MethodHandle" ∧ yX0_shareOf.cls ≠ "java/lang/invoke/VarHandle" ∧ (parseMethodDescriptor yX0_shareOf.desc).map (fun d => d.parameters.length) = some 2 := by decide +kernel
theorem hd_X0_twosOf : yX0_twosOf.cls ≠ "java/lang/invoke/MethodHandle" ∧ yX0_twosOf.cls ≠ "java/lang/invoke/VarHandle" ∧ (parseMethodDescriptor yX0_twosOf.desc).map (fun d => d.parameters.length) = some 1 := by decide +kernel
theorem hd_X0_weighPairs : yX0_weighPairs.cls ≠ "java/lang/invoke/MethodHandle" ∧ yX0_weighPairs.cls ≠ "java/lang/invoke/VarHandle" ∧ (parseMethodDescriptor yX0_weighPairs.desc).map (fun d => d.parameters.length) = some 1 := by decide +kernel
theorem hd_X0_weightOf : yX0_weightOf.cls ≠ "java/lang/invoke/MethodHandle" ∧ yX0_weightOf.cls ≠ "java/lang/invoke/VarHandle" ∧ (parseMethodDescriptor yX0_weightOf.desc).map (fun d => d.parameters.length) = some 1 := by decide +kernel
theorem hd_X10_init : yX10_init.cls ≠ "java/lang/invoke/MethodHandle" ∧ yX10_init.cls ≠ "java/lang/invoke/VarHandle" ∧ (parseMethodDescriptor yX10_init.desc).map (fun d => d.parameters.length) = some 0 := by decide +kernel
theorem hd_X11_areTwoPeople : yX11_areTwoPeople.cls ≠ "java/lang/invoke/MethodHandle" ∧ yX11_areTwoPeople.cls ≠ "java/lang/invoke/VarHandle" ∧ (parseMethodDescriptor yX11_areTwoPeople.desc).map (fun d => d.parameters.length) = some 2 := by decide +kernel
theorem hd_X11_ayes : yX11_ayes.cls ≠ "java/lang/invoke/MethodHandle" ∧ yX11_ayes.cls ≠ "java/lang/invoke/VarHandle" ∧ (parseMethodDescriptor yX11_ayes.desc).map (fun d => d.parameters.length) = some 1 := by decide +kernel
theorem hd_X11_bar : yX11_bar.cls ≠ "java/lang/invoke/MethodHandle" ∧ yX11_bar.cls ≠ "java/lang/invoke/VarHandle" ∧ (parseMethodDescriptor yX11_bar.desc).map (fun d => d.parameters.length) = some 2 := by decide +kernel
theorem hd_X11_bestDay : yX11_bestDay.cls ≠ "java/lang/invoke/MethodHandle" ∧ yX11_bestDay.cls ≠ "java/lang/invoke/VarHandle" ∧ (parseMethodDescriptor yX11_bestDay.desc).map (fun d => d.parameters.length) = some 0 := by decide +kernel
theorem hd_X11_call : yX11_call.cls ≠ "java/lang/invoke/MethodHandle" ∧ yX11_call.cls ≠ "java/lang/invoke/VarHandle" ∧ (parseMethodDescriptor yX11_call.desc).map (fun d => d.parameters.length) = some 1 := by decide +kernel
theorem hd_X11_chance : yX11_chance.cls ≠ "java/lang/invoke/MethodHandle" ∧ yX11_chance.cls ≠ "java/lang/invoke/VarHandle" ∧ (parseMethodDescriptor yX11_chance.desc).map (fun d => d.parameters.length) = some 2 := by decide +kernel
theorem hd_X11_commonDivisor : yX11_commonDivisor.cls ≠ "java/lang/invoke/MethodHandle" ∧ yX11_commonDivisor.cls ≠ "java/lang/invoke/VarHandle" ∧ (parseMethodDescriptor yX11_commonDivisor.desc).map (fun d => d.parameters.length) = some 2 := by decide +kernel
theorem hd_X11_count : yX11_count.cls ≠ "java/lang/invoke/MethodHandle" ∧ yX11_count.cls ≠ "java/lang/invoke/VarHandle" ∧ (parseMethodDescriptor yX11_count.desc).map (fun d => d.parameters.length) = some 1 := by decide +kernel
theorem hd_X11_cover : yX11_cover.cls ≠ "java/lang/invoke/MethodHandle" ∧ yX11_cover.cls ≠ "java/lang/invoke/VarHandle" ∧ (parseMethodDescriptor yX11_cover.desc).map (fun d => d.parameters.length) = some 2 := by decide +kernel
theorem hd_X11_days : yX11_days.cls ≠ "java/lang/invoke/MethodHandle" ∧ yX11_days.cls ≠ "java/lang/invoke/VarHandle" ∧ (parseMethodDescriptor yX11_days.desc).map (fun d => d.parameters.length) = some 1 := by decide +kernel
theorem hd_X11_drawToday : yX11_drawToday.cls ≠ "java/lang/invoke/MethodHandle" ∧ yX11_drawToday.cls ≠ "java/lang/invoke/VarHandle" ∧ (parseMethodDescriptor yX11_drawToday.desc).map (fun d => d.parameters.length) = some 0 := by decide +kernel
theorem hd_X11_drawn : yX11_drawn.cls ≠ "java/lang/invoke/MethodHandle" ∧ yX11_drawn.cls ≠ "java/lang/invoke/VarHandle" ∧ (parseMethodDescriptor yX11_drawn.desc).map (fun d => d.parameters.length) = some 1 := by decide +kernel
theorem hd_X11_easiest : yX11_easiest.cls ≠ "java/lang/invoke/MethodHandle" ∧ yX11_easiest.cls ≠ "java/lang/invoke/VarHandle" ∧ (parseMethodDescriptor yX11_easiest.desc).map (fun d => d.parameters.length) = some 0 := by decide +kernel
theorem hd_X11_everybody : yX11_everybody.cls ≠ "java/lang/invoke/MethodHandle" ∧ yX11_everybody.cls ≠ "java/lang/invoke/VarHandle" ∧ (parseMethodDescriptor yX11_everybody.desc).map (fun d => d.parameters.length) = some 0 := by decide +kernel
theorem hd_X11_fault : yX11_fault.cls ≠ "java/lang/invoke/MethodHandle" ∧ yX11_fault.cls ≠ "java/lang/invoke/VarHandle" ∧ (parseMethodDescriptor yX11_fault.desc).map (fun d => d.parameters.length) = some 1 := by decide +kernel
theorem hd_X11_feed : yX11_feed.cls ≠ "java/lang/invoke/MethodHandle" ∧ yX11_feed.cls ≠ "java/lang/invoke/VarHandle" ∧ (parseMethodDescriptor yX11_feed.desc).map (fun d => d.parameters.length) = some 5 := by decide +kernel
theorem hd_X11_fewestSent : yX11_fewestSent.cls ≠ "java/lang/invoke/MethodHandle" ∧ yX11_fewestSent.cls ≠ "java/lang/invoke/VarHandle" ∧ (parseMethodDescriptor yX11_fewestSent.desc).map (fun d => d.parameters.length) = some 1 := by decide +kernel
theorem hd_X11_firstDay : yX11_firstDay.cls ≠ "java/lang/invoke/MethodHandle" ∧ yX11_firstDay.cls ≠ "java/lang/invoke/VarHandle" ∧ (parseMethodDescriptor yX11_firstDay.desc).map (fun d => d.parameters.length) = some 0 := by decide +kernel
theorem hd_X11_hasMore : yX11_hasMore.cls ≠ "java/lang/invoke/MethodHandle" ∧ yX11_hasMore.cls ≠ "java/lang/invoke/VarHandle" ∧ (parseMethodDescriptor yX11_hasMore.desc).map (fun d => d.parameters.length) = some 2 := by decide +kernel
theorem hd_X11_hidden : yX11_hidden.cls ≠ "java/lang/invoke/MethodHandle" ∧ yX11_hidden.cls ≠ "java/lang/invoke/VarHandle" ∧ (parseMethodDescriptor yX11_hidden.desc).map (fun d => d.parameters.length) = some 2 := by decide +kernel
theorem hd_X11_hiddenAt : yX11_hiddenAt.cls ≠ "java/lang/invoke/MethodHandle" ∧ yX11_hiddenAt.cls ≠ "java/lang/invoke/VarHandle" ∧ (parseMethodDescriptor yX11_hiddenAt.desc).map (fun d => d.parameters.length) = some 3 := by decide +kernel
theorem hd_X11_house : yX11_house.cls ≠ "java/lang/invoke/MethodHandle" ∧ yX11_house.cls ≠ "java/lang/invoke/VarHandle" ∧ (parseMethodDescriptor yX11_house.desc).map (fun d => d.parameters.length) = some 1 := by decide +kernel
theorem hd_X11_image : yX11_image.cls ≠ "java/lang/invoke/MethodHandle" ∧ yX11_image.cls ≠ "java/lang/invoke/VarHandle" ∧ (parseMethodDescriptor yX11_image.desc).map (fun d => d.parameters.length) = some 1 := by decide +kernel
theorem hd_X11_init : yX11_init.cls ≠ "java/lang/invoke/MethodHandle" ∧ yX11_init.cls ≠ "java/lang/invoke/VarHandle" ∧ (parseMethodDescriptor yX11_init.desc).map (fun d => d.parameters.length) = some 0 := by decide +kernel
theorem hd_X11_isBill : yX11_isBill.cls ≠ "java/lang/invoke/MethodHandle" ∧ yX11_isBill.cls ≠ "java/lang/invoke/VarHandle" ∧ (parseMethodDescriptor yX11_isBill.desc).map (fun d => d.parameters.length) = some 1 := by decide +kernel
theorem hd_X11_isPerson : yX11_isPerson.cls ≠ "java/lang/invoke/MethodHandle" ∧ yX11_isPerson.cls ≠ "java/lang/invoke/VarHandle" ∧ (parseMethodDescriptor yX11_isPerson.desc).map (fun d => d.parameters.length) = some 1 := by decide +kernel
theorem hd_X11_isSet : yX11_isSet.cls ≠ "java/lang/invoke/MethodHandle" ∧ yX11_isSet.cls ≠ "java/lang/invoke/VarHandle" ∧ (parseMethodDescriptor yX11_isSet.desc).map (fun d => d.parameters.length) = some 1 := by decide +kernel
theorem hd_X11_isTray : yX11_isTray.cls ≠ "java/lang/invoke/MethodHandle" ∧ yX11_isTray.cls ≠ "java/lang/invoke/VarHandle" ∧ (parseMethodDescriptor yX11_isTray.desc).map (fun d => d.parameters.length) = some 1 := by decide +kernel
theorem hd_X11_judge : yX11_judge.cls ≠ "java/lang/invoke/MethodHandle" ∧ yX11_judge.cls ≠ "java/lang/invoke/VarHandle" ∧ (parseMethodDescriptor yX11_judge.desc).map (fun d => d.parameters.length) = some 2 := by decide +kernel
theorem hd_X11_laundress : yX11_laundress.cls ≠ "java/lang/invoke/MethodHandle" ∧ yX11_laundress.cls ≠ "java/lang/invoke/VarHandle" ∧ (parseMethodDescriptor yX11_laundress.desc).map (fun d => d.parameters.length) = some 1 := by decide +kernel
theorem hd_X11_lists : yX11_lists.cls ≠ "java/lang/invoke/MethodHandle" ∧ yX11_lists.cls ≠ "java/lang/invoke/VarHandle" ∧ (parseMethodDescriptor yX11_lists.desc).map (fun d => d.parameters.length) = some 3 := by decide +kernel
theorem hd_X11_nextDraw : yX11_nextDraw.cls ≠ "java/lang/invoke/MethodHandle" ∧ yX11_nextDraw.cls ≠ "java/lang/invoke/VarHandle" ∧ (parseMethodDescriptor yX11_nextDraw.desc).map (fun d => d.parameters.length) = some 1 := by decide +kernel
theorem hd_X11_numberOrSet : yX11_numberOrSet.cls ≠ "java/lang/invoke/MethodHandle" ∧ yX11_numberOrSet.cls ≠ "java/lang/invoke/VarHandle" ∧ (parseMethodDescriptor yX11_numberOrSet.desc).map (fun d => d.parameters.length) = some 2 := by decide +kernel
theorem hd_X11_numbers : yX11_numbers.cls ≠ "java/lang/invoke/MethodHandle" ∧ yX11_numbers.cls ≠ "java/lang/invoke/VarHandle" ∧ (parseMethodDescriptor yX11_numbers.desc).map (fun d => d.parameters.length) = some 3 := by decide +kernel
theorem hd_X11_opposed : yX11_opposed.cls ≠ "java/lang/invoke/MethodHandle" ∧ yX11_opposed.cls ≠ "java/lang/invoke/VarHandle" ∧ (parseMethodDescriptor yX11_opposed.desc).map (fun d => d.parameters.length) = some 2 := by decide +kernel
theorem hd_X11_opposedTwos : yX11_opposedTwos.cls ≠ "java/lang/invoke/MethodHandle" ∧ yX11_opposedTwos.cls ≠ "java/lang/invoke/VarHandle" ∧ (parseMethodDescriptor yX11_opposedTwos.desc).map (fun d => d.parameters.length) = some 0 := by decide +kernel
theorem hd_X11_opposites : yX11_opposites.cls ≠ "java/lang/invoke/MethodHandle" ∧ yX11_opposites.cls ≠ "java/lang/invoke/VarHandle" ∧ (parseMethodDescriptor yX11_opposites.desc).map (fun d => d.parameters.length) = some 1 := by decide +kernel
theorem hd_X11_pairs : yX11_pairs.cls ≠ "java/lang/invoke/MethodHandle" ∧ yX11_pairs.cls ≠ "java/lang/invoke/VarHandle" ∧ (parseMethodDescriptor yX11_pairs.desc).map (fun d => d.parameters.length) = some 2 := by decide +kernel
theorem hd_X11_passed : yX11_passed.cls ≠ "java/lang/invoke/MethodHandle" ∧ yX11_passed.cls ≠ "java/lang/invoke/VarHandle" ∧ (parseMethodDescriptor yX11_passed.desc).map (fun d => d.parameters.length) = some 2 := by decide +kernel
theorem hd_X11_passes : yX11_passes.cls ≠ "java/lang/invoke/MethodHandle" ∧ yX11_passes.cls ≠ "java/lang/invoke/VarHandle" ∧ (parseMethodDescriptor yX11_passes.desc).map (fun d => d.parameters.length) = some 1 := by decide +kernel
theorem hd_X11_perform : yX11_perform.cls ≠ "java/lang/invoke/MethodHandle" ∧ yX11_perform.cls ≠ "java/lang/invoke/VarHandle" ∧ (parseMethodDescriptor yX11_perform.desc).map (fun d => d.parameters.length) = some 1 := by decide +kernel
theorem hd_X11_person : yX11_person.cls ≠ "java/lang/invoke/MethodHandle" ∧ yX11_person.cls ≠ "java/lang/invoke/VarHandle" ∧ (parseMethodDescriptor yX11_person.desc).map (fun d => d.parameters.length) = some 2 := by decide +kernel
theorem hd_X11_pieces : yX11_pieces.cls ≠ "java/lang/invoke/MethodHandle" ∧ yX11_pieces.cls ≠ "java/lang/invoke/VarHandle" ∧ (parseMethodDescriptor yX11_pieces.desc).map (fun d => d.parameters.length) = some 1 := by decide +kernel
theorem hd_X11_probe : yX11_probe.cls ≠ "java/lang/invoke/MethodHandle" ∧ yX11_probe.cls ≠ "java/lang/invoke/VarHandle" ∧ (parseMethodDescriptor yX11_probe.desc).map (fun d => d.parameters.length) = some 2 := by decide +kernel
theorem hd_X11_putOnTape : yX11_putOnTape.cls ≠ "java/lang/invoke/MethodHandle" ∧ yX11_putOnTape.cls ≠ "java/lang/invoke/VarHandle" ∧ (parseMethodDescriptor yX11_putOnTape.desc).map (fun d => d.parameters.length) = some 1 := by decide +kernel
theorem hd_X11_quorum : yX11_quorum.cls ≠ "java/lang/invoke/MethodHandle" ∧ yX11_quorum.cls ≠ "java/lang/invoke/VarHandle" ∧ (parseMethodDescriptor yX11_quorum.desc).map (fun d => d.parameters.length) = some 0 := by decide +kernel
theorem hd_X11_refusedGuess : yX11_refusedGuess.cls ≠ "java/lang/invoke/MethodHandle" ∧ yX11_refusedGuess.cls ≠ "java/lang/invoke/VarHandle" ∧ (parseMethodDescriptor yX11_refusedGuess.desc).map (fun d => d.parameters.length) = some 2 := by decide +kernel
theorem hd_X11_remember : yX11_remember.cls ≠ "java/lang/invoke/MethodHandle" ∧ yX11_remember.cls ≠ "java/lang/invoke/VarHandle" ∧ (parseMethodDescriptor yX11_remember.desc).map (fun d => d.parameters.length) = some 0 := by decide +kernel
theorem hd_X11_reserve : yX11_reserve.cls ≠ "java/lang/invoke/MethodHandle" ∧ yX11_reserve.cls ≠ "java/lang/invoke/VarHandle" ∧ (parseMethodDescriptor yX11_reserve.desc).map (fun d => d.parameters.length) = some 1 := by decide +kernel
theorem hd_X11_restore : yX11_restore.cls ≠ "java/lang/invoke/MethodHandle" ∧ yX11_restore.cls ≠ "java/lang/invoke/VarHandle" ∧ (parseMethodDescriptor yX11_restore.desc).map (fun d => d.parameters.length) = some 1 := by decide +kernel
theorem hd_X11_sayers : yX11_sayers.cls ≠ "java/lang/invoke/MethodHandle" ∧ yX11_sayers.cls ≠ "java/lang/invoke/VarHandle" ∧ (parseMethodDescriptor yX11_sayers.desc).map (fun d => d.parameters.length) = some 1 := by decide +kernel
theorem hd_X11_send : yX11_send.cls ≠ "java/lang/invoke/MethodHandle" ∧ yX11_send.cls ≠ "java/lang/invoke/VarHandle" ∧ (parseMethodDescriptor yX11_send.desc).map (fun d => d.parameters.length) = some 1 := by decide +kernel
theorem hd_X11_sendOrCall : yX11_sendOrCall.cls ≠ "java/lang/invoke/MethodHandle" ∧ yX11_sendOrCall.cls ≠ "java/lang/invoke/VarHandle" ∧ (parseMethodDescriptor yX11_sendOrCall.desc).map (fun d => d.parameters.length) = some 2 := by decide +kernel
theorem hd_X11_sits : yX11_sits.cls ≠ "java/lang/invoke/MethodHandle" ∧ yX11_sits.cls ≠ "java/lang/invoke/VarHandle" ∧ (parseMethodDescriptor yX11_sits.desc).map (fun d => d.parameters.length) = some 1 := by decide +kernel
theorem hd_X11_talk : yX11_talk.cls ≠ "java/lang/invoke/MethodHandle" ∧ yX11_talk.cls ≠ "java/lang/invoke/VarHandle" ∧ (parseMethodDescriptor yX11_talk.desc).map (fun d => d.parameters.length) = some 2 := by decide +kernel
theorem hd_X11_talkBy : yX11_talkBy.cls ≠ "java/lang/invoke/MethodHandle" ∧ yX11_talkBy.cls ≠ "java/lang/invoke/VarHandle" ∧ (parseMethodDescriptor yX11_talkBy.desc).map (fun d => d.parameters.length) = some 3 := by decide +kernel
theorem hd_X11_talks : yX11_talks.cls ≠ "java/lang/invoke/MethodHandle" ∧ yX11_talks.cls ≠ "java/lang/invoke/VarHandle" ∧ (parseMethodDescriptor yX11_talks.desc).map (fun d => d.parameters.length) = some 2 := by decide +kernel
theorem hd_X11_town : yX11_town.cls ≠ "java/lang/invoke/MethodHandle" ∧ yX11_town.cls ≠ "java/lang/invoke/VarHandle" ∧ (parseMethodDescriptor yX11_town.desc).map (fun d => d.parameters.length) = some 1 := by decide +kernel
theorem hd_X11_townSits : yX11_townSits.cls ≠ "java/lang/invoke/MethodHandle" ∧ yX11_townSits.cls ≠ "java/lang/invoke/VarHandle" ∧ (parseMethodDescriptor yX11_townSits.desc).map (fun d => d.parameters.length) = some 1 := by decide +kernel
theorem hd_X11_undo : yX11_undo.cls ≠ "java/lang/invoke/MethodHandle" ∧ yX11_undo.cls ≠ "java/lang/invoke/VarHandle" ∧ (parseMethodDescriptor yX11_undo.desc).map (fun d => d.parameters.length) = some 1 := by decide +kernel
theorem hd_X11_ways : yX11_ways.cls ≠ "java/lang/invoke/MethodHandle" ∧ yX11_ways.cls ≠ "java/lang/invoke/VarHandle" ∧ (parseMethodDescriptor yX11_ways.desc).map (fun d => d.parameters.length) = some 1 := by decide +kernel
theorem hd_X11_word : yX11_word.cls ≠ "java/lang/invoke/MethodHandle" ∧ yX11_word.cls ≠ "java/lang/invoke/VarHandle" ∧ (parseMethodDescriptor yX11_word.desc).map (fun d => d.parameters.length) = some 0 := by decide +kernel
theorem hd_X11_write : yX11_write.cls ≠ "java/lang/invoke/MethodHandle" ∧ yX11_write.cls ≠ "java/lang/invoke/VarHandle" ∧ (parseMethodDescriptor yX11_write.desc).map (fun d => d.parameters.length) = some 3 := by decide +kernel
theorem hd_X11_year : yX11_year.cls ≠ "java/lang/invoke/MethodHandle" ∧ yX11_year.cls ≠ "java/lang/invoke/VarHandle" ∧ (parseMethodDescriptor yX11_year.desc).map (fun d => d.parameters.length) = some 2 := by decide +kernel
theorem hd_X12_areTwo : yX12_areTwo.cls ≠ "java/lang/invoke/MethodHandle" ∧ yX12_areTwo.cls ≠ "java/lang/invoke/VarHandle" ∧ (parseMethodDescriptor yX12_areTwo.desc).map (fun d => d.parameters.length) = some 2 := by decide +kernel
theorem hd_X12_ayes : yX12_ayes.cls ≠ "java/lang/invoke/MethodHandle" ∧ yX12_ayes.cls ≠ "java/lang/invoke/VarHandle" ∧ (parseMethodDescriptor yX12_ayes.desc).map (fun d => d.parameters.length) = some 1 := by decide +kernel
theorem hd_X12_ayesOf : yX12_ayesOf.cls ≠ "java/lang/invoke/MethodHandle" ∧ yX12_ayesOf.cls ≠ "java/lang/invoke/VarHandle" ∧ (parseMethodDescriptor yX12_ayesOf.desc).map (fun d => d.parameters.length) = some 2 := by decide +kernel
theorem hd_X12_bar : yX12_bar.cls ≠ "java/lang/invoke/MethodHandle" ∧ yX12_bar.cls ≠ "java/lang/invoke/VarHandle" ∧ (parseMethodDescriptor yX12_bar.desc).map (fun d => d.parameters.length) = some 2 := by decide +kernel
theorem hd_X12_bestDay : yX12_bestDay.cls ≠ "java/lang/invoke/MethodHandle" ∧ yX12_bestDay.cls ≠ "java/lang/invoke/VarHandle" ∧ (parseMethodDescriptor yX12_bestDay.desc).map (fun d => d.parameters.length) = some 0 := by decide +kernel
theorem hd_X12_bitsOf : yX12_bitsOf.cls ≠ "java/lang/invoke/MethodHandle" ∧ yX12_bitsOf.cls ≠ "java/lang/invoke/VarHandle" ∧ (parseMethodDescriptor yX12_bitsOf.desc).map (fun d => d.parameters.length) = some 1 := by decide +kernel
theorem hd_X12_call : yX12_call.cls ≠ "java/lang/invoke/MethodHandle" ∧ yX12_call.cls ≠ "java/lang/invoke/VarHandle" ∧ (parseMethodDescriptor yX12_call.desc).map (fun d => d.parameters.length) = some 1 := by decide +kernel
theorem hd_X12_chance : yX12_chance.cls ≠ "java/lang/invoke/MethodHandle" ∧ yX12_chance.cls ≠ "java/lang/invoke/VarHandle" ∧ (parseMethodDescriptor yX12_chance.desc).map (fun d => d.parameters.length) = some 2 := by decide +kernel
theorem hd_X12_chanceOf : yX12_chanceOf.cls ≠ "java/lang/invoke/MethodHandle" ∧ yX12_chanceOf.cls ≠ "java/lang/invoke/VarHandle" ∧ (parseMethodDescriptor yX12_chanceOf.desc).map (fun d => d.parameters.length) = some 1 := by decide +kernel
theorem hd_X12_common : yX12_common.cls ≠ "java/lang/invoke/MethodHandle" ∧ yX12_common.cls ≠ "java/lang/invoke/VarHandle" ∧ (parseMethodDescriptor yX12_common.desc).map (fun d => d.parameters.length) = some 2 := by decide +kernel
theorem hd_X12_count : yX12_count.cls ≠ "java/lang/invoke/MethodHandle" ∧ yX12_count.cls ≠ "java/lang/invoke/VarHandle" ∧ (parseMethodDescriptor yX12_count.desc).map (fun d => d.parameters.length) = some 1 := by decide +kernel
theorem hd_X12_cover : yX12_cover.cls ≠ "java/lang/invoke/MethodHandle" ∧ yX12_cover.cls ≠ "java/lang/invoke/VarHandle" ∧ (parseMethodDescriptor yX12_cover.desc).map (fun d => d.parameters.length) = some 2 := by decide +kernel
theorem hd_X12_days : yX12_days.cls ≠ "java/lang/invoke/MethodHandle" ∧ yX12_days.cls ≠ "java/lang/invoke/VarHandle" ∧ (parseMethodDescriptor yX12_days.desc).map (fun d => d.parameters.length) = some 1 := by decide +kernel
theorem hd_X12_does : yX12_does.cls ≠ "java/lang/invoke/MethodHandle" ∧ yX12_does.cls ≠ "java/lang/invoke/VarHandle" ∧ (parseMethodDescriptor yX12_does.desc).map (fun d => d.parameters.length) = some 1 := by decide +kernel
theorem hd_X12_draw : yX12_draw.cls ≠ "java/lang/invoke/MethodHandle" ∧ yX12_draw.cls ≠ "java/lang/invoke/VarHandle" ∧ (parseMethodDescriptor yX12_draw.desc).map (fun d => d.parameters.length) = some 1 := by decide +kernel
theorem hd_X12_drawn : yX12_drawn.cls ≠ "java/lang/invoke/MethodHandle" ∧ yX12_drawn.cls ≠ "java/lang/invoke/VarHandle" ∧ (parseMethodDescriptor yX12_drawn.desc).map (fun d => d.parameters.length) = some 0 := by decide +kernel
theorem hd_X12_easiest : yX12_easiest.cls ≠ "java/lang/invoke/MethodHandle" ∧ yX12_easiest.cls ≠ "java/lang/invoke/VarHandle" ∧ (parseMethodDescriptor yX12_easiest.desc).map (fun d => d.parameters.length) = some 0 := by decide +kernel
theorem hd_X12_eats : yX12_eats.cls ≠ "java/lang/invoke/MethodHandle" ∧ yX12_eats.cls ≠ "java/lang/invoke/VarHandle" ∧ (parseMethodDescriptor yX12_eats.desc).map (fun d => d.parameters.length) = some 1 := by decide +kernel
theorem hd_X12_ends : yX12_ends.cls ≠ "java/lang/invoke/MethodHandle" ∧ yX12_ends.cls ≠ "java/lang/invoke/VarHandle" ∧ (parseMethodDescriptor yX12_ends.desc).map (fun d => d.parameters.length) = some 0 := by decide +kernel
theorem hd_X12_everybody : yX12_everybody.cls ≠ "java/lang/invoke/MethodHandle" ∧ yX12_everybody.cls ≠ "java/lang/invoke/VarHandle" ∧ (parseMethodDescriptor yX12_everybody.desc).map (fun d => d.parameters.length) = some 0 := by decide +kernel
theorem hd_X12_fails : yX12_fails.cls ≠ "java/lang/invoke/MethodHandle" ∧ yX12_fails.cls ≠ "java/lang/invoke/VarHandle" ∧ (parseMethodDescriptor yX12_fails.desc).map (fun d => d.parameters.length) = some 1 := by decide +kernel
theorem hd_X12_fault : yX12_fault.cls ≠ "java/lang/invoke/MethodHandle" ∧ yX12_fault.cls ≠ "java/lang/invoke/VarHandle" ∧ (parseMethodDescriptor yX12_fault.desc).map (fun d => d.parameters.length) = some 1 := by decide +kernel
theorem hd_X12_feed : yX12_feed.cls ≠ "java/lang/invoke/MethodHandle" ∧ yX12_feed.cls ≠ "java/lang/invoke/VarHandle" ∧ (parseMethodDescriptor yX12_feed.desc).map (fun d => d.parameters.length) = some 5 := by decide +kernel
theorem hd_X12_firstDay : yX12_firstDay.cls ≠ "java/lang/invoke/MethodHandle" ∧ yX12_firstDay.cls ≠ "java/lang/invoke/VarHandle" ∧ (parseMethodDescriptor yX12_firstDay.desc).map (fun d => d.parameters.length) = some 0 := by decide +kernel
theorem hd_X12_goes : yX12_goes.cls ≠ "java/lang/invoke/MethodHandle" ∧ yX12_goes.cls ≠ "java/lang/invoke/VarHandle" ∧ (parseMethodDescriptor yX12_goes.desc).map (fun d => d.parameters.length) = some 2 := by decide +kernel
theorem hd_X12_goesPairs : yX12_goesPairs.cls ≠ "java/lang/invoke/MethodHandle" ∧ yX12_goesPairs.cls ≠ "java/lang/invoke/VarHandle" ∧ (parseMethodDescriptor yX12_goesPairs.desc).map (fun d => d.parameters.length) = some 3 := by decide +kernel
theorem hd_X12_hidden : yX12_hidden.cls ≠ "java/lang/invoke/MethodHandle" ∧ yX12_hidden.cls ≠ "java/lang/invoke/VarHandle" ∧ (parseMethodDescriptor yX12_hidden.desc).map (fun d => d.parameters.length) = some 2 := by decide +kernel
theorem hd_X12_hiddenAt : yX12_hiddenAt.cls ≠ "java/lang/invoke/MethodHandle" ∧ yX12_hiddenAt.cls ≠ "java/lang/invoke/VarHandle" ∧ (parseMethodDescriptor yX12_hiddenAt.desc).map (fun d => d.parameters.length) = some 3 := by decide +kernel
theorem hd_X12_house : yX12_house.cls ≠ "java/lang/invoke/MethodHandle" ∧ yX12_house.cls ≠ "java/lang/invoke/VarHandle" ∧ (parseMethodDescriptor yX12_house.desc).map (fun d => d.parameters.length) = some 1 := by decide +kernel
theorem hd_X12_image : yX12_image.cls ≠ "java/lang/invoke/MethodHandle" ∧ yX12_image.cls ≠ "java/lang/invoke/VarHandle" ∧ (parseMethodDescriptor yX12_image.desc).map (fun d => d.parameters.length) = some 1 := by decide +kernel
theorem hd_X12_init : yX12_init.cls ≠ "java/lang/invoke/MethodHandle" ∧ yX12_init.cls ≠ "java/lang/invoke/VarHandle" ∧ (parseMethodDescriptor yX12_init.desc).map (fun d => d.parameters.length) = some 0 := by decide +kernel
theorem hd_X12_is : yX12_is.cls ≠ "java/lang/invoke/MethodHandle" ∧ yX12_is.cls ≠ "java/lang/invoke/VarHandle" ∧ (parseMethodDescriptor yX12_is.desc).map (fun d => d.parameters.length) = some 1 := by decide +kernel
theorem hd_X12_isBill : yX12_isBill.cls ≠ "java/lang/invoke/MethodHandle" ∧ yX12_isBill.cls ≠ "java/lang/invoke/VarHandle" ∧ (parseMethodDescriptor yX12_isBill.desc).map (fun d => d.parameters.length) = some 1 := by decide +kernel
theorem hd_X12_isCovered : yX12_isCovered.cls ≠ "java/lang/invoke/MethodHandle" ∧ yX12_isCovered.cls ≠ "java/lang/invoke/VarHandle" ∧ (parseMethodDescriptor yX12_isCovered.desc).map (fun d => d.parameters.length) = some 2 := by decide +kernel
theorem hd_X12_isPerson : yX12_isPerson.cls ≠ "java/lang/invoke/MethodHandle" ∧ yX12_isPerson.cls ≠ "java/lang/invoke/VarHandle" ∧ (parseMethodDescriptor yX12_isPerson.desc).map (fun d => d.parameters.length) = some 1 := by decide +kernel
theorem hd_X12_isSet : yX12_isSet.cls ≠ "java/lang/invoke/MethodHandle" ∧ yX12_isSet.cls ≠ "java/lang/invoke/VarHandle" ∧ (parseMethodDescriptor yX12_isSet.desc).map (fun d => d.parameters.length) = some 1 := by decide +kernel
theorem hd_X12_judge : yX12_judge.cls ≠ "java/lang/invoke/MethodHandle" ∧ yX12_judge.cls ≠ "java/lang/invoke/VarHandle" ∧ (parseMethodDescriptor yX12_judge.desc).map (fun d => d.parameters.length) = some 2 := by decide +kernel
theorem hd_X12_keeps : yX12_keeps.cls ≠ "java/lang/invoke/MethodHandle" ∧ yX12_keeps.cls ≠ "java/lang/invoke/VarHandle" ∧ (parseMethodDescriptor yX12_keeps.desc).map (fun d => d.parameters.length) = some 0 := by decide +kernel
theorem hd_X12_laundress : yX12_laundress.cls ≠ "java/lang/invoke/MethodHandle" ∧ yX12_laundress.cls ≠ "java/lang/invoke/VarHandle" ∧ (parseMethodDescriptor yX12_laundress.desc).map (fun d => d.parameters.length) = some 1 := by decide +kernel
theorem hd_X12_laysNow : yX12_laysNow.cls ≠ "java/lang/invoke/MethodHandle" ∧ yX12_laysNow.cls ≠ "java/lang/invoke/VarHandle" ∧ (parseMethodDescriptor yX12_laysNow.desc).map (fun d => d.parameters.length) = some 0 := by decide +kernel
theorem hd_X12_laysOpposed : yX12_laysOpposed.cls ≠ "java/lang/invoke/MethodHandle" ∧ yX12_laysOpposed.cls ≠ "java/lang/invoke/VarHandle" ∧ (parseMethodDescriptor yX12_laysOpposed.desc).map (fun d => d.parameters.length) = some 1 := by decide +kernel
theorem hd_X12_laysPairs : yX12_laysPairs.cls ≠ "java/lang/invoke/MethodHandle" ∧ yX12_laysPairs.cls ≠ "java/lang/invoke/VarHandle" ∧ (parseMethodDescriptor yX12_laysPairs.desc).map (fun d => d.parameters.length) = some 1 := by decide +kernel
theorem hd_X12_laysParted : yX12_laysParted.cls ≠ "java/lang/invoke/MethodHandle" ∧ yX12_laysParted.cls ≠ "java/lang/invoke/VarHandle" ∧ (parseMethodDescriptor yX12_laysParted.desc).map (fun d => d.parameters.length) = some 0 := by decide +kernel
theorem hd_X12_lists : yX12_lists.cls ≠ "java/lang/invoke/MethodHandle" ∧ yX12_lists.cls ≠ "java/lang/invoke/VarHandle" ∧ (parseMethodDescriptor yX12_lists.desc).map (fun d => d.parameters.length) = some 3 := by decide +kernel
theorem hd_X12_next : yX12_next.cls ≠ "java/lang/invoke/MethodHandle" ∧ yX12_next.cls ≠ "java/lang/invoke/VarHandle" ∧ (parseMethodDescriptor yX12_next.desc).map (fun d => d.parameters.length) = some 0 := by decide +kernel
theorem hd_X12_noHidden : yX12_noHidden.cls ≠ "java/lang/invoke/MethodHandle" ∧ yX12_noHidden.cls ≠ "java/lang/invoke/VarHandle" ∧ (parseMethodDescriptor yX12_noHidden.desc).map (fun d => d.parameters.length) = some 2 := by decide +kernel
theorem hd_X12_noTray : yX12_noTray.cls ≠ "java/lang/invoke/MethodHandle" ∧ yX12_noTray.cls ≠ "java/lang/invoke/VarHandle" ∧ (parseMethodDescriptor yX12_noTray.desc).map (fun d => d.parameters.length) = some 1 := by decide +kernel
theorem hd_X12_notes : yX12_notes.cls ≠ "java/lang/invoke/MethodHandle" ∧ yX12_notes.cls ≠ "java/lang/invoke/VarHandle" ∧ (parseMethodDescriptor yX12_notes.desc).map (fun d => d.parameters.length) = some 0 := by decide +kernel
theorem hd_X12_numbers : yX12_numbers.cls ≠ "java/lang/invoke/MethodHandle" ∧ yX12_numbers.cls ≠ "java/lang/invoke/VarHandle" ∧ (parseMethodDescriptor yX12_numbers.desc).map (fun d => d.parameters.length) = some 3 := by decide +kernel
theorem hd_X12_opposed : yX12_opposed.cls ≠ "java/lang/invoke/MethodHandle" ∧ yX12_opposed.cls ≠ "java/lang/invoke/VarHandle" ∧ (parseMethodDescriptor yX12_opposed.desc).map (fun d => d.parameters.length) = some 2 := by decide +kernel
theorem hd_X12_opposites : yX12_opposites.cls ≠ "java/lang/invoke/MethodHandle" ∧ yX12_opposites.cls ≠ "java/lang/invoke/VarHandle" ∧ (parseMethodDescriptor yX12_opposites.desc).map (fun d => d.parameters.length) = some 1 := by decide +kernel
theorem hd_X12_pairs : yX12_pairs.cls ≠ "java/lang/invoke/MethodHandle" ∧ yX12_pairs.cls ≠ "java/lang/invoke/VarHandle" ∧ (parseMethodDescriptor yX12_pairs.desc).map (fun d => d.parameters.length) = some 2 := by decide +kernel
theorem hd_X12_passed : yX12_passed.cls ≠ "java/lang/invoke/MethodHandle" ∧ yX12_passed.cls ≠ "java/lang/invoke/VarHandle" ∧ (parseMethodDescriptor yX12_passed.desc).map (fun d => d.parameters.length) = some 2 := by decide +kernel
theorem hd_X12_passedBy : yX12_passedBy.cls ≠ "java/lang/invoke/MethodHandle" ∧ yX12_passedBy.cls ≠ "java/lang/invoke/VarHandle" ∧ (parseMethodDescriptor yX12_passedBy.desc).map (fun d => d.parameters.length) = some 1 := by decide +kernel
theorem hd_X12_passes : yX12_passes.cls ≠ "java/lang/invoke/MethodHandle" ∧ yX12_passes.cls ≠ "java/lang/invoke/VarHandle" ∧ (parseMethodDescriptor yX12_passes.desc).map (fun d => d.parameters.length) = some 1 := by decide +kernel
theorem hd_X12_perform : yX12_perform.cls ≠ "java/lang/invoke/MethodHandle" ∧ yX12_perform.cls ≠ "java/lang/invoke/VarHandle" ∧ (parseMethodDescriptor yX12_perform.desc).map (fun d => d.parameters.length) = some 1 := by decide +kernel
theorem hd_X12_person : yX12_person.cls ≠ "java/lang/invoke/MethodHandle" ∧ yX12_person.cls ≠ "java/lang/invoke/VarHandle" ∧ (parseMethodDescriptor yX12_person.desc).map (fun d => d.parameters.length) = some 2 := by decide +kernel
theorem hd_X12_pieces : yX12_pieces.cls ≠ "java/lang/invoke/MethodHandle" ∧ yX12_pieces.cls ≠ "java/lang/invoke/VarHandle" ∧ (parseMethodDescriptor yX12_pieces.desc).map (fun d => d.parameters.length) = some 1 := by decide +kernel
theorem hd_X12_piecesOf : yX12_piecesOf.cls ≠ "java/lang/invoke/MethodHandle" ∧ yX12_piecesOf.cls ≠ "java/lang/invoke/VarHandle" ∧ (parseMethodDescriptor yX12_piecesOf.desc).map (fun d => d.parameters.length) = some 2 := by decide +kernel
theorem hd_X12_plain : yX12_plain.cls ≠ "java/lang/invoke/MethodHandle" ∧ yX12_plain.cls ≠ "java/lang/invoke/VarHandle" ∧ (parseMethodDescriptor yX12_plain.desc).map (fun d => d.parameters.length) = some 1 := by decide +kernel
theorem hd_X12_probe : yX12_probe.cls ≠ "java/lang/invoke/MethodHandle" ∧ yX12_probe.cls ≠ "java/lang/invoke/VarHandle" ∧ (parseMethodDescriptor yX12_probe.desc).map (fun d => d.parameters.length) = some 2 := by decide +kernel
theorem hd_X12_quorum : yX12_quorum.cls ≠ "java/lang/invoke/MethodHandle" ∧ yX12_quorum.cls ≠ "java/lang/invoke/VarHandle" ∧ (parseMethodDescriptor yX12_quorum.desc).map (fun d => d.parameters.length) = some 0 := by decide +kernel
theorem hd_X12_reserve : yX12_reserve.cls ≠ "java/lang/invoke/MethodHandle" ∧ yX12_reserve.cls ≠ "java/lang/invoke/VarHandle" ∧ (parseMethodDescriptor yX12_reserve.desc).map (fun d => d.parameters.length) = some 1 := by decide +kernel
theorem hd_X12_restore : yX12_restore.cls ≠ "java/lang/invoke/MethodHandle" ∧ yX12_restore.cls ≠ "java/lang/invoke/VarHandle" ∧ (parseMethodDescriptor yX12_restore.desc).map (fun d => d.parameters.length) = some 1 := by decide +kernel
theorem hd_X12_see : yX12_see.cls ≠ "java/lang/invoke/MethodHandle" ∧ yX12_see.cls ≠ "java/lang/invoke/VarHandle" ∧ (parseMethodDescriptor yX12_see.desc).map (fun d => d.parameters.length) = some 1 := by decide +kernel
theorem hd_X12_send : yX12_send.cls ≠ "java/lang/invoke/MethodHandle" ∧ yX12_send.cls ≠ "java/lang/invoke/VarHandle" ∧ (parseMethodDescriptor yX12_send.desc).map (fun d => d.parameters.length) = some 1 := by decide +kernel
theorem hd_X12_sits : yX12_sits.cls ≠ "java/lang/invoke/MethodHandle" ∧ yX12_sits.cls ≠ "java/lang/invoke/VarHandle" ∧ (parseMethodDescriptor yX12_sits.desc).map (fun d => d.parameters.length) = some 1 := by decide +kernel
theorem hd_X12_sitsNow : yX12_sitsNow.cls ≠ "java/lang/invoke/MethodHandle" ∧ yX12_sitsNow.cls ≠ "java/lang/invoke/VarHandle" ∧ (parseMethodDescriptor yX12_sitsNow.desc).map (fun d => d.parameters.length) = some 1 := by decide +kernel
theorem hd_X12_takes : yX12_takes.cls ≠ "java/lang/invoke/MethodHandle" ∧ yX12_takes.cls ≠ "java/lang/invoke/VarHandle" ∧ (parseMethodDescriptor yX12_takes.desc).map (fun d => d.parameters.length) = some 2 := by decide +kernel
theorem hd_X12_talk : yX12_talk.cls ≠ "java/lang/invoke/MethodHandle" ∧ yX12_talk.cls ≠ "java/lang/invoke/VarHandle" ∧ (parseMethodDescriptor yX12_talk.desc).map (fun d => d.parameters.length) = some 2 := by decide +kernel
theorem hd_X12_talkBy : yX12_talkBy.cls ≠ "java/lang/invoke/MethodHandle" ∧ yX12_talkBy.cls ≠ "java/lang/invoke/VarHandle" ∧ (parseMethodDescriptor yX12_talkBy.desc).map (fun d => d.parameters.length) = some 3 := by decide +kernel
theorem hd_X12_talks : yX12_talks.cls ≠ "java/lang/invoke/MethodHandle" ∧ yX12_talks.cls ≠ "java/lang/invoke/VarHandle" ∧ (parseMethodDescriptor yX12_talks.desc).map (fun d => d.parameters.length) = some 2 := by decide +kernel
theorem hd_X12_tens : yX12_tens.cls ≠ "java/lang/invoke/MethodHandle" ∧ yX12_tens.cls ≠ "java/lang/invoke/VarHandle" ∧ (parseMethodDescriptor yX12_tens.desc).map (fun d => d.parameters.length) = some 1 := by decide +kernel
theorem hd_X12_town : yX12_town.cls ≠ "java/lang/invoke/MethodHandle" ∧ yX12_town.cls ≠ "java/lang/invoke/VarHandle" ∧ (parseMethodDescriptor yX12_town.desc).map (fun d => d.parameters.length) = some 1 := by decide +kernel
theorem hd_X12_townNow : yX12_townNow.cls ≠ "java/lang/invoke/MethodHandle" ∧ yX12_townNow.cls ≠ "java/lang/invoke/VarHandle" ∧ (parseMethodDescriptor yX12_townNow.desc).map (fun d => d.parameters.length) = some 0 := by decide +kernel
theorem hd_X12_townOn : yX12_townOn.cls ≠ "java/lang/invoke/MethodHandle" ∧ yX12_townOn.cls ≠ "java/lang/invoke/VarHandle" ∧ (parseMethodDescriptor yX12_townOn.desc).map (fun d => d.parameters.length) = some 1 := by decide +kernel
theorem hd_X12_twosNow : yX12_twosNow.cls ≠ "java/lang/invoke/MethodHandle" ∧ yX12_twosNow.cls ≠ "java/lang/invoke/VarHandle" ∧ (parseMethodDescriptor yX12_twosNow.desc).map (fun d => d.parameters.length) = some 0 := by decide +kernel
theorem hd_X12_undo : yX12_undo.cls ≠ "java/lang/invoke/MethodHandle" ∧ yX12_undo.cls ≠ "java/lang/invoke/VarHandle" ∧ (parseMethodDescriptor yX12_undo.desc).map (fun d => d.parameters.length) = some 1 := by decide +kernel
theorem hd_X12_ways : yX12_ways.cls ≠ "java/lang/invoke/MethodHandle" ∧ yX12_ways.cls ≠ "java/lang/invoke/VarHandle" ∧ (parseMethodDescriptor yX12_ways.desc).map (fun d => d.parameters.length) = some 1 := by decide +kernel
theorem hd_X12_whyNot : yX12_whyNot.cls ≠ "java/lang/invoke/MethodHandle" ∧ yX12_whyNot.cls ≠ "java/lang/invoke/VarHandle" ∧ (parseMethodDescriptor yX12_whyNot.desc).map (fun d => d.parameters.length) = some 1 := by decide +kernel
theorem hd_X12_whySend : yX12_whySend.cls ≠ "java/lang/invoke/MethodHandle" ∧ yX12_whySend.cls ≠ "java/lang/invoke/VarHandle" ∧ (parseMethodDescriptor yX12_whySend.desc).map (fun d => d.parameters.length) = some 2 := by decide +kernel
theorem hd_X12_whyTalk : yX12_whyTalk.cls ≠ "java/lang/invoke/MethodHandle" ∧ yX12_whyTalk.cls ≠ "java/lang/invoke/VarHandle" ∧ (parseMethodDescriptor yX12_whyTalk.desc).map (fun d => d.parameters.length) = some 2 := by decide +kernel
theorem hd_X12_within : yX12_within.cls ≠ "java/lang/invoke/MethodHandle" ∧ yX12_within.cls ≠ "java/lang/invoke/VarHandle" ∧ (parseMethodDescriptor yX12_within.desc).map (fun d => d.parameters.length) = some 3 := by decide +kernel
theorem hd_X12_word : yX12_word.cls ≠ "java/lang/invoke/MethodHandle" ∧ yX12_word.cls ≠ "java/lang/invoke/VarHandle" ∧ (parseMethodDescriptor yX12_word.desc).map (fun d => d.parameters.length) = some 0 := by decide +kernel
theorem hd_X12_write : yX12_write.cls ≠ "java/lang/invoke/MethodHandle" ∧ yX12_write.cls ≠ "java/lang/invoke/VarHandle" ∧ (parseMethodDescriptor yX12_write.desc).map (fun d => d.parameters.length) = some 3 := by decide +kernel
theorem hd_X12_year : yX12_year.cls ≠ "java/lang/invoke/MethodHandle" ∧ yX12_year.cls ≠ "java/lang/invoke/VarHandle" ∧ (parseMethodDescriptor yX12_year.desc).map (fun d => d.parameters.length) = some 2 := by decide +kernel
theorem hd_X1_init : yX1_init.cls ≠ "java/lang/invoke/MethodHandle" ∧ yX1_init.cls ≠ "java/lang/invoke/VarHandle" ∧ (parseMethodDescriptor yX1_init.desc).map (fun d => d.parameters.length) = some 0 := by decide +kernel
theorem hd_X2_add : yX2_add.cls ≠ "java/lang/invoke/MethodHandle" ∧ yX2_add.cls ≠ "java/lang/invoke/VarHandle" ∧ (parseMethodDescriptor yX2_add.desc).map (fun d => d.parameters.length) = some 1 := by decide +kernel
theorem hd_X2_init : yX2_init.cls ≠ "java/lang/invoke/MethodHandle" ∧ yX2_init.cls ≠ "java/lang/invoke/VarHandle" ∧ (parseMethodDescriptor yX2_init.desc).map (fun d => d.parameters.length) = some 1 := by decide +kernel
theorem hd_X3_init : yX3_init.cls ≠ "java/lang/invoke/MethodHandle" ∧ yX3_init.cls ≠ "java/lang/invoke/VarHandle" ∧ (parseMethodDescriptor yX3_init.desc).map (fun d => d.parameters.length) = some 0 := by decide +kernel
theorem hd_X5_advance : yX5_advance.cls ≠ "java/lang/invoke/MethodHandle" ∧ yX5_advance.cls ≠ "java/lang/invoke/VarHandle" ∧ (parseMethodDescriptor yX5_advance.desc).map (fun d => d.parameters.length) = some 0 := by decide +kernel
theorem hd_X5_init : yX5_init.cls ≠ "java/lang/invoke/MethodHandle" ∧ yX5_init.cls ≠ "java/lang/invoke/VarHandle" ∧ (parseMethodDescriptor yX5_init.desc).map (fun d => d.parameters.length) = some 0 := by decide +kernel
theorem hd_X5_read : yX5_read.cls ≠ "java/lang/invoke/MethodHandle" ∧ yX5_read.cls ≠ "java/lang/invoke/VarHandle" ∧ (parseMethodDescriptor yX5_read.desc).map (fun d => d.parameters.length) = some 2 := by decide +kernel
theorem hd_X5_refuse : yX5_refuse.cls ≠ "java/lang/invoke/MethodHandle" ∧ yX5_refuse.cls ≠ "java/lang/invoke/VarHandle" ∧ (parseMethodDescriptor yX5_refuse.desc).map (fun d => d.parameters.length) = some 1 := by decide +kernel
theorem hd_X5_take : yX5_take.cls ≠ "java/lang/invoke/MethodHandle" ∧ yX5_take.cls ≠ "java/lang/invoke/VarHandle" ∧ (parseMethodDescriptor yX5_take.desc).map (fun d => d.parameters.length) = some 1 := by decide +kernel
theorem hd_X5_takeNumber : yX5_takeNumber.cls ≠ "java/lang/invoke/MethodHandle" ∧ yX5_takeNumber.cls ≠ "java/lang/invoke/VarHandle" ∧ (parseMethodDescriptor yX5_takeNumber.desc).map (fun d => d.parameters.length) = some 2 := by decide +kernel
theorem hd_X6_init : yX6_init.cls ≠ "java/lang/invoke/MethodHandle" ∧ yX6_init.cls ≠ "java/lang/invoke/VarHandle" ∧ (parseMethodDescriptor yX6_init.desc).map (fun d => d.parameters.length) = some 0 := by decide +kernel
theorem hd_X7_carryOut : yX7_carryOut.cls ≠ "java/lang/invoke/MethodHandle" ∧ yX7_carryOut.cls ≠ "java/lang/invoke/VarHandle" ∧ (parseMethodDescriptor yX7_carryOut.desc).map (fun d => d.parameters.length) = some 2 := by decide +kernel
theorem hd_X7_inTown : yX7_inTown.cls ≠ "java/lang/invoke/MethodHandle" ∧ yX7_inTown.cls ≠ "java/lang/invoke/VarHandle" ∧ (parseMethodDescriptor yX7_inTown.desc).map (fun d => d.parameters.length) = some 0 := by decide +kernel
theorem hd_X7_inTownOn : yX7_inTownOn.cls ≠ "java/lang/invoke/MethodHandle" ∧ yX7_inTownOn.cls ≠ "java/lang/invoke/VarHandle" ∧ (parseMethodDescriptor yX7_inTownOn.desc).map (fun d => d.parameters.length) = some 1 := by decide +kernel
theorem hd_X7_init : yX7_init.cls ≠ "java/lang/invoke/MethodHandle" ∧ yX7_init.cls ≠ "java/lang/invoke/VarHandle" ∧ (parseMethodDescriptor yX7_init.desc).map (fun d => d.parameters.length) = some 1 := by decide +kernel
theorem hd_X7_takeFrom : yX7_takeFrom.cls ≠ "java/lang/invoke/MethodHandle" ∧ yX7_takeFrom.cls ≠ "java/lang/invoke/VarHandle" ∧ (parseMethodDescriptor yX7_takeFrom.desc).map (fun d => d.parameters.length) = some 1 := by decide +kernel
theorem hd_X7_whyNoTalk : yX7_whyNoTalk.cls ≠ "java/lang/invoke/MethodHandle" ∧ yX7_whyNoTalk.cls ≠ "java/lang/invoke/VarHandle" ∧ (parseMethodDescriptor yX7_whyNoTalk.desc).map (fun d => d.parameters.length) = some 2 := by decide +kernel
theorem hd_X7_whyNot : yX7_whyNot.cls ≠ "java/lang/invoke/MethodHandle" ∧ yX7_whyNot.cls ≠ "java/lang/invoke/VarHandle" ∧ (parseMethodDescriptor yX7_whyNot.desc).map (fun d => d.parameters.length) = some 1 := by decide +kernel
theorem hd_X8_cut : yX8_cut.cls ≠ "java/lang/invoke/MethodHandle" ∧ yX8_cut.cls ≠ "java/lang/invoke/VarHandle" ∧ (parseMethodDescriptor yX8_cut.desc).map (fun d => d.parameters.length) = some 2 := by decide +kernel
theorem hd_X8_endOf : yX8_endOf.cls ≠ "java/lang/invoke/MethodHandle" ∧ yX8_endOf.cls ≠ "java/lang/invoke/VarHandle" ∧ (parseMethodDescriptor yX8_endOf.desc).map (fun d => d.parameters.length) = some 1 := by decide +kernel
theorem hd_X8_init : yX8_init.cls ≠ "java/lang/invoke/MethodHandle" ∧ yX8_init.cls ≠ "java/lang/invoke/VarHandle" ∧ (parseMethodDescriptor yX8_init.desc).map (fun d => d.parameters.length) = some 0 := by decide +kernel
theorem hd_X8_isDigit : yX8_isDigit.cls ≠ "java/lang/invoke/MethodHandle" ∧ yX8_isDigit.cls ≠ "java/lang/invoke/VarHandle" ∧ (parseMethodDescriptor yX8_isDigit.desc).map (fun d => d.parameters.length) = some 1 := by decide +kernel
theorem hd_X8_isLetter : yX8_isLetter.cls ≠ "java/lang/invoke/MethodHandle" ∧ yX8_isLetter.cls ≠ "java/lang/invoke/VarHandle" ∧ (parseMethodDescriptor yX8_isLetter.desc).map (fun d => d.parameters.length) = some 1 := by decide +kernel
theorem hd_X8_kindOf : yX8_kindOf.cls ≠ "java/lang/invoke/MethodHandle" ∧ yX8_kindOf.cls ≠ "java/lang/invoke/VarHandle" ∧ (parseMethodDescriptor yX8_kindOf.desc).map (fun d => d.parameters.length) = some 2 := by decide +kernel
theorem hd_X9_init : yX9_init.cls ≠ "java/lang/invoke/MethodHandle" ∧ yX9_init.cls ≠ "java/lang/invoke/VarHandle" ∧ (parseMethodDescriptor yX9_init.desc).map (fun d => d.parameters.length) = some 0 := by decide +kernel
theorem hd_X9_isMissing : yX9_isMissing.cls ≠ "java/lang/invoke/MethodHandle" ∧ yX9_isMissing.cls ≠ "java/lang/invoke/VarHandle" ∧ (parseMethodDescriptor yX9_isMissing.desc).map (fun d => d.parameters.length) = some 0 := by decide +kernel
theorem hd_X9_lay : yX9_lay.cls ≠ "java/lang/invoke/MethodHandle" ∧ yX9_lay.cls ≠ "java/lang/invoke/VarHandle" ∧ (parseMethodDescriptor yX9_lay.desc).map (fun d => d.parameters.length) = some 2 := by decide +kernel
