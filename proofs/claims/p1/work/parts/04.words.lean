theorem wm_0 : Cond.methodLink RX11 1 Lib.objectInit ∈ WG := wg_t1 (List.mem_of_getElem? (i := 28) rfl) rfl
theorem wm_1 : Cond.instanceMethod Lib.objectInit ∈ WG := wg_t1 (List.mem_of_getElem? (i := 29) rfl) rfl
theorem wm_2 : Cond.code Lib.objectInit ⟨#[0xb1]⟩ 1 none ∈ WG := wg_t1 (List.mem_of_getElem? (i := 30) rfl) rfl
theorem wm_3 : Cond.arrayClass .byte ∈ WG := wg_t1 (List.mem_of_getElem? (i := 66) rfl) rfl
theorem wm_4 : Cond.fieldLink RX11 9 "OppositeHouse" "tape" "[B" ∈ WG := wg_t2 (List.mem_of_getElem? (i := 98) rfl) rfl
theorem wm_5 : Cond.fieldLink RX11 13 "OppositeHouse" "tapeLength" "I" ∈ WG := wg_t2 (List.mem_of_getElem? (i := 99) rfl) rfl
theorem wm_6 : Cond.fieldLink RX11 17 "OppositeHouse" "faultKind" "I" ∈ WG := wg_t2 (List.mem_of_getElem? (i := 100) rfl) rfl
theorem wm_7 : Cond.fieldLink RX11 20 "OppositeHouse" "faultPlace" "I" ∈ WG := wg_t2 (List.mem_of_getElem? (i := 101) rfl) rfl
theorem wm_8 : Cond.classLink RX11 23 RX5 ∈ WG := wg_t1 (List.mem_of_getElem? (i := 31) rfl) rfl
theorem wm_9 : Cond.instantiable RX5 9 ∈ WG := wg_t1 (List.mem_of_getElem? (i := 32) rfl) rfl
theorem wm_10 : Cond.initialized RX5 ∈ WG := wg_t1 (List.mem_of_getElem? (i := 2) rfl) rfl
theorem wm_11 : Cond.methodLink RX5 3 Lib.objectInit ∈ WG := wg_t1 (List.mem_of_getElem? (i := 36) rfl) rfl
theorem wm_12 : Cond.classLink RX5 9 RX8 ∈ WG := wg_t1 (List.mem_of_getElem? (i := 37) rfl) rfl
theorem wm_13 : Cond.instantiable RX8 6 ∈ WG := wg_t1 (List.mem_of_getElem? (i := 38) rfl) rfl
theorem wm_14 : Cond.initialized RX8 ∈ WG := wg_t1 (List.mem_of_getElem? (i := 3) rfl) rfl
theorem wm_15 : Cond.methodLink RX8 3 Lib.objectInit ∈ WG := wg_t1 (List.mem_of_getElem? (i := 42) rfl) rfl
theorem wm_16 : Cond.fieldLink RX8 9 "OppositeHouse$Tokens" "text" "[B" ∈ WG := wg_t1 (List.mem_of_getElem? (i := 43) rfl) rfl
theorem wm_17 : Cond.fieldLink RX8 15 "OppositeHouse$Tokens" "length" "I" ∈ WG := wg_t1 (List.mem_of_getElem? (i := 44) rfl) rfl
theorem wm_18 : Cond.fieldLink RX8 19 "OppositeHouse$Tokens" "size" "I" ∈ WG := wg_t1 (List.mem_of_getElem? (i := 45) rfl) rfl
theorem wm_19 : Cond.arrayClass .int ∈ WG := wg_t1 (List.mem_of_getElem? (i := 67) rfl) rfl
theorem wm_20 : Cond.fieldLink RX8 22 "OppositeHouse$Tokens" "kinds" "[I" ∈ WG := wg_t1 (List.mem_of_getElem? (i := 47) rfl) rfl
theorem wm_21 : Cond.fieldLink RX8 26 "OppositeHouse$Tokens" "places" "[I" ∈ WG := wg_t1 (List.mem_of_getElem? (i := 49) rfl) rfl
theorem wm_22 : Cond.fieldLink RX8 29 "OppositeHouse$Tokens" "values" "[I" ∈ WG := wg_t1 (List.mem_of_getElem? (i := 51) rfl) rfl
theorem wm_23 : Cond.code yX8_init cX8_init 1 none ∈ WG := wg_t1 (List.mem_of_getElem? (i := 41) rfl) rfl
theorem wm_24 : Cond.instanceMethod yX8_init ∈ WG := wg_t1 (List.mem_of_getElem? (i := 40) rfl) rfl
theorem wm_25 : Cond.fieldLink RX5 12 "OppositeHouse$Reader" "tokens" "LOppositeHouse$Tokens;" ∈ WG := wg_t1 (List.mem_of_getElem? (i := 144) rfl) rfl
theorem wm_26 : Cond.fieldLink RX5 18 "OppositeHouse$Reader" "at" "I" ∈ WG := wg_t1 (List.mem_of_getElem? (i := 145) rfl) rfl
theorem wm_27 : Cond.fieldLink RX5 22 "OppositeHouse$Reader" "token" "I" ∈ WG := wg_t1 (List.mem_of_getElem? (i := 146) rfl) rfl
theorem wm_28 : Cond.fieldLink RX5 25 "OppositeHouse$Reader" "fault" "I" ∈ WG := wg_t1 (List.mem_of_getElem? (i := 147) rfl) rfl
theorem wm_29 : Cond.fieldLink RX5 28 "OppositeHouse$Reader" "faultPlace" "I" ∈ WG := wg_t1 (List.mem_of_getElem? (i := 149) rfl) rfl
theorem wm_30 : Cond.classLink RX5 31 RX3 ∈ WG := wg_t1 (List.mem_of_getElem? (i := 68) rfl) rfl
theorem wm_31 : Cond.instantiable RX3 12 ∈ WG := wg_t1 (List.mem_of_getElem? (i := 69) rfl) rfl
theorem wm_32 : Cond.initialized RX3 ∈ WG := wg_t1 (List.mem_of_getElem? (i := 4) rfl) rfl
theorem wm_33 : Cond.methodLink RX3 3 Lib.objectInit ∈ WG := wg_t1 (List.mem_of_getElem? (i := 73) rfl) rfl
theorem wm_34 : Cond.fieldLink RX3 9 "OppositeHouse$House" "lines" "I" ∈ WG := wg_t1 (List.mem_of_getElem? (i := 74) rfl) rfl
theorem wm_35 : Cond.fieldLink RX3 15 "OppositeHouse$House" "people" "I" ∈ WG := wg_t1 (List.mem_of_getElem? (i := 79) rfl) rfl
theorem wm_36 : Cond.fieldLink RX3 18 "OppositeHouse$House" "textLines" "I" ∈ WG := wg_t1 (List.mem_of_getElem? (i := 87) rfl) rfl
theorem wm_37 : Cond.fieldLink RX3 21 "OppositeHouse$House" "startDay" "I" ∈ WG := wg_t1 (List.mem_of_getElem? (i := 90) rfl) rfl
theorem wm_38 : Cond.fieldLink RX3 24 "OppositeHouse$House" "opposing" "LOppositeHouse$Law;" ∈ WG := wg_t1 (List.mem_of_getElem? (i := 93) rfl) rfl
theorem wm_39 : Cond.fieldLink RX3 28 "OppositeHouse$House" "saying" "LOppositeHouse$Law;" ∈ WG := wg_t1 (List.mem_of_getElem? (i := 96) rfl) rfl
theorem wm_40 : Cond.fieldLink RX3 31 "OppositeHouse$House" "swaying" "LOppositeHouse$Law;" ∈ WG := wg_t1 (List.mem_of_getElem? (i := 99) rfl) rfl
theorem wm_41 : Cond.fieldLink RX3 34 "OppositeHouse$House" "views" "[I" ∈ WG := wg_t1 (List.mem_of_getElem? (i := 102) rfl) rfl
theorem wm_42 : Cond.fieldLink RX3 38 "OppositeHouse$House" "first" "[I" ∈ WG := wg_t1 (List.mem_of_getElem? (i := 105) rfl) rfl
theorem wm_43 : Cond.fieldLink RX3 41 "OppositeHouse$House" "last" "[I" ∈ WG := wg_t1 (List.mem_of_getElem? (i := 109) rfl) rfl
theorem wm_44 : Cond.fieldLink RX3 44 "OppositeHouse$House" "temper" "[I" ∈ WG := wg_t1 (List.mem_of_getElem? (i := 113) rfl) rfl
theorem wm_45 : Cond.fieldLink RX3 47 "OppositeHouse$House" "weight" "[I" ∈ WG := wg_t1 (List.mem_of_getElem? (i := 116) rfl) rfl
theorem wm_46 : Cond.code yX3_init cX3_init 1 none ∈ WG := wg_t1 (List.mem_of_getElem? (i := 72) rfl) rfl
theorem wm_47 : Cond.instanceMethod yX3_init ∈ WG := wg_t1 (List.mem_of_getElem? (i := 71) rfl) rfl
theorem wm_48 : Cond.fieldLink RX5 34 "OppositeHouse$Reader" "told" "LOppositeHouse$House;" ∈ WG := wg_t1 (List.mem_of_getElem? (i := 151) rfl) rfl
theorem wm_49 : Cond.fieldLink RX5 38 "OppositeHouse$Reader" "code" "[I" ∈ WG := wg_t1 (List.mem_of_getElem? (i := 152) rfl) rfl
theorem wm_50 : Cond.fieldLink RX5 42 "OppositeHouse$Reader" "codeSize" "I" ∈ WG := wg_t1 (List.mem_of_getElem? (i := 153) rfl) rfl
theorem wm_51 : Cond.fieldLink RX5 45 "OppositeHouse$Reader" "namesAllowed" "I" ∈ WG := wg_t1 (List.mem_of_getElem? (i := 154) rfl) rfl
theorem wm_52 : Cond.code yX5_init cX5_init 1 none ∈ WG := wg_t1 (List.mem_of_getElem? (i := 35) rfl) rfl
theorem wm_53 : Cond.instanceMethod yX5_init ∈ WG := wg_t1 (List.mem_of_getElem? (i := 34) rfl) rfl
theorem wm_54 : Cond.fieldLink RX11 26 "OppositeHouse" "reader" "LOppositeHouse$Reader;" ∈ WG := wg_t2 (List.mem_of_getElem? (i := 102) rfl) rfl
theorem wm_55 : Cond.classLink RX11 30 RX9 ∈ WG := wg_t1 (List.mem_of_getElem? (i := 174) rfl) rfl
theorem wm_56 : Cond.fieldLink RX11 32 "OppositeHouse" "trays" "[LOppositeHouse$Tray;" ∈ WG := wg_t2 (List.mem_of_getElem? (i := 107) rfl) rfl
theorem wm_57 : Cond.classLink RX11 36 RX7 ∈ WG := wg_t1 (List.mem_of_getElem? (i := 176) rfl) rfl
theorem wm_58 : Cond.fieldLink RX11 38 "OppositeHouse" "images" "[LOppositeHouse$State;" ∈ WG := wg_t2 (List.mem_of_getElem? (i := 108) rfl) rfl
theorem wm_59 : Cond.arrayClass .boolean ∈ WG := wg_t1 (List.mem_of_getElem? (i := 191) rfl) rfl
theorem wm_60 : Cond.fieldLink RX11 42 "OppositeHouse" "imageMade" "[Z" ∈ WG := wg_t2 (List.mem_of_getElem? (i := 109) rfl) rfl
theorem wm_61 : Cond.classLink RX11 46 RX6 ∈ WG := wg_t1 (List.mem_of_getElem? (i := 178) rfl) rfl
theorem wm_62 : Cond.instantiable RX6 2 ∈ WG := wg_t1 (List.mem_of_getElem? (i := 179) rfl) rfl
theorem wm_63 : Cond.initialized RX6 ∈ WG := wg_t1 (List.mem_of_getElem? (i := 5) rfl) rfl
theorem wm_64 : Cond.methodLink RX6 3 Lib.objectInit ∈ WG := wg_t1 (List.mem_of_getElem? (i := 183) rfl) rfl
theorem wm_65 : Cond.fieldLink RX6 9 "OppositeHouse$Scales" "given" "[I" ∈ WG := wg_t1 (List.mem_of_getElem? (i := 184) rfl) rfl
theorem wm_66 : Cond.fieldLink RX6 15 "OppositeHouse$Scales" "held" "[I" ∈ WG := wg_t1 (List.mem_of_getElem? (i := 185) rfl) rfl
theorem wm_67 : Cond.code yX6_init cX6_init 1 none ∈ WG := wg_t1 (List.mem_of_getElem? (i := 182) rfl) rfl
theorem wm_68 : Cond.instanceMethod yX6_init ∈ WG := wg_t1 (List.mem_of_getElem? (i := 181) rfl) rfl
theorem wm_69 : Cond.fieldLink RX11 49 "OppositeHouse" "scales" "LOppositeHouse$Scales;" ∈ WG := wg_t2 (List.mem_of_getElem? (i := 110) rfl) rfl
theorem wm_70 : Cond.classLink RX11 53 RX0 ∈ WG := wg_t1 (List.mem_of_getElem? (i := 192) rfl) rfl
theorem wm_71 : Cond.instantiable RX0 4 ∈ WG := wg_t1 (List.mem_of_getElem? (i := 193) rfl) rfl
theorem wm_72 : Cond.initialized RX0 ∈ WG := wg_t1 (List.mem_of_getElem? (i := 6) rfl) rfl
theorem wm_73 : Cond.methodLink RX0 3 Lib.objectInit ∈ WG := wg_t1 (List.mem_of_getElem? (i := 197) rfl) rfl
theorem wm_74 : Cond.fieldLink RX0 9 "OppositeHouse$Circle" "people" "I" ∈ WG := wg_t1 (List.mem_of_getElem? (i := 198) rfl) rfl
theorem wm_75 : Cond.fieldLink RX0 15 "OppositeHouse$Circle" "rows" "[I" ∈ WG := wg_t1 (List.mem_of_getElem? (i := 199) rfl) rfl
theorem wm_76 : Cond.fieldLink RX0 19 "OppositeHouse$Circle" "partings" "[I" ∈ WG := wg_t1 (List.mem_of_getElem? (i := 201) rfl) rfl
theorem wm_77 : Cond.fieldLink RX0 22 "OppositeHouse$Circle" "worth" "[I" ∈ WG := wg_t1 (List.mem_of_getElem? (i := 203) rfl) rfl
theorem wm_78 : Cond.code yX0_init cX0_init 1 none ∈ WG := wg_t1 (List.mem_of_getElem? (i := 196) rfl) rfl
theorem wm_79 : Cond.instanceMethod yX0_init ∈ WG := wg_t1 (List.mem_of_getElem? (i := 195) rfl) rfl
theorem wm_80 : Cond.fieldLink RX11 56 "OppositeHouse" "circle" "LOppositeHouse$Circle;" ∈ WG := wg_t2 (List.mem_of_getElem? (i := 111) rfl) rfl
theorem wm_81 : Cond.classLink RX11 60 RX10 ∈ WG := wg_t1 (List.mem_of_getElem? (i := 213) rfl) rfl
theorem wm_82 : Cond.instantiable RX10 8 ∈ WG := wg_t1 (List.mem_of_getElem? (i := 214) rfl) rfl
theorem wm_83 : Cond.initialized RX10 ∈ WG := wg_t1 (List.mem_of_getElem? (i := 7) rfl) rfl
theorem wm_84 : Cond.methodLink RX10 3 Lib.objectInit ∈ WG := wg_t1 (List.mem_of_getElem? (i := 218) rfl) rfl
theorem wm_85 : Cond.fieldLink RX10 9 "OppositeHouse$Turning" "one" "I" ∈ WG := wg_t1 (List.mem_of_getElem? (i := 219) rfl) rfl
theorem wm_86 : Cond.fieldLink RX10 15 "OppositeHouse$Turning" "other" "I" ∈ WG := wg_t1 (List.mem_of_getElem? (i := 220) rfl) rfl
theorem wm_87 : Cond.fieldLink RX10 18 "OppositeHouse$Turning" "stamp" "I" ∈ WG := wg_t1 (List.mem_of_getElem? (i := 221) rfl) rfl
theorem wm_88 : Cond.fieldLink RX10 21 "OppositeHouse$Turning" "length" "I" ∈ WG := wg_t1 (List.mem_of_getElem? (i := 222) rfl) rfl
theorem wm_89 : Cond.fieldLink RX10 24 "OppositeHouse$Turning" "path" "[I" ∈ WG := wg_t1 (List.mem_of_getElem? (i := 224) rfl) rfl
theorem wm_90 : Cond.fieldLink RX10 28 "OppositeHouse$Turning" "queue" "[I" ∈ WG := wg_t1 (List.mem_of_getElem? (i := 226) rfl) rfl
theorem wm_91 : Cond.fieldLink RX10 31 "OppositeHouse$Turning" "from" "[I" ∈ WG := wg_t1 (List.mem_of_getElem? (i := 227) rfl) rfl
theorem wm_92 : Cond.fieldLink RX10 34 "OppositeHouse$Turning" "by" "[I" ∈ WG := wg_t1 (List.mem_of_getElem? (i := 228) rfl) rfl
theorem wm_93 : Cond.code yX10_init cX10_init 1 none ∈ WG := wg_t1 (List.mem_of_getElem? (i := 217) rfl) rfl
theorem wm_94 : Cond.instanceMethod yX10_init ∈ WG := wg_t1 (List.mem_of_getElem? (i := 216) rfl) rfl
theorem wm_95 : Cond.fieldLink RX11 63 "OppositeHouse" "turning" "LOppositeHouse$Turning;" ∈ WG := wg_t2 (List.mem_of_getElem? (i := 112) rfl) rfl
theorem wm_96 : Cond.classLink RX11 67 RX1 ∈ WG := wg_t2 (List.mem_of_getElem? (i := 6) rfl) rfl
theorem wm_97 : Cond.instantiable RX1 5 ∈ WG := wg_t2 (List.mem_of_getElem? (i := 7) rfl) rfl
theorem wm_98 : Cond.initialized RX1 ∈ WG := wg_t1 (List.mem_of_getElem? (i := 8) rfl) rfl
theorem wm_99 : Cond.methodLink RX1 3 Lib.objectInit ∈ WG := wg_t2 (List.mem_of_getElem? (i := 11) rfl) rfl
theorem wm_100 : Cond.fieldLink RX1 9 "OppositeHouse$Guess" "one" "I" ∈ WG := wg_t2 (List.mem_of_getElem? (i := 12) rfl) rfl
theorem wm_101 : Cond.fieldLink RX1 15 "OppositeHouse$Guess" "opposing" "I" ∈ WG := wg_t2 (List.mem_of_getElem? (i := 13) rfl) rfl
theorem wm_102 : Cond.fieldLink RX1 18 "OppositeHouse$Guess" "stamp" "I" ∈ WG := wg_t2 (List.mem_of_getElem? (i := 14) rfl) rfl
theorem wm_103 : Cond.fieldLink RX1 21 "OppositeHouse$Guess" "size" "I" ∈ WG := wg_t2 (List.mem_of_getElem? (i := 15) rfl) rfl
theorem wm_104 : Cond.fieldLink RX1 24 "OppositeHouse$Guess" "fitting" "[I" ∈ WG := wg_t2 (List.mem_of_getElem? (i := 17) rfl) rfl
theorem wm_105 : Cond.code yX1_init cX1_init 1 none ∈ WG := wg_t2 (List.mem_of_getElem? (i := 10) rfl) rfl
theorem wm_106 : Cond.instanceMethod yX1_init ∈ WG := wg_t2 (List.mem_of_getElem? (i := 9) rfl) rfl
theorem wm_107 : Cond.fieldLink RX11 70 "OppositeHouse" "guess" "LOppositeHouse$Guess;" ∈ WG := wg_t2 (List.mem_of_getElem? (i := 113) rfl) rfl
theorem wm_108 : Cond.fieldLink RX11 74 "OppositeHouse" "changes" "I" ∈ WG := wg_t2 (List.mem_of_getElem? (i := 114) rfl) rfl
theorem wm_109 : Cond.classLink RX11 77 RX3 ∈ WG := wg_t2 (List.mem_of_getElem? (i := 30) rfl) rfl
theorem wm_110 : Cond.instantiable RX7 4 ∈ WG := wg_t2 (List.mem_of_getElem? (i := 32) rfl) rfl
theorem wm_111 : Cond.initialized RX7 ∈ WG := wg_t1 (List.mem_of_getElem? (i := 9) rfl) rfl
theorem wm_112 : Cond.methodLink RX7 3 Lib.objectInit ∈ WG := wg_t2 (List.mem_of_getElem? (i := 36) rfl) rfl
theorem wm_113 : Cond.fieldLink RX7 9 "OppositeHouse$State" "day" "I" ∈ WG := wg_t2 (List.mem_of_getElem? (i := 43) rfl) rfl
theorem wm_114 : Cond.fieldLink RX7 15 "OppositeHouse$State" "away" "I" ∈ WG := wg_t2 (List.mem_of_getElem? (i := 48) rfl) rfl
theorem wm_115 : Cond.fieldLink RX7 18 "OppositeHouse$State" "views" "[I" ∈ WG := wg_t2 (List.mem_of_getElem? (i := 50) rfl) rfl
theorem wm_116 : Cond.fieldLink RX7 22 "OppositeHouse$State" "house" "LOppositeHouse$House;" ∈ WG := wg_t2 (List.mem_of_getElem? (i := 37) rfl) rfl
theorem wm_117 : Cond.methodLink RX11 80 yX7_init ∈ WG := wg_t2 (List.mem_of_getElem? (i := 33) rfl) rfl
theorem wm_118 : Cond.code yX7_init cX7_init 2 none ∈ WG := wg_t2 (List.mem_of_getElem? (i := 35) rfl) rfl
theorem wm_119 : Cond.instanceMethod yX7_init ∈ WG := wg_t2 (List.mem_of_getElem? (i := 34) rfl) rfl
theorem wm_120 : Cond.fieldLink RX11 83 "OppositeHouse" "now" "LOppositeHouse$State;" ∈ WG := wg_t2 (List.mem_of_getElem? (i := 103) rfl) rfl
theorem wm_121 : Cond.fieldLink RX11 87 "OppositeHouse" "before" "LOppositeHouse$State;" ∈ WG := wg_t2 (List.mem_of_getElem? (i := 104) rfl) rfl
theorem wm_122 : Cond.fieldLink RX11 90 "OppositeHouse" "trial" "LOppositeHouse$State;" ∈ WG := wg_t2 (List.mem_of_getElem? (i := 105) rfl) rfl
theorem wm_123 : Cond.classLink RX11 93 RX2 ∈ WG := wg_t2 (List.mem_of_getElem? (i := 64) rfl) rfl
theorem wm_124 : Cond.instantiable RX2 2 ∈ WG := wg_t2 (List.mem_of_getElem? (i := 65) rfl) rfl
theorem wm_125 : Cond.initialized RX2 ∈ WG := wg_t1 (List.mem_of_getElem? (i := 10) rfl) rfl
theorem wm_126 : Cond.methodLink RX2 3 Lib.objectInit ∈ WG := wg_t2 (List.mem_of_getElem? (i := 69) rfl) rfl
theorem wm_127 : Cond.fieldLink RX2 9 "OppositeHouse$History" "size" "I" ∈ WG := wg_t2 (List.mem_of_getElem? (i := 72) rfl) rfl
theorem wm_128 : Cond.classLink RX2 15 RX7 ∈ WG := wg_t2 (List.mem_of_getElem? (i := 70) rfl) rfl
theorem wm_129 : Cond.fieldLink RX2 17 "OppositeHouse$History" "past" "[LOppositeHouse$State;" ∈ WG := wg_t2 (List.mem_of_getElem? (i := 74) rfl) rfl
theorem wm_130 : Cond.methodLink RX2 21 yX7_init ∈ WG := wg_t2 (List.mem_of_getElem? (i := 71) rfl) rfl
theorem wm_131 : Cond.methodLink RX11 95 yX2_init ∈ WG := wg_t2 (List.mem_of_getElem? (i := 66) rfl) rfl
theorem wm_132 : Cond.code yX2_init cX2_init 3 none ∈ WG := wg_t2 (List.mem_of_getElem? (i := 68) rfl) rfl
theorem wm_133 : Cond.instanceMethod yX2_init ∈ WG := wg_t2 (List.mem_of_getElem? (i := 67) rfl) rfl
theorem wm_134 : Cond.fieldLink RX11 96 "OppositeHouse" "history" "LOppositeHouse$History;" ∈ WG := wg_t2 (List.mem_of_getElem? (i := 106) rfl) rfl
theorem wm_135 : Cond.instantiable RX9 3 ∈ WG := wg_t2 (List.mem_of_getElem? (i := 80) rfl) rfl
theorem wm_136 : Cond.initialized RX9 ∈ WG := wg_t1 (List.mem_of_getElem? (i := 11) rfl) rfl
theorem wm_137 : Cond.methodLink RX9 3 Lib.objectInit ∈ WG := wg_t2 (List.mem_of_getElem? (i := 84) rfl) rfl
theorem wm_138 : Cond.fieldLink RX9 9 "OppositeHouse$Tray" "sort" "I" ∈ WG := wg_t2 (List.mem_of_getElem? (i := 85) rfl) rfl
theorem wm_139 : Cond.fieldLink RX9 15 "OppositeHouse$Tray" "size" "I" ∈ WG := wg_t2 (List.mem_of_getElem? (i := 86) rfl) rfl
theorem wm_140 : Cond.arrayClass .long ∈ WG := wg_t2 (List.mem_of_getElem? (i := 97) rfl) rfl
theorem wm_141 : Cond.fieldLink RX9 18 "OppositeHouse$Tray" "row" "[J" ∈ WG := wg_t2 (List.mem_of_getElem? (i := 88) rfl) rfl
theorem wm_142 : Cond.code yX9_init cX9_init 1 none ∈ WG := wg_t2 (List.mem_of_getElem? (i := 83) rfl) rfl
theorem wm_143 : Cond.instanceMethod yX9_init ∈ WG := wg_t2 (List.mem_of_getElem? (i := 82) rfl) rfl
theorem wf_0 : ∀ w ∈ u_ws RX0 TX0 4, w ∈ WG := by
  intro w hw
  obtain ⟨k, hk, rfl⟩ := List.mem_map.mp hw
  have hk := List.mem_range.mp hk
  match k, hk with
  | 0, _ => exact wg_t1 (List.mem_of_getElem? (i := 204) rfl) rfl
  | 1, _ => exact wg_t1 (List.mem_of_getElem? (i := 206) rfl) rfl
  | 2, _ => exact wg_t1 (List.mem_of_getElem? (i := 208) rfl) rfl
  | 3, _ => exact wg_t1 (List.mem_of_getElem? (i := 210) rfl) rfl
  | n + 4, hk => exact absurd hk (by omega)
theorem df_0 : ∀ j, j < 4 → defaultValue (tyX0 j) = vp_V [.int 0, .null, .null, .null] j := by
  intro k hk
  match k, hk with
  | 0, _ => rfl
  | 1, _ => rfl
  | 2, _ => rfl
  | 3, _ => rfl
  | n + 4, hk => exact absurd hk (by omega)
theorem wf_1 : ∀ w ∈ u_ws RX1 TX1 5, w ∈ WG := by
  intro w hw
  obtain ⟨k, hk, rfl⟩ := List.mem_map.mp hw
  have hk := List.mem_range.mp hk
  match k, hk with
  | 0, _ => exact wg_t2 (List.mem_of_getElem? (i := 19) rfl) rfl
  | 1, _ => exact wg_t2 (List.mem_of_getElem? (i := 21) rfl) rfl
  | 2, _ => exact wg_t2 (List.mem_of_getElem? (i := 23) rfl) rfl
  | 3, _ => exact wg_t2 (List.mem_of_getElem? (i := 25) rfl) rfl
  | 4, _ => exact wg_t2 (List.mem_of_getElem? (i := 27) rfl) rfl
  | n + 5, hk => exact absurd hk (by omega)
theorem df_1 : ∀ j, j < 5 → defaultValue (tyX1 j) = vp_V [.int 0, .int 0, .int 0, .int 0, .null] j := by
  intro k hk
  match k, hk with
  | 0, _ => rfl
  | 1, _ => rfl
  | 2, _ => rfl
  | 3, _ => rfl
  | 4, _ => rfl
  | n + 5, hk => exact absurd hk (by omega)
theorem wf_2 : ∀ w ∈ u_ws RX2 TX2 2, w ∈ WG := by
  intro w hw
  obtain ⟨k, hk, rfl⟩ := List.mem_map.mp hw
  have hk := List.mem_range.mp hk
  match k, hk with
  | 0, _ => exact wg_t2 (List.mem_of_getElem? (i := 75) rfl) rfl
  | 1, _ => exact wg_t2 (List.mem_of_getElem? (i := 77) rfl) rfl
  | n + 2, hk => exact absurd hk (by omega)
theorem df_2 : ∀ j, j < 2 → defaultValue (tyX2 j) = vp_V [.int 0, .null] j := by
  intro k hk
  match k, hk with
  | 0, _ => rfl
  | 1, _ => rfl
  | n + 2, hk => exact absurd hk (by omega)
theorem wf_3 : ∀ w ∈ u_ws RX3 TX3 12, w ∈ WG := by
  intro w hw
  obtain ⟨k, hk, rfl⟩ := List.mem_map.mp hw
  have hk := List.mem_range.mp hk
  match k, hk with
  | 0, _ => exact wg_t1 (List.mem_of_getElem? (i := 119) rfl) rfl
  | 1, _ => exact wg_t1 (List.mem_of_getElem? (i := 121) rfl) rfl
  | 2, _ => exact wg_t1 (List.mem_of_getElem? (i := 123) rfl) rfl
  | 3, _ => exact wg_t1 (List.mem_of_getElem? (i := 125) rfl) rfl
  | 4, _ => exact wg_t1 (List.mem_of_getElem? (i := 127) rfl) rfl
  | 5, _ => exact wg_t1 (List.mem_of_getElem? (i := 129) rfl) rfl
  | 6, _ => exact wg_t1 (List.mem_of_getElem? (i := 131) rfl) rfl
  | 7, _ => exact wg_t1 (List.mem_of_getElem? (i := 133) rfl) rfl
  | 8, _ => exact wg_t1 (List.mem_of_getElem? (i := 135) rfl) rfl
  | 9, _ => exact wg_t1 (List.mem_of_getElem? (i := 137) rfl) rfl
  | 10, _ => exact wg_t1 (List.mem_of_getElem? (i := 139) rfl) rfl
  | 11, _ => exact wg_t1 (List.mem_of_getElem? (i := 141) rfl) rfl
  | n + 12, hk => exact absurd hk (by omega)
theorem df_3 : ∀ j, j < 12 → defaultValue (tyX3 j) = vp_V [.int 0, .int 0, .int 0, .int 0, .null, .null, .null, .null, .null, .null, .null, .null] j := by
  intro k hk
  match k, hk with
  | 0, _ => rfl
  | 1, _ => rfl
  | 2, _ => rfl
  | 3, _ => rfl
  | 4, _ => rfl
  | 5, _ => rfl
  | 6, _ => rfl
  | 7, _ => rfl
  | 8, _ => rfl
  | 9, _ => rfl
  | 10, _ => rfl
  | 11, _ => rfl
  | n + 12, hk => exact absurd hk (by omega)
theorem wf_4 : ∀ w ∈ u_ws RX4 TX4 1, w ∈ WG := by
  intro w hw
  obtain ⟨k, hk, rfl⟩ := List.mem_map.mp hw
  have hk := List.mem_range.mp hk
  match k, hk with
  | 0, _ => exact wg_t3 (List.mem_of_getElem? (i := 154) rfl) rfl
  | n + 1, hk => exact absurd hk (by omega)
theorem df_4 : ∀ j, j < 1 → defaultValue (tyX4 j) = vp_V [.null] j := by
  intro k hk
  match k, hk with
  | 0, _ => rfl
  | n + 1, hk => exact absurd hk (by omega)
theorem wf_5 : ∀ w ∈ u_ws RX5 TX5 9, w ∈ WG := by
  intro w hw
  obtain ⟨k, hk, rfl⟩ := List.mem_map.mp hw
  have hk := List.mem_range.mp hk
  match k, hk with
  | 0, _ => exact wg_t1 (List.mem_of_getElem? (i := 155) rfl) rfl
  | 1, _ => exact wg_t1 (List.mem_of_getElem? (i := 157) rfl) rfl
  | 2, _ => exact wg_t1 (List.mem_of_getElem? (i := 159) rfl) rfl
  | 3, _ => exact wg_t1 (List.mem_of_getElem? (i := 161) rfl) rfl
  | 4, _ => exact wg_t1 (List.mem_of_getElem? (i := 163) rfl) rfl
  | 5, _ => exact wg_t1 (List.mem_of_getElem? (i := 165) rfl) rfl
  | 6, _ => exact wg_t1 (List.mem_of_getElem? (i := 167) rfl) rfl
  | 7, _ => exact wg_t1 (List.mem_of_getElem? (i := 169) rfl) rfl
  | 8, _ => exact wg_t1 (List.mem_of_getElem? (i := 171) rfl) rfl
  | n + 9, hk => exact absurd hk (by omega)
theorem df_5 : ∀ j, j < 9 → defaultValue (tyX5 j) = vp_V [.null, .int 0, .int 0, .int 0, .int 0, .null, .null, .int 0, .int 0] j := by
  intro k hk
  match k, hk with
  | 0, _ => rfl
  | 1, _ => rfl
  | 2, _ => rfl
  | 3, _ => rfl
  | 4, _ => rfl
  | 5, _ => rfl
  | 6, _ => rfl
  | 7, _ => rfl
  | 8, _ => rfl
  | n + 9, hk => exact absurd hk (by omega)
theorem wf_6 : ∀ w ∈ u_ws RX6 TX6 2, w ∈ WG := by
  intro w hw
  obtain ⟨k, hk, rfl⟩ := List.mem_map.mp hw
  have hk := List.mem_range.mp hk
  match k, hk with
  | 0, _ => exact wg_t1 (List.mem_of_getElem? (i := 186) rfl) rfl
  | 1, _ => exact wg_t1 (List.mem_of_getElem? (i := 188) rfl) rfl
  | n + 2, hk => exact absurd hk (by omega)
theorem df_6 : ∀ j, j < 2 → defaultValue (tyX6 j) = vp_V [.null, .null] j := by
  intro k hk
  match k, hk with
  | 0, _ => rfl
  | 1, _ => rfl
  | n + 2, hk => exact absurd hk (by omega)
theorem wf_7 : ∀ w ∈ u_ws RX7 TX7 4, w ∈ WG := by
  intro w hw
  obtain ⟨k, hk, rfl⟩ := List.mem_map.mp hw
  have hk := List.mem_range.mp hk
  match k, hk with
  | 0, _ => exact wg_t2 (List.mem_of_getElem? (i := 55) rfl) rfl
  | 1, _ => exact wg_t2 (List.mem_of_getElem? (i := 57) rfl) rfl
  | 2, _ => exact wg_t2 (List.mem_of_getElem? (i := 59) rfl) rfl
  | 3, _ => exact wg_t2 (List.mem_of_getElem? (i := 61) rfl) rfl
  | n + 4, hk => exact absurd hk (by omega)
theorem df_7 : ∀ j, j < 4 → defaultValue (tyX7 j) = vp_V [.null, .int 0, .int 0, .null] j := by
  intro k hk
  match k, hk with
  | 0, _ => rfl
  | 1, _ => rfl
  | 2, _ => rfl
  | 3, _ => rfl
  | n + 4, hk => exact absurd hk (by omega)
theorem wf_8 : ∀ w ∈ u_ws RX8 TX8 6, w ∈ WG := by
  intro w hw
  obtain ⟨k, hk, rfl⟩ := List.mem_map.mp hw
  have hk := List.mem_range.mp hk
  match k, hk with
  | 0, _ => exact wg_t1 (List.mem_of_getElem? (i := 53) rfl) rfl
  | 1, _ => exact wg_t1 (List.mem_of_getElem? (i := 55) rfl) rfl
  | 2, _ => exact wg_t1 (List.mem_of_getElem? (i := 57) rfl) rfl
  | 3, _ => exact wg_t1 (List.mem_of_getElem? (i := 59) rfl) rfl
  | 4, _ => exact wg_t1 (List.mem_of_getElem? (i := 61) rfl) rfl
  | 5, _ => exact wg_t1 (List.mem_of_getElem? (i := 63) rfl) rfl
  | n + 6, hk => exact absurd hk (by omega)
theorem df_8 : ∀ j, j < 6 → defaultValue (tyX8 j) = vp_V [.null, .int 0, .int 0, .null, .null, .null] j := by
  intro k hk
  match k, hk with
  | 0, _ => rfl
  | 1, _ => rfl
  | 2, _ => rfl
  | 3, _ => rfl
  | 4, _ => rfl
  | 5, _ => rfl
  | n + 6, hk => exact absurd hk (by omega)
theorem wf_9 : ∀ w ∈ u_ws RX9 TX9 3, w ∈ WG := by
  intro w hw
  obtain ⟨k, hk, rfl⟩ := List.mem_map.mp hw
  have hk := List.mem_range.mp hk
  match k, hk with
  | 0, _ => exact wg_t2 (List.mem_of_getElem? (i := 90) rfl) rfl
  | 1, _ => exact wg_t2 (List.mem_of_getElem? (i := 92) rfl) rfl
  | 2, _ => exact wg_t2 (List.mem_of_getElem? (i := 94) rfl) rfl
  | n + 3, hk => exact absurd hk (by omega)
theorem df_9 : ∀ j, j < 3 → defaultValue (tyX9 j) = vp_V [.int 0, .int 0, .null] j := by
  intro k hk
  match k, hk with
  | 0, _ => rfl
  | 1, _ => rfl
  | 2, _ => rfl
  | n + 3, hk => exact absurd hk (by omega)
theorem wf_10 : ∀ w ∈ u_ws RX10 TX10 8, w ∈ WG := by
  intro w hw
  obtain ⟨k, hk, rfl⟩ := List.mem_map.mp hw
  have hk := List.mem_range.mp hk
  match k, hk with
  | 0, _ => exact wg_t1 (List.mem_of_getElem? (i := 229) rfl) rfl
  | 1, _ => exact wg_t1 (List.mem_of_getElem? (i := 231) rfl) rfl
  | 2, _ => exact wg_t1 (List.mem_of_getElem? (i := 233) rfl) rfl
  | 3, _ => exact wg_t1 (List.mem_of_getElem? (i := 235) rfl) rfl
  | 4, _ => exact wg_t1 (List.mem_of_getElem? (i := 237) rfl) rfl
  | 5, _ => exact wg_t1 (List.mem_of_getElem? (i := 239) rfl) rfl
  | 6, _ => exact wg_t2 (List.mem_of_getElem? (i := 1) rfl) rfl
  | 7, _ => exact wg_t2 (List.mem_of_getElem? (i := 3) rfl) rfl
  | n + 8, hk => exact absurd hk (by omega)
theorem df_10 : ∀ j, j < 8 → defaultValue (tyX10 j) = vp_V [.int 0, .int 0, .int 0, .int 0, .null, .null, .null, .null] j := by
  intro k hk
  match k, hk with
  | 0, _ => rfl
  | 1, _ => rfl
  | 2, _ => rfl
  | 3, _ => rfl
  | 4, _ => rfl
  | 5, _ => rfl
  | 6, _ => rfl
  | 7, _ => rfl
  | n + 8, hk => exact absurd hk (by omega)
theorem wf_11 : ∀ w ∈ u_ws RX11 TX11 17, w ∈ WG := by
  intro w hw
  obtain ⟨k, hk, rfl⟩ := List.mem_map.mp hw
  have hk := List.mem_range.mp hk
  match k, hk with
  | 0, _ => exact wg_t2 (List.mem_of_getElem? (i := 115) rfl) rfl
  | 1, _ => exact wg_t2 (List.mem_of_getElem? (i := 117) rfl) rfl
  | 2, _ => exact wg_t2 (List.mem_of_getElem? (i := 119) rfl) rfl
  | 3, _ => exact wg_t2 (List.mem_of_getElem? (i := 121) rfl) rfl
  | 4, _ => exact wg_t2 (List.mem_of_getElem? (i := 123) rfl) rfl
  | 5, _ => exact wg_t2 (List.mem_of_getElem? (i := 125) rfl) rfl
  | 6, _ => exact wg_t2 (List.mem_of_getElem? (i := 127) rfl) rfl
  | 7, _ => exact wg_t2 (List.mem_of_getElem? (i := 129) rfl) rfl
  | 8, _ => exact wg_t2 (List.mem_of_getElem? (i := 131) rfl) rfl
  | 9, _ => exact wg_t2 (List.mem_of_getElem? (i := 133) rfl) rfl
  | 10, _ => exact wg_t2 (List.mem_of_getElem? (i := 135) rfl) rfl
  | 11, _ => exact wg_t2 (List.mem_of_getElem? (i := 137) rfl) rfl
  | 12, _ => exact wg_t2 (List.mem_of_getElem? (i := 139) rfl) rfl
  | 13, _ => exact wg_t2 (List.mem_of_getElem? (i := 141) rfl) rfl
  | 14, _ => exact wg_t2 (List.mem_of_getElem? (i := 143) rfl) rfl
  | 15, _ => exact wg_t2 (List.mem_of_getElem? (i := 145) rfl) rfl
  | 16, _ => exact wg_t2 (List.mem_of_getElem? (i := 147) rfl) rfl
  | n + 17, hk => exact absurd hk (by omega)
theorem df_11 : ∀ j, j < 17 → defaultValue (tyX11 j) = vp_V [.null, .int 0, .int 0, .int 0, .null, .null, .null, .null, .null, .null, .null, .null, .null, .null, .null, .null, .int 0] j := by
  intro k hk
  match k, hk with
  | 0, _ => rfl
  | 1, _ => rfl
  | 2, _ => rfl
  | 3, _ => rfl
  | 4, _ => rfl
  | 5, _ => rfl
  | 6, _ => rfl
  | 7, _ => rfl
  | 8, _ => rfl
  | 9, _ => rfl
  | 10, _ => rfl
  | 11, _ => rfl
  | 12, _ => rfl
  | 13, _ => rfl
  | 14, _ => rfl
  | 15, _ => rfl
  | 16, _ => rfl
  | n + 17, hk => exact absurd hk (by omega)
theorem wf_12 : ∀ w ∈ u_ws RX12 TX12 37, w ∈ WG := by
  intro w hw
  obtain ⟨k, hk, rfl⟩ := List.mem_map.mp hw
  have hk := List.mem_range.mp hk
  match k, hk with
  | 0, _ => exact wg_t5 (List.mem_of_getElem? (i := 207) rfl) rfl
  | 1, _ => exact wg_t5 (List.mem_of_getElem? (i := 209) rfl) rfl
  | 2, _ => exact wg_t5 (List.mem_of_getElem? (i := 211) rfl) rfl
  | 3, _ => exact wg_t5 (List.mem_of_getElem? (i := 213) rfl) rfl
  | 4, _ => exact wg_t5 (List.mem_of_getElem? (i := 215) rfl) rfl
  | 5, _ => exact wg_t5 (List.mem_of_getElem? (i := 217) rfl) rfl
  | 6, _ => exact wg_t5 (List.mem_of_getElem? (i := 219) rfl) rfl
  | 7, _ => exact wg_t5 (List.mem_of_getElem? (i := 221) rfl) rfl
  | 8, _ => exact wg_t5 (List.mem_of_getElem? (i := 223) rfl) rfl
  | 9, _ => exact wg_t5 (List.mem_of_getElem? (i := 225) rfl) rfl
  | 10, _ => exact wg_t5 (List.mem_of_getElem? (i := 227) rfl) rfl
  | 11, _ => exact wg_t5 (List.mem_of_getElem? (i := 229) rfl) rfl
  | 12, _ => exact wg_t5 (List.mem_of_getElem? (i := 231) rfl) rfl
  | 13, _ => exact wg_t5 (List.mem_of_getElem? (i := 233) rfl) rfl
  | 14, _ => exact wg_t5 (List.mem_of_getElem? (i := 235) rfl) rfl
  | 15, _ => exact wg_t5 (List.mem_of_getElem? (i := 237) rfl) rfl
  | 16, _ => exact wg_t5 (List.mem_of_getElem? (i := 239) rfl) rfl
  | 17, _ => exact wg_t6 (List.mem_of_getElem? (i := 1) rfl) rfl
  | 18, _ => exact wg_t6 (List.mem_of_getElem? (i := 3) rfl) rfl
  | 19, _ => exact wg_t6 (List.mem_of_getElem? (i := 5) rfl) rfl
  | 20, _ => exact wg_t6 (List.mem_of_getElem? (i := 7) rfl) rfl
  | 21, _ => exact wg_t6 (List.mem_of_getElem? (i := 9) rfl) rfl
  | 22, _ => exact wg_t6 (List.mem_of_getElem? (i := 11) rfl) rfl
  | 23, _ => exact wg_t6 (List.mem_of_getElem? (i := 13) rfl) rfl
  | 24, _ => exact wg_t6 (List.mem_of_getElem? (i := 15) rfl) rfl
  | 25, _ => exact wg_t6 (List.mem_of_getElem? (i := 17) rfl) rfl
  | 26, _ => exact wg_t6 (List.mem_of_getElem? (i := 19) rfl) rfl
  | 27, _ => exact wg_t6 (List.mem_of_getElem? (i := 21) rfl) rfl
  | 28, _ => exact wg_t6 (List.mem_of_getElem? (i := 23) rfl) rfl
  | 29, _ => exact wg_t6 (List.mem_of_getElem? (i := 25) rfl) rfl
  | 30, _ => exact wg_t6 (List.mem_of_getElem? (i := 27) rfl) rfl
  | 31, _ => exact wg_t6 (List.mem_of_getElem? (i := 29) rfl) rfl
  | 32, _ => exact wg_t6 (List.mem_of_getElem? (i := 31) rfl) rfl
  | 33, _ => exact wg_t6 (List.mem_of_getElem? (i := 33) rfl) rfl
  | 34, _ => exact wg_t6 (List.mem_of_getElem? (i := 35) rfl) rfl
  | 35, _ => exact wg_t6 (List.mem_of_getElem? (i := 37) rfl) rfl
  | 36, _ => exact wg_t6 (List.mem_of_getElem? (i := 39) rfl) rfl
  | n + 37, hk => exact absurd hk (by omega)
theorem df_12 : ∀ j, j < 37 → defaultValue (tyX12 j) = vp_V [.int 0, .null, .null, .null, .null, .int 0, .int 0, .int 0, .int 0, .int 0, .int 0, .int 0, .int 0, .int 0, .int 0, .int 0, .null, .null, .null, .null, .null, .int 0, .int 0, .null, .null, .null, .int 0, .int 0, .null, .null, .null, .null, .null, .int 0, .null, .null, .null] j := by
  intro k hk
  match k, hk with
  | 0, _ => rfl
  | 1, _ => rfl
  | 2, _ => rfl
  | 3, _ => rfl
  | 4, _ => rfl
  | 5, _ => rfl
  | 6, _ => rfl
  | 7, _ => rfl
  | 8, _ => rfl
  | 9, _ => rfl
  | 10, _ => rfl
  | 11, _ => rfl
  | 12, _ => rfl
  | 13, _ => rfl
  | 14, _ => rfl
  | 15, _ => rfl
  | 16, _ => rfl
  | 17, _ => rfl
  | 18, _ => rfl
  | 19, _ => rfl
  | 20, _ => rfl
  | 21, _ => rfl
  | 22, _ => rfl
  | 23, _ => rfl
  | 24, _ => rfl
  | 25, _ => rfl
  | 26, _ => rfl
  | 27, _ => rfl
  | 28, _ => rfl
  | 29, _ => rfl
  | 30, _ => rfl
  | 31, _ => rfl
  | 32, _ => rfl
  | 33, _ => rfl
  | 34, _ => rfl
  | 35, _ => rfl
  | 36, _ => rfl
  | n + 37, hk => exact absurd hk (by omega)
theorem hd_X8_init : yX8_init.cls ≠ "java/lang/invoke/MethodHandle" ∧ yX8_init.cls ≠ "java/lang/invoke/VarHandle" ∧ (parseMethodDescriptor yX8_init.desc).map (fun d => d.parameters.length) = some 0 := by decide +kernel
theorem hd_X3_init : yX3_init.cls ≠ "java/lang/invoke/MethodHandle" ∧ yX3_init.cls ≠ "java/lang/invoke/VarHandle" ∧ (parseMethodDescriptor yX3_init.desc).map (fun d => d.parameters.length) = some 0 := by decide +kernel
theorem hd_X5_init : yX5_init.cls ≠ "java/lang/invoke/MethodHandle" ∧ yX5_init.cls ≠ "java/lang/invoke/VarHandle" ∧ (parseMethodDescriptor yX5_init.desc).map (fun d => d.parameters.length) = some 0 := by decide +kernel
theorem hd_X6_init : yX6_init.cls ≠ "java/lang/invoke/MethodHandle" ∧ yX6_init.cls ≠ "java/lang/invoke/VarHandle" ∧ (parseMethodDescriptor yX6_init.desc).map (fun d => d.parameters.length) = some 0 := by decide +kernel
theorem hd_X0_init : yX0_init.cls ≠ "java/lang/invoke/MethodHandle" ∧ yX0_init.cls ≠ "java/lang/invoke/VarHandle" ∧ (parseMethodDescriptor yX0_init.desc).map (fun d => d.parameters.length) = some 0 := by decide +kernel
theorem hd_X10_init : yX10_init.cls ≠ "java/lang/invoke/MethodHandle" ∧ yX10_init.cls ≠ "java/lang/invoke/VarHandle" ∧ (parseMethodDescriptor yX10_init.desc).map (fun d => d.parameters.length) = some 0 := by decide +kernel
theorem hd_X1_init : yX1_init.cls ≠ "java/lang/invoke/MethodHandle" ∧ yX1_init.cls ≠ "java/lang/invoke/VarHandle" ∧ (parseMethodDescriptor yX1_init.desc).map (fun d => d.parameters.length) = some 0 := by decide +kernel
theorem hd_X7_init : yX7_init.cls ≠ "java/lang/invoke/MethodHandle" ∧ yX7_init.cls ≠ "java/lang/invoke/VarHandle" ∧ (parseMethodDescriptor yX7_init.desc).map (fun d => d.parameters.length) = some 1 := by decide +kernel
theorem hd_X2_init : yX2_init.cls ≠ "java/lang/invoke/MethodHandle" ∧ yX2_init.cls ≠ "java/lang/invoke/VarHandle" ∧ (parseMethodDescriptor yX2_init.desc).map (fun d => d.parameters.length) = some 1 := by decide +kernel
theorem hd_X9_init : yX9_init.cls ≠ "java/lang/invoke/MethodHandle" ∧ yX9_init.cls ≠ "java/lang/invoke/VarHandle" ∧ (parseMethodDescriptor yX9_init.desc).map (fun d => d.parameters.length) = some 0 := by decide +kernel
