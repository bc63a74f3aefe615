theorem wm_1_151 : Cond.fieldLink RX5 34 "OppositeHouse$Reader" "told" "LOppositeHouse$House;" ∈ WG := wg_t1 (List.mem_of_getElem? (i := 151) rfl) rfl
theorem wm_1_108 : Cond.fieldLink RX5 113 "OppositeHouse$House" "first" "[I" ∈ WG := wg_t1 (List.mem_of_getElem? (i := 108) rfl) rfl
theorem wm_3_80 : Cond.methodLink RX5 59 yX5_takeNumber ∈ WG := wg_t3 (List.mem_of_getElem? (i := 80) rfl) rfl
theorem wm_3_83 : Cond.code yX5_takeNumber cX5_takeNumber 4 (some .int) ∈ WG := wg_t3 (List.mem_of_getElem? (i := 83) rfl) rfl
theorem wm_3_82 : Cond.instanceMethod yX5_takeNumber ∈ WG := wg_t3 (List.mem_of_getElem? (i := 82) rfl) rfl
theorem wp_1_11 : Cond.selects RX5 yX5_takeNumber yX5_takeNumber ∈ WG := wg_p (q := (yX5_takeNumber, 9)) (wg_p1 (List.mem_of_getElem? (i := 11) rfl)) rfl
theorem wm_1_112 : Cond.fieldLink RX5 116 "OppositeHouse$House" "last" "[I" ∈ WG := wg_t1 (List.mem_of_getElem? (i := 112) rfl) rfl
theorem wm_1_115 : Cond.fieldLink RX5 120 "OppositeHouse$House" "temper" "[I" ∈ WG := wg_t1 (List.mem_of_getElem? (i := 115) rfl) rfl
theorem wm_1_118 : Cond.fieldLink RX5 123 "OppositeHouse$House" "weight" "[I" ∈ WG := wg_t1 (List.mem_of_getElem? (i := 118) rfl) rfl
theorem wm_1_86 : Cond.fieldLink RX5 107 "OppositeHouse$House" "people" "I" ∈ WG := wg_t1 (List.mem_of_getElem? (i := 86) rfl) rfl
theorem wm_1_76 : Cond.fieldLink RX5 63 "OppositeHouse$House" "lines" "I" ∈ WG := wg_t1 (List.mem_of_getElem? (i := 76) rfl) rfl
theorem wm_1_104 : Cond.fieldLink RX5 110 "OppositeHouse$House" "views" "[I" ∈ WG := wg_t1 (List.mem_of_getElem? (i := 104) rfl) rfl
theorem wm_3_92 : Cond.constant RX5 119 (1000000) ∈ WG := wg_t3 (List.mem_of_getElem? (i := 92) rfl) rfl
theorem wm_3_93 : Cond.methodLink RX5 126 yX5_readFlag ∈ WG := wg_t3 (List.mem_of_getElem? (i := 93) rfl) rfl
theorem wm_3_96 : Cond.code yX5_readFlag cX5_readFlag 2 (some .boolean) ∈ WG := wg_t3 (List.mem_of_getElem? (i := 96) rfl) rfl
theorem wm_3_95 : Cond.instanceMethod yX5_readFlag ∈ WG := wg_t3 (List.mem_of_getElem? (i := 95) rfl) rfl
theorem wp_1_14 : Cond.selects RX5 yX5_readFlag yX5_readFlag ∈ WG := wg_p (q := (yX5_readFlag, 9)) (wg_p1 (List.mem_of_getElem? (i := 14) rfl)) rfl
theorem wm_3_133 : Cond.classLink RX5 136 RX4 ∈ WG := wg_t3 (List.mem_of_getElem? (i := 133) rfl) rfl
theorem wm_3_134 : Cond.instantiable RX4 1 ∈ WG := wg_t3 (List.mem_of_getElem? (i := 134) rfl) rfl
theorem wm_3_138 : Cond.methodLink RX4 3 Lib.objectInit ∈ WG := wg_t3 (List.mem_of_getElem? (i := 138) rfl) rfl
theorem wm_1_29 : Cond.instanceMethod Lib.objectInit ∈ WG := wg_t1 (List.mem_of_getElem? (i := 29) rfl) rfl
theorem wm_1_30 : Cond.code Lib.objectInit ⟨#[0xb1]⟩ 1 none ∈ WG := wg_t1 (List.mem_of_getElem? (i := 30) rfl) rfl
theorem wm_1_67 : Cond.arrayClass .int ∈ WG := wg_t1 (List.mem_of_getElem? (i := 67) rfl) rfl
theorem wm_3_149 : Cond.methodLink RJ7 304 yJ9_min_7cf53 ∈ WG := wg_t3 (List.mem_of_getElem? (i := 149) rfl) rfl
theorem wm_3_150 : Cond.methodLink RJ7 150 arraycopyName ∈ WG := wg_t3 (List.mem_of_getElem? (i := 150) rfl) rfl
theorem wm_3_139 : Cond.methodLink RX4 9 yJ7_copyOf_59c91 ∈ WG := wg_t3 (List.mem_of_getElem? (i := 139) rfl) rfl
theorem wm_3_141 : Cond.code yJ7_copyOf_59c91 cJ7_copyOf_59c91 3 (some (.array .int)) ∈ WG := wg_t3 (List.mem_of_getElem? (i := 141) rfl) rfl
theorem wm_3_140 : Cond.static yJ7_copyOf_59c91 ∈ WG := wg_t3 (List.mem_of_getElem? (i := 140) rfl) rfl
theorem wm_3_135 : Cond.methodLink RX5 138 yX4_init ∈ WG := wg_t3 (List.mem_of_getElem? (i := 135) rfl) rfl
theorem wm_3_137 : Cond.code yX4_init cX4_init 3 none ∈ WG := wg_t3 (List.mem_of_getElem? (i := 137) rfl) rfl
theorem wm_3_136 : Cond.instanceMethod yX4_init ∈ WG := wg_t3 (List.mem_of_getElem? (i := 136) rfl) rfl
theorem wm_1_92 : Cond.fieldLink RX5 104 "OppositeHouse$House" "startDay" "I" ∈ WG := wg_t1 (List.mem_of_getElem? (i := 92) rfl) rfl
theorem wm_3_88 : Cond.methodLink RX5 87 yX5_readPerson ∈ WG := wg_t3 (List.mem_of_getElem? (i := 88) rfl) rfl
theorem wm_3_91 : Cond.code yX5_readPerson cX5_readPerson 5 none ∈ WG := wg_t3 (List.mem_of_getElem? (i := 91) rfl) rfl
theorem wm_3_90 : Cond.instanceMethod yX5_readPerson ∈ WG := wg_t3 (List.mem_of_getElem? (i := 90) rfl) rfl
theorem wp_1_13 : Cond.selects RX5 yX5_readPerson yX5_readPerson ∈ WG := wg_p (q := (yX5_readPerson, 9)) (wg_p1 (List.mem_of_getElem? (i := 13) rfl)) rfl
theorem wm_1_95 : Cond.fieldLink RX5 90 "OppositeHouse$House" "opposing" "LOppositeHouse$Law;" ∈ WG := wg_t1 (List.mem_of_getElem? (i := 95) rfl) rfl
theorem wm_3_97 : Cond.methodLink RX5 94 yX5_readLaw ∈ WG := wg_t3 (List.mem_of_getElem? (i := 97) rfl) rfl
theorem wm_3_100 : Cond.code yX5_readLaw cX5_readLaw 4 (some (.object "OppositeHouse$Law")) ∈ WG := wg_t3 (List.mem_of_getElem? (i := 100) rfl) rfl
theorem wm_3_99 : Cond.instanceMethod yX5_readLaw ∈ WG := wg_t3 (List.mem_of_getElem? (i := 99) rfl) rfl
theorem wp_1_15 : Cond.selects RX5 yX5_readLaw yX5_readLaw ∈ WG := wg_p (q := (yX5_readLaw, 9)) (wg_p1 (List.mem_of_getElem? (i := 15) rfl)) rfl
theorem wm_1_98 : Cond.fieldLink RX5 98 "OppositeHouse$House" "saying" "LOppositeHouse$Law;" ∈ WG := wg_t1 (List.mem_of_getElem? (i := 98) rfl) rfl
theorem wm_1_101 : Cond.fieldLink RX5 101 "OppositeHouse$House" "swaying" "LOppositeHouse$Law;" ∈ WG := wg_t1 (List.mem_of_getElem? (i := 101) rfl) rfl
theorem wm_1_73 : Cond.methodLink RX3 3 Lib.objectInit ∈ WG := wg_t1 (List.mem_of_getElem? (i := 73) rfl) rfl
theorem wm_1_74 : Cond.fieldLink RX3 9 "OppositeHouse$House" "lines" "I" ∈ WG := wg_t1 (List.mem_of_getElem? (i := 74) rfl) rfl
theorem wm_1_79 : Cond.fieldLink RX3 15 "OppositeHouse$House" "people" "I" ∈ WG := wg_t1 (List.mem_of_getElem? (i := 79) rfl) rfl
theorem wm_1_87 : Cond.fieldLink RX3 18 "OppositeHouse$House" "textLines" "I" ∈ WG := wg_t1 (List.mem_of_getElem? (i := 87) rfl) rfl
theorem wm_1_90 : Cond.fieldLink RX3 21 "OppositeHouse$House" "startDay" "I" ∈ WG := wg_t1 (List.mem_of_getElem? (i := 90) rfl) rfl
theorem wm_1_93 : Cond.fieldLink RX3 24 "OppositeHouse$House" "opposing" "LOppositeHouse$Law;" ∈ WG := wg_t1 (List.mem_of_getElem? (i := 93) rfl) rfl
theorem wm_1_96 : Cond.fieldLink RX3 28 "OppositeHouse$House" "saying" "LOppositeHouse$Law;" ∈ WG := wg_t1 (List.mem_of_getElem? (i := 96) rfl) rfl
theorem wm_1_99 : Cond.fieldLink RX3 31 "OppositeHouse$House" "swaying" "LOppositeHouse$Law;" ∈ WG := wg_t1 (List.mem_of_getElem? (i := 99) rfl) rfl
theorem wm_1_102 : Cond.fieldLink RX3 34 "OppositeHouse$House" "views" "[I" ∈ WG := wg_t1 (List.mem_of_getElem? (i := 102) rfl) rfl
theorem wm_1_105 : Cond.fieldLink RX3 38 "OppositeHouse$House" "first" "[I" ∈ WG := wg_t1 (List.mem_of_getElem? (i := 105) rfl) rfl
theorem wm_1_109 : Cond.fieldLink RX3 41 "OppositeHouse$House" "last" "[I" ∈ WG := wg_t1 (List.mem_of_getElem? (i := 109) rfl) rfl
theorem wm_1_113 : Cond.fieldLink RX3 44 "OppositeHouse$House" "temper" "[I" ∈ WG := wg_t1 (List.mem_of_getElem? (i := 113) rfl) rfl
theorem wm_1_116 : Cond.fieldLink RX3 47 "OppositeHouse$House" "weight" "[I" ∈ WG := wg_t1 (List.mem_of_getElem? (i := 116) rfl) rfl
theorem df_4 : ∀ j, j < 1 → defaultValue (tyX4 j) = vp_V [.null] j := by
  intro k hk
  match k, hk with
  | 0, _ => rfl
  | n + 1, hk => exact absurd hk (by omega)
theorem hd_X5_takeNumber : yX5_takeNumber.cls ≠ "java/lang/invoke/MethodHandle" ∧ yX5_takeNumber.cls ≠ "java/lang/invoke/VarHandle" ∧ (parseMethodDescriptor yX5_takeNumber.desc).map (fun d => d.parameters.length) = some 2 := by decide +kernel
theorem hd_X5_readFlag : yX5_readFlag.cls ≠ "java/lang/invoke/MethodHandle" ∧ yX5_readFlag.cls ≠ "java/lang/invoke/VarHandle" ∧ (parseMethodDescriptor yX5_readFlag.desc).map (fun d => d.parameters.length) = some 1 := by decide +kernel
theorem hd_J7_copyOf_59c91 : yJ7_copyOf_59c91.cls ≠ "java/lang/invoke/MethodHandle" ∧ yJ7_copyOf_59c91.cls ≠ "java/lang/invoke/VarHandle" ∧ (parseMethodDescriptor yJ7_copyOf_59c91.desc).map (fun d => d.parameters.length) = some 2 := by decide +kernel
theorem hd_X4_init : yX4_init.cls ≠ "java/lang/invoke/MethodHandle" ∧ yX4_init.cls ≠ "java/lang/invoke/VarHandle" ∧ (parseMethodDescriptor yX4_init.desc).map (fun d => d.parameters.length) = some 2 := by decide +kernel
theorem hd_X5_readPerson : yX5_readPerson.cls ≠ "java/lang/invoke/MethodHandle" ∧ yX5_readPerson.cls ≠ "java/lang/invoke/VarHandle" ∧ (parseMethodDescriptor yX5_readPerson.desc).map (fun d => d.parameters.length) = some 0 := by decide +kernel
theorem hd_X5_readLaw : yX5_readLaw.cls ≠ "java/lang/invoke/MethodHandle" ∧ yX5_readLaw.cls ≠ "java/lang/invoke/VarHandle" ∧ (parseMethodDescriptor yX5_readLaw.desc).map (fun d => d.parameters.length) = some 2 := by decide +kernel
theorem dJ7_copyOf_59c91_0 : decode cJ7_copyOf_59c91 0 = .ok (.iload_n 1, 1) := by decide +kernel
theorem dJ7_copyOf_59c91_1 : decode cJ7_copyOf_59c91 1 = .ok (.aload_n 0, 1) := by decide +kernel
theorem dJ7_copyOf_59c91_2 : decode cJ7_copyOf_59c91 2 = .ok (.arraylength, 1) := by decide +kernel
theorem dJ7_copyOf_59c91_3 : decode cJ7_copyOf_59c91 3 = .ok (.if_icmp .ne 11, 3) := by decide +kernel
theorem dJ7_copyOf_59c91_6 : decode cJ7_copyOf_59c91 6 = .ok (.aload_n 0, 1) := by decide +kernel
theorem dJ7_copyOf_59c91_7 : decode cJ7_copyOf_59c91 7 = .ok (.invokevirtual 316, 3) := by decide +kernel
theorem dJ7_copyOf_59c91_10 : decode cJ7_copyOf_59c91 10 = .ok (.checkcast 317, 3) := by decide +kernel
theorem dJ7_copyOf_59c91_13 : decode cJ7_copyOf_59c91 13 = .ok (.areturn, 1) := by decide +kernel
theorem dJ7_copyOf_59c91_14 : decode cJ7_copyOf_59c91 14 = .ok (.iload_n 1, 1) := by decide +kernel
theorem dJ7_copyOf_59c91_15 : decode cJ7_copyOf_59c91 15 = .ok (.newarray .int, 2) := by decide +kernel
theorem dJ7_copyOf_59c91_17 : decode cJ7_copyOf_59c91 17 = .ok (.astore_n 2, 1) := by decide +kernel
theorem dJ7_copyOf_59c91_18 : decode cJ7_copyOf_59c91 18 = .ok (.aload_n 0, 1) := by decide +kernel
theorem dJ7_copyOf_59c91_19 : decode cJ7_copyOf_59c91 19 = .ok (.iconst 0, 1) := by decide +kernel
theorem dJ7_copyOf_59c91_20 : decode cJ7_copyOf_59c91 20 = .ok (.aload_n 2, 1) := by decide +kernel
theorem dJ7_copyOf_59c91_21 : decode cJ7_copyOf_59c91 21 = .ok (.iconst 0, 1) := by decide +kernel
theorem dJ7_copyOf_59c91_22 : decode cJ7_copyOf_59c91 22 = .ok (.aload_n 0, 1) := by decide +kernel
theorem dJ7_copyOf_59c91_23 : decode cJ7_copyOf_59c91 23 = .ok (.arraylength, 1) := by decide +kernel
theorem dJ7_copyOf_59c91_24 : decode cJ7_copyOf_59c91 24 = .ok (.iload_n 1, 1) := by decide +kernel
theorem dJ7_copyOf_59c91_25 : decode cJ7_copyOf_59c91 25 = .ok (.invokestatic 304, 3) := by decide +kernel
theorem dJ7_copyOf_59c91_28 : decode cJ7_copyOf_59c91 28 = .ok (.invokestatic 150, 3) := by decide +kernel
theorem dJ7_copyOf_59c91_31 : decode cJ7_copyOf_59c91 31 = .ok (.aload_n 2, 1) := by decide +kernel
theorem dJ7_copyOf_59c91_32 : decode cJ7_copyOf_59c91 32 = .ok (.areturn, 1) := by decide +kernel
theorem dX3_init_0 : decode cX3_init 0 = .ok (.aload_n 0, 1) := by decide +kernel
theorem dX3_init_1 : decode cX3_init 1 = .ok (.invokespecial 3, 3) := by decide +kernel
theorem dX3_init_4 : decode cX3_init 4 = .ok (.aload_n 0, 1) := by decide +kernel
theorem dX3_init_5 : decode cX3_init 5 = .ok (.iconst 1, 1) := by decide +kernel
theorem dX3_init_6 : decode cX3_init 6 = .ok (.putfield 9, 3) := by decide +kernel
theorem dX3_init_9 : decode cX3_init 9 = .ok (.aload_n 0, 1) := by decide +kernel
theorem dX3_init_10 : decode cX3_init 10 = .ok (.iconst 0, 1) := by decide +kernel
theorem dX3_init_11 : decode cX3_init 11 = .ok (.putfield 15, 3) := by decide +kernel
theorem dX3_init_14 : decode cX3_init 14 = .ok (.aload_n 0, 1) := by decide +kernel
theorem dX3_init_15 : decode cX3_init 15 = .ok (.iconst 0, 1) := by decide +kernel
theorem dX3_init_16 : decode cX3_init 16 = .ok (.putfield 18, 3) := by decide +kernel
theorem dX3_init_19 : decode cX3_init 19 = .ok (.aload_n 0, 1) := by decide +kernel
theorem dX3_init_20 : decode cX3_init 20 = .ok (.iconst 0, 1) := by decide +kernel
theorem dX3_init_21 : decode cX3_init 21 = .ok (.putfield 21, 3) := by decide +kernel
theorem dX3_init_24 : decode cX3_init 24 = .ok (.aload_n 0, 1) := by decide +kernel
theorem dX3_init_25 : decode cX3_init 25 = .ok (.aconst_null, 1) := by decide +kernel
theorem dX3_init_26 : decode cX3_init 26 = .ok (.putfield 24, 3) := by decide +kernel
theorem dX3_init_29 : decode cX3_init 29 = .ok (.aload_n 0, 1) := by decide +kernel
theorem dX3_init_30 : decode cX3_init 30 = .ok (.aconst_null, 1) := by decide +kernel
theorem dX3_init_31 : decode cX3_init 31 = .ok (.putfield 28, 3) := by decide +kernel
theorem dX3_init_34 : decode cX3_init 34 = .ok (.aload_n 0, 1) := by decide +kernel
theorem dX3_init_35 : decode cX3_init 35 = .ok (.aconst_null, 1) := by decide +kernel
theorem dX3_init_36 : decode cX3_init 36 = .ok (.putfield 31, 3) := by decide +kernel
theorem dX3_init_39 : decode cX3_init 39 = .ok (.aload_n 0, 1) := by decide +kernel
theorem dX3_init_40 : decode cX3_init 40 = .ok (.bipush 10, 2) := by decide +kernel
theorem dX3_init_42 : decode cX3_init 42 = .ok (.newarray .int, 2) := by decide +kernel
theorem dX3_init_44 : decode cX3_init 44 = .ok (.putfield 34, 3) := by decide +kernel
theorem dX3_init_47 : decode cX3_init 47 = .ok (.aload_n 0, 1) := by decide +kernel
theorem dX3_init_48 : decode cX3_init 48 = .ok (.bipush 10, 2) := by decide +kernel
theorem dX3_init_50 : decode cX3_init 50 = .ok (.newarray .int, 2) := by decide +kernel
theorem dX3_init_52 : decode cX3_init 52 = .ok (.putfield 38, 3) := by decide +kernel
theorem dX3_init_55 : decode cX3_init 55 = .ok (.aload_n 0, 1) := by decide +kernel
theorem dX3_init_56 : decode cX3_init 56 = .ok (.bipush 10, 2) := by decide +kernel
theorem dX3_init_58 : decode cX3_init 58 = .ok (.newarray .int, 2) := by decide +kernel
theorem dX3_init_60 : decode cX3_init 60 = .ok (.putfield 41, 3) := by decide +kernel
theorem dX3_init_63 : decode cX3_init 63 = .ok (.aload_n 0, 1) := by decide +kernel
theorem dX3_init_64 : decode cX3_init 64 = .ok (.bipush 10, 2) := by decide +kernel
theorem dX3_init_66 : decode cX3_init 66 = .ok (.newarray .int, 2) := by decide +kernel
theorem dX3_init_68 : decode cX3_init 68 = .ok (.putfield 44, 3) := by decide +kernel
theorem dX3_init_71 : decode cX3_init 71 = .ok (.aload_n 0, 1) := by decide +kernel
theorem dX3_init_72 : decode cX3_init 72 = .ok (.bipush 10, 2) := by decide +kernel
theorem dX3_init_74 : decode cX3_init 74 = .ok (.newarray .int, 2) := by decide +kernel
theorem dX3_init_76 : decode cX3_init 76 = .ok (.putfield 47, 3) := by decide +kernel
theorem dX3_init_79 : decode cX3_init 79 = .ok (.return_, 1) := by decide +kernel
theorem dX4_init_0 : decode cX4_init 0 = .ok (.aload_n 0, 1) := by decide +kernel
theorem dX4_init_1 : decode cX4_init 1 = .ok (.invokespecial 3, 3) := by decide +kernel
theorem dX4_init_4 : decode cX4_init 4 = .ok (.aload_n 0, 1) := by decide +kernel
theorem dX4_init_5 : decode cX4_init 5 = .ok (.aload_n 1, 1) := by decide +kernel
theorem dX4_init_6 : decode cX4_init 6 = .ok (.iload_n 2, 1) := by decide +kernel
theorem dX4_init_7 : decode cX4_init 7 = .ok (.invokestatic 9, 3) := by decide +kernel
theorem dX4_init_10 : decode cX4_init 10 = .ok (.putfield 15, 3) := by decide +kernel
theorem dX4_init_13 : decode cX4_init 13 = .ok (.return_, 1) := by decide +kernel
theorem dX5_readFlag_0 : decode cX5_readFlag 0 = .ok (.aload_n 0, 1) := by decide +kernel
theorem dX5_readFlag_1 : decode cX5_readFlag 1 = .ok (.getfield 22, 3) := by decide +kernel
theorem dX5_readFlag_4 : decode cX5_readFlag 4 = .ok (.tableswitch 130 14 17 #[32, 130, 86, 108], 32) := by decide +kernel
theorem dX5_readFlag_36 : decode cX5_readFlag 36 = .ok (.aload_n 0, 1) := by decide +kernel
theorem dX5_readFlag_37 : decode cX5_readFlag 37 = .ok (.invokevirtual 52, 3) := by decide +kernel
theorem dX5_readFlag_40 : decode cX5_readFlag 40 = .ok (.aload_n 0, 1) := by decide +kernel
theorem dX5_readFlag_41 : decode cX5_readFlag 41 = .ok (.getfield 34, 3) := by decide +kernel
theorem dX5_readFlag_44 : decode cX5_readFlag 44 = .ok (.getfield 113, 3) := by decide +kernel
theorem dX5_readFlag_47 : decode cX5_readFlag 47 = .ok (.iload_n 1, 1) := by decide +kernel
theorem dX5_readFlag_48 : decode cX5_readFlag 48 = .ok (.aload_n 0, 1) := by decide +kernel
theorem dX5_readFlag_49 : decode cX5_readFlag 49 = .ok (.iconst 0, 1) := by decide +kernel
theorem dX5_readFlag_50 : decode cX5_readFlag 50 = .ok (.sipush 999, 3) := by decide +kernel
theorem dX5_readFlag_53 : decode cX5_readFlag 53 = .ok (.invokevirtual 59, 3) := by decide +kernel
theorem dX5_readFlag_56 : decode cX5_readFlag 56 = .ok (.iastore, 1) := by decide +kernel
theorem dX5_readFlag_57 : decode cX5_readFlag 57 = .ok (.aload_n 0, 1) := by decide +kernel
theorem dX5_readFlag_58 : decode cX5_readFlag 58 = .ok (.bipush 15, 2) := by decide +kernel
theorem dX5_readFlag_60 : decode cX5_readFlag 60 = .ok (.invokevirtual 55, 3) := by decide +kernel
theorem dX5_readFlag_63 : decode cX5_readFlag 63 = .ok (.aload_n 0, 1) := by decide +kernel
theorem dX5_readFlag_64 : decode cX5_readFlag 64 = .ok (.getfield 34, 3) := by decide +kernel
theorem dX5_readFlag_67 : decode cX5_readFlag 67 = .ok (.getfield 116, 3) := by decide +kernel
theorem dX5_readFlag_70 : decode cX5_readFlag 70 = .ok (.iload_n 1, 1) := by decide +kernel
theorem dX5_readFlag_71 : decode cX5_readFlag 71 = .ok (.aload_n 0, 1) := by decide +kernel
theorem dX5_readFlag_72 : decode cX5_readFlag 72 = .ok (.aload_n 0, 1) := by decide +kernel
theorem dX5_readFlag_73 : decode cX5_readFlag 73 = .ok (.getfield 34, 3) := by decide +kernel
theorem dX5_readFlag_76 : decode cX5_readFlag 76 = .ok (.getfield 113, 3) := by decide +kernel
theorem dX5_readFlag_79 : decode cX5_readFlag 79 = .ok (.iload_n 1, 1) := by decide +kernel
theorem dX5_readFlag_80 : decode cX5_readFlag 80 = .ok (.iaload, 1) := by decide +kernel
theorem dX5_readFlag_81 : decode cX5_readFlag 81 = .ok (.sipush 999, 3) := by decide +kernel
theorem dX5_readFlag_84 : decode cX5_readFlag 84 = .ok (.invokevirtual 59, 3) := by decide +kernel
theorem dX5_readFlag_87 : decode cX5_readFlag 87 = .ok (.iastore, 1) := by decide +kernel
theorem dX5_readFlag_88 : decode cX5_readFlag 88 = .ok (.iconst 1, 1) := by decide +kernel
theorem dX5_readFlag_89 : decode cX5_readFlag 89 = .ok (.ireturn, 1) := by decide +kernel
theorem dX5_readFlag_90 : decode cX5_readFlag 90 = .ok (.aload_n 0, 1) := by decide +kernel
theorem dX5_readFlag_91 : decode cX5_readFlag 91 = .ok (.invokevirtual 52, 3) := by decide +kernel
theorem dX5_readFlag_94 : decode cX5_readFlag 94 = .ok (.aload_n 0, 1) := by decide +kernel
theorem dX5_readFlag_95 : decode cX5_readFlag 95 = .ok (.getfield 34, 3) := by decide +kernel
theorem dX5_readFlag_98 : decode cX5_readFlag 98 = .ok (.getfield 120, 3) := by decide +kernel
theorem dX5_readFlag_101 : decode cX5_readFlag 101 = .ok (.iload_n 1, 1) := by decide +kernel
theorem dX5_readFlag_102 : decode cX5_readFlag 102 = .ok (.aload_n 0, 1) := by decide +kernel
theorem dX5_readFlag_103 : decode cX5_readFlag 103 = .ok (.iconst 0, 1) := by decide +kernel
theorem dX5_readFlag_104 : decode cX5_readFlag 104 = .ok (.bipush 10, 2) := by decide +kernel
theorem dX5_readFlag_106 : decode cX5_readFlag 106 = .ok (.invokevirtual 59, 3) := by decide +kernel
theorem dX5_readFlag_109 : decode cX5_readFlag 109 = .ok (.iastore, 1) := by decide +kernel
theorem dX5_readFlag_110 : decode cX5_readFlag 110 = .ok (.iconst 1, 1) := by decide +kernel
theorem dX5_readFlag_111 : decode cX5_readFlag 111 = .ok (.ireturn, 1) := by decide +kernel
theorem dX5_readFlag_112 : decode cX5_readFlag 112 = .ok (.aload_n 0, 1) := by decide +kernel
theorem dX5_readFlag_113 : decode cX5_readFlag 113 = .ok (.invokevirtual 52, 3) := by decide +kernel
theorem dX5_readFlag_116 : decode cX5_readFlag 116 = .ok (.aload_n 0, 1) := by decide +kernel
theorem dX5_readFlag_117 : decode cX5_readFlag 117 = .ok (.getfield 34, 3) := by decide +kernel
theorem dX5_readFlag_120 : decode cX5_readFlag 120 = .ok (.getfield 123, 3) := by decide +kernel
theorem dX5_readFlag_123 : decode cX5_readFlag 123 = .ok (.iload_n 1, 1) := by decide +kernel
theorem dX5_readFlag_124 : decode cX5_readFlag 124 = .ok (.aload_n 0, 1) := by decide +kernel
theorem dX5_readFlag_125 : decode cX5_readFlag 125 = .ok (.iconst 1, 1) := by decide +kernel
theorem dX5_readFlag_126 : decode cX5_readFlag 126 = .ok (.bipush 99, 2) := by decide +kernel
theorem dX5_readFlag_128 : decode cX5_readFlag 128 = .ok (.invokevirtual 59, 3) := by decide +kernel
theorem dX5_readFlag_131 : decode cX5_readFlag 131 = .ok (.iastore, 1) := by decide +kernel
theorem dX5_readFlag_132 : decode cX5_readFlag 132 = .ok (.iconst 1, 1) := by decide +kernel
theorem dX5_readFlag_133 : decode cX5_readFlag 133 = .ok (.ireturn, 1) := by decide +kernel
theorem dX5_readFlag_134 : decode cX5_readFlag 134 = .ok (.iconst 0, 1) := by decide +kernel
theorem dX5_readFlag_135 : decode cX5_readFlag 135 = .ok (.ireturn, 1) := by decide +kernel
theorem dX5_readLaw_0 : decode cX5_readLaw 0 = .ok (.aload_n 0, 1) := by decide +kernel
theorem dX5_readLaw_1 : decode cX5_readLaw 1 = .ok (.getfield 22, 3) := by decide +kernel
theorem dX5_readLaw_4 : decode cX5_readLaw 4 = .ok (.bipush 20, 2) := by decide +kernel
theorem dX5_readLaw_6 : decode cX5_readLaw 6 = .ok (.if_icmp .ne 7, 3) := by decide +kernel
theorem dX5_readLaw_9 : decode cX5_readLaw 9 = .ok (.iconst 1, 1) := by decide +kernel
theorem dX5_readLaw_10 : decode cX5_readLaw 10 = .ok (.goto 4, 3) := by decide +kernel
theorem dX5_readLaw_13 : decode cX5_readLaw 13 = .ok (.iconst 0, 1) := by decide +kernel
theorem dX5_readLaw_14 : decode cX5_readLaw 14 = .ok (.istore_n 3, 1) := by decide +kernel
theorem dX5_readLaw_15 : decode cX5_readLaw 15 = .ok (.aload_n 0, 1) := by decide +kernel
theorem dX5_readLaw_16 : decode cX5_readLaw 16 = .ok (.invokevirtual 52, 3) := by decide +kernel
theorem dX5_readLaw_19 : decode cX5_readLaw 19 = .ok (.aload_n 0, 1) := by decide +kernel
theorem dX5_readLaw_20 : decode cX5_readLaw 20 = .ok (.bipush 58, 2) := by decide +kernel
theorem dX5_readLaw_22 : decode cX5_readLaw 22 = .ok (.invokevirtual 55, 3) := by decide +kernel
theorem dX5_readLaw_25 : decode cX5_readLaw 25 = .ok (.aload_n 0, 1) := by decide +kernel
theorem dX5_readLaw_26 : decode cX5_readLaw 26 = .ok (.iconst 0, 1) := by decide +kernel
theorem dX5_readLaw_27 : decode cX5_readLaw 27 = .ok (.putfield 42, 3) := by decide +kernel
theorem dX5_readLaw_30 : decode cX5_readLaw 30 = .ok (.aload_n 0, 1) := by decide +kernel
theorem dX5_readLaw_31 : decode cX5_readLaw 31 = .ok (.iload_n 1, 1) := by decide +kernel
theorem dX5_readLaw_32 : decode cX5_readLaw 32 = .ok (.putfield 45, 3) := by decide +kernel
theorem dX5_readLaw_35 : decode cX5_readLaw 35 = .ok (.iload_n 3, 1) := by decide +kernel
theorem dX5_readLaw_36 : decode cX5_readLaw 36 = .ok (.ifCond .eq 11, 3) := by decide +kernel
theorem dX5_readLaw_39 : decode cX5_readLaw 39 = .ok (.aload_n 0, 1) := by decide +kernel
theorem dX5_readLaw_40 : decode cX5_readLaw 40 = .ok (.iconst 0, 1) := by decide +kernel
theorem dX5_readLaw_41 : decode cX5_readLaw 41 = .ok (.invokevirtual 130, 3) := by decide +kernel
theorem dX5_readLaw_44 : decode cX5_readLaw 44 = .ok (.goto 8, 3) := by decide +kernel
theorem dX5_readLaw_47 : decode cX5_readLaw 47 = .ok (.aload_n 0, 1) := by decide +kernel
theorem dX5_readLaw_48 : decode cX5_readLaw 48 = .ok (.iconst 0, 1) := by decide +kernel
theorem dX5_readLaw_49 : decode cX5_readLaw 49 = .ok (.invokevirtual 133, 3) := by decide +kernel
theorem dX5_readLaw_52 : decode cX5_readLaw 52 = .ok (.aload_n 0, 1) := by decide +kernel
theorem dX5_readLaw_53 : decode cX5_readLaw 53 = .ok (.getfield 25, 3) := by decide +kernel
theorem dX5_readLaw_56 : decode cX5_readLaw 56 = .ok (.ifCond .eq 7, 3) := by decide +kernel
theorem dX5_readLaw_59 : decode cX5_readLaw 59 = .ok (.aload_n 2, 1) := by decide +kernel
theorem dX5_readLaw_60 : decode cX5_readLaw 60 = .ok (.goto 18, 3) := by decide +kernel
theorem dX5_readLaw_63 : decode cX5_readLaw 63 = .ok (.new 136, 3) := by decide +kernel
theorem dX5_readLaw_66 : decode cX5_readLaw 66 = .ok (.dup, 1) := by decide +kernel
theorem dX5_readLaw_67 : decode cX5_readLaw 67 = .ok (.aload_n 0, 1) := by decide +kernel
theorem dX5_readLaw_68 : decode cX5_readLaw 68 = .ok (.getfield 38, 3) := by decide +kernel
theorem dX5_readLaw_71 : decode cX5_readLaw 71 = .ok (.aload_n 0, 1) := by decide +kernel
theorem dX5_readLaw_72 : decode cX5_readLaw 72 = .ok (.getfield 42, 3) := by decide +kernel
theorem dX5_readLaw_75 : decode cX5_readLaw 75 = .ok (.invokespecial 138, 3) := by decide +kernel
theorem dX5_readLaw_78 : decode cX5_readLaw 78 = .ok (.areturn, 1) := by decide +kernel
theorem dX5_readLine_0 : decode cX5_readLine 0 = .ok (.aload_n 0, 1) := by decide +kernel
theorem dX5_readLine_1 : decode cX5_readLine 1 = .ok (.getfield 22, 3) := by decide +kernel
theorem dX5_readLine_4 : decode cX5_readLine 4 = .ok (.tableswitch 169 8 20 #[147, 169, 169, 169, 169, 68, 169, 169, 169, 169, 75, 99, 123], 68) := by decide +kernel
theorem dX5_readLine_72 : decode cX5_readLine 72 = .ok (.aload_n 0, 1) := by decide +kernel
theorem dX5_readLine_73 : decode cX5_readLine 73 = .ok (.invokevirtual 87, 3) := by decide +kernel
theorem dX5_readLine_76 : decode cX5_readLine 76 = .ok (.goto 102, 3) := by decide +kernel
theorem dX5_readLine_79 : decode cX5_readLine 79 = .ok (.aload_n 0, 1) := by decide +kernel
theorem dX5_readLine_80 : decode cX5_readLine 80 = .ok (.getfield 34, 3) := by decide +kernel
theorem dX5_readLine_83 : decode cX5_readLine 83 = .ok (.aload_n 0, 1) := by decide +kernel
theorem dX5_readLine_84 : decode cX5_readLine 84 = .ok (.sipush 511, 3) := by decide +kernel
theorem dX5_readLine_87 : decode cX5_readLine 87 = .ok (.aload_n 0, 1) := by decide +kernel
theorem dX5_readLine_88 : decode cX5_readLine 88 = .ok (.getfield 34, 3) := by decide +kernel
theorem dX5_readLine_91 : decode cX5_readLine 91 = .ok (.getfield 90, 3) := by decide +kernel
theorem dX5_readLine_94 : decode cX5_readLine 94 = .ok (.invokevirtual 94, 3) := by decide +kernel
theorem dX5_readLine_97 : decode cX5_readLine 97 = .ok (.putfield 90, 3) := by decide +kernel
theorem dX5_readLine_100 : decode cX5_readLine 100 = .ok (.goto 78, 3) := by decide +kernel
theorem dX5_readLine_103 : decode cX5_readLine 103 = .ok (.aload_n 0, 1) := by decide +kernel
theorem dX5_readLine_104 : decode cX5_readLine 104 = .ok (.getfield 34, 3) := by decide +kernel
theorem dX5_readLine_107 : decode cX5_readLine 107 = .ok (.aload_n 0, 1) := by decide +kernel
theorem dX5_readLine_108 : decode cX5_readLine 108 = .ok (.sipush 783, 3) := by decide +kernel
theorem dX5_readLine_111 : decode cX5_readLine 111 = .ok (.aload_n 0, 1) := by decide +kernel
theorem dX5_readLine_112 : decode cX5_readLine 112 = .ok (.getfield 34, 3) := by decide +kernel
theorem dX5_readLine_115 : decode cX5_readLine 115 = .ok (.getfield 98, 3) := by decide +kernel
theorem dX5_readLine_118 : decode cX5_readLine 118 = .ok (.invokevirtual 94, 3) := by decide +kernel
theorem dX5_readLine_121 : decode cX5_readLine 121 = .ok (.putfield 98, 3) := by decide +kernel
theorem dX5_readLine_124 : decode cX5_readLine 124 = .ok (.goto 54, 3) := by decide +kernel
theorem dX5_readLine_127 : decode cX5_readLine 127 = .ok (.aload_n 0, 1) := by decide +kernel
theorem dX5_readLine_128 : decode cX5_readLine 128 = .ok (.getfield 34, 3) := by decide +kernel
theorem dX5_readLine_131 : decode cX5_readLine 131 = .ok (.aload_n 0, 1) := by decide +kernel
theorem dX5_readLine_132 : decode cX5_readLine 132 = .ok (.sipush 1535, 3) := by decide +kernel
theorem dX5_readLine_135 : decode cX5_readLine 135 = .ok (.aload_n 0, 1) := by decide +kernel
theorem dX5_readLine_136 : decode cX5_readLine 136 = .ok (.getfield 34, 3) := by decide +kernel
theorem dX5_readLine_139 : decode cX5_readLine 139 = .ok (.getfield 101, 3) := by decide +kernel
theorem dX5_readLine_142 : decode cX5_readLine 142 = .ok (.invokevirtual 94, 3) := by decide +kernel
theorem dX5_readLine_145 : decode cX5_readLine 145 = .ok (.putfield 101, 3) := by decide +kernel
theorem dX5_readLine_148 : decode cX5_readLine 148 = .ok (.goto 30, 3) := by decide +kernel
theorem dX5_readLine_151 : decode cX5_readLine 151 = .ok (.aload_n 0, 1) := by decide +kernel
theorem dX5_readLine_152 : decode cX5_readLine 152 = .ok (.invokevirtual 52, 3) := by decide +kernel
theorem dX5_readLine_155 : decode cX5_readLine 155 = .ok (.aload_n 0, 1) := by decide +kernel
theorem dX5_readLine_156 : decode cX5_readLine 156 = .ok (.getfield 34, 3) := by decide +kernel
theorem dX5_readLine_159 : decode cX5_readLine 159 = .ok (.aload_n 0, 1) := by decide +kernel
theorem dX5_readLine_160 : decode cX5_readLine 160 = .ok (.iconst 0, 1) := by decide +kernel
theorem dX5_readLine_161 : decode cX5_readLine 161 = .ok (.sipush 999, 3) := by decide +kernel
theorem dX5_readLine_164 : decode cX5_readLine 164 = .ok (.invokevirtual 59, 3) := by decide +kernel
theorem dX5_readLine_167 : decode cX5_readLine 167 = .ok (.putfield 104, 3) := by decide +kernel
theorem dX5_readLine_170 : decode cX5_readLine 170 = .ok (.goto 8, 3) := by decide +kernel
theorem dX5_readLine_173 : decode cX5_readLine 173 = .ok (.aload_n 0, 1) := by decide +kernel
theorem dX5_readLine_174 : decode cX5_readLine 174 = .ok (.iconst 2, 1) := by decide +kernel
theorem dX5_readLine_175 : decode cX5_readLine 175 = .ok (.invokevirtual 81, 3) := by decide +kernel
theorem dX5_readLine_178 : decode cX5_readLine 178 = .ok (.return_, 1) := by decide +kernel
theorem dX5_readPerson_0 : decode cX5_readPerson 0 = .ok (.aload_n 0, 1) := by decide +kernel
theorem dX5_readPerson_1 : decode cX5_readPerson 1 = .ok (.getfield 34, 3) := by decide +kernel
theorem dX5_readPerson_4 : decode cX5_readPerson 4 = .ok (.getfield 107, 3) := by decide +kernel
theorem dX5_readPerson_7 : decode cX5_readPerson 7 = .ok (.istore_n 1, 1) := by decide +kernel
theorem dX5_readPerson_8 : decode cX5_readPerson 8 = .ok (.iload_n 1, 1) := by decide +kernel
theorem dX5_readPerson_9 : decode cX5_readPerson 9 = .ok (.bipush 10, 2) := by decide +kernel
theorem dX5_readPerson_11 : decode cX5_readPerson 11 = .ok (.if_icmp .lt 9, 3) := by decide +kernel
theorem dX5_readPerson_14 : decode cX5_readPerson 14 = .ok (.aload_n 0, 1) := by decide +kernel
theorem dX5_readPerson_15 : decode cX5_readPerson 15 = .ok (.iconst 4, 1) := by decide +kernel
theorem dX5_readPerson_16 : decode cX5_readPerson 16 = .ok (.invokevirtual 81, 3) := by decide +kernel
theorem dX5_readPerson_19 : decode cX5_readPerson 19 = .ok (.return_, 1) := by decide +kernel
theorem dX5_readPerson_20 : decode cX5_readPerson 20 = .ok (.aload_n 0, 1) := by decide +kernel
theorem dX5_readPerson_21 : decode cX5_readPerson 21 = .ok (.invokevirtual 52, 3) := by decide +kernel
theorem dX5_readPerson_24 : decode cX5_readPerson 24 = .ok (.iconst 0, 1) := by decide +kernel
theorem dX5_readPerson_25 : decode cX5_readPerson 25 = .ok (.istore_n 2, 1) := by decide +kernel
theorem dX5_readPerson_26 : decode cX5_readPerson 26 = .ok (.iconst 0, 1) := by decide +kernel
theorem dX5_readPerson_27 : decode cX5_readPerson 27 = .ok (.istore_n 3, 1) := by decide +kernel
theorem dX5_readPerson_28 : decode cX5_readPerson 28 = .ok (.iload_n 3, 1) := by decide +kernel
theorem dX5_readPerson_29 : decode cX5_readPerson 29 = .ok (.iconst 3, 1) := by decide +kernel
theorem dX5_readPerson_30 : decode cX5_readPerson 30 = .ok (.if_icmp .ge 37, 3) := by decide +kernel
theorem dX5_readPerson_33 : decode cX5_readPerson 33 = .ok (.bipush 10, 2) := by decide +kernel
theorem dX5_readPerson_35 : decode cX5_readPerson 35 = .ok (.iload_n 2, 1) := by decide +kernel
theorem dX5_readPerson_36 : decode cX5_readPerson 36 = .ok (.imul, 1) := by decide +kernel
theorem dX5_readPerson_37 : decode cX5_readPerson 37 = .ok (.iload_n 3, 1) := by decide +kernel
theorem dX5_readPerson_38 : decode cX5_readPerson 38 = .ok (.aload_n 0, 1) := by decide +kernel
theorem dX5_readPerson_39 : decode cX5_readPerson 39 = .ok (.getfield 34, 3) := by decide +kernel
theorem dX5_readPerson_42 : decode cX5_readPerson 42 = .ok (.getfield 63, 3) := by decide +kernel
theorem dX5_readPerson_45 : decode cX5_readPerson 45 = .ok (.if_icmp .ge 13, 3) := by decide +kernel
theorem dX5_readPerson_48 : decode cX5_readPerson 48 = .ok (.aload_n 0, 1) := by decide +kernel
theorem dX5_readPerson_49 : decode cX5_readPerson 49 = .ok (.iconst 0, 1) := by decide +kernel
theorem dX5_readPerson_50 : decode cX5_readPerson 50 = .ok (.bipush 9, 2) := by decide +kernel
theorem dX5_readPerson_52 : decode cX5_readPerson 52 = .ok (.invokevirtual 59, 3) := by decide +kernel
theorem dX5_readPerson_55 : decode cX5_readPerson 55 = .ok (.goto 4, 3) := by decide +kernel
theorem dX5_readPerson_58 : decode cX5_readPerson 58 = .ok (.iconst 0, 1) := by decide +kernel
theorem dX5_readPerson_59 : decode cX5_readPerson 59 = .ok (.iadd, 1) := by decide +kernel
theorem dX5_readPerson_60 : decode cX5_readPerson 60 = .ok (.istore_n 2, 1) := by decide +kernel
theorem dX5_readPerson_61 : decode cX5_readPerson 61 = .ok (.iinc 3 1, 3) := by decide +kernel
theorem dX5_readPerson_64 : decode cX5_readPerson 64 = .ok (.goto (-36), 3) := by decide +kernel
theorem dX5_readPerson_67 : decode cX5_readPerson 67 = .ok (.aload_n 0, 1) := by decide +kernel
theorem dX5_readPerson_68 : decode cX5_readPerson 68 = .ok (.getfield 34, 3) := by decide +kernel
theorem dX5_readPerson_71 : decode cX5_readPerson 71 = .ok (.getfield 110, 3) := by decide +kernel
theorem dX5_readPerson_74 : decode cX5_readPerson 74 = .ok (.iload_n 1, 1) := by decide +kernel
theorem dX5_readPerson_75 : decode cX5_readPerson 75 = .ok (.iload_n 2, 1) := by decide +kernel
theorem dX5_readPerson_76 : decode cX5_readPerson 76 = .ok (.iastore, 1) := by decide +kernel
theorem dX5_readPerson_77 : decode cX5_readPerson 77 = .ok (.aload_n 0, 1) := by decide +kernel
theorem dX5_readPerson_78 : decode cX5_readPerson 78 = .ok (.getfield 34, 3) := by decide +kernel
theorem dX5_readPerson_81 : decode cX5_readPerson 81 = .ok (.getfield 113, 3) := by decide +kernel
theorem dX5_readPerson_84 : decode cX5_readPerson 84 = .ok (.iload_n 1, 1) := by decide +kernel
theorem dX5_readPerson_85 : decode cX5_readPerson 85 = .ok (.iconst 0, 1) := by decide +kernel
theorem dX5_readPerson_86 : decode cX5_readPerson 86 = .ok (.iastore, 1) := by decide +kernel
theorem dX5_readPerson_87 : decode cX5_readPerson 87 = .ok (.aload_n 0, 1) := by decide +kernel
theorem dX5_readPerson_88 : decode cX5_readPerson 88 = .ok (.getfield 34, 3) := by decide +kernel
theorem dX5_readPerson_91 : decode cX5_readPerson 91 = .ok (.getfield 116, 3) := by decide +kernel
theorem dX5_readPerson_94 : decode cX5_readPerson 94 = .ok (.iload_n 1, 1) := by decide +kernel
theorem dX5_readPerson_95 : decode cX5_readPerson 95 = .ok (.ldc 119, 2) := by decide +kernel
theorem dX5_readPerson_97 : decode cX5_readPerson 97 = .ok (.iastore, 1) := by decide +kernel
theorem dX5_readPerson_98 : decode cX5_readPerson 98 = .ok (.aload_n 0, 1) := by decide +kernel
theorem dX5_readPerson_99 : decode cX5_readPerson 99 = .ok (.getfield 34, 3) := by decide +kernel
theorem dX5_readPerson_102 : decode cX5_readPerson 102 = .ok (.getfield 120, 3) := by decide +kernel
theorem dX5_readPerson_105 : decode cX5_readPerson 105 = .ok (.iload_n 1, 1) := by decide +kernel
theorem dX5_readPerson_106 : decode cX5_readPerson 106 = .ok (.bipush 10, 2) := by decide +kernel
theorem dX5_readPerson_108 : decode cX5_readPerson 108 = .ok (.iastore, 1) := by decide +kernel
theorem dX5_readPerson_109 : decode cX5_readPerson 109 = .ok (.aload_n 0, 1) := by decide +kernel
theorem dX5_readPerson_110 : decode cX5_readPerson 110 = .ok (.getfield 34, 3) := by decide +kernel
theorem dX5_readPerson_113 : decode cX5_readPerson 113 = .ok (.getfield 123, 3) := by decide +kernel
theorem dX5_readPerson_116 : decode cX5_readPerson 116 = .ok (.iload_n 1, 1) := by decide +kernel
theorem dX5_readPerson_117 : decode cX5_readPerson 117 = .ok (.iconst 1, 1) := by decide +kernel
theorem dX5_readPerson_118 : decode cX5_readPerson 118 = .ok (.iastore, 1) := by decide +kernel
theorem dX5_readPerson_119 : decode cX5_readPerson 119 = .ok (.iconst 1, 1) := by decide +kernel
theorem dX5_readPerson_120 : decode cX5_readPerson 120 = .ok (.istore_n 3, 1) := by decide +kernel
theorem dX5_readPerson_121 : decode cX5_readPerson 121 = .ok (.iconst 0, 1) := by decide +kernel
theorem dX5_readPerson_122 : decode cX5_readPerson 122 = .ok (.istore 4, 2) := by decide +kernel
theorem dX5_readPerson_124 : decode cX5_readPerson 124 = .ok (.iload 4, 2) := by decide +kernel
theorem dX5_readPerson_126 : decode cX5_readPerson 126 = .ok (.aload_n 0, 1) := by decide +kernel
theorem dX5_readPerson_127 : decode cX5_readPerson 127 = .ok (.getfield 12, 3) := by decide +kernel
theorem dX5_readPerson_130 : decode cX5_readPerson 130 = .ok (.getfield 69, 3) := by decide +kernel
theorem dX5_readPerson_133 : decode cX5_readPerson 133 = .ok (.if_icmp .ge 19, 3) := by decide +kernel
theorem dX5_readPerson_136 : decode cX5_readPerson 136 = .ok (.iload_n 3, 1) := by decide +kernel
theorem dX5_readPerson_137 : decode cX5_readPerson 137 = .ok (.ifCond .eq 15, 3) := by decide +kernel
theorem dX5_readPerson_140 : decode cX5_readPerson 140 = .ok (.aload_n 0, 1) := by decide +kernel
theorem dX5_readPerson_141 : decode cX5_readPerson 141 = .ok (.iload_n 1, 1) := by decide +kernel
theorem dX5_readPerson_142 : decode cX5_readPerson 142 = .ok (.invokevirtual 126, 3) := by decide +kernel
theorem dX5_readPerson_145 : decode cX5_readPerson 145 = .ok (.istore_n 3, 1) := by decide +kernel
theorem dX5_readPerson_146 : decode cX5_readPerson 146 = .ok (.iinc 4 1, 3) := by decide +kernel
theorem dX5_readPerson_149 : decode cX5_readPerson 149 = .ok (.goto (-25), 3) := by decide +kernel
theorem dX5_readPerson_152 : decode cX5_readPerson 152 = .ok (.aload_n 0, 1) := by decide +kernel
theorem dX5_readPerson_153 : decode cX5_readPerson 153 = .ok (.getfield 34, 3) := by decide +kernel
theorem dX5_readPerson_156 : decode cX5_readPerson 156 = .ok (.dup, 1) := by decide +kernel
theorem dX5_readPerson_157 : decode cX5_readPerson 157 = .ok (.getfield 107, 3) := by decide +kernel
theorem dX5_readPerson_160 : decode cX5_readPerson 160 = .ok (.iconst 1, 1) := by decide +kernel
theorem dX5_readPerson_161 : decode cX5_readPerson 161 = .ok (.iadd, 1) := by decide +kernel
theorem dX5_readPerson_162 : decode cX5_readPerson 162 = .ok (.putfield 107, 3) := by decide +kernel
theorem dX5_readPerson_165 : decode cX5_readPerson 165 = .ok (.return_, 1) := by decide +kernel
set_option maxHeartbeats 4000000 in
set_option maxRecDepth 100000 in
theorem gX5_takeNumber_7db443e (l : Launch) (D : va_G) (cy : Nat → ClassId) (h0 : Nat) (h1 : Nat) (h2 : Nat) (h3 : Nat) (h4 : Nat) (p0 : Int32) (p1 : Int32) (p2 : Int32) (p3 : Int32) (w0 : Value) (w1 : Value) (p4 : Int32) (p5 : Int32) (w2 : Value) (p6 : Int32) (p7 : Int32) (f0 : Nat → Int32) (f1 : Nat → Int32) (f2 : Nat → Int32) (hp0 : (-1) ≤ (p0).toInt ∧ (p0).toInt ≤ 900) (hp1 : (-2147483648) ≤ (p1).toInt ∧ (p1).toInt ≤ 2147483647) (hp2 : (-2147483648) ≤ (p2).toInt ∧ (p2).toInt ≤ 2147483647) (hp3 : (-2147483648) ≤ (p3).toInt ∧ (p3).toInt ≤ 2147483647) (hp4 : 0 ≤ (p4).toInt ∧ (p4).toInt ≤ 900) (hp5 : (-2147483648) ≤ (p5).toInt ∧ (p5).toInt ≤ 2147483647) (hp6 : 0 ≤ (p6).toInt ∧ (p6).toInt ≤ 900) (hp7 : 0 ≤ (p7).toInt ∧ (p7).toInt ≤ 901) (hpre0 : KZ f0 (p7 : Int32).toInt) (hpre1 : 0 ≤ (p0 : Int32).toInt ∧ (p0 : Int32).toInt < (p7 : Int32).toInt) (hpre2 : (p2 : Int32).toInt ≠ 0 ∨ (p1 : Int32).toInt = 26 ∨ (p1 : Int32).toInt = 27 ∨ (p0 : Int32).toInt + 1 < (p7 : Int32).toInt) (hpre3 : (p2 : Int32).toInt = 0 ∨ (p1 : Int32).toInt = 27) (sz : Nat) : MI l yX5_takeNumber cX5_takeNumber 4 .int { frames := 1, cells := 0, slots := 0, locals := 21 } [.ref h0, .int 0, .int 999] D cy [(h0, .inr (5, [.ref h1, .int p0, .int p1, .int p2, .int p3, w0, w1, .int p4, .int p5])), (h1, .inr (8, [w2, .int p6, .int p7, .ref h2, .ref h3, .ref h4])), (h2, .inl (cy 1, 901, .inl f0)), (h3, .inl (cy 1, 901, .inl f1)), (h4, .inl (cy 1, 901, .inl f2))] sz (fun r u => (0 ≤ r.toInt ∧ r.toInt ≤ 999) ∧ ((-1) ≤ (u.2.1 0 0).toInt ∧ (u.2.1 0 0).toInt ≤ 900) ∧ ((-2147483648) ≤ (u.2.1 1 0).toInt ∧ (u.2.1 1 0).toInt ≤ 2147483647) ∧ ((-2147483648) ≤ (u.2.1 2 0).toInt ∧ (u.2.1 2 0).toInt ≤ 2147483647) ∧ ((-2147483648) ≤ (u.2.1 3 0).toInt ∧ (u.2.1 3 0).toInt ≤ 2147483647) ∧ (0 ≤ ((u.2.1 0 0) : Int32).toInt ∧ ((u.2.1 0 0) : Int32).toInt < (p7 : Int32).toInt) ∧ (((u.2.1 2 0) : Int32).toInt ≠ 0 ∨ ((u.2.1 1 0) : Int32).toInt = 26 ∨ ((u.2.1 1 0) : Int32).toInt = 27 ∨ ((u.2.1 0 0) : Int32).toInt + 1 < (p7 : Int32).toInt) ∧ (((u.2.1 2 0) : Int32).toInt ≠ 0 ∨ ((u.2.1 0 0) : Int32).toInt = (p0 : Int32).toInt + 1) ∧ (((u.2.1 2 0) : Int32).toInt ≠ 0 ∨ (p2 : Int32).toInt = 0) ∧ (((u.2.1 2 0) : Int32).toInt = 0 ∨ ((u.2.1 1 0) : Int32).toInt = 27) ∧ ((p0 : Int32).toInt ≤ ((u.2.1 0 0) : Int32).toInt) ∧ True) (fun u => [(h0, .inr (5, [.ref h1, .int (u.2.1 0 0), .int (u.2.1 1 0), .int (u.2.1 2 0), .int (u.2.1 3 0), w0, w1, .int p4, .int p5])), (h1, .inr (8, [w2, .int p6, .int p7, .ref h2, .ref h3, .ref h4])), (h2, .inl (cy 1, 901, .inl f0)), (h3, .inl (cy 1, 901, .inl f1)), (h4, .inl (cy 1, 901, .inl f2))]) 0 0 := by
  refine q_ent (own := RX5) (by decide) rfl (Nat.le_of_ble_eq_true rfl) (fun p e s m below meth c ls X hr hlk hnm hK hT h hA hl => ?_)
  obtain ⟨hx, hb, hml, hown, ht⟩ := id X
  replace hl : lv_has ls 4 [(0, .ref h0), (1, .int 0), (2, .int 999)] := hl
  refine lv_aload_n hx hb dX5_takeNumber_0 rfl (lv_at hl 0 rfl) ?_
  refine q_get X hK h 0 rfl rfl wf_5 2 (by decide) rfl wm_1_146 dX5_takeNumber_1 ?_
  refine lv_bipush (v := 25) hx hb dX5_takeNumber_4 (by decide) ?_
  refine lv_icmp_eq (tgt := 16) hx hb dX5_takeNumber_6 (by decide) (fun c_1 => ?_) (fun c_1 => ?_)
  · replace c_1 := i_eq (x := p1) (y := 25) rfl (show (25 : Int32).toInt = 25 by decide) c_1
    refine lv_aload_n hx hb dX5_takeNumber_16 rfl (lv_at hl 0 rfl) ?_
    refine q_get X hK h 0 rfl rfl wf_5 0 (by decide) rfl wm_1_144 dX5_takeNumber_17 ?_
    refine q_get X hK h 1 rfl rfl wf_8 5 (by decide) rfl wm_1_52 dX5_takeNumber_20 ?_
    refine lv_aload_n hx hb dX5_takeNumber_23 rfl (lv_at hl 0 rfl) ?_
    refine q_get X hK h 0 rfl rfl wf_5 1 (by decide) rfl wm_1_145 dX5_takeNumber_24 ?_
    refine q_iald X hK h 4 rfl (i_in rfl (by omega) (by omega)) dX5_takeNumber_27 ?_
    refine q_any (fun z_2 hz_2 => ?_)
    refine lv_istore_n (lv' := [(3, .int z_2), (0, .ref h0), (1, .int 0), (2, .int 999)]) hx hb dX5_takeNumber_28 rfl hl (by decide) rfl (fun ls_3 hl_3 => ?_)
    clear hl
    refine lv_iload_n hx hb dX5_takeNumber_29 rfl (lv_at hl_3 0 rfl) ?_
    refine lv_iload_n hx hb dX5_takeNumber_30 rfl (lv_at hl_3 2 rfl) ?_
    refine q_jn (pc2 := 39) (fun H locs ls st => st = [] ∧ qW D (va_A [(h0, .inr (5, [.ref h1, .int p0, .int p1, .int p2, .int p3, w0, w1, .int p4, .int p5])), (h1, .inr (8, [w2, .int p6, .int p7, .ref h2, .ref h3, .ref h4])), (h2, .inl (cy 1, 901, .inl f0)), (h3, .inl (cy 1, 901, .inl f1)), (h4, .inl (cy 1, 901, .inl f2))] sz) s.heap [(h0, .inr (5, [.ref h1, .int p0, .int p1, .int p2, .int p3, w0, w1, .int p4, .int p5])), (h1, .inr (8, [w2, .int p6, .int p7, .ref h2, .ref h3, .ref h4])), (h2, .inl (cy 1, 901, .inl f0)), (h3, .inl (cy 1, 901, .inl f1)), (h4, .inl (cy 1, 901, .inl f2))] H locs ∧ lv_has ls 4 [(0, .ref h0), (1, .int 0), (2, .int 999), (3, .int z_2)]) (fun H locs ls st hP => ?_) (fun J_39 => ?_)
    · obtain ⟨rfl, h, hl⟩ := hP
      refine lv_aload_n hx hb dX5_takeNumber_39 rfl (lv_at hl 0 rfl) ?_
      refine lv_iconst (v := 3) hx hb dX5_takeNumber_40 (by decide) ?_
      refine q_callVv (rest := []) (wr := [(h2, .inl (cy 1, 901, .inl f0)), (h4, .inl (cy 1, 901, .inl f2))]) X hK hT hA h (fun sz => gX5_refuse_3ecba60 l D cy h0 h1 h3 p0 p1 p2 p3 w0 w1 p4 p5 w2 p6 p7 (.ref h2) (.ref h4) f1 hp0 (i_rng _) (i_rng _) (i_rng _) hp4 (i_rng _) hp6 hp7 (by omega) (by omega) (by have q0 : (3 : Int32).toInt = 3 := (by decide); omega) sz) wm_3_76 wm_3_79 wm_1_2 hd_X5_refuse wm_3_78 wp_1_10 (ci := 5) (q0 := 0) rfl rfl ⟨Nat.le_of_ble_eq_true rfl, Nat.le_of_ble_eq_true rfl⟩ hl.1 rfl (Nat.le_of_ble_eq_true rfl) dX5_takeNumber_41 ⟨Nat.le_of_ble_eq_true rfl, Nat.le_of_ble_eq_true rfl⟩ [0, 1, 3] [2, 4] rfl rfl (by decide) rfl rfl (fun u_5 H locs w_5 h_5 => ?_)
      clear h
      obtain ⟨w5_0, w5_1, w5_2, y5_0, y5_1, _⟩ := w_5
      have lq_5_1 : (3 : Int32).toInt = 3 := (by decide)
      replace h_5 : qW D _ _ [(h2, .inl (cy 1, 901, .inl f0)), (h4, .inl (cy 1, 901, .inl f2)), (h0, .inr (5, [.ref h1, .int p0, .int (u_5.2.1 0 0), .int (u_5.2.1 1 0), .int (u_5.2.1 2 0), w0, w1, .int p4, .int p5])), (h1, .inr (8, [w2, .int p6, .int p7, .ref h2, .ref h3, .ref h4])), (h3, .inl (cy 1, 901, .inl f1))] _ _ := h_5
      refine lv_iload_n hx hb dX5_takeNumber_44 rfl (lv_at hl 1 rfl) ?_
      exact q_iret X hr hlk hK h_5 rfl (fun _ => 0, fun k => List.getD [(fun _ => p0), (fun _ => (u_5.2.1 0 0)), (fun _ => (u_5.2.1 1 0)), (fun _ => (u_5.2.1 2 0))] k (fun _ => 0), fun _ _ => 0) ⟨⟨by decide +kernel, by decide +kernel⟩, (hp0 : (-1) ≤ (p0 : Int32).toInt ∧ (p0 : Int32).toInt ≤ 900), (w5_0 : (-2147483648) ≤ ((u_5.2.1 0 0) : Int32).toInt ∧ ((u_5.2.1 0 0) : Int32).toInt ≤ 2147483647), (w5_1 : (-2147483648) ≤ ((u_5.2.1 1 0) : Int32).toInt ∧ ((u_5.2.1 1 0) : Int32).toInt ≤ 2147483647), (w5_2 : (-2147483648) ≤ ((u_5.2.1 2 0) : Int32).toInt ∧ ((u_5.2.1 2 0) : Int32).toInt ≤ 2147483647), (show 0 ≤ (p0 : Int32).toInt ∧ (p0 : Int32).toInt < (p7 : Int32).toInt from by omega), (show ((u_5.2.1 1 0) : Int32).toInt ≠ 0 ∨ ((u_5.2.1 0 0) : Int32).toInt = 26 ∨ ((u_5.2.1 0 0) : Int32).toInt = 27 ∨ (p0 : Int32).toInt + 1 < (p7 : Int32).toInt from by omega), (show ((u_5.2.1 1 0) : Int32).toInt ≠ 0 ∨ (p0 : Int32).toInt = (p0 : Int32).toInt + 1 from by omega), (show ((u_5.2.1 1 0) : Int32).toInt ≠ 0 ∨ (p2 : Int32).toInt = 0 from by omega), (show ((u_5.2.1 1 0) : Int32).toInt = 0 ∨ ((u_5.2.1 0 0) : Int32).toInt = 27 from by omega), (show (p0 : Int32).toInt ≤ (p0 : Int32).toInt from by omega), trivial⟩ [2, 3, 0, 4, 1] rfl rfl dX5_takeNumber_45 (Nat.le_of_ble_eq_true rfl) (Nat.le_of_ble_eq_true rfl)
    · skip
      refine lv_icmp_lt (tgt := 39) hx hb dX5_takeNumber_31 (by decide) (fun c_6 => ?_) (fun c_6 => ?_)
      · replace c_6 := i_lt (x := z_2) (y := 0) rfl (show (0 : Int32).toInt = 0 by decide) c_6
        exact J_39 _ _ _ _ ⟨rfl, h, (lv_sub hl_3 [1, 2, 3, 0] rfl)⟩
      · replace c_6 := i_nlt (x := z_2) (y := 0) rfl (show (0 : Int32).toInt = 0 by decide) c_6
        refine lv_iload_n hx hb dX5_takeNumber_34 rfl (lv_at hl_3 0 rfl) ?_
        refine lv_iload_n hx hb dX5_takeNumber_35 rfl (lv_at hl_3 3 rfl) ?_
        refine lv_icmp_le (tgt := 46) hx hb dX5_takeNumber_36 (by decide) (fun c_7 => ?_) (fun c_7 => ?_)
        · replace c_7 := i_le (x := z_2) (y := 999) rfl (show (999 : Int32).toInt = 999 by decide) c_7
          refine lv_aload_n hx hb dX5_takeNumber_46 rfl (lv_at hl_3 1 rfl) ?_
          refine q_callVv (rest := []) (wr := [(h4, .inl (cy 1, 901, .inl f2))]) X hK hT hA h (fun sz => gX5_advance_9820dfe l D cy h0 h1 h2 h3 p0 p1 p2 p3 w0 w1 p4 p5 w2 p6 p7 (.ref h4) f0 f1 hp0 (i_rng _) (i_rng _) (i_rng _) hp4 (i_rng _) hp6 hp7 (hpre0) (by omega) (by omega) sz) wm_3_68 wm_3_71 wm_1_2 hd_X5_advance wm_3_70 wp_1_8 (ci := 5) (q0 := 0) rfl rfl ⟨Nat.le_of_ble_eq_true rfl, Nat.le_of_ble_eq_true rfl⟩ hl_3.1 rfl (Nat.le_of_ble_eq_true rfl) dX5_takeNumber_47 ⟨Nat.le_of_ble_eq_true rfl, Nat.le_of_ble_eq_true rfl⟩ [0, 1, 2, 3] [4] rfl rfl (by decide) rfl rfl (fun u_8 H locs w_8 h_8 => ?_)
          clear h
          obtain ⟨w8_0, w8_1, w8_2, w8_3, y8_0, y8_1, y8_2, y8_3, y8_4, y8_5, _⟩ := w_8
          replace h_8 : qW D _ _ [(h4, .inl (cy 1, 901, .inl f2)), (h0, .inr (5, [.ref h1, .int (u_8.2.1 0 0), .int (u_8.2.1 1 0), .int (u_8.2.1 2 0), .int (u_8.2.1 3 0), w0, w1, .int p4, .int p5])), (h1, .inr (8, [w2, .int p6, .int p7, .ref h2, .ref h3, .ref h4])), (h2, .inl (cy 1, 901, .inl f0)), (h3, .inl (cy 1, 901, .inl f1))] _ _ := h_8
          refine lv_iload_n hx hb dX5_takeNumber_50 rfl (lv_at hl_3 0 rfl) ?_
          exact q_iret X hr hlk hK h_8 rfl (fun _ => 0, fun k => List.getD [(fun _ => (u_8.2.1 0 0)), (fun _ => (u_8.2.1 1 0)), (fun _ => (u_8.2.1 2 0)), (fun _ => (u_8.2.1 3 0))] k (fun _ => 0), fun _ _ => 0) ⟨⟨by omega, by omega⟩, (w8_0 : (-1) ≤ ((u_8.2.1 0 0) : Int32).toInt ∧ ((u_8.2.1 0 0) : Int32).toInt ≤ 900), (w8_1 : (-2147483648) ≤ ((u_8.2.1 1 0) : Int32).toInt ∧ ((u_8.2.1 1 0) : Int32).toInt ≤ 2147483647), (w8_2 : (-2147483648) ≤ ((u_8.2.1 2 0) : Int32).toInt ∧ ((u_8.2.1 2 0) : Int32).toInt ≤ 2147483647), (w8_3 : (-2147483648) ≤ ((u_8.2.1 3 0) : Int32).toInt ∧ ((u_8.2.1 3 0) : Int32).toInt ≤ 2147483647), (show 0 ≤ ((u_8.2.1 0 0) : Int32).toInt ∧ ((u_8.2.1 0 0) : Int32).toInt < (p7 : Int32).toInt from by omega), (show ((u_8.2.1 2 0) : Int32).toInt ≠ 0 ∨ ((u_8.2.1 1 0) : Int32).toInt = 26 ∨ ((u_8.2.1 1 0) : Int32).toInt = 27 ∨ ((u_8.2.1 0 0) : Int32).toInt + 1 < (p7 : Int32).toInt from by omega), (show ((u_8.2.1 2 0) : Int32).toInt ≠ 0 ∨ ((u_8.2.1 0 0) : Int32).toInt = (p0 : Int32).toInt + 1 from by omega), (show ((u_8.2.1 2 0) : Int32).toInt ≠ 0 ∨ (p2 : Int32).toInt = 0 from by omega), (show ((u_8.2.1 2 0) : Int32).toInt = 0 ∨ ((u_8.2.1 1 0) : Int32).toInt = 27 from by omega), (show (p0 : Int32).toInt ≤ ((u_8.2.1 0 0) : Int32).toInt from by omega), trivial⟩ [1, 2, 3, 4, 0] rfl rfl dX5_takeNumber_51 (Nat.le_of_ble_eq_true rfl) (Nat.le_of_ble_eq_true rfl)
        · replace c_7 := i_nle (x := z_2) (y := 999) rfl (show (999 : Int32).toInt = 999 by decide) c_7
          exact J_39 _ _ _ _ ⟨rfl, h, (lv_sub hl_3 [1, 2, 3, 0] rfl)⟩
  · replace c_1 := i_ne (x := p1) (y := 25) rfl (show (25 : Int32).toInt = 25 by decide) c_1
    refine lv_aload_n hx hb dX5_takeNumber_9 rfl (lv_at hl 0 rfl) ?_
    refine lv_iconst (v := 2) hx hb dX5_takeNumber_10 (by decide) ?_
    refine q_callVv (rest := []) (wr := [(h2, .inl (cy 1, 901, .inl f0)), (h4, .inl (cy 1, 901, .inl f2))]) X hK hT hA h (fun sz => gX5_refuse_067fcff l D cy h0 h1 h3 p0 p1 p2 p3 w0 w1 p4 p5 w2 p6 p7 (.ref h2) (.ref h4) f1 hp0 (i_rng _) (i_rng _) (i_rng _) hp4 (i_rng _) hp6 hp7 (by omega) (by omega) (by have q0 : (2 : Int32).toInt = 2 := (by decide); omega) sz) wm_3_76 wm_3_79 wm_1_2 hd_X5_refuse wm_3_78 wp_1_10 (ci := 5) (q0 := 0) rfl rfl ⟨Nat.le_of_ble_eq_true rfl, Nat.le_of_ble_eq_true rfl⟩ hl.1 rfl (Nat.le_of_ble_eq_true rfl) dX5_takeNumber_11 ⟨Nat.le_of_ble_eq_true rfl, Nat.le_of_ble_eq_true rfl⟩ [0, 1, 3] [2, 4] rfl rfl (by decide) rfl rfl (fun u_9 H locs w_9 h_9 => ?_)
    clear h
    obtain ⟨w9_0, w9_1, w9_2, y9_0, y9_1, _⟩ := w_9
    have lq_9_1 : (2 : Int32).toInt = 2 := (by decide)
    replace h_9 : qW D _ _ [(h2, .inl (cy 1, 901, .inl f0)), (h4, .inl (cy 1, 901, .inl f2)), (h0, .inr (5, [.ref h1, .int p0, .int (u_9.2.1 0 0), .int (u_9.2.1 1 0), .int (u_9.2.1 2 0), w0, w1, .int p4, .int p5])), (h1, .inr (8, [w2, .int p6, .int p7, .ref h2, .ref h3, .ref h4])), (h3, .inl (cy 1, 901, .inl f1))] _ _ := h_9
    refine lv_iload_n hx hb dX5_takeNumber_14 rfl (lv_at hl 1 rfl) ?_
    exact q_iret X hr hlk hK h_9 rfl (fun _ => 0, fun k => List.getD [(fun _ => p0), (fun _ => (u_9.2.1 0 0)), (fun _ => (u_9.2.1 1 0)), (fun _ => (u_9.2.1 2 0))] k (fun _ => 0), fun _ _ => 0) ⟨⟨by decide +kernel, by decide +kernel⟩, (hp0 : (-1) ≤ (p0 : Int32).toInt ∧ (p0 : Int32).toInt ≤ 900), (w9_0 : (-2147483648) ≤ ((u_9.2.1 0 0) : Int32).toInt ∧ ((u_9.2.1 0 0) : Int32).toInt ≤ 2147483647), (w9_1 : (-2147483648) ≤ ((u_9.2.1 1 0) : Int32).toInt ∧ ((u_9.2.1 1 0) : Int32).toInt ≤ 2147483647), (w9_2 : (-2147483648) ≤ ((u_9.2.1 2 0) : Int32).toInt ∧ ((u_9.2.1 2 0) : Int32).toInt ≤ 2147483647), (show 0 ≤ (p0 : Int32).toInt ∧ (p0 : Int32).toInt < (p7 : Int32).toInt from by omega), (show ((u_9.2.1 1 0) : Int32).toInt ≠ 0 ∨ ((u_9.2.1 0 0) : Int32).toInt = 26 ∨ ((u_9.2.1 0 0) : Int32).toInt = 27 ∨ (p0 : Int32).toInt + 1 < (p7 : Int32).toInt from by omega), (show ((u_9.2.1 1 0) : Int32).toInt ≠ 0 ∨ (p0 : Int32).toInt = (p0 : Int32).toInt + 1 from by omega), (show ((u_9.2.1 1 0) : Int32).toInt ≠ 0 ∨ (p2 : Int32).toInt = 0 from by omega), (show ((u_9.2.1 1 0) : Int32).toInt = 0 ∨ ((u_9.2.1 0 0) : Int32).toInt = 27 from by omega), (show (p0 : Int32).toInt ≤ (p0 : Int32).toInt from by omega), trivial⟩ [2, 3, 0, 4, 1] rfl rfl dX5_takeNumber_15 (Nat.le_of_ble_eq_true rfl) (Nat.le_of_ble_eq_true rfl)
set_option maxHeartbeats 4000000 in
set_option maxRecDepth 100000 in
theorem gX5_take_4548c15 (l : Launch) (D : va_G) (cy : Nat → ClassId) (h0 : Nat) (h1 : Nat) (h2 : Nat) (h3 : Nat) (p0 : Int32) (p1 : Int32) (p2 : Int32) (p3 : Int32) (w0 : Value) (w1 : Value) (p4 : Int32) (p5 : Int32) (w2 : Value) (p6 : Int32) (p7 : Int32) (w3 : Value) (f0 : Nat → Int32) (f1 : Nat → Int32) (hp0 : (-1) ≤ (p0).toInt ∧ (p0).toInt ≤ 900) (hp1 : (-2147483648) ≤ (p1).toInt ∧ (p1).toInt ≤ 2147483647) (hp2 : (-2147483648) ≤ (p2).toInt ∧ (p2).toInt ≤ 2147483647) (hp3 : (-2147483648) ≤ (p3).toInt ∧ (p3).toInt ≤ 2147483647) (hp4 : 0 ≤ (p4).toInt ∧ (p4).toInt ≤ 900) (hp5 : (-2147483648) ≤ (p5).toInt ∧ (p5).toInt ≤ 2147483647) (hp6 : 0 ≤ (p6).toInt ∧ (p6).toInt ≤ 900) (hp7 : 0 ≤ (p7).toInt ∧ (p7).toInt ≤ 901) (hpre0 : KZ f0 (p7 : Int32).toInt) (hpre1 : 0 ≤ (p0 : Int32).toInt ∧ (p0 : Int32).toInt < (p7 : Int32).toInt) (hpre2 : (p2 : Int32).toInt ≠ 0 ∨ (p1 : Int32).toInt = 26 ∨ (p1 : Int32).toInt = 27 ∨ (p0 : Int32).toInt + 1 < (p7 : Int32).toInt) (hpre3 : (p2 : Int32).toInt = 0 ∨ (p1 : Int32).toInt = 27) (hpre4 : (15 : Int32).toInt ≠ 26 ∧ (15 : Int32).toInt ≠ 27) (sz : Nat) : MV l yX5_take cX5_take 2 { frames := 1, cells := 0, slots := 0, locals := 21 } [.ref h0, .int 15] D cy [(h0, .inr (5, [.ref h1, .int p0, .int p1, .int p2, .int p3, w0, w1, .int p4, .int p5])), (h1, .inr (8, [w2, .int p6, .int p7, .ref h2, .ref h3, w3])), (h2, .inl (cy 1, 901, .inl f0)), (h3, .inl (cy 1, 901, .inl f1))] sz (fun u => ((-2147483648) ≤ (u.2.1 0 0).toInt ∧ (u.2.1 0 0).toInt ≤ 2147483647) ∧ ((-2147483648) ≤ (u.2.1 1 0).toInt ∧ (u.2.1 1 0).toInt ≤ 2147483647) ∧ ((-2147483648) ≤ (u.2.1 2 0).toInt ∧ (u.2.1 2 0).toInt ≤ 2147483647) ∧ ((-1) ≤ (u.2.1 3 0).toInt ∧ (u.2.1 3 0).toInt ≤ 900) ∧ (0 ≤ ((u.2.1 3 0) : Int32).toInt ∧ ((u.2.1 3 0) : Int32).toInt < (p7 : Int32).toInt) ∧ (((u.2.1 1 0) : Int32).toInt ≠ 0 ∨ ((u.2.1 0 0) : Int32).toInt = 26 ∨ ((u.2.1 0 0) : Int32).toInt = 27 ∨ ((u.2.1 3 0) : Int32).toInt + 1 < (p7 : Int32).toInt) ∧ (((u.2.1 1 0) : Int32).toInt ≠ 0 ∨ ((u.2.1 3 0) : Int32).toInt = (p0 : Int32).toInt + 1) ∧ (((u.2.1 1 0) : Int32).toInt ≠ 0 ∨ (p2 : Int32).toInt = 0) ∧ (((u.2.1 1 0) : Int32).toInt = 0 ∨ ((u.2.1 0 0) : Int32).toInt = 27) ∧ ((p0 : Int32).toInt ≤ ((u.2.1 3 0) : Int32).toInt) ∧ True) (fun u => [(h0, .inr (5, [.ref h1, .int (u.2.1 3 0), .int (u.2.1 0 0), .int (u.2.1 1 0), .int (u.2.1 2 0), w0, w1, .int p4, .int p5])), (h1, .inr (8, [w2, .int p6, .int p7, .ref h2, .ref h3, w3])), (h2, .inl (cy 1, 901, .inl f0)), (h3, .inl (cy 1, 901, .inl f1))]) 0 0 := by
  refine q_ent (own := RX5) (by decide) rfl (Nat.le_of_ble_eq_true rfl) (fun p e s m below meth c ls X hr hlk hnm hK hT h hA hl => ?_)
  obtain ⟨hx, hb, hml, hown, ht⟩ := id X
  replace hl : lv_has ls 2 [(0, .ref h0), (1, .int 15)] := hl
  refine lv_aload_n hx hb dX5_take_0 rfl (lv_at hl 0 rfl) ?_
  refine q_get X hK h 0 rfl rfl wf_5 2 (by decide) rfl wm_1_146 dX5_take_1 ?_
  refine lv_iload_n hx hb dX5_take_4 rfl (lv_at hl 1 rfl) ?_
  refine lv_icmp_ne (tgt := 15) hx hb dX5_take_5 (by decide) (fun c_1 => ?_) (fun c_1 => ?_)
  · replace c_1 := i_ne (x := p1) (y := 15) rfl (show (15 : Int32).toInt = 15 by decide) c_1
    refine lv_aload_n hx hb dX5_take_15 rfl (lv_at hl 0 rfl) ?_
    refine lv_iconst (v := 2) hx hb dX5_take_16 (by decide) ?_
    refine q_callVv (rest := []) (wr := [(h2, .inl (cy 1, 901, .inl f0))]) X hK hT hA h (fun sz => gX5_refuse_067fcff l D cy h0 h1 h3 p0 p1 p2 p3 w0 w1 p4 p5 w2 p6 p7 (.ref h2) w3 f1 hp0 (i_rng _) (i_rng _) (i_rng _) hp4 (i_rng _) hp6 hp7 (by omega) (by omega) (by have q0 : (2 : Int32).toInt = 2 := (by decide); omega) sz) wm_3_76 wm_3_79 wm_1_2 hd_X5_refuse wm_3_78 wp_1_10 (ci := 5) (q0 := 0) rfl rfl ⟨Nat.le_of_ble_eq_true rfl, Nat.le_of_ble_eq_true rfl⟩ hl.1 rfl (Nat.le_of_ble_eq_true rfl) dX5_take_17 ⟨Nat.le_of_ble_eq_true rfl, Nat.le_of_ble_eq_true rfl⟩ [0, 1, 3] [2] rfl rfl (by decide) rfl rfl (fun u_2 H locs w_2 h_2 => ?_)
    clear h
    obtain ⟨w2_0, w2_1, w2_2, y2_0, y2_1, _⟩ := w_2
    have lq_2_1 : (2 : Int32).toInt = 2 := (by decide)
    replace h_2 : qW D _ _ [(h2, .inl (cy 1, 901, .inl f0)), (h0, .inr (5, [.ref h1, .int p0, .int (u_2.2.1 0 0), .int (u_2.2.1 1 0), .int (u_2.2.1 2 0), w0, w1, .int p4, .int p5])), (h1, .inr (8, [w2, .int p6, .int p7, .ref h2, .ref h3, w3])), (h3, .inl (cy 1, 901, .inl f1))] _ _ := h_2
    exact q_vret X hr hlk hK h_2 (fun _ => 0, fun k => List.getD [(fun _ => (u_2.2.1 0 0)), (fun _ => (u_2.2.1 1 0)), (fun _ => (u_2.2.1 2 0)), (fun _ => p0)] k (fun _ => 0), fun _ _ => 0) ⟨(w2_0 : (-2147483648) ≤ ((u_2.2.1 0 0) : Int32).toInt ∧ ((u_2.2.1 0 0) : Int32).toInt ≤ 2147483647), (w2_1 : (-2147483648) ≤ ((u_2.2.1 1 0) : Int32).toInt ∧ ((u_2.2.1 1 0) : Int32).toInt ≤ 2147483647), (w2_2 : (-2147483648) ≤ ((u_2.2.1 2 0) : Int32).toInt ∧ ((u_2.2.1 2 0) : Int32).toInt ≤ 2147483647), (hp0 : (-1) ≤ (p0 : Int32).toInt ∧ (p0 : Int32).toInt ≤ 900), (show 0 ≤ (p0 : Int32).toInt ∧ (p0 : Int32).toInt < (p7 : Int32).toInt from by omega), (show ((u_2.2.1 1 0) : Int32).toInt ≠ 0 ∨ ((u_2.2.1 0 0) : Int32).toInt = 26 ∨ ((u_2.2.1 0 0) : Int32).toInt = 27 ∨ (p0 : Int32).toInt + 1 < (p7 : Int32).toInt from by omega), (show ((u_2.2.1 1 0) : Int32).toInt ≠ 0 ∨ (p0 : Int32).toInt = (p0 : Int32).toInt + 1 from by omega), (show ((u_2.2.1 1 0) : Int32).toInt ≠ 0 ∨ (p2 : Int32).toInt = 0 from by omega), (show ((u_2.2.1 1 0) : Int32).toInt = 0 ∨ ((u_2.2.1 0 0) : Int32).toInt = 27 from by omega), (show (p0 : Int32).toInt ≤ (p0 : Int32).toInt from by omega), trivial⟩ [1, 2, 0, 3] rfl rfl dX5_take_20 (Nat.le_of_ble_eq_true rfl) (Nat.le_of_ble_eq_true rfl)
  · replace c_1 := i_eq (x := p1) (y := 15) rfl (show (15 : Int32).toInt = 15 by decide) c_1
    refine lv_aload_n hx hb dX5_take_8 rfl (lv_at hl 0 rfl) ?_
    refine q_callVv (rest := []) (wr := []) X hK hT hA h (fun sz => gX5_advance_9820dfe l D cy h0 h1 h2 h3 p0 p1 p2 p3 w0 w1 p4 p5 w2 p6 p7 w3 f0 f1 hp0 (i_rng _) (i_rng _) (i_rng _) hp4 (i_rng _) hp6 hp7 (hpre0) (by omega) (by omega) sz) wm_3_68 wm_3_71 wm_1_2 hd_X5_advance wm_3_70 wp_1_8 (ci := 5) (q0 := 0) rfl rfl ⟨Nat.le_of_ble_eq_true rfl, Nat.le_of_ble_eq_true rfl⟩ hl.1 rfl (Nat.le_of_ble_eq_true rfl) dX5_take_9 ⟨Nat.le_of_ble_eq_true rfl, Nat.le_of_ble_eq_true rfl⟩ [0, 1, 2, 3] [] rfl rfl (by decide) rfl rfl (fun u_3 H locs w_3 h_3 => ?_)
    clear h
    obtain ⟨w3_0, w3_1, w3_2, w3_3, y3_0, y3_1, y3_2, y3_3, y3_4, y3_5, _⟩ := w_3
    replace h_3 : qW D _ _ [(h0, .inr (5, [.ref h1, .int (u_3.2.1 0 0), .int (u_3.2.1 1 0), .int (u_3.2.1 2 0), .int (u_3.2.1 3 0), w0, w1, .int p4, .int p5])), (h1, .inr (8, [w2, .int p6, .int p7, .ref h2, .ref h3, w3])), (h2, .inl (cy 1, 901, .inl f0)), (h3, .inl (cy 1, 901, .inl f1))] _ _ := h_3
    refine lv_goto (tgt := 20) hx hb dX5_take_12 (by decide) ?_
    exact q_vret X hr hlk hK h_3 (fun _ => 0, fun k => List.getD [(fun _ => (u_3.2.1 1 0)), (fun _ => (u_3.2.1 2 0)), (fun _ => (u_3.2.1 3 0)), (fun _ => (u_3.2.1 0 0))] k (fun _ => 0), fun _ _ => 0) ⟨(w3_1 : (-2147483648) ≤ ((u_3.2.1 1 0) : Int32).toInt ∧ ((u_3.2.1 1 0) : Int32).toInt ≤ 2147483647), (w3_2 : (-2147483648) ≤ ((u_3.2.1 2 0) : Int32).toInt ∧ ((u_3.2.1 2 0) : Int32).toInt ≤ 2147483647), (w3_3 : (-2147483648) ≤ ((u_3.2.1 3 0) : Int32).toInt ∧ ((u_3.2.1 3 0) : Int32).toInt ≤ 2147483647), (w3_0 : (-1) ≤ ((u_3.2.1 0 0) : Int32).toInt ∧ ((u_3.2.1 0 0) : Int32).toInt ≤ 900), (show 0 ≤ ((u_3.2.1 0 0) : Int32).toInt ∧ ((u_3.2.1 0 0) : Int32).toInt < (p7 : Int32).toInt from by omega), (show ((u_3.2.1 2 0) : Int32).toInt ≠ 0 ∨ ((u_3.2.1 1 0) : Int32).toInt = 26 ∨ ((u_3.2.1 1 0) : Int32).toInt = 27 ∨ ((u_3.2.1 0 0) : Int32).toInt + 1 < (p7 : Int32).toInt from by omega), (show ((u_3.2.1 2 0) : Int32).toInt ≠ 0 ∨ ((u_3.2.1 0 0) : Int32).toInt = (p0 : Int32).toInt + 1 from by omega), (show ((u_3.2.1 2 0) : Int32).toInt ≠ 0 ∨ (p2 : Int32).toInt = 0 from by omega), (show ((u_3.2.1 2 0) : Int32).toInt = 0 ∨ ((u_3.2.1 1 0) : Int32).toInt = 27 from by omega), (show (p0 : Int32).toInt ≤ ((u_3.2.1 0 0) : Int32).toInt from by omega), trivial⟩ [0, 1, 2, 3] rfl rfl dX5_take_20 (Nat.le_of_ble_eq_true rfl) (Nat.le_of_ble_eq_true rfl)
set_option maxHeartbeats 4000000 in
set_option maxRecDepth 100000 in
theorem gX5_takeNumber_f1ade24 (l : Launch) (D : va_G) (cy : Nat → ClassId) (h0 : Nat) (h1 : Nat) (h2 : Nat) (h3 : Nat) (h4 : Nat) (p0 : Int32) (p1 : Int32) (p2 : Int32) (p3 : Int32) (p4 : Int32) (w0 : Value) (w1 : Value) (p5 : Int32) (p6 : Int32) (w2 : Value) (p7 : Int32) (p8 : Int32) (f0 : Nat → Int32) (f1 : Nat → Int32) (f2 : Nat → Int32) (hp0 : (-2147483648) ≤ (p0).toInt ∧ (p0).toInt ≤ 2147483647) (hp1 : (-1) ≤ (p1).toInt ∧ (p1).toInt ≤ 900) (hp2 : (-2147483648) ≤ (p2).toInt ∧ (p2).toInt ≤ 2147483647) (hp3 : (-2147483648) ≤ (p3).toInt ∧ (p3).toInt ≤ 2147483647) (hp4 : (-2147483648) ≤ (p4).toInt ∧ (p4).toInt ≤ 2147483647) (hp5 : 0 ≤ (p5).toInt ∧ (p5).toInt ≤ 900) (hp6 : (-2147483648) ≤ (p6).toInt ∧ (p6).toInt ≤ 2147483647) (hp7 : 0 ≤ (p7).toInt ∧ (p7).toInt ≤ 900) (hp8 : 0 ≤ (p8).toInt ∧ (p8).toInt ≤ 901) (hpre0 : KZ f0 (p8 : Int32).toInt) (hpre1 : 0 ≤ (p1 : Int32).toInt ∧ (p1 : Int32).toInt < (p8 : Int32).toInt) (hpre2 : (p3 : Int32).toInt ≠ 0 ∨ (p2 : Int32).toInt = 26 ∨ (p2 : Int32).toInt = 27 ∨ (p1 : Int32).toInt + 1 < (p8 : Int32).toInt) (hpre3 : (p3 : Int32).toInt = 0 ∨ (p2 : Int32).toInt = 27) (sz : Nat) : MI l yX5_takeNumber cX5_takeNumber 4 .int { frames := 1, cells := 0, slots := 0, locals := 21 } [.ref h0, .int p0, .int 999] D cy [(h0, .inr (5, [.ref h1, .int p1, .int p2, .int p3, .int p4, w0, w1, .int p5, .int p6])), (h1, .inr (8, [w2, .int p7, .int p8, .ref h2, .ref h3, .ref h4])), (h2, .inl (cy 1, 901, .inl f0)), (h3, .inl (cy 1, 901, .inl f1)), (h4, .inl (cy 1, 901, .inl f2))] sz (fun r u => ((-2147483648) ≤ r.toInt ∧ r.toInt ≤ 2147483647) ∧ ((-1) ≤ (u.2.1 0 0).toInt ∧ (u.2.1 0 0).toInt ≤ 900) ∧ ((-2147483648) ≤ (u.2.1 1 0).toInt ∧ (u.2.1 1 0).toInt ≤ 2147483647) ∧ ((-2147483648) ≤ (u.2.1 2 0).toInt ∧ (u.2.1 2 0).toInt ≤ 2147483647) ∧ ((-2147483648) ≤ (u.2.1 3 0).toInt ∧ (u.2.1 3 0).toInt ≤ 2147483647) ∧ (0 ≤ ((u.2.1 0 0) : Int32).toInt ∧ ((u.2.1 0 0) : Int32).toInt < (p8 : Int32).toInt) ∧ (((u.2.1 2 0) : Int32).toInt ≠ 0 ∨ ((u.2.1 1 0) : Int32).toInt = 26 ∨ ((u.2.1 1 0) : Int32).toInt = 27 ∨ ((u.2.1 0 0) : Int32).toInt + 1 < (p8 : Int32).toInt) ∧ (((u.2.1 2 0) : Int32).toInt ≠ 0 ∨ ((u.2.1 0 0) : Int32).toInt = (p1 : Int32).toInt + 1) ∧ (((u.2.1 2 0) : Int32).toInt ≠ 0 ∨ (p3 : Int32).toInt = 0) ∧ (((u.2.1 2 0) : Int32).toInt = 0 ∨ ((u.2.1 1 0) : Int32).toInt = 27) ∧ ((p1 : Int32).toInt ≤ ((u.2.1 0 0) : Int32).toInt) ∧ True) (fun u => [(h0, .inr (5, [.ref h1, .int (u.2.1 0 0), .int (u.2.1 1 0), .int (u.2.1 2 0), .int (u.2.1 3 0), w0, w1, .int p5, .int p6])), (h1, .inr (8, [w2, .int p7, .int p8, .ref h2, .ref h3, .ref h4])), (h2, .inl (cy 1, 901, .inl f0)), (h3, .inl (cy 1, 901, .inl f1)), (h4, .inl (cy 1, 901, .inl f2))]) 0 0 := by
  refine q_ent (own := RX5) (by decide) rfl (Nat.le_of_ble_eq_true rfl) (fun p e s m below meth c ls X hr hlk hnm hK hT h hA hl => ?_)
  obtain ⟨hx, hb, hml, hown, ht⟩ := id X
  replace hl : lv_has ls 4 [(0, .ref h0), (1, .int p0), (2, .int 999)] := hl
  refine lv_aload_n hx hb dX5_takeNumber_0 rfl (lv_at hl 0 rfl) ?_
  refine q_get X hK h 0 rfl rfl wf_5 2 (by decide) rfl wm_1_146 dX5_takeNumber_1 ?_
  refine lv_bipush (v := 25) hx hb dX5_takeNumber_4 (by decide) ?_
  refine lv_icmp_eq (tgt := 16) hx hb dX5_takeNumber_6 (by decide) (fun c_1 => ?_) (fun c_1 => ?_)
  · replace c_1 := i_eq (x := p2) (y := 25) rfl (show (25 : Int32).toInt = 25 by decide) c_1
    refine lv_aload_n hx hb dX5_takeNumber_16 rfl (lv_at hl 0 rfl) ?_
    refine q_get X hK h 0 rfl rfl wf_5 0 (by decide) rfl wm_1_144 dX5_takeNumber_17 ?_
    refine q_get X hK h 1 rfl rfl wf_8 5 (by decide) rfl wm_1_52 dX5_takeNumber_20 ?_
    refine lv_aload_n hx hb dX5_takeNumber_23 rfl (lv_at hl 0 rfl) ?_
    refine q_get X hK h 0 rfl rfl wf_5 1 (by decide) rfl wm_1_145 dX5_takeNumber_24 ?_
    refine q_iald X hK h 4 rfl (i_in rfl (by omega) (by omega)) dX5_takeNumber_27 ?_
    refine q_any (fun z_2 hz_2 => ?_)
    refine lv_istore_n (lv' := [(3, .int z_2), (0, .ref h0), (1, .int p0), (2, .int 999)]) hx hb dX5_takeNumber_28 rfl hl (by decide) rfl (fun ls_3 hl_3 => ?_)
    clear hl
    refine lv_iload_n hx hb dX5_takeNumber_29 rfl (lv_at hl_3 0 rfl) ?_
    refine lv_iload_n hx hb dX5_takeNumber_30 rfl (lv_at hl_3 2 rfl) ?_
    refine q_jn (pc2 := 39) (fun H locs ls st => st = [] ∧ qW D (va_A [(h0, .inr (5, [.ref h1, .int p1, .int p2, .int p3, .int p4, w0, w1, .int p5, .int p6])), (h1, .inr (8, [w2, .int p7, .int p8, .ref h2, .ref h3, .ref h4])), (h2, .inl (cy 1, 901, .inl f0)), (h3, .inl (cy 1, 901, .inl f1)), (h4, .inl (cy 1, 901, .inl f2))] sz) s.heap [(h0, .inr (5, [.ref h1, .int p1, .int p2, .int p3, .int p4, w0, w1, .int p5, .int p6])), (h1, .inr (8, [w2, .int p7, .int p8, .ref h2, .ref h3, .ref h4])), (h2, .inl (cy 1, 901, .inl f0)), (h3, .inl (cy 1, 901, .inl f1)), (h4, .inl (cy 1, 901, .inl f2))] H locs ∧ lv_has ls 4 [(0, .ref h0), (1, .int p0), (2, .int 999), (3, .int z_2)]) (fun H locs ls st hP => ?_) (fun J_39 => ?_)
    · obtain ⟨rfl, h, hl⟩ := hP
      refine lv_aload_n hx hb dX5_takeNumber_39 rfl (lv_at hl 0 rfl) ?_
      refine lv_iconst (v := 3) hx hb dX5_takeNumber_40 (by decide) ?_
      refine q_callVv (rest := []) (wr := [(h2, .inl (cy 1, 901, .inl f0)), (h4, .inl (cy 1, 901, .inl f2))]) X hK hT hA h (fun sz => gX5_refuse_3ecba60 l D cy h0 h1 h3 p1 p2 p3 p4 w0 w1 p5 p6 w2 p7 p8 (.ref h2) (.ref h4) f1 hp1 (i_rng _) (i_rng _) (i_rng _) hp5 (i_rng _) hp7 hp8 (by omega) (by omega) (by have q0 : (3 : Int32).toInt = 3 := (by decide); omega) sz) wm_3_76 wm_3_79 wm_1_2 hd_X5_refuse wm_3_78 wp_1_10 (ci := 5) (q0 := 0) rfl rfl ⟨Nat.le_of_ble_eq_true rfl, Nat.le_of_ble_eq_true rfl⟩ hl.1 rfl (Nat.le_of_ble_eq_true rfl) dX5_takeNumber_41 ⟨Nat.le_of_ble_eq_true rfl, Nat.le_of_ble_eq_true rfl⟩ [0, 1, 3] [2, 4] rfl rfl (by decide) rfl rfl (fun u_5 H locs w_5 h_5 => ?_)
      clear h
      obtain ⟨w5_0, w5_1, w5_2, y5_0, y5_1, _⟩ := w_5
      have lq_5_1 : (3 : Int32).toInt = 3 := (by decide)
      replace h_5 : qW D _ _ [(h2, .inl (cy 1, 901, .inl f0)), (h4, .inl (cy 1, 901, .inl f2)), (h0, .inr (5, [.ref h1, .int p1, .int (u_5.2.1 0 0), .int (u_5.2.1 1 0), .int (u_5.2.1 2 0), w0, w1, .int p5, .int p6])), (h1, .inr (8, [w2, .int p7, .int p8, .ref h2, .ref h3, .ref h4])), (h3, .inl (cy 1, 901, .inl f1))] _ _ := h_5
      refine lv_iload_n hx hb dX5_takeNumber_44 rfl (lv_at hl 1 rfl) ?_
      exact q_iret X hr hlk hK h_5 rfl (fun _ => 0, fun k => List.getD [(fun _ => p1), (fun _ => (u_5.2.1 0 0)), (fun _ => (u_5.2.1 1 0)), (fun _ => (u_5.2.1 2 0))] k (fun _ => 0), fun _ _ => 0) ⟨hp0, (hp1 : (-1) ≤ (p1 : Int32).toInt ∧ (p1 : Int32).toInt ≤ 900), (w5_0 : (-2147483648) ≤ ((u_5.2.1 0 0) : Int32).toInt ∧ ((u_5.2.1 0 0) : Int32).toInt ≤ 2147483647), (w5_1 : (-2147483648) ≤ ((u_5.2.1 1 0) : Int32).toInt ∧ ((u_5.2.1 1 0) : Int32).toInt ≤ 2147483647), (w5_2 : (-2147483648) ≤ ((u_5.2.1 2 0) : Int32).toInt ∧ ((u_5.2.1 2 0) : Int32).toInt ≤ 2147483647), (show 0 ≤ (p1 : Int32).toInt ∧ (p1 : Int32).toInt < (p8 : Int32).toInt from by omega), (show ((u_5.2.1 1 0) : Int32).toInt ≠ 0 ∨ ((u_5.2.1 0 0) : Int32).toInt = 26 ∨ ((u_5.2.1 0 0) : Int32).toInt = 27 ∨ (p1 : Int32).toInt + 1 < (p8 : Int32).toInt from by omega), (show ((u_5.2.1 1 0) : Int32).toInt ≠ 0 ∨ (p1 : Int32).toInt = (p1 : Int32).toInt + 1 from by omega), (show ((u_5.2.1 1 0) : Int32).toInt ≠ 0 ∨ (p3 : Int32).toInt = 0 from by omega), (show ((u_5.2.1 1 0) : Int32).toInt = 0 ∨ ((u_5.2.1 0 0) : Int32).toInt = 27 from by omega), (show (p1 : Int32).toInt ≤ (p1 : Int32).toInt from by omega), trivial⟩ [2, 3, 0, 4, 1] rfl rfl dX5_takeNumber_45 (Nat.le_of_ble_eq_true rfl) (Nat.le_of_ble_eq_true rfl)
    · skip
      refine lv_icmp_lt (tgt := 39) hx hb dX5_takeNumber_31 (by decide) (fun c_6 => ?_) (fun c_6 => ?_)
      · replace c_6 := i_lt (x := z_2) (y := p0) rfl rfl c_6
        exact J_39 _ _ _ _ ⟨rfl, h, (lv_sub hl_3 [1, 2, 3, 0] rfl)⟩
      · replace c_6 := i_nlt (x := z_2) (y := p0) rfl rfl c_6
        refine lv_iload_n hx hb dX5_takeNumber_34 rfl (lv_at hl_3 0 rfl) ?_
        refine lv_iload_n hx hb dX5_takeNumber_35 rfl (lv_at hl_3 3 rfl) ?_
        refine lv_icmp_le (tgt := 46) hx hb dX5_takeNumber_36 (by decide) (fun c_7 => ?_) (fun c_7 => ?_)
        · replace c_7 := i_le (x := z_2) (y := 999) rfl (show (999 : Int32).toInt = 999 by decide) c_7
          refine lv_aload_n hx hb dX5_takeNumber_46 rfl (lv_at hl_3 1 rfl) ?_
          refine q_callVv (rest := []) (wr := [(h4, .inl (cy 1, 901, .inl f2))]) X hK hT hA h (fun sz => gX5_advance_9820dfe l D cy h0 h1 h2 h3 p1 p2 p3 p4 w0 w1 p5 p6 w2 p7 p8 (.ref h4) f0 f1 hp1 (i_rng _) (i_rng _) (i_rng _) hp5 (i_rng _) hp7 hp8 (hpre0) (by omega) (by omega) sz) wm_3_68 wm_3_71 wm_1_2 hd_X5_advance wm_3_70 wp_1_8 (ci := 5) (q0 := 0) rfl rfl ⟨Nat.le_of_ble_eq_true rfl, Nat.le_of_ble_eq_true rfl⟩ hl_3.1 rfl (Nat.le_of_ble_eq_true rfl) dX5_takeNumber_47 ⟨Nat.le_of_ble_eq_true rfl, Nat.le_of_ble_eq_true rfl⟩ [0, 1, 2, 3] [4] rfl rfl (by decide) rfl rfl (fun u_8 H locs w_8 h_8 => ?_)
          clear h
          obtain ⟨w8_0, w8_1, w8_2, w8_3, y8_0, y8_1, y8_2, y8_3, y8_4, y8_5, _⟩ := w_8
          replace h_8 : qW D _ _ [(h4, .inl (cy 1, 901, .inl f2)), (h0, .inr (5, [.ref h1, .int (u_8.2.1 0 0), .int (u_8.2.1 1 0), .int (u_8.2.1 2 0), .int (u_8.2.1 3 0), w0, w1, .int p5, .int p6])), (h1, .inr (8, [w2, .int p7, .int p8, .ref h2, .ref h3, .ref h4])), (h2, .inl (cy 1, 901, .inl f0)), (h3, .inl (cy 1, 901, .inl f1))] _ _ := h_8
          refine lv_iload_n hx hb dX5_takeNumber_50 rfl (lv_at hl_3 0 rfl) ?_
          exact q_iret X hr hlk hK h_8 rfl (fun _ => 0, fun k => List.getD [(fun _ => (u_8.2.1 0 0)), (fun _ => (u_8.2.1 1 0)), (fun _ => (u_8.2.1 2 0)), (fun _ => (u_8.2.1 3 0))] k (fun _ => 0), fun _ _ => 0) ⟨⟨by omega, by omega⟩, (w8_0 : (-1) ≤ ((u_8.2.1 0 0) : Int32).toInt ∧ ((u_8.2.1 0 0) : Int32).toInt ≤ 900), (w8_1 : (-2147483648) ≤ ((u_8.2.1 1 0) : Int32).toInt ∧ ((u_8.2.1 1 0) : Int32).toInt ≤ 2147483647), (w8_2 : (-2147483648) ≤ ((u_8.2.1 2 0) : Int32).toInt ∧ ((u_8.2.1 2 0) : Int32).toInt ≤ 2147483647), (w8_3 : (-2147483648) ≤ ((u_8.2.1 3 0) : Int32).toInt ∧ ((u_8.2.1 3 0) : Int32).toInt ≤ 2147483647), (show 0 ≤ ((u_8.2.1 0 0) : Int32).toInt ∧ ((u_8.2.1 0 0) : Int32).toInt < (p8 : Int32).toInt from by omega), (show ((u_8.2.1 2 0) : Int32).toInt ≠ 0 ∨ ((u_8.2.1 1 0) : Int32).toInt = 26 ∨ ((u_8.2.1 1 0) : Int32).toInt = 27 ∨ ((u_8.2.1 0 0) : Int32).toInt + 1 < (p8 : Int32).toInt from by omega), (show ((u_8.2.1 2 0) : Int32).toInt ≠ 0 ∨ ((u_8.2.1 0 0) : Int32).toInt = (p1 : Int32).toInt + 1 from by omega), (show ((u_8.2.1 2 0) : Int32).toInt ≠ 0 ∨ (p3 : Int32).toInt = 0 from by omega), (show ((u_8.2.1 2 0) : Int32).toInt = 0 ∨ ((u_8.2.1 1 0) : Int32).toInt = 27 from by omega), (show (p1 : Int32).toInt ≤ ((u_8.2.1 0 0) : Int32).toInt from by omega), trivial⟩ [1, 2, 3, 4, 0] rfl rfl dX5_takeNumber_51 (Nat.le_of_ble_eq_true rfl) (Nat.le_of_ble_eq_true rfl)
        · replace c_7 := i_nle (x := z_2) (y := 999) rfl (show (999 : Int32).toInt = 999 by decide) c_7
          exact J_39 _ _ _ _ ⟨rfl, h, (lv_sub hl_3 [1, 2, 3, 0] rfl)⟩
  · replace c_1 := i_ne (x := p2) (y := 25) rfl (show (25 : Int32).toInt = 25 by decide) c_1
    refine lv_aload_n hx hb dX5_takeNumber_9 rfl (lv_at hl 0 rfl) ?_
    refine lv_iconst (v := 2) hx hb dX5_takeNumber_10 (by decide) ?_
    refine q_callVv (rest := []) (wr := [(h2, .inl (cy 1, 901, .inl f0)), (h4, .inl (cy 1, 901, .inl f2))]) X hK hT hA h (fun sz => gX5_refuse_067fcff l D cy h0 h1 h3 p1 p2 p3 p4 w0 w1 p5 p6 w2 p7 p8 (.ref h2) (.ref h4) f1 hp1 (i_rng _) (i_rng _) (i_rng _) hp5 (i_rng _) hp7 hp8 (by omega) (by omega) (by have q0 : (2 : Int32).toInt = 2 := (by decide); omega) sz) wm_3_76 wm_3_79 wm_1_2 hd_X5_refuse wm_3_78 wp_1_10 (ci := 5) (q0 := 0) rfl rfl ⟨Nat.le_of_ble_eq_true rfl, Nat.le_of_ble_eq_true rfl⟩ hl.1 rfl (Nat.le_of_ble_eq_true rfl) dX5_takeNumber_11 ⟨Nat.le_of_ble_eq_true rfl, Nat.le_of_ble_eq_true rfl⟩ [0, 1, 3] [2, 4] rfl rfl (by decide) rfl rfl (fun u_9 H locs w_9 h_9 => ?_)
    clear h
    obtain ⟨w9_0, w9_1, w9_2, y9_0, y9_1, _⟩ := w_9
    have lq_9_1 : (2 : Int32).toInt = 2 := (by decide)
    replace h_9 : qW D _ _ [(h2, .inl (cy 1, 901, .inl f0)), (h4, .inl (cy 1, 901, .inl f2)), (h0, .inr (5, [.ref h1, .int p1, .int (u_9.2.1 0 0), .int (u_9.2.1 1 0), .int (u_9.2.1 2 0), w0, w1, .int p5, .int p6])), (h1, .inr (8, [w2, .int p7, .int p8, .ref h2, .ref h3, .ref h4])), (h3, .inl (cy 1, 901, .inl f1))] _ _ := h_9
    refine lv_iload_n hx hb dX5_takeNumber_14 rfl (lv_at hl 1 rfl) ?_
    exact q_iret X hr hlk hK h_9 rfl (fun _ => 0, fun k => List.getD [(fun _ => p1), (fun _ => (u_9.2.1 0 0)), (fun _ => (u_9.2.1 1 0)), (fun _ => (u_9.2.1 2 0))] k (fun _ => 0), fun _ _ => 0) ⟨hp0, (hp1 : (-1) ≤ (p1 : Int32).toInt ∧ (p1 : Int32).toInt ≤ 900), (w9_0 : (-2147483648) ≤ ((u_9.2.1 0 0) : Int32).toInt ∧ ((u_9.2.1 0 0) : Int32).toInt ≤ 2147483647), (w9_1 : (-2147483648) ≤ ((u_9.2.1 1 0) : Int32).toInt ∧ ((u_9.2.1 1 0) : Int32).toInt ≤ 2147483647), (w9_2 : (-2147483648) ≤ ((u_9.2.1 2 0) : Int32).toInt ∧ ((u_9.2.1 2 0) : Int32).toInt ≤ 2147483647), (show 0 ≤ (p1 : Int32).toInt ∧ (p1 : Int32).toInt < (p8 : Int32).toInt from by omega), (show ((u_9.2.1 1 0) : Int32).toInt ≠ 0 ∨ ((u_9.2.1 0 0) : Int32).toInt = 26 ∨ ((u_9.2.1 0 0) : Int32).toInt = 27 ∨ (p1 : Int32).toInt + 1 < (p8 : Int32).toInt from by omega), (show ((u_9.2.1 1 0) : Int32).toInt ≠ 0 ∨ (p1 : Int32).toInt = (p1 : Int32).toInt + 1 from by omega), (show ((u_9.2.1 1 0) : Int32).toInt ≠ 0 ∨ (p3 : Int32).toInt = 0 from by omega), (show ((u_9.2.1 1 0) : Int32).toInt = 0 ∨ ((u_9.2.1 0 0) : Int32).toInt = 27 from by omega), (show (p1 : Int32).toInt ≤ (p1 : Int32).toInt from by omega), trivial⟩ [2, 3, 0, 4, 1] rfl rfl dX5_takeNumber_15 (Nat.le_of_ble_eq_true rfl) (Nat.le_of_ble_eq_true rfl)
set_option maxHeartbeats 4000000 in
set_option maxRecDepth 100000 in
theorem gX5_takeNumber_6ae0c88 (l : Launch) (D : va_G) (cy : Nat → ClassId) (h0 : Nat) (h1 : Nat) (h2 : Nat) (h3 : Nat) (h4 : Nat) (p0 : Int32) (p1 : Int32) (p2 : Int32) (p3 : Int32) (w0 : Value) (w1 : Value) (p4 : Int32) (p5 : Int32) (w2 : Value) (p6 : Int32) (p7 : Int32) (f0 : Nat → Int32) (f1 : Nat → Int32) (f2 : Nat → Int32) (hp0 : (-1) ≤ (p0).toInt ∧ (p0).toInt ≤ 900) (hp1 : (-2147483648) ≤ (p1).toInt ∧ (p1).toInt ≤ 2147483647) (hp2 : (-2147483648) ≤ (p2).toInt ∧ (p2).toInt ≤ 2147483647) (hp3 : (-2147483648) ≤ (p3).toInt ∧ (p3).toInt ≤ 2147483647) (hp4 : 0 ≤ (p4).toInt ∧ (p4).toInt ≤ 900) (hp5 : (-2147483648) ≤ (p5).toInt ∧ (p5).toInt ≤ 2147483647) (hp6 : 0 ≤ (p6).toInt ∧ (p6).toInt ≤ 900) (hp7 : 0 ≤ (p7).toInt ∧ (p7).toInt ≤ 901) (hpre0 : KZ f0 (p7 : Int32).toInt) (hpre1 : 0 ≤ (p0 : Int32).toInt ∧ (p0 : Int32).toInt < (p7 : Int32).toInt) (hpre2 : (p2 : Int32).toInt ≠ 0 ∨ (p1 : Int32).toInt = 26 ∨ (p1 : Int32).toInt = 27 ∨ (p0 : Int32).toInt + 1 < (p7 : Int32).toInt) (hpre3 : (p2 : Int32).toInt = 0 ∨ (p1 : Int32).toInt = 27) (sz : Nat) : MI l yX5_takeNumber cX5_takeNumber 4 .int { frames := 1, cells := 0, slots := 0, locals := 21 } [.ref h0, .int 0, .int 10] D cy [(h0, .inr (5, [.ref h1, .int p0, .int p1, .int p2, .int p3, w0, w1, .int p4, .int p5])), (h1, .inr (8, [w2, .int p6, .int p7, .ref h2, .ref h3, .ref h4])), (h2, .inl (cy 1, 901, .inl f0)), (h3, .inl (cy 1, 901, .inl f1)), (h4, .inl (cy 1, 901, .inl f2))] sz (fun r u => (0 ≤ r.toInt ∧ r.toInt ≤ 10) ∧ ((-1) ≤ (u.2.1 0 0).toInt ∧ (u.2.1 0 0).toInt ≤ 900) ∧ ((-2147483648) ≤ (u.2.1 1 0).toInt ∧ (u.2.1 1 0).toInt ≤ 2147483647) ∧ ((-2147483648) ≤ (u.2.1 2 0).toInt ∧ (u.2.1 2 0).toInt ≤ 2147483647) ∧ ((-2147483648) ≤ (u.2.1 3 0).toInt ∧ (u.2.1 3 0).toInt ≤ 2147483647) ∧ (0 ≤ ((u.2.1 0 0) : Int32).toInt ∧ ((u.2.1 0 0) : Int32).toInt < (p7 : Int32).toInt) ∧ (((u.2.1 2 0) : Int32).toInt ≠ 0 ∨ ((u.2.1 1 0) : Int32).toInt = 26 ∨ ((u.2.1 1 0) : Int32).toInt = 27 ∨ ((u.2.1 0 0) : Int32).toInt + 1 < (p7 : Int32).toInt) ∧ (((u.2.1 2 0) : Int32).toInt ≠ 0 ∨ ((u.2.1 0 0) : Int32).toInt = (p0 : Int32).toInt + 1) ∧ (((u.2.1 2 0) : Int32).toInt ≠ 0 ∨ (p2 : Int32).toInt = 0) ∧ (((u.2.1 2 0) : Int32).toInt = 0 ∨ ((u.2.1 1 0) : Int32).toInt = 27) ∧ ((p0 : Int32).toInt ≤ ((u.2.1 0 0) : Int32).toInt) ∧ True) (fun u => [(h0, .inr (5, [.ref h1, .int (u.2.1 0 0), .int (u.2.1 1 0), .int (u.2.1 2 0), .int (u.2.1 3 0), w0, w1, .int p4, .int p5])), (h1, .inr (8, [w2, .int p6, .int p7, .ref h2, .ref h3, .ref h4])), (h2, .inl (cy 1, 901, .inl f0)), (h3, .inl (cy 1, 901, .inl f1)), (h4, .inl (cy 1, 901, .inl f2))]) 0 0 := by
  refine q_ent (own := RX5) (by decide) rfl (Nat.le_of_ble_eq_true rfl) (fun p e s m below meth c ls X hr hlk hnm hK hT h hA hl => ?_)
  obtain ⟨hx, hb, hml, hown, ht⟩ := id X
  replace hl : lv_has ls 4 [(0, .ref h0), (1, .int 0), (2, .int 10)] := hl
  refine lv_aload_n hx hb dX5_takeNumber_0 rfl (lv_at hl 0 rfl) ?_
  refine q_get X hK h 0 rfl rfl wf_5 2 (by decide) rfl wm_1_146 dX5_takeNumber_1 ?_
  refine lv_bipush (v := 25) hx hb dX5_takeNumber_4 (by decide) ?_
  refine lv_icmp_eq (tgt := 16) hx hb dX5_takeNumber_6 (by decide) (fun c_1 => ?_) (fun c_1 => ?_)
  · replace c_1 := i_eq (x := p1) (y := 25) rfl (show (25 : Int32).toInt = 25 by decide) c_1
    refine lv_aload_n hx hb dX5_takeNumber_16 rfl (lv_at hl 0 rfl) ?_
    refine q_get X hK h 0 rfl rfl wf_5 0 (by decide) rfl wm_1_144 dX5_takeNumber_17 ?_
    refine q_get X hK h 1 rfl rfl wf_8 5 (by decide) rfl wm_1_52 dX5_takeNumber_20 ?_
    refine lv_aload_n hx hb dX5_takeNumber_23 rfl (lv_at hl 0 rfl) ?_
    refine q_get X hK h 0 rfl rfl wf_5 1 (by decide) rfl wm_1_145 dX5_takeNumber_24 ?_
    refine q_iald X hK h 4 rfl (i_in rfl (by omega) (by omega)) dX5_takeNumber_27 ?_
    refine q_any (fun z_2 hz_2 => ?_)
    refine lv_istore_n (lv' := [(3, .int z_2), (0, .ref h0), (1, .int 0), (2, .int 10)]) hx hb dX5_takeNumber_28 rfl hl (by decide) rfl (fun ls_3 hl_3 => ?_)
    clear hl
    refine lv_iload_n hx hb dX5_takeNumber_29 rfl (lv_at hl_3 0 rfl) ?_
    refine lv_iload_n hx hb dX5_takeNumber_30 rfl (lv_at hl_3 2 rfl) ?_
    refine q_jn (pc2 := 39) (fun H locs ls st => st = [] ∧ qW D (va_A [(h0, .inr (5, [.ref h1, .int p0, .int p1, .int p2, .int p3, w0, w1, .int p4, .int p5])), (h1, .inr (8, [w2, .int p6, .int p7, .ref h2, .ref h3, .ref h4])), (h2, .inl (cy 1, 901, .inl f0)), (h3, .inl (cy 1, 901, .inl f1)), (h4, .inl (cy 1, 901, .inl f2))] sz) s.heap [(h0, .inr (5, [.ref h1, .int p0, .int p1, .int p2, .int p3, w0, w1, .int p4, .int p5])), (h1, .inr (8, [w2, .int p6, .int p7, .ref h2, .ref h3, .ref h4])), (h2, .inl (cy 1, 901, .inl f0)), (h3, .inl (cy 1, 901, .inl f1)), (h4, .inl (cy 1, 901, .inl f2))] H locs ∧ lv_has ls 4 [(0, .ref h0), (1, .int 0), (2, .int 10), (3, .int z_2)]) (fun H locs ls st hP => ?_) (fun J_39 => ?_)
    · obtain ⟨rfl, h, hl⟩ := hP
      refine lv_aload_n hx hb dX5_takeNumber_39 rfl (lv_at hl 0 rfl) ?_
      refine lv_iconst (v := 3) hx hb dX5_takeNumber_40 (by decide) ?_
      refine q_callVv (rest := []) (wr := [(h2, .inl (cy 1, 901, .inl f0)), (h4, .inl (cy 1, 901, .inl f2))]) X hK hT hA h (fun sz => gX5_refuse_3ecba60 l D cy h0 h1 h3 p0 p1 p2 p3 w0 w1 p4 p5 w2 p6 p7 (.ref h2) (.ref h4) f1 hp0 (i_rng _) (i_rng _) (i_rng _) hp4 (i_rng _) hp6 hp7 (by omega) (by omega) (by have q0 : (3 : Int32).toInt = 3 := (by decide); omega) sz) wm_3_76 wm_3_79 wm_1_2 hd_X5_refuse wm_3_78 wp_1_10 (ci := 5) (q0 := 0) rfl rfl ⟨Nat.le_of_ble_eq_true rfl, Nat.le_of_ble_eq_true rfl⟩ hl.1 rfl (Nat.le_of_ble_eq_true rfl) dX5_takeNumber_41 ⟨Nat.le_of_ble_eq_true rfl, Nat.le_of_ble_eq_true rfl⟩ [0, 1, 3] [2, 4] rfl rfl (by decide) rfl rfl (fun u_5 H locs w_5 h_5 => ?_)
      clear h
      obtain ⟨w5_0, w5_1, w5_2, y5_0, y5_1, _⟩ := w_5
      have lq_5_1 : (3 : Int32).toInt = 3 := (by decide)
      replace h_5 : qW D _ _ [(h2, .inl (cy 1, 901, .inl f0)), (h4, .inl (cy 1, 901, .inl f2)), (h0, .inr (5, [.ref h1, .int p0, .int (u_5.2.1 0 0), .int (u_5.2.1 1 0), .int (u_5.2.1 2 0), w0, w1, .int p4, .int p5])), (h1, .inr (8, [w2, .int p6, .int p7, .ref h2, .ref h3, .ref h4])), (h3, .inl (cy 1, 901, .inl f1))] _ _ := h_5
      refine lv_iload_n hx hb dX5_takeNumber_44 rfl (lv_at hl 1 rfl) ?_
      exact q_iret X hr hlk hK h_5 rfl (fun _ => 0, fun k => List.getD [(fun _ => p0), (fun _ => (u_5.2.1 0 0)), (fun _ => (u_5.2.1 1 0)), (fun _ => (u_5.2.1 2 0))] k (fun _ => 0), fun _ _ => 0) ⟨⟨by decide +kernel, by decide +kernel⟩, (hp0 : (-1) ≤ (p0 : Int32).toInt ∧ (p0 : Int32).toInt ≤ 900), (w5_0 : (-2147483648) ≤ ((u_5.2.1 0 0) : Int32).toInt ∧ ((u_5.2.1 0 0) : Int32).toInt ≤ 2147483647), (w5_1 : (-2147483648) ≤ ((u_5.2.1 1 0) : Int32).toInt ∧ ((u_5.2.1 1 0) : Int32).toInt ≤ 2147483647), (w5_2 : (-2147483648) ≤ ((u_5.2.1 2 0) : Int32).toInt ∧ ((u_5.2.1 2 0) : Int32).toInt ≤ 2147483647), (show 0 ≤ (p0 : Int32).toInt ∧ (p0 : Int32).toInt < (p7 : Int32).toInt from by omega), (show ((u_5.2.1 1 0) : Int32).toInt ≠ 0 ∨ ((u_5.2.1 0 0) : Int32).toInt = 26 ∨ ((u_5.2.1 0 0) : Int32).toInt = 27 ∨ (p0 : Int32).toInt + 1 < (p7 : Int32).toInt from by omega), (show ((u_5.2.1 1 0) : Int32).toInt ≠ 0 ∨ (p0 : Int32).toInt = (p0 : Int32).toInt + 1 from by omega), (show ((u_5.2.1 1 0) : Int32).toInt ≠ 0 ∨ (p2 : Int32).toInt = 0 from by omega), (show ((u_5.2.1 1 0) : Int32).toInt = 0 ∨ ((u_5.2.1 0 0) : Int32).toInt = 27 from by omega), (show (p0 : Int32).toInt ≤ (p0 : Int32).toInt from by omega), trivial⟩ [2, 3, 0, 4, 1] rfl rfl dX5_takeNumber_45 (Nat.le_of_ble_eq_true rfl) (Nat.le_of_ble_eq_true rfl)
    · skip
      refine lv_icmp_lt (tgt := 39) hx hb dX5_takeNumber_31 (by decide) (fun c_6 => ?_) (fun c_6 => ?_)
      · replace c_6 := i_lt (x := z_2) (y := 0) rfl (show (0 : Int32).toInt = 0 by decide) c_6
        exact J_39 _ _ _ _ ⟨rfl, h, (lv_sub hl_3 [1, 2, 3, 0] rfl)⟩
      · replace c_6 := i_nlt (x := z_2) (y := 0) rfl (show (0 : Int32).toInt = 0 by decide) c_6
        refine lv_iload_n hx hb dX5_takeNumber_34 rfl (lv_at hl_3 0 rfl) ?_
        refine lv_iload_n hx hb dX5_takeNumber_35 rfl (lv_at hl_3 3 rfl) ?_
        refine lv_icmp_le (tgt := 46) hx hb dX5_takeNumber_36 (by decide) (fun c_7 => ?_) (fun c_7 => ?_)
        · replace c_7 := i_le (x := z_2) (y := 10) rfl (show (10 : Int32).toInt = 10 by decide) c_7
          refine lv_aload_n hx hb dX5_takeNumber_46 rfl (lv_at hl_3 1 rfl) ?_
          refine q_callVv (rest := []) (wr := [(h4, .inl (cy 1, 901, .inl f2))]) X hK hT hA h (fun sz => gX5_advance_9820dfe l D cy h0 h1 h2 h3 p0 p1 p2 p3 w0 w1 p4 p5 w2 p6 p7 (.ref h4) f0 f1 hp0 (i_rng _) (i_rng _) (i_rng _) hp4 (i_rng _) hp6 hp7 (hpre0) (by omega) (by omega) sz) wm_3_68 wm_3_71 wm_1_2 hd_X5_advance wm_3_70 wp_1_8 (ci := 5) (q0 := 0) rfl rfl ⟨Nat.le_of_ble_eq_true rfl, Nat.le_of_ble_eq_true rfl⟩ hl_3.1 rfl (Nat.le_of_ble_eq_true rfl) dX5_takeNumber_47 ⟨Nat.le_of_ble_eq_true rfl, Nat.le_of_ble_eq_true rfl⟩ [0, 1, 2, 3] [4] rfl rfl (by decide) rfl rfl (fun u_8 H locs w_8 h_8 => ?_)
          clear h
          obtain ⟨w8_0, w8_1, w8_2, w8_3, y8_0, y8_1, y8_2, y8_3, y8_4, y8_5, _⟩ := w_8
          replace h_8 : qW D _ _ [(h4, .inl (cy 1, 901, .inl f2)), (h0, .inr (5, [.ref h1, .int (u_8.2.1 0 0), .int (u_8.2.1 1 0), .int (u_8.2.1 2 0), .int (u_8.2.1 3 0), w0, w1, .int p4, .int p5])), (h1, .inr (8, [w2, .int p6, .int p7, .ref h2, .ref h3, .ref h4])), (h2, .inl (cy 1, 901, .inl f0)), (h3, .inl (cy 1, 901, .inl f1))] _ _ := h_8
          refine lv_iload_n hx hb dX5_takeNumber_50 rfl (lv_at hl_3 0 rfl) ?_
          exact q_iret X hr hlk hK h_8 rfl (fun _ => 0, fun k => List.getD [(fun _ => (u_8.2.1 0 0)), (fun _ => (u_8.2.1 1 0)), (fun _ => (u_8.2.1 2 0)), (fun _ => (u_8.2.1 3 0))] k (fun _ => 0), fun _ _ => 0) ⟨⟨by omega, by omega⟩, (w8_0 : (-1) ≤ ((u_8.2.1 0 0) : Int32).toInt ∧ ((u_8.2.1 0 0) : Int32).toInt ≤ 900), (w8_1 : (-2147483648) ≤ ((u_8.2.1 1 0) : Int32).toInt ∧ ((u_8.2.1 1 0) : Int32).toInt ≤ 2147483647), (w8_2 : (-2147483648) ≤ ((u_8.2.1 2 0) : Int32).toInt ∧ ((u_8.2.1 2 0) : Int32).toInt ≤ 2147483647), (w8_3 : (-2147483648) ≤ ((u_8.2.1 3 0) : Int32).toInt ∧ ((u_8.2.1 3 0) : Int32).toInt ≤ 2147483647), (show 0 ≤ ((u_8.2.1 0 0) : Int32).toInt ∧ ((u_8.2.1 0 0) : Int32).toInt < (p7 : Int32).toInt from by omega), (show ((u_8.2.1 2 0) : Int32).toInt ≠ 0 ∨ ((u_8.2.1 1 0) : Int32).toInt = 26 ∨ ((u_8.2.1 1 0) : Int32).toInt = 27 ∨ ((u_8.2.1 0 0) : Int32).toInt + 1 < (p7 : Int32).toInt from by omega), (show ((u_8.2.1 2 0) : Int32).toInt ≠ 0 ∨ ((u_8.2.1 0 0) : Int32).toInt = (p0 : Int32).toInt + 1 from by omega), (show ((u_8.2.1 2 0) : Int32).toInt ≠ 0 ∨ (p2 : Int32).toInt = 0 from by omega), (show ((u_8.2.1 2 0) : Int32).toInt = 0 ∨ ((u_8.2.1 1 0) : Int32).toInt = 27 from by omega), (show (p0 : Int32).toInt ≤ ((u_8.2.1 0 0) : Int32).toInt from by omega), trivial⟩ [1, 2, 3, 4, 0] rfl rfl dX5_takeNumber_51 (Nat.le_of_ble_eq_true rfl) (Nat.le_of_ble_eq_true rfl)
        · replace c_7 := i_nle (x := z_2) (y := 10) rfl (show (10 : Int32).toInt = 10 by decide) c_7
          exact J_39 _ _ _ _ ⟨rfl, h, (lv_sub hl_3 [1, 2, 3, 0] rfl)⟩
  · replace c_1 := i_ne (x := p1) (y := 25) rfl (show (25 : Int32).toInt = 25 by decide) c_1
    refine lv_aload_n hx hb dX5_takeNumber_9 rfl (lv_at hl 0 rfl) ?_
    refine lv_iconst (v := 2) hx hb dX5_takeNumber_10 (by decide) ?_
    refine q_callVv (rest := []) (wr := [(h2, .inl (cy 1, 901, .inl f0)), (h4, .inl (cy 1, 901, .inl f2))]) X hK hT hA h (fun sz => gX5_refuse_067fcff l D cy h0 h1 h3 p0 p1 p2 p3 w0 w1 p4 p5 w2 p6 p7 (.ref h2) (.ref h4) f1 hp0 (i_rng _) (i_rng _) (i_rng _) hp4 (i_rng _) hp6 hp7 (by omega) (by omega) (by have q0 : (2 : Int32).toInt = 2 := (by decide); omega) sz) wm_3_76 wm_3_79 wm_1_2 hd_X5_refuse wm_3_78 wp_1_10 (ci := 5) (q0 := 0) rfl rfl ⟨Nat.le_of_ble_eq_true rfl, Nat.le_of_ble_eq_true rfl⟩ hl.1 rfl (Nat.le_of_ble_eq_true rfl) dX5_takeNumber_11 ⟨Nat.le_of_ble_eq_true rfl, Nat.le_of_ble_eq_true rfl⟩ [0, 1, 3] [2, 4] rfl rfl (by decide) rfl rfl (fun u_9 H locs w_9 h_9 => ?_)
    clear h
    obtain ⟨w9_0, w9_1, w9_2, y9_0, y9_1, _⟩ := w_9
    have lq_9_1 : (2 : Int32).toInt = 2 := (by decide)
    replace h_9 : qW D _ _ [(h2, .inl (cy 1, 901, .inl f0)), (h4, .inl (cy 1, 901, .inl f2)), (h0, .inr (5, [.ref h1, .int p0, .int (u_9.2.1 0 0), .int (u_9.2.1 1 0), .int (u_9.2.1 2 0), w0, w1, .int p4, .int p5])), (h1, .inr (8, [w2, .int p6, .int p7, .ref h2, .ref h3, .ref h4])), (h3, .inl (cy 1, 901, .inl f1))] _ _ := h_9
    refine lv_iload_n hx hb dX5_takeNumber_14 rfl (lv_at hl 1 rfl) ?_
    exact q_iret X hr hlk hK h_9 rfl (fun _ => 0, fun k => List.getD [(fun _ => p0), (fun _ => (u_9.2.1 0 0)), (fun _ => (u_9.2.1 1 0)), (fun _ => (u_9.2.1 2 0))] k (fun _ => 0), fun _ _ => 0) ⟨⟨by decide +kernel, by decide +kernel⟩, (hp0 : (-1) ≤ (p0 : Int32).toInt ∧ (p0 : Int32).toInt ≤ 900), (w9_0 : (-2147483648) ≤ ((u_9.2.1 0 0) : Int32).toInt ∧ ((u_9.2.1 0 0) : Int32).toInt ≤ 2147483647), (w9_1 : (-2147483648) ≤ ((u_9.2.1 1 0) : Int32).toInt ∧ ((u_9.2.1 1 0) : Int32).toInt ≤ 2147483647), (w9_2 : (-2147483648) ≤ ((u_9.2.1 2 0) : Int32).toInt ∧ ((u_9.2.1 2 0) : Int32).toInt ≤ 2147483647), (show 0 ≤ (p0 : Int32).toInt ∧ (p0 : Int32).toInt < (p7 : Int32).toInt from by omega), (show ((u_9.2.1 1 0) : Int32).toInt ≠ 0 ∨ ((u_9.2.1 0 0) : Int32).toInt = 26 ∨ ((u_9.2.1 0 0) : Int32).toInt = 27 ∨ (p0 : Int32).toInt + 1 < (p7 : Int32).toInt from by omega), (show ((u_9.2.1 1 0) : Int32).toInt ≠ 0 ∨ (p0 : Int32).toInt = (p0 : Int32).toInt + 1 from by omega), (show ((u_9.2.1 1 0) : Int32).toInt ≠ 0 ∨ (p2 : Int32).toInt = 0 from by omega), (show ((u_9.2.1 1 0) : Int32).toInt = 0 ∨ ((u_9.2.1 0 0) : Int32).toInt = 27 from by omega), (show (p0 : Int32).toInt ≤ (p0 : Int32).toInt from by omega), trivial⟩ [2, 3, 0, 4, 1] rfl rfl dX5_takeNumber_15 (Nat.le_of_ble_eq_true rfl) (Nat.le_of_ble_eq_true rfl)
set_option maxHeartbeats 4000000 in
set_option maxRecDepth 100000 in
theorem gX5_takeNumber_bbeef74 (l : Launch) (D : va_G) (cy : Nat → ClassId) (h0 : Nat) (h1 : Nat) (h2 : Nat) (h3 : Nat) (h4 : Nat) (p0 : Int32) (p1 : Int32) (p2 : Int32) (p3 : Int32) (w0 : Value) (w1 : Value) (p4 : Int32) (p5 : Int32) (w2 : Value) (p6 : Int32) (p7 : Int32) (f0 : Nat → Int32) (f1 : Nat → Int32) (f2 : Nat → Int32) (hp0 : (-1) ≤ (p0).toInt ∧ (p0).toInt ≤ 900) (hp1 : (-2147483648) ≤ (p1).toInt ∧ (p1).toInt ≤ 2147483647) (hp2 : (-2147483648) ≤ (p2).toInt ∧ (p2).toInt ≤ 2147483647) (hp3 : (-2147483648) ≤ (p3).toInt ∧ (p3).toInt ≤ 2147483647) (hp4 : 0 ≤ (p4).toInt ∧ (p4).toInt ≤ 900) (hp5 : (-2147483648) ≤ (p5).toInt ∧ (p5).toInt ≤ 2147483647) (hp6 : 0 ≤ (p6).toInt ∧ (p6).toInt ≤ 900) (hp7 : 0 ≤ (p7).toInt ∧ (p7).toInt ≤ 901) (hpre0 : KZ f0 (p7 : Int32).toInt) (hpre1 : 0 ≤ (p0 : Int32).toInt ∧ (p0 : Int32).toInt < (p7 : Int32).toInt) (hpre2 : (p2 : Int32).toInt ≠ 0 ∨ (p1 : Int32).toInt = 26 ∨ (p1 : Int32).toInt = 27 ∨ (p0 : Int32).toInt + 1 < (p7 : Int32).toInt) (hpre3 : (p2 : Int32).toInt = 0 ∨ (p1 : Int32).toInt = 27) (sz : Nat) : MI l yX5_takeNumber cX5_takeNumber 4 .int { frames := 1, cells := 0, slots := 0, locals := 21 } [.ref h0, .int 1, .int 99] D cy [(h0, .inr (5, [.ref h1, .int p0, .int p1, .int p2, .int p3, w0, w1, .int p4, .int p5])), (h1, .inr (8, [w2, .int p6, .int p7, .ref h2, .ref h3, .ref h4])), (h2, .inl (cy 1, 901, .inl f0)), (h3, .inl (cy 1, 901, .inl f1)), (h4, .inl (cy 1, 901, .inl f2))] sz (fun r u => (1 ≤ r.toInt ∧ r.toInt ≤ 99) ∧ ((-1) ≤ (u.2.1 0 0).toInt ∧ (u.2.1 0 0).toInt ≤ 900) ∧ ((-2147483648) ≤ (u.2.1 1 0).toInt ∧ (u.2.1 1 0).toInt ≤ 2147483647) ∧ ((-2147483648) ≤ (u.2.1 2 0).toInt ∧ (u.2.1 2 0).toInt ≤ 2147483647) ∧ ((-2147483648) ≤ (u.2.1 3 0).toInt ∧ (u.2.1 3 0).toInt ≤ 2147483647) ∧ (0 ≤ ((u.2.1 0 0) : Int32).toInt ∧ ((u.2.1 0 0) : Int32).toInt < (p7 : Int32).toInt) ∧ (((u.2.1 2 0) : Int32).toInt ≠ 0 ∨ ((u.2.1 1 0) : Int32).toInt = 26 ∨ ((u.2.1 1 0) : Int32).toInt = 27 ∨ ((u.2.1 0 0) : Int32).toInt + 1 < (p7 : Int32).toInt) ∧ (((u.2.1 2 0) : Int32).toInt ≠ 0 ∨ ((u.2.1 0 0) : Int32).toInt = (p0 : Int32).toInt + 1) ∧ (((u.2.1 2 0) : Int32).toInt ≠ 0 ∨ (p2 : Int32).toInt = 0) ∧ (((u.2.1 2 0) : Int32).toInt = 0 ∨ ((u.2.1 1 0) : Int32).toInt = 27) ∧ ((p0 : Int32).toInt ≤ ((u.2.1 0 0) : Int32).toInt) ∧ True) (fun u => [(h0, .inr (5, [.ref h1, .int (u.2.1 0 0), .int (u.2.1 1 0), .int (u.2.1 2 0), .int (u.2.1 3 0), w0, w1, .int p4, .int p5])), (h1, .inr (8, [w2, .int p6, .int p7, .ref h2, .ref h3, .ref h4])), (h2, .inl (cy 1, 901, .inl f0)), (h3, .inl (cy 1, 901, .inl f1)), (h4, .inl (cy 1, 901, .inl f2))]) 0 0 := by
  refine q_ent (own := RX5) (by decide) rfl (Nat.le_of_ble_eq_true rfl) (fun p e s m below meth c ls X hr hlk hnm hK hT h hA hl => ?_)
  obtain ⟨hx, hb, hml, hown, ht⟩ := id X
  replace hl : lv_has ls 4 [(0, .ref h0), (1, .int 1), (2, .int 99)] := hl
  refine lv_aload_n hx hb dX5_takeNumber_0 rfl (lv_at hl 0 rfl) ?_
  refine q_get X hK h 0 rfl rfl wf_5 2 (by decide) rfl wm_1_146 dX5_takeNumber_1 ?_
  refine lv_bipush (v := 25) hx hb dX5_takeNumber_4 (by decide) ?_
  refine lv_icmp_eq (tgt := 16) hx hb dX5_takeNumber_6 (by decide) (fun c_1 => ?_) (fun c_1 => ?_)
  · replace c_1 := i_eq (x := p1) (y := 25) rfl (show (25 : Int32).toInt = 25 by decide) c_1
    refine lv_aload_n hx hb dX5_takeNumber_16 rfl (lv_at hl 0 rfl) ?_
    refine q_get X hK h 0 rfl rfl wf_5 0 (by decide) rfl wm_1_144 dX5_takeNumber_17 ?_
    refine q_get X hK h 1 rfl rfl wf_8 5 (by decide) rfl wm_1_52 dX5_takeNumber_20 ?_
    refine lv_aload_n hx hb dX5_takeNumber_23 rfl (lv_at hl 0 rfl) ?_
    refine q_get X hK h 0 rfl rfl wf_5 1 (by decide) rfl wm_1_145 dX5_takeNumber_24 ?_
    refine q_iald X hK h 4 rfl (i_in rfl (by omega) (by omega)) dX5_takeNumber_27 ?_
    refine q_any (fun z_2 hz_2 => ?_)
    refine lv_istore_n (lv' := [(3, .int z_2), (0, .ref h0), (1, .int 1), (2, .int 99)]) hx hb dX5_takeNumber_28 rfl hl (by decide) rfl (fun ls_3 hl_3 => ?_)
    clear hl
    refine lv_iload_n hx hb dX5_takeNumber_29 rfl (lv_at hl_3 0 rfl) ?_
    refine lv_iload_n hx hb dX5_takeNumber_30 rfl (lv_at hl_3 2 rfl) ?_
    refine q_jn (pc2 := 39) (fun H locs ls st => st = [] ∧ qW D (va_A [(h0, .inr (5, [.ref h1, .int p0, .int p1, .int p2, .int p3, w0, w1, .int p4, .int p5])), (h1, .inr (8, [w2, .int p6, .int p7, .ref h2, .ref h3, .ref h4])), (h2, .inl (cy 1, 901, .inl f0)), (h3, .inl (cy 1, 901, .inl f1)), (h4, .inl (cy 1, 901, .inl f2))] sz) s.heap [(h0, .inr (5, [.ref h1, .int p0, .int p1, .int p2, .int p3, w0, w1, .int p4, .int p5])), (h1, .inr (8, [w2, .int p6, .int p7, .ref h2, .ref h3, .ref h4])), (h2, .inl (cy 1, 901, .inl f0)), (h3, .inl (cy 1, 901, .inl f1)), (h4, .inl (cy 1, 901, .inl f2))] H locs ∧ lv_has ls 4 [(0, .ref h0), (1, .int 1), (2, .int 99), (3, .int z_2)]) (fun H locs ls st hP => ?_) (fun J_39 => ?_)
    · obtain ⟨rfl, h, hl⟩ := hP
      refine lv_aload_n hx hb dX5_takeNumber_39 rfl (lv_at hl 0 rfl) ?_
      refine lv_iconst (v := 3) hx hb dX5_takeNumber_40 (by decide) ?_
      refine q_callVv (rest := []) (wr := [(h2, .inl (cy 1, 901, .inl f0)), (h4, .inl (cy 1, 901, .inl f2))]) X hK hT hA h (fun sz => gX5_refuse_3ecba60 l D cy h0 h1 h3 p0 p1 p2 p3 w0 w1 p4 p5 w2 p6 p7 (.ref h2) (.ref h4) f1 hp0 (i_rng _) (i_rng _) (i_rng _) hp4 (i_rng _) hp6 hp7 (by omega) (by omega) (by have q0 : (3 : Int32).toInt = 3 := (by decide); omega) sz) wm_3_76 wm_3_79 wm_1_2 hd_X5_refuse wm_3_78 wp_1_10 (ci := 5) (q0 := 0) rfl rfl ⟨Nat.le_of_ble_eq_true rfl, Nat.le_of_ble_eq_true rfl⟩ hl.1 rfl (Nat.le_of_ble_eq_true rfl) dX5_takeNumber_41 ⟨Nat.le_of_ble_eq_true rfl, Nat.le_of_ble_eq_true rfl⟩ [0, 1, 3] [2, 4] rfl rfl (by decide) rfl rfl (fun u_5 H locs w_5 h_5 => ?_)
      clear h
      obtain ⟨w5_0, w5_1, w5_2, y5_0, y5_1, _⟩ := w_5
      have lq_5_1 : (3 : Int32).toInt = 3 := (by decide)
      replace h_5 : qW D _ _ [(h2, .inl (cy 1, 901, .inl f0)), (h4, .inl (cy 1, 901, .inl f2)), (h0, .inr (5, [.ref h1, .int p0, .int (u_5.2.1 0 0), .int (u_5.2.1 1 0), .int (u_5.2.1 2 0), w0, w1, .int p4, .int p5])), (h1, .inr (8, [w2, .int p6, .int p7, .ref h2, .ref h3, .ref h4])), (h3, .inl (cy 1, 901, .inl f1))] _ _ := h_5
      refine lv_iload_n hx hb dX5_takeNumber_44 rfl (lv_at hl 1 rfl) ?_
      exact q_iret X hr hlk hK h_5 rfl (fun _ => 0, fun k => List.getD [(fun _ => p0), (fun _ => (u_5.2.1 0 0)), (fun _ => (u_5.2.1 1 0)), (fun _ => (u_5.2.1 2 0))] k (fun _ => 0), fun _ _ => 0) ⟨⟨by decide +kernel, by decide +kernel⟩, (hp0 : (-1) ≤ (p0 : Int32).toInt ∧ (p0 : Int32).toInt ≤ 900), (w5_0 : (-2147483648) ≤ ((u_5.2.1 0 0) : Int32).toInt ∧ ((u_5.2.1 0 0) : Int32).toInt ≤ 2147483647), (w5_1 : (-2147483648) ≤ ((u_5.2.1 1 0) : Int32).toInt ∧ ((u_5.2.1 1 0) : Int32).toInt ≤ 2147483647), (w5_2 : (-2147483648) ≤ ((u_5.2.1 2 0) : Int32).toInt ∧ ((u_5.2.1 2 0) : Int32).toInt ≤ 2147483647), (show 0 ≤ (p0 : Int32).toInt ∧ (p0 : Int32).toInt < (p7 : Int32).toInt from by omega), (show ((u_5.2.1 1 0) : Int32).toInt ≠ 0 ∨ ((u_5.2.1 0 0) : Int32).toInt = 26 ∨ ((u_5.2.1 0 0) : Int32).toInt = 27 ∨ (p0 : Int32).toInt + 1 < (p7 : Int32).toInt from by omega), (show ((u_5.2.1 1 0) : Int32).toInt ≠ 0 ∨ (p0 : Int32).toInt = (p0 : Int32).toInt + 1 from by omega), (show ((u_5.2.1 1 0) : Int32).toInt ≠ 0 ∨ (p2 : Int32).toInt = 0 from by omega), (show ((u_5.2.1 1 0) : Int32).toInt = 0 ∨ ((u_5.2.1 0 0) : Int32).toInt = 27 from by omega), (show (p0 : Int32).toInt ≤ (p0 : Int32).toInt from by omega), trivial⟩ [2, 3, 0, 4, 1] rfl rfl dX5_takeNumber_45 (Nat.le_of_ble_eq_true rfl) (Nat.le_of_ble_eq_true rfl)
    · skip
      refine lv_icmp_lt (tgt := 39) hx hb dX5_takeNumber_31 (by decide) (fun c_6 => ?_) (fun c_6 => ?_)
      · replace c_6 := i_lt (x := z_2) (y := 1) rfl (show (1 : Int32).toInt = 1 by decide) c_6
        exact J_39 _ _ _ _ ⟨rfl, h, (lv_sub hl_3 [1, 2, 3, 0] rfl)⟩
      · replace c_6 := i_nlt (x := z_2) (y := 1) rfl (show (1 : Int32).toInt = 1 by decide) c_6
        refine lv_iload_n hx hb dX5_takeNumber_34 rfl (lv_at hl_3 0 rfl) ?_
        refine lv_iload_n hx hb dX5_takeNumber_35 rfl (lv_at hl_3 3 rfl) ?_
        refine lv_icmp_le (tgt := 46) hx hb dX5_takeNumber_36 (by decide) (fun c_7 => ?_) (fun c_7 => ?_)
        · replace c_7 := i_le (x := z_2) (y := 99) rfl (show (99 : Int32).toInt = 99 by decide) c_7
          refine lv_aload_n hx hb dX5_takeNumber_46 rfl (lv_at hl_3 1 rfl) ?_
          refine q_callVv (rest := []) (wr := [(h4, .inl (cy 1, 901, .inl f2))]) X hK hT hA h (fun sz => gX5_advance_9820dfe l D cy h0 h1 h2 h3 p0 p1 p2 p3 w0 w1 p4 p5 w2 p6 p7 (.ref h4) f0 f1 hp0 (i_rng _) (i_rng _) (i_rng _) hp4 (i_rng _) hp6 hp7 (hpre0) (by omega) (by omega) sz) wm_3_68 wm_3_71 wm_1_2 hd_X5_advance wm_3_70 wp_1_8 (ci := 5) (q0 := 0) rfl rfl ⟨Nat.le_of_ble_eq_true rfl, Nat.le_of_ble_eq_true rfl⟩ hl_3.1 rfl (Nat.le_of_ble_eq_true rfl) dX5_takeNumber_47 ⟨Nat.le_of_ble_eq_true rfl, Nat.le_of_ble_eq_true rfl⟩ [0, 1, 2, 3] [4] rfl rfl (by decide) rfl rfl (fun u_8 H locs w_8 h_8 => ?_)
          clear h
          obtain ⟨w8_0, w8_1, w8_2, w8_3, y8_0, y8_1, y8_2, y8_3, y8_4, y8_5, _⟩ := w_8
          replace h_8 : qW D _ _ [(h4, .inl (cy 1, 901, .inl f2)), (h0, .inr (5, [.ref h1, .int (u_8.2.1 0 0), .int (u_8.2.1 1 0), .int (u_8.2.1 2 0), .int (u_8.2.1 3 0), w0, w1, .int p4, .int p5])), (h1, .inr (8, [w2, .int p6, .int p7, .ref h2, .ref h3, .ref h4])), (h2, .inl (cy 1, 901, .inl f0)), (h3, .inl (cy 1, 901, .inl f1))] _ _ := h_8
          refine lv_iload_n hx hb dX5_takeNumber_50 rfl (lv_at hl_3 0 rfl) ?_
          exact q_iret X hr hlk hK h_8 rfl (fun _ => 0, fun k => List.getD [(fun _ => (u_8.2.1 0 0)), (fun _ => (u_8.2.1 1 0)), (fun _ => (u_8.2.1 2 0)), (fun _ => (u_8.2.1 3 0))] k (fun _ => 0), fun _ _ => 0) ⟨⟨by omega, by omega⟩, (w8_0 : (-1) ≤ ((u_8.2.1 0 0) : Int32).toInt ∧ ((u_8.2.1 0 0) : Int32).toInt ≤ 900), (w8_1 : (-2147483648) ≤ ((u_8.2.1 1 0) : Int32).toInt ∧ ((u_8.2.1 1 0) : Int32).toInt ≤ 2147483647), (w8_2 : (-2147483648) ≤ ((u_8.2.1 2 0) : Int32).toInt ∧ ((u_8.2.1 2 0) : Int32).toInt ≤ 2147483647), (w8_3 : (-2147483648) ≤ ((u_8.2.1 3 0) : Int32).toInt ∧ ((u_8.2.1 3 0) : Int32).toInt ≤ 2147483647), (show 0 ≤ ((u_8.2.1 0 0) : Int32).toInt ∧ ((u_8.2.1 0 0) : Int32).toInt < (p7 : Int32).toInt from by omega), (show ((u_8.2.1 2 0) : Int32).toInt ≠ 0 ∨ ((u_8.2.1 1 0) : Int32).toInt = 26 ∨ ((u_8.2.1 1 0) : Int32).toInt = 27 ∨ ((u_8.2.1 0 0) : Int32).toInt + 1 < (p7 : Int32).toInt from by omega), (show ((u_8.2.1 2 0) : Int32).toInt ≠ 0 ∨ ((u_8.2.1 0 0) : Int32).toInt = (p0 : Int32).toInt + 1 from by omega), (show ((u_8.2.1 2 0) : Int32).toInt ≠ 0 ∨ (p2 : Int32).toInt = 0 from by omega), (show ((u_8.2.1 2 0) : Int32).toInt = 0 ∨ ((u_8.2.1 1 0) : Int32).toInt = 27 from by omega), (show (p0 : Int32).toInt ≤ ((u_8.2.1 0 0) : Int32).toInt from by omega), trivial⟩ [1, 2, 3, 4, 0] rfl rfl dX5_takeNumber_51 (Nat.le_of_ble_eq_true rfl) (Nat.le_of_ble_eq_true rfl)
        · replace c_7 := i_nle (x := z_2) (y := 99) rfl (show (99 : Int32).toInt = 99 by decide) c_7
          exact J_39 _ _ _ _ ⟨rfl, h, (lv_sub hl_3 [1, 2, 3, 0] rfl)⟩
  · replace c_1 := i_ne (x := p1) (y := 25) rfl (show (25 : Int32).toInt = 25 by decide) c_1
    refine lv_aload_n hx hb dX5_takeNumber_9 rfl (lv_at hl 0 rfl) ?_
    refine lv_iconst (v := 2) hx hb dX5_takeNumber_10 (by decide) ?_
    refine q_callVv (rest := []) (wr := [(h2, .inl (cy 1, 901, .inl f0)), (h4, .inl (cy 1, 901, .inl f2))]) X hK hT hA h (fun sz => gX5_refuse_067fcff l D cy h0 h1 h3 p0 p1 p2 p3 w0 w1 p4 p5 w2 p6 p7 (.ref h2) (.ref h4) f1 hp0 (i_rng _) (i_rng _) (i_rng _) hp4 (i_rng _) hp6 hp7 (by omega) (by omega) (by have q0 : (2 : Int32).toInt = 2 := (by decide); omega) sz) wm_3_76 wm_3_79 wm_1_2 hd_X5_refuse wm_3_78 wp_1_10 (ci := 5) (q0 := 0) rfl rfl ⟨Nat.le_of_ble_eq_true rfl, Nat.le_of_ble_eq_true rfl⟩ hl.1 rfl (Nat.le_of_ble_eq_true rfl) dX5_takeNumber_11 ⟨Nat.le_of_ble_eq_true rfl, Nat.le_of_ble_eq_true rfl⟩ [0, 1, 3] [2, 4] rfl rfl (by decide) rfl rfl (fun u_9 H locs w_9 h_9 => ?_)
    clear h
    obtain ⟨w9_0, w9_1, w9_2, y9_0, y9_1, _⟩ := w_9
    have lq_9_1 : (2 : Int32).toInt = 2 := (by decide)
    replace h_9 : qW D _ _ [(h2, .inl (cy 1, 901, .inl f0)), (h4, .inl (cy 1, 901, .inl f2)), (h0, .inr (5, [.ref h1, .int p0, .int (u_9.2.1 0 0), .int (u_9.2.1 1 0), .int (u_9.2.1 2 0), w0, w1, .int p4, .int p5])), (h1, .inr (8, [w2, .int p6, .int p7, .ref h2, .ref h3, .ref h4])), (h3, .inl (cy 1, 901, .inl f1))] _ _ := h_9
    refine lv_iload_n hx hb dX5_takeNumber_14 rfl (lv_at hl 1 rfl) ?_
    exact q_iret X hr hlk hK h_9 rfl (fun _ => 0, fun k => List.getD [(fun _ => p0), (fun _ => (u_9.2.1 0 0)), (fun _ => (u_9.2.1 1 0)), (fun _ => (u_9.2.1 2 0))] k (fun _ => 0), fun _ _ => 0) ⟨⟨by decide +kernel, by decide +kernel⟩, (hp0 : (-1) ≤ (p0 : Int32).toInt ∧ (p0 : Int32).toInt ≤ 900), (w9_0 : (-2147483648) ≤ ((u_9.2.1 0 0) : Int32).toInt ∧ ((u_9.2.1 0 0) : Int32).toInt ≤ 2147483647), (w9_1 : (-2147483648) ≤ ((u_9.2.1 1 0) : Int32).toInt ∧ ((u_9.2.1 1 0) : Int32).toInt ≤ 2147483647), (w9_2 : (-2147483648) ≤ ((u_9.2.1 2 0) : Int32).toInt ∧ ((u_9.2.1 2 0) : Int32).toInt ≤ 2147483647), (show 0 ≤ (p0 : Int32).toInt ∧ (p0 : Int32).toInt < (p7 : Int32).toInt from by omega), (show ((u_9.2.1 1 0) : Int32).toInt ≠ 0 ∨ ((u_9.2.1 0 0) : Int32).toInt = 26 ∨ ((u_9.2.1 0 0) : Int32).toInt = 27 ∨ (p0 : Int32).toInt + 1 < (p7 : Int32).toInt from by omega), (show ((u_9.2.1 1 0) : Int32).toInt ≠ 0 ∨ (p0 : Int32).toInt = (p0 : Int32).toInt + 1 from by omega), (show ((u_9.2.1 1 0) : Int32).toInt ≠ 0 ∨ (p2 : Int32).toInt = 0 from by omega), (show ((u_9.2.1 1 0) : Int32).toInt = 0 ∨ ((u_9.2.1 0 0) : Int32).toInt = 27 from by omega), (show (p0 : Int32).toInt ≤ (p0 : Int32).toInt from by omega), trivial⟩ [2, 3, 0, 4, 1] rfl rfl dX5_takeNumber_15 (Nat.le_of_ble_eq_true rfl) (Nat.le_of_ble_eq_true rfl)
set_option maxHeartbeats 4000000 in
set_option maxRecDepth 100000 in
theorem gX5_readFlag_07ebe04 (l : Launch) (D : va_G) (cy : Nat → ClassId) (h0 : Nat) (h1 : Nat) (h2 : Nat) (h3 : Nat) (h4 : Nat) (h5 : Nat) (h6 : Nat) (h7 : Nat) (h8 : Nat) (h9 : Nat) (p0 : Int32) (p1 : Int32) (p2 : Int32) (p3 : Int32) (p4 : Int32) (w0 : Value) (p5 : Int32) (p6 : Int32) (w1 : Value) (p7 : Int32) (p8 : Int32) (f0 : Nat → Int32) (f1 : Nat → Int32) (f2 : Nat → Int32) (p9 : Int32) (p10 : Int32) (p11 : Int32) (p12 : Int32) (w2 : Value) (w3 : Value) (w4 : Value) (w5 : Value) (f3 : Nat → Int32) (f4 : Nat → Int32) (f5 : Nat → Int32) (f6 : Nat → Int32) (hp0 : 0 ≤ (p0).toInt ∧ (p0).toInt ≤ 9) (hp1 : (-1) ≤ (p1).toInt ∧ (p1).toInt ≤ 900) (hp2 : (-2147483648) ≤ (p2).toInt ∧ (p2).toInt ≤ 2147483647) (hp3 : (-2147483648) ≤ (p3).toInt ∧ (p3).toInt ≤ 2147483647) (hp4 : (-2147483648) ≤ (p4).toInt ∧ (p4).toInt ≤ 2147483647) (hp5 : 0 ≤ (p5).toInt ∧ (p5).toInt ≤ 900) (hp6 : (-2147483648) ≤ (p6).toInt ∧ (p6).toInt ≤ 2147483647) (hp7 : 0 ≤ (p7).toInt ∧ (p7).toInt ≤ 900) (hp8 : 0 ≤ (p8).toInt ∧ (p8).toInt ≤ 901) (hp9 : 1 ≤ (p9).toInt ∧ (p9).toInt ≤ 3) (hp10 : 0 ≤ (p10).toInt ∧ (p10).toInt ≤ 10) (hp11 : (-2147483648) ≤ (p11).toInt ∧ (p11).toInt ≤ 2147483647) (hp12 : (-2147483648) ≤ (p12).toInt ∧ (p12).toInt ≤ 2147483647) (hpre0 : KZ f0 (p8 : Int32).toInt) (hpre1 : 0 ≤ (p1 : Int32).toInt ∧ (p1 : Int32).toInt < (p8 : Int32).toInt) (hpre2 : (p3 : Int32).toInt ≠ 0 ∨ (p2 : Int32).toInt = 26 ∨ (p2 : Int32).toInt = 27 ∨ (p1 : Int32).toInt + 1 < (p8 : Int32).toInt) (hpre3 : (p3 : Int32).toInt = 0 ∨ (p2 : Int32).toInt = 27) (sz : Nat) : MI l yX5_readFlag cX5_readFlag 2 .boolean { frames := 2, cells := 0, slots := 0, locals := 44 } [.ref h0, .int p0] D cy [(h0, .inr (5, [.ref h1, .int p1, .int p2, .int p3, .int p4, .ref h5, w0, .int p5, .int p6])), (h1, .inr (8, [w1, .int p7, .int p8, .ref h2, .ref h3, .ref h4])), (h2, .inl (cy 1, 901, .inl f0)), (h3, .inl (cy 1, 901, .inl f1)), (h4, .inl (cy 1, 901, .inl f2)), (h5, .inr (3, [.int p9, .int p10, .int p11, .int p12, w2, w3, w4, w5, .ref h6, .ref h7, .ref h8, .ref h9])), (h6, .inl (cy 1, 10, .inl f3)), (h7, .inl (cy 1, 10, .inl f4)), (h8, .inl (cy 1, 10, .inl f5)), (h9, .inl (cy 1, 10, .inl f6))] sz (fun r u => (0 ≤ r.toInt ∧ r.toInt ≤ 1) ∧ ((-1) ≤ (u.2.1 2 0).toInt ∧ (u.2.1 2 0).toInt ≤ 900) ∧ ((-2147483648) ≤ (u.2.1 3 0).toInt ∧ (u.2.1 3 0).toInt ≤ 2147483647) ∧ ((-2147483648) ≤ (u.2.1 4 0).toInt ∧ (u.2.1 4 0).toInt ≤ 2147483647) ∧ ((-2147483648) ≤ (u.2.1 5 0).toInt ∧ (u.2.1 5 0).toInt ≤ 2147483647) ∧ (0 ≤ ((u.2.1 2 0) : Int32).toInt ∧ ((u.2.1 2 0) : Int32).toInt < (p8 : Int32).toInt) ∧ (((u.2.1 4 0) : Int32).toInt ≠ 0 ∨ ((u.2.1 3 0) : Int32).toInt = 26 ∨ ((u.2.1 3 0) : Int32).toInt = 27 ∨ ((u.2.1 2 0) : Int32).toInt + 1 < (p8 : Int32).toInt) ∧ (((u.2.1 4 0) : Int32).toInt = 0 ∨ ((u.2.1 3 0) : Int32).toInt = 27) ∧ (((u.2.1 4 0) : Int32).toInt ≠ 0 ∨ (p3 : Int32).toInt = 0) ∧ ((p1 : Int32).toInt ≤ ((u.2.1 2 0) : Int32).toInt) ∧ True) (fun u => [(h0, .inr (5, [.ref h1, .int (u.2.1 2 0), .int (u.2.1 3 0), .int (u.2.1 4 0), .int (u.2.1 5 0), .ref h5, w0, .int p5, .int p6])), (h1, .inr (8, [w1, .int p7, .int p8, .ref h2, .ref h3, .ref h4])), (h2, .inl (cy 1, 901, .inl f0)), (h3, .inl (cy 1, 901, .inl f1)), (h4, .inl (cy 1, 901, .inl f2)), (h5, .inr (3, [.int p9, .int p10, .int p11, .int p12, w2, w3, w4, w5, .ref h6, .ref h7, .ref h8, .ref h9])), (h6, .inl (cy 1, 10, .inl (u.2.1 0))), (h7, .inl (cy 1, 10, .inl (u.2.1 1))), (h8, .inl (cy 1, 10, .inl (u.2.1 6))), (h9, .inl (cy 1, 10, .inl (u.2.1 7)))]) 0 0 := by
  refine q_ent (own := RX5) (by decide) rfl (Nat.le_of_ble_eq_true rfl) (fun p e s m below meth c ls X hr hlk hnm hK hT h hA hl => ?_)
  obtain ⟨hx, hb, hml, hown, ht⟩ := id X
  replace hl : lv_has ls 2 [(0, .ref h0), (1, .int p0)] := hl
  refine lv_aload_n hx hb dX5_readFlag_0 rfl (lv_at hl 0 rfl) ?_
  refine q_get X hK h 0 rfl rfl wf_5 2 (by decide) rfl wm_1_146 dX5_readFlag_1 ?_
  by_cases c_1 : p2 = 14
  · have ec_1 : (p2).toInt = 14 := by rw [c_1]; decide
    refine lv_tableIn (off := 32) (tgt := 36) hx hb dX5_readFlag_4 (by rw [c_1]; decide +kernel) (by rw [c_1]; decide +kernel) (by rw [c_1]; decide +kernel) (by decide) ?_
    refine lv_aload_n hx hb dX5_readFlag_36 rfl (lv_at hl 0 rfl) ?_
    refine q_callVv (rest := []) (wr := [(h4, .inl (cy 1, 901, .inl f2)), (h5, .inr (3, [.int p9, .int p10, .int p11, .int p12, w2, w3, w4, w5, .ref h6, .ref h7, .ref h8, .ref h9])), (h6, .inl (cy 1, 10, .inl f3)), (h7, .inl (cy 1, 10, .inl f4)), (h8, .inl (cy 1, 10, .inl f5)), (h9, .inl (cy 1, 10, .inl f6))]) X hK hT hA h (fun sz => gX5_advance_9820dfe l D cy h0 h1 h2 h3 p1 p2 p3 p4 (.ref h5) w0 p5 p6 w1 p7 p8 (.ref h4) f0 f1 hp1 (i_rng _) (i_rng _) (i_rng _) hp5 (i_rng _) hp7 hp8 (hpre0) (by omega) (by omega) sz) wm_3_68 wm_3_71 wm_1_2 hd_X5_advance wm_3_70 wp_1_8 (ci := 5) (q0 := 0) rfl rfl ⟨Nat.le_of_ble_eq_true rfl, Nat.le_of_ble_eq_true rfl⟩ hl.1 rfl (Nat.le_of_ble_eq_true rfl) dX5_readFlag_37 ⟨Nat.le_of_ble_eq_true rfl, Nat.le_of_ble_eq_true rfl⟩ [0, 1, 2, 3] [4, 5, 6, 7, 8, 9] rfl rfl (by decide) rfl rfl (fun u_2 H locs w_2 h_2 => ?_)
    clear h
    obtain ⟨w2_0, w2_1, w2_2, w2_3, y2_0, y2_1, y2_2, y2_3, y2_4, y2_5, _⟩ := w_2
    replace h_2 : qW D _ _ [(h4, .inl (cy 1, 901, .inl f2)), (h5, .inr (3, [.int p9, .int p10, .int p11, .int p12, w2, w3, w4, w5, .ref h6, .ref h7, .ref h8, .ref h9])), (h6, .inl (cy 1, 10, .inl f3)), (h7, .inl (cy 1, 10, .inl f4)), (h8, .inl (cy 1, 10, .inl f5)), (h9, .inl (cy 1, 10, .inl f6)), (h0, .inr (5, [.ref h1, .int (u_2.2.1 0 0), .int (u_2.2.1 1 0), .int (u_2.2.1 2 0), .int (u_2.2.1 3 0), .ref h5, w0, .int p5, .int p6])), (h1, .inr (8, [w1, .int p7, .int p8, .ref h2, .ref h3, .ref h4])), (h2, .inl (cy 1, 901, .inl f0)), (h3, .inl (cy 1, 901, .inl f1))] _ _ := h_2
    refine lv_aload_n hx hb dX5_readFlag_40 rfl (lv_at hl 0 rfl) ?_
    refine q_get X hK h_2 6 rfl rfl wf_5 5 (by decide) rfl wm_1_151 dX5_readFlag_41 ?_
    refine q_get X hK h_2 1 rfl rfl wf_3 8 (by decide) rfl wm_1_108 dX5_readFlag_44 ?_
    refine lv_iload_n hx hb dX5_readFlag_47 rfl (lv_at hl 1 rfl) ?_
    refine lv_aload_n hx hb dX5_readFlag_48 rfl (lv_at hl 0 rfl) ?_
    refine lv_iconst (v := 0) hx hb dX5_readFlag_49 (by decide) ?_
    refine lv_sipush (v := 999) hx hb dX5_readFlag_50 (by decide) ?_
    refine q_callVi (rest := [.int p0, .ref h6]) (wr := [(h5, .inr (3, [.int p9, .int p10, .int p11, .int p12, w2, w3, w4, w5, .ref h6, .ref h7, .ref h8, .ref h9])), (h6, .inl (cy 1, 10, .inl f3)), (h7, .inl (cy 1, 10, .inl f4)), (h8, .inl (cy 1, 10, .inl f5)), (h9, .inl (cy 1, 10, .inl f6))]) X hK hT hA h_2 (fun sz => gX5_takeNumber_7db443e l D cy h0 h1 h2 h3 h4 (u_2.2.1 0 0) (u_2.2.1 1 0) (u_2.2.1 2 0) (u_2.2.1 3 0) (.ref h5) w0 p5 p6 w1 p7 p8 f0 f1 f2 w2_0 (i_rng _) (i_rng _) (i_rng _) hp5 (i_rng _) hp7 hp8 (hpre0) (by omega) (by omega) (by omega) sz) wm_3_80 wm_3_83 wm_1_2 hd_X5_takeNumber wm_3_82 wp_1_11 (ci := 5) (q0 := 0) rfl rfl ⟨Nat.le_of_ble_eq_true rfl, Nat.le_of_ble_eq_true rfl⟩ hl.1 rfl (Nat.le_of_ble_eq_true rfl) dX5_readFlag_53 ⟨Nat.le_of_ble_eq_true rfl, Nat.le_of_ble_eq_true rfl⟩ [6, 7, 8, 9, 0] [1, 2, 3, 4, 5] rfl rfl (by decide) rfl rfl (fun r_3 u_3 H locs w_3 h_3 => ?_)
    clear h_2
    obtain ⟨wr_3, w3_0, w3_1, w3_2, w3_3, y3_0, y3_1, y3_2, y3_3, y3_4, y3_5, _⟩ := w_3
    have lq_3_1 : (0 : Int32).toInt = 0 := (by decide)
    have lq_3_2 : (999 : Int32).toInt = 999 := (by decide)
    replace h_3 : qW D _ _ [(h5, .inr (3, [.int p9, .int p10, .int p11, .int p12, w2, w3, w4, w5, .ref h6, .ref h7, .ref h8, .ref h9])), (h6, .inl (cy 1, 10, .inl f3)), (h7, .inl (cy 1, 10, .inl f4)), (h8, .inl (cy 1, 10, .inl f5)), (h9, .inl (cy 1, 10, .inl f6)), (h0, .inr (5, [.ref h1, .int (u_3.2.1 0 0), .int (u_3.2.1 1 0), .int (u_3.2.1 2 0), .int (u_3.2.1 3 0), .ref h5, w0, .int p5, .int p6])), (h1, .inr (8, [w1, .int p7, .int p8, .ref h2, .ref h3, .ref h4])), (h2, .inl (cy 1, 901, .inl f0)), (h3, .inl (cy 1, 901, .inl f1)), (h4, .inl (cy 1, 901, .inl f2))] _ _ := h_3
    refine q_iast X hK h_3 1 rfl (i_in rfl (by omega) (by omega)) dX5_readFlag_56 (fun H locs h_5 => ?_)
    clear h_3
    replace h_5 : qW D _ _ [(h5, .inr (3, [.int p9, .int p10, .int p11, .int p12, w2, w3, w4, w5, .ref h6, .ref h7, .ref h8, .ref h9])), (h6, .inl (cy 1, 10, .inl (upd f3 (Int32.toNatClampNeg p0) r_3))), (h7, .inl (cy 1, 10, .inl f4)), (h8, .inl (cy 1, 10, .inl f5)), (h9, .inl (cy 1, 10, .inl f6)), (h0, .inr (5, [.ref h1, .int (u_3.2.1 0 0), .int (u_3.2.1 1 0), .int (u_3.2.1 2 0), .int (u_3.2.1 3 0), .ref h5, w0, .int p5, .int p6])), (h1, .inr (8, [w1, .int p7, .int p8, .ref h2, .ref h3, .ref h4])), (h2, .inl (cy 1, 901, .inl f0)), (h3, .inl (cy 1, 901, .inl f1)), (h4, .inl (cy 1, 901, .inl f2))] _ _ := h_5
    obtain ⟨F_4, eF_4⟩ : ∃ z, (upd f3 (Int32.toNatClampNeg p0) r_3) = z := ⟨_, rfl⟩
    rw [eF_4] at h_5
    clear eF_4
    refine lv_aload_n hx hb dX5_readFlag_57 rfl (lv_at hl 0 rfl) ?_
    refine lv_bipush (v := 15) hx hb dX5_readFlag_58 (by decide) ?_
    refine q_callVv (rest := []) (wr := [(h5, .inr (3, [.int p9, .int p10, .int p11, .int p12, w2, w3, w4, w5, .ref h6, .ref h7, .ref h8, .ref h9])), (h6, .inl (cy 1, 10, .inl F_4)), (h7, .inl (cy 1, 10, .inl f4)), (h8, .inl (cy 1, 10, .inl f5)), (h9, .inl (cy 1, 10, .inl f6)), (h4, .inl (cy 1, 901, .inl f2))]) X hK hT hA h_5 (fun sz => gX5_take_4548c15 l D cy h0 h1 h2 h3 (u_3.2.1 0 0) (u_3.2.1 1 0) (u_3.2.1 2 0) (u_3.2.1 3 0) (.ref h5) w0 p5 p6 w1 p7 p8 (.ref h4) f0 f1 w3_0 (i_rng _) (i_rng _) (i_rng _) hp5 (i_rng _) hp7 hp8 (hpre0) (by omega) (by omega) (by omega) (by have q0 : (15 : Int32).toInt = 15 := (by decide); omega) sz) wm_3_72 wm_3_75 wm_1_2 hd_X5_take wm_3_74 wp_1_9 (ci := 5) (q0 := 0) rfl rfl ⟨Nat.le_of_ble_eq_true rfl, Nat.le_of_ble_eq_true rfl⟩ hl.1 rfl (Nat.le_of_ble_eq_true rfl) dX5_readFlag_60 ⟨Nat.le_of_ble_eq_true rfl, Nat.le_of_ble_eq_true rfl⟩ [5, 6, 7, 8] [0, 1, 2, 3, 4, 9] rfl rfl (by decide) rfl rfl (fun u_6 H locs w_6 h_6 => ?_)
    clear h_5
    obtain ⟨w6_0, w6_1, w6_2, w6_3, y6_0, y6_1, y6_2, y6_3, y6_4, y6_5, _⟩ := w_6
    have lq_6_1 : (15 : Int32).toInt = 15 := (by decide)
    replace h_6 : qW D _ _ [(h5, .inr (3, [.int p9, .int p10, .int p11, .int p12, w2, w3, w4, w5, .ref h6, .ref h7, .ref h8, .ref h9])), (h6, .inl (cy 1, 10, .inl F_4)), (h7, .inl (cy 1, 10, .inl f4)), (h8, .inl (cy 1, 10, .inl f5)), (h9, .inl (cy 1, 10, .inl f6)), (h4, .inl (cy 1, 901, .inl f2)), (h0, .inr (5, [.ref h1, .int (u_6.2.1 3 0), .int (u_6.2.1 0 0), .int (u_6.2.1 1 0), .int (u_6.2.1 2 0), .ref h5, w0, .int p5, .int p6])), (h1, .inr (8, [w1, .int p7, .int p8, .ref h2, .ref h3, .ref h4])), (h2, .inl (cy 1, 901, .inl f0)), (h3, .inl (cy 1, 901, .inl f1))] _ _ := h_6
    refine lv_aload_n hx hb dX5_readFlag_63 rfl (lv_at hl 0 rfl) ?_
    refine q_get X hK h_6 6 rfl rfl wf_5 5 (by decide) rfl wm_1_151 dX5_readFlag_64 ?_
    refine q_get X hK h_6 0 rfl rfl wf_3 9 (by decide) rfl wm_1_112 dX5_readFlag_67 ?_
    refine lv_iload_n hx hb dX5_readFlag_70 rfl (lv_at hl 1 rfl) ?_
    refine lv_aload_n hx hb dX5_readFlag_71 rfl (lv_at hl 0 rfl) ?_
    refine lv_aload_n hx hb dX5_readFlag_72 rfl (lv_at hl 0 rfl) ?_
    refine q_get X hK h_6 6 rfl rfl wf_5 5 (by decide) rfl wm_1_151 dX5_readFlag_73 ?_
    refine q_get X hK h_6 0 rfl rfl wf_3 8 (by decide) rfl wm_1_108 dX5_readFlag_76 ?_
    refine lv_iload_n hx hb dX5_readFlag_79 rfl (lv_at hl 1 rfl) ?_
    refine q_iald X hK h_6 1 rfl (i_in rfl (by omega) (by omega)) dX5_readFlag_80 ?_
    refine q_any (fun z_7 hz_7 => ?_)
    refine lv_sipush (v := 999) hx hb dX5_readFlag_81 (by decide) ?_
    refine q_callVi (rest := [.int p0, .ref h7]) (wr := [(h5, .inr (3, [.int p9, .int p10, .int p11, .int p12, w2, w3, w4, w5, .ref h6, .ref h7, .ref h8, .ref h9])), (h6, .inl (cy 1, 10, .inl F_4)), (h7, .inl (cy 1, 10, .inl f4)), (h8, .inl (cy 1, 10, .inl f5)), (h9, .inl (cy 1, 10, .inl f6))]) X hK hT hA h_6 (fun sz => gX5_takeNumber_f1ade24 l D cy h0 h1 h2 h3 h4 z_7 (u_6.2.1 3 0) (u_6.2.1 0 0) (u_6.2.1 1 0) (u_6.2.1 2 0) (.ref h5) w0 p5 p6 w1 p7 p8 f0 f1 f2 (i_rng _) w6_3 (i_rng _) (i_rng _) (i_rng _) hp5 (i_rng _) hp7 hp8 (hpre0) (by omega) (by omega) (by omega) sz) wm_3_80 wm_3_83 wm_1_2 hd_X5_takeNumber wm_3_82 wp_1_11 (ci := 5) (q0 := 0) rfl rfl ⟨Nat.le_of_ble_eq_true rfl, Nat.le_of_ble_eq_true rfl⟩ hl.1 rfl (Nat.le_of_ble_eq_true rfl) dX5_readFlag_84 ⟨Nat.le_of_ble_eq_true rfl, Nat.le_of_ble_eq_true rfl⟩ [6, 7, 8, 9, 5] [0, 1, 2, 3, 4] rfl rfl (by decide) rfl rfl (fun r_8 u_8 H locs w_8 h_8 => ?_)
    clear h_6
    obtain ⟨wr_8, w8_0, w8_1, w8_2, w8_3, y8_0, y8_1, y8_2, y8_3, y8_4, y8_5, _⟩ := w_8
    have lq_8_2 : (999 : Int32).toInt = 999 := (by decide)
    replace h_8 : qW D _ _ [(h5, .inr (3, [.int p9, .int p10, .int p11, .int p12, w2, w3, w4, w5, .ref h6, .ref h7, .ref h8, .ref h9])), (h6, .inl (cy 1, 10, .inl F_4)), (h7, .inl (cy 1, 10, .inl f4)), (h8, .inl (cy 1, 10, .inl f5)), (h9, .inl (cy 1, 10, .inl f6)), (h0, .inr (5, [.ref h1, .int (u_8.2.1 0 0), .int (u_8.2.1 1 0), .int (u_8.2.1 2 0), .int (u_8.2.1 3 0), .ref h5, w0, .int p5, .int p6])), (h1, .inr (8, [w1, .int p7, .int p8, .ref h2, .ref h3, .ref h4])), (h2, .inl (cy 1, 901, .inl f0)), (h3, .inl (cy 1, 901, .inl f1)), (h4, .inl (cy 1, 901, .inl f2))] _ _ := h_8
    refine q_iast X hK h_8 2 rfl (i_in rfl (by omega) (by omega)) dX5_readFlag_87 (fun H locs h_10 => ?_)
    clear h_8
    replace h_10 : qW D _ _ [(h5, .inr (3, [.int p9, .int p10, .int p11, .int p12, w2, w3, w4, w5, .ref h6, .ref h7, .ref h8, .ref h9])), (h6, .inl (cy 1, 10, .inl F_4)), (h7, .inl (cy 1, 10, .inl (upd f4 (Int32.toNatClampNeg p0) r_8))), (h8, .inl (cy 1, 10, .inl f5)), (h9, .inl (cy 1, 10, .inl f6)), (h0, .inr (5, [.ref h1, .int (u_8.2.1 0 0), .int (u_8.2.1 1 0), .int (u_8.2.1 2 0), .int (u_8.2.1 3 0), .ref h5, w0, .int p5, .int p6])), (h1, .inr (8, [w1, .int p7, .int p8, .ref h2, .ref h3, .ref h4])), (h2, .inl (cy 1, 901, .inl f0)), (h3, .inl (cy 1, 901, .inl f1)), (h4, .inl (cy 1, 901, .inl f2))] _ _ := h_10
    obtain ⟨F_9, eF_9⟩ : ∃ z, (upd f4 (Int32.toNatClampNeg p0) r_8) = z := ⟨_, rfl⟩
    rw [eF_9] at h_10
    clear eF_9
    refine lv_iconst (v := 1) hx hb dX5_readFlag_88 (by decide) ?_
    exact q_iret X hr hlk hK h_10 rfl (fun _ => 0, fun k => List.getD [F_4, F_9, (fun _ => (u_8.2.1 0 0)), (fun _ => (u_8.2.1 1 0)), (fun _ => (u_8.2.1 2 0)), (fun _ => (u_8.2.1 3 0)), f5, f6] k (fun _ => 0), fun _ _ => 0) ⟨⟨by decide +kernel, by decide +kernel⟩, (w8_0 : (-1) ≤ ((u_8.2.1 0 0) : Int32).toInt ∧ ((u_8.2.1 0 0) : Int32).toInt ≤ 900), (w8_1 : (-2147483648) ≤ ((u_8.2.1 1 0) : Int32).toInt ∧ ((u_8.2.1 1 0) : Int32).toInt ≤ 2147483647), (w8_2 : (-2147483648) ≤ ((u_8.2.1 2 0) : Int32).toInt ∧ ((u_8.2.1 2 0) : Int32).toInt ≤ 2147483647), (w8_3 : (-2147483648) ≤ ((u_8.2.1 3 0) : Int32).toInt ∧ ((u_8.2.1 3 0) : Int32).toInt ≤ 2147483647), (show 0 ≤ ((u_8.2.1 0 0) : Int32).toInt ∧ ((u_8.2.1 0 0) : Int32).toInt < (p8 : Int32).toInt from by omega), (show ((u_8.2.1 2 0) : Int32).toInt ≠ 0 ∨ ((u_8.2.1 1 0) : Int32).toInt = 26 ∨ ((u_8.2.1 1 0) : Int32).toInt = 27 ∨ ((u_8.2.1 0 0) : Int32).toInt + 1 < (p8 : Int32).toInt from by omega), (show ((u_8.2.1 2 0) : Int32).toInt = 0 ∨ ((u_8.2.1 1 0) : Int32).toInt = 27 from by omega), (show ((u_8.2.1 2 0) : Int32).toInt ≠ 0 ∨ (p3 : Int32).toInt = 0 from by omega), (show (p1 : Int32).toInt ≤ ((u_8.2.1 0 0) : Int32).toInt from by omega), trivial⟩ [5, 6, 7, 8, 9, 0, 1, 2, 3, 4] rfl rfl dX5_readFlag_89 (Nat.le_of_ble_eq_true rfl) (Nat.le_of_ble_eq_true rfl)
  by_cases c_11 : p2 = 15
  · have ec_11 : (p2).toInt = 15 := by rw [c_11]; decide
    refine lv_tableIn (off := 130) (tgt := 134) hx hb dX5_readFlag_4 (by rw [c_11]; decide +kernel) (by rw [c_11]; decide +kernel) (by rw [c_11]; decide +kernel) (by decide) ?_
    refine lv_iconst (v := 0) hx hb dX5_readFlag_134 (by decide) ?_
    exact q_iret X hr hlk hK h rfl (fun _ => 0, fun k => List.getD [f3, f4, (fun _ => p1), (fun _ => p2), (fun _ => p3), (fun _ => p4), f5, f6] k (fun _ => 0), fun _ _ => 0) ⟨⟨by decide +kernel, by decide +kernel⟩, (hp1 : (-1) ≤ (p1 : Int32).toInt ∧ (p1 : Int32).toInt ≤ 900), (hp2 : (-2147483648) ≤ (p2 : Int32).toInt ∧ (p2 : Int32).toInt ≤ 2147483647), (hp3 : (-2147483648) ≤ (p3 : Int32).toInt ∧ (p3 : Int32).toInt ≤ 2147483647), (hp4 : (-2147483648) ≤ (p4 : Int32).toInt ∧ (p4 : Int32).toInt ≤ 2147483647), (show 0 ≤ (p1 : Int32).toInt ∧ (p1 : Int32).toInt < (p8 : Int32).toInt from by omega), (show (p3 : Int32).toInt ≠ 0 ∨ (p2 : Int32).toInt = 26 ∨ (p2 : Int32).toInt = 27 ∨ (p1 : Int32).toInt + 1 < (p8 : Int32).toInt from by omega), (show (p3 : Int32).toInt = 0 ∨ (p2 : Int32).toInt = 27 from by omega), (show (p3 : Int32).toInt ≠ 0 ∨ (p3 : Int32).toInt = 0 from by omega), (show (p1 : Int32).toInt ≤ (p1 : Int32).toInt from by omega), trivial⟩ [0, 1, 2, 3, 4, 5, 6, 7, 8, 9] rfl rfl dX5_readFlag_135 (Nat.le_of_ble_eq_true rfl) (Nat.le_of_ble_eq_true rfl)
  by_cases c_12 : p2 = 16
  · have ec_12 : (p2).toInt = 16 := by rw [c_12]; decide
    refine lv_tableIn (off := 86) (tgt := 90) hx hb dX5_readFlag_4 (by rw [c_12]; decide +kernel) (by rw [c_12]; decide +kernel) (by rw [c_12]; decide +kernel) (by decide) ?_
    refine lv_aload_n hx hb dX5_readFlag_90 rfl (lv_at hl 0 rfl) ?_
    refine q_callVv (rest := []) (wr := [(h4, .inl (cy 1, 901, .inl f2)), (h5, .inr (3, [.int p9, .int p10, .int p11, .int p12, w2, w3, w4, w5, .ref h6, .ref h7, .ref h8, .ref h9])), (h6, .inl (cy 1, 10, .inl f3)), (h7, .inl (cy 1, 10, .inl f4)), (h8, .inl (cy 1, 10, .inl f5)), (h9, .inl (cy 1, 10, .inl f6))]) X hK hT hA h (fun sz => gX5_advance_9820dfe l D cy h0 h1 h2 h3 p1 p2 p3 p4 (.ref h5) w0 p5 p6 w1 p7 p8 (.ref h4) f0 f1 hp1 (i_rng _) (i_rng _) (i_rng _) hp5 (i_rng _) hp7 hp8 (hpre0) (by omega) (by omega) sz) wm_3_68 wm_3_71 wm_1_2 hd_X5_advance wm_3_70 wp_1_8 (ci := 5) (q0 := 0) rfl rfl ⟨Nat.le_of_ble_eq_true rfl, Nat.le_of_ble_eq_true rfl⟩ hl.1 rfl (Nat.le_of_ble_eq_true rfl) dX5_readFlag_91 ⟨Nat.le_of_ble_eq_true rfl, Nat.le_of_ble_eq_true rfl⟩ [0, 1, 2, 3] [4, 5, 6, 7, 8, 9] rfl rfl (by decide) rfl rfl (fun u_13 H locs w_13 h_13 => ?_)
    clear h
    obtain ⟨w13_0, w13_1, w13_2, w13_3, y13_0, y13_1, y13_2, y13_3, y13_4, y13_5, _⟩ := w_13
    replace h_13 : qW D _ _ [(h4, .inl (cy 1, 901, .inl f2)), (h5, .inr (3, [.int p9, .int p10, .int p11, .int p12, w2, w3, w4, w5, .ref h6, .ref h7, .ref h8, .ref h9])), (h6, .inl (cy 1, 10, .inl f3)), (h7, .inl (cy 1, 10, .inl f4)), (h8, .inl (cy 1, 10, .inl f5)), (h9, .inl (cy 1, 10, .inl f6)), (h0, .inr (5, [.ref h1, .int (u_13.2.1 0 0), .int (u_13.2.1 1 0), .int (u_13.2.1 2 0), .int (u_13.2.1 3 0), .ref h5, w0, .int p5, .int p6])), (h1, .inr (8, [w1, .int p7, .int p8, .ref h2, .ref h3, .ref h4])), (h2, .inl (cy 1, 901, .inl f0)), (h3, .inl (cy 1, 901, .inl f1))] _ _ := h_13
    refine lv_aload_n hx hb dX5_readFlag_94 rfl (lv_at hl 0 rfl) ?_
    refine q_get X hK h_13 6 rfl rfl wf_5 5 (by decide) rfl wm_1_151 dX5_readFlag_95 ?_
    refine q_get X hK h_13 1 rfl rfl wf_3 10 (by decide) rfl wm_1_115 dX5_readFlag_98 ?_
    refine lv_iload_n hx hb dX5_readFlag_101 rfl (lv_at hl 1 rfl) ?_
    refine lv_aload_n hx hb dX5_readFlag_102 rfl (lv_at hl 0 rfl) ?_
    refine lv_iconst (v := 0) hx hb dX5_readFlag_103 (by decide) ?_
    refine lv_bipush (v := 10) hx hb dX5_readFlag_104 (by decide) ?_
    refine q_callVi (rest := [.int p0, .ref h8]) (wr := [(h5, .inr (3, [.int p9, .int p10, .int p11, .int p12, w2, w3, w4, w5, .ref h6, .ref h7, .ref h8, .ref h9])), (h6, .inl (cy 1, 10, .inl f3)), (h7, .inl (cy 1, 10, .inl f4)), (h8, .inl (cy 1, 10, .inl f5)), (h9, .inl (cy 1, 10, .inl f6))]) X hK hT hA h_13 (fun sz => gX5_takeNumber_6ae0c88 l D cy h0 h1 h2 h3 h4 (u_13.2.1 0 0) (u_13.2.1 1 0) (u_13.2.1 2 0) (u_13.2.1 3 0) (.ref h5) w0 p5 p6 w1 p7 p8 f0 f1 f2 w13_0 (i_rng _) (i_rng _) (i_rng _) hp5 (i_rng _) hp7 hp8 (hpre0) (by omega) (by omega) (by omega) sz) wm_3_80 wm_3_83 wm_1_2 hd_X5_takeNumber wm_3_82 wp_1_11 (ci := 5) (q0 := 0) rfl rfl ⟨Nat.le_of_ble_eq_true rfl, Nat.le_of_ble_eq_true rfl⟩ hl.1 rfl (Nat.le_of_ble_eq_true rfl) dX5_readFlag_106 ⟨Nat.le_of_ble_eq_true rfl, Nat.le_of_ble_eq_true rfl⟩ [6, 7, 8, 9, 0] [1, 2, 3, 4, 5] rfl rfl (by decide) rfl rfl (fun r_14 u_14 H locs w_14 h_14 => ?_)
    clear h_13
    obtain ⟨wr_14, w14_0, w14_1, w14_2, w14_3, y14_0, y14_1, y14_2, y14_3, y14_4, y14_5, _⟩ := w_14
    have lq_14_1 : (0 : Int32).toInt = 0 := (by decide)
    have lq_14_2 : (10 : Int32).toInt = 10 := (by decide)
    replace h_14 : qW D _ _ [(h5, .inr (3, [.int p9, .int p10, .int p11, .int p12, w2, w3, w4, w5, .ref h6, .ref h7, .ref h8, .ref h9])), (h6, .inl (cy 1, 10, .inl f3)), (h7, .inl (cy 1, 10, .inl f4)), (h8, .inl (cy 1, 10, .inl f5)), (h9, .inl (cy 1, 10, .inl f6)), (h0, .inr (5, [.ref h1, .int (u_14.2.1 0 0), .int (u_14.2.1 1 0), .int (u_14.2.1 2 0), .int (u_14.2.1 3 0), .ref h5, w0, .int p5, .int p6])), (h1, .inr (8, [w1, .int p7, .int p8, .ref h2, .ref h3, .ref h4])), (h2, .inl (cy 1, 901, .inl f0)), (h3, .inl (cy 1, 901, .inl f1)), (h4, .inl (cy 1, 901, .inl f2))] _ _ := h_14
    refine q_iast X hK h_14 3 rfl (i_in rfl (by omega) (by omega)) dX5_readFlag_109 (fun H locs h_16 => ?_)
    clear h_14
    replace h_16 : qW D _ _ [(h5, .inr (3, [.int p9, .int p10, .int p11, .int p12, w2, w3, w4, w5, .ref h6, .ref h7, .ref h8, .ref h9])), (h6, .inl (cy 1, 10, .inl f3)), (h7, .inl (cy 1, 10, .inl f4)), (h8, .inl (cy 1, 10, .inl (upd f5 (Int32.toNatClampNeg p0) r_14))), (h9, .inl (cy 1, 10, .inl f6)), (h0, .inr (5, [.ref h1, .int (u_14.2.1 0 0), .int (u_14.2.1 1 0), .int (u_14.2.1 2 0), .int (u_14.2.1 3 0), .ref h5, w0, .int p5, .int p6])), (h1, .inr (8, [w1, .int p7, .int p8, .ref h2, .ref h3, .ref h4])), (h2, .inl (cy 1, 901, .inl f0)), (h3, .inl (cy 1, 901, .inl f1)), (h4, .inl (cy 1, 901, .inl f2))] _ _ := h_16
    obtain ⟨F_15, eF_15⟩ : ∃ z, (upd f5 (Int32.toNatClampNeg p0) r_14) = z := ⟨_, rfl⟩
    rw [eF_15] at h_16
    clear eF_15
    refine lv_iconst (v := 1) hx hb dX5_readFlag_110 (by decide) ?_
    exact q_iret X hr hlk hK h_16 rfl (fun _ => 0, fun k => List.getD [f3, f4, (fun _ => (u_14.2.1 0 0)), (fun _ => (u_14.2.1 1 0)), (fun _ => (u_14.2.1 2 0)), (fun _ => (u_14.2.1 3 0)), F_15, f6] k (fun _ => 0), fun _ _ => 0) ⟨⟨by decide +kernel, by decide +kernel⟩, (w14_0 : (-1) ≤ ((u_14.2.1 0 0) : Int32).toInt ∧ ((u_14.2.1 0 0) : Int32).toInt ≤ 900), (w14_1 : (-2147483648) ≤ ((u_14.2.1 1 0) : Int32).toInt ∧ ((u_14.2.1 1 0) : Int32).toInt ≤ 2147483647), (w14_2 : (-2147483648) ≤ ((u_14.2.1 2 0) : Int32).toInt ∧ ((u_14.2.1 2 0) : Int32).toInt ≤ 2147483647), (w14_3 : (-2147483648) ≤ ((u_14.2.1 3 0) : Int32).toInt ∧ ((u_14.2.1 3 0) : Int32).toInt ≤ 2147483647), (show 0 ≤ ((u_14.2.1 0 0) : Int32).toInt ∧ ((u_14.2.1 0 0) : Int32).toInt < (p8 : Int32).toInt from by omega), (show ((u_14.2.1 2 0) : Int32).toInt ≠ 0 ∨ ((u_14.2.1 1 0) : Int32).toInt = 26 ∨ ((u_14.2.1 1 0) : Int32).toInt = 27 ∨ ((u_14.2.1 0 0) : Int32).toInt + 1 < (p8 : Int32).toInt from by omega), (show ((u_14.2.1 2 0) : Int32).toInt = 0 ∨ ((u_14.2.1 1 0) : Int32).toInt = 27 from by omega), (show ((u_14.2.1 2 0) : Int32).toInt ≠ 0 ∨ (p3 : Int32).toInt = 0 from by omega), (show (p1 : Int32).toInt ≤ ((u_14.2.1 0 0) : Int32).toInt from by omega), trivial⟩ [5, 6, 7, 8, 9, 0, 1, 2, 3, 4] rfl rfl dX5_readFlag_111 (Nat.le_of_ble_eq_true rfl) (Nat.le_of_ble_eq_true rfl)
  by_cases c_17 : p2 = 17
  · have ec_17 : (p2).toInt = 17 := by rw [c_17]; decide
    refine lv_tableIn (off := 108) (tgt := 112) hx hb dX5_readFlag_4 (by rw [c_17]; decide +kernel) (by rw [c_17]; decide +kernel) (by rw [c_17]; decide +kernel) (by decide) ?_
    refine lv_aload_n hx hb dX5_readFlag_112 rfl (lv_at hl 0 rfl) ?_
    refine q_callVv (rest := []) (wr := [(h4, .inl (cy 1, 901, .inl f2)), (h5, .inr (3, [.int p9, .int p10, .int p11, .int p12, w2, w3, w4, w5, .ref h6, .ref h7, .ref h8, .ref h9])), (h6, .inl (cy 1, 10, .inl f3)), (h7, .inl (cy 1, 10, .inl f4)), (h8, .inl (cy 1, 10, .inl f5)), (h9, .inl (cy 1, 10, .inl f6))]) X hK hT hA h (fun sz => gX5_advance_9820dfe l D cy h0 h1 h2 h3 p1 p2 p3 p4 (.ref h5) w0 p5 p6 w1 p7 p8 (.ref h4) f0 f1 hp1 (i_rng _) (i_rng _) (i_rng _) hp5 (i_rng _) hp7 hp8 (hpre0) (by omega) (by omega) sz) wm_3_68 wm_3_71 wm_1_2 hd_X5_advance wm_3_70 wp_1_8 (ci := 5) (q0 := 0) rfl rfl ⟨Nat.le_of_ble_eq_true rfl, Nat.le_of_ble_eq_true rfl⟩ hl.1 rfl (Nat.le_of_ble_eq_true rfl) dX5_readFlag_113 ⟨Nat.le_of_ble_eq_true rfl, Nat.le_of_ble_eq_true rfl⟩ [0, 1, 2, 3] [4, 5, 6, 7, 8, 9] rfl rfl (by decide) rfl rfl (fun u_18 H locs w_18 h_18 => ?_)
    clear h
    obtain ⟨w18_0, w18_1, w18_2, w18_3, y18_0, y18_1, y18_2, y18_3, y18_4, y18_5, _⟩ := w_18
    replace h_18 : qW D _ _ [(h4, .inl (cy 1, 901, .inl f2)), (h5, .inr (3, [.int p9, .int p10, .int p11, .int p12, w2, w3, w4, w5, .ref h6, .ref h7, .ref h8, .ref h9])), (h6, .inl (cy 1, 10, .inl f3)), (h7, .inl (cy 1, 10, .inl f4)), (h8, .inl (cy 1, 10, .inl f5)), (h9, .inl (cy 1, 10, .inl f6)), (h0, .inr (5, [.ref h1, .int (u_18.2.1 0 0), .int (u_18.2.1 1 0), .int (u_18.2.1 2 0), .int (u_18.2.1 3 0), .ref h5, w0, .int p5, .int p6])), (h1, .inr (8, [w1, .int p7, .int p8, .ref h2, .ref h3, .ref h4])), (h2, .inl (cy 1, 901, .inl f0)), (h3, .inl (cy 1, 901, .inl f1))] _ _ := h_18
    refine lv_aload_n hx hb dX5_readFlag_116 rfl (lv_at hl 0 rfl) ?_
    refine q_get X hK h_18 6 rfl rfl wf_5 5 (by decide) rfl wm_1_151 dX5_readFlag_117 ?_
    refine q_get X hK h_18 1 rfl rfl wf_3 11 (by decide) rfl wm_1_118 dX5_readFlag_120 ?_
    refine lv_iload_n hx hb dX5_readFlag_123 rfl (lv_at hl 1 rfl) ?_
    refine lv_aload_n hx hb dX5_readFlag_124 rfl (lv_at hl 0 rfl) ?_
    refine lv_iconst (v := 1) hx hb dX5_readFlag_125 (by decide) ?_
    refine lv_bipush (v := 99) hx hb dX5_readFlag_126 (by decide) ?_
    refine q_callVi (rest := [.int p0, .ref h9]) (wr := [(h5, .inr (3, [.int p9, .int p10, .int p11, .int p12, w2, w3, w4, w5, .ref h6, .ref h7, .ref h8, .ref h9])), (h6, .inl (cy 1, 10, .inl f3)), (h7, .inl (cy 1, 10, .inl f4)), (h8, .inl (cy 1, 10, .inl f5)), (h9, .inl (cy 1, 10, .inl f6))]) X hK hT hA h_18 (fun sz => gX5_takeNumber_bbeef74 l D cy h0 h1 h2 h3 h4 (u_18.2.1 0 0) (u_18.2.1 1 0) (u_18.2.1 2 0) (u_18.2.1 3 0) (.ref h5) w0 p5 p6 w1 p7 p8 f0 f1 f2 w18_0 (i_rng _) (i_rng _) (i_rng _) hp5 (i_rng _) hp7 hp8 (hpre0) (by omega) (by omega) (by omega) sz) wm_3_80 wm_3_83 wm_1_2 hd_X5_takeNumber wm_3_82 wp_1_11 (ci := 5) (q0 := 0) rfl rfl ⟨Nat.le_of_ble_eq_true rfl, Nat.le_of_ble_eq_true rfl⟩ hl.1 rfl (Nat.le_of_ble_eq_true rfl) dX5_readFlag_128 ⟨Nat.le_of_ble_eq_true rfl, Nat.le_of_ble_eq_true rfl⟩ [6, 7, 8, 9, 0] [1, 2, 3, 4, 5] rfl rfl (by decide) rfl rfl (fun r_19 u_19 H locs w_19 h_19 => ?_)
    clear h_18
    obtain ⟨wr_19, w19_0, w19_1, w19_2, w19_3, y19_0, y19_1, y19_2, y19_3, y19_4, y19_5, _⟩ := w_19
    have lq_19_1 : (1 : Int32).toInt = 1 := (by decide)
    have lq_19_2 : (99 : Int32).toInt = 99 := (by decide)
    replace h_19 : qW D _ _ [(h5, .inr (3, [.int p9, .int p10, .int p11, .int p12, w2, w3, w4, w5, .ref h6, .ref h7, .ref h8, .ref h9])), (h6, .inl (cy 1, 10, .inl f3)), (h7, .inl (cy 1, 10, .inl f4)), (h8, .inl (cy 1, 10, .inl f5)), (h9, .inl (cy 1, 10, .inl f6)), (h0, .inr (5, [.ref h1, .int (u_19.2.1 0 0), .int (u_19.2.1 1 0), .int (u_19.2.1 2 0), .int (u_19.2.1 3 0), .ref h5, w0, .int p5, .int p6])), (h1, .inr (8, [w1, .int p7, .int p8, .ref h2, .ref h3, .ref h4])), (h2, .inl (cy 1, 901, .inl f0)), (h3, .inl (cy 1, 901, .inl f1)), (h4, .inl (cy 1, 901, .inl f2))] _ _ := h_19
    refine q_iast X hK h_19 4 rfl (i_in rfl (by omega) (by omega)) dX5_readFlag_131 (fun H locs h_21 => ?_)
    clear h_19
    replace h_21 : qW D _ _ [(h5, .inr (3, [.int p9, .int p10, .int p11, .int p12, w2, w3, w4, w5, .ref h6, .ref h7, .ref h8, .ref h9])), (h6, .inl (cy 1, 10, .inl f3)), (h7, .inl (cy 1, 10, .inl f4)), (h8, .inl (cy 1, 10, .inl f5)), (h9, .inl (cy 1, 10, .inl (upd f6 (Int32.toNatClampNeg p0) r_19))), (h0, .inr (5, [.ref h1, .int (u_19.2.1 0 0), .int (u_19.2.1 1 0), .int (u_19.2.1 2 0), .int (u_19.2.1 3 0), .ref h5, w0, .int p5, .int p6])), (h1, .inr (8, [w1, .int p7, .int p8, .ref h2, .ref h3, .ref h4])), (h2, .inl (cy 1, 901, .inl f0)), (h3, .inl (cy 1, 901, .inl f1)), (h4, .inl (cy 1, 901, .inl f2))] _ _ := h_21
    obtain ⟨F_20, eF_20⟩ : ∃ z, (upd f6 (Int32.toNatClampNeg p0) r_19) = z := ⟨_, rfl⟩
    rw [eF_20] at h_21
    clear eF_20
    refine lv_iconst (v := 1) hx hb dX5_readFlag_132 (by decide) ?_
    exact q_iret X hr hlk hK h_21 rfl (fun _ => 0, fun k => List.getD [f3, f4, (fun _ => (u_19.2.1 0 0)), (fun _ => (u_19.2.1 1 0)), (fun _ => (u_19.2.1 2 0)), (fun _ => (u_19.2.1 3 0)), f5, F_20] k (fun _ => 0), fun _ _ => 0) ⟨⟨by decide +kernel, by decide +kernel⟩, (w19_0 : (-1) ≤ ((u_19.2.1 0 0) : Int32).toInt ∧ ((u_19.2.1 0 0) : Int32).toInt ≤ 900), (w19_1 : (-2147483648) ≤ ((u_19.2.1 1 0) : Int32).toInt ∧ ((u_19.2.1 1 0) : Int32).toInt ≤ 2147483647), (w19_2 : (-2147483648) ≤ ((u_19.2.1 2 0) : Int32).toInt ∧ ((u_19.2.1 2 0) : Int32).toInt ≤ 2147483647), (w19_3 : (-2147483648) ≤ ((u_19.2.1 3 0) : Int32).toInt ∧ ((u_19.2.1 3 0) : Int32).toInt ≤ 2147483647), (show 0 ≤ ((u_19.2.1 0 0) : Int32).toInt ∧ ((u_19.2.1 0 0) : Int32).toInt < (p8 : Int32).toInt from by omega), (show ((u_19.2.1 2 0) : Int32).toInt ≠ 0 ∨ ((u_19.2.1 1 0) : Int32).toInt = 26 ∨ ((u_19.2.1 1 0) : Int32).toInt = 27 ∨ ((u_19.2.1 0 0) : Int32).toInt + 1 < (p8 : Int32).toInt from by omega), (show ((u_19.2.1 2 0) : Int32).toInt = 0 ∨ ((u_19.2.1 1 0) : Int32).toInt = 27 from by omega), (show ((u_19.2.1 2 0) : Int32).toInt ≠ 0 ∨ (p3 : Int32).toInt = 0 from by omega), (show (p1 : Int32).toInt ≤ ((u_19.2.1 0 0) : Int32).toInt from by omega), trivial⟩ [5, 6, 7, 8, 9, 0, 1, 2, 3, 4] rfl rfl dX5_readFlag_133 (Nat.le_of_ble_eq_true rfl) (Nat.le_of_ble_eq_true rfl)
  have nc_1 := lv_neT c_1 (show (14 : Int32).toInt = 14 by decide)
  have nc_11 := lv_neT c_11 (show (15 : Int32).toInt = 15 by decide)
  have nc_12 := lv_neT c_12 (show (16 : Int32).toInt = 16 by decide)
  have nc_17 := lv_neT c_17 (show (17 : Int32).toInt = 17 by decide)
  refine lv_tableOut (tgt := 134) hx hb dX5_readFlag_4 (by omega) (by decide) ?_
  refine lv_iconst (v := 0) hx hb dX5_readFlag_134 (by decide) ?_
  exact q_iret X hr hlk hK h rfl (fun _ => 0, fun k => List.getD [f3, f4, (fun _ => p1), (fun _ => p2), (fun _ => p3), (fun _ => p4), f5, f6] k (fun _ => 0), fun _ _ => 0) ⟨⟨by decide +kernel, by decide +kernel⟩, (hp1 : (-1) ≤ (p1 : Int32).toInt ∧ (p1 : Int32).toInt ≤ 900), (hp2 : (-2147483648) ≤ (p2 : Int32).toInt ∧ (p2 : Int32).toInt ≤ 2147483647), (hp3 : (-2147483648) ≤ (p3 : Int32).toInt ∧ (p3 : Int32).toInt ≤ 2147483647), (hp4 : (-2147483648) ≤ (p4 : Int32).toInt ∧ (p4 : Int32).toInt ≤ 2147483647), (show 0 ≤ (p1 : Int32).toInt ∧ (p1 : Int32).toInt < (p8 : Int32).toInt from by omega), (show (p3 : Int32).toInt ≠ 0 ∨ (p2 : Int32).toInt = 26 ∨ (p2 : Int32).toInt = 27 ∨ (p1 : Int32).toInt + 1 < (p8 : Int32).toInt from by omega), (show (p3 : Int32).toInt = 0 ∨ (p2 : Int32).toInt = 27 from by omega), (show (p3 : Int32).toInt ≠ 0 ∨ (p3 : Int32).toInt = 0 from by omega), (show (p1 : Int32).toInt ≤ (p1 : Int32).toInt from by omega), trivial⟩ [0, 1, 2, 3, 4, 5, 6, 7, 8, 9] rfl rfl dX5_readFlag_135 (Nat.le_of_ble_eq_true rfl) (Nat.le_of_ble_eq_true rfl)
set_option maxHeartbeats 4000000 in
set_option maxRecDepth 100000 in
theorem gX5_takeNumber_b9026d7 (l : Launch) (D : va_G) (cy : Nat → ClassId) (h0 : Nat) (h1 : Nat) (h2 : Nat) (h3 : Nat) (h4 : Nat) (p0 : Int32) (p1 : Int32) (p2 : Int32) (p3 : Int32) (w0 : Value) (w1 : Value) (p4 : Int32) (p5 : Int32) (w2 : Value) (p6 : Int32) (p7 : Int32) (f0 : Nat → Int32) (f1 : Nat → Int32) (f2 : Nat → Int32) (hp0 : (-1) ≤ (p0).toInt ∧ (p0).toInt ≤ 900) (hp1 : (-2147483648) ≤ (p1).toInt ∧ (p1).toInt ≤ 2147483647) (hp2 : (-2147483648) ≤ (p2).toInt ∧ (p2).toInt ≤ 2147483647) (hp3 : (-2147483648) ≤ (p3).toInt ∧ (p3).toInt ≤ 2147483647) (hp4 : 0 ≤ (p4).toInt ∧ (p4).toInt ≤ 900) (hp5 : (-2147483648) ≤ (p5).toInt ∧ (p5).toInt ≤ 2147483647) (hp6 : 0 ≤ (p6).toInt ∧ (p6).toInt ≤ 900) (hp7 : 0 ≤ (p7).toInt ∧ (p7).toInt ≤ 901) (hpre0 : KZ f0 (p7 : Int32).toInt) (hpre1 : 0 ≤ (p0 : Int32).toInt ∧ (p0 : Int32).toInt < (p7 : Int32).toInt) (hpre2 : (p2 : Int32).toInt ≠ 0 ∨ (p1 : Int32).toInt = 26 ∨ (p1 : Int32).toInt = 27 ∨ (p0 : Int32).toInt + 1 < (p7 : Int32).toInt) (hpre3 : (p2 : Int32).toInt = 0 ∨ (p1 : Int32).toInt = 27) (sz : Nat) : MI l yX5_takeNumber cX5_takeNumber 4 .int { frames := 1, cells := 0, slots := 0, locals := 21 } [.ref h0, .int 0, .int 9] D cy [(h0, .inr (5, [.ref h1, .int p0, .int p1, .int p2, .int p3, w0, w1, .int p4, .int p5])), (h1, .inr (8, [w2, .int p6, .int p7, .ref h2, .ref h3, .ref h4])), (h2, .inl (cy 1, 901, .inl f0)), (h3, .inl (cy 1, 901, .inl f1)), (h4, .inl (cy 1, 901, .inl f2))] sz (fun r u => (0 ≤ r.toInt ∧ r.toInt ≤ 9) ∧ ((-1) ≤ (u.2.1 0 0).toInt ∧ (u.2.1 0 0).toInt ≤ 900) ∧ ((-2147483648) ≤ (u.2.1 1 0).toInt ∧ (u.2.1 1 0).toInt ≤ 2147483647) ∧ ((-2147483648) ≤ (u.2.1 2 0).toInt ∧ (u.2.1 2 0).toInt ≤ 2147483647) ∧ ((-2147483648) ≤ (u.2.1 3 0).toInt ∧ (u.2.1 3 0).toInt ≤ 2147483647) ∧ (0 ≤ ((u.2.1 0 0) : Int32).toInt ∧ ((u.2.1 0 0) : Int32).toInt < (p7 : Int32).toInt) ∧ (((u.2.1 2 0) : Int32).toInt ≠ 0 ∨ ((u.2.1 1 0) : Int32).toInt = 26 ∨ ((u.2.1 1 0) : Int32).toInt = 27 ∨ ((u.2.1 0 0) : Int32).toInt + 1 < (p7 : Int32).toInt) ∧ (((u.2.1 2 0) : Int32).toInt ≠ 0 ∨ ((u.2.1 0 0) : Int32).toInt = (p0 : Int32).toInt + 1) ∧ (((u.2.1 2 0) : Int32).toInt ≠ 0 ∨ (p2 : Int32).toInt = 0) ∧ (((u.2.1 2 0) : Int32).toInt = 0 ∨ ((u.2.1 1 0) : Int32).toInt = 27) ∧ ((p0 : Int32).toInt ≤ ((u.2.1 0 0) : Int32).toInt) ∧ True) (fun u => [(h0, .inr (5, [.ref h1, .int (u.2.1 0 0), .int (u.2.1 1 0), .int (u.2.1 2 0), .int (u.2.1 3 0), w0, w1, .int p4, .int p5])), (h1, .inr (8, [w2, .int p6, .int p7, .ref h2, .ref h3, .ref h4])), (h2, .inl (cy 1, 901, .inl f0)), (h3, .inl (cy 1, 901, .inl f1)), (h4, .inl (cy 1, 901, .inl f2))]) 0 0 := by
  refine q_ent (own := RX5) (by decide) rfl (Nat.le_of_ble_eq_true rfl) (fun p e s m below meth c ls X hr hlk hnm hK hT h hA hl => ?_)
  obtain ⟨hx, hb, hml, hown, ht⟩ := id X
  replace hl : lv_has ls 4 [(0, .ref h0), (1, .int 0), (2, .int 9)] := hl
  refine lv_aload_n hx hb dX5_takeNumber_0 rfl (lv_at hl 0 rfl) ?_
  refine q_get X hK h 0 rfl rfl wf_5 2 (by decide) rfl wm_1_146 dX5_takeNumber_1 ?_
  refine lv_bipush (v := 25) hx hb dX5_takeNumber_4 (by decide) ?_
  refine lv_icmp_eq (tgt := 16) hx hb dX5_takeNumber_6 (by decide) (fun c_1 => ?_) (fun c_1 => ?_)
  · replace c_1 := i_eq (x := p1) (y := 25) rfl (show (25 : Int32).toInt = 25 by decide) c_1
    refine lv_aload_n hx hb dX5_takeNumber_16 rfl (lv_at hl 0 rfl) ?_
    refine q_get X hK h 0 rfl rfl wf_5 0 (by decide) rfl wm_1_144 dX5_takeNumber_17 ?_
    refine q_get X hK h 1 rfl rfl wf_8 5 (by decide) rfl wm_1_52 dX5_takeNumber_20 ?_
    refine lv_aload_n hx hb dX5_takeNumber_23 rfl (lv_at hl 0 rfl) ?_
    refine q_get X hK h 0 rfl rfl wf_5 1 (by decide) rfl wm_1_145 dX5_takeNumber_24 ?_
    refine q_iald X hK h 4 rfl (i_in rfl (by omega) (by omega)) dX5_takeNumber_27 ?_
    refine q_any (fun z_2 hz_2 => ?_)
    refine lv_istore_n (lv' := [(3, .int z_2), (0, .ref h0), (1, .int 0), (2, .int 9)]) hx hb dX5_takeNumber_28 rfl hl (by decide) rfl (fun ls_3 hl_3 => ?_)
    clear hl
    refine lv_iload_n hx hb dX5_takeNumber_29 rfl (lv_at hl_3 0 rfl) ?_
    refine lv_iload_n hx hb dX5_takeNumber_30 rfl (lv_at hl_3 2 rfl) ?_
    refine q_jn (pc2 := 39) (fun H locs ls st => st = [] ∧ qW D (va_A [(h0, .inr (5, [.ref h1, .int p0, .int p1, .int p2, .int p3, w0, w1, .int p4, .int p5])), (h1, .inr (8, [w2, .int p6, .int p7, .ref h2, .ref h3, .ref h4])), (h2, .inl (cy 1, 901, .inl f0)), (h3, .inl (cy 1, 901, .inl f1)), (h4, .inl (cy 1, 901, .inl f2))] sz) s.heap [(h0, .inr (5, [.ref h1, .int p0, .int p1, .int p2, .int p3, w0, w1, .int p4, .int p5])), (h1, .inr (8, [w2, .int p6, .int p7, .ref h2, .ref h3, .ref h4])), (h2, .inl (cy 1, 901, .inl f0)), (h3, .inl (cy 1, 901, .inl f1)), (h4, .inl (cy 1, 901, .inl f2))] H locs ∧ lv_has ls 4 [(0, .ref h0), (1, .int 0), (2, .int 9), (3, .int z_2)]) (fun H locs ls st hP => ?_) (fun J_39 => ?_)
    · obtain ⟨rfl, h, hl⟩ := hP
      refine lv_aload_n hx hb dX5_takeNumber_39 rfl (lv_at hl 0 rfl) ?_
      refine lv_iconst (v := 3) hx hb dX5_takeNumber_40 (by decide) ?_
      refine q_callVv (rest := []) (wr := [(h2, .inl (cy 1, 901, .inl f0)), (h4, .inl (cy 1, 901, .inl f2))]) X hK hT hA h (fun sz => gX5_refuse_3ecba60 l D cy h0 h1 h3 p0 p1 p2 p3 w0 w1 p4 p5 w2 p6 p7 (.ref h2) (.ref h4) f1 hp0 (i_rng _) (i_rng _) (i_rng _) hp4 (i_rng _) hp6 hp7 (by omega) (by omega) (by have q0 : (3 : Int32).toInt = 3 := (by decide); omega) sz) wm_3_76 wm_3_79 wm_1_2 hd_X5_refuse wm_3_78 wp_1_10 (ci := 5) (q0 := 0) rfl rfl ⟨Nat.le_of_ble_eq_true rfl, Nat.le_of_ble_eq_true rfl⟩ hl.1 rfl (Nat.le_of_ble_eq_true rfl) dX5_takeNumber_41 ⟨Nat.le_of_ble_eq_true rfl, Nat.le_of_ble_eq_true rfl⟩ [0, 1, 3] [2, 4] rfl rfl (by decide) rfl rfl (fun u_5 H locs w_5 h_5 => ?_)
      clear h
      obtain ⟨w5_0, w5_1, w5_2, y5_0, y5_1, _⟩ := w_5
      have lq_5_1 : (3 : Int32).toInt = 3 := (by decide)
      replace h_5 : qW D _ _ [(h2, .inl (cy 1, 901, .inl f0)), (h4, .inl (cy 1, 901, .inl f2)), (h0, .inr (5, [.ref h1, .int p0, .int (u_5.2.1 0 0), .int (u_5.2.1 1 0), .int (u_5.2.1 2 0), w0, w1, .int p4, .int p5])), (h1, .inr (8, [w2, .int p6, .int p7, .ref h2, .ref h3, .ref h4])), (h3, .inl (cy 1, 901, .inl f1))] _ _ := h_5
      refine lv_iload_n hx hb dX5_takeNumber_44 rfl (lv_at hl 1 rfl) ?_
      exact q_iret X hr hlk hK h_5 rfl (fun _ => 0, fun k => List.getD [(fun _ => p0), (fun _ => (u_5.2.1 0 0)), (fun _ => (u_5.2.1 1 0)), (fun _ => (u_5.2.1 2 0))] k (fun _ => 0), fun _ _ => 0) ⟨⟨by decide +kernel, by decide +kernel⟩, (hp0 : (-1) ≤ (p0 : Int32).toInt ∧ (p0 : Int32).toInt ≤ 900), (w5_0 : (-2147483648) ≤ ((u_5.2.1 0 0) : Int32).toInt ∧ ((u_5.2.1 0 0) : Int32).toInt ≤ 2147483647), (w5_1 : (-2147483648) ≤ ((u_5.2.1 1 0) : Int32).toInt ∧ ((u_5.2.1 1 0) : Int32).toInt ≤ 2147483647), (w5_2 : (-2147483648) ≤ ((u_5.2.1 2 0) : Int32).toInt ∧ ((u_5.2.1 2 0) : Int32).toInt ≤ 2147483647), (show 0 ≤ (p0 : Int32).toInt ∧ (p0 : Int32).toInt < (p7 : Int32).toInt from by omega), (show ((u_5.2.1 1 0) : Int32).toInt ≠ 0 ∨ ((u_5.2.1 0 0) : Int32).toInt = 26 ∨ ((u_5.2.1 0 0) : Int32).toInt = 27 ∨ (p0 : Int32).toInt + 1 < (p7 : Int32).toInt from by omega), (show ((u_5.2.1 1 0) : Int32).toInt ≠ 0 ∨ (p0 : Int32).toInt = (p0 : Int32).toInt + 1 from by omega), (show ((u_5.2.1 1 0) : Int32).toInt ≠ 0 ∨ (p2 : Int32).toInt = 0 from by omega), (show ((u_5.2.1 1 0) : Int32).toInt = 0 ∨ ((u_5.2.1 0 0) : Int32).toInt = 27 from by omega), (show (p0 : Int32).toInt ≤ (p0 : Int32).toInt from by omega), trivial⟩ [2, 3, 0, 4, 1] rfl rfl dX5_takeNumber_45 (Nat.le_of_ble_eq_true rfl) (Nat.le_of_ble_eq_true rfl)
    · skip
      refine lv_icmp_lt (tgt := 39) hx hb dX5_takeNumber_31 (by decide) (fun c_6 => ?_) (fun c_6 => ?_)
      · replace c_6 := i_lt (x := z_2) (y := 0) rfl (show (0 : Int32).toInt = 0 by decide) c_6
        exact J_39 _ _ _ _ ⟨rfl, h, (lv_sub hl_3 [1, 2, 3, 0] rfl)⟩
      · replace c_6 := i_nlt (x := z_2) (y := 0) rfl (show (0 : Int32).toInt = 0 by decide) c_6
        refine lv_iload_n hx hb dX5_takeNumber_34 rfl (lv_at hl_3 0 rfl) ?_
        refine lv_iload_n hx hb dX5_takeNumber_35 rfl (lv_at hl_3 3 rfl) ?_
        refine lv_icmp_le (tgt := 46) hx hb dX5_takeNumber_36 (by decide) (fun c_7 => ?_) (fun c_7 => ?_)
        · replace c_7 := i_le (x := z_2) (y := 9) rfl (show (9 : Int32).toInt = 9 by decide) c_7
          refine lv_aload_n hx hb dX5_takeNumber_46 rfl (lv_at hl_3 1 rfl) ?_
          refine q_callVv (rest := []) (wr := [(h4, .inl (cy 1, 901, .inl f2))]) X hK hT hA h (fun sz => gX5_advance_9820dfe l D cy h0 h1 h2 h3 p0 p1 p2 p3 w0 w1 p4 p5 w2 p6 p7 (.ref h4) f0 f1 hp0 (i_rng _) (i_rng _) (i_rng _) hp4 (i_rng _) hp6 hp7 (hpre0) (by omega) (by omega) sz) wm_3_68 wm_3_71 wm_1_2 hd_X5_advance wm_3_70 wp_1_8 (ci := 5) (q0 := 0) rfl rfl ⟨Nat.le_of_ble_eq_true rfl, Nat.le_of_ble_eq_true rfl⟩ hl_3.1 rfl (Nat.le_of_ble_eq_true rfl) dX5_takeNumber_47 ⟨Nat.le_of_ble_eq_true rfl, Nat.le_of_ble_eq_true rfl⟩ [0, 1, 2, 3] [4] rfl rfl (by decide) rfl rfl (fun u_8 H locs w_8 h_8 => ?_)
          clear h
          obtain ⟨w8_0, w8_1, w8_2, w8_3, y8_0, y8_1, y8_2, y8_3, y8_4, y8_5, _⟩ := w_8
          replace h_8 : qW D _ _ [(h4, .inl (cy 1, 901, .inl f2)), (h0, .inr (5, [.ref h1, .int (u_8.2.1 0 0), .int (u_8.2.1 1 0), .int (u_8.2.1 2 0), .int (u_8.2.1 3 0), w0, w1, .int p4, .int p5])), (h1, .inr (8, [w2, .int p6, .int p7, .ref h2, .ref h3, .ref h4])), (h2, .inl (cy 1, 901, .inl f0)), (h3, .inl (cy 1, 901, .inl f1))] _ _ := h_8
          refine lv_iload_n hx hb dX5_takeNumber_50 rfl (lv_at hl_3 0 rfl) ?_
          exact q_iret X hr hlk hK h_8 rfl (fun _ => 0, fun k => List.getD [(fun _ => (u_8.2.1 0 0)), (fun _ => (u_8.2.1 1 0)), (fun _ => (u_8.2.1 2 0)), (fun _ => (u_8.2.1 3 0))] k (fun _ => 0), fun _ _ => 0) ⟨⟨by omega, by omega⟩, (w8_0 : (-1) ≤ ((u_8.2.1 0 0) : Int32).toInt ∧ ((u_8.2.1 0 0) : Int32).toInt ≤ 900), (w8_1 : (-2147483648) ≤ ((u_8.2.1 1 0) : Int32).toInt ∧ ((u_8.2.1 1 0) : Int32).toInt ≤ 2147483647), (w8_2 : (-2147483648) ≤ ((u_8.2.1 2 0) : Int32).toInt ∧ ((u_8.2.1 2 0) : Int32).toInt ≤ 2147483647), (w8_3 : (-2147483648) ≤ ((u_8.2.1 3 0) : Int32).toInt ∧ ((u_8.2.1 3 0) : Int32).toInt ≤ 2147483647), (show 0 ≤ ((u_8.2.1 0 0) : Int32).toInt ∧ ((u_8.2.1 0 0) : Int32).toInt < (p7 : Int32).toInt from by omega), (show ((u_8.2.1 2 0) : Int32).toInt ≠ 0 ∨ ((u_8.2.1 1 0) : Int32).toInt = 26 ∨ ((u_8.2.1 1 0) : Int32).toInt = 27 ∨ ((u_8.2.1 0 0) : Int32).toInt + 1 < (p7 : Int32).toInt from by omega), (show ((u_8.2.1 2 0) : Int32).toInt ≠ 0 ∨ ((u_8.2.1 0 0) : Int32).toInt = (p0 : Int32).toInt + 1 from by omega), (show ((u_8.2.1 2 0) : Int32).toInt ≠ 0 ∨ (p2 : Int32).toInt = 0 from by omega), (show ((u_8.2.1 2 0) : Int32).toInt = 0 ∨ ((u_8.2.1 1 0) : Int32).toInt = 27 from by omega), (show (p0 : Int32).toInt ≤ ((u_8.2.1 0 0) : Int32).toInt from by omega), trivial⟩ [1, 2, 3, 4, 0] rfl rfl dX5_takeNumber_51 (Nat.le_of_ble_eq_true rfl) (Nat.le_of_ble_eq_true rfl)
        · replace c_7 := i_nle (x := z_2) (y := 9) rfl (show (9 : Int32).toInt = 9 by decide) c_7
          exact J_39 _ _ _ _ ⟨rfl, h, (lv_sub hl_3 [1, 2, 3, 0] rfl)⟩
  · replace c_1 := i_ne (x := p1) (y := 25) rfl (show (25 : Int32).toInt = 25 by decide) c_1
    refine lv_aload_n hx hb dX5_takeNumber_9 rfl (lv_at hl 0 rfl) ?_
    refine lv_iconst (v := 2) hx hb dX5_takeNumber_10 (by decide) ?_
    refine q_callVv (rest := []) (wr := [(h2, .inl (cy 1, 901, .inl f0)), (h4, .inl (cy 1, 901, .inl f2))]) X hK hT hA h (fun sz => gX5_refuse_067fcff l D cy h0 h1 h3 p0 p1 p2 p3 w0 w1 p4 p5 w2 p6 p7 (.ref h2) (.ref h4) f1 hp0 (i_rng _) (i_rng _) (i_rng _) hp4 (i_rng _) hp6 hp7 (by omega) (by omega) (by have q0 : (2 : Int32).toInt = 2 := (by decide); omega) sz) wm_3_76 wm_3_79 wm_1_2 hd_X5_refuse wm_3_78 wp_1_10 (ci := 5) (q0 := 0) rfl rfl ⟨Nat.le_of_ble_eq_true rfl, Nat.le_of_ble_eq_true rfl⟩ hl.1 rfl (Nat.le_of_ble_eq_true rfl) dX5_takeNumber_11 ⟨Nat.le_of_ble_eq_true rfl, Nat.le_of_ble_eq_true rfl⟩ [0, 1, 3] [2, 4] rfl rfl (by decide) rfl rfl (fun u_9 H locs w_9 h_9 => ?_)
    clear h
    obtain ⟨w9_0, w9_1, w9_2, y9_0, y9_1, _⟩ := w_9
    have lq_9_1 : (2 : Int32).toInt = 2 := (by decide)
    replace h_9 : qW D _ _ [(h2, .inl (cy 1, 901, .inl f0)), (h4, .inl (cy 1, 901, .inl f2)), (h0, .inr (5, [.ref h1, .int p0, .int (u_9.2.1 0 0), .int (u_9.2.1 1 0), .int (u_9.2.1 2 0), w0, w1, .int p4, .int p5])), (h1, .inr (8, [w2, .int p6, .int p7, .ref h2, .ref h3, .ref h4])), (h3, .inl (cy 1, 901, .inl f1))] _ _ := h_9
    refine lv_iload_n hx hb dX5_takeNumber_14 rfl (lv_at hl 1 rfl) ?_
    exact q_iret X hr hlk hK h_9 rfl (fun _ => 0, fun k => List.getD [(fun _ => p0), (fun _ => (u_9.2.1 0 0)), (fun _ => (u_9.2.1 1 0)), (fun _ => (u_9.2.1 2 0))] k (fun _ => 0), fun _ _ => 0) ⟨⟨by decide +kernel, by decide +kernel⟩, (hp0 : (-1) ≤ (p0 : Int32).toInt ∧ (p0 : Int32).toInt ≤ 900), (w9_0 : (-2147483648) ≤ ((u_9.2.1 0 0) : Int32).toInt ∧ ((u_9.2.1 0 0) : Int32).toInt ≤ 2147483647), (w9_1 : (-2147483648) ≤ ((u_9.2.1 1 0) : Int32).toInt ∧ ((u_9.2.1 1 0) : Int32).toInt ≤ 2147483647), (w9_2 : (-2147483648) ≤ ((u_9.2.1 2 0) : Int32).toInt ∧ ((u_9.2.1 2 0) : Int32).toInt ≤ 2147483647), (show 0 ≤ (p0 : Int32).toInt ∧ (p0 : Int32).toInt < (p7 : Int32).toInt from by omega), (show ((u_9.2.1 1 0) : Int32).toInt ≠ 0 ∨ ((u_9.2.1 0 0) : Int32).toInt = 26 ∨ ((u_9.2.1 0 0) : Int32).toInt = 27 ∨ (p0 : Int32).toInt + 1 < (p7 : Int32).toInt from by omega), (show ((u_9.2.1 1 0) : Int32).toInt ≠ 0 ∨ (p0 : Int32).toInt = (p0 : Int32).toInt + 1 from by omega), (show ((u_9.2.1 1 0) : Int32).toInt ≠ 0 ∨ (p2 : Int32).toInt = 0 from by omega), (show ((u_9.2.1 1 0) : Int32).toInt = 0 ∨ ((u_9.2.1 0 0) : Int32).toInt = 27 from by omega), (show (p0 : Int32).toInt ≤ (p0 : Int32).toInt from by omega), trivial⟩ [2, 3, 0, 4, 1] rfl rfl dX5_takeNumber_15 (Nat.le_of_ble_eq_true rfl) (Nat.le_of_ble_eq_true rfl)
set_option maxHeartbeats 4000000 in
set_option maxRecDepth 100000 in
theorem gX5_readFlag_936f279 (l : Launch) (D : va_G) (cy : Nat → ClassId) (h0 : Nat) (h1 : Nat) (h2 : Nat) (h3 : Nat) (h4 : Nat) (h5 : Nat) (h6 : Nat) (h7 : Nat) (h8 : Nat) (h9 : Nat) (p0 : Int32) (p1 : Int32) (p2 : Int32) (p3 : Int32) (p4 : Int32) (w0 : Value) (p5 : Int32) (p6 : Int32) (w1 : Value) (p7 : Int32) (p8 : Int32) (f0 : Nat → Int32) (f1 : Nat → Int32) (f2 : Nat → Int32) (p9 : Int32) (p10 : Int32) (p11 : Int32) (w2 : Value) (w3 : Value) (w4 : Value) (w5 : Value) (f3 : Nat → Int32) (f4 : Nat → Int32) (f5 : Nat → Int32) (f6 : Nat → Int32) (hp0 : 0 ≤ (p0).toInt ∧ (p0).toInt ≤ 9) (hp1 : (-1) ≤ (p1).toInt ∧ (p1).toInt ≤ 900) (hp2 : (-2147483648) ≤ (p2).toInt ∧ (p2).toInt ≤ 2147483647) (hp3 : (-2147483648) ≤ (p3).toInt ∧ (p3).toInt ≤ 2147483647) (hp4 : (-2147483648) ≤ (p4).toInt ∧ (p4).toInt ≤ 2147483647) (hp5 : 0 ≤ (p5).toInt ∧ (p5).toInt ≤ 900) (hp6 : (-2147483648) ≤ (p6).toInt ∧ (p6).toInt ≤ 2147483647) (hp7 : 0 ≤ (p7).toInt ∧ (p7).toInt ≤ 900) (hp8 : 0 ≤ (p8).toInt ∧ (p8).toInt ≤ 901) (hp9 : 1 ≤ (p9).toInt ∧ (p9).toInt ≤ 3) (hp10 : (-2147483648) ≤ (p10).toInt ∧ (p10).toInt ≤ 2147483647) (hp11 : (-2147483648) ≤ (p11).toInt ∧ (p11).toInt ≤ 2147483647) (hpre0 : KZ f0 (p8 : Int32).toInt) (hpre1 : 0 ≤ (p1 : Int32).toInt ∧ (p1 : Int32).toInt < (p8 : Int32).toInt) (hpre2 : (p3 : Int32).toInt ≠ 0 ∨ (p2 : Int32).toInt = 26 ∨ (p2 : Int32).toInt = 27 ∨ (p1 : Int32).toInt + 1 < (p8 : Int32).toInt) (hpre3 : (p3 : Int32).toInt = 0 ∨ (p2 : Int32).toInt = 27) (sz : Nat) : MI l yX5_readFlag cX5_readFlag 2 .boolean { frames := 2, cells := 0, slots := 0, locals := 44 } [.ref h0, .int p0] D cy [(h0, .inr (5, [.ref h1, .int p1, .int p2, .int p3, .int p4, .ref h5, w0, .int p5, .int p6])), (h1, .inr (8, [w1, .int p7, .int p8, .ref h2, .ref h3, .ref h4])), (h2, .inl (cy 1, 901, .inl f0)), (h3, .inl (cy 1, 901, .inl f1)), (h4, .inl (cy 1, 901, .inl f2)), (h5, .inr (3, [.int p9, .int p0, .int p10, .int p11, w2, w3, w4, w5, .ref h6, .ref h7, .ref h8, .ref h9])), (h6, .inl (cy 1, 10, .inl f3)), (h7, .inl (cy 1, 10, .inl f4)), (h8, .inl (cy 1, 10, .inl f5)), (h9, .inl (cy 1, 10, .inl f6))] sz (fun r u => (0 ≤ r.toInt ∧ r.toInt ≤ 1) ∧ ((-1) ≤ (u.2.1 2 0).toInt ∧ (u.2.1 2 0).toInt ≤ 900) ∧ ((-2147483648) ≤ (u.2.1 3 0).toInt ∧ (u.2.1 3 0).toInt ≤ 2147483647) ∧ ((-2147483648) ≤ (u.2.1 4 0).toInt ∧ (u.2.1 4 0).toInt ≤ 2147483647) ∧ ((-2147483648) ≤ (u.2.1 5 0).toInt ∧ (u.2.1 5 0).toInt ≤ 2147483647) ∧ (0 ≤ ((u.2.1 2 0) : Int32).toInt ∧ ((u.2.1 2 0) : Int32).toInt < (p8 : Int32).toInt) ∧ (((u.2.1 4 0) : Int32).toInt ≠ 0 ∨ ((u.2.1 3 0) : Int32).toInt = 26 ∨ ((u.2.1 3 0) : Int32).toInt = 27 ∨ ((u.2.1 2 0) : Int32).toInt + 1 < (p8 : Int32).toInt) ∧ (((u.2.1 4 0) : Int32).toInt = 0 ∨ ((u.2.1 3 0) : Int32).toInt = 27) ∧ (((u.2.1 4 0) : Int32).toInt ≠ 0 ∨ (p3 : Int32).toInt = 0) ∧ ((p1 : Int32).toInt ≤ ((u.2.1 2 0) : Int32).toInt) ∧ True) (fun u => [(h0, .inr (5, [.ref h1, .int (u.2.1 2 0), .int (u.2.1 3 0), .int (u.2.1 4 0), .int (u.2.1 5 0), .ref h5, w0, .int p5, .int p6])), (h1, .inr (8, [w1, .int p7, .int p8, .ref h2, .ref h3, .ref h4])), (h2, .inl (cy 1, 901, .inl f0)), (h3, .inl (cy 1, 901, .inl f1)), (h4, .inl (cy 1, 901, .inl f2)), (h5, .inr (3, [.int p9, .int p0, .int p10, .int p11, w2, w3, w4, w5, .ref h6, .ref h7, .ref h8, .ref h9])), (h6, .inl (cy 1, 10, .inl (u.2.1 0))), (h7, .inl (cy 1, 10, .inl (u.2.1 1))), (h8, .inl (cy 1, 10, .inl (u.2.1 6))), (h9, .inl (cy 1, 10, .inl (u.2.1 7)))]) 0 0 := by
  refine q_ent (own := RX5) (by decide) rfl (Nat.le_of_ble_eq_true rfl) (fun p e s m below meth c ls X hr hlk hnm hK hT h hA hl => ?_)
  obtain ⟨hx, hb, hml, hown, ht⟩ := id X
  replace hl : lv_has ls 2 [(0, .ref h0), (1, .int p0)] := hl
  refine lv_aload_n hx hb dX5_readFlag_0 rfl (lv_at hl 0 rfl) ?_
  refine q_get X hK h 0 rfl rfl wf_5 2 (by decide) rfl wm_1_146 dX5_readFlag_1 ?_
  by_cases c_1 : p2 = 14
  · have ec_1 : (p2).toInt = 14 := by rw [c_1]; decide
    refine lv_tableIn (off := 32) (tgt := 36) hx hb dX5_readFlag_4 (by rw [c_1]; decide +kernel) (by rw [c_1]; decide +kernel) (by rw [c_1]; decide +kernel) (by decide) ?_
    refine lv_aload_n hx hb dX5_readFlag_36 rfl (lv_at hl 0 rfl) ?_
    refine q_callVv (rest := []) (wr := [(h4, .inl (cy 1, 901, .inl f2)), (h5, .inr (3, [.int p9, .int p0, .int p10, .int p11, w2, w3, w4, w5, .ref h6, .ref h7, .ref h8, .ref h9])), (h6, .inl (cy 1, 10, .inl f3)), (h7, .inl (cy 1, 10, .inl f4)), (h8, .inl (cy 1, 10, .inl f5)), (h9, .inl (cy 1, 10, .inl f6))]) X hK hT hA h (fun sz => gX5_advance_9820dfe l D cy h0 h1 h2 h3 p1 p2 p3 p4 (.ref h5) w0 p5 p6 w1 p7 p8 (.ref h4) f0 f1 hp1 (i_rng _) (i_rng _) (i_rng _) hp5 (i_rng _) hp7 hp8 (hpre0) (by omega) (by omega) sz) wm_3_68 wm_3_71 wm_1_2 hd_X5_advance wm_3_70 wp_1_8 (ci := 5) (q0 := 0) rfl rfl ⟨Nat.le_of_ble_eq_true rfl, Nat.le_of_ble_eq_true rfl⟩ hl.1 rfl (Nat.le_of_ble_eq_true rfl) dX5_readFlag_37 ⟨Nat.le_of_ble_eq_true rfl, Nat.le_of_ble_eq_true rfl⟩ [0, 1, 2, 3] [4, 5, 6, 7, 8, 9] rfl rfl (by decide) rfl rfl (fun u_2 H locs w_2 h_2 => ?_)
    clear h
    obtain ⟨w2_0, w2_1, w2_2, w2_3, y2_0, y2_1, y2_2, y2_3, y2_4, y2_5, _⟩ := w_2
    replace h_2 : qW D _ _ [(h4, .inl (cy 1, 901, .inl f2)), (h5, .inr (3, [.int p9, .int p0, .int p10, .int p11, w2, w3, w4, w5, .ref h6, .ref h7, .ref h8, .ref h9])), (h6, .inl (cy 1, 10, .inl f3)), (h7, .inl (cy 1, 10, .inl f4)), (h8, .inl (cy 1, 10, .inl f5)), (h9, .inl (cy 1, 10, .inl f6)), (h0, .inr (5, [.ref h1, .int (u_2.2.1 0 0), .int (u_2.2.1 1 0), .int (u_2.2.1 2 0), .int (u_2.2.1 3 0), .ref h5, w0, .int p5, .int p6])), (h1, .inr (8, [w1, .int p7, .int p8, .ref h2, .ref h3, .ref h4])), (h2, .inl (cy 1, 901, .inl f0)), (h3, .inl (cy 1, 901, .inl f1))] _ _ := h_2
    refine lv_aload_n hx hb dX5_readFlag_40 rfl (lv_at hl 0 rfl) ?_
    refine q_get X hK h_2 6 rfl rfl wf_5 5 (by decide) rfl wm_1_151 dX5_readFlag_41 ?_
    refine q_get X hK h_2 1 rfl rfl wf_3 8 (by decide) rfl wm_1_108 dX5_readFlag_44 ?_
    refine lv_iload_n hx hb dX5_readFlag_47 rfl (lv_at hl 1 rfl) ?_
    refine lv_aload_n hx hb dX5_readFlag_48 rfl (lv_at hl 0 rfl) ?_
    refine lv_iconst (v := 0) hx hb dX5_readFlag_49 (by decide) ?_
    refine lv_sipush (v := 999) hx hb dX5_readFlag_50 (by decide) ?_
    refine q_callVi (rest := [.int p0, .ref h6]) (wr := [(h5, .inr (3, [.int p9, .int p0, .int p10, .int p11, w2, w3, w4, w5, .ref h6, .ref h7, .ref h8, .ref h9])), (h6, .inl (cy 1, 10, .inl f3)), (h7, .inl (cy 1, 10, .inl f4)), (h8, .inl (cy 1, 10, .inl f5)), (h9, .inl (cy 1, 10, .inl f6))]) X hK hT hA h_2 (fun sz => gX5_takeNumber_7db443e l D cy h0 h1 h2 h3 h4 (u_2.2.1 0 0) (u_2.2.1 1 0) (u_2.2.1 2 0) (u_2.2.1 3 0) (.ref h5) w0 p5 p6 w1 p7 p8 f0 f1 f2 w2_0 (i_rng _) (i_rng _) (i_rng _) hp5 (i_rng _) hp7 hp8 (hpre0) (by omega) (by omega) (by omega) sz) wm_3_80 wm_3_83 wm_1_2 hd_X5_takeNumber wm_3_82 wp_1_11 (ci := 5) (q0 := 0) rfl rfl ⟨Nat.le_of_ble_eq_true rfl, Nat.le_of_ble_eq_true rfl⟩ hl.1 rfl (Nat.le_of_ble_eq_true rfl) dX5_readFlag_53 ⟨Nat.le_of_ble_eq_true rfl, Nat.le_of_ble_eq_true rfl⟩ [6, 7, 8, 9, 0] [1, 2, 3, 4, 5] rfl rfl (by decide) rfl rfl (fun r_3 u_3 H locs w_3 h_3 => ?_)
    clear h_2
    obtain ⟨wr_3, w3_0, w3_1, w3_2, w3_3, y3_0, y3_1, y3_2, y3_3, y3_4, y3_5, _⟩ := w_3
    have lq_3_1 : (0 : Int32).toInt = 0 := (by decide)
    have lq_3_2 : (999 : Int32).toInt = 999 := (by decide)
    replace h_3 : qW D _ _ [(h5, .inr (3, [.int p9, .int p0, .int p10, .int p11, w2, w3, w4, w5, .ref h6, .ref h7, .ref h8, .ref h9])), (h6, .inl (cy 1, 10, .inl f3)), (h7, .inl (cy 1, 10, .inl f4)), (h8, .inl (cy 1, 10, .inl f5)), (h9, .inl (cy 1, 10, .inl f6)), (h0, .inr (5, [.ref h1, .int (u_3.2.1 0 0), .int (u_3.2.1 1 0), .int (u_3.2.1 2 0), .int (u_3.2.1 3 0), .ref h5, w0, .int p5, .int p6])), (h1, .inr (8, [w1, .int p7, .int p8, .ref h2, .ref h3, .ref h4])), (h2, .inl (cy 1, 901, .inl f0)), (h3, .inl (cy 1, 901, .inl f1)), (h4, .inl (cy 1, 901, .inl f2))] _ _ := h_3
    refine q_iast X hK h_3 1 rfl (i_in rfl (by omega) (by omega)) dX5_readFlag_56 (fun H locs h_5 => ?_)
    clear h_3
    replace h_5 : qW D _ _ [(h5, .inr (3, [.int p9, .int p0, .int p10, .int p11, w2, w3, w4, w5, .ref h6, .ref h7, .ref h8, .ref h9])), (h6, .inl (cy 1, 10, .inl (upd f3 (Int32.toNatClampNeg p0) r_3))), (h7, .inl (cy 1, 10, .inl f4)), (h8, .inl (cy 1, 10, .inl f5)), (h9, .inl (cy 1, 10, .inl f6)), (h0, .inr (5, [.ref h1, .int (u_3.2.1 0 0), .int (u_3.2.1 1 0), .int (u_3.2.1 2 0), .int (u_3.2.1 3 0), .ref h5, w0, .int p5, .int p6])), (h1, .inr (8, [w1, .int p7, .int p8, .ref h2, .ref h3, .ref h4])), (h2, .inl (cy 1, 901, .inl f0)), (h3, .inl (cy 1, 901, .inl f1)), (h4, .inl (cy 1, 901, .inl f2))] _ _ := h_5
    obtain ⟨F_4, eF_4⟩ : ∃ z, (upd f3 (Int32.toNatClampNeg p0) r_3) = z := ⟨_, rfl⟩
    rw [eF_4] at h_5
    clear eF_4
    refine lv_aload_n hx hb dX5_readFlag_57 rfl (lv_at hl 0 rfl) ?_
    refine lv_bipush (v := 15) hx hb dX5_readFlag_58 (by decide) ?_
    refine q_callVv (rest := []) (wr := [(h5, .inr (3, [.int p9, .int p0, .int p10, .int p11, w2, w3, w4, w5, .ref h6, .ref h7, .ref h8, .ref h9])), (h6, .inl (cy 1, 10, .inl F_4)), (h7, .inl (cy 1, 10, .inl f4)), (h8, .inl (cy 1, 10, .inl f5)), (h9, .inl (cy 1, 10, .inl f6)), (h4, .inl (cy 1, 901, .inl f2))]) X hK hT hA h_5 (fun sz => gX5_take_4548c15 l D cy h0 h1 h2 h3 (u_3.2.1 0 0) (u_3.2.1 1 0) (u_3.2.1 2 0) (u_3.2.1 3 0) (.ref h5) w0 p5 p6 w1 p7 p8 (.ref h4) f0 f1 w3_0 (i_rng _) (i_rng _) (i_rng _) hp5 (i_rng _) hp7 hp8 (hpre0) (by omega) (by omega) (by omega) (by have q0 : (15 : Int32).toInt = 15 := (by decide); omega) sz) wm_3_72 wm_3_75 wm_1_2 hd_X5_take wm_3_74 wp_1_9 (ci := 5) (q0 := 0) rfl rfl ⟨Nat.le_of_ble_eq_true rfl, Nat.le_of_ble_eq_true rfl⟩ hl.1 rfl (Nat.le_of_ble_eq_true rfl) dX5_readFlag_60 ⟨Nat.le_of_ble_eq_true rfl, Nat.le_of_ble_eq_true rfl⟩ [5, 6, 7, 8] [0, 1, 2, 3, 4, 9] rfl rfl (by decide) rfl rfl (fun u_6 H locs w_6 h_6 => ?_)
    clear h_5
    obtain ⟨w6_0, w6_1, w6_2, w6_3, y6_0, y6_1, y6_2, y6_3, y6_4, y6_5, _⟩ := w_6
    have lq_6_1 : (15 : Int32).toInt = 15 := (by decide)
    replace h_6 : qW D _ _ [(h5, .inr (3, [.int p9, .int p0, .int p10, .int p11, w2, w3, w4, w5, .ref h6, .ref h7, .ref h8, .ref h9])), (h6, .inl (cy 1, 10, .inl F_4)), (h7, .inl (cy 1, 10, .inl f4)), (h8, .inl (cy 1, 10, .inl f5)), (h9, .inl (cy 1, 10, .inl f6)), (h4, .inl (cy 1, 901, .inl f2)), (h0, .inr (5, [.ref h1, .int (u_6.2.1 3 0), .int (u_6.2.1 0 0), .int (u_6.2.1 1 0), .int (u_6.2.1 2 0), .ref h5, w0, .int p5, .int p6])), (h1, .inr (8, [w1, .int p7, .int p8, .ref h2, .ref h3, .ref h4])), (h2, .inl (cy 1, 901, .inl f0)), (h3, .inl (cy 1, 901, .inl f1))] _ _ := h_6
    refine lv_aload_n hx hb dX5_readFlag_63 rfl (lv_at hl 0 rfl) ?_
    refine q_get X hK h_6 6 rfl rfl wf_5 5 (by decide) rfl wm_1_151 dX5_readFlag_64 ?_
    refine q_get X hK h_6 0 rfl rfl wf_3 9 (by decide) rfl wm_1_112 dX5_readFlag_67 ?_
    refine lv_iload_n hx hb dX5_readFlag_70 rfl (lv_at hl 1 rfl) ?_
    refine lv_aload_n hx hb dX5_readFlag_71 rfl (lv_at hl 0 rfl) ?_
    refine lv_aload_n hx hb dX5_readFlag_72 rfl (lv_at hl 0 rfl) ?_
    refine q_get X hK h_6 6 rfl rfl wf_5 5 (by decide) rfl wm_1_151 dX5_readFlag_73 ?_
    refine q_get X hK h_6 0 rfl rfl wf_3 8 (by decide) rfl wm_1_108 dX5_readFlag_76 ?_
    refine lv_iload_n hx hb dX5_readFlag_79 rfl (lv_at hl 1 rfl) ?_
    refine q_iald X hK h_6 1 rfl (i_in rfl (by omega) (by omega)) dX5_readFlag_80 ?_
    refine q_any (fun z_7 hz_7 => ?_)
    refine lv_sipush (v := 999) hx hb dX5_readFlag_81 (by decide) ?_
    refine q_callVi (rest := [.int p0, .ref h7]) (wr := [(h5, .inr (3, [.int p9, .int p0, .int p10, .int p11, w2, w3, w4, w5, .ref h6, .ref h7, .ref h8, .ref h9])), (h6, .inl (cy 1, 10, .inl F_4)), (h7, .inl (cy 1, 10, .inl f4)), (h8, .inl (cy 1, 10, .inl f5)), (h9, .inl (cy 1, 10, .inl f6))]) X hK hT hA h_6 (fun sz => gX5_takeNumber_f1ade24 l D cy h0 h1 h2 h3 h4 z_7 (u_6.2.1 3 0) (u_6.2.1 0 0) (u_6.2.1 1 0) (u_6.2.1 2 0) (.ref h5) w0 p5 p6 w1 p7 p8 f0 f1 f2 (i_rng _) w6_3 (i_rng _) (i_rng _) (i_rng _) hp5 (i_rng _) hp7 hp8 (hpre0) (by omega) (by omega) (by omega) sz) wm_3_80 wm_3_83 wm_1_2 hd_X5_takeNumber wm_3_82 wp_1_11 (ci := 5) (q0 := 0) rfl rfl ⟨Nat.le_of_ble_eq_true rfl, Nat.le_of_ble_eq_true rfl⟩ hl.1 rfl (Nat.le_of_ble_eq_true rfl) dX5_readFlag_84 ⟨Nat.le_of_ble_eq_true rfl, Nat.le_of_ble_eq_true rfl⟩ [6, 7, 8, 9, 5] [0, 1, 2, 3, 4] rfl rfl (by decide) rfl rfl (fun r_8 u_8 H locs w_8 h_8 => ?_)
    clear h_6
    obtain ⟨wr_8, w8_0, w8_1, w8_2, w8_3, y8_0, y8_1, y8_2, y8_3, y8_4, y8_5, _⟩ := w_8
    have lq_8_2 : (999 : Int32).toInt = 999 := (by decide)
    replace h_8 : qW D _ _ [(h5, .inr (3, [.int p9, .int p0, .int p10, .int p11, w2, w3, w4, w5, .ref h6, .ref h7, .ref h8, .ref h9])), (h6, .inl (cy 1, 10, .inl F_4)), (h7, .inl (cy 1, 10, .inl f4)), (h8, .inl (cy 1, 10, .inl f5)), (h9, .inl (cy 1, 10, .inl f6)), (h0, .inr (5, [.ref h1, .int (u_8.2.1 0 0), .int (u_8.2.1 1 0), .int (u_8.2.1 2 0), .int (u_8.2.1 3 0), .ref h5, w0, .int p5, .int p6])), (h1, .inr (8, [w1, .int p7, .int p8, .ref h2, .ref h3, .ref h4])), (h2, .inl (cy 1, 901, .inl f0)), (h3, .inl (cy 1, 901, .inl f1)), (h4, .inl (cy 1, 901, .inl f2))] _ _ := h_8
    refine q_iast X hK h_8 2 rfl (i_in rfl (by omega) (by omega)) dX5_readFlag_87 (fun H locs h_10 => ?_)
    clear h_8
    replace h_10 : qW D _ _ [(h5, .inr (3, [.int p9, .int p0, .int p10, .int p11, w2, w3, w4, w5, .ref h6, .ref h7, .ref h8, .ref h9])), (h6, .inl (cy 1, 10, .inl F_4)), (h7, .inl (cy 1, 10, .inl (upd f4 (Int32.toNatClampNeg p0) r_8))), (h8, .inl (cy 1, 10, .inl f5)), (h9, .inl (cy 1, 10, .inl f6)), (h0, .inr (5, [.ref h1, .int (u_8.2.1 0 0), .int (u_8.2.1 1 0), .int (u_8.2.1 2 0), .int (u_8.2.1 3 0), .ref h5, w0, .int p5, .int p6])), (h1, .inr (8, [w1, .int p7, .int p8, .ref h2, .ref h3, .ref h4])), (h2, .inl (cy 1, 901, .inl f0)), (h3, .inl (cy 1, 901, .inl f1)), (h4, .inl (cy 1, 901, .inl f2))] _ _ := h_10
    obtain ⟨F_9, eF_9⟩ : ∃ z, (upd f4 (Int32.toNatClampNeg p0) r_8) = z := ⟨_, rfl⟩
    rw [eF_9] at h_10
    clear eF_9
    refine lv_iconst (v := 1) hx hb dX5_readFlag_88 (by decide) ?_
    exact q_iret X hr hlk hK h_10 rfl (fun _ => 0, fun k => List.getD [F_4, F_9, (fun _ => (u_8.2.1 0 0)), (fun _ => (u_8.2.1 1 0)), (fun _ => (u_8.2.1 2 0)), (fun _ => (u_8.2.1 3 0)), f5, f6] k (fun _ => 0), fun _ _ => 0) ⟨⟨by decide +kernel, by decide +kernel⟩, (w8_0 : (-1) ≤ ((u_8.2.1 0 0) : Int32).toInt ∧ ((u_8.2.1 0 0) : Int32).toInt ≤ 900), (w8_1 : (-2147483648) ≤ ((u_8.2.1 1 0) : Int32).toInt ∧ ((u_8.2.1 1 0) : Int32).toInt ≤ 2147483647), (w8_2 : (-2147483648) ≤ ((u_8.2.1 2 0) : Int32).toInt ∧ ((u_8.2.1 2 0) : Int32).toInt ≤ 2147483647), (w8_3 : (-2147483648) ≤ ((u_8.2.1 3 0) : Int32).toInt ∧ ((u_8.2.1 3 0) : Int32).toInt ≤ 2147483647), (show 0 ≤ ((u_8.2.1 0 0) : Int32).toInt ∧ ((u_8.2.1 0 0) : Int32).toInt < (p8 : Int32).toInt from by omega), (show ((u_8.2.1 2 0) : Int32).toInt ≠ 0 ∨ ((u_8.2.1 1 0) : Int32).toInt = 26 ∨ ((u_8.2.1 1 0) : Int32).toInt = 27 ∨ ((u_8.2.1 0 0) : Int32).toInt + 1 < (p8 : Int32).toInt from by omega), (show ((u_8.2.1 2 0) : Int32).toInt = 0 ∨ ((u_8.2.1 1 0) : Int32).toInt = 27 from by omega), (show ((u_8.2.1 2 0) : Int32).toInt ≠ 0 ∨ (p3 : Int32).toInt = 0 from by omega), (show (p1 : Int32).toInt ≤ ((u_8.2.1 0 0) : Int32).toInt from by omega), trivial⟩ [5, 6, 7, 8, 9, 0, 1, 2, 3, 4] rfl rfl dX5_readFlag_89 (Nat.le_of_ble_eq_true rfl) (Nat.le_of_ble_eq_true rfl)
  by_cases c_11 : p2 = 15
  · have ec_11 : (p2).toInt = 15 := by rw [c_11]; decide
    refine lv_tableIn (off := 130) (tgt := 134) hx hb dX5_readFlag_4 (by rw [c_11]; decide +kernel) (by rw [c_11]; decide +kernel) (by rw [c_11]; decide +kernel) (by decide) ?_
    refine lv_iconst (v := 0) hx hb dX5_readFlag_134 (by decide) ?_
    exact q_iret X hr hlk hK h rfl (fun _ => 0, fun k => List.getD [f3, f4, (fun _ => p1), (fun _ => p2), (fun _ => p3), (fun _ => p4), f5, f6] k (fun _ => 0), fun _ _ => 0) ⟨⟨by decide +kernel, by decide +kernel⟩, (hp1 : (-1) ≤ (p1 : Int32).toInt ∧ (p1 : Int32).toInt ≤ 900), (hp2 : (-2147483648) ≤ (p2 : Int32).toInt ∧ (p2 : Int32).toInt ≤ 2147483647), (hp3 : (-2147483648) ≤ (p3 : Int32).toInt ∧ (p3 : Int32).toInt ≤ 2147483647), (hp4 : (-2147483648) ≤ (p4 : Int32).toInt ∧ (p4 : Int32).toInt ≤ 2147483647), (show 0 ≤ (p1 : Int32).toInt ∧ (p1 : Int32).toInt < (p8 : Int32).toInt from by omega), (show (p3 : Int32).toInt ≠ 0 ∨ (p2 : Int32).toInt = 26 ∨ (p2 : Int32).toInt = 27 ∨ (p1 : Int32).toInt + 1 < (p8 : Int32).toInt from by omega), (show (p3 : Int32).toInt = 0 ∨ (p2 : Int32).toInt = 27 from by omega), (show (p3 : Int32).toInt ≠ 0 ∨ (p3 : Int32).toInt = 0 from by omega), (show (p1 : Int32).toInt ≤ (p1 : Int32).toInt from by omega), trivial⟩ [0, 1, 2, 3, 4, 5, 6, 7, 8, 9] rfl rfl dX5_readFlag_135 (Nat.le_of_ble_eq_true rfl) (Nat.le_of_ble_eq_true rfl)
  by_cases c_12 : p2 = 16
  · have ec_12 : (p2).toInt = 16 := by rw [c_12]; decide
    refine lv_tableIn (off := 86) (tgt := 90) hx hb dX5_readFlag_4 (by rw [c_12]; decide +kernel) (by rw [c_12]; decide +kernel) (by rw [c_12]; decide +kernel) (by decide) ?_
    refine lv_aload_n hx hb dX5_readFlag_90 rfl (lv_at hl 0 rfl) ?_
    refine q_callVv (rest := []) (wr := [(h4, .inl (cy 1, 901, .inl f2)), (h5, .inr (3, [.int p9, .int p0, .int p10, .int p11, w2, w3, w4, w5, .ref h6, .ref h7, .ref h8, .ref h9])), (h6, .inl (cy 1, 10, .inl f3)), (h7, .inl (cy 1, 10, .inl f4)), (h8, .inl (cy 1, 10, .inl f5)), (h9, .inl (cy 1, 10, .inl f6))]) X hK hT hA h (fun sz => gX5_advance_9820dfe l D cy h0 h1 h2 h3 p1 p2 p3 p4 (.ref h5) w0 p5 p6 w1 p7 p8 (.ref h4) f0 f1 hp1 (i_rng _) (i_rng _) (i_rng _) hp5 (i_rng _) hp7 hp8 (hpre0) (by omega) (by omega) sz) wm_3_68 wm_3_71 wm_1_2 hd_X5_advance wm_3_70 wp_1_8 (ci := 5) (q0 := 0) rfl rfl ⟨Nat.le_of_ble_eq_true rfl, Nat.le_of_ble_eq_true rfl⟩ hl.1 rfl (Nat.le_of_ble_eq_true rfl) dX5_readFlag_91 ⟨Nat.le_of_ble_eq_true rfl, Nat.le_of_ble_eq_true rfl⟩ [0, 1, 2, 3] [4, 5, 6, 7, 8, 9] rfl rfl (by decide) rfl rfl (fun u_13 H locs w_13 h_13 => ?_)
    clear h
    obtain ⟨w13_0, w13_1, w13_2, w13_3, y13_0, y13_1, y13_2, y13_3, y13_4, y13_5, _⟩ := w_13
    replace h_13 : qW D _ _ [(h4, .inl (cy 1, 901, .inl f2)), (h5, .inr (3, [.int p9, .int p0, .int p10, .int p11, w2, w3, w4, w5, .ref h6, .ref h7, .ref h8, .ref h9])), (h6, .inl (cy 1, 10, .inl f3)), (h7, .inl (cy 1, 10, .inl f4)), (h8, .inl (cy 1, 10, .inl f5)), (h9, .inl (cy 1, 10, .inl f6)), (h0, .inr (5, [.ref h1, .int (u_13.2.1 0 0), .int (u_13.2.1 1 0), .int (u_13.2.1 2 0), .int (u_13.2.1 3 0), .ref h5, w0, .int p5, .int p6])), (h1, .inr (8, [w1, .int p7, .int p8, .ref h2, .ref h3, .ref h4])), (h2, .inl (cy 1, 901, .inl f0)), (h3, .inl (cy 1, 901, .inl f1))] _ _ := h_13
    refine lv_aload_n hx hb dX5_readFlag_94 rfl (lv_at hl 0 rfl) ?_
    refine q_get X hK h_13 6 rfl rfl wf_5 5 (by decide) rfl wm_1_151 dX5_readFlag_95 ?_
    refine q_get X hK h_13 1 rfl rfl wf_3 10 (by decide) rfl wm_1_115 dX5_readFlag_98 ?_
    refine lv_iload_n hx hb dX5_readFlag_101 rfl (lv_at hl 1 rfl) ?_
    refine lv_aload_n hx hb dX5_readFlag_102 rfl (lv_at hl 0 rfl) ?_
    refine lv_iconst (v := 0) hx hb dX5_readFlag_103 (by decide) ?_
    refine lv_bipush (v := 10) hx hb dX5_readFlag_104 (by decide) ?_
    refine q_callVi (rest := [.int p0, .ref h8]) (wr := [(h5, .inr (3, [.int p9, .int p0, .int p10, .int p11, w2, w3, w4, w5, .ref h6, .ref h7, .ref h8, .ref h9])), (h6, .inl (cy 1, 10, .inl f3)), (h7, .inl (cy 1, 10, .inl f4)), (h8, .inl (cy 1, 10, .inl f5)), (h9, .inl (cy 1, 10, .inl f6))]) X hK hT hA h_13 (fun sz => gX5_takeNumber_6ae0c88 l D cy h0 h1 h2 h3 h4 (u_13.2.1 0 0) (u_13.2.1 1 0) (u_13.2.1 2 0) (u_13.2.1 3 0) (.ref h5) w0 p5 p6 w1 p7 p8 f0 f1 f2 w13_0 (i_rng _) (i_rng _) (i_rng _) hp5 (i_rng _) hp7 hp8 (hpre0) (by omega) (by omega) (by omega) sz) wm_3_80 wm_3_83 wm_1_2 hd_X5_takeNumber wm_3_82 wp_1_11 (ci := 5) (q0 := 0) rfl rfl ⟨Nat.le_of_ble_eq_true rfl, Nat.le_of_ble_eq_true rfl⟩ hl.1 rfl (Nat.le_of_ble_eq_true rfl) dX5_readFlag_106 ⟨Nat.le_of_ble_eq_true rfl, Nat.le_of_ble_eq_true rfl⟩ [6, 7, 8, 9, 0] [1, 2, 3, 4, 5] rfl rfl (by decide) rfl rfl (fun r_14 u_14 H locs w_14 h_14 => ?_)
    clear h_13
    obtain ⟨wr_14, w14_0, w14_1, w14_2, w14_3, y14_0, y14_1, y14_2, y14_3, y14_4, y14_5, _⟩ := w_14
    have lq_14_1 : (0 : Int32).toInt = 0 := (by decide)
    have lq_14_2 : (10 : Int32).toInt = 10 := (by decide)
    replace h_14 : qW D _ _ [(h5, .inr (3, [.int p9, .int p0, .int p10, .int p11, w2, w3, w4, w5, .ref h6, .ref h7, .ref h8, .ref h9])), (h6, .inl (cy 1, 10, .inl f3)), (h7, .inl (cy 1, 10, .inl f4)), (h8, .inl (cy 1, 10, .inl f5)), (h9, .inl (cy 1, 10, .inl f6)), (h0, .inr (5, [.ref h1, .int (u_14.2.1 0 0), .int (u_14.2.1 1 0), .int (u_14.2.1 2 0), .int (u_14.2.1 3 0), .ref h5, w0, .int p5, .int p6])), (h1, .inr (8, [w1, .int p7, .int p8, .ref h2, .ref h3, .ref h4])), (h2, .inl (cy 1, 901, .inl f0)), (h3, .inl (cy 1, 901, .inl f1)), (h4, .inl (cy 1, 901, .inl f2))] _ _ := h_14
    refine q_iast X hK h_14 3 rfl (i_in rfl (by omega) (by omega)) dX5_readFlag_109 (fun H locs h_16 => ?_)
    clear h_14
    replace h_16 : qW D _ _ [(h5, .inr (3, [.int p9, .int p0, .int p10, .int p11, w2, w3, w4, w5, .ref h6, .ref h7, .ref h8, .ref h9])), (h6, .inl (cy 1, 10, .inl f3)), (h7, .inl (cy 1, 10, .inl f4)), (h8, .inl (cy 1, 10, .inl (upd f5 (Int32.toNatClampNeg p0) r_14))), (h9, .inl (cy 1, 10, .inl f6)), (h0, .inr (5, [.ref h1, .int (u_14.2.1 0 0), .int (u_14.2.1 1 0), .int (u_14.2.1 2 0), .int (u_14.2.1 3 0), .ref h5, w0, .int p5, .int p6])), (h1, .inr (8, [w1, .int p7, .int p8, .ref h2, .ref h3, .ref h4])), (h2, .inl (cy 1, 901, .inl f0)), (h3, .inl (cy 1, 901, .inl f1)), (h4, .inl (cy 1, 901, .inl f2))] _ _ := h_16
    obtain ⟨F_15, eF_15⟩ : ∃ z, (upd f5 (Int32.toNatClampNeg p0) r_14) = z := ⟨_, rfl⟩
    rw [eF_15] at h_16
    clear eF_15
    refine lv_iconst (v := 1) hx hb dX5_readFlag_110 (by decide) ?_
    exact q_iret X hr hlk hK h_16 rfl (fun _ => 0, fun k => List.getD [f3, f4, (fun _ => (u_14.2.1 0 0)), (fun _ => (u_14.2.1 1 0)), (fun _ => (u_14.2.1 2 0)), (fun _ => (u_14.2.1 3 0)), F_15, f6] k (fun _ => 0), fun _ _ => 0) ⟨⟨by decide +kernel, by decide +kernel⟩, (w14_0 : (-1) ≤ ((u_14.2.1 0 0) : Int32).toInt ∧ ((u_14.2.1 0 0) : Int32).toInt ≤ 900), (w14_1 : (-2147483648) ≤ ((u_14.2.1 1 0) : Int32).toInt ∧ ((u_14.2.1 1 0) : Int32).toInt ≤ 2147483647), (w14_2 : (-2147483648) ≤ ((u_14.2.1 2 0) : Int32).toInt ∧ ((u_14.2.1 2 0) : Int32).toInt ≤ 2147483647), (w14_3 : (-2147483648) ≤ ((u_14.2.1 3 0) : Int32).toInt ∧ ((u_14.2.1 3 0) : Int32).toInt ≤ 2147483647), (show 0 ≤ ((u_14.2.1 0 0) : Int32).toInt ∧ ((u_14.2.1 0 0) : Int32).toInt < (p8 : Int32).toInt from by omega), (show ((u_14.2.1 2 0) : Int32).toInt ≠ 0 ∨ ((u_14.2.1 1 0) : Int32).toInt = 26 ∨ ((u_14.2.1 1 0) : Int32).toInt = 27 ∨ ((u_14.2.1 0 0) : Int32).toInt + 1 < (p8 : Int32).toInt from by omega), (show ((u_14.2.1 2 0) : Int32).toInt = 0 ∨ ((u_14.2.1 1 0) : Int32).toInt = 27 from by omega), (show ((u_14.2.1 2 0) : Int32).toInt ≠ 0 ∨ (p3 : Int32).toInt = 0 from by omega), (show (p1 : Int32).toInt ≤ ((u_14.2.1 0 0) : Int32).toInt from by omega), trivial⟩ [5, 6, 7, 8, 9, 0, 1, 2, 3, 4] rfl rfl dX5_readFlag_111 (Nat.le_of_ble_eq_true rfl) (Nat.le_of_ble_eq_true rfl)
  by_cases c_17 : p2 = 17
  · have ec_17 : (p2).toInt = 17 := by rw [c_17]; decide
    refine lv_tableIn (off := 108) (tgt := 112) hx hb dX5_readFlag_4 (by rw [c_17]; decide +kernel) (by rw [c_17]; decide +kernel) (by rw [c_17]; decide +kernel) (by decide) ?_
    refine lv_aload_n hx hb dX5_readFlag_112 rfl (lv_at hl 0 rfl) ?_
    refine q_callVv (rest := []) (wr := [(h4, .inl (cy 1, 901, .inl f2)), (h5, .inr (3, [.int p9, .int p0, .int p10, .int p11, w2, w3, w4, w5, .ref h6, .ref h7, .ref h8, .ref h9])), (h6, .inl (cy 1, 10, .inl f3)), (h7, .inl (cy 1, 10, .inl f4)), (h8, .inl (cy 1, 10, .inl f5)), (h9, .inl (cy 1, 10, .inl f6))]) X hK hT hA h (fun sz => gX5_advance_9820dfe l D cy h0 h1 h2 h3 p1 p2 p3 p4 (.ref h5) w0 p5 p6 w1 p7 p8 (.ref h4) f0 f1 hp1 (i_rng _) (i_rng _) (i_rng _) hp5 (i_rng _) hp7 hp8 (hpre0) (by omega) (by omega) sz) wm_3_68 wm_3_71 wm_1_2 hd_X5_advance wm_3_70 wp_1_8 (ci := 5) (q0 := 0) rfl rfl ⟨Nat.le_of_ble_eq_true rfl, Nat.le_of_ble_eq_true rfl⟩ hl.1 rfl (Nat.le_of_ble_eq_true rfl) dX5_readFlag_113 ⟨Nat.le_of_ble_eq_true rfl, Nat.le_of_ble_eq_true rfl⟩ [0, 1, 2, 3] [4, 5, 6, 7, 8, 9] rfl rfl (by decide) rfl rfl (fun u_18 H locs w_18 h_18 => ?_)
    clear h
    obtain ⟨w18_0, w18_1, w18_2, w18_3, y18_0, y18_1, y18_2, y18_3, y18_4, y18_5, _⟩ := w_18
    replace h_18 : qW D _ _ [(h4, .inl (cy 1, 901, .inl f2)), (h5, .inr (3, [.int p9, .int p0, .int p10, .int p11, w2, w3, w4, w5, .ref h6, .ref h7, .ref h8, .ref h9])), (h6, .inl (cy 1, 10, .inl f3)), (h7, .inl (cy 1, 10, .inl f4)), (h8, .inl (cy 1, 10, .inl f5)), (h9, .inl (cy 1, 10, .inl f6)), (h0, .inr (5, [.ref h1, .int (u_18.2.1 0 0), .int (u_18.2.1 1 0), .int (u_18.2.1 2 0), .int (u_18.2.1 3 0), .ref h5, w0, .int p5, .int p6])), (h1, .inr (8, [w1, .int p7, .int p8, .ref h2, .ref h3, .ref h4])), (h2, .inl (cy 1, 901, .inl f0)), (h3, .inl (cy 1, 901, .inl f1))] _ _ := h_18
    refine lv_aload_n hx hb dX5_readFlag_116 rfl (lv_at hl 0 rfl) ?_
    refine q_get X hK h_18 6 rfl rfl wf_5 5 (by decide) rfl wm_1_151 dX5_readFlag_117 ?_
    refine q_get X hK h_18 1 rfl rfl wf_3 11 (by decide) rfl wm_1_118 dX5_readFlag_120 ?_
    refine lv_iload_n hx hb dX5_readFlag_123 rfl (lv_at hl 1 rfl) ?_
    refine lv_aload_n hx hb dX5_readFlag_124 rfl (lv_at hl 0 rfl) ?_
    refine lv_iconst (v := 1) hx hb dX5_readFlag_125 (by decide) ?_
    refine lv_bipush (v := 99) hx hb dX5_readFlag_126 (by decide) ?_
    refine q_callVi (rest := [.int p0, .ref h9]) (wr := [(h5, .inr (3, [.int p9, .int p0, .int p10, .int p11, w2, w3, w4, w5, .ref h6, .ref h7, .ref h8, .ref h9])), (h6, .inl (cy 1, 10, .inl f3)), (h7, .inl (cy 1, 10, .inl f4)), (h8, .inl (cy 1, 10, .inl f5)), (h9, .inl (cy 1, 10, .inl f6))]) X hK hT hA h_18 (fun sz => gX5_takeNumber_bbeef74 l D cy h0 h1 h2 h3 h4 (u_18.2.1 0 0) (u_18.2.1 1 0) (u_18.2.1 2 0) (u_18.2.1 3 0) (.ref h5) w0 p5 p6 w1 p7 p8 f0 f1 f2 w18_0 (i_rng _) (i_rng _) (i_rng _) hp5 (i_rng _) hp7 hp8 (hpre0) (by omega) (by omega) (by omega) sz) wm_3_80 wm_3_83 wm_1_2 hd_X5_takeNumber wm_3_82 wp_1_11 (ci := 5) (q0 := 0) rfl rfl ⟨Nat.le_of_ble_eq_true rfl, Nat.le_of_ble_eq_true rfl⟩ hl.1 rfl (Nat.le_of_ble_eq_true rfl) dX5_readFlag_128 ⟨Nat.le_of_ble_eq_true rfl, Nat.le_of_ble_eq_true rfl⟩ [6, 7, 8, 9, 0] [1, 2, 3, 4, 5] rfl rfl (by decide) rfl rfl (fun r_19 u_19 H locs w_19 h_19 => ?_)
    clear h_18
    obtain ⟨wr_19, w19_0, w19_1, w19_2, w19_3, y19_0, y19_1, y19_2, y19_3, y19_4, y19_5, _⟩ := w_19
    have lq_19_1 : (1 : Int32).toInt = 1 := (by decide)
    have lq_19_2 : (99 : Int32).toInt = 99 := (by decide)
    replace h_19 : qW D _ _ [(h5, .inr (3, [.int p9, .int p0, .int p10, .int p11, w2, w3, w4, w5, .ref h6, .ref h7, .ref h8, .ref h9])), (h6, .inl (cy 1, 10, .inl f3)), (h7, .inl (cy 1, 10, .inl f4)), (h8, .inl (cy 1, 10, .inl f5)), (h9, .inl (cy 1, 10, .inl f6)), (h0, .inr (5, [.ref h1, .int (u_19.2.1 0 0), .int (u_19.2.1 1 0), .int (u_19.2.1 2 0), .int (u_19.2.1 3 0), .ref h5, w0, .int p5, .int p6])), (h1, .inr (8, [w1, .int p7, .int p8, .ref h2, .ref h3, .ref h4])), (h2, .inl (cy 1, 901, .inl f0)), (h3, .inl (cy 1, 901, .inl f1)), (h4, .inl (cy 1, 901, .inl f2))] _ _ := h_19
    refine q_iast X hK h_19 4 rfl (i_in rfl (by omega) (by omega)) dX5_readFlag_131 (fun H locs h_21 => ?_)
    clear h_19
    replace h_21 : qW D _ _ [(h5, .inr (3, [.int p9, .int p0, .int p10, .int p11, w2, w3, w4, w5, .ref h6, .ref h7, .ref h8, .ref h9])), (h6, .inl (cy 1, 10, .inl f3)), (h7, .inl (cy 1, 10, .inl f4)), (h8, .inl (cy 1, 10, .inl f5)), (h9, .inl (cy 1, 10, .inl (upd f6 (Int32.toNatClampNeg p0) r_19))), (h0, .inr (5, [.ref h1, .int (u_19.2.1 0 0), .int (u_19.2.1 1 0), .int (u_19.2.1 2 0), .int (u_19.2.1 3 0), .ref h5, w0, .int p5, .int p6])), (h1, .inr (8, [w1, .int p7, .int p8, .ref h2, .ref h3, .ref h4])), (h2, .inl (cy 1, 901, .inl f0)), (h3, .inl (cy 1, 901, .inl f1)), (h4, .inl (cy 1, 901, .inl f2))] _ _ := h_21
    obtain ⟨F_20, eF_20⟩ : ∃ z, (upd f6 (Int32.toNatClampNeg p0) r_19) = z := ⟨_, rfl⟩
    rw [eF_20] at h_21
    clear eF_20
    refine lv_iconst (v := 1) hx hb dX5_readFlag_132 (by decide) ?_
    exact q_iret X hr hlk hK h_21 rfl (fun _ => 0, fun k => List.getD [f3, f4, (fun _ => (u_19.2.1 0 0)), (fun _ => (u_19.2.1 1 0)), (fun _ => (u_19.2.1 2 0)), (fun _ => (u_19.2.1 3 0)), f5, F_20] k (fun _ => 0), fun _ _ => 0) ⟨⟨by decide +kernel, by decide +kernel⟩, (w19_0 : (-1) ≤ ((u_19.2.1 0 0) : Int32).toInt ∧ ((u_19.2.1 0 0) : Int32).toInt ≤ 900), (w19_1 : (-2147483648) ≤ ((u_19.2.1 1 0) : Int32).toInt ∧ ((u_19.2.1 1 0) : Int32).toInt ≤ 2147483647), (w19_2 : (-2147483648) ≤ ((u_19.2.1 2 0) : Int32).toInt ∧ ((u_19.2.1 2 0) : Int32).toInt ≤ 2147483647), (w19_3 : (-2147483648) ≤ ((u_19.2.1 3 0) : Int32).toInt ∧ ((u_19.2.1 3 0) : Int32).toInt ≤ 2147483647), (show 0 ≤ ((u_19.2.1 0 0) : Int32).toInt ∧ ((u_19.2.1 0 0) : Int32).toInt < (p8 : Int32).toInt from by omega), (show ((u_19.2.1 2 0) : Int32).toInt ≠ 0 ∨ ((u_19.2.1 1 0) : Int32).toInt = 26 ∨ ((u_19.2.1 1 0) : Int32).toInt = 27 ∨ ((u_19.2.1 0 0) : Int32).toInt + 1 < (p8 : Int32).toInt from by omega), (show ((u_19.2.1 2 0) : Int32).toInt = 0 ∨ ((u_19.2.1 1 0) : Int32).toInt = 27 from by omega), (show ((u_19.2.1 2 0) : Int32).toInt ≠ 0 ∨ (p3 : Int32).toInt = 0 from by omega), (show (p1 : Int32).toInt ≤ ((u_19.2.1 0 0) : Int32).toInt from by omega), trivial⟩ [5, 6, 7, 8, 9, 0, 1, 2, 3, 4] rfl rfl dX5_readFlag_133 (Nat.le_of_ble_eq_true rfl) (Nat.le_of_ble_eq_true rfl)
  have nc_1 := lv_neT c_1 (show (14 : Int32).toInt = 14 by decide)
  have nc_11 := lv_neT c_11 (show (15 : Int32).toInt = 15 by decide)
  have nc_12 := lv_neT c_12 (show (16 : Int32).toInt = 16 by decide)
  have nc_17 := lv_neT c_17 (show (17 : Int32).toInt = 17 by decide)
  refine lv_tableOut (tgt := 134) hx hb dX5_readFlag_4 (by omega) (by decide) ?_
  refine lv_iconst (v := 0) hx hb dX5_readFlag_134 (by decide) ?_
  exact q_iret X hr hlk hK h rfl (fun _ => 0, fun k => List.getD [f3, f4, (fun _ => p1), (fun _ => p2), (fun _ => p3), (fun _ => p4), f5, f6] k (fun _ => 0), fun _ _ => 0) ⟨⟨by decide +kernel, by decide +kernel⟩, (hp1 : (-1) ≤ (p1 : Int32).toInt ∧ (p1 : Int32).toInt ≤ 900), (hp2 : (-2147483648) ≤ (p2 : Int32).toInt ∧ (p2 : Int32).toInt ≤ 2147483647), (hp3 : (-2147483648) ≤ (p3 : Int32).toInt ∧ (p3 : Int32).toInt ≤ 2147483647), (hp4 : (-2147483648) ≤ (p4 : Int32).toInt ∧ (p4 : Int32).toInt ≤ 2147483647), (show 0 ≤ (p1 : Int32).toInt ∧ (p1 : Int32).toInt < (p8 : Int32).toInt from by omega), (show (p3 : Int32).toInt ≠ 0 ∨ (p2 : Int32).toInt = 26 ∨ (p2 : Int32).toInt = 27 ∨ (p1 : Int32).toInt + 1 < (p8 : Int32).toInt from by omega), (show (p3 : Int32).toInt = 0 ∨ (p2 : Int32).toInt = 27 from by omega), (show (p3 : Int32).toInt ≠ 0 ∨ (p3 : Int32).toInt = 0 from by omega), (show (p1 : Int32).toInt ≤ (p1 : Int32).toInt from by omega), trivial⟩ [0, 1, 2, 3, 4, 5, 6, 7, 8, 9] rfl rfl dX5_readFlag_135 (Nat.le_of_ble_eq_true rfl) (Nat.le_of_ble_eq_true rfl)
set_option maxHeartbeats 4000000 in
set_option maxRecDepth 100000 in
theorem gX5_readPerson_fb208ee (l : Launch) (D : va_G) (cy : Nat → ClassId) (h0 : Nat) (h1 : Nat) (h2 : Nat) (h3 : Nat) (h4 : Nat) (h5 : Nat) (h6 : Nat) (h7 : Nat) (h8 : Nat) (h9 : Nat) (h10 : Nat) (p0 : Int32) (p1 : Int32) (p2 : Int32) (p3 : Int32) (w0 : Value) (p4 : Int32) (p5 : Int32) (w1 : Value) (p6 : Int32) (p7 : Int32) (f0 : Nat → Int32) (f1 : Nat → Int32) (f2 : Nat → Int32) (p8 : Int32) (p9 : Int32) (p10 : Int32) (p11 : Int32) (w2 : Value) (w3 : Value) (w4 : Value) (f3 : Nat → Int32) (f4 : Nat → Int32) (f5 : Nat → Int32) (f6 : Nat → Int32) (f7 : Nat → Int32) (hp0 : (-1) ≤ (p0).toInt ∧ (p0).toInt ≤ 900) (hp1 : (-2147483648) ≤ (p1).toInt ∧ (p1).toInt ≤ 2147483647) (hp2 : (-2147483648) ≤ (p2).toInt ∧ (p2).toInt ≤ 2147483647) (hp3 : (-2147483648) ≤ (p3).toInt ∧ (p3).toInt ≤ 2147483647) (hp4 : 0 ≤ (p4).toInt ∧ (p4).toInt ≤ 900) (hp5 : (-2147483648) ≤ (p5).toInt ∧ (p5).toInt ≤ 2147483647) (hp6 : 0 ≤ (p6).toInt ∧ (p6).toInt ≤ 900) (hp7 : 0 ≤ (p7).toInt ∧ (p7).toInt ≤ 901) (hp8 : 1 ≤ (p8).toInt ∧ (p8).toInt ≤ 3) (hp9 : 0 ≤ (p9).toInt ∧ (p9).toInt ≤ 10) (hp10 : (-2147483648) ≤ (p10).toInt ∧ (p10).toInt ≤ 2147483647) (hp11 : (-2147483648) ≤ (p11).toInt ∧ (p11).toInt ≤ 2147483647) (rf3 : RG f3 10 0 999) (hpre0 : KZ f0 (p7 : Int32).toInt) (hpre1 : 0 ≤ (p0 : Int32).toInt ∧ (p0 : Int32).toInt < (p7 : Int32).toInt) (hpre2 : (p2 : Int32).toInt ≠ 0 ∨ (p1 : Int32).toInt = 26 ∨ (p1 : Int32).toInt = 27 ∨ (p0 : Int32).toInt + 1 < (p7 : Int32).toInt) (hpre3 : (p2 : Int32).toInt = 0 ∨ (p1 : Int32).toInt = 27) (hpre4 : (p1 : Int32).toInt ≠ 26 ∧ (p1 : Int32).toInt ≠ 27) (sz : Nat) : MV l yX5_readPerson cX5_readPerson 5 { frames := 3, cells := 0, slots := 0, locals := 65 } [.ref h0] D cy [(h0, .inr (5, [.ref h1, .int p0, .int p1, .int p2, .int p3, .ref h5, w0, .int p4, .int p5])), (h1, .inr (8, [w1, .int p6, .int p7, .ref h2, .ref h3, .ref h4])), (h2, .inl (cy 1, 901, .inl f0)), (h3, .inl (cy 1, 901, .inl f1)), (h4, .inl (cy 1, 901, .inl f2)), (h5, .inr (3, [.int p8, .int p9, .int p10, .int p11, w2, w3, w4, .ref h6, .ref h7, .ref h8, .ref h9, .ref h10])), (h6, .inl (cy 1, 10, .inl f3)), (h7, .inl (cy 1, 10, .inl f4)), (h8, .inl (cy 1, 10, .inl f5)), (h9, .inl (cy 1, 10, .inl f6)), (h10, .inl (cy 1, 10, .inl f7))] sz (fun u => (1 ≤ (u.2.1 0 0).toInt ∧ (u.2.1 0 0).toInt ≤ 10) ∧ RG (u.2.1 1) 10 0 999 ∧ ((-1) ≤ (u.2.1 6 0).toInt ∧ (u.2.1 6 0).toInt ≤ 900) ∧ ((-2147483648) ≤ (u.2.1 7 0).toInt ∧ (u.2.1 7 0).toInt ≤ 2147483647) ∧ ((-2147483648) ≤ (u.2.1 8 0).toInt ∧ (u.2.1 8 0).toInt ≤ 2147483647) ∧ ((-2147483648) ≤ (u.2.1 9 0).toInt ∧ (u.2.1 9 0).toInt ≤ 2147483647) ∧ (0 ≤ ((u.2.1 6 0) : Int32).toInt ∧ ((u.2.1 6 0) : Int32).toInt < (p7 : Int32).toInt) ∧ (((u.2.1 8 0) : Int32).toInt ≠ 0 ∨ ((u.2.1 7 0) : Int32).toInt = 26 ∨ ((u.2.1 7 0) : Int32).toInt = 27 ∨ ((u.2.1 6 0) : Int32).toInt + 1 < (p7 : Int32).toInt) ∧ (((u.2.1 8 0) : Int32).toInt = 0 ∨ ((u.2.1 7 0) : Int32).toInt = 27) ∧ (((u.2.1 8 0) : Int32).toInt ≠ 0 ∨ (p2 : Int32).toInt = 0) ∧ ((p0 : Int32).toInt ≤ ((u.2.1 6 0) : Int32).toInt) ∧ (((u.2.1 8 0) : Int32).toInt ≠ 0 ∨ (p0 : Int32).toInt + 1 ≤ ((u.2.1 6 0) : Int32).toInt) ∧ True) (fun u => [(h0, .inr (5, [.ref h1, .int (u.2.1 6 0), .int (u.2.1 7 0), .int (u.2.1 8 0), .int (u.2.1 9 0), .ref h5, w0, .int p4, .int p5])), (h1, .inr (8, [w1, .int p6, .int p7, .ref h2, .ref h3, .ref h4])), (h2, .inl (cy 1, 901, .inl f0)), (h3, .inl (cy 1, 901, .inl f1)), (h4, .inl (cy 1, 901, .inl f2)), (h5, .inr (3, [.int p8, .int (u.2.1 0 0), .int p10, .int p11, w2, w3, w4, .ref h6, .ref h7, .ref h8, .ref h9, .ref h10])), (h6, .inl (cy 1, 10, .inl (u.2.1 1))), (h7, .inl (cy 1, 10, .inl (u.2.1 2))), (h8, .inl (cy 1, 10, .inl (u.2.1 3))), (h9, .inl (cy 1, 10, .inl (u.2.1 4))), (h10, .inl (cy 1, 10, .inl (u.2.1 5)))]) 0 0 := by
  refine q_ent (own := RX5) (by decide) rfl (Nat.le_of_ble_eq_true rfl) (fun p e s m below meth c ls X hr hlk hnm hK hT h hA hl => ?_)
  obtain ⟨hx, hb, hml, hown, ht⟩ := id X
  replace hl : lv_has ls 5 [(0, .ref h0)] := hl
  refine lv_aload_n hx hb dX5_readPerson_0 rfl (lv_at hl 0 rfl) ?_
  refine q_get X hK h 0 rfl rfl wf_5 5 (by decide) rfl wm_1_151 dX5_readPerson_1 ?_
  refine q_get X hK h 5 rfl rfl wf_3 1 (by decide) rfl wm_1_86 dX5_readPerson_4 ?_
  refine lv_istore_n (lv' := [(1, .int p9), (0, .ref h0)]) hx hb dX5_readPerson_7 rfl hl (by decide) rfl (fun ls_1 hl_1 => ?_)
  clear hl
  refine lv_iload_n hx hb dX5_readPerson_8 rfl (lv_at hl_1 0 rfl) ?_
  refine lv_bipush (v := 10) hx hb dX5_readPerson_9 (by decide) ?_
  refine lv_icmp_lt (tgt := 20) hx hb dX5_readPerson_11 (by decide) (fun c_2 => ?_) (fun c_2 => ?_)
  · replace c_2 := i_lt (x := p9) (y := 10) rfl (show (10 : Int32).toInt = 10 by decide) c_2
    refine lv_aload_n hx hb dX5_readPerson_20 rfl (lv_at hl_1 1 rfl) ?_
    refine q_callVv (rest := []) (wr := [(h4, .inl (cy 1, 901, .inl f2)), (h5, .inr (3, [.int p8, .int p9, .int p10, .int p11, w2, w3, w4, .ref h6, .ref h7, .ref h8, .ref h9, .ref h10])), (h6, .inl (cy 1, 10, .inl f3)), (h7, .inl (cy 1, 10, .inl f4)), (h8, .inl (cy 1, 10, .inl f5)), (h9, .inl (cy 1, 10, .inl f6)), (h10, .inl (cy 1, 10, .inl f7))]) X hK hT hA h (fun sz => gX5_advance_9820dfe l D cy h0 h1 h2 h3 p0 p1 p2 p3 (.ref h5) w0 p4 p5 w1 p6 p7 (.ref h4) f0 f1 hp0 (i_rng _) (i_rng _) (i_rng _) hp4 (i_rng _) hp6 hp7 (hpre0) (by omega) (by omega) sz) wm_3_68 wm_3_71 wm_1_2 hd_X5_advance wm_3_70 wp_1_8 (ci := 5) (q0 := 0) rfl rfl ⟨Nat.le_of_ble_eq_true rfl, Nat.le_of_ble_eq_true rfl⟩ hl_1.1 rfl (Nat.le_of_ble_eq_true rfl) dX5_readPerson_21 ⟨Nat.le_of_ble_eq_true rfl, Nat.le_of_ble_eq_true rfl⟩ [0, 1, 2, 3] [4, 5, 6, 7, 8, 9, 10] rfl rfl (by decide) rfl rfl (fun u_3 H locs w_3 h_3 => ?_)
    clear h
    obtain ⟨w3_0, w3_1, w3_2, w3_3, y3_0, y3_1, y3_2, y3_3, y3_4, y3_5, _⟩ := w_3
    replace h_3 : qW D _ _ [(h4, .inl (cy 1, 901, .inl f2)), (h5, .inr (3, [.int p8, .int p9, .int p10, .int p11, w2, w3, w4, .ref h6, .ref h7, .ref h8, .ref h9, .ref h10])), (h6, .inl (cy 1, 10, .inl f3)), (h7, .inl (cy 1, 10, .inl f4)), (h8, .inl (cy 1, 10, .inl f5)), (h9, .inl (cy 1, 10, .inl f6)), (h10, .inl (cy 1, 10, .inl f7)), (h0, .inr (5, [.ref h1, .int (u_3.2.1 0 0), .int (u_3.2.1 1 0), .int (u_3.2.1 2 0), .int (u_3.2.1 3 0), .ref h5, w0, .int p4, .int p5])), (h1, .inr (8, [w1, .int p6, .int p7, .ref h2, .ref h3, .ref h4])), (h2, .inl (cy 1, 901, .inl f0)), (h3, .inl (cy 1, 901, .inl f1))] _ _ := h_3
    refine lv_iconst (v := 0) hx hb dX5_readPerson_24 (by decide) ?_
    refine lv_istore_n (lv' := [(2, .int 0), (1, .int p9), (0, .ref h0)]) hx hb dX5_readPerson_25 rfl hl_1 (by decide) rfl (fun ls_4 hl_4 => ?_)
    clear hl_1
    refine lv_iconst (v := 0) hx hb dX5_readPerson_26 (by decide) ?_
    refine lv_istore_n (lv' := [(3, .int 0), (2, .int 0), (1, .int p9), (0, .ref h0)]) hx hb dX5_readPerson_27 rfl hl_4 (by decide) rfl (fun ls_5 hl_5 => ?_)
    clear hl_4
    refine lv_iload_n hx hb dX5_readPerson_28 rfl (lv_at hl_5 0 rfl) ?_
    refine lv_iconst (v := 3) hx hb dX5_readPerson_29 (by decide) ?_
    refine lv_icmp_ge (tgt := 67) hx hb dX5_readPerson_30 (by decide) (fun c => absurd c (by decide +kernel)) (fun _ => ?_)
    refine lv_bipush (v := 10) hx hb dX5_readPerson_33 (by decide) ?_
    refine lv_iload_n hx hb dX5_readPerson_35 rfl (lv_at hl_5 1 rfl) ?_
    refine lv_imul hx hb dX5_readPerson_36 ?_
    refine q_c 0 (by decide +kernel) ?_
    refine lv_iload_n hx hb dX5_readPerson_37 rfl (lv_at hl_5 0 rfl) ?_
    refine lv_aload_n hx hb dX5_readPerson_38 rfl (lv_at hl_5 3 rfl) ?_
    refine q_get X hK h_3 7 rfl rfl wf_5 5 (by decide) rfl wm_1_151 dX5_readPerson_39 ?_
    refine q_get X hK h_3 1 rfl rfl wf_3 0 (by decide) rfl wm_1_76 dX5_readPerson_42 ?_
    refine q_jn (pc2 := 59) (fun H locs ls st => ∃ v59_6_0 : Int32, ∃ v59_6_1 : Int32, ∃ v59_6_2 : Int32, ∃ v59_6_3 : Int32, ∃ v59_6_4 : Int32, ((-1) ≤ (v59_6_0).toInt ∧ (v59_6_0).toInt ≤ 900) ∧ ((-2147483648) ≤ (v59_6_1).toInt ∧ (v59_6_1).toInt ≤ 2147483647) ∧ ((-2147483648) ≤ (v59_6_2).toInt ∧ (v59_6_2).toInt ≤ 2147483647) ∧ ((-2147483648) ≤ (v59_6_3).toInt ∧ (v59_6_3).toInt ≤ 2147483647) ∧ (0 ≤ (v59_6_4).toInt ∧ (v59_6_4).toInt ≤ 9) ∧ (0 ≤ (v59_6_0 : Int32).toInt ∧ (v59_6_0 : Int32).toInt < (p7 : Int32).toInt) ∧ ((v59_6_2 : Int32).toInt ≠ 0 ∨ (v59_6_1 : Int32).toInt = 26 ∨ (v59_6_1 : Int32).toInt = 27 ∨ (v59_6_0 : Int32).toInt + 1 < (p7 : Int32).toInt) ∧ ((v59_6_2 : Int32).toInt = 0 ∨ (v59_6_1 : Int32).toInt = 27) ∧ ((v59_6_2 : Int32).toInt ≠ 0 ∨ (p2 : Int32).toInt = 0) ∧ ((p0 : Int32).toInt ≤ (v59_6_0 : Int32).toInt) ∧ ((v59_6_2 : Int32).toInt ≠ 0 ∨ (p0 : Int32).toInt + 1 ≤ (v59_6_0 : Int32).toInt) ∧ st = [.int v59_6_4, .int 0] ∧ qW D (va_A [(h0, .inr (5, [.ref h1, .int p0, .int p1, .int p2, .int p3, .ref h5, w0, .int p4, .int p5])), (h1, .inr (8, [w1, .int p6, .int p7, .ref h2, .ref h3, .ref h4])), (h2, .inl (cy 1, 901, .inl f0)), (h3, .inl (cy 1, 901, .inl f1)), (h4, .inl (cy 1, 901, .inl f2)), (h5, .inr (3, [.int p8, .int p9, .int p10, .int p11, w2, w3, w4, .ref h6, .ref h7, .ref h8, .ref h9, .ref h10])), (h6, .inl (cy 1, 10, .inl f3)), (h7, .inl (cy 1, 10, .inl f4)), (h8, .inl (cy 1, 10, .inl f5)), (h9, .inl (cy 1, 10, .inl f6)), (h10, .inl (cy 1, 10, .inl f7))] sz) s.heap [(h4, .inl (cy 1, 901, .inl f2)), (h5, .inr (3, [.int p8, .int p9, .int p10, .int p11, w2, w3, w4, .ref h6, .ref h7, .ref h8, .ref h9, .ref h10])), (h6, .inl (cy 1, 10, .inl f3)), (h7, .inl (cy 1, 10, .inl f4)), (h8, .inl (cy 1, 10, .inl f5)), (h9, .inl (cy 1, 10, .inl f6)), (h10, .inl (cy 1, 10, .inl f7)), (h0, .inr (5, [.ref h1, .int v59_6_0, .int v59_6_1, .int v59_6_2, .int v59_6_3, .ref h5, w0, .int p4, .int p5])), (h1, .inr (8, [w1, .int p6, .int p7, .ref h2, .ref h3, .ref h4])), (h2, .inl (cy 1, 901, .inl f0)), (h3, .inl (cy 1, 901, .inl f1))] H locs ∧ lv_has ls 5 [(0, .ref h0), (1, .int p9), (2, .int 0), (3, .int 0)]) (fun H locs ls st hP => ?_) (fun J_59 => ?_)
    · obtain ⟨v59_6_0, v59_6_1, v59_6_2, v59_6_3, v59_6_4, hv59_6_0, hv59_6_1, hv59_6_2, hv59_6_3, hv59_6_4, x7_0, x8_1, x9_2, x10_3, x11_4, x12_5, rfl, h, hl⟩ := hP
      refine lv_iadd hx hb dX5_readPerson_59 ?_
      obtain ⟨z_13, ez_13, hz_13⟩ := e_add (x := 0) (y := v59_6_4) (show (0 : Int32).toInt = 0 by decide) rfl (by omega) (by omega)
      refine q_c z_13 ez_13 ?_
      clear ez_13
      refine lv_istore_n (lv' := [(2, .int z_13), (0, .ref h0), (1, .int p9), (3, .int 0)]) hx hb dX5_readPerson_60 rfl hl (by decide) rfl (fun ls_14 hl_14 => ?_)
      clear hl
      refine lv_iinc (v := 1) (lv' := [(3, .int 1), (2, .int z_13), (0, .ref h0), (1, .int p9)]) hx hb dX5_readPerson_61 hl_14 (k := 3) rfl (by decide +kernel) (by decide) rfl (fun ls_15 hl_15 => ?_)
      clear hl_14
      refine lv_goto (tgt := 28) hx hb dX5_readPerson_64 (by decide) ?_
      refine lv_iload_n hx hb dX5_readPerson_28 rfl (lv_at hl_15 0 rfl) ?_
      refine lv_iconst (v := 3) hx hb dX5_readPerson_29 (by decide) ?_
      refine lv_icmp_ge (tgt := 67) hx hb dX5_readPerson_30 (by decide) (fun c => absurd c (by decide +kernel)) (fun _ => ?_)
      refine lv_bipush (v := 10) hx hb dX5_readPerson_33 (by decide) ?_
      refine lv_iload_n hx hb dX5_readPerson_35 rfl (lv_at hl_15 1 rfl) ?_
      refine lv_imul hx hb dX5_readPerson_36 ?_
      obtain ⟨z_16, ez_16, hz_16⟩ := e_mul (x := 10) (y := z_13) (show (10 : Int32).toInt = 10 by decide) rfl (by omega) (by omega)
      refine q_c z_16 ez_16 ?_
      clear ez_16
      refine lv_iload_n hx hb dX5_readPerson_37 rfl (lv_at hl_15 0 rfl) ?_
      refine lv_aload_n hx hb dX5_readPerson_38 rfl (lv_at hl_15 2 rfl) ?_
      refine q_get X hK h 7 rfl rfl wf_5 5 (by decide) rfl wm_1_151 dX5_readPerson_39 ?_
      refine q_get X hK h 1 rfl rfl wf_3 0 (by decide) rfl wm_1_76 dX5_readPerson_42 ?_
      refine q_jn (pc2 := 59) (fun H locs ls st => ∃ v59_17_0 : Int32, ∃ v59_17_1 : Int32, ∃ v59_17_2 : Int32, ∃ v59_17_3 : Int32, ∃ v59_17_4 : Int32, ((-1) ≤ (v59_17_0).toInt ∧ (v59_17_0).toInt ≤ 900) ∧ ((-2147483648) ≤ (v59_17_1).toInt ∧ (v59_17_1).toInt ≤ 2147483647) ∧ ((-2147483648) ≤ (v59_17_2).toInt ∧ (v59_17_2).toInt ≤ 2147483647) ∧ ((-2147483648) ≤ (v59_17_3).toInt ∧ (v59_17_3).toInt ≤ 2147483647) ∧ (0 ≤ (v59_17_4).toInt ∧ (v59_17_4).toInt ≤ 9) ∧ (0 ≤ (v59_17_0 : Int32).toInt ∧ (v59_17_0 : Int32).toInt < (p7 : Int32).toInt) ∧ ((v59_17_2 : Int32).toInt ≠ 0 ∨ (v59_17_1 : Int32).toInt = 26 ∨ (v59_17_1 : Int32).toInt = 27 ∨ (v59_17_0 : Int32).toInt + 1 < (p7 : Int32).toInt) ∧ ((v59_17_2 : Int32).toInt = 0 ∨ (v59_17_1 : Int32).toInt = 27) ∧ ((v59_17_2 : Int32).toInt ≠ 0 ∨ (p2 : Int32).toInt = 0) ∧ ((p0 : Int32).toInt ≤ (v59_17_0 : Int32).toInt) ∧ ((v59_17_2 : Int32).toInt ≠ 0 ∨ (p0 : Int32).toInt + 1 ≤ (v59_17_0 : Int32).toInt) ∧ st = [.int v59_17_4, .int z_16] ∧ qW D (va_A [(h0, .inr (5, [.ref h1, .int p0, .int p1, .int p2, .int p3, .ref h5, w0, .int p4, .int p5])), (h1, .inr (8, [w1, .int p6, .int p7, .ref h2, .ref h3, .ref h4])), (h2, .inl (cy 1, 901, .inl f0)), (h3, .inl (cy 1, 901, .inl f1)), (h4, .inl (cy 1, 901, .inl f2)), (h5, .inr (3, [.int p8, .int p9, .int p10, .int p11, w2, w3, w4, .ref h6, .ref h7, .ref h8, .ref h9, .ref h10])), (h6, .inl (cy 1, 10, .inl f3)), (h7, .inl (cy 1, 10, .inl f4)), (h8, .inl (cy 1, 10, .inl f5)), (h9, .inl (cy 1, 10, .inl f6)), (h10, .inl (cy 1, 10, .inl f7))] sz) s.heap [(h4, .inl (cy 1, 901, .inl f2)), (h5, .inr (3, [.int p8, .int p9, .int p10, .int p11, w2, w3, w4, .ref h6, .ref h7, .ref h8, .ref h9, .ref h10])), (h6, .inl (cy 1, 10, .inl f3)), (h7, .inl (cy 1, 10, .inl f4)), (h8, .inl (cy 1, 10, .inl f5)), (h9, .inl (cy 1, 10, .inl f6)), (h10, .inl (cy 1, 10, .inl f7)), (h0, .inr (5, [.ref h1, .int v59_17_0, .int v59_17_1, .int v59_17_2, .int v59_17_3, .ref h5, w0, .int p4, .int p5])), (h1, .inr (8, [w1, .int p6, .int p7, .ref h2, .ref h3, .ref h4])), (h2, .inl (cy 1, 901, .inl f0)), (h3, .inl (cy 1, 901, .inl f1))] H locs ∧ lv_has ls 5 [(0, .ref h0), (1, .int p9), (2, .int z_13), (3, .int 1)]) (fun H locs ls st hP => ?_) (fun J_59 => ?_)
      · obtain ⟨v59_17_0, v59_17_1, v59_17_2, v59_17_3, v59_17_4, hv59_17_0, hv59_17_1, hv59_17_2, hv59_17_3, hv59_17_4, x18_0, x19_1, x20_2, x21_3, x22_4, x23_5, rfl, h, hl⟩ := hP
        refine lv_iadd hx hb dX5_readPerson_59 ?_
        obtain ⟨z_24, ez_24, hz_24⟩ := e_add (x := z_16) (y := v59_17_4) rfl rfl (by omega) (by omega)
        refine q_c z_24 ez_24 ?_
        clear ez_24
        refine lv_istore_n (lv' := [(2, .int z_24), (0, .ref h0), (1, .int p9), (3, .int 1)]) hx hb dX5_readPerson_60 rfl hl (by decide) rfl (fun ls_25 hl_25 => ?_)
        clear hl
        refine lv_iinc (v := 2) (lv' := [(3, .int 2), (2, .int z_24), (0, .ref h0), (1, .int p9)]) hx hb dX5_readPerson_61 hl_25 (k := 3) rfl (by decide +kernel) (by decide) rfl (fun ls_26 hl_26 => ?_)
        clear hl_25
        refine lv_goto (tgt := 28) hx hb dX5_readPerson_64 (by decide) ?_
        refine lv_iload_n hx hb dX5_readPerson_28 rfl (lv_at hl_26 0 rfl) ?_
        refine lv_iconst (v := 3) hx hb dX5_readPerson_29 (by decide) ?_
        refine lv_icmp_ge (tgt := 67) hx hb dX5_readPerson_30 (by decide) (fun c => absurd c (by decide +kernel)) (fun _ => ?_)
        refine lv_bipush (v := 10) hx hb dX5_readPerson_33 (by decide) ?_
        refine lv_iload_n hx hb dX5_readPerson_35 rfl (lv_at hl_26 1 rfl) ?_
        refine lv_imul hx hb dX5_readPerson_36 ?_
        obtain ⟨z_27, ez_27, hz_27⟩ := e_mul (x := 10) (y := z_24) (show (10 : Int32).toInt = 10 by decide) rfl (by omega) (by omega)
        refine q_c z_27 ez_27 ?_
        clear ez_27
        refine lv_iload_n hx hb dX5_readPerson_37 rfl (lv_at hl_26 0 rfl) ?_
        refine lv_aload_n hx hb dX5_readPerson_38 rfl (lv_at hl_26 2 rfl) ?_
        refine q_get X hK h 7 rfl rfl wf_5 5 (by decide) rfl wm_1_151 dX5_readPerson_39 ?_
        refine q_get X hK h 1 rfl rfl wf_3 0 (by decide) rfl wm_1_76 dX5_readPerson_42 ?_
        refine q_jn (pc2 := 59) (fun H locs ls st => ∃ v59_28_0 : Int32, ∃ v59_28_1 : Int32, ∃ v59_28_2 : Int32, ∃ v59_28_3 : Int32, ∃ v59_28_4 : Int32, ((-1) ≤ (v59_28_0).toInt ∧ (v59_28_0).toInt ≤ 900) ∧ ((-2147483648) ≤ (v59_28_1).toInt ∧ (v59_28_1).toInt ≤ 2147483647) ∧ ((-2147483648) ≤ (v59_28_2).toInt ∧ (v59_28_2).toInt ≤ 2147483647) ∧ ((-2147483648) ≤ (v59_28_3).toInt ∧ (v59_28_3).toInt ≤ 2147483647) ∧ (0 ≤ (v59_28_4).toInt ∧ (v59_28_4).toInt ≤ 9) ∧ (0 ≤ (v59_28_0 : Int32).toInt ∧ (v59_28_0 : Int32).toInt < (p7 : Int32).toInt) ∧ ((v59_28_2 : Int32).toInt ≠ 0 ∨ (v59_28_1 : Int32).toInt = 26 ∨ (v59_28_1 : Int32).toInt = 27 ∨ (v59_28_0 : Int32).toInt + 1 < (p7 : Int32).toInt) ∧ ((v59_28_2 : Int32).toInt = 0 ∨ (v59_28_1 : Int32).toInt = 27) ∧ ((v59_28_2 : Int32).toInt ≠ 0 ∨ (p2 : Int32).toInt = 0) ∧ ((p0 : Int32).toInt ≤ (v59_28_0 : Int32).toInt) ∧ ((v59_28_2 : Int32).toInt ≠ 0 ∨ (p0 : Int32).toInt + 1 ≤ (v59_28_0 : Int32).toInt) ∧ st = [.int v59_28_4, .int z_27] ∧ qW D (va_A [(h0, .inr (5, [.ref h1, .int p0, .int p1, .int p2, .int p3, .ref h5, w0, .int p4, .int p5])), (h1, .inr (8, [w1, .int p6, .int p7, .ref h2, .ref h3, .ref h4])), (h2, .inl (cy 1, 901, .inl f0)), (h3, .inl (cy 1, 901, .inl f1)), (h4, .inl (cy 1, 901, .inl f2)), (h5, .inr (3, [.int p8, .int p9, .int p10, .int p11, w2, w3, w4, .ref h6, .ref h7, .ref h8, .ref h9, .ref h10])), (h6, .inl (cy 1, 10, .inl f3)), (h7, .inl (cy 1, 10, .inl f4)), (h8, .inl (cy 1, 10, .inl f5)), (h9, .inl (cy 1, 10, .inl f6)), (h10, .inl (cy 1, 10, .inl f7))] sz) s.heap [(h4, .inl (cy 1, 901, .inl f2)), (h5, .inr (3, [.int p8, .int p9, .int p10, .int p11, w2, w3, w4, .ref h6, .ref h7, .ref h8, .ref h9, .ref h10])), (h6, .inl (cy 1, 10, .inl f3)), (h7, .inl (cy 1, 10, .inl f4)), (h8, .inl (cy 1, 10, .inl f5)), (h9, .inl (cy 1, 10, .inl f6)), (h10, .inl (cy 1, 10, .inl f7)), (h0, .inr (5, [.ref h1, .int v59_28_0, .int v59_28_1, .int v59_28_2, .int v59_28_3, .ref h5, w0, .int p4, .int p5])), (h1, .inr (8, [w1, .int p6, .int p7, .ref h2, .ref h3, .ref h4])), (h2, .inl (cy 1, 901, .inl f0)), (h3, .inl (cy 1, 901, .inl f1))] H locs ∧ lv_has ls 5 [(0, .ref h0), (1, .int p9), (2, .int z_24), (3, .int 2)]) (fun H locs ls st hP => ?_) (fun J_59 => ?_)
        · obtain ⟨v59_28_0, v59_28_1, v59_28_2, v59_28_3, v59_28_4, hv59_28_0, hv59_28_1, hv59_28_2, hv59_28_3, hv59_28_4, x29_0, x30_1, x31_2, x32_3, x33_4, x34_5, rfl, h, hl⟩ := hP
          refine lv_iadd hx hb dX5_readPerson_59 ?_
          obtain ⟨z_35, ez_35, hz_35⟩ := e_add (x := z_27) (y := v59_28_4) rfl rfl (by omega) (by omega)
          refine q_c z_35 ez_35 ?_
          clear ez_35
          refine lv_istore_n (lv' := [(2, .int z_35), (0, .ref h0), (1, .int p9), (3, .int 2)]) hx hb dX5_readPerson_60 rfl hl (by decide) rfl (fun ls_36 hl_36 => ?_)
          clear hl
          refine lv_iinc (v := 3) (lv' := [(3, .int 3), (2, .int z_35), (0, .ref h0), (1, .int p9)]) hx hb dX5_readPerson_61 hl_36 (k := 3) rfl (by decide +kernel) (by decide) rfl (fun ls_37 hl_37 => ?_)
          clear hl_36
          refine lv_goto (tgt := 28) hx hb dX5_readPerson_64 (by decide) ?_
          refine lv_iload_n hx hb dX5_readPerson_28 rfl (lv_at hl_37 0 rfl) ?_
          refine lv_iconst (v := 3) hx hb dX5_readPerson_29 (by decide) ?_
          refine lv_icmp_ge (tgt := 67) hx hb dX5_readPerson_30 (by decide) (fun _ => ?_) (fun c => absurd c (by decide +kernel))
          refine lv_aload_n hx hb dX5_readPerson_67 rfl (lv_at hl_37 2 rfl) ?_
          refine q_get X hK h 7 rfl rfl wf_5 5 (by decide) rfl wm_1_151 dX5_readPerson_68 ?_
          refine q_get X hK h 1 rfl rfl wf_3 7 (by decide) rfl wm_1_104 dX5_readPerson_71 ?_
          refine lv_iload_n hx hb dX5_readPerson_74 rfl (lv_at hl_37 3 rfl) ?_
          refine lv_iload_n hx hb dX5_readPerson_75 rfl (lv_at hl_37 1 rfl) ?_
          refine q_iast X hK h 2 rfl (i_in rfl (by omega) (by omega)) dX5_readPerson_76 (fun H locs h_39 => ?_)
          clear h
          replace h_39 : qW D _ _ [(h4, .inl (cy 1, 901, .inl f2)), (h5, .inr (3, [.int p8, .int p9, .int p10, .int p11, w2, w3, w4, .ref h6, .ref h7, .ref h8, .ref h9, .ref h10])), (h6, .inl (cy 1, 10, .inl (upd f3 (Int32.toNatClampNeg p9) z_35))), (h7, .inl (cy 1, 10, .inl f4)), (h8, .inl (cy 1, 10, .inl f5)), (h9, .inl (cy 1, 10, .inl f6)), (h10, .inl (cy 1, 10, .inl f7)), (h0, .inr (5, [.ref h1, .int v59_28_0, .int v59_28_1, .int v59_28_2, .int v59_28_3, .ref h5, w0, .int p4, .int p5])), (h1, .inr (8, [w1, .int p6, .int p7, .ref h2, .ref h3, .ref h4])), (h2, .inl (cy 1, 901, .inl f0)), (h3, .inl (cy 1, 901, .inl f1))] _ _ := h_39
          obtain ⟨F_38, eF_38, rF_38⟩ := rg_upd rf3 (Int32.toNatClampNeg p9) (x := z_35) rfl (by omega) (by omega)
          rw [eF_38] at h_39
          clear eF_38
          refine lv_aload_n hx hb dX5_readPerson_77 rfl (lv_at hl_37 2 rfl) ?_
          refine q_get X hK h_39 7 rfl rfl wf_5 5 (by decide) rfl wm_1_151 dX5_readPerson_78 ?_
          refine q_get X hK h_39 1 rfl rfl wf_3 8 (by decide) rfl wm_1_108 dX5_readPerson_81 ?_
          refine lv_iload_n hx hb dX5_readPerson_84 rfl (lv_at hl_37 3 rfl) ?_
          refine lv_iconst (v := 0) hx hb dX5_readPerson_85 (by decide) ?_
          refine q_iast X hK h_39 3 rfl (i_in rfl (by omega) (by omega)) dX5_readPerson_86 (fun H locs h_41 => ?_)
          clear h_39
          replace h_41 : qW D _ _ [(h4, .inl (cy 1, 901, .inl f2)), (h5, .inr (3, [.int p8, .int p9, .int p10, .int p11, w2, w3, w4, .ref h6, .ref h7, .ref h8, .ref h9, .ref h10])), (h6, .inl (cy 1, 10, .inl F_38)), (h7, .inl (cy 1, 10, .inl (upd f4 (Int32.toNatClampNeg p9) 0))), (h8, .inl (cy 1, 10, .inl f5)), (h9, .inl (cy 1, 10, .inl f6)), (h10, .inl (cy 1, 10, .inl f7)), (h0, .inr (5, [.ref h1, .int v59_28_0, .int v59_28_1, .int v59_28_2, .int v59_28_3, .ref h5, w0, .int p4, .int p5])), (h1, .inr (8, [w1, .int p6, .int p7, .ref h2, .ref h3, .ref h4])), (h2, .inl (cy 1, 901, .inl f0)), (h3, .inl (cy 1, 901, .inl f1))] _ _ := h_41
          obtain ⟨F_40, eF_40⟩ : ∃ z, (upd f4 (Int32.toNatClampNeg p9) 0) = z := ⟨_, rfl⟩
          rw [eF_40] at h_41
          clear eF_40
          refine lv_aload_n hx hb dX5_readPerson_87 rfl (lv_at hl_37 2 rfl) ?_
          refine q_get X hK h_41 7 rfl rfl wf_5 5 (by decide) rfl wm_1_151 dX5_readPerson_88 ?_
          refine q_get X hK h_41 1 rfl rfl wf_3 9 (by decide) rfl wm_1_112 dX5_readPerson_91 ?_
          refine lv_iload_n hx hb dX5_readPerson_94 rfl (lv_at hl_37 3 rfl) ?_
          refine lv_ldc hx hb hown (ht _ wm_3_92) dX5_readPerson_95 ?_
          refine q_iast X hK h_41 4 rfl (i_in rfl (by omega) (by omega)) dX5_readPerson_97 (fun H locs h_43 => ?_)
          clear h_41
          replace h_43 : qW D _ _ [(h4, .inl (cy 1, 901, .inl f2)), (h5, .inr (3, [.int p8, .int p9, .int p10, .int p11, w2, w3, w4, .ref h6, .ref h7, .ref h8, .ref h9, .ref h10])), (h6, .inl (cy 1, 10, .inl F_38)), (h7, .inl (cy 1, 10, .inl F_40)), (h8, .inl (cy 1, 10, .inl (upd f5 (Int32.toNatClampNeg p9) 1000000))), (h9, .inl (cy 1, 10, .inl f6)), (h10, .inl (cy 1, 10, .inl f7)), (h0, .inr (5, [.ref h1, .int v59_28_0, .int v59_28_1, .int v59_28_2, .int v59_28_3, .ref h5, w0, .int p4, .int p5])), (h1, .inr (8, [w1, .int p6, .int p7, .ref h2, .ref h3, .ref h4])), (h2, .inl (cy 1, 901, .inl f0)), (h3, .inl (cy 1, 901, .inl f1))] _ _ := h_43
          obtain ⟨F_42, eF_42⟩ : ∃ z, (upd f5 (Int32.toNatClampNeg p9) 1000000) = z := ⟨_, rfl⟩
          rw [eF_42] at h_43
          clear eF_42
          refine lv_aload_n hx hb dX5_readPerson_98 rfl (lv_at hl_37 2 rfl) ?_
          refine q_get X hK h_43 7 rfl rfl wf_5 5 (by decide) rfl wm_1_151 dX5_readPerson_99 ?_
          refine q_get X hK h_43 1 rfl rfl wf_3 10 (by decide) rfl wm_1_115 dX5_readPerson_102 ?_
          refine lv_iload_n hx hb dX5_readPerson_105 rfl (lv_at hl_37 3 rfl) ?_
          refine lv_bipush (v := 10) hx hb dX5_readPerson_106 (by decide) ?_
          refine q_iast X hK h_43 5 rfl (i_in rfl (by omega) (by omega)) dX5_readPerson_108 (fun H locs h_45 => ?_)
          clear h_43
          replace h_45 : qW D _ _ [(h4, .inl (cy 1, 901, .inl f2)), (h5, .inr (3, [.int p8, .int p9, .int p10, .int p11, w2, w3, w4, .ref h6, .ref h7, .ref h8, .ref h9, .ref h10])), (h6, .inl (cy 1, 10, .inl F_38)), (h7, .inl (cy 1, 10, .inl F_40)), (h8, .inl (cy 1, 10, .inl F_42)), (h9, .inl (cy 1, 10, .inl (upd f6 (Int32.toNatClampNeg p9) 10))), (h10, .inl (cy 1, 10, .inl f7)), (h0, .inr (5, [.ref h1, .int v59_28_0, .int v59_28_1, .int v59_28_2, .int v59_28_3, .ref h5, w0, .int p4, .int p5])), (h1, .inr (8, [w1, .int p6, .int p7, .ref h2, .ref h3, .ref h4])), (h2, .inl (cy 1, 901, .inl f0)), (h3, .inl (cy 1, 901, .inl f1))] _ _ := h_45
          obtain ⟨F_44, eF_44⟩ : ∃ z, (upd f6 (Int32.toNatClampNeg p9) 10) = z := ⟨_, rfl⟩
          rw [eF_44] at h_45
          clear eF_44
          refine lv_aload_n hx hb dX5_readPerson_109 rfl (lv_at hl_37 2 rfl) ?_
          refine q_get X hK h_45 7 rfl rfl wf_5 5 (by decide) rfl wm_1_151 dX5_readPerson_110 ?_
          refine q_get X hK h_45 1 rfl rfl wf_3 11 (by decide) rfl wm_1_118 dX5_readPerson_113 ?_
          refine lv_iload_n hx hb dX5_readPerson_116 rfl (lv_at hl_37 3 rfl) ?_
          refine lv_iconst (v := 1) hx hb dX5_readPerson_117 (by decide) ?_
          refine q_iast X hK h_45 6 rfl (i_in rfl (by omega) (by omega)) dX5_readPerson_118 (fun H locs h_47 => ?_)
          clear h_45
          replace h_47 : qW D _ _ [(h4, .inl (cy 1, 901, .inl f2)), (h5, .inr (3, [.int p8, .int p9, .int p10, .int p11, w2, w3, w4, .ref h6, .ref h7, .ref h8, .ref h9, .ref h10])), (h6, .inl (cy 1, 10, .inl F_38)), (h7, .inl (cy 1, 10, .inl F_40)), (h8, .inl (cy 1, 10, .inl F_42)), (h9, .inl (cy 1, 10, .inl F_44)), (h10, .inl (cy 1, 10, .inl (upd f7 (Int32.toNatClampNeg p9) 1))), (h0, .inr (5, [.ref h1, .int v59_28_0, .int v59_28_1, .int v59_28_2, .int v59_28_3, .ref h5, w0, .int p4, .int p5])), (h1, .inr (8, [w1, .int p6, .int p7, .ref h2, .ref h3, .ref h4])), (h2, .inl (cy 1, 901, .inl f0)), (h3, .inl (cy 1, 901, .inl f1))] _ _ := h_47
          obtain ⟨F_46, eF_46⟩ : ∃ z, (upd f7 (Int32.toNatClampNeg p9) 1) = z := ⟨_, rfl⟩
          rw [eF_46] at h_47
          clear eF_46
          refine lv_iconst (v := 1) hx hb dX5_readPerson_119 (by decide) ?_
          refine lv_istore_n (lv' := [(3, .int 1), (2, .int z_35), (0, .ref h0), (1, .int p9)]) hx hb dX5_readPerson_120 rfl hl_37 (by decide) rfl (fun ls_48 hl_48 => ?_)
          clear hl_37
          refine lv_iconst (v := 0) hx hb dX5_readPerson_121 (by decide) ?_
          refine lv_istore (lv' := [(4, .int 0), (3, .int 1), (2, .int z_35), (0, .ref h0), (1, .int p9)]) hx hb dX5_readPerson_122 hl_48 (by decide) rfl (fun ls_49 hl_49 => ?_)
          clear hl_48
          refine q_wl (fun (q : Int32 × Int32 × Int32 × Int32 × Int32 × Int32) H locs ls => match q with | (v124_50_0, v124_50_1, v124_50_2, v124_50_3, v124_50_4, v124_50_5) => ∃ v124_50_6 : Nat → Int32, ∃ v124_50_7 : Nat → Int32, ∃ v124_50_8 : Nat → Int32, ∃ v124_50_9 : Nat → Int32, (0 ≤ (v124_50_0).toInt ∧ (v124_50_0).toInt ≤ 901) ∧ (0 ≤ (v124_50_1).toInt ∧ (v124_50_1).toInt ≤ 1) ∧ (0 ≤ (v124_50_2).toInt ∧ (v124_50_2).toInt ≤ 900) ∧ ((-2147483648) ≤ (v124_50_3).toInt ∧ (v124_50_3).toInt ≤ 2147483647) ∧ ((-2147483648) ≤ (v124_50_4).toInt ∧ (v124_50_4).toInt ≤ 2147483647) ∧ ((-2147483648) ≤ (v124_50_5).toInt ∧ (v124_50_5).toInt ≤ 2147483647) ∧ (0 ≤ (v124_50_2 : Int32).toInt ∧ (v124_50_2 : Int32).toInt < (p7 : Int32).toInt) ∧ ((v124_50_4 : Int32).toInt ≠ 0 ∨ (v124_50_3 : Int32).toInt = 26 ∨ (v124_50_3 : Int32).toInt = 27 ∨ (v124_50_2 : Int32).toInt + 1 < (p7 : Int32).toInt) ∧ ((v124_50_4 : Int32).toInt = 0 ∨ (v124_50_3 : Int32).toInt = 27) ∧ ((v124_50_4 : Int32).toInt ≠ 0 ∨ (p2 : Int32).toInt = 0) ∧ ((p0 : Int32).toInt ≤ (v124_50_2 : Int32).toInt) ∧ ((v124_50_4 : Int32).toInt ≠ 0 ∨ (p0 : Int32).toInt + 1 ≤ (v124_50_2 : Int32).toInt) ∧ qW D (va_A [(h0, .inr (5, [.ref h1, .int p0, .int p1, .int p2, .int p3, .ref h5, w0, .int p4, .int p5])), (h1, .inr (8, [w1, .int p6, .int p7, .ref h2, .ref h3, .ref h4])), (h2, .inl (cy 1, 901, .inl f0)), (h3, .inl (cy 1, 901, .inl f1)), (h4, .inl (cy 1, 901, .inl f2)), (h5, .inr (3, [.int p8, .int p9, .int p10, .int p11, w2, w3, w4, .ref h6, .ref h7, .ref h8, .ref h9, .ref h10])), (h6, .inl (cy 1, 10, .inl f3)), (h7, .inl (cy 1, 10, .inl f4)), (h8, .inl (cy 1, 10, .inl f5)), (h9, .inl (cy 1, 10, .inl f6)), (h10, .inl (cy 1, 10, .inl f7))] sz) s.heap [(h4, .inl (cy 1, 901, .inl f2)), (h5, .inr (3, [.int p8, .int p9, .int p10, .int p11, w2, w3, w4, .ref h6, .ref h7, .ref h8, .ref h9, .ref h10])), (h6, .inl (cy 1, 10, .inl F_38)), (h7, .inl (cy 1, 10, .inl v124_50_6)), (h8, .inl (cy 1, 10, .inl v124_50_7)), (h9, .inl (cy 1, 10, .inl v124_50_8)), (h10, .inl (cy 1, 10, .inl v124_50_9)), (h0, .inr (5, [.ref h1, .int v124_50_2, .int v124_50_3, .int v124_50_4, .int v124_50_5, .ref h5, w0, .int p4, .int p5])), (h1, .inr (8, [w1, .int p6, .int p7, .ref h2, .ref h3, .ref h4])), (h2, .inl (cy 1, 901, .inl f0)), (h3, .inl (cy 1, 901, .inl f1))] H locs ∧ lv_has ls 5 [(0, .ref h0), (1, .int p9), (2, .int z_35), (3, .int v124_50_1), (4, .int v124_50_0)]) (fun (q : Int32 × Int32 × Int32 × Int32 × Int32 × Int32) => match q with | (v124_50_0, v124_50_1, v124_50_2, v124_50_3, v124_50_4, v124_50_5) => (902 - (v124_50_0).toInt).toNat) (fun q_124 ih_124 H locs ls hP => ?_) (0, 1, v59_28_0, v59_28_1, v59_28_2, v59_28_3) ⟨F_40, F_42, F_44, F_46, ⟨by decide +kernel, by decide +kernel⟩, ⟨by decide +kernel, by decide +kernel⟩, ⟨by omega, by omega⟩, hv59_28_1, hv59_28_2, hv59_28_3, (by omega), (by omega), (by omega), (by omega), (by omega), (by omega), h_47, (lv_sub hl_49 [3, 4, 2, 1, 0] rfl)⟩
          obtain ⟨v124_50_0, v124_50_1, v124_50_2, v124_50_3, v124_50_4, v124_50_5⟩ := q_124
          obtain ⟨v124_50_6, v124_50_7, v124_50_8, v124_50_9, hv124_50_0, hv124_50_1, hv124_50_2, hv124_50_3, hv124_50_4, hv124_50_5, x51_0, x52_1, x53_2, x54_3, x55_4, x56_5, h, hl⟩ := hP
          refine lv_iload hx hb dX5_readPerson_124 (lv_at hl 4 rfl) ?_
          refine lv_aload_n hx hb dX5_readPerson_126 rfl (lv_at hl 0 rfl) ?_
          refine q_get X hK h 7 rfl rfl wf_5 0 (by decide) rfl wm_1_144 dX5_readPerson_127 ?_
          refine q_get X hK h 8 rfl rfl wf_8 2 (by decide) rfl wm_1_46 dX5_readPerson_130 ?_
          refine q_jn (pc2 := 152) (fun H locs ls st => st = [] ∧ qW D (va_A [(h0, .inr (5, [.ref h1, .int p0, .int p1, .int p2, .int p3, .ref h5, w0, .int p4, .int p5])), (h1, .inr (8, [w1, .int p6, .int p7, .ref h2, .ref h3, .ref h4])), (h2, .inl (cy 1, 901, .inl f0)), (h3, .inl (cy 1, 901, .inl f1)), (h4, .inl (cy 1, 901, .inl f2)), (h5, .inr (3, [.int p8, .int p9, .int p10, .int p11, w2, w3, w4, .ref h6, .ref h7, .ref h8, .ref h9, .ref h10])), (h6, .inl (cy 1, 10, .inl f3)), (h7, .inl (cy 1, 10, .inl f4)), (h8, .inl (cy 1, 10, .inl f5)), (h9, .inl (cy 1, 10, .inl f6)), (h10, .inl (cy 1, 10, .inl f7))] sz) s.heap [(h4, .inl (cy 1, 901, .inl f2)), (h5, .inr (3, [.int p8, .int p9, .int p10, .int p11, w2, w3, w4, .ref h6, .ref h7, .ref h8, .ref h9, .ref h10])), (h6, .inl (cy 1, 10, .inl F_38)), (h7, .inl (cy 1, 10, .inl v124_50_6)), (h8, .inl (cy 1, 10, .inl v124_50_7)), (h9, .inl (cy 1, 10, .inl v124_50_8)), (h10, .inl (cy 1, 10, .inl v124_50_9)), (h0, .inr (5, [.ref h1, .int v124_50_2, .int v124_50_3, .int v124_50_4, .int v124_50_5, .ref h5, w0, .int p4, .int p5])), (h1, .inr (8, [w1, .int p6, .int p7, .ref h2, .ref h3, .ref h4])), (h2, .inl (cy 1, 901, .inl f0)), (h3, .inl (cy 1, 901, .inl f1))] H locs ∧ lv_has ls 5 [(0, .ref h0), (1, .int p9), (2, .int z_35), (3, .int v124_50_1), (4, .int v124_50_0)]) (fun H locs ls st hP => ?_) (fun J_152 => ?_)
          · obtain ⟨rfl, h, hl⟩ := hP
            refine lv_aload_n hx hb dX5_readPerson_152 rfl (lv_at hl 0 rfl) ?_
            refine q_get X hK h 7 rfl rfl wf_5 5 (by decide) rfl wm_1_151 dX5_readPerson_153 ?_
            refine lv_dup hx hb dX5_readPerson_156 rfl ?_
            refine q_get X hK h 1 rfl rfl wf_3 1 (by decide) rfl wm_1_86 dX5_readPerson_157 ?_
            refine lv_iconst (v := 1) hx hb dX5_readPerson_160 (by decide) ?_
            refine lv_iadd hx hb dX5_readPerson_161 ?_
            obtain ⟨z_58, ez_58, hz_58⟩ := e_add (x := p9) (y := 1) rfl (show (1 : Int32).toInt = 1 by decide) (by omega) (by omega)
            refine q_c z_58 ez_58 ?_
            clear ez_58
            refine q_put (v := .int z_58) X hK h 1 rfl rfl wf_3 tyX3 tyX3_ok nmX3 1 (by decide) wm_1_86 rfl rfl rfl (Nat.le_of_ble_eq_true rfl) dX5_readPerson_162 (fun H locs h_59 => ?_)
            clear h
            replace h_59 : qW D _ _ [(h4, .inl (cy 1, 901, .inl f2)), (h5, .inr (3, [.int p8, .int z_58, .int p10, .int p11, w2, w3, w4, .ref h6, .ref h7, .ref h8, .ref h9, .ref h10])), (h6, .inl (cy 1, 10, .inl F_38)), (h7, .inl (cy 1, 10, .inl v124_50_6)), (h8, .inl (cy 1, 10, .inl v124_50_7)), (h9, .inl (cy 1, 10, .inl v124_50_8)), (h10, .inl (cy 1, 10, .inl v124_50_9)), (h0, .inr (5, [.ref h1, .int v124_50_2, .int v124_50_3, .int v124_50_4, .int v124_50_5, .ref h5, w0, .int p4, .int p5])), (h1, .inr (8, [w1, .int p6, .int p7, .ref h2, .ref h3, .ref h4])), (h2, .inl (cy 1, 901, .inl f0)), (h3, .inl (cy 1, 901, .inl f1))] _ _ := h_59
            exact q_vret X hr hlk hK h_59 (fun _ => 0, fun k => List.getD [(fun _ => z_58), F_38, v124_50_6, v124_50_7, v124_50_8, v124_50_9, (fun _ => v124_50_2), (fun _ => v124_50_3), (fun _ => v124_50_4), (fun _ => v124_50_5)] k (fun _ => 0), fun _ _ => 0) ⟨(⟨by omega, by omega⟩ : 1 ≤ (z_58 : Int32).toInt ∧ (z_58 : Int32).toInt ≤ 10), (rg_wide rF_38 (by decide) (by decide)), ((bw hv124_50_2 (by decide) (by decide)) : (-1) ≤ (v124_50_2 : Int32).toInt ∧ (v124_50_2 : Int32).toInt ≤ 900), (hv124_50_3 : (-2147483648) ≤ (v124_50_3 : Int32).toInt ∧ (v124_50_3 : Int32).toInt ≤ 2147483647), (hv124_50_4 : (-2147483648) ≤ (v124_50_4 : Int32).toInt ∧ (v124_50_4 : Int32).toInt ≤ 2147483647), (hv124_50_5 : (-2147483648) ≤ (v124_50_5 : Int32).toInt ∧ (v124_50_5 : Int32).toInt ≤ 2147483647), (show 0 ≤ (v124_50_2 : Int32).toInt ∧ (v124_50_2 : Int32).toInt < (p7 : Int32).toInt from by omega), (show (v124_50_4 : Int32).toInt ≠ 0 ∨ (v124_50_3 : Int32).toInt = 26 ∨ (v124_50_3 : Int32).toInt = 27 ∨ (v124_50_2 : Int32).toInt + 1 < (p7 : Int32).toInt from by omega), (show (v124_50_4 : Int32).toInt = 0 ∨ (v124_50_3 : Int32).toInt = 27 from by omega), (show (v124_50_4 : Int32).toInt ≠ 0 ∨ (p2 : Int32).toInt = 0 from by omega), (show (p0 : Int32).toInt ≤ (v124_50_2 : Int32).toInt from by omega), (show (v124_50_4 : Int32).toInt ≠ 0 ∨ (p0 : Int32).toInt + 1 ≤ (v124_50_2 : Int32).toInt from by omega), trivial⟩ [7, 8, 9, 10, 0, 1, 2, 3, 4, 5, 6] rfl rfl dX5_readPerson_165 (Nat.le_of_ble_eq_true rfl) (Nat.le_of_ble_eq_true rfl)
          · skip
            refine lv_icmp_ge (tgt := 152) hx hb dX5_readPerson_133 (by decide) (fun c_60 => ?_) (fun c_60 => ?_)
            · replace c_60 := i_le (x := p7) (y := v124_50_0) rfl rfl c_60
              exact J_152 _ _ _ _ ⟨rfl, h, (lv_sub hl [0, 1, 2, 3, 4] rfl)⟩
            · replace c_60 := i_nle (x := p7) (y := v124_50_0) rfl rfl c_60
              refine lv_iload_n hx hb dX5_readPerson_136 rfl (lv_at hl 3 rfl) ?_
              refine lv_if_eq (tgt := 152) hx hb dX5_readPerson_137 (by decide) (fun c_61 => ?_) (fun c_61 => ?_)
              · replace c_61 := i_eq (x := v124_50_1) (y := 0) rfl (show (0 : Int32).toInt = 0 by decide) c_61
                exact J_152 _ _ _ _ ⟨rfl, h, (lv_sub hl [0, 1, 2, 3, 4] rfl)⟩
              · replace c_61 := i_ne (x := v124_50_1) (y := 0) rfl (show (0 : Int32).toInt = 0 by decide) c_61
                refine lv_aload_n hx hb dX5_readPerson_140 rfl (lv_at hl 0 rfl) ?_
                refine lv_iload_n hx hb dX5_readPerson_141 rfl (lv_at hl 1 rfl) ?_
                refine q_callVi (rest := []) (wr := [(h6, .inl (cy 1, 10, .inl F_38))]) X hK hT hA h (fun sz => gX5_readFlag_936f279 l D cy h0 h1 h2 h3 h4 h5 h7 h8 h9 h10 p9 v124_50_2 v124_50_3 v124_50_4 v124_50_5 w0 p4 p5 w1 p6 p7 f0 f1 f2 p8 p10 p11 w2 w3 w4 (.ref h6) v124_50_6 v124_50_7 v124_50_8 v124_50_9 ⟨by omega, by omega⟩ (bw hv124_50_2 (by decide) (by decide)) (i_rng _) (i_rng _) (i_rng _) hp4 (i_rng _) hp6 hp7 hp8 (i_rng _) (i_rng _) (hpre0) (by omega) (by omega) (by omega) sz) wm_3_93 wm_3_96 wm_1_2 hd_X5_readFlag wm_3_95 wp_1_14 (ci := 5) (q0 := 0) rfl rfl ⟨Nat.le_of_ble_eq_true rfl, Nat.le_of_ble_eq_true rfl⟩ hl.1 rfl (Nat.le_of_ble_eq_true rfl) dX5_readPerson_142 ⟨Nat.le_of_ble_eq_true rfl, Nat.le_of_ble_eq_true rfl⟩ [7, 8, 9, 10, 0, 1, 3, 4, 5, 6] [2] rfl rfl (by decide) rfl rfl (fun r_62 u_62 H locs w_62 h_62 => ?_)
                clear h
                obtain ⟨wr_62, w62_0, w62_1, w62_2, w62_3, y62_0, y62_1, y62_2, y62_3, y62_4, _⟩ := w_62
                replace h_62 : qW D _ _ [(h6, .inl (cy 1, 10, .inl F_38)), (h0, .inr (5, [.ref h1, .int (u_62.2.1 2 0), .int (u_62.2.1 3 0), .int (u_62.2.1 4 0), .int (u_62.2.1 5 0), .ref h5, w0, .int p4, .int p5])), (h1, .inr (8, [w1, .int p6, .int p7, .ref h2, .ref h3, .ref h4])), (h2, .inl (cy 1, 901, .inl f0)), (h3, .inl (cy 1, 901, .inl f1)), (h4, .inl (cy 1, 901, .inl f2)), (h5, .inr (3, [.int p8, .int p9, .int p10, .int p11, w2, w3, w4, .ref h6, .ref h7, .ref h8, .ref h9, .ref h10])), (h7, .inl (cy 1, 10, .inl (u_62.2.1 0))), (h8, .inl (cy 1, 10, .inl (u_62.2.1 1))), (h9, .inl (cy 1, 10, .inl (u_62.2.1 6))), (h10, .inl (cy 1, 10, .inl (u_62.2.1 7)))] _ _ := h_62
                refine lv_istore_n (lv' := [(3, .int r_62), (0, .ref h0), (1, .int p9), (2, .int z_35), (4, .int v124_50_0)]) hx hb dX5_readPerson_145 rfl hl (by decide) rfl (fun ls_63 hl_63 => ?_)
                clear hl
                obtain ⟨z_64, ez_64, hz_64⟩ := e_add (x := v124_50_0) (y := Int32.ofInt 1) rfl (b := 1) (by decide) (by omega) (by omega)
                refine lv_iinc (v := z_64) (lv' := [(4, .int z_64), (3, .int r_62), (0, .ref h0), (1, .int p9), (2, .int z_35)]) hx hb dX5_readPerson_146 hl_63 (k := 4) rfl ez_64 (by decide) rfl (fun ls_64 hl_64 => ?_)
                clear hl_63
                refine lv_goto (tgt := 124) hx hb dX5_readPerson_149 (by decide) ?_
                exact ih_124 (z_64, r_62, (u_62.2.1 2 0), (u_62.2.1 3 0), (u_62.2.1 4 0), (u_62.2.1 5 0)) (by show (902 - (z_64).toInt).toNat < (902 - (v124_50_0).toInt).toNat; omega) _ _ _ ⟨(u_62.2.1 0), (u_62.2.1 1), (u_62.2.1 6), (u_62.2.1 7), ⟨by omega, by omega⟩, wr_62, ⟨by omega, by omega⟩, w62_1, w62_2, w62_3, (by omega), (by omega), (by omega), (by omega), (by omega), (by omega), (q_re h_62 [5, 6, 0, 7, 8, 9, 10, 1, 2, 3, 4] rfl rfl), (lv_sub hl_64 [2, 3, 4, 1, 0] rfl)⟩
        · skip
          refine lv_icmp_ge (tgt := 58) hx hb dX5_readPerson_45 (by decide) (fun c_65 => ?_) (fun c_65 => ?_)
          · replace c_65 := i_le (x := p8) (y := 2) rfl (show (2 : Int32).toInt = 2 by decide) c_65
            refine lv_iconst (v := 0) hx hb dX5_readPerson_58 (by decide) ?_
            exact J_59 _ _ _ _ ⟨v59_17_0, v59_17_1, v59_17_2, v59_17_3, 0, hv59_17_0, hv59_17_1, hv59_17_2, hv59_17_3, ⟨by decide +kernel, by decide +kernel⟩, (by omega), (by omega), (by omega), (by omega), (by omega), (by omega), rfl, h, (lv_sub hl_26 [2, 3, 1, 0] rfl)⟩
          · replace c_65 := i_nle (x := p8) (y := 2) rfl (show (2 : Int32).toInt = 2 by decide) c_65
            refine lv_aload_n hx hb dX5_readPerson_48 rfl (lv_at hl_26 2 rfl) ?_
            refine lv_iconst (v := 0) hx hb dX5_readPerson_49 (by decide) ?_
            refine lv_bipush (v := 9) hx hb dX5_readPerson_50 (by decide) ?_
            refine q_callVi (rest := [.int z_27]) (wr := [(h5, .inr (3, [.int p8, .int p9, .int p10, .int p11, w2, w3, w4, .ref h6, .ref h7, .ref h8, .ref h9, .ref h10])), (h6, .inl (cy 1, 10, .inl f3)), (h7, .inl (cy 1, 10, .inl f4)), (h8, .inl (cy 1, 10, .inl f5)), (h9, .inl (cy 1, 10, .inl f6)), (h10, .inl (cy 1, 10, .inl f7))]) X hK hT hA h (fun sz => gX5_takeNumber_b9026d7 l D cy h0 h1 h2 h3 h4 v59_17_0 v59_17_1 v59_17_2 v59_17_3 (.ref h5) w0 p4 p5 w1 p6 p7 f0 f1 f2 hv59_17_0 (i_rng _) (i_rng _) (i_rng _) hp4 (i_rng _) hp6 hp7 (hpre0) (by omega) (by omega) (by omega) sz) wm_3_80 wm_3_83 wm_1_2 hd_X5_takeNumber wm_3_82 wp_1_11 (ci := 5) (q0 := 0) rfl rfl ⟨Nat.le_of_ble_eq_true rfl, Nat.le_of_ble_eq_true rfl⟩ hl_26.1 rfl (Nat.le_of_ble_eq_true rfl) dX5_readPerson_52 ⟨Nat.le_of_ble_eq_true rfl, Nat.le_of_ble_eq_true rfl⟩ [7, 8, 9, 10, 0] [1, 2, 3, 4, 5, 6] rfl rfl (by decide) rfl rfl (fun r_66 u_66 H locs w_66 h_66 => ?_)
            clear h
            obtain ⟨wr_66, w66_0, w66_1, w66_2, w66_3, y66_0, y66_1, y66_2, y66_3, y66_4, y66_5, _⟩ := w_66
            have lq_66_1 : (0 : Int32).toInt = 0 := (by decide)
            have lq_66_2 : (9 : Int32).toInt = 9 := (by decide)
            replace h_66 : qW D _ _ [(h5, .inr (3, [.int p8, .int p9, .int p10, .int p11, w2, w3, w4, .ref h6, .ref h7, .ref h8, .ref h9, .ref h10])), (h6, .inl (cy 1, 10, .inl f3)), (h7, .inl (cy 1, 10, .inl f4)), (h8, .inl (cy 1, 10, .inl f5)), (h9, .inl (cy 1, 10, .inl f6)), (h10, .inl (cy 1, 10, .inl f7)), (h0, .inr (5, [.ref h1, .int (u_66.2.1 0 0), .int (u_66.2.1 1 0), .int (u_66.2.1 2 0), .int (u_66.2.1 3 0), .ref h5, w0, .int p4, .int p5])), (h1, .inr (8, [w1, .int p6, .int p7, .ref h2, .ref h3, .ref h4])), (h2, .inl (cy 1, 901, .inl f0)), (h3, .inl (cy 1, 901, .inl f1)), (h4, .inl (cy 1, 901, .inl f2))] _ _ := h_66
            refine lv_goto (tgt := 59) hx hb dX5_readPerson_55 (by decide) ?_
            exact J_59 _ _ _ _ ⟨(u_66.2.1 0 0), (u_66.2.1 1 0), (u_66.2.1 2 0), (u_66.2.1 3 0), r_66, w66_0, w66_1, w66_2, w66_3, wr_66, (by omega), (by omega), (by omega), (by omega), (by omega), (by omega), rfl, (q_re h_66 [10, 0, 1, 2, 3, 4, 5, 6, 7, 8, 9] rfl rfl), (lv_sub hl_26 [2, 3, 1, 0] rfl)⟩
      · skip
        refine lv_icmp_ge (tgt := 58) hx hb dX5_readPerson_45 (by decide) (fun c_67 => ?_) (fun c_67 => ?_)
        · replace c_67 := i_le (x := p8) (y := 1) rfl (show (1 : Int32).toInt = 1 by decide) c_67
          refine lv_iconst (v := 0) hx hb dX5_readPerson_58 (by decide) ?_
          exact J_59 _ _ _ _ ⟨v59_6_0, v59_6_1, v59_6_2, v59_6_3, 0, hv59_6_0, hv59_6_1, hv59_6_2, hv59_6_3, ⟨by decide +kernel, by decide +kernel⟩, (by omega), (by omega), (by omega), (by omega), (by omega), (by omega), rfl, h, (lv_sub hl_15 [2, 3, 1, 0] rfl)⟩
        · replace c_67 := i_nle (x := p8) (y := 1) rfl (show (1 : Int32).toInt = 1 by decide) c_67
          refine lv_aload_n hx hb dX5_readPerson_48 rfl (lv_at hl_15 2 rfl) ?_
          refine lv_iconst (v := 0) hx hb dX5_readPerson_49 (by decide) ?_
          refine lv_bipush (v := 9) hx hb dX5_readPerson_50 (by decide) ?_
          refine q_callVi (rest := [.int z_16]) (wr := [(h5, .inr (3, [.int p8, .int p9, .int p10, .int p11, w2, w3, w4, .ref h6, .ref h7, .ref h8, .ref h9, .ref h10])), (h6, .inl (cy 1, 10, .inl f3)), (h7, .inl (cy 1, 10, .inl f4)), (h8, .inl (cy 1, 10, .inl f5)), (h9, .inl (cy 1, 10, .inl f6)), (h10, .inl (cy 1, 10, .inl f7))]) X hK hT hA h (fun sz => gX5_takeNumber_b9026d7 l D cy h0 h1 h2 h3 h4 v59_6_0 v59_6_1 v59_6_2 v59_6_3 (.ref h5) w0 p4 p5 w1 p6 p7 f0 f1 f2 hv59_6_0 (i_rng _) (i_rng _) (i_rng _) hp4 (i_rng _) hp6 hp7 (hpre0) (by omega) (by omega) (by omega) sz) wm_3_80 wm_3_83 wm_1_2 hd_X5_takeNumber wm_3_82 wp_1_11 (ci := 5) (q0 := 0) rfl rfl ⟨Nat.le_of_ble_eq_true rfl, Nat.le_of_ble_eq_true rfl⟩ hl_15.1 rfl (Nat.le_of_ble_eq_true rfl) dX5_readPerson_52 ⟨Nat.le_of_ble_eq_true rfl, Nat.le_of_ble_eq_true rfl⟩ [7, 8, 9, 10, 0] [1, 2, 3, 4, 5, 6] rfl rfl (by decide) rfl rfl (fun r_68 u_68 H locs w_68 h_68 => ?_)
          clear h
          obtain ⟨wr_68, w68_0, w68_1, w68_2, w68_3, y68_0, y68_1, y68_2, y68_3, y68_4, y68_5, _⟩ := w_68
          have lq_68_1 : (0 : Int32).toInt = 0 := (by decide)
          have lq_68_2 : (9 : Int32).toInt = 9 := (by decide)
          replace h_68 : qW D _ _ [(h5, .inr (3, [.int p8, .int p9, .int p10, .int p11, w2, w3, w4, .ref h6, .ref h7, .ref h8, .ref h9, .ref h10])), (h6, .inl (cy 1, 10, .inl f3)), (h7, .inl (cy 1, 10, .inl f4)), (h8, .inl (cy 1, 10, .inl f5)), (h9, .inl (cy 1, 10, .inl f6)), (h10, .inl (cy 1, 10, .inl f7)), (h0, .inr (5, [.ref h1, .int (u_68.2.1 0 0), .int (u_68.2.1 1 0), .int (u_68.2.1 2 0), .int (u_68.2.1 3 0), .ref h5, w0, .int p4, .int p5])), (h1, .inr (8, [w1, .int p6, .int p7, .ref h2, .ref h3, .ref h4])), (h2, .inl (cy 1, 901, .inl f0)), (h3, .inl (cy 1, 901, .inl f1)), (h4, .inl (cy 1, 901, .inl f2))] _ _ := h_68
          refine lv_goto (tgt := 59) hx hb dX5_readPerson_55 (by decide) ?_
          exact J_59 _ _ _ _ ⟨(u_68.2.1 0 0), (u_68.2.1 1 0), (u_68.2.1 2 0), (u_68.2.1 3 0), r_68, w68_0, w68_1, w68_2, w68_3, wr_68, (by omega), (by omega), (by omega), (by omega), (by omega), (by omega), rfl, (q_re h_68 [10, 0, 1, 2, 3, 4, 5, 6, 7, 8, 9] rfl rfl), (lv_sub hl_15 [2, 3, 1, 0] rfl)⟩
    · skip
      refine lv_icmp_ge (tgt := 58) hx hb dX5_readPerson_45 (by decide) (fun c_69 => ?_) (fun c_69 => ?_)
      · replace c_69 := i_le (x := p8) (y := 0) rfl (show (0 : Int32).toInt = 0 by decide) c_69
        exfalso
        omega
      · replace c_69 := i_nle (x := p8) (y := 0) rfl (show (0 : Int32).toInt = 0 by decide) c_69
        refine lv_aload_n hx hb dX5_readPerson_48 rfl (lv_at hl_5 3 rfl) ?_
        refine lv_iconst (v := 0) hx hb dX5_readPerson_49 (by decide) ?_
        refine lv_bipush (v := 9) hx hb dX5_readPerson_50 (by decide) ?_
        refine q_callVi (rest := [.int 0]) (wr := [(h5, .inr (3, [.int p8, .int p9, .int p10, .int p11, w2, w3, w4, .ref h6, .ref h7, .ref h8, .ref h9, .ref h10])), (h6, .inl (cy 1, 10, .inl f3)), (h7, .inl (cy 1, 10, .inl f4)), (h8, .inl (cy 1, 10, .inl f5)), (h9, .inl (cy 1, 10, .inl f6)), (h10, .inl (cy 1, 10, .inl f7))]) X hK hT hA h_3 (fun sz => gX5_takeNumber_b9026d7 l D cy h0 h1 h2 h3 h4 (u_3.2.1 0 0) (u_3.2.1 1 0) (u_3.2.1 2 0) (u_3.2.1 3 0) (.ref h5) w0 p4 p5 w1 p6 p7 f0 f1 f2 w3_0 (i_rng _) (i_rng _) (i_rng _) hp4 (i_rng _) hp6 hp7 (hpre0) (by omega) (by omega) (by omega) sz) wm_3_80 wm_3_83 wm_1_2 hd_X5_takeNumber wm_3_82 wp_1_11 (ci := 5) (q0 := 0) rfl rfl ⟨Nat.le_of_ble_eq_true rfl, Nat.le_of_ble_eq_true rfl⟩ hl_5.1 rfl (Nat.le_of_ble_eq_true rfl) dX5_readPerson_52 ⟨Nat.le_of_ble_eq_true rfl, Nat.le_of_ble_eq_true rfl⟩ [7, 8, 9, 10, 0] [1, 2, 3, 4, 5, 6] rfl rfl (by decide) rfl rfl (fun r_70 u_70 H locs w_70 h_70 => ?_)
        clear h_3
        obtain ⟨wr_70, w70_0, w70_1, w70_2, w70_3, y70_0, y70_1, y70_2, y70_3, y70_4, y70_5, _⟩ := w_70
        have lq_70_1 : (0 : Int32).toInt = 0 := (by decide)
        have lq_70_2 : (9 : Int32).toInt = 9 := (by decide)
        replace h_70 : qW D _ _ [(h5, .inr (3, [.int p8, .int p9, .int p10, .int p11, w2, w3, w4, .ref h6, .ref h7, .ref h8, .ref h9, .ref h10])), (h6, .inl (cy 1, 10, .inl f3)), (h7, .inl (cy 1, 10, .inl f4)), (h8, .inl (cy 1, 10, .inl f5)), (h9, .inl (cy 1, 10, .inl f6)), (h10, .inl (cy 1, 10, .inl f7)), (h0, .inr (5, [.ref h1, .int (u_70.2.1 0 0), .int (u_70.2.1 1 0), .int (u_70.2.1 2 0), .int (u_70.2.1 3 0), .ref h5, w0, .int p4, .int p5])), (h1, .inr (8, [w1, .int p6, .int p7, .ref h2, .ref h3, .ref h4])), (h2, .inl (cy 1, 901, .inl f0)), (h3, .inl (cy 1, 901, .inl f1)), (h4, .inl (cy 1, 901, .inl f2))] _ _ := h_70
        refine lv_goto (tgt := 59) hx hb dX5_readPerson_55 (by decide) ?_
        exact J_59 _ _ _ _ ⟨(u_70.2.1 0 0), (u_70.2.1 1 0), (u_70.2.1 2 0), (u_70.2.1 3 0), r_70, w70_0, w70_1, w70_2, w70_3, wr_70, (by omega), (by omega), (by omega), (by omega), (by omega), (by omega), rfl, (q_re h_70 [10, 0, 1, 2, 3, 4, 5, 6, 7, 8, 9] rfl rfl), (lv_sub hl_5 [3, 2, 1, 0] rfl)⟩
  · replace c_2 := i_nlt (x := p9) (y := 10) rfl (show (10 : Int32).toInt = 10 by decide) c_2
    refine lv_aload_n hx hb dX5_readPerson_14 rfl (lv_at hl_1 1 rfl) ?_
    refine lv_iconst (v := 4) hx hb dX5_readPerson_15 (by decide) ?_
    refine q_callVv (rest := []) (wr := [(h2, .inl (cy 1, 901, .inl f0)), (h4, .inl (cy 1, 901, .inl f2)), (h5, .inr (3, [.int p8, .int p9, .int p10, .int p11, w2, w3, w4, .ref h6, .ref h7, .ref h8, .ref h9, .ref h10])), (h6, .inl (cy 1, 10, .inl f3)), (h7, .inl (cy 1, 10, .inl f4)), (h8, .inl (cy 1, 10, .inl f5)), (h9, .inl (cy 1, 10, .inl f6)), (h10, .inl (cy 1, 10, .inl f7))]) X hK hT hA h (fun sz => gX5_refuse_3c74158 l D cy h0 h1 h3 p0 p1 p2 p3 (.ref h5) w0 p4 p5 w1 p6 p7 (.ref h2) (.ref h4) f1 hp0 (i_rng _) (i_rng _) (i_rng _) hp4 (i_rng _) hp6 hp7 (by omega) (by omega) (by have q0 : (4 : Int32).toInt = 4 := (by decide); omega) sz) wm_3_76 wm_3_79 wm_1_2 hd_X5_refuse wm_3_78 wp_1_10 (ci := 5) (q0 := 0) rfl rfl ⟨Nat.le_of_ble_eq_true rfl, Nat.le_of_ble_eq_true rfl⟩ hl_1.1 rfl (Nat.le_of_ble_eq_true rfl) dX5_readPerson_16 ⟨Nat.le_of_ble_eq_true rfl, Nat.le_of_ble_eq_true rfl⟩ [0, 1, 3] [2, 4, 5, 6, 7, 8, 9, 10] rfl rfl (by decide) rfl rfl (fun u_71 H locs w_71 h_71 => ?_)
    clear h
    obtain ⟨w71_0, w71_1, w71_2, y71_0, y71_1, _⟩ := w_71
    have lq_71_1 : (4 : Int32).toInt = 4 := (by decide)
    replace h_71 : qW D _ _ [(h2, .inl (cy 1, 901, .inl f0)), (h4, .inl (cy 1, 901, .inl f2)), (h5, .inr (3, [.int p8, .int p9, .int p10, .int p11, w2, w3, w4, .ref h6, .ref h7, .ref h8, .ref h9, .ref h10])), (h6, .inl (cy 1, 10, .inl f3)), (h7, .inl (cy 1, 10, .inl f4)), (h8, .inl (cy 1, 10, .inl f5)), (h9, .inl (cy 1, 10, .inl f6)), (h10, .inl (cy 1, 10, .inl f7)), (h0, .inr (5, [.ref h1, .int p0, .int (u_71.2.1 0 0), .int (u_71.2.1 1 0), .int (u_71.2.1 2 0), .ref h5, w0, .int p4, .int p5])), (h1, .inr (8, [w1, .int p6, .int p7, .ref h2, .ref h3, .ref h4])), (h3, .inl (cy 1, 901, .inl f1))] _ _ := h_71
    exact q_vret X hr hlk hK h_71 (fun _ => 0, fun k => List.getD [(fun _ => p9), f3, f4, f5, f6, f7, (fun _ => p0), (fun _ => (u_71.2.1 0 0)), (fun _ => (u_71.2.1 1 0)), (fun _ => (u_71.2.1 2 0))] k (fun _ => 0), fun _ _ => 0) ⟨(⟨by omega, by omega⟩ : 1 ≤ (p9 : Int32).toInt ∧ (p9 : Int32).toInt ≤ 10), (rg_wide rf3 (by decide) (by decide)), (hp0 : (-1) ≤ (p0 : Int32).toInt ∧ (p0 : Int32).toInt ≤ 900), (w71_0 : (-2147483648) ≤ ((u_71.2.1 0 0) : Int32).toInt ∧ ((u_71.2.1 0 0) : Int32).toInt ≤ 2147483647), (w71_1 : (-2147483648) ≤ ((u_71.2.1 1 0) : Int32).toInt ∧ ((u_71.2.1 1 0) : Int32).toInt ≤ 2147483647), (w71_2 : (-2147483648) ≤ ((u_71.2.1 2 0) : Int32).toInt ∧ ((u_71.2.1 2 0) : Int32).toInt ≤ 2147483647), (show 0 ≤ (p0 : Int32).toInt ∧ (p0 : Int32).toInt < (p7 : Int32).toInt from by omega), (show ((u_71.2.1 1 0) : Int32).toInt ≠ 0 ∨ ((u_71.2.1 0 0) : Int32).toInt = 26 ∨ ((u_71.2.1 0 0) : Int32).toInt = 27 ∨ (p0 : Int32).toInt + 1 < (p7 : Int32).toInt from by omega), (show ((u_71.2.1 1 0) : Int32).toInt = 0 ∨ ((u_71.2.1 0 0) : Int32).toInt = 27 from by omega), (show ((u_71.2.1 1 0) : Int32).toInt ≠ 0 ∨ (p2 : Int32).toInt = 0 from by omega), (show (p0 : Int32).toInt ≤ (p0 : Int32).toInt from by omega), (show ((u_71.2.1 1 0) : Int32).toInt ≠ 0 ∨ (p0 : Int32).toInt + 1 ≤ (p0 : Int32).toInt from by omega), trivial⟩ [8, 9, 0, 10, 1, 2, 3, 4, 5, 6, 7] rfl rfl dX5_readPerson_19 (Nat.le_of_ble_eq_true rfl) (Nat.le_of_ble_eq_true rfl)
set_option maxHeartbeats 4000000 in
set_option maxRecDepth 100000 in
theorem gX5_take_0541260 (l : Launch) (D : va_G) (cy : Nat → ClassId) (h0 : Nat) (h1 : Nat) (h2 : Nat) (h3 : Nat) (p0 : Int32) (p1 : Int32) (p2 : Int32) (p3 : Int32) (w0 : Value) (w1 : Value) (p4 : Int32) (p5 : Int32) (w2 : Value) (p6 : Int32) (p7 : Int32) (w3 : Value) (f0 : Nat → Int32) (f1 : Nat → Int32) (hp0 : (-1) ≤ (p0).toInt ∧ (p0).toInt ≤ 900) (hp1 : (-2147483648) ≤ (p1).toInt ∧ (p1).toInt ≤ 2147483647) (hp2 : (-2147483648) ≤ (p2).toInt ∧ (p2).toInt ≤ 2147483647) (hp3 : (-2147483648) ≤ (p3).toInt ∧ (p3).toInt ≤ 2147483647) (hp4 : 0 ≤ (p4).toInt ∧ (p4).toInt ≤ 900) (hp5 : (-2147483648) ≤ (p5).toInt ∧ (p5).toInt ≤ 2147483647) (hp6 : 0 ≤ (p6).toInt ∧ (p6).toInt ≤ 900) (hp7 : 0 ≤ (p7).toInt ∧ (p7).toInt ≤ 901) (hpre0 : KZ f0 (p7 : Int32).toInt) (hpre1 : 0 ≤ (p0 : Int32).toInt ∧ (p0 : Int32).toInt < (p7 : Int32).toInt) (hpre2 : (p2 : Int32).toInt ≠ 0 ∨ (p1 : Int32).toInt = 26 ∨ (p1 : Int32).toInt = 27 ∨ (p0 : Int32).toInt + 1 < (p7 : Int32).toInt) (hpre3 : (p2 : Int32).toInt = 0 ∨ (p1 : Int32).toInt = 27) (hpre4 : (58 : Int32).toInt ≠ 26 ∧ (58 : Int32).toInt ≠ 27) (sz : Nat) : MV l yX5_take cX5_take 2 { frames := 1, cells := 0, slots := 0, locals := 21 } [.ref h0, .int 58] D cy [(h0, .inr (5, [.ref h1, .int p0, .int p1, .int p2, .int p3, w0, w1, .int p4, .int p5])), (h1, .inr (8, [w2, .int p6, .int p7, .ref h2, .ref h3, w3])), (h2, .inl (cy 1, 901, .inl f0)), (h3, .inl (cy 1, 901, .inl f1))] sz (fun u => ((-2147483648) ≤ (u.2.1 0 0).toInt ∧ (u.2.1 0 0).toInt ≤ 2147483647) ∧ ((-2147483648) ≤ (u.2.1 1 0).toInt ∧ (u.2.1 1 0).toInt ≤ 2147483647) ∧ ((-2147483648) ≤ (u.2.1 2 0).toInt ∧ (u.2.1 2 0).toInt ≤ 2147483647) ∧ ((-1) ≤ (u.2.1 3 0).toInt ∧ (u.2.1 3 0).toInt ≤ 900) ∧ (0 ≤ ((u.2.1 3 0) : Int32).toInt ∧ ((u.2.1 3 0) : Int32).toInt < (p7 : Int32).toInt) ∧ (((u.2.1 1 0) : Int32).toInt ≠ 0 ∨ ((u.2.1 0 0) : Int32).toInt = 26 ∨ ((u.2.1 0 0) : Int32).toInt = 27 ∨ ((u.2.1 3 0) : Int32).toInt + 1 < (p7 : Int32).toInt) ∧ (((u.2.1 1 0) : Int32).toInt ≠ 0 ∨ ((u.2.1 3 0) : Int32).toInt = (p0 : Int32).toInt + 1) ∧ (((u.2.1 1 0) : Int32).toInt ≠ 0 ∨ (p2 : Int32).toInt = 0) ∧ (((u.2.1 1 0) : Int32).toInt = 0 ∨ ((u.2.1 0 0) : Int32).toInt = 27) ∧ ((p0 : Int32).toInt ≤ ((u.2.1 3 0) : Int32).toInt) ∧ True) (fun u => [(h0, .inr (5, [.ref h1, .int (u.2.1 3 0), .int (u.2.1 0 0), .int (u.2.1 1 0), .int (u.2.1 2 0), w0, w1, .int p4, .int p5])), (h1, .inr (8, [w2, .int p6, .int p7, .ref h2, .ref h3, w3])), (h2, .inl (cy 1, 901, .inl f0)), (h3, .inl (cy 1, 901, .inl f1))]) 0 0 := by
  refine q_ent (own := RX5) (by decide) rfl (Nat.le_of_ble_eq_true rfl) (fun p e s m below meth c ls X hr hlk hnm hK hT h hA hl => ?_)
  obtain ⟨hx, hb, hml, hown, ht⟩ := id X
  replace hl : lv_has ls 2 [(0, .ref h0), (1, .int 58)] := hl
  refine lv_aload_n hx hb dX5_take_0 rfl (lv_at hl 0 rfl) ?_
  refine q_get X hK h 0 rfl rfl wf_5 2 (by decide) rfl wm_1_146 dX5_take_1 ?_
  refine lv_iload_n hx hb dX5_take_4 rfl (lv_at hl 1 rfl) ?_
  refine lv_icmp_ne (tgt := 15) hx hb dX5_take_5 (by decide) (fun c_1 => ?_) (fun c_1 => ?_)
  · replace c_1 := i_ne (x := p1) (y := 58) rfl (show (58 : Int32).toInt = 58 by decide) c_1
    refine lv_aload_n hx hb dX5_take_15 rfl (lv_at hl 0 rfl) ?_
    refine lv_iconst (v := 2) hx hb dX5_take_16 (by decide) ?_
    refine q_callVv (rest := []) (wr := [(h2, .inl (cy 1, 901, .inl f0))]) X hK hT hA h (fun sz => gX5_refuse_067fcff l D cy h0 h1 h3 p0 p1 p2 p3 w0 w1 p4 p5 w2 p6 p7 (.ref h2) w3 f1 hp0 (i_rng _) (i_rng _) (i_rng _) hp4 (i_rng _) hp6 hp7 (by omega) (by omega) (by have q0 : (2 : Int32).toInt = 2 := (by decide); omega) sz) wm_3_76 wm_3_79 wm_1_2 hd_X5_refuse wm_3_78 wp_1_10 (ci := 5) (q0 := 0) rfl rfl ⟨Nat.le_of_ble_eq_true rfl, Nat.le_of_ble_eq_true rfl⟩ hl.1 rfl (Nat.le_of_ble_eq_true rfl) dX5_take_17 ⟨Nat.le_of_ble_eq_true rfl, Nat.le_of_ble_eq_true rfl⟩ [0, 1, 3] [2] rfl rfl (by decide) rfl rfl (fun u_2 H locs w_2 h_2 => ?_)
    clear h
    obtain ⟨w2_0, w2_1, w2_2, y2_0, y2_1, _⟩ := w_2
    have lq_2_1 : (2 : Int32).toInt = 2 := (by decide)
    replace h_2 : qW D _ _ [(h2, .inl (cy 1, 901, .inl f0)), (h0, .inr (5, [.ref h1, .int p0, .int (u_2.2.1 0 0), .int (u_2.2.1 1 0), .int (u_2.2.1 2 0), w0, w1, .int p4, .int p5])), (h1, .inr (8, [w2, .int p6, .int p7, .ref h2, .ref h3, w3])), (h3, .inl (cy 1, 901, .inl f1))] _ _ := h_2
    exact q_vret X hr hlk hK h_2 (fun _ => 0, fun k => List.getD [(fun _ => (u_2.2.1 0 0)), (fun _ => (u_2.2.1 1 0)), (fun _ => (u_2.2.1 2 0)), (fun _ => p0)] k (fun _ => 0), fun _ _ => 0) ⟨(w2_0 : (-2147483648) ≤ ((u_2.2.1 0 0) : Int32).toInt ∧ ((u_2.2.1 0 0) : Int32).toInt ≤ 2147483647), (w2_1 : (-2147483648) ≤ ((u_2.2.1 1 0) : Int32).toInt ∧ ((u_2.2.1 1 0) : Int32).toInt ≤ 2147483647), (w2_2 : (-2147483648) ≤ ((u_2.2.1 2 0) : Int32).toInt ∧ ((u_2.2.1 2 0) : Int32).toInt ≤ 2147483647), (hp0 : (-1) ≤ (p0 : Int32).toInt ∧ (p0 : Int32).toInt ≤ 900), (show 0 ≤ (p0 : Int32).toInt ∧ (p0 : Int32).toInt < (p7 : Int32).toInt from by omega), (show ((u_2.2.1 1 0) : Int32).toInt ≠ 0 ∨ ((u_2.2.1 0 0) : Int32).toInt = 26 ∨ ((u_2.2.1 0 0) : Int32).toInt = 27 ∨ (p0 : Int32).toInt + 1 < (p7 : Int32).toInt from by omega), (show ((u_2.2.1 1 0) : Int32).toInt ≠ 0 ∨ (p0 : Int32).toInt = (p0 : Int32).toInt + 1 from by omega), (show ((u_2.2.1 1 0) : Int32).toInt ≠ 0 ∨ (p2 : Int32).toInt = 0 from by omega), (show ((u_2.2.1 1 0) : Int32).toInt = 0 ∨ ((u_2.2.1 0 0) : Int32).toInt = 27 from by omega), (show (p0 : Int32).toInt ≤ (p0 : Int32).toInt from by omega), trivial⟩ [1, 2, 0, 3] rfl rfl dX5_take_20 (Nat.le_of_ble_eq_true rfl) (Nat.le_of_ble_eq_true rfl)
  · replace c_1 := i_eq (x := p1) (y := 58) rfl (show (58 : Int32).toInt = 58 by decide) c_1
    refine lv_aload_n hx hb dX5_take_8 rfl (lv_at hl 0 rfl) ?_
    refine q_callVv (rest := []) (wr := []) X hK hT hA h (fun sz => gX5_advance_9820dfe l D cy h0 h1 h2 h3 p0 p1 p2 p3 w0 w1 p4 p5 w2 p6 p7 w3 f0 f1 hp0 (i_rng _) (i_rng _) (i_rng _) hp4 (i_rng _) hp6 hp7 (hpre0) (by omega) (by omega) sz) wm_3_68 wm_3_71 wm_1_2 hd_X5_advance wm_3_70 wp_1_8 (ci := 5) (q0 := 0) rfl rfl ⟨Nat.le_of_ble_eq_true rfl, Nat.le_of_ble_eq_true rfl⟩ hl.1 rfl (Nat.le_of_ble_eq_true rfl) dX5_take_9 ⟨Nat.le_of_ble_eq_true rfl, Nat.le_of_ble_eq_true rfl⟩ [0, 1, 2, 3] [] rfl rfl (by decide) rfl rfl (fun u_3 H locs w_3 h_3 => ?_)
    clear h
    obtain ⟨w3_0, w3_1, w3_2, w3_3, y3_0, y3_1, y3_2, y3_3, y3_4, y3_5, _⟩ := w_3
    replace h_3 : qW D _ _ [(h0, .inr (5, [.ref h1, .int (u_3.2.1 0 0), .int (u_3.2.1 1 0), .int (u_3.2.1 2 0), .int (u_3.2.1 3 0), w0, w1, .int p4, .int p5])), (h1, .inr (8, [w2, .int p6, .int p7, .ref h2, .ref h3, w3])), (h2, .inl (cy 1, 901, .inl f0)), (h3, .inl (cy 1, 901, .inl f1))] _ _ := h_3
    refine lv_goto (tgt := 20) hx hb dX5_take_12 (by decide) ?_
    exact q_vret X hr hlk hK h_3 (fun _ => 0, fun k => List.getD [(fun _ => (u_3.2.1 1 0)), (fun _ => (u_3.2.1 2 0)), (fun _ => (u_3.2.1 3 0)), (fun _ => (u_3.2.1 0 0))] k (fun _ => 0), fun _ _ => 0) ⟨(w3_1 : (-2147483648) ≤ ((u_3.2.1 1 0) : Int32).toInt ∧ ((u_3.2.1 1 0) : Int32).toInt ≤ 2147483647), (w3_2 : (-2147483648) ≤ ((u_3.2.1 2 0) : Int32).toInt ∧ ((u_3.2.1 2 0) : Int32).toInt ≤ 2147483647), (w3_3 : (-2147483648) ≤ ((u_3.2.1 3 0) : Int32).toInt ∧ ((u_3.2.1 3 0) : Int32).toInt ≤ 2147483647), (w3_0 : (-1) ≤ ((u_3.2.1 0 0) : Int32).toInt ∧ ((u_3.2.1 0 0) : Int32).toInt ≤ 900), (show 0 ≤ ((u_3.2.1 0 0) : Int32).toInt ∧ ((u_3.2.1 0 0) : Int32).toInt < (p7 : Int32).toInt from by omega), (show ((u_3.2.1 2 0) : Int32).toInt ≠ 0 ∨ ((u_3.2.1 1 0) : Int32).toInt = 26 ∨ ((u_3.2.1 1 0) : Int32).toInt = 27 ∨ ((u_3.2.1 0 0) : Int32).toInt + 1 < (p7 : Int32).toInt from by omega), (show ((u_3.2.1 2 0) : Int32).toInt ≠ 0 ∨ ((u_3.2.1 0 0) : Int32).toInt = (p0 : Int32).toInt + 1 from by omega), (show ((u_3.2.1 2 0) : Int32).toInt ≠ 0 ∨ (p2 : Int32).toInt = 0 from by omega), (show ((u_3.2.1 2 0) : Int32).toInt = 0 ∨ ((u_3.2.1 1 0) : Int32).toInt = 27 from by omega), (show (p0 : Int32).toInt ≤ ((u_3.2.1 0 0) : Int32).toInt from by omega), trivial⟩ [0, 1, 2, 3] rfl rfl dX5_take_20 (Nat.le_of_ble_eq_true rfl) (Nat.le_of_ble_eq_true rfl)
set_option maxHeartbeats 4000000 in
set_option maxRecDepth 100000 in
theorem gJ7_copyOf_59c91_81346bf (l : Launch) (D : va_G) (cy : Nat → ClassId) (h0 : Nat) (p0 : Int32) (f0 : Nat → Int32) (hp0 : 0 ≤ (p0).toInt ∧ (p0).toInt ≤ 899) (hpre0 : (p0 : Int32).toInt ≤ 899) (sz : Nat) : MAr l yJ7_copyOf_59c91 cJ7_copyOf_59c91 3 { frames := 1, cells := 1, slots := 900, locals := 40 } [.ref h0, .int p0] D cy [(h0, .inl (cy 1, 900, .inl f0))] sz (fun u => True) (fun u => [(h0, .inl (cy 1, 900, .inl f0)), ((u.1 0), .inl (cy 1, p0.toNatClampNeg, .inl (u.2.1 0)))]) 1 900 := by
  refine q_ent (own := RJ7) (by decide) rfl (Nat.le_of_ble_eq_true rfl) (fun p e s m below meth c ls X hr hlk hnm hK hT h hA hl => ?_)
  obtain ⟨hx, hb, hml, hown, ht⟩ := id X
  replace hl : lv_has ls 3 [(0, .ref h0), (1, .int p0)] := hl
  refine lv_iload_n hx hb dJ7_copyOf_59c91_0 rfl (lv_at hl 1 rfl) ?_
  refine lv_aload_n hx hb dJ7_copyOf_59c91_1 rfl (lv_at hl 0 rfl) ?_
  refine q_alen X hK h 0 1 rfl rfl 900 (show Int32.ofNat 900 = 900 by decide) dJ7_copyOf_59c91_2 ?_
  refine lv_icmp_ne (tgt := 14) hx hb dJ7_copyOf_59c91_3 (by decide) (fun c_1 => ?_) (fun c_1 => ?_)
  · replace c_1 := i_ne (x := p0) (y := 900) rfl (show (900 : Int32).toInt = 900 by decide) c_1
    refine lv_iload_n hx hb dJ7_copyOf_59c91_14 rfl (lv_at hl 1 rfl) ?_
    refine q_newi X hK hA h wm_1_67 (p0.toNatClampNeg) (i_nn (by omega)) rfl (i_bts (by omega) (by omega)) (Nat.le_of_ble_eq_true rfl) (i_sl (by omega) (by omega)) dJ7_copyOf_59c91_15 (fun q_2 H h_2 => ?_)
    refine W.widen (k := 1) (n := 900) (Nat.le_of_ble_eq_true rfl) (i_sl (by omega) (by omega)) ?_
    clear h
    replace h_2 : qW D _ _ [(h0, .inl (cy 1, 900, .inl f0)), (q_2, .inl (cy 1, p0.toNatClampNeg, .inl (fun _ => 0)))] _ _ := h_2
    refine lv_astore_n (lv' := [(2, .ref q_2), (0, .ref h0), (1, .int p0)]) hx hb dJ7_copyOf_59c91_17 rfl hl (by decide) rfl (fun ls_3 hl_3 => ?_)
    clear hl
    refine lv_aload_n hx hb dJ7_copyOf_59c91_18 rfl (lv_at hl_3 1 rfl) ?_
    refine lv_iconst (v := 0) hx hb dJ7_copyOf_59c91_19 (by decide) ?_
    refine lv_aload_n hx hb dJ7_copyOf_59c91_20 rfl (lv_at hl_3 0 rfl) ?_
    refine lv_iconst (v := 0) hx hb dJ7_copyOf_59c91_21 (by decide) ?_
    refine lv_aload_n hx hb dJ7_copyOf_59c91_22 rfl (lv_at hl_3 1 rfl) ?_
    refine q_alen X hK h_2 0 1 rfl rfl 900 (show Int32.ofNat 900 = 900 by decide) dJ7_copyOf_59c91_23 ?_
    refine lv_iload_n hx hb dJ7_copyOf_59c91_24 rfl (lv_at hl_3 2 rfl) ?_
    refine va_mmin hx hb (hml.trans hl_3.1.symm) hown (ht _ wm_3_149) (ht _ wm_2_171) (ht _ wm_1_13) (ht _ wm_2_172) (Nat.le_of_ble_eq_true rfl) (Nat.le_of_ble_eq_true rfl) (Nat.le_of_ble_eq_true rfl) (Nat.le_of_ble_eq_true rfl) dJ7_copyOf_59c91_25 ?_
    obtain ⟨z_4, ez_4, hz_4⟩ := e_min (x := 900) (y := p0) (show (900 : Int32).toInt = 900 by decide) rfl
    refine q_c z_4 ez_4 ?_
    clear ez_4
    refine q_copy X hK h_2 wm_3_150 wm_3_152 wm_3_151 wm_1_21 hl_3.1 0 1 rfl rfl (by decide) (by decide) (i_nn (by omega)) (i_cp0 (by omega) (by omega)) (i_cp1 (by omega) (by omega)) (Nat.le_of_ble_eq_true rfl) (Nat.le_of_ble_eq_true rfl) dJ7_copyOf_59c91_28 (fun F_5 H locs h_6 => ?_)
    clear h_2
    replace h_6 : qW D _ _ [(h0, .inl (cy 1, 900, .inl f0)), (q_2, .inl (cy 1, p0.toNatClampNeg, .inl F_5))] _ _ := h_6
    refine lv_aload_n hx hb dJ7_copyOf_59c91_31 rfl (lv_at hl_3 0 rfl) ?_
    exact q_aretA X hr hlk hK h_6 (fun k => List.getD [q_2] k 0, fun k => List.getD [F_5] k (fun _ => 0), fun _ _ => 0) rfl trivial [0, 1] rfl rfl dJ7_copyOf_59c91_32 (Nat.le_of_ble_eq_true rfl) (Nat.le_of_ble_eq_true rfl)
  · replace c_1 := i_eq (x := p0) (y := 900) rfl (show (900 : Int32).toInt = 900 by decide) c_1
    exfalso
    omega
set_option maxHeartbeats 4000000 in
set_option maxRecDepth 100000 in
theorem gX4_init_6da7c59 (l : Launch) (D : va_G) (cy : Nat → ClassId) (h0 : Nat) (h1 : Nat) (p0 : Int32) (w0 : Value) (f0 : Nat → Int32) (hp0 : 0 ≤ (p0).toInt ∧ (p0).toInt ≤ 899) (hpre0 : (p0 : Int32).toInt ≤ 899) (sz : Nat) : MV l yX4_init cX4_init 3 { frames := 2, cells := 1, slots := 900, locals := 62 } [.ref h0, .ref h1, .int p0] D cy [(h0, .inr (4, [w0])), (h1, .inl (cy 1, 900, .inl f0))] sz (fun u => True) (fun u => [(h0, .inr (4, [.ref (u.1 0)])), (h1, .inl (cy 1, 900, .inl f0)), ((u.1 0), .inl (cy 1, p0.toNatClampNeg, .inl (u.2.1 0)))]) 1 900 := by
  refine q_ent (own := RX4) (by decide) rfl (Nat.le_of_ble_eq_true rfl) (fun p e s m below meth c ls X hr hlk hnm hK hT h hA hl => ?_)
  obtain ⟨hx, hb, hml, hown, ht⟩ := id X
  replace hl : lv_has ls 3 [(0, .ref h0), (1, .ref h1), (2, .int p0)] := hl
  refine lv_aload_n hx hb dX4_init_0 rfl (lv_at hl 0 rfl) ?_
  refine q_obj X wm_3_138 wm_1_29 wm_1_30 hl.1 dX4_init_1 (Nat.le_of_ble_eq_true rfl) (Nat.le_of_ble_eq_true rfl) ?_
  refine lv_aload_n hx hb dX4_init_4 rfl (lv_at hl 0 rfl) ?_
  refine lv_aload_n hx hb dX4_init_5 rfl (lv_at hl 1 rfl) ?_
  refine lv_iload_n hx hb dX4_init_6 rfl (lv_at hl 2 rfl) ?_
  refine q_callSr (rest := [.ref h0]) (wr := [(h0, .inr (4, [w0]))]) X hK hT hA h (fun sz => gJ7_copyOf_59c91_81346bf l D cy h1 p0 f0 hp0 (by omega) sz) wm_3_139 wm_3_141 wm_1_20 hd_J7_copyOf_59c91 wm_3_140 ⟨Nat.le_of_ble_eq_true rfl, Nat.le_of_ble_eq_true rfl⟩ hl.1 rfl (Nat.le_of_ble_eq_true rfl) dX4_init_7 ⟨Nat.le_of_ble_eq_true rfl, Nat.le_of_ble_eq_true rfl⟩ [1] [0] rfl rfl (by decide) rfl rfl (fun u_1 H locs w_1 h_1 => ?_)
  clear h
  clear w_1
  replace h_1 : qW D _ _ [(h0, .inr (4, [w0])), (h1, .inl (cy 1, 900, .inl f0)), ((u_1.1 0), .inl (cy 1, p0.toNatClampNeg, .inl (u_1.2.1 0)))] _ _ := h_1
  refine q_putF (v := .ref (u_1.1 0)) X hK h_1 0 rfl rfl wf_4 tyX4 tyX4_ok nmX4 0 (by decide) wm_3_153 rfl hnm rfl rfl rfl (Nat.le_of_ble_eq_true rfl) dX4_init_10 (fun H locs h_2 => ?_)
  clear h_1
  replace h_2 : qW D _ _ [(h0, .inr (4, [.ref (u_1.1 0)])), (h1, .inl (cy 1, 900, .inl f0)), ((u_1.1 0), .inl (cy 1, p0.toNatClampNeg, .inl (u_1.2.1 0)))] _ _ := h_2
  exact q_vret X hr hlk hK h_2 (fun k => List.getD [(u_1.1 0)] k 0, fun k => List.getD [(u_1.2.1 0)] k (fun _ => 0), fun _ _ => 0) trivial [0, 1, 2] rfl rfl dX4_init_13 (Nat.le_of_ble_eq_true rfl) (Nat.le_of_ble_eq_true rfl)
set_option maxHeartbeats 4000000 in
set_option maxRecDepth 100000 in
theorem gX5_readLaw_3277650 (l : Launch) (D : va_G) (cy : Nat → ClassId) (h0 : Nat) (h1 : Nat) (h2 : Nat) (h3 : Nat) (h4 : Nat) (h5 : Nat) (p0 : Int32) (o0 : Option Nat) (p1 : Int32) (p2 : Int32) (p3 : Int32) (p4 : Int32) (w0 : Value) (p5 : Int32) (p6 : Int32) (w1 : Value) (p7 : Int32) (p8 : Int32) (f0 : Nat → Int32) (f1 : Nat → Int32) (f2 : Nat → Int32) (f3 : Nat → Int32) (hp0 : (-2147483648) ≤ (p0).toInt ∧ (p0).toInt ≤ 2147483647) (hp1 : (-1) ≤ (p1).toInt ∧ (p1).toInt ≤ 900) (hp2 : (-2147483648) ≤ (p2).toInt ∧ (p2).toInt ≤ 2147483647) (hp3 : (-2147483648) ≤ (p3).toInt ∧ (p3).toInt ≤ 2147483647) (hp4 : (-2147483648) ≤ (p4).toInt ∧ (p4).toInt ≤ 2147483647) (hp5 : 0 ≤ (p5).toInt ∧ (p5).toInt ≤ 900) (hp6 : (-2147483648) ≤ (p6).toInt ∧ (p6).toInt ≤ 2147483647) (hp7 : 0 ≤ (p7).toInt ∧ (p7).toInt ≤ 900) (hp8 : 0 ≤ (p8).toInt ∧ (p8).toInt ≤ 901) (hpre0 : KZ f0 (p8 : Int32).toInt) (hpre1 : 0 ≤ (p1 : Int32).toInt ∧ (p1 : Int32).toInt < (p8 : Int32).toInt) (hpre2 : (p3 : Int32).toInt ≠ 0 ∨ (p2 : Int32).toInt = 26 ∨ (p2 : Int32).toInt = 27 ∨ (p1 : Int32).toInt + 1 < (p8 : Int32).toInt) (hpre3 : (p3 : Int32).toInt = 0 ∨ (p2 : Int32).toInt = 27) (hpre4 : (p2 : Int32).toInt ≠ 26 ∧ (p2 : Int32).toInt ≠ 27) (sz : Nat) : MQw l yX5_readLaw cX5_readLaw 4 "OppositeHouse$Law" { frames := 26, cells := 2, slots := 901, locals := 570 } [.ref h0, .int p0, (va_rf o0)] D cy [(h0, .inr (5, [.ref h1, .int p1, .int p2, .int p3, .int p4, w0, .ref h5, .int p5, .int p6])), (h1, .inr (8, [w1, .int p7, .int p8, .ref h2, .ref h3, .ref h4])), (h2, .inl (cy 1, 901, .inl f0)), (h3, .inl (cy 1, 901, .inl f1)), (h4, .inl (cy 1, 901, .inl f2)), (h5, .inl (cy 1, 900, .inl f3))] sz (fun r u => (0 ≤ (u.1.2.1 0 0).toInt ∧ (u.1.2.1 0 0).toInt ≤ 900) ∧ ((-2147483648) ≤ (u.1.2.1 1 0).toInt ∧ (u.1.2.1 1 0).toInt ≤ 2147483647) ∧ ((-2147483648) ≤ (u.1.2.1 2 0).toInt ∧ (u.1.2.1 2 0).toInt ≤ 2147483647) ∧ ((-2147483648) ≤ (u.1.2.1 3 0).toInt ∧ (u.1.2.1 3 0).toInt ≤ 2147483647) ∧ (0 ≤ (u.1.2.1 4 0).toInt ∧ (u.1.2.1 4 0).toInt ≤ 900) ∧ ((-2147483648) ≤ (u.1.2.1 5 0).toInt ∧ (u.1.2.1 5 0).toInt ≤ 2147483647) ∧ (0 ≤ ((u.1.2.1 0 0) : Int32).toInt ∧ ((u.1.2.1 0 0) : Int32).toInt < (p8 : Int32).toInt) ∧ (((u.1.2.1 2 0) : Int32).toInt ≠ 0 ∨ ((u.1.2.1 1 0) : Int32).toInt = 26 ∨ ((u.1.2.1 1 0) : Int32).toInt = 27 ∨ ((u.1.2.1 0 0) : Int32).toInt + 1 < (p8 : Int32).toInt) ∧ (((u.1.2.1 2 0) : Int32).toInt = 0 ∨ ((u.1.2.1 1 0) : Int32).toInt = 27) ∧ (((u.1.2.1 2 0) : Int32).toInt ≠ 0 ∨ (p3 : Int32).toInt = 0) ∧ ((p1 : Int32).toInt ≤ ((u.1.2.1 0 0) : Int32).toInt) ∧ (((u.1.2.1 2 0) : Int32).toInt ≠ 0 ∨ (p1 : Int32).toInt + 1 ≤ ((u.1.2.1 0 0) : Int32).toInt) ∧ (LR cy u.2.1 (va_rf o0) (va_rf r)) ∧ True) (fun u => [(h0, .inr (5, [.ref h1, .int (u.1.2.1 0 0), .int (u.1.2.1 1 0), .int (u.1.2.1 2 0), .int (u.1.2.1 3 0), w0, .ref h5, .int (u.1.2.1 4 0), .int (u.1.2.1 5 0)])), (h1, .inr (8, [w1, .int p7, .int p8, .ref h2, .ref h3, .ref h4])), (h2, .inl (cy 1, 901, .inl f0)), (h3, .inl (cy 1, 901, .inl f1)), (h4, .inl (cy 1, 901, .inl f2)), (h5, .inl (cy 1, 900, .inl (u.1.2.1 6)))]) 2 901 := by
  refine q_ent (own := RX5) (by decide) rfl (by cases o0 <;> exact Nat.le_of_ble_eq_true rfl) (fun p e s m below meth c ls X hr hlk hnm hK hT h hA hl => ?_)
  obtain ⟨hx, hb, hml, hown, ht⟩ := id X
  replace h : qW D _ _ ([(h0, .inr (5, [.ref h1, .int p1, .int p2, .int p3, .int p4, w0, .ref h5, .int p5, .int p6])), (h1, .inr (8, [w1, .int p7, .int p8, .ref h2, .ref h3, .ref h4])), (h2, .inl (cy 1, 901, .inl f0)), (h3, .inl (cy 1, 901, .inl f1)), (h4, .inl (cy 1, 901, .inl f2)), (h5, .inl (cy 1, 900, .inl f3))] ++ []) _ _ := h
  replace hl : lv_has ls 4 [(0, .ref h0), (1, .int p0), (2, (va_rf o0))] := hl
  refine lv_aload_n hx hb dX5_readLaw_0 rfl (lv_at hl 0 rfl) ?_
  refine q_get X hK h 0 rfl rfl wf_5 2 (by decide) rfl wm_1_146 dX5_readLaw_1 ?_
  refine lv_bipush (v := 20) hx hb dX5_readLaw_4 (by decide) ?_
  refine lv_icmp_ne (tgt := 13) hx hb dX5_readLaw_6 (by decide) (fun c_1 => ?_) (fun c_1 => ?_)
  · replace c_1 := i_ne (x := p2) (y := 20) rfl (show (20 : Int32).toInt = 20 by decide) c_1
    refine lv_iconst (v := 0) hx hb dX5_readLaw_13 (by decide) ?_
    refine lv_istore_n (lv' := [(3, .int 0), (0, .ref h0), (1, .int p0), (2, (va_rf o0))]) hx hb dX5_readLaw_14 rfl hl (by decide) (by cases o0 <;> rfl) (fun ls_2 hl_2 => ?_)
    clear hl
    refine lv_aload_n hx hb dX5_readLaw_15 rfl (lv_at hl_2 1 rfl) ?_
    refine q_callVvT (rest := []) (wr := [(h4, .inl (cy 1, 901, .inl f2)), (h5, .inl (cy 1, 900, .inl f3))]) X hK hT hA h (fun sz => gX5_advance_9820dfe l D cy h0 h1 h2 h3 p1 p2 p3 p4 w0 (.ref h5) p5 p6 w1 p7 p8 (.ref h4) f0 f1 hp1 (i_rng _) (i_rng _) (i_rng _) hp5 (i_rng _) hp7 hp8 (hpre0) (by omega) (by omega) sz) wm_3_68 wm_3_71 wm_1_2 hd_X5_advance wm_3_70 wp_1_8 (ci := 5) (q0 := 0) rfl rfl ⟨Nat.le_of_ble_eq_true rfl, Nat.le_of_ble_eq_true rfl⟩ hl_2.1 rfl (Nat.le_of_ble_eq_true rfl) dX5_readLaw_16 ⟨Nat.le_of_ble_eq_true rfl, Nat.le_of_ble_eq_true rfl⟩ [0, 1, 2, 3] [4, 5] rfl rfl (by decide) rfl rfl (fun u_3 H locs w_3 h_3 => ?_)
    clear h
    obtain ⟨w3_0, w3_1, w3_2, w3_3, y3_0, y3_1, y3_2, y3_3, y3_4, y3_5, _⟩ := w_3
    replace h_3 : qW D _ _ ([(h4, .inl (cy 1, 901, .inl f2)), (h5, .inl (cy 1, 900, .inl f3)), (h0, .inr (5, [.ref h1, .int (u_3.2.1 0 0), .int (u_3.2.1 1 0), .int (u_3.2.1 2 0), .int (u_3.2.1 3 0), w0, .ref h5, .int p5, .int p6])), (h1, .inr (8, [w1, .int p7, .int p8, .ref h2, .ref h3, .ref h4])), (h2, .inl (cy 1, 901, .inl f0)), (h3, .inl (cy 1, 901, .inl f1))] ++ []) _ _ := h_3
    refine lv_aload_n hx hb dX5_readLaw_19 rfl (lv_at hl_2 1 rfl) ?_
    refine lv_bipush (v := 58) hx hb dX5_readLaw_20 (by decide) ?_
    refine q_callVvT (rest := []) (wr := [(h4, .inl (cy 1, 901, .inl f2)), (h5, .inl (cy 1, 900, .inl f3))]) X hK hT hA h_3 (fun sz => gX5_take_0541260 l D cy h0 h1 h2 h3 (u_3.2.1 0 0) (u_3.2.1 1 0) (u_3.2.1 2 0) (u_3.2.1 3 0) w0 (.ref h5) p5 p6 w1 p7 p8 (.ref h4) f0 f1 w3_0 (i_rng _) (i_rng _) (i_rng _) hp5 (i_rng _) hp7 hp8 (hpre0) (by omega) (by omega) (by omega) (by have q0 : (58 : Int32).toInt = 58 := (by decide); omega) sz) wm_3_72 wm_3_75 wm_1_2 hd_X5_take wm_3_74 wp_1_9 (ci := 5) (q0 := 0) rfl rfl ⟨Nat.le_of_ble_eq_true rfl, Nat.le_of_ble_eq_true rfl⟩ hl_2.1 rfl (Nat.le_of_ble_eq_true rfl) dX5_readLaw_22 ⟨Nat.le_of_ble_eq_true rfl, Nat.le_of_ble_eq_true rfl⟩ [2, 3, 4, 5] [0, 1] rfl rfl (by decide) rfl rfl (fun u_4 H locs w_4 h_4 => ?_)
    clear h_3
    obtain ⟨w4_0, w4_1, w4_2, w4_3, y4_0, y4_1, y4_2, y4_3, y4_4, y4_5, _⟩ := w_4
    have lq_4_1 : (58 : Int32).toInt = 58 := (by decide)
    replace h_4 : qW D _ _ ([(h4, .inl (cy 1, 901, .inl f2)), (h5, .inl (cy 1, 900, .inl f3)), (h0, .inr (5, [.ref h1, .int (u_4.2.1 3 0), .int (u_4.2.1 0 0), .int (u_4.2.1 1 0), .int (u_4.2.1 2 0), w0, .ref h5, .int p5, .int p6])), (h1, .inr (8, [w1, .int p7, .int p8, .ref h2, .ref h3, .ref h4])), (h2, .inl (cy 1, 901, .inl f0)), (h3, .inl (cy 1, 901, .inl f1))] ++ []) _ _ := h_4
    refine lv_aload_n hx hb dX5_readLaw_25 rfl (lv_at hl_2 1 rfl) ?_
    refine lv_iconst (v := 0) hx hb dX5_readLaw_26 (by decide) ?_
    refine q_put (v := .int 0) X hK h_4 2 rfl rfl wf_5 tyX5 tyX5_ok nmX5 7 (by decide) wm_1_153 rfl rfl rfl (Nat.le_of_ble_eq_true rfl) dX5_readLaw_27 (fun H locs h_5 => ?_)
    clear h_4
    replace h_5 : qW D _ _ ([(h4, .inl (cy 1, 901, .inl f2)), (h5, .inl (cy 1, 900, .inl f3)), (h0, .inr (5, [.ref h1, .int (u_4.2.1 3 0), .int (u_4.2.1 0 0), .int (u_4.2.1 1 0), .int (u_4.2.1 2 0), w0, .ref h5, .int 0, .int p6])), (h1, .inr (8, [w1, .int p7, .int p8, .ref h2, .ref h3, .ref h4])), (h2, .inl (cy 1, 901, .inl f0)), (h3, .inl (cy 1, 901, .inl f1))] ++ []) _ _ := h_5
    refine lv_aload_n hx hb dX5_readLaw_30 rfl (lv_at hl_2 1 rfl) ?_
    refine lv_iload_n hx hb dX5_readLaw_31 rfl (lv_at hl_2 2 rfl) ?_
    refine q_put (v := .int p0) X hK h_5 2 rfl rfl wf_5 tyX5 tyX5_ok nmX5 8 (by decide) wm_1_154 rfl rfl rfl (Nat.le_of_ble_eq_true rfl) dX5_readLaw_32 (fun H locs h_6 => ?_)
    clear h_5
    replace h_6 : qW D _ _ ([(h4, .inl (cy 1, 901, .inl f2)), (h5, .inl (cy 1, 900, .inl f3)), (h0, .inr (5, [.ref h1, .int (u_4.2.1 3 0), .int (u_4.2.1 0 0), .int (u_4.2.1 1 0), .int (u_4.2.1 2 0), w0, .ref h5, .int 0, .int p0])), (h1, .inr (8, [w1, .int p7, .int p8, .ref h2, .ref h3, .ref h4])), (h2, .inl (cy 1, 901, .inl f0)), (h3, .inl (cy 1, 901, .inl f1))] ++ []) _ _ := h_6
    refine lv_iload_n hx hb dX5_readLaw_35 rfl (lv_at hl_2 0 rfl) ?_
    refine lv_if_eq (tgt := 47) hx hb dX5_readLaw_36 (by decide) (fun _ => ?_) (fun c => absurd c (by decide +kernel))
    refine lv_aload_n hx hb dX5_readLaw_47 rfl (lv_at hl_2 1 rfl) ?_
    refine lv_iconst (v := 0) hx hb dX5_readLaw_48 (by decide) ?_
    refine q_callVvT (rest := []) (wr := []) X hK hT hA h_6 (fun sz => gX5_readTruth_fb7a5b1 l D cy h0 h1 h2 h3 h4 h5 (u_4.2.1 3 0) (u_4.2.1 0 0) (u_4.2.1 1 0) (u_4.2.1 2 0) w0 (0 : Int32) p0 w1 p7 p8 f0 f1 f2 f3 w4_3 (i_rng _) (i_rng _) (i_rng _) ⟨by decide +kernel, by decide +kernel⟩ (i_rng _) hp7 hp8 (hpre0) (by omega) (by omega) (by omega) sz) wm_3_121 wm_3_124 wm_1_2 hd_X5_readTruth wm_3_123 wp_2_5 (ci := 5) (q0 := 0) rfl rfl ⟨Nat.le_of_ble_eq_true rfl, Nat.le_of_ble_eq_true rfl⟩ hl_2.1 rfl (Nat.le_of_ble_eq_true rfl) dX5_readLaw_49 ⟨Nat.le_of_ble_eq_true rfl, Nat.le_of_ble_eq_true rfl⟩ [2, 3, 4, 5, 0, 1] [] rfl rfl (by decide) rfl rfl (fun u_7 H locs w_7 h_7 => ?_)
    clear h_6
    obtain ⟨w7_0, w7_1, w7_2, w7_3, w7_4, y7_0, y7_1, y7_2, y7_3, y7_4, y7_5, _⟩ := w_7
    have lq_7_1 : (0 : Int32).toInt = 0 := (by decide)
    replace h_7 : qW D _ _ ([(h0, .inr (5, [.ref h1, .int (u_7.2.1 0 0), .int (u_7.2.1 1 0), .int (u_7.2.1 2 0), .int (u_7.2.1 3 0), w0, .ref h5, .int (u_7.2.1 4 0), .int p0])), (h1, .inr (8, [w1, .int p7, .int p8, .ref h2, .ref h3, .ref h4])), (h2, .inl (cy 1, 901, .inl f0)), (h3, .inl (cy 1, 901, .inl f1)), (h4, .inl (cy 1, 901, .inl f2)), (h5, .inl (cy 1, 900, .inl (u_7.2.1 5)))] ++ []) _ _ := h_7
    refine lv_aload_n hx hb dX5_readLaw_52 rfl (lv_at hl_2 1 rfl) ?_
    refine q_get X hK h_7 0 rfl rfl wf_5 3 (by decide) rfl wm_1_147 dX5_readLaw_53 ?_
    refine lv_if_eq (tgt := 63) hx hb dX5_readLaw_56 (by decide) (fun c_8 => ?_) (fun c_8 => ?_)
    · replace c_8 := i_eq (x := (u_7.2.1 2 0)) (y := 0) rfl (show (0 : Int32).toInt = 0 by decide) c_8
      refine q_new (fs := [.null]) (ci := 4) X hK hA h_7 rfl wf_4 tyX4 tyX4_ok wm_3_133 wm_3_134 wm_1_19 df_4 (Nat.le_of_ble_eq_true rfl) (Nat.le_of_ble_eq_true rfl) dX5_readLaw_63 (fun q_9 H h_9 => ?_)
      clear h_7
      replace h_9 : qW D _ _ ([(h0, .inr (5, [.ref h1, .int (u_7.2.1 0 0), .int (u_7.2.1 1 0), .int (u_7.2.1 2 0), .int (u_7.2.1 3 0), w0, .ref h5, .int (u_7.2.1 4 0), .int p0])), (h1, .inr (8, [w1, .int p7, .int p8, .ref h2, .ref h3, .ref h4])), (h2, .inl (cy 1, 901, .inl f0)), (h3, .inl (cy 1, 901, .inl f1)), (h4, .inl (cy 1, 901, .inl f2)), (h5, .inl (cy 1, 900, .inl (u_7.2.1 5))), (q_9, .inr (4, [.null]))] ++ []) _ _ := h_9
      refine lv_dup hx hb dX5_readLaw_66 rfl ?_
      refine lv_aload_n hx hb dX5_readLaw_67 rfl (lv_at hl_2 1 rfl) ?_
      refine q_get X hK h_9 0 rfl rfl wf_5 6 (by decide) rfl wm_1_152 dX5_readLaw_68 ?_
      refine lv_aload_n hx hb dX5_readLaw_71 rfl (lv_at hl_2 1 rfl) ?_
      refine q_get X hK h_9 0 rfl rfl wf_5 7 (by decide) rfl wm_1_153 dX5_readLaw_72 ?_
      refine q_callIv (rest := [.ref q_9]) (wr := [(h0, .inr (5, [.ref h1, .int (u_7.2.1 0 0), .int (u_7.2.1 1 0), .int (u_7.2.1 2 0), .int (u_7.2.1 3 0), w0, .ref h5, .int (u_7.2.1 4 0), .int p0])), (h1, .inr (8, [w1, .int p7, .int p8, .ref h2, .ref h3, .ref h4])), (h2, .inl (cy 1, 901, .inl f0)), (h3, .inl (cy 1, 901, .inl f1)), (h4, .inl (cy 1, 901, .inl f2))]) X hK hT hA h_9 (fun sz => gX4_init_6da7c59 l D cy q_9 h5 (u_7.2.1 4 0) Value.null (u_7.2.1 5) ⟨by omega, by omega⟩ (by omega) sz) wm_3_135 wm_3_137 wm_1_19 hd_X4_init wm_3_136 rfl ⟨Nat.le_of_ble_eq_true rfl, Nat.le_of_ble_eq_true rfl⟩ hl_2.1 rfl (Nat.le_of_ble_eq_true rfl) dX5_readLaw_75 ⟨Nat.le_of_ble_eq_true rfl, Nat.le_of_ble_eq_true rfl⟩ [6, 5] [0, 1, 2, 3, 4] rfl rfl (by decide) rfl rfl (fun u_10 H locs w_10 h_10 => ?_)
      clear h_9
      clear w_10
      replace h_10 : qW D _ _ ([(h0, .inr (5, [.ref h1, .int (u_7.2.1 0 0), .int (u_7.2.1 1 0), .int (u_7.2.1 2 0), .int (u_7.2.1 3 0), w0, .ref h5, .int (u_7.2.1 4 0), .int p0])), (h1, .inr (8, [w1, .int p7, .int p8, .ref h2, .ref h3, .ref h4])), (h2, .inl (cy 1, 901, .inl f0)), (h3, .inl (cy 1, 901, .inl f1)), (h4, .inl (cy 1, 901, .inl f2)), (q_9, .inr (4, [.ref (u_10.1 0)])), (h5, .inl (cy 1, 900, .inl (u_7.2.1 5))), ((u_10.1 0), .inl (cy 1, (u_7.2.1 4 0).toNatClampNeg, .inl (u_10.2.1 0)))] ++ []) _ _ := h_10
      exact q_qretW X hr hlk hK h_10 (some q_9) rfl [(q_9, .inr (4, [.ref (u_10.1 0)])), ((u_10.1 0), .inl (cy 1, (u_7.2.1 4 0).toNatClampNeg, .inl (u_10.2.1 0)))] ((fun _ => 0, fun k => List.getD [(fun _ => (u_7.2.1 0 0)), (fun _ => (u_7.2.1 1 0)), (fun _ => (u_7.2.1 2 0)), (fun _ => (u_7.2.1 3 0)), (fun _ => (u_7.2.1 4 0)), (fun _ => p0), (u_7.2.1 5)] k (fun _ => 0), fun _ _ => 0), ([(q_9, .inr (4, [.ref (u_10.1 0)])), ((u_10.1 0), .inl (cy 1, (u_7.2.1 4 0).toNatClampNeg, .inl (u_10.2.1 0)))] ++ []), fun _ => none) rfl ⟨(w7_0 : 0 ≤ ((u_7.2.1 0 0) : Int32).toInt ∧ ((u_7.2.1 0 0) : Int32).toInt ≤ 900), (w7_1 : (-2147483648) ≤ ((u_7.2.1 1 0) : Int32).toInt ∧ ((u_7.2.1 1 0) : Int32).toInt ≤ 2147483647), (w7_2 : (-2147483648) ≤ ((u_7.2.1 2 0) : Int32).toInt ∧ ((u_7.2.1 2 0) : Int32).toInt ≤ 2147483647), (w7_3 : (-2147483648) ≤ ((u_7.2.1 3 0) : Int32).toInt ∧ ((u_7.2.1 3 0) : Int32).toInt ≤ 2147483647), (w7_4 : 0 ≤ ((u_7.2.1 4 0) : Int32).toInt ∧ ((u_7.2.1 4 0) : Int32).toInt ≤ 900), (hp0 : (-2147483648) ≤ (p0 : Int32).toInt ∧ (p0 : Int32).toInt ≤ 2147483647), (show 0 ≤ ((u_7.2.1 0 0) : Int32).toInt ∧ ((u_7.2.1 0 0) : Int32).toInt < (p8 : Int32).toInt from by omega), (show ((u_7.2.1 2 0) : Int32).toInt ≠ 0 ∨ ((u_7.2.1 1 0) : Int32).toInt = 26 ∨ ((u_7.2.1 1 0) : Int32).toInt = 27 ∨ ((u_7.2.1 0 0) : Int32).toInt + 1 < (p8 : Int32).toInt from by omega), (show ((u_7.2.1 2 0) : Int32).toInt = 0 ∨ ((u_7.2.1 1 0) : Int32).toInt = 27 from by omega), (show ((u_7.2.1 2 0) : Int32).toInt ≠ 0 ∨ (p3 : Int32).toInt = 0 from by omega), (show (p1 : Int32).toInt ≤ ((u_7.2.1 0 0) : Int32).toInt from by omega), (show ((u_7.2.1 2 0) : Int32).toInt ≠ 0 ∨ (p1 : Int32).toInt + 1 ≤ ((u_7.2.1 0 0) : Int32).toInt from by omega), (show LR cy ([(q_9, .inr (4, [.ref (u_10.1 0)])), ((u_10.1 0), .inl (cy 1, (u_7.2.1 4 0).toNatClampNeg, .inl (u_10.2.1 0)))] ++ []) (va_rf o0) (.ref q_9) from Or.inr ⟨_, _, _, _, rfl, i_c900 (by omega) (by omega), rfl⟩), trivial⟩ [0, 1, 2, 3, 4, 6, 5, 7] rfl rfl dX5_readLaw_78 (Nat.le_of_ble_eq_true rfl) (Nat.le_of_ble_eq_true rfl)
    · replace c_8 := i_ne (x := (u_7.2.1 2 0)) (y := 0) rfl (show (0 : Int32).toInt = 0 by decide) c_8
      refine q_aldq hx hb dX5_readLaw_59 rfl (lv_at hl_2 3 rfl) ?_
      refine lv_goto (tgt := 78) hx hb dX5_readLaw_60 (by decide) ?_
      exact q_qretW X hr hlk hK h_7 o0 rfl [] ((fun _ => 0, fun k => List.getD [(fun _ => (u_7.2.1 0 0)), (fun _ => (u_7.2.1 1 0)), (fun _ => (u_7.2.1 2 0)), (fun _ => (u_7.2.1 3 0)), (fun _ => (u_7.2.1 4 0)), (fun _ => p0), (u_7.2.1 5)] k (fun _ => 0), fun _ _ => 0), ([] ++ []), fun _ => none) rfl ⟨(w7_0 : 0 ≤ ((u_7.2.1 0 0) : Int32).toInt ∧ ((u_7.2.1 0 0) : Int32).toInt ≤ 900), (w7_1 : (-2147483648) ≤ ((u_7.2.1 1 0) : Int32).toInt ∧ ((u_7.2.1 1 0) : Int32).toInt ≤ 2147483647), (w7_2 : (-2147483648) ≤ ((u_7.2.1 2 0) : Int32).toInt ∧ ((u_7.2.1 2 0) : Int32).toInt ≤ 2147483647), (w7_3 : (-2147483648) ≤ ((u_7.2.1 3 0) : Int32).toInt ∧ ((u_7.2.1 3 0) : Int32).toInt ≤ 2147483647), (w7_4 : 0 ≤ ((u_7.2.1 4 0) : Int32).toInt ∧ ((u_7.2.1 4 0) : Int32).toInt ≤ 900), (hp0 : (-2147483648) ≤ (p0 : Int32).toInt ∧ (p0 : Int32).toInt ≤ 2147483647), (show 0 ≤ ((u_7.2.1 0 0) : Int32).toInt ∧ ((u_7.2.1 0 0) : Int32).toInt < (p8 : Int32).toInt from by omega), (show ((u_7.2.1 2 0) : Int32).toInt ≠ 0 ∨ ((u_7.2.1 1 0) : Int32).toInt = 26 ∨ ((u_7.2.1 1 0) : Int32).toInt = 27 ∨ ((u_7.2.1 0 0) : Int32).toInt + 1 < (p8 : Int32).toInt from by omega), (show ((u_7.2.1 2 0) : Int32).toInt = 0 ∨ ((u_7.2.1 1 0) : Int32).toInt = 27 from by omega), (show ((u_7.2.1 2 0) : Int32).toInt ≠ 0 ∨ (p3 : Int32).toInt = 0 from by omega), (show (p1 : Int32).toInt ≤ ((u_7.2.1 0 0) : Int32).toInt from by omega), (show ((u_7.2.1 2 0) : Int32).toInt ≠ 0 ∨ (p1 : Int32).toInt + 1 ≤ ((u_7.2.1 0 0) : Int32).toInt from by omega), (show LR cy ([] ++ []) (va_rf o0) (va_rf o0) from Or.inl ⟨rfl, rfl⟩), trivial⟩ [0, 1, 2, 3, 4, 5] rfl rfl dX5_readLaw_78 (Nat.le_of_ble_eq_true rfl) (Nat.le_of_ble_eq_true rfl)
  · replace c_1 := i_eq (x := p2) (y := 20) rfl (show (20 : Int32).toInt = 20 by decide) c_1
    refine lv_iconst (v := 1) hx hb dX5_readLaw_9 (by decide) ?_
    refine lv_goto (tgt := 14) hx hb dX5_readLaw_10 (by decide) ?_
    refine lv_istore_n (lv' := [(3, .int 1), (0, .ref h0), (1, .int p0), (2, (va_rf o0))]) hx hb dX5_readLaw_14 rfl hl (by decide) (by cases o0 <;> rfl) (fun ls_11 hl_11 => ?_)
    clear hl
    refine lv_aload_n hx hb dX5_readLaw_15 rfl (lv_at hl_11 1 rfl) ?_
    refine q_callVvT (rest := []) (wr := [(h4, .inl (cy 1, 901, .inl f2)), (h5, .inl (cy 1, 900, .inl f3))]) X hK hT hA h (fun sz => gX5_advance_9820dfe l D cy h0 h1 h2 h3 p1 p2 p3 p4 w0 (.ref h5) p5 p6 w1 p7 p8 (.ref h4) f0 f1 hp1 (i_rng _) (i_rng _) (i_rng _) hp5 (i_rng _) hp7 hp8 (hpre0) (by omega) (by omega) sz) wm_3_68 wm_3_71 wm_1_2 hd_X5_advance wm_3_70 wp_1_8 (ci := 5) (q0 := 0) rfl rfl ⟨Nat.le_of_ble_eq_true rfl, Nat.le_of_ble_eq_true rfl⟩ hl_11.1 rfl (Nat.le_of_ble_eq_true rfl) dX5_readLaw_16 ⟨Nat.le_of_ble_eq_true rfl, Nat.le_of_ble_eq_true rfl⟩ [0, 1, 2, 3] [4, 5] rfl rfl (by decide) rfl rfl (fun u_12 H locs w_12 h_12 => ?_)
    clear h
    obtain ⟨w12_0, w12_1, w12_2, w12_3, y12_0, y12_1, y12_2, y12_3, y12_4, y12_5, _⟩ := w_12
    replace h_12 : qW D _ _ ([(h4, .inl (cy 1, 901, .inl f2)), (h5, .inl (cy 1, 900, .inl f3)), (h0, .inr (5, [.ref h1, .int (u_12.2.1 0 0), .int (u_12.2.1 1 0), .int (u_12.2.1 2 0), .int (u_12.2.1 3 0), w0, .ref h5, .int p5, .int p6])), (h1, .inr (8, [w1, .int p7, .int p8, .ref h2, .ref h3, .ref h4])), (h2, .inl (cy 1, 901, .inl f0)), (h3, .inl (cy 1, 901, .inl f1))] ++ []) _ _ := h_12
    refine lv_aload_n hx hb dX5_readLaw_19 rfl (lv_at hl_11 1 rfl) ?_
    refine lv_bipush (v := 58) hx hb dX5_readLaw_20 (by decide) ?_
    refine q_callVvT (rest := []) (wr := [(h4, .inl (cy 1, 901, .inl f2)), (h5, .inl (cy 1, 900, .inl f3))]) X hK hT hA h_12 (fun sz => gX5_take_0541260 l D cy h0 h1 h2 h3 (u_12.2.1 0 0) (u_12.2.1 1 0) (u_12.2.1 2 0) (u_12.2.1 3 0) w0 (.ref h5) p5 p6 w1 p7 p8 (.ref h4) f0 f1 w12_0 (i_rng _) (i_rng _) (i_rng _) hp5 (i_rng _) hp7 hp8 (hpre0) (by omega) (by omega) (by omega) (by have q0 : (58 : Int32).toInt = 58 := (by decide); omega) sz) wm_3_72 wm_3_75 wm_1_2 hd_X5_take wm_3_74 wp_1_9 (ci := 5) (q0 := 0) rfl rfl ⟨Nat.le_of_ble_eq_true rfl, Nat.le_of_ble_eq_true rfl⟩ hl_11.1 rfl (Nat.le_of_ble_eq_true rfl) dX5_readLaw_22 ⟨Nat.le_of_ble_eq_true rfl, Nat.le_of_ble_eq_true rfl⟩ [2, 3, 4, 5] [0, 1] rfl rfl (by decide) rfl rfl (fun u_13 H locs w_13 h_13 => ?_)
    clear h_12
    obtain ⟨w13_0, w13_1, w13_2, w13_3, y13_0, y13_1, y13_2, y13_3, y13_4, y13_5, _⟩ := w_13
    have lq_13_1 : (58 : Int32).toInt = 58 := (by decide)
    replace h_13 : qW D _ _ ([(h4, .inl (cy 1, 901, .inl f2)), (h5, .inl (cy 1, 900, .inl f3)), (h0, .inr (5, [.ref h1, .int (u_13.2.1 3 0), .int (u_13.2.1 0 0), .int (u_13.2.1 1 0), .int (u_13.2.1 2 0), w0, .ref h5, .int p5, .int p6])), (h1, .inr (8, [w1, .int p7, .int p8, .ref h2, .ref h3, .ref h4])), (h2, .inl (cy 1, 901, .inl f0)), (h3, .inl (cy 1, 901, .inl f1))] ++ []) _ _ := h_13
    refine lv_aload_n hx hb dX5_readLaw_25 rfl (lv_at hl_11 1 rfl) ?_
    refine lv_iconst (v := 0) hx hb dX5_readLaw_26 (by decide) ?_
    refine q_put (v := .int 0) X hK h_13 2 rfl rfl wf_5 tyX5 tyX5_ok nmX5 7 (by decide) wm_1_153 rfl rfl rfl (Nat.le_of_ble_eq_true rfl) dX5_readLaw_27 (fun H locs h_14 => ?_)
    clear h_13
    replace h_14 : qW D _ _ ([(h4, .inl (cy 1, 901, .inl f2)), (h5, .inl (cy 1, 900, .inl f3)), (h0, .inr (5, [.ref h1, .int (u_13.2.1 3 0), .int (u_13.2.1 0 0), .int (u_13.2.1 1 0), .int (u_13.2.1 2 0), w0, .ref h5, .int 0, .int p6])), (h1, .inr (8, [w1, .int p7, .int p8, .ref h2, .ref h3, .ref h4])), (h2, .inl (cy 1, 901, .inl f0)), (h3, .inl (cy 1, 901, .inl f1))] ++ []) _ _ := h_14
    refine lv_aload_n hx hb dX5_readLaw_30 rfl (lv_at hl_11 1 rfl) ?_
    refine lv_iload_n hx hb dX5_readLaw_31 rfl (lv_at hl_11 2 rfl) ?_
    refine q_put (v := .int p0) X hK h_14 2 rfl rfl wf_5 tyX5 tyX5_ok nmX5 8 (by decide) wm_1_154 rfl rfl rfl (Nat.le_of_ble_eq_true rfl) dX5_readLaw_32 (fun H locs h_15 => ?_)
    clear h_14
    replace h_15 : qW D _ _ ([(h4, .inl (cy 1, 901, .inl f2)), (h5, .inl (cy 1, 900, .inl f3)), (h0, .inr (5, [.ref h1, .int (u_13.2.1 3 0), .int (u_13.2.1 0 0), .int (u_13.2.1 1 0), .int (u_13.2.1 2 0), w0, .ref h5, .int 0, .int p0])), (h1, .inr (8, [w1, .int p7, .int p8, .ref h2, .ref h3, .ref h4])), (h2, .inl (cy 1, 901, .inl f0)), (h3, .inl (cy 1, 901, .inl f1))] ++ []) _ _ := h_15
    refine lv_iload_n hx hb dX5_readLaw_35 rfl (lv_at hl_11 0 rfl) ?_
    refine lv_if_eq (tgt := 47) hx hb dX5_readLaw_36 (by decide) (fun c => absurd c (by decide +kernel)) (fun _ => ?_)
    refine lv_aload_n hx hb dX5_readLaw_39 rfl (lv_at hl_11 1 rfl) ?_
    refine lv_iconst (v := 0) hx hb dX5_readLaw_40 (by decide) ?_
    refine q_callVvT (rest := []) (wr := []) X hK hT hA h_15 (fun sz => gX5_readSum_efd48c1 l D cy h0 h1 h2 h3 h4 h5 (u_13.2.1 3 0) (u_13.2.1 0 0) (u_13.2.1 1 0) (u_13.2.1 2 0) w0 (0 : Int32) p0 w1 p7 p8 f0 f1 f2 f3 w13_3 (i_rng _) (i_rng _) (i_rng _) ⟨by decide +kernel, by decide +kernel⟩ (i_rng _) hp7 hp8 (hpre0) (by omega) (by omega) (by omega) sz) wm_3_101 wm_3_104 wm_1_2 hd_X5_readSum wm_3_103 wp_2_0 (ci := 5) (q0 := 0) rfl rfl ⟨Nat.le_of_ble_eq_true rfl, Nat.le_of_ble_eq_true rfl⟩ hl_11.1 rfl (Nat.le_of_ble_eq_true rfl) dX5_readLaw_41 ⟨Nat.le_of_ble_eq_true rfl, Nat.le_of_ble_eq_true rfl⟩ [2, 3, 4, 5, 0, 1] [] rfl rfl (by decide) rfl rfl (fun u_16 H locs w_16 h_16 => ?_)
    clear h_15
    obtain ⟨w16_0, w16_1, w16_2, w16_3, w16_4, y16_0, y16_1, y16_2, y16_3, y16_4, y16_5, _⟩ := w_16
    have lq_16_1 : (0 : Int32).toInt = 0 := (by decide)
    replace h_16 : qW D _ _ ([(h0, .inr (5, [.ref h1, .int (u_16.2.1 0 0), .int (u_16.2.1 1 0), .int (u_16.2.1 2 0), .int (u_16.2.1 3 0), w0, .ref h5, .int (u_16.2.1 4 0), .int p0])), (h1, .inr (8, [w1, .int p7, .int p8, .ref h2, .ref h3, .ref h4])), (h2, .inl (cy 1, 901, .inl f0)), (h3, .inl (cy 1, 901, .inl f1)), (h4, .inl (cy 1, 901, .inl f2)), (h5, .inl (cy 1, 900, .inl (u_16.2.1 5)))] ++ []) _ _ := h_16
    refine lv_goto (tgt := 52) hx hb dX5_readLaw_44 (by decide) ?_
    refine lv_aload_n hx hb dX5_readLaw_52 rfl (lv_at hl_11 1 rfl) ?_
    refine q_get X hK h_16 0 rfl rfl wf_5 3 (by decide) rfl wm_1_147 dX5_readLaw_53 ?_
    refine lv_if_eq (tgt := 63) hx hb dX5_readLaw_56 (by decide) (fun c_17 => ?_) (fun c_17 => ?_)
    · replace c_17 := i_eq (x := (u_16.2.1 2 0)) (y := 0) rfl (show (0 : Int32).toInt = 0 by decide) c_17
      refine q_new (fs := [.null]) (ci := 4) X hK hA h_16 rfl wf_4 tyX4 tyX4_ok wm_3_133 wm_3_134 wm_1_19 df_4 (Nat.le_of_ble_eq_true rfl) (Nat.le_of_ble_eq_true rfl) dX5_readLaw_63 (fun q_18 H h_18 => ?_)
      clear h_16
      replace h_18 : qW D _ _ ([(h0, .inr (5, [.ref h1, .int (u_16.2.1 0 0), .int (u_16.2.1 1 0), .int (u_16.2.1 2 0), .int (u_16.2.1 3 0), w0, .ref h5, .int (u_16.2.1 4 0), .int p0])), (h1, .inr (8, [w1, .int p7, .int p8, .ref h2, .ref h3, .ref h4])), (h2, .inl (cy 1, 901, .inl f0)), (h3, .inl (cy 1, 901, .inl f1)), (h4, .inl (cy 1, 901, .inl f2)), (h5, .inl (cy 1, 900, .inl (u_16.2.1 5))), (q_18, .inr (4, [.null]))] ++ []) _ _ := h_18
      refine lv_dup hx hb dX5_readLaw_66 rfl ?_
      refine lv_aload_n hx hb dX5_readLaw_67 rfl (lv_at hl_11 1 rfl) ?_
      refine q_get X hK h_18 0 rfl rfl wf_5 6 (by decide) rfl wm_1_152 dX5_readLaw_68 ?_
      refine lv_aload_n hx hb dX5_readLaw_71 rfl (lv_at hl_11 1 rfl) ?_
      refine q_get X hK h_18 0 rfl rfl wf_5 7 (by decide) rfl wm_1_153 dX5_readLaw_72 ?_
      refine q_callIv (rest := [.ref q_18]) (wr := [(h0, .inr (5, [.ref h1, .int (u_16.2.1 0 0), .int (u_16.2.1 1 0), .int (u_16.2.1 2 0), .int (u_16.2.1 3 0), w0, .ref h5, .int (u_16.2.1 4 0), .int p0])), (h1, .inr (8, [w1, .int p7, .int p8, .ref h2, .ref h3, .ref h4])), (h2, .inl (cy 1, 901, .inl f0)), (h3, .inl (cy 1, 901, .inl f1)), (h4, .inl (cy 1, 901, .inl f2))]) X hK hT hA h_18 (fun sz => gX4_init_6da7c59 l D cy q_18 h5 (u_16.2.1 4 0) Value.null (u_16.2.1 5) ⟨by omega, by omega⟩ (by omega) sz) wm_3_135 wm_3_137 wm_1_19 hd_X4_init wm_3_136 rfl ⟨Nat.le_of_ble_eq_true rfl, Nat.le_of_ble_eq_true rfl⟩ hl_11.1 rfl (Nat.le_of_ble_eq_true rfl) dX5_readLaw_75 ⟨Nat.le_of_ble_eq_true rfl, Nat.le_of_ble_eq_true rfl⟩ [6, 5] [0, 1, 2, 3, 4] rfl rfl (by decide) rfl rfl (fun u_19 H locs w_19 h_19 => ?_)
      clear h_18
      clear w_19
      replace h_19 : qW D _ _ ([(h0, .inr (5, [.ref h1, .int (u_16.2.1 0 0), .int (u_16.2.1 1 0), .int (u_16.2.1 2 0), .int (u_16.2.1 3 0), w0, .ref h5, .int (u_16.2.1 4 0), .int p0])), (h1, .inr (8, [w1, .int p7, .int p8, .ref h2, .ref h3, .ref h4])), (h2, .inl (cy 1, 901, .inl f0)), (h3, .inl (cy 1, 901, .inl f1)), (h4, .inl (cy 1, 901, .inl f2)), (q_18, .inr (4, [.ref (u_19.1 0)])), (h5, .inl (cy 1, 900, .inl (u_16.2.1 5))), ((u_19.1 0), .inl (cy 1, (u_16.2.1 4 0).toNatClampNeg, .inl (u_19.2.1 0)))] ++ []) _ _ := h_19
      exact q_qretW X hr hlk hK h_19 (some q_18) rfl [(q_18, .inr (4, [.ref (u_19.1 0)])), ((u_19.1 0), .inl (cy 1, (u_16.2.1 4 0).toNatClampNeg, .inl (u_19.2.1 0)))] ((fun _ => 0, fun k => List.getD [(fun _ => (u_16.2.1 0 0)), (fun _ => (u_16.2.1 1 0)), (fun _ => (u_16.2.1 2 0)), (fun _ => (u_16.2.1 3 0)), (fun _ => (u_16.2.1 4 0)), (fun _ => p0), (u_16.2.1 5)] k (fun _ => 0), fun _ _ => 0), ([(q_18, .inr (4, [.ref (u_19.1 0)])), ((u_19.1 0), .inl (cy 1, (u_16.2.1 4 0).toNatClampNeg, .inl (u_19.2.1 0)))] ++ []), fun _ => none) rfl ⟨(w16_0 : 0 ≤ ((u_16.2.1 0 0) : Int32).toInt ∧ ((u_16.2.1 0 0) : Int32).toInt ≤ 900), (w16_1 : (-2147483648) ≤ ((u_16.2.1 1 0) : Int32).toInt ∧ ((u_16.2.1 1 0) : Int32).toInt ≤ 2147483647), (w16_2 : (-2147483648) ≤ ((u_16.2.1 2 0) : Int32).toInt ∧ ((u_16.2.1 2 0) : Int32).toInt ≤ 2147483647), (w16_3 : (-2147483648) ≤ ((u_16.2.1 3 0) : Int32).toInt ∧ ((u_16.2.1 3 0) : Int32).toInt ≤ 2147483647), (w16_4 : 0 ≤ ((u_16.2.1 4 0) : Int32).toInt ∧ ((u_16.2.1 4 0) : Int32).toInt ≤ 900), (hp0 : (-2147483648) ≤ (p0 : Int32).toInt ∧ (p0 : Int32).toInt ≤ 2147483647), (show 0 ≤ ((u_16.2.1 0 0) : Int32).toInt ∧ ((u_16.2.1 0 0) : Int32).toInt < (p8 : Int32).toInt from by omega), (show ((u_16.2.1 2 0) : Int32).toInt ≠ 0 ∨ ((u_16.2.1 1 0) : Int32).toInt = 26 ∨ ((u_16.2.1 1 0) : Int32).toInt = 27 ∨ ((u_16.2.1 0 0) : Int32).toInt + 1 < (p8 : Int32).toInt from by omega), (show ((u_16.2.1 2 0) : Int32).toInt = 0 ∨ ((u_16.2.1 1 0) : Int32).toInt = 27 from by omega), (show ((u_16.2.1 2 0) : Int32).toInt ≠ 0 ∨ (p3 : Int32).toInt = 0 from by omega), (show (p1 : Int32).toInt ≤ ((u_16.2.1 0 0) : Int32).toInt from by omega), (show ((u_16.2.1 2 0) : Int32).toInt ≠ 0 ∨ (p1 : Int32).toInt + 1 ≤ ((u_16.2.1 0 0) : Int32).toInt from by omega), (show LR cy ([(q_18, .inr (4, [.ref (u_19.1 0)])), ((u_19.1 0), .inl (cy 1, (u_16.2.1 4 0).toNatClampNeg, .inl (u_19.2.1 0)))] ++ []) (va_rf o0) (.ref q_18) from Or.inr ⟨_, _, _, _, rfl, i_c900 (by omega) (by omega), rfl⟩), trivial⟩ [0, 1, 2, 3, 4, 6, 5, 7] rfl rfl dX5_readLaw_78 (Nat.le_of_ble_eq_true rfl) (Nat.le_of_ble_eq_true rfl)
    · replace c_17 := i_ne (x := (u_16.2.1 2 0)) (y := 0) rfl (show (0 : Int32).toInt = 0 by decide) c_17
      refine q_aldq hx hb dX5_readLaw_59 rfl (lv_at hl_11 3 rfl) ?_
      refine lv_goto (tgt := 78) hx hb dX5_readLaw_60 (by decide) ?_
      exact q_qretW X hr hlk hK h_16 o0 rfl [] ((fun _ => 0, fun k => List.getD [(fun _ => (u_16.2.1 0 0)), (fun _ => (u_16.2.1 1 0)), (fun _ => (u_16.2.1 2 0)), (fun _ => (u_16.2.1 3 0)), (fun _ => (u_16.2.1 4 0)), (fun _ => p0), (u_16.2.1 5)] k (fun _ => 0), fun _ _ => 0), ([] ++ []), fun _ => none) rfl ⟨(w16_0 : 0 ≤ ((u_16.2.1 0 0) : Int32).toInt ∧ ((u_16.2.1 0 0) : Int32).toInt ≤ 900), (w16_1 : (-2147483648) ≤ ((u_16.2.1 1 0) : Int32).toInt ∧ ((u_16.2.1 1 0) : Int32).toInt ≤ 2147483647), (w16_2 : (-2147483648) ≤ ((u_16.2.1 2 0) : Int32).toInt ∧ ((u_16.2.1 2 0) : Int32).toInt ≤ 2147483647), (w16_3 : (-2147483648) ≤ ((u_16.2.1 3 0) : Int32).toInt ∧ ((u_16.2.1 3 0) : Int32).toInt ≤ 2147483647), (w16_4 : 0 ≤ ((u_16.2.1 4 0) : Int32).toInt ∧ ((u_16.2.1 4 0) : Int32).toInt ≤ 900), (hp0 : (-2147483648) ≤ (p0 : Int32).toInt ∧ (p0 : Int32).toInt ≤ 2147483647), (show 0 ≤ ((u_16.2.1 0 0) : Int32).toInt ∧ ((u_16.2.1 0 0) : Int32).toInt < (p8 : Int32).toInt from by omega), (show ((u_16.2.1 2 0) : Int32).toInt ≠ 0 ∨ ((u_16.2.1 1 0) : Int32).toInt = 26 ∨ ((u_16.2.1 1 0) : Int32).toInt = 27 ∨ ((u_16.2.1 0 0) : Int32).toInt + 1 < (p8 : Int32).toInt from by omega), (show ((u_16.2.1 2 0) : Int32).toInt = 0 ∨ ((u_16.2.1 1 0) : Int32).toInt = 27 from by omega), (show ((u_16.2.1 2 0) : Int32).toInt ≠ 0 ∨ (p3 : Int32).toInt = 0 from by omega), (show (p1 : Int32).toInt ≤ ((u_16.2.1 0 0) : Int32).toInt from by omega), (show ((u_16.2.1 2 0) : Int32).toInt ≠ 0 ∨ (p1 : Int32).toInt + 1 ≤ ((u_16.2.1 0 0) : Int32).toInt from by omega), (show LR cy ([] ++ []) (va_rf o0) (va_rf o0) from Or.inl ⟨rfl, rfl⟩), trivial⟩ [0, 1, 2, 3, 4, 5] rfl rfl dX5_readLaw_78 (Nat.le_of_ble_eq_true rfl) (Nat.le_of_ble_eq_true rfl)
set_option maxHeartbeats 4000000 in
set_option maxRecDepth 100000 in
theorem gX5_readLine_ab75d68 (l : Launch) (D : va_G) (cy : Nat → ClassId) (h0 : Nat) (h1 : Nat) (h2 : Nat) (h3 : Nat) (h4 : Nat) (h5 : Nat) (h6 : Nat) (h7 : Nat) (h8 : Nat) (h9 : Nat) (h10 : Nat) (h11 : Nat) (p0 : Int32) (p1 : Int32) (p2 : Int32) (p3 : Int32) (p4 : Int32) (p5 : Int32) (w0 : Value) (p6 : Int32) (p7 : Int32) (f0 : Nat → Int32) (f1 : Nat → Int32) (f2 : Nat → Int32) (p8 : Int32) (p9 : Int32) (p10 : Int32) (p11 : Int32) (o0 : Option Nat) (o1 : Option Nat) (o2 : Option Nat) (f3 : Nat → Int32) (f4 : Nat → Int32) (f5 : Nat → Int32) (f6 : Nat → Int32) (f7 : Nat → Int32) (f8 : Nat → Int32) (hp0 : (-1) ≤ (p0).toInt ∧ (p0).toInt ≤ 900) (hp1 : (-2147483648) ≤ (p1).toInt ∧ (p1).toInt ≤ 2147483647) (hp2 : (-2147483648) ≤ (p2).toInt ∧ (p2).toInt ≤ 2147483647) (hp3 : (-2147483648) ≤ (p3).toInt ∧ (p3).toInt ≤ 2147483647) (hp4 : 0 ≤ (p4).toInt ∧ (p4).toInt ≤ 900) (hp5 : (-2147483648) ≤ (p5).toInt ∧ (p5).toInt ≤ 2147483647) (hp6 : 0 ≤ (p6).toInt ∧ (p6).toInt ≤ 900) (hp7 : 0 ≤ (p7).toInt ∧ (p7).toInt ≤ 901) (hp8 : 1 ≤ (p8).toInt ∧ (p8).toInt ≤ 3) (hp9 : 0 ≤ (p9).toInt ∧ (p9).toInt ≤ 10) (hp10 : (-2147483648) ≤ (p10).toInt ∧ (p10).toInt ≤ 2147483647) (hp11 : (-2147483648) ≤ (p11).toInt ∧ (p11).toInt ≤ 2147483647) (rf3 : RG f3 10 0 999) (hpre0 : KZ f0 (p7 : Int32).toInt) (hpre1 : 0 ≤ (p0 : Int32).toInt ∧ (p0 : Int32).toInt < (p7 : Int32).toInt) (hpre2 : (p2 : Int32).toInt ≠ 0 ∨ (p1 : Int32).toInt = 26 ∨ (p1 : Int32).toInt = 27 ∨ (p0 : Int32).toInt + 1 < (p7 : Int32).toInt) (hpre3 : (p2 : Int32).toInt = 0 ∨ (p1 : Int32).toInt = 27) (hpre4 : (p1 : Int32).toInt ≠ 26 ∧ (p1 : Int32).toInt ≠ 27) (sz : Nat) : MVw l yX5_readLine cX5_readLine 1 { frames := 27, cells := 2, slots := 901, locals := 593 } [.ref h0] D cy [(h0, .inr (5, [.ref h1, .int p0, .int p1, .int p2, .int p3, .ref h5, .ref h11, .int p4, .int p5])), (h1, .inr (8, [w0, .int p6, .int p7, .ref h2, .ref h3, .ref h4])), (h2, .inl (cy 1, 901, .inl f0)), (h3, .inl (cy 1, 901, .inl f1)), (h4, .inl (cy 1, 901, .inl f2)), (h5, .inr (3, [.int p8, .int p9, .int p10, .int p11, (va_rf o0), (va_rf o1), (va_rf o2), .ref h6, .ref h7, .ref h8, .ref h9, .ref h10])), (h6, .inl (cy 1, 10, .inl f3)), (h7, .inl (cy 1, 10, .inl f4)), (h8, .inl (cy 1, 10, .inl f5)), (h9, .inl (cy 1, 10, .inl f6)), (h10, .inl (cy 1, 10, .inl f7)), (h11, .inl (cy 1, 900, .inl f8))] sz (fun u => ((-1) ≤ (u.1.2.1 0 0).toInt ∧ (u.1.2.1 0 0).toInt ≤ 900) ∧ ((-2147483648) ≤ (u.1.2.1 1 0).toInt ∧ (u.1.2.1 1 0).toInt ≤ 2147483647) ∧ ((-2147483648) ≤ (u.1.2.1 2 0).toInt ∧ (u.1.2.1 2 0).toInt ≤ 2147483647) ∧ ((-2147483648) ≤ (u.1.2.1 3 0).toInt ∧ (u.1.2.1 3 0).toInt ≤ 2147483647) ∧ (0 ≤ (u.1.2.1 4 0).toInt ∧ (u.1.2.1 4 0).toInt ≤ 900) ∧ ((-2147483648) ≤ (u.1.2.1 5 0).toInt ∧ (u.1.2.1 5 0).toInt ≤ 2147483647) ∧ (0 ≤ (u.1.2.1 6 0).toInt ∧ (u.1.2.1 6 0).toInt ≤ 10) ∧ ((-2147483648) ≤ (u.1.2.1 7 0).toInt ∧ (u.1.2.1 7 0).toInt ≤ 2147483647) ∧ RG (u.1.2.1 8) 10 0 999 ∧ (0 ≤ ((u.1.2.1 0 0) : Int32).toInt ∧ ((u.1.2.1 0 0) : Int32).toInt < (p7 : Int32).toInt) ∧ (((u.1.2.1 2 0) : Int32).toInt ≠ 0 ∨ ((u.1.2.1 1 0) : Int32).toInt = 26 ∨ ((u.1.2.1 1 0) : Int32).toInt = 27 ∨ ((u.1.2.1 0 0) : Int32).toInt + 1 < (p7 : Int32).toInt) ∧ (((u.1.2.1 2 0) : Int32).toInt = 0 ∨ ((u.1.2.1 1 0) : Int32).toInt = 27) ∧ (((u.1.2.1 2 0) : Int32).toInt ≠ 0 ∨ (p2 : Int32).toInt = 0) ∧ ((p0 : Int32).toInt ≤ ((u.1.2.1 0 0) : Int32).toInt) ∧ (((u.1.2.1 2 0) : Int32).toInt ≠ 0 ∨ (p0 : Int32).toInt + 1 ≤ ((u.1.2.1 0 0) : Int32).toInt) ∧ (LawS cy u.2.1 (va_rf o0) (va_rf o1) (va_rf o2) (va_rf (u.2.2 0)) (va_rf (u.2.2 1)) (va_rf (u.2.2 2))) ∧ True) (fun u => [(h0, .inr (5, [.ref h1, .int (u.1.2.1 0 0), .int (u.1.2.1 1 0), .int (u.1.2.1 2 0), .int (u.1.2.1 3 0), .ref h5, .ref h11, .int (u.1.2.1 4 0), .int (u.1.2.1 5 0)])), (h1, .inr (8, [w0, .int p6, .int p7, .ref h2, .ref h3, .ref h4])), (h2, .inl (cy 1, 901, .inl f0)), (h3, .inl (cy 1, 901, .inl f1)), (h4, .inl (cy 1, 901, .inl f2)), (h5, .inr (3, [.int p8, .int (u.1.2.1 6 0), .int p10, .int (u.1.2.1 7 0), (va_rf (u.2.2 0)), (va_rf (u.2.2 1)), (va_rf (u.2.2 2)), .ref h6, .ref h7, .ref h8, .ref h9, .ref h10])), (h6, .inl (cy 1, 10, .inl (u.1.2.1 8))), (h7, .inl (cy 1, 10, .inl (u.1.2.1 9))), (h8, .inl (cy 1, 10, .inl (u.1.2.1 10))), (h9, .inl (cy 1, 10, .inl (u.1.2.1 11))), (h10, .inl (cy 1, 10, .inl (u.1.2.1 12))), (h11, .inl (cy 1, 900, .inl (u.1.2.1 13)))]) 2 901 := by
  refine q_ent (own := RX5) (by decide) rfl (Nat.le_of_ble_eq_true rfl) (fun p e s m below meth c ls X hr hlk hnm hK hT h hA hl => ?_)
  obtain ⟨hx, hb, hml, hown, ht⟩ := id X
  replace h : qW D _ _ ([(h0, .inr (5, [.ref h1, .int p0, .int p1, .int p2, .int p3, .ref h5, .ref h11, .int p4, .int p5])), (h1, .inr (8, [w0, .int p6, .int p7, .ref h2, .ref h3, .ref h4])), (h2, .inl (cy 1, 901, .inl f0)), (h3, .inl (cy 1, 901, .inl f1)), (h4, .inl (cy 1, 901, .inl f2)), (h5, .inr (3, [.int p8, .int p9, .int p10, .int p11, (va_rf o0), (va_rf o1), (va_rf o2), .ref h6, .ref h7, .ref h8, .ref h9, .ref h10])), (h6, .inl (cy 1, 10, .inl f3)), (h7, .inl (cy 1, 10, .inl f4)), (h8, .inl (cy 1, 10, .inl f5)), (h9, .inl (cy 1, 10, .inl f6)), (h10, .inl (cy 1, 10, .inl f7)), (h11, .inl (cy 1, 900, .inl f8))] ++ []) _ _ := h
  replace hl : lv_has ls 1 [(0, .ref h0)] := hl
  refine lv_aload_n hx hb dX5_readLine_0 rfl (lv_at hl 0 rfl) ?_
  refine q_get X hK h 0 rfl rfl wf_5 2 (by decide) rfl wm_1_146 dX5_readLine_1 ?_
  refine q_jnC (c2 := 2) (s2 := 901) (pc2 := 178) (fun H locs ls st => ∃ v178_1_0 : Int32, ∃ v178_1_1 : Int32, ∃ v178_1_2 : Int32, ∃ v178_1_3 : Int32, ∃ v178_1_4 : Int32, ∃ v178_1_5 : Int32, ∃ v178_1_11 : Option Nat, ∃ v178_1_12 : Int32, ∃ v178_1_13 : Int32, ∃ v178_1_16 : Option Nat, ∃ v178_1_17 : Option Nat, ∃ v178_1_6 : Nat → Int32, ∃ v178_1_7 : Nat → Int32, ∃ v178_1_8 : Nat → Int32, ∃ v178_1_9 : Nat → Int32, ∃ v178_1_10 : Nat → Int32, ∃ v178_1_14 : Nat → Int32, ∃ v178_1_15 : va_W, ((-2147483648) ≤ (v178_1_0).toInt ∧ (v178_1_0).toInt ≤ 2147483647) ∧ ((-1) ≤ (v178_1_1).toInt ∧ (v178_1_1).toInt ≤ 900) ∧ ((-2147483648) ≤ (v178_1_2).toInt ∧ (v178_1_2).toInt ≤ 2147483647) ∧ ((-2147483648) ≤ (v178_1_3).toInt ∧ (v178_1_3).toInt ≤ 2147483647) ∧ ((-2147483648) ≤ (v178_1_4).toInt ∧ (v178_1_4).toInt ≤ 2147483647) ∧ (0 ≤ (v178_1_5).toInt ∧ (v178_1_5).toInt ≤ 10) ∧ (0 ≤ (v178_1_12).toInt ∧ (v178_1_12).toInt ≤ 900) ∧ ((-2147483648) ≤ (v178_1_13).toInt ∧ (v178_1_13).toInt ≤ 2147483647) ∧ RG v178_1_6 10 0 999 ∧ (0 ≤ (v178_1_1 : Int32).toInt ∧ (v178_1_1 : Int32).toInt < (p7 : Int32).toInt) ∧ ((v178_1_3 : Int32).toInt ≠ 0 ∨ (v178_1_2 : Int32).toInt = 26 ∨ (v178_1_2 : Int32).toInt = 27 ∨ (v178_1_1 : Int32).toInt + 1 < (p7 : Int32).toInt) ∧ ((v178_1_3 : Int32).toInt = 0 ∨ (v178_1_2 : Int32).toInt = 27) ∧ ((v178_1_3 : Int32).toInt ≠ 0 ∨ (p2 : Int32).toInt = 0) ∧ ((p0 : Int32).toInt ≤ (v178_1_1 : Int32).toInt) ∧ ((v178_1_3 : Int32).toInt ≠ 0 ∨ (p0 : Int32).toInt + 1 ≤ (v178_1_1 : Int32).toInt) ∧ (LawS cy v178_1_15 (va_rf o0) (va_rf o1) (va_rf o2) (va_rf v178_1_11) (va_rf v178_1_16) (va_rf v178_1_17)) ∧ st = [] ∧ qW D (va_A [(h0, .inr (5, [.ref h1, .int p0, .int p1, .int p2, .int p3, .ref h5, .ref h11, .int p4, .int p5])), (h1, .inr (8, [w0, .int p6, .int p7, .ref h2, .ref h3, .ref h4])), (h2, .inl (cy 1, 901, .inl f0)), (h3, .inl (cy 1, 901, .inl f1)), (h4, .inl (cy 1, 901, .inl f2)), (h5, .inr (3, [.int p8, .int p9, .int p10, .int p11, (va_rf o0), (va_rf o1), (va_rf o2), .ref h6, .ref h7, .ref h8, .ref h9, .ref h10])), (h6, .inl (cy 1, 10, .inl f3)), (h7, .inl (cy 1, 10, .inl f4)), (h8, .inl (cy 1, 10, .inl f5)), (h9, .inl (cy 1, 10, .inl f6)), (h10, .inl (cy 1, 10, .inl f7)), (h11, .inl (cy 1, 900, .inl f8))] sz) s.heap ([(h0, .inr (5, [.ref h1, .int v178_1_1, .int v178_1_2, .int v178_1_3, .int v178_1_4, .ref h5, .ref h11, .int v178_1_12, .int v178_1_13])), (h1, .inr (8, [w0, .int p6, .int p7, .ref h2, .ref h3, .ref h4])), (h2, .inl (cy 1, 901, .inl f0)), (h3, .inl (cy 1, 901, .inl f1)), (h4, .inl (cy 1, 901, .inl f2)), (h5, .inr (3, [.int p8, .int v178_1_5, .int p10, .int v178_1_0, (va_rf v178_1_11), (va_rf v178_1_16), (va_rf v178_1_17), .ref h6, .ref h7, .ref h8, .ref h9, .ref h10])), (h6, .inl (cy 1, 10, .inl v178_1_6)), (h7, .inl (cy 1, 10, .inl v178_1_7)), (h8, .inl (cy 1, 10, .inl v178_1_8)), (h9, .inl (cy 1, 10, .inl v178_1_9)), (h10, .inl (cy 1, 10, .inl v178_1_10)), (h11, .inl (cy 1, 900, .inl v178_1_14))] ++ v178_1_15) H locs ∧ lv_has ls 1 [(0, .ref h0)]) (fun H locs ls st hP => ?_) (fun J_178 => ?_)
  · obtain ⟨v178_1_0, v178_1_1, v178_1_2, v178_1_3, v178_1_4, v178_1_5, v178_1_11, v178_1_12, v178_1_13, v178_1_16, v178_1_17, v178_1_6, v178_1_7, v178_1_8, v178_1_9, v178_1_10, v178_1_14, v178_1_15, hv178_1_0, hv178_1_1, hv178_1_2, hv178_1_3, hv178_1_4, hv178_1_5, hv178_1_12, hv178_1_13, rv178_1_6, x2_0, x3_1, x4_2, x5_3, x6_4, x7_5, x8_6, rfl, h, hl⟩ := hP
    exact q_vretW X hr hlk hK h [] ((fun _ => 0, fun k => List.getD [(fun _ => v178_1_1), (fun _ => v178_1_2), (fun _ => v178_1_3), (fun _ => v178_1_4), (fun _ => v178_1_12), (fun _ => v178_1_13), (fun _ => v178_1_5), (fun _ => v178_1_0), v178_1_6, v178_1_7, v178_1_8, v178_1_9, v178_1_10, v178_1_14] k (fun _ => 0), fun _ _ => 0), ([] ++ v178_1_15), fun k => List.getD [v178_1_11, v178_1_16, v178_1_17] k none) rfl ⟨(hv178_1_1 : (-1) ≤ (v178_1_1 : Int32).toInt ∧ (v178_1_1 : Int32).toInt ≤ 900), (hv178_1_2 : (-2147483648) ≤ (v178_1_2 : Int32).toInt ∧ (v178_1_2 : Int32).toInt ≤ 2147483647), (hv178_1_3 : (-2147483648) ≤ (v178_1_3 : Int32).toInt ∧ (v178_1_3 : Int32).toInt ≤ 2147483647), (hv178_1_4 : (-2147483648) ≤ (v178_1_4 : Int32).toInt ∧ (v178_1_4 : Int32).toInt ≤ 2147483647), (hv178_1_12 : 0 ≤ (v178_1_12 : Int32).toInt ∧ (v178_1_12 : Int32).toInt ≤ 900), (hv178_1_13 : (-2147483648) ≤ (v178_1_13 : Int32).toInt ∧ (v178_1_13 : Int32).toInt ≤ 2147483647), (hv178_1_5 : 0 ≤ (v178_1_5 : Int32).toInt ∧ (v178_1_5 : Int32).toInt ≤ 10), (hv178_1_0 : (-2147483648) ≤ (v178_1_0 : Int32).toInt ∧ (v178_1_0 : Int32).toInt ≤ 2147483647), (rg_wide rv178_1_6 (by decide) (by decide)), (show 0 ≤ (v178_1_1 : Int32).toInt ∧ (v178_1_1 : Int32).toInt < (p7 : Int32).toInt from by omega), (show (v178_1_3 : Int32).toInt ≠ 0 ∨ (v178_1_2 : Int32).toInt = 26 ∨ (v178_1_2 : Int32).toInt = 27 ∨ (v178_1_1 : Int32).toInt + 1 < (p7 : Int32).toInt from by omega), (show (v178_1_3 : Int32).toInt = 0 ∨ (v178_1_2 : Int32).toInt = 27 from by omega), (show (v178_1_3 : Int32).toInt ≠ 0 ∨ (p2 : Int32).toInt = 0 from by omega), (show (p0 : Int32).toInt ≤ (v178_1_1 : Int32).toInt from by omega), (show (v178_1_3 : Int32).toInt ≠ 0 ∨ (p0 : Int32).toInt + 1 ≤ (v178_1_1 : Int32).toInt from by omega), (show LawS cy ([] ++ v178_1_15) (va_rf o0) (va_rf o1) (va_rf o2) (va_rf v178_1_11) (va_rf v178_1_16) (va_rf v178_1_17) from x8_6), trivial⟩ [0, 1, 2, 3, 4, 5, 6, 7, 8, 9, 10, 11] rfl rfl dX5_readLine_178 (Nat.le_of_ble_eq_true rfl) (Nat.le_of_ble_eq_true rfl)
  · skip
    by_cases c_9 : p1 = 8
    · have ec_9 : (p1).toInt = 8 := by rw [c_9]; decide
      refine lv_tableIn (off := 147) (tgt := 151) hx hb dX5_readLine_4 (by rw [c_9]; decide +kernel) (by rw [c_9]; decide +kernel) (by rw [c_9]; decide +kernel) (by decide) ?_
      refine lv_aload_n hx hb dX5_readLine_151 rfl (lv_at hl 0 rfl) ?_
      refine q_callVvT (rest := []) (wr := [(h4, .inl (cy 1, 901, .inl f2)), (h5, .inr (3, [.int p8, .int p9, .int p10, .int p11, (va_rf o0), (va_rf o1), (va_rf o2), .ref h6, .ref h7, .ref h8, .ref h9, .ref h10])), (h6, .inl (cy 1, 10, .inl f3)), (h7, .inl (cy 1, 10, .inl f4)), (h8, .inl (cy 1, 10, .inl f5)), (h9, .inl (cy 1, 10, .inl f6)), (h10, .inl (cy 1, 10, .inl f7)), (h11, .inl (cy 1, 900, .inl f8))]) X hK hT hA h (fun sz => gX5_advance_9820dfe l D cy h0 h1 h2 h3 p0 p1 p2 p3 (.ref h5) (.ref h11) p4 p5 w0 p6 p7 (.ref h4) f0 f1 hp0 (i_rng _) (i_rng _) (i_rng _) hp4 (i_rng _) hp6 hp7 (hpre0) (by omega) (by omega) sz) wm_3_68 wm_3_71 wm_1_2 hd_X5_advance wm_3_70 wp_1_8 (ci := 5) (q0 := 0) rfl rfl ⟨Nat.le_of_ble_eq_true rfl, Nat.le_of_ble_eq_true rfl⟩ hl.1 rfl (Nat.le_of_ble_eq_true rfl) dX5_readLine_152 ⟨Nat.le_of_ble_eq_true rfl, Nat.le_of_ble_eq_true rfl⟩ [0, 1, 2, 3] [4, 5, 6, 7, 8, 9, 10, 11] rfl rfl (by decide) rfl rfl (fun u_10 H locs w_10 h_10 => ?_)
      clear h
      obtain ⟨w10_0, w10_1, w10_2, w10_3, y10_0, y10_1, y10_2, y10_3, y10_4, y10_5, _⟩ := w_10
      replace h_10 : qW D _ _ ([(h4, .inl (cy 1, 901, .inl f2)), (h5, .inr (3, [.int p8, .int p9, .int p10, .int p11, (va_rf o0), (va_rf o1), (va_rf o2), .ref h6, .ref h7, .ref h8, .ref h9, .ref h10])), (h6, .inl (cy 1, 10, .inl f3)), (h7, .inl (cy 1, 10, .inl f4)), (h8, .inl (cy 1, 10, .inl f5)), (h9, .inl (cy 1, 10, .inl f6)), (h10, .inl (cy 1, 10, .inl f7)), (h11, .inl (cy 1, 900, .inl f8)), (h0, .inr (5, [.ref h1, .int (u_10.2.1 0 0), .int (u_10.2.1 1 0), .int (u_10.2.1 2 0), .int (u_10.2.1 3 0), .ref h5, .ref h11, .int p4, .int p5])), (h1, .inr (8, [w0, .int p6, .int p7, .ref h2, .ref h3, .ref h4])), (h2, .inl (cy 1, 901, .inl f0)), (h3, .inl (cy 1, 901, .inl f1))] ++ []) _ _ := h_10
      refine lv_aload_n hx hb dX5_readLine_155 rfl (lv_at hl 0 rfl) ?_
      refine q_get X hK h_10 8 rfl rfl wf_5 5 (by decide) rfl wm_1_151 dX5_readLine_156 ?_
      refine lv_aload_n hx hb dX5_readLine_159 rfl (lv_at hl 0 rfl) ?_
      refine lv_iconst (v := 0) hx hb dX5_readLine_160 (by decide) ?_
      refine lv_sipush (v := 999) hx hb dX5_readLine_161 (by decide) ?_
      refine q_callViT (rest := [.ref h5]) (wr := [(h5, .inr (3, [.int p8, .int p9, .int p10, .int p11, (va_rf o0), (va_rf o1), (va_rf o2), .ref h6, .ref h7, .ref h8, .ref h9, .ref h10])), (h6, .inl (cy 1, 10, .inl f3)), (h7, .inl (cy 1, 10, .inl f4)), (h8, .inl (cy 1, 10, .inl f5)), (h9, .inl (cy 1, 10, .inl f6)), (h10, .inl (cy 1, 10, .inl f7)), (h11, .inl (cy 1, 900, .inl f8))]) X hK hT hA h_10 (fun sz => gX5_takeNumber_7db443e l D cy h0 h1 h2 h3 h4 (u_10.2.1 0 0) (u_10.2.1 1 0) (u_10.2.1 2 0) (u_10.2.1 3 0) (.ref h5) (.ref h11) p4 p5 w0 p6 p7 f0 f1 f2 w10_0 (i_rng _) (i_rng _) (i_rng _) hp4 (i_rng _) hp6 hp7 (hpre0) (by omega) (by omega) (by omega) sz) wm_3_80 wm_3_83 wm_1_2 hd_X5_takeNumber wm_3_82 wp_1_11 (ci := 5) (q0 := 0) rfl rfl ⟨Nat.le_of_ble_eq_true rfl, Nat.le_of_ble_eq_true rfl⟩ hl.1 rfl (Nat.le_of_ble_eq_true rfl) dX5_readLine_164 ⟨Nat.le_of_ble_eq_true rfl, Nat.le_of_ble_eq_true rfl⟩ [8, 9, 10, 11, 0] [1, 2, 3, 4, 5, 6, 7] rfl rfl (by decide) rfl rfl (fun r_11 u_11 H locs w_11 h_11 => ?_)
      clear h_10
      obtain ⟨wr_11, w11_0, w11_1, w11_2, w11_3, y11_0, y11_1, y11_2, y11_3, y11_4, y11_5, _⟩ := w_11
      have lq_11_1 : (0 : Int32).toInt = 0 := (by decide)
      have lq_11_2 : (999 : Int32).toInt = 999 := (by decide)
      replace h_11 : qW D _ _ ([(h5, .inr (3, [.int p8, .int p9, .int p10, .int p11, (va_rf o0), (va_rf o1), (va_rf o2), .ref h6, .ref h7, .ref h8, .ref h9, .ref h10])), (h6, .inl (cy 1, 10, .inl f3)), (h7, .inl (cy 1, 10, .inl f4)), (h8, .inl (cy 1, 10, .inl f5)), (h9, .inl (cy 1, 10, .inl f6)), (h10, .inl (cy 1, 10, .inl f7)), (h11, .inl (cy 1, 900, .inl f8)), (h0, .inr (5, [.ref h1, .int (u_11.2.1 0 0), .int (u_11.2.1 1 0), .int (u_11.2.1 2 0), .int (u_11.2.1 3 0), .ref h5, .ref h11, .int p4, .int p5])), (h1, .inr (8, [w0, .int p6, .int p7, .ref h2, .ref h3, .ref h4])), (h2, .inl (cy 1, 901, .inl f0)), (h3, .inl (cy 1, 901, .inl f1)), (h4, .inl (cy 1, 901, .inl f2))] ++ []) _ _ := h_11
      refine q_put (v := .int r_11) X hK h_11 0 rfl rfl wf_3 tyX3 tyX3_ok nmX3 3 (by decide) wm_1_92 rfl rfl rfl (Nat.le_of_ble_eq_true rfl) dX5_readLine_167 (fun H locs h_12 => ?_)
      clear h_11
      replace h_12 : qW D _ _ ([(h5, .inr (3, [.int p8, .int p9, .int p10, .int r_11, (va_rf o0), (va_rf o1), (va_rf o2), .ref h6, .ref h7, .ref h8, .ref h9, .ref h10])), (h6, .inl (cy 1, 10, .inl f3)), (h7, .inl (cy 1, 10, .inl f4)), (h8, .inl (cy 1, 10, .inl f5)), (h9, .inl (cy 1, 10, .inl f6)), (h10, .inl (cy 1, 10, .inl f7)), (h11, .inl (cy 1, 900, .inl f8)), (h0, .inr (5, [.ref h1, .int (u_11.2.1 0 0), .int (u_11.2.1 1 0), .int (u_11.2.1 2 0), .int (u_11.2.1 3 0), .ref h5, .ref h11, .int p4, .int p5])), (h1, .inr (8, [w0, .int p6, .int p7, .ref h2, .ref h3, .ref h4])), (h2, .inl (cy 1, 901, .inl f0)), (h3, .inl (cy 1, 901, .inl f1)), (h4, .inl (cy 1, 901, .inl f2))] ++ []) _ _ := h_12
      refine lv_goto (tgt := 178) hx hb dX5_readLine_170 (by decide) ?_
      exact W.widen (k := 2) (n := 901) (Nat.le_of_ble_eq_true rfl) (Nat.le_of_ble_eq_true rfl) (J_178 _ _ _ _ ⟨r_11, (u_11.2.1 0 0), (u_11.2.1 1 0), (u_11.2.1 2 0), (u_11.2.1 3 0), p9, o0, p4, p5, o1, o2, f3, f4, f5, f6, f7, f8, [], (bw wr_11 (by decide) (by decide)), w11_0, w11_1, w11_2, w11_3, hp9, hp4, hp5, (rg_wide rf3 (by decide) (by decide)), (by omega), (by omega), (by omega), (by omega), (by omega), (by omega), (ls_0), rfl, (q_reT h_12 [7, 8, 9, 10, 11, 0, 1, 2, 3, 4, 5, 6] rfl rfl), (lv_sub hl [0] rfl)⟩)
    by_cases c_13 : p1 = 9
    · have ec_13 : (p1).toInt = 9 := by rw [c_13]; decide
      refine lv_tableIn (off := 169) (tgt := 173) hx hb dX5_readLine_4 (by rw [c_13]; decide +kernel) (by rw [c_13]; decide +kernel) (by rw [c_13]; decide +kernel) (by decide) ?_
      refine lv_aload_n hx hb dX5_readLine_173 rfl (lv_at hl 0 rfl) ?_
      refine lv_iconst (v := 2) hx hb dX5_readLine_174 (by decide) ?_
      refine q_callVvT (rest := []) (wr := [(h2, .inl (cy 1, 901, .inl f0)), (h4, .inl (cy 1, 901, .inl f2)), (h5, .inr (3, [.int p8, .int p9, .int p10, .int p11, (va_rf o0), (va_rf o1), (va_rf o2), .ref h6, .ref h7, .ref h8, .ref h9, .ref h10])), (h6, .inl (cy 1, 10, .inl f3)), (h7, .inl (cy 1, 10, .inl f4)), (h8, .inl (cy 1, 10, .inl f5)), (h9, .inl (cy 1, 10, .inl f6)), (h10, .inl (cy 1, 10, .inl f7)), (h11, .inl (cy 1, 900, .inl f8))]) X hK hT hA h (fun sz => gX5_refuse_067fcff l D cy h0 h1 h3 p0 p1 p2 p3 (.ref h5) (.ref h11) p4 p5 w0 p6 p7 (.ref h2) (.ref h4) f1 hp0 (i_rng _) (i_rng _) (i_rng _) hp4 (i_rng _) hp6 hp7 (by omega) (by omega) (by have q0 : (2 : Int32).toInt = 2 := (by decide); omega) sz) wm_3_76 wm_3_79 wm_1_2 hd_X5_refuse wm_3_78 wp_1_10 (ci := 5) (q0 := 0) rfl rfl ⟨Nat.le_of_ble_eq_true rfl, Nat.le_of_ble_eq_true rfl⟩ hl.1 rfl (Nat.le_of_ble_eq_true rfl) dX5_readLine_175 ⟨Nat.le_of_ble_eq_true rfl, Nat.le_of_ble_eq_true rfl⟩ [0, 1, 3] [2, 4, 5, 6, 7, 8, 9, 10, 11] rfl rfl (by decide) rfl rfl (fun u_14 H locs w_14 h_14 => ?_)
      clear h
      obtain ⟨w14_0, w14_1, w14_2, y14_0, y14_1, _⟩ := w_14
      have lq_14_1 : (2 : Int32).toInt = 2 := (by decide)
      replace h_14 : qW D _ _ ([(h2, .inl (cy 1, 901, .inl f0)), (h4, .inl (cy 1, 901, .inl f2)), (h5, .inr (3, [.int p8, .int p9, .int p10, .int p11, (va_rf o0), (va_rf o1), (va_rf o2), .ref h6, .ref h7, .ref h8, .ref h9, .ref h10])), (h6, .inl (cy 1, 10, .inl f3)), (h7, .inl (cy 1, 10, .inl f4)), (h8, .inl (cy 1, 10, .inl f5)), (h9, .inl (cy 1, 10, .inl f6)), (h10, .inl (cy 1, 10, .inl f7)), (h11, .inl (cy 1, 900, .inl f8)), (h0, .inr (5, [.ref h1, .int p0, .int (u_14.2.1 0 0), .int (u_14.2.1 1 0), .int (u_14.2.1 2 0), .ref h5, .ref h11, .int p4, .int p5])), (h1, .inr (8, [w0, .int p6, .int p7, .ref h2, .ref h3, .ref h4])), (h3, .inl (cy 1, 901, .inl f1))] ++ []) _ _ := h_14
      exact W.widen (k := 2) (n := 901) (Nat.le_of_ble_eq_true rfl) (Nat.le_of_ble_eq_true rfl) (J_178 _ _ _ _ ⟨p11, p0, (u_14.2.1 0 0), (u_14.2.1 1 0), (u_14.2.1 2 0), p9, o0, p4, p5, o1, o2, f3, f4, f5, f6, f7, f8, [], hp11, hp0, w14_0, w14_1, w14_2, hp9, hp4, hp5, (rg_wide rf3 (by decide) (by decide)), (by omega), (by omega), (by omega), (by omega), (by omega), (by omega), (ls_0), rfl, (q_reT h_14 [9, 10, 0, 11, 1, 2, 3, 4, 5, 6, 7, 8] rfl rfl), (lv_sub hl [0] rfl)⟩)
    by_cases c_15 : p1 = 10
    · have ec_15 : (p1).toInt = 10 := by rw [c_15]; decide
      refine lv_tableIn (off := 169) (tgt := 173) hx hb dX5_readLine_4 (by rw [c_15]; decide +kernel) (by rw [c_15]; decide +kernel) (by rw [c_15]; decide +kernel) (by decide) ?_
      refine lv_aload_n hx hb dX5_readLine_173 rfl (lv_at hl 0 rfl) ?_
      refine lv_iconst (v := 2) hx hb dX5_readLine_174 (by decide) ?_
      refine q_callVvT (rest := []) (wr := [(h2, .inl (cy 1, 901, .inl f0)), (h4, .inl (cy 1, 901, .inl f2)), (h5, .inr (3, [.int p8, .int p9, .int p10, .int p11, (va_rf o0), (va_rf o1), (va_rf o2), .ref h6, .ref h7, .ref h8, .ref h9, .ref h10])), (h6, .inl (cy 1, 10, .inl f3)), (h7, .inl (cy 1, 10, .inl f4)), (h8, .inl (cy 1, 10, .inl f5)), (h9, .inl (cy 1, 10, .inl f6)), (h10, .inl (cy 1, 10, .inl f7)), (h11, .inl (cy 1, 900, .inl f8))]) X hK hT hA h (fun sz => gX5_refuse_067fcff l D cy h0 h1 h3 p0 p1 p2 p3 (.ref h5) (.ref h11) p4 p5 w0 p6 p7 (.ref h2) (.ref h4) f1 hp0 (i_rng _) (i_rng _) (i_rng _) hp4 (i_rng _) hp6 hp7 (by omega) (by omega) (by have q0 : (2 : Int32).toInt = 2 := (by decide); omega) sz) wm_3_76 wm_3_79 wm_1_2 hd_X5_refuse wm_3_78 wp_1_10 (ci := 5) (q0 := 0) rfl rfl ⟨Nat.le_of_ble_eq_true rfl, Nat.le_of_ble_eq_true rfl⟩ hl.1 rfl (Nat.le_of_ble_eq_true rfl) dX5_readLine_175 ⟨Nat.le_of_ble_eq_true rfl, Nat.le_of_ble_eq_true rfl⟩ [0, 1, 3] [2, 4, 5, 6, 7, 8, 9, 10, 11] rfl rfl (by decide) rfl rfl (fun u_16 H locs w_16 h_16 => ?_)
      clear h
      obtain ⟨w16_0, w16_1, w16_2, y16_0, y16_1, _⟩ := w_16
      have lq_16_1 : (2 : Int32).toInt = 2 := (by decide)
      replace h_16 : qW D _ _ ([(h2, .inl (cy 1, 901, .inl f0)), (h4, .inl (cy 1, 901, .inl f2)), (h5, .inr (3, [.int p8, .int p9, .int p10, .int p11, (va_rf o0), (va_rf o1), (va_rf o2), .ref h6, .ref h7, .ref h8, .ref h9, .ref h10])), (h6, .inl (cy 1, 10, .inl f3)), (h7, .inl (cy 1, 10, .inl f4)), (h8, .inl (cy 1, 10, .inl f5)), (h9, .inl (cy 1, 10, .inl f6)), (h10, .inl (cy 1, 10, .inl f7)), (h11, .inl (cy 1, 900, .inl f8)), (h0, .inr (5, [.ref h1, .int p0, .int (u_16.2.1 0 0), .int (u_16.2.1 1 0), .int (u_16.2.1 2 0), .ref h5, .ref h11, .int p4, .int p5])), (h1, .inr (8, [w0, .int p6, .int p7, .ref h2, .ref h3, .ref h4])), (h3, .inl (cy 1, 901, .inl f1))] ++ []) _ _ := h_16
      exact W.widen (k := 2) (n := 901) (Nat.le_of_ble_eq_true rfl) (Nat.le_of_ble_eq_true rfl) (J_178 _ _ _ _ ⟨p11, p0, (u_16.2.1 0 0), (u_16.2.1 1 0), (u_16.2.1 2 0), p9, o0, p4, p5, o1, o2, f3, f4, f5, f6, f7, f8, [], hp11, hp0, w16_0, w16_1, w16_2, hp9, hp4, hp5, (rg_wide rf3 (by decide) (by decide)), (by omega), (by omega), (by omega), (by omega), (by omega), (by omega), (ls_0), rfl, (q_reT h_16 [9, 10, 0, 11, 1, 2, 3, 4, 5, 6, 7, 8] rfl rfl), (lv_sub hl [0] rfl)⟩)
    by_cases c_17 : p1 = 11
    · have ec_17 : (p1).toInt = 11 := by rw [c_17]; decide
      refine lv_tableIn (off := 169) (tgt := 173) hx hb dX5_readLine_4 (by rw [c_17]; decide +kernel) (by rw [c_17]; decide +kernel) (by rw [c_17]; decide +kernel) (by decide) ?_
      refine lv_aload_n hx hb dX5_readLine_173 rfl (lv_at hl 0 rfl) ?_
      refine lv_iconst (v := 2) hx hb dX5_readLine_174 (by decide) ?_
      refine q_callVvT (rest := []) (wr := [(h2, .inl (cy 1, 901, .inl f0)), (h4, .inl (cy 1, 901, .inl f2)), (h5, .inr (3, [.int p8, .int p9, .int p10, .int p11, (va_rf o0), (va_rf o1), (va_rf o2), .ref h6, .ref h7, .ref h8, .ref h9, .ref h10])), (h6, .inl (cy 1, 10, .inl f3)), (h7, .inl (cy 1, 10, .inl f4)), (h8, .inl (cy 1, 10, .inl f5)), (h9, .inl (cy 1, 10, .inl f6)), (h10, .inl (cy 1, 10, .inl f7)), (h11, .inl (cy 1, 900, .inl f8))]) X hK hT hA h (fun sz => gX5_refuse_067fcff l D cy h0 h1 h3 p0 p1 p2 p3 (.ref h5) (.ref h11) p4 p5 w0 p6 p7 (.ref h2) (.ref h4) f1 hp0 (i_rng _) (i_rng _) (i_rng _) hp4 (i_rng _) hp6 hp7 (by omega) (by omega) (by have q0 : (2 : Int32).toInt = 2 := (by decide); omega) sz) wm_3_76 wm_3_79 wm_1_2 hd_X5_refuse wm_3_78 wp_1_10 (ci := 5) (q0 := 0) rfl rfl ⟨Nat.le_of_ble_eq_true rfl, Nat.le_of_ble_eq_true rfl⟩ hl.1 rfl (Nat.le_of_ble_eq_true rfl) dX5_readLine_175 ⟨Nat.le_of_ble_eq_true rfl, Nat.le_of_ble_eq_true rfl⟩ [0, 1, 3] [2, 4, 5, 6, 7, 8, 9, 10, 11] rfl rfl (by decide) rfl rfl (fun u_18 H locs w_18 h_18 => ?_)
      clear h
      obtain ⟨w18_0, w18_1, w18_2, y18_0, y18_1, _⟩ := w_18
      have lq_18_1 : (2 : Int32).toInt = 2 := (by decide)
      replace h_18 : qW D _ _ ([(h2, .inl (cy 1, 901, .inl f0)), (h4, .inl (cy 1, 901, .inl f2)), (h5, .inr (3, [.int p8, .int p9, .int p10, .int p11, (va_rf o0), (va_rf o1), (va_rf o2), .ref h6, .ref h7, .ref h8, .ref h9, .ref h10])), (h6, .inl (cy 1, 10, .inl f3)), (h7, .inl (cy 1, 10, .inl f4)), (h8, .inl (cy 1, 10, .inl f5)), (h9, .inl (cy 1, 10, .inl f6)), (h10, .inl (cy 1, 10, .inl f7)), (h11, .inl (cy 1, 900, .inl f8)), (h0, .inr (5, [.ref h1, .int p0, .int (u_18.2.1 0 0), .int (u_18.2.1 1 0), .int (u_18.2.1 2 0), .ref h5, .ref h11, .int p4, .int p5])), (h1, .inr (8, [w0, .int p6, .int p7, .ref h2, .ref h3, .ref h4])), (h3, .inl (cy 1, 901, .inl f1))] ++ []) _ _ := h_18
      exact W.widen (k := 2) (n := 901) (Nat.le_of_ble_eq_true rfl) (Nat.le_of_ble_eq_true rfl) (J_178 _ _ _ _ ⟨p11, p0, (u_18.2.1 0 0), (u_18.2.1 1 0), (u_18.2.1 2 0), p9, o0, p4, p5, o1, o2, f3, f4, f5, f6, f7, f8, [], hp11, hp0, w18_0, w18_1, w18_2, hp9, hp4, hp5, (rg_wide rf3 (by decide) (by decide)), (by omega), (by omega), (by omega), (by omega), (by omega), (by omega), (ls_0), rfl, (q_reT h_18 [9, 10, 0, 11, 1, 2, 3, 4, 5, 6, 7, 8] rfl rfl), (lv_sub hl [0] rfl)⟩)
    by_cases c_19 : p1 = 12
    · have ec_19 : (p1).toInt = 12 := by rw [c_19]; decide
      refine lv_tableIn (off := 169) (tgt := 173) hx hb dX5_readLine_4 (by rw [c_19]; decide +kernel) (by rw [c_19]; decide +kernel) (by rw [c_19]; decide +kernel) (by decide) ?_
      refine lv_aload_n hx hb dX5_readLine_173 rfl (lv_at hl 0 rfl) ?_
      refine lv_iconst (v := 2) hx hb dX5_readLine_174 (by decide) ?_
      refine q_callVvT (rest := []) (wr := [(h2, .inl (cy 1, 901, .inl f0)), (h4, .inl (cy 1, 901, .inl f2)), (h5, .inr (3, [.int p8, .int p9, .int p10, .int p11, (va_rf o0), (va_rf o1), (va_rf o2), .ref h6, .ref h7, .ref h8, .ref h9, .ref h10])), (h6, .inl (cy 1, 10, .inl f3)), (h7, .inl (cy 1, 10, .inl f4)), (h8, .inl (cy 1, 10, .inl f5)), (h9, .inl (cy 1, 10, .inl f6)), (h10, .inl (cy 1, 10, .inl f7)), (h11, .inl (cy 1, 900, .inl f8))]) X hK hT hA h (fun sz => gX5_refuse_067fcff l D cy h0 h1 h3 p0 p1 p2 p3 (.ref h5) (.ref h11) p4 p5 w0 p6 p7 (.ref h2) (.ref h4) f1 hp0 (i_rng _) (i_rng _) (i_rng _) hp4 (i_rng _) hp6 hp7 (by omega) (by omega) (by have q0 : (2 : Int32).toInt = 2 := (by decide); omega) sz) wm_3_76 wm_3_79 wm_1_2 hd_X5_refuse wm_3_78 wp_1_10 (ci := 5) (q0 := 0) rfl rfl ⟨Nat.le_of_ble_eq_true rfl, Nat.le_of_ble_eq_true rfl⟩ hl.1 rfl (Nat.le_of_ble_eq_true rfl) dX5_readLine_175 ⟨Nat.le_of_ble_eq_true rfl, Nat.le_of_ble_eq_true rfl⟩ [0, 1, 3] [2, 4, 5, 6, 7, 8, 9, 10, 11] rfl rfl (by decide) rfl rfl (fun u_20 H locs w_20 h_20 => ?_)
      clear h
      obtain ⟨w20_0, w20_1, w20_2, y20_0, y20_1, _⟩ := w_20
      have lq_20_1 : (2 : Int32).toInt = 2 := (by decide)
      replace h_20 : qW D _ _ ([(h2, .inl (cy 1, 901, .inl f0)), (h4, .inl (cy 1, 901, .inl f2)), (h5, .inr (3, [.int p8, .int p9, .int p10, .int p11, (va_rf o0), (va_rf o1), (va_rf o2), .ref h6, .ref h7, .ref h8, .ref h9, .ref h10])), (h6, .inl (cy 1, 10, .inl f3)), (h7, .inl (cy 1, 10, .inl f4)), (h8, .inl (cy 1, 10, .inl f5)), (h9, .inl (cy 1, 10, .inl f6)), (h10, .inl (cy 1, 10, .inl f7)), (h11, .inl (cy 1, 900, .inl f8)), (h0, .inr (5, [.ref h1, .int p0, .int (u_20.2.1 0 0), .int (u_20.2.1 1 0), .int (u_20.2.1 2 0), .ref h5, .ref h11, .int p4, .int p5])), (h1, .inr (8, [w0, .int p6, .int p7, .ref h2, .ref h3, .ref h4])), (h3, .inl (cy 1, 901, .inl f1))] ++ []) _ _ := h_20
      exact W.widen (k := 2) (n := 901) (Nat.le_of_ble_eq_true rfl) (Nat.le_of_ble_eq_true rfl) (J_178 _ _ _ _ ⟨p11, p0, (u_20.2.1 0 0), (u_20.2.1 1 0), (u_20.2.1 2 0), p9, o0, p4, p5, o1, o2, f3, f4, f5, f6, f7, f8, [], hp11, hp0, w20_0, w20_1, w20_2, hp9, hp4, hp5, (rg_wide rf3 (by decide) (by decide)), (by omega), (by omega), (by omega), (by omega), (by omega), (by omega), (ls_0), rfl, (q_reT h_20 [9, 10, 0, 11, 1, 2, 3, 4, 5, 6, 7, 8] rfl rfl), (lv_sub hl [0] rfl)⟩)
    by_cases c_21 : p1 = 13
    · have ec_21 : (p1).toInt = 13 := by rw [c_21]; decide
      refine lv_tableIn (off := 68) (tgt := 72) hx hb dX5_readLine_4 (by rw [c_21]; decide +kernel) (by rw [c_21]; decide +kernel) (by rw [c_21]; decide +kernel) (by decide) ?_
      refine lv_aload_n hx hb dX5_readLine_72 rfl (lv_at hl 0 rfl) ?_
      refine q_callVvT (rest := []) (wr := [(h11, .inl (cy 1, 900, .inl f8))]) X hK hT hA h (fun sz => gX5_readPerson_fb208ee l D cy h0 h1 h2 h3 h4 h5 h6 h7 h8 h9 h10 p0 p1 p2 p3 (.ref h11) p4 p5 w0 p6 p7 f0 f1 f2 p8 p9 p10 p11 (va_rf o0) (va_rf o1) (va_rf o2) f3 f4 f5 f6 f7 hp0 (i_rng _) (i_rng _) (i_rng _) hp4 (i_rng _) hp6 hp7 hp8 hp9 (i_rng _) (i_rng _) (rg_wide rf3 (by decide) (by decide)) (hpre0) (by omega) (by omega) (by omega) (by omega) sz) wm_3_88 wm_3_91 wm_1_2 hd_X5_readPerson wm_3_90 wp_1_13 (ci := 5) (q0 := 0) rfl rfl ⟨Nat.le_of_ble_eq_true rfl, Nat.le_of_ble_eq_true rfl⟩ hl.1 rfl (Nat.le_of_ble_eq_true rfl) dX5_readLine_73 ⟨Nat.le_of_ble_eq_true rfl, Nat.le_of_ble_eq_true rfl⟩ [0, 1, 2, 3, 4, 5, 6, 7, 8, 9, 10] [11] rfl rfl (by decide) rfl rfl (fun u_22 H locs w_22 h_22 => ?_)
      clear h
      obtain ⟨w22_0, w22_1, w22_2, w22_3, w22_4, w22_5, y22_0, y22_1, y22_2, y22_3, y22_4, y22_5, _⟩ := w_22
      replace h_22 : qW D _ _ ([(h11, .inl (cy 1, 900, .inl f8)), (h0, .inr (5, [.ref h1, .int (u_22.2.1 6 0), .int (u_22.2.1 7 0), .int (u_22.2.1 8 0), .int (u_22.2.1 9 0), .ref h5, .ref h11, .int p4, .int p5])), (h1, .inr (8, [w0, .int p6, .int p7, .ref h2, .ref h3, .ref h4])), (h2, .inl (cy 1, 901, .inl f0)), (h3, .inl (cy 1, 901, .inl f1)), (h4, .inl (cy 1, 901, .inl f2)), (h5, .inr (3, [.int p8, .int (u_22.2.1 0 0), .int p10, .int p11, (va_rf o0), (va_rf o1), (va_rf o2), .ref h6, .ref h7, .ref h8, .ref h9, .ref h10])), (h6, .inl (cy 1, 10, .inl (u_22.2.1 1))), (h7, .inl (cy 1, 10, .inl (u_22.2.1 2))), (h8, .inl (cy 1, 10, .inl (u_22.2.1 3))), (h9, .inl (cy 1, 10, .inl (u_22.2.1 4))), (h10, .inl (cy 1, 10, .inl (u_22.2.1 5)))] ++ []) _ _ := h_22
      refine lv_goto (tgt := 178) hx hb dX5_readLine_76 (by decide) ?_
      exact W.widen (k := 2) (n := 901) (Nat.le_of_ble_eq_true rfl) (Nat.le_of_ble_eq_true rfl) (J_178 _ _ _ _ ⟨p11, (u_22.2.1 6 0), (u_22.2.1 7 0), (u_22.2.1 8 0), (u_22.2.1 9 0), (u_22.2.1 0 0), o0, p4, p5, o1, o2, (u_22.2.1 1), (u_22.2.1 2), (u_22.2.1 3), (u_22.2.1 4), (u_22.2.1 5), f8, [], hp11, w22_2, w22_3, w22_4, w22_5, (bw w22_0 (by decide) (by decide)), hp4, hp5, (rg_wide w22_1 (by decide) (by decide)), (by omega), (by omega), (by omega), (by omega), (by omega), (by omega), (ls_0), rfl, (q_reT h_22 [1, 2, 3, 4, 5, 6, 7, 8, 9, 10, 11, 0] rfl rfl), (lv_sub hl [0] rfl)⟩)
    by_cases c_23 : p1 = 14
    · have ec_23 : (p1).toInt = 14 := by rw [c_23]; decide
      refine lv_tableIn (off := 169) (tgt := 173) hx hb dX5_readLine_4 (by rw [c_23]; decide +kernel) (by rw [c_23]; decide +kernel) (by rw [c_23]; decide +kernel) (by decide) ?_
      refine lv_aload_n hx hb dX5_readLine_173 rfl (lv_at hl 0 rfl) ?_
      refine lv_iconst (v := 2) hx hb dX5_readLine_174 (by decide) ?_
      refine q_callVvT (rest := []) (wr := [(h2, .inl (cy 1, 901, .inl f0)), (h4, .inl (cy 1, 901, .inl f2)), (h5, .inr (3, [.int p8, .int p9, .int p10, .int p11, (va_rf o0), (va_rf o1), (va_rf o2), .ref h6, .ref h7, .ref h8, .ref h9, .ref h10])), (h6, .inl (cy 1, 10, .inl f3)), (h7, .inl (cy 1, 10, .inl f4)), (h8, .inl (cy 1, 10, .inl f5)), (h9, .inl (cy 1, 10, .inl f6)), (h10, .inl (cy 1, 10, .inl f7)), (h11, .inl (cy 1, 900, .inl f8))]) X hK hT hA h (fun sz => gX5_refuse_067fcff l D cy h0 h1 h3 p0 p1 p2 p3 (.ref h5) (.ref h11) p4 p5 w0 p6 p7 (.ref h2) (.ref h4) f1 hp0 (i_rng _) (i_rng _) (i_rng _) hp4 (i_rng _) hp6 hp7 (by omega) (by omega) (by have q0 : (2 : Int32).toInt = 2 := (by decide); omega) sz) wm_3_76 wm_3_79 wm_1_2 hd_X5_refuse wm_3_78 wp_1_10 (ci := 5) (q0 := 0) rfl rfl ⟨Nat.le_of_ble_eq_true rfl, Nat.le_of_ble_eq_true rfl⟩ hl.1 rfl (Nat.le_of_ble_eq_true rfl) dX5_readLine_175 ⟨Nat.le_of_ble_eq_true rfl, Nat.le_of_ble_eq_true rfl⟩ [0, 1, 3] [2, 4, 5, 6, 7, 8, 9, 10, 11] rfl rfl (by decide) rfl rfl (fun u_24 H locs w_24 h_24 => ?_)
      clear h
      obtain ⟨w24_0, w24_1, w24_2, y24_0, y24_1, _⟩ := w_24
      have lq_24_1 : (2 : Int32).toInt = 2 := (by decide)
      replace h_24 : qW D _ _ ([(h2, .inl (cy 1, 901, .inl f0)), (h4, .inl (cy 1, 901, .inl f2)), (h5, .inr (3, [.int p8, .int p9, .int p10, .int p11, (va_rf o0), (va_rf o1), (va_rf o2), .ref h6, .ref h7, .ref h8, .ref h9, .ref h10])), (h6, .inl (cy 1, 10, .inl f3)), (h7, .inl (cy 1, 10, .inl f4)), (h8, .inl (cy 1, 10, .inl f5)), (h9, .inl (cy 1, 10, .inl f6)), (h10, .inl (cy 1, 10, .inl f7)), (h11, .inl (cy 1, 900, .inl f8)), (h0, .inr (5, [.ref h1, .int p0, .int (u_24.2.1 0 0), .int (u_24.2.1 1 0), .int (u_24.2.1 2 0), .ref h5, .ref h11, .int p4, .int p5])), (h1, .inr (8, [w0, .int p6, .int p7, .ref h2, .ref h3, .ref h4])), (h3, .inl (cy 1, 901, .inl f1))] ++ []) _ _ := h_24
      exact W.widen (k := 2) (n := 901) (Nat.le_of_ble_eq_true rfl) (Nat.le_of_ble_eq_true rfl) (J_178 _ _ _ _ ⟨p11, p0, (u_24.2.1 0 0), (u_24.2.1 1 0), (u_24.2.1 2 0), p9, o0, p4, p5, o1, o2, f3, f4, f5, f6, f7, f8, [], hp11, hp0, w24_0, w24_1, w24_2, hp9, hp4, hp5, (rg_wide rf3 (by decide) (by decide)), (by omega), (by omega), (by omega), (by omega), (by omega), (by omega), (ls_0), rfl, (q_reT h_24 [9, 10, 0, 11, 1, 2, 3, 4, 5, 6, 7, 8] rfl rfl), (lv_sub hl [0] rfl)⟩)
    by_cases c_25 : p1 = 15
    · have ec_25 : (p1).toInt = 15 := by rw [c_25]; decide
      refine lv_tableIn (off := 169) (tgt := 173) hx hb dX5_readLine_4 (by rw [c_25]; decide +kernel) (by rw [c_25]; decide +kernel) (by rw [c_25]; decide +kernel) (by decide) ?_
      refine lv_aload_n hx hb dX5_readLine_173 rfl (lv_at hl 0 rfl) ?_
      refine lv_iconst (v := 2) hx hb dX5_readLine_174 (by decide) ?_
      refine q_callVvT (rest := []) (wr := [(h2, .inl (cy 1, 901, .inl f0)), (h4, .inl (cy 1, 901, .inl f2)), (h5, .inr (3, [.int p8, .int p9, .int p10, .int p11, (va_rf o0), (va_rf o1), (va_rf o2), .ref h6, .ref h7, .ref h8, .ref h9, .ref h10])), (h6, .inl (cy 1, 10, .inl f3)), (h7, .inl (cy 1, 10, .inl f4)), (h8, .inl (cy 1, 10, .inl f5)), (h9, .inl (cy 1, 10, .inl f6)), (h10, .inl (cy 1, 10, .inl f7)), (h11, .inl (cy 1, 900, .inl f8))]) X hK hT hA h (fun sz => gX5_refuse_067fcff l D cy h0 h1 h3 p0 p1 p2 p3 (.ref h5) (.ref h11) p4 p5 w0 p6 p7 (.ref h2) (.ref h4) f1 hp0 (i_rng _) (i_rng _) (i_rng _) hp4 (i_rng _) hp6 hp7 (by omega) (by omega) (by have q0 : (2 : Int32).toInt = 2 := (by decide); omega) sz) wm_3_76 wm_3_79 wm_1_2 hd_X5_refuse wm_3_78 wp_1_10 (ci := 5) (q0 := 0) rfl rfl ⟨Nat.le_of_ble_eq_true rfl, Nat.le_of_ble_eq_true rfl⟩ hl.1 rfl (Nat.le_of_ble_eq_true rfl) dX5_readLine_175 ⟨Nat.le_of_ble_eq_true rfl, Nat.le_of_ble_eq_true rfl⟩ [0, 1, 3] [2, 4, 5, 6, 7, 8, 9, 10, 11] rfl rfl (by decide) rfl rfl (fun u_26 H locs w_26 h_26 => ?_)
      clear h
      obtain ⟨w26_0, w26_1, w26_2, y26_0, y26_1, _⟩ := w_26
      have lq_26_1 : (2 : Int32).toInt = 2 := (by decide)
      replace h_26 : qW D _ _ ([(h2, .inl (cy 1, 901, .inl f0)), (h4, .inl (cy 1, 901, .inl f2)), (h5, .inr (3, [.int p8, .int p9, .int p10, .int p11, (va_rf o0), (va_rf o1), (va_rf o2), .ref h6, .ref h7, .ref h8, .ref h9, .ref h10])), (h6, .inl (cy 1, 10, .inl f3)), (h7, .inl (cy 1, 10, .inl f4)), (h8, .inl (cy 1, 10, .inl f5)), (h9, .inl (cy 1, 10, .inl f6)), (h10, .inl (cy 1, 10, .inl f7)), (h11, .inl (cy 1, 900, .inl f8)), (h0, .inr (5, [.ref h1, .int p0, .int (u_26.2.1 0 0), .int (u_26.2.1 1 0), .int (u_26.2.1 2 0), .ref h5, .ref h11, .int p4, .int p5])), (h1, .inr (8, [w0, .int p6, .int p7, .ref h2, .ref h3, .ref h4])), (h3, .inl (cy 1, 901, .inl f1))] ++ []) _ _ := h_26
      exact W.widen (k := 2) (n := 901) (Nat.le_of_ble_eq_true rfl) (Nat.le_of_ble_eq_true rfl) (J_178 _ _ _ _ ⟨p11, p0, (u_26.2.1 0 0), (u_26.2.1 1 0), (u_26.2.1 2 0), p9, o0, p4, p5, o1, o2, f3, f4, f5, f6, f7, f8, [], hp11, hp0, w26_0, w26_1, w26_2, hp9, hp4, hp5, (rg_wide rf3 (by decide) (by decide)), (by omega), (by omega), (by omega), (by omega), (by omega), (by omega), (ls_0), rfl, (q_reT h_26 [9, 10, 0, 11, 1, 2, 3, 4, 5, 6, 7, 8] rfl rfl), (lv_sub hl [0] rfl)⟩)
    by_cases c_27 : p1 = 16
    · have ec_27 : (p1).toInt = 16 := by rw [c_27]; decide
      refine lv_tableIn (off := 169) (tgt := 173) hx hb dX5_readLine_4 (by rw [c_27]; decide +kernel) (by rw [c_27]; decide +kernel) (by rw [c_27]; decide +kernel) (by decide) ?_
      refine lv_aload_n hx hb dX5_readLine_173 rfl (lv_at hl 0 rfl) ?_
      refine lv_iconst (v := 2) hx hb dX5_readLine_174 (by decide) ?_
      refine q_callVvT (rest := []) (wr := [(h2, .inl (cy 1, 901, .inl f0)), (h4, .inl (cy 1, 901, .inl f2)), (h5, .inr (3, [.int p8, .int p9, .int p10, .int p11, (va_rf o0), (va_rf o1), (va_rf o2), .ref h6, .ref h7, .ref h8, .ref h9, .ref h10])), (h6, .inl (cy 1, 10, .inl f3)), (h7, .inl (cy 1, 10, .inl f4)), (h8, .inl (cy 1, 10, .inl f5)), (h9, .inl (cy 1, 10, .inl f6)), (h10, .inl (cy 1, 10, .inl f7)), (h11, .inl (cy 1, 900, .inl f8))]) X hK hT hA h (fun sz => gX5_refuse_067fcff l D cy h0 h1 h3 p0 p1 p2 p3 (.ref h5) (.ref h11) p4 p5 w0 p6 p7 (.ref h2) (.ref h4) f1 hp0 (i_rng _) (i_rng _) (i_rng _) hp4 (i_rng _) hp6 hp7 (by omega) (by omega) (by have q0 : (2 : Int32).toInt = 2 := (by decide); omega) sz) wm_3_76 wm_3_79 wm_1_2 hd_X5_refuse wm_3_78 wp_1_10 (ci := 5) (q0 := 0) rfl rfl ⟨Nat.le_of_ble_eq_true rfl, Nat.le_of_ble_eq_true rfl⟩ hl.1 rfl (Nat.le_of_ble_eq_true rfl) dX5_readLine_175 ⟨Nat.le_of_ble_eq_true rfl, Nat.le_of_ble_eq_true rfl⟩ [0, 1, 3] [2, 4, 5, 6, 7, 8, 9, 10, 11] rfl rfl (by decide) rfl rfl (fun u_28 H locs w_28 h_28 => ?_)
      clear h
      obtain ⟨w28_0, w28_1, w28_2, y28_0, y28_1, _⟩ := w_28
      have lq_28_1 : (2 : Int32).toInt = 2 := (by decide)
      replace h_28 : qW D _ _ ([(h2, .inl (cy 1, 901, .inl f0)), (h4, .inl (cy 1, 901, .inl f2)), (h5, .inr (3, [.int p8, .int p9, .int p10, .int p11, (va_rf o0), (va_rf o1), (va_rf o2), .ref h6, .ref h7, .ref h8, .ref h9, .ref h10])), (h6, .inl (cy 1, 10, .inl f3)), (h7, .inl (cy 1, 10, .inl f4)), (h8, .inl (cy 1, 10, .inl f5)), (h9, .inl (cy 1, 10, .inl f6)), (h10, .inl (cy 1, 10, .inl f7)), (h11, .inl (cy 1, 900, .inl f8)), (h0, .inr (5, [.ref h1, .int p0, .int (u_28.2.1 0 0), .int (u_28.2.1 1 0), .int (u_28.2.1 2 0), .ref h5, .ref h11, .int p4, .int p5])), (h1, .inr (8, [w0, .int p6, .int p7, .ref h2, .ref h3, .ref h4])), (h3, .inl (cy 1, 901, .inl f1))] ++ []) _ _ := h_28
      exact W.widen (k := 2) (n := 901) (Nat.le_of_ble_eq_true rfl) (Nat.le_of_ble_eq_true rfl) (J_178 _ _ _ _ ⟨p11, p0, (u_28.2.1 0 0), (u_28.2.1 1 0), (u_28.2.1 2 0), p9, o0, p4, p5, o1, o2, f3, f4, f5, f6, f7, f8, [], hp11, hp0, w28_0, w28_1, w28_2, hp9, hp4, hp5, (rg_wide rf3 (by decide) (by decide)), (by omega), (by omega), (by omega), (by omega), (by omega), (by omega), (ls_0), rfl, (q_reT h_28 [9, 10, 0, 11, 1, 2, 3, 4, 5, 6, 7, 8] rfl rfl), (lv_sub hl [0] rfl)⟩)
    by_cases c_29 : p1 = 17
    · have ec_29 : (p1).toInt = 17 := by rw [c_29]; decide
      refine lv_tableIn (off := 169) (tgt := 173) hx hb dX5_readLine_4 (by rw [c_29]; decide +kernel) (by rw [c_29]; decide +kernel) (by rw [c_29]; decide +kernel) (by decide) ?_
      refine lv_aload_n hx hb dX5_readLine_173 rfl (lv_at hl 0 rfl) ?_
      refine lv_iconst (v := 2) hx hb dX5_readLine_174 (by decide) ?_
      refine q_callVvT (rest := []) (wr := [(h2, .inl (cy 1, 901, .inl f0)), (h4, .inl (cy 1, 901, .inl f2)), (h5, .inr (3, [.int p8, .int p9, .int p10, .int p11, (va_rf o0), (va_rf o1), (va_rf o2), .ref h6, .ref h7, .ref h8, .ref h9, .ref h10])), (h6, .inl (cy 1, 10, .inl f3)), (h7, .inl (cy 1, 10, .inl f4)), (h8, .inl (cy 1, 10, .inl f5)), (h9, .inl (cy 1, 10, .inl f6)), (h10, .inl (cy 1, 10, .inl f7)), (h11, .inl (cy 1, 900, .inl f8))]) X hK hT hA h (fun sz => gX5_refuse_067fcff l D cy h0 h1 h3 p0 p1 p2 p3 (.ref h5) (.ref h11) p4 p5 w0 p6 p7 (.ref h2) (.ref h4) f1 hp0 (i_rng _) (i_rng _) (i_rng _) hp4 (i_rng _) hp6 hp7 (by omega) (by omega) (by have q0 : (2 : Int32).toInt = 2 := (by decide); omega) sz) wm_3_76 wm_3_79 wm_1_2 hd_X5_refuse wm_3_78 wp_1_10 (ci := 5) (q0 := 0) rfl rfl ⟨Nat.le_of_ble_eq_true rfl, Nat.le_of_ble_eq_true rfl⟩ hl.1 rfl (Nat.le_of_ble_eq_true rfl) dX5_readLine_175 ⟨Nat.le_of_ble_eq_true rfl, Nat.le_of_ble_eq_true rfl⟩ [0, 1, 3] [2, 4, 5, 6, 7, 8, 9, 10, 11] rfl rfl (by decide) rfl rfl (fun u_30 H locs w_30 h_30 => ?_)
      clear h
      obtain ⟨w30_0, w30_1, w30_2, y30_0, y30_1, _⟩ := w_30
      have lq_30_1 : (2 : Int32).toInt = 2 := (by decide)
      replace h_30 : qW D _ _ ([(h2, .inl (cy 1, 901, .inl f0)), (h4, .inl (cy 1, 901, .inl f2)), (h5, .inr (3, [.int p8, .int p9, .int p10, .int p11, (va_rf o0), (va_rf o1), (va_rf o2), .ref h6, .ref h7, .ref h8, .ref h9, .ref h10])), (h6, .inl (cy 1, 10, .inl f3)), (h7, .inl (cy 1, 10, .inl f4)), (h8, .inl (cy 1, 10, .inl f5)), (h9, .inl (cy 1, 10, .inl f6)), (h10, .inl (cy 1, 10, .inl f7)), (h11, .inl (cy 1, 900, .inl f8)), (h0, .inr (5, [.ref h1, .int p0, .int (u_30.2.1 0 0), .int (u_30.2.1 1 0), .int (u_30.2.1 2 0), .ref h5, .ref h11, .int p4, .int p5])), (h1, .inr (8, [w0, .int p6, .int p7, .ref h2, .ref h3, .ref h4])), (h3, .inl (cy 1, 901, .inl f1))] ++ []) _ _ := h_30
      exact W.widen (k := 2) (n := 901) (Nat.le_of_ble_eq_true rfl) (Nat.le_of_ble_eq_true rfl) (J_178 _ _ _ _ ⟨p11, p0, (u_30.2.1 0 0), (u_30.2.1 1 0), (u_30.2.1 2 0), p9, o0, p4, p5, o1, o2, f3, f4, f5, f6, f7, f8, [], hp11, hp0, w30_0, w30_1, w30_2, hp9, hp4, hp5, (rg_wide rf3 (by decide) (by decide)), (by omega), (by omega), (by omega), (by omega), (by omega), (by omega), (ls_0), rfl, (q_reT h_30 [9, 10, 0, 11, 1, 2, 3, 4, 5, 6, 7, 8] rfl rfl), (lv_sub hl [0] rfl)⟩)
    by_cases c_31 : p1 = 18
    · have ec_31 : (p1).toInt = 18 := by rw [c_31]; decide
      refine lv_tableIn (off := 75) (tgt := 79) hx hb dX5_readLine_4 (by rw [c_31]; decide +kernel) (by rw [c_31]; decide +kernel) (by rw [c_31]; decide +kernel) (by decide) ?_
      refine lv_aload_n hx hb dX5_readLine_79 rfl (lv_at hl 0 rfl) ?_
      refine q_get X hK h 0 rfl rfl wf_5 5 (by decide) rfl wm_1_151 dX5_readLine_80 ?_
      refine lv_aload_n hx hb dX5_readLine_83 rfl (lv_at hl 0 rfl) ?_
      refine lv_sipush (v := 511) hx hb dX5_readLine_84 (by decide) ?_
      refine lv_aload_n hx hb dX5_readLine_87 rfl (lv_at hl 0 rfl) ?_
      refine q_get X hK h 0 rfl rfl wf_5 5 (by decide) rfl wm_1_151 dX5_readLine_88 ?_
      refine q_get X hK h 5 rfl rfl wf_3 4 (by decide) rfl wm_1_95 dX5_readLine_91 ?_
      refine q_callVqW (rest := [.ref h5]) (wr := [(h5, .inr (3, [.int p8, .int p9, .int p10, .int p11, (va_rf o0), (va_rf o1), (va_rf o2), .ref h6, .ref h7, .ref h8, .ref h9, .ref h10])), (h6, .inl (cy 1, 10, .inl f3)), (h7, .inl (cy 1, 10, .inl f4)), (h8, .inl (cy 1, 10, .inl f5)), (h9, .inl (cy 1, 10, .inl f6)), (h10, .inl (cy 1, 10, .inl f7))]) X hK hT hA h (fun sz => gX5_readLaw_3277650 l D cy h0 h1 h2 h3 h4 h11 (511 : Int32) o0 p0 p1 p2 p3 (.ref h5) p4 p5 w0 p6 p7 f0 f1 f2 f8 (i_rng _) hp0 (i_rng _) (i_rng _) (i_rng _) hp4 (i_rng _) hp6 hp7 (hpre0) (by omega) (by omega) (by omega) (by omega) sz) wm_3_97 wm_3_100 wm_1_2 hd_X5_readLaw wm_3_99 wp_1_15 (ci := 5) (q0 := 0) rfl rfl ⟨Nat.le_of_ble_eq_true rfl, Nat.le_of_ble_eq_true rfl⟩ hl.1 rfl (Nat.le_of_ble_eq_true rfl) dX5_readLine_94 ⟨Nat.le_of_ble_eq_true rfl, Nat.le_of_ble_eq_true rfl⟩ [0, 1, 2, 3, 4, 11] [5, 6, 7, 8, 9, 10] rfl rfl (by decide) rfl rfl (fun r_32 u_32 H locs w_32 h_32 => ?_)
      clear h
      obtain ⟨w32_0, w32_1, w32_2, w32_3, w32_4, w32_5, y32_0, y32_1, y32_2, y32_3, y32_4, y32_5, y32_6, _⟩ := w_32
      replace h_32 : qW D _ _ ([(h5, .inr (3, [.int p8, .int p9, .int p10, .int p11, (va_rf o0), (va_rf o1), (va_rf o2), .ref h6, .ref h7, .ref h8, .ref h9, .ref h10])), (h6, .inl (cy 1, 10, .inl f3)), (h7, .inl (cy 1, 10, .inl f4)), (h8, .inl (cy 1, 10, .inl f5)), (h9, .inl (cy 1, 10, .inl f6)), (h10, .inl (cy 1, 10, .inl f7)), (h0, .inr (5, [.ref h1, .int (u_32.1.2.1 0 0), .int (u_32.1.2.1 1 0), .int (u_32.1.2.1 2 0), .int (u_32.1.2.1 3 0), .ref h5, .ref h11, .int (u_32.1.2.1 4 0), .int (u_32.1.2.1 5 0)])), (h1, .inr (8, [w0, .int p6, .int p7, .ref h2, .ref h3, .ref h4])), (h2, .inl (cy 1, 901, .inl f0)), (h3, .inl (cy 1, 901, .inl f1)), (h4, .inl (cy 1, 901, .inl f2)), (h11, .inl (cy 1, 900, .inl (u_32.1.2.1 6)))] ++ (u_32.2.1 ++ [])) _ _ := h_32
      refine q_putq (r := r_32) X hK h_32 0 rfl rfl wf_3 tyX3 tyX3_ok nmX3 4 (by decide) wm_1_95 rfl rfl (fun _ => rfl) rfl (fun _ => rfl) (Nat.le_of_ble_eq_true rfl) dX5_readLine_97 (fun H locs h_33 => ?_)
      clear h_32
      replace h_33 : qW D _ _ ([(h5, .inr (3, [.int p8, .int p9, .int p10, .int p11, (va_rf r_32), (va_rf o1), (va_rf o2), .ref h6, .ref h7, .ref h8, .ref h9, .ref h10])), (h6, .inl (cy 1, 10, .inl f3)), (h7, .inl (cy 1, 10, .inl f4)), (h8, .inl (cy 1, 10, .inl f5)), (h9, .inl (cy 1, 10, .inl f6)), (h10, .inl (cy 1, 10, .inl f7)), (h0, .inr (5, [.ref h1, .int (u_32.1.2.1 0 0), .int (u_32.1.2.1 1 0), .int (u_32.1.2.1 2 0), .int (u_32.1.2.1 3 0), .ref h5, .ref h11, .int (u_32.1.2.1 4 0), .int (u_32.1.2.1 5 0)])), (h1, .inr (8, [w0, .int p6, .int p7, .ref h2, .ref h3, .ref h4])), (h2, .inl (cy 1, 901, .inl f0)), (h3, .inl (cy 1, 901, .inl f1)), (h4, .inl (cy 1, 901, .inl f2)), (h11, .inl (cy 1, 900, .inl (u_32.1.2.1 6)))] ++ (u_32.2.1 ++ [])) _ _ := h_33
      refine lv_goto (tgt := 178) hx hb dX5_readLine_100 (by decide) ?_
      exact J_178 _ _ _ _ ⟨p11, (u_32.1.2.1 0 0), (u_32.1.2.1 1 0), (u_32.1.2.1 2 0), (u_32.1.2.1 3 0), p9, r_32, (u_32.1.2.1 4 0), (u_32.1.2.1 5 0), o1, o2, f3, f4, f5, f6, f7, (u_32.1.2.1 6), (u_32.2.1 ++ []), hp11, (bw w32_0 (by decide) (by decide)), w32_1, w32_2, w32_3, hp9, w32_4, w32_5, (rg_wide rf3 (by decide) (by decide)), (by omega), (by omega), (by omega), (by omega), (by omega), (by omega), ((ls_4 (by rw [List.append_nil]; exact y32_6))), rfl, (q_reT h_33 [6, 7, 8, 9, 10, 0, 1, 2, 3, 4, 5, 11] rfl rfl), (lv_sub hl [0] rfl)⟩
    by_cases c_34 : p1 = 19
    · have ec_34 : (p1).toInt = 19 := by rw [c_34]; decide
      refine lv_tableIn (off := 99) (tgt := 103) hx hb dX5_readLine_4 (by rw [c_34]; decide +kernel) (by rw [c_34]; decide +kernel) (by rw [c_34]; decide +kernel) (by decide) ?_
      refine lv_aload_n hx hb dX5_readLine_103 rfl (lv_at hl 0 rfl) ?_
      refine q_get X hK h 0 rfl rfl wf_5 5 (by decide) rfl wm_1_151 dX5_readLine_104 ?_
      refine lv_aload_n hx hb dX5_readLine_107 rfl (lv_at hl 0 rfl) ?_
      refine lv_sipush (v := 783) hx hb dX5_readLine_108 (by decide) ?_
      refine lv_aload_n hx hb dX5_readLine_111 rfl (lv_at hl 0 rfl) ?_
      refine q_get X hK h 0 rfl rfl wf_5 5 (by decide) rfl wm_1_151 dX5_readLine_112 ?_
      refine q_get X hK h 5 rfl rfl wf_3 5 (by decide) rfl wm_1_98 dX5_readLine_115 ?_
      refine q_callVqW (rest := [.ref h5]) (wr := [(h5, .inr (3, [.int p8, .int p9, .int p10, .int p11, (va_rf o0), (va_rf o1), (va_rf o2), .ref h6, .ref h7, .ref h8, .ref h9, .ref h10])), (h6, .inl (cy 1, 10, .inl f3)), (h7, .inl (cy 1, 10, .inl f4)), (h8, .inl (cy 1, 10, .inl f5)), (h9, .inl (cy 1, 10, .inl f6)), (h10, .inl (cy 1, 10, .inl f7))]) X hK hT hA h (fun sz => gX5_readLaw_3277650 l D cy h0 h1 h2 h3 h4 h11 (783 : Int32) o1 p0 p1 p2 p3 (.ref h5) p4 p5 w0 p6 p7 f0 f1 f2 f8 (i_rng _) hp0 (i_rng _) (i_rng _) (i_rng _) hp4 (i_rng _) hp6 hp7 (hpre0) (by omega) (by omega) (by omega) (by omega) sz) wm_3_97 wm_3_100 wm_1_2 hd_X5_readLaw wm_3_99 wp_1_15 (ci := 5) (q0 := 0) rfl rfl ⟨Nat.le_of_ble_eq_true rfl, Nat.le_of_ble_eq_true rfl⟩ hl.1 rfl (Nat.le_of_ble_eq_true rfl) dX5_readLine_118 ⟨Nat.le_of_ble_eq_true rfl, Nat.le_of_ble_eq_true rfl⟩ [0, 1, 2, 3, 4, 11] [5, 6, 7, 8, 9, 10] rfl rfl (by decide) rfl rfl (fun r_35 u_35 H locs w_35 h_35 => ?_)
      clear h
      obtain ⟨w35_0, w35_1, w35_2, w35_3, w35_4, w35_5, y35_0, y35_1, y35_2, y35_3, y35_4, y35_5, y35_6, _⟩ := w_35
      replace h_35 : qW D _ _ ([(h5, .inr (3, [.int p8, .int p9, .int p10, .int p11, (va_rf o0), (va_rf o1), (va_rf o2), .ref h6, .ref h7, .ref h8, .ref h9, .ref h10])), (h6, .inl (cy 1, 10, .inl f3)), (h7, .inl (cy 1, 10, .inl f4)), (h8, .inl (cy 1, 10, .inl f5)), (h9, .inl (cy 1, 10, .inl f6)), (h10, .inl (cy 1, 10, .inl f7)), (h0, .inr (5, [.ref h1, .int (u_35.1.2.1 0 0), .int (u_35.1.2.1 1 0), .int (u_35.1.2.1 2 0), .int (u_35.1.2.1 3 0), .ref h5, .ref h11, .int (u_35.1.2.1 4 0), .int (u_35.1.2.1 5 0)])), (h1, .inr (8, [w0, .int p6, .int p7, .ref h2, .ref h3, .ref h4])), (h2, .inl (cy 1, 901, .inl f0)), (h3, .inl (cy 1, 901, .inl f1)), (h4, .inl (cy 1, 901, .inl f2)), (h11, .inl (cy 1, 900, .inl (u_35.1.2.1 6)))] ++ (u_35.2.1 ++ [])) _ _ := h_35
      refine q_putq (r := r_35) X hK h_35 0 rfl rfl wf_3 tyX3 tyX3_ok nmX3 5 (by decide) wm_1_98 rfl rfl (fun _ => rfl) rfl (fun _ => rfl) (Nat.le_of_ble_eq_true rfl) dX5_readLine_121 (fun H locs h_36 => ?_)
      clear h_35
      replace h_36 : qW D _ _ ([(h5, .inr (3, [.int p8, .int p9, .int p10, .int p11, (va_rf o0), (va_rf r_35), (va_rf o2), .ref h6, .ref h7, .ref h8, .ref h9, .ref h10])), (h6, .inl (cy 1, 10, .inl f3)), (h7, .inl (cy 1, 10, .inl f4)), (h8, .inl (cy 1, 10, .inl f5)), (h9, .inl (cy 1, 10, .inl f6)), (h10, .inl (cy 1, 10, .inl f7)), (h0, .inr (5, [.ref h1, .int (u_35.1.2.1 0 0), .int (u_35.1.2.1 1 0), .int (u_35.1.2.1 2 0), .int (u_35.1.2.1 3 0), .ref h5, .ref h11, .int (u_35.1.2.1 4 0), .int (u_35.1.2.1 5 0)])), (h1, .inr (8, [w0, .int p6, .int p7, .ref h2, .ref h3, .ref h4])), (h2, .inl (cy 1, 901, .inl f0)), (h3, .inl (cy 1, 901, .inl f1)), (h4, .inl (cy 1, 901, .inl f2)), (h11, .inl (cy 1, 900, .inl (u_35.1.2.1 6)))] ++ (u_35.2.1 ++ [])) _ _ := h_36
      refine lv_goto (tgt := 178) hx hb dX5_readLine_124 (by decide) ?_
      exact J_178 _ _ _ _ ⟨p11, (u_35.1.2.1 0 0), (u_35.1.2.1 1 0), (u_35.1.2.1 2 0), (u_35.1.2.1 3 0), p9, o0, (u_35.1.2.1 4 0), (u_35.1.2.1 5 0), r_35, o2, f3, f4, f5, f6, f7, (u_35.1.2.1 6), (u_35.2.1 ++ []), hp11, (bw w35_0 (by decide) (by decide)), w35_1, w35_2, w35_3, hp9, w35_4, w35_5, (rg_wide rf3 (by decide) (by decide)), (by omega), (by omega), (by omega), (by omega), (by omega), (by omega), ((ls_5 (by rw [List.append_nil]; exact y35_6))), rfl, (q_reT h_36 [6, 7, 8, 9, 10, 0, 1, 2, 3, 4, 5, 11] rfl rfl), (lv_sub hl [0] rfl)⟩
    by_cases c_37 : p1 = 20
    · have ec_37 : (p1).toInt = 20 := by rw [c_37]; decide
      refine lv_tableIn (off := 123) (tgt := 127) hx hb dX5_readLine_4 (by rw [c_37]; decide +kernel) (by rw [c_37]; decide +kernel) (by rw [c_37]; decide +kernel) (by decide) ?_
      refine lv_aload_n hx hb dX5_readLine_127 rfl (lv_at hl 0 rfl) ?_
      refine q_get X hK h 0 rfl rfl wf_5 5 (by decide) rfl wm_1_151 dX5_readLine_128 ?_
      refine lv_aload_n hx hb dX5_readLine_131 rfl (lv_at hl 0 rfl) ?_
      refine lv_sipush (v := 1535) hx hb dX5_readLine_132 (by decide) ?_
      refine lv_aload_n hx hb dX5_readLine_135 rfl (lv_at hl 0 rfl) ?_
      refine q_get X hK h 0 rfl rfl wf_5 5 (by decide) rfl wm_1_151 dX5_readLine_136 ?_
      refine q_get X hK h 5 rfl rfl wf_3 6 (by decide) rfl wm_1_101 dX5_readLine_139 ?_
      refine q_callVqW (rest := [.ref h5]) (wr := [(h5, .inr (3, [.int p8, .int p9, .int p10, .int p11, (va_rf o0), (va_rf o1), (va_rf o2), .ref h6, .ref h7, .ref h8, .ref h9, .ref h10])), (h6, .inl (cy 1, 10, .inl f3)), (h7, .inl (cy 1, 10, .inl f4)), (h8, .inl (cy 1, 10, .inl f5)), (h9, .inl (cy 1, 10, .inl f6)), (h10, .inl (cy 1, 10, .inl f7))]) X hK hT hA h (fun sz => gX5_readLaw_3277650 l D cy h0 h1 h2 h3 h4 h11 (1535 : Int32) o2 p0 p1 p2 p3 (.ref h5) p4 p5 w0 p6 p7 f0 f1 f2 f8 (i_rng _) hp0 (i_rng _) (i_rng _) (i_rng _) hp4 (i_rng _) hp6 hp7 (hpre0) (by omega) (by omega) (by omega) (by omega) sz) wm_3_97 wm_3_100 wm_1_2 hd_X5_readLaw wm_3_99 wp_1_15 (ci := 5) (q0 := 0) rfl rfl ⟨Nat.le_of_ble_eq_true rfl, Nat.le_of_ble_eq_true rfl⟩ hl.1 rfl (Nat.le_of_ble_eq_true rfl) dX5_readLine_142 ⟨Nat.le_of_ble_eq_true rfl, Nat.le_of_ble_eq_true rfl⟩ [0, 1, 2, 3, 4, 11] [5, 6, 7, 8, 9, 10] rfl rfl (by decide) rfl rfl (fun r_38 u_38 H locs w_38 h_38 => ?_)
      clear h
      obtain ⟨w38_0, w38_1, w38_2, w38_3, w38_4, w38_5, y38_0, y38_1, y38_2, y38_3, y38_4, y38_5, y38_6, _⟩ := w_38
      replace h_38 : qW D _ _ ([(h5, .inr (3, [.int p8, .int p9, .int p10, .int p11, (va_rf o0), (va_rf o1), (va_rf o2), .ref h6, .ref h7, .ref h8, .ref h9, .ref h10])), (h6, .inl (cy 1, 10, .inl f3)), (h7, .inl (cy 1, 10, .inl f4)), (h8, .inl (cy 1, 10, .inl f5)), (h9, .inl (cy 1, 10, .inl f6)), (h10, .inl (cy 1, 10, .inl f7)), (h0, .inr (5, [.ref h1, .int (u_38.1.2.1 0 0), .int (u_38.1.2.1 1 0), .int (u_38.1.2.1 2 0), .int (u_38.1.2.1 3 0), .ref h5, .ref h11, .int (u_38.1.2.1 4 0), .int (u_38.1.2.1 5 0)])), (h1, .inr (8, [w0, .int p6, .int p7, .ref h2, .ref h3, .ref h4])), (h2, .inl (cy 1, 901, .inl f0)), (h3, .inl (cy 1, 901, .inl f1)), (h4, .inl (cy 1, 901, .inl f2)), (h11, .inl (cy 1, 900, .inl (u_38.1.2.1 6)))] ++ (u_38.2.1 ++ [])) _ _ := h_38
      refine q_putq (r := r_38) X hK h_38 0 rfl rfl wf_3 tyX3 tyX3_ok nmX3 6 (by decide) wm_1_101 rfl rfl (fun _ => rfl) rfl (fun _ => rfl) (Nat.le_of_ble_eq_true rfl) dX5_readLine_145 (fun H locs h_39 => ?_)
      clear h_38
      replace h_39 : qW D _ _ ([(h5, .inr (3, [.int p8, .int p9, .int p10, .int p11, (va_rf o0), (va_rf o1), (va_rf r_38), .ref h6, .ref h7, .ref h8, .ref h9, .ref h10])), (h6, .inl (cy 1, 10, .inl f3)), (h7, .inl (cy 1, 10, .inl f4)), (h8, .inl (cy 1, 10, .inl f5)), (h9, .inl (cy 1, 10, .inl f6)), (h10, .inl (cy 1, 10, .inl f7)), (h0, .inr (5, [.ref h1, .int (u_38.1.2.1 0 0), .int (u_38.1.2.1 1 0), .int (u_38.1.2.1 2 0), .int (u_38.1.2.1 3 0), .ref h5, .ref h11, .int (u_38.1.2.1 4 0), .int (u_38.1.2.1 5 0)])), (h1, .inr (8, [w0, .int p6, .int p7, .ref h2, .ref h3, .ref h4])), (h2, .inl (cy 1, 901, .inl f0)), (h3, .inl (cy 1, 901, .inl f1)), (h4, .inl (cy 1, 901, .inl f2)), (h11, .inl (cy 1, 900, .inl (u_38.1.2.1 6)))] ++ (u_38.2.1 ++ [])) _ _ := h_39
      refine lv_goto (tgt := 178) hx hb dX5_readLine_148 (by decide) ?_
      exact J_178 _ _ _ _ ⟨p11, (u_38.1.2.1 0 0), (u_38.1.2.1 1 0), (u_38.1.2.1 2 0), (u_38.1.2.1 3 0), p9, o0, (u_38.1.2.1 4 0), (u_38.1.2.1 5 0), o1, r_38, f3, f4, f5, f6, f7, (u_38.1.2.1 6), (u_38.2.1 ++ []), hp11, (bw w38_0 (by decide) (by decide)), w38_1, w38_2, w38_3, hp9, w38_4, w38_5, (rg_wide rf3 (by decide) (by decide)), (by omega), (by omega), (by omega), (by omega), (by omega), (by omega), ((ls_6 (by rw [List.append_nil]; exact y38_6))), rfl, (q_reT h_39 [6, 7, 8, 9, 10, 0, 1, 2, 3, 4, 5, 11] rfl rfl), (lv_sub hl [0] rfl)⟩
    have nc_9 := lv_neT c_9 (show (8 : Int32).toInt = 8 by decide)
    have nc_13 := lv_neT c_13 (show (9 : Int32).toInt = 9 by decide)
    have nc_15 := lv_neT c_15 (show (10 : Int32).toInt = 10 by decide)
    have nc_17 := lv_neT c_17 (show (11 : Int32).toInt = 11 by decide)
    have nc_19 := lv_neT c_19 (show (12 : Int32).toInt = 12 by decide)
    have nc_21 := lv_neT c_21 (show (13 : Int32).toInt = 13 by decide)
    have nc_23 := lv_neT c_23 (show (14 : Int32).toInt = 14 by decide)
    have nc_25 := lv_neT c_25 (show (15 : Int32).toInt = 15 by decide)
    have nc_27 := lv_neT c_27 (show (16 : Int32).toInt = 16 by decide)
    have nc_29 := lv_neT c_29 (show (17 : Int32).toInt = 17 by decide)
    have nc_31 := lv_neT c_31 (show (18 : Int32).toInt = 18 by decide)
    have nc_34 := lv_neT c_34 (show (19 : Int32).toInt = 19 by decide)
    have nc_37 := lv_neT c_37 (show (20 : Int32).toInt = 20 by decide)
    refine lv_tableOut (tgt := 173) hx hb dX5_readLine_4 (by omega) (by decide) ?_
    refine lv_aload_n hx hb dX5_readLine_173 rfl (lv_at hl 0 rfl) ?_
    refine lv_iconst (v := 2) hx hb dX5_readLine_174 (by decide) ?_
    refine q_callVvT (rest := []) (wr := [(h2, .inl (cy 1, 901, .inl f0)), (h4, .inl (cy 1, 901, .inl f2)), (h5, .inr (3, [.int p8, .int p9, .int p10, .int p11, (va_rf o0), (va_rf o1), (va_rf o2), .ref h6, .ref h7, .ref h8, .ref h9, .ref h10])), (h6, .inl (cy 1, 10, .inl f3)), (h7, .inl (cy 1, 10, .inl f4)), (h8, .inl (cy 1, 10, .inl f5)), (h9, .inl (cy 1, 10, .inl f6)), (h10, .inl (cy 1, 10, .inl f7)), (h11, .inl (cy 1, 900, .inl f8))]) X hK hT hA h (fun sz => gX5_refuse_067fcff l D cy h0 h1 h3 p0 p1 p2 p3 (.ref h5) (.ref h11) p4 p5 w0 p6 p7 (.ref h2) (.ref h4) f1 hp0 (i_rng _) (i_rng _) (i_rng _) hp4 (i_rng _) hp6 hp7 (by omega) (by omega) (by have q0 : (2 : Int32).toInt = 2 := (by decide); omega) sz) wm_3_76 wm_3_79 wm_1_2 hd_X5_refuse wm_3_78 wp_1_10 (ci := 5) (q0 := 0) rfl rfl ⟨Nat.le_of_ble_eq_true rfl, Nat.le_of_ble_eq_true rfl⟩ hl.1 rfl (Nat.le_of_ble_eq_true rfl) dX5_readLine_175 ⟨Nat.le_of_ble_eq_true rfl, Nat.le_of_ble_eq_true rfl⟩ [0, 1, 3] [2, 4, 5, 6, 7, 8, 9, 10, 11] rfl rfl (by decide) rfl rfl (fun u_40 H locs w_40 h_40 => ?_)
    clear h
    obtain ⟨w40_0, w40_1, w40_2, y40_0, y40_1, _⟩ := w_40
    have lq_40_1 : (2 : Int32).toInt = 2 := (by decide)
    replace h_40 : qW D _ _ ([(h2, .inl (cy 1, 901, .inl f0)), (h4, .inl (cy 1, 901, .inl f2)), (h5, .inr (3, [.int p8, .int p9, .int p10, .int p11, (va_rf o0), (va_rf o1), (va_rf o2), .ref h6, .ref h7, .ref h8, .ref h9, .ref h10])), (h6, .inl (cy 1, 10, .inl f3)), (h7, .inl (cy 1, 10, .inl f4)), (h8, .inl (cy 1, 10, .inl f5)), (h9, .inl (cy 1, 10, .inl f6)), (h10, .inl (cy 1, 10, .inl f7)), (h11, .inl (cy 1, 900, .inl f8)), (h0, .inr (5, [.ref h1, .int p0, .int (u_40.2.1 0 0), .int (u_40.2.1 1 0), .int (u_40.2.1 2 0), .ref h5, .ref h11, .int p4, .int p5])), (h1, .inr (8, [w0, .int p6, .int p7, .ref h2, .ref h3, .ref h4])), (h3, .inl (cy 1, 901, .inl f1))] ++ []) _ _ := h_40
    exact W.widen (k := 2) (n := 901) (Nat.le_of_ble_eq_true rfl) (Nat.le_of_ble_eq_true rfl) (J_178 _ _ _ _ ⟨p11, p0, (u_40.2.1 0 0), (u_40.2.1 1 0), (u_40.2.1 2 0), p9, o0, p4, p5, o1, o2, f3, f4, f5, f6, f7, f8, [], hp11, hp0, w40_0, w40_1, w40_2, hp9, hp4, hp5, (rg_wide rf3 (by decide) (by decide)), (by omega), (by omega), (by omega), (by omega), (by omega), (by omega), (ls_0), rfl, (q_reT h_40 [9, 10, 0, 11, 1, 2, 3, 4, 5, 6, 7, 8] rfl rfl), (lv_sub hl [0] rfl)⟩)
set_option maxHeartbeats 4000000 in
set_option maxRecDepth 100000 in
theorem gX3_init_51a17bc (l : Launch) (D : va_G) (cy : Nat → ClassId) (h0 : Nat) (p0 : Int32) (p1 : Int32) (p2 : Int32) (p3 : Int32) (w0 : Value) (hp0 : 0 ≤ (p0).toInt ∧ (p0).toInt ≤ 0) (hp1 : 0 ≤ (p1).toInt ∧ (p1).toInt ≤ 0) (hp2 : 0 ≤ (p2).toInt ∧ (p2).toInt ≤ 0) (hp3 : 0 ≤ (p3).toInt ∧ (p3).toInt ≤ 0) (sz : Nat) : MV l yX3_init cX3_init 1 { frames := 1, cells := 5, slots := 50, locals := 12 } [.ref h0] D cy [(h0, .inr (3, [.int p0, .int p1, .int p2, .int p3, w0, w0, w0, w0, w0, w0, w0, w0]))] sz (fun u => (1 ≤ (u.2.1 0 0).toInt ∧ (u.2.1 0 0).toInt ≤ 1) ∧ (0 ≤ (u.2.1 1 0).toInt ∧ (u.2.1 1 0).toInt ≤ 0) ∧ (0 ≤ (u.2.1 2 0).toInt ∧ (u.2.1 2 0).toInt ≤ 0) ∧ (0 ≤ (u.2.1 3 0).toInt ∧ (u.2.1 3 0).toInt ≤ 0) ∧ True) (fun u => [(h0, .inr (3, [.int (u.2.1 0 0), .int (u.2.1 1 0), .int (u.2.1 2 0), .int (u.2.1 3 0), .null, .null, .null, .ref (u.1 0), .ref (u.1 1), .ref (u.1 2), .ref (u.1 3), .ref (u.1 4)])), ((u.1 0), .inl (cy 1, 10, .inl (fun _ => 0))), ((u.1 1), .inl (cy 1, 10, .inl (fun _ => 0))), ((u.1 2), .inl (cy 1, 10, .inl (fun _ => 0))), ((u.1 3), .inl (cy 1, 10, .inl (fun _ => 0))), ((u.1 4), .inl (cy 1, 10, .inl (fun _ => 0)))]) 5 50 := by
  refine q_ent (own := RX3) (by decide) rfl (Nat.le_of_ble_eq_true rfl) (fun p e s m below meth c ls X hr hlk hnm hK hT h hA hl => ?_)
  obtain ⟨hx, hb, hml, hown, ht⟩ := id X
  replace hl : lv_has ls 1 [(0, .ref h0)] := hl
  refine lv_aload_n hx hb dX3_init_0 rfl (lv_at hl 0 rfl) ?_
  refine q_obj X wm_1_73 wm_1_29 wm_1_30 hl.1 dX3_init_1 (Nat.le_of_ble_eq_true rfl) (Nat.le_of_ble_eq_true rfl) ?_
  refine lv_aload_n hx hb dX3_init_4 rfl (lv_at hl 0 rfl) ?_
  refine lv_iconst (v := 1) hx hb dX3_init_5 (by decide) ?_
  refine q_put (v := .int 1) X hK h 0 rfl rfl wf_3 tyX3 tyX3_ok nmX3 0 (by decide) wm_1_74 rfl rfl rfl (Nat.le_of_ble_eq_true rfl) dX3_init_6 (fun H locs h_1 => ?_)
  clear h
  replace h_1 : qW D _ _ [(h0, .inr (3, [.int 1, .int p1, .int p2, .int p3, w0, w0, w0, w0, w0, w0, w0, w0]))] _ _ := h_1
  refine lv_aload_n hx hb dX3_init_9 rfl (lv_at hl 0 rfl) ?_
  refine lv_iconst (v := 0) hx hb dX3_init_10 (by decide) ?_
  refine q_put (v := .int 0) X hK h_1 0 rfl rfl wf_3 tyX3 tyX3_ok nmX3 1 (by decide) wm_1_79 rfl rfl rfl (Nat.le_of_ble_eq_true rfl) dX3_init_11 (fun H locs h_2 => ?_)
  clear h_1
  replace h_2 : qW D _ _ [(h0, .inr (3, [.int 1, .int 0, .int p2, .int p3, w0, w0, w0, w0, w0, w0, w0, w0]))] _ _ := h_2
  refine lv_aload_n hx hb dX3_init_14 rfl (lv_at hl 0 rfl) ?_
  refine lv_iconst (v := 0) hx hb dX3_init_15 (by decide) ?_
  refine q_put (v := .int 0) X hK h_2 0 rfl rfl wf_3 tyX3 tyX3_ok nmX3 2 (by decide) wm_1_87 rfl rfl rfl (Nat.le_of_ble_eq_true rfl) dX3_init_16 (fun H locs h_3 => ?_)
  clear h_2
  replace h_3 : qW D _ _ [(h0, .inr (3, [.int 1, .int 0, .int 0, .int p3, w0, w0, w0, w0, w0, w0, w0, w0]))] _ _ := h_3
  refine lv_aload_n hx hb dX3_init_19 rfl (lv_at hl 0 rfl) ?_
  refine lv_iconst (v := 0) hx hb dX3_init_20 (by decide) ?_
  refine q_put (v := .int 0) X hK h_3 0 rfl rfl wf_3 tyX3 tyX3_ok nmX3 3 (by decide) wm_1_90 rfl rfl rfl (Nat.le_of_ble_eq_true rfl) dX3_init_21 (fun H locs h_4 => ?_)
  clear h_3
  replace h_4 : qW D _ _ [(h0, .inr (3, [.int 1, .int 0, .int 0, .int 0, w0, w0, w0, w0, w0, w0, w0, w0]))] _ _ := h_4
  refine lv_aload_n hx hb dX3_init_24 rfl (lv_at hl 0 rfl) ?_
  refine lv_null hx hb dX3_init_25 ?_
  refine q_put (v := .null) X hK h_4 0 rfl rfl wf_3 tyX3 tyX3_ok nmX3 4 (by decide) wm_1_93 rfl rfl rfl (Nat.le_of_ble_eq_true rfl) dX3_init_26 (fun H locs h_5 => ?_)
  clear h_4
  replace h_5 : qW D _ _ [(h0, .inr (3, [.int 1, .int 0, .int 0, .int 0, .null, w0, w0, w0, w0, w0, w0, w0]))] _ _ := h_5
  refine lv_aload_n hx hb dX3_init_29 rfl (lv_at hl 0 rfl) ?_
  refine lv_null hx hb dX3_init_30 ?_
  refine q_put (v := .null) X hK h_5 0 rfl rfl wf_3 tyX3 tyX3_ok nmX3 5 (by decide) wm_1_96 rfl rfl rfl (Nat.le_of_ble_eq_true rfl) dX3_init_31 (fun H locs h_6 => ?_)
  clear h_5
  replace h_6 : qW D _ _ [(h0, .inr (3, [.int 1, .int 0, .int 0, .int 0, .null, .null, w0, w0, w0, w0, w0, w0]))] _ _ := h_6
  refine lv_aload_n hx hb dX3_init_34 rfl (lv_at hl 0 rfl) ?_
  refine lv_null hx hb dX3_init_35 ?_
  refine q_put (v := .null) X hK h_6 0 rfl rfl wf_3 tyX3 tyX3_ok nmX3 6 (by decide) wm_1_99 rfl rfl rfl (Nat.le_of_ble_eq_true rfl) dX3_init_36 (fun H locs h_7 => ?_)
  clear h_6
  replace h_7 : qW D _ _ [(h0, .inr (3, [.int 1, .int 0, .int 0, .int 0, .null, .null, .null, w0, w0, w0, w0, w0]))] _ _ := h_7
  refine lv_aload_n hx hb dX3_init_39 rfl (lv_at hl 0 rfl) ?_
  refine lv_bipush (v := 10) hx hb dX3_init_40 (by decide) ?_
  refine q_newi X hK hA h_7 wm_1_67 10 (by decide) (by decide +kernel) (by decide) (Nat.le_of_ble_eq_true rfl) (Nat.le_of_ble_eq_true rfl) dX3_init_42 (fun q_8 H h_8 => ?_)
  clear h_7
  replace h_8 : qW D _ _ [(h0, .inr (3, [.int 1, .int 0, .int 0, .int 0, .null, .null, .null, w0, w0, w0, w0, w0])), (q_8, .inl (cy 1, 10, .inl (fun _ => 0)))] _ _ := h_8
  refine q_putF (v := .ref q_8) X hK h_8 0 rfl rfl wf_3 tyX3 tyX3_ok nmX3 7 (by decide) wm_1_102 rfl hnm rfl rfl rfl (Nat.le_of_ble_eq_true rfl) dX3_init_44 (fun H locs h_9 => ?_)
  clear h_8
  replace h_9 : qW D _ _ [(h0, .inr (3, [.int 1, .int 0, .int 0, .int 0, .null, .null, .null, .ref q_8, w0, w0, w0, w0])), (q_8, .inl (cy 1, 10, .inl (fun _ => 0)))] _ _ := h_9
  refine lv_aload_n hx hb dX3_init_47 rfl (lv_at hl 0 rfl) ?_
  refine lv_bipush (v := 10) hx hb dX3_init_48 (by decide) ?_
  refine q_newi X hK hA h_9 wm_1_67 10 (by decide) (by decide +kernel) (by decide) (Nat.le_of_ble_eq_true rfl) (Nat.le_of_ble_eq_true rfl) dX3_init_50 (fun q_10 H h_10 => ?_)
  clear h_9
  replace h_10 : qW D _ _ [(h0, .inr (3, [.int 1, .int 0, .int 0, .int 0, .null, .null, .null, .ref q_8, w0, w0, w0, w0])), (q_8, .inl (cy 1, 10, .inl (fun _ => 0))), (q_10, .inl (cy 1, 10, .inl (fun _ => 0)))] _ _ := h_10
  refine q_putF (v := .ref q_10) X hK h_10 0 rfl rfl wf_3 tyX3 tyX3_ok nmX3 8 (by decide) wm_1_105 rfl hnm rfl rfl rfl (Nat.le_of_ble_eq_true rfl) dX3_init_52 (fun H locs h_11 => ?_)
  clear h_10
  replace h_11 : qW D _ _ [(h0, .inr (3, [.int 1, .int 0, .int 0, .int 0, .null, .null, .null, .ref q_8, .ref q_10, w0, w0, w0])), (q_8, .inl (cy 1, 10, .inl (fun _ => 0))), (q_10, .inl (cy 1, 10, .inl (fun _ => 0)))] _ _ := h_11
  refine lv_aload_n hx hb dX3_init_55 rfl (lv_at hl 0 rfl) ?_
  refine lv_bipush (v := 10) hx hb dX3_init_56 (by decide) ?_
  refine q_newi X hK hA h_11 wm_1_67 10 (by decide) (by decide +kernel) (by decide) (Nat.le_of_ble_eq_true rfl) (Nat.le_of_ble_eq_true rfl) dX3_init_58 (fun q_12 H h_12 => ?_)
  clear h_11
  replace h_12 : qW D _ _ [(h0, .inr (3, [.int 1, .int 0, .int 0, .int 0, .null, .null, .null, .ref q_8, .ref q_10, w0, w0, w0])), (q_8, .inl (cy 1, 10, .inl (fun _ => 0))), (q_10, .inl (cy 1, 10, .inl (fun _ => 0))), (q_12, .inl (cy 1, 10, .inl (fun _ => 0)))] _ _ := h_12
  refine q_putF (v := .ref q_12) X hK h_12 0 rfl rfl wf_3 tyX3 tyX3_ok nmX3 9 (by decide) wm_1_109 rfl hnm rfl rfl rfl (Nat.le_of_ble_eq_true rfl) dX3_init_60 (fun H locs h_13 => ?_)
  clear h_12
  replace h_13 : qW D _ _ [(h0, .inr (3, [.int 1, .int 0, .int 0, .int 0, .null, .null, .null, .ref q_8, .ref q_10, .ref q_12, w0, w0])), (q_8, .inl (cy 1, 10, .inl (fun _ => 0))), (q_10, .inl (cy 1, 10, .inl (fun _ => 0))), (q_12, .inl (cy 1, 10, .inl (fun _ => 0)))] _ _ := h_13
  refine lv_aload_n hx hb dX3_init_63 rfl (lv_at hl 0 rfl) ?_
  refine lv_bipush (v := 10) hx hb dX3_init_64 (by decide) ?_
  refine q_newi X hK hA h_13 wm_1_67 10 (by decide) (by decide +kernel) (by decide) (Nat.le_of_ble_eq_true rfl) (Nat.le_of_ble_eq_true rfl) dX3_init_66 (fun q_14 H h_14 => ?_)
  clear h_13
  replace h_14 : qW D _ _ [(h0, .inr (3, [.int 1, .int 0, .int 0, .int 0, .null, .null, .null, .ref q_8, .ref q_10, .ref q_12, w0, w0])), (q_8, .inl (cy 1, 10, .inl (fun _ => 0))), (q_10, .inl (cy 1, 10, .inl (fun _ => 0))), (q_12, .inl (cy 1, 10, .inl (fun _ => 0))), (q_14, .inl (cy 1, 10, .inl (fun _ => 0)))] _ _ := h_14
  refine q_putF (v := .ref q_14) X hK h_14 0 rfl rfl wf_3 tyX3 tyX3_ok nmX3 10 (by decide) wm_1_113 rfl hnm rfl rfl rfl (Nat.le_of_ble_eq_true rfl) dX3_init_68 (fun H locs h_15 => ?_)
  clear h_14
  replace h_15 : qW D _ _ [(h0, .inr (3, [.int 1, .int 0, .int 0, .int 0, .null, .null, .null, .ref q_8, .ref q_10, .ref q_12, .ref q_14, w0])), (q_8, .inl (cy 1, 10, .inl (fun _ => 0))), (q_10, .inl (cy 1, 10, .inl (fun _ => 0))), (q_12, .inl (cy 1, 10, .inl (fun _ => 0))), (q_14, .inl (cy 1, 10, .inl (fun _ => 0)))] _ _ := h_15
  refine lv_aload_n hx hb dX3_init_71 rfl (lv_at hl 0 rfl) ?_
  refine lv_bipush (v := 10) hx hb dX3_init_72 (by decide) ?_
  refine q_newi X hK hA h_15 wm_1_67 10 (by decide) (by decide +kernel) (by decide) (Nat.le_of_ble_eq_true rfl) (Nat.le_of_ble_eq_true rfl) dX3_init_74 (fun q_16 H h_16 => ?_)
  clear h_15
  replace h_16 : qW D _ _ [(h0, .inr (3, [.int 1, .int 0, .int 0, .int 0, .null, .null, .null, .ref q_8, .ref q_10, .ref q_12, .ref q_14, w0])), (q_8, .inl (cy 1, 10, .inl (fun _ => 0))), (q_10, .inl (cy 1, 10, .inl (fun _ => 0))), (q_12, .inl (cy 1, 10, .inl (fun _ => 0))), (q_14, .inl (cy 1, 10, .inl (fun _ => 0))), (q_16, .inl (cy 1, 10, .inl (fun _ => 0)))] _ _ := h_16
  refine q_putF (v := .ref q_16) X hK h_16 0 rfl rfl wf_3 tyX3 tyX3_ok nmX3 11 (by decide) wm_1_116 rfl hnm rfl rfl rfl (Nat.le_of_ble_eq_true rfl) dX3_init_76 (fun H locs h_17 => ?_)
  clear h_16
  replace h_17 : qW D _ _ [(h0, .inr (3, [.int 1, .int 0, .int 0, .int 0, .null, .null, .null, .ref q_8, .ref q_10, .ref q_12, .ref q_14, .ref q_16])), (q_8, .inl (cy 1, 10, .inl (fun _ => 0))), (q_10, .inl (cy 1, 10, .inl (fun _ => 0))), (q_12, .inl (cy 1, 10, .inl (fun _ => 0))), (q_14, .inl (cy 1, 10, .inl (fun _ => 0))), (q_16, .inl (cy 1, 10, .inl (fun _ => 0)))] _ _ := h_17
  exact q_vret X hr hlk hK h_17 (fun k => List.getD [q_8, q_10, q_12, q_14, q_16] k 0, fun k => List.getD [(fun _ => 1), (fun _ => 0), (fun _ => 0), (fun _ => 0)] k (fun _ => 0), fun _ _ => 0) ⟨(⟨by decide +kernel, by decide +kernel⟩ : 1 ≤ (1 : Int32).toInt ∧ (1 : Int32).toInt ≤ 1), (⟨by decide +kernel, by decide +kernel⟩ : 0 ≤ (0 : Int32).toInt ∧ (0 : Int32).toInt ≤ 0), (⟨by decide +kernel, by decide +kernel⟩ : 0 ≤ (0 : Int32).toInt ∧ (0 : Int32).toInt ≤ 0), (⟨by decide +kernel, by decide +kernel⟩ : 0 ≤ (0 : Int32).toInt ∧ (0 : Int32).toInt ≤ 0), trivial⟩ [0, 1, 2, 3, 4, 5] rfl rfl dX3_init_79 (Nat.le_of_ble_eq_true rfl) (Nat.le_of_ble_eq_true rfl)
set_option maxHeartbeats 4000000 in
set_option maxRecDepth 100000 in
theorem gX5_take_b81c5b0 (l : Launch) (D : va_G) (cy : Nat → ClassId) (h0 : Nat) (h1 : Nat) (h2 : Nat) (h3 : Nat) (p0 : Int32) (p1 : Int32) (p2 : Int32) (p3 : Int32) (w0 : Value) (w1 : Value) (p4 : Int32) (p5 : Int32) (w2 : Value) (p6 : Int32) (p7 : Int32) (w3 : Value) (f0 : Nat → Int32) (f1 : Nat → Int32) (hp0 : (-1) ≤ (p0).toInt ∧ (p0).toInt ≤ 900) (hp1 : (-2147483648) ≤ (p1).toInt ∧ (p1).toInt ≤ 2147483647) (hp2 : (-2147483648) ≤ (p2).toInt ∧ (p2).toInt ≤ 2147483647) (hp3 : (-2147483648) ≤ (p3).toInt ∧ (p3).toInt ≤ 2147483647) (hp4 : 0 ≤ (p4).toInt ∧ (p4).toInt ≤ 900) (hp5 : (-2147483648) ≤ (p5).toInt ∧ (p5).toInt ≤ 2147483647) (hp6 : 0 ≤ (p6).toInt ∧ (p6).toInt ≤ 900) (hp7 : 0 ≤ (p7).toInt ∧ (p7).toInt ≤ 901) (hpre0 : KZ f0 (p7 : Int32).toInt) (hpre1 : 0 ≤ (p0 : Int32).toInt ∧ (p0 : Int32).toInt < (p7 : Int32).toInt) (hpre2 : (p2 : Int32).toInt ≠ 0 ∨ (p1 : Int32).toInt = 26 ∨ (p1 : Int32).toInt = 27 ∨ (p0 : Int32).toInt + 1 < (p7 : Int32).toInt) (hpre3 : (p2 : Int32).toInt = 0 ∨ (p1 : Int32).toInt = 27) (hpre4 : (11 : Int32).toInt ≠ 26 ∧ (11 : Int32).toInt ≠ 27) (sz : Nat) : MV l yX5_take cX5_take 2 { frames := 1, cells := 0, slots := 0, locals := 21 } [.ref h0, .int 11] D cy [(h0, .inr (5, [.ref h1, .int p0, .int p1, .int p2, .int p3, w0, w1, .int p4, .int p5])), (h1, .inr (8, [w2, .int p6, .int p7, .ref h2, .ref h3, w3])), (h2, .inl (cy 1, 901, .inl f0)), (h3, .inl (cy 1, 901, .inl f1))] sz (fun u => ((-2147483648) ≤ (u.2.1 0 0).toInt ∧ (u.2.1 0 0).toInt ≤ 2147483647) ∧ ((-2147483648) ≤ (u.2.1 1 0).toInt ∧ (u.2.1 1 0).toInt ≤ 2147483647) ∧ ((-2147483648) ≤ (u.2.1 2 0).toInt ∧ (u.2.1 2 0).toInt ≤ 2147483647) ∧ ((-1) ≤ (u.2.1 3 0).toInt ∧ (u.2.1 3 0).toInt ≤ 900) ∧ (0 ≤ ((u.2.1 3 0) : Int32).toInt ∧ ((u.2.1 3 0) : Int32).toInt < (p7 : Int32).toInt) ∧ (((u.2.1 1 0) : Int32).toInt ≠ 0 ∨ ((u.2.1 0 0) : Int32).toInt = 26 ∨ ((u.2.1 0 0) : Int32).toInt = 27 ∨ ((u.2.1 3 0) : Int32).toInt + 1 < (p7 : Int32).toInt) ∧ (((u.2.1 1 0) : Int32).toInt ≠ 0 ∨ ((u.2.1 3 0) : Int32).toInt = (p0 : Int32).toInt + 1) ∧ (((u.2.1 1 0) : Int32).toInt ≠ 0 ∨ (p2 : Int32).toInt = 0) ∧ (((u.2.1 1 0) : Int32).toInt = 0 ∨ ((u.2.1 0 0) : Int32).toInt = 27) ∧ ((p0 : Int32).toInt ≤ ((u.2.1 3 0) : Int32).toInt) ∧ True) (fun u => [(h0, .inr (5, [.ref h1, .int (u.2.1 3 0), .int (u.2.1 0 0), .int (u.2.1 1 0), .int (u.2.1 2 0), w0, w1, .int p4, .int p5])), (h1, .inr (8, [w2, .int p6, .int p7, .ref h2, .ref h3, w3])), (h2, .inl (cy 1, 901, .inl f0)), (h3, .inl (cy 1, 901, .inl f1))]) 0 0 := by
  refine q_ent (own := RX5) (by decide) rfl (Nat.le_of_ble_eq_true rfl) (fun p e s m below meth c ls X hr hlk hnm hK hT h hA hl => ?_)
  obtain ⟨hx, hb, hml, hown, ht⟩ := id X
  replace hl : lv_has ls 2 [(0, .ref h0), (1, .int 11)] := hl
  refine lv_aload_n hx hb dX5_take_0 rfl (lv_at hl 0 rfl) ?_
  refine q_get X hK h 0 rfl rfl wf_5 2 (by decide) rfl wm_1_146 dX5_take_1 ?_
  refine lv_iload_n hx hb dX5_take_4 rfl (lv_at hl 1 rfl) ?_
  refine lv_icmp_ne (tgt := 15) hx hb dX5_take_5 (by decide) (fun c_1 => ?_) (fun c_1 => ?_)
  · replace c_1 := i_ne (x := p1) (y := 11) rfl (show (11 : Int32).toInt = 11 by decide) c_1
    refine lv_aload_n hx hb dX5_take_15 rfl (lv_at hl 0 rfl) ?_
    refine lv_iconst (v := 2) hx hb dX5_take_16 (by decide) ?_
    refine q_callVv (rest := []) (wr := [(h2, .inl (cy 1, 901, .inl f0))]) X hK hT hA h (fun sz => gX5_refuse_067fcff l D cy h0 h1 h3 p0 p1 p2 p3 w0 w1 p4 p5 w2 p6 p7 (.ref h2) w3 f1 hp0 (i_rng _) (i_rng _) (i_rng _) hp4 (i_rng _) hp6 hp7 (by omega) (by omega) (by have q0 : (2 : Int32).toInt = 2 := (by decide); omega) sz) wm_3_76 wm_3_79 wm_1_2 hd_X5_refuse wm_3_78 wp_1_10 (ci := 5) (q0 := 0) rfl rfl ⟨Nat.le_of_ble_eq_true rfl, Nat.le_of_ble_eq_true rfl⟩ hl.1 rfl (Nat.le_of_ble_eq_true rfl) dX5_take_17 ⟨Nat.le_of_ble_eq_true rfl, Nat.le_of_ble_eq_true rfl⟩ [0, 1, 3] [2] rfl rfl (by decide) rfl rfl (fun u_2 H locs w_2 h_2 => ?_)
    clear h
    obtain ⟨w2_0, w2_1, w2_2, y2_0, y2_1, _⟩ := w_2
    have lq_2_1 : (2 : Int32).toInt = 2 := (by decide)
    replace h_2 : qW D _ _ [(h2, .inl (cy 1, 901, .inl f0)), (h0, .inr (5, [.ref h1, .int p0, .int (u_2.2.1 0 0), .int (u_2.2.1 1 0), .int (u_2.2.1 2 0), w0, w1, .int p4, .int p5])), (h1, .inr (8, [w2, .int p6, .int p7, .ref h2, .ref h3, w3])), (h3, .inl (cy 1, 901, .inl f1))] _ _ := h_2
    exact q_vret X hr hlk hK h_2 (fun _ => 0, fun k => List.getD [(fun _ => (u_2.2.1 0 0)), (fun _ => (u_2.2.1 1 0)), (fun _ => (u_2.2.1 2 0)), (fun _ => p0)] k (fun _ => 0), fun _ _ => 0) ⟨(w2_0 : (-2147483648) ≤ ((u_2.2.1 0 0) : Int32).toInt ∧ ((u_2.2.1 0 0) : Int32).toInt ≤ 2147483647), (w2_1 : (-2147483648) ≤ ((u_2.2.1 1 0) : Int32).toInt ∧ ((u_2.2.1 1 0) : Int32).toInt ≤ 2147483647), (w2_2 : (-2147483648) ≤ ((u_2.2.1 2 0) : Int32).toInt ∧ ((u_2.2.1 2 0) : Int32).toInt ≤ 2147483647), (hp0 : (-1) ≤ (p0 : Int32).toInt ∧ (p0 : Int32).toInt ≤ 900), (show 0 ≤ (p0 : Int32).toInt ∧ (p0 : Int32).toInt < (p7 : Int32).toInt from by omega), (show ((u_2.2.1 1 0) : Int32).toInt ≠ 0 ∨ ((u_2.2.1 0 0) : Int32).toInt = 26 ∨ ((u_2.2.1 0 0) : Int32).toInt = 27 ∨ (p0 : Int32).toInt + 1 < (p7 : Int32).toInt from by omega), (show ((u_2.2.1 1 0) : Int32).toInt ≠ 0 ∨ (p0 : Int32).toInt = (p0 : Int32).toInt + 1 from by omega), (show ((u_2.2.1 1 0) : Int32).toInt ≠ 0 ∨ (p2 : Int32).toInt = 0 from by omega), (show ((u_2.2.1 1 0) : Int32).toInt = 0 ∨ ((u_2.2.1 0 0) : Int32).toInt = 27 from by omega), (show (p0 : Int32).toInt ≤ (p0 : Int32).toInt from by omega), trivial⟩ [1, 2, 0, 3] rfl rfl dX5_take_20 (Nat.le_of_ble_eq_true rfl) (Nat.le_of_ble_eq_true rfl)
  · replace c_1 := i_eq (x := p1) (y := 11) rfl (show (11 : Int32).toInt = 11 by decide) c_1
    refine lv_aload_n hx hb dX5_take_8 rfl (lv_at hl 0 rfl) ?_
    refine q_callVv (rest := []) (wr := []) X hK hT hA h (fun sz => gX5_advance_9820dfe l D cy h0 h1 h2 h3 p0 p1 p2 p3 w0 w1 p4 p5 w2 p6 p7 w3 f0 f1 hp0 (i_rng _) (i_rng _) (i_rng _) hp4 (i_rng _) hp6 hp7 (hpre0) (by omega) (by omega) sz) wm_3_68 wm_3_71 wm_1_2 hd_X5_advance wm_3_70 wp_1_8 (ci := 5) (q0 := 0) rfl rfl ⟨Nat.le_of_ble_eq_true rfl, Nat.le_of_ble_eq_true rfl⟩ hl.1 rfl (Nat.le_of_ble_eq_true rfl) dX5_take_9 ⟨Nat.le_of_ble_eq_true rfl, Nat.le_of_ble_eq_true rfl⟩ [0, 1, 2, 3] [] rfl rfl (by decide) rfl rfl (fun u_3 H locs w_3 h_3 => ?_)
    clear h
    obtain ⟨w3_0, w3_1, w3_2, w3_3, y3_0, y3_1, y3_2, y3_3, y3_4, y3_5, _⟩ := w_3
    replace h_3 : qW D _ _ [(h0, .inr (5, [.ref h1, .int (u_3.2.1 0 0), .int (u_3.2.1 1 0), .int (u_3.2.1 2 0), .int (u_3.2.1 3 0), w0, w1, .int p4, .int p5])), (h1, .inr (8, [w2, .int p6, .int p7, .ref h2, .ref h3, w3])), (h2, .inl (cy 1, 901, .inl f0)), (h3, .inl (cy 1, 901, .inl f1))] _ _ := h_3
    refine lv_goto (tgt := 20) hx hb dX5_take_12 (by decide) ?_
    exact q_vret X hr hlk hK h_3 (fun _ => 0, fun k => List.getD [(fun _ => (u_3.2.1 1 0)), (fun _ => (u_3.2.1 2 0)), (fun _ => (u_3.2.1 3 0)), (fun _ => (u_3.2.1 0 0))] k (fun _ => 0), fun _ _ => 0) ⟨(w3_1 : (-2147483648) ≤ ((u_3.2.1 1 0) : Int32).toInt ∧ ((u_3.2.1 1 0) : Int32).toInt ≤ 2147483647), (w3_2 : (-2147483648) ≤ ((u_3.2.1 2 0) : Int32).toInt ∧ ((u_3.2.1 2 0) : Int32).toInt ≤ 2147483647), (w3_3 : (-2147483648) ≤ ((u_3.2.1 3 0) : Int32).toInt ∧ ((u_3.2.1 3 0) : Int32).toInt ≤ 2147483647), (w3_0 : (-1) ≤ ((u_3.2.1 0 0) : Int32).toInt ∧ ((u_3.2.1 0 0) : Int32).toInt ≤ 900), (show 0 ≤ ((u_3.2.1 0 0) : Int32).toInt ∧ ((u_3.2.1 0 0) : Int32).toInt < (p7 : Int32).toInt from by omega), (show ((u_3.2.1 2 0) : Int32).toInt ≠ 0 ∨ ((u_3.2.1 1 0) : Int32).toInt = 26 ∨ ((u_3.2.1 1 0) : Int32).toInt = 27 ∨ ((u_3.2.1 0 0) : Int32).toInt + 1 < (p7 : Int32).toInt from by omega), (show ((u_3.2.1 2 0) : Int32).toInt ≠ 0 ∨ ((u_3.2.1 0 0) : Int32).toInt = (p0 : Int32).toInt + 1 from by omega), (show ((u_3.2.1 2 0) : Int32).toInt ≠ 0 ∨ (p2 : Int32).toInt = 0 from by omega), (show ((u_3.2.1 2 0) : Int32).toInt = 0 ∨ ((u_3.2.1 1 0) : Int32).toInt = 27 from by omega), (show (p0 : Int32).toInt ≤ ((u_3.2.1 0 0) : Int32).toInt from by omega), trivial⟩ [0, 1, 2, 3] rfl rfl dX5_take_20 (Nat.le_of_ble_eq_true rfl) (Nat.le_of_ble_eq_true rfl)
set_option maxHeartbeats 4000000 in
set_option maxRecDepth 100000 in
theorem gX5_take_b74706d (l : Launch) (D : va_G) (cy : Nat → ClassId) (h0 : Nat) (h1 : Nat) (h2 : Nat) (h3 : Nat) (p0 : Int32) (p1 : Int32) (p2 : Int32) (p3 : Int32) (w0 : Value) (w1 : Value) (p4 : Int32) (p5 : Int32) (w2 : Value) (p6 : Int32) (p7 : Int32) (w3 : Value) (f0 : Nat → Int32) (f1 : Nat → Int32) (hp0 : (-1) ≤ (p0).toInt ∧ (p0).toInt ≤ 900) (hp1 : (-2147483648) ≤ (p1).toInt ∧ (p1).toInt ≤ 2147483647) (hp2 : (-2147483648) ≤ (p2).toInt ∧ (p2).toInt ≤ 2147483647) (hp3 : (-2147483648) ≤ (p3).toInt ∧ (p3).toInt ≤ 2147483647) (hp4 : 0 ≤ (p4).toInt ∧ (p4).toInt ≤ 900) (hp5 : (-2147483648) ≤ (p5).toInt ∧ (p5).toInt ≤ 2147483647) (hp6 : 0 ≤ (p6).toInt ∧ (p6).toInt ≤ 900) (hp7 : 0 ≤ (p7).toInt ∧ (p7).toInt ≤ 901) (hpre0 : KZ f0 (p7 : Int32).toInt) (hpre1 : 0 ≤ (p0 : Int32).toInt ∧ (p0 : Int32).toInt < (p7 : Int32).toInt) (hpre2 : (p2 : Int32).toInt ≠ 0 ∨ (p1 : Int32).toInt = 26 ∨ (p1 : Int32).toInt = 27 ∨ (p0 : Int32).toInt + 1 < (p7 : Int32).toInt) (hpre3 : (p2 : Int32).toInt = 0 ∨ (p1 : Int32).toInt = 27) (hpre4 : (12 : Int32).toInt ≠ 26 ∧ (12 : Int32).toInt ≠ 27) (sz : Nat) : MV l yX5_take cX5_take 2 { frames := 1, cells := 0, slots := 0, locals := 21 } [.ref h0, .int 12] D cy [(h0, .inr (5, [.ref h1, .int p0, .int p1, .int p2, .int p3, w0, w1, .int p4, .int p5])), (h1, .inr (8, [w2, .int p6, .int p7, .ref h2, .ref h3, w3])), (h2, .inl (cy 1, 901, .inl f0)), (h3, .inl (cy 1, 901, .inl f1))] sz (fun u => ((-2147483648) ≤ (u.2.1 0 0).toInt ∧ (u.2.1 0 0).toInt ≤ 2147483647) ∧ ((-2147483648) ≤ (u.2.1 1 0).toInt ∧ (u.2.1 1 0).toInt ≤ 2147483647) ∧ ((-2147483648) ≤ (u.2.1 2 0).toInt ∧ (u.2.1 2 0).toInt ≤ 2147483647) ∧ ((-1) ≤ (u.2.1 3 0).toInt ∧ (u.2.1 3 0).toInt ≤ 900) ∧ (0 ≤ ((u.2.1 3 0) : Int32).toInt ∧ ((u.2.1 3 0) : Int32).toInt < (p7 : Int32).toInt) ∧ (((u.2.1 1 0) : Int32).toInt ≠ 0 ∨ ((u.2.1 0 0) : Int32).toInt = 26 ∨ ((u.2.1 0 0) : Int32).toInt = 27 ∨ ((u.2.1 3 0) : Int32).toInt + 1 < (p7 : Int32).toInt) ∧ (((u.2.1 1 0) : Int32).toInt ≠ 0 ∨ ((u.2.1 3 0) : Int32).toInt = (p0 : Int32).toInt + 1) ∧ (((u.2.1 1 0) : Int32).toInt ≠ 0 ∨ (p2 : Int32).toInt = 0) ∧ (((u.2.1 1 0) : Int32).toInt = 0 ∨ ((u.2.1 0 0) : Int32).toInt = 27) ∧ ((p0 : Int32).toInt ≤ ((u.2.1 3 0) : Int32).toInt) ∧ True) (fun u => [(h0, .inr (5, [.ref h1, .int (u.2.1 3 0), .int (u.2.1 0 0), .int (u.2.1 1 0), .int (u.2.1 2 0), w0, w1, .int p4, .int p5])), (h1, .inr (8, [w2, .int p6, .int p7, .ref h2, .ref h3, w3])), (h2, .inl (cy 1, 901, .inl f0)), (h3, .inl (cy 1, 901, .inl f1))]) 0 0 := by
  refine q_ent (own := RX5) (by decide) rfl (Nat.le_of_ble_eq_true rfl) (fun p e s m below meth c ls X hr hlk hnm hK hT h hA hl => ?_)
  obtain ⟨hx, hb, hml, hown, ht⟩ := id X
  replace hl : lv_has ls 2 [(0, .ref h0), (1, .int 12)] := hl
  refine lv_aload_n hx hb dX5_take_0 rfl (lv_at hl 0 rfl) ?_
  refine q_get X hK h 0 rfl rfl wf_5 2 (by decide) rfl wm_1_146 dX5_take_1 ?_
  refine lv_iload_n hx hb dX5_take_4 rfl (lv_at hl 1 rfl) ?_
  refine lv_icmp_ne (tgt := 15) hx hb dX5_take_5 (by decide) (fun c_1 => ?_) (fun c_1 => ?_)
  · replace c_1 := i_ne (x := p1) (y := 12) rfl (show (12 : Int32).toInt = 12 by decide) c_1
    refine lv_aload_n hx hb dX5_take_15 rfl (lv_at hl 0 rfl) ?_
    refine lv_iconst (v := 2) hx hb dX5_take_16 (by decide) ?_
    refine q_callVv (rest := []) (wr := [(h2, .inl (cy 1, 901, .inl f0))]) X hK hT hA h (fun sz => gX5_refuse_067fcff l D cy h0 h1 h3 p0 p1 p2 p3 w0 w1 p4 p5 w2 p6 p7 (.ref h2) w3 f1 hp0 (i_rng _) (i_rng _) (i_rng _) hp4 (i_rng _) hp6 hp7 (by omega) (by omega) (by have q0 : (2 : Int32).toInt = 2 := (by decide); omega) sz) wm_3_76 wm_3_79 wm_1_2 hd_X5_refuse wm_3_78 wp_1_10 (ci := 5) (q0 := 0) rfl rfl ⟨Nat.le_of_ble_eq_true rfl, Nat.le_of_ble_eq_true rfl⟩ hl.1 rfl (Nat.le_of_ble_eq_true rfl) dX5_take_17 ⟨Nat.le_of_ble_eq_true rfl, Nat.le_of_ble_eq_true rfl⟩ [0, 1, 3] [2] rfl rfl (by decide) rfl rfl (fun u_2 H locs w_2 h_2 => ?_)
    clear h
    obtain ⟨w2_0, w2_1, w2_2, y2_0, y2_1, _⟩ := w_2
    have lq_2_1 : (2 : Int32).toInt = 2 := (by decide)
    replace h_2 : qW D _ _ [(h2, .inl (cy 1, 901, .inl f0)), (h0, .inr (5, [.ref h1, .int p0, .int (u_2.2.1 0 0), .int (u_2.2.1 1 0), .int (u_2.2.1 2 0), w0, w1, .int p4, .int p5])), (h1, .inr (8, [w2, .int p6, .int p7, .ref h2, .ref h3, w3])), (h3, .inl (cy 1, 901, .inl f1))] _ _ := h_2
    exact q_vret X hr hlk hK h_2 (fun _ => 0, fun k => List.getD [(fun _ => (u_2.2.1 0 0)), (fun _ => (u_2.2.1 1 0)), (fun _ => (u_2.2.1 2 0)), (fun _ => p0)] k (fun _ => 0), fun _ _ => 0) ⟨(w2_0 : (-2147483648) ≤ ((u_2.2.1 0 0) : Int32).toInt ∧ ((u_2.2.1 0 0) : Int32).toInt ≤ 2147483647), (w2_1 : (-2147483648) ≤ ((u_2.2.1 1 0) : Int32).toInt ∧ ((u_2.2.1 1 0) : Int32).toInt ≤ 2147483647), (w2_2 : (-2147483648) ≤ ((u_2.2.1 2 0) : Int32).toInt ∧ ((u_2.2.1 2 0) : Int32).toInt ≤ 2147483647), (hp0 : (-1) ≤ (p0 : Int32).toInt ∧ (p0 : Int32).toInt ≤ 900), (show 0 ≤ (p0 : Int32).toInt ∧ (p0 : Int32).toInt < (p7 : Int32).toInt from by omega), (show ((u_2.2.1 1 0) : Int32).toInt ≠ 0 ∨ ((u_2.2.1 0 0) : Int32).toInt = 26 ∨ ((u_2.2.1 0 0) : Int32).toInt = 27 ∨ (p0 : Int32).toInt + 1 < (p7 : Int32).toInt from by omega), (show ((u_2.2.1 1 0) : Int32).toInt ≠ 0 ∨ (p0 : Int32).toInt = (p0 : Int32).toInt + 1 from by omega), (show ((u_2.2.1 1 0) : Int32).toInt ≠ 0 ∨ (p2 : Int32).toInt = 0 from by omega), (show ((u_2.2.1 1 0) : Int32).toInt = 0 ∨ ((u_2.2.1 0 0) : Int32).toInt = 27 from by omega), (show (p0 : Int32).toInt ≤ (p0 : Int32).toInt from by omega), trivial⟩ [1, 2, 0, 3] rfl rfl dX5_take_20 (Nat.le_of_ble_eq_true rfl) (Nat.le_of_ble_eq_true rfl)
  · replace c_1 := i_eq (x := p1) (y := 12) rfl (show (12 : Int32).toInt = 12 by decide) c_1
    refine lv_aload_n hx hb dX5_take_8 rfl (lv_at hl 0 rfl) ?_
    refine q_callVv (rest := []) (wr := []) X hK hT hA h (fun sz => gX5_advance_9820dfe l D cy h0 h1 h2 h3 p0 p1 p2 p3 w0 w1 p4 p5 w2 p6 p7 w3 f0 f1 hp0 (i_rng _) (i_rng _) (i_rng _) hp4 (i_rng _) hp6 hp7 (hpre0) (by omega) (by omega) sz) wm_3_68 wm_3_71 wm_1_2 hd_X5_advance wm_3_70 wp_1_8 (ci := 5) (q0 := 0) rfl rfl ⟨Nat.le_of_ble_eq_true rfl, Nat.le_of_ble_eq_true rfl⟩ hl.1 rfl (Nat.le_of_ble_eq_true rfl) dX5_take_9 ⟨Nat.le_of_ble_eq_true rfl, Nat.le_of_ble_eq_true rfl⟩ [0, 1, 2, 3] [] rfl rfl (by decide) rfl rfl (fun u_3 H locs w_3 h_3 => ?_)
    clear h
    obtain ⟨w3_0, w3_1, w3_2, w3_3, y3_0, y3_1, y3_2, y3_3, y3_4, y3_5, _⟩ := w_3
    replace h_3 : qW D _ _ [(h0, .inr (5, [.ref h1, .int (u_3.2.1 0 0), .int (u_3.2.1 1 0), .int (u_3.2.1 2 0), .int (u_3.2.1 3 0), w0, w1, .int p4, .int p5])), (h1, .inr (8, [w2, .int p6, .int p7, .ref h2, .ref h3, w3])), (h2, .inl (cy 1, 901, .inl f0)), (h3, .inl (cy 1, 901, .inl f1))] _ _ := h_3
    refine lv_goto (tgt := 20) hx hb dX5_take_12 (by decide) ?_
    exact q_vret X hr hlk hK h_3 (fun _ => 0, fun k => List.getD [(fun _ => (u_3.2.1 1 0)), (fun _ => (u_3.2.1 2 0)), (fun _ => (u_3.2.1 3 0)), (fun _ => (u_3.2.1 0 0))] k (fun _ => 0), fun _ _ => 0) ⟨(w3_1 : (-2147483648) ≤ ((u_3.2.1 1 0) : Int32).toInt ∧ ((u_3.2.1 1 0) : Int32).toInt ≤ 2147483647), (w3_2 : (-2147483648) ≤ ((u_3.2.1 2 0) : Int32).toInt ∧ ((u_3.2.1 2 0) : Int32).toInt ≤ 2147483647), (w3_3 : (-2147483648) ≤ ((u_3.2.1 3 0) : Int32).toInt ∧ ((u_3.2.1 3 0) : Int32).toInt ≤ 2147483647), (w3_0 : (-1) ≤ ((u_3.2.1 0 0) : Int32).toInt ∧ ((u_3.2.1 0 0) : Int32).toInt ≤ 900), (show 0 ≤ ((u_3.2.1 0 0) : Int32).toInt ∧ ((u_3.2.1 0 0) : Int32).toInt < (p7 : Int32).toInt from by omega), (show ((u_3.2.1 2 0) : Int32).toInt ≠ 0 ∨ ((u_3.2.1 1 0) : Int32).toInt = 26 ∨ ((u_3.2.1 1 0) : Int32).toInt = 27 ∨ ((u_3.2.1 0 0) : Int32).toInt + 1 < (p7 : Int32).toInt from by omega), (show ((u_3.2.1 2 0) : Int32).toInt ≠ 0 ∨ ((u_3.2.1 0 0) : Int32).toInt = (p0 : Int32).toInt + 1 from by omega), (show ((u_3.2.1 2 0) : Int32).toInt ≠ 0 ∨ (p2 : Int32).toInt = 0 from by omega), (show ((u_3.2.1 2 0) : Int32).toInt = 0 ∨ ((u_3.2.1 1 0) : Int32).toInt = 27 from by omega), (show (p0 : Int32).toInt ≤ ((u_3.2.1 0 0) : Int32).toInt from by omega), trivial⟩ [0, 1, 2, 3] rfl rfl dX5_take_20 (Nat.le_of_ble_eq_true rfl) (Nat.le_of_ble_eq_true rfl)
