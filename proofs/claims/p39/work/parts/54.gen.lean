theorem wm_2_170 : Cond.methodLink RX8 32 yJ9_min_7cf53 ∈ WG := wg_t2 (List.mem_of_getElem? (i := 170) rfl) rfl
theorem wm_1_45 : Cond.fieldLink RX8 19 "OppositeHouse$Tokens" "size" "I" ∈ WG := wg_t1 (List.mem_of_getElem? (i := 45) rfl) rfl
theorem wm_2_173 : Cond.methodLink RX8 38 yX8_endOf ∈ WG := wg_t2 (List.mem_of_getElem? (i := 173) rfl) rfl
theorem wm_2_176 : Cond.code yX8_endOf cX8_endOf 3 (some .int) ∈ WG := wg_t2 (List.mem_of_getElem? (i := 176) rfl) rfl
theorem wm_2_175 : Cond.instanceMethod yX8_endOf ∈ WG := wg_t2 (List.mem_of_getElem? (i := 175) rfl) rfl
theorem wp_1_1 : Cond.selects RX8 yX8_endOf yX8_endOf ∈ WG := wg_p (q := (yX8_endOf, 6)) (wg_p1 (List.mem_of_getElem? (i := 1) rfl)) rfl
theorem wm_1_47 : Cond.fieldLink RX8 22 "OppositeHouse$Tokens" "kinds" "[I" ∈ WG := wg_t1 (List.mem_of_getElem? (i := 47) rfl) rfl
theorem wm_2_185 : Cond.methodLink RX8 42 yX8_kindOf ∈ WG := wg_t2 (List.mem_of_getElem? (i := 185) rfl) rfl
theorem wm_2_188 : Cond.code yX8_kindOf cX8_kindOf 4 (some .int) ∈ WG := wg_t2 (List.mem_of_getElem? (i := 188) rfl) rfl
theorem wm_2_187 : Cond.instanceMethod yX8_kindOf ∈ WG := wg_t2 (List.mem_of_getElem? (i := 187) rfl) rfl
theorem wp_1_4 : Cond.selects RX8 yX8_kindOf yX8_kindOf ∈ WG := wg_p (q := (yX8_kindOf, 6)) (wg_p1 (List.mem_of_getElem? (i := 4) rfl)) rfl
theorem wm_1_49 : Cond.fieldLink RX8 26 "OppositeHouse$Tokens" "places" "[I" ∈ WG := wg_t1 (List.mem_of_getElem? (i := 49) rfl) rfl
theorem wm_1_51 : Cond.fieldLink RX8 29 "OppositeHouse$Tokens" "values" "[I" ∈ WG := wg_t1 (List.mem_of_getElem? (i := 51) rfl) rfl
theorem wm_3_64 : Cond.methodLink RX8 45 yX8_valueOf ∈ WG := wg_t3 (List.mem_of_getElem? (i := 64) rfl) rfl
theorem wm_3_67 : Cond.code yX8_valueOf cX8_valueOf 5 (some .int) ∈ WG := wg_t3 (List.mem_of_getElem? (i := 67) rfl) rfl
theorem wm_3_66 : Cond.instanceMethod yX8_valueOf ∈ WG := wg_t3 (List.mem_of_getElem? (i := 66) rfl) rfl
theorem wp_1_7 : Cond.selects RX8 yX8_valueOf yX8_valueOf ∈ WG := wg_p (q := (yX8_valueOf, 6)) (wg_p1 (List.mem_of_getElem? (i := 7) rfl)) rfl
theorem wm_2_166 : Cond.methodLink RX5 48 yX8_cut ∈ WG := wg_t2 (List.mem_of_getElem? (i := 166) rfl) rfl
theorem wm_2_169 : Cond.code yX8_cut cX8_cut 7 none ∈ WG := wg_t2 (List.mem_of_getElem? (i := 169) rfl) rfl
theorem wm_2_167 : Cond.instanceMethod yX8_cut ∈ WG := wg_t2 (List.mem_of_getElem? (i := 167) rfl) rfl
theorem wm_2_168 : Cond.selects RX8 yX8_cut yX8_cut ∈ WG := wg_t2 (List.mem_of_getElem? (i := 168) rfl) rfl
theorem wm_1_68 : Cond.classLink RX5 31 RX3 ∈ WG := wg_t1 (List.mem_of_getElem? (i := 68) rfl) rfl
theorem wm_1_69 : Cond.instantiable RX3 12 ∈ WG := wg_t1 (List.mem_of_getElem? (i := 69) rfl) rfl
theorem wm_1_4 : Cond.initialized RX3 ∈ WG := wg_t1 (List.mem_of_getElem? (i := 4) rfl) rfl
theorem wm_1_72 : Cond.code yX3_init cX3_init 1 none ∈ WG := wg_t1 (List.mem_of_getElem? (i := 72) rfl) rfl
theorem wm_1_71 : Cond.instanceMethod yX3_init ∈ WG := wg_t1 (List.mem_of_getElem? (i := 71) rfl) rfl
theorem wm_1_88 : Cond.fieldLink RX5 66 "OppositeHouse$House" "textLines" "I" ∈ WG := wg_t1 (List.mem_of_getElem? (i := 88) rfl) rfl
theorem wm_3_84 : Cond.methodLink RX5 72 yX5_readLine ∈ WG := wg_t3 (List.mem_of_getElem? (i := 84) rfl) rfl
theorem wm_3_87 : Cond.code yX5_readLine cX5_readLine 1 none ∈ WG := wg_t3 (List.mem_of_getElem? (i := 87) rfl) rfl
theorem wm_3_86 : Cond.instanceMethod yX5_readLine ∈ WG := wg_t3 (List.mem_of_getElem? (i := 86) rfl) rfl
theorem wp_1_12 : Cond.selects RX5 yX5_readLine yX5_readLine ∈ WG := wg_p (q := (yX5_readLine, 9)) (wg_p1 (List.mem_of_getElem? (i := 12) rfl)) rfl
theorem wm_1_91 : Cond.fieldLink RX7 26 "OppositeHouse$House" "startDay" "I" ∈ WG := wg_t1 (List.mem_of_getElem? (i := 91) rfl) rfl
theorem wm_1_103 : Cond.fieldLink RX7 31 "OppositeHouse$House" "views" "[I" ∈ WG := wg_t1 (List.mem_of_getElem? (i := 103) rfl) rfl
theorem df_3 : ∀ j, j < 12 → defaultValue (tyX3 j) = vp_V [.int 0, .int 0, .int 0, .int 0, .null, .null, .null, .null, .null, .null, .null, .null] j := by
  intro k hk
  match k, hk with
  | 0, _ => rfl
  | 1, _ => rfl
  | 2, _ => rfl
  | 3, _ => rfl
  | 4, _ => rfl
  | 5, _ => rfl
  | 6, _ => rfl
  | 7, _ => rfl
  | 8, _ => rfl
  | 9, _ => rfl
  | 10, _ => rfl
  | 11, _ => rfl
  | n + 12, hk => exact absurd hk (by omega)
theorem hd_X8_endOf : yX8_endOf.cls ≠ "java/lang/invoke/MethodHandle" ∧ yX8_endOf.cls ≠ "java/lang/invoke/VarHandle" ∧ (parseMethodDescriptor yX8_endOf.desc).map (fun d => d.parameters.length) = some 1 := by decide +kernel
theorem hd_X8_kindOf : yX8_kindOf.cls ≠ "java/lang/invoke/MethodHandle" ∧ yX8_kindOf.cls ≠ "java/lang/invoke/VarHandle" ∧ (parseMethodDescriptor yX8_kindOf.desc).map (fun d => d.parameters.length) = some 2 := by decide +kernel
theorem hd_X8_valueOf : yX8_valueOf.cls ≠ "java/lang/invoke/MethodHandle" ∧ yX8_valueOf.cls ≠ "java/lang/invoke/VarHandle" ∧ (parseMethodDescriptor yX8_valueOf.desc).map (fun d => d.parameters.length) = some 2 := by decide +kernel
theorem hd_X8_cut : yX8_cut.cls ≠ "java/lang/invoke/MethodHandle" ∧ yX8_cut.cls ≠ "java/lang/invoke/VarHandle" ∧ (parseMethodDescriptor yX8_cut.desc).map (fun d => d.parameters.length) = some 2 := by decide +kernel
theorem hd_X3_init : yX3_init.cls ≠ "java/lang/invoke/MethodHandle" ∧ yX3_init.cls ≠ "java/lang/invoke/VarHandle" ∧ (parseMethodDescriptor yX3_init.desc).map (fun d => d.parameters.length) = some 0 := by decide +kernel
theorem hd_X5_readLine : yX5_readLine.cls ≠ "java/lang/invoke/MethodHandle" ∧ yX5_readLine.cls ≠ "java/lang/invoke/VarHandle" ∧ (parseMethodDescriptor yX5_readLine.desc).map (fun d => d.parameters.length) = some 0 := by decide +kernel
theorem dX5_read_0 : decode cX5_read 0 = .ok (.aload_n 0, 1) := by decide +kernel
theorem dX5_read_1 : decode cX5_read 1 = .ok (.getfield 12, 3) := by decide +kernel
theorem dX5_read_4 : decode cX5_read 4 = .ok (.aload_n 1, 1) := by decide +kernel
theorem dX5_read_5 : decode cX5_read 5 = .ok (.iload_n 2, 1) := by decide +kernel
theorem dX5_read_6 : decode cX5_read 6 = .ok (.invokevirtual 48, 3) := by decide +kernel
theorem dX5_read_9 : decode cX5_read 9 = .ok (.aload_n 0, 1) := by decide +kernel
theorem dX5_read_10 : decode cX5_read 10 = .ok (.iconst (-1), 1) := by decide +kernel
theorem dX5_read_11 : decode cX5_read 11 = .ok (.putfield 18, 3) := by decide +kernel
theorem dX5_read_14 : decode cX5_read 14 = .ok (.aload_n 0, 1) := by decide +kernel
theorem dX5_read_15 : decode cX5_read 15 = .ok (.iconst 0, 1) := by decide +kernel
theorem dX5_read_16 : decode cX5_read 16 = .ok (.putfield 25, 3) := by decide +kernel
theorem dX5_read_19 : decode cX5_read 19 = .ok (.aload_n 0, 1) := by decide +kernel
theorem dX5_read_20 : decode cX5_read 20 = .ok (.iconst (-1), 1) := by decide +kernel
theorem dX5_read_21 : decode cX5_read 21 = .ok (.putfield 28, 3) := by decide +kernel
theorem dX5_read_24 : decode cX5_read 24 = .ok (.aload_n 0, 1) := by decide +kernel
theorem dX5_read_25 : decode cX5_read 25 = .ok (.new 31, 3) := by decide +kernel
theorem dX5_read_28 : decode cX5_read 28 = .ok (.dup, 1) := by decide +kernel
theorem dX5_read_29 : decode cX5_read 29 = .ok (.invokespecial 33, 3) := by decide +kernel
theorem dX5_read_32 : decode cX5_read 32 = .ok (.putfield 34, 3) := by decide +kernel
theorem dX5_read_35 : decode cX5_read 35 = .ok (.aload_n 0, 1) := by decide +kernel
theorem dX5_read_36 : decode cX5_read 36 = .ok (.invokevirtual 52, 3) := by decide +kernel
theorem dX5_read_39 : decode cX5_read 39 = .ok (.aload_n 0, 1) := by decide +kernel
theorem dX5_read_40 : decode cX5_read 40 = .ok (.bipush 11, 2) := by decide +kernel
theorem dX5_read_42 : decode cX5_read 42 = .ok (.invokevirtual 55, 3) := by decide +kernel
theorem dX5_read_45 : decode cX5_read 45 = .ok (.aload_n 0, 1) := by decide +kernel
theorem dX5_read_46 : decode cX5_read 46 = .ok (.bipush 12, 2) := by decide +kernel
theorem dX5_read_48 : decode cX5_read 48 = .ok (.invokevirtual 55, 3) := by decide +kernel
theorem dX5_read_51 : decode cX5_read 51 = .ok (.aload_n 0, 1) := by decide +kernel
theorem dX5_read_52 : decode cX5_read 52 = .ok (.getfield 34, 3) := by decide +kernel
theorem dX5_read_55 : decode cX5_read 55 = .ok (.aload_n 0, 1) := by decide +kernel
theorem dX5_read_56 : decode cX5_read 56 = .ok (.iconst 1, 1) := by decide +kernel
theorem dX5_read_57 : decode cX5_read 57 = .ok (.iconst 3, 1) := by decide +kernel
theorem dX5_read_58 : decode cX5_read 58 = .ok (.invokevirtual 59, 3) := by decide +kernel
theorem dX5_read_61 : decode cX5_read 61 = .ok (.putfield 63, 3) := by decide +kernel
theorem dX5_read_64 : decode cX5_read 64 = .ok (.aload_n 0, 1) := by decide +kernel
theorem dX5_read_65 : decode cX5_read 65 = .ok (.bipush 59, 2) := by decide +kernel
theorem dX5_read_67 : decode cX5_read 67 = .ok (.invokevirtual 55, 3) := by decide +kernel
theorem dX5_read_70 : decode cX5_read 70 = .ok (.aload_n 0, 1) := by decide +kernel
theorem dX5_read_71 : decode cX5_read 71 = .ok (.getfield 34, 3) := by decide +kernel
theorem dX5_read_74 : decode cX5_read 74 = .ok (.iconst 1, 1) := by decide +kernel
theorem dX5_read_75 : decode cX5_read 75 = .ok (.putfield 66, 3) := by decide +kernel
theorem dX5_read_78 : decode cX5_read 78 = .ok (.iconst 0, 1) := by decide +kernel
theorem dX5_read_79 : decode cX5_read 79 = .ok (.istore_n 3, 1) := by decide +kernel
theorem dX5_read_80 : decode cX5_read 80 = .ok (.iload_n 3, 1) := by decide +kernel
theorem dX5_read_81 : decode cX5_read 81 = .ok (.aload_n 0, 1) := by decide +kernel
theorem dX5_read_82 : decode cX5_read 82 = .ok (.getfield 12, 3) := by decide +kernel
theorem dX5_read_85 : decode cX5_read 85 = .ok (.getfield 69, 3) := by decide +kernel
theorem dX5_read_88 : decode cX5_read 88 = .ok (.if_icmp .ge 50, 3) := by decide +kernel
theorem dX5_read_91 : decode cX5_read 91 = .ok (.aload_n 0, 1) := by decide +kernel
theorem dX5_read_92 : decode cX5_read 92 = .ok (.getfield 22, 3) := by decide +kernel
theorem dX5_read_95 : decode cX5_read 95 = .ok (.bipush 26, 2) := by decide +kernel
theorem dX5_read_97 : decode cX5_read 97 = .ok (.if_icmp .eq 41, 3) := by decide +kernel
theorem dX5_read_100 : decode cX5_read 100 = .ok (.aload_n 0, 1) := by decide +kernel
theorem dX5_read_101 : decode cX5_read 101 = .ok (.getfield 22, 3) := by decide +kernel
theorem dX5_read_104 : decode cX5_read 104 = .ok (.bipush 27, 2) := by decide +kernel
theorem dX5_read_106 : decode cX5_read 106 = .ok (.if_icmp .eq 32, 3) := by decide +kernel
theorem dX5_read_109 : decode cX5_read 109 = .ok (.aload_n 0, 1) := by decide +kernel
theorem dX5_read_110 : decode cX5_read 110 = .ok (.invokevirtual 72, 3) := by decide +kernel
theorem dX5_read_113 : decode cX5_read 113 = .ok (.aload_n 0, 1) := by decide +kernel
theorem dX5_read_114 : decode cX5_read 114 = .ok (.bipush 59, 2) := by decide +kernel
theorem dX5_read_116 : decode cX5_read 116 = .ok (.invokevirtual 55, 3) := by decide +kernel
theorem dX5_read_119 : decode cX5_read 119 = .ok (.aload_n 0, 1) := by decide +kernel
theorem dX5_read_120 : decode cX5_read 120 = .ok (.getfield 34, 3) := by decide +kernel
theorem dX5_read_123 : decode cX5_read 123 = .ok (.dup, 1) := by decide +kernel
theorem dX5_read_124 : decode cX5_read 124 = .ok (.getfield 66, 3) := by decide +kernel
theorem dX5_read_127 : decode cX5_read 127 = .ok (.iconst 1, 1) := by decide +kernel
theorem dX5_read_128 : decode cX5_read 128 = .ok (.iadd, 1) := by decide +kernel
theorem dX5_read_129 : decode cX5_read 129 = .ok (.putfield 66, 3) := by decide +kernel
theorem dX5_read_132 : decode cX5_read 132 = .ok (.iinc 3 1, 3) := by decide +kernel
theorem dX5_read_135 : decode cX5_read 135 = .ok (.goto (-55), 3) := by decide +kernel
theorem dX5_read_138 : decode cX5_read 138 = .ok (.aload_n 0, 1) := by decide +kernel
theorem dX5_read_139 : decode cX5_read 139 = .ok (.getfield 34, 3) := by decide +kernel
theorem dX5_read_142 : decode cX5_read 142 = .ok (.areturn, 1) := by decide +kernel
theorem dX7_begin_0 : decode cX7_begin 0 = .ok (.aload_n 0, 1) := by decide +kernel
theorem dX7_begin_1 : decode cX7_begin 1 = .ok (.aload_n 1, 1) := by decide +kernel
theorem dX7_begin_2 : decode cX7_begin 2 = .ok (.putfield 22, 3) := by decide +kernel
theorem dX7_begin_5 : decode cX7_begin 5 = .ok (.aload_n 0, 1) := by decide +kernel
theorem dX7_begin_6 : decode cX7_begin 6 = .ok (.aload_n 1, 1) := by decide +kernel
theorem dX7_begin_7 : decode cX7_begin 7 = .ok (.getfield 26, 3) := by decide +kernel
theorem dX7_begin_10 : decode cX7_begin 10 = .ok (.putfield 9, 3) := by decide +kernel
theorem dX7_begin_13 : decode cX7_begin 13 = .ok (.aload_n 0, 1) := by decide +kernel
theorem dX7_begin_14 : decode cX7_begin 14 = .ok (.iconst 0, 1) := by decide +kernel
theorem dX7_begin_15 : decode cX7_begin 15 = .ok (.putfield 15, 3) := by decide +kernel
theorem dX7_begin_18 : decode cX7_begin 18 = .ok (.aload_n 1, 1) := by decide +kernel
theorem dX7_begin_19 : decode cX7_begin 19 = .ok (.getfield 31, 3) := by decide +kernel
theorem dX7_begin_22 : decode cX7_begin 22 = .ok (.iconst 0, 1) := by decide +kernel
theorem dX7_begin_23 : decode cX7_begin 23 = .ok (.aload_n 0, 1) := by decide +kernel
theorem dX7_begin_24 : decode cX7_begin 24 = .ok (.getfield 18, 3) := by decide +kernel
theorem dX7_begin_27 : decode cX7_begin 27 = .ok (.iconst 0, 1) := by decide +kernel
theorem dX7_begin_28 : decode cX7_begin 28 = .ok (.bipush 10, 2) := by decide +kernel
theorem dX7_begin_30 : decode cX7_begin 30 = .ok (.invokestatic 32, 3) := by decide +kernel
theorem dX7_begin_33 : decode cX7_begin 33 = .ok (.return_, 1) := by decide +kernel
theorem dX8_cut_0 : decode cX8_cut 0 = .ok (.aload_n 0, 1) := by decide +kernel
theorem dX8_cut_1 : decode cX8_cut 1 = .ok (.aload_n 1, 1) := by decide +kernel
theorem dX8_cut_2 : decode cX8_cut 2 = .ok (.putfield 9, 3) := by decide +kernel
theorem dX8_cut_5 : decode cX8_cut 5 = .ok (.aload_n 0, 1) := by decide +kernel
theorem dX8_cut_6 : decode cX8_cut 6 = .ok (.iload_n 2, 1) := by decide +kernel
theorem dX8_cut_7 : decode cX8_cut 7 = .ok (.aload_n 1, 1) := by decide +kernel
theorem dX8_cut_8 : decode cX8_cut 8 = .ok (.arraylength, 1) := by decide +kernel
theorem dX8_cut_9 : decode cX8_cut 9 = .ok (.invokestatic 32, 3) := by decide +kernel
theorem dX8_cut_12 : decode cX8_cut 12 = .ok (.sipush 900, 3) := by decide +kernel
theorem dX8_cut_15 : decode cX8_cut 15 = .ok (.invokestatic 32, 3) := by decide +kernel
theorem dX8_cut_18 : decode cX8_cut 18 = .ok (.putfield 15, 3) := by decide +kernel
theorem dX8_cut_21 : decode cX8_cut 21 = .ok (.aload_n 0, 1) := by decide +kernel
theorem dX8_cut_22 : decode cX8_cut 22 = .ok (.iconst 0, 1) := by decide +kernel
theorem dX8_cut_23 : decode cX8_cut 23 = .ok (.putfield 19, 3) := by decide +kernel
theorem dX8_cut_26 : decode cX8_cut 26 = .ok (.iconst 0, 1) := by decide +kernel
theorem dX8_cut_27 : decode cX8_cut 27 = .ok (.istore_n 3, 1) := by decide +kernel
theorem dX8_cut_28 : decode cX8_cut 28 = .ok (.iconst 1, 1) := by decide +kernel
theorem dX8_cut_29 : decode cX8_cut 29 = .ok (.istore 4, 2) := by decide +kernel
theorem dX8_cut_31 : decode cX8_cut 31 = .ok (.iconst 0, 1) := by decide +kernel
theorem dX8_cut_32 : decode cX8_cut 32 = .ok (.istore 5, 2) := by decide +kernel
theorem dX8_cut_34 : decode cX8_cut 34 = .ok (.iload 5, 2) := by decide +kernel
theorem dX8_cut_36 : decode cX8_cut 36 = .ok (.aload_n 0, 1) := by decide +kernel
theorem dX8_cut_37 : decode cX8_cut 37 = .ok (.getfield 15, 3) := by decide +kernel
theorem dX8_cut_40 : decode cX8_cut 40 = .ok (.if_icmp .gt 151, 3) := by decide +kernel
theorem dX8_cut_43 : decode cX8_cut 43 = .ok (.iload 4, 2) := by decide +kernel
theorem dX8_cut_45 : decode cX8_cut 45 = .ok (.ifCond .eq 146, 3) := by decide +kernel
theorem dX8_cut_48 : decode cX8_cut 48 = .ok (.iload_n 3, 1) := by decide +kernel
theorem dX8_cut_49 : decode cX8_cut 49 = .ok (.aload_n 0, 1) := by decide +kernel
theorem dX8_cut_50 : decode cX8_cut 50 = .ok (.getfield 15, 3) := by decide +kernel
theorem dX8_cut_53 : decode cX8_cut 53 = .ok (.if_icmp .ge 31, 3) := by decide +kernel
theorem dX8_cut_56 : decode cX8_cut 56 = .ok (.aload_n 0, 1) := by decide +kernel
theorem dX8_cut_57 : decode cX8_cut 57 = .ok (.getfield 9, 3) := by decide +kernel
theorem dX8_cut_60 : decode cX8_cut 60 = .ok (.iload_n 3, 1) := by decide +kernel
theorem dX8_cut_61 : decode cX8_cut 61 = .ok (.baload, 1) := by decide +kernel
theorem dX8_cut_62 : decode cX8_cut 62 = .ok (.bipush 10, 2) := by decide +kernel
theorem dX8_cut_64 : decode cX8_cut 64 = .ok (.if_icmp .eq 14, 3) := by decide +kernel
theorem dX8_cut_67 : decode cX8_cut 67 = .ok (.aload_n 0, 1) := by decide +kernel
theorem dX8_cut_68 : decode cX8_cut 68 = .ok (.getfield 9, 3) := by decide +kernel
theorem dX8_cut_71 : decode cX8_cut 71 = .ok (.iload_n 3, 1) := by decide +kernel
theorem dX8_cut_72 : decode cX8_cut 72 = .ok (.baload, 1) := by decide +kernel
theorem dX8_cut_73 : decode cX8_cut 73 = .ok (.bipush 32, 2) := by decide +kernel
theorem dX8_cut_75 : decode cX8_cut 75 = .ok (.if_icmp .ne 9, 3) := by decide +kernel
theorem dX8_cut_78 : decode cX8_cut 78 = .ok (.iinc 3 1, 3) := by decide +kernel
theorem dX8_cut_81 : decode cX8_cut 81 = .ok (.goto (-33), 3) := by decide +kernel
theorem dX8_cut_84 : decode cX8_cut 84 = .ok (.aload_n 0, 1) := by decide +kernel
theorem dX8_cut_85 : decode cX8_cut 85 = .ok (.iload_n 3, 1) := by decide +kernel
theorem dX8_cut_86 : decode cX8_cut 86 = .ok (.invokevirtual 38, 3) := by decide +kernel
theorem dX8_cut_89 : decode cX8_cut 89 = .ok (.istore 6, 2) := by decide +kernel
theorem dX8_cut_91 : decode cX8_cut 91 = .ok (.aload_n 0, 1) := by decide +kernel
theorem dX8_cut_92 : decode cX8_cut 92 = .ok (.getfield 22, 3) := by decide +kernel
theorem dX8_cut_95 : decode cX8_cut 95 = .ok (.iload 5, 2) := by decide +kernel
theorem dX8_cut_97 : decode cX8_cut 97 = .ok (.aload_n 0, 1) := by decide +kernel
theorem dX8_cut_98 : decode cX8_cut 98 = .ok (.iload_n 3, 1) := by decide +kernel
theorem dX8_cut_99 : decode cX8_cut 99 = .ok (.iload 6, 2) := by decide +kernel
theorem dX8_cut_101 : decode cX8_cut 101 = .ok (.invokevirtual 42, 3) := by decide +kernel
theorem dX8_cut_104 : decode cX8_cut 104 = .ok (.iastore, 1) := by decide +kernel
theorem dX8_cut_105 : decode cX8_cut 105 = .ok (.aload_n 0, 1) := by decide +kernel
theorem dX8_cut_106 : decode cX8_cut 106 = .ok (.getfield 26, 3) := by decide +kernel
theorem dX8_cut_109 : decode cX8_cut 109 = .ok (.iload 5, 2) := by decide +kernel
theorem dX8_cut_111 : decode cX8_cut 111 = .ok (.iload_n 3, 1) := by decide +kernel
theorem dX8_cut_112 : decode cX8_cut 112 = .ok (.iastore, 1) := by decide +kernel
theorem dX8_cut_113 : decode cX8_cut 113 = .ok (.aload_n 0, 1) := by decide +kernel
theorem dX8_cut_114 : decode cX8_cut 114 = .ok (.getfield 29, 3) := by decide +kernel
theorem dX8_cut_117 : decode cX8_cut 117 = .ok (.iload 5, 2) := by decide +kernel
theorem dX8_cut_119 : decode cX8_cut 119 = .ok (.aload_n 0, 1) := by decide +kernel
theorem dX8_cut_120 : decode cX8_cut 120 = .ok (.getfield 22, 3) := by decide +kernel
theorem dX8_cut_123 : decode cX8_cut 123 = .ok (.iload 5, 2) := by decide +kernel
theorem dX8_cut_125 : decode cX8_cut 125 = .ok (.iaload, 1) := by decide +kernel
theorem dX8_cut_126 : decode cX8_cut 126 = .ok (.bipush 25, 2) := by decide +kernel
theorem dX8_cut_128 : decode cX8_cut 128 = .ok (.if_icmp .ne 13, 3) := by decide +kernel
theorem dX8_cut_131 : decode cX8_cut 131 = .ok (.aload_n 0, 1) := by decide +kernel
theorem dX8_cut_132 : decode cX8_cut 132 = .ok (.iload_n 3, 1) := by decide +kernel
theorem dX8_cut_133 : decode cX8_cut 133 = .ok (.iload 6, 2) := by decide +kernel
theorem dX8_cut_135 : decode cX8_cut 135 = .ok (.invokevirtual 45, 3) := by decide +kernel
theorem dX8_cut_138 : decode cX8_cut 138 = .ok (.goto 4, 3) := by decide +kernel
theorem dX8_cut_141 : decode cX8_cut 141 = .ok (.iconst 0, 1) := by decide +kernel
theorem dX8_cut_142 : decode cX8_cut 142 = .ok (.iastore, 1) := by decide +kernel
theorem dX8_cut_143 : decode cX8_cut 143 = .ok (.aload_n 0, 1) := by decide +kernel
theorem dX8_cut_144 : decode cX8_cut 144 = .ok (.iload 5, 2) := by decide +kernel
theorem dX8_cut_146 : decode cX8_cut 146 = .ok (.iconst 1, 1) := by decide +kernel
theorem dX8_cut_147 : decode cX8_cut 147 = .ok (.iadd, 1) := by decide +kernel
theorem dX8_cut_148 : decode cX8_cut 148 = .ok (.putfield 19, 3) := by decide +kernel
theorem dX8_cut_151 : decode cX8_cut 151 = .ok (.iload 6, 2) := by decide +kernel
theorem dX8_cut_153 : decode cX8_cut 153 = .ok (.istore_n 3, 1) := by decide +kernel
theorem dX8_cut_154 : decode cX8_cut 154 = .ok (.aload_n 0, 1) := by decide +kernel
theorem dX8_cut_155 : decode cX8_cut 155 = .ok (.getfield 22, 3) := by decide +kernel
theorem dX8_cut_158 : decode cX8_cut 158 = .ok (.iload 5, 2) := by decide +kernel
theorem dX8_cut_160 : decode cX8_cut 160 = .ok (.iaload, 1) := by decide +kernel
theorem dX8_cut_161 : decode cX8_cut 161 = .ok (.bipush 26, 2) := by decide +kernel
theorem dX8_cut_163 : decode cX8_cut 163 = .ok (.if_icmp .eq 19, 3) := by decide +kernel
theorem dX8_cut_166 : decode cX8_cut 166 = .ok (.aload_n 0, 1) := by decide +kernel
theorem dX8_cut_167 : decode cX8_cut 167 = .ok (.getfield 22, 3) := by decide +kernel
theorem dX8_cut_170 : decode cX8_cut 170 = .ok (.iload 5, 2) := by decide +kernel
theorem dX8_cut_172 : decode cX8_cut 172 = .ok (.iaload, 1) := by decide +kernel
theorem dX8_cut_173 : decode cX8_cut 173 = .ok (.bipush 27, 2) := by decide +kernel
theorem dX8_cut_175 : decode cX8_cut 175 = .ok (.if_icmp .eq 7, 3) := by decide +kernel
theorem dX8_cut_178 : decode cX8_cut 178 = .ok (.iconst 1, 1) := by decide +kernel
theorem dX8_cut_179 : decode cX8_cut 179 = .ok (.goto 4, 3) := by decide +kernel
theorem dX8_cut_182 : decode cX8_cut 182 = .ok (.iconst 0, 1) := by decide +kernel
theorem dX8_cut_183 : decode cX8_cut 183 = .ok (.istore 4, 2) := by decide +kernel
theorem dX8_cut_185 : decode cX8_cut 185 = .ok (.iinc 5 1, 3) := by decide +kernel
theorem dX8_cut_188 : decode cX8_cut 188 = .ok (.goto (-154), 3) := by decide +kernel
theorem dX8_cut_191 : decode cX8_cut 191 = .ok (.return_, 1) := by decide +kernel
set_option maxHeartbeats 4000000 in
set_option maxRecDepth 100000 in
theorem gX8_cut_7ab6d9e (l : Launch) (D : va_G) (cy : Nat → ClassId) (h0 : Nat) (h1 : Nat) (h2 : Nat) (h3 : Nat) (h4 : Nat) (p0 : Int32) (o0 : Option Nat) (p1 : Int32) (p2 : Int32) (f0 : Nat → Int32) (f1 : Nat → Int32) (f2 : Nat → Int32) (f3 : Nat → Int32) (hp0 : 0 ≤ (p0).toInt ∧ (p0).toInt ≤ 900) (hp1 : 0 ≤ (p1).toInt ∧ (p1).toInt ≤ 900) (hp2 : 0 ≤ (p2).toInt ∧ (p2).toInt ≤ 901) (sz : Nat) : MV l yX8_cut cX8_cut 7 { frames := 7, cells := 0, slots := 0, locals := 157 } [.ref h0, .ref h4, .int p0] D cy [(h0, .inr (8, [(va_rf o0), .int p1, .int p2, .ref h1, .ref h2, .ref h3])), (h1, .inl (cy 1, 901, .inl f0)), (h2, .inl (cy 1, 901, .inl f1)), (h3, .inl (cy 1, 901, .inl f2)), (h4, .inl (cy 0, 900, .inl f3))] sz (fun u => (0 ≤ (u.2.1 0 0).toInt ∧ (u.2.1 0 0).toInt ≤ 900) ∧ (0 ≤ (u.2.1 1 0).toInt ∧ (u.2.1 1 0).toInt ≤ 901) ∧ (1 ≤ ((u.2.1 1 0) : Int32).toInt ∧ ((u.2.1 1 0) : Int32).toInt ≤ 901) ∧ (KZ (u.2.1 2) ((u.2.1 1 0) : Int32).toInt) ∧ (((u.2.1 1 0) : Int32).toInt ≤ (p0 : Int32).toInt + 1) ∧ True) (fun u => [(h0, .inr (8, [.ref h4, .int (u.2.1 0 0), .int (u.2.1 1 0), .ref h1, .ref h2, .ref h3])), (h1, .inl (cy 1, 901, .inl (u.2.1 2))), (h2, .inl (cy 1, 901, .inl (u.2.1 3))), (h3, .inl (cy 1, 901, .inl (u.2.1 4))), (h4, .inl (cy 0, 900, .inl f3))]) 0 0 := by
  refine q_ent (own := RX8) (by decide) rfl (Nat.le_of_ble_eq_true rfl) (fun p e s m below meth c ls X hr hlk hnm hK hT h hA hl => ?_)
  obtain ⟨hx, hb, hml, hown, ht⟩ := id X
  replace hl : lv_has ls 7 [(0, .ref h0), (1, .ref h4), (2, .int p0)] := hl
  refine lv_aload_n hx hb dX8_cut_0 rfl (lv_at hl 0 rfl) ?_
  refine lv_aload_n hx hb dX8_cut_1 rfl (lv_at hl 1 rfl) ?_
  refine q_put (v := .ref h4) X hK h 0 rfl rfl wf_8 tyX8 tyX8_ok nmX8 0 (by decide) wm_1_43 rfl rfl rfl (Nat.le_of_ble_eq_true rfl) dX8_cut_2 (fun H locs h_1 => ?_)
  clear h
  replace h_1 : qW D _ _ [(h0, .inr (8, [.ref h4, .int p1, .int p2, .ref h1, .ref h2, .ref h3])), (h1, .inl (cy 1, 901, .inl f0)), (h2, .inl (cy 1, 901, .inl f1)), (h3, .inl (cy 1, 901, .inl f2)), (h4, .inl (cy 0, 900, .inl f3))] _ _ := h_1
  refine lv_aload_n hx hb dX8_cut_5 rfl (lv_at hl 0 rfl) ?_
  refine lv_iload_n hx hb dX8_cut_6 rfl (lv_at hl 2 rfl) ?_
  refine lv_aload_n hx hb dX8_cut_7 rfl (lv_at hl 1 rfl) ?_
  refine q_alen X hK h_1 4 0 rfl rfl 900 (show Int32.ofNat 900 = 900 by decide) dX8_cut_8 ?_
  refine va_mmin hx hb (hml.trans hl.1.symm) hown (ht _ wm_2_170) (ht _ wm_2_171) (ht _ wm_1_13) (ht _ wm_2_172) (Nat.le_of_ble_eq_true rfl) (Nat.le_of_ble_eq_true rfl) (Nat.le_of_ble_eq_true rfl) (Nat.le_of_ble_eq_true rfl) dX8_cut_9 ?_
  obtain ⟨z_2, ez_2, hz_2⟩ := e_min (x := p0) (y := 900) rfl (show (900 : Int32).toInt = 900 by decide)
  refine q_c z_2 ez_2 ?_
  clear ez_2
  refine lv_sipush (v := 900) hx hb dX8_cut_12 (by decide) ?_
  refine va_mmin hx hb (hml.trans hl.1.symm) hown (ht _ wm_2_170) (ht _ wm_2_171) (ht _ wm_1_13) (ht _ wm_2_172) (Nat.le_of_ble_eq_true rfl) (Nat.le_of_ble_eq_true rfl) (Nat.le_of_ble_eq_true rfl) (Nat.le_of_ble_eq_true rfl) dX8_cut_15 ?_
  obtain ⟨z_3, ez_3, hz_3⟩ := e_min (x := z_2) (y := 900) rfl (show (900 : Int32).toInt = 900 by decide)
  refine q_c z_3 ez_3 ?_
  clear ez_3
  refine q_put (v := .int z_3) X hK h_1 0 rfl rfl wf_8 tyX8 tyX8_ok nmX8 1 (by decide) wm_1_44 rfl rfl rfl (Nat.le_of_ble_eq_true rfl) dX8_cut_18 (fun H locs h_4 => ?_)
  clear h_1
  replace h_4 : qW D _ _ [(h0, .inr (8, [.ref h4, .int z_3, .int p2, .ref h1, .ref h2, .ref h3])), (h1, .inl (cy 1, 901, .inl f0)), (h2, .inl (cy 1, 901, .inl f1)), (h3, .inl (cy 1, 901, .inl f2)), (h4, .inl (cy 0, 900, .inl f3))] _ _ := h_4
  refine lv_aload_n hx hb dX8_cut_21 rfl (lv_at hl 0 rfl) ?_
  refine lv_iconst (v := 0) hx hb dX8_cut_22 (by decide) ?_
  refine q_put (v := .int 0) X hK h_4 0 rfl rfl wf_8 tyX8 tyX8_ok nmX8 2 (by decide) wm_1_45 rfl rfl rfl (Nat.le_of_ble_eq_true rfl) dX8_cut_23 (fun H locs h_5 => ?_)
  clear h_4
  replace h_5 : qW D _ _ [(h0, .inr (8, [.ref h4, .int z_3, .int 0, .ref h1, .ref h2, .ref h3])), (h1, .inl (cy 1, 901, .inl f0)), (h2, .inl (cy 1, 901, .inl f1)), (h3, .inl (cy 1, 901, .inl f2)), (h4, .inl (cy 0, 900, .inl f3))] _ _ := h_5
  refine lv_iconst (v := 0) hx hb dX8_cut_26 (by decide) ?_
  refine lv_istore_n (lv' := [(3, .int 0), (0, .ref h0), (1, .ref h4), (2, .int p0)]) hx hb dX8_cut_27 rfl hl (by decide) rfl (fun ls_6 hl_6 => ?_)
  clear hl
  refine lv_iconst (v := 1) hx hb dX8_cut_28 (by decide) ?_
  refine lv_istore (lv' := [(4, .int 1), (3, .int 0), (0, .ref h0), (1, .ref h4), (2, .int p0)]) hx hb dX8_cut_29 hl_6 (by decide) rfl (fun ls_7 hl_7 => ?_)
  clear hl_6
  refine lv_iconst (v := 0) hx hb dX8_cut_31 (by decide) ?_
  refine lv_istore (lv' := [(5, .int 0), (4, .int 1), (3, .int 0), (0, .ref h0), (1, .ref h4), (2, .int p0)]) hx hb dX8_cut_32 hl_7 (by decide) rfl (fun ls_8 hl_8 => ?_)
  clear hl_7
  refine q_wl (fun (q : Int32 × Int32 × Int32 × Int32) H locs ls => match q with | (v34_9_0, v34_9_1, v34_9_2, v34_9_6) => ∃ v34_9_3 : Nat → Int32, ∃ v34_9_4 : Nat → Int32, ∃ v34_9_5 : Nat → Int32, (0 ≤ (v34_9_0).toInt ∧ (v34_9_0).toInt ≤ 901) ∧ (0 ≤ (v34_9_1).toInt ∧ (v34_9_1).toInt ≤ 1) ∧ (0 ≤ (v34_9_2).toInt ∧ (v34_9_2).toInt ≤ 900) ∧ (0 ≤ (v34_9_6).toInt ∧ (v34_9_6).toInt ≤ 901) ∧ ((v34_9_6 : Int32).toInt = (v34_9_0 : Int32).toInt) ∧ (((v34_9_1 : Int32).toInt = 1 ∧ (v34_9_0 : Int32).toInt ≤ (v34_9_2 : Int32).toInt ∧ (v34_9_2 : Int32).toInt ≤ (z_3 : Int32).toInt) ∨ ((v34_9_1 : Int32).toInt = 0 ∧ 1 ≤ (v34_9_0 : Int32).toInt ∧ KZ v34_9_3 (v34_9_0 : Int32).toInt)) ∧ ((v34_9_0 : Int32).toInt ≤ (z_3 : Int32).toInt + 1) ∧ qW D (va_A [(h0, .inr (8, [(va_rf o0), .int p1, .int p2, .ref h1, .ref h2, .ref h3])), (h1, .inl (cy 1, 901, .inl f0)), (h2, .inl (cy 1, 901, .inl f1)), (h3, .inl (cy 1, 901, .inl f2)), (h4, .inl (cy 0, 900, .inl f3))] sz) s.heap [(h0, .inr (8, [.ref h4, .int z_3, .int v34_9_6, .ref h1, .ref h2, .ref h3])), (h1, .inl (cy 1, 901, .inl v34_9_3)), (h2, .inl (cy 1, 901, .inl v34_9_4)), (h3, .inl (cy 1, 901, .inl v34_9_5)), (h4, .inl (cy 0, 900, .inl f3))] H locs ∧ lv_has ls 7 [(0, .ref h0), (1, .ref h4), (2, .int p0), (3, .int v34_9_2), (4, .int v34_9_1), (5, .int v34_9_0)]) (fun (q : Int32 × Int32 × Int32 × Int32) => match q with | (v34_9_0, v34_9_1, v34_9_2, v34_9_6) => (902 - (v34_9_0).toInt).toNat) (fun q_34 ih_34 H locs ls hP => ?_) (0, 1, 0, 0) ⟨f0, f1, f2, ⟨by decide +kernel, by decide +kernel⟩, ⟨by decide +kernel, by decide +kernel⟩, ⟨by decide +kernel, by decide +kernel⟩, ⟨by decide +kernel, by decide +kernel⟩, (by have q0 : (0 : Int32).toInt = 0 := (by decide); omega), (Or.inl ⟨by have q0 : (1 : Int32).toInt = 1 := (by decide); have q1 : (0 : Int32).toInt = 0 := (by decide); omega, by have q0 : (1 : Int32).toInt = 1 := (by decide); have q1 : (0 : Int32).toInt = 0 := (by decide); omega, by have q0 : (1 : Int32).toInt = 1 := (by decide); have q1 : (0 : Int32).toInt = 0 := (by decide); omega⟩), (by have q0 : (0 : Int32).toInt = 0 := (by decide); omega), h_5, (lv_sub hl_8 [3, 4, 5, 2, 1, 0] rfl)⟩
  obtain ⟨v34_9_0, v34_9_1, v34_9_2, v34_9_6⟩ := q_34
  obtain ⟨v34_9_3, v34_9_4, v34_9_5, hv34_9_0, hv34_9_1, hv34_9_2, hv34_9_6, x10_0, x11_1, x12_2, h, hl⟩ := hP
  refine lv_iload hx hb dX8_cut_34 (lv_at hl 5 rfl) ?_
  refine lv_aload_n hx hb dX8_cut_36 rfl (lv_at hl 0 rfl) ?_
  refine q_get X hK h 0 rfl rfl wf_8 1 (by decide) rfl wm_1_44 dX8_cut_37 ?_
  refine lv_icmp_gt (tgt := 191) hx hb dX8_cut_40 (by decide) (fun c_13 => ?_) (fun c_13 => ?_)
  · replace c_13 := i_lt (x := z_3) (y := v34_9_0) rfl rfl c_13
    exact q_vret X hr hlk hK h (fun _ => 0, fun k => List.getD [(fun _ => z_3), (fun _ => v34_9_6), v34_9_3, v34_9_4, v34_9_5] k (fun _ => 0), fun _ _ => 0) ⟨(⟨by omega, by omega⟩ : 0 ≤ (z_3 : Int32).toInt ∧ (z_3 : Int32).toInt ≤ 900), (hv34_9_6 : 0 ≤ (v34_9_6 : Int32).toInt ∧ (v34_9_6 : Int32).toInt ≤ 901), (show 1 ≤ (v34_9_6 : Int32).toInt ∧ (v34_9_6 : Int32).toInt ≤ 901 from by omega), (show KZ v34_9_3 (v34_9_6 : Int32).toInt from kz_n ((x11_1).resolve_left (by omega)).2.2 (by omega)), (show (v34_9_6 : Int32).toInt ≤ (p0 : Int32).toInt + 1 from by omega), trivial⟩ [0, 1, 2, 3, 4] rfl rfl dX8_cut_191 (Nat.le_of_ble_eq_true rfl) (Nat.le_of_ble_eq_true rfl)
  · replace c_13 := i_nlt (x := z_3) (y := v34_9_0) rfl rfl c_13
    refine lv_iload hx hb dX8_cut_43 (lv_at hl 4 rfl) ?_
    refine lv_if_eq (tgt := 191) hx hb dX8_cut_45 (by decide) (fun c_14 => ?_) (fun c_14 => ?_)
    · replace c_14 := i_eq (x := v34_9_1) (y := 0) rfl (show (0 : Int32).toInt = 0 by decide) c_14
      exact q_vret X hr hlk hK h (fun _ => 0, fun k => List.getD [(fun _ => z_3), (fun _ => v34_9_6), v34_9_3, v34_9_4, v34_9_5] k (fun _ => 0), fun _ _ => 0) ⟨(⟨by omega, by omega⟩ : 0 ≤ (z_3 : Int32).toInt ∧ (z_3 : Int32).toInt ≤ 900), (hv34_9_6 : 0 ≤ (v34_9_6 : Int32).toInt ∧ (v34_9_6 : Int32).toInt ≤ 901), (show 1 ≤ (v34_9_6 : Int32).toInt ∧ (v34_9_6 : Int32).toInt ≤ 901 from by omega), (show KZ v34_9_3 (v34_9_6 : Int32).toInt from kz_n ((x11_1).resolve_left (by omega)).2.2 (by omega)), (show (v34_9_6 : Int32).toInt ≤ (p0 : Int32).toInt + 1 from by omega), trivial⟩ [0, 1, 2, 3, 4] rfl rfl dX8_cut_191 (Nat.le_of_ble_eq_true rfl) (Nat.le_of_ble_eq_true rfl)
    · replace c_14 := i_ne (x := v34_9_1) (y := 0) rfl (show (0 : Int32).toInt = 0 by decide) c_14
      refine q_wl (fun (v48_15_0 : Int32) H locs ls => (0 ≤ (v48_15_0).toInt ∧ (v48_15_0).toInt ≤ 900) ∧ ((v34_9_0 : Int32).toInt ≤ (v48_15_0 : Int32).toInt ∧ (v48_15_0 : Int32).toInt ≤ (z_3 : Int32).toInt) ∧ qW D (va_A [(h0, .inr (8, [(va_rf o0), .int p1, .int p2, .ref h1, .ref h2, .ref h3])), (h1, .inl (cy 1, 901, .inl f0)), (h2, .inl (cy 1, 901, .inl f1)), (h3, .inl (cy 1, 901, .inl f2)), (h4, .inl (cy 0, 900, .inl f3))] sz) s.heap [(h0, .inr (8, [.ref h4, .int z_3, .int v34_9_6, .ref h1, .ref h2, .ref h3])), (h1, .inl (cy 1, 901, .inl v34_9_3)), (h2, .inl (cy 1, 901, .inl v34_9_4)), (h3, .inl (cy 1, 901, .inl v34_9_5)), (h4, .inl (cy 0, 900, .inl f3))] H locs ∧ lv_has ls 7 [(0, .ref h0), (1, .ref h4), (2, .int p0), (3, .int v48_15_0), (4, .int v34_9_1), (5, .int v34_9_0)]) (fun (v48_15_0 : Int32) => (901 - (v48_15_0).toInt).toNat) (fun q_48 ih_48 H locs ls hP => ?_) v34_9_2 ⟨hv34_9_2, (by omega), h, (lv_sub hl [0, 1, 2, 3, 4, 5] rfl)⟩
      obtain ⟨v48_15_0, rfl⟩ : ∃ z, z = q_48 := ⟨_, rfl⟩
      obtain ⟨hv48_15_0, x16_0, h, hl⟩ := hP
      refine lv_iload_n hx hb dX8_cut_48 rfl (lv_at hl 3 rfl) ?_
      refine lv_aload_n hx hb dX8_cut_49 rfl (lv_at hl 0 rfl) ?_
      refine q_get X hK h 0 rfl rfl wf_8 1 (by decide) rfl wm_1_44 dX8_cut_50 ?_
      refine q_jn (pc2 := 84) (fun H locs ls st => st = [] ∧ qW D (va_A [(h0, .inr (8, [(va_rf o0), .int p1, .int p2, .ref h1, .ref h2, .ref h3])), (h1, .inl (cy 1, 901, .inl f0)), (h2, .inl (cy 1, 901, .inl f1)), (h3, .inl (cy 1, 901, .inl f2)), (h4, .inl (cy 0, 900, .inl f3))] sz) s.heap [(h0, .inr (8, [.ref h4, .int z_3, .int v34_9_6, .ref h1, .ref h2, .ref h3])), (h1, .inl (cy 1, 901, .inl v34_9_3)), (h2, .inl (cy 1, 901, .inl v34_9_4)), (h3, .inl (cy 1, 901, .inl v34_9_5)), (h4, .inl (cy 0, 900, .inl f3))] H locs ∧ lv_has ls 7 [(0, .ref h0), (1, .ref h4), (2, .int p0), (3, .int v48_15_0), (4, .int v34_9_1), (5, .int v34_9_0)]) (fun H locs ls st hP => ?_) (fun J_84 => ?_)
      · obtain ⟨rfl, h, hl⟩ := hP
        refine lv_aload_n hx hb dX8_cut_84 rfl (lv_at hl 0 rfl) ?_
        refine lv_iload_n hx hb dX8_cut_85 rfl (lv_at hl 3 rfl) ?_
        refine q_callVi (rest := []) (wr := [(h1, .inl (cy 1, 901, .inl v34_9_3)), (h2, .inl (cy 1, 901, .inl v34_9_4)), (h3, .inl (cy 1, 901, .inl v34_9_5))]) X hK hT hA h (fun sz => gX8_endOf_4da79e2 l D cy h0 h4 v48_15_0 z_3 v34_9_6 (.ref h1) (.ref h2) (.ref h3) f3 hv48_15_0 ⟨by omega, by omega⟩ hv34_9_6 (by omega) sz) wm_2_173 wm_2_176 wm_1_3 hd_X8_endOf wm_2_175 wp_1_1 (ci := 8) (q0 := 0) rfl rfl ⟨Nat.le_of_ble_eq_true rfl, Nat.le_of_ble_eq_true rfl⟩ hl.1 rfl (Nat.le_of_ble_eq_true rfl) dX8_cut_86 ⟨Nat.le_of_ble_eq_true rfl, Nat.le_of_ble_eq_true rfl⟩ [0, 4] [1, 2, 3] rfl rfl (by decide) rfl rfl (fun r_18 u_18 H locs w_18 h_18 => ?_)
        clear h
        obtain ⟨wr_18, y18_0, _⟩ := w_18
        replace h_18 : qW D _ _ [(h1, .inl (cy 1, 901, .inl v34_9_3)), (h2, .inl (cy 1, 901, .inl v34_9_4)), (h3, .inl (cy 1, 901, .inl v34_9_5)), (h0, .inr (8, [.ref h4, .int z_3, .int v34_9_6, .ref h1, .ref h2, .ref h3])), (h4, .inl (cy 0, 900, .inl f3))] _ _ := h_18
        refine lv_istore (lv' := [(6, .int r_18), (0, .ref h0), (1, .ref h4), (2, .int p0), (3, .int v48_15_0), (4, .int v34_9_1), (5, .int v34_9_0)]) hx hb dX8_cut_89 hl (by decide) rfl (fun ls_19 hl_19 => ?_)
        clear hl
        refine lv_aload_n hx hb dX8_cut_91 rfl (lv_at hl_19 1 rfl) ?_
        refine q_get X hK h_18 3 rfl rfl wf_8 3 (by decide) rfl wm_1_47 dX8_cut_92 ?_
        refine lv_iload hx hb dX8_cut_95 (lv_at hl_19 6 rfl) ?_
        refine lv_aload_n hx hb dX8_cut_97 rfl (lv_at hl_19 1 rfl) ?_
        refine lv_iload_n hx hb dX8_cut_98 rfl (lv_at hl_19 4 rfl) ?_
        refine lv_iload hx hb dX8_cut_99 (lv_at hl_19 0 rfl) ?_
        refine q_callVi (rest := [.int v34_9_0, .ref h1]) (wr := [(h1, .inl (cy 1, 901, .inl v34_9_3)), (h2, .inl (cy 1, 901, .inl v34_9_4)), (h3, .inl (cy 1, 901, .inl v34_9_5))]) X hK hT hA h_18 (fun sz => gX8_kindOf_927c785 l D cy h0 h4 v48_15_0 r_18 z_3 v34_9_6 (.ref h1) (.ref h2) (.ref h3) f3 hv48_15_0 wr_18 ⟨by omega, by omega⟩ hv34_9_6 (by omega) (by omega) sz) wm_2_185 wm_2_188 wm_1_3 hd_X8_kindOf wm_2_187 wp_1_4 (ci := 8) (q0 := 0) rfl rfl ⟨Nat.le_of_ble_eq_true rfl, Nat.le_of_ble_eq_true rfl⟩ hl_19.1 rfl (Nat.le_of_ble_eq_true rfl) dX8_cut_101 ⟨Nat.le_of_ble_eq_true rfl, Nat.le_of_ble_eq_true rfl⟩ [3, 4] [0, 1, 2] rfl rfl (by decide) rfl rfl (fun r_20 u_20 H locs w_20 h_20 => ?_)
        clear h_18
        obtain ⟨wr_20, y20_0, _⟩ := w_20
        replace h_20 : qW D _ _ [(h1, .inl (cy 1, 901, .inl v34_9_3)), (h2, .inl (cy 1, 901, .inl v34_9_4)), (h3, .inl (cy 1, 901, .inl v34_9_5)), (h0, .inr (8, [.ref h4, .int z_3, .int v34_9_6, .ref h1, .ref h2, .ref h3])), (h4, .inl (cy 0, 900, .inl f3))] _ _ := h_20
        refine q_iast X hK h_20 0 rfl (i_in rfl (by omega) (by omega)) dX8_cut_104 (fun H locs h_22 => ?_)
        clear h_20
        replace h_22 : qW D _ _ [(h1, .inl (cy 1, 901, .inl (upd v34_9_3 (Int32.toNatClampNeg v34_9_0) r_20))), (h2, .inl (cy 1, 901, .inl v34_9_4)), (h3, .inl (cy 1, 901, .inl v34_9_5)), (h0, .inr (8, [.ref h4, .int z_3, .int v34_9_6, .ref h1, .ref h2, .ref h3])), (h4, .inl (cy 0, 900, .inl f3))] _ _ := h_22
        obtain ⟨F_21, eF_21⟩ : ∃ z, (upd v34_9_3 (Int32.toNatClampNeg v34_9_0) r_20) = z := ⟨_, rfl⟩
        rw [eF_21] at h_22
        refine lv_aload_n hx hb dX8_cut_105 rfl (lv_at hl_19 1 rfl) ?_
        refine q_get X hK h_22 3 rfl rfl wf_8 4 (by decide) rfl wm_1_49 dX8_cut_106 ?_
        refine lv_iload hx hb dX8_cut_109 (lv_at hl_19 6 rfl) ?_
        refine lv_iload_n hx hb dX8_cut_111 rfl (lv_at hl_19 4 rfl) ?_
        refine q_iast X hK h_22 1 rfl (i_in rfl (by omega) (by omega)) dX8_cut_112 (fun H locs h_24 => ?_)
        clear h_22
        replace h_24 : qW D _ _ [(h1, .inl (cy 1, 901, .inl F_21)), (h2, .inl (cy 1, 901, .inl (upd v34_9_4 (Int32.toNatClampNeg v34_9_0) v48_15_0))), (h3, .inl (cy 1, 901, .inl v34_9_5)), (h0, .inr (8, [.ref h4, .int z_3, .int v34_9_6, .ref h1, .ref h2, .ref h3])), (h4, .inl (cy 0, 900, .inl f3))] _ _ := h_24
        obtain ⟨F_23, eF_23⟩ : ∃ z, (upd v34_9_4 (Int32.toNatClampNeg v34_9_0) v48_15_0) = z := ⟨_, rfl⟩
        rw [eF_23] at h_24
        clear eF_23
        refine lv_aload_n hx hb dX8_cut_113 rfl (lv_at hl_19 1 rfl) ?_
        refine q_get X hK h_24 3 rfl rfl wf_8 5 (by decide) rfl wm_1_51 dX8_cut_114 ?_
        refine lv_iload hx hb dX8_cut_117 (lv_at hl_19 6 rfl) ?_
        refine lv_aload_n hx hb dX8_cut_119 rfl (lv_at hl_19 1 rfl) ?_
        refine q_get X hK h_24 3 rfl rfl wf_8 3 (by decide) rfl wm_1_47 dX8_cut_120 ?_
        refine lv_iload hx hb dX8_cut_123 (lv_at hl_19 6 rfl) ?_
        refine q_iald X hK h_24 0 rfl (i_in rfl (by omega) (by omega)) dX8_cut_125 ?_
        refine q_any (fun z_25 hz_25 => ?_)
        refine lv_bipush (v := 25) hx hb dX8_cut_126 (by decide) ?_
        refine q_jn (pc2 := 142) (fun H locs ls st => ∃ v142_26_0 : Int32, ((-2147483648) ≤ (v142_26_0).toInt ∧ (v142_26_0).toInt ≤ 2147483647) ∧ st = [.int v142_26_0, .int v34_9_0, .ref h3] ∧ qW D (va_A [(h0, .inr (8, [(va_rf o0), .int p1, .int p2, .ref h1, .ref h2, .ref h3])), (h1, .inl (cy 1, 901, .inl f0)), (h2, .inl (cy 1, 901, .inl f1)), (h3, .inl (cy 1, 901, .inl f2)), (h4, .inl (cy 0, 900, .inl f3))] sz) s.heap [(h1, .inl (cy 1, 901, .inl F_21)), (h2, .inl (cy 1, 901, .inl F_23)), (h3, .inl (cy 1, 901, .inl v34_9_5)), (h0, .inr (8, [.ref h4, .int z_3, .int v34_9_6, .ref h1, .ref h2, .ref h3])), (h4, .inl (cy 0, 900, .inl f3))] H locs ∧ lv_has ls 7 [(0, .ref h0), (1, .ref h4), (2, .int p0), (3, .int v48_15_0), (4, .int v34_9_1), (5, .int v34_9_0), (6, .int r_18)]) (fun H locs ls st hP => ?_) (fun J_142 => ?_)
        · obtain ⟨v142_26_0, hv142_26_0, rfl, h, hl⟩ := hP
          refine q_iast X hK h 2 rfl (i_in rfl (by omega) (by omega)) dX8_cut_142 (fun H locs h_28 => ?_)
          clear h
          replace h_28 : qW D _ _ [(h1, .inl (cy 1, 901, .inl F_21)), (h2, .inl (cy 1, 901, .inl F_23)), (h3, .inl (cy 1, 901, .inl (upd v34_9_5 (Int32.toNatClampNeg v34_9_0) v142_26_0))), (h0, .inr (8, [.ref h4, .int z_3, .int v34_9_6, .ref h1, .ref h2, .ref h3])), (h4, .inl (cy 0, 900, .inl f3))] _ _ := h_28
          obtain ⟨F_27, eF_27⟩ : ∃ z, (upd v34_9_5 (Int32.toNatClampNeg v34_9_0) v142_26_0) = z := ⟨_, rfl⟩
          rw [eF_27] at h_28
          clear eF_27
          refine lv_aload_n hx hb dX8_cut_143 rfl (lv_at hl 0 rfl) ?_
          refine lv_iload hx hb dX8_cut_144 (lv_at hl 5 rfl) ?_
          refine lv_iconst (v := 1) hx hb dX8_cut_146 (by decide) ?_
          refine lv_iadd hx hb dX8_cut_147 ?_
          obtain ⟨z_29, ez_29, hz_29⟩ := e_add (x := v34_9_0) (y := 1) rfl (show (1 : Int32).toInt = 1 by decide) (by omega) (by omega)
          refine q_c z_29 ez_29 ?_
          clear ez_29
          refine q_put (v := .int z_29) X hK h_28 3 rfl rfl wf_8 tyX8 tyX8_ok nmX8 2 (by decide) wm_1_45 rfl rfl rfl (Nat.le_of_ble_eq_true rfl) dX8_cut_148 (fun H locs h_30 => ?_)
          clear h_28
          replace h_30 : qW D _ _ [(h1, .inl (cy 1, 901, .inl F_21)), (h2, .inl (cy 1, 901, .inl F_23)), (h3, .inl (cy 1, 901, .inl F_27)), (h0, .inr (8, [.ref h4, .int z_3, .int z_29, .ref h1, .ref h2, .ref h3])), (h4, .inl (cy 0, 900, .inl f3))] _ _ := h_30
          refine lv_iload hx hb dX8_cut_151 (lv_at hl 6 rfl) ?_
          refine lv_istore_n (lv' := [(3, .int r_18), (0, .ref h0), (1, .ref h4), (2, .int p0), (4, .int v34_9_1), (5, .int v34_9_0), (6, .int r_18)]) hx hb dX8_cut_153 rfl hl (by decide) rfl (fun ls_31 hl_31 => ?_)
          clear hl
          refine lv_aload_n hx hb dX8_cut_154 rfl (lv_at hl_31 1 rfl) ?_
          refine q_get X hK h_30 3 rfl rfl wf_8 3 (by decide) rfl wm_1_47 dX8_cut_155 ?_
          refine lv_iload hx hb dX8_cut_158 (lv_at hl_31 5 rfl) ?_
          refine q_iald X hK h_30 0 rfl (i_in rfl (by omega) (by omega)) dX8_cut_160 ?_
          obtain ⟨z_32, ez_32, hz_32⟩ := e_any (F_21 v34_9_0.toNatClampNeg)
          refine q_c z_32 ez_32 ?_
          have zr_33 := ld_st eF_21 ez_32
          refine lv_bipush (v := 26) hx hb dX8_cut_161 (by decide) ?_
          refine lv_icmp_eq (tgt := 182) hx hb dX8_cut_163 (by decide) (fun c_34 => ?_) (fun c_34 => ?_)
          · replace c_34 := i_eq (x := z_32) (y := 26) rfl (show (26 : Int32).toInt = 26 by decide) c_34
            refine lv_iconst (v := 0) hx hb dX8_cut_182 (by decide) ?_
            refine lv_istore (lv' := [(4, .int 0), (3, .int r_18), (0, .ref h0), (1, .ref h4), (2, .int p0), (5, .int v34_9_0), (6, .int r_18)]) hx hb dX8_cut_183 hl_31 (by decide) rfl (fun ls_35 hl_35 => ?_)
            clear hl_31
            obtain ⟨z_36, ez_36, hz_36⟩ := e_add (x := v34_9_0) (y := Int32.ofInt 1) rfl (b := 1) (by decide) (by omega) (by omega)
            refine lv_iinc (v := z_36) (lv' := [(5, .int z_36), (4, .int 0), (3, .int r_18), (0, .ref h0), (1, .ref h4), (2, .int p0), (6, .int r_18)]) hx hb dX8_cut_185 hl_35 (k := 5) rfl ez_36 (by decide) rfl (fun ls_36 hl_36 => ?_)
            clear hl_35
            refine lv_goto (tgt := 34) hx hb dX8_cut_188 (by decide) ?_
            exact ih_34 (z_36, 0, r_18, z_29) (by show (902 - (z_36).toInt).toNat < (902 - (v34_9_0).toInt).toNat; omega) _ _ _ ⟨F_21, F_23, F_27, ⟨by omega, by omega⟩, ⟨by decide +kernel, by decide +kernel⟩, wr_18, ⟨by omega, by omega⟩, (by omega), (Or.inr ⟨by have q0 : (0 : Int32).toInt = 0 := (by decide); omega, by have q0 : (0 : Int32).toInt = 0 := (by decide); omega, kz_mk (by omega) (by have q0 : (0 : Int32).toInt = 0 := (by decide); omega) ez_32 (by omega)⟩), (by omega), (q_re h_30 [3, 0, 1, 2, 4] rfl rfl), (lv_sub hl_36 [3, 4, 5, 2, 1, 0] rfl)⟩
          · replace c_34 := i_ne (x := z_32) (y := 26) rfl (show (26 : Int32).toInt = 26 by decide) c_34
            refine lv_aload_n hx hb dX8_cut_166 rfl (lv_at hl_31 1 rfl) ?_
            refine q_get X hK h_30 3 rfl rfl wf_8 3 (by decide) rfl wm_1_47 dX8_cut_167 ?_
            refine lv_iload hx hb dX8_cut_170 (lv_at hl_31 5 rfl) ?_
            refine q_iald X hK h_30 0 rfl (i_in rfl (by omega) (by omega)) dX8_cut_172 ?_
            obtain ⟨z_37, ez_37, hz_37⟩ := e_any (F_21 v34_9_0.toNatClampNeg)
            refine q_c z_37 ez_37 ?_
            have zr_38 := ld_st eF_21 ez_37
            refine lv_bipush (v := 27) hx hb dX8_cut_173 (by decide) ?_
            refine lv_icmp_eq (tgt := 182) hx hb dX8_cut_175 (by decide) (fun c_39 => ?_) (fun c_39 => ?_)
            · replace c_39 := i_eq (x := z_37) (y := 27) rfl (show (27 : Int32).toInt = 27 by decide) c_39
              refine lv_iconst (v := 0) hx hb dX8_cut_182 (by decide) ?_
              refine lv_istore (lv' := [(4, .int 0), (3, .int r_18), (0, .ref h0), (1, .ref h4), (2, .int p0), (5, .int v34_9_0), (6, .int r_18)]) hx hb dX8_cut_183 hl_31 (by decide) rfl (fun ls_40 hl_40 => ?_)
              clear hl_31
              obtain ⟨z_41, ez_41, hz_41⟩ := e_add (x := v34_9_0) (y := Int32.ofInt 1) rfl (b := 1) (by decide) (by omega) (by omega)
              refine lv_iinc (v := z_41) (lv' := [(5, .int z_41), (4, .int 0), (3, .int r_18), (0, .ref h0), (1, .ref h4), (2, .int p0), (6, .int r_18)]) hx hb dX8_cut_185 hl_40 (k := 5) rfl ez_41 (by decide) rfl (fun ls_41 hl_41 => ?_)
              clear hl_40
              refine lv_goto (tgt := 34) hx hb dX8_cut_188 (by decide) ?_
              exact ih_34 (z_41, 0, r_18, z_29) (by show (902 - (z_41).toInt).toNat < (902 - (v34_9_0).toInt).toNat; omega) _ _ _ ⟨F_21, F_23, F_27, ⟨by omega, by omega⟩, ⟨by decide +kernel, by decide +kernel⟩, wr_18, ⟨by omega, by omega⟩, (by omega), (Or.inr ⟨by have q0 : (0 : Int32).toInt = 0 := (by decide); omega, by have q0 : (0 : Int32).toInt = 0 := (by decide); omega, kz_mk (by omega) (by have q0 : (0 : Int32).toInt = 0 := (by decide); omega) ez_37 (by omega)⟩), (by omega), (q_re h_30 [3, 0, 1, 2, 4] rfl rfl), (lv_sub hl_41 [3, 4, 5, 2, 1, 0] rfl)⟩
            · replace c_39 := i_ne (x := z_37) (y := 27) rfl (show (27 : Int32).toInt = 27 by decide) c_39
              refine lv_iconst (v := 1) hx hb dX8_cut_178 (by decide) ?_
              refine lv_goto (tgt := 183) hx hb dX8_cut_179 (by decide) ?_
              refine lv_istore (lv' := [(4, .int 1), (3, .int r_18), (0, .ref h0), (1, .ref h4), (2, .int p0), (5, .int v34_9_0), (6, .int r_18)]) hx hb dX8_cut_183 hl_31 (by decide) rfl (fun ls_42 hl_42 => ?_)
              clear hl_31
              obtain ⟨z_43, ez_43, hz_43⟩ := e_add (x := v34_9_0) (y := Int32.ofInt 1) rfl (b := 1) (by decide) (by omega) (by omega)
              refine lv_iinc (v := z_43) (lv' := [(5, .int z_43), (4, .int 1), (3, .int r_18), (0, .ref h0), (1, .ref h4), (2, .int p0), (6, .int r_18)]) hx hb dX8_cut_185 hl_42 (k := 5) rfl ez_43 (by decide) rfl (fun ls_43 hl_43 => ?_)
              clear hl_42
              refine lv_goto (tgt := 34) hx hb dX8_cut_188 (by decide) ?_
              exact ih_34 (z_43, 1, r_18, z_29) (by show (902 - (z_43).toInt).toNat < (902 - (v34_9_0).toInt).toNat; omega) _ _ _ ⟨F_21, F_23, F_27, ⟨by omega, by omega⟩, ⟨by decide +kernel, by decide +kernel⟩, wr_18, ⟨by omega, by omega⟩, (by omega), (Or.inl ⟨by have q0 : (1 : Int32).toInt = 1 := (by decide); omega, by have q0 : (1 : Int32).toInt = 1 := (by decide); omega, by have q0 : (1 : Int32).toInt = 1 := (by decide); omega⟩), (by omega), (q_re h_30 [3, 0, 1, 2, 4] rfl rfl), (lv_sub hl_43 [3, 4, 5, 2, 1, 0] rfl)⟩
        · skip
          refine lv_icmp_ne (tgt := 141) hx hb dX8_cut_128 (by decide) (fun c_44 => ?_) (fun c_44 => ?_)
          · replace c_44 := i_ne (x := z_25) (y := 25) rfl (show (25 : Int32).toInt = 25 by decide) c_44
            refine lv_iconst (v := 0) hx hb dX8_cut_141 (by decide) ?_
            exact J_142 _ _ _ _ ⟨0, ⟨by decide +kernel, by decide +kernel⟩, rfl, h_24, (lv_sub hl_19 [1, 2, 3, 4, 5, 6, 0] rfl)⟩
          · replace c_44 := i_eq (x := z_25) (y := 25) rfl (show (25 : Int32).toInt = 25 by decide) c_44
            refine lv_aload_n hx hb dX8_cut_131 rfl (lv_at hl_19 1 rfl) ?_
            refine lv_iload_n hx hb dX8_cut_132 rfl (lv_at hl_19 4 rfl) ?_
            refine lv_iload hx hb dX8_cut_133 (lv_at hl_19 0 rfl) ?_
            refine q_callVi (rest := [.int v34_9_0, .ref h3]) (wr := [(h1, .inl (cy 1, 901, .inl F_21)), (h2, .inl (cy 1, 901, .inl F_23)), (h3, .inl (cy 1, 901, .inl v34_9_5))]) X hK hT hA h_24 (fun sz => gX8_valueOf_7ef071d l D cy h0 h4 v48_15_0 r_18 z_3 v34_9_6 (.ref h1) (.ref h2) (.ref h3) f3 hv48_15_0 wr_18 ⟨by omega, by omega⟩ hv34_9_6 (by omega) (by omega) sz) wm_3_64 wm_3_67 wm_1_3 hd_X8_valueOf wm_3_66 wp_1_7 (ci := 8) (q0 := 0) rfl rfl ⟨Nat.le_of_ble_eq_true rfl, Nat.le_of_ble_eq_true rfl⟩ hl_19.1 rfl (Nat.le_of_ble_eq_true rfl) dX8_cut_135 ⟨Nat.le_of_ble_eq_true rfl, Nat.le_of_ble_eq_true rfl⟩ [3, 4] [0, 1, 2] rfl rfl (by decide) rfl rfl (fun r_45 u_45 H locs w_45 h_45 => ?_)
            clear h_24
            obtain ⟨wr_45, _⟩ := w_45
            replace h_45 : qW D _ _ [(h1, .inl (cy 1, 901, .inl F_21)), (h2, .inl (cy 1, 901, .inl F_23)), (h3, .inl (cy 1, 901, .inl v34_9_5)), (h0, .inr (8, [.ref h4, .int z_3, .int v34_9_6, .ref h1, .ref h2, .ref h3])), (h4, .inl (cy 0, 900, .inl f3))] _ _ := h_45
            refine lv_goto (tgt := 142) hx hb dX8_cut_138 (by decide) ?_
            exact J_142 _ _ _ _ ⟨r_45, wr_45, rfl, h_45, (lv_sub hl_19 [1, 2, 3, 4, 5, 6, 0] rfl)⟩
      · skip
        refine lv_icmp_ge (tgt := 84) hx hb dX8_cut_53 (by decide) (fun c_46 => ?_) (fun c_46 => ?_)
        · replace c_46 := i_le (x := z_3) (y := v48_15_0) rfl rfl c_46
          exact J_84 _ _ _ _ ⟨rfl, h, (lv_sub hl [0, 1, 2, 3, 4, 5] rfl)⟩
        · replace c_46 := i_nle (x := z_3) (y := v48_15_0) rfl rfl c_46
          refine lv_aload_n hx hb dX8_cut_56 rfl (lv_at hl 0 rfl) ?_
          refine q_get X hK h 0 rfl rfl wf_8 0 (by decide) rfl wm_1_43 dX8_cut_57 ?_
          refine lv_iload_n hx hb dX8_cut_60 rfl (lv_at hl 3 rfl) ?_
          refine q_bald X hK h 4 rfl (i_in rfl (by omega) (by omega)) dX8_cut_61 ?_
          refine q_any (fun z_47 hz_47 => ?_)
          refine lv_bipush (v := 10) hx hb dX8_cut_62 (by decide) ?_
          refine q_jn (pc2 := 78) (fun H locs ls st => st = [] ∧ qW D (va_A [(h0, .inr (8, [(va_rf o0), .int p1, .int p2, .ref h1, .ref h2, .ref h3])), (h1, .inl (cy 1, 901, .inl f0)), (h2, .inl (cy 1, 901, .inl f1)), (h3, .inl (cy 1, 901, .inl f2)), (h4, .inl (cy 0, 900, .inl f3))] sz) s.heap [(h0, .inr (8, [.ref h4, .int z_3, .int v34_9_6, .ref h1, .ref h2, .ref h3])), (h1, .inl (cy 1, 901, .inl v34_9_3)), (h2, .inl (cy 1, 901, .inl v34_9_4)), (h3, .inl (cy 1, 901, .inl v34_9_5)), (h4, .inl (cy 0, 900, .inl f3))] H locs ∧ lv_has ls 7 [(0, .ref h0), (1, .ref h4), (2, .int p0), (3, .int v48_15_0), (4, .int v34_9_1), (5, .int v34_9_0)]) (fun H locs ls st hP => ?_) (fun J_78 => ?_)
          · obtain ⟨rfl, h, hl⟩ := hP
            obtain ⟨z_49, ez_49, hz_49⟩ := e_add (x := v48_15_0) (y := Int32.ofInt 1) rfl (b := 1) (by decide) (by omega) (by omega)
            refine lv_iinc (v := z_49) (lv' := [(3, .int z_49), (0, .ref h0), (1, .ref h4), (2, .int p0), (4, .int v34_9_1), (5, .int v34_9_0)]) hx hb dX8_cut_78 hl (k := 3) rfl ez_49 (by decide) rfl (fun ls_49 hl_49 => ?_)
            clear hl
            refine lv_goto (tgt := 48) hx hb dX8_cut_81 (by decide) ?_
            exact ih_48 z_49 (by show (901 - (z_49).toInt).toNat < (901 - (v48_15_0).toInt).toNat; omega) _ _ _ ⟨⟨by omega, by omega⟩, (by omega), h, (lv_sub hl_49 [1, 2, 3, 0, 4, 5] rfl)⟩
          · skip
            refine lv_icmp_eq (tgt := 78) hx hb dX8_cut_64 (by decide) (fun c_50 => ?_) (fun c_50 => ?_)
            · replace c_50 := i_eq (x := z_47) (y := 10) rfl (show (10 : Int32).toInt = 10 by decide) c_50
              exact J_78 _ _ _ _ ⟨rfl, h, (lv_sub hl [0, 1, 2, 3, 4, 5] rfl)⟩
            · replace c_50 := i_ne (x := z_47) (y := 10) rfl (show (10 : Int32).toInt = 10 by decide) c_50
              refine lv_aload_n hx hb dX8_cut_67 rfl (lv_at hl 0 rfl) ?_
              refine q_get X hK h 0 rfl rfl wf_8 0 (by decide) rfl wm_1_43 dX8_cut_68 ?_
              refine lv_iload_n hx hb dX8_cut_71 rfl (lv_at hl 3 rfl) ?_
              refine q_bald X hK h 4 rfl (i_in rfl (by omega) (by omega)) dX8_cut_72 ?_
              refine q_any (fun z_51 hz_51 => ?_)
              refine lv_bipush (v := 32) hx hb dX8_cut_73 (by decide) ?_
              refine lv_icmp_ne (tgt := 84) hx hb dX8_cut_75 (by decide) (fun c_52 => ?_) (fun c_52 => ?_)
              · replace c_52 := i_ne (x := z_51) (y := 32) rfl (show (32 : Int32).toInt = 32 by decide) c_52
                exact J_84 _ _ _ _ ⟨rfl, h, (lv_sub hl [0, 1, 2, 3, 4, 5] rfl)⟩
              · replace c_52 := i_eq (x := z_51) (y := 32) rfl (show (32 : Int32).toInt = 32 by decide) c_52
                exact J_78 _ _ _ _ ⟨rfl, h, (lv_sub hl [0, 1, 2, 3, 4, 5] rfl)⟩
set_option maxHeartbeats 4000000 in
set_option maxRecDepth 100000 in
theorem gX5_read_b67bca9 (l : Launch) (D : va_G) (cy : Nat → ClassId) (h0 : Nat) (h1 : Nat) (h2 : Nat) (h3 : Nat) (h4 : Nat) (h5 : Nat) (h6 : Nat) (p0 : Int32) (p1 : Int32) (p2 : Int32) (p3 : Int32) (p4 : Int32) (o0 : Option Nat) (p5 : Int32) (p6 : Int32) (o1 : Option Nat) (p7 : Int32) (p8 : Int32) (f0 : Nat → Int32) (f1 : Nat → Int32) (f2 : Nat → Int32) (f3 : Nat → Int32) (f4 : Nat → Int32) (hp0 : 0 ≤ (p0).toInt ∧ (p0).toInt ≤ 900) (hp1 : (-1) ≤ (p1).toInt ∧ (p1).toInt ≤ 900) (hp2 : (-2147483648) ≤ (p2).toInt ∧ (p2).toInt ≤ 2147483647) (hp3 : (-2147483648) ≤ (p3).toInt ∧ (p3).toInt ≤ 2147483647) (hp4 : (-2147483648) ≤ (p4).toInt ∧ (p4).toInt ≤ 2147483647) (hp5 : 0 ≤ (p5).toInt ∧ (p5).toInt ≤ 900) (hp6 : (-2147483648) ≤ (p6).toInt ∧ (p6).toInt ≤ 2147483647) (hp7 : 0 ≤ (p7).toInt ∧ (p7).toInt ≤ 900) (hp8 : 0 ≤ (p8).toInt ∧ (p8).toInt ≤ 901) (sz : Nat) : MQw l yX5_read cX5_read 4 "OppositeHouse$House" { frames := 28, cells := ((p0).toInt.toNat + 20), slots := (451 * (p0).toInt.toNat + 2000), locals := 613 } [.ref h0, .ref h6, .int p0] D cy [(h0, .inr (5, [.ref h1, .int p1, .int p2, .int p3, .int p4, (va_rf o0), .ref h5, .int p5, .int p6])), (h1, .inr (8, [(va_rf o1), .int p7, .int p8, .ref h2, .ref h3, .ref h4])), (h2, .inl (cy 1, 901, .inl f0)), (h3, .inl (cy 1, 901, .inl f1)), (h4, .inl (cy 1, 901, .inl f2)), (h5, .inl (cy 1, 900, .inl f3)), (h6, .inl (cy 0, 900, .inl f4))] sz (fun r u => r = some (u.1.1 0) ∧ (0 ≤ (u.1.2.1 2 0).toInt ∧ (u.1.2.1 2 0).toInt ≤ 900) ∧ ((-2147483648) ≤ (u.1.2.1 3 0).toInt ∧ (u.1.2.1 3 0).toInt ≤ 2147483647) ∧ ((-2147483648) ≤ (u.1.2.1 4 0).toInt ∧ (u.1.2.1 4 0).toInt ≤ 2147483647) ∧ ((-2147483648) ≤ (u.1.2.1 5 0).toInt ∧ (u.1.2.1 5 0).toInt ≤ 2147483647) ∧ (0 ≤ (u.1.2.1 6 0).toInt ∧ (u.1.2.1 6 0).toInt ≤ 900) ∧ ((-2147483648) ≤ (u.1.2.1 7 0).toInt ∧ (u.1.2.1 7 0).toInt ≤ 2147483647) ∧ (0 ≤ (u.1.2.1 8 0).toInt ∧ (u.1.2.1 8 0).toInt ≤ 900) ∧ (0 ≤ (u.1.2.1 9 0).toInt ∧ (u.1.2.1 9 0).toInt ≤ 901) ∧ (1 ≤ (u.1.2.1 12 0).toInt ∧ (u.1.2.1 12 0).toInt ≤ 3) ∧ (0 ≤ (u.1.2.1 13 0).toInt ∧ (u.1.2.1 13 0).toInt ≤ 10) ∧ ((-2147483648) ≤ (u.1.2.1 14 0).toInt ∧ (u.1.2.1 14 0).toInt ≤ 2147483647) ∧ ((-2147483648) ≤ (u.1.2.1 15 0).toInt ∧ (u.1.2.1 15 0).toInt ≤ 2147483647) ∧ RG (u.1.2.1 16) 10 0 999 ∧ (LI cy u.2.1 (va_rf (u.2.2 0)) (va_rf (u.2.2 1)) (va_rf (u.2.2 2))) ∧ True) (fun u => [(h0, .inr (5, [.ref h1, .int (u.1.2.1 2 0), .int (u.1.2.1 3 0), .int (u.1.2.1 4 0), .int (u.1.2.1 5 0), .ref (u.1.1 0), .ref h5, .int (u.1.2.1 6 0), .int (u.1.2.1 7 0)])), (h1, .inr (8, [.ref h6, .int (u.1.2.1 8 0), .int (u.1.2.1 9 0), .ref h2, .ref h3, .ref h4])), (h2, .inl (cy 1, 901, .inl (u.1.2.1 10))), (h3, .inl (cy 1, 901, .inl (u.1.2.1 11))), (h4, .inl (cy 1, 901, .inl (u.1.2.1 1))), (h5, .inl (cy 1, 900, .inl (u.1.2.1 0))), (h6, .inl (cy 0, 900, .inl f4)), ((u.1.1 0), .inr (3, [.int (u.1.2.1 12 0), .int (u.1.2.1 13 0), .int (u.1.2.1 14 0), .int (u.1.2.1 15 0), (va_rf (u.2.2 0)), (va_rf (u.2.2 1)), (va_rf (u.2.2 2)), .ref (u.1.1 1), .ref (u.1.1 2), .ref (u.1.1 3), .ref (u.1.1 4), .ref (u.1.1 5)])), ((u.1.1 1), .inl (cy 1, 10, .inl (u.1.2.1 16))), ((u.1.1 2), .inl (cy 1, 10, .inl (u.1.2.1 17))), ((u.1.1 3), .inl (cy 1, 10, .inl (u.1.2.1 18))), ((u.1.1 4), .inl (cy 1, 10, .inl (u.1.2.1 19))), ((u.1.1 5), .inl (cy 1, 10, .inl (u.1.2.1 20)))]) ((p0).toInt.toNat + 20) (451 * (p0).toInt.toNat + 2000) := by
  refine q_ent (own := RX5) (by decide) rfl (Nat.le_of_ble_eq_true rfl) (fun p e s m below meth c ls X hr hlk hnm hK hT h hA hl => ?_)
  obtain ⟨hx, hb, hml, hown, ht⟩ := id X
  replace h : qW D _ _ ([(h0, .inr (5, [.ref h1, .int p1, .int p2, .int p3, .int p4, (va_rf o0), .ref h5, .int p5, .int p6])), (h1, .inr (8, [(va_rf o1), .int p7, .int p8, .ref h2, .ref h3, .ref h4])), (h2, .inl (cy 1, 901, .inl f0)), (h3, .inl (cy 1, 901, .inl f1)), (h4, .inl (cy 1, 901, .inl f2)), (h5, .inl (cy 1, 900, .inl f3)), (h6, .inl (cy 0, 900, .inl f4))] ++ []) _ _ := h
  replace hl : lv_has ls 4 [(0, .ref h0), (1, .ref h6), (2, .int p0)] := hl
  refine lv_aload_n hx hb dX5_read_0 rfl (lv_at hl 0 rfl) ?_
  refine q_get X hK h 0 rfl rfl wf_5 0 (by decide) rfl wm_1_144 dX5_read_1 ?_
  refine lv_aload_n hx hb dX5_read_4 rfl (lv_at hl 1 rfl) ?_
  refine lv_iload_n hx hb dX5_read_5 rfl (lv_at hl 2 rfl) ?_
  refine q_callVvT (rest := []) (wr := [(h0, .inr (5, [.ref h1, .int p1, .int p2, .int p3, .int p4, (va_rf o0), .ref h5, .int p5, .int p6])), (h5, .inl (cy 1, 900, .inl f3))]) X hK hT hA h (fun sz => gX8_cut_7ab6d9e l D cy h1 h2 h3 h4 h6 p0 o1 p7 p8 f0 f1 f2 f4 hp0 hp7 hp8 sz) wm_2_166 wm_2_169 wm_1_3 hd_X8_cut wm_2_167 wm_2_168 (ci := 8) (q0 := 0) rfl rfl ⟨Nat.le_of_ble_eq_true rfl, Nat.le_of_ble_eq_true rfl⟩ hl.1 rfl (Nat.le_of_ble_eq_true rfl) dX5_read_6 ⟨Nat.le_of_ble_eq_true rfl, Nat.le_of_ble_eq_true rfl⟩ [1, 2, 3, 4, 6] [0, 5] rfl rfl (by decide) rfl rfl (fun u_1 H locs w_1 h_1 => ?_)
  clear h
  obtain ⟨w1_0, w1_1, y1_0, y1_1, y1_2, _⟩ := w_1
  replace h_1 : qW D _ _ ([(h0, .inr (5, [.ref h1, .int p1, .int p2, .int p3, .int p4, (va_rf o0), .ref h5, .int p5, .int p6])), (h5, .inl (cy 1, 900, .inl f3)), (h1, .inr (8, [.ref h6, .int (u_1.2.1 0 0), .int (u_1.2.1 1 0), .ref h2, .ref h3, .ref h4])), (h2, .inl (cy 1, 901, .inl (u_1.2.1 2))), (h3, .inl (cy 1, 901, .inl (u_1.2.1 3))), (h4, .inl (cy 1, 901, .inl (u_1.2.1 4))), (h6, .inl (cy 0, 900, .inl f4))] ++ []) _ _ := h_1
  refine lv_aload_n hx hb dX5_read_9 rfl (lv_at hl 0 rfl) ?_
  refine lv_iconst (v := (-1)) hx hb dX5_read_10 (by decide) ?_
  refine q_put (v := .int (-1)) X hK h_1 0 rfl rfl wf_5 tyX5 tyX5_ok nmX5 1 (by decide) wm_1_145 rfl rfl rfl (Nat.le_of_ble_eq_true rfl) dX5_read_11 (fun H locs h_2 => ?_)
  clear h_1
  replace h_2 : qW D _ _ ([(h0, .inr (5, [.ref h1, .int (-1), .int p2, .int p3, .int p4, (va_rf o0), .ref h5, .int p5, .int p6])), (h5, .inl (cy 1, 900, .inl f3)), (h1, .inr (8, [.ref h6, .int (u_1.2.1 0 0), .int (u_1.2.1 1 0), .ref h2, .ref h3, .ref h4])), (h2, .inl (cy 1, 901, .inl (u_1.2.1 2))), (h3, .inl (cy 1, 901, .inl (u_1.2.1 3))), (h4, .inl (cy 1, 901, .inl (u_1.2.1 4))), (h6, .inl (cy 0, 900, .inl f4))] ++ []) _ _ := h_2
  refine lv_aload_n hx hb dX5_read_14 rfl (lv_at hl 0 rfl) ?_
  refine lv_iconst (v := 0) hx hb dX5_read_15 (by decide) ?_
  refine q_put (v := .int 0) X hK h_2 0 rfl rfl wf_5 tyX5 tyX5_ok nmX5 3 (by decide) wm_1_147 rfl rfl rfl (Nat.le_of_ble_eq_true rfl) dX5_read_16 (fun H locs h_3 => ?_)
  clear h_2
  replace h_3 : qW D _ _ ([(h0, .inr (5, [.ref h1, .int (-1), .int p2, .int 0, .int p4, (va_rf o0), .ref h5, .int p5, .int p6])), (h5, .inl (cy 1, 900, .inl f3)), (h1, .inr (8, [.ref h6, .int (u_1.2.1 0 0), .int (u_1.2.1 1 0), .ref h2, .ref h3, .ref h4])), (h2, .inl (cy 1, 901, .inl (u_1.2.1 2))), (h3, .inl (cy 1, 901, .inl (u_1.2.1 3))), (h4, .inl (cy 1, 901, .inl (u_1.2.1 4))), (h6, .inl (cy 0, 900, .inl f4))] ++ []) _ _ := h_3
  refine lv_aload_n hx hb dX5_read_19 rfl (lv_at hl 0 rfl) ?_
  refine lv_iconst (v := (-1)) hx hb dX5_read_20 (by decide) ?_
  refine q_put (v := .int (-1)) X hK h_3 0 rfl rfl wf_5 tyX5 tyX5_ok nmX5 4 (by decide) wm_1_149 rfl rfl rfl (Nat.le_of_ble_eq_true rfl) dX5_read_21 (fun H locs h_4 => ?_)
  clear h_3
  replace h_4 : qW D _ _ ([(h0, .inr (5, [.ref h1, .int (-1), .int p2, .int 0, .int (-1), (va_rf o0), .ref h5, .int p5, .int p6])), (h5, .inl (cy 1, 900, .inl f3)), (h1, .inr (8, [.ref h6, .int (u_1.2.1 0 0), .int (u_1.2.1 1 0), .ref h2, .ref h3, .ref h4])), (h2, .inl (cy 1, 901, .inl (u_1.2.1 2))), (h3, .inl (cy 1, 901, .inl (u_1.2.1 3))), (h4, .inl (cy 1, 901, .inl (u_1.2.1 4))), (h6, .inl (cy 0, 900, .inl f4))] ++ []) _ _ := h_4
  refine lv_aload_n hx hb dX5_read_24 rfl (lv_at hl 0 rfl) ?_
  refine q_new (fs := [.int 0, .int 0, .int 0, .int 0, .null, .null, .null, .null, .null, .null, .null, .null]) (ci := 3) X hK hA h_4 rfl wf_3 tyX3 tyX3_ok wm_1_68 wm_1_69 wm_1_4 df_3 (Nat.le_of_ble_eq_true rfl) (Nat.le_of_ble_eq_true rfl) dX5_read_25 (fun q_5 H h_5 => ?_)
  clear h_4
  replace h_5 : qW D _ _ ([(h0, .inr (5, [.ref h1, .int (-1), .int p2, .int 0, .int (-1), (va_rf o0), .ref h5, .int p5, .int p6])), (h5, .inl (cy 1, 900, .inl f3)), (h1, .inr (8, [.ref h6, .int (u_1.2.1 0 0), .int (u_1.2.1 1 0), .ref h2, .ref h3, .ref h4])), (h2, .inl (cy 1, 901, .inl (u_1.2.1 2))), (h3, .inl (cy 1, 901, .inl (u_1.2.1 3))), (h4, .inl (cy 1, 901, .inl (u_1.2.1 4))), (h6, .inl (cy 0, 900, .inl f4)), (q_5, .inr (3, [.int 0, .int 0, .int 0, .int 0, .null, .null, .null, .null, .null, .null, .null, .null]))] ++ []) _ _ := h_5
  refine lv_dup hx hb dX5_read_28 rfl ?_
  refine q_callNv (rest := [.ref q_5, .ref h0]) (wr := [(h0, .inr (5, [.ref h1, .int (-1), .int p2, .int 0, .int (-1), (va_rf o0), .ref h5, .int p5, .int p6])), (h5, .inl (cy 1, 900, .inl f3)), (h1, .inr (8, [.ref h6, .int (u_1.2.1 0 0), .int (u_1.2.1 1 0), .ref h2, .ref h3, .ref h4])), (h2, .inl (cy 1, 901, .inl (u_1.2.1 2))), (h3, .inl (cy 1, 901, .inl (u_1.2.1 3))), (h4, .inl (cy 1, 901, .inl (u_1.2.1 4))), (h6, .inl (cy 0, 900, .inl f4))]) X hK hT hA h_5 (fun sz => gX3_init_51a17bc l D cy q_5 (0 : Int32) (0 : Int32) (0 : Int32) (0 : Int32) Value.null ⟨by decide +kernel, by decide +kernel⟩ ⟨by decide +kernel, by decide +kernel⟩ ⟨by decide +kernel, by decide +kernel⟩ ⟨by decide +kernel, by decide +kernel⟩ sz) (List.mem_of_getElem? (i := 8) rfl) wm_1_72 wm_1_4 hd_X3_init wm_1_71 rfl ⟨Nat.le_of_ble_eq_true rfl, Nat.le_of_ble_eq_true rfl⟩ hl.1 rfl (Nat.le_of_ble_eq_true rfl) dX5_read_29 ⟨Nat.le_of_ble_eq_true rfl, Nat.le_of_ble_eq_true rfl⟩ [7] [0, 1, 2, 3, 4, 5, 6] rfl rfl (by decide) rfl rfl (fun u_6 H locs w_6 h_6 => ?_)
  clear h_5
  obtain ⟨w6_0, w6_1, w6_2, w6_3, _⟩ := w_6
  replace h_6 : qW D _ _ ([(h0, .inr (5, [.ref h1, .int (-1), .int p2, .int 0, .int (-1), (va_rf o0), .ref h5, .int p5, .int p6])), (h5, .inl (cy 1, 900, .inl f3)), (h1, .inr (8, [.ref h6, .int (u_1.2.1 0 0), .int (u_1.2.1 1 0), .ref h2, .ref h3, .ref h4])), (h2, .inl (cy 1, 901, .inl (u_1.2.1 2))), (h3, .inl (cy 1, 901, .inl (u_1.2.1 3))), (h4, .inl (cy 1, 901, .inl (u_1.2.1 4))), (h6, .inl (cy 0, 900, .inl f4)), (q_5, .inr (3, [.int (u_6.2.1 0 0), .int (u_6.2.1 1 0), .int (u_6.2.1 2 0), .int (u_6.2.1 3 0), .null, .null, .null, .ref (u_6.1 0), .ref (u_6.1 1), .ref (u_6.1 2), .ref (u_6.1 3), .ref (u_6.1 4)])), ((u_6.1 0), .inl (cy 1, 10, .inl (fun _ => 0))), ((u_6.1 1), .inl (cy 1, 10, .inl (fun _ => 0))), ((u_6.1 2), .inl (cy 1, 10, .inl (fun _ => 0))), ((u_6.1 3), .inl (cy 1, 10, .inl (fun _ => 0))), ((u_6.1 4), .inl (cy 1, 10, .inl (fun _ => 0)))] ++ []) _ _ := h_6
  refine q_put (v := .ref q_5) X hK h_6 0 rfl rfl wf_5 tyX5 tyX5_ok nmX5 5 (by decide) wm_1_151 rfl rfl rfl (Nat.le_of_ble_eq_true rfl) dX5_read_32 (fun H locs h_7 => ?_)
  clear h_6
  replace h_7 : qW D _ _ ([(h0, .inr (5, [.ref h1, .int (-1), .int p2, .int 0, .int (-1), .ref q_5, .ref h5, .int p5, .int p6])), (h5, .inl (cy 1, 900, .inl f3)), (h1, .inr (8, [.ref h6, .int (u_1.2.1 0 0), .int (u_1.2.1 1 0), .ref h2, .ref h3, .ref h4])), (h2, .inl (cy 1, 901, .inl (u_1.2.1 2))), (h3, .inl (cy 1, 901, .inl (u_1.2.1 3))), (h4, .inl (cy 1, 901, .inl (u_1.2.1 4))), (h6, .inl (cy 0, 900, .inl f4)), (q_5, .inr (3, [.int (u_6.2.1 0 0), .int (u_6.2.1 1 0), .int (u_6.2.1 2 0), .int (u_6.2.1 3 0), .null, .null, .null, .ref (u_6.1 0), .ref (u_6.1 1), .ref (u_6.1 2), .ref (u_6.1 3), .ref (u_6.1 4)])), ((u_6.1 0), .inl (cy 1, 10, .inl (fun _ => 0))), ((u_6.1 1), .inl (cy 1, 10, .inl (fun _ => 0))), ((u_6.1 2), .inl (cy 1, 10, .inl (fun _ => 0))), ((u_6.1 3), .inl (cy 1, 10, .inl (fun _ => 0))), ((u_6.1 4), .inl (cy 1, 10, .inl (fun _ => 0)))] ++ []) _ _ := h_7
  have lm_1 : ((-1) : Int32).toInt = -1 := by decide
  have lm_0 : (0 : Int32).toInt = 0 := by decide
  refine lv_aload_n hx hb dX5_read_35 rfl (lv_at hl 0 rfl) ?_
  refine q_callVvT (rest := []) (wr := [(h5, .inl (cy 1, 900, .inl f3)), (h4, .inl (cy 1, 901, .inl (u_1.2.1 4))), (h6, .inl (cy 0, 900, .inl f4)), (q_5, .inr (3, [.int (u_6.2.1 0 0), .int (u_6.2.1 1 0), .int (u_6.2.1 2 0), .int (u_6.2.1 3 0), .null, .null, .null, .ref (u_6.1 0), .ref (u_6.1 1), .ref (u_6.1 2), .ref (u_6.1 3), .ref (u_6.1 4)])), ((u_6.1 0), .inl (cy 1, 10, .inl (fun _ => 0))), ((u_6.1 1), .inl (cy 1, 10, .inl (fun _ => 0))), ((u_6.1 2), .inl (cy 1, 10, .inl (fun _ => 0))), ((u_6.1 3), .inl (cy 1, 10, .inl (fun _ => 0))), ((u_6.1 4), .inl (cy 1, 10, .inl (fun _ => 0)))]) X hK hT hA h_7 (fun sz => gX5_advance_9820dfe l D cy h0 h1 h2 h3 ((-1) : Int32) p2 (0 : Int32) ((-1) : Int32) (.ref q_5) (.ref h5) p5 p6 (.ref h6) (u_1.2.1 0 0) (u_1.2.1 1 0) (.ref h4) (u_1.2.1 2) (u_1.2.1 3) ⟨by decide +kernel, by decide +kernel⟩ (i_rng _) (i_rng _) (i_rng _) hp5 (i_rng _) w1_0 w1_1 (y1_1) (by have q0 : (0 : Int32).toInt = 0 := (by decide); omega) (by have q0 : ((-1) : Int32).toInt = -1 := (by decide); have q1 : (0 : Int32).toInt = 0 := (by decide); omega) sz) wm_3_68 wm_3_71 wm_1_2 hd_X5_advance wm_3_70 wp_1_8 (ci := 5) (q0 := 0) rfl rfl ⟨Nat.le_of_ble_eq_true rfl, Nat.le_of_ble_eq_true rfl⟩ hl.1 rfl (Nat.le_of_ble_eq_true rfl) dX5_read_36 ⟨Nat.le_of_ble_eq_true rfl, Nat.le_of_ble_eq_true rfl⟩ [0, 2, 3, 4] [1, 5, 6, 7, 8, 9, 10, 11, 12] rfl rfl (by decide) rfl rfl (fun u_8 H locs w_8 h_8 => ?_)
  clear h_7
  obtain ⟨w8_0, w8_1, w8_2, w8_3, y8_0, y8_1, y8_2, y8_3, y8_4, y8_5, _⟩ := w_8
  replace h_8 : qW D _ _ ([(h5, .inl (cy 1, 900, .inl f3)), (h4, .inl (cy 1, 901, .inl (u_1.2.1 4))), (h6, .inl (cy 0, 900, .inl f4)), (q_5, .inr (3, [.int (u_6.2.1 0 0), .int (u_6.2.1 1 0), .int (u_6.2.1 2 0), .int (u_6.2.1 3 0), .null, .null, .null, .ref (u_6.1 0), .ref (u_6.1 1), .ref (u_6.1 2), .ref (u_6.1 3), .ref (u_6.1 4)])), ((u_6.1 0), .inl (cy 1, 10, .inl (fun _ => 0))), ((u_6.1 1), .inl (cy 1, 10, .inl (fun _ => 0))), ((u_6.1 2), .inl (cy 1, 10, .inl (fun _ => 0))), ((u_6.1 3), .inl (cy 1, 10, .inl (fun _ => 0))), ((u_6.1 4), .inl (cy 1, 10, .inl (fun _ => 0))), (h0, .inr (5, [.ref h1, .int (u_8.2.1 0 0), .int (u_8.2.1 1 0), .int (u_8.2.1 2 0), .int (u_8.2.1 3 0), .ref q_5, .ref h5, .int p5, .int p6])), (h1, .inr (8, [.ref h6, .int (u_1.2.1 0 0), .int (u_1.2.1 1 0), .ref h2, .ref h3, .ref h4])), (h2, .inl (cy 1, 901, .inl (u_1.2.1 2))), (h3, .inl (cy 1, 901, .inl (u_1.2.1 3)))] ++ []) _ _ := h_8
  refine lv_aload_n hx hb dX5_read_39 rfl (lv_at hl 0 rfl) ?_
  refine lv_bipush (v := 11) hx hb dX5_read_40 (by decide) ?_
  refine q_callVvT (rest := []) (wr := [(h5, .inl (cy 1, 900, .inl f3)), (h4, .inl (cy 1, 901, .inl (u_1.2.1 4))), (h6, .inl (cy 0, 900, .inl f4)), (q_5, .inr (3, [.int (u_6.2.1 0 0), .int (u_6.2.1 1 0), .int (u_6.2.1 2 0), .int (u_6.2.1 3 0), .null, .null, .null, .ref (u_6.1 0), .ref (u_6.1 1), .ref (u_6.1 2), .ref (u_6.1 3), .ref (u_6.1 4)])), ((u_6.1 0), .inl (cy 1, 10, .inl (fun _ => 0))), ((u_6.1 1), .inl (cy 1, 10, .inl (fun _ => 0))), ((u_6.1 2), .inl (cy 1, 10, .inl (fun _ => 0))), ((u_6.1 3), .inl (cy 1, 10, .inl (fun _ => 0))), ((u_6.1 4), .inl (cy 1, 10, .inl (fun _ => 0)))]) X hK hT hA h_8 (fun sz => gX5_take_b81c5b0 l D cy h0 h1 h2 h3 (u_8.2.1 0 0) (u_8.2.1 1 0) (u_8.2.1 2 0) (u_8.2.1 3 0) (.ref q_5) (.ref h5) p5 p6 (.ref h6) (u_1.2.1 0 0) (u_1.2.1 1 0) (.ref h4) (u_1.2.1 2) (u_1.2.1 3) w8_0 (i_rng _) (i_rng _) (i_rng _) hp5 (i_rng _) w1_0 w1_1 (y1_1) (by omega) (by omega) (by omega) (by have q0 : (11 : Int32).toInt = 11 := (by decide); omega) sz) wm_3_72 wm_3_75 wm_1_2 hd_X5_take wm_3_74 wp_1_9 (ci := 5) (q0 := 0) rfl rfl ⟨Nat.le_of_ble_eq_true rfl, Nat.le_of_ble_eq_true rfl⟩ hl.1 rfl (Nat.le_of_ble_eq_true rfl) dX5_read_42 ⟨Nat.le_of_ble_eq_true rfl, Nat.le_of_ble_eq_true rfl⟩ [9, 10, 11, 12] [0, 1, 2, 3, 4, 5, 6, 7, 8] rfl rfl (by decide) rfl rfl (fun u_9 H locs w_9 h_9 => ?_)
  clear h_8
  obtain ⟨w9_0, w9_1, w9_2, w9_3, y9_0, y9_1, y9_2, y9_3, y9_4, y9_5, _⟩ := w_9
  have lq_9_1 : (11 : Int32).toInt = 11 := (by decide)
  replace h_9 : qW D _ _ ([(h5, .inl (cy 1, 900, .inl f3)), (h4, .inl (cy 1, 901, .inl (u_1.2.1 4))), (h6, .inl (cy 0, 900, .inl f4)), (q_5, .inr (3, [.int (u_6.2.1 0 0), .int (u_6.2.1 1 0), .int (u_6.2.1 2 0), .int (u_6.2.1 3 0), .null, .null, .null, .ref (u_6.1 0), .ref (u_6.1 1), .ref (u_6.1 2), .ref (u_6.1 3), .ref (u_6.1 4)])), ((u_6.1 0), .inl (cy 1, 10, .inl (fun _ => 0))), ((u_6.1 1), .inl (cy 1, 10, .inl (fun _ => 0))), ((u_6.1 2), .inl (cy 1, 10, .inl (fun _ => 0))), ((u_6.1 3), .inl (cy 1, 10, .inl (fun _ => 0))), ((u_6.1 4), .inl (cy 1, 10, .inl (fun _ => 0))), (h0, .inr (5, [.ref h1, .int (u_9.2.1 3 0), .int (u_9.2.1 0 0), .int (u_9.2.1 1 0), .int (u_9.2.1 2 0), .ref q_5, .ref h5, .int p5, .int p6])), (h1, .inr (8, [.ref h6, .int (u_1.2.1 0 0), .int (u_1.2.1 1 0), .ref h2, .ref h3, .ref h4])), (h2, .inl (cy 1, 901, .inl (u_1.2.1 2))), (h3, .inl (cy 1, 901, .inl (u_1.2.1 3)))] ++ []) _ _ := h_9
  refine lv_aload_n hx hb dX5_read_45 rfl (lv_at hl 0 rfl) ?_
  refine lv_bipush (v := 12) hx hb dX5_read_46 (by decide) ?_
  refine q_callVvT (rest := []) (wr := [(h5, .inl (cy 1, 900, .inl f3)), (h4, .inl (cy 1, 901, .inl (u_1.2.1 4))), (h6, .inl (cy 0, 900, .inl f4)), (q_5, .inr (3, [.int (u_6.2.1 0 0), .int (u_6.2.1 1 0), .int (u_6.2.1 2 0), .int (u_6.2.1 3 0), .null, .null, .null, .ref (u_6.1 0), .ref (u_6.1 1), .ref (u_6.1 2), .ref (u_6.1 3), .ref (u_6.1 4)])), ((u_6.1 0), .inl (cy 1, 10, .inl (fun _ => 0))), ((u_6.1 1), .inl (cy 1, 10, .inl (fun _ => 0))), ((u_6.1 2), .inl (cy 1, 10, .inl (fun _ => 0))), ((u_6.1 3), .inl (cy 1, 10, .inl (fun _ => 0))), ((u_6.1 4), .inl (cy 1, 10, .inl (fun _ => 0)))]) X hK hT hA h_9 (fun sz => gX5_take_b74706d l D cy h0 h1 h2 h3 (u_9.2.1 3 0) (u_9.2.1 0 0) (u_9.2.1 1 0) (u_9.2.1 2 0) (.ref q_5) (.ref h5) p5 p6 (.ref h6) (u_1.2.1 0 0) (u_1.2.1 1 0) (.ref h4) (u_1.2.1 2) (u_1.2.1 3) w9_3 (i_rng _) (i_rng _) (i_rng _) hp5 (i_rng _) w1_0 w1_1 (y1_1) (by omega) (by omega) (by omega) (by have q0 : (12 : Int32).toInt = 12 := (by decide); omega) sz) wm_3_72 wm_3_75 wm_1_2 hd_X5_take wm_3_74 wp_1_9 (ci := 5) (q0 := 0) rfl rfl ⟨Nat.le_of_ble_eq_true rfl, Nat.le_of_ble_eq_true rfl⟩ hl.1 rfl (Nat.le_of_ble_eq_true rfl) dX5_read_48 ⟨Nat.le_of_ble_eq_true rfl, Nat.le_of_ble_eq_true rfl⟩ [9, 10, 11, 12] [0, 1, 2, 3, 4, 5, 6, 7, 8] rfl rfl (by decide) rfl rfl (fun u_10 H locs w_10 h_10 => ?_)
  clear h_9
  obtain ⟨w10_0, w10_1, w10_2, w10_3, y10_0, y10_1, y10_2, y10_3, y10_4, y10_5, _⟩ := w_10
  have lq_10_1 : (12 : Int32).toInt = 12 := (by decide)
  replace h_10 : qW D _ _ ([(h5, .inl (cy 1, 900, .inl f3)), (h4, .inl (cy 1, 901, .inl (u_1.2.1 4))), (h6, .inl (cy 0, 900, .inl f4)), (q_5, .inr (3, [.int (u_6.2.1 0 0), .int (u_6.2.1 1 0), .int (u_6.2.1 2 0), .int (u_6.2.1 3 0), .null, .null, .null, .ref (u_6.1 0), .ref (u_6.1 1), .ref (u_6.1 2), .ref (u_6.1 3), .ref (u_6.1 4)])), ((u_6.1 0), .inl (cy 1, 10, .inl (fun _ => 0))), ((u_6.1 1), .inl (cy 1, 10, .inl (fun _ => 0))), ((u_6.1 2), .inl (cy 1, 10, .inl (fun _ => 0))), ((u_6.1 3), .inl (cy 1, 10, .inl (fun _ => 0))), ((u_6.1 4), .inl (cy 1, 10, .inl (fun _ => 0))), (h0, .inr (5, [.ref h1, .int (u_10.2.1 3 0), .int (u_10.2.1 0 0), .int (u_10.2.1 1 0), .int (u_10.2.1 2 0), .ref q_5, .ref h5, .int p5, .int p6])), (h1, .inr (8, [.ref h6, .int (u_1.2.1 0 0), .int (u_1.2.1 1 0), .ref h2, .ref h3, .ref h4])), (h2, .inl (cy 1, 901, .inl (u_1.2.1 2))), (h3, .inl (cy 1, 901, .inl (u_1.2.1 3)))] ++ []) _ _ := h_10
  refine lv_aload_n hx hb dX5_read_51 rfl (lv_at hl 0 rfl) ?_
  refine q_get X hK h_10 9 rfl rfl wf_5 5 (by decide) rfl wm_1_151 dX5_read_52 ?_
  refine lv_aload_n hx hb dX5_read_55 rfl (lv_at hl 0 rfl) ?_
  refine lv_iconst (v := 1) hx hb dX5_read_56 (by decide) ?_
  refine lv_iconst (v := 3) hx hb dX5_read_57 (by decide) ?_
  refine q_callViT (rest := [.ref q_5]) (wr := [(h5, .inl (cy 1, 900, .inl f3)), (h6, .inl (cy 0, 900, .inl f4)), (q_5, .inr (3, [.int (u_6.2.1 0 0), .int (u_6.2.1 1 0), .int (u_6.2.1 2 0), .int (u_6.2.1 3 0), .null, .null, .null, .ref (u_6.1 0), .ref (u_6.1 1), .ref (u_6.1 2), .ref (u_6.1 3), .ref (u_6.1 4)])), ((u_6.1 0), .inl (cy 1, 10, .inl (fun _ => 0))), ((u_6.1 1), .inl (cy 1, 10, .inl (fun _ => 0))), ((u_6.1 2), .inl (cy 1, 10, .inl (fun _ => 0))), ((u_6.1 3), .inl (cy 1, 10, .inl (fun _ => 0))), ((u_6.1 4), .inl (cy 1, 10, .inl (fun _ => 0)))]) X hK hT hA h_10 (fun sz => gX5_takeNumber_68d9e2c l D cy h0 h1 h2 h3 h4 (u_10.2.1 3 0) (u_10.2.1 0 0) (u_10.2.1 1 0) (u_10.2.1 2 0) (.ref q_5) (.ref h5) p5 p6 (.ref h6) (u_1.2.1 0 0) (u_1.2.1 1 0) (u_1.2.1 2) (u_1.2.1 3) (u_1.2.1 4) w10_3 (i_rng _) (i_rng _) (i_rng _) hp5 (i_rng _) w1_0 w1_1 (y1_1) (by omega) (by omega) (by omega) sz) wm_3_80 wm_3_83 wm_1_2 hd_X5_takeNumber wm_3_82 wp_1_11 (ci := 5) (q0 := 0) rfl rfl ⟨Nat.le_of_ble_eq_true rfl, Nat.le_of_ble_eq_true rfl⟩ hl.1 rfl (Nat.le_of_ble_eq_true rfl) dX5_read_58 ⟨Nat.le_of_ble_eq_true rfl, Nat.le_of_ble_eq_true rfl⟩ [9, 10, 11, 12, 1] [0, 2, 3, 4, 5, 6, 7, 8] rfl rfl (by decide) rfl rfl (fun r_11 u_11 H locs w_11 h_11 => ?_)
  clear h_10
  obtain ⟨wr_11, w11_0, w11_1, w11_2, w11_3, y11_0, y11_1, y11_2, y11_3, y11_4, y11_5, _⟩ := w_11
  have lq_11_1 : (1 : Int32).toInt = 1 := (by decide)
  have lq_11_2 : (3 : Int32).toInt = 3 := (by decide)
  replace h_11 : qW D _ _ ([(h5, .inl (cy 1, 900, .inl f3)), (h6, .inl (cy 0, 900, .inl f4)), (q_5, .inr (3, [.int (u_6.2.1 0 0), .int (u_6.2.1 1 0), .int (u_6.2.1 2 0), .int (u_6.2.1 3 0), .null, .null, .null, .ref (u_6.1 0), .ref (u_6.1 1), .ref (u_6.1 2), .ref (u_6.1 3), .ref (u_6.1 4)])), ((u_6.1 0), .inl (cy 1, 10, .inl (fun _ => 0))), ((u_6.1 1), .inl (cy 1, 10, .inl (fun _ => 0))), ((u_6.1 2), .inl (cy 1, 10, .inl (fun _ => 0))), ((u_6.1 3), .inl (cy 1, 10, .inl (fun _ => 0))), ((u_6.1 4), .inl (cy 1, 10, .inl (fun _ => 0))), (h0, .inr (5, [.ref h1, .int (u_11.2.1 0 0), .int (u_11.2.1 1 0), .int (u_11.2.1 2 0), .int (u_11.2.1 3 0), .ref q_5, .ref h5, .int p5, .int p6])), (h1, .inr (8, [.ref h6, .int (u_1.2.1 0 0), .int (u_1.2.1 1 0), .ref h2, .ref h3, .ref h4])), (h2, .inl (cy 1, 901, .inl (u_1.2.1 2))), (h3, .inl (cy 1, 901, .inl (u_1.2.1 3))), (h4, .inl (cy 1, 901, .inl (u_1.2.1 4)))] ++ []) _ _ := h_11
  refine q_put (v := .int r_11) X hK h_11 2 rfl rfl wf_3 tyX3 tyX3_ok nmX3 0 (by decide) wm_1_76 rfl rfl rfl (Nat.le_of_ble_eq_true rfl) dX5_read_61 (fun H locs h_12 => ?_)
  clear h_11
  replace h_12 : qW D _ _ ([(h5, .inl (cy 1, 900, .inl f3)), (h6, .inl (cy 0, 900, .inl f4)), (q_5, .inr (3, [.int r_11, .int (u_6.2.1 1 0), .int (u_6.2.1 2 0), .int (u_6.2.1 3 0), .null, .null, .null, .ref (u_6.1 0), .ref (u_6.1 1), .ref (u_6.1 2), .ref (u_6.1 3), .ref (u_6.1 4)])), ((u_6.1 0), .inl (cy 1, 10, .inl (fun _ => 0))), ((u_6.1 1), .inl (cy 1, 10, .inl (fun _ => 0))), ((u_6.1 2), .inl (cy 1, 10, .inl (fun _ => 0))), ((u_6.1 3), .inl (cy 1, 10, .inl (fun _ => 0))), ((u_6.1 4), .inl (cy 1, 10, .inl (fun _ => 0))), (h0, .inr (5, [.ref h1, .int (u_11.2.1 0 0), .int (u_11.2.1 1 0), .int (u_11.2.1 2 0), .int (u_11.2.1 3 0), .ref q_5, .ref h5, .int p5, .int p6])), (h1, .inr (8, [.ref h6, .int (u_1.2.1 0 0), .int (u_1.2.1 1 0), .ref h2, .ref h3, .ref h4])), (h2, .inl (cy 1, 901, .inl (u_1.2.1 2))), (h3, .inl (cy 1, 901, .inl (u_1.2.1 3))), (h4, .inl (cy 1, 901, .inl (u_1.2.1 4)))] ++ []) _ _ := h_12
  refine lv_aload_n hx hb dX5_read_64 rfl (lv_at hl 0 rfl) ?_
  refine lv_bipush (v := 59) hx hb dX5_read_65 (by decide) ?_
  refine q_callVvT (rest := []) (wr := [(h5, .inl (cy 1, 900, .inl f3)), (h6, .inl (cy 0, 900, .inl f4)), (q_5, .inr (3, [.int r_11, .int (u_6.2.1 1 0), .int (u_6.2.1 2 0), .int (u_6.2.1 3 0), .null, .null, .null, .ref (u_6.1 0), .ref (u_6.1 1), .ref (u_6.1 2), .ref (u_6.1 3), .ref (u_6.1 4)])), ((u_6.1 0), .inl (cy 1, 10, .inl (fun _ => 0))), ((u_6.1 1), .inl (cy 1, 10, .inl (fun _ => 0))), ((u_6.1 2), .inl (cy 1, 10, .inl (fun _ => 0))), ((u_6.1 3), .inl (cy 1, 10, .inl (fun _ => 0))), ((u_6.1 4), .inl (cy 1, 10, .inl (fun _ => 0))), (h4, .inl (cy 1, 901, .inl (u_1.2.1 4)))]) X hK hT hA h_12 (fun sz => gX5_take_4365b58 l D cy h0 h1 h2 h3 (u_11.2.1 0 0) (u_11.2.1 1 0) (u_11.2.1 2 0) (u_11.2.1 3 0) (.ref q_5) (.ref h5) p5 p6 (.ref h6) (u_1.2.1 0 0) (u_1.2.1 1 0) (.ref h4) (u_1.2.1 2) (u_1.2.1 3) w11_0 (i_rng _) (i_rng _) (i_rng _) hp5 (i_rng _) w1_0 w1_1 (y1_1) (by omega) (by omega) (by omega) (by have q0 : (59 : Int32).toInt = 59 := (by decide); omega) sz) wm_3_72 wm_3_75 wm_1_2 hd_X5_take wm_3_74 wp_1_9 (ci := 5) (q0 := 0) rfl rfl ⟨Nat.le_of_ble_eq_true rfl, Nat.le_of_ble_eq_true rfl⟩ hl.1 rfl (Nat.le_of_ble_eq_true rfl) dX5_read_67 ⟨Nat.le_of_ble_eq_true rfl, Nat.le_of_ble_eq_true rfl⟩ [8, 9, 10, 11] [0, 1, 2, 3, 4, 5, 6, 7, 12] rfl rfl (by decide) rfl rfl (fun u_13 H locs w_13 h_13 => ?_)
  clear h_12
  obtain ⟨w13_0, w13_1, w13_2, w13_3, y13_0, y13_1, y13_2, y13_3, y13_4, y13_5, _⟩ := w_13
  have lq_13_1 : (59 : Int32).toInt = 59 := (by decide)
  replace h_13 : qW D _ _ ([(h5, .inl (cy 1, 900, .inl f3)), (h6, .inl (cy 0, 900, .inl f4)), (q_5, .inr (3, [.int r_11, .int (u_6.2.1 1 0), .int (u_6.2.1 2 0), .int (u_6.2.1 3 0), .null, .null, .null, .ref (u_6.1 0), .ref (u_6.1 1), .ref (u_6.1 2), .ref (u_6.1 3), .ref (u_6.1 4)])), ((u_6.1 0), .inl (cy 1, 10, .inl (fun _ => 0))), ((u_6.1 1), .inl (cy 1, 10, .inl (fun _ => 0))), ((u_6.1 2), .inl (cy 1, 10, .inl (fun _ => 0))), ((u_6.1 3), .inl (cy 1, 10, .inl (fun _ => 0))), ((u_6.1 4), .inl (cy 1, 10, .inl (fun _ => 0))), (h4, .inl (cy 1, 901, .inl (u_1.2.1 4))), (h0, .inr (5, [.ref h1, .int (u_13.2.1 3 0), .int (u_13.2.1 0 0), .int (u_13.2.1 1 0), .int (u_13.2.1 2 0), .ref q_5, .ref h5, .int p5, .int p6])), (h1, .inr (8, [.ref h6, .int (u_1.2.1 0 0), .int (u_1.2.1 1 0), .ref h2, .ref h3, .ref h4])), (h2, .inl (cy 1, 901, .inl (u_1.2.1 2))), (h3, .inl (cy 1, 901, .inl (u_1.2.1 3)))] ++ []) _ _ := h_13
  refine lv_aload_n hx hb dX5_read_70 rfl (lv_at hl 0 rfl) ?_
  refine q_get X hK h_13 9 rfl rfl wf_5 5 (by decide) rfl wm_1_151 dX5_read_71 ?_
  refine lv_iconst (v := 1) hx hb dX5_read_74 (by decide) ?_
  refine q_put (v := .int 1) X hK h_13 2 rfl rfl wf_3 tyX3 tyX3_ok nmX3 2 (by decide) wm_1_88 rfl rfl rfl (Nat.le_of_ble_eq_true rfl) dX5_read_75 (fun H locs h_14 => ?_)
  clear h_13
  replace h_14 : qW D _ _ ([(h5, .inl (cy 1, 900, .inl f3)), (h6, .inl (cy 0, 900, .inl f4)), (q_5, .inr (3, [.int r_11, .int (u_6.2.1 1 0), .int 1, .int (u_6.2.1 3 0), .null, .null, .null, .ref (u_6.1 0), .ref (u_6.1 1), .ref (u_6.1 2), .ref (u_6.1 3), .ref (u_6.1 4)])), ((u_6.1 0), .inl (cy 1, 10, .inl (fun _ => 0))), ((u_6.1 1), .inl (cy 1, 10, .inl (fun _ => 0))), ((u_6.1 2), .inl (cy 1, 10, .inl (fun _ => 0))), ((u_6.1 3), .inl (cy 1, 10, .inl (fun _ => 0))), ((u_6.1 4), .inl (cy 1, 10, .inl (fun _ => 0))), (h4, .inl (cy 1, 901, .inl (u_1.2.1 4))), (h0, .inr (5, [.ref h1, .int (u_13.2.1 3 0), .int (u_13.2.1 0 0), .int (u_13.2.1 1 0), .int (u_13.2.1 2 0), .ref q_5, .ref h5, .int p5, .int p6])), (h1, .inr (8, [.ref h6, .int (u_1.2.1 0 0), .int (u_1.2.1 1 0), .ref h2, .ref h3, .ref h4])), (h2, .inl (cy 1, 901, .inl (u_1.2.1 2))), (h3, .inl (cy 1, 901, .inl (u_1.2.1 3)))] ++ []) _ _ := h_14
  refine lv_iconst (v := 0) hx hb dX5_read_78 (by decide) ?_
  refine lv_istore_n (lv' := [(3, .int 0), (0, .ref h0), (1, .ref h6), (2, .int p0)]) hx hb dX5_read_79 rfl hl (by decide) rfl (fun ls_15 hl_15 => ?_)
  clear hl
  refine W.widen (show 6 ≤ (6 + 2 * ((0 : Int32)).toInt.toNat) by decide) (show 62 ≤ (62 + 901 * ((0 : Int32)).toInt.toNat) by decide) (q_wlS (fun (q : Int32 × Int32 × Int32 × Int32 × Option Nat × Option Nat × Option Nat × Int32 × Int32 × Int32 × Int32 × Int32 × Int32) H locs ls => match q with | (v80_16_0, v80_16_1, v80_16_2, v80_16_3, v80_16_4, v80_16_5, v80_16_6, v80_16_13, v80_16_14, v80_16_15, v80_16_16, v80_16_17, v80_16_18) => ∃ v80_16_7 : Nat → Int32, ∃ v80_16_8 : Nat → Int32, ∃ v80_16_9 : Nat → Int32, ∃ v80_16_10 : Nat → Int32, ∃ v80_16_11 : Nat → Int32, ∃ v80_16_12 : Nat → Int32, ∃ v80_16_19 : va_W, (0 ≤ (v80_16_0).toInt ∧ (v80_16_0).toInt ≤ 901) ∧ (0 ≤ (v80_16_1).toInt ∧ (v80_16_1).toInt ≤ 10) ∧ ((-2147483648) ≤ (v80_16_2).toInt ∧ (v80_16_2).toInt ≤ 2147483647) ∧ ((-2147483648) ≤ (v80_16_3).toInt ∧ (v80_16_3).toInt ≤ 2147483647) ∧ (0 ≤ (v80_16_13).toInt ∧ (v80_16_13).toInt ≤ 900) ∧ ((-2147483648) ≤ (v80_16_14).toInt ∧ (v80_16_14).toInt ≤ 2147483647) ∧ ((-2147483648) ≤ (v80_16_15).toInt ∧ (v80_16_15).toInt ≤ 2147483647) ∧ ((-2147483648) ≤ (v80_16_16).toInt ∧ (v80_16_16).toInt ≤ 2147483647) ∧ (0 ≤ (v80_16_17).toInt ∧ (v80_16_17).toInt ≤ 900) ∧ ((-2147483648) ≤ (v80_16_18).toInt ∧ (v80_16_18).toInt ≤ 2147483647) ∧ RG v80_16_7 10 0 999 ∧ (KZ (u_1.2.1 2) ((u_1.2.1 1 0) : Int32).toInt) ∧ (0 ≤ (v80_16_13 : Int32).toInt ∧ (v80_16_13 : Int32).toInt < ((u_1.2.1 1 0) : Int32).toInt) ∧ ((v80_16_15 : Int32).toInt ≠ 0 ∨ (v80_16_14 : Int32).toInt = 26 ∨ (v80_16_14 : Int32).toInt = 27 ∨ (v80_16_13 : Int32).toInt + 1 < ((u_1.2.1 1 0) : Int32).toInt) ∧ ((v80_16_15 : Int32).toInt = 0 ∨ (v80_16_14 : Int32).toInt = 27) ∧ (2 * (v80_16_0 : Int32).toInt ≤ (v80_16_13 : Int32).toInt ∨ ((v80_16_15 : Int32).toInt ≠ 0 ∧ 2 * (v80_16_0 : Int32).toInt ≤ (v80_16_13 : Int32).toInt + 2)) ∧ (LI cy v80_16_19 (va_rf v80_16_4) (va_rf v80_16_5) (va_rf v80_16_6)) ∧ qW D (va_A [(h0, .inr (5, [.ref h1, .int p1, .int p2, .int p3, .int p4, (va_rf o0), .ref h5, .int p5, .int p6])), (h1, .inr (8, [(va_rf o1), .int p7, .int p8, .ref h2, .ref h3, .ref h4])), (h2, .inl (cy 1, 901, .inl f0)), (h3, .inl (cy 1, 901, .inl f1)), (h4, .inl (cy 1, 901, .inl f2)), (h5, .inl (cy 1, 900, .inl f3)), (h6, .inl (cy 0, 900, .inl f4))] sz) s.heap ([(h5, .inl (cy 1, 900, .inl v80_16_12)), (h6, .inl (cy 0, 900, .inl f4)), (q_5, .inr (3, [.int r_11, .int v80_16_1, .int v80_16_2, .int v80_16_3, (va_rf v80_16_4), (va_rf v80_16_5), (va_rf v80_16_6), .ref (u_6.1 0), .ref (u_6.1 1), .ref (u_6.1 2), .ref (u_6.1 3), .ref (u_6.1 4)])), ((u_6.1 0), .inl (cy 1, 10, .inl v80_16_7)), ((u_6.1 1), .inl (cy 1, 10, .inl v80_16_8)), ((u_6.1 2), .inl (cy 1, 10, .inl v80_16_9)), ((u_6.1 3), .inl (cy 1, 10, .inl v80_16_10)), ((u_6.1 4), .inl (cy 1, 10, .inl v80_16_11)), (h4, .inl (cy 1, 901, .inl (u_1.2.1 4))), (h0, .inr (5, [.ref h1, .int v80_16_13, .int v80_16_14, .int v80_16_15, .int v80_16_16, .ref q_5, .ref h5, .int v80_16_17, .int v80_16_18])), (h1, .inr (8, [.ref h6, .int (u_1.2.1 0 0), .int (u_1.2.1 1 0), .ref h2, .ref h3, .ref h4])), (h2, .inl (cy 1, 901, .inl (u_1.2.1 2))), (h3, .inl (cy 1, 901, .inl (u_1.2.1 3)))] ++ v80_16_19) H locs ∧ lv_has ls 4 [(0, .ref h0), (1, .ref h6), (2, .int p0), (3, .int v80_16_0)]) (fun (q : Int32 × Int32 × Int32 × Int32 × Option Nat × Option Nat × Option Nat × Int32 × Int32 × Int32 × Int32 × Int32 × Int32) => match q with | (v80_16_0, v80_16_1, v80_16_2, v80_16_3, v80_16_4, v80_16_5, v80_16_6, v80_16_13, v80_16_14, v80_16_15, v80_16_16, v80_16_17, v80_16_18) => (902 - (v80_16_0).toInt).toNat) (fun (q : Int32 × Int32 × Int32 × Int32 × Option Nat × Option Nat × Option Nat × Int32 × Int32 × Int32 × Int32 × Int32 × Int32) => match q with | (v80_16_0, v80_16_1, v80_16_2, v80_16_3, v80_16_4, v80_16_5, v80_16_6, v80_16_13, v80_16_14, v80_16_15, v80_16_16, v80_16_17, v80_16_18) => (6 + 2 * (v80_16_0).toInt.toNat)) (fun (q : Int32 × Int32 × Int32 × Int32 × Option Nat × Option Nat × Option Nat × Int32 × Int32 × Int32 × Int32 × Int32 × Int32) => match q with | (v80_16_0, v80_16_1, v80_16_2, v80_16_3, v80_16_4, v80_16_5, v80_16_6, v80_16_13, v80_16_14, v80_16_15, v80_16_16, v80_16_17, v80_16_18) => (62 + 901 * (v80_16_0).toInt.toNat)) (fun q_80 ih_80 H locs ls hP => ?_) (0, (u_6.2.1 1 0), 1, (u_6.2.1 3 0), none, none, none, (u_13.2.1 3 0), (u_13.2.1 0 0), (u_13.2.1 1 0), (u_13.2.1 2 0), p5, p6) ⟨(fun _ => 0), (fun _ => 0), (fun _ => 0), (fun _ => 0), (fun _ => 0), f3, [], ⟨by decide +kernel, by decide +kernel⟩, (bw w6_1 (by decide) (by decide)), ⟨by decide +kernel, by decide +kernel⟩, (bw w6_3 (by decide) (by decide)), ⟨by omega, by omega⟩, w13_0, w13_1, w13_2, hp5, hp6, (rg_zero _ (by decide) (by decide)), (y1_1), (by omega), (by omega), (by omega), (by have q0 : (0 : Int32).toInt = 0 := (by decide); omega), (li_0), h_14, (lv_sub hl_15 [1, 2, 3, 0] rfl)⟩)
  obtain ⟨v80_16_0, v80_16_1, v80_16_2, v80_16_3, v80_16_4, v80_16_5, v80_16_6, v80_16_13, v80_16_14, v80_16_15, v80_16_16, v80_16_17, v80_16_18⟩ := q_80
  obtain ⟨v80_16_7, v80_16_8, v80_16_9, v80_16_10, v80_16_11, v80_16_12, v80_16_19, hv80_16_0, hv80_16_1, hv80_16_2, hv80_16_3, hv80_16_13, hv80_16_14, hv80_16_15, hv80_16_16, hv80_16_17, hv80_16_18, rv80_16_7, x17_0, x18_1, x19_2, x20_3, x21_4, x22_5, h, hl⟩ := hP
  show W p l e _ s m _ below meth c H locs ((6 + 2 * (v80_16_0).toInt.toNat)) ((62 + 901 * (v80_16_0).toInt.toNat)) _ _
  refine lv_iload_n hx hb dX5_read_80 rfl (lv_at hl 3 rfl) ?_
  refine lv_aload_n hx hb dX5_read_81 rfl (lv_at hl 0 rfl) ?_
  refine q_get X hK h 9 rfl rfl wf_5 0 (by decide) rfl wm_1_144 dX5_read_82 ?_
  refine q_get X hK h 10 rfl rfl wf_8 2 (by decide) rfl wm_1_46 dX5_read_85 ?_
  refine q_jn (pc2 := 138) (fun H locs ls st => st = [] ∧ qW D (va_A [(h0, .inr (5, [.ref h1, .int p1, .int p2, .int p3, .int p4, (va_rf o0), .ref h5, .int p5, .int p6])), (h1, .inr (8, [(va_rf o1), .int p7, .int p8, .ref h2, .ref h3, .ref h4])), (h2, .inl (cy 1, 901, .inl f0)), (h3, .inl (cy 1, 901, .inl f1)), (h4, .inl (cy 1, 901, .inl f2)), (h5, .inl (cy 1, 900, .inl f3)), (h6, .inl (cy 0, 900, .inl f4))] sz) s.heap ([(h5, .inl (cy 1, 900, .inl v80_16_12)), (h6, .inl (cy 0, 900, .inl f4)), (q_5, .inr (3, [.int r_11, .int v80_16_1, .int v80_16_2, .int v80_16_3, (va_rf v80_16_4), (va_rf v80_16_5), (va_rf v80_16_6), .ref (u_6.1 0), .ref (u_6.1 1), .ref (u_6.1 2), .ref (u_6.1 3), .ref (u_6.1 4)])), ((u_6.1 0), .inl (cy 1, 10, .inl v80_16_7)), ((u_6.1 1), .inl (cy 1, 10, .inl v80_16_8)), ((u_6.1 2), .inl (cy 1, 10, .inl v80_16_9)), ((u_6.1 3), .inl (cy 1, 10, .inl v80_16_10)), ((u_6.1 4), .inl (cy 1, 10, .inl v80_16_11)), (h4, .inl (cy 1, 901, .inl (u_1.2.1 4))), (h0, .inr (5, [.ref h1, .int v80_16_13, .int v80_16_14, .int v80_16_15, .int v80_16_16, .ref q_5, .ref h5, .int v80_16_17, .int v80_16_18])), (h1, .inr (8, [.ref h6, .int (u_1.2.1 0 0), .int (u_1.2.1 1 0), .ref h2, .ref h3, .ref h4])), (h2, .inl (cy 1, 901, .inl (u_1.2.1 2))), (h3, .inl (cy 1, 901, .inl (u_1.2.1 3)))] ++ v80_16_19) H locs ∧ lv_has ls 4 [(0, .ref h0), (1, .ref h6), (2, .int p0), (3, .int v80_16_0)]) (fun H locs ls st hP => ?_) (fun J_138 => ?_)
  · obtain ⟨rfl, h, hl⟩ := hP
    refine lv_aload_n hx hb dX5_read_138 rfl (lv_at hl 0 rfl) ?_
    refine q_get X hK h 9 rfl rfl wf_5 5 (by decide) rfl wm_1_151 dX5_read_139 ?_
    exact q_qretW X hr hlk hK h (some q_5) rfl [] ((fun k => List.getD [q_5, (u_6.1 0), (u_6.1 1), (u_6.1 2), (u_6.1 3), (u_6.1 4)] k 0, fun k => List.getD [v80_16_12, (u_1.2.1 4), (fun _ => v80_16_13), (fun _ => v80_16_14), (fun _ => v80_16_15), (fun _ => v80_16_16), (fun _ => v80_16_17), (fun _ => v80_16_18), (fun _ => (u_1.2.1 0 0)), (fun _ => (u_1.2.1 1 0)), (u_1.2.1 2), (u_1.2.1 3), (fun _ => r_11), (fun _ => v80_16_1), (fun _ => v80_16_2), (fun _ => v80_16_3), v80_16_7, v80_16_8, v80_16_9, v80_16_10, v80_16_11] k (fun _ => 0), fun _ _ => 0), ([] ++ v80_16_19), fun k => List.getD [v80_16_4, v80_16_5, v80_16_6] k none) rfl ⟨rfl, (hv80_16_13 : 0 ≤ (v80_16_13 : Int32).toInt ∧ (v80_16_13 : Int32).toInt ≤ 900), (hv80_16_14 : (-2147483648) ≤ (v80_16_14 : Int32).toInt ∧ (v80_16_14 : Int32).toInt ≤ 2147483647), (hv80_16_15 : (-2147483648) ≤ (v80_16_15 : Int32).toInt ∧ (v80_16_15 : Int32).toInt ≤ 2147483647), (hv80_16_16 : (-2147483648) ≤ (v80_16_16 : Int32).toInt ∧ (v80_16_16 : Int32).toInt ≤ 2147483647), (hv80_16_17 : 0 ≤ (v80_16_17 : Int32).toInt ∧ (v80_16_17 : Int32).toInt ≤ 900), (hv80_16_18 : (-2147483648) ≤ (v80_16_18 : Int32).toInt ∧ (v80_16_18 : Int32).toInt ≤ 2147483647), (w1_0 : 0 ≤ ((u_1.2.1 0 0) : Int32).toInt ∧ ((u_1.2.1 0 0) : Int32).toInt ≤ 900), (w1_1 : 0 ≤ ((u_1.2.1 1 0) : Int32).toInt ∧ ((u_1.2.1 1 0) : Int32).toInt ≤ 901), (⟨by omega, by omega⟩ : 1 ≤ (r_11 : Int32).toInt ∧ (r_11 : Int32).toInt ≤ 3), (⟨by omega, by omega⟩ : 0 ≤ (v80_16_1 : Int32).toInt ∧ (v80_16_1 : Int32).toInt ≤ 10), (⟨by omega, by omega⟩ : (-2147483648) ≤ (v80_16_2 : Int32).toInt ∧ (v80_16_2 : Int32).toInt ≤ 2147483647), (⟨by omega, by omega⟩ : (-2147483648) ≤ (v80_16_3 : Int32).toInt ∧ (v80_16_3 : Int32).toInt ≤ 2147483647), (rg_wide rv80_16_7 (by decide) (by decide)), (show LI cy ([] ++ v80_16_19) (va_rf v80_16_4) (va_rf v80_16_5) (va_rf v80_16_6) from x22_5), trivial⟩ [9, 10, 11, 12, 8, 0, 1, 2, 3, 4, 5, 6, 7] rfl rfl dX5_read_142 (by show (6 + 2 * (v80_16_0).toInt.toNat) ≤ ((p0).toInt.toNat + 20); omega) (by show (62 + 901 * (v80_16_0).toInt.toNat) ≤ (451 * (p0).toInt.toNat + 2000); omega)
  · skip
    refine lv_icmp_ge (tgt := 138) hx hb dX5_read_88 (by decide) (fun c_24 => ?_) (fun c_24 => ?_)
    · replace c_24 := i_le (x := (u_1.2.1 1 0)) (y := v80_16_0) rfl rfl c_24
      exact J_138 _ _ _ _ ⟨rfl, h, (lv_sub hl [0, 1, 2, 3] rfl)⟩
    · replace c_24 := i_nle (x := (u_1.2.1 1 0)) (y := v80_16_0) rfl rfl c_24
      refine lv_aload_n hx hb dX5_read_91 rfl (lv_at hl 0 rfl) ?_
      refine q_get X hK h 9 rfl rfl wf_5 2 (by decide) rfl wm_1_146 dX5_read_92 ?_
      refine lv_bipush (v := 26) hx hb dX5_read_95 (by decide) ?_
      refine lv_icmp_eq (tgt := 138) hx hb dX5_read_97 (by decide) (fun c_25 => ?_) (fun c_25 => ?_)
      · replace c_25 := i_eq (x := v80_16_14) (y := 26) rfl (show (26 : Int32).toInt = 26 by decide) c_25
        exact J_138 _ _ _ _ ⟨rfl, h, (lv_sub hl [0, 1, 2, 3] rfl)⟩
      · replace c_25 := i_ne (x := v80_16_14) (y := 26) rfl (show (26 : Int32).toInt = 26 by decide) c_25
        refine lv_aload_n hx hb dX5_read_100 rfl (lv_at hl 0 rfl) ?_
        refine q_get X hK h 9 rfl rfl wf_5 2 (by decide) rfl wm_1_146 dX5_read_101 ?_
        refine lv_bipush (v := 27) hx hb dX5_read_104 (by decide) ?_
        refine lv_icmp_eq (tgt := 138) hx hb dX5_read_106 (by decide) (fun c_26 => ?_) (fun c_26 => ?_)
        · replace c_26 := i_eq (x := v80_16_14) (y := 27) rfl (show (27 : Int32).toInt = 27 by decide) c_26
          exact J_138 _ _ _ _ ⟨rfl, h, (lv_sub hl [0, 1, 2, 3] rfl)⟩
        · replace c_26 := i_ne (x := v80_16_14) (y := 27) rfl (show (27 : Int32).toInt = 27 by decide) c_26
          refine lv_aload_n hx hb dX5_read_109 rfl (lv_at hl 0 rfl) ?_
          refine q_callVvW (rest := []) (wr := [(h6, .inl (cy 0, 900, .inl f4))]) X hK hT hA h (fun sz => gX5_readLine_ab75d68 l D cy h0 h1 h2 h3 h4 q_5 (u_6.1 0) (u_6.1 1) (u_6.1 2) (u_6.1 3) (u_6.1 4) h5 v80_16_13 v80_16_14 v80_16_15 v80_16_16 v80_16_17 v80_16_18 (.ref h6) (u_1.2.1 0 0) (u_1.2.1 1 0) (u_1.2.1 2) (u_1.2.1 3) (u_1.2.1 4) r_11 v80_16_1 v80_16_2 v80_16_3 v80_16_4 v80_16_5 v80_16_6 v80_16_7 v80_16_8 v80_16_9 v80_16_10 v80_16_11 v80_16_12 (bw hv80_16_13 (by decide) (by decide)) (i_rng _) (i_rng _) (i_rng _) hv80_16_17 (i_rng _) w1_0 w1_1 wr_11 hv80_16_1 (i_rng _) (i_rng _) (rg_wide rv80_16_7 (by decide) (by decide)) (x17_0) (by omega) (by omega) (by omega) (by omega) sz) wm_3_84 wm_3_87 wm_1_2 hd_X5_readLine wm_3_86 wp_1_12 (ci := 5) (q0 := 0) rfl rfl ⟨Nat.le_of_ble_eq_true rfl, Nat.le_of_ble_eq_true rfl⟩ hl.1 rfl (Nat.le_of_ble_eq_true rfl) dX5_read_110 ⟨by show (6 + 2 * (v80_16_0).toInt.toNat) + 2 ≤ ((p0).toInt.toNat + 20); omega, by show (62 + 901 * (v80_16_0).toInt.toNat) + 901 ≤ (451 * (p0).toInt.toNat + 2000); omega⟩ [9, 10, 11, 12, 8, 2, 3, 4, 5, 6, 7, 0] [1] rfl rfl (by decide) rfl rfl (fun u_27 H locs w_27 h_27 => ?_)
          clear h
          obtain ⟨w27_0, w27_1, w27_2, w27_3, w27_4, w27_5, w27_6, w27_7, w27_8, y27_0, y27_1, y27_2, y27_3, y27_4, y27_5, y27_6, _⟩ := w_27
          replace h_27 : qW D _ _ ([(h6, .inl (cy 0, 900, .inl f4)), (h0, .inr (5, [.ref h1, .int (u_27.1.2.1 0 0), .int (u_27.1.2.1 1 0), .int (u_27.1.2.1 2 0), .int (u_27.1.2.1 3 0), .ref q_5, .ref h5, .int (u_27.1.2.1 4 0), .int (u_27.1.2.1 5 0)])), (h1, .inr (8, [.ref h6, .int (u_1.2.1 0 0), .int (u_1.2.1 1 0), .ref h2, .ref h3, .ref h4])), (h2, .inl (cy 1, 901, .inl (u_1.2.1 2))), (h3, .inl (cy 1, 901, .inl (u_1.2.1 3))), (h4, .inl (cy 1, 901, .inl (u_1.2.1 4))), (q_5, .inr (3, [.int r_11, .int (u_27.1.2.1 6 0), .int v80_16_2, .int (u_27.1.2.1 7 0), (va_rf (u_27.2.2 0)), (va_rf (u_27.2.2 1)), (va_rf (u_27.2.2 2)), .ref (u_6.1 0), .ref (u_6.1 1), .ref (u_6.1 2), .ref (u_6.1 3), .ref (u_6.1 4)])), ((u_6.1 0), .inl (cy 1, 10, .inl (u_27.1.2.1 8))), ((u_6.1 1), .inl (cy 1, 10, .inl (u_27.1.2.1 9))), ((u_6.1 2), .inl (cy 1, 10, .inl (u_27.1.2.1 10))), ((u_6.1 3), .inl (cy 1, 10, .inl (u_27.1.2.1 11))), ((u_6.1 4), .inl (cy 1, 10, .inl (u_27.1.2.1 12))), (h5, .inl (cy 1, 900, .inl (u_27.1.2.1 13)))] ++ (u_27.2.1 ++ v80_16_19)) _ _ := h_27
          refine lv_aload_n hx hb dX5_read_113 rfl (lv_at hl 0 rfl) ?_
          refine lv_bipush (v := 59) hx hb dX5_read_114 (by decide) ?_
          refine q_callVvT (rest := []) (wr := [(h6, .inl (cy 0, 900, .inl f4)), (h4, .inl (cy 1, 901, .inl (u_1.2.1 4))), (q_5, .inr (3, [.int r_11, .int (u_27.1.2.1 6 0), .int v80_16_2, .int (u_27.1.2.1 7 0), (va_rf (u_27.2.2 0)), (va_rf (u_27.2.2 1)), (va_rf (u_27.2.2 2)), .ref (u_6.1 0), .ref (u_6.1 1), .ref (u_6.1 2), .ref (u_6.1 3), .ref (u_6.1 4)])), ((u_6.1 0), .inl (cy 1, 10, .inl (u_27.1.2.1 8))), ((u_6.1 1), .inl (cy 1, 10, .inl (u_27.1.2.1 9))), ((u_6.1 2), .inl (cy 1, 10, .inl (u_27.1.2.1 10))), ((u_6.1 3), .inl (cy 1, 10, .inl (u_27.1.2.1 11))), ((u_6.1 4), .inl (cy 1, 10, .inl (u_27.1.2.1 12))), (h5, .inl (cy 1, 900, .inl (u_27.1.2.1 13)))]) X hK hT hA h_27 (fun sz => gX5_take_4365b58 l D cy h0 h1 h2 h3 (u_27.1.2.1 0 0) (u_27.1.2.1 1 0) (u_27.1.2.1 2 0) (u_27.1.2.1 3 0) (.ref q_5) (.ref h5) (u_27.1.2.1 4 0) (u_27.1.2.1 5 0) (.ref h6) (u_1.2.1 0 0) (u_1.2.1 1 0) (.ref h4) (u_1.2.1 2) (u_1.2.1 3) w27_0 (i_rng _) (i_rng _) (i_rng _) w27_4 (i_rng _) w1_0 w1_1 (x17_0) (by omega) (by omega) (by omega) (by have q0 : (59 : Int32).toInt = 59 := (by decide); omega) sz) wm_3_72 wm_3_75 wm_1_2 hd_X5_take wm_3_74 wp_1_9 (ci := 5) (q0 := 0) rfl rfl ⟨Nat.le_of_ble_eq_true rfl, Nat.le_of_ble_eq_true rfl⟩ hl.1 rfl (Nat.le_of_ble_eq_true rfl) dX5_read_116 ⟨by show (6 + 2 * (v80_16_0).toInt.toNat) + 2 + 0 ≤ ((p0).toInt.toNat + 20); omega, by show (62 + 901 * (v80_16_0).toInt.toNat) + 901 + 0 ≤ (451 * (p0).toInt.toNat + 2000); omega⟩ [1, 2, 3, 4] [0, 5, 6, 7, 8, 9, 10, 11, 12] rfl rfl (by decide) rfl rfl (fun u_28 H locs w_28 h_28 => ?_)
          clear h_27
          obtain ⟨w28_0, w28_1, w28_2, w28_3, y28_0, y28_1, y28_2, y28_3, y28_4, y28_5, _⟩ := w_28
          have lq_28_1 : (59 : Int32).toInt = 59 := (by decide)
          replace h_28 : qW D _ _ ([(h6, .inl (cy 0, 900, .inl f4)), (h4, .inl (cy 1, 901, .inl (u_1.2.1 4))), (q_5, .inr (3, [.int r_11, .int (u_27.1.2.1 6 0), .int v80_16_2, .int (u_27.1.2.1 7 0), (va_rf (u_27.2.2 0)), (va_rf (u_27.2.2 1)), (va_rf (u_27.2.2 2)), .ref (u_6.1 0), .ref (u_6.1 1), .ref (u_6.1 2), .ref (u_6.1 3), .ref (u_6.1 4)])), ((u_6.1 0), .inl (cy 1, 10, .inl (u_27.1.2.1 8))), ((u_6.1 1), .inl (cy 1, 10, .inl (u_27.1.2.1 9))), ((u_6.1 2), .inl (cy 1, 10, .inl (u_27.1.2.1 10))), ((u_6.1 3), .inl (cy 1, 10, .inl (u_27.1.2.1 11))), ((u_6.1 4), .inl (cy 1, 10, .inl (u_27.1.2.1 12))), (h5, .inl (cy 1, 900, .inl (u_27.1.2.1 13))), (h0, .inr (5, [.ref h1, .int (u_28.2.1 3 0), .int (u_28.2.1 0 0), .int (u_28.2.1 1 0), .int (u_28.2.1 2 0), .ref q_5, .ref h5, .int (u_27.1.2.1 4 0), .int (u_27.1.2.1 5 0)])), (h1, .inr (8, [.ref h6, .int (u_1.2.1 0 0), .int (u_1.2.1 1 0), .ref h2, .ref h3, .ref h4])), (h2, .inl (cy 1, 901, .inl (u_1.2.1 2))), (h3, .inl (cy 1, 901, .inl (u_1.2.1 3)))] ++ (u_27.2.1 ++ v80_16_19)) _ _ := h_28
          refine lv_aload_n hx hb dX5_read_119 rfl (lv_at hl 0 rfl) ?_
          refine q_get X hK h_28 9 rfl rfl wf_5 5 (by decide) rfl wm_1_151 dX5_read_120 ?_
          refine lv_dup hx hb dX5_read_123 rfl ?_
          refine q_get X hK h_28 2 rfl rfl wf_3 2 (by decide) rfl wm_1_88 dX5_read_124 ?_
          refine lv_iconst (v := 1) hx hb dX5_read_127 (by decide) ?_
          refine lv_iadd hx hb dX5_read_128 ?_
          refine q_any (fun z_29 hz_29 => ?_)
          refine q_put (v := .int z_29) X hK h_28 2 rfl rfl wf_3 tyX3 tyX3_ok nmX3 2 (by decide) wm_1_88 rfl rfl rfl (Nat.le_of_ble_eq_true rfl) dX5_read_129 (fun H locs h_30 => ?_)
          clear h_28
          replace h_30 : qW D _ _ ([(h6, .inl (cy 0, 900, .inl f4)), (h4, .inl (cy 1, 901, .inl (u_1.2.1 4))), (q_5, .inr (3, [.int r_11, .int (u_27.1.2.1 6 0), .int z_29, .int (u_27.1.2.1 7 0), (va_rf (u_27.2.2 0)), (va_rf (u_27.2.2 1)), (va_rf (u_27.2.2 2)), .ref (u_6.1 0), .ref (u_6.1 1), .ref (u_6.1 2), .ref (u_6.1 3), .ref (u_6.1 4)])), ((u_6.1 0), .inl (cy 1, 10, .inl (u_27.1.2.1 8))), ((u_6.1 1), .inl (cy 1, 10, .inl (u_27.1.2.1 9))), ((u_6.1 2), .inl (cy 1, 10, .inl (u_27.1.2.1 10))), ((u_6.1 3), .inl (cy 1, 10, .inl (u_27.1.2.1 11))), ((u_6.1 4), .inl (cy 1, 10, .inl (u_27.1.2.1 12))), (h5, .inl (cy 1, 900, .inl (u_27.1.2.1 13))), (h0, .inr (5, [.ref h1, .int (u_28.2.1 3 0), .int (u_28.2.1 0 0), .int (u_28.2.1 1 0), .int (u_28.2.1 2 0), .ref q_5, .ref h5, .int (u_27.1.2.1 4 0), .int (u_27.1.2.1 5 0)])), (h1, .inr (8, [.ref h6, .int (u_1.2.1 0 0), .int (u_1.2.1 1 0), .ref h2, .ref h3, .ref h4])), (h2, .inl (cy 1, 901, .inl (u_1.2.1 2))), (h3, .inl (cy 1, 901, .inl (u_1.2.1 3)))] ++ (u_27.2.1 ++ v80_16_19)) _ _ := h_30
          obtain ⟨z_31, ez_31, hz_31⟩ := e_add (x := v80_16_0) (y := Int32.ofInt 1) rfl (b := 1) (by decide) (by omega) (by omega)
          refine lv_iinc (v := z_31) (lv' := [(3, .int z_31), (0, .ref h0), (1, .ref h6), (2, .int p0)]) hx hb dX5_read_132 hl (k := 3) rfl ez_31 (by decide) rfl (fun ls_31 hl_31 => ?_)
          clear hl
          refine lv_goto (tgt := 80) hx hb dX5_read_135 (by decide) ?_
          exact W.widen (by show (6 + 2 * (v80_16_0).toInt.toNat) + 2 ≤ (6 + 2 * (z_31).toInt.toNat); omega) (by show (62 + 901 * (v80_16_0).toInt.toNat) + 901 ≤ (62 + 901 * (z_31).toInt.toNat); omega) (ih_80 (z_31, (u_27.1.2.1 6 0), z_29, (u_27.1.2.1 7 0), (u_27.2.2 0), (u_27.2.2 1), (u_27.2.2 2), (u_28.2.1 3 0), (u_28.2.1 0 0), (u_28.2.1 1 0), (u_28.2.1 2 0), (u_27.1.2.1 4 0), (u_27.1.2.1 5 0)) (by show (902 - (z_31).toInt).toNat < (902 - (v80_16_0).toInt).toNat; omega) _ _ _ ⟨(u_27.1.2.1 8), (u_27.1.2.1 9), (u_27.1.2.1 10), (u_27.1.2.1 11), (u_27.1.2.1 12), (u_27.1.2.1 13), (u_27.2.1 ++ v80_16_19), ⟨by omega, by omega⟩, w27_6, ⟨by omega, by omega⟩, w27_7, ⟨by omega, by omega⟩, w28_0, w28_1, w28_2, w27_4, w27_5, (rg_wide w27_8 (by decide) (by decide)), (x17_0), (by omega), (by omega), (by omega), (by omega), (li_step x22_5 y27_6 h_30.2.1), (q_reT h_30 [8, 0, 2, 3, 4, 5, 6, 7, 1, 9, 10, 11, 12] rfl rfl), (lv_sub hl_31 [1, 2, 3, 0] rfl)⟩)
set_option maxHeartbeats 4000000 in
set_option maxRecDepth 100000 in
theorem gX7_begin_537f01a (l : Launch) (D : va_G) (cy : Nat → ClassId) (h0 : Nat) (h1 : Nat) (h2 : Nat) (h3 : Nat) (h4 : Nat) (p0 : Int32) (p1 : Int32) (f0 : Nat → Int32) (p2 : Int32) (p3 : Int32) (p4 : Int32) (p5 : Int32) (w0 : Value) (w1 : Value) (w2 : Value) (w3 : Value) (w4 : Value) (w5 : Value) (w6 : Value) (f1 : Nat → Int32) (hp0 : (-2147483648) ≤ (p0).toInt ∧ (p0).toInt ≤ 2147483647) (hp1 : (-2147483648) ≤ (p1).toInt ∧ (p1).toInt ≤ 2147483647) (hp2 : 1 ≤ (p2).toInt ∧ (p2).toInt ≤ 3) (hp3 : 0 ≤ (p3).toInt ∧ (p3).toInt ≤ 10) (hp4 : (-2147483648) ≤ (p4).toInt ∧ (p4).toInt ≤ 2147483647) (hp5 : (-2147483648) ≤ (p5).toInt ∧ (p5).toInt ≤ 2147483647) (rf0 : RG f0 10 0 999) (rf1 : RG f1 10 0 999) (sz : Nat) : MV l yX7_begin cX7_begin 2 { frames := 1, cells := 0, slots := 0, locals := 40 } [.ref h0, .ref h2] D cy [(h0, .inr (7, [.ref h4, .int p0, .int p1, .ref h1])), (h1, .inl (cy 1, 10, .inl f0)), (h2, .inr (3, [.int p2, .int p3, .int p4, .int p5, w0, w1, w2, .ref h3, w3, w4, w5, w6])), (h3, .inl (cy 1, 10, .inl f1))] sz (fun u => ((-2147483648) ≤ (u.2.1 0 0).toInt ∧ (u.2.1 0 0).toInt ≤ 2147483647) ∧ (0 ≤ (u.2.1 1 0).toInt ∧ (u.2.1 1 0).toInt ≤ 0) ∧ RG (u.2.1 2) 10 0 999 ∧ True) (fun u => [(h0, .inr (7, [.ref h2, .int (u.2.1 0 0), .int (u.2.1 1 0), .ref h1])), (h1, .inl (cy 1, 10, .inl (u.2.1 2))), (h2, .inr (3, [.int p2, .int p3, .int p4, .int p5, w0, w1, w2, .ref h3, w3, w4, w5, w6])), (h3, .inl (cy 1, 10, .inl f1))]) 0 0 := by
  refine q_ent (own := RX7) (by decide) rfl (Nat.le_of_ble_eq_true rfl) (fun p e s m below meth c ls X hr hlk hnm hK hT h hA hl => ?_)
  obtain ⟨hx, hb, hml, hown, ht⟩ := id X
  replace hl : lv_has ls 2 [(0, .ref h0), (1, .ref h2)] := hl
  refine lv_aload_n hx hb dX7_begin_0 rfl (lv_at hl 0 rfl) ?_
  refine lv_aload_n hx hb dX7_begin_1 rfl (lv_at hl 1 rfl) ?_
  refine q_put (v := .ref h2) X hK h 0 rfl rfl wf_7 tyX7 tyX7_ok nmX7 0 (by decide) wm_2_37 rfl rfl rfl (Nat.le_of_ble_eq_true rfl) dX7_begin_2 (fun H locs h_1 => ?_)
  clear h
  replace h_1 : qW D _ _ [(h0, .inr (7, [.ref h2, .int p0, .int p1, .ref h1])), (h1, .inl (cy 1, 10, .inl f0)), (h2, .inr (3, [.int p2, .int p3, .int p4, .int p5, w0, w1, w2, .ref h3, w3, w4, w5, w6])), (h3, .inl (cy 1, 10, .inl f1))] _ _ := h_1
  refine lv_aload_n hx hb dX7_begin_5 rfl (lv_at hl 0 rfl) ?_
  refine lv_aload_n hx hb dX7_begin_6 rfl (lv_at hl 1 rfl) ?_
  refine q_get X hK h_1 2 rfl rfl wf_3 3 (by decide) rfl wm_1_91 dX7_begin_7 ?_
  refine q_put (v := .int p5) X hK h_1 0 rfl rfl wf_7 tyX7 tyX7_ok nmX7 1 (by decide) wm_2_43 rfl rfl rfl (Nat.le_of_ble_eq_true rfl) dX7_begin_10 (fun H locs h_2 => ?_)
  clear h_1
  replace h_2 : qW D _ _ [(h0, .inr (7, [.ref h2, .int p5, .int p1, .ref h1])), (h1, .inl (cy 1, 10, .inl f0)), (h2, .inr (3, [.int p2, .int p3, .int p4, .int p5, w0, w1, w2, .ref h3, w3, w4, w5, w6])), (h3, .inl (cy 1, 10, .inl f1))] _ _ := h_2
  refine lv_aload_n hx hb dX7_begin_13 rfl (lv_at hl 0 rfl) ?_
  refine lv_iconst (v := 0) hx hb dX7_begin_14 (by decide) ?_
  refine q_put (v := .int 0) X hK h_2 0 rfl rfl wf_7 tyX7 tyX7_ok nmX7 2 (by decide) wm_2_48 rfl rfl rfl (Nat.le_of_ble_eq_true rfl) dX7_begin_15 (fun H locs h_3 => ?_)
  clear h_2
  replace h_3 : qW D _ _ [(h0, .inr (7, [.ref h2, .int p5, .int 0, .ref h1])), (h1, .inl (cy 1, 10, .inl f0)), (h2, .inr (3, [.int p2, .int p3, .int p4, .int p5, w0, w1, w2, .ref h3, w3, w4, w5, w6])), (h3, .inl (cy 1, 10, .inl f1))] _ _ := h_3
  refine lv_aload_n hx hb dX7_begin_18 rfl (lv_at hl 1 rfl) ?_
  refine q_get X hK h_3 2 rfl rfl wf_3 7 (by decide) rfl wm_1_103 dX7_begin_19 ?_
  refine lv_iconst (v := 0) hx hb dX7_begin_22 (by decide) ?_
  refine lv_aload_n hx hb dX7_begin_23 rfl (lv_at hl 0 rfl) ?_
  refine q_get X hK h_3 0 rfl rfl wf_7 3 (by decide) rfl wm_2_50 dX7_begin_24 ?_
  refine lv_iconst (v := 0) hx hb dX7_begin_27 (by decide) ?_
  refine lv_bipush (v := 10) hx hb dX7_begin_28 (by decide) ?_
  refine q_copyR X hK h_3 wm_3_161 wm_3_152 wm_3_151 wm_1_21 hl.1 3 1 rfl rfl (by decide +kernel) (by decide) (Nat.le_of_ble_eq_true rfl) (Nat.le_of_ble_eq_true rfl) dX7_begin_30 (fun F_4 eF_4 H locs h_5 => ?_)
  clear h_3
  have rF_4 := rg_eq eF_4 rf1
  clear eF_4
  replace h_5 : qW D _ _ [(h0, .inr (7, [.ref h2, .int p5, .int 0, .ref h1])), (h1, .inl (cy 1, 10, .inl F_4)), (h2, .inr (3, [.int p2, .int p3, .int p4, .int p5, w0, w1, w2, .ref h3, w3, w4, w5, w6])), (h3, .inl (cy 1, 10, .inl f1))] _ _ := h_5
  exact q_vret X hr hlk hK h_5 (fun _ => 0, fun k => List.getD [(fun _ => p5), (fun _ => 0), F_4] k (fun _ => 0), fun _ _ => 0) ⟨(hp5 : (-2147483648) ≤ (p5 : Int32).toInt ∧ (p5 : Int32).toInt ≤ 2147483647), (⟨by decide +kernel, by decide +kernel⟩ : 0 ≤ (0 : Int32).toInt ∧ (0 : Int32).toInt ≤ 0), (rg_wide rF_4 (by decide) (by decide)), trivial⟩ [0, 1, 2, 3] rfl rfl dX7_begin_33 (Nat.le_of_ble_eq_true rfl) (Nat.le_of_ble_eq_true rfl)
