theorem wm_7_223 : Cond.methodLink RX12 408 yX12_noHidden ∈ WG := wg_t7 (List.mem_of_getElem? (i := 223) rfl) rfl
theorem wm_7_226 : Cond.code yX12_noHidden cX12_noHidden 3 (some .int) ∈ WG := wg_t7 (List.mem_of_getElem? (i := 226) rfl) rfl
theorem wm_7_225 : Cond.instanceMethod yX12_noHidden ∈ WG := wg_t7 (List.mem_of_getElem? (i := 225) rfl) rfl
theorem wp_7_15 : Cond.selects RX12 yX12_noHidden yX12_noHidden ∈ WG := wg_p (q := (yX12_noHidden, 37)) (wg_p7 (List.mem_of_getElem? (i := 15) rfl)) rfl
theorem wm_7_235 : Cond.methodLink RX12 402 yX12_isTold ∈ WG := wg_t7 (List.mem_of_getElem? (i := 235) rfl) rfl
theorem wm_7_238 : Cond.code yX12_isTold cX12_isTold 2 (some .boolean) ∈ WG := wg_t7 (List.mem_of_getElem? (i := 238) rfl) rfl
theorem wm_7_237 : Cond.instanceMethod yX12_isTold ∈ WG := wg_t7 (List.mem_of_getElem? (i := 237) rfl) rfl
theorem wp_8_2 : Cond.selects RX12 yX12_isTold yX12_isTold ∈ WG := wg_p (q := (yX12_isTold, 37)) (wg_p8 (List.mem_of_getElem? (i := 2) rfl)) rfl
theorem wm_7_231 : Cond.methodLink RX12 405 yX12_fits ∈ WG := wg_t7 (List.mem_of_getElem? (i := 231) rfl) rfl
theorem wm_7_234 : Cond.code yX12_fits cX12_fits 6 (some .boolean) ∈ WG := wg_t7 (List.mem_of_getElem? (i := 234) rfl) rfl
theorem wm_7_233 : Cond.instanceMethod yX12_fits ∈ WG := wg_t7 (List.mem_of_getElem? (i := 233) rfl) rfl
theorem wp_8_1 : Cond.selects RX12 yX12_fits yX12_fits ∈ WG := wg_p (q := (yX12_fits, 37)) (wg_p8 (List.mem_of_getElem? (i := 1) rfl)) rfl
theorem wm_7_227 : Cond.methodLink RX12 411 yX12_laysHidden ∈ WG := wg_t7 (List.mem_of_getElem? (i := 227) rfl) rfl
theorem wm_7_230 : Cond.code yX12_laysHidden cX12_laysHidden 6 (some .int) ∈ WG := wg_t7 (List.mem_of_getElem? (i := 230) rfl) rfl
theorem wm_7_229 : Cond.instanceMethod yX12_laysHidden ∈ WG := wg_t7 (List.mem_of_getElem? (i := 229) rfl) rfl
theorem wp_8_0 : Cond.selects RX12 yX12_laysHidden yX12_laysHidden ∈ WG := wg_p (q := (yX12_laysHidden, 37)) (wg_p8 (List.mem_of_getElem? (i := 0) rfl)) rfl
theorem wm_8_13 : Cond.methodLink RX12 422 yX12_chanceOf ∈ WG := wg_t8 (List.mem_of_getElem? (i := 13) rfl) rfl
theorem wm_8_16 : Cond.code yX12_chanceOf cX12_chanceOf 8 (some .long) ∈ WG := wg_t8 (List.mem_of_getElem? (i := 16) rfl) rfl
theorem wm_8_15 : Cond.instanceMethod yX12_chanceOf ∈ WG := wg_t8 (List.mem_of_getElem? (i := 15) rfl) rfl
theorem wp_8_3 : Cond.selects RX12 yX12_chanceOf yX12_chanceOf ∈ WG := wg_p (q := (yX12_chanceOf, 37)) (wg_p8 (List.mem_of_getElem? (i := 3) rfl)) rfl
theorem wm_8_17 : Cond.methodLink RX12 426 yX12_tens ∈ WG := wg_t8 (List.mem_of_getElem? (i := 17) rfl) rfl
theorem wm_8_19 : Cond.code yX12_tens cX12_tens 4 (some .long) ∈ WG := wg_t8 (List.mem_of_getElem? (i := 19) rfl) rfl
theorem wm_8_18 : Cond.static yX12_tens ∈ WG := wg_t8 (List.mem_of_getElem? (i := 18) rfl) rfl
theorem wm_8_20 : Cond.methodLink RX12 414 yX12_common ∈ WG := wg_t8 (List.mem_of_getElem? (i := 20) rfl) rfl
theorem wm_8_22 : Cond.code yX12_common cX12_common 4 (some .long) ∈ WG := wg_t8 (List.mem_of_getElem? (i := 22) rfl) rfl
theorem wm_8_21 : Cond.static yX12_common ∈ WG := wg_t8 (List.mem_of_getElem? (i := 21) rfl) rfl
theorem wm_8_12 : Cond.constantLong RX12 420 (-3) ∈ WG := wg_t8 (List.mem_of_getElem? (i := 12) rfl) rfl
theorem wm_8_11 : Cond.constantLong RX12 418 (-2) ∈ WG := wg_t8 (List.mem_of_getElem? (i := 11) rfl) rfl
theorem hd_X12_noHidden : yX12_noHidden.cls ≠ "java/lang/invoke/MethodHandle" ∧ yX12_noHidden.cls ≠ "java/lang/invoke/VarHandle" ∧ (parseMethodDescriptor yX12_noHidden.desc).map (fun d => d.parameters.length) = some 2 := by decide +kernel
theorem hd_X12_isTold : yX12_isTold.cls ≠ "java/lang/invoke/MethodHandle" ∧ yX12_isTold.cls ≠ "java/lang/invoke/VarHandle" ∧ (parseMethodDescriptor yX12_isTold.desc).map (fun d => d.parameters.length) = some 1 := by decide +kernel
theorem hd_X12_fits : yX12_fits.cls ≠ "java/lang/invoke/MethodHandle" ∧ yX12_fits.cls ≠ "java/lang/invoke/VarHandle" ∧ (parseMethodDescriptor yX12_fits.desc).map (fun d => d.parameters.length) = some 3 := by decide +kernel
theorem hd_X12_laysHidden : yX12_laysHidden.cls ≠ "java/lang/invoke/MethodHandle" ∧ yX12_laysHidden.cls ≠ "java/lang/invoke/VarHandle" ∧ (parseMethodDescriptor yX12_laysHidden.desc).map (fun d => d.parameters.length) = some 2 := by decide +kernel
theorem hd_X12_chanceOf : yX12_chanceOf.cls ≠ "java/lang/invoke/MethodHandle" ∧ yX12_chanceOf.cls ≠ "java/lang/invoke/VarHandle" ∧ (parseMethodDescriptor yX12_chanceOf.desc).map (fun d => d.parameters.length) = some 1 := by decide +kernel
theorem hd_X12_tens : yX12_tens.cls ≠ "java/lang/invoke/MethodHandle" ∧ yX12_tens.cls ≠ "java/lang/invoke/VarHandle" ∧ (parseMethodDescriptor yX12_tens.desc).map (fun d => d.parameters.length) = some 1 := by decide +kernel
theorem hd_X12_common : yX12_common.cls ≠ "java/lang/invoke/MethodHandle" ∧ yX12_common.cls ≠ "java/lang/invoke/VarHandle" ∧ (parseMethodDescriptor yX12_common.desc).map (fun d => d.parameters.length) = some 2 := by decide +kernel
theorem dX12_chance_0 : decode cX12_chance 0 = .ok (.aload_n 0, 1) := by decide +kernel
theorem dX12_chance_1 : decode cX12_chance 1 = .ok (.iconst 0, 1) := by decide +kernel
theorem dX12_chance_2 : decode cX12_chance 2 = .ok (.putfield 1, 3) := by decide +kernel
theorem dX12_chance_5 : decode cX12_chance 5 = .ok (.iload_n 2, 1) := by decide +kernel
theorem dX12_chance_6 : decode cX12_chance 6 = .ok (.i2l, 1) := by decide +kernel
theorem dX12_chance_7 : decode cX12_chance 7 = .ok (.lconst 0, 1) := by decide +kernel
theorem dX12_chance_8 : decode cX12_chance 8 = .ok (.lconst 1, 1) := by decide +kernel
theorem dX12_chance_9 : decode cX12_chance 9 = .ok (.invokestatic 145, 3) := by decide +kernel
theorem dX12_chance_12 : decode cX12_chance 12 = .ok (.ifCond .ne 7, 3) := by decide +kernel
theorem dX12_chance_15 : decode cX12_chance 15 = .ok (.ldc2_w 418, 3) := by decide +kernel
theorem dX12_chance_18 : decode cX12_chance 18 = .ok (.lreturn, 1) := by decide +kernel
theorem dX12_chance_19 : decode cX12_chance 19 = .ok (.aload_n 0, 1) := by decide +kernel
theorem dX12_chance_20 : decode cX12_chance 20 = .ok (.iload_n 1, 1) := by decide +kernel
theorem dX12_chance_21 : decode cX12_chance 21 = .ok (.invokevirtual 349, 3) := by decide +kernel
theorem dX12_chance_24 : decode cX12_chance 24 = .ok (.ifCond .ne 7, 3) := by decide +kernel
theorem dX12_chance_27 : decode cX12_chance 27 = .ok (.ldc2_w 420, 3) := by decide +kernel
theorem dX12_chance_30 : decode cX12_chance 30 = .ok (.lreturn, 1) := by decide +kernel
theorem dX12_chance_31 : decode cX12_chance 31 = .ok (.aload_n 0, 1) := by decide +kernel
theorem dX12_chance_32 : decode cX12_chance 32 = .ok (.invokevirtual 346, 3) := by decide +kernel
theorem dX12_chance_35 : decode cX12_chance 35 = .ok (.aload_n 0, 1) := by decide +kernel
theorem dX12_chance_36 : decode cX12_chance 36 = .ok (.iload_n 1, 1) := by decide +kernel
theorem dX12_chance_37 : decode cX12_chance 37 = .ok (.invokevirtual 422, 3) := by decide +kernel
theorem dX12_chance_40 : decode cX12_chance 40 = .ok (.lstore_n 3, 1) := by decide +kernel
theorem dX12_chance_41 : decode cX12_chance 41 = .ok (.iload_n 1, 1) := by decide +kernel
theorem dX12_chance_42 : decode cX12_chance 42 = .ok (.invokestatic 281, 3) := by decide +kernel
theorem dX12_chance_45 : decode cX12_chance 45 = .ok (.invokestatic 426, 3) := by decide +kernel
theorem dX12_chance_48 : decode cX12_chance 48 = .ok (.lstore 5, 2) := by decide +kernel
theorem dX12_chance_50 : decode cX12_chance 50 = .ok (.lload_n 3, 1) := by decide +kernel
theorem dX12_chance_51 : decode cX12_chance 51 = .ok (.lload 5, 2) := by decide +kernel
theorem dX12_chance_53 : decode cX12_chance 53 = .ok (.invokestatic 414, 3) := by decide +kernel
theorem dX12_chance_56 : decode cX12_chance 56 = .ok (.lstore 7, 2) := by decide +kernel
theorem dX12_chance_58 : decode cX12_chance 58 = .ok (.iload_n 2, 1) := by decide +kernel
theorem dX12_chance_59 : decode cX12_chance 59 = .ok (.ifCond .ne 7, 3) := by decide +kernel
theorem dX12_chance_62 : decode cX12_chance 62 = .ok (.lload_n 3, 1) := by decide +kernel
theorem dX12_chance_63 : decode cX12_chance 63 = .ok (.goto 5, 3) := by decide +kernel
theorem dX12_chance_66 : decode cX12_chance 66 = .ok (.lload 5, 2) := by decide +kernel
theorem dX12_chance_68 : decode cX12_chance 68 = .ok (.lload 7, 2) := by decide +kernel
theorem dX12_chance_70 : decode cX12_chance 70 = .ok (.ldiv, 1) := by decide +kernel
theorem dX12_chance_71 : decode cX12_chance 71 = .ok (.lreturn, 1) := by decide +kernel
theorem dX12_chanceOf_0 : decode cX12_chanceOf 0 = .ok (.lconst 0, 1) := by decide +kernel
theorem dX12_chanceOf_1 : decode cX12_chanceOf 1 = .ok (.lstore_n 2, 1) := by decide +kernel
theorem dX12_chanceOf_2 : decode cX12_chanceOf 2 = .ok (.iconst 0, 1) := by decide +kernel
theorem dX12_chanceOf_3 : decode cX12_chanceOf 3 = .ok (.istore 4, 2) := by decide +kernel
theorem dX12_chanceOf_5 : decode cX12_chanceOf 5 = .ok (.iload 4, 2) := by decide +kernel
theorem dX12_chanceOf_7 : decode cX12_chanceOf 7 = .ok (.iload_n 1, 1) := by decide +kernel
theorem dX12_chanceOf_8 : decode cX12_chanceOf 8 = .ok (.if_icmp .gt 113, 3) := by decide +kernel
theorem dX12_chanceOf_11 : decode cX12_chanceOf 11 = .ok (.iload 4, 2) := by decide +kernel
theorem dX12_chanceOf_13 : decode cX12_chanceOf 13 = .ok (.iload_n 1, 1) := by decide +kernel
theorem dX12_chanceOf_14 : decode cX12_chanceOf 14 = .ok (.iconst (-1), 1) := by decide +kernel
theorem dX12_chanceOf_15 : decode cX12_chanceOf 15 = .ok (.ixor, 1) := by decide +kernel
theorem dX12_chanceOf_16 : decode cX12_chanceOf 16 = .ok (.iand, 1) := by decide +kernel
theorem dX12_chanceOf_17 : decode cX12_chanceOf 17 = .ok (.ifCond .ne 98, 3) := by decide +kernel
theorem dX12_chanceOf_20 : decode cX12_chanceOf 20 = .ok (.aload_n 0, 1) := by decide +kernel
theorem dX12_chanceOf_21 : decode cX12_chanceOf 21 = .ok (.getfield 45, 3) := by decide +kernel
theorem dX12_chanceOf_24 : decode cX12_chanceOf 24 = .ok (.iload 4, 2) := by decide +kernel
theorem dX12_chanceOf_26 : decode cX12_chanceOf 26 = .ok (.iaload, 1) := by decide +kernel
theorem dX12_chanceOf_27 : decode cX12_chanceOf 27 = .ok (.ifCond .ne 6, 3) := by decide +kernel
theorem dX12_chanceOf_30 : decode cX12_chanceOf 30 = .ok (.goto 85, 3) := by decide +kernel
theorem dX12_chanceOf_33 : decode cX12_chanceOf 33 = .ok (.lconst 1, 1) := by decide +kernel
theorem dX12_chanceOf_34 : decode cX12_chanceOf 34 = .ok (.lstore 5, 2) := by decide +kernel
theorem dX12_chanceOf_36 : decode cX12_chanceOf 36 = .ok (.iconst 0, 1) := by decide +kernel
theorem dX12_chanceOf_37 : decode cX12_chanceOf 37 = .ok (.istore 7, 2) := by decide +kernel
theorem dX12_chanceOf_39 : decode cX12_chanceOf 39 = .ok (.iload 7, 2) := by decide +kernel
theorem dX12_chanceOf_41 : decode cX12_chanceOf 41 = .ok (.aload_n 0, 1) := by decide +kernel
theorem dX12_chanceOf_42 : decode cX12_chanceOf 42 = .ok (.getfield 13, 3) := by decide +kernel
theorem dX12_chanceOf_45 : decode cX12_chanceOf 45 = .ok (.iconst 2, 1) := by decide +kernel
theorem dX12_chanceOf_46 : decode cX12_chanceOf 46 = .ok (.iaload, 1) := by decide +kernel
theorem dX12_chanceOf_47 : decode cX12_chanceOf 47 = .ok (.if_icmp .ge 63, 3) := by decide +kernel
theorem dX12_chanceOf_50 : decode cX12_chanceOf 50 = .ok (.iload_n 1, 1) := by decide +kernel
theorem dX12_chanceOf_51 : decode cX12_chanceOf 51 = .ok (.i2l, 1) := by decide +kernel
theorem dX12_chanceOf_52 : decode cX12_chanceOf 52 = .ok (.iload 7, 2) := by decide +kernel
theorem dX12_chanceOf_54 : decode cX12_chanceOf 54 = .ok (.invokestatic 251, 3) := by decide +kernel
theorem dX12_chanceOf_57 : decode cX12_chanceOf 57 = .ok (.ifCond .eq 47, 3) := by decide +kernel
theorem dX12_chanceOf_60 : decode cX12_chanceOf 60 = .ok (.lload 5, 2) := by decide +kernel
theorem dX12_chanceOf_62 : decode cX12_chanceOf 62 = .ok (.iload 4, 2) := by decide +kernel
theorem dX12_chanceOf_64 : decode cX12_chanceOf 64 = .ok (.i2l, 1) := by decide +kernel
theorem dX12_chanceOf_65 : decode cX12_chanceOf 65 = .ok (.iload 7, 2) := by decide +kernel
theorem dX12_chanceOf_67 : decode cX12_chanceOf 67 = .ok (.invokestatic 251, 3) := by decide +kernel
theorem dX12_chanceOf_70 : decode cX12_chanceOf 70 = .ok (.ifCond .eq 17, 3) := by decide +kernel
theorem dX12_chanceOf_73 : decode cX12_chanceOf 73 = .ok (.aload_n 0, 1) := by decide +kernel
theorem dX12_chanceOf_74 : decode cX12_chanceOf 74 = .ok (.getfield 13, 3) := by decide +kernel
theorem dX12_chanceOf_77 : decode cX12_chanceOf 77 = .ok (.bipush 32, 2) := by decide +kernel
theorem dX12_chanceOf_79 : decode cX12_chanceOf 79 = .ok (.iload 7, 2) := by decide +kernel
theorem dX12_chanceOf_81 : decode cX12_chanceOf 81 = .ok (.iadd, 1) := by decide +kernel
theorem dX12_chanceOf_82 : decode cX12_chanceOf 82 = .ok (.iaload, 1) := by decide +kernel
theorem dX12_chanceOf_83 : decode cX12_chanceOf 83 = .ok (.i2l, 1) := by decide +kernel
theorem dX12_chanceOf_84 : decode cX12_chanceOf 84 = .ok (.goto 17, 3) := by decide +kernel
theorem dX12_chanceOf_87 : decode cX12_chanceOf 87 = .ok (.bipush 10, 2) := by decide +kernel
theorem dX12_chanceOf_89 : decode cX12_chanceOf 89 = .ok (.aload_n 0, 1) := by decide +kernel
theorem dX12_chanceOf_90 : decode cX12_chanceOf 90 = .ok (.getfield 13, 3) := by decide +kernel
theorem dX12_chanceOf_93 : decode cX12_chanceOf 93 = .ok (.bipush 32, 2) := by decide +kernel
theorem dX12_chanceOf_95 : decode cX12_chanceOf 95 = .ok (.iload 7, 2) := by decide +kernel
theorem dX12_chanceOf_97 : decode cX12_chanceOf 97 = .ok (.iadd, 1) := by decide +kernel
theorem dX12_chanceOf_98 : decode cX12_chanceOf 98 = .ok (.iaload, 1) := by decide +kernel
theorem dX12_chanceOf_99 : decode cX12_chanceOf 99 = .ok (.isub, 1) := by decide +kernel
theorem dX12_chanceOf_100 : decode cX12_chanceOf 100 = .ok (.i2l, 1) := by decide +kernel
theorem dX12_chanceOf_101 : decode cX12_chanceOf 101 = .ok (.lmul, 1) := by decide +kernel
theorem dX12_chanceOf_102 : decode cX12_chanceOf 102 = .ok (.lstore 5, 2) := by decide +kernel
theorem dX12_chanceOf_104 : decode cX12_chanceOf 104 = .ok (.iinc 7 1, 3) := by decide +kernel
theorem dX12_chanceOf_107 : decode cX12_chanceOf 107 = .ok (.goto (-68), 3) := by decide +kernel
theorem dX12_chanceOf_110 : decode cX12_chanceOf 110 = .ok (.lload_n 2, 1) := by decide +kernel
theorem dX12_chanceOf_111 : decode cX12_chanceOf 111 = .ok (.lload 5, 2) := by decide +kernel
theorem dX12_chanceOf_113 : decode cX12_chanceOf 113 = .ok (.ladd, 1) := by decide +kernel
theorem dX12_chanceOf_114 : decode cX12_chanceOf 114 = .ok (.lstore_n 2, 1) := by decide +kernel
theorem dX12_chanceOf_115 : decode cX12_chanceOf 115 = .ok (.iinc 4 1, 3) := by decide +kernel
theorem dX12_chanceOf_118 : decode cX12_chanceOf 118 = .ok (.goto (-113), 3) := by decide +kernel
theorem dX12_chanceOf_121 : decode cX12_chanceOf 121 = .ok (.lload_n 2, 1) := by decide +kernel
theorem dX12_chanceOf_122 : decode cX12_chanceOf 122 = .ok (.lreturn, 1) := by decide +kernel
theorem dX12_common_0 : decode cX12_common 0 = .ok (.lload_n 2, 1) := by decide +kernel
theorem dX12_common_1 : decode cX12_common 1 = .ok (.lconst 0, 1) := by decide +kernel
theorem dX12_common_2 : decode cX12_common 2 = .ok (.lcmp, 1) := by decide +kernel
theorem dX12_common_3 : decode cX12_common 3 = .ok (.ifCond .ne 7, 3) := by decide +kernel
theorem dX12_common_6 : decode cX12_common 6 = .ok (.lload_n 0, 1) := by decide +kernel
theorem dX12_common_7 : decode cX12_common 7 = .ok (.goto 10, 3) := by decide +kernel
theorem dX12_common_10 : decode cX12_common 10 = .ok (.lload_n 2, 1) := by decide +kernel
theorem dX12_common_11 : decode cX12_common 11 = .ok (.lload_n 0, 1) := by decide +kernel
theorem dX12_common_12 : decode cX12_common 12 = .ok (.lload_n 2, 1) := by decide +kernel
theorem dX12_common_13 : decode cX12_common 13 = .ok (.lrem, 1) := by decide +kernel
theorem dX12_common_14 : decode cX12_common 14 = .ok (.invokestatic 414, 3) := by decide +kernel
theorem dX12_common_17 : decode cX12_common 17 = .ok (.lreturn, 1) := by decide +kernel
theorem dX12_fits_0 : decode cX12_fits 0 = .ok (.aload_n 0, 1) := by decide +kernel
theorem dX12_fits_1 : decode cX12_fits 1 = .ok (.iload_n 3, 1) := by decide +kernel
theorem dX12_fits_2 : decode cX12_fits 2 = .ok (.invokevirtual 402, 3) := by decide +kernel
theorem dX12_fits_5 : decode cX12_fits 5 = .ok (.ifCond .ne 5, 3) := by decide +kernel
theorem dX12_fits_8 : decode cX12_fits 8 = .ok (.iconst 0, 1) := by decide +kernel
theorem dX12_fits_9 : decode cX12_fits 9 = .ok (.ireturn, 1) := by decide +kernel
theorem dX12_fits_10 : decode cX12_fits 10 = .ok (.aload_n 0, 1) := by decide +kernel
theorem dX12_fits_11 : decode cX12_fits 11 = .ok (.iload_n 1, 1) := by decide +kernel
theorem dX12_fits_12 : decode cX12_fits 12 = .ok (.iload_n 3, 1) := by decide +kernel
theorem dX12_fits_13 : decode cX12_fits 13 = .ok (.invokevirtual 378, 3) := by decide +kernel
theorem dX12_fits_16 : decode cX12_fits 16 = .ok (.aload_n 0, 1) := by decide +kernel
theorem dX12_fits_17 : decode cX12_fits 17 = .ok (.invokevirtual 255, 3) := by decide +kernel
theorem dX12_fits_20 : decode cX12_fits 20 = .ok (.iconst 1, 1) := by decide +kernel
theorem dX12_fits_21 : decode cX12_fits 21 = .ok (.iload_n 1, 1) := by decide +kernel
theorem dX12_fits_22 : decode cX12_fits 22 = .ok (.ishl, 1) := by decide +kernel
theorem dX12_fits_23 : decode cX12_fits 23 = .ok (.iconst (-1), 1) := by decide +kernel
theorem dX12_fits_24 : decode cX12_fits 24 = .ok (.ixor, 1) := by decide +kernel
theorem dX12_fits_25 : decode cX12_fits 25 = .ok (.iand, 1) := by decide +kernel
theorem dX12_fits_26 : decode cX12_fits 26 = .ok (.istore 4, 2) := by decide +kernel
theorem dX12_fits_28 : decode cX12_fits 28 = .ok (.iconst 0, 1) := by decide +kernel
theorem dX12_fits_29 : decode cX12_fits 29 = .ok (.istore 5, 2) := by decide +kernel
theorem dX12_fits_31 : decode cX12_fits 31 = .ok (.iload 5, 2) := by decide +kernel
theorem dX12_fits_33 : decode cX12_fits 33 = .ok (.aload_n 0, 1) := by decide +kernel
theorem dX12_fits_34 : decode cX12_fits 34 = .ok (.getfield 13, 3) := by decide +kernel
theorem dX12_fits_37 : decode cX12_fits 37 = .ok (.iconst 2, 1) := by decide +kernel
theorem dX12_fits_38 : decode cX12_fits 38 = .ok (.iaload, 1) := by decide +kernel
theorem dX12_fits_39 : decode cX12_fits 39 = .ok (.if_icmp .ge 46, 3) := by decide +kernel
theorem dX12_fits_42 : decode cX12_fits 42 = .ok (.iload 4, 2) := by decide +kernel
theorem dX12_fits_44 : decode cX12_fits 44 = .ok (.i2l, 1) := by decide +kernel
theorem dX12_fits_45 : decode cX12_fits 45 = .ok (.iload 5, 2) := by decide +kernel
theorem dX12_fits_47 : decode cX12_fits 47 = .ok (.invokestatic 251, 3) := by decide +kernel
theorem dX12_fits_50 : decode cX12_fits 50 = .ok (.ifCond .eq 29, 3) := by decide +kernel
theorem dX12_fits_53 : decode cX12_fits 53 = .ok (.aload_n 0, 1) := by decide +kernel
theorem dX12_fits_54 : decode cX12_fits 54 = .ok (.iload_n 1, 1) := by decide +kernel
theorem dX12_fits_55 : decode cX12_fits 55 = .ok (.iload 5, 2) := by decide +kernel
theorem dX12_fits_57 : decode cX12_fits 57 = .ok (.aload_n 0, 1) := by decide +kernel
theorem dX12_fits_58 : decode cX12_fits 58 = .ok (.getfield 13, 3) := by decide +kernel
theorem dX12_fits_61 : decode cX12_fits 61 = .ok (.bipush 52, 2) := by decide +kernel
theorem dX12_fits_63 : decode cX12_fits 63 = .ok (.iaload, 1) := by decide +kernel
theorem dX12_fits_64 : decode cX12_fits 64 = .ok (.invokevirtual 241, 3) := by decide +kernel
theorem dX12_fits_67 : decode cX12_fits 67 = .ok (.iload_n 2, 1) := by decide +kernel
theorem dX12_fits_68 : decode cX12_fits 68 = .ok (.i2l, 1) := by decide +kernel
theorem dX12_fits_69 : decode cX12_fits 69 = .ok (.iload 5, 2) := by decide +kernel
theorem dX12_fits_71 : decode cX12_fits 71 = .ok (.invokestatic 251, 3) := by decide +kernel
theorem dX12_fits_74 : decode cX12_fits 74 = .ok (.if_icmp .eq 5, 3) := by decide +kernel
theorem dX12_fits_77 : decode cX12_fits 77 = .ok (.iconst 0, 1) := by decide +kernel
theorem dX12_fits_78 : decode cX12_fits 78 = .ok (.ireturn, 1) := by decide +kernel
theorem dX12_fits_79 : decode cX12_fits 79 = .ok (.iinc 5 1, 3) := by decide +kernel
theorem dX12_fits_82 : decode cX12_fits 82 = .ok (.goto (-51), 3) := by decide +kernel
theorem dX12_fits_85 : decode cX12_fits 85 = .ok (.iconst 1, 1) := by decide +kernel
theorem dX12_fits_86 : decode cX12_fits 86 = .ok (.ireturn, 1) := by decide +kernel
theorem dX12_hidden_0 : decode cX12_hidden 0 = .ok (.aload_n 0, 1) := by decide +kernel
theorem dX12_hidden_1 : decode cX12_hidden 1 = .ok (.iconst 0, 1) := by decide +kernel
theorem dX12_hidden_2 : decode cX12_hidden 2 = .ok (.putfield 1, 3) := by decide +kernel
theorem dX12_hidden_5 : decode cX12_hidden 5 = .ok (.aload_n 0, 1) := by decide +kernel
theorem dX12_hidden_6 : decode cX12_hidden 6 = .ok (.iload_n 1, 1) := by decide +kernel
theorem dX12_hidden_7 : decode cX12_hidden 7 = .ok (.iload_n 2, 1) := by decide +kernel
theorem dX12_hidden_8 : decode cX12_hidden 8 = .ok (.invokevirtual 408, 3) := by decide +kernel
theorem dX12_hidden_11 : decode cX12_hidden 11 = .ok (.istore_n 3, 1) := by decide +kernel
theorem dX12_hidden_12 : decode cX12_hidden 12 = .ok (.iload_n 3, 1) := by decide +kernel
theorem dX12_hidden_13 : decode cX12_hidden 13 = .ok (.ifCond .eq 7, 3) := by decide +kernel
theorem dX12_hidden_16 : decode cX12_hidden 16 = .ok (.iload_n 3, 1) := by decide +kernel
theorem dX12_hidden_17 : decode cX12_hidden 17 = .ok (.goto 9, 3) := by decide +kernel
theorem dX12_hidden_20 : decode cX12_hidden 20 = .ok (.aload_n 0, 1) := by decide +kernel
theorem dX12_hidden_21 : decode cX12_hidden 21 = .ok (.iload_n 1, 1) := by decide +kernel
theorem dX12_hidden_22 : decode cX12_hidden 22 = .ok (.iload_n 2, 1) := by decide +kernel
theorem dX12_hidden_23 : decode cX12_hidden 23 = .ok (.invokevirtual 411, 3) := by decide +kernel
theorem dX12_hidden_26 : decode cX12_hidden 26 = .ok (.ireturn, 1) := by decide +kernel
theorem dX12_hiddenAt_0 : decode cX12_hiddenAt 0 = .ok (.aload_n 0, 1) := by decide +kernel
theorem dX12_hiddenAt_1 : decode cX12_hiddenAt 1 = .ok (.iconst 0, 1) := by decide +kernel
theorem dX12_hiddenAt_2 : decode cX12_hiddenAt 2 = .ok (.putfield 1, 3) := by decide +kernel
theorem dX12_hiddenAt_5 : decode cX12_hiddenAt 5 = .ok (.aload_n 0, 1) := by decide +kernel
theorem dX12_hiddenAt_6 : decode cX12_hiddenAt 6 = .ok (.iload_n 1, 1) := by decide +kernel
theorem dX12_hiddenAt_7 : decode cX12_hiddenAt 7 = .ok (.iload_n 2, 1) := by decide +kernel
theorem dX12_hiddenAt_8 : decode cX12_hiddenAt 8 = .ok (.invokevirtual 408, 3) := by decide +kernel
theorem dX12_hiddenAt_11 : decode cX12_hiddenAt 11 = .ok (.istore 4, 2) := by decide +kernel
theorem dX12_hiddenAt_13 : decode cX12_hiddenAt 13 = .ok (.iload 4, 2) := by decide +kernel
theorem dX12_hiddenAt_15 : decode cX12_hiddenAt 15 = .ok (.ifCond .eq 6, 3) := by decide +kernel
theorem dX12_hiddenAt_18 : decode cX12_hiddenAt 18 = .ok (.iload 4, 2) := by decide +kernel
theorem dX12_hiddenAt_20 : decode cX12_hiddenAt 20 = .ok (.ireturn, 1) := by decide +kernel
theorem dX12_hiddenAt_21 : decode cX12_hiddenAt 21 = .ok (.iload_n 3, 1) := by decide +kernel
theorem dX12_hiddenAt_22 : decode cX12_hiddenAt 22 = .ok (.ifCond .ge 6, 3) := by decide +kernel
theorem dX12_hiddenAt_25 : decode cX12_hiddenAt 25 = .ok (.bipush (-3), 2) := by decide +kernel
theorem dX12_hiddenAt_27 : decode cX12_hiddenAt 27 = .ok (.ireturn, 1) := by decide +kernel
theorem dX12_hiddenAt_28 : decode cX12_hiddenAt 28 = .ok (.iload_n 3, 1) := by decide +kernel
theorem dX12_hiddenAt_29 : decode cX12_hiddenAt 29 = .ok (.aload_n 0, 1) := by decide +kernel
theorem dX12_hiddenAt_30 : decode cX12_hiddenAt 30 = .ok (.iload_n 1, 1) := by decide +kernel
theorem dX12_hiddenAt_31 : decode cX12_hiddenAt 31 = .ok (.iload_n 2, 1) := by decide +kernel
theorem dX12_hiddenAt_32 : decode cX12_hiddenAt 32 = .ok (.invokevirtual 411, 3) := by decide +kernel
theorem dX12_hiddenAt_35 : decode cX12_hiddenAt 35 = .ok (.if_icmp .ge 12, 3) := by decide +kernel
theorem dX12_hiddenAt_38 : decode cX12_hiddenAt 38 = .ok (.aload_n 0, 1) := by decide +kernel
theorem dX12_hiddenAt_39 : decode cX12_hiddenAt 39 = .ok (.getfield 54, 3) := by decide +kernel
theorem dX12_hiddenAt_42 : decode cX12_hiddenAt 42 = .ok (.iload_n 3, 1) := by decide +kernel
theorem dX12_hiddenAt_43 : decode cX12_hiddenAt 43 = .ok (.iaload, 1) := by decide +kernel
theorem dX12_hiddenAt_44 : decode cX12_hiddenAt 44 = .ok (.goto 4, 3) := by decide +kernel
theorem dX12_hiddenAt_47 : decode cX12_hiddenAt 47 = .ok (.iconst (-1), 1) := by decide +kernel
theorem dX12_hiddenAt_48 : decode cX12_hiddenAt 48 = .ok (.ireturn, 1) := by decide +kernel
theorem dX12_isTold_0 : decode cX12_isTold 0 = .ok (.aload_n 0, 1) := by decide +kernel
theorem dX12_isTold_1 : decode cX12_isTold 1 = .ok (.getfield 13, 3) := by decide +kernel
theorem dX12_isTold_4 : decode cX12_isTold 4 = .ok (.iconst 1, 1) := by decide +kernel
theorem dX12_isTold_5 : decode cX12_isTold 5 = .ok (.iaload, 1) := by decide +kernel
theorem dX12_isTold_6 : decode cX12_isTold 6 = .ok (.iconst 1, 1) := by decide +kernel
theorem dX12_isTold_7 : decode cX12_isTold 7 = .ok (.if_icmp .gt 13, 3) := by decide +kernel
theorem dX12_isTold_10 : decode cX12_isTold 10 = .ok (.iload_n 1, 1) := by decide +kernel
theorem dX12_isTold_11 : decode cX12_isTold 11 = .ok (.bipush 10, 2) := by decide +kernel
theorem dX12_isTold_13 : decode cX12_isTold 13 = .ok (.idiv, 1) := by decide +kernel
theorem dX12_isTold_14 : decode cX12_isTold 14 = .ok (.bipush 10, 2) := by decide +kernel
theorem dX12_isTold_16 : decode cX12_isTold 16 = .ok (.irem, 1) := by decide +kernel
theorem dX12_isTold_17 : decode cX12_isTold 17 = .ok (.ifCond .ne 24, 3) := by decide +kernel
theorem dX12_isTold_20 : decode cX12_isTold 20 = .ok (.aload_n 0, 1) := by decide +kernel
theorem dX12_isTold_21 : decode cX12_isTold 21 = .ok (.getfield 13, 3) := by decide +kernel
theorem dX12_isTold_24 : decode cX12_isTold 24 = .ok (.iconst 1, 1) := by decide +kernel
theorem dX12_isTold_25 : decode cX12_isTold 25 = .ok (.iaload, 1) := by decide +kernel
theorem dX12_isTold_26 : decode cX12_isTold 26 = .ok (.iconst 2, 1) := by decide +kernel
theorem dX12_isTold_27 : decode cX12_isTold 27 = .ok (.if_icmp .gt 10, 3) := by decide +kernel
theorem dX12_isTold_30 : decode cX12_isTold 30 = .ok (.iload_n 1, 1) := by decide +kernel
theorem dX12_isTold_31 : decode cX12_isTold 31 = .ok (.bipush 10, 2) := by decide +kernel
theorem dX12_isTold_33 : decode cX12_isTold 33 = .ok (.irem, 1) := by decide +kernel
theorem dX12_isTold_34 : decode cX12_isTold 34 = .ok (.ifCond .ne 7, 3) := by decide +kernel
theorem dX12_isTold_37 : decode cX12_isTold 37 = .ok (.iconst 1, 1) := by decide +kernel
theorem dX12_isTold_38 : decode cX12_isTold 38 = .ok (.goto 4, 3) := by decide +kernel
theorem dX12_isTold_41 : decode cX12_isTold 41 = .ok (.iconst 0, 1) := by decide +kernel
theorem dX12_isTold_42 : decode cX12_isTold 42 = .ok (.ireturn, 1) := by decide +kernel
theorem dX12_laysHidden_0 : decode cX12_laysHidden 0 = .ok (.aload_n 0, 1) := by decide +kernel
theorem dX12_laysHidden_1 : decode cX12_laysHidden 1 = .ok (.iload_n 1, 1) := by decide +kernel
theorem dX12_laysHidden_2 : decode cX12_laysHidden 2 = .ok (.invokevirtual 375, 3) := by decide +kernel
theorem dX12_laysHidden_5 : decode cX12_laysHidden 5 = .ok (.istore_n 3, 1) := by decide +kernel
theorem dX12_laysHidden_6 : decode cX12_laysHidden 6 = .ok (.iconst 0, 1) := by decide +kernel
theorem dX12_laysHidden_7 : decode cX12_laysHidden 7 = .ok (.istore 4, 2) := by decide +kernel
theorem dX12_laysHidden_9 : decode cX12_laysHidden 9 = .ok (.iconst 0, 1) := by decide +kernel
theorem dX12_laysHidden_10 : decode cX12_laysHidden 10 = .ok (.istore 5, 2) := by decide +kernel
theorem dX12_laysHidden_12 : decode cX12_laysHidden 12 = .ok (.iload 5, 2) := by decide +kernel
theorem dX12_laysHidden_14 : decode cX12_laysHidden 14 = .ok (.sipush 1000, 3) := by decide +kernel
theorem dX12_laysHidden_17 : decode cX12_laysHidden 17 = .ok (.if_icmp .ge 35, 3) := by decide +kernel
theorem dX12_laysHidden_20 : decode cX12_laysHidden 20 = .ok (.aload_n 0, 1) := by decide +kernel
theorem dX12_laysHidden_21 : decode cX12_laysHidden 21 = .ok (.iload_n 1, 1) := by decide +kernel
theorem dX12_laysHidden_22 : decode cX12_laysHidden 22 = .ok (.iload_n 2, 1) := by decide +kernel
theorem dX12_laysHidden_23 : decode cX12_laysHidden 23 = .ok (.iload 5, 2) := by decide +kernel
theorem dX12_laysHidden_25 : decode cX12_laysHidden 25 = .ok (.invokevirtual 405, 3) := by decide +kernel
theorem dX12_laysHidden_28 : decode cX12_laysHidden 28 = .ok (.ifCond .ne 6, 3) := by decide +kernel
theorem dX12_laysHidden_31 : decode cX12_laysHidden 31 = .ok (.goto 15, 3) := by decide +kernel
theorem dX12_laysHidden_34 : decode cX12_laysHidden 34 = .ok (.aload_n 0, 1) := by decide +kernel
theorem dX12_laysHidden_35 : decode cX12_laysHidden 35 = .ok (.getfield 54, 3) := by decide +kernel
theorem dX12_laysHidden_38 : decode cX12_laysHidden 38 = .ok (.iload 4, 2) := by decide +kernel
theorem dX12_laysHidden_40 : decode cX12_laysHidden 40 = .ok (.iload 5, 2) := by decide +kernel
theorem dX12_laysHidden_42 : decode cX12_laysHidden 42 = .ok (.iastore, 1) := by decide +kernel
theorem dX12_laysHidden_43 : decode cX12_laysHidden 43 = .ok (.iinc 4 1, 3) := by decide +kernel
theorem dX12_laysHidden_46 : decode cX12_laysHidden 46 = .ok (.iinc 5 1, 3) := by decide +kernel
theorem dX12_laysHidden_49 : decode cX12_laysHidden 49 = .ok (.goto (-37), 3) := by decide +kernel
theorem dX12_laysHidden_52 : decode cX12_laysHidden 52 = .ok (.aload_n 0, 1) := by decide +kernel
theorem dX12_laysHidden_53 : decode cX12_laysHidden 53 = .ok (.iload_n 1, 1) := by decide +kernel
theorem dX12_laysHidden_54 : decode cX12_laysHidden 54 = .ok (.iload_n 3, 1) := by decide +kernel
theorem dX12_laysHidden_55 : decode cX12_laysHidden 55 = .ok (.invokevirtual 378, 3) := by decide +kernel
theorem dX12_laysHidden_58 : decode cX12_laysHidden 58 = .ok (.iload 4, 2) := by decide +kernel
theorem dX12_laysHidden_60 : decode cX12_laysHidden 60 = .ok (.ireturn, 1) := by decide +kernel
theorem dX12_probe_0 : decode cX12_probe 0 = .ok (.aload_n 0, 1) := by decide +kernel
theorem dX12_probe_1 : decode cX12_probe 1 = .ok (.iconst 0, 1) := by decide +kernel
theorem dX12_probe_2 : decode cX12_probe 2 = .ok (.putfield 1, 3) := by decide +kernel
theorem dX12_probe_5 : decode cX12_probe 5 = .ok (.aload_n 0, 1) := by decide +kernel
theorem dX12_probe_6 : decode cX12_probe 6 = .ok (.iload_n 1, 1) := by decide +kernel
theorem dX12_probe_7 : decode cX12_probe 7 = .ok (.iload_n 2, 1) := by decide +kernel
theorem dX12_probe_8 : decode cX12_probe 8 = .ok (.invokevirtual 408, 3) := by decide +kernel
theorem dX12_probe_11 : decode cX12_probe 11 = .ok (.istore_n 3, 1) := by decide +kernel
theorem dX12_probe_12 : decode cX12_probe 12 = .ok (.iload_n 3, 1) := by decide +kernel
theorem dX12_probe_13 : decode cX12_probe 13 = .ok (.ifCond .eq 5, 3) := by decide +kernel
theorem dX12_probe_16 : decode cX12_probe 16 = .ok (.iload_n 3, 1) := by decide +kernel
theorem dX12_probe_17 : decode cX12_probe 17 = .ok (.ireturn, 1) := by decide +kernel
theorem dX12_probe_18 : decode cX12_probe 18 = .ok (.aload_n 0, 1) := by decide +kernel
theorem dX12_probe_19 : decode cX12_probe 19 = .ok (.iload_n 1, 1) := by decide +kernel
theorem dX12_probe_20 : decode cX12_probe 20 = .ok (.iload_n 2, 1) := by decide +kernel
theorem dX12_probe_21 : decode cX12_probe 21 = .ok (.invokevirtual 411, 3) := by decide +kernel
theorem dX12_probe_24 : decode cX12_probe 24 = .ok (.istore 4, 2) := by decide +kernel
theorem dX12_probe_26 : decode cX12_probe 26 = .ok (.aload_n 0, 1) := by decide +kernel
theorem dX12_probe_27 : decode cX12_probe 27 = .ok (.iload_n 1, 1) := by decide +kernel
theorem dX12_probe_28 : decode cX12_probe 28 = .ok (.invokevirtual 375, 3) := by decide +kernel
theorem dX12_probe_31 : decode cX12_probe 31 = .ok (.istore 5, 2) := by decide +kernel
theorem dX12_probe_33 : decode cX12_probe 33 = .ok (.iconst (-1), 1) := by decide +kernel
theorem dX12_probe_34 : decode cX12_probe 34 = .ok (.istore 6, 2) := by decide +kernel
theorem dX12_probe_36 : decode cX12_probe 36 = .ok (.iconst (-1), 1) := by decide +kernel
theorem dX12_probe_37 : decode cX12_probe 37 = .ok (.istore 7, 2) := by decide +kernel
theorem dX12_probe_39 : decode cX12_probe 39 = .ok (.iconst 0, 1) := by decide +kernel
theorem dX12_probe_40 : decode cX12_probe 40 = .ok (.istore 8, 2) := by decide +kernel
theorem dX12_probe_42 : decode cX12_probe 42 = .ok (.iload 8, 2) := by decide +kernel
theorem dX12_probe_44 : decode cX12_probe 44 = .ok (.aload_n 0, 1) := by decide +kernel
theorem dX12_probe_45 : decode cX12_probe 45 = .ok (.getfield 13, 3) := by decide +kernel
theorem dX12_probe_48 : decode cX12_probe 48 = .ok (.iconst 2, 1) := by decide +kernel
theorem dX12_probe_49 : decode cX12_probe 49 = .ok (.iaload, 1) := by decide +kernel
theorem dX12_probe_50 : decode cX12_probe 50 = .ok (.if_icmp .ge 134, 3) := by decide +kernel
theorem dX12_probe_53 : decode cX12_probe 53 = .ok (.iload 4, 2) := by decide +kernel
theorem dX12_probe_55 : decode cX12_probe 55 = .ok (.ifCond .le 129, 3) := by decide +kernel
theorem dX12_probe_58 : decode cX12_probe 58 = .ok (.iload 8, 2) := by decide +kernel
theorem dX12_probe_60 : decode cX12_probe 60 = .ok (.iload_n 1, 1) := by decide +kernel
theorem dX12_probe_61 : decode cX12_probe 61 = .ok (.if_icmp .eq 117, 3) := by decide +kernel
theorem dX12_probe_64 : decode cX12_probe 64 = .ok (.aload_n 0, 1) := by decide +kernel
theorem dX12_probe_65 : decode cX12_probe 65 = .ok (.invokevirtual 255, 3) := by decide +kernel
theorem dX12_probe_68 : decode cX12_probe 68 = .ok (.i2l, 1) := by decide +kernel
theorem dX12_probe_69 : decode cX12_probe 69 = .ok (.iload 8, 2) := by decide +kernel
theorem dX12_probe_71 : decode cX12_probe 71 = .ok (.invokestatic 251, 3) := by decide +kernel
theorem dX12_probe_74 : decode cX12_probe 74 = .ok (.ifCond .eq 6, 3) := by decide +kernel
theorem dX12_probe_77 : decode cX12_probe 77 = .ok (.goto 101, 3) := by decide +kernel
theorem dX12_probe_80 : decode cX12_probe 80 = .ok (.iconst 0, 1) := by decide +kernel
theorem dX12_probe_81 : decode cX12_probe 81 = .ok (.istore 9, 2) := by decide +kernel
theorem dX12_probe_83 : decode cX12_probe 83 = .ok (.iconst 0, 1) := by decide +kernel
theorem dX12_probe_84 : decode cX12_probe 84 = .ok (.istore 10, 2) := by decide +kernel
theorem dX12_probe_86 : decode cX12_probe 86 = .ok (.iload 10, 2) := by decide +kernel
theorem dX12_probe_88 : decode cX12_probe 88 = .ok (.iload 4, 2) := by decide +kernel
theorem dX12_probe_90 : decode cX12_probe 90 = .ok (.if_icmp .ge 48, 3) := by decide +kernel
theorem dX12_probe_93 : decode cX12_probe 93 = .ok (.aload_n 0, 1) := by decide +kernel
theorem dX12_probe_94 : decode cX12_probe 94 = .ok (.iload_n 1, 1) := by decide +kernel
theorem dX12_probe_95 : decode cX12_probe 95 = .ok (.aload_n 0, 1) := by decide +kernel
theorem dX12_probe_96 : decode cX12_probe 96 = .ok (.getfield 54, 3) := by decide +kernel
theorem dX12_probe_99 : decode cX12_probe 99 = .ok (.iload 10, 2) := by decide +kernel
theorem dX12_probe_101 : decode cX12_probe 101 = .ok (.iaload, 1) := by decide +kernel
theorem dX12_probe_102 : decode cX12_probe 102 = .ok (.invokevirtual 378, 3) := by decide +kernel
theorem dX12_probe_105 : decode cX12_probe 105 = .ok (.iload 9, 2) := by decide +kernel
theorem dX12_probe_107 : decode cX12_probe 107 = .ok (.aload_n 0, 1) := by decide +kernel
theorem dX12_probe_108 : decode cX12_probe 108 = .ok (.iload_n 1, 1) := by decide +kernel
theorem dX12_probe_109 : decode cX12_probe 109 = .ok (.iload 8, 2) := by decide +kernel
theorem dX12_probe_111 : decode cX12_probe 111 = .ok (.aload_n 0, 1) := by decide +kernel
theorem dX12_probe_112 : decode cX12_probe 112 = .ok (.getfield 13, 3) := by decide +kernel
theorem dX12_probe_115 : decode cX12_probe 115 = .ok (.bipush 52, 2) := by decide +kernel
theorem dX12_probe_117 : decode cX12_probe 117 = .ok (.iaload, 1) := by decide +kernel
theorem dX12_probe_118 : decode cX12_probe 118 = .ok (.invokevirtual 241, 3) := by decide +kernel
theorem dX12_probe_121 : decode cX12_probe 121 = .ok (.ifCond .eq 7, 3) := by decide +kernel
theorem dX12_probe_124 : decode cX12_probe 124 = .ok (.iconst 1, 1) := by decide +kernel
theorem dX12_probe_125 : decode cX12_probe 125 = .ok (.goto 4, 3) := by decide +kernel
theorem dX12_probe_128 : decode cX12_probe 128 = .ok (.iconst 0, 1) := by decide +kernel
theorem dX12_probe_129 : decode cX12_probe 129 = .ok (.iadd, 1) := by decide +kernel
theorem dX12_probe_130 : decode cX12_probe 130 = .ok (.istore 9, 2) := by decide +kernel
theorem dX12_probe_132 : decode cX12_probe 132 = .ok (.iinc 10 1, 3) := by decide +kernel
theorem dX12_probe_135 : decode cX12_probe 135 = .ok (.goto (-49), 3) := by decide +kernel
theorem dX12_probe_138 : decode cX12_probe 138 = .ok (.iload 9, 2) := by decide +kernel
theorem dX12_probe_140 : decode cX12_probe 140 = .ok (.iload 4, 2) := by decide +kernel
theorem dX12_probe_142 : decode cX12_probe 142 = .ok (.iload 9, 2) := by decide +kernel
theorem dX12_probe_144 : decode cX12_probe 144 = .ok (.isub, 1) := by decide +kernel
theorem dX12_probe_145 : decode cX12_probe 145 = .ok (.if_icmp .ge 8, 3) := by decide +kernel
theorem dX12_probe_148 : decode cX12_probe 148 = .ok (.iload 9, 2) := by decide +kernel
theorem dX12_probe_150 : decode cX12_probe 150 = .ok (.goto 8, 3) := by decide +kernel
theorem dX12_probe_153 : decode cX12_probe 153 = .ok (.iload 4, 2) := by decide +kernel
theorem dX12_probe_155 : decode cX12_probe 155 = .ok (.iload 9, 2) := by decide +kernel
theorem dX12_probe_157 : decode cX12_probe 157 = .ok (.isub, 1) := by decide +kernel
theorem dX12_probe_158 : decode cX12_probe 158 = .ok (.istore 10, 2) := by decide +kernel
theorem dX12_probe_160 : decode cX12_probe 160 = .ok (.iload 10, 2) := by decide +kernel
theorem dX12_probe_162 : decode cX12_probe 162 = .ok (.iload 7, 2) := by decide +kernel
theorem dX12_probe_164 : decode cX12_probe 164 = .ok (.if_icmp .gt 6, 3) := by decide +kernel
theorem dX12_probe_167 : decode cX12_probe 167 = .ok (.goto 11, 3) := by decide +kernel
theorem dX12_probe_170 : decode cX12_probe 170 = .ok (.iload 8, 2) := by decide +kernel
theorem dX12_probe_172 : decode cX12_probe 172 = .ok (.istore 6, 2) := by decide +kernel
theorem dX12_probe_174 : decode cX12_probe 174 = .ok (.iload 10, 2) := by decide +kernel
theorem dX12_probe_176 : decode cX12_probe 176 = .ok (.istore 7, 2) := by decide +kernel
theorem dX12_probe_178 : decode cX12_probe 178 = .ok (.iinc 8 1, 3) := by decide +kernel
theorem dX12_probe_181 : decode cX12_probe 181 = .ok (.goto (-139), 3) := by decide +kernel
theorem dX12_probe_184 : decode cX12_probe 184 = .ok (.aload_n 0, 1) := by decide +kernel
theorem dX12_probe_185 : decode cX12_probe 185 = .ok (.iload_n 1, 1) := by decide +kernel
theorem dX12_probe_186 : decode cX12_probe 186 = .ok (.iload 5, 2) := by decide +kernel
theorem dX12_probe_188 : decode cX12_probe 188 = .ok (.invokevirtual 378, 3) := by decide +kernel
theorem dX12_probe_191 : decode cX12_probe 191 = .ok (.iload 6, 2) := by decide +kernel
theorem dX12_probe_193 : decode cX12_probe 193 = .ok (.ireturn, 1) := by decide +kernel
theorem dX12_reserve_0 : decode cX12_reserve 0 = .ok (.aload_n 0, 1) := by decide +kernel
theorem dX12_reserve_1 : decode cX12_reserve 1 = .ok (.iconst 0, 1) := by decide +kernel
theorem dX12_reserve_2 : decode cX12_reserve 2 = .ok (.putfield 1, 3) := by decide +kernel
theorem dX12_reserve_5 : decode cX12_reserve 5 = .ok (.aload_n 0, 1) := by decide +kernel
theorem dX12_reserve_6 : decode cX12_reserve 6 = .ok (.iload_n 1, 1) := by decide +kernel
theorem dX12_reserve_7 : decode cX12_reserve 7 = .ok (.invokevirtual 349, 3) := by decide +kernel
theorem dX12_reserve_10 : decode cX12_reserve 10 = .ok (.ifCond .ne 6, 3) := by decide +kernel
theorem dX12_reserve_13 : decode cX12_reserve 13 = .ok (.bipush (-3), 2) := by decide +kernel
theorem dX12_reserve_15 : decode cX12_reserve 15 = .ok (.ireturn, 1) := by decide +kernel
theorem dX12_reserve_16 : decode cX12_reserve 16 = .ok (.aload_n 0, 1) := by decide +kernel
theorem dX12_reserve_17 : decode cX12_reserve 17 = .ok (.invokevirtual 346, 3) := by decide +kernel
theorem dX12_reserve_20 : decode cX12_reserve 20 = .ok (.aload_n 0, 1) := by decide +kernel
theorem dX12_reserve_21 : decode cX12_reserve 21 = .ok (.invokevirtual 255, 3) := by decide +kernel
theorem dX12_reserve_24 : decode cX12_reserve 24 = .ok (.iload_n 1, 1) := by decide +kernel
theorem dX12_reserve_25 : decode cX12_reserve 25 = .ok (.iconst (-1), 1) := by decide +kernel
theorem dX12_reserve_26 : decode cX12_reserve 26 = .ok (.ixor, 1) := by decide +kernel
theorem dX12_reserve_27 : decode cX12_reserve 27 = .ok (.iand, 1) := by decide +kernel
theorem dX12_reserve_28 : decode cX12_reserve 28 = .ok (.istore_n 2, 1) := by decide +kernel
theorem dX12_reserve_29 : decode cX12_reserve 29 = .ok (.iconst (-1), 1) := by decide +kernel
theorem dX12_reserve_30 : decode cX12_reserve 30 = .ok (.istore_n 3, 1) := by decide +kernel
theorem dX12_reserve_31 : decode cX12_reserve 31 = .ok (.ldc2_w 289, 3) := by decide +kernel
theorem dX12_reserve_34 : decode cX12_reserve 34 = .ok (.aload_n 0, 1) := by decide +kernel
theorem dX12_reserve_35 : decode cX12_reserve 35 = .ok (.iload_n 1, 1) := by decide +kernel
theorem dX12_reserve_36 : decode cX12_reserve 36 = .ok (.invokevirtual 422, 3) := by decide +kernel
theorem dX12_reserve_39 : decode cX12_reserve 39 = .ok (.lmul, 1) := by decide +kernel
theorem dX12_reserve_40 : decode cX12_reserve 40 = .ok (.lstore 4, 2) := by decide +kernel
theorem dX12_reserve_42 : decode cX12_reserve 42 = .ok (.iconst 0, 1) := by decide +kernel
theorem dX12_reserve_43 : decode cX12_reserve 43 = .ok (.istore 6, 2) := by decide +kernel
theorem dX12_reserve_45 : decode cX12_reserve 45 = .ok (.iload 6, 2) := by decide +kernel
theorem dX12_reserve_47 : decode cX12_reserve 47 = .ok (.aload_n 0, 1) := by decide +kernel
theorem dX12_reserve_48 : decode cX12_reserve 48 = .ok (.getfield 13, 3) := by decide +kernel
theorem dX12_reserve_51 : decode cX12_reserve 51 = .ok (.iconst 2, 1) := by decide +kernel
theorem dX12_reserve_52 : decode cX12_reserve 52 = .ok (.iaload, 1) := by decide +kernel
theorem dX12_reserve_53 : decode cX12_reserve 53 = .ok (.if_icmp .ge 55, 3) := by decide +kernel
theorem dX12_reserve_56 : decode cX12_reserve 56 = .ok (.iload_n 2, 1) := by decide +kernel
theorem dX12_reserve_57 : decode cX12_reserve 57 = .ok (.i2l, 1) := by decide +kernel
theorem dX12_reserve_58 : decode cX12_reserve 58 = .ok (.iload 6, 2) := by decide +kernel
theorem dX12_reserve_60 : decode cX12_reserve 60 = .ok (.invokestatic 251, 3) := by decide +kernel
theorem dX12_reserve_63 : decode cX12_reserve 63 = .ok (.ifCond .eq 16, 3) := by decide +kernel
theorem dX12_reserve_66 : decode cX12_reserve 66 = .ok (.aload_n 0, 1) := by decide +kernel
theorem dX12_reserve_67 : decode cX12_reserve 67 = .ok (.iload_n 1, 1) := by decide +kernel
theorem dX12_reserve_68 : decode cX12_reserve 68 = .ok (.iconst 1, 1) := by decide +kernel
theorem dX12_reserve_69 : decode cX12_reserve 69 = .ok (.iload 6, 2) := by decide +kernel
theorem dX12_reserve_71 : decode cX12_reserve 71 = .ok (.ishl, 1) := by decide +kernel
theorem dX12_reserve_72 : decode cX12_reserve 72 = .ok (.ior, 1) := by decide +kernel
theorem dX12_reserve_73 : decode cX12_reserve 73 = .ok (.invokevirtual 422, 3) := by decide +kernel
theorem dX12_reserve_76 : decode cX12_reserve 76 = .ok (.goto 6, 3) := by decide +kernel
theorem dX12_reserve_79 : decode cX12_reserve 79 = .ok (.ldc2_w 291, 3) := by decide +kernel
theorem dX12_reserve_82 : decode cX12_reserve 82 = .ok (.lstore 7, 2) := by decide +kernel
theorem dX12_reserve_84 : decode cX12_reserve 84 = .ok (.lload 7, 2) := by decide +kernel
theorem dX12_reserve_86 : decode cX12_reserve 86 = .ok (.lload 4, 2) := by decide +kernel
theorem dX12_reserve_88 : decode cX12_reserve 88 = .ok (.lcmp, 1) := by decide +kernel
theorem dX12_reserve_89 : decode cX12_reserve 89 = .ok (.ifCond .gt 6, 3) := by decide +kernel
theorem dX12_reserve_92 : decode cX12_reserve 92 = .ok (.goto 10, 3) := by decide +kernel
theorem dX12_reserve_95 : decode cX12_reserve 95 = .ok (.iload 6, 2) := by decide +kernel
theorem dX12_reserve_97 : decode cX12_reserve 97 = .ok (.istore_n 3, 1) := by decide +kernel
theorem dX12_reserve_98 : decode cX12_reserve 98 = .ok (.lload 7, 2) := by decide +kernel
theorem dX12_reserve_100 : decode cX12_reserve 100 = .ok (.lstore 4, 2) := by decide +kernel
theorem dX12_reserve_102 : decode cX12_reserve 102 = .ok (.iinc 6 1, 3) := by decide +kernel
theorem dX12_reserve_105 : decode cX12_reserve 105 = .ok (.goto (-60), 3) := by decide +kernel
theorem dX12_reserve_108 : decode cX12_reserve 108 = .ok (.iload_n 3, 1) := by decide +kernel
theorem dX12_reserve_109 : decode cX12_reserve 109 = .ok (.ireturn, 1) := by decide +kernel
theorem dX12_tens_0 : decode cX12_tens 0 = .ok (.lconst 1, 1) := by decide +kernel
theorem dX12_tens_1 : decode cX12_tens 1 = .ok (.lstore_n 1, 1) := by decide +kernel
theorem dX12_tens_2 : decode cX12_tens 2 = .ok (.iconst 0, 1) := by decide +kernel
theorem dX12_tens_3 : decode cX12_tens 3 = .ok (.istore_n 3, 1) := by decide +kernel
theorem dX12_tens_4 : decode cX12_tens 4 = .ok (.iload_n 3, 1) := by decide +kernel
theorem dX12_tens_5 : decode cX12_tens 5 = .ok (.iload_n 0, 1) := by decide +kernel
theorem dX12_tens_6 : decode cX12_tens 6 = .ok (.if_icmp .ge 15, 3) := by decide +kernel
theorem dX12_tens_9 : decode cX12_tens 9 = .ok (.lload_n 1, 1) := by decide +kernel
theorem dX12_tens_10 : decode cX12_tens 10 = .ok (.ldc2_w 289, 3) := by decide +kernel
theorem dX12_tens_13 : decode cX12_tens 13 = .ok (.lmul, 1) := by decide +kernel
theorem dX12_tens_14 : decode cX12_tens 14 = .ok (.lstore_n 1, 1) := by decide +kernel
theorem dX12_tens_15 : decode cX12_tens 15 = .ok (.iinc 3 1, 3) := by decide +kernel
theorem dX12_tens_18 : decode cX12_tens 18 = .ok (.goto (-14), 3) := by decide +kernel
theorem dX12_tens_21 : decode cX12_tens 21 = .ok (.lload_n 1, 1) := by decide +kernel
theorem dX12_tens_22 : decode cX12_tens 22 = .ok (.lreturn, 1) := by decide +kernel
set_option maxHeartbeats 4000000 in
set_option maxRecDepth 100000 in
theorem gX12_isTold_0a2408d (l : Launch) (D : va_G) (cy : Nat → ClassId) (h0 : Nat) (h1 : Nat) (p0 : Int32) (p1 : Int32) (w0 : Value) (w1 : Value) (w2 : Value) (p2 : Int32) (p3 : Int32) (p4 : Int32) (p5 : Int32) (p6 : Int32) (p7 : Int32) (p8 : Int32) (p9 : Int32) (p10 : Int32) (p11 : Int32) (p12 : Int32) (w3 : Value) (w4 : Value) (w5 : Value) (w6 : Value) (w7 : Value) (p13 : Int32) (p14 : Int32) (w8 : Value) (w9 : Value) (w10 : Value) (p15 : Int32) (p16 : Int32) (w11 : Value) (w12 : Value) (w13 : Value) (w14 : Value) (w15 : Value) (p17 : Int32) (w16 : Value) (w17 : Value) (w18 : Value) (f0 : Nat → Int32) (p18 : Int32) (hp0 : 0 ≤ (p0).toInt ∧ (p0).toInt ≤ 999) (hp1 : 0 ≤ (p1).toInt ∧ (p1).toInt ≤ 0) (hp2 : 0 ≤ (p2).toInt ∧ (p2).toInt ≤ 900) (hp3 : 0 ≤ (p3).toInt ∧ (p3).toInt ≤ 900) (hp4 : 0 ≤ (p4).toInt ∧ (p4).toInt ≤ 900) (hp5 : 0 ≤ (p5).toInt ∧ (p5).toInt ≤ 900) (hp6 : (-2147483648) ≤ (p6).toInt ∧ (p6).toInt ≤ 2147483647) (hp7 : 0 ≤ (p7).toInt ∧ (p7).toInt ≤ 999) (hp8 : (-2147483648) ≤ (p8).toInt ∧ (p8).toInt ≤ 2147483647) (hp9 : (-2147483648) ≤ (p9).toInt ∧ (p9).toInt ≤ 2147483647) (hp10 : (-2147483648) ≤ (p10).toInt ∧ (p10).toInt ≤ 2147483647) (hp11 : (-2147483648) ≤ (p11).toInt ∧ (p11).toInt ≤ 2147483647) (hp12 : (-2147483648) ≤ (p12).toInt ∧ (p12).toInt ≤ 2147483647) (hp13 : (-2147483648) ≤ (p13).toInt ∧ (p13).toInt ≤ 2147483647) (hp14 : (-2147483648) ≤ (p14).toInt ∧ (p14).toInt ≤ 2147483647) (hp15 : (-2147483648) ≤ (p15).toInt ∧ (p15).toInt ≤ 2147483647) (hp16 : (-2147483648) ≤ (p16).toInt ∧ (p16).toInt ≤ 2147483647) (hp17 : (-2147483648) ≤ (p17).toInt ∧ (p17).toInt ≤ 2147483647) (hp18 : 0 ≤ (p18).toInt ∧ (p18).toInt ≤ 10) (htf0_84 : f0 84 = p18) (rf0 : AL f0) (sz : Nat) : MI l yX12_isTold cX12_isTold 2 .boolean { frames := 0, cells := 0, slots := 0, locals := 0 } [.ref h0, .int p0] D cy [(h0, .inr (12, [.int p1, .ref h1, w0, w1, w2, .int p2, .int p3, .int p4, .int p5, .int p6, .int p7, .int p8, .int p9, .int p10, .int p11, .int p12, w3, w4, w5, w6, w7, .int p13, .int p14, w8, w9, w10, .int p15, .int p16, w11, w12, w13, w14, w15, .int p17, w16, w17, w18])), (h1, .inl (cy 1, 3918, .inl f0))] sz (fun r u => (0 ≤ r.toInt ∧ r.toInt ≤ 1) ∧ True) (fun u => [(h0, .inr (12, [.int p1, .ref h1, w0, w1, w2, .int p2, .int p3, .int p4, .int p5, .int p6, .int p7, .int p8, .int p9, .int p10, .int p11, .int p12, w3, w4, w5, w6, w7, .int p13, .int p14, w8, w9, w10, .int p15, .int p16, w11, w12, w13, w14, w15, .int p17, w16, w17, w18])), (h1, .inl (cy 1, 3918, .inl f0))]) 0 0 := by
  refine q_ent (own := RX12) (by decide) rfl (Nat.le_of_ble_eq_true rfl) (fun p e s m below meth c ls X hr hlk hnm hK hT h hA hl => ?_)
  obtain ⟨hx, hb, hml, hown, ht⟩ := id X
  replace hl : lv_has ls 2 [(0, .ref h0), (1, .int p0)] := hl
  refine lv_aload_n hx hb dX12_isTold_0 rfl (lv_at hl 0 rfl) ?_
  refine q_get X hK h 0 rfl rfl wf_12 1 (by decide) rfl wm_5_171 dX12_isTold_1 ?_
  refine lv_iconst (v := 1) hx hb dX12_isTold_4 (by decide) ?_
  refine q_iald X hK h 1 rfl (q_in (by decide +kernel)) dX12_isTold_5 ?_
  obtain ⟨z_1, ez_1, hz_1⟩ := al_V rf0 (x := 1) (show (1 : Int32).toInt = 1 by decide) (by omega) (by omega)
  refine q_c z_1 ez_1 ?_
  clear ez_1
  refine lv_iconst (v := 1) hx hb dX12_isTold_6 (by decide) ?_
  refine q_jn (pc2 := 42) (fun H locs ls st => ∃ v42_2_0 : Int32, (0 ≤ (v42_2_0).toInt ∧ (v42_2_0).toInt ≤ 1) ∧ st = [.int v42_2_0] ∧ qW D (va_A [(h0, .inr (12, [.int p1, .ref h1, w0, w1, w2, .int p2, .int p3, .int p4, .int p5, .int p6, .int p7, .int p8, .int p9, .int p10, .int p11, .int p12, w3, w4, w5, w6, w7, .int p13, .int p14, w8, w9, w10, .int p15, .int p16, w11, w12, w13, w14, w15, .int p17, w16, w17, w18])), (h1, .inl (cy 1, 3918, .inl f0))] sz) s.heap [(h0, .inr (12, [.int p1, .ref h1, w0, w1, w2, .int p2, .int p3, .int p4, .int p5, .int p6, .int p7, .int p8, .int p9, .int p10, .int p11, .int p12, w3, w4, w5, w6, w7, .int p13, .int p14, w8, w9, w10, .int p15, .int p16, w11, w12, w13, w14, w15, .int p17, w16, w17, w18])), (h1, .inl (cy 1, 3918, .inl f0))] H locs ∧ lv_has ls 2 [(0, .ref h0), (1, .int p0)]) (fun H locs ls st hP => ?_) (fun J_42 => ?_)
  · obtain ⟨v42_2_0, hv42_2_0, rfl, h, hl⟩ := hP
    exact q_iret X hr hlk hK h (q_nz (by omega) (by omega)) (fun _ => 0, fun _ _ => 0, fun _ _ => 0) ⟨hv42_2_0, trivial⟩ [0, 1] rfl rfl dX12_isTold_42 (Nat.le_of_ble_eq_true rfl) (Nat.le_of_ble_eq_true rfl)
  · skip
    refine q_jn (pc2 := 41) (fun H locs ls st => st = [] ∧ qW D (va_A [(h0, .inr (12, [.int p1, .ref h1, w0, w1, w2, .int p2, .int p3, .int p4, .int p5, .int p6, .int p7, .int p8, .int p9, .int p10, .int p11, .int p12, w3, w4, w5, w6, w7, .int p13, .int p14, w8, w9, w10, .int p15, .int p16, w11, w12, w13, w14, w15, .int p17, w16, w17, w18])), (h1, .inl (cy 1, 3918, .inl f0))] sz) s.heap [(h0, .inr (12, [.int p1, .ref h1, w0, w1, w2, .int p2, .int p3, .int p4, .int p5, .int p6, .int p7, .int p8, .int p9, .int p10, .int p11, .int p12, w3, w4, w5, w6, w7, .int p13, .int p14, w8, w9, w10, .int p15, .int p16, w11, w12, w13, w14, w15, .int p17, w16, w17, w18])), (h1, .inl (cy 1, 3918, .inl f0))] H locs ∧ lv_has ls 2 [(0, .ref h0), (1, .int p0)]) (fun H locs ls st hP => ?_) (fun J_41 => ?_)
    · obtain ⟨rfl, h, hl⟩ := hP
      refine lv_iconst (v := 0) hx hb dX12_isTold_41 (by decide) ?_
      exact J_42 _ _ _ _ ⟨0, ⟨by decide +kernel, by decide +kernel⟩, rfl, h, (lv_sub hl [0, 1] rfl)⟩
    · skip
      refine q_jn (pc2 := 20) (fun H locs ls st => st = [] ∧ qW D (va_A [(h0, .inr (12, [.int p1, .ref h1, w0, w1, w2, .int p2, .int p3, .int p4, .int p5, .int p6, .int p7, .int p8, .int p9, .int p10, .int p11, .int p12, w3, w4, w5, w6, w7, .int p13, .int p14, w8, w9, w10, .int p15, .int p16, w11, w12, w13, w14, w15, .int p17, w16, w17, w18])), (h1, .inl (cy 1, 3918, .inl f0))] sz) s.heap [(h0, .inr (12, [.int p1, .ref h1, w0, w1, w2, .int p2, .int p3, .int p4, .int p5, .int p6, .int p7, .int p8, .int p9, .int p10, .int p11, .int p12, w3, w4, w5, w6, w7, .int p13, .int p14, w8, w9, w10, .int p15, .int p16, w11, w12, w13, w14, w15, .int p17, w16, w17, w18])), (h1, .inl (cy 1, 3918, .inl f0))] H locs ∧ lv_has ls 2 [(0, .ref h0), (1, .int p0)]) (fun H locs ls st hP => ?_) (fun J_20 => ?_)
      · obtain ⟨rfl, h, hl⟩ := hP
        refine lv_aload_n hx hb dX12_isTold_20 rfl (lv_at hl 0 rfl) ?_
        refine q_get X hK h 0 rfl rfl wf_12 1 (by decide) rfl wm_5_171 dX12_isTold_21 ?_
        refine lv_iconst (v := 1) hx hb dX12_isTold_24 (by decide) ?_
        refine q_iald X hK h 1 rfl (q_in (by decide +kernel)) dX12_isTold_25 ?_
        obtain ⟨z_5, ez_5, hz_5⟩ := al_V rf0 (x := 1) (show (1 : Int32).toInt = 1 by decide) (by omega) (by omega)
        refine q_c z_5 ez_5 ?_
        clear ez_5
        refine lv_iconst (v := 2) hx hb dX12_isTold_26 (by decide) ?_
        refine q_jn (pc2 := 37) (fun H locs ls st => st = [] ∧ qW D (va_A [(h0, .inr (12, [.int p1, .ref h1, w0, w1, w2, .int p2, .int p3, .int p4, .int p5, .int p6, .int p7, .int p8, .int p9, .int p10, .int p11, .int p12, w3, w4, w5, w6, w7, .int p13, .int p14, w8, w9, w10, .int p15, .int p16, w11, w12, w13, w14, w15, .int p17, w16, w17, w18])), (h1, .inl (cy 1, 3918, .inl f0))] sz) s.heap [(h0, .inr (12, [.int p1, .ref h1, w0, w1, w2, .int p2, .int p3, .int p4, .int p5, .int p6, .int p7, .int p8, .int p9, .int p10, .int p11, .int p12, w3, w4, w5, w6, w7, .int p13, .int p14, w8, w9, w10, .int p15, .int p16, w11, w12, w13, w14, w15, .int p17, w16, w17, w18])), (h1, .inl (cy 1, 3918, .inl f0))] H locs ∧ lv_has ls 2 [(0, .ref h0), (1, .int p0)]) (fun H locs ls st hP => ?_) (fun J_37 => ?_)
        · obtain ⟨rfl, h, hl⟩ := hP
          refine lv_iconst (v := 1) hx hb dX12_isTold_37 (by decide) ?_
          refine lv_goto (tgt := 42) hx hb dX12_isTold_38 (by decide) ?_
          exact J_42 _ _ _ _ ⟨1, ⟨by decide +kernel, by decide +kernel⟩, rfl, h, (lv_sub hl [0, 1] rfl)⟩
        · skip
          refine lv_icmp_gt (tgt := 37) hx hb dX12_isTold_27 (by decide) (fun c_7 => ?_) (fun c_7 => ?_)
          · replace c_7 := i_lt (x := 2) (y := z_5) (show (2 : Int32).toInt = 2 by decide) rfl c_7
            exact J_37 _ _ _ _ ⟨rfl, h, (lv_sub hl [0, 1] rfl)⟩
          · replace c_7 := i_nlt (x := 2) (y := z_5) (show (2 : Int32).toInt = 2 by decide) rfl c_7
            refine lv_iload_n hx hb dX12_isTold_30 rfl (lv_at hl 1 rfl) ?_
            refine lv_bipush (v := 10) hx hb dX12_isTold_31 (by decide) ?_
            refine lv_irem hx hb dX12_isTold_33 (by decide) ?_
            obtain ⟨z_8, ez_8, hz_8⟩ := e_rem (x := p0) (y := 10) rfl (show (10 : Int32).toInt = 10 by decide) (by omega) (by omega)
            refine q_c z_8 ez_8 ?_
            clear ez_8
            refine lv_if_ne (tgt := 41) hx hb dX12_isTold_34 (by decide) (fun c_9 => ?_) (fun c_9 => ?_)
            · replace c_9 := i_ne (x := z_8) (y := 0) rfl (show (0 : Int32).toInt = 0 by decide) c_9
              exact J_41 _ _ _ _ ⟨rfl, h, (lv_sub hl [0, 1] rfl)⟩
            · replace c_9 := i_eq (x := z_8) (y := 0) rfl (show (0 : Int32).toInt = 0 by decide) c_9
              exact J_37 _ _ _ _ ⟨rfl, h, (lv_sub hl [0, 1] rfl)⟩
      · skip
        refine lv_icmp_gt (tgt := 20) hx hb dX12_isTold_7 (by decide) (fun c_10 => ?_) (fun c_10 => ?_)
        · replace c_10 := i_lt (x := 1) (y := z_1) (show (1 : Int32).toInt = 1 by decide) rfl c_10
          exact J_20 _ _ _ _ ⟨rfl, h, (lv_sub hl [0, 1] rfl)⟩
        · replace c_10 := i_nlt (x := 1) (y := z_1) (show (1 : Int32).toInt = 1 by decide) rfl c_10
          refine lv_iload_n hx hb dX12_isTold_10 rfl (lv_at hl 1 rfl) ?_
          refine lv_bipush (v := 10) hx hb dX12_isTold_11 (by decide) ?_
          refine lv_idiv hx hb dX12_isTold_13 (by decide) ?_
          obtain ⟨z_11, ez_11, hz_11⟩ := e_div (x := p0) (y := 10) rfl (show (10 : Int32).toInt = 10 by decide) (by omega) (by omega)
          refine q_c z_11 ez_11 ?_
          clear ez_11
          refine lv_bipush (v := 10) hx hb dX12_isTold_14 (by decide) ?_
          refine lv_irem hx hb dX12_isTold_16 (by decide) ?_
          obtain ⟨z_12, ez_12, hz_12⟩ := e_rem (x := z_11) (y := 10) rfl (show (10 : Int32).toInt = 10 by decide) (by omega) (by omega)
          refine q_c z_12 ez_12 ?_
          clear ez_12
          refine lv_if_ne (tgt := 41) hx hb dX12_isTold_17 (by decide) (fun c_13 => ?_) (fun c_13 => ?_)
          · replace c_13 := i_ne (x := z_12) (y := 0) rfl (show (0 : Int32).toInt = 0 by decide) c_13
            exact J_41 _ _ _ _ ⟨rfl, h, (lv_sub hl [0, 1] rfl)⟩
          · replace c_13 := i_eq (x := z_12) (y := 0) rfl (show (0 : Int32).toInt = 0 by decide) c_13
            exact J_20 _ _ _ _ ⟨rfl, h, (lv_sub hl [0, 1] rfl)⟩
set_option maxHeartbeats 4000000 in
set_option maxRecDepth 100000 in
theorem gX12_fits_c2178b6 (l : Launch) (D : va_G) (cy : Nat → ClassId) (h0 : Nat) (h1 : Nat) (h2 : Nat) (h3 : Nat) (p0 : Int32) (p1 : Int32) (p2 : Int32) (p3 : Int32) (w0 : Value) (w1 : Value) (w2 : Value) (p4 : Int32) (p5 : Int32) (p6 : Int32) (p7 : Int32) (p8 : Int32) (p9 : Int32) (p10 : Int32) (p11 : Int32) (p12 : Int32) (p13 : Int32) (p14 : Int32) (w3 : Value) (w4 : Value) (w5 : Value) (p15 : Int32) (p16 : Int32) (w6 : Value) (w7 : Value) (w8 : Value) (p17 : Int32) (p18 : Int32) (w9 : Value) (w10 : Value) (w11 : Value) (w12 : Value) (w13 : Value) (p19 : Int32) (w14 : Value) (w15 : Value) (w16 : Value) (f0 : Nat → Int32) (p20 : Int32) (f1 : Nat → Int32) (f2 : Nat → Int32) (hp0 : 0 ≤ (p0).toInt ∧ (p0).toInt ≤ 9) (hp1 : (-2147483648) ≤ (p1).toInt ∧ (p1).toInt ≤ 2147483647) (hp2 : 0 ≤ (p2).toInt ∧ (p2).toInt ≤ 999) (hp3 : 0 ≤ (p3).toInt ∧ (p3).toInt ≤ 0) (hp4 : 0 ≤ (p4).toInt ∧ (p4).toInt ≤ 900) (hp5 : 0 ≤ (p5).toInt ∧ (p5).toInt ≤ 900) (hp6 : 0 ≤ (p6).toInt ∧ (p6).toInt ≤ 900) (hp7 : 0 ≤ (p7).toInt ∧ (p7).toInt ≤ 900) (hp8 : (-2147483648) ≤ (p8).toInt ∧ (p8).toInt ≤ 2147483647) (hp9 : 0 ≤ (p9).toInt ∧ (p9).toInt ≤ 999) (hp10 : (-2147483648) ≤ (p10).toInt ∧ (p10).toInt ≤ 2147483647) (hp11 : (-2147483648) ≤ (p11).toInt ∧ (p11).toInt ≤ 2147483647) (hp12 : (-2147483648) ≤ (p12).toInt ∧ (p12).toInt ≤ 2147483647) (hp13 : (-2147483648) ≤ (p13).toInt ∧ (p13).toInt ≤ 2147483647) (hp14 : (-2147483648) ≤ (p14).toInt ∧ (p14).toInt ≤ 2147483647) (hp15 : (-2147483648) ≤ (p15).toInt ∧ (p15).toInt ≤ 2147483647) (hp16 : (-2147483648) ≤ (p16).toInt ∧ (p16).toInt ≤ 2147483647) (hp17 : (-2147483648) ≤ (p17).toInt ∧ (p17).toInt ≤ 2147483647) (hp18 : (-2147483648) ≤ (p18).toInt ∧ (p18).toInt ≤ 2147483647) (hp19 : (-2147483648) ≤ (p19).toInt ∧ (p19).toInt ≤ 2147483647) (hp20 : 0 ≤ (p20).toInt ∧ (p20).toInt ≤ 10) (htf0_84 : f0 84 = p20) (rf0 : AL f0) (sz : Nat) : MI l yX12_fits cX12_fits 6 .boolean { frames := 3, cells := 0, slots := 0, locals := 71 } [.ref h0, .int p0, .int p1, .int p2] D cy [(h0, .inr (12, [.int p3, .ref h1, w0, w1, w2, .int p4, .int p5, .int p6, .int p7, .int p8, .int p9, .int p10, .int p11, .int p12, .int p13, .int p14, .ref h2, .ref h3, w3, w4, w5, .int p15, .int p16, w6, w7, w8, .int p17, .int p18, w9, w10, w11, w12, w13, .int p19, w14, w15, w16])), (h1, .inl (cy 1, 3918, .inl f0)), (h2, .inl (cy 1, 900, .inl f1)), (h3, .inl (cy 1, 11, .inl f2))] sz (fun r u => (0 ≤ r.toInt ∧ r.toInt ≤ 1) ∧ AL (u.2.1 2) ∧ (u.2.1 2) 84 = p20 ∧ True) (fun u => [(h0, .inr (12, [.int p3, .ref h1, w0, w1, w2, .int p4, .int p5, .int p6, .int p7, .int p8, .int p9, .int p10, .int p11, .int p12, .int p13, .int p14, .ref h2, .ref h3, w3, w4, w5, .int p15, .int p16, w6, w7, w8, .int p17, .int p18, w9, w10, w11, w12, w13, .int p19, w14, w15, w16])), (h1, .inl (cy 1, 3918, .inl (u.2.1 2))), (h2, .inl (cy 1, 900, .inl (u.2.1 0))), (h3, .inl (cy 1, 11, .inl (u.2.1 1)))]) 0 0 := by
  refine q_ent (own := RX12) (by decide) rfl (Nat.le_of_ble_eq_true rfl) (fun p e s m below meth c ls X hr hlk hnm hK hT h hA hl => ?_)
  obtain ⟨hx, hb, hml, hown, ht⟩ := id X
  replace hl : lv_has ls 6 [(0, .ref h0), (1, .int p0), (2, .int p1), (3, .int p2)] := hl
  refine lv_aload_n hx hb dX12_fits_0 rfl (lv_at hl 0 rfl) ?_
  refine lv_iload_n hx hb dX12_fits_1 rfl (lv_at hl 3 rfl) ?_
  refine q_callVi (rest := []) (wr := [(h2, .inl (cy 1, 900, .inl f1)), (h3, .inl (cy 1, 11, .inl f2))]) X hK hT hA h (fun sz => gX12_isTold_0a2408d l D cy h0 h1 p2 p3 w0 w1 w2 p4 p5 p6 p7 p8 p9 p10 p11 p12 p13 p14 (.ref h2) (.ref h3) w3 w4 w5 p15 p16 w6 w7 w8 p17 p18 w9 w10 w11 w12 w13 p19 w14 w15 w16 f0 p20 hp2 hp3 hp4 hp5 hp6 hp7 (i_rng _) hp9 (i_rng _) (i_rng _) (i_rng _) (i_rng _) (i_rng _) (i_rng _) (i_rng _) (i_rng _) (i_rng _) (i_rng _) hp20 htf0_84 rf0 sz) wm_7_235 wm_7_238 wm_1_12 hd_X12_isTold wm_7_237 wp_8_2 (ci := 12) (q0 := 0) rfl rfl ⟨Nat.le_of_ble_eq_true rfl, Nat.le_of_ble_eq_true rfl⟩ hl.1 rfl (Nat.le_of_ble_eq_true rfl) dX12_fits_2 ⟨Nat.le_of_ble_eq_true rfl, Nat.le_of_ble_eq_true rfl⟩ [0, 1] [2, 3] rfl rfl (by decide) rfl rfl (fun r_1 u_1 H locs w_1 h_1 => ?_)
  clear h
  obtain ⟨wr_1, _⟩ := w_1
  replace h_1 : qW D _ _ [(h2, .inl (cy 1, 900, .inl f1)), (h3, .inl (cy 1, 11, .inl f2)), (h0, .inr (12, [.int p3, .ref h1, w0, w1, w2, .int p4, .int p5, .int p6, .int p7, .int p8, .int p9, .int p10, .int p11, .int p12, .int p13, .int p14, .ref h2, .ref h3, w3, w4, w5, .int p15, .int p16, w6, w7, w8, .int p17, .int p18, w9, w10, w11, w12, w13, .int p19, w14, w15, w16])), (h1, .inl (cy 1, 3918, .inl f0))] _ _ := h_1
  refine lv_if_ne (tgt := 10) hx hb dX12_fits_5 (by decide) (fun c_2 => ?_) (fun c_2 => ?_)
  · replace c_2 := i_ne (x := r_1) (y := 0) rfl (show (0 : Int32).toInt = 0 by decide) c_2
    refine lv_aload_n hx hb dX12_fits_10 rfl (lv_at hl 0 rfl) ?_
    refine lv_iload_n hx hb dX12_fits_11 rfl (lv_at hl 1 rfl) ?_
    refine lv_iload_n hx hb dX12_fits_12 rfl (lv_at hl 3 rfl) ?_
    refine q_callVv (rest := []) (wr := [(h2, .inl (cy 1, 900, .inl f1)), (h3, .inl (cy 1, 11, .inl f2))]) X hK hT hA h_1 (fun sz => gX12_puts_2de0910 l D cy h0 h1 p0 p2 p3 w0 w1 w2 p4 p5 p6 p7 p8 p9 p10 p11 p12 p13 p14 (.ref h2) (.ref h3) w3 w4 w5 p15 p16 w6 w7 w8 p17 p18 w9 w10 w11 w12 w13 p19 w14 w15 w16 f0 p20 hp0 hp2 hp3 hp4 hp5 hp6 hp7 (i_rng _) hp9 (i_rng _) (i_rng _) (i_rng _) (i_rng _) (i_rng _) (i_rng _) (i_rng _) (i_rng _) (i_rng _) (i_rng _) hp20 htf0_84 rf0 sz) wm_7_176 wm_7_179 wm_1_12 hd_X12_puts wm_7_178 wp_7_11 (ci := 12) (q0 := 0) rfl rfl ⟨Nat.le_of_ble_eq_true rfl, Nat.le_of_ble_eq_true rfl⟩ hl.1 rfl (Nat.le_of_ble_eq_true rfl) dX12_fits_13 ⟨Nat.le_of_ble_eq_true rfl, Nat.le_of_ble_eq_true rfl⟩ [2, 3] [0, 1] rfl rfl (by decide) rfl rfl (fun u_3 H locs w_3 h_3 => ?_)
    clear h_1
    obtain ⟨w3_0, w3_1, _⟩ := w_3
    replace h_3 : qW D _ _ [(h2, .inl (cy 1, 900, .inl f1)), (h3, .inl (cy 1, 11, .inl f2)), (h0, .inr (12, [.int p3, .ref h1, w0, w1, w2, .int p4, .int p5, .int p6, .int p7, .int p8, .int p9, .int p10, .int p11, .int p12, .int p13, .int p14, .ref h2, .ref h3, w3, w4, w5, .int p15, .int p16, w6, w7, w8, .int p17, .int p18, w9, w10, w11, w12, w13, .int p19, w14, w15, w16])), (h1, .inl (cy 1, 3918, .inl (u_3.2.1 0)))] _ _ := h_3
    refine lv_aload_n hx hb dX12_fits_16 rfl (lv_at hl 0 rfl) ?_
    refine q_callVi (rest := []) (wr := [(h2, .inl (cy 1, 900, .inl f1)), (h3, .inl (cy 1, 11, .inl f2))]) X hK hT hA h_3 (fun sz => gX12_townNow_2907b4b l D cy h0 h1 p3 w0 w1 w2 p4 p5 p6 p7 p8 p9 p10 p11 p12 p13 p14 (.ref h2) (.ref h3) w3 w4 w5 p15 p16 w6 w7 w8 p17 p18 w9 w10 w11 w12 w13 p19 w14 w15 w16 (u_3.2.1 0) p20 hp3 hp4 hp5 hp6 hp7 (i_rng _) hp9 (i_rng _) (i_rng _) (i_rng _) (i_rng _) (i_rng _) (i_rng _) (i_rng _) (i_rng _) (i_rng _) (i_rng _) hp20 w3_1 w3_0 sz) wm_6_170 wm_6_173 wm_1_12 hd_X12_townNow wm_6_172 wp_5_9 (ci := 12) (q0 := 0) rfl rfl ⟨Nat.le_of_ble_eq_true rfl, Nat.le_of_ble_eq_true rfl⟩ hl.1 rfl (Nat.le_of_ble_eq_true rfl) dX12_fits_17 ⟨Nat.le_of_ble_eq_true rfl, Nat.le_of_ble_eq_true rfl⟩ [2, 3] [0, 1] rfl rfl (by decide) rfl rfl (fun r_4 u_4 H locs w_4 h_4 => ?_)
    clear h_3
    obtain ⟨wr_4, _⟩ := w_4
    replace h_4 : qW D _ _ [(h2, .inl (cy 1, 900, .inl f1)), (h3, .inl (cy 1, 11, .inl f2)), (h0, .inr (12, [.int p3, .ref h1, w0, w1, w2, .int p4, .int p5, .int p6, .int p7, .int p8, .int p9, .int p10, .int p11, .int p12, .int p13, .int p14, .ref h2, .ref h3, w3, w4, w5, .int p15, .int p16, w6, w7, w8, .int p17, .int p18, w9, w10, w11, w12, w13, .int p19, w14, w15, w16])), (h1, .inl (cy 1, 3918, .inl (u_3.2.1 0)))] _ _ := h_4
    refine lv_iconst (v := 1) hx hb dX12_fits_20 (by decide) ?_
    refine lv_iload_n hx hb dX12_fits_21 rfl (lv_at hl 1 rfl) ?_
    refine lv_ishl hx hb dX12_fits_22 ?_
    obtain ⟨z_5, ez_5, hz_5⟩ := e_shlk (p := p0) 9 (by decide) rfl (by omega) (by omega)
    refine q_c z_5 ez_5 ?_
    clear ez_5
    refine lv_iconst (v := (-1)) hx hb dX12_fits_23 (by decide) ?_
    refine lv_ixor hx hb dX12_fits_24 ?_
    refine q_any (fun z_6 hz_6 => ?_)
    refine lv_iand hx hb dX12_fits_25 ?_
    obtain ⟨z_7, ez_7, hz_7⟩ := e_and1 (x := r_4) (y := z_6) rfl (by omega)
    refine q_c z_7 ez_7 ?_
    clear ez_7
    refine lv_istore (lv' := [(4, .int z_7), (0, .ref h0), (1, .int p0), (2, .int p1), (3, .int p2)]) hx hb dX12_fits_26 hl (by decide) rfl (fun ls_8 hl_8 => ?_)
    clear hl
    refine lv_iconst (v := 0) hx hb dX12_fits_28 (by decide) ?_
    refine lv_istore (lv' := [(5, .int 0), (4, .int z_7), (0, .ref h0), (1, .int p0), (2, .int p1), (3, .int p2)]) hx hb dX12_fits_29 hl_8 (by decide) rfl (fun ls_9 hl_9 => ?_)
    clear hl_8
    refine q_wl (fun (v31_10_0 : Int32) H locs ls => ∃ v31_10_1 : Nat → Int32, ∃ v31_10_2 : Nat → Int32, (0 ≤ (v31_10_0).toInt ∧ (v31_10_0).toInt ≤ 10) ∧ qW D (va_A [(h0, .inr (12, [.int p3, .ref h1, w0, w1, w2, .int p4, .int p5, .int p6, .int p7, .int p8, .int p9, .int p10, .int p11, .int p12, .int p13, .int p14, .ref h2, .ref h3, w3, w4, w5, .int p15, .int p16, w6, w7, w8, .int p17, .int p18, w9, w10, w11, w12, w13, .int p19, w14, w15, w16])), (h1, .inl (cy 1, 3918, .inl f0)), (h2, .inl (cy 1, 900, .inl f1)), (h3, .inl (cy 1, 11, .inl f2))] sz) s.heap [(h2, .inl (cy 1, 900, .inl v31_10_1)), (h3, .inl (cy 1, 11, .inl v31_10_2)), (h0, .inr (12, [.int p3, .ref h1, w0, w1, w2, .int p4, .int p5, .int p6, .int p7, .int p8, .int p9, .int p10, .int p11, .int p12, .int p13, .int p14, .ref h2, .ref h3, w3, w4, w5, .int p15, .int p16, w6, w7, w8, .int p17, .int p18, w9, w10, w11, w12, w13, .int p19, w14, w15, w16])), (h1, .inl (cy 1, 3918, .inl (u_3.2.1 0)))] H locs ∧ lv_has ls 6 [(0, .ref h0), (1, .int p0), (2, .int p1), (3, .int p2), (4, .int z_7), (5, .int v31_10_0)]) (fun (v31_10_0 : Int32) => (11 - (v31_10_0).toInt).toNat) (fun q_31 ih_31 H locs ls hP => ?_) 0 ⟨f1, f2, ⟨by decide +kernel, by decide +kernel⟩, h_4, (lv_sub hl_9 [2, 3, 4, 5, 1, 0] rfl)⟩
    obtain ⟨v31_10_0, rfl⟩ : ∃ z, z = q_31 := ⟨_, rfl⟩
    obtain ⟨v31_10_1, v31_10_2, hv31_10_0, h, hl⟩ := hP
    refine lv_iload hx hb dX12_fits_31 (lv_at hl 5 rfl) ?_
    refine lv_aload_n hx hb dX12_fits_33 rfl (lv_at hl 0 rfl) ?_
    refine q_get X hK h 2 rfl rfl wf_12 1 (by decide) rfl wm_5_171 dX12_fits_34 ?_
    refine lv_iconst (v := 2) hx hb dX12_fits_37 (by decide) ?_
    refine q_iald X hK h 3 rfl (q_in (by decide +kernel)) dX12_fits_38 ?_
    obtain ⟨z_11, ez_11, hz_11⟩ := al_P w3_0 (x := 2) (show (2 : Int32).toInt = 2 by decide) (by omega) (by omega)
    refine q_c z_11 ez_11 ?_
    clear ez_11
    refine lv_icmp_ge (tgt := 85) hx hb dX12_fits_39 (by decide) (fun c_12 => ?_) (fun c_12 => ?_)
    · replace c_12 := i_le (x := z_11) (y := v31_10_0) rfl rfl c_12
      refine lv_iconst (v := 1) hx hb dX12_fits_85 (by decide) ?_
      exact q_iret X hr hlk hK h rfl (fun _ => 0, fun k => List.getD [v31_10_1, v31_10_2, (u_3.2.1 0)] k (fun _ => 0), fun _ _ => 0) ⟨⟨by decide +kernel, by decide +kernel⟩, w3_0, w3_1, trivial⟩ [2, 3, 0, 1] rfl rfl dX12_fits_86 (Nat.le_of_ble_eq_true rfl) (Nat.le_of_ble_eq_true rfl)
    · replace c_12 := i_nle (x := z_11) (y := v31_10_0) rfl rfl c_12
      refine lv_iload hx hb dX12_fits_42 (lv_at hl 4 rfl) ?_
      refine lv_i2l hx hb dX12_fits_44 rfl ?_
      obtain ⟨z_13, ez_13, hz_13⟩ := e_i2l (x := z_7) rfl
      refine q_cl z_13 ez_13 ?_
      clear ez_13
      refine lv_iload hx hb dX12_fits_45 (lv_at hl 5 rfl) ?_
      refine q_callSi (rest := []) (wr := [(h2, .inl (cy 1, 900, .inl v31_10_1)), (h3, .inl (cy 1, 11, .inl v31_10_2)), (h0, .inr (12, [.int p3, .ref h1, w0, w1, w2, .int p4, .int p5, .int p6, .int p7, .int p8, .int p9, .int p10, .int p11, .int p12, .int p13, .int p14, .ref h2, .ref h3, w3, w4, w5, .int p15, .int p16, w6, w7, w8, .int p17, .int p18, w9, w10, w11, w12, w13, .int p19, w14, w15, w16])), (h1, .inl (cy 1, 3918, .inl (u_3.2.1 0)))]) X hK hT hA h (fun sz => gX12_isIn_b0455a8 l D cy z_13 v31_10_0 ⟨by omega, by omega⟩ ⟨by omega, by omega⟩ sz) wm_6_167 wm_6_169 wm_1_12 hd_X12_isIn wm_6_168 ⟨Nat.le_of_ble_eq_true rfl, Nat.le_of_ble_eq_true rfl⟩ hl.1 rfl (Nat.le_of_ble_eq_true rfl) dX12_fits_47 ⟨Nat.le_of_ble_eq_true rfl, Nat.le_of_ble_eq_true rfl⟩ [] [0, 1, 2, 3] rfl rfl (by decide) rfl rfl (fun r_14 u_14 H locs w_14 h_14 => ?_)
      clear h
      obtain ⟨wr_14, _⟩ := w_14
      replace h_14 : qW D _ _ [(h2, .inl (cy 1, 900, .inl v31_10_1)), (h3, .inl (cy 1, 11, .inl v31_10_2)), (h0, .inr (12, [.int p3, .ref h1, w0, w1, w2, .int p4, .int p5, .int p6, .int p7, .int p8, .int p9, .int p10, .int p11, .int p12, .int p13, .int p14, .ref h2, .ref h3, w3, w4, w5, .int p15, .int p16, w6, w7, w8, .int p17, .int p18, w9, w10, w11, w12, w13, .int p19, w14, w15, w16])), (h1, .inl (cy 1, 3918, .inl (u_3.2.1 0)))] _ _ := h_14
      refine q_jn (pc2 := 79) (fun H locs ls st => ∃ v79_15_0 : Nat → Int32, ∃ v79_15_1 : Nat → Int32, st = [] ∧ qW D (va_A [(h0, .inr (12, [.int p3, .ref h1, w0, w1, w2, .int p4, .int p5, .int p6, .int p7, .int p8, .int p9, .int p10, .int p11, .int p12, .int p13, .int p14, .ref h2, .ref h3, w3, w4, w5, .int p15, .int p16, w6, w7, w8, .int p17, .int p18, w9, w10, w11, w12, w13, .int p19, w14, w15, w16])), (h1, .inl (cy 1, 3918, .inl f0)), (h2, .inl (cy 1, 900, .inl f1)), (h3, .inl (cy 1, 11, .inl f2))] sz) s.heap [(h2, .inl (cy 1, 900, .inl v79_15_0)), (h3, .inl (cy 1, 11, .inl v79_15_1)), (h0, .inr (12, [.int p3, .ref h1, w0, w1, w2, .int p4, .int p5, .int p6, .int p7, .int p8, .int p9, .int p10, .int p11, .int p12, .int p13, .int p14, .ref h2, .ref h3, w3, w4, w5, .int p15, .int p16, w6, w7, w8, .int p17, .int p18, w9, w10, w11, w12, w13, .int p19, w14, w15, w16])), (h1, .inl (cy 1, 3918, .inl (u_3.2.1 0)))] H locs ∧ lv_has ls 6 [(0, .ref h0), (1, .int p0), (2, .int p1), (3, .int p2), (4, .int z_7), (5, .int v31_10_0)]) (fun H locs ls st hP => ?_) (fun J_79 => ?_)
      · obtain ⟨v79_15_0, v79_15_1, rfl, h, hl⟩ := hP
        obtain ⟨z_16, ez_16, hz_16⟩ := e_add (x := v31_10_0) (y := Int32.ofInt 1) rfl (b := 1) (by decide) (by omega) (by omega)
        refine lv_iinc (v := z_16) (lv' := [(5, .int z_16), (0, .ref h0), (1, .int p0), (2, .int p1), (3, .int p2), (4, .int z_7)]) hx hb dX12_fits_79 hl (k := 5) rfl ez_16 (by decide) rfl (fun ls_16 hl_16 => ?_)
        clear hl
        refine lv_goto (tgt := 31) hx hb dX12_fits_82 (by decide) ?_
        exact ih_31 z_16 (by show (11 - (z_16).toInt).toNat < (11 - (v31_10_0).toInt).toNat; omega) _ _ _ ⟨v79_15_0, v79_15_1, ⟨by omega, by omega⟩, h, (lv_sub hl_16 [1, 2, 3, 4, 5, 0] rfl)⟩
      · skip
        refine lv_if_eq (tgt := 79) hx hb dX12_fits_50 (by decide) (fun c_17 => ?_) (fun c_17 => ?_)
        · replace c_17 := i_eq (x := r_14) (y := 0) rfl (show (0 : Int32).toInt = 0 by decide) c_17
          exact J_79 _ _ _ _ ⟨v31_10_1, v31_10_2, rfl, h_14, (lv_sub hl [0, 1, 2, 3, 4, 5] rfl)⟩
        · replace c_17 := i_ne (x := r_14) (y := 0) rfl (show (0 : Int32).toInt = 0 by decide) c_17
          refine lv_aload_n hx hb dX12_fits_53 rfl (lv_at hl 0 rfl) ?_
          refine lv_iload_n hx hb dX12_fits_54 rfl (lv_at hl 1 rfl) ?_
          refine lv_iload hx hb dX12_fits_55 (lv_at hl 5 rfl) ?_
          refine lv_aload_n hx hb dX12_fits_57 rfl (lv_at hl 0 rfl) ?_
          refine q_get X hK h_14 2 rfl rfl wf_12 1 (by decide) rfl wm_5_171 dX12_fits_58 ?_
          refine lv_bipush (v := 52) hx hb dX12_fits_61 (by decide) ?_
          refine q_iald X hK h_14 3 rfl (q_in (by decide +kernel)) dX12_fits_63 ?_
          refine q_any (fun z_18 hz_18 => ?_)
          refine q_callVi (rest := []) (wr := []) X hK hT hA h_14 (fun sz => gX12_areOpposed_e7e6c1a l D cy h0 h1 h2 h3 p0 v31_10_0 z_18 p3 w0 w1 w2 p4 p5 p6 p7 p8 p9 p10 p11 p12 p13 p14 w3 w4 w5 p15 p16 w6 w7 w8 p17 p18 w9 w10 w11 w12 w13 p19 w14 w15 w16 (u_3.2.1 0) p20 v31_10_1 v31_10_2 hp0 ⟨by omega, by omega⟩ (i_rng _) hp3 hp4 hp5 hp6 hp7 (i_rng _) hp9 (i_rng _) (i_rng _) (i_rng _) (i_rng _) (i_rng _) (i_rng _) (i_rng _) (i_rng _) (i_rng _) (i_rng _) hp20 w3_1 w3_0 sz) wm_6_187 wm_6_190 wm_1_12 hd_X12_areOpposed wm_6_189 wp_5_11 (ci := 12) (q0 := 0) rfl rfl ⟨Nat.le_of_ble_eq_true rfl, Nat.le_of_ble_eq_true rfl⟩ hl.1 rfl (Nat.le_of_ble_eq_true rfl) dX12_fits_64 ⟨Nat.le_of_ble_eq_true rfl, Nat.le_of_ble_eq_true rfl⟩ [2, 3, 0, 1] [] rfl rfl (by decide) rfl rfl (fun r_19 u_19 H locs w_19 h_19 => ?_)
          clear h_14
          obtain ⟨wr_19, _⟩ := w_19
          replace h_19 : qW D _ _ [(h0, .inr (12, [.int p3, .ref h1, w0, w1, w2, .int p4, .int p5, .int p6, .int p7, .int p8, .int p9, .int p10, .int p11, .int p12, .int p13, .int p14, .ref h2, .ref h3, w3, w4, w5, .int p15, .int p16, w6, w7, w8, .int p17, .int p18, w9, w10, w11, w12, w13, .int p19, w14, w15, w16])), (h1, .inl (cy 1, 3918, .inl (u_3.2.1 0))), (h2, .inl (cy 1, 900, .inl (u_19.2.1 0))), (h3, .inl (cy 1, 11, .inl (u_19.2.1 1)))] _ _ := h_19
          refine lv_iload_n hx hb dX12_fits_67 rfl (lv_at hl 2 rfl) ?_
          refine lv_i2l hx hb dX12_fits_68 rfl ?_
          obtain ⟨z_20, ez_20, hz_20⟩ := e_i2l (x := p1) rfl
          refine q_cl z_20 ez_20 ?_
          clear ez_20
          refine lv_iload hx hb dX12_fits_69 (lv_at hl 5 rfl) ?_
          refine q_callSi (rest := [.int r_19]) (wr := [(h0, .inr (12, [.int p3, .ref h1, w0, w1, w2, .int p4, .int p5, .int p6, .int p7, .int p8, .int p9, .int p10, .int p11, .int p12, .int p13, .int p14, .ref h2, .ref h3, w3, w4, w5, .int p15, .int p16, w6, w7, w8, .int p17, .int p18, w9, w10, w11, w12, w13, .int p19, w14, w15, w16])), (h1, .inl (cy 1, 3918, .inl (u_3.2.1 0))), (h2, .inl (cy 1, 900, .inl (u_19.2.1 0))), (h3, .inl (cy 1, 11, .inl (u_19.2.1 1)))]) X hK hT hA h_19 (fun sz => gX12_isIn_b0455a8 l D cy z_20 v31_10_0 ⟨by omega, by omega⟩ ⟨by omega, by omega⟩ sz) wm_6_167 wm_6_169 wm_1_12 hd_X12_isIn wm_6_168 ⟨Nat.le_of_ble_eq_true rfl, Nat.le_of_ble_eq_true rfl⟩ hl.1 rfl (Nat.le_of_ble_eq_true rfl) dX12_fits_71 ⟨Nat.le_of_ble_eq_true rfl, Nat.le_of_ble_eq_true rfl⟩ [] [0, 1, 2, 3] rfl rfl (by decide) rfl rfl (fun r_21 u_21 H locs w_21 h_21 => ?_)
          clear h_19
          obtain ⟨wr_21, _⟩ := w_21
          replace h_21 : qW D _ _ [(h0, .inr (12, [.int p3, .ref h1, w0, w1, w2, .int p4, .int p5, .int p6, .int p7, .int p8, .int p9, .int p10, .int p11, .int p12, .int p13, .int p14, .ref h2, .ref h3, w3, w4, w5, .int p15, .int p16, w6, w7, w8, .int p17, .int p18, w9, w10, w11, w12, w13, .int p19, w14, w15, w16])), (h1, .inl (cy 1, 3918, .inl (u_3.2.1 0))), (h2, .inl (cy 1, 900, .inl (u_19.2.1 0))), (h3, .inl (cy 1, 11, .inl (u_19.2.1 1)))] _ _ := h_21
          refine lv_icmp_eq (tgt := 79) hx hb dX12_fits_74 (by decide) (fun c_22 => ?_) (fun c_22 => ?_)
          · replace c_22 := i_eq (x := r_19) (y := r_21) rfl rfl c_22
            exact J_79 _ _ _ _ ⟨(u_19.2.1 0), (u_19.2.1 1), rfl, (q_re h_21 [2, 3, 0, 1] rfl rfl), (lv_sub hl [0, 1, 2, 3, 4, 5] rfl)⟩
          · replace c_22 := i_ne (x := r_19) (y := r_21) rfl rfl c_22
            refine lv_iconst (v := 0) hx hb dX12_fits_77 (by decide) ?_
            exact q_iret X hr hlk hK h_21 rfl (fun _ => 0, fun k => List.getD [(u_19.2.1 0), (u_19.2.1 1), (u_3.2.1 0)] k (fun _ => 0), fun _ _ => 0) ⟨⟨by decide +kernel, by decide +kernel⟩, w3_0, w3_1, trivial⟩ [0, 1, 2, 3] rfl rfl dX12_fits_78 (Nat.le_of_ble_eq_true rfl) (Nat.le_of_ble_eq_true rfl)
  · replace c_2 := i_eq (x := r_1) (y := 0) rfl (show (0 : Int32).toInt = 0 by decide) c_2
    refine lv_iconst (v := 0) hx hb dX12_fits_8 (by decide) ?_
    exact q_iret X hr hlk hK h_1 rfl (fun _ => 0, fun k => List.getD [f1, f2, f0] k (fun _ => 0), fun _ _ => 0) ⟨⟨by decide +kernel, by decide +kernel⟩, rf0, htf0_84, trivial⟩ [2, 3, 0, 1] rfl rfl dX12_fits_9 (Nat.le_of_ble_eq_true rfl) (Nat.le_of_ble_eq_true rfl)
set_option maxHeartbeats 4000000 in
set_option maxRecDepth 100000 in
theorem gX12_laysHidden_bb1e8ce (l : Launch) (D : va_G) (cy : Nat → ClassId) (h0 : Nat) (h1 : Nat) (h2 : Nat) (h3 : Nat) (h4 : Nat) (p0 : Int32) (p1 : Int32) (p2 : Int32) (w0 : Value) (w1 : Value) (w2 : Value) (p3 : Int32) (p4 : Int32) (p5 : Int32) (p6 : Int32) (p7 : Int32) (p8 : Int32) (p9 : Int32) (p10 : Int32) (p11 : Int32) (p12 : Int32) (p13 : Int32) (w3 : Value) (w4 : Value) (w5 : Value) (p14 : Int32) (p15 : Int32) (w6 : Value) (w7 : Value) (w8 : Value) (p16 : Int32) (p17 : Int32) (w9 : Value) (w10 : Value) (w11 : Value) (w12 : Value) (p18 : Int32) (w13 : Value) (w14 : Value) (w15 : Value) (f0 : Nat → Int32) (p19 : Int32) (f1 : Nat → Int32) (f2 : Nat → Int32) (f3 : Nat → Int32) (hp0 : 0 ≤ (p0).toInt ∧ (p0).toInt ≤ 9) (hp1 : (-2147483648) ≤ (p1).toInt ∧ (p1).toInt ≤ 2147483647) (hp2 : 0 ≤ (p2).toInt ∧ (p2).toInt ≤ 0) (hp3 : 0 ≤ (p3).toInt ∧ (p3).toInt ≤ 900) (hp4 : 0 ≤ (p4).toInt ∧ (p4).toInt ≤ 900) (hp5 : 0 ≤ (p5).toInt ∧ (p5).toInt ≤ 900) (hp6 : 0 ≤ (p6).toInt ∧ (p6).toInt ≤ 900) (hp7 : (-2147483648) ≤ (p7).toInt ∧ (p7).toInt ≤ 2147483647) (hp8 : 0 ≤ (p8).toInt ∧ (p8).toInt ≤ 999) (hp9 : (-2147483648) ≤ (p9).toInt ∧ (p9).toInt ≤ 2147483647) (hp10 : (-2147483648) ≤ (p10).toInt ∧ (p10).toInt ≤ 2147483647) (hp11 : (-2147483648) ≤ (p11).toInt ∧ (p11).toInt ≤ 2147483647) (hp12 : (-2147483648) ≤ (p12).toInt ∧ (p12).toInt ≤ 2147483647) (hp13 : (-2147483648) ≤ (p13).toInt ∧ (p13).toInt ≤ 2147483647) (hp14 : (-2147483648) ≤ (p14).toInt ∧ (p14).toInt ≤ 2147483647) (hp15 : (-2147483648) ≤ (p15).toInt ∧ (p15).toInt ≤ 2147483647) (hp16 : (-2147483648) ≤ (p16).toInt ∧ (p16).toInt ≤ 2147483647) (hp17 : (-2147483648) ≤ (p17).toInt ∧ (p17).toInt ≤ 2147483647) (hp18 : (-2147483648) ≤ (p18).toInt ∧ (p18).toInt ≤ 2147483647) (hp19 : 0 ≤ (p19).toInt ∧ (p19).toInt ≤ 10) (htf0_84 : f0 84 = p19) (rf0 : AL f0) (rf3 : RG f3 1000 0 999) (sz : Nat) : MI l yX12_laysHidden cX12_laysHidden 6 .int { frames := 4, cells := 0, slots := 0, locals := 96 } [.ref h0, .int p0, .int p1] D cy [(h0, .inr (12, [.int p2, .ref h1, w0, w1, w2, .int p3, .int p4, .int p5, .int p6, .int p7, .int p8, .int p9, .int p10, .int p11, .int p12, .int p13, .ref h2, .ref h3, w3, w4, w5, .int p14, .int p15, w6, w7, w8, .int p16, .int p17, .ref h4, w9, w10, w11, w12, .int p18, w13, w14, w15])), (h1, .inl (cy 1, 3918, .inl f0)), (h2, .inl (cy 1, 900, .inl f1)), (h3, .inl (cy 1, 11, .inl f2)), (h4, .inl (cy 1, 1000, .inl f3))] sz (fun r u => (0 ≤ r.toInt ∧ r.toInt ≤ 1000) ∧ RG (u.2.1 2) 1000 0 999 ∧ AL (u.2.1 3) ∧ (u.2.1 3) 84 = p19 ∧ True) (fun u => [(h0, .inr (12, [.int p2, .ref h1, w0, w1, w2, .int p3, .int p4, .int p5, .int p6, .int p7, .int p8, .int p9, .int p10, .int p11, .int p12, .int p13, .ref h2, .ref h3, w3, w4, w5, .int p14, .int p15, w6, w7, w8, .int p16, .int p17, .ref h4, w9, w10, w11, w12, .int p18, w13, w14, w15])), (h1, .inl (cy 1, 3918, .inl (u.2.1 3))), (h2, .inl (cy 1, 900, .inl (u.2.1 0))), (h3, .inl (cy 1, 11, .inl (u.2.1 1))), (h4, .inl (cy 1, 1000, .inl (u.2.1 2)))]) 0 0 := by
  refine q_ent (own := RX12) (by decide) rfl (Nat.le_of_ble_eq_true rfl) (fun p e s m below meth c ls X hr hlk hnm hK hT h hA hl => ?_)
  obtain ⟨hx, hb, hml, hown, ht⟩ := id X
  replace hl : lv_has ls 6 [(0, .ref h0), (1, .int p0), (2, .int p1)] := hl
  refine lv_aload_n hx hb dX12_laysHidden_0 rfl (lv_at hl 0 rfl) ?_
  refine lv_iload_n hx hb dX12_laysHidden_1 rfl (lv_at hl 1 rfl) ?_
  refine q_callVi (rest := []) (wr := [(h2, .inl (cy 1, 900, .inl f1)), (h3, .inl (cy 1, 11, .inl f2)), (h4, .inl (cy 1, 1000, .inl f3))]) X hK hT hA h (fun sz => gX12_viewsOf_bc3d930 l D cy h0 h1 p0 p2 w0 w1 w2 p3 p4 p5 p6 p7 p8 p9 p10 p11 p12 p13 (.ref h2) (.ref h3) w3 w4 w5 p14 p15 w6 w7 w8 p16 p17 (.ref h4) w9 w10 w11 w12 p18 w13 w14 w15 f0 p19 hp0 hp2 hp3 hp4 hp5 hp6 (i_rng _) hp8 (i_rng _) (i_rng _) (i_rng _) (i_rng _) (i_rng _) (i_rng _) (i_rng _) (i_rng _) (i_rng _) (i_rng _) hp19 htf0_84 rf0 sz) wm_7_172 wm_7_175 wm_1_12 hd_X12_viewsOf wm_7_174 wp_7_10 (ci := 12) (q0 := 0) rfl rfl ⟨Nat.le_of_ble_eq_true rfl, Nat.le_of_ble_eq_true rfl⟩ hl.1 rfl (Nat.le_of_ble_eq_true rfl) dX12_laysHidden_2 ⟨Nat.le_of_ble_eq_true rfl, Nat.le_of_ble_eq_true rfl⟩ [0, 1] [2, 3, 4] rfl rfl (by decide) rfl rfl (fun r_1 u_1 H locs w_1 h_1 => ?_)
  clear h
  obtain ⟨wr_1, _⟩ := w_1
  replace h_1 : qW D _ _ [(h2, .inl (cy 1, 900, .inl f1)), (h3, .inl (cy 1, 11, .inl f2)), (h4, .inl (cy 1, 1000, .inl f3)), (h0, .inr (12, [.int p2, .ref h1, w0, w1, w2, .int p3, .int p4, .int p5, .int p6, .int p7, .int p8, .int p9, .int p10, .int p11, .int p12, .int p13, .ref h2, .ref h3, w3, w4, w5, .int p14, .int p15, w6, w7, w8, .int p16, .int p17, .ref h4, w9, w10, w11, w12, .int p18, w13, w14, w15])), (h1, .inl (cy 1, 3918, .inl f0))] _ _ := h_1
  refine lv_istore_n (lv' := [(3, .int r_1), (0, .ref h0), (1, .int p0), (2, .int p1)]) hx hb dX12_laysHidden_5 rfl hl (by decide) rfl (fun ls_2 hl_2 => ?_)
  clear hl
  refine lv_iconst (v := 0) hx hb dX12_laysHidden_6 (by decide) ?_
  refine lv_istore (lv' := [(4, .int 0), (3, .int r_1), (0, .ref h0), (1, .int p0), (2, .int p1)]) hx hb dX12_laysHidden_7 hl_2 (by decide) rfl (fun ls_3 hl_3 => ?_)
  clear hl_2
  refine lv_iconst (v := 0) hx hb dX12_laysHidden_9 (by decide) ?_
  refine lv_istore (lv' := [(5, .int 0), (4, .int 0), (3, .int r_1), (0, .ref h0), (1, .int p0), (2, .int p1)]) hx hb dX12_laysHidden_10 hl_3 (by decide) rfl (fun ls_4 hl_4 => ?_)
  clear hl_3
  refine q_wl (fun (q : Int32 × Int32) H locs ls => match q with | (v12_5_0, v12_5_1) => ∃ v12_5_2 : Nat → Int32, ∃ v12_5_3 : Nat → Int32, ∃ v12_5_4 : Nat → Int32, ∃ v12_5_5 : Nat → Int32, (0 ≤ (v12_5_0).toInt ∧ (v12_5_0).toInt ≤ 1000) ∧ (0 ≤ (v12_5_1).toInt ∧ (v12_5_1).toInt ≤ 1000) ∧ RG v12_5_2 1000 0 999 ∧ v12_5_3 84 = p19 ∧ AL v12_5_3 ∧ (0 ≤ (v12_5_1 : Int32).toInt ∧ (v12_5_1 : Int32).toInt ≤ (v12_5_0 : Int32).toInt) ∧ qW D (va_A [(h0, .inr (12, [.int p2, .ref h1, w0, w1, w2, .int p3, .int p4, .int p5, .int p6, .int p7, .int p8, .int p9, .int p10, .int p11, .int p12, .int p13, .ref h2, .ref h3, w3, w4, w5, .int p14, .int p15, w6, w7, w8, .int p16, .int p17, .ref h4, w9, w10, w11, w12, .int p18, w13, w14, w15])), (h1, .inl (cy 1, 3918, .inl f0)), (h2, .inl (cy 1, 900, .inl f1)), (h3, .inl (cy 1, 11, .inl f2)), (h4, .inl (cy 1, 1000, .inl f3))] sz) s.heap [(h2, .inl (cy 1, 900, .inl v12_5_4)), (h3, .inl (cy 1, 11, .inl v12_5_5)), (h4, .inl (cy 1, 1000, .inl v12_5_2)), (h0, .inr (12, [.int p2, .ref h1, w0, w1, w2, .int p3, .int p4, .int p5, .int p6, .int p7, .int p8, .int p9, .int p10, .int p11, .int p12, .int p13, .ref h2, .ref h3, w3, w4, w5, .int p14, .int p15, w6, w7, w8, .int p16, .int p17, .ref h4, w9, w10, w11, w12, .int p18, w13, w14, w15])), (h1, .inl (cy 1, 3918, .inl v12_5_3))] H locs ∧ lv_has ls 6 [(0, .ref h0), (1, .int p0), (2, .int p1), (3, .int r_1), (4, .int v12_5_1), (5, .int v12_5_0)]) (fun (q : Int32 × Int32) => match q with | (v12_5_0, v12_5_1) => (1001 - (v12_5_0).toInt).toNat) (fun q_12 ih_12 H locs ls hP => ?_) (0, 0) ⟨f3, f0, f1, f2, ⟨by decide +kernel, by decide +kernel⟩, ⟨by decide +kernel, by decide +kernel⟩, (rg_wide rf3 (by decide) (by decide)), htf0_84, rf0, (by have q0 : (0 : Int32).toInt = 0 := (by decide); omega), h_1, (lv_sub hl_4 [3, 4, 5, 2, 1, 0] rfl)⟩
  obtain ⟨v12_5_0, v12_5_1⟩ := q_12
  obtain ⟨v12_5_2, v12_5_3, v12_5_4, v12_5_5, hv12_5_0, hv12_5_1, rv12_5_2, trv12_5_3_84, rv12_5_3, x6_0, h, hl⟩ := hP
  refine lv_iload hx hb dX12_laysHidden_12 (lv_at hl 5 rfl) ?_
  refine lv_sipush (v := 1000) hx hb dX12_laysHidden_14 (by decide) ?_
  refine lv_icmp_ge (tgt := 52) hx hb dX12_laysHidden_17 (by decide) (fun c_7 => ?_) (fun c_7 => ?_)
  · replace c_7 := i_le (x := 1000) (y := v12_5_0) (show (1000 : Int32).toInt = 1000 by decide) rfl c_7
    refine lv_aload_n hx hb dX12_laysHidden_52 rfl (lv_at hl 0 rfl) ?_
    refine lv_iload_n hx hb dX12_laysHidden_53 rfl (lv_at hl 1 rfl) ?_
    refine lv_iload_n hx hb dX12_laysHidden_54 rfl (lv_at hl 3 rfl) ?_
    refine q_callVv (rest := []) (wr := [(h2, .inl (cy 1, 900, .inl v12_5_4)), (h3, .inl (cy 1, 11, .inl v12_5_5)), (h4, .inl (cy 1, 1000, .inl v12_5_2))]) X hK hT hA h (fun sz => gX12_puts_2de0910 l D cy h0 h1 p0 r_1 p2 w0 w1 w2 p3 p4 p5 p6 p7 p8 p9 p10 p11 p12 p13 (.ref h2) (.ref h3) w3 w4 w5 p14 p15 w6 w7 w8 p16 p17 (.ref h4) w9 w10 w11 w12 p18 w13 w14 w15 v12_5_3 p19 hp0 wr_1 hp2 hp3 hp4 hp5 hp6 (i_rng _) hp8 (i_rng _) (i_rng _) (i_rng _) (i_rng _) (i_rng _) (i_rng _) (i_rng _) (i_rng _) (i_rng _) (i_rng _) hp19 trv12_5_3_84 rv12_5_3 sz) wm_7_176 wm_7_179 wm_1_12 hd_X12_puts wm_7_178 wp_7_11 (ci := 12) (q0 := 0) rfl rfl ⟨Nat.le_of_ble_eq_true rfl, Nat.le_of_ble_eq_true rfl⟩ hl.1 rfl (Nat.le_of_ble_eq_true rfl) dX12_laysHidden_55 ⟨Nat.le_of_ble_eq_true rfl, Nat.le_of_ble_eq_true rfl⟩ [3, 4] [0, 1, 2] rfl rfl (by decide) rfl rfl (fun u_8 H locs w_8 h_8 => ?_)
    clear h
    obtain ⟨w8_0, w8_1, _⟩ := w_8
    replace h_8 : qW D _ _ [(h2, .inl (cy 1, 900, .inl v12_5_4)), (h3, .inl (cy 1, 11, .inl v12_5_5)), (h4, .inl (cy 1, 1000, .inl v12_5_2)), (h0, .inr (12, [.int p2, .ref h1, w0, w1, w2, .int p3, .int p4, .int p5, .int p6, .int p7, .int p8, .int p9, .int p10, .int p11, .int p12, .int p13, .ref h2, .ref h3, w3, w4, w5, .int p14, .int p15, w6, w7, w8, .int p16, .int p17, .ref h4, w9, w10, w11, w12, .int p18, w13, w14, w15])), (h1, .inl (cy 1, 3918, .inl (u_8.2.1 0)))] _ _ := h_8
    refine lv_iload hx hb dX12_laysHidden_58 (lv_at hl 4 rfl) ?_
    exact q_iret X hr hlk hK h_8 rfl (fun _ => 0, fun k => List.getD [v12_5_4, v12_5_5, v12_5_2, (u_8.2.1 0)] k (fun _ => 0), fun _ _ => 0) ⟨hv12_5_1, (rg_wide rv12_5_2 (by decide) (by decide)), w8_0, w8_1, trivial⟩ [3, 4, 0, 1, 2] rfl rfl dX12_laysHidden_60 (Nat.le_of_ble_eq_true rfl) (Nat.le_of_ble_eq_true rfl)
  · replace c_7 := i_nle (x := 1000) (y := v12_5_0) (show (1000 : Int32).toInt = 1000 by decide) rfl c_7
    refine lv_aload_n hx hb dX12_laysHidden_20 rfl (lv_at hl 0 rfl) ?_
    refine lv_iload_n hx hb dX12_laysHidden_21 rfl (lv_at hl 1 rfl) ?_
    refine lv_iload_n hx hb dX12_laysHidden_22 rfl (lv_at hl 2 rfl) ?_
    refine lv_iload hx hb dX12_laysHidden_23 (lv_at hl 5 rfl) ?_
    refine q_callVi (rest := []) (wr := [(h4, .inl (cy 1, 1000, .inl v12_5_2))]) X hK hT hA h (fun sz => gX12_fits_c2178b6 l D cy h0 h1 h2 h3 p0 p1 v12_5_0 p2 w0 w1 w2 p3 p4 p5 p6 p7 p8 p9 p10 p11 p12 p13 w3 w4 w5 p14 p15 w6 w7 w8 p16 p17 (.ref h4) w9 w10 w11 w12 p18 w13 w14 w15 v12_5_3 p19 v12_5_4 v12_5_5 hp0 (i_rng _) ⟨by omega, by omega⟩ hp2 hp3 hp4 hp5 hp6 (i_rng _) hp8 (i_rng _) (i_rng _) (i_rng _) (i_rng _) (i_rng _) (i_rng _) (i_rng _) (i_rng _) (i_rng _) (i_rng _) hp19 trv12_5_3_84 rv12_5_3 sz) wm_7_231 wm_7_234 wm_1_12 hd_X12_fits wm_7_233 wp_8_1 (ci := 12) (q0 := 0) rfl rfl ⟨Nat.le_of_ble_eq_true rfl, Nat.le_of_ble_eq_true rfl⟩ hl.1 rfl (Nat.le_of_ble_eq_true rfl) dX12_laysHidden_25 ⟨Nat.le_of_ble_eq_true rfl, Nat.le_of_ble_eq_true rfl⟩ [3, 4, 0, 1] [2] rfl rfl (by decide) rfl rfl (fun r_9 u_9 H locs w_9 h_9 => ?_)
    clear h
    obtain ⟨wr_9, w9_0, w9_1, _⟩ := w_9
    replace h_9 : qW D _ _ [(h4, .inl (cy 1, 1000, .inl v12_5_2)), (h0, .inr (12, [.int p2, .ref h1, w0, w1, w2, .int p3, .int p4, .int p5, .int p6, .int p7, .int p8, .int p9, .int p10, .int p11, .int p12, .int p13, .ref h2, .ref h3, w3, w4, w5, .int p14, .int p15, w6, w7, w8, .int p16, .int p17, .ref h4, w9, w10, w11, w12, .int p18, w13, w14, w15])), (h1, .inl (cy 1, 3918, .inl (u_9.2.1 2))), (h2, .inl (cy 1, 900, .inl (u_9.2.1 0))), (h3, .inl (cy 1, 11, .inl (u_9.2.1 1)))] _ _ := h_9
    refine q_jn (pc2 := 46) (fun H locs ls st => ∃ v46_10_0 : Int32, ∃ v46_10_1 : Nat → Int32, (0 ≤ (v46_10_0).toInt ∧ (v46_10_0).toInt ≤ 1001) ∧ RG v46_10_1 1000 0 999 ∧ ((v46_10_0 : Int32).toInt ≤ (v12_5_0 : Int32).toInt + 1) ∧ st = [] ∧ qW D (va_A [(h0, .inr (12, [.int p2, .ref h1, w0, w1, w2, .int p3, .int p4, .int p5, .int p6, .int p7, .int p8, .int p9, .int p10, .int p11, .int p12, .int p13, .ref h2, .ref h3, w3, w4, w5, .int p14, .int p15, w6, w7, w8, .int p16, .int p17, .ref h4, w9, w10, w11, w12, .int p18, w13, w14, w15])), (h1, .inl (cy 1, 3918, .inl f0)), (h2, .inl (cy 1, 900, .inl f1)), (h3, .inl (cy 1, 11, .inl f2)), (h4, .inl (cy 1, 1000, .inl f3))] sz) s.heap [(h4, .inl (cy 1, 1000, .inl v46_10_1)), (h0, .inr (12, [.int p2, .ref h1, w0, w1, w2, .int p3, .int p4, .int p5, .int p6, .int p7, .int p8, .int p9, .int p10, .int p11, .int p12, .int p13, .ref h2, .ref h3, w3, w4, w5, .int p14, .int p15, w6, w7, w8, .int p16, .int p17, .ref h4, w9, w10, w11, w12, .int p18, w13, w14, w15])), (h1, .inl (cy 1, 3918, .inl (u_9.2.1 2))), (h2, .inl (cy 1, 900, .inl (u_9.2.1 0))), (h3, .inl (cy 1, 11, .inl (u_9.2.1 1)))] H locs ∧ lv_has ls 6 [(0, .ref h0), (1, .int p0), (2, .int p1), (3, .int r_1), (4, .int v46_10_0), (5, .int v12_5_0)]) (fun H locs ls st hP => ?_) (fun J_46 => ?_)
    · obtain ⟨v46_10_0, v46_10_1, hv46_10_0, rv46_10_1, x11_0, rfl, h, hl⟩ := hP
      obtain ⟨z_12, ez_12, hz_12⟩ := e_add (x := v12_5_0) (y := Int32.ofInt 1) rfl (b := 1) (by decide) (by omega) (by omega)
      refine lv_iinc (v := z_12) (lv' := [(5, .int z_12), (0, .ref h0), (1, .int p0), (2, .int p1), (3, .int r_1), (4, .int v46_10_0)]) hx hb dX12_laysHidden_46 hl (k := 5) rfl ez_12 (by decide) rfl (fun ls_12 hl_12 => ?_)
      clear hl
      refine lv_goto (tgt := 12) hx hb dX12_laysHidden_49 (by decide) ?_
      exact ih_12 (z_12, v46_10_0) (by show (1001 - (z_12).toInt).toNat < (1001 - (v12_5_0).toInt).toNat; omega) _ _ _ ⟨v46_10_1, (u_9.2.1 2), (u_9.2.1 0), (u_9.2.1 1), ⟨by omega, by omega⟩, ⟨by omega, by omega⟩, (rg_wide rv46_10_1 (by decide) (by decide)), w9_1, w9_0, (by omega), (q_re h [3, 4, 0, 1, 2] rfl rfl), (lv_sub hl_12 [1, 2, 3, 4, 5, 0] rfl)⟩
    · skip
      refine lv_if_ne (tgt := 34) hx hb dX12_laysHidden_28 (by decide) (fun c_13 => ?_) (fun c_13 => ?_)
      · replace c_13 := i_ne (x := r_9) (y := 0) rfl (show (0 : Int32).toInt = 0 by decide) c_13
        refine lv_aload_n hx hb dX12_laysHidden_34 rfl (lv_at hl 0 rfl) ?_
        refine q_get X hK h_9 1 rfl rfl wf_12 28 (by decide) rfl wm_5_198 dX12_laysHidden_35 ?_
        refine lv_iload hx hb dX12_laysHidden_38 (lv_at hl 4 rfl) ?_
        refine lv_iload hx hb dX12_laysHidden_40 (lv_at hl 5 rfl) ?_
        refine q_iast X hK h_9 0 rfl (i_in rfl (by omega) (by omega)) dX12_laysHidden_42 (fun H locs h_15 => ?_)
        clear h_9
        replace h_15 : qW D _ _ [(h4, .inl (cy 1, 1000, .inl (upd v12_5_2 (Int32.toNatClampNeg v12_5_1) v12_5_0))), (h0, .inr (12, [.int p2, .ref h1, w0, w1, w2, .int p3, .int p4, .int p5, .int p6, .int p7, .int p8, .int p9, .int p10, .int p11, .int p12, .int p13, .ref h2, .ref h3, w3, w4, w5, .int p14, .int p15, w6, w7, w8, .int p16, .int p17, .ref h4, w9, w10, w11, w12, .int p18, w13, w14, w15])), (h1, .inl (cy 1, 3918, .inl (u_9.2.1 2))), (h2, .inl (cy 1, 900, .inl (u_9.2.1 0))), (h3, .inl (cy 1, 11, .inl (u_9.2.1 1)))] _ _ := h_15
        obtain ⟨F_14, eF_14, rF_14⟩ := rg_upd rv12_5_2 (Int32.toNatClampNeg v12_5_1) (x := v12_5_0) rfl (by omega) (by omega)
        rw [eF_14] at h_15
        clear eF_14
        obtain ⟨z_16, ez_16, hz_16⟩ := e_add (x := v12_5_1) (y := Int32.ofInt 1) rfl (b := 1) (by decide) (by omega) (by omega)
        refine lv_iinc (v := z_16) (lv' := [(4, .int z_16), (0, .ref h0), (1, .int p0), (2, .int p1), (3, .int r_1), (5, .int v12_5_0)]) hx hb dX12_laysHidden_43 hl (k := 4) rfl ez_16 (by decide) rfl (fun ls_16 hl_16 => ?_)
        clear hl
        exact J_46 _ _ _ _ ⟨z_16, F_14, ⟨by omega, by omega⟩, (rg_wide rF_14 (by decide) (by decide)), (by omega), rfl, h_15, (lv_sub hl_16 [1, 2, 3, 4, 0, 5] rfl)⟩
      · replace c_13 := i_eq (x := r_9) (y := 0) rfl (show (0 : Int32).toInt = 0 by decide) c_13
        refine lv_goto (tgt := 46) hx hb dX12_laysHidden_31 (by decide) ?_
        exact J_46 _ _ _ _ ⟨v12_5_1, v12_5_2, (bw hv12_5_1 (by decide) (by decide)), (rg_wide rv12_5_2 (by decide) (by decide)), (by omega), rfl, h_9, (lv_sub hl [0, 1, 2, 3, 4, 5] rfl)⟩
set_option maxHeartbeats 4000000 in
set_option maxRecDepth 100000 in
theorem gX12_hidden_fd71e35 (l : Launch) (D : va_G) (cy : Nat → ClassId) (h0 : Nat) (h1 : Nat) (h2 : Nat) (h3 : Nat) (h4 : Nat) (p0 : Int32) (p1 : Int32) (p2 : Int32) (w0 : Value) (w1 : Value) (w2 : Value) (p3 : Int32) (p4 : Int32) (p5 : Int32) (p6 : Int32) (p7 : Int32) (p8 : Int32) (p9 : Int32) (p10 : Int32) (p11 : Int32) (p12 : Int32) (p13 : Int32) (w3 : Value) (w4 : Value) (w5 : Value) (p14 : Int32) (p15 : Int32) (w6 : Value) (w7 : Value) (w8 : Value) (p16 : Int32) (p17 : Int32) (w9 : Value) (w10 : Value) (w11 : Value) (w12 : Value) (p18 : Int32) (w13 : Value) (w14 : Value) (w15 : Value) (f0 : Nat → Int32) (p19 : Int32) (f1 : Nat → Int32) (f2 : Nat → Int32) (f3 : Nat → Int32) (hp0 : (-2147483648) ≤ (p0).toInt ∧ (p0).toInt ≤ 2147483647) (hp1 : (-2147483648) ≤ (p1).toInt ∧ (p1).toInt ≤ 2147483647) (hp2 : (-2147483648) ≤ (p2).toInt ∧ (p2).toInt ≤ 2147483647) (hp3 : 0 ≤ (p3).toInt ∧ (p3).toInt ≤ 900) (hp4 : 0 ≤ (p4).toInt ∧ (p4).toInt ≤ 900) (hp5 : 0 ≤ (p5).toInt ∧ (p5).toInt ≤ 900) (hp6 : 0 ≤ (p6).toInt ∧ (p6).toInt ≤ 900) (hp7 : (-2147483648) ≤ (p7).toInt ∧ (p7).toInt ≤ 2147483647) (hp8 : 0 ≤ (p8).toInt ∧ (p8).toInt ≤ 999) (hp9 : (-2147483648) ≤ (p9).toInt ∧ (p9).toInt ≤ 2147483647) (hp10 : (-2147483648) ≤ (p10).toInt ∧ (p10).toInt ≤ 2147483647) (hp11 : (-2147483648) ≤ (p11).toInt ∧ (p11).toInt ≤ 2147483647) (hp12 : (-2147483648) ≤ (p12).toInt ∧ (p12).toInt ≤ 2147483647) (hp13 : (-2147483648) ≤ (p13).toInt ∧ (p13).toInt ≤ 2147483647) (hp14 : (-2147483648) ≤ (p14).toInt ∧ (p14).toInt ≤ 2147483647) (hp15 : (-2147483648) ≤ (p15).toInt ∧ (p15).toInt ≤ 2147483647) (hp16 : (-2147483648) ≤ (p16).toInt ∧ (p16).toInt ≤ 2147483647) (hp17 : (-2147483648) ≤ (p17).toInt ∧ (p17).toInt ≤ 2147483647) (hp18 : (-2147483648) ≤ (p18).toInt ∧ (p18).toInt ≤ 2147483647) (hp19 : 0 ≤ (p19).toInt ∧ (p19).toInt ≤ 10) (htf0_84 : f0 84 = p19) (rf0 : AL f0) (rf3 : RG f3 1000 0 999) (sz : Nat) : MI l yX12_hidden cX12_hidden 4 .int { frames := 5, cells := 0, slots := 0, locals := 121 } [.ref h0, .int p0, .int p1] D cy [(h0, .inr (12, [.int p2, .ref h1, w0, w1, w2, .int p3, .int p4, .int p5, .int p6, .int p7, .int p8, .int p9, .int p10, .int p11, .int p12, .int p13, .ref h2, .ref h3, w3, w4, w5, .int p14, .int p15, w6, w7, w8, .int p16, .int p17, .ref h4, w9, w10, w11, w12, .int p18, w13, w14, w15])), (h1, .inl (cy 1, 3918, .inl f0)), (h2, .inl (cy 1, 900, .inl f1)), (h3, .inl (cy 1, 11, .inl f2)), (h4, .inl (cy 1, 1000, .inl f3))] sz (fun r u => ((-3) ≤ r.toInt ∧ r.toInt ≤ 1000) ∧ RG (u.2.1 2) 1000 0 999 ∧ (0 ≤ (u.2.1 3 0).toInt ∧ (u.2.1 3 0).toInt ≤ 0) ∧ AL (u.2.1 4) ∧ (u.2.1 4) 84 = p19 ∧ True) (fun u => [(h0, .inr (12, [.int (u.2.1 3 0), .ref h1, w0, w1, w2, .int p3, .int p4, .int p5, .int p6, .int p7, .int p8, .int p9, .int p10, .int p11, .int p12, .int p13, .ref h2, .ref h3, w3, w4, w5, .int p14, .int p15, w6, w7, w8, .int p16, .int p17, .ref h4, w9, w10, w11, w12, .int p18, w13, w14, w15])), (h1, .inl (cy 1, 3918, .inl (u.2.1 4))), (h2, .inl (cy 1, 900, .inl (u.2.1 0))), (h3, .inl (cy 1, 11, .inl (u.2.1 1))), (h4, .inl (cy 1, 1000, .inl (u.2.1 2)))]) 0 0 := by
  refine q_ent (own := RX12) (by decide) rfl (Nat.le_of_ble_eq_true rfl) (fun p e s m below meth c ls X hr hlk hnm hK hT h hA hl => ?_)
  obtain ⟨hx, hb, hml, hown, ht⟩ := id X
  replace hl : lv_has ls 4 [(0, .ref h0), (1, .int p0), (2, .int p1)] := hl
  refine lv_aload_n hx hb dX12_hidden_0 rfl (lv_at hl 0 rfl) ?_
  refine lv_iconst (v := 0) hx hb dX12_hidden_1 (by decide) ?_
  refine q_put (v := .int 0) X hK h 0 rfl rfl wf_12 tyX12 tyX12_ok nmX12 0 (by decide) wm_5_170 rfl rfl rfl (Nat.le_of_ble_eq_true rfl) dX12_hidden_2 (fun H locs h_1 => ?_)
  clear h
  replace h_1 : qW D _ _ [(h0, .inr (12, [.int 0, .ref h1, w0, w1, w2, .int p3, .int p4, .int p5, .int p6, .int p7, .int p8, .int p9, .int p10, .int p11, .int p12, .int p13, .ref h2, .ref h3, w3, w4, w5, .int p14, .int p15, w6, w7, w8, .int p16, .int p17, .ref h4, w9, w10, w11, w12, .int p18, w13, w14, w15])), (h1, .inl (cy 1, 3918, .inl f0)), (h2, .inl (cy 1, 900, .inl f1)), (h3, .inl (cy 1, 11, .inl f2)), (h4, .inl (cy 1, 1000, .inl f3))] _ _ := h_1
  refine lv_aload_n hx hb dX12_hidden_5 rfl (lv_at hl 0 rfl) ?_
  refine lv_iload_n hx hb dX12_hidden_6 rfl (lv_at hl 1 rfl) ?_
  refine lv_iload_n hx hb dX12_hidden_7 rfl (lv_at hl 2 rfl) ?_
  refine q_callVi (rest := []) (wr := [(h2, .inl (cy 1, 900, .inl f1)), (h3, .inl (cy 1, 11, .inl f2)), (h4, .inl (cy 1, 1000, .inl f3))]) X hK hT hA h_1 (fun sz => gX12_noHidden_6db733f l D cy h0 h1 p0 p1 (0 : Int32) w0 w1 w2 p3 p4 p5 p6 p7 p8 p9 p10 p11 p12 p13 (.ref h2) (.ref h3) w3 w4 w5 p14 p15 w6 w7 w8 p16 p17 (.ref h4) w9 w10 w11 w12 p18 w13 w14 w15 f0 p19 (i_rng _) (i_rng _) ⟨by decide +kernel, by decide +kernel⟩ hp3 hp4 hp5 hp6 (i_rng _) hp8 (i_rng _) (i_rng _) (i_rng _) (i_rng _) (i_rng _) (i_rng _) (i_rng _) (i_rng _) (i_rng _) (i_rng _) hp19 htf0_84 rf0 sz) wm_7_223 wm_7_226 wm_1_12 hd_X12_noHidden wm_7_225 wp_7_15 (ci := 12) (q0 := 0) rfl rfl ⟨Nat.le_of_ble_eq_true rfl, Nat.le_of_ble_eq_true rfl⟩ hl.1 rfl (Nat.le_of_ble_eq_true rfl) dX12_hidden_8 ⟨Nat.le_of_ble_eq_true rfl, Nat.le_of_ble_eq_true rfl⟩ [0, 1] [2, 3, 4] rfl rfl (by decide) rfl rfl (fun r_2 u_2 H locs w_2 h_2 => ?_)
  clear h_1
  obtain ⟨wr_2, y2_0, _⟩ := w_2
  replace h_2 : qW D _ _ [(h2, .inl (cy 1, 900, .inl f1)), (h3, .inl (cy 1, 11, .inl f2)), (h4, .inl (cy 1, 1000, .inl f3)), (h0, .inr (12, [.int 0, .ref h1, w0, w1, w2, .int p3, .int p4, .int p5, .int p6, .int p7, .int p8, .int p9, .int p10, .int p11, .int p12, .int p13, .ref h2, .ref h3, w3, w4, w5, .int p14, .int p15, w6, w7, w8, .int p16, .int p17, .ref h4, w9, w10, w11, w12, .int p18, w13, w14, w15])), (h1, .inl (cy 1, 3918, .inl f0))] _ _ := h_2
  refine lv_istore_n (lv' := [(3, .int r_2), (0, .ref h0), (1, .int p0), (2, .int p1)]) hx hb dX12_hidden_11 rfl hl (by decide) rfl (fun ls_3 hl_3 => ?_)
  clear hl
  refine lv_iload_n hx hb dX12_hidden_12 rfl (lv_at hl_3 0 rfl) ?_
  refine q_jn (pc2 := 26) (fun H locs ls st => ∃ v26_4_4 : Int32, ∃ v26_4_0 : Nat → Int32, ∃ v26_4_1 : Nat → Int32, ∃ v26_4_2 : Nat → Int32, ∃ v26_4_3 : Nat → Int32, ((-3) ≤ (v26_4_4).toInt ∧ (v26_4_4).toInt ≤ 1000) ∧ v26_4_0 84 = p19 ∧ AL v26_4_0 ∧ RG v26_4_3 1000 0 999 ∧ st = [.int v26_4_4] ∧ qW D (va_A [(h0, .inr (12, [.int p2, .ref h1, w0, w1, w2, .int p3, .int p4, .int p5, .int p6, .int p7, .int p8, .int p9, .int p10, .int p11, .int p12, .int p13, .ref h2, .ref h3, w3, w4, w5, .int p14, .int p15, w6, w7, w8, .int p16, .int p17, .ref h4, w9, w10, w11, w12, .int p18, w13, w14, w15])), (h1, .inl (cy 1, 3918, .inl f0)), (h2, .inl (cy 1, 900, .inl f1)), (h3, .inl (cy 1, 11, .inl f2)), (h4, .inl (cy 1, 1000, .inl f3))] sz) s.heap [(h2, .inl (cy 1, 900, .inl v26_4_1)), (h3, .inl (cy 1, 11, .inl v26_4_2)), (h4, .inl (cy 1, 1000, .inl v26_4_3)), (h0, .inr (12, [.int 0, .ref h1, w0, w1, w2, .int p3, .int p4, .int p5, .int p6, .int p7, .int p8, .int p9, .int p10, .int p11, .int p12, .int p13, .ref h2, .ref h3, w3, w4, w5, .int p14, .int p15, w6, w7, w8, .int p16, .int p17, .ref h4, w9, w10, w11, w12, .int p18, w13, w14, w15])), (h1, .inl (cy 1, 3918, .inl v26_4_0))] H locs ∧ lv_has ls 4 [(0, .ref h0), (1, .int p0), (2, .int p1), (3, .int r_2)]) (fun H locs ls st hP => ?_) (fun J_26 => ?_)
  · obtain ⟨v26_4_4, v26_4_0, v26_4_1, v26_4_2, v26_4_3, hv26_4_4, trv26_4_0_84, rv26_4_0, rv26_4_3, rfl, h, hl⟩ := hP
    exact q_iret X hr hlk hK h rfl (fun _ => 0, fun k => List.getD [v26_4_1, v26_4_2, v26_4_3, (fun _ => 0), v26_4_0] k (fun _ => 0), fun _ _ => 0) ⟨hv26_4_4, (rg_wide rv26_4_3 (by decide) (by decide)), (⟨by decide +kernel, by decide +kernel⟩ : 0 ≤ (0 : Int32).toInt ∧ (0 : Int32).toInt ≤ 0), rv26_4_0, trv26_4_0_84, trivial⟩ [3, 4, 0, 1, 2] rfl rfl dX12_hidden_26 (Nat.le_of_ble_eq_true rfl) (Nat.le_of_ble_eq_true rfl)
  · skip
    refine lv_if_eq (tgt := 20) hx hb dX12_hidden_13 (by decide) (fun c_5 => ?_) (fun c_5 => ?_)
    · replace c_5 := i_eq (x := r_2) (y := 0) rfl (show (0 : Int32).toInt = 0 by decide) c_5
      refine lv_aload_n hx hb dX12_hidden_20 rfl (lv_at hl_3 1 rfl) ?_
      refine lv_iload_n hx hb dX12_hidden_21 rfl (lv_at hl_3 2 rfl) ?_
      refine lv_iload_n hx hb dX12_hidden_22 rfl (lv_at hl_3 3 rfl) ?_
      refine q_callVi (rest := []) (wr := []) X hK hT hA h_2 (fun sz => gX12_laysHidden_bb1e8ce l D cy h0 h1 h2 h3 h4 p0 p1 (0 : Int32) w0 w1 w2 p3 p4 p5 p6 p7 p8 p9 p10 p11 p12 p13 w3 w4 w5 p14 p15 w6 w7 w8 p16 p17 w9 w10 w11 w12 p18 w13 w14 w15 f0 p19 f1 f2 f3 ⟨by omega, by omega⟩ (i_rng _) ⟨by decide +kernel, by decide +kernel⟩ hp3 hp4 hp5 hp6 (i_rng _) hp8 (i_rng _) (i_rng _) (i_rng _) (i_rng _) (i_rng _) (i_rng _) (i_rng _) (i_rng _) (i_rng _) (i_rng _) hp19 htf0_84 rf0 (rg_wide rf3 (by decide) (by decide)) sz) wm_7_227 wm_7_230 wm_1_12 hd_X12_laysHidden wm_7_229 wp_8_0 (ci := 12) (q0 := 0) rfl rfl ⟨Nat.le_of_ble_eq_true rfl, Nat.le_of_ble_eq_true rfl⟩ hl_3.1 rfl (Nat.le_of_ble_eq_true rfl) dX12_hidden_23 ⟨Nat.le_of_ble_eq_true rfl, Nat.le_of_ble_eq_true rfl⟩ [3, 4, 0, 1, 2] [] rfl rfl (by decide) rfl rfl (fun r_6 u_6 H locs w_6 h_6 => ?_)
      clear h_2
      obtain ⟨wr_6, w6_0, w6_1, w6_2, _⟩ := w_6
      replace h_6 : qW D _ _ [(h0, .inr (12, [.int 0, .ref h1, w0, w1, w2, .int p3, .int p4, .int p5, .int p6, .int p7, .int p8, .int p9, .int p10, .int p11, .int p12, .int p13, .ref h2, .ref h3, w3, w4, w5, .int p14, .int p15, w6, w7, w8, .int p16, .int p17, .ref h4, w9, w10, w11, w12, .int p18, w13, w14, w15])), (h1, .inl (cy 1, 3918, .inl (u_6.2.1 3))), (h2, .inl (cy 1, 900, .inl (u_6.2.1 0))), (h3, .inl (cy 1, 11, .inl (u_6.2.1 1))), (h4, .inl (cy 1, 1000, .inl (u_6.2.1 2)))] _ _ := h_6
      exact J_26 _ _ _ _ ⟨r_6, (u_6.2.1 3), (u_6.2.1 0), (u_6.2.1 1), (u_6.2.1 2), (bw wr_6 (by decide) (by decide)), w6_2, w6_1, (rg_wide w6_0 (by decide) (by decide)), rfl, (q_re h_6 [2, 3, 4, 0, 1] rfl rfl), (lv_sub hl_3 [1, 2, 3, 0] rfl)⟩
    · replace c_5 := i_ne (x := r_2) (y := 0) rfl (show (0 : Int32).toInt = 0 by decide) c_5
      refine lv_iload_n hx hb dX12_hidden_16 rfl (lv_at hl_3 0 rfl) ?_
      refine lv_goto (tgt := 26) hx hb dX12_hidden_17 (by decide) ?_
      exact J_26 _ _ _ _ ⟨r_2, f0, f1, f2, f3, (bw wr_2 (by decide) (by decide)), htf0_84, rf0, (rg_wide rf3 (by decide) (by decide)), rfl, h_2, (lv_sub hl_3 [1, 2, 3, 0] rfl)⟩
set_option maxHeartbeats 4000000 in
set_option maxRecDepth 100000 in
theorem gX12_hiddenAt_9b80646 (l : Launch) (D : va_G) (cy : Nat → ClassId) (h0 : Nat) (h1 : Nat) (h2 : Nat) (h3 : Nat) (h4 : Nat) (p0 : Int32) (p1 : Int32) (p2 : Int32) (p3 : Int32) (w0 : Value) (w1 : Value) (w2 : Value) (p4 : Int32) (p5 : Int32) (p6 : Int32) (p7 : Int32) (p8 : Int32) (p9 : Int32) (p10 : Int32) (p11 : Int32) (p12 : Int32) (p13 : Int32) (p14 : Int32) (w3 : Value) (w4 : Value) (w5 : Value) (p15 : Int32) (p16 : Int32) (w6 : Value) (w7 : Value) (w8 : Value) (p17 : Int32) (p18 : Int32) (w9 : Value) (w10 : Value) (w11 : Value) (w12 : Value) (p19 : Int32) (w13 : Value) (w14 : Value) (w15 : Value) (f0 : Nat → Int32) (p20 : Int32) (f1 : Nat → Int32) (f2 : Nat → Int32) (f3 : Nat → Int32) (hp0 : (-2147483648) ≤ (p0).toInt ∧ (p0).toInt ≤ 2147483647) (hp1 : (-2147483648) ≤ (p1).toInt ∧ (p1).toInt ≤ 2147483647) (hp2 : (-2147483648) ≤ (p2).toInt ∧ (p2).toInt ≤ 2147483647) (hp3 : (-2147483648) ≤ (p3).toInt ∧ (p3).toInt ≤ 2147483647) (hp4 : 0 ≤ (p4).toInt ∧ (p4).toInt ≤ 900) (hp5 : 0 ≤ (p5).toInt ∧ (p5).toInt ≤ 900) (hp6 : 0 ≤ (p6).toInt ∧ (p6).toInt ≤ 900) (hp7 : 0 ≤ (p7).toInt ∧ (p7).toInt ≤ 900) (hp8 : (-2147483648) ≤ (p8).toInt ∧ (p8).toInt ≤ 2147483647) (hp9 : 0 ≤ (p9).toInt ∧ (p9).toInt ≤ 999) (hp10 : (-2147483648) ≤ (p10).toInt ∧ (p10).toInt ≤ 2147483647) (hp11 : (-2147483648) ≤ (p11).toInt ∧ (p11).toInt ≤ 2147483647) (hp12 : (-2147483648) ≤ (p12).toInt ∧ (p12).toInt ≤ 2147483647) (hp13 : (-2147483648) ≤ (p13).toInt ∧ (p13).toInt ≤ 2147483647) (hp14 : (-2147483648) ≤ (p14).toInt ∧ (p14).toInt ≤ 2147483647) (hp15 : (-2147483648) ≤ (p15).toInt ∧ (p15).toInt ≤ 2147483647) (hp16 : (-2147483648) ≤ (p16).toInt ∧ (p16).toInt ≤ 2147483647) (hp17 : (-2147483648) ≤ (p17).toInt ∧ (p17).toInt ≤ 2147483647) (hp18 : (-2147483648) ≤ (p18).toInt ∧ (p18).toInt ≤ 2147483647) (hp19 : (-2147483648) ≤ (p19).toInt ∧ (p19).toInt ≤ 2147483647) (hp20 : 0 ≤ (p20).toInt ∧ (p20).toInt ≤ 10) (htf0_84 : f0 84 = p20) (rf0 : AL f0) (rf3 : RG f3 1000 0 999) (sz : Nat) : MI l yX12_hiddenAt cX12_hiddenAt 5 .int { frames := 5, cells := 0, slots := 0, locals := 121 } [.ref h0, .int p0, .int p1, .int p2] D cy [(h0, .inr (12, [.int p3, .ref h1, w0, w1, w2, .int p4, .int p5, .int p6, .int p7, .int p8, .int p9, .int p10, .int p11, .int p12, .int p13, .int p14, .ref h2, .ref h3, w3, w4, w5, .int p15, .int p16, w6, w7, w8, .int p17, .int p18, .ref h4, w9, w10, w11, w12, .int p19, w13, w14, w15])), (h1, .inl (cy 1, 3918, .inl f0)), (h2, .inl (cy 1, 900, .inl f1)), (h3, .inl (cy 1, 11, .inl f2)), (h4, .inl (cy 1, 1000, .inl f3))] sz (fun r u => ((-3) ≤ r.toInt ∧ r.toInt ≤ 999) ∧ (0 ≤ (u.2.1 0 0).toInt ∧ (u.2.1 0 0).toInt ≤ 0) ∧ AL (u.2.1 1) ∧ RG (u.2.1 4) 1000 0 999 ∧ (u.2.1 1) 84 = p20 ∧ True) (fun u => [(h0, .inr (12, [.int (u.2.1 0 0), .ref h1, w0, w1, w2, .int p4, .int p5, .int p6, .int p7, .int p8, .int p9, .int p10, .int p11, .int p12, .int p13, .int p14, .ref h2, .ref h3, w3, w4, w5, .int p15, .int p16, w6, w7, w8, .int p17, .int p18, .ref h4, w9, w10, w11, w12, .int p19, w13, w14, w15])), (h1, .inl (cy 1, 3918, .inl (u.2.1 1))), (h2, .inl (cy 1, 900, .inl (u.2.1 2))), (h3, .inl (cy 1, 11, .inl (u.2.1 3))), (h4, .inl (cy 1, 1000, .inl (u.2.1 4)))]) 0 0 := by
  refine q_ent (own := RX12) (by decide) rfl (Nat.le_of_ble_eq_true rfl) (fun p e s m below meth c ls X hr hlk hnm hK hT h hA hl => ?_)
  obtain ⟨hx, hb, hml, hown, ht⟩ := id X
  replace hl : lv_has ls 5 [(0, .ref h0), (1, .int p0), (2, .int p1), (3, .int p2)] := hl
  refine lv_aload_n hx hb dX12_hiddenAt_0 rfl (lv_at hl 0 rfl) ?_
  refine lv_iconst (v := 0) hx hb dX12_hiddenAt_1 (by decide) ?_
  refine q_put (v := .int 0) X hK h 0 rfl rfl wf_12 tyX12 tyX12_ok nmX12 0 (by decide) wm_5_170 rfl rfl rfl (Nat.le_of_ble_eq_true rfl) dX12_hiddenAt_2 (fun H locs h_1 => ?_)
  clear h
  replace h_1 : qW D _ _ [(h0, .inr (12, [.int 0, .ref h1, w0, w1, w2, .int p4, .int p5, .int p6, .int p7, .int p8, .int p9, .int p10, .int p11, .int p12, .int p13, .int p14, .ref h2, .ref h3, w3, w4, w5, .int p15, .int p16, w6, w7, w8, .int p17, .int p18, .ref h4, w9, w10, w11, w12, .int p19, w13, w14, w15])), (h1, .inl (cy 1, 3918, .inl f0)), (h2, .inl (cy 1, 900, .inl f1)), (h3, .inl (cy 1, 11, .inl f2)), (h4, .inl (cy 1, 1000, .inl f3))] _ _ := h_1
  refine lv_aload_n hx hb dX12_hiddenAt_5 rfl (lv_at hl 0 rfl) ?_
  refine lv_iload_n hx hb dX12_hiddenAt_6 rfl (lv_at hl 1 rfl) ?_
  refine lv_iload_n hx hb dX12_hiddenAt_7 rfl (lv_at hl 2 rfl) ?_
  refine q_callVi (rest := []) (wr := [(h2, .inl (cy 1, 900, .inl f1)), (h3, .inl (cy 1, 11, .inl f2)), (h4, .inl (cy 1, 1000, .inl f3))]) X hK hT hA h_1 (fun sz => gX12_noHidden_6db733f l D cy h0 h1 p0 p1 (0 : Int32) w0 w1 w2 p4 p5 p6 p7 p8 p9 p10 p11 p12 p13 p14 (.ref h2) (.ref h3) w3 w4 w5 p15 p16 w6 w7 w8 p17 p18 (.ref h4) w9 w10 w11 w12 p19 w13 w14 w15 f0 p20 (i_rng _) (i_rng _) ⟨by decide +kernel, by decide +kernel⟩ hp4 hp5 hp6 hp7 (i_rng _) hp9 (i_rng _) (i_rng _) (i_rng _) (i_rng _) (i_rng _) (i_rng _) (i_rng _) (i_rng _) (i_rng _) (i_rng _) hp20 htf0_84 rf0 sz) wm_7_223 wm_7_226 wm_1_12 hd_X12_noHidden wm_7_225 wp_7_15 (ci := 12) (q0 := 0) rfl rfl ⟨Nat.le_of_ble_eq_true rfl, Nat.le_of_ble_eq_true rfl⟩ hl.1 rfl (Nat.le_of_ble_eq_true rfl) dX12_hiddenAt_8 ⟨Nat.le_of_ble_eq_true rfl, Nat.le_of_ble_eq_true rfl⟩ [0, 1] [2, 3, 4] rfl rfl (by decide) rfl rfl (fun r_2 u_2 H locs w_2 h_2 => ?_)
  clear h_1
  obtain ⟨wr_2, y2_0, _⟩ := w_2
  replace h_2 : qW D _ _ [(h2, .inl (cy 1, 900, .inl f1)), (h3, .inl (cy 1, 11, .inl f2)), (h4, .inl (cy 1, 1000, .inl f3)), (h0, .inr (12, [.int 0, .ref h1, w0, w1, w2, .int p4, .int p5, .int p6, .int p7, .int p8, .int p9, .int p10, .int p11, .int p12, .int p13, .int p14, .ref h2, .ref h3, w3, w4, w5, .int p15, .int p16, w6, w7, w8, .int p17, .int p18, .ref h4, w9, w10, w11, w12, .int p19, w13, w14, w15])), (h1, .inl (cy 1, 3918, .inl f0))] _ _ := h_2
  refine lv_istore (lv' := [(4, .int r_2), (0, .ref h0), (1, .int p0), (2, .int p1), (3, .int p2)]) hx hb dX12_hiddenAt_11 hl (by decide) rfl (fun ls_3 hl_3 => ?_)
  clear hl
  refine lv_iload hx hb dX12_hiddenAt_13 (lv_at hl_3 0 rfl) ?_
  refine lv_if_eq (tgt := 21) hx hb dX12_hiddenAt_15 (by decide) (fun c_4 => ?_) (fun c_4 => ?_)
  · replace c_4 := i_eq (x := r_2) (y := 0) rfl (show (0 : Int32).toInt = 0 by decide) c_4
    refine lv_iload_n hx hb dX12_hiddenAt_21 rfl (lv_at hl_3 4 rfl) ?_
    refine lv_if_ge (tgt := 28) hx hb dX12_hiddenAt_22 (by decide) (fun c_5 => ?_) (fun c_5 => ?_)
    · replace c_5 := i_le (x := 0) (y := p2) (show (0 : Int32).toInt = 0 by decide) rfl c_5
      refine lv_iload_n hx hb dX12_hiddenAt_28 rfl (lv_at hl_3 4 rfl) ?_
      refine lv_aload_n hx hb dX12_hiddenAt_29 rfl (lv_at hl_3 1 rfl) ?_
      refine lv_iload_n hx hb dX12_hiddenAt_30 rfl (lv_at hl_3 2 rfl) ?_
      refine lv_iload_n hx hb dX12_hiddenAt_31 rfl (lv_at hl_3 3 rfl) ?_
      refine q_callVi (rest := [.int p2]) (wr := []) X hK hT hA h_2 (fun sz => gX12_laysHidden_bb1e8ce l D cy h0 h1 h2 h3 h4 p0 p1 (0 : Int32) w0 w1 w2 p4 p5 p6 p7 p8 p9 p10 p11 p12 p13 p14 w3 w4 w5 p15 p16 w6 w7 w8 p17 p18 w9 w10 w11 w12 p19 w13 w14 w15 f0 p20 f1 f2 f3 ⟨by omega, by omega⟩ (i_rng _) ⟨by decide +kernel, by decide +kernel⟩ hp4 hp5 hp6 hp7 (i_rng _) hp9 (i_rng _) (i_rng _) (i_rng _) (i_rng _) (i_rng _) (i_rng _) (i_rng _) (i_rng _) (i_rng _) (i_rng _) hp20 htf0_84 rf0 (rg_wide rf3 (by decide) (by decide)) sz) wm_7_227 wm_7_230 wm_1_12 hd_X12_laysHidden wm_7_229 wp_8_0 (ci := 12) (q0 := 0) rfl rfl ⟨Nat.le_of_ble_eq_true rfl, Nat.le_of_ble_eq_true rfl⟩ hl_3.1 rfl (Nat.le_of_ble_eq_true rfl) dX12_hiddenAt_32 ⟨Nat.le_of_ble_eq_true rfl, Nat.le_of_ble_eq_true rfl⟩ [3, 4, 0, 1, 2] [] rfl rfl (by decide) rfl rfl (fun r_6 u_6 H locs w_6 h_6 => ?_)
      clear h_2
      obtain ⟨wr_6, w6_0, w6_1, w6_2, _⟩ := w_6
      replace h_6 : qW D _ _ [(h0, .inr (12, [.int 0, .ref h1, w0, w1, w2, .int p4, .int p5, .int p6, .int p7, .int p8, .int p9, .int p10, .int p11, .int p12, .int p13, .int p14, .ref h2, .ref h3, w3, w4, w5, .int p15, .int p16, w6, w7, w8, .int p17, .int p18, .ref h4, w9, w10, w11, w12, .int p19, w13, w14, w15])), (h1, .inl (cy 1, 3918, .inl (u_6.2.1 3))), (h2, .inl (cy 1, 900, .inl (u_6.2.1 0))), (h3, .inl (cy 1, 11, .inl (u_6.2.1 1))), (h4, .inl (cy 1, 1000, .inl (u_6.2.1 2)))] _ _ := h_6
      refine q_jn (pc2 := 48) (fun H locs ls st => ∃ v48_7_0 : Int32, ((-1) ≤ (v48_7_0).toInt ∧ (v48_7_0).toInt ≤ 999) ∧ st = [.int v48_7_0] ∧ qW D (va_A [(h0, .inr (12, [.int p3, .ref h1, w0, w1, w2, .int p4, .int p5, .int p6, .int p7, .int p8, .int p9, .int p10, .int p11, .int p12, .int p13, .int p14, .ref h2, .ref h3, w3, w4, w5, .int p15, .int p16, w6, w7, w8, .int p17, .int p18, .ref h4, w9, w10, w11, w12, .int p19, w13, w14, w15])), (h1, .inl (cy 1, 3918, .inl f0)), (h2, .inl (cy 1, 900, .inl f1)), (h3, .inl (cy 1, 11, .inl f2)), (h4, .inl (cy 1, 1000, .inl f3))] sz) s.heap [(h0, .inr (12, [.int 0, .ref h1, w0, w1, w2, .int p4, .int p5, .int p6, .int p7, .int p8, .int p9, .int p10, .int p11, .int p12, .int p13, .int p14, .ref h2, .ref h3, w3, w4, w5, .int p15, .int p16, w6, w7, w8, .int p17, .int p18, .ref h4, w9, w10, w11, w12, .int p19, w13, w14, w15])), (h1, .inl (cy 1, 3918, .inl (u_6.2.1 3))), (h2, .inl (cy 1, 900, .inl (u_6.2.1 0))), (h3, .inl (cy 1, 11, .inl (u_6.2.1 1))), (h4, .inl (cy 1, 1000, .inl (u_6.2.1 2)))] H locs ∧ lv_has ls 5 [(0, .ref h0), (1, .int p0), (2, .int p1), (3, .int p2), (4, .int r_2)]) (fun H locs ls st hP => ?_) (fun J_48 => ?_)
      · obtain ⟨v48_7_0, hv48_7_0, rfl, h, hl⟩ := hP
        exact q_iret X hr hlk hK h rfl (fun _ => 0, fun k => List.getD [(fun _ => 0), (u_6.2.1 3), (u_6.2.1 0), (u_6.2.1 1), (u_6.2.1 2)] k (fun _ => 0), fun _ _ => 0) ⟨(bw hv48_7_0 (by decide) (by decide)), (⟨by decide +kernel, by decide +kernel⟩ : 0 ≤ (0 : Int32).toInt ∧ (0 : Int32).toInt ≤ 0), w6_1, (rg_wide w6_0 (by decide) (by decide)), w6_2, trivial⟩ [0, 1, 2, 3, 4] rfl rfl dX12_hiddenAt_48 (Nat.le_of_ble_eq_true rfl) (Nat.le_of_ble_eq_true rfl)
      · skip
        refine lv_icmp_ge (tgt := 47) hx hb dX12_hiddenAt_35 (by decide) (fun c_8 => ?_) (fun c_8 => ?_)
        · replace c_8 := i_le (x := r_6) (y := p2) rfl rfl c_8
          refine lv_iconst (v := (-1)) hx hb dX12_hiddenAt_47 (by decide) ?_
          exact J_48 _ _ _ _ ⟨(-1), ⟨by decide +kernel, by decide +kernel⟩, rfl, h_6, (lv_sub hl_3 [1, 2, 3, 4, 0] rfl)⟩
        · replace c_8 := i_nle (x := r_6) (y := p2) rfl rfl c_8
          refine lv_aload_n hx hb dX12_hiddenAt_38 rfl (lv_at hl_3 1 rfl) ?_
          refine q_get X hK h_6 0 rfl rfl wf_12 28 (by decide) rfl wm_5_198 dX12_hiddenAt_39 ?_
          refine lv_iload_n hx hb dX12_hiddenAt_42 rfl (lv_at hl_3 4 rfl) ?_
          refine q_iald X hK h_6 4 rfl (i_in rfl (by omega) (by omega)) dX12_hiddenAt_43 ?_
          obtain ⟨z_9, ez_9, hz_9⟩ := rg_get w6_0 (x := p2) rfl (by omega) (by omega)
          refine q_c z_9 ez_9 ?_
          clear ez_9
          refine lv_goto (tgt := 48) hx hb dX12_hiddenAt_44 (by decide) ?_
          exact J_48 _ _ _ _ ⟨z_9, ⟨by omega, by omega⟩, rfl, h_6, (lv_sub hl_3 [1, 2, 3, 4, 0] rfl)⟩
    · replace c_5 := i_nle (x := 0) (y := p2) (show (0 : Int32).toInt = 0 by decide) rfl c_5
      refine lv_bipush (v := (-3)) hx hb dX12_hiddenAt_25 (by decide) ?_
      exact q_iret X hr hlk hK h_2 rfl (fun _ => 0, fun k => List.getD [(fun _ => 0), f0, f1, f2, f3] k (fun _ => 0), fun _ _ => 0) ⟨⟨by decide +kernel, by decide +kernel⟩, (⟨by decide +kernel, by decide +kernel⟩ : 0 ≤ (0 : Int32).toInt ∧ (0 : Int32).toInt ≤ 0), rf0, (rg_wide rf3 (by decide) (by decide)), htf0_84, trivial⟩ [3, 4, 0, 1, 2] rfl rfl dX12_hiddenAt_27 (Nat.le_of_ble_eq_true rfl) (Nat.le_of_ble_eq_true rfl)
  · replace c_4 := i_ne (x := r_2) (y := 0) rfl (show (0 : Int32).toInt = 0 by decide) c_4
    refine lv_iload hx hb dX12_hiddenAt_18 (lv_at hl_3 0 rfl) ?_
    exact q_iret X hr hlk hK h_2 rfl (fun _ => 0, fun k => List.getD [(fun _ => 0), f0, f1, f2, f3] k (fun _ => 0), fun _ _ => 0) ⟨(bw wr_2 (by decide) (by decide)), (⟨by decide +kernel, by decide +kernel⟩ : 0 ≤ (0 : Int32).toInt ∧ (0 : Int32).toInt ≤ 0), rf0, (rg_wide rf3 (by decide) (by decide)), htf0_84, trivial⟩ [3, 4, 0, 1, 2] rfl rfl dX12_hiddenAt_20 (Nat.le_of_ble_eq_true rfl) (Nat.le_of_ble_eq_true rfl)
set_option maxHeartbeats 4000000 in
set_option maxRecDepth 100000 in
theorem gX12_probe_8b85bb7 (l : Launch) (D : va_G) (cy : Nat → ClassId) (h0 : Nat) (h1 : Nat) (h2 : Nat) (h3 : Nat) (h4 : Nat) (p0 : Int32) (p1 : Int32) (p2 : Int32) (w0 : Value) (w1 : Value) (w2 : Value) (p3 : Int32) (p4 : Int32) (p5 : Int32) (p6 : Int32) (p7 : Int32) (p8 : Int32) (p9 : Int32) (p10 : Int32) (p11 : Int32) (p12 : Int32) (p13 : Int32) (w3 : Value) (w4 : Value) (w5 : Value) (p14 : Int32) (p15 : Int32) (w6 : Value) (w7 : Value) (w8 : Value) (p16 : Int32) (p17 : Int32) (w9 : Value) (w10 : Value) (w11 : Value) (w12 : Value) (p18 : Int32) (w13 : Value) (w14 : Value) (w15 : Value) (f0 : Nat → Int32) (p19 : Int32) (f1 : Nat → Int32) (f2 : Nat → Int32) (f3 : Nat → Int32) (hp0 : (-2147483648) ≤ (p0).toInt ∧ (p0).toInt ≤ 2147483647) (hp1 : (-2147483648) ≤ (p1).toInt ∧ (p1).toInt ≤ 2147483647) (hp2 : (-2147483648) ≤ (p2).toInt ∧ (p2).toInt ≤ 2147483647) (hp3 : 0 ≤ (p3).toInt ∧ (p3).toInt ≤ 900) (hp4 : 0 ≤ (p4).toInt ∧ (p4).toInt ≤ 900) (hp5 : 0 ≤ (p5).toInt ∧ (p5).toInt ≤ 900) (hp6 : 0 ≤ (p6).toInt ∧ (p6).toInt ≤ 900) (hp7 : (-2147483648) ≤ (p7).toInt ∧ (p7).toInt ≤ 2147483647) (hp8 : 0 ≤ (p8).toInt ∧ (p8).toInt ≤ 999) (hp9 : (-2147483648) ≤ (p9).toInt ∧ (p9).toInt ≤ 2147483647) (hp10 : (-2147483648) ≤ (p10).toInt ∧ (p10).toInt ≤ 2147483647) (hp11 : (-2147483648) ≤ (p11).toInt ∧ (p11).toInt ≤ 2147483647) (hp12 : (-2147483648) ≤ (p12).toInt ∧ (p12).toInt ≤ 2147483647) (hp13 : (-2147483648) ≤ (p13).toInt ∧ (p13).toInt ≤ 2147483647) (hp14 : (-2147483648) ≤ (p14).toInt ∧ (p14).toInt ≤ 2147483647) (hp15 : (-2147483648) ≤ (p15).toInt ∧ (p15).toInt ≤ 2147483647) (hp16 : (-2147483648) ≤ (p16).toInt ∧ (p16).toInt ≤ 2147483647) (hp17 : (-2147483648) ≤ (p17).toInt ∧ (p17).toInt ≤ 2147483647) (hp18 : (-2147483648) ≤ (p18).toInt ∧ (p18).toInt ≤ 2147483647) (hp19 : 0 ≤ (p19).toInt ∧ (p19).toInt ≤ 10) (htf0_84 : f0 84 = p19) (rf0 : AL f0) (rf3 : RG f3 1000 0 999) (sz : Nat) : MI l yX12_probe cX12_probe 11 .int { frames := 5, cells := 0, slots := 0, locals := 121 } [.ref h0, .int p0, .int p1] D cy [(h0, .inr (12, [.int p2, .ref h1, w0, w1, w2, .int p3, .int p4, .int p5, .int p6, .int p7, .int p8, .int p9, .int p10, .int p11, .int p12, .int p13, .ref h2, .ref h3, w3, w4, w5, .int p14, .int p15, w6, w7, w8, .int p16, .int p17, .ref h4, w9, w10, w11, w12, .int p18, w13, w14, w15])), (h1, .inl (cy 1, 3918, .inl f0)), (h2, .inl (cy 1, 900, .inl f1)), (h3, .inl (cy 1, 11, .inl f2)), (h4, .inl (cy 1, 1000, .inl f3))] sz (fun r u => ((-3) ≤ r.toInt ∧ r.toInt ≤ 9) ∧ RG (u.2.1 2) 1000 0 999 ∧ (0 ≤ (u.2.1 3 0).toInt ∧ (u.2.1 3 0).toInt ≤ 0) ∧ AL (u.2.1 4) ∧ (u.2.1 4) 84 = p19 ∧ True) (fun u => [(h0, .inr (12, [.int (u.2.1 3 0), .ref h1, w0, w1, w2, .int p3, .int p4, .int p5, .int p6, .int p7, .int p8, .int p9, .int p10, .int p11, .int p12, .int p13, .ref h2, .ref h3, w3, w4, w5, .int p14, .int p15, w6, w7, w8, .int p16, .int p17, .ref h4, w9, w10, w11, w12, .int p18, w13, w14, w15])), (h1, .inl (cy 1, 3918, .inl (u.2.1 4))), (h2, .inl (cy 1, 900, .inl (u.2.1 0))), (h3, .inl (cy 1, 11, .inl (u.2.1 1))), (h4, .inl (cy 1, 1000, .inl (u.2.1 2)))]) 0 0 := by
  refine q_ent (own := RX12) (by decide) rfl (Nat.le_of_ble_eq_true rfl) (fun p e s m below meth c ls X hr hlk hnm hK hT h hA hl => ?_)
  obtain ⟨hx, hb, hml, hown, ht⟩ := id X
  replace hl : lv_has ls 11 [(0, .ref h0), (1, .int p0), (2, .int p1)] := hl
  refine lv_aload_n hx hb dX12_probe_0 rfl (lv_at hl 0 rfl) ?_
  refine lv_iconst (v := 0) hx hb dX12_probe_1 (by decide) ?_
  refine q_put (v := .int 0) X hK h 0 rfl rfl wf_12 tyX12 tyX12_ok nmX12 0 (by decide) wm_5_170 rfl rfl rfl (Nat.le_of_ble_eq_true rfl) dX12_probe_2 (fun H locs h_1 => ?_)
  clear h
  replace h_1 : qW D _ _ [(h0, .inr (12, [.int 0, .ref h1, w0, w1, w2, .int p3, .int p4, .int p5, .int p6, .int p7, .int p8, .int p9, .int p10, .int p11, .int p12, .int p13, .ref h2, .ref h3, w3, w4, w5, .int p14, .int p15, w6, w7, w8, .int p16, .int p17, .ref h4, w9, w10, w11, w12, .int p18, w13, w14, w15])), (h1, .inl (cy 1, 3918, .inl f0)), (h2, .inl (cy 1, 900, .inl f1)), (h3, .inl (cy 1, 11, .inl f2)), (h4, .inl (cy 1, 1000, .inl f3))] _ _ := h_1
  refine lv_aload_n hx hb dX12_probe_5 rfl (lv_at hl 0 rfl) ?_
  refine lv_iload_n hx hb dX12_probe_6 rfl (lv_at hl 1 rfl) ?_
  refine lv_iload_n hx hb dX12_probe_7 rfl (lv_at hl 2 rfl) ?_
  refine q_callVi (rest := []) (wr := [(h2, .inl (cy 1, 900, .inl f1)), (h3, .inl (cy 1, 11, .inl f2)), (h4, .inl (cy 1, 1000, .inl f3))]) X hK hT hA h_1 (fun sz => gX12_noHidden_6db733f l D cy h0 h1 p0 p1 (0 : Int32) w0 w1 w2 p3 p4 p5 p6 p7 p8 p9 p10 p11 p12 p13 (.ref h2) (.ref h3) w3 w4 w5 p14 p15 w6 w7 w8 p16 p17 (.ref h4) w9 w10 w11 w12 p18 w13 w14 w15 f0 p19 (i_rng _) (i_rng _) ⟨by decide +kernel, by decide +kernel⟩ hp3 hp4 hp5 hp6 (i_rng _) hp8 (i_rng _) (i_rng _) (i_rng _) (i_rng _) (i_rng _) (i_rng _) (i_rng _) (i_rng _) (i_rng _) (i_rng _) hp19 htf0_84 rf0 sz) wm_7_223 wm_7_226 wm_1_12 hd_X12_noHidden wm_7_225 wp_7_15 (ci := 12) (q0 := 0) rfl rfl ⟨Nat.le_of_ble_eq_true rfl, Nat.le_of_ble_eq_true rfl⟩ hl.1 rfl (Nat.le_of_ble_eq_true rfl) dX12_probe_8 ⟨Nat.le_of_ble_eq_true rfl, Nat.le_of_ble_eq_true rfl⟩ [0, 1] [2, 3, 4] rfl rfl (by decide) rfl rfl (fun r_2 u_2 H locs w_2 h_2 => ?_)
  clear h_1
  obtain ⟨wr_2, y2_0, _⟩ := w_2
  replace h_2 : qW D _ _ [(h2, .inl (cy 1, 900, .inl f1)), (h3, .inl (cy 1, 11, .inl f2)), (h4, .inl (cy 1, 1000, .inl f3)), (h0, .inr (12, [.int 0, .ref h1, w0, w1, w2, .int p3, .int p4, .int p5, .int p6, .int p7, .int p8, .int p9, .int p10, .int p11, .int p12, .int p13, .ref h2, .ref h3, w3, w4, w5, .int p14, .int p15, w6, w7, w8, .int p16, .int p17, .ref h4, w9, w10, w11, w12, .int p18, w13, w14, w15])), (h1, .inl (cy 1, 3918, .inl f0))] _ _ := h_2
  refine lv_istore_n (lv' := [(3, .int r_2), (0, .ref h0), (1, .int p0), (2, .int p1)]) hx hb dX12_probe_11 rfl hl (by decide) rfl (fun ls_3 hl_3 => ?_)
  clear hl
  refine lv_iload_n hx hb dX12_probe_12 rfl (lv_at hl_3 0 rfl) ?_
  refine lv_if_eq (tgt := 18) hx hb dX12_probe_13 (by decide) (fun c_4 => ?_) (fun c_4 => ?_)
  · replace c_4 := i_eq (x := r_2) (y := 0) rfl (show (0 : Int32).toInt = 0 by decide) c_4
    refine lv_aload_n hx hb dX12_probe_18 rfl (lv_at hl_3 1 rfl) ?_
    refine lv_iload_n hx hb dX12_probe_19 rfl (lv_at hl_3 2 rfl) ?_
    refine lv_iload_n hx hb dX12_probe_20 rfl (lv_at hl_3 3 rfl) ?_
    refine q_callVi (rest := []) (wr := []) X hK hT hA h_2 (fun sz => gX12_laysHidden_bb1e8ce l D cy h0 h1 h2 h3 h4 p0 p1 (0 : Int32) w0 w1 w2 p3 p4 p5 p6 p7 p8 p9 p10 p11 p12 p13 w3 w4 w5 p14 p15 w6 w7 w8 p16 p17 w9 w10 w11 w12 p18 w13 w14 w15 f0 p19 f1 f2 f3 ⟨by omega, by omega⟩ (i_rng _) ⟨by decide +kernel, by decide +kernel⟩ hp3 hp4 hp5 hp6 (i_rng _) hp8 (i_rng _) (i_rng _) (i_rng _) (i_rng _) (i_rng _) (i_rng _) (i_rng _) (i_rng _) (i_rng _) (i_rng _) hp19 htf0_84 rf0 (rg_wide rf3 (by decide) (by decide)) sz) wm_7_227 wm_7_230 wm_1_12 hd_X12_laysHidden wm_7_229 wp_8_0 (ci := 12) (q0 := 0) rfl rfl ⟨Nat.le_of_ble_eq_true rfl, Nat.le_of_ble_eq_true rfl⟩ hl_3.1 rfl (Nat.le_of_ble_eq_true rfl) dX12_probe_21 ⟨Nat.le_of_ble_eq_true rfl, Nat.le_of_ble_eq_true rfl⟩ [3, 4, 0, 1, 2] [] rfl rfl (by decide) rfl rfl (fun r_5 u_5 H locs w_5 h_5 => ?_)
    clear h_2
    obtain ⟨wr_5, w5_0, w5_1, w5_2, _⟩ := w_5
    replace h_5 : qW D _ _ [(h0, .inr (12, [.int 0, .ref h1, w0, w1, w2, .int p3, .int p4, .int p5, .int p6, .int p7, .int p8, .int p9, .int p10, .int p11, .int p12, .int p13, .ref h2, .ref h3, w3, w4, w5, .int p14, .int p15, w6, w7, w8, .int p16, .int p17, .ref h4, w9, w10, w11, w12, .int p18, w13, w14, w15])), (h1, .inl (cy 1, 3918, .inl (u_5.2.1 3))), (h2, .inl (cy 1, 900, .inl (u_5.2.1 0))), (h3, .inl (cy 1, 11, .inl (u_5.2.1 1))), (h4, .inl (cy 1, 1000, .inl (u_5.2.1 2)))] _ _ := h_5
    refine lv_istore (lv' := [(4, .int r_5), (3, .int r_2), (0, .ref h0), (1, .int p0), (2, .int p1)]) hx hb dX12_probe_24 hl_3 (by decide) rfl (fun ls_6 hl_6 => ?_)
    clear hl_3
    refine lv_aload_n hx hb dX12_probe_26 rfl (lv_at hl_6 2 rfl) ?_
    refine lv_iload_n hx hb dX12_probe_27 rfl (lv_at hl_6 3 rfl) ?_
    refine q_callVi (rest := []) (wr := [(h2, .inl (cy 1, 900, .inl (u_5.2.1 0))), (h3, .inl (cy 1, 11, .inl (u_5.2.1 1))), (h4, .inl (cy 1, 1000, .inl (u_5.2.1 2)))]) X hK hT hA h_5 (fun sz => gX12_viewsOf_bc3d930 l D cy h0 h1 p0 (0 : Int32) w0 w1 w2 p3 p4 p5 p6 p7 p8 p9 p10 p11 p12 p13 (.ref h2) (.ref h3) w3 w4 w5 p14 p15 w6 w7 w8 p16 p17 (.ref h4) w9 w10 w11 w12 p18 w13 w14 w15 (u_5.2.1 3) p19 ⟨by omega, by omega⟩ ⟨by decide +kernel, by decide +kernel⟩ hp3 hp4 hp5 hp6 (i_rng _) hp8 (i_rng _) (i_rng _) (i_rng _) (i_rng _) (i_rng _) (i_rng _) (i_rng _) (i_rng _) (i_rng _) (i_rng _) hp19 w5_2 w5_1 sz) wm_7_172 wm_7_175 wm_1_12 hd_X12_viewsOf wm_7_174 wp_7_10 (ci := 12) (q0 := 0) rfl rfl ⟨Nat.le_of_ble_eq_true rfl, Nat.le_of_ble_eq_true rfl⟩ hl_6.1 rfl (Nat.le_of_ble_eq_true rfl) dX12_probe_28 ⟨Nat.le_of_ble_eq_true rfl, Nat.le_of_ble_eq_true rfl⟩ [0, 1] [2, 3, 4] rfl rfl (by decide) rfl rfl (fun r_7 u_7 H locs w_7 h_7 => ?_)
    clear h_5
    obtain ⟨wr_7, _⟩ := w_7
    replace h_7 : qW D _ _ [(h2, .inl (cy 1, 900, .inl (u_5.2.1 0))), (h3, .inl (cy 1, 11, .inl (u_5.2.1 1))), (h4, .inl (cy 1, 1000, .inl (u_5.2.1 2))), (h0, .inr (12, [.int 0, .ref h1, w0, w1, w2, .int p3, .int p4, .int p5, .int p6, .int p7, .int p8, .int p9, .int p10, .int p11, .int p12, .int p13, .ref h2, .ref h3, w3, w4, w5, .int p14, .int p15, w6, w7, w8, .int p16, .int p17, .ref h4, w9, w10, w11, w12, .int p18, w13, w14, w15])), (h1, .inl (cy 1, 3918, .inl (u_5.2.1 3)))] _ _ := h_7
    refine lv_istore (lv' := [(5, .int r_7), (4, .int r_5), (3, .int r_2), (0, .ref h0), (1, .int p0), (2, .int p1)]) hx hb dX12_probe_31 hl_6 (by decide) rfl (fun ls_8 hl_8 => ?_)
    clear hl_6
    refine lv_iconst (v := (-1)) hx hb dX12_probe_33 (by decide) ?_
    refine lv_istore (lv' := [(6, .int (-1)), (5, .int r_7), (4, .int r_5), (3, .int r_2), (0, .ref h0), (1, .int p0), (2, .int p1)]) hx hb dX12_probe_34 hl_8 (by decide) rfl (fun ls_9 hl_9 => ?_)
    clear hl_8
    refine lv_iconst (v := (-1)) hx hb dX12_probe_36 (by decide) ?_
    refine lv_istore (lv' := [(7, .int (-1)), (6, .int (-1)), (5, .int r_7), (4, .int r_5), (3, .int r_2), (0, .ref h0), (1, .int p0), (2, .int p1)]) hx hb dX12_probe_37 hl_9 (by decide) rfl (fun ls_10 hl_10 => ?_)
    clear hl_9
    refine lv_iconst (v := 0) hx hb dX12_probe_39 (by decide) ?_
    refine lv_istore (lv' := [(8, .int 0), (7, .int (-1)), (6, .int (-1)), (5, .int r_7), (4, .int r_5), (3, .int r_2), (0, .ref h0), (1, .int p0), (2, .int p1)]) hx hb dX12_probe_40 hl_10 (by decide) rfl (fun ls_11 hl_11 => ?_)
    clear hl_10
    refine q_wl (fun (q : Int32 × Int32 × Int32) H locs ls => match q with | (v42_12_0, v42_12_1, v42_12_2) => ∃ v42_12_3 : Nat → Int32, ∃ v42_12_4 : Nat → Int32, ∃ v42_12_5 : Nat → Int32, (0 ≤ (v42_12_0).toInt ∧ (v42_12_0).toInt ≤ 10) ∧ ((-1) ≤ (v42_12_1).toInt ∧ (v42_12_1).toInt ≤ 9) ∧ ((-1) ≤ (v42_12_2).toInt ∧ (v42_12_2).toInt ≤ 2147483647) ∧ v42_12_5 84 = p19 ∧ AL v42_12_5 ∧ qW D (va_A [(h0, .inr (12, [.int p2, .ref h1, w0, w1, w2, .int p3, .int p4, .int p5, .int p6, .int p7, .int p8, .int p9, .int p10, .int p11, .int p12, .int p13, .ref h2, .ref h3, w3, w4, w5, .int p14, .int p15, w6, w7, w8, .int p16, .int p17, .ref h4, w9, w10, w11, w12, .int p18, w13, w14, w15])), (h1, .inl (cy 1, 3918, .inl f0)), (h2, .inl (cy 1, 900, .inl f1)), (h3, .inl (cy 1, 11, .inl f2)), (h4, .inl (cy 1, 1000, .inl f3))] sz) s.heap [(h2, .inl (cy 1, 900, .inl v42_12_3)), (h3, .inl (cy 1, 11, .inl v42_12_4)), (h4, .inl (cy 1, 1000, .inl (u_5.2.1 2))), (h0, .inr (12, [.int 0, .ref h1, w0, w1, w2, .int p3, .int p4, .int p5, .int p6, .int p7, .int p8, .int p9, .int p10, .int p11, .int p12, .int p13, .ref h2, .ref h3, w3, w4, w5, .int p14, .int p15, w6, w7, w8, .int p16, .int p17, .ref h4, w9, w10, w11, w12, .int p18, w13, w14, w15])), (h1, .inl (cy 1, 3918, .inl v42_12_5))] H locs ∧ lv_has ls 11 [(0, .ref h0), (1, .int p0), (2, .int p1), (3, .int r_2), (4, .int r_5), (5, .int r_7), (6, .int v42_12_1), (7, .int v42_12_2), (8, .int v42_12_0)]) (fun (q : Int32 × Int32 × Int32) => match q with | (v42_12_0, v42_12_1, v42_12_2) => (11 - (v42_12_0).toInt).toNat) (fun q_42 ih_42 H locs ls hP => ?_) (0, (-1), (-1)) ⟨(u_5.2.1 0), (u_5.2.1 1), (u_5.2.1 3), ⟨by decide +kernel, by decide +kernel⟩, ⟨by decide +kernel, by decide +kernel⟩, ⟨by decide +kernel, by decide +kernel⟩, w5_2, w5_1, h_7, (lv_sub hl_11 [6, 7, 8, 5, 4, 3, 2, 1, 0] rfl)⟩
    obtain ⟨v42_12_0, v42_12_1, v42_12_2⟩ := q_42
    obtain ⟨v42_12_3, v42_12_4, v42_12_5, hv42_12_0, hv42_12_1, hv42_12_2, trv42_12_5_84, rv42_12_5, h, hl⟩ := hP
    refine lv_iload hx hb dX12_probe_42 (lv_at hl 8 rfl) ?_
    refine lv_aload_n hx hb dX12_probe_44 rfl (lv_at hl 0 rfl) ?_
    refine q_get X hK h 3 rfl rfl wf_12 1 (by decide) rfl wm_5_171 dX12_probe_45 ?_
    refine lv_iconst (v := 2) hx hb dX12_probe_48 (by decide) ?_
    refine q_iald X hK h 4 rfl (q_in (by decide +kernel)) dX12_probe_49 ?_
    obtain ⟨z_13, ez_13, hz_13⟩ := al_P rv42_12_5 (x := 2) (show (2 : Int32).toInt = 2 by decide) (by omega) (by omega)
    refine q_c z_13 ez_13 ?_
    clear ez_13
    refine q_jn (pc2 := 184) (fun H locs ls st => st = [] ∧ qW D (va_A [(h0, .inr (12, [.int p2, .ref h1, w0, w1, w2, .int p3, .int p4, .int p5, .int p6, .int p7, .int p8, .int p9, .int p10, .int p11, .int p12, .int p13, .ref h2, .ref h3, w3, w4, w5, .int p14, .int p15, w6, w7, w8, .int p16, .int p17, .ref h4, w9, w10, w11, w12, .int p18, w13, w14, w15])), (h1, .inl (cy 1, 3918, .inl f0)), (h2, .inl (cy 1, 900, .inl f1)), (h3, .inl (cy 1, 11, .inl f2)), (h4, .inl (cy 1, 1000, .inl f3))] sz) s.heap [(h2, .inl (cy 1, 900, .inl v42_12_3)), (h3, .inl (cy 1, 11, .inl v42_12_4)), (h4, .inl (cy 1, 1000, .inl (u_5.2.1 2))), (h0, .inr (12, [.int 0, .ref h1, w0, w1, w2, .int p3, .int p4, .int p5, .int p6, .int p7, .int p8, .int p9, .int p10, .int p11, .int p12, .int p13, .ref h2, .ref h3, w3, w4, w5, .int p14, .int p15, w6, w7, w8, .int p16, .int p17, .ref h4, w9, w10, w11, w12, .int p18, w13, w14, w15])), (h1, .inl (cy 1, 3918, .inl v42_12_5))] H locs ∧ lv_has ls 11 [(0, .ref h0), (1, .int p0), (2, .int p1), (3, .int r_2), (4, .int r_5), (5, .int r_7), (6, .int v42_12_1), (7, .int v42_12_2), (8, .int v42_12_0)]) (fun H locs ls st hP => ?_) (fun J_184 => ?_)
    · obtain ⟨rfl, h, hl⟩ := hP
      refine lv_aload_n hx hb dX12_probe_184 rfl (lv_at hl 0 rfl) ?_
      refine lv_iload_n hx hb dX12_probe_185 rfl (lv_at hl 1 rfl) ?_
      refine lv_iload hx hb dX12_probe_186 (lv_at hl 5 rfl) ?_
      refine q_callVv (rest := []) (wr := [(h2, .inl (cy 1, 900, .inl v42_12_3)), (h3, .inl (cy 1, 11, .inl v42_12_4)), (h4, .inl (cy 1, 1000, .inl (u_5.2.1 2)))]) X hK hT hA h (fun sz => gX12_puts_2de0910 l D cy h0 h1 p0 r_7 (0 : Int32) w0 w1 w2 p3 p4 p5 p6 p7 p8 p9 p10 p11 p12 p13 (.ref h2) (.ref h3) w3 w4 w5 p14 p15 w6 w7 w8 p16 p17 (.ref h4) w9 w10 w11 w12 p18 w13 w14 w15 v42_12_5 p19 ⟨by omega, by omega⟩ wr_7 ⟨by decide +kernel, by decide +kernel⟩ hp3 hp4 hp5 hp6 (i_rng _) hp8 (i_rng _) (i_rng _) (i_rng _) (i_rng _) (i_rng _) (i_rng _) (i_rng _) (i_rng _) (i_rng _) (i_rng _) hp19 trv42_12_5_84 rv42_12_5 sz) wm_7_176 wm_7_179 wm_1_12 hd_X12_puts wm_7_178 wp_7_11 (ci := 12) (q0 := 0) rfl rfl ⟨Nat.le_of_ble_eq_true rfl, Nat.le_of_ble_eq_true rfl⟩ hl.1 rfl (Nat.le_of_ble_eq_true rfl) dX12_probe_188 ⟨Nat.le_of_ble_eq_true rfl, Nat.le_of_ble_eq_true rfl⟩ [3, 4] [0, 1, 2] rfl rfl (by decide) rfl rfl (fun u_15 H locs w_15 h_15 => ?_)
      clear h
      obtain ⟨w15_0, w15_1, _⟩ := w_15
      replace h_15 : qW D _ _ [(h2, .inl (cy 1, 900, .inl v42_12_3)), (h3, .inl (cy 1, 11, .inl v42_12_4)), (h4, .inl (cy 1, 1000, .inl (u_5.2.1 2))), (h0, .inr (12, [.int 0, .ref h1, w0, w1, w2, .int p3, .int p4, .int p5, .int p6, .int p7, .int p8, .int p9, .int p10, .int p11, .int p12, .int p13, .ref h2, .ref h3, w3, w4, w5, .int p14, .int p15, w6, w7, w8, .int p16, .int p17, .ref h4, w9, w10, w11, w12, .int p18, w13, w14, w15])), (h1, .inl (cy 1, 3918, .inl (u_15.2.1 0)))] _ _ := h_15
      refine lv_iload hx hb dX12_probe_191 (lv_at hl 6 rfl) ?_
      exact q_iret X hr hlk hK h_15 rfl (fun _ => 0, fun k => List.getD [v42_12_3, v42_12_4, (u_5.2.1 2), (fun _ => 0), (u_15.2.1 0)] k (fun _ => 0), fun _ _ => 0) ⟨(bw hv42_12_1 (by decide) (by decide)), (rg_wide w5_0 (by decide) (by decide)), (⟨by decide +kernel, by decide +kernel⟩ : 0 ≤ (0 : Int32).toInt ∧ (0 : Int32).toInt ≤ 0), w15_0, w15_1, trivial⟩ [3, 4, 0, 1, 2] rfl rfl dX12_probe_193 (Nat.le_of_ble_eq_true rfl) (Nat.le_of_ble_eq_true rfl)
    · skip
      refine lv_icmp_ge (tgt := 184) hx hb dX12_probe_50 (by decide) (fun c_16 => ?_) (fun c_16 => ?_)
      · replace c_16 := i_le (x := z_13) (y := v42_12_0) rfl rfl c_16
        exact J_184 _ _ _ _ ⟨rfl, h, (lv_sub hl [0, 1, 2, 3, 4, 5, 6, 7, 8] rfl)⟩
      · replace c_16 := i_nle (x := z_13) (y := v42_12_0) rfl rfl c_16
        refine lv_iload hx hb dX12_probe_53 (lv_at hl 4 rfl) ?_
        refine lv_if_le (tgt := 184) hx hb dX12_probe_55 (by decide) (fun c_17 => ?_) (fun c_17 => ?_)
        · replace c_17 := i_le (x := r_5) (y := 0) rfl (show (0 : Int32).toInt = 0 by decide) c_17
          exact J_184 _ _ _ _ ⟨rfl, h, (lv_sub hl [0, 1, 2, 3, 4, 5, 6, 7, 8] rfl)⟩
        · replace c_17 := i_nle (x := r_5) (y := 0) rfl (show (0 : Int32).toInt = 0 by decide) c_17
          refine lv_iload hx hb dX12_probe_58 (lv_at hl 8 rfl) ?_
          refine lv_iload_n hx hb dX12_probe_60 rfl (lv_at hl 1 rfl) ?_
          refine q_jn (pc2 := 178) (fun H locs ls st => ∃ v178_18_0 : Int32, ∃ v178_18_1 : Int32, ∃ v178_18_2 : Nat → Int32, ∃ v178_18_3 : Nat → Int32, ∃ v178_18_4 : Nat → Int32, ((-1) ≤ (v178_18_0).toInt ∧ (v178_18_0).toInt ≤ 2147483647) ∧ ((-1) ≤ (v178_18_1).toInt ∧ (v178_18_1).toInt ≤ 9) ∧ v178_18_4 84 = p19 ∧ AL v178_18_4 ∧ st = [] ∧ qW D (va_A [(h0, .inr (12, [.int p2, .ref h1, w0, w1, w2, .int p3, .int p4, .int p5, .int p6, .int p7, .int p8, .int p9, .int p10, .int p11, .int p12, .int p13, .ref h2, .ref h3, w3, w4, w5, .int p14, .int p15, w6, w7, w8, .int p16, .int p17, .ref h4, w9, w10, w11, w12, .int p18, w13, w14, w15])), (h1, .inl (cy 1, 3918, .inl f0)), (h2, .inl (cy 1, 900, .inl f1)), (h3, .inl (cy 1, 11, .inl f2)), (h4, .inl (cy 1, 1000, .inl f3))] sz) s.heap [(h2, .inl (cy 1, 900, .inl v178_18_2)), (h3, .inl (cy 1, 11, .inl v178_18_3)), (h4, .inl (cy 1, 1000, .inl (u_5.2.1 2))), (h0, .inr (12, [.int 0, .ref h1, w0, w1, w2, .int p3, .int p4, .int p5, .int p6, .int p7, .int p8, .int p9, .int p10, .int p11, .int p12, .int p13, .ref h2, .ref h3, w3, w4, w5, .int p14, .int p15, w6, w7, w8, .int p16, .int p17, .ref h4, w9, w10, w11, w12, .int p18, w13, w14, w15])), (h1, .inl (cy 1, 3918, .inl v178_18_4))] H locs ∧ lv_has ls 11 [(0, .ref h0), (1, .int p0), (2, .int p1), (3, .int r_2), (4, .int r_5), (5, .int r_7), (6, .int v178_18_1), (7, .int v178_18_0), (8, .int v42_12_0)]) (fun H locs ls st hP => ?_) (fun J_178 => ?_)
          · obtain ⟨v178_18_0, v178_18_1, v178_18_2, v178_18_3, v178_18_4, hv178_18_0, hv178_18_1, trv178_18_4_84, rv178_18_4, rfl, h, hl⟩ := hP
            obtain ⟨z_19, ez_19, hz_19⟩ := e_add (x := v42_12_0) (y := Int32.ofInt 1) rfl (b := 1) (by decide) (by omega) (by omega)
            refine lv_iinc (v := z_19) (lv' := [(8, .int z_19), (0, .ref h0), (1, .int p0), (2, .int p1), (3, .int r_2), (4, .int r_5), (5, .int r_7), (6, .int v178_18_1), (7, .int v178_18_0)]) hx hb dX12_probe_178 hl (k := 8) rfl ez_19 (by decide) rfl (fun ls_19 hl_19 => ?_)
            clear hl
            refine lv_goto (tgt := 42) hx hb dX12_probe_181 (by decide) ?_
            exact ih_42 (z_19, v178_18_1, v178_18_0) (by show (11 - (z_19).toInt).toNat < (11 - (v42_12_0).toInt).toNat; omega) _ _ _ ⟨v178_18_2, v178_18_3, v178_18_4, ⟨by omega, by omega⟩, hv178_18_1, hv178_18_0, trv178_18_4_84, rv178_18_4, h, (lv_sub hl_19 [1, 2, 3, 4, 5, 6, 7, 8, 0] rfl)⟩
          · skip
            refine lv_icmp_eq (tgt := 178) hx hb dX12_probe_61 (by decide) (fun c_20 => ?_) (fun c_20 => ?_)
            · replace c_20 := i_eq (x := v42_12_0) (y := p0) rfl rfl c_20
              exact J_178 _ _ _ _ ⟨v42_12_2, v42_12_1, v42_12_3, v42_12_4, v42_12_5, hv42_12_2, hv42_12_1, trv42_12_5_84, rv42_12_5, rfl, h, (lv_sub hl [0, 1, 2, 3, 4, 5, 6, 7, 8] rfl)⟩
            · replace c_20 := i_ne (x := v42_12_0) (y := p0) rfl rfl c_20
              refine lv_aload_n hx hb dX12_probe_64 rfl (lv_at hl 0 rfl) ?_
              refine q_callVi (rest := []) (wr := [(h2, .inl (cy 1, 900, .inl v42_12_3)), (h3, .inl (cy 1, 11, .inl v42_12_4)), (h4, .inl (cy 1, 1000, .inl (u_5.2.1 2)))]) X hK hT hA h (fun sz => gX12_townNow_2907b4b l D cy h0 h1 (0 : Int32) w0 w1 w2 p3 p4 p5 p6 p7 p8 p9 p10 p11 p12 p13 (.ref h2) (.ref h3) w3 w4 w5 p14 p15 w6 w7 w8 p16 p17 (.ref h4) w9 w10 w11 w12 p18 w13 w14 w15 v42_12_5 p19 ⟨by decide +kernel, by decide +kernel⟩ hp3 hp4 hp5 hp6 (i_rng _) hp8 (i_rng _) (i_rng _) (i_rng _) (i_rng _) (i_rng _) (i_rng _) (i_rng _) (i_rng _) (i_rng _) (i_rng _) hp19 trv42_12_5_84 rv42_12_5 sz) wm_6_170 wm_6_173 wm_1_12 hd_X12_townNow wm_6_172 wp_5_9 (ci := 12) (q0 := 0) rfl rfl ⟨Nat.le_of_ble_eq_true rfl, Nat.le_of_ble_eq_true rfl⟩ hl.1 rfl (Nat.le_of_ble_eq_true rfl) dX12_probe_65 ⟨Nat.le_of_ble_eq_true rfl, Nat.le_of_ble_eq_true rfl⟩ [3, 4] [0, 1, 2] rfl rfl (by decide) rfl rfl (fun r_21 u_21 H locs w_21 h_21 => ?_)
              clear h
              obtain ⟨wr_21, _⟩ := w_21
              replace h_21 : qW D _ _ [(h2, .inl (cy 1, 900, .inl v42_12_3)), (h3, .inl (cy 1, 11, .inl v42_12_4)), (h4, .inl (cy 1, 1000, .inl (u_5.2.1 2))), (h0, .inr (12, [.int 0, .ref h1, w0, w1, w2, .int p3, .int p4, .int p5, .int p6, .int p7, .int p8, .int p9, .int p10, .int p11, .int p12, .int p13, .ref h2, .ref h3, w3, w4, w5, .int p14, .int p15, w6, w7, w8, .int p16, .int p17, .ref h4, w9, w10, w11, w12, .int p18, w13, w14, w15])), (h1, .inl (cy 1, 3918, .inl v42_12_5))] _ _ := h_21
              refine lv_i2l hx hb dX12_probe_68 rfl ?_
              obtain ⟨z_22, ez_22, hz_22⟩ := e_i2l (x := r_21) rfl
              refine q_cl z_22 ez_22 ?_
              clear ez_22
              refine lv_iload hx hb dX12_probe_69 (lv_at hl 8 rfl) ?_
              refine q_callSi (rest := []) (wr := [(h2, .inl (cy 1, 900, .inl v42_12_3)), (h3, .inl (cy 1, 11, .inl v42_12_4)), (h4, .inl (cy 1, 1000, .inl (u_5.2.1 2))), (h0, .inr (12, [.int 0, .ref h1, w0, w1, w2, .int p3, .int p4, .int p5, .int p6, .int p7, .int p8, .int p9, .int p10, .int p11, .int p12, .int p13, .ref h2, .ref h3, w3, w4, w5, .int p14, .int p15, w6, w7, w8, .int p16, .int p17, .ref h4, w9, w10, w11, w12, .int p18, w13, w14, w15])), (h1, .inl (cy 1, 3918, .inl v42_12_5))]) X hK hT hA h_21 (fun sz => gX12_isIn_b0455a8 l D cy z_22 v42_12_0 ⟨by omega, by omega⟩ ⟨by omega, by omega⟩ sz) wm_6_167 wm_6_169 wm_1_12 hd_X12_isIn wm_6_168 ⟨Nat.le_of_ble_eq_true rfl, Nat.le_of_ble_eq_true rfl⟩ hl.1 rfl (Nat.le_of_ble_eq_true rfl) dX12_probe_71 ⟨Nat.le_of_ble_eq_true rfl, Nat.le_of_ble_eq_true rfl⟩ [] [0, 1, 2, 3, 4] rfl rfl (by decide) rfl rfl (fun r_23 u_23 H locs w_23 h_23 => ?_)
              clear h_21
              obtain ⟨wr_23, _⟩ := w_23
              replace h_23 : qW D _ _ [(h2, .inl (cy 1, 900, .inl v42_12_3)), (h3, .inl (cy 1, 11, .inl v42_12_4)), (h4, .inl (cy 1, 1000, .inl (u_5.2.1 2))), (h0, .inr (12, [.int 0, .ref h1, w0, w1, w2, .int p3, .int p4, .int p5, .int p6, .int p7, .int p8, .int p9, .int p10, .int p11, .int p12, .int p13, .ref h2, .ref h3, w3, w4, w5, .int p14, .int p15, w6, w7, w8, .int p16, .int p17, .ref h4, w9, w10, w11, w12, .int p18, w13, w14, w15])), (h1, .inl (cy 1, 3918, .inl v42_12_5))] _ _ := h_23
              refine lv_if_eq (tgt := 80) hx hb dX12_probe_74 (by decide) (fun c_24 => ?_) (fun c_24 => ?_)
              · replace c_24 := i_eq (x := r_23) (y := 0) rfl (show (0 : Int32).toInt = 0 by decide) c_24
                refine lv_iconst (v := 0) hx hb dX12_probe_80 (by decide) ?_
                refine lv_istore (lv' := [(9, .int 0), (0, .ref h0), (1, .int p0), (2, .int p1), (3, .int r_2), (4, .int r_5), (5, .int r_7), (6, .int v42_12_1), (7, .int v42_12_2), (8, .int v42_12_0)]) hx hb dX12_probe_81 hl (by decide) rfl (fun ls_25 hl_25 => ?_)
                clear hl
                refine lv_iconst (v := 0) hx hb dX12_probe_83 (by decide) ?_
                refine lv_istore (lv' := [(10, .int 0), (9, .int 0), (0, .ref h0), (1, .int p0), (2, .int p1), (3, .int r_2), (4, .int r_5), (5, .int r_7), (6, .int v42_12_1), (7, .int v42_12_2), (8, .int v42_12_0)]) hx hb dX12_probe_84 hl_25 (by decide) rfl (fun ls_26 hl_26 => ?_)
                clear hl_25
                refine q_wl (fun (q : Int32 × Int32) H locs ls => match q with | (v86_27_0, v86_27_1) => ∃ v86_27_2 : Nat → Int32, ∃ v86_27_3 : Nat → Int32, ∃ v86_27_4 : Nat → Int32, (0 ≤ (v86_27_0).toInt ∧ (v86_27_0).toInt ≤ 1000) ∧ ((-2147483648) ≤ (v86_27_1).toInt ∧ (v86_27_1).toInt ≤ 2147483647) ∧ v86_27_2 84 = p19 ∧ AL v86_27_2 ∧ qW D (va_A [(h0, .inr (12, [.int p2, .ref h1, w0, w1, w2, .int p3, .int p4, .int p5, .int p6, .int p7, .int p8, .int p9, .int p10, .int p11, .int p12, .int p13, .ref h2, .ref h3, w3, w4, w5, .int p14, .int p15, w6, w7, w8, .int p16, .int p17, .ref h4, w9, w10, w11, w12, .int p18, w13, w14, w15])), (h1, .inl (cy 1, 3918, .inl f0)), (h2, .inl (cy 1, 900, .inl f1)), (h3, .inl (cy 1, 11, .inl f2)), (h4, .inl (cy 1, 1000, .inl f3))] sz) s.heap [(h2, .inl (cy 1, 900, .inl v86_27_3)), (h3, .inl (cy 1, 11, .inl v86_27_4)), (h4, .inl (cy 1, 1000, .inl (u_5.2.1 2))), (h0, .inr (12, [.int 0, .ref h1, w0, w1, w2, .int p3, .int p4, .int p5, .int p6, .int p7, .int p8, .int p9, .int p10, .int p11, .int p12, .int p13, .ref h2, .ref h3, w3, w4, w5, .int p14, .int p15, w6, w7, w8, .int p16, .int p17, .ref h4, w9, w10, w11, w12, .int p18, w13, w14, w15])), (h1, .inl (cy 1, 3918, .inl v86_27_2))] H locs ∧ lv_has ls 11 [(0, .ref h0), (1, .int p0), (2, .int p1), (3, .int r_2), (4, .int r_5), (5, .int r_7), (6, .int v42_12_1), (7, .int v42_12_2), (8, .int v42_12_0), (9, .int v86_27_1), (10, .int v86_27_0)]) (fun (q : Int32 × Int32) => match q with | (v86_27_0, v86_27_1) => (1001 - (v86_27_0).toInt).toNat) (fun q_86 ih_86 H locs ls hP => ?_) (0, 0) ⟨v42_12_5, v42_12_3, v42_12_4, ⟨by decide +kernel, by decide +kernel⟩, ⟨by decide +kernel, by decide +kernel⟩, trv42_12_5_84, rv42_12_5, h_23, (lv_sub hl_26 [2, 3, 4, 5, 6, 7, 8, 9, 10, 1, 0] rfl)⟩
                obtain ⟨v86_27_0, v86_27_1⟩ := q_86
                obtain ⟨v86_27_2, v86_27_3, v86_27_4, hv86_27_0, hv86_27_1, trv86_27_2_84, rv86_27_2, h, hl⟩ := hP
                refine lv_iload hx hb dX12_probe_86 (lv_at hl 10 rfl) ?_
                refine lv_iload hx hb dX12_probe_88 (lv_at hl 4 rfl) ?_
                refine lv_icmp_ge (tgt := 138) hx hb dX12_probe_90 (by decide) (fun c_28 => ?_) (fun c_28 => ?_)
                · replace c_28 := i_le (x := r_5) (y := v86_27_0) rfl rfl c_28
                  refine lv_iload hx hb dX12_probe_138 (lv_at hl 9 rfl) ?_
                  refine lv_iload hx hb dX12_probe_140 (lv_at hl 4 rfl) ?_
                  refine lv_iload hx hb dX12_probe_142 (lv_at hl 9 rfl) ?_
                  refine lv_isub hx hb dX12_probe_144 ?_
                  refine q_any (fun z_29 hz_29 => ?_)
                  refine q_jn (pc2 := 158) (fun H locs ls st => ∃ v158_30_0 : Int32, ((-2147483648) ≤ (v158_30_0).toInt ∧ (v158_30_0).toInt ≤ 2147483647) ∧ st = [.int v158_30_0] ∧ qW D (va_A [(h0, .inr (12, [.int p2, .ref h1, w0, w1, w2, .int p3, .int p4, .int p5, .int p6, .int p7, .int p8, .int p9, .int p10, .int p11, .int p12, .int p13, .ref h2, .ref h3, w3, w4, w5, .int p14, .int p15, w6, w7, w8, .int p16, .int p17, .ref h4, w9, w10, w11, w12, .int p18, w13, w14, w15])), (h1, .inl (cy 1, 3918, .inl f0)), (h2, .inl (cy 1, 900, .inl f1)), (h3, .inl (cy 1, 11, .inl f2)), (h4, .inl (cy 1, 1000, .inl f3))] sz) s.heap [(h2, .inl (cy 1, 900, .inl v86_27_3)), (h3, .inl (cy 1, 11, .inl v86_27_4)), (h4, .inl (cy 1, 1000, .inl (u_5.2.1 2))), (h0, .inr (12, [.int 0, .ref h1, w0, w1, w2, .int p3, .int p4, .int p5, .int p6, .int p7, .int p8, .int p9, .int p10, .int p11, .int p12, .int p13, .ref h2, .ref h3, w3, w4, w5, .int p14, .int p15, w6, w7, w8, .int p16, .int p17, .ref h4, w9, w10, w11, w12, .int p18, w13, w14, w15])), (h1, .inl (cy 1, 3918, .inl v86_27_2))] H locs ∧ lv_has ls 11 [(0, .ref h0), (1, .int p0), (2, .int p1), (3, .int r_2), (4, .int r_5), (5, .int r_7), (6, .int v42_12_1), (7, .int v42_12_2), (8, .int v42_12_0), (9, .int v86_27_1), (10, .int v86_27_0)]) (fun H locs ls st hP => ?_) (fun J_158 => ?_)
                  · obtain ⟨v158_30_0, hv158_30_0, rfl, h, hl⟩ := hP
                    refine lv_istore (lv' := [(10, .int v158_30_0), (0, .ref h0), (1, .int p0), (2, .int p1), (3, .int r_2), (4, .int r_5), (5, .int r_7), (6, .int v42_12_1), (7, .int v42_12_2), (8, .int v42_12_0), (9, .int v86_27_1)]) hx hb dX12_probe_158 hl (by decide) rfl (fun ls_31 hl_31 => ?_)
                    clear hl
                    refine lv_iload hx hb dX12_probe_160 (lv_at hl_31 0 rfl) ?_
                    refine lv_iload hx hb dX12_probe_162 (lv_at hl_31 8 rfl) ?_
                    refine lv_icmp_gt (tgt := 170) hx hb dX12_probe_164 (by decide) (fun c_32 => ?_) (fun c_32 => ?_)
                    · replace c_32 := i_lt (x := v42_12_2) (y := v158_30_0) rfl rfl c_32
                      refine lv_iload hx hb dX12_probe_170 (lv_at hl_31 9 rfl) ?_
                      refine lv_istore (lv' := [(6, .int v42_12_0), (10, .int v158_30_0), (0, .ref h0), (1, .int p0), (2, .int p1), (3, .int r_2), (4, .int r_5), (5, .int r_7), (7, .int v42_12_2), (8, .int v42_12_0), (9, .int v86_27_1)]) hx hb dX12_probe_172 hl_31 (by decide) rfl (fun ls_33 hl_33 => ?_)
                      clear hl_31
                      refine lv_iload hx hb dX12_probe_174 (lv_at hl_33 1 rfl) ?_
                      refine lv_istore (lv' := [(7, .int v158_30_0), (6, .int v42_12_0), (10, .int v158_30_0), (0, .ref h0), (1, .int p0), (2, .int p1), (3, .int r_2), (4, .int r_5), (5, .int r_7), (8, .int v42_12_0), (9, .int v86_27_1)]) hx hb dX12_probe_176 hl_33 (by decide) rfl (fun ls_34 hl_34 => ?_)
                      clear hl_33
                      exact J_178 _ _ _ _ ⟨v158_30_0, v42_12_0, v86_27_3, v86_27_4, v86_27_2, ⟨by omega, by omega⟩, ⟨by omega, by omega⟩, trv86_27_2_84, rv86_27_2, rfl, h, (lv_sub hl_34 [3, 4, 5, 6, 7, 8, 1, 0, 9] rfl)⟩
                    · replace c_32 := i_nlt (x := v42_12_2) (y := v158_30_0) rfl rfl c_32
                      refine lv_goto (tgt := 178) hx hb dX12_probe_167 (by decide) ?_
                      exact J_178 _ _ _ _ ⟨v42_12_2, v42_12_1, v86_27_3, v86_27_4, v86_27_2, hv42_12_2, hv42_12_1, trv86_27_2_84, rv86_27_2, rfl, h, (lv_sub hl_31 [1, 2, 3, 4, 5, 6, 7, 8, 9] rfl)⟩
                  · skip
                    refine lv_icmp_ge (tgt := 153) hx hb dX12_probe_145 (by decide) (fun c_35 => ?_) (fun c_35 => ?_)
                    · replace c_35 := i_le (x := z_29) (y := v86_27_1) rfl rfl c_35
                      refine lv_iload hx hb dX12_probe_153 (lv_at hl 4 rfl) ?_
                      refine lv_iload hx hb dX12_probe_155 (lv_at hl 9 rfl) ?_
                      refine lv_isub hx hb dX12_probe_157 ?_
                      refine q_any (fun z_36 hz_36 => ?_)
                      exact J_158 _ _ _ _ ⟨z_36, ⟨by omega, by omega⟩, rfl, h, (lv_sub hl [0, 1, 2, 3, 4, 5, 6, 7, 8, 9, 10] rfl)⟩
                    · replace c_35 := i_nle (x := z_29) (y := v86_27_1) rfl rfl c_35
                      refine lv_iload hx hb dX12_probe_148 (lv_at hl 9 rfl) ?_
                      refine lv_goto (tgt := 158) hx hb dX12_probe_150 (by decide) ?_
                      exact J_158 _ _ _ _ ⟨v86_27_1, hv86_27_1, rfl, h, (lv_sub hl [0, 1, 2, 3, 4, 5, 6, 7, 8, 9, 10] rfl)⟩
                · replace c_28 := i_nle (x := r_5) (y := v86_27_0) rfl rfl c_28
                  refine lv_aload_n hx hb dX12_probe_93 rfl (lv_at hl 0 rfl) ?_
                  refine lv_iload_n hx hb dX12_probe_94 rfl (lv_at hl 1 rfl) ?_
                  refine lv_aload_n hx hb dX12_probe_95 rfl (lv_at hl 0 rfl) ?_
                  refine q_get X hK h 3 rfl rfl wf_12 28 (by decide) rfl wm_5_198 dX12_probe_96 ?_
                  refine lv_iload hx hb dX12_probe_99 (lv_at hl 10 rfl) ?_
                  refine q_iald X hK h 2 rfl (i_in rfl (by omega) (by omega)) dX12_probe_101 ?_
                  obtain ⟨z_37, ez_37, hz_37⟩ := rg_get w5_0 (x := v86_27_0) rfl (by omega) (by omega)
                  refine q_c z_37 ez_37 ?_
                  clear ez_37
                  refine q_callVv (rest := []) (wr := [(h2, .inl (cy 1, 900, .inl v86_27_3)), (h3, .inl (cy 1, 11, .inl v86_27_4)), (h4, .inl (cy 1, 1000, .inl (u_5.2.1 2)))]) X hK hT hA h (fun sz => gX12_puts_2de0910 l D cy h0 h1 p0 z_37 (0 : Int32) w0 w1 w2 p3 p4 p5 p6 p7 p8 p9 p10 p11 p12 p13 (.ref h2) (.ref h3) w3 w4 w5 p14 p15 w6 w7 w8 p16 p17 (.ref h4) w9 w10 w11 w12 p18 w13 w14 w15 v86_27_2 p19 ⟨by omega, by omega⟩ ⟨by omega, by omega⟩ ⟨by decide +kernel, by decide +kernel⟩ hp3 hp4 hp5 hp6 (i_rng _) hp8 (i_rng _) (i_rng _) (i_rng _) (i_rng _) (i_rng _) (i_rng _) (i_rng _) (i_rng _) (i_rng _) (i_rng _) hp19 trv86_27_2_84 rv86_27_2 sz) wm_7_176 wm_7_179 wm_1_12 hd_X12_puts wm_7_178 wp_7_11 (ci := 12) (q0 := 0) rfl rfl ⟨Nat.le_of_ble_eq_true rfl, Nat.le_of_ble_eq_true rfl⟩ hl.1 rfl (Nat.le_of_ble_eq_true rfl) dX12_probe_102 ⟨Nat.le_of_ble_eq_true rfl, Nat.le_of_ble_eq_true rfl⟩ [3, 4] [0, 1, 2] rfl rfl (by decide) rfl rfl (fun u_38 H locs w_38 h_38 => ?_)
                  clear h
                  obtain ⟨w38_0, w38_1, _⟩ := w_38
                  replace h_38 : qW D _ _ [(h2, .inl (cy 1, 900, .inl v86_27_3)), (h3, .inl (cy 1, 11, .inl v86_27_4)), (h4, .inl (cy 1, 1000, .inl (u_5.2.1 2))), (h0, .inr (12, [.int 0, .ref h1, w0, w1, w2, .int p3, .int p4, .int p5, .int p6, .int p7, .int p8, .int p9, .int p10, .int p11, .int p12, .int p13, .ref h2, .ref h3, w3, w4, w5, .int p14, .int p15, w6, w7, w8, .int p16, .int p17, .ref h4, w9, w10, w11, w12, .int p18, w13, w14, w15])), (h1, .inl (cy 1, 3918, .inl (u_38.2.1 0)))] _ _ := h_38
                  refine lv_iload hx hb dX12_probe_105 (lv_at hl 9 rfl) ?_
                  refine lv_aload_n hx hb dX12_probe_107 rfl (lv_at hl 0 rfl) ?_
                  refine lv_iload_n hx hb dX12_probe_108 rfl (lv_at hl 1 rfl) ?_
                  refine lv_iload hx hb dX12_probe_109 (lv_at hl 8 rfl) ?_
                  refine lv_aload_n hx hb dX12_probe_111 rfl (lv_at hl 0 rfl) ?_
                  refine q_get X hK h_38 3 rfl rfl wf_12 1 (by decide) rfl wm_5_171 dX12_probe_112 ?_
                  refine lv_bipush (v := 52) hx hb dX12_probe_115 (by decide) ?_
                  refine q_iald X hK h_38 4 rfl (q_in (by decide +kernel)) dX12_probe_117 ?_
                  refine q_any (fun z_39 hz_39 => ?_)
                  refine q_callVi (rest := [.int v86_27_1]) (wr := [(h4, .inl (cy 1, 1000, .inl (u_5.2.1 2)))]) X hK hT hA h_38 (fun sz => gX12_areOpposed_e7e6c1a l D cy h0 h1 h2 h3 p0 v42_12_0 z_39 (0 : Int32) w0 w1 w2 p3 p4 p5 p6 p7 p8 p9 p10 p11 p12 p13 w3 w4 w5 p14 p15 w6 w7 w8 p16 p17 (.ref h4) w9 w10 w11 w12 p18 w13 w14 w15 (u_38.2.1 0) p19 v86_27_3 v86_27_4 ⟨by omega, by omega⟩ ⟨by omega, by omega⟩ (i_rng _) ⟨by decide +kernel, by decide +kernel⟩ hp3 hp4 hp5 hp6 (i_rng _) hp8 (i_rng _) (i_rng _) (i_rng _) (i_rng _) (i_rng _) (i_rng _) (i_rng _) (i_rng _) (i_rng _) (i_rng _) hp19 w38_1 w38_0 sz) wm_6_187 wm_6_190 wm_1_12 hd_X12_areOpposed wm_6_189 wp_5_11 (ci := 12) (q0 := 0) rfl rfl ⟨Nat.le_of_ble_eq_true rfl, Nat.le_of_ble_eq_true rfl⟩ hl.1 rfl (Nat.le_of_ble_eq_true rfl) dX12_probe_118 ⟨Nat.le_of_ble_eq_true rfl, Nat.le_of_ble_eq_true rfl⟩ [3, 4, 0, 1] [2] rfl rfl (by decide) rfl rfl (fun r_40 u_40 H locs w_40 h_40 => ?_)
                  clear h_38
                  obtain ⟨wr_40, _⟩ := w_40
                  replace h_40 : qW D _ _ [(h4, .inl (cy 1, 1000, .inl (u_5.2.1 2))), (h0, .inr (12, [.int 0, .ref h1, w0, w1, w2, .int p3, .int p4, .int p5, .int p6, .int p7, .int p8, .int p9, .int p10, .int p11, .int p12, .int p13, .ref h2, .ref h3, w3, w4, w5, .int p14, .int p15, w6, w7, w8, .int p16, .int p17, .ref h4, w9, w10, w11, w12, .int p18, w13, w14, w15])), (h1, .inl (cy 1, 3918, .inl (u_38.2.1 0))), (h2, .inl (cy 1, 900, .inl (u_40.2.1 0))), (h3, .inl (cy 1, 11, .inl (u_40.2.1 1)))] _ _ := h_40
                  refine q_jn (pc2 := 129) (fun H locs ls st => ∃ v129_41_0 : Int32, (0 ≤ (v129_41_0).toInt ∧ (v129_41_0).toInt ≤ 1) ∧ st = [.int v129_41_0, .int v86_27_1] ∧ qW D (va_A [(h0, .inr (12, [.int p2, .ref h1, w0, w1, w2, .int p3, .int p4, .int p5, .int p6, .int p7, .int p8, .int p9, .int p10, .int p11, .int p12, .int p13, .ref h2, .ref h3, w3, w4, w5, .int p14, .int p15, w6, w7, w8, .int p16, .int p17, .ref h4, w9, w10, w11, w12, .int p18, w13, w14, w15])), (h1, .inl (cy 1, 3918, .inl f0)), (h2, .inl (cy 1, 900, .inl f1)), (h3, .inl (cy 1, 11, .inl f2)), (h4, .inl (cy 1, 1000, .inl f3))] sz) s.heap [(h4, .inl (cy 1, 1000, .inl (u_5.2.1 2))), (h0, .inr (12, [.int 0, .ref h1, w0, w1, w2, .int p3, .int p4, .int p5, .int p6, .int p7, .int p8, .int p9, .int p10, .int p11, .int p12, .int p13, .ref h2, .ref h3, w3, w4, w5, .int p14, .int p15, w6, w7, w8, .int p16, .int p17, .ref h4, w9, w10, w11, w12, .int p18, w13, w14, w15])), (h1, .inl (cy 1, 3918, .inl (u_38.2.1 0))), (h2, .inl (cy 1, 900, .inl (u_40.2.1 0))), (h3, .inl (cy 1, 11, .inl (u_40.2.1 1)))] H locs ∧ lv_has ls 11 [(0, .ref h0), (1, .int p0), (2, .int p1), (3, .int r_2), (4, .int r_5), (5, .int r_7), (6, .int v42_12_1), (7, .int v42_12_2), (8, .int v42_12_0), (9, .int v86_27_1), (10, .int v86_27_0)]) (fun H locs ls st hP => ?_) (fun J_129 => ?_)
                  · obtain ⟨v129_41_0, hv129_41_0, rfl, h, hl⟩ := hP
                    refine lv_iadd hx hb dX12_probe_129 ?_
                    refine q_any (fun z_42 hz_42 => ?_)
                    refine lv_istore (lv' := [(9, .int z_42), (0, .ref h0), (1, .int p0), (2, .int p1), (3, .int r_2), (4, .int r_5), (5, .int r_7), (6, .int v42_12_1), (7, .int v42_12_2), (8, .int v42_12_0), (10, .int v86_27_0)]) hx hb dX12_probe_130 hl (by decide) rfl (fun ls_43 hl_43 => ?_)
                    clear hl
                    obtain ⟨z_44, ez_44, hz_44⟩ := e_add (x := v86_27_0) (y := Int32.ofInt 1) rfl (b := 1) (by decide) (by omega) (by omega)
                    refine lv_iinc (v := z_44) (lv' := [(10, .int z_44), (9, .int z_42), (0, .ref h0), (1, .int p0), (2, .int p1), (3, .int r_2), (4, .int r_5), (5, .int r_7), (6, .int v42_12_1), (7, .int v42_12_2), (8, .int v42_12_0)]) hx hb dX12_probe_132 hl_43 (k := 10) rfl ez_44 (by decide) rfl (fun ls_44 hl_44 => ?_)
                    clear hl_43
                    refine lv_goto (tgt := 86) hx hb dX12_probe_135 (by decide) ?_
                    exact ih_86 (z_44, z_42) (by show (1001 - (z_44).toInt).toNat < (1001 - (v86_27_0).toInt).toNat; omega) _ _ _ ⟨(u_38.2.1 0), (u_40.2.1 0), (u_40.2.1 1), ⟨by omega, by omega⟩, ⟨by omega, by omega⟩, w38_1, w38_0, (q_re h [3, 4, 0, 1, 2] rfl rfl), (lv_sub hl_44 [2, 3, 4, 5, 6, 7, 8, 9, 10, 1, 0] rfl)⟩
                  · skip
                    refine lv_if_eq (tgt := 128) hx hb dX12_probe_121 (by decide) (fun c_45 => ?_) (fun c_45 => ?_)
                    · replace c_45 := i_eq (x := r_40) (y := 0) rfl (show (0 : Int32).toInt = 0 by decide) c_45
                      refine lv_iconst (v := 0) hx hb dX12_probe_128 (by decide) ?_
                      exact J_129 _ _ _ _ ⟨0, ⟨by decide +kernel, by decide +kernel⟩, rfl, h_40, (lv_sub hl [0, 1, 2, 3, 4, 5, 6, 7, 8, 9, 10] rfl)⟩
                    · replace c_45 := i_ne (x := r_40) (y := 0) rfl (show (0 : Int32).toInt = 0 by decide) c_45
                      refine lv_iconst (v := 1) hx hb dX12_probe_124 (by decide) ?_
                      refine lv_goto (tgt := 129) hx hb dX12_probe_125 (by decide) ?_
                      exact J_129 _ _ _ _ ⟨1, ⟨by decide +kernel, by decide +kernel⟩, rfl, h_40, (lv_sub hl [0, 1, 2, 3, 4, 5, 6, 7, 8, 9, 10] rfl)⟩
              · replace c_24 := i_ne (x := r_23) (y := 0) rfl (show (0 : Int32).toInt = 0 by decide) c_24
                refine lv_goto (tgt := 178) hx hb dX12_probe_77 (by decide) ?_
                exact J_178 _ _ _ _ ⟨v42_12_2, v42_12_1, v42_12_3, v42_12_4, v42_12_5, hv42_12_2, hv42_12_1, trv42_12_5_84, rv42_12_5, rfl, h_23, (lv_sub hl [0, 1, 2, 3, 4, 5, 6, 7, 8] rfl)⟩
  · replace c_4 := i_ne (x := r_2) (y := 0) rfl (show (0 : Int32).toInt = 0 by decide) c_4
    refine lv_iload_n hx hb dX12_probe_16 rfl (lv_at hl_3 0 rfl) ?_
    exact q_iret X hr hlk hK h_2 rfl (fun _ => 0, fun k => List.getD [f1, f2, f3, (fun _ => 0), f0] k (fun _ => 0), fun _ _ => 0) ⟨(bw wr_2 (by decide) (by decide)), (rg_wide rf3 (by decide) (by decide)), (⟨by decide +kernel, by decide +kernel⟩ : 0 ≤ (0 : Int32).toInt ∧ (0 : Int32).toInt ≤ 0), rf0, htf0_84, trivial⟩ [3, 4, 0, 1, 2] rfl rfl dX12_probe_17 (Nat.le_of_ble_eq_true rfl) (Nat.le_of_ble_eq_true rfl)
set_option maxHeartbeats 4000000 in
set_option maxRecDepth 100000 in
theorem gX12_chanceOf_39433c5 (l : Launch) (D : va_G) (cy : Nat → ClassId) (h0 : Nat) (h1 : Nat) (h2 : Nat) (p0 : Int32) (p1 : Int32) (w0 : Value) (w1 : Value) (w2 : Value) (p2 : Int32) (p3 : Int32) (p4 : Int32) (p5 : Int32) (p6 : Int32) (p7 : Int32) (p8 : Int32) (p9 : Int32) (p10 : Int32) (p11 : Int32) (p12 : Int32) (w3 : Value) (w4 : Value) (w5 : Value) (w6 : Value) (w7 : Value) (p13 : Int32) (p14 : Int32) (w8 : Value) (w9 : Value) (p15 : Int32) (p16 : Int32) (w10 : Value) (w11 : Value) (w12 : Value) (w13 : Value) (w14 : Value) (p17 : Int32) (w15 : Value) (w16 : Value) (w17 : Value) (f0 : Nat → Int32) (p18 : Int32) (f1 : Nat → Int32) (hp0 : 0 ≤ (p0).toInt ∧ (p0).toInt ≤ 1023) (hp1 : 0 ≤ (p1).toInt ∧ (p1).toInt ≤ 0) (hp2 : 0 ≤ (p2).toInt ∧ (p2).toInt ≤ 900) (hp3 : 0 ≤ (p3).toInt ∧ (p3).toInt ≤ 900) (hp4 : 0 ≤ (p4).toInt ∧ (p4).toInt ≤ 900) (hp5 : 0 ≤ (p5).toInt ∧ (p5).toInt ≤ 900) (hp6 : (-2147483648) ≤ (p6).toInt ∧ (p6).toInt ≤ 2147483647) (hp7 : 0 ≤ (p7).toInt ∧ (p7).toInt ≤ 999) (hp8 : (-2147483648) ≤ (p8).toInt ∧ (p8).toInt ≤ 2147483647) (hp9 : (-2147483648) ≤ (p9).toInt ∧ (p9).toInt ≤ 2147483647) (hp10 : (-2147483648) ≤ (p10).toInt ∧ (p10).toInt ≤ 2147483647) (hp11 : (-2147483648) ≤ (p11).toInt ∧ (p11).toInt ≤ 2147483647) (hp12 : (-2147483648) ≤ (p12).toInt ∧ (p12).toInt ≤ 2147483647) (hp13 : (-2147483648) ≤ (p13).toInt ∧ (p13).toInt ≤ 2147483647) (hp14 : (-2147483648) ≤ (p14).toInt ∧ (p14).toInt ≤ 2147483647) (hp15 : (-2147483648) ≤ (p15).toInt ∧ (p15).toInt ≤ 2147483647) (hp16 : (-2147483648) ≤ (p16).toInt ∧ (p16).toInt ≤ 2147483647) (hp17 : (-2147483648) ≤ (p17).toInt ∧ (p17).toInt ≤ 2147483647) (hp18 : 0 ≤ (p18).toInt ∧ (p18).toInt ≤ 10) (htf0_84 : f0 84 = p18) (rf0 : AL f0) (sz : Nat) : ML l yX12_chanceOf cX12_chanceOf 8 { frames := 1, cells := 0, slots := 0, locals := 22 } [.ref h0, .int p0] D cy [(h0, .inr (12, [.int p1, .ref h1, w0, w1, w2, .int p2, .int p3, .int p4, .int p5, .int p6, .int p7, .int p8, .int p9, .int p10, .int p11, .int p12, w3, w4, w5, w6, w7, .int p13, .int p14, .ref h2, w8, w9, .int p15, .int p16, w10, w11, w12, w13, w14, .int p17, w15, w16, w17])), (h1, .inl (cy 1, 3918, .inl f0)), (h2, .inl (cy 1, 1024, .inl f1))] sz (fun r u => ((-9223372036854775808) ≤ r.toInt ∧ r.toInt ≤ 9223372036854775807) ∧ True) (fun u => [(h0, .inr (12, [.int p1, .ref h1, w0, w1, w2, .int p2, .int p3, .int p4, .int p5, .int p6, .int p7, .int p8, .int p9, .int p10, .int p11, .int p12, w3, w4, w5, w6, w7, .int p13, .int p14, .ref h2, w8, w9, .int p15, .int p16, w10, w11, w12, w13, w14, .int p17, w15, w16, w17])), (h1, .inl (cy 1, 3918, .inl f0)), (h2, .inl (cy 1, 1024, .inl f1))]) 0 0 := by
  refine q_ent (own := RX12) (by decide) rfl (Nat.le_of_ble_eq_true rfl) (fun p e s m below meth c ls X hr hlk hnm hK hT h hA hl => ?_)
  obtain ⟨hx, hb, hml, hown, ht⟩ := id X
  replace hl : lv_has ls 8 [(0, .ref h0), (1, .int p0)] := hl
  refine lv_lconst (v := 0) hx hb dX12_chanceOf_0 (by decide) ?_
  refine lv_lstore_n (lv' := [(2, .long 0), (0, .ref h0), (1, .int p0)]) hx hb dX12_chanceOf_1 rfl hl (by decide) rfl (fun ls_1 hl_1 => ?_)
  clear hl
  refine lv_iconst (v := 0) hx hb dX12_chanceOf_2 (by decide) ?_
  refine lv_istore (lv' := [(4, .int 0), (2, .long 0), (0, .ref h0), (1, .int p0)]) hx hb dX12_chanceOf_3 hl_1 (by decide) rfl (fun ls_2 hl_2 => ?_)
  clear hl_1
  refine q_wl (fun (q : Int32 × Int64) H locs ls => match q with | (v5_3_0, v5_3_1) => (0 ≤ (v5_3_0).toInt ∧ (v5_3_0).toInt ≤ 1024) ∧ ((-9223372036854775808) ≤ (v5_3_1).toInt ∧ (v5_3_1).toInt ≤ 9223372036854775807) ∧ qW D (va_A [(h0, .inr (12, [.int p1, .ref h1, w0, w1, w2, .int p2, .int p3, .int p4, .int p5, .int p6, .int p7, .int p8, .int p9, .int p10, .int p11, .int p12, w3, w4, w5, w6, w7, .int p13, .int p14, .ref h2, w8, w9, .int p15, .int p16, w10, w11, w12, w13, w14, .int p17, w15, w16, w17])), (h1, .inl (cy 1, 3918, .inl f0)), (h2, .inl (cy 1, 1024, .inl f1))] sz) s.heap [(h0, .inr (12, [.int p1, .ref h1, w0, w1, w2, .int p2, .int p3, .int p4, .int p5, .int p6, .int p7, .int p8, .int p9, .int p10, .int p11, .int p12, w3, w4, w5, w6, w7, .int p13, .int p14, .ref h2, w8, w9, .int p15, .int p16, w10, w11, w12, w13, w14, .int p17, w15, w16, w17])), (h1, .inl (cy 1, 3918, .inl f0)), (h2, .inl (cy 1, 1024, .inl f1))] H locs ∧ lv_has ls 8 [(0, .ref h0), (1, .int p0), (2, .long v5_3_1), (4, .int v5_3_0)]) (fun (q : Int32 × Int64) => match q with | (v5_3_0, v5_3_1) => (1025 - (v5_3_0).toInt).toNat) (fun q_5 ih_5 H locs ls hP => ?_) (0, 0) ⟨⟨by decide +kernel, by decide +kernel⟩, ⟨by decide +kernel, by decide +kernel⟩, h, (lv_sub hl_2 [2, 3, 1, 0] rfl)⟩
  obtain ⟨v5_3_0, v5_3_1⟩ := q_5
  obtain ⟨hv5_3_0, hv5_3_1, h, hl⟩ := hP
  refine lv_iload hx hb dX12_chanceOf_5 (lv_at hl 3 rfl) ?_
  refine lv_iload_n hx hb dX12_chanceOf_7 rfl (lv_at hl 1 rfl) ?_
  refine lv_icmp_gt (tgt := 121) hx hb dX12_chanceOf_8 (by decide) (fun c_4 => ?_) (fun c_4 => ?_)
  · replace c_4 := i_lt (x := p0) (y := v5_3_0) rfl rfl c_4
    refine lv_lload_n hx hb dX12_chanceOf_121 rfl (lv_at hl 2 rfl) ?_
    exact q_lret X hr hlk hK h (fun _ => 0, fun _ _ => 0, fun _ _ => 0) ⟨hv5_3_1, trivial⟩ [0, 1, 2] rfl rfl dX12_chanceOf_122 (Nat.le_of_ble_eq_true rfl) (Nat.le_of_ble_eq_true rfl)
  · replace c_4 := i_nlt (x := p0) (y := v5_3_0) rfl rfl c_4
    refine lv_iload hx hb dX12_chanceOf_11 (lv_at hl 3 rfl) ?_
    refine lv_iload_n hx hb dX12_chanceOf_13 rfl (lv_at hl 1 rfl) ?_
    refine lv_iconst (v := (-1)) hx hb dX12_chanceOf_14 (by decide) ?_
    refine lv_ixor hx hb dX12_chanceOf_15 ?_
    refine q_any (fun z_5 hz_5 => ?_)
    refine lv_iand hx hb dX12_chanceOf_16 ?_
    obtain ⟨z_6, ez_6, hz_6⟩ := e_and1 (x := v5_3_0) (y := z_5) rfl (by omega)
    refine q_c z_6 ez_6 ?_
    clear ez_6
    refine q_jn (pc2 := 115) (fun H locs ls st => ∃ v115_7_0 : Int64, ((-9223372036854775808) ≤ (v115_7_0).toInt ∧ (v115_7_0).toInt ≤ 9223372036854775807) ∧ st = [] ∧ qW D (va_A [(h0, .inr (12, [.int p1, .ref h1, w0, w1, w2, .int p2, .int p3, .int p4, .int p5, .int p6, .int p7, .int p8, .int p9, .int p10, .int p11, .int p12, w3, w4, w5, w6, w7, .int p13, .int p14, .ref h2, w8, w9, .int p15, .int p16, w10, w11, w12, w13, w14, .int p17, w15, w16, w17])), (h1, .inl (cy 1, 3918, .inl f0)), (h2, .inl (cy 1, 1024, .inl f1))] sz) s.heap [(h0, .inr (12, [.int p1, .ref h1, w0, w1, w2, .int p2, .int p3, .int p4, .int p5, .int p6, .int p7, .int p8, .int p9, .int p10, .int p11, .int p12, w3, w4, w5, w6, w7, .int p13, .int p14, .ref h2, w8, w9, .int p15, .int p16, w10, w11, w12, w13, w14, .int p17, w15, w16, w17])), (h1, .inl (cy 1, 3918, .inl f0)), (h2, .inl (cy 1, 1024, .inl f1))] H locs ∧ lv_has ls 8 [(0, .ref h0), (1, .int p0), (2, .long v115_7_0), (4, .int v5_3_0)]) (fun H locs ls st hP => ?_) (fun J_115 => ?_)
    · obtain ⟨v115_7_0, hv115_7_0, rfl, h, hl⟩ := hP
      obtain ⟨z_8, ez_8, hz_8⟩ := e_add (x := v5_3_0) (y := Int32.ofInt 1) rfl (b := 1) (by decide) (by omega) (by omega)
      refine lv_iinc (v := z_8) (lv' := [(4, .int z_8), (0, .ref h0), (1, .int p0), (2, .long v115_7_0)]) hx hb dX12_chanceOf_115 hl (k := 3) rfl ez_8 (by decide) rfl (fun ls_8 hl_8 => ?_)
      clear hl
      refine lv_goto (tgt := 5) hx hb dX12_chanceOf_118 (by decide) ?_
      exact ih_5 (z_8, v115_7_0) (by show (1025 - (z_8).toInt).toNat < (1025 - (v5_3_0).toInt).toNat; omega) _ _ _ ⟨⟨by omega, by omega⟩, hv115_7_0, h, (lv_sub hl_8 [1, 2, 3, 0] rfl)⟩
    · skip
      refine lv_if_ne (tgt := 115) hx hb dX12_chanceOf_17 (by decide) (fun c_9 => ?_) (fun c_9 => ?_)
      · replace c_9 := i_ne (x := z_6) (y := 0) rfl (show (0 : Int32).toInt = 0 by decide) c_9
        exact J_115 _ _ _ _ ⟨v5_3_1, hv5_3_1, rfl, h, (lv_sub hl [0, 1, 2, 3] rfl)⟩
      · replace c_9 := i_eq (x := z_6) (y := 0) rfl (show (0 : Int32).toInt = 0 by decide) c_9
        refine lv_aload_n hx hb dX12_chanceOf_20 rfl (lv_at hl 0 rfl) ?_
        refine q_get X hK h 0 rfl rfl wf_12 23 (by decide) rfl wm_5_193 dX12_chanceOf_21 ?_
        refine lv_iload hx hb dX12_chanceOf_24 (lv_at hl 3 rfl) ?_
        refine q_iald X hK h 2 rfl (i_in rfl (by omega) (by omega)) dX12_chanceOf_26 ?_
        refine q_any (fun z_10 hz_10 => ?_)
        refine lv_if_ne (tgt := 33) hx hb dX12_chanceOf_27 (by decide) (fun c_11 => ?_) (fun c_11 => ?_)
        · replace c_11 := i_ne (x := z_10) (y := 0) rfl (show (0 : Int32).toInt = 0 by decide) c_11
          refine lv_lconst (v := 1) hx hb dX12_chanceOf_33 (by decide) ?_
          refine lv_lstore (lv' := [(5, .long 1), (0, .ref h0), (1, .int p0), (2, .long v5_3_1), (4, .int v5_3_0)]) hx hb dX12_chanceOf_34 hl (by decide) rfl (fun ls_12 hl_12 => ?_)
          clear hl
          refine lv_iconst (v := 0) hx hb dX12_chanceOf_36 (by decide) ?_
          refine lv_istore (lv' := [(7, .int 0), (5, .long 1), (0, .ref h0), (1, .int p0), (2, .long v5_3_1), (4, .int v5_3_0)]) hx hb dX12_chanceOf_37 hl_12 (by decide) rfl (fun ls_13 hl_13 => ?_)
          clear hl_12
          refine q_wl (fun (q : Int32 × Int64) H locs ls => match q with | (v39_14_0, v39_14_1) => (0 ≤ (v39_14_0).toInt ∧ (v39_14_0).toInt ≤ 10) ∧ ((-9223372036854775808) ≤ (v39_14_1).toInt ∧ (v39_14_1).toInt ≤ 9223372036854775807) ∧ qW D (va_A [(h0, .inr (12, [.int p1, .ref h1, w0, w1, w2, .int p2, .int p3, .int p4, .int p5, .int p6, .int p7, .int p8, .int p9, .int p10, .int p11, .int p12, w3, w4, w5, w6, w7, .int p13, .int p14, .ref h2, w8, w9, .int p15, .int p16, w10, w11, w12, w13, w14, .int p17, w15, w16, w17])), (h1, .inl (cy 1, 3918, .inl f0)), (h2, .inl (cy 1, 1024, .inl f1))] sz) s.heap [(h0, .inr (12, [.int p1, .ref h1, w0, w1, w2, .int p2, .int p3, .int p4, .int p5, .int p6, .int p7, .int p8, .int p9, .int p10, .int p11, .int p12, w3, w4, w5, w6, w7, .int p13, .int p14, .ref h2, w8, w9, .int p15, .int p16, w10, w11, w12, w13, w14, .int p17, w15, w16, w17])), (h1, .inl (cy 1, 3918, .inl f0)), (h2, .inl (cy 1, 1024, .inl f1))] H locs ∧ lv_has ls 8 [(0, .ref h0), (1, .int p0), (2, .long v5_3_1), (4, .int v5_3_0), (5, .long v39_14_1), (7, .int v39_14_0)]) (fun (q : Int32 × Int64) => match q with | (v39_14_0, v39_14_1) => (11 - (v39_14_0).toInt).toNat) (fun q_39 ih_39 H locs ls hP => ?_) (0, 1) ⟨⟨by decide +kernel, by decide +kernel⟩, ⟨by decide +kernel, by decide +kernel⟩, h, (lv_sub hl_13 [2, 3, 4, 5, 1, 0] rfl)⟩
          obtain ⟨v39_14_0, v39_14_1⟩ := q_39
          obtain ⟨hv39_14_0, hv39_14_1, h, hl⟩ := hP
          refine lv_iload hx hb dX12_chanceOf_39 (lv_at hl 5 rfl) ?_
          refine lv_aload_n hx hb dX12_chanceOf_41 rfl (lv_at hl 0 rfl) ?_
          refine q_get X hK h 0 rfl rfl wf_12 1 (by decide) rfl wm_5_171 dX12_chanceOf_42 ?_
          refine lv_iconst (v := 2) hx hb dX12_chanceOf_45 (by decide) ?_
          refine q_iald X hK h 1 rfl (q_in (by decide +kernel)) dX12_chanceOf_46 ?_
          obtain ⟨z_15, ez_15, hz_15⟩ := al_P rf0 (x := 2) (show (2 : Int32).toInt = 2 by decide) (by omega) (by omega)
          refine q_c z_15 ez_15 ?_
          clear ez_15
          refine lv_icmp_ge (tgt := 110) hx hb dX12_chanceOf_47 (by decide) (fun c_16 => ?_) (fun c_16 => ?_)
          · replace c_16 := i_le (x := z_15) (y := v39_14_0) rfl rfl c_16
            refine lv_lload_n hx hb dX12_chanceOf_110 rfl (lv_at hl 2 rfl) ?_
            refine lv_lload hx hb dX12_chanceOf_111 (lv_at hl 4 rfl) ?_
            refine lv_ladd hx hb dX12_chanceOf_113 ?_
            refine q_anyJ (fun z_17 hz_17 => ?_)
            refine lv_lstore_n (lv' := [(2, .long z_17), (0, .ref h0), (1, .int p0), (4, .int v5_3_0), (5, .long v39_14_1), (7, .int v39_14_0)]) hx hb dX12_chanceOf_114 rfl hl (by decide) rfl (fun ls_18 hl_18 => ?_)
            clear hl
            exact J_115 _ _ _ _ ⟨z_17, ⟨by omega, by omega⟩, rfl, h, (lv_sub hl_18 [1, 2, 0, 3] rfl)⟩
          · replace c_16 := i_nle (x := z_15) (y := v39_14_0) rfl rfl c_16
            refine lv_iload_n hx hb dX12_chanceOf_50 rfl (lv_at hl 1 rfl) ?_
            refine lv_i2l hx hb dX12_chanceOf_51 rfl ?_
            obtain ⟨z_19, ez_19, hz_19⟩ := e_i2l (x := p0) rfl
            refine q_cl z_19 ez_19 ?_
            clear ez_19
            refine lv_iload hx hb dX12_chanceOf_52 (lv_at hl 5 rfl) ?_
            refine q_callSi (rest := []) (wr := [(h0, .inr (12, [.int p1, .ref h1, w0, w1, w2, .int p2, .int p3, .int p4, .int p5, .int p6, .int p7, .int p8, .int p9, .int p10, .int p11, .int p12, w3, w4, w5, w6, w7, .int p13, .int p14, .ref h2, w8, w9, .int p15, .int p16, w10, w11, w12, w13, w14, .int p17, w15, w16, w17])), (h1, .inl (cy 1, 3918, .inl f0)), (h2, .inl (cy 1, 1024, .inl f1))]) X hK hT hA h (fun sz => gX12_isIn_b0455a8 l D cy z_19 v39_14_0 ⟨by omega, by omega⟩ ⟨by omega, by omega⟩ sz) wm_6_167 wm_6_169 wm_1_12 hd_X12_isIn wm_6_168 ⟨Nat.le_of_ble_eq_true rfl, Nat.le_of_ble_eq_true rfl⟩ hl.1 rfl (Nat.le_of_ble_eq_true rfl) dX12_chanceOf_54 ⟨Nat.le_of_ble_eq_true rfl, Nat.le_of_ble_eq_true rfl⟩ [] [0, 1, 2] rfl rfl (by decide) rfl rfl (fun r_20 u_20 H locs w_20 h_20 => ?_)
            clear h
            obtain ⟨wr_20, _⟩ := w_20
            replace h_20 : qW D _ _ [(h0, .inr (12, [.int p1, .ref h1, w0, w1, w2, .int p2, .int p3, .int p4, .int p5, .int p6, .int p7, .int p8, .int p9, .int p10, .int p11, .int p12, w3, w4, w5, w6, w7, .int p13, .int p14, .ref h2, w8, w9, .int p15, .int p16, w10, w11, w12, w13, w14, .int p17, w15, w16, w17])), (h1, .inl (cy 1, 3918, .inl f0)), (h2, .inl (cy 1, 1024, .inl f1))] _ _ := h_20
            refine q_jn (pc2 := 104) (fun H locs ls st => ∃ v104_21_0 : Int64, ((-9223372036854775808) ≤ (v104_21_0).toInt ∧ (v104_21_0).toInt ≤ 9223372036854775807) ∧ st = [] ∧ qW D (va_A [(h0, .inr (12, [.int p1, .ref h1, w0, w1, w2, .int p2, .int p3, .int p4, .int p5, .int p6, .int p7, .int p8, .int p9, .int p10, .int p11, .int p12, w3, w4, w5, w6, w7, .int p13, .int p14, .ref h2, w8, w9, .int p15, .int p16, w10, w11, w12, w13, w14, .int p17, w15, w16, w17])), (h1, .inl (cy 1, 3918, .inl f0)), (h2, .inl (cy 1, 1024, .inl f1))] sz) s.heap [(h0, .inr (12, [.int p1, .ref h1, w0, w1, w2, .int p2, .int p3, .int p4, .int p5, .int p6, .int p7, .int p8, .int p9, .int p10, .int p11, .int p12, w3, w4, w5, w6, w7, .int p13, .int p14, .ref h2, w8, w9, .int p15, .int p16, w10, w11, w12, w13, w14, .int p17, w15, w16, w17])), (h1, .inl (cy 1, 3918, .inl f0)), (h2, .inl (cy 1, 1024, .inl f1))] H locs ∧ lv_has ls 8 [(0, .ref h0), (1, .int p0), (2, .long v5_3_1), (4, .int v5_3_0), (5, .long v104_21_0), (7, .int v39_14_0)]) (fun H locs ls st hP => ?_) (fun J_104 => ?_)
            · obtain ⟨v104_21_0, hv104_21_0, rfl, h, hl⟩ := hP
              obtain ⟨z_22, ez_22, hz_22⟩ := e_add (x := v39_14_0) (y := Int32.ofInt 1) rfl (b := 1) (by decide) (by omega) (by omega)
              refine lv_iinc (v := z_22) (lv' := [(7, .int z_22), (0, .ref h0), (1, .int p0), (2, .long v5_3_1), (4, .int v5_3_0), (5, .long v104_21_0)]) hx hb dX12_chanceOf_104 hl (k := 5) rfl ez_22 (by decide) rfl (fun ls_22 hl_22 => ?_)
              clear hl
              refine lv_goto (tgt := 39) hx hb dX12_chanceOf_107 (by decide) ?_
              exact ih_39 (z_22, v104_21_0) (by show (11 - (z_22).toInt).toNat < (11 - (v39_14_0).toInt).toNat; omega) _ _ _ ⟨⟨by omega, by omega⟩, hv104_21_0, h, (lv_sub hl_22 [1, 2, 3, 4, 5, 0] rfl)⟩
            · skip
              refine lv_if_eq (tgt := 104) hx hb dX12_chanceOf_57 (by decide) (fun c_23 => ?_) (fun c_23 => ?_)
              · replace c_23 := i_eq (x := r_20) (y := 0) rfl (show (0 : Int32).toInt = 0 by decide) c_23
                exact J_104 _ _ _ _ ⟨v39_14_1, hv39_14_1, rfl, h_20, (lv_sub hl [0, 1, 2, 3, 4, 5] rfl)⟩
              · replace c_23 := i_ne (x := r_20) (y := 0) rfl (show (0 : Int32).toInt = 0 by decide) c_23
                refine lv_lload hx hb dX12_chanceOf_60 (lv_at hl 4 rfl) ?_
                refine lv_iload hx hb dX12_chanceOf_62 (lv_at hl 3 rfl) ?_
                refine lv_i2l hx hb dX12_chanceOf_64 rfl ?_
                obtain ⟨z_24, ez_24, hz_24⟩ := e_i2l (x := v5_3_0) rfl
                refine q_cl z_24 ez_24 ?_
                clear ez_24
                refine lv_iload hx hb dX12_chanceOf_65 (lv_at hl 5 rfl) ?_
                refine q_callSi (rest := [.long v39_14_1]) (wr := [(h0, .inr (12, [.int p1, .ref h1, w0, w1, w2, .int p2, .int p3, .int p4, .int p5, .int p6, .int p7, .int p8, .int p9, .int p10, .int p11, .int p12, w3, w4, w5, w6, w7, .int p13, .int p14, .ref h2, w8, w9, .int p15, .int p16, w10, w11, w12, w13, w14, .int p17, w15, w16, w17])), (h1, .inl (cy 1, 3918, .inl f0)), (h2, .inl (cy 1, 1024, .inl f1))]) X hK hT hA h_20 (fun sz => gX12_isIn_b0455a8 l D cy z_24 v39_14_0 ⟨by omega, by omega⟩ ⟨by omega, by omega⟩ sz) wm_6_167 wm_6_169 wm_1_12 hd_X12_isIn wm_6_168 ⟨Nat.le_of_ble_eq_true rfl, Nat.le_of_ble_eq_true rfl⟩ hl.1 rfl (Nat.le_of_ble_eq_true rfl) dX12_chanceOf_67 ⟨Nat.le_of_ble_eq_true rfl, Nat.le_of_ble_eq_true rfl⟩ [] [0, 1, 2] rfl rfl (by decide) rfl rfl (fun r_25 u_25 H locs w_25 h_25 => ?_)
                clear h_20
                obtain ⟨wr_25, _⟩ := w_25
                replace h_25 : qW D _ _ [(h0, .inr (12, [.int p1, .ref h1, w0, w1, w2, .int p2, .int p3, .int p4, .int p5, .int p6, .int p7, .int p8, .int p9, .int p10, .int p11, .int p12, w3, w4, w5, w6, w7, .int p13, .int p14, .ref h2, w8, w9, .int p15, .int p16, w10, w11, w12, w13, w14, .int p17, w15, w16, w17])), (h1, .inl (cy 1, 3918, .inl f0)), (h2, .inl (cy 1, 1024, .inl f1))] _ _ := h_25
                refine q_jn (pc2 := 101) (fun H locs ls st => ∃ v101_26_0 : Int64, ((-2147483648) ≤ (v101_26_0).toInt ∧ (v101_26_0).toInt ≤ 2147483647) ∧ st = [.long v101_26_0, .long v39_14_1] ∧ qW D (va_A [(h0, .inr (12, [.int p1, .ref h1, w0, w1, w2, .int p2, .int p3, .int p4, .int p5, .int p6, .int p7, .int p8, .int p9, .int p10, .int p11, .int p12, w3, w4, w5, w6, w7, .int p13, .int p14, .ref h2, w8, w9, .int p15, .int p16, w10, w11, w12, w13, w14, .int p17, w15, w16, w17])), (h1, .inl (cy 1, 3918, .inl f0)), (h2, .inl (cy 1, 1024, .inl f1))] sz) s.heap [(h0, .inr (12, [.int p1, .ref h1, w0, w1, w2, .int p2, .int p3, .int p4, .int p5, .int p6, .int p7, .int p8, .int p9, .int p10, .int p11, .int p12, w3, w4, w5, w6, w7, .int p13, .int p14, .ref h2, w8, w9, .int p15, .int p16, w10, w11, w12, w13, w14, .int p17, w15, w16, w17])), (h1, .inl (cy 1, 3918, .inl f0)), (h2, .inl (cy 1, 1024, .inl f1))] H locs ∧ lv_has ls 8 [(0, .ref h0), (1, .int p0), (2, .long v5_3_1), (4, .int v5_3_0), (5, .long v39_14_1), (7, .int v39_14_0)]) (fun H locs ls st hP => ?_) (fun J_101 => ?_)
                · obtain ⟨v101_26_0, hv101_26_0, rfl, h, hl⟩ := hP
                  refine lv_lmul hx hb dX12_chanceOf_101 ?_
                  refine q_anyJ (fun z_27 hz_27 => ?_)
                  refine lv_lstore (lv' := [(5, .long z_27), (0, .ref h0), (1, .int p0), (2, .long v5_3_1), (4, .int v5_3_0), (7, .int v39_14_0)]) hx hb dX12_chanceOf_102 hl (by decide) rfl (fun ls_28 hl_28 => ?_)
                  clear hl
                  exact J_104 _ _ _ _ ⟨z_27, ⟨by omega, by omega⟩, rfl, h, (lv_sub hl_28 [1, 2, 3, 4, 0, 5] rfl)⟩
                · skip
                  refine lv_if_eq (tgt := 87) hx hb dX12_chanceOf_70 (by decide) (fun c_29 => ?_) (fun c_29 => ?_)
                  · replace c_29 := i_eq (x := r_25) (y := 0) rfl (show (0 : Int32).toInt = 0 by decide) c_29
                    refine lv_bipush (v := 10) hx hb dX12_chanceOf_87 (by decide) ?_
                    refine lv_aload_n hx hb dX12_chanceOf_89 rfl (lv_at hl 0 rfl) ?_
                    refine q_get X hK h_25 0 rfl rfl wf_12 1 (by decide) rfl wm_5_171 dX12_chanceOf_90 ?_
                    refine lv_bipush (v := 32) hx hb dX12_chanceOf_93 (by decide) ?_
                    refine lv_iload hx hb dX12_chanceOf_95 (lv_at hl 5 rfl) ?_
                    refine lv_iadd hx hb dX12_chanceOf_97 ?_
                    obtain ⟨z_30, ez_30, hz_30⟩ := e_add (x := 32) (y := v39_14_0) (show (32 : Int32).toInt = 32 by decide) rfl (by omega) (by omega)
                    refine q_c z_30 ez_30 ?_
                    clear ez_30
                    refine q_iald X hK h_25 1 rfl (i_in rfl (by omega) (by omega)) dX12_chanceOf_98 ?_
                    refine q_any (fun z_31 hz_31 => ?_)
                    refine lv_isub hx hb dX12_chanceOf_99 ?_
                    refine q_any (fun z_32 hz_32 => ?_)
                    refine lv_i2l hx hb dX12_chanceOf_100 rfl ?_
                    obtain ⟨z_33, ez_33, hz_33⟩ := e_i2l (x := z_32) rfl
                    refine q_cl z_33 ez_33 ?_
                    clear ez_33
                    exact J_101 _ _ _ _ ⟨z_33, ⟨by omega, by omega⟩, rfl, h_25, (lv_sub hl [0, 1, 2, 3, 4, 5] rfl)⟩
                  · replace c_29 := i_ne (x := r_25) (y := 0) rfl (show (0 : Int32).toInt = 0 by decide) c_29
                    refine lv_aload_n hx hb dX12_chanceOf_73 rfl (lv_at hl 0 rfl) ?_
                    refine q_get X hK h_25 0 rfl rfl wf_12 1 (by decide) rfl wm_5_171 dX12_chanceOf_74 ?_
                    refine lv_bipush (v := 32) hx hb dX12_chanceOf_77 (by decide) ?_
                    refine lv_iload hx hb dX12_chanceOf_79 (lv_at hl 5 rfl) ?_
                    refine lv_iadd hx hb dX12_chanceOf_81 ?_
                    obtain ⟨z_34, ez_34, hz_34⟩ := e_add (x := 32) (y := v39_14_0) (show (32 : Int32).toInt = 32 by decide) rfl (by omega) (by omega)
                    refine q_c z_34 ez_34 ?_
                    clear ez_34
                    refine q_iald X hK h_25 1 rfl (i_in rfl (by omega) (by omega)) dX12_chanceOf_82 ?_
                    refine q_any (fun z_35 hz_35 => ?_)
                    refine lv_i2l hx hb dX12_chanceOf_83 rfl ?_
                    obtain ⟨z_36, ez_36, hz_36⟩ := e_i2l (x := z_35) rfl
                    refine q_cl z_36 ez_36 ?_
                    clear ez_36
                    refine lv_goto (tgt := 101) hx hb dX12_chanceOf_84 (by decide) ?_
                    exact J_101 _ _ _ _ ⟨z_36, ⟨by omega, by omega⟩, rfl, h_25, (lv_sub hl [0, 1, 2, 3, 4, 5] rfl)⟩
        · replace c_11 := i_eq (x := z_10) (y := 0) rfl (show (0 : Int32).toInt = 0 by decide) c_11
          refine lv_goto (tgt := 115) hx hb dX12_chanceOf_30 (by decide) ?_
          exact J_115 _ _ _ _ ⟨v5_3_1, hv5_3_1, rfl, h, (lv_sub hl [0, 1, 2, 3] rfl)⟩
set_option maxHeartbeats 4000000 in
set_option maxRecDepth 100000 in
theorem gX12_tens_dd3db09 (l : Launch) (D : va_G) (cy : Nat → ClassId) (p0 : Int32) (hp0 : 0 ≤ (p0).toInt ∧ (p0).toInt ≤ 10) (sz : Nat) : ML l yX12_tens cX12_tens 4 { frames := 0, cells := 0, slots := 0, locals := 0 } [.int p0] D cy [] sz (fun r u => (1 ≤ r.toInt ∧ r.toInt ≤ 10000000000) ∧ (1 ≤ (r : Int64).toInt ∧ (r : Int64).toInt ≤ 10000000000) ∧ True) (fun u => []) 0 0 := by
  refine q_ent (own := RX12) (by decide) rfl (Nat.le_of_ble_eq_true rfl) (fun p e s m below meth c ls X hr hlk hnm hK hT h hA hl => ?_)
  obtain ⟨hx, hb, hml, hown, ht⟩ := id X
  replace hl : lv_has ls 4 [(0, .int p0)] := hl
  refine lv_lconst (v := 1) hx hb dX12_tens_0 (by decide) ?_
  refine lv_lstore_n (lv' := [(1, .long 1), (0, .int p0)]) hx hb dX12_tens_1 rfl hl (by decide) rfl (fun ls_1 hl_1 => ?_)
  clear hl
  refine lv_iconst (v := 0) hx hb dX12_tens_2 (by decide) ?_
  refine lv_istore_n (lv' := [(3, .int 0), (1, .long 1), (0, .int p0)]) hx hb dX12_tens_3 rfl hl_1 (by decide) rfl (fun ls_2 hl_2 => ?_)
  clear hl_1
  refine q_wl (fun (q : Int32 × Int64) H locs ls => match q with | (v4_3_0, v4_3_1) => (0 ≤ (v4_3_0).toInt ∧ (v4_3_0).toInt ≤ 10) ∧ (1 ≤ (v4_3_1).toInt ∧ (v4_3_1).toInt ≤ 10000000000) ∧ (TEN (v4_3_0 : Int32).toInt (v4_3_1 : Int64).toInt) ∧ qW D (va_A [] sz) s.heap [] H locs ∧ lv_has ls 4 [(0, .int p0), (1, .long v4_3_1), (3, .int v4_3_0)]) (fun (q : Int32 × Int64) => match q with | (v4_3_0, v4_3_1) => (11 - (v4_3_0).toInt).toNat) (fun q_4 ih_4 H locs ls hP => ?_) (0, 1) ⟨⟨by decide +kernel, by decide +kernel⟩, ⟨by decide +kernel, by decide +kernel⟩, (ten_0 (by decide) (by decide)), h, (lv_sub hl_2 [2, 1, 0] rfl)⟩
  obtain ⟨v4_3_0, v4_3_1⟩ := q_4
  obtain ⟨hv4_3_0, hv4_3_1, x4_0, h, hl⟩ := hP
  refine lv_iload_n hx hb dX12_tens_4 rfl (lv_at hl 2 rfl) ?_
  refine lv_iload_n hx hb dX12_tens_5 rfl (lv_at hl 0 rfl) ?_
  refine lv_icmp_ge (tgt := 21) hx hb dX12_tens_6 (by decide) (fun c_5 => ?_) (fun c_5 => ?_)
  · replace c_5 := i_le (x := p0) (y := v4_3_0) rfl rfl c_5
    refine lv_lload_n hx hb dX12_tens_21 rfl (lv_at hl 1 rfl) ?_
    exact q_lret X hr hlk hK h (fun _ => 0, fun _ _ => 0, fun _ _ => 0) ⟨hv4_3_1, (show 1 ≤ (v4_3_1 : Int64).toInt ∧ (v4_3_1 : Int64).toInt ≤ 10000000000 from by omega), trivial⟩ [] rfl rfl dX12_tens_22 (Nat.le_of_ble_eq_true rfl) (Nat.le_of_ble_eq_true rfl)
  · replace c_5 := i_nle (x := p0) (y := v4_3_0) rfl rfl c_5
    refine lv_lload_n hx hb dX12_tens_9 rfl (lv_at hl 1 rfl) ?_
    refine lv_ldc2 hx hb hown (ht _ wm_7_24) dX12_tens_10 ?_
    refine lv_lmul hx hb dX12_tens_13 ?_
    obtain ⟨z_6, ez_6, hz_6⟩ := e_mulJ (x := v4_3_1) (y := 10) rfl (show (10 : Int64).toInt = 10 by decide) (by omega) (by omega)
    refine q_cl z_6 ez_6 ?_
    clear ez_6
    refine lv_lstore_n (lv' := [(1, .long z_6), (0, .int p0), (3, .int v4_3_0)]) hx hb dX12_tens_14 rfl hl (by decide) rfl (fun ls_7 hl_7 => ?_)
    clear hl
    obtain ⟨z_8, ez_8, hz_8⟩ := e_add (x := v4_3_0) (y := Int32.ofInt 1) rfl (b := 1) (by decide) (by omega) (by omega)
    refine lv_iinc (v := z_8) (lv' := [(3, .int z_8), (1, .long z_6), (0, .int p0)]) hx hb dX12_tens_15 hl_7 (k := 2) rfl ez_8 (by decide) rfl (fun ls_8 hl_8 => ?_)
    clear hl_7
    have tn_9 : TEN (z_8 : Int32).toInt (z_6 : Int64).toInt := ten_s x4_0 (by omega) (by omega)
    have tb_9 := ten_b tn_9 (by omega)
    refine lv_goto (tgt := 4) hx hb dX12_tens_18 (by decide) ?_
    exact ih_4 (z_8, z_6) (by show (11 - (z_8).toInt).toNat < (11 - (v4_3_0).toInt).toNat; omega) _ _ _ ⟨⟨by omega, by omega⟩, ⟨by omega, by omega⟩, (tn_9), h, (lv_sub hl_8 [2, 1, 0] rfl)⟩
set_option maxHeartbeats 4000000 in
set_option maxRecDepth 100000 in
theorem gX12_common_6a710ba (l : Launch) (D : va_G) (cy : Nat → ClassId) (j0 : Int64) (j1 : Int64) (hj0 : (-1) ≤ (j0).toInt ∧ (j0).toInt ≤ 1) (hj1 : 0 ≤ (j1).toInt ∧ (j1).toInt ≤ 0) (hpre0 : CM 0 1 (j0 : Int64).toInt (j1 : Int64).toInt) (sz : Nat) : ML l yX12_common cX12_common 4 { frames := 0, cells := 0, slots := 0, locals := 0 } [.long j0, .long j1] D cy [] sz (fun r u => ((-1) ≤ r.toInt ∧ r.toInt ≤ 1) ∧ ((r : Int64).toInt ≠ 0 ∨ ((j0 : Int64).toInt = 0 ∧ (j1 : Int64).toInt = 0)) ∧ True) (fun u => []) 0 0 := by
  refine q_ent (own := RX12) (by decide) rfl (Nat.le_of_ble_eq_true rfl) (fun p e s m below meth c ls X hr hlk hnm hK hT h hA hl => ?_)
  obtain ⟨hx, hb, hml, hown, ht⟩ := id X
  replace hl : lv_has ls 4 [(0, .long j0), (2, .long j1)] := hl
  refine lv_lload_n hx hb dX12_common_0 rfl (lv_at hl 1 rfl) ?_
  refine lv_lconst (v := 0) hx hb dX12_common_1 (by decide) ?_
  refine W.lcmp hx hb dX12_common_2 ?_
  refine lv_if_ne (tgt := 10) hx hb dX12_common_3 (by decide) (fun c_1 => ?_) (fun c_1 => ?_)
  · replace c_1 := j_neq (x := j1) (y := 0) rfl (show (0 : Int64).toInt = 0 by decide) c_1
    exfalso
    omega
  · replace c_1 := j_eq (x := j1) (y := 0) rfl (show (0 : Int64).toInt = 0 by decide) c_1
    refine lv_lload_n hx hb dX12_common_6 rfl (lv_at hl 0 rfl) ?_
    refine lv_goto (tgt := 17) hx hb dX12_common_7 (by decide) ?_
    exact q_lret X hr hlk hK h (fun _ => 0, fun _ _ => 0, fun _ _ => 0) ⟨hj0, (show (j0 : Int64).toInt ≠ 0 ∨ ((j0 : Int64).toInt = 0 ∧ (j1 : Int64).toInt = 0) from by omega), trivial⟩ [] rfl rfl dX12_common_17 (Nat.le_of_ble_eq_true rfl) (Nat.le_of_ble_eq_true rfl)
set_option maxHeartbeats 4000000 in
set_option maxRecDepth 100000 in
theorem gX12_common_b22397c (l : Launch) (D : va_G) (cy : Nat → ClassId) (j0 : Int64) (j1 : Int64) (hj0 : (-1) ≤ (j0).toInt ∧ (j0).toInt ≤ 1) (hj1 : (-1) ≤ (j1).toInt ∧ (j1).toInt ≤ 1) (hpre0 : CM 1 1 (j0 : Int64).toInt (j1 : Int64).toInt) (sz : Nat) : ML l yX12_common cX12_common 4 { frames := 1, cells := 0, slots := 0, locals := 23 } [.long j0, .long j1] D cy [] sz (fun r u => ((-1) ≤ r.toInt ∧ r.toInt ≤ 1) ∧ ((r : Int64).toInt ≠ 0 ∨ ((j0 : Int64).toInt = 0 ∧ (j1 : Int64).toInt = 0)) ∧ True) (fun u => []) 0 0 := by
  refine q_ent (own := RX12) (by decide) rfl (Nat.le_of_ble_eq_true rfl) (fun p e s m below meth c ls X hr hlk hnm hK hT h hA hl => ?_)
  obtain ⟨hx, hb, hml, hown, ht⟩ := id X
  replace hl : lv_has ls 4 [(0, .long j0), (2, .long j1)] := hl
  refine lv_lload_n hx hb dX12_common_0 rfl (lv_at hl 1 rfl) ?_
  refine lv_lconst (v := 0) hx hb dX12_common_1 (by decide) ?_
  refine W.lcmp hx hb dX12_common_2 ?_
  refine lv_if_ne (tgt := 10) hx hb dX12_common_3 (by decide) (fun c_1 => ?_) (fun c_1 => ?_)
  · replace c_1 := j_neq (x := j1) (y := 0) rfl (show (0 : Int64).toInt = 0 by decide) c_1
    refine lv_lload_n hx hb dX12_common_10 rfl (lv_at hl 1 rfl) ?_
    refine lv_lload_n hx hb dX12_common_11 rfl (lv_at hl 0 rfl) ?_
    refine lv_lload_n hx hb dX12_common_12 rfl (lv_at hl 1 rfl) ?_
    refine lv_lrem hx hb dX12_common_13 (j_nz (by omega)) ?_
    obtain ⟨z_2, ez_2, hz_2⟩ := e_anyJ (j0 - j0 / j1 * j1)
    refine q_cl z_2 ez_2 ?_
    have cm_3 : CM 0 1 _ _ := cm_s (by decide) hpre0 (by omega) ez_2
    have cr_3 := cm_r cm_3
    refine q_callSl (rest := []) (wr := []) X hK hT hA h (fun sz => gX12_common_6a710ba l D cy j1 z_2 hj1 ⟨by omega, by omega⟩ (cm_3) sz) wm_8_20 wm_8_22 wm_1_12 hd_X12_common wm_8_21 ⟨Nat.le_of_ble_eq_true rfl, Nat.le_of_ble_eq_true rfl⟩ hl.1 rfl (Nat.le_of_ble_eq_true rfl) dX12_common_14 ⟨Nat.le_of_ble_eq_true rfl, Nat.le_of_ble_eq_true rfl⟩ [] [] rfl rfl (by decide) rfl rfl (fun r_4 u_4 H locs w_4 h_4 => ?_)
    clear h
    obtain ⟨wr_4, y4_0, _⟩ := w_4
    replace h_4 : qW D _ _ [] _ _ := h_4
    exact q_lret X hr hlk hK h_4 (fun _ => 0, fun _ _ => 0, fun _ _ => 0) ⟨wr_4, (show (r_4 : Int64).toInt ≠ 0 ∨ ((j0 : Int64).toInt = 0 ∧ (j1 : Int64).toInt = 0) from by omega), trivial⟩ [] rfl rfl dX12_common_17 (Nat.le_of_ble_eq_true rfl) (Nat.le_of_ble_eq_true rfl)
  · replace c_1 := j_eq (x := j1) (y := 0) rfl (show (0 : Int64).toInt = 0 by decide) c_1
    refine lv_lload_n hx hb dX12_common_6 rfl (lv_at hl 0 rfl) ?_
    refine lv_goto (tgt := 17) hx hb dX12_common_7 (by decide) ?_
    exact q_lret X hr hlk hK h (fun _ => 0, fun _ _ => 0, fun _ _ => 0) ⟨hj0, (show (j0 : Int64).toInt ≠ 0 ∨ ((j0 : Int64).toInt = 0 ∧ (j1 : Int64).toInt = 0) from by omega), trivial⟩ [] rfl rfl dX12_common_17 (Nat.le_of_ble_eq_true rfl) (Nat.le_of_ble_eq_true rfl)
set_option maxHeartbeats 4000000 in
set_option maxRecDepth 100000 in
theorem gX12_common_b3145ca (l : Launch) (D : va_G) (cy : Nat → ClassId) (j0 : Int64) (j1 : Int64) (hj0 : (-2) ≤ (j0).toInt ∧ (j0).toInt ≤ 2) (hj1 : (-1) ≤ (j1).toInt ∧ (j1).toInt ≤ 1) (hpre0 : CM 1 2 (j0 : Int64).toInt (j1 : Int64).toInt) (sz : Nat) : ML l yX12_common cX12_common 4 { frames := 2, cells := 0, slots := 0, locals := 46 } [.long j0, .long j1] D cy [] sz (fun r u => ((-2) ≤ r.toInt ∧ r.toInt ≤ 2) ∧ ((r : Int64).toInt ≠ 0 ∨ ((j0 : Int64).toInt = 0 ∧ (j1 : Int64).toInt = 0)) ∧ True) (fun u => []) 0 0 := by
  refine q_ent (own := RX12) (by decide) rfl (Nat.le_of_ble_eq_true rfl) (fun p e s m below meth c ls X hr hlk hnm hK hT h hA hl => ?_)
  obtain ⟨hx, hb, hml, hown, ht⟩ := id X
  replace hl : lv_has ls 4 [(0, .long j0), (2, .long j1)] := hl
  refine lv_lload_n hx hb dX12_common_0 rfl (lv_at hl 1 rfl) ?_
  refine lv_lconst (v := 0) hx hb dX12_common_1 (by decide) ?_
  refine W.lcmp hx hb dX12_common_2 ?_
  refine lv_if_ne (tgt := 10) hx hb dX12_common_3 (by decide) (fun c_1 => ?_) (fun c_1 => ?_)
  · replace c_1 := j_neq (x := j1) (y := 0) rfl (show (0 : Int64).toInt = 0 by decide) c_1
    refine lv_lload_n hx hb dX12_common_10 rfl (lv_at hl 1 rfl) ?_
    refine lv_lload_n hx hb dX12_common_11 rfl (lv_at hl 0 rfl) ?_
    refine lv_lload_n hx hb dX12_common_12 rfl (lv_at hl 1 rfl) ?_
    refine lv_lrem hx hb dX12_common_13 (j_nz (by omega)) ?_
    obtain ⟨z_2, ez_2, hz_2⟩ := e_anyJ (j0 - j0 / j1 * j1)
    refine q_cl z_2 ez_2 ?_
    have cm_3 : CM 1 1 _ _ := cm_s (by decide) hpre0 (by omega) ez_2
    have cr_3 := cm_r cm_3
    refine q_callSl (rest := []) (wr := []) X hK hT hA h (fun sz => gX12_common_b22397c l D cy j1 z_2 hj1 ⟨by omega, by omega⟩ (cm_3) sz) wm_8_20 wm_8_22 wm_1_12 hd_X12_common wm_8_21 ⟨Nat.le_of_ble_eq_true rfl, Nat.le_of_ble_eq_true rfl⟩ hl.1 rfl (Nat.le_of_ble_eq_true rfl) dX12_common_14 ⟨Nat.le_of_ble_eq_true rfl, Nat.le_of_ble_eq_true rfl⟩ [] [] rfl rfl (by decide) rfl rfl (fun r_4 u_4 H locs w_4 h_4 => ?_)
    clear h
    obtain ⟨wr_4, y4_0, _⟩ := w_4
    replace h_4 : qW D _ _ [] _ _ := h_4
    exact q_lret X hr hlk hK h_4 (fun _ => 0, fun _ _ => 0, fun _ _ => 0) ⟨(bw wr_4 (by decide) (by decide)), (show (r_4 : Int64).toInt ≠ 0 ∨ ((j0 : Int64).toInt = 0 ∧ (j1 : Int64).toInt = 0) from by omega), trivial⟩ [] rfl rfl dX12_common_17 (Nat.le_of_ble_eq_true rfl) (Nat.le_of_ble_eq_true rfl)
  · replace c_1 := j_eq (x := j1) (y := 0) rfl (show (0 : Int64).toInt = 0 by decide) c_1
    refine lv_lload_n hx hb dX12_common_6 rfl (lv_at hl 0 rfl) ?_
    refine lv_goto (tgt := 17) hx hb dX12_common_7 (by decide) ?_
    exact q_lret X hr hlk hK h (fun _ => 0, fun _ _ => 0, fun _ _ => 0) ⟨hj0, (show (j0 : Int64).toInt ≠ 0 ∨ ((j0 : Int64).toInt = 0 ∧ (j1 : Int64).toInt = 0) from by omega), trivial⟩ [] rfl rfl dX12_common_17 (Nat.le_of_ble_eq_true rfl) (Nat.le_of_ble_eq_true rfl)
set_option maxHeartbeats 4000000 in
set_option maxRecDepth 100000 in
theorem gX12_common_adc2ae2 (l : Launch) (D : va_G) (cy : Nat → ClassId) (j0 : Int64) (j1 : Int64) (hj0 : (-2) ≤ (j0).toInt ∧ (j0).toInt ≤ 2) (hj1 : (-2) ≤ (j1).toInt ∧ (j1).toInt ≤ 2) (hpre0 : CM 2 2 (j0 : Int64).toInt (j1 : Int64).toInt) (sz : Nat) : ML l yX12_common cX12_common 4 { frames := 3, cells := 0, slots := 0, locals := 69 } [.long j0, .long j1] D cy [] sz (fun r u => ((-2) ≤ r.toInt ∧ r.toInt ≤ 2) ∧ ((r : Int64).toInt ≠ 0 ∨ ((j0 : Int64).toInt = 0 ∧ (j1 : Int64).toInt = 0)) ∧ True) (fun u => []) 0 0 := by
  refine q_ent (own := RX12) (by decide) rfl (Nat.le_of_ble_eq_true rfl) (fun p e s m below meth c ls X hr hlk hnm hK hT h hA hl => ?_)
  obtain ⟨hx, hb, hml, hown, ht⟩ := id X
  replace hl : lv_has ls 4 [(0, .long j0), (2, .long j1)] := hl
  refine lv_lload_n hx hb dX12_common_0 rfl (lv_at hl 1 rfl) ?_
  refine lv_lconst (v := 0) hx hb dX12_common_1 (by decide) ?_
  refine W.lcmp hx hb dX12_common_2 ?_
  refine lv_if_ne (tgt := 10) hx hb dX12_common_3 (by decide) (fun c_1 => ?_) (fun c_1 => ?_)
  · replace c_1 := j_neq (x := j1) (y := 0) rfl (show (0 : Int64).toInt = 0 by decide) c_1
    refine lv_lload_n hx hb dX12_common_10 rfl (lv_at hl 1 rfl) ?_
    refine lv_lload_n hx hb dX12_common_11 rfl (lv_at hl 0 rfl) ?_
    refine lv_lload_n hx hb dX12_common_12 rfl (lv_at hl 1 rfl) ?_
    refine lv_lrem hx hb dX12_common_13 (j_nz (by omega)) ?_
    obtain ⟨z_2, ez_2, hz_2⟩ := e_anyJ (j0 - j0 / j1 * j1)
    refine q_cl z_2 ez_2 ?_
    have cm_3 : CM 1 2 _ _ := cm_s (by decide) hpre0 (by omega) ez_2
    have cr_3 := cm_r cm_3
    refine q_callSl (rest := []) (wr := []) X hK hT hA h (fun sz => gX12_common_b3145ca l D cy j1 z_2 hj1 ⟨by omega, by omega⟩ (cm_3) sz) wm_8_20 wm_8_22 wm_1_12 hd_X12_common wm_8_21 ⟨Nat.le_of_ble_eq_true rfl, Nat.le_of_ble_eq_true rfl⟩ hl.1 rfl (Nat.le_of_ble_eq_true rfl) dX12_common_14 ⟨Nat.le_of_ble_eq_true rfl, Nat.le_of_ble_eq_true rfl⟩ [] [] rfl rfl (by decide) rfl rfl (fun r_4 u_4 H locs w_4 h_4 => ?_)
    clear h
    obtain ⟨wr_4, y4_0, _⟩ := w_4
    replace h_4 : qW D _ _ [] _ _ := h_4
    exact q_lret X hr hlk hK h_4 (fun _ => 0, fun _ _ => 0, fun _ _ => 0) ⟨wr_4, (show (r_4 : Int64).toInt ≠ 0 ∨ ((j0 : Int64).toInt = 0 ∧ (j1 : Int64).toInt = 0) from by omega), trivial⟩ [] rfl rfl dX12_common_17 (Nat.le_of_ble_eq_true rfl) (Nat.le_of_ble_eq_true rfl)
  · replace c_1 := j_eq (x := j1) (y := 0) rfl (show (0 : Int64).toInt = 0 by decide) c_1
    refine lv_lload_n hx hb dX12_common_6 rfl (lv_at hl 0 rfl) ?_
    refine lv_goto (tgt := 17) hx hb dX12_common_7 (by decide) ?_
    exact q_lret X hr hlk hK h (fun _ => 0, fun _ _ => 0, fun _ _ => 0) ⟨hj0, (show (j0 : Int64).toInt ≠ 0 ∨ ((j0 : Int64).toInt = 0 ∧ (j1 : Int64).toInt = 0) from by omega), trivial⟩ [] rfl rfl dX12_common_17 (Nat.le_of_ble_eq_true rfl) (Nat.le_of_ble_eq_true rfl)
set_option maxHeartbeats 4000000 in
set_option maxRecDepth 100000 in
theorem gX12_common_7744de1 (l : Launch) (D : va_G) (cy : Nat → ClassId) (j0 : Int64) (j1 : Int64) (hj0 : (-4) ≤ (j0).toInt ∧ (j0).toInt ≤ 4) (hj1 : (-2) ≤ (j1).toInt ∧ (j1).toInt ≤ 2) (hpre0 : CM 2 4 (j0 : Int64).toInt (j1 : Int64).toInt) (sz : Nat) : ML l yX12_common cX12_common 4 { frames := 4, cells := 0, slots := 0, locals := 92 } [.long j0, .long j1] D cy [] sz (fun r u => ((-4) ≤ r.toInt ∧ r.toInt ≤ 4) ∧ ((r : Int64).toInt ≠ 0 ∨ ((j0 : Int64).toInt = 0 ∧ (j1 : Int64).toInt = 0)) ∧ True) (fun u => []) 0 0 := by
  refine q_ent (own := RX12) (by decide) rfl (Nat.le_of_ble_eq_true rfl) (fun p e s m below meth c ls X hr hlk hnm hK hT h hA hl => ?_)
  obtain ⟨hx, hb, hml, hown, ht⟩ := id X
  replace hl : lv_has ls 4 [(0, .long j0), (2, .long j1)] := hl
  refine lv_lload_n hx hb dX12_common_0 rfl (lv_at hl 1 rfl) ?_
  refine lv_lconst (v := 0) hx hb dX12_common_1 (by decide) ?_
  refine W.lcmp hx hb dX12_common_2 ?_
  refine lv_if_ne (tgt := 10) hx hb dX12_common_3 (by decide) (fun c_1 => ?_) (fun c_1 => ?_)
  · replace c_1 := j_neq (x := j1) (y := 0) rfl (show (0 : Int64).toInt = 0 by decide) c_1
    refine lv_lload_n hx hb dX12_common_10 rfl (lv_at hl 1 rfl) ?_
    refine lv_lload_n hx hb dX12_common_11 rfl (lv_at hl 0 rfl) ?_
    refine lv_lload_n hx hb dX12_common_12 rfl (lv_at hl 1 rfl) ?_
    refine lv_lrem hx hb dX12_common_13 (j_nz (by omega)) ?_
    obtain ⟨z_2, ez_2, hz_2⟩ := e_anyJ (j0 - j0 / j1 * j1)
    refine q_cl z_2 ez_2 ?_
    have cm_3 : CM 2 2 _ _ := cm_s (by decide) hpre0 (by omega) ez_2
    have cr_3 := cm_r cm_3
    refine q_callSl (rest := []) (wr := []) X hK hT hA h (fun sz => gX12_common_adc2ae2 l D cy j1 z_2 hj1 ⟨by omega, by omega⟩ (cm_3) sz) wm_8_20 wm_8_22 wm_1_12 hd_X12_common wm_8_21 ⟨Nat.le_of_ble_eq_true rfl, Nat.le_of_ble_eq_true rfl⟩ hl.1 rfl (Nat.le_of_ble_eq_true rfl) dX12_common_14 ⟨Nat.le_of_ble_eq_true rfl, Nat.le_of_ble_eq_true rfl⟩ [] [] rfl rfl (by decide) rfl rfl (fun r_4 u_4 H locs w_4 h_4 => ?_)
    clear h
    obtain ⟨wr_4, y4_0, _⟩ := w_4
    replace h_4 : qW D _ _ [] _ _ := h_4
    exact q_lret X hr hlk hK h_4 (fun _ => 0, fun _ _ => 0, fun _ _ => 0) ⟨(bw wr_4 (by decide) (by decide)), (show (r_4 : Int64).toInt ≠ 0 ∨ ((j0 : Int64).toInt = 0 ∧ (j1 : Int64).toInt = 0) from by omega), trivial⟩ [] rfl rfl dX12_common_17 (Nat.le_of_ble_eq_true rfl) (Nat.le_of_ble_eq_true rfl)
  · replace c_1 := j_eq (x := j1) (y := 0) rfl (show (0 : Int64).toInt = 0 by decide) c_1
    refine lv_lload_n hx hb dX12_common_6 rfl (lv_at hl 0 rfl) ?_
    refine lv_goto (tgt := 17) hx hb dX12_common_7 (by decide) ?_
    exact q_lret X hr hlk hK h (fun _ => 0, fun _ _ => 0, fun _ _ => 0) ⟨hj0, (show (j0 : Int64).toInt ≠ 0 ∨ ((j0 : Int64).toInt = 0 ∧ (j1 : Int64).toInt = 0) from by omega), trivial⟩ [] rfl rfl dX12_common_17 (Nat.le_of_ble_eq_true rfl) (Nat.le_of_ble_eq_true rfl)
set_option maxHeartbeats 4000000 in
set_option maxRecDepth 100000 in
theorem gX12_common_9a5f93a (l : Launch) (D : va_G) (cy : Nat → ClassId) (j0 : Int64) (j1 : Int64) (hj0 : (-4) ≤ (j0).toInt ∧ (j0).toInt ≤ 4) (hj1 : (-4) ≤ (j1).toInt ∧ (j1).toInt ≤ 4) (hpre0 : CM 4 4 (j0 : Int64).toInt (j1 : Int64).toInt) (sz : Nat) : ML l yX12_common cX12_common 4 { frames := 5, cells := 0, slots := 0, locals := 115 } [.long j0, .long j1] D cy [] sz (fun r u => ((-4) ≤ r.toInt ∧ r.toInt ≤ 4) ∧ ((r : Int64).toInt ≠ 0 ∨ ((j0 : Int64).toInt = 0 ∧ (j1 : Int64).toInt = 0)) ∧ True) (fun u => []) 0 0 := by
  refine q_ent (own := RX12) (by decide) rfl (Nat.le_of_ble_eq_true rfl) (fun p e s m below meth c ls X hr hlk hnm hK hT h hA hl => ?_)
  obtain ⟨hx, hb, hml, hown, ht⟩ := id X
  replace hl : lv_has ls 4 [(0, .long j0), (2, .long j1)] := hl
  refine lv_lload_n hx hb dX12_common_0 rfl (lv_at hl 1 rfl) ?_
  refine lv_lconst (v := 0) hx hb dX12_common_1 (by decide) ?_
  refine W.lcmp hx hb dX12_common_2 ?_
  refine lv_if_ne (tgt := 10) hx hb dX12_common_3 (by decide) (fun c_1 => ?_) (fun c_1 => ?_)
  · replace c_1 := j_neq (x := j1) (y := 0) rfl (show (0 : Int64).toInt = 0 by decide) c_1
    refine lv_lload_n hx hb dX12_common_10 rfl (lv_at hl 1 rfl) ?_
    refine lv_lload_n hx hb dX12_common_11 rfl (lv_at hl 0 rfl) ?_
    refine lv_lload_n hx hb dX12_common_12 rfl (lv_at hl 1 rfl) ?_
    refine lv_lrem hx hb dX12_common_13 (j_nz (by omega)) ?_
    obtain ⟨z_2, ez_2, hz_2⟩ := e_anyJ (j0 - j0 / j1 * j1)
    refine q_cl z_2 ez_2 ?_
    have cm_3 : CM 2 4 _ _ := cm_s (by decide) hpre0 (by omega) ez_2
    have cr_3 := cm_r cm_3
    refine q_callSl (rest := []) (wr := []) X hK hT hA h (fun sz => gX12_common_7744de1 l D cy j1 z_2 hj1 ⟨by omega, by omega⟩ (cm_3) sz) wm_8_20 wm_8_22 wm_1_12 hd_X12_common wm_8_21 ⟨Nat.le_of_ble_eq_true rfl, Nat.le_of_ble_eq_true rfl⟩ hl.1 rfl (Nat.le_of_ble_eq_true rfl) dX12_common_14 ⟨Nat.le_of_ble_eq_true rfl, Nat.le_of_ble_eq_true rfl⟩ [] [] rfl rfl (by decide) rfl rfl (fun r_4 u_4 H locs w_4 h_4 => ?_)
    clear h
    obtain ⟨wr_4, y4_0, _⟩ := w_4
    replace h_4 : qW D _ _ [] _ _ := h_4
    exact q_lret X hr hlk hK h_4 (fun _ => 0, fun _ _ => 0, fun _ _ => 0) ⟨wr_4, (show (r_4 : Int64).toInt ≠ 0 ∨ ((j0 : Int64).toInt = 0 ∧ (j1 : Int64).toInt = 0) from by omega), trivial⟩ [] rfl rfl dX12_common_17 (Nat.le_of_ble_eq_true rfl) (Nat.le_of_ble_eq_true rfl)
  · replace c_1 := j_eq (x := j1) (y := 0) rfl (show (0 : Int64).toInt = 0 by decide) c_1
    refine lv_lload_n hx hb dX12_common_6 rfl (lv_at hl 0 rfl) ?_
    refine lv_goto (tgt := 17) hx hb dX12_common_7 (by decide) ?_
    exact q_lret X hr hlk hK h (fun _ => 0, fun _ _ => 0, fun _ _ => 0) ⟨hj0, (show (j0 : Int64).toInt ≠ 0 ∨ ((j0 : Int64).toInt = 0 ∧ (j1 : Int64).toInt = 0) from by omega), trivial⟩ [] rfl rfl dX12_common_17 (Nat.le_of_ble_eq_true rfl) (Nat.le_of_ble_eq_true rfl)
set_option maxHeartbeats 4000000 in
set_option maxRecDepth 100000 in
theorem gX12_common_200335a (l : Launch) (D : va_G) (cy : Nat → ClassId) (j0 : Int64) (j1 : Int64) (hj0 : (-9) ≤ (j0).toInt ∧ (j0).toInt ≤ 9) (hj1 : (-4) ≤ (j1).toInt ∧ (j1).toInt ≤ 4) (hpre0 : CM 4 9 (j0 : Int64).toInt (j1 : Int64).toInt) (sz : Nat) : ML l yX12_common cX12_common 4 { frames := 6, cells := 0, slots := 0, locals := 138 } [.long j0, .long j1] D cy [] sz (fun r u => ((-9) ≤ r.toInt ∧ r.toInt ≤ 9) ∧ ((r : Int64).toInt ≠ 0 ∨ ((j0 : Int64).toInt = 0 ∧ (j1 : Int64).toInt = 0)) ∧ True) (fun u => []) 0 0 := by
  refine q_ent (own := RX12) (by decide) rfl (Nat.le_of_ble_eq_true rfl) (fun p e s m below meth c ls X hr hlk hnm hK hT h hA hl => ?_)
  obtain ⟨hx, hb, hml, hown, ht⟩ := id X
  replace hl : lv_has ls 4 [(0, .long j0), (2, .long j1)] := hl
  refine lv_lload_n hx hb dX12_common_0 rfl (lv_at hl 1 rfl) ?_
  refine lv_lconst (v := 0) hx hb dX12_common_1 (by decide) ?_
  refine W.lcmp hx hb dX12_common_2 ?_
  refine lv_if_ne (tgt := 10) hx hb dX12_common_3 (by decide) (fun c_1 => ?_) (fun c_1 => ?_)
  · replace c_1 := j_neq (x := j1) (y := 0) rfl (show (0 : Int64).toInt = 0 by decide) c_1
    refine lv_lload_n hx hb dX12_common_10 rfl (lv_at hl 1 rfl) ?_
    refine lv_lload_n hx hb dX12_common_11 rfl (lv_at hl 0 rfl) ?_
    refine lv_lload_n hx hb dX12_common_12 rfl (lv_at hl 1 rfl) ?_
    refine lv_lrem hx hb dX12_common_13 (j_nz (by omega)) ?_
    obtain ⟨z_2, ez_2, hz_2⟩ := e_anyJ (j0 - j0 / j1 * j1)
    refine q_cl z_2 ez_2 ?_
    have cm_3 : CM 4 4 _ _ := cm_s (by decide) hpre0 (by omega) ez_2
    have cr_3 := cm_r cm_3
    refine q_callSl (rest := []) (wr := []) X hK hT hA h (fun sz => gX12_common_9a5f93a l D cy j1 z_2 hj1 ⟨by omega, by omega⟩ (cm_3) sz) wm_8_20 wm_8_22 wm_1_12 hd_X12_common wm_8_21 ⟨Nat.le_of_ble_eq_true rfl, Nat.le_of_ble_eq_true rfl⟩ hl.1 rfl (Nat.le_of_ble_eq_true rfl) dX12_common_14 ⟨Nat.le_of_ble_eq_true rfl, Nat.le_of_ble_eq_true rfl⟩ [] [] rfl rfl (by decide) rfl rfl (fun r_4 u_4 H locs w_4 h_4 => ?_)
    clear h
    obtain ⟨wr_4, y4_0, _⟩ := w_4
    replace h_4 : qW D _ _ [] _ _ := h_4
    exact q_lret X hr hlk hK h_4 (fun _ => 0, fun _ _ => 0, fun _ _ => 0) ⟨(bw wr_4 (by decide) (by decide)), (show (r_4 : Int64).toInt ≠ 0 ∨ ((j0 : Int64).toInt = 0 ∧ (j1 : Int64).toInt = 0) from by omega), trivial⟩ [] rfl rfl dX12_common_17 (Nat.le_of_ble_eq_true rfl) (Nat.le_of_ble_eq_true rfl)
  · replace c_1 := j_eq (x := j1) (y := 0) rfl (show (0 : Int64).toInt = 0 by decide) c_1
    refine lv_lload_n hx hb dX12_common_6 rfl (lv_at hl 0 rfl) ?_
    refine lv_goto (tgt := 17) hx hb dX12_common_7 (by decide) ?_
    exact q_lret X hr hlk hK h (fun _ => 0, fun _ _ => 0, fun _ _ => 0) ⟨hj0, (show (j0 : Int64).toInt ≠ 0 ∨ ((j0 : Int64).toInt = 0 ∧ (j1 : Int64).toInt = 0) from by omega), trivial⟩ [] rfl rfl dX12_common_17 (Nat.le_of_ble_eq_true rfl) (Nat.le_of_ble_eq_true rfl)
set_option maxHeartbeats 4000000 in
set_option maxRecDepth 100000 in
theorem gX12_common_51a35d1 (l : Launch) (D : va_G) (cy : Nat → ClassId) (j0 : Int64) (j1 : Int64) (hj0 : (-9) ≤ (j0).toInt ∧ (j0).toInt ≤ 9) (hj1 : (-9) ≤ (j1).toInt ∧ (j1).toInt ≤ 9) (hpre0 : CM 9 9 (j0 : Int64).toInt (j1 : Int64).toInt) (sz : Nat) : ML l yX12_common cX12_common 4 { frames := 7, cells := 0, slots := 0, locals := 161 } [.long j0, .long j1] D cy [] sz (fun r u => ((-9) ≤ r.toInt ∧ r.toInt ≤ 9) ∧ ((r : Int64).toInt ≠ 0 ∨ ((j0 : Int64).toInt = 0 ∧ (j1 : Int64).toInt = 0)) ∧ True) (fun u => []) 0 0 := by
  refine q_ent (own := RX12) (by decide) rfl (Nat.le_of_ble_eq_true rfl) (fun p e s m below meth c ls X hr hlk hnm hK hT h hA hl => ?_)
  obtain ⟨hx, hb, hml, hown, ht⟩ := id X
  replace hl : lv_has ls 4 [(0, .long j0), (2, .long j1)] := hl
  refine lv_lload_n hx hb dX12_common_0 rfl (lv_at hl 1 rfl) ?_
  refine lv_lconst (v := 0) hx hb dX12_common_1 (by decide) ?_
  refine W.lcmp hx hb dX12_common_2 ?_
  refine lv_if_ne (tgt := 10) hx hb dX12_common_3 (by decide) (fun c_1 => ?_) (fun c_1 => ?_)
  · replace c_1 := j_neq (x := j1) (y := 0) rfl (show (0 : Int64).toInt = 0 by decide) c_1
    refine lv_lload_n hx hb dX12_common_10 rfl (lv_at hl 1 rfl) ?_
    refine lv_lload_n hx hb dX12_common_11 rfl (lv_at hl 0 rfl) ?_
    refine lv_lload_n hx hb dX12_common_12 rfl (lv_at hl 1 rfl) ?_
    refine lv_lrem hx hb dX12_common_13 (j_nz (by omega)) ?_
    obtain ⟨z_2, ez_2, hz_2⟩ := e_anyJ (j0 - j0 / j1 * j1)
    refine q_cl z_2 ez_2 ?_
    have cm_3 : CM 4 9 _ _ := cm_s (by decide) hpre0 (by omega) ez_2
    have cr_3 := cm_r cm_3
    refine q_callSl (rest := []) (wr := []) X hK hT hA h (fun sz => gX12_common_200335a l D cy j1 z_2 hj1 ⟨by omega, by omega⟩ (cm_3) sz) wm_8_20 wm_8_22 wm_1_12 hd_X12_common wm_8_21 ⟨Nat.le_of_ble_eq_true rfl, Nat.le_of_ble_eq_true rfl⟩ hl.1 rfl (Nat.le_of_ble_eq_true rfl) dX12_common_14 ⟨Nat.le_of_ble_eq_true rfl, Nat.le_of_ble_eq_true rfl⟩ [] [] rfl rfl (by decide) rfl rfl (fun r_4 u_4 H locs w_4 h_4 => ?_)
    clear h
    obtain ⟨wr_4, y4_0, _⟩ := w_4
    replace h_4 : qW D _ _ [] _ _ := h_4
    exact q_lret X hr hlk hK h_4 (fun _ => 0, fun _ _ => 0, fun _ _ => 0) ⟨wr_4, (show (r_4 : Int64).toInt ≠ 0 ∨ ((j0 : Int64).toInt = 0 ∧ (j1 : Int64).toInt = 0) from by omega), trivial⟩ [] rfl rfl dX12_common_17 (Nat.le_of_ble_eq_true rfl) (Nat.le_of_ble_eq_true rfl)
  · replace c_1 := j_eq (x := j1) (y := 0) rfl (show (0 : Int64).toInt = 0 by decide) c_1
    refine lv_lload_n hx hb dX12_common_6 rfl (lv_at hl 0 rfl) ?_
    refine lv_goto (tgt := 17) hx hb dX12_common_7 (by decide) ?_
    exact q_lret X hr hlk hK h (fun _ => 0, fun _ _ => 0, fun _ _ => 0) ⟨hj0, (show (j0 : Int64).toInt ≠ 0 ∨ ((j0 : Int64).toInt = 0 ∧ (j1 : Int64).toInt = 0) from by omega), trivial⟩ [] rfl rfl dX12_common_17 (Nat.le_of_ble_eq_true rfl) (Nat.le_of_ble_eq_true rfl)
set_option maxHeartbeats 4000000 in
set_option maxRecDepth 100000 in
theorem gX12_common_d718e6e (l : Launch) (D : va_G) (cy : Nat → ClassId) (j0 : Int64) (j1 : Int64) (hj0 : (-18) ≤ (j0).toInt ∧ (j0).toInt ≤ 18) (hj1 : (-9) ≤ (j1).toInt ∧ (j1).toInt ≤ 9) (hpre0 : CM 9 18 (j0 : Int64).toInt (j1 : Int64).toInt) (sz : Nat) : ML l yX12_common cX12_common 4 { frames := 8, cells := 0, slots := 0, locals := 184 } [.long j0, .long j1] D cy [] sz (fun r u => ((-18) ≤ r.toInt ∧ r.toInt ≤ 18) ∧ ((r : Int64).toInt ≠ 0 ∨ ((j0 : Int64).toInt = 0 ∧ (j1 : Int64).toInt = 0)) ∧ True) (fun u => []) 0 0 := by
  refine q_ent (own := RX12) (by decide) rfl (Nat.le_of_ble_eq_true rfl) (fun p e s m below meth c ls X hr hlk hnm hK hT h hA hl => ?_)
  obtain ⟨hx, hb, hml, hown, ht⟩ := id X
  replace hl : lv_has ls 4 [(0, .long j0), (2, .long j1)] := hl
  refine lv_lload_n hx hb dX12_common_0 rfl (lv_at hl 1 rfl) ?_
  refine lv_lconst (v := 0) hx hb dX12_common_1 (by decide) ?_
  refine W.lcmp hx hb dX12_common_2 ?_
  refine lv_if_ne (tgt := 10) hx hb dX12_common_3 (by decide) (fun c_1 => ?_) (fun c_1 => ?_)
  · replace c_1 := j_neq (x := j1) (y := 0) rfl (show (0 : Int64).toInt = 0 by decide) c_1
    refine lv_lload_n hx hb dX12_common_10 rfl (lv_at hl 1 rfl) ?_
    refine lv_lload_n hx hb dX12_common_11 rfl (lv_at hl 0 rfl) ?_
    refine lv_lload_n hx hb dX12_common_12 rfl (lv_at hl 1 rfl) ?_
    refine lv_lrem hx hb dX12_common_13 (j_nz (by omega)) ?_
    obtain ⟨z_2, ez_2, hz_2⟩ := e_anyJ (j0 - j0 / j1 * j1)
    refine q_cl z_2 ez_2 ?_
    have cm_3 : CM 9 9 _ _ := cm_s (by decide) hpre0 (by omega) ez_2
    have cr_3 := cm_r cm_3
    refine q_callSl (rest := []) (wr := []) X hK hT hA h (fun sz => gX12_common_51a35d1 l D cy j1 z_2 hj1 ⟨by omega, by omega⟩ (cm_3) sz) wm_8_20 wm_8_22 wm_1_12 hd_X12_common wm_8_21 ⟨Nat.le_of_ble_eq_true rfl, Nat.le_of_ble_eq_true rfl⟩ hl.1 rfl (Nat.le_of_ble_eq_true rfl) dX12_common_14 ⟨Nat.le_of_ble_eq_true rfl, Nat.le_of_ble_eq_true rfl⟩ [] [] rfl rfl (by decide) rfl rfl (fun r_4 u_4 H locs w_4 h_4 => ?_)
    clear h
    obtain ⟨wr_4, y4_0, _⟩ := w_4
    replace h_4 : qW D _ _ [] _ _ := h_4
    exact q_lret X hr hlk hK h_4 (fun _ => 0, fun _ _ => 0, fun _ _ => 0) ⟨(bw wr_4 (by decide) (by decide)), (show (r_4 : Int64).toInt ≠ 0 ∨ ((j0 : Int64).toInt = 0 ∧ (j1 : Int64).toInt = 0) from by omega), trivial⟩ [] rfl rfl dX12_common_17 (Nat.le_of_ble_eq_true rfl) (Nat.le_of_ble_eq_true rfl)
  · replace c_1 := j_eq (x := j1) (y := 0) rfl (show (0 : Int64).toInt = 0 by decide) c_1
    refine lv_lload_n hx hb dX12_common_6 rfl (lv_at hl 0 rfl) ?_
    refine lv_goto (tgt := 17) hx hb dX12_common_7 (by decide) ?_
    exact q_lret X hr hlk hK h (fun _ => 0, fun _ _ => 0, fun _ _ => 0) ⟨hj0, (show (j0 : Int64).toInt ≠ 0 ∨ ((j0 : Int64).toInt = 0 ∧ (j1 : Int64).toInt = 0) from by omega), trivial⟩ [] rfl rfl dX12_common_17 (Nat.le_of_ble_eq_true rfl) (Nat.le_of_ble_eq_true rfl)
set_option maxHeartbeats 4000000 in
set_option maxRecDepth 100000 in
theorem gX12_common_b69300c (l : Launch) (D : va_G) (cy : Nat → ClassId) (j0 : Int64) (j1 : Int64) (hj0 : (-18) ≤ (j0).toInt ∧ (j0).toInt ≤ 18) (hj1 : (-18) ≤ (j1).toInt ∧ (j1).toInt ≤ 18) (hpre0 : CM 18 18 (j0 : Int64).toInt (j1 : Int64).toInt) (sz : Nat) : ML l yX12_common cX12_common 4 { frames := 9, cells := 0, slots := 0, locals := 207 } [.long j0, .long j1] D cy [] sz (fun r u => ((-18) ≤ r.toInt ∧ r.toInt ≤ 18) ∧ ((r : Int64).toInt ≠ 0 ∨ ((j0 : Int64).toInt = 0 ∧ (j1 : Int64).toInt = 0)) ∧ True) (fun u => []) 0 0 := by
  refine q_ent (own := RX12) (by decide) rfl (Nat.le_of_ble_eq_true rfl) (fun p e s m below meth c ls X hr hlk hnm hK hT h hA hl => ?_)
  obtain ⟨hx, hb, hml, hown, ht⟩ := id X
  replace hl : lv_has ls 4 [(0, .long j0), (2, .long j1)] := hl
  refine lv_lload_n hx hb dX12_common_0 rfl (lv_at hl 1 rfl) ?_
  refine lv_lconst (v := 0) hx hb dX12_common_1 (by decide) ?_
  refine W.lcmp hx hb dX12_common_2 ?_
  refine lv_if_ne (tgt := 10) hx hb dX12_common_3 (by decide) (fun c_1 => ?_) (fun c_1 => ?_)
  · replace c_1 := j_neq (x := j1) (y := 0) rfl (show (0 : Int64).toInt = 0 by decide) c_1
    refine lv_lload_n hx hb dX12_common_10 rfl (lv_at hl 1 rfl) ?_
    refine lv_lload_n hx hb dX12_common_11 rfl (lv_at hl 0 rfl) ?_
    refine lv_lload_n hx hb dX12_common_12 rfl (lv_at hl 1 rfl) ?_
    refine lv_lrem hx hb dX12_common_13 (j_nz (by omega)) ?_
    obtain ⟨z_2, ez_2, hz_2⟩ := e_anyJ (j0 - j0 / j1 * j1)
    refine q_cl z_2 ez_2 ?_
    have cm_3 : CM 9 18 _ _ := cm_s (by decide) hpre0 (by omega) ez_2
    have cr_3 := cm_r cm_3
    refine q_callSl (rest := []) (wr := []) X hK hT hA h (fun sz => gX12_common_d718e6e l D cy j1 z_2 hj1 ⟨by omega, by omega⟩ (cm_3) sz) wm_8_20 wm_8_22 wm_1_12 hd_X12_common wm_8_21 ⟨Nat.le_of_ble_eq_true rfl, Nat.le_of_ble_eq_true rfl⟩ hl.1 rfl (Nat.le_of_ble_eq_true rfl) dX12_common_14 ⟨Nat.le_of_ble_eq_true rfl, Nat.le_of_ble_eq_true rfl⟩ [] [] rfl rfl (by decide) rfl rfl (fun r_4 u_4 H locs w_4 h_4 => ?_)
    clear h
    obtain ⟨wr_4, y4_0, _⟩ := w_4
    replace h_4 : qW D _ _ [] _ _ := h_4
    exact q_lret X hr hlk hK h_4 (fun _ => 0, fun _ _ => 0, fun _ _ => 0) ⟨wr_4, (show (r_4 : Int64).toInt ≠ 0 ∨ ((j0 : Int64).toInt = 0 ∧ (j1 : Int64).toInt = 0) from by omega), trivial⟩ [] rfl rfl dX12_common_17 (Nat.le_of_ble_eq_true rfl) (Nat.le_of_ble_eq_true rfl)
  · replace c_1 := j_eq (x := j1) (y := 0) rfl (show (0 : Int64).toInt = 0 by decide) c_1
    refine lv_lload_n hx hb dX12_common_6 rfl (lv_at hl 0 rfl) ?_
    refine lv_goto (tgt := 17) hx hb dX12_common_7 (by decide) ?_
    exact q_lret X hr hlk hK h (fun _ => 0, fun _ _ => 0, fun _ _ => 0) ⟨hj0, (show (j0 : Int64).toInt ≠ 0 ∨ ((j0 : Int64).toInt = 0 ∧ (j1 : Int64).toInt = 0) from by omega), trivial⟩ [] rfl rfl dX12_common_17 (Nat.le_of_ble_eq_true rfl) (Nat.le_of_ble_eq_true rfl)
set_option maxHeartbeats 4000000 in
set_option maxRecDepth 100000 in
theorem gX12_common_dffaee4 (l : Launch) (D : va_G) (cy : Nat → ClassId) (j0 : Int64) (j1 : Int64) (hj0 : (-37) ≤ (j0).toInt ∧ (j0).toInt ≤ 37) (hj1 : (-18) ≤ (j1).toInt ∧ (j1).toInt ≤ 18) (hpre0 : CM 18 37 (j0 : Int64).toInt (j1 : Int64).toInt) (sz : Nat) : ML l yX12_common cX12_common 4 { frames := 10, cells := 0, slots := 0, locals := 230 } [.long j0, .long j1] D cy [] sz (fun r u => ((-37) ≤ r.toInt ∧ r.toInt ≤ 37) ∧ ((r : Int64).toInt ≠ 0 ∨ ((j0 : Int64).toInt = 0 ∧ (j1 : Int64).toInt = 0)) ∧ True) (fun u => []) 0 0 := by
  refine q_ent (own := RX12) (by decide) rfl (Nat.le_of_ble_eq_true rfl) (fun p e s m below meth c ls X hr hlk hnm hK hT h hA hl => ?_)
  obtain ⟨hx, hb, hml, hown, ht⟩ := id X
  replace hl : lv_has ls 4 [(0, .long j0), (2, .long j1)] := hl
  refine lv_lload_n hx hb dX12_common_0 rfl (lv_at hl 1 rfl) ?_
  refine lv_lconst (v := 0) hx hb dX12_common_1 (by decide) ?_
  refine W.lcmp hx hb dX12_common_2 ?_
  refine lv_if_ne (tgt := 10) hx hb dX12_common_3 (by decide) (fun c_1 => ?_) (fun c_1 => ?_)
  · replace c_1 := j_neq (x := j1) (y := 0) rfl (show (0 : Int64).toInt = 0 by decide) c_1
    refine lv_lload_n hx hb dX12_common_10 rfl (lv_at hl 1 rfl) ?_
    refine lv_lload_n hx hb dX12_common_11 rfl (lv_at hl 0 rfl) ?_
    refine lv_lload_n hx hb dX12_common_12 rfl (lv_at hl 1 rfl) ?_
    refine lv_lrem hx hb dX12_common_13 (j_nz (by omega)) ?_
    obtain ⟨z_2, ez_2, hz_2⟩ := e_anyJ (j0 - j0 / j1 * j1)
    refine q_cl z_2 ez_2 ?_
    have cm_3 : CM 18 18 _ _ := cm_s (by decide) hpre0 (by omega) ez_2
    have cr_3 := cm_r cm_3
    refine q_callSl (rest := []) (wr := []) X hK hT hA h (fun sz => gX12_common_b69300c l D cy j1 z_2 hj1 ⟨by omega, by omega⟩ (cm_3) sz) wm_8_20 wm_8_22 wm_1_12 hd_X12_common wm_8_21 ⟨Nat.le_of_ble_eq_true rfl, Nat.le_of_ble_eq_true rfl⟩ hl.1 rfl (Nat.le_of_ble_eq_true rfl) dX12_common_14 ⟨Nat.le_of_ble_eq_true rfl, Nat.le_of_ble_eq_true rfl⟩ [] [] rfl rfl (by decide) rfl rfl (fun r_4 u_4 H locs w_4 h_4 => ?_)
    clear h
    obtain ⟨wr_4, y4_0, _⟩ := w_4
    replace h_4 : qW D _ _ [] _ _ := h_4
    exact q_lret X hr hlk hK h_4 (fun _ => 0, fun _ _ => 0, fun _ _ => 0) ⟨(bw wr_4 (by decide) (by decide)), (show (r_4 : Int64).toInt ≠ 0 ∨ ((j0 : Int64).toInt = 0 ∧ (j1 : Int64).toInt = 0) from by omega), trivial⟩ [] rfl rfl dX12_common_17 (Nat.le_of_ble_eq_true rfl) (Nat.le_of_ble_eq_true rfl)
  · replace c_1 := j_eq (x := j1) (y := 0) rfl (show (0 : Int64).toInt = 0 by decide) c_1
    refine lv_lload_n hx hb dX12_common_6 rfl (lv_at hl 0 rfl) ?_
    refine lv_goto (tgt := 17) hx hb dX12_common_7 (by decide) ?_
    exact q_lret X hr hlk hK h (fun _ => 0, fun _ _ => 0, fun _ _ => 0) ⟨hj0, (show (j0 : Int64).toInt ≠ 0 ∨ ((j0 : Int64).toInt = 0 ∧ (j1 : Int64).toInt = 0) from by omega), trivial⟩ [] rfl rfl dX12_common_17 (Nat.le_of_ble_eq_true rfl) (Nat.le_of_ble_eq_true rfl)
set_option maxHeartbeats 4000000 in
set_option maxRecDepth 100000 in
theorem gX12_common_f216987 (l : Launch) (D : va_G) (cy : Nat → ClassId) (j0 : Int64) (j1 : Int64) (hj0 : (-37) ≤ (j0).toInt ∧ (j0).toInt ≤ 37) (hj1 : (-37) ≤ (j1).toInt ∧ (j1).toInt ≤ 37) (hpre0 : CM 37 37 (j0 : Int64).toInt (j1 : Int64).toInt) (sz : Nat) : ML l yX12_common cX12_common 4 { frames := 11, cells := 0, slots := 0, locals := 253 } [.long j0, .long j1] D cy [] sz (fun r u => ((-37) ≤ r.toInt ∧ r.toInt ≤ 37) ∧ ((r : Int64).toInt ≠ 0 ∨ ((j0 : Int64).toInt = 0 ∧ (j1 : Int64).toInt = 0)) ∧ True) (fun u => []) 0 0 := by
  refine q_ent (own := RX12) (by decide) rfl (Nat.le_of_ble_eq_true rfl) (fun p e s m below meth c ls X hr hlk hnm hK hT h hA hl => ?_)
  obtain ⟨hx, hb, hml, hown, ht⟩ := id X
  replace hl : lv_has ls 4 [(0, .long j0), (2, .long j1)] := hl
  refine lv_lload_n hx hb dX12_common_0 rfl (lv_at hl 1 rfl) ?_
  refine lv_lconst (v := 0) hx hb dX12_common_1 (by decide) ?_
  refine W.lcmp hx hb dX12_common_2 ?_
  refine lv_if_ne (tgt := 10) hx hb dX12_common_3 (by decide) (fun c_1 => ?_) (fun c_1 => ?_)
  · replace c_1 := j_neq (x := j1) (y := 0) rfl (show (0 : Int64).toInt = 0 by decide) c_1
    refine lv_lload_n hx hb dX12_common_10 rfl (lv_at hl 1 rfl) ?_
    refine lv_lload_n hx hb dX12_common_11 rfl (lv_at hl 0 rfl) ?_
    refine lv_lload_n hx hb dX12_common_12 rfl (lv_at hl 1 rfl) ?_
    refine lv_lrem hx hb dX12_common_13 (j_nz (by omega)) ?_
    obtain ⟨z_2, ez_2, hz_2⟩ := e_anyJ (j0 - j0 / j1 * j1)
    refine q_cl z_2 ez_2 ?_
    have cm_3 : CM 18 37 _ _ := cm_s (by decide) hpre0 (by omega) ez_2
    have cr_3 := cm_r cm_3
    refine q_callSl (rest := []) (wr := []) X hK hT hA h (fun sz => gX12_common_dffaee4 l D cy j1 z_2 hj1 ⟨by omega, by omega⟩ (cm_3) sz) wm_8_20 wm_8_22 wm_1_12 hd_X12_common wm_8_21 ⟨Nat.le_of_ble_eq_true rfl, Nat.le_of_ble_eq_true rfl⟩ hl.1 rfl (Nat.le_of_ble_eq_true rfl) dX12_common_14 ⟨Nat.le_of_ble_eq_true rfl, Nat.le_of_ble_eq_true rfl⟩ [] [] rfl rfl (by decide) rfl rfl (fun r_4 u_4 H locs w_4 h_4 => ?_)
    clear h
    obtain ⟨wr_4, y4_0, _⟩ := w_4
    replace h_4 : qW D _ _ [] _ _ := h_4
    exact q_lret X hr hlk hK h_4 (fun _ => 0, fun _ _ => 0, fun _ _ => 0) ⟨wr_4, (show (r_4 : Int64).toInt ≠ 0 ∨ ((j0 : Int64).toInt = 0 ∧ (j1 : Int64).toInt = 0) from by omega), trivial⟩ [] rfl rfl dX12_common_17 (Nat.le_of_ble_eq_true rfl) (Nat.le_of_ble_eq_true rfl)
  · replace c_1 := j_eq (x := j1) (y := 0) rfl (show (0 : Int64).toInt = 0 by decide) c_1
    refine lv_lload_n hx hb dX12_common_6 rfl (lv_at hl 0 rfl) ?_
    refine lv_goto (tgt := 17) hx hb dX12_common_7 (by decide) ?_
    exact q_lret X hr hlk hK h (fun _ => 0, fun _ _ => 0, fun _ _ => 0) ⟨hj0, (show (j0 : Int64).toInt ≠ 0 ∨ ((j0 : Int64).toInt = 0 ∧ (j1 : Int64).toInt = 0) from by omega), trivial⟩ [] rfl rfl dX12_common_17 (Nat.le_of_ble_eq_true rfl) (Nat.le_of_ble_eq_true rfl)
set_option maxHeartbeats 4000000 in
set_option maxRecDepth 100000 in
theorem gX12_common_1d25713 (l : Launch) (D : va_G) (cy : Nat → ClassId) (j0 : Int64) (j1 : Int64) (hj0 : (-74) ≤ (j0).toInt ∧ (j0).toInt ≤ 74) (hj1 : (-37) ≤ (j1).toInt ∧ (j1).toInt ≤ 37) (hpre0 : CM 37 74 (j0 : Int64).toInt (j1 : Int64).toInt) (sz : Nat) : ML l yX12_common cX12_common 4 { frames := 12, cells := 0, slots := 0, locals := 276 } [.long j0, .long j1] D cy [] sz (fun r u => ((-74) ≤ r.toInt ∧ r.toInt ≤ 74) ∧ ((r : Int64).toInt ≠ 0 ∨ ((j0 : Int64).toInt = 0 ∧ (j1 : Int64).toInt = 0)) ∧ True) (fun u => []) 0 0 := by
  refine q_ent (own := RX12) (by decide) rfl (Nat.le_of_ble_eq_true rfl) (fun p e s m below meth c ls X hr hlk hnm hK hT h hA hl => ?_)
  obtain ⟨hx, hb, hml, hown, ht⟩ := id X
  replace hl : lv_has ls 4 [(0, .long j0), (2, .long j1)] := hl
  refine lv_lload_n hx hb dX12_common_0 rfl (lv_at hl 1 rfl) ?_
  refine lv_lconst (v := 0) hx hb dX12_common_1 (by decide) ?_
  refine W.lcmp hx hb dX12_common_2 ?_
  refine lv_if_ne (tgt := 10) hx hb dX12_common_3 (by decide) (fun c_1 => ?_) (fun c_1 => ?_)
  · replace c_1 := j_neq (x := j1) (y := 0) rfl (show (0 : Int64).toInt = 0 by decide) c_1
    refine lv_lload_n hx hb dX12_common_10 rfl (lv_at hl 1 rfl) ?_
    refine lv_lload_n hx hb dX12_common_11 rfl (lv_at hl 0 rfl) ?_
    refine lv_lload_n hx hb dX12_common_12 rfl (lv_at hl 1 rfl) ?_
    refine lv_lrem hx hb dX12_common_13 (j_nz (by omega)) ?_
    obtain ⟨z_2, ez_2, hz_2⟩ := e_anyJ (j0 - j0 / j1 * j1)
    refine q_cl z_2 ez_2 ?_
    have cm_3 : CM 37 37 _ _ := cm_s (by decide) hpre0 (by omega) ez_2
    have cr_3 := cm_r cm_3
    refine q_callSl (rest := []) (wr := []) X hK hT hA h (fun sz => gX12_common_f216987 l D cy j1 z_2 hj1 ⟨by omega, by omega⟩ (cm_3) sz) wm_8_20 wm_8_22 wm_1_12 hd_X12_common wm_8_21 ⟨Nat.le_of_ble_eq_true rfl, Nat.le_of_ble_eq_true rfl⟩ hl.1 rfl (Nat.le_of_ble_eq_true rfl) dX12_common_14 ⟨Nat.le_of_ble_eq_true rfl, Nat.le_of_ble_eq_true rfl⟩ [] [] rfl rfl (by decide) rfl rfl (fun r_4 u_4 H locs w_4 h_4 => ?_)
    clear h
    obtain ⟨wr_4, y4_0, _⟩ := w_4
    replace h_4 : qW D _ _ [] _ _ := h_4
    exact q_lret X hr hlk hK h_4 (fun _ => 0, fun _ _ => 0, fun _ _ => 0) ⟨(bw wr_4 (by decide) (by decide)), (show (r_4 : Int64).toInt ≠ 0 ∨ ((j0 : Int64).toInt = 0 ∧ (j1 : Int64).toInt = 0) from by omega), trivial⟩ [] rfl rfl dX12_common_17 (Nat.le_of_ble_eq_true rfl) (Nat.le_of_ble_eq_true rfl)
  · replace c_1 := j_eq (x := j1) (y := 0) rfl (show (0 : Int64).toInt = 0 by decide) c_1
    refine lv_lload_n hx hb dX12_common_6 rfl (lv_at hl 0 rfl) ?_
    refine lv_goto (tgt := 17) hx hb dX12_common_7 (by decide) ?_
    exact q_lret X hr hlk hK h (fun _ => 0, fun _ _ => 0, fun _ _ => 0) ⟨hj0, (show (j0 : Int64).toInt ≠ 0 ∨ ((j0 : Int64).toInt = 0 ∧ (j1 : Int64).toInt = 0) from by omega), trivial⟩ [] rfl rfl dX12_common_17 (Nat.le_of_ble_eq_true rfl) (Nat.le_of_ble_eq_true rfl)
set_option maxHeartbeats 4000000 in
set_option maxRecDepth 100000 in
theorem gX12_common_dd3d7b5 (l : Launch) (D : va_G) (cy : Nat → ClassId) (j0 : Int64) (j1 : Int64) (hj0 : (-74) ≤ (j0).toInt ∧ (j0).toInt ≤ 74) (hj1 : (-74) ≤ (j1).toInt ∧ (j1).toInt ≤ 74) (hpre0 : CM 74 74 (j0 : Int64).toInt (j1 : Int64).toInt) (sz : Nat) : ML l yX12_common cX12_common 4 { frames := 13, cells := 0, slots := 0, locals := 299 } [.long j0, .long j1] D cy [] sz (fun r u => ((-74) ≤ r.toInt ∧ r.toInt ≤ 74) ∧ ((r : Int64).toInt ≠ 0 ∨ ((j0 : Int64).toInt = 0 ∧ (j1 : Int64).toInt = 0)) ∧ True) (fun u => []) 0 0 := by
  refine q_ent (own := RX12) (by decide) rfl (Nat.le_of_ble_eq_true rfl) (fun p e s m below meth c ls X hr hlk hnm hK hT h hA hl => ?_)
  obtain ⟨hx, hb, hml, hown, ht⟩ := id X
  replace hl : lv_has ls 4 [(0, .long j0), (2, .long j1)] := hl
  refine lv_lload_n hx hb dX12_common_0 rfl (lv_at hl 1 rfl) ?_
  refine lv_lconst (v := 0) hx hb dX12_common_1 (by decide) ?_
  refine W.lcmp hx hb dX12_common_2 ?_
  refine lv_if_ne (tgt := 10) hx hb dX12_common_3 (by decide) (fun c_1 => ?_) (fun c_1 => ?_)
  · replace c_1 := j_neq (x := j1) (y := 0) rfl (show (0 : Int64).toInt = 0 by decide) c_1
    refine lv_lload_n hx hb dX12_common_10 rfl (lv_at hl 1 rfl) ?_
    refine lv_lload_n hx hb dX12_common_11 rfl (lv_at hl 0 rfl) ?_
    refine lv_lload_n hx hb dX12_common_12 rfl (lv_at hl 1 rfl) ?_
    refine lv_lrem hx hb dX12_common_13 (j_nz (by omega)) ?_
    obtain ⟨z_2, ez_2, hz_2⟩ := e_anyJ (j0 - j0 / j1 * j1)
    refine q_cl z_2 ez_2 ?_
    have cm_3 : CM 37 74 _ _ := cm_s (by decide) hpre0 (by omega) ez_2
    have cr_3 := cm_r cm_3
    refine q_callSl (rest := []) (wr := []) X hK hT hA h (fun sz => gX12_common_1d25713 l D cy j1 z_2 hj1 ⟨by omega, by omega⟩ (cm_3) sz) wm_8_20 wm_8_22 wm_1_12 hd_X12_common wm_8_21 ⟨Nat.le_of_ble_eq_true rfl, Nat.le_of_ble_eq_true rfl⟩ hl.1 rfl (Nat.le_of_ble_eq_true rfl) dX12_common_14 ⟨Nat.le_of_ble_eq_true rfl, Nat.le_of_ble_eq_true rfl⟩ [] [] rfl rfl (by decide) rfl rfl (fun r_4 u_4 H locs w_4 h_4 => ?_)
    clear h
    obtain ⟨wr_4, y4_0, _⟩ := w_4
    replace h_4 : qW D _ _ [] _ _ := h_4
    exact q_lret X hr hlk hK h_4 (fun _ => 0, fun _ _ => 0, fun _ _ => 0) ⟨wr_4, (show (r_4 : Int64).toInt ≠ 0 ∨ ((j0 : Int64).toInt = 0 ∧ (j1 : Int64).toInt = 0) from by omega), trivial⟩ [] rfl rfl dX12_common_17 (Nat.le_of_ble_eq_true rfl) (Nat.le_of_ble_eq_true rfl)
  · replace c_1 := j_eq (x := j1) (y := 0) rfl (show (0 : Int64).toInt = 0 by decide) c_1
    refine lv_lload_n hx hb dX12_common_6 rfl (lv_at hl 0 rfl) ?_
    refine lv_goto (tgt := 17) hx hb dX12_common_7 (by decide) ?_
    exact q_lret X hr hlk hK h (fun _ => 0, fun _ _ => 0, fun _ _ => 0) ⟨hj0, (show (j0 : Int64).toInt ≠ 0 ∨ ((j0 : Int64).toInt = 0 ∧ (j1 : Int64).toInt = 0) from by omega), trivial⟩ [] rfl rfl dX12_common_17 (Nat.le_of_ble_eq_true rfl) (Nat.le_of_ble_eq_true rfl)
set_option maxHeartbeats 4000000 in
set_option maxRecDepth 100000 in
theorem gX12_common_332fa0e (l : Launch) (D : va_G) (cy : Nat → ClassId) (j0 : Int64) (j1 : Int64) (hj0 : (-149) ≤ (j0).toInt ∧ (j0).toInt ≤ 149) (hj1 : (-74) ≤ (j1).toInt ∧ (j1).toInt ≤ 74) (hpre0 : CM 74 149 (j0 : Int64).toInt (j1 : Int64).toInt) (sz : Nat) : ML l yX12_common cX12_common 4 { frames := 14, cells := 0, slots := 0, locals := 322 } [.long j0, .long j1] D cy [] sz (fun r u => ((-149) ≤ r.toInt ∧ r.toInt ≤ 149) ∧ ((r : Int64).toInt ≠ 0 ∨ ((j0 : Int64).toInt = 0 ∧ (j1 : Int64).toInt = 0)) ∧ True) (fun u => []) 0 0 := by
  refine q_ent (own := RX12) (by decide) rfl (Nat.le_of_ble_eq_true rfl) (fun p e s m below meth c ls X hr hlk hnm hK hT h hA hl => ?_)
  obtain ⟨hx, hb, hml, hown, ht⟩ := id X
  replace hl : lv_has ls 4 [(0, .long j0), (2, .long j1)] := hl
  refine lv_lload_n hx hb dX12_common_0 rfl (lv_at hl 1 rfl) ?_
  refine lv_lconst (v := 0) hx hb dX12_common_1 (by decide) ?_
  refine W.lcmp hx hb dX12_common_2 ?_
  refine lv_if_ne (tgt := 10) hx hb dX12_common_3 (by decide) (fun c_1 => ?_) (fun c_1 => ?_)
  · replace c_1 := j_neq (x := j1) (y := 0) rfl (show (0 : Int64).toInt = 0 by decide) c_1
    refine lv_lload_n hx hb dX12_common_10 rfl (lv_at hl 1 rfl) ?_
    refine lv_lload_n hx hb dX12_common_11 rfl (lv_at hl 0 rfl) ?_
    refine lv_lload_n hx hb dX12_common_12 rfl (lv_at hl 1 rfl) ?_
    refine lv_lrem hx hb dX12_common_13 (j_nz (by omega)) ?_
    obtain ⟨z_2, ez_2, hz_2⟩ := e_anyJ (j0 - j0 / j1 * j1)
    refine q_cl z_2 ez_2 ?_
    have cm_3 : CM 74 74 _ _ := cm_s (by decide) hpre0 (by omega) ez_2
    have cr_3 := cm_r cm_3
    refine q_callSl (rest := []) (wr := []) X hK hT hA h (fun sz => gX12_common_dd3d7b5 l D cy j1 z_2 hj1 ⟨by omega, by omega⟩ (cm_3) sz) wm_8_20 wm_8_22 wm_1_12 hd_X12_common wm_8_21 ⟨Nat.le_of_ble_eq_true rfl, Nat.le_of_ble_eq_true rfl⟩ hl.1 rfl (Nat.le_of_ble_eq_true rfl) dX12_common_14 ⟨Nat.le_of_ble_eq_true rfl, Nat.le_of_ble_eq_true rfl⟩ [] [] rfl rfl (by decide) rfl rfl (fun r_4 u_4 H locs w_4 h_4 => ?_)
    clear h
    obtain ⟨wr_4, y4_0, _⟩ := w_4
    replace h_4 : qW D _ _ [] _ _ := h_4
    exact q_lret X hr hlk hK h_4 (fun _ => 0, fun _ _ => 0, fun _ _ => 0) ⟨(bw wr_4 (by decide) (by decide)), (show (r_4 : Int64).toInt ≠ 0 ∨ ((j0 : Int64).toInt = 0 ∧ (j1 : Int64).toInt = 0) from by omega), trivial⟩ [] rfl rfl dX12_common_17 (Nat.le_of_ble_eq_true rfl) (Nat.le_of_ble_eq_true rfl)
  · replace c_1 := j_eq (x := j1) (y := 0) rfl (show (0 : Int64).toInt = 0 by decide) c_1
    refine lv_lload_n hx hb dX12_common_6 rfl (lv_at hl 0 rfl) ?_
    refine lv_goto (tgt := 17) hx hb dX12_common_7 (by decide) ?_
    exact q_lret X hr hlk hK h (fun _ => 0, fun _ _ => 0, fun _ _ => 0) ⟨hj0, (show (j0 : Int64).toInt ≠ 0 ∨ ((j0 : Int64).toInt = 0 ∧ (j1 : Int64).toInt = 0) from by omega), trivial⟩ [] rfl rfl dX12_common_17 (Nat.le_of_ble_eq_true rfl) (Nat.le_of_ble_eq_true rfl)
set_option maxHeartbeats 4000000 in
set_option maxRecDepth 100000 in
theorem gX12_common_d03365d (l : Launch) (D : va_G) (cy : Nat → ClassId) (j0 : Int64) (j1 : Int64) (hj0 : (-149) ≤ (j0).toInt ∧ (j0).toInt ≤ 149) (hj1 : (-149) ≤ (j1).toInt ∧ (j1).toInt ≤ 149) (hpre0 : CM 149 149 (j0 : Int64).toInt (j1 : Int64).toInt) (sz : Nat) : ML l yX12_common cX12_common 4 { frames := 15, cells := 0, slots := 0, locals := 345 } [.long j0, .long j1] D cy [] sz (fun r u => ((-149) ≤ r.toInt ∧ r.toInt ≤ 149) ∧ ((r : Int64).toInt ≠ 0 ∨ ((j0 : Int64).toInt = 0 ∧ (j1 : Int64).toInt = 0)) ∧ True) (fun u => []) 0 0 := by
  refine q_ent (own := RX12) (by decide) rfl (Nat.le_of_ble_eq_true rfl) (fun p e s m below meth c ls X hr hlk hnm hK hT h hA hl => ?_)
  obtain ⟨hx, hb, hml, hown, ht⟩ := id X
  replace hl : lv_has ls 4 [(0, .long j0), (2, .long j1)] := hl
  refine lv_lload_n hx hb dX12_common_0 rfl (lv_at hl 1 rfl) ?_
  refine lv_lconst (v := 0) hx hb dX12_common_1 (by decide) ?_
  refine W.lcmp hx hb dX12_common_2 ?_
  refine lv_if_ne (tgt := 10) hx hb dX12_common_3 (by decide) (fun c_1 => ?_) (fun c_1 => ?_)
  · replace c_1 := j_neq (x := j1) (y := 0) rfl (show (0 : Int64).toInt = 0 by decide) c_1
    refine lv_lload_n hx hb dX12_common_10 rfl (lv_at hl 1 rfl) ?_
    refine lv_lload_n hx hb dX12_common_11 rfl (lv_at hl 0 rfl) ?_
    refine lv_lload_n hx hb dX12_common_12 rfl (lv_at hl 1 rfl) ?_
    refine lv_lrem hx hb dX12_common_13 (j_nz (by omega)) ?_
    obtain ⟨z_2, ez_2, hz_2⟩ := e_anyJ (j0 - j0 / j1 * j1)
    refine q_cl z_2 ez_2 ?_
    have cm_3 : CM 74 149 _ _ := cm_s (by decide) hpre0 (by omega) ez_2
    have cr_3 := cm_r cm_3
    refine q_callSl (rest := []) (wr := []) X hK hT hA h (fun sz => gX12_common_332fa0e l D cy j1 z_2 hj1 ⟨by omega, by omega⟩ (cm_3) sz) wm_8_20 wm_8_22 wm_1_12 hd_X12_common wm_8_21 ⟨Nat.le_of_ble_eq_true rfl, Nat.le_of_ble_eq_true rfl⟩ hl.1 rfl (Nat.le_of_ble_eq_true rfl) dX12_common_14 ⟨Nat.le_of_ble_eq_true rfl, Nat.le_of_ble_eq_true rfl⟩ [] [] rfl rfl (by decide) rfl rfl (fun r_4 u_4 H locs w_4 h_4 => ?_)
    clear h
    obtain ⟨wr_4, y4_0, _⟩ := w_4
    replace h_4 : qW D _ _ [] _ _ := h_4
    exact q_lret X hr hlk hK h_4 (fun _ => 0, fun _ _ => 0, fun _ _ => 0) ⟨wr_4, (show (r_4 : Int64).toInt ≠ 0 ∨ ((j0 : Int64).toInt = 0 ∧ (j1 : Int64).toInt = 0) from by omega), trivial⟩ [] rfl rfl dX12_common_17 (Nat.le_of_ble_eq_true rfl) (Nat.le_of_ble_eq_true rfl)
  · replace c_1 := j_eq (x := j1) (y := 0) rfl (show (0 : Int64).toInt = 0 by decide) c_1
    refine lv_lload_n hx hb dX12_common_6 rfl (lv_at hl 0 rfl) ?_
    refine lv_goto (tgt := 17) hx hb dX12_common_7 (by decide) ?_
    exact q_lret X hr hlk hK h (fun _ => 0, fun _ _ => 0, fun _ _ => 0) ⟨hj0, (show (j0 : Int64).toInt ≠ 0 ∨ ((j0 : Int64).toInt = 0 ∧ (j1 : Int64).toInt = 0) from by omega), trivial⟩ [] rfl rfl dX12_common_17 (Nat.le_of_ble_eq_true rfl) (Nat.le_of_ble_eq_true rfl)
set_option maxHeartbeats 4000000 in
set_option maxRecDepth 100000 in
theorem gX12_common_d669f04 (l : Launch) (D : va_G) (cy : Nat → ClassId) (j0 : Int64) (j1 : Int64) (hj0 : (-298) ≤ (j0).toInt ∧ (j0).toInt ≤ 298) (hj1 : (-149) ≤ (j1).toInt ∧ (j1).toInt ≤ 149) (hpre0 : CM 149 298 (j0 : Int64).toInt (j1 : Int64).toInt) (sz : Nat) : ML l yX12_common cX12_common 4 { frames := 16, cells := 0, slots := 0, locals := 368 } [.long j0, .long j1] D cy [] sz (fun r u => ((-298) ≤ r.toInt ∧ r.toInt ≤ 298) ∧ ((r : Int64).toInt ≠ 0 ∨ ((j0 : Int64).toInt = 0 ∧ (j1 : Int64).toInt = 0)) ∧ True) (fun u => []) 0 0 := by
  refine q_ent (own := RX12) (by decide) rfl (Nat.le_of_ble_eq_true rfl) (fun p e s m below meth c ls X hr hlk hnm hK hT h hA hl => ?_)
  obtain ⟨hx, hb, hml, hown, ht⟩ := id X
  replace hl : lv_has ls 4 [(0, .long j0), (2, .long j1)] := hl
  refine lv_lload_n hx hb dX12_common_0 rfl (lv_at hl 1 rfl) ?_
  refine lv_lconst (v := 0) hx hb dX12_common_1 (by decide) ?_
  refine W.lcmp hx hb dX12_common_2 ?_
  refine lv_if_ne (tgt := 10) hx hb dX12_common_3 (by decide) (fun c_1 => ?_) (fun c_1 => ?_)
  · replace c_1 := j_neq (x := j1) (y := 0) rfl (show (0 : Int64).toInt = 0 by decide) c_1
    refine lv_lload_n hx hb dX12_common_10 rfl (lv_at hl 1 rfl) ?_
    refine lv_lload_n hx hb dX12_common_11 rfl (lv_at hl 0 rfl) ?_
    refine lv_lload_n hx hb dX12_common_12 rfl (lv_at hl 1 rfl) ?_
    refine lv_lrem hx hb dX12_common_13 (j_nz (by omega)) ?_
    obtain ⟨z_2, ez_2, hz_2⟩ := e_anyJ (j0 - j0 / j1 * j1)
    refine q_cl z_2 ez_2 ?_
    have cm_3 : CM 149 149 _ _ := cm_s (by decide) hpre0 (by omega) ez_2
    have cr_3 := cm_r cm_3
    refine q_callSl (rest := []) (wr := []) X hK hT hA h (fun sz => gX12_common_d03365d l D cy j1 z_2 hj1 ⟨by omega, by omega⟩ (cm_3) sz) wm_8_20 wm_8_22 wm_1_12 hd_X12_common wm_8_21 ⟨Nat.le_of_ble_eq_true rfl, Nat.le_of_ble_eq_true rfl⟩ hl.1 rfl (Nat.le_of_ble_eq_true rfl) dX12_common_14 ⟨Nat.le_of_ble_eq_true rfl, Nat.le_of_ble_eq_true rfl⟩ [] [] rfl rfl (by decide) rfl rfl (fun r_4 u_4 H locs w_4 h_4 => ?_)
    clear h
    obtain ⟨wr_4, y4_0, _⟩ := w_4
    replace h_4 : qW D _ _ [] _ _ := h_4
    exact q_lret X hr hlk hK h_4 (fun _ => 0, fun _ _ => 0, fun _ _ => 0) ⟨(bw wr_4 (by decide) (by decide)), (show (r_4 : Int64).toInt ≠ 0 ∨ ((j0 : Int64).toInt = 0 ∧ (j1 : Int64).toInt = 0) from by omega), trivial⟩ [] rfl rfl dX12_common_17 (Nat.le_of_ble_eq_true rfl) (Nat.le_of_ble_eq_true rfl)
  · replace c_1 := j_eq (x := j1) (y := 0) rfl (show (0 : Int64).toInt = 0 by decide) c_1
    refine lv_lload_n hx hb dX12_common_6 rfl (lv_at hl 0 rfl) ?_
    refine lv_goto (tgt := 17) hx hb dX12_common_7 (by decide) ?_
    exact q_lret X hr hlk hK h (fun _ => 0, fun _ _ => 0, fun _ _ => 0) ⟨hj0, (show (j0 : Int64).toInt ≠ 0 ∨ ((j0 : Int64).toInt = 0 ∧ (j1 : Int64).toInt = 0) from by omega), trivial⟩ [] rfl rfl dX12_common_17 (Nat.le_of_ble_eq_true rfl) (Nat.le_of_ble_eq_true rfl)
set_option maxHeartbeats 4000000 in
set_option maxRecDepth 100000 in
theorem gX12_common_fd0d059 (l : Launch) (D : va_G) (cy : Nat → ClassId) (j0 : Int64) (j1 : Int64) (hj0 : (-298) ≤ (j0).toInt ∧ (j0).toInt ≤ 298) (hj1 : (-298) ≤ (j1).toInt ∧ (j1).toInt ≤ 298) (hpre0 : CM 298 298 (j0 : Int64).toInt (j1 : Int64).toInt) (sz : Nat) : ML l yX12_common cX12_common 4 { frames := 17, cells := 0, slots := 0, locals := 391 } [.long j0, .long j1] D cy [] sz (fun r u => ((-298) ≤ r.toInt ∧ r.toInt ≤ 298) ∧ ((r : Int64).toInt ≠ 0 ∨ ((j0 : Int64).toInt = 0 ∧ (j1 : Int64).toInt = 0)) ∧ True) (fun u => []) 0 0 := by
  refine q_ent (own := RX12) (by decide) rfl (Nat.le_of_ble_eq_true rfl) (fun p e s m below meth c ls X hr hlk hnm hK hT h hA hl => ?_)
  obtain ⟨hx, hb, hml, hown, ht⟩ := id X
  replace hl : lv_has ls 4 [(0, .long j0), (2, .long j1)] := hl
  refine lv_lload_n hx hb dX12_common_0 rfl (lv_at hl 1 rfl) ?_
  refine lv_lconst (v := 0) hx hb dX12_common_1 (by decide) ?_
  refine W.lcmp hx hb dX12_common_2 ?_
  refine lv_if_ne (tgt := 10) hx hb dX12_common_3 (by decide) (fun c_1 => ?_) (fun c_1 => ?_)
  · replace c_1 := j_neq (x := j1) (y := 0) rfl (show (0 : Int64).toInt = 0 by decide) c_1
    refine lv_lload_n hx hb dX12_common_10 rfl (lv_at hl 1 rfl) ?_
    refine lv_lload_n hx hb dX12_common_11 rfl (lv_at hl 0 rfl) ?_
    refine lv_lload_n hx hb dX12_common_12 rfl (lv_at hl 1 rfl) ?_
    refine lv_lrem hx hb dX12_common_13 (j_nz (by omega)) ?_
    obtain ⟨z_2, ez_2, hz_2⟩ := e_anyJ (j0 - j0 / j1 * j1)
    refine q_cl z_2 ez_2 ?_
    have cm_3 : CM 149 298 _ _ := cm_s (by decide) hpre0 (by omega) ez_2
    have cr_3 := cm_r cm_3
    refine q_callSl (rest := []) (wr := []) X hK hT hA h (fun sz => gX12_common_d669f04 l D cy j1 z_2 hj1 ⟨by omega, by omega⟩ (cm_3) sz) wm_8_20 wm_8_22 wm_1_12 hd_X12_common wm_8_21 ⟨Nat.le_of_ble_eq_true rfl, Nat.le_of_ble_eq_true rfl⟩ hl.1 rfl (Nat.le_of_ble_eq_true rfl) dX12_common_14 ⟨Nat.le_of_ble_eq_true rfl, Nat.le_of_ble_eq_true rfl⟩ [] [] rfl rfl (by decide) rfl rfl (fun r_4 u_4 H locs w_4 h_4 => ?_)
    clear h
    obtain ⟨wr_4, y4_0, _⟩ := w_4
    replace h_4 : qW D _ _ [] _ _ := h_4
    exact q_lret X hr hlk hK h_4 (fun _ => 0, fun _ _ => 0, fun _ _ => 0) ⟨wr_4, (show (r_4 : Int64).toInt ≠ 0 ∨ ((j0 : Int64).toInt = 0 ∧ (j1 : Int64).toInt = 0) from by omega), trivial⟩ [] rfl rfl dX12_common_17 (Nat.le_of_ble_eq_true rfl) (Nat.le_of_ble_eq_true rfl)
  · replace c_1 := j_eq (x := j1) (y := 0) rfl (show (0 : Int64).toInt = 0 by decide) c_1
    refine lv_lload_n hx hb dX12_common_6 rfl (lv_at hl 0 rfl) ?_
    refine lv_goto (tgt := 17) hx hb dX12_common_7 (by decide) ?_
    exact q_lret X hr hlk hK h (fun _ => 0, fun _ _ => 0, fun _ _ => 0) ⟨hj0, (show (j0 : Int64).toInt ≠ 0 ∨ ((j0 : Int64).toInt = 0 ∧ (j1 : Int64).toInt = 0) from by omega), trivial⟩ [] rfl rfl dX12_common_17 (Nat.le_of_ble_eq_true rfl) (Nat.le_of_ble_eq_true rfl)
set_option maxHeartbeats 4000000 in
set_option maxRecDepth 100000 in
theorem gX12_common_c9fbc46 (l : Launch) (D : va_G) (cy : Nat → ClassId) (j0 : Int64) (j1 : Int64) (hj0 : (-596) ≤ (j0).toInt ∧ (j0).toInt ≤ 596) (hj1 : (-298) ≤ (j1).toInt ∧ (j1).toInt ≤ 298) (hpre0 : CM 298 596 (j0 : Int64).toInt (j1 : Int64).toInt) (sz : Nat) : ML l yX12_common cX12_common 4 { frames := 18, cells := 0, slots := 0, locals := 414 } [.long j0, .long j1] D cy [] sz (fun r u => ((-596) ≤ r.toInt ∧ r.toInt ≤ 596) ∧ ((r : Int64).toInt ≠ 0 ∨ ((j0 : Int64).toInt = 0 ∧ (j1 : Int64).toInt = 0)) ∧ True) (fun u => []) 0 0 := by
  refine q_ent (own := RX12) (by decide) rfl (Nat.le_of_ble_eq_true rfl) (fun p e s m below meth c ls X hr hlk hnm hK hT h hA hl => ?_)
  obtain ⟨hx, hb, hml, hown, ht⟩ := id X
  replace hl : lv_has ls 4 [(0, .long j0), (2, .long j1)] := hl
  refine lv_lload_n hx hb dX12_common_0 rfl (lv_at hl 1 rfl) ?_
  refine lv_lconst (v := 0) hx hb dX12_common_1 (by decide) ?_
  refine W.lcmp hx hb dX12_common_2 ?_
  refine lv_if_ne (tgt := 10) hx hb dX12_common_3 (by decide) (fun c_1 => ?_) (fun c_1 => ?_)
  · replace c_1 := j_neq (x := j1) (y := 0) rfl (show (0 : Int64).toInt = 0 by decide) c_1
    refine lv_lload_n hx hb dX12_common_10 rfl (lv_at hl 1 rfl) ?_
    refine lv_lload_n hx hb dX12_common_11 rfl (lv_at hl 0 rfl) ?_
    refine lv_lload_n hx hb dX12_common_12 rfl (lv_at hl 1 rfl) ?_
    refine lv_lrem hx hb dX12_common_13 (j_nz (by omega)) ?_
    obtain ⟨z_2, ez_2, hz_2⟩ := e_anyJ (j0 - j0 / j1 * j1)
    refine q_cl z_2 ez_2 ?_
    have cm_3 : CM 298 298 _ _ := cm_s (by decide) hpre0 (by omega) ez_2
    have cr_3 := cm_r cm_3
    refine q_callSl (rest := []) (wr := []) X hK hT hA h (fun sz => gX12_common_fd0d059 l D cy j1 z_2 hj1 ⟨by omega, by omega⟩ (cm_3) sz) wm_8_20 wm_8_22 wm_1_12 hd_X12_common wm_8_21 ⟨Nat.le_of_ble_eq_true rfl, Nat.le_of_ble_eq_true rfl⟩ hl.1 rfl (Nat.le_of_ble_eq_true rfl) dX12_common_14 ⟨Nat.le_of_ble_eq_true rfl, Nat.le_of_ble_eq_true rfl⟩ [] [] rfl rfl (by decide) rfl rfl (fun r_4 u_4 H locs w_4 h_4 => ?_)
    clear h
    obtain ⟨wr_4, y4_0, _⟩ := w_4
    replace h_4 : qW D _ _ [] _ _ := h_4
    exact q_lret X hr hlk hK h_4 (fun _ => 0, fun _ _ => 0, fun _ _ => 0) ⟨(bw wr_4 (by decide) (by decide)), (show (r_4 : Int64).toInt ≠ 0 ∨ ((j0 : Int64).toInt = 0 ∧ (j1 : Int64).toInt = 0) from by omega), trivial⟩ [] rfl rfl dX12_common_17 (Nat.le_of_ble_eq_true rfl) (Nat.le_of_ble_eq_true rfl)
  · replace c_1 := j_eq (x := j1) (y := 0) rfl (show (0 : Int64).toInt = 0 by decide) c_1
    refine lv_lload_n hx hb dX12_common_6 rfl (lv_at hl 0 rfl) ?_
    refine lv_goto (tgt := 17) hx hb dX12_common_7 (by decide) ?_
    exact q_lret X hr hlk hK h (fun _ => 0, fun _ _ => 0, fun _ _ => 0) ⟨hj0, (show (j0 : Int64).toInt ≠ 0 ∨ ((j0 : Int64).toInt = 0 ∧ (j1 : Int64).toInt = 0) from by omega), trivial⟩ [] rfl rfl dX12_common_17 (Nat.le_of_ble_eq_true rfl) (Nat.le_of_ble_eq_true rfl)
set_option maxHeartbeats 4000000 in
set_option maxRecDepth 100000 in
theorem gX12_common_9f981a0 (l : Launch) (D : va_G) (cy : Nat → ClassId) (j0 : Int64) (j1 : Int64) (hj0 : (-596) ≤ (j0).toInt ∧ (j0).toInt ≤ 596) (hj1 : (-596) ≤ (j1).toInt ∧ (j1).toInt ≤ 596) (hpre0 : CM 596 596 (j0 : Int64).toInt (j1 : Int64).toInt) (sz : Nat) : ML l yX12_common cX12_common 4 { frames := 19, cells := 0, slots := 0, locals := 437 } [.long j0, .long j1] D cy [] sz (fun r u => ((-596) ≤ r.toInt ∧ r.toInt ≤ 596) ∧ ((r : Int64).toInt ≠ 0 ∨ ((j0 : Int64).toInt = 0 ∧ (j1 : Int64).toInt = 0)) ∧ True) (fun u => []) 0 0 := by
  refine q_ent (own := RX12) (by decide) rfl (Nat.le_of_ble_eq_true rfl) (fun p e s m below meth c ls X hr hlk hnm hK hT h hA hl => ?_)
  obtain ⟨hx, hb, hml, hown, ht⟩ := id X
  replace hl : lv_has ls 4 [(0, .long j0), (2, .long j1)] := hl
  refine lv_lload_n hx hb dX12_common_0 rfl (lv_at hl 1 rfl) ?_
  refine lv_lconst (v := 0) hx hb dX12_common_1 (by decide) ?_
  refine W.lcmp hx hb dX12_common_2 ?_
  refine lv_if_ne (tgt := 10) hx hb dX12_common_3 (by decide) (fun c_1 => ?_) (fun c_1 => ?_)
  · replace c_1 := j_neq (x := j1) (y := 0) rfl (show (0 : Int64).toInt = 0 by decide) c_1
    refine lv_lload_n hx hb dX12_common_10 rfl (lv_at hl 1 rfl) ?_
    refine lv_lload_n hx hb dX12_common_11 rfl (lv_at hl 0 rfl) ?_
    refine lv_lload_n hx hb dX12_common_12 rfl (lv_at hl 1 rfl) ?_
    refine lv_lrem hx hb dX12_common_13 (j_nz (by omega)) ?_
    obtain ⟨z_2, ez_2, hz_2⟩ := e_anyJ (j0 - j0 / j1 * j1)
    refine q_cl z_2 ez_2 ?_
    have cm_3 : CM 298 596 _ _ := cm_s (by decide) hpre0 (by omega) ez_2
    have cr_3 := cm_r cm_3
    refine q_callSl (rest := []) (wr := []) X hK hT hA h (fun sz => gX12_common_c9fbc46 l D cy j1 z_2 hj1 ⟨by omega, by omega⟩ (cm_3) sz) wm_8_20 wm_8_22 wm_1_12 hd_X12_common wm_8_21 ⟨Nat.le_of_ble_eq_true rfl, Nat.le_of_ble_eq_true rfl⟩ hl.1 rfl (Nat.le_of_ble_eq_true rfl) dX12_common_14 ⟨Nat.le_of_ble_eq_true rfl, Nat.le_of_ble_eq_true rfl⟩ [] [] rfl rfl (by decide) rfl rfl (fun r_4 u_4 H locs w_4 h_4 => ?_)
    clear h
    obtain ⟨wr_4, y4_0, _⟩ := w_4
    replace h_4 : qW D _ _ [] _ _ := h_4
    exact q_lret X hr hlk hK h_4 (fun _ => 0, fun _ _ => 0, fun _ _ => 0) ⟨wr_4, (show (r_4 : Int64).toInt ≠ 0 ∨ ((j0 : Int64).toInt = 0 ∧ (j1 : Int64).toInt = 0) from by omega), trivial⟩ [] rfl rfl dX12_common_17 (Nat.le_of_ble_eq_true rfl) (Nat.le_of_ble_eq_true rfl)
  · replace c_1 := j_eq (x := j1) (y := 0) rfl (show (0 : Int64).toInt = 0 by decide) c_1
    refine lv_lload_n hx hb dX12_common_6 rfl (lv_at hl 0 rfl) ?_
    refine lv_goto (tgt := 17) hx hb dX12_common_7 (by decide) ?_
    exact q_lret X hr hlk hK h (fun _ => 0, fun _ _ => 0, fun _ _ => 0) ⟨hj0, (show (j0 : Int64).toInt ≠ 0 ∨ ((j0 : Int64).toInt = 0 ∧ (j1 : Int64).toInt = 0) from by omega), trivial⟩ [] rfl rfl dX12_common_17 (Nat.le_of_ble_eq_true rfl) (Nat.le_of_ble_eq_true rfl)
set_option maxHeartbeats 4000000 in
set_option maxRecDepth 100000 in
theorem gX12_common_d7e066b (l : Launch) (D : va_G) (cy : Nat → ClassId) (j0 : Int64) (j1 : Int64) (hj0 : (-1192) ≤ (j0).toInt ∧ (j0).toInt ≤ 1192) (hj1 : (-596) ≤ (j1).toInt ∧ (j1).toInt ≤ 596) (hpre0 : CM 596 1192 (j0 : Int64).toInt (j1 : Int64).toInt) (sz : Nat) : ML l yX12_common cX12_common 4 { frames := 20, cells := 0, slots := 0, locals := 460 } [.long j0, .long j1] D cy [] sz (fun r u => ((-1192) ≤ r.toInt ∧ r.toInt ≤ 1192) ∧ ((r : Int64).toInt ≠ 0 ∨ ((j0 : Int64).toInt = 0 ∧ (j1 : Int64).toInt = 0)) ∧ True) (fun u => []) 0 0 := by
  refine q_ent (own := RX12) (by decide) rfl (Nat.le_of_ble_eq_true rfl) (fun p e s m below meth c ls X hr hlk hnm hK hT h hA hl => ?_)
  obtain ⟨hx, hb, hml, hown, ht⟩ := id X
  replace hl : lv_has ls 4 [(0, .long j0), (2, .long j1)] := hl
  refine lv_lload_n hx hb dX12_common_0 rfl (lv_at hl 1 rfl) ?_
  refine lv_lconst (v := 0) hx hb dX12_common_1 (by decide) ?_
  refine W.lcmp hx hb dX12_common_2 ?_
  refine lv_if_ne (tgt := 10) hx hb dX12_common_3 (by decide) (fun c_1 => ?_) (fun c_1 => ?_)
  · replace c_1 := j_neq (x := j1) (y := 0) rfl (show (0 : Int64).toInt = 0 by decide) c_1
    refine lv_lload_n hx hb dX12_common_10 rfl (lv_at hl 1 rfl) ?_
    refine lv_lload_n hx hb dX12_common_11 rfl (lv_at hl 0 rfl) ?_
    refine lv_lload_n hx hb dX12_common_12 rfl (lv_at hl 1 rfl) ?_
    refine lv_lrem hx hb dX12_common_13 (j_nz (by omega)) ?_
    obtain ⟨z_2, ez_2, hz_2⟩ := e_anyJ (j0 - j0 / j1 * j1)
    refine q_cl z_2 ez_2 ?_
    have cm_3 : CM 596 596 _ _ := cm_s (by decide) hpre0 (by omega) ez_2
    have cr_3 := cm_r cm_3
    refine q_callSl (rest := []) (wr := []) X hK hT hA h (fun sz => gX12_common_9f981a0 l D cy j1 z_2 hj1 ⟨by omega, by omega⟩ (cm_3) sz) wm_8_20 wm_8_22 wm_1_12 hd_X12_common wm_8_21 ⟨Nat.le_of_ble_eq_true rfl, Nat.le_of_ble_eq_true rfl⟩ hl.1 rfl (Nat.le_of_ble_eq_true rfl) dX12_common_14 ⟨Nat.le_of_ble_eq_true rfl, Nat.le_of_ble_eq_true rfl⟩ [] [] rfl rfl (by decide) rfl rfl (fun r_4 u_4 H locs w_4 h_4 => ?_)
    clear h
    obtain ⟨wr_4, y4_0, _⟩ := w_4
    replace h_4 : qW D _ _ [] _ _ := h_4
    exact q_lret X hr hlk hK h_4 (fun _ => 0, fun _ _ => 0, fun _ _ => 0) ⟨(bw wr_4 (by decide) (by decide)), (show (r_4 : Int64).toInt ≠ 0 ∨ ((j0 : Int64).toInt = 0 ∧ (j1 : Int64).toInt = 0) from by omega), trivial⟩ [] rfl rfl dX12_common_17 (Nat.le_of_ble_eq_true rfl) (Nat.le_of_ble_eq_true rfl)
  · replace c_1 := j_eq (x := j1) (y := 0) rfl (show (0 : Int64).toInt = 0 by decide) c_1
    refine lv_lload_n hx hb dX12_common_6 rfl (lv_at hl 0 rfl) ?_
    refine lv_goto (tgt := 17) hx hb dX12_common_7 (by decide) ?_
    exact q_lret X hr hlk hK h (fun _ => 0, fun _ _ => 0, fun _ _ => 0) ⟨hj0, (show (j0 : Int64).toInt ≠ 0 ∨ ((j0 : Int64).toInt = 0 ∧ (j1 : Int64).toInt = 0) from by omega), trivial⟩ [] rfl rfl dX12_common_17 (Nat.le_of_ble_eq_true rfl) (Nat.le_of_ble_eq_true rfl)
set_option maxHeartbeats 4000000 in
set_option maxRecDepth 100000 in
theorem gX12_common_7174584 (l : Launch) (D : va_G) (cy : Nat → ClassId) (j0 : Int64) (j1 : Int64) (hj0 : (-1192) ≤ (j0).toInt ∧ (j0).toInt ≤ 1192) (hj1 : (-1192) ≤ (j1).toInt ∧ (j1).toInt ≤ 1192) (hpre0 : CM 1192 1192 (j0 : Int64).toInt (j1 : Int64).toInt) (sz : Nat) : ML l yX12_common cX12_common 4 { frames := 21, cells := 0, slots := 0, locals := 483 } [.long j0, .long j1] D cy [] sz (fun r u => ((-1192) ≤ r.toInt ∧ r.toInt ≤ 1192) ∧ ((r : Int64).toInt ≠ 0 ∨ ((j0 : Int64).toInt = 0 ∧ (j1 : Int64).toInt = 0)) ∧ True) (fun u => []) 0 0 := by
  refine q_ent (own := RX12) (by decide) rfl (Nat.le_of_ble_eq_true rfl) (fun p e s m below meth c ls X hr hlk hnm hK hT h hA hl => ?_)
  obtain ⟨hx, hb, hml, hown, ht⟩ := id X
  replace hl : lv_has ls 4 [(0, .long j0), (2, .long j1)] := hl
  refine lv_lload_n hx hb dX12_common_0 rfl (lv_at hl 1 rfl) ?_
  refine lv_lconst (v := 0) hx hb dX12_common_1 (by decide) ?_
  refine W.lcmp hx hb dX12_common_2 ?_
  refine lv_if_ne (tgt := 10) hx hb dX12_common_3 (by decide) (fun c_1 => ?_) (fun c_1 => ?_)
  · replace c_1 := j_neq (x := j1) (y := 0) rfl (show (0 : Int64).toInt = 0 by decide) c_1
    refine lv_lload_n hx hb dX12_common_10 rfl (lv_at hl 1 rfl) ?_
    refine lv_lload_n hx hb dX12_common_11 rfl (lv_at hl 0 rfl) ?_
    refine lv_lload_n hx hb dX12_common_12 rfl (lv_at hl 1 rfl) ?_
    refine lv_lrem hx hb dX12_common_13 (j_nz (by omega)) ?_
    obtain ⟨z_2, ez_2, hz_2⟩ := e_anyJ (j0 - j0 / j1 * j1)
    refine q_cl z_2 ez_2 ?_
    have cm_3 : CM 596 1192 _ _ := cm_s (by decide) hpre0 (by omega) ez_2
    have cr_3 := cm_r cm_3
    refine q_callSl (rest := []) (wr := []) X hK hT hA h (fun sz => gX12_common_d7e066b l D cy j1 z_2 hj1 ⟨by omega, by omega⟩ (cm_3) sz) wm_8_20 wm_8_22 wm_1_12 hd_X12_common wm_8_21 ⟨Nat.le_of_ble_eq_true rfl, Nat.le_of_ble_eq_true rfl⟩ hl.1 rfl (Nat.le_of_ble_eq_true rfl) dX12_common_14 ⟨Nat.le_of_ble_eq_true rfl, Nat.le_of_ble_eq_true rfl⟩ [] [] rfl rfl (by decide) rfl rfl (fun r_4 u_4 H locs w_4 h_4 => ?_)
    clear h
    obtain ⟨wr_4, y4_0, _⟩ := w_4
    replace h_4 : qW D _ _ [] _ _ := h_4
    exact q_lret X hr hlk hK h_4 (fun _ => 0, fun _ _ => 0, fun _ _ => 0) ⟨wr_4, (show (r_4 : Int64).toInt ≠ 0 ∨ ((j0 : Int64).toInt = 0 ∧ (j1 : Int64).toInt = 0) from by omega), trivial⟩ [] rfl rfl dX12_common_17 (Nat.le_of_ble_eq_true rfl) (Nat.le_of_ble_eq_true rfl)
  · replace c_1 := j_eq (x := j1) (y := 0) rfl (show (0 : Int64).toInt = 0 by decide) c_1
    refine lv_lload_n hx hb dX12_common_6 rfl (lv_at hl 0 rfl) ?_
    refine lv_goto (tgt := 17) hx hb dX12_common_7 (by decide) ?_
    exact q_lret X hr hlk hK h (fun _ => 0, fun _ _ => 0, fun _ _ => 0) ⟨hj0, (show (j0 : Int64).toInt ≠ 0 ∨ ((j0 : Int64).toInt = 0 ∧ (j1 : Int64).toInt = 0) from by omega), trivial⟩ [] rfl rfl dX12_common_17 (Nat.le_of_ble_eq_true rfl) (Nat.le_of_ble_eq_true rfl)
set_option maxHeartbeats 4000000 in
set_option maxRecDepth 100000 in
theorem gX12_common_13986d0 (l : Launch) (D : va_G) (cy : Nat → ClassId) (j0 : Int64) (j1 : Int64) (hj0 : (-2384) ≤ (j0).toInt ∧ (j0).toInt ≤ 2384) (hj1 : (-1192) ≤ (j1).toInt ∧ (j1).toInt ≤ 1192) (hpre0 : CM 1192 2384 (j0 : Int64).toInt (j1 : Int64).toInt) (sz : Nat) : ML l yX12_common cX12_common 4 { frames := 22, cells := 0, slots := 0, locals := 506 } [.long j0, .long j1] D cy [] sz (fun r u => ((-2384) ≤ r.toInt ∧ r.toInt ≤ 2384) ∧ ((r : Int64).toInt ≠ 0 ∨ ((j0 : Int64).toInt = 0 ∧ (j1 : Int64).toInt = 0)) ∧ True) (fun u => []) 0 0 := by
  refine q_ent (own := RX12) (by decide) rfl (Nat.le_of_ble_eq_true rfl) (fun p e s m below meth c ls X hr hlk hnm hK hT h hA hl => ?_)
  obtain ⟨hx, hb, hml, hown, ht⟩ := id X
  replace hl : lv_has ls 4 [(0, .long j0), (2, .long j1)] := hl
  refine lv_lload_n hx hb dX12_common_0 rfl (lv_at hl 1 rfl) ?_
  refine lv_lconst (v := 0) hx hb dX12_common_1 (by decide) ?_
  refine W.lcmp hx hb dX12_common_2 ?_
  refine lv_if_ne (tgt := 10) hx hb dX12_common_3 (by decide) (fun c_1 => ?_) (fun c_1 => ?_)
  · replace c_1 := j_neq (x := j1) (y := 0) rfl (show (0 : Int64).toInt = 0 by decide) c_1
    refine lv_lload_n hx hb dX12_common_10 rfl (lv_at hl 1 rfl) ?_
    refine lv_lload_n hx hb dX12_common_11 rfl (lv_at hl 0 rfl) ?_
    refine lv_lload_n hx hb dX12_common_12 rfl (lv_at hl 1 rfl) ?_
    refine lv_lrem hx hb dX12_common_13 (j_nz (by omega)) ?_
    obtain ⟨z_2, ez_2, hz_2⟩ := e_anyJ (j0 - j0 / j1 * j1)
    refine q_cl z_2 ez_2 ?_
    have cm_3 : CM 1192 1192 _ _ := cm_s (by decide) hpre0 (by omega) ez_2
    have cr_3 := cm_r cm_3
    refine q_callSl (rest := []) (wr := []) X hK hT hA h (fun sz => gX12_common_7174584 l D cy j1 z_2 hj1 ⟨by omega, by omega⟩ (cm_3) sz) wm_8_20 wm_8_22 wm_1_12 hd_X12_common wm_8_21 ⟨Nat.le_of_ble_eq_true rfl, Nat.le_of_ble_eq_true rfl⟩ hl.1 rfl (Nat.le_of_ble_eq_true rfl) dX12_common_14 ⟨Nat.le_of_ble_eq_true rfl, Nat.le_of_ble_eq_true rfl⟩ [] [] rfl rfl (by decide) rfl rfl (fun r_4 u_4 H locs w_4 h_4 => ?_)
    clear h
    obtain ⟨wr_4, y4_0, _⟩ := w_4
    replace h_4 : qW D _ _ [] _ _ := h_4
    exact q_lret X hr hlk hK h_4 (fun _ => 0, fun _ _ => 0, fun _ _ => 0) ⟨(bw wr_4 (by decide) (by decide)), (show (r_4 : Int64).toInt ≠ 0 ∨ ((j0 : Int64).toInt = 0 ∧ (j1 : Int64).toInt = 0) from by omega), trivial⟩ [] rfl rfl dX12_common_17 (Nat.le_of_ble_eq_true rfl) (Nat.le_of_ble_eq_true rfl)
  · replace c_1 := j_eq (x := j1) (y := 0) rfl (show (0 : Int64).toInt = 0 by decide) c_1
    refine lv_lload_n hx hb dX12_common_6 rfl (lv_at hl 0 rfl) ?_
    refine lv_goto (tgt := 17) hx hb dX12_common_7 (by decide) ?_
    exact q_lret X hr hlk hK h (fun _ => 0, fun _ _ => 0, fun _ _ => 0) ⟨hj0, (show (j0 : Int64).toInt ≠ 0 ∨ ((j0 : Int64).toInt = 0 ∧ (j1 : Int64).toInt = 0) from by omega), trivial⟩ [] rfl rfl dX12_common_17 (Nat.le_of_ble_eq_true rfl) (Nat.le_of_ble_eq_true rfl)
set_option maxHeartbeats 4000000 in
set_option maxRecDepth 100000 in
theorem gX12_common_28f3244 (l : Launch) (D : va_G) (cy : Nat → ClassId) (j0 : Int64) (j1 : Int64) (hj0 : (-2384) ≤ (j0).toInt ∧ (j0).toInt ≤ 2384) (hj1 : (-2384) ≤ (j1).toInt ∧ (j1).toInt ≤ 2384) (hpre0 : CM 2384 2384 (j0 : Int64).toInt (j1 : Int64).toInt) (sz : Nat) : ML l yX12_common cX12_common 4 { frames := 23, cells := 0, slots := 0, locals := 529 } [.long j0, .long j1] D cy [] sz (fun r u => ((-2384) ≤ r.toInt ∧ r.toInt ≤ 2384) ∧ ((r : Int64).toInt ≠ 0 ∨ ((j0 : Int64).toInt = 0 ∧ (j1 : Int64).toInt = 0)) ∧ True) (fun u => []) 0 0 := by
  refine q_ent (own := RX12) (by decide) rfl (Nat.le_of_ble_eq_true rfl) (fun p e s m below meth c ls X hr hlk hnm hK hT h hA hl => ?_)
  obtain ⟨hx, hb, hml, hown, ht⟩ := id X
  replace hl : lv_has ls 4 [(0, .long j0), (2, .long j1)] := hl
  refine lv_lload_n hx hb dX12_common_0 rfl (lv_at hl 1 rfl) ?_
  refine lv_lconst (v := 0) hx hb dX12_common_1 (by decide) ?_
  refine W.lcmp hx hb dX12_common_2 ?_
  refine lv_if_ne (tgt := 10) hx hb dX12_common_3 (by decide) (fun c_1 => ?_) (fun c_1 => ?_)
  · replace c_1 := j_neq (x := j1) (y := 0) rfl (show (0 : Int64).toInt = 0 by decide) c_1
    refine lv_lload_n hx hb dX12_common_10 rfl (lv_at hl 1 rfl) ?_
    refine lv_lload_n hx hb dX12_common_11 rfl (lv_at hl 0 rfl) ?_
    refine lv_lload_n hx hb dX12_common_12 rfl (lv_at hl 1 rfl) ?_
    refine lv_lrem hx hb dX12_common_13 (j_nz (by omega)) ?_
    obtain ⟨z_2, ez_2, hz_2⟩ := e_anyJ (j0 - j0 / j1 * j1)
    refine q_cl z_2 ez_2 ?_
    have cm_3 : CM 1192 2384 _ _ := cm_s (by decide) hpre0 (by omega) ez_2
    have cr_3 := cm_r cm_3
    refine q_callSl (rest := []) (wr := []) X hK hT hA h (fun sz => gX12_common_13986d0 l D cy j1 z_2 hj1 ⟨by omega, by omega⟩ (cm_3) sz) wm_8_20 wm_8_22 wm_1_12 hd_X12_common wm_8_21 ⟨Nat.le_of_ble_eq_true rfl, Nat.le_of_ble_eq_true rfl⟩ hl.1 rfl (Nat.le_of_ble_eq_true rfl) dX12_common_14 ⟨Nat.le_of_ble_eq_true rfl, Nat.le_of_ble_eq_true rfl⟩ [] [] rfl rfl (by decide) rfl rfl (fun r_4 u_4 H locs w_4 h_4 => ?_)
    clear h
    obtain ⟨wr_4, y4_0, _⟩ := w_4
    replace h_4 : qW D _ _ [] _ _ := h_4
    exact q_lret X hr hlk hK h_4 (fun _ => 0, fun _ _ => 0, fun _ _ => 0) ⟨wr_4, (show (r_4 : Int64).toInt ≠ 0 ∨ ((j0 : Int64).toInt = 0 ∧ (j1 : Int64).toInt = 0) from by omega), trivial⟩ [] rfl rfl dX12_common_17 (Nat.le_of_ble_eq_true rfl) (Nat.le_of_ble_eq_true rfl)
  · replace c_1 := j_eq (x := j1) (y := 0) rfl (show (0 : Int64).toInt = 0 by decide) c_1
    refine lv_lload_n hx hb dX12_common_6 rfl (lv_at hl 0 rfl) ?_
    refine lv_goto (tgt := 17) hx hb dX12_common_7 (by decide) ?_
    exact q_lret X hr hlk hK h (fun _ => 0, fun _ _ => 0, fun _ _ => 0) ⟨hj0, (show (j0 : Int64).toInt ≠ 0 ∨ ((j0 : Int64).toInt = 0 ∧ (j1 : Int64).toInt = 0) from by omega), trivial⟩ [] rfl rfl dX12_common_17 (Nat.le_of_ble_eq_true rfl) (Nat.le_of_ble_eq_true rfl)
set_option maxHeartbeats 4000000 in
set_option maxRecDepth 100000 in
theorem gX12_common_87d159d (l : Launch) (D : va_G) (cy : Nat → ClassId) (j0 : Int64) (j1 : Int64) (hj0 : (-4768) ≤ (j0).toInt ∧ (j0).toInt ≤ 4768) (hj1 : (-2384) ≤ (j1).toInt ∧ (j1).toInt ≤ 2384) (hpre0 : CM 2384 4768 (j0 : Int64).toInt (j1 : Int64).toInt) (sz : Nat) : ML l yX12_common cX12_common 4 { frames := 24, cells := 0, slots := 0, locals := 552 } [.long j0, .long j1] D cy [] sz (fun r u => ((-4768) ≤ r.toInt ∧ r.toInt ≤ 4768) ∧ ((r : Int64).toInt ≠ 0 ∨ ((j0 : Int64).toInt = 0 ∧ (j1 : Int64).toInt = 0)) ∧ True) (fun u => []) 0 0 := by
  refine q_ent (own := RX12) (by decide) rfl (Nat.le_of_ble_eq_true rfl) (fun p e s m below meth c ls X hr hlk hnm hK hT h hA hl => ?_)
  obtain ⟨hx, hb, hml, hown, ht⟩ := id X
  replace hl : lv_has ls 4 [(0, .long j0), (2, .long j1)] := hl
  refine lv_lload_n hx hb dX12_common_0 rfl (lv_at hl 1 rfl) ?_
  refine lv_lconst (v := 0) hx hb dX12_common_1 (by decide) ?_
  refine W.lcmp hx hb dX12_common_2 ?_
  refine lv_if_ne (tgt := 10) hx hb dX12_common_3 (by decide) (fun c_1 => ?_) (fun c_1 => ?_)
  · replace c_1 := j_neq (x := j1) (y := 0) rfl (show (0 : Int64).toInt = 0 by decide) c_1
    refine lv_lload_n hx hb dX12_common_10 rfl (lv_at hl 1 rfl) ?_
    refine lv_lload_n hx hb dX12_common_11 rfl (lv_at hl 0 rfl) ?_
    refine lv_lload_n hx hb dX12_common_12 rfl (lv_at hl 1 rfl) ?_
    refine lv_lrem hx hb dX12_common_13 (j_nz (by omega)) ?_
    obtain ⟨z_2, ez_2, hz_2⟩ := e_anyJ (j0 - j0 / j1 * j1)
    refine q_cl z_2 ez_2 ?_
    have cm_3 : CM 2384 2384 _ _ := cm_s (by decide) hpre0 (by omega) ez_2
    have cr_3 := cm_r cm_3
    refine q_callSl (rest := []) (wr := []) X hK hT hA h (fun sz => gX12_common_28f3244 l D cy j1 z_2 hj1 ⟨by omega, by omega⟩ (cm_3) sz) wm_8_20 wm_8_22 wm_1_12 hd_X12_common wm_8_21 ⟨Nat.le_of_ble_eq_true rfl, Nat.le_of_ble_eq_true rfl⟩ hl.1 rfl (Nat.le_of_ble_eq_true rfl) dX12_common_14 ⟨Nat.le_of_ble_eq_true rfl, Nat.le_of_ble_eq_true rfl⟩ [] [] rfl rfl (by decide) rfl rfl (fun r_4 u_4 H locs w_4 h_4 => ?_)
    clear h
    obtain ⟨wr_4, y4_0, _⟩ := w_4
    replace h_4 : qW D _ _ [] _ _ := h_4
    exact q_lret X hr hlk hK h_4 (fun _ => 0, fun _ _ => 0, fun _ _ => 0) ⟨(bw wr_4 (by decide) (by decide)), (show (r_4 : Int64).toInt ≠ 0 ∨ ((j0 : Int64).toInt = 0 ∧ (j1 : Int64).toInt = 0) from by omega), trivial⟩ [] rfl rfl dX12_common_17 (Nat.le_of_ble_eq_true rfl) (Nat.le_of_ble_eq_true rfl)
  · replace c_1 := j_eq (x := j1) (y := 0) rfl (show (0 : Int64).toInt = 0 by decide) c_1
    refine lv_lload_n hx hb dX12_common_6 rfl (lv_at hl 0 rfl) ?_
    refine lv_goto (tgt := 17) hx hb dX12_common_7 (by decide) ?_
    exact q_lret X hr hlk hK h (fun _ => 0, fun _ _ => 0, fun _ _ => 0) ⟨hj0, (show (j0 : Int64).toInt ≠ 0 ∨ ((j0 : Int64).toInt = 0 ∧ (j1 : Int64).toInt = 0) from by omega), trivial⟩ [] rfl rfl dX12_common_17 (Nat.le_of_ble_eq_true rfl) (Nat.le_of_ble_eq_true rfl)
set_option maxHeartbeats 4000000 in
set_option maxRecDepth 100000 in
theorem gX12_common_ead8af4 (l : Launch) (D : va_G) (cy : Nat → ClassId) (j0 : Int64) (j1 : Int64) (hj0 : (-4768) ≤ (j0).toInt ∧ (j0).toInt ≤ 4768) (hj1 : (-4768) ≤ (j1).toInt ∧ (j1).toInt ≤ 4768) (hpre0 : CM 4768 4768 (j0 : Int64).toInt (j1 : Int64).toInt) (sz : Nat) : ML l yX12_common cX12_common 4 { frames := 25, cells := 0, slots := 0, locals := 575 } [.long j0, .long j1] D cy [] sz (fun r u => ((-4768) ≤ r.toInt ∧ r.toInt ≤ 4768) ∧ ((r : Int64).toInt ≠ 0 ∨ ((j0 : Int64).toInt = 0 ∧ (j1 : Int64).toInt = 0)) ∧ True) (fun u => []) 0 0 := by
  refine q_ent (own := RX12) (by decide) rfl (Nat.le_of_ble_eq_true rfl) (fun p e s m below meth c ls X hr hlk hnm hK hT h hA hl => ?_)
  obtain ⟨hx, hb, hml, hown, ht⟩ := id X
  replace hl : lv_has ls 4 [(0, .long j0), (2, .long j1)] := hl
  refine lv_lload_n hx hb dX12_common_0 rfl (lv_at hl 1 rfl) ?_
  refine lv_lconst (v := 0) hx hb dX12_common_1 (by decide) ?_
  refine W.lcmp hx hb dX12_common_2 ?_
  refine lv_if_ne (tgt := 10) hx hb dX12_common_3 (by decide) (fun c_1 => ?_) (fun c_1 => ?_)
  · replace c_1 := j_neq (x := j1) (y := 0) rfl (show (0 : Int64).toInt = 0 by decide) c_1
    refine lv_lload_n hx hb dX12_common_10 rfl (lv_at hl 1 rfl) ?_
    refine lv_lload_n hx hb dX12_common_11 rfl (lv_at hl 0 rfl) ?_
    refine lv_lload_n hx hb dX12_common_12 rfl (lv_at hl 1 rfl) ?_
    refine lv_lrem hx hb dX12_common_13 (j_nz (by omega)) ?_
    obtain ⟨z_2, ez_2, hz_2⟩ := e_anyJ (j0 - j0 / j1 * j1)
    refine q_cl z_2 ez_2 ?_
    have cm_3 : CM 2384 4768 _ _ := cm_s (by decide) hpre0 (by omega) ez_2
    have cr_3 := cm_r cm_3
    refine q_callSl (rest := []) (wr := []) X hK hT hA h (fun sz => gX12_common_87d159d l D cy j1 z_2 hj1 ⟨by omega, by omega⟩ (cm_3) sz) wm_8_20 wm_8_22 wm_1_12 hd_X12_common wm_8_21 ⟨Nat.le_of_ble_eq_true rfl, Nat.le_of_ble_eq_true rfl⟩ hl.1 rfl (Nat.le_of_ble_eq_true rfl) dX12_common_14 ⟨Nat.le_of_ble_eq_true rfl, Nat.le_of_ble_eq_true rfl⟩ [] [] rfl rfl (by decide) rfl rfl (fun r_4 u_4 H locs w_4 h_4 => ?_)
    clear h
    obtain ⟨wr_4, y4_0, _⟩ := w_4
    replace h_4 : qW D _ _ [] _ _ := h_4
    exact q_lret X hr hlk hK h_4 (fun _ => 0, fun _ _ => 0, fun _ _ => 0) ⟨wr_4, (show (r_4 : Int64).toInt ≠ 0 ∨ ((j0 : Int64).toInt = 0 ∧ (j1 : Int64).toInt = 0) from by omega), trivial⟩ [] rfl rfl dX12_common_17 (Nat.le_of_ble_eq_true rfl) (Nat.le_of_ble_eq_true rfl)
  · replace c_1 := j_eq (x := j1) (y := 0) rfl (show (0 : Int64).toInt = 0 by decide) c_1
    refine lv_lload_n hx hb dX12_common_6 rfl (lv_at hl 0 rfl) ?_
    refine lv_goto (tgt := 17) hx hb dX12_common_7 (by decide) ?_
    exact q_lret X hr hlk hK h (fun _ => 0, fun _ _ => 0, fun _ _ => 0) ⟨hj0, (show (j0 : Int64).toInt ≠ 0 ∨ ((j0 : Int64).toInt = 0 ∧ (j1 : Int64).toInt = 0) from by omega), trivial⟩ [] rfl rfl dX12_common_17 (Nat.le_of_ble_eq_true rfl) (Nat.le_of_ble_eq_true rfl)
set_option maxHeartbeats 4000000 in
set_option maxRecDepth 100000 in
theorem gX12_common_4e8a10f (l : Launch) (D : va_G) (cy : Nat → ClassId) (j0 : Int64) (j1 : Int64) (hj0 : (-9536) ≤ (j0).toInt ∧ (j0).toInt ≤ 9536) (hj1 : (-4768) ≤ (j1).toInt ∧ (j1).toInt ≤ 4768) (hpre0 : CM 4768 9536 (j0 : Int64).toInt (j1 : Int64).toInt) (sz : Nat) : ML l yX12_common cX12_common 4 { frames := 26, cells := 0, slots := 0, locals := 598 } [.long j0, .long j1] D cy [] sz (fun r u => ((-9536) ≤ r.toInt ∧ r.toInt ≤ 9536) ∧ ((r : Int64).toInt ≠ 0 ∨ ((j0 : Int64).toInt = 0 ∧ (j1 : Int64).toInt = 0)) ∧ True) (fun u => []) 0 0 := by
  refine q_ent (own := RX12) (by decide) rfl (Nat.le_of_ble_eq_true rfl) (fun p e s m below meth c ls X hr hlk hnm hK hT h hA hl => ?_)
  obtain ⟨hx, hb, hml, hown, ht⟩ := id X
  replace hl : lv_has ls 4 [(0, .long j0), (2, .long j1)] := hl
  refine lv_lload_n hx hb dX12_common_0 rfl (lv_at hl 1 rfl) ?_
  refine lv_lconst (v := 0) hx hb dX12_common_1 (by decide) ?_
  refine W.lcmp hx hb dX12_common_2 ?_
  refine lv_if_ne (tgt := 10) hx hb dX12_common_3 (by decide) (fun c_1 => ?_) (fun c_1 => ?_)
  · replace c_1 := j_neq (x := j1) (y := 0) rfl (show (0 : Int64).toInt = 0 by decide) c_1
    refine lv_lload_n hx hb dX12_common_10 rfl (lv_at hl 1 rfl) ?_
    refine lv_lload_n hx hb dX12_common_11 rfl (lv_at hl 0 rfl) ?_
    refine lv_lload_n hx hb dX12_common_12 rfl (lv_at hl 1 rfl) ?_
    refine lv_lrem hx hb dX12_common_13 (j_nz (by omega)) ?_
    obtain ⟨z_2, ez_2, hz_2⟩ := e_anyJ (j0 - j0 / j1 * j1)
    refine q_cl z_2 ez_2 ?_
    have cm_3 : CM 4768 4768 _ _ := cm_s (by decide) hpre0 (by omega) ez_2
    have cr_3 := cm_r cm_3
    refine q_callSl (rest := []) (wr := []) X hK hT hA h (fun sz => gX12_common_ead8af4 l D cy j1 z_2 hj1 ⟨by omega, by omega⟩ (cm_3) sz) wm_8_20 wm_8_22 wm_1_12 hd_X12_common wm_8_21 ⟨Nat.le_of_ble_eq_true rfl, Nat.le_of_ble_eq_true rfl⟩ hl.1 rfl (Nat.le_of_ble_eq_true rfl) dX12_common_14 ⟨Nat.le_of_ble_eq_true rfl, Nat.le_of_ble_eq_true rfl⟩ [] [] rfl rfl (by decide) rfl rfl (fun r_4 u_4 H locs w_4 h_4 => ?_)
    clear h
    obtain ⟨wr_4, y4_0, _⟩ := w_4
    replace h_4 : qW D _ _ [] _ _ := h_4
    exact q_lret X hr hlk hK h_4 (fun _ => 0, fun _ _ => 0, fun _ _ => 0) ⟨(bw wr_4 (by decide) (by decide)), (show (r_4 : Int64).toInt ≠ 0 ∨ ((j0 : Int64).toInt = 0 ∧ (j1 : Int64).toInt = 0) from by omega), trivial⟩ [] rfl rfl dX12_common_17 (Nat.le_of_ble_eq_true rfl) (Nat.le_of_ble_eq_true rfl)
  · replace c_1 := j_eq (x := j1) (y := 0) rfl (show (0 : Int64).toInt = 0 by decide) c_1
    refine lv_lload_n hx hb dX12_common_6 rfl (lv_at hl 0 rfl) ?_
    refine lv_goto (tgt := 17) hx hb dX12_common_7 (by decide) ?_
    exact q_lret X hr hlk hK h (fun _ => 0, fun _ _ => 0, fun _ _ => 0) ⟨hj0, (show (j0 : Int64).toInt ≠ 0 ∨ ((j0 : Int64).toInt = 0 ∧ (j1 : Int64).toInt = 0) from by omega), trivial⟩ [] rfl rfl dX12_common_17 (Nat.le_of_ble_eq_true rfl) (Nat.le_of_ble_eq_true rfl)
set_option maxHeartbeats 4000000 in
set_option maxRecDepth 100000 in
theorem gX12_common_049d8dc (l : Launch) (D : va_G) (cy : Nat → ClassId) (j0 : Int64) (j1 : Int64) (hj0 : (-9536) ≤ (j0).toInt ∧ (j0).toInt ≤ 9536) (hj1 : (-9536) ≤ (j1).toInt ∧ (j1).toInt ≤ 9536) (hpre0 : CM 9536 9536 (j0 : Int64).toInt (j1 : Int64).toInt) (sz : Nat) : ML l yX12_common cX12_common 4 { frames := 27, cells := 0, slots := 0, locals := 621 } [.long j0, .long j1] D cy [] sz (fun r u => ((-9536) ≤ r.toInt ∧ r.toInt ≤ 9536) ∧ ((r : Int64).toInt ≠ 0 ∨ ((j0 : Int64).toInt = 0 ∧ (j1 : Int64).toInt = 0)) ∧ True) (fun u => []) 0 0 := by
  refine q_ent (own := RX12) (by decide) rfl (Nat.le_of_ble_eq_true rfl) (fun p e s m below meth c ls X hr hlk hnm hK hT h hA hl => ?_)
  obtain ⟨hx, hb, hml, hown, ht⟩ := id X
  replace hl : lv_has ls 4 [(0, .long j0), (2, .long j1)] := hl
  refine lv_lload_n hx hb dX12_common_0 rfl (lv_at hl 1 rfl) ?_
  refine lv_lconst (v := 0) hx hb dX12_common_1 (by decide) ?_
  refine W.lcmp hx hb dX12_common_2 ?_
  refine lv_if_ne (tgt := 10) hx hb dX12_common_3 (by decide) (fun c_1 => ?_) (fun c_1 => ?_)
  · replace c_1 := j_neq (x := j1) (y := 0) rfl (show (0 : Int64).toInt = 0 by decide) c_1
    refine lv_lload_n hx hb dX12_common_10 rfl (lv_at hl 1 rfl) ?_
    refine lv_lload_n hx hb dX12_common_11 rfl (lv_at hl 0 rfl) ?_
    refine lv_lload_n hx hb dX12_common_12 rfl (lv_at hl 1 rfl) ?_
    refine lv_lrem hx hb dX12_common_13 (j_nz (by omega)) ?_
    obtain ⟨z_2, ez_2, hz_2⟩ := e_anyJ (j0 - j0 / j1 * j1)
    refine q_cl z_2 ez_2 ?_
    have cm_3 : CM 4768 9536 _ _ := cm_s (by decide) hpre0 (by omega) ez_2
    have cr_3 := cm_r cm_3
    refine q_callSl (rest := []) (wr := []) X hK hT hA h (fun sz => gX12_common_4e8a10f l D cy j1 z_2 hj1 ⟨by omega, by omega⟩ (cm_3) sz) wm_8_20 wm_8_22 wm_1_12 hd_X12_common wm_8_21 ⟨Nat.le_of_ble_eq_true rfl, Nat.le_of_ble_eq_true rfl⟩ hl.1 rfl (Nat.le_of_ble_eq_true rfl) dX12_common_14 ⟨Nat.le_of_ble_eq_true rfl, Nat.le_of_ble_eq_true rfl⟩ [] [] rfl rfl (by decide) rfl rfl (fun r_4 u_4 H locs w_4 h_4 => ?_)
    clear h
    obtain ⟨wr_4, y4_0, _⟩ := w_4
    replace h_4 : qW D _ _ [] _ _ := h_4
    exact q_lret X hr hlk hK h_4 (fun _ => 0, fun _ _ => 0, fun _ _ => 0) ⟨wr_4, (show (r_4 : Int64).toInt ≠ 0 ∨ ((j0 : Int64).toInt = 0 ∧ (j1 : Int64).toInt = 0) from by omega), trivial⟩ [] rfl rfl dX12_common_17 (Nat.le_of_ble_eq_true rfl) (Nat.le_of_ble_eq_true rfl)
  · replace c_1 := j_eq (x := j1) (y := 0) rfl (show (0 : Int64).toInt = 0 by decide) c_1
    refine lv_lload_n hx hb dX12_common_6 rfl (lv_at hl 0 rfl) ?_
    refine lv_goto (tgt := 17) hx hb dX12_common_7 (by decide) ?_
    exact q_lret X hr hlk hK h (fun _ => 0, fun _ _ => 0, fun _ _ => 0) ⟨hj0, (show (j0 : Int64).toInt ≠ 0 ∨ ((j0 : Int64).toInt = 0 ∧ (j1 : Int64).toInt = 0) from by omega), trivial⟩ [] rfl rfl dX12_common_17 (Nat.le_of_ble_eq_true rfl) (Nat.le_of_ble_eq_true rfl)
set_option maxHeartbeats 4000000 in
set_option maxRecDepth 100000 in
theorem gX12_common_e8b3cb2 (l : Launch) (D : va_G) (cy : Nat → ClassId) (j0 : Int64) (j1 : Int64) (hj0 : (-19073) ≤ (j0).toInt ∧ (j0).toInt ≤ 19073) (hj1 : (-9536) ≤ (j1).toInt ∧ (j1).toInt ≤ 9536) (hpre0 : CM 9536 19073 (j0 : Int64).toInt (j1 : Int64).toInt) (sz : Nat) : ML l yX12_common cX12_common 4 { frames := 28, cells := 0, slots := 0, locals := 644 } [.long j0, .long j1] D cy [] sz (fun r u => ((-19073) ≤ r.toInt ∧ r.toInt ≤ 19073) ∧ ((r : Int64).toInt ≠ 0 ∨ ((j0 : Int64).toInt = 0 ∧ (j1 : Int64).toInt = 0)) ∧ True) (fun u => []) 0 0 := by
  refine q_ent (own := RX12) (by decide) rfl (Nat.le_of_ble_eq_true rfl) (fun p e s m below meth c ls X hr hlk hnm hK hT h hA hl => ?_)
  obtain ⟨hx, hb, hml, hown, ht⟩ := id X
  replace hl : lv_has ls 4 [(0, .long j0), (2, .long j1)] := hl
  refine lv_lload_n hx hb dX12_common_0 rfl (lv_at hl 1 rfl) ?_
  refine lv_lconst (v := 0) hx hb dX12_common_1 (by decide) ?_
  refine W.lcmp hx hb dX12_common_2 ?_
  refine lv_if_ne (tgt := 10) hx hb dX12_common_3 (by decide) (fun c_1 => ?_) (fun c_1 => ?_)
  · replace c_1 := j_neq (x := j1) (y := 0) rfl (show (0 : Int64).toInt = 0 by decide) c_1
    refine lv_lload_n hx hb dX12_common_10 rfl (lv_at hl 1 rfl) ?_
    refine lv_lload_n hx hb dX12_common_11 rfl (lv_at hl 0 rfl) ?_
    refine lv_lload_n hx hb dX12_common_12 rfl (lv_at hl 1 rfl) ?_
    refine lv_lrem hx hb dX12_common_13 (j_nz (by omega)) ?_
    obtain ⟨z_2, ez_2, hz_2⟩ := e_anyJ (j0 - j0 / j1 * j1)
    refine q_cl z_2 ez_2 ?_
    have cm_3 : CM 9536 9536 _ _ := cm_s (by decide) hpre0 (by omega) ez_2
    have cr_3 := cm_r cm_3
    refine q_callSl (rest := []) (wr := []) X hK hT hA h (fun sz => gX12_common_049d8dc l D cy j1 z_2 hj1 ⟨by omega, by omega⟩ (cm_3) sz) wm_8_20 wm_8_22 wm_1_12 hd_X12_common wm_8_21 ⟨Nat.le_of_ble_eq_true rfl, Nat.le_of_ble_eq_true rfl⟩ hl.1 rfl (Nat.le_of_ble_eq_true rfl) dX12_common_14 ⟨Nat.le_of_ble_eq_true rfl, Nat.le_of_ble_eq_true rfl⟩ [] [] rfl rfl (by decide) rfl rfl (fun r_4 u_4 H locs w_4 h_4 => ?_)
    clear h
    obtain ⟨wr_4, y4_0, _⟩ := w_4
    replace h_4 : qW D _ _ [] _ _ := h_4
    exact q_lret X hr hlk hK h_4 (fun _ => 0, fun _ _ => 0, fun _ _ => 0) ⟨(bw wr_4 (by decide) (by decide)), (show (r_4 : Int64).toInt ≠ 0 ∨ ((j0 : Int64).toInt = 0 ∧ (j1 : Int64).toInt = 0) from by omega), trivial⟩ [] rfl rfl dX12_common_17 (Nat.le_of_ble_eq_true rfl) (Nat.le_of_ble_eq_true rfl)
  · replace c_1 := j_eq (x := j1) (y := 0) rfl (show (0 : Int64).toInt = 0 by decide) c_1
    refine lv_lload_n hx hb dX12_common_6 rfl (lv_at hl 0 rfl) ?_
    refine lv_goto (tgt := 17) hx hb dX12_common_7 (by decide) ?_
    exact q_lret X hr hlk hK h (fun _ => 0, fun _ _ => 0, fun _ _ => 0) ⟨hj0, (show (j0 : Int64).toInt ≠ 0 ∨ ((j0 : Int64).toInt = 0 ∧ (j1 : Int64).toInt = 0) from by omega), trivial⟩ [] rfl rfl dX12_common_17 (Nat.le_of_ble_eq_true rfl) (Nat.le_of_ble_eq_true rfl)
set_option maxHeartbeats 4000000 in
set_option maxRecDepth 100000 in
theorem gX12_common_655d0ea (l : Launch) (D : va_G) (cy : Nat → ClassId) (j0 : Int64) (j1 : Int64) (hj0 : (-19073) ≤ (j0).toInt ∧ (j0).toInt ≤ 19073) (hj1 : (-19073) ≤ (j1).toInt ∧ (j1).toInt ≤ 19073) (hpre0 : CM 19073 19073 (j0 : Int64).toInt (j1 : Int64).toInt) (sz : Nat) : ML l yX12_common cX12_common 4 { frames := 29, cells := 0, slots := 0, locals := 667 } [.long j0, .long j1] D cy [] sz (fun r u => ((-19073) ≤ r.toInt ∧ r.toInt ≤ 19073) ∧ ((r : Int64).toInt ≠ 0 ∨ ((j0 : Int64).toInt = 0 ∧ (j1 : Int64).toInt = 0)) ∧ True) (fun u => []) 0 0 := by
  refine q_ent (own := RX12) (by decide) rfl (Nat.le_of_ble_eq_true rfl) (fun p e s m below meth c ls X hr hlk hnm hK hT h hA hl => ?_)
  obtain ⟨hx, hb, hml, hown, ht⟩ := id X
  replace hl : lv_has ls 4 [(0, .long j0), (2, .long j1)] := hl
  refine lv_lload_n hx hb dX12_common_0 rfl (lv_at hl 1 rfl) ?_
  refine lv_lconst (v := 0) hx hb dX12_common_1 (by decide) ?_
  refine W.lcmp hx hb dX12_common_2 ?_
  refine lv_if_ne (tgt := 10) hx hb dX12_common_3 (by decide) (fun c_1 => ?_) (fun c_1 => ?_)
  · replace c_1 := j_neq (x := j1) (y := 0) rfl (show (0 : Int64).toInt = 0 by decide) c_1
    refine lv_lload_n hx hb dX12_common_10 rfl (lv_at hl 1 rfl) ?_
    refine lv_lload_n hx hb dX12_common_11 rfl (lv_at hl 0 rfl) ?_
    refine lv_lload_n hx hb dX12_common_12 rfl (lv_at hl 1 rfl) ?_
    refine lv_lrem hx hb dX12_common_13 (j_nz (by omega)) ?_
    obtain ⟨z_2, ez_2, hz_2⟩ := e_anyJ (j0 - j0 / j1 * j1)
    refine q_cl z_2 ez_2 ?_
    have cm_3 : CM 9536 19073 _ _ := cm_s (by decide) hpre0 (by omega) ez_2
    have cr_3 := cm_r cm_3
    refine q_callSl (rest := []) (wr := []) X hK hT hA h (fun sz => gX12_common_e8b3cb2 l D cy j1 z_2 hj1 ⟨by omega, by omega⟩ (cm_3) sz) wm_8_20 wm_8_22 wm_1_12 hd_X12_common wm_8_21 ⟨Nat.le_of_ble_eq_true rfl, Nat.le_of_ble_eq_true rfl⟩ hl.1 rfl (Nat.le_of_ble_eq_true rfl) dX12_common_14 ⟨Nat.le_of_ble_eq_true rfl, Nat.le_of_ble_eq_true rfl⟩ [] [] rfl rfl (by decide) rfl rfl (fun r_4 u_4 H locs w_4 h_4 => ?_)
    clear h
    obtain ⟨wr_4, y4_0, _⟩ := w_4
    replace h_4 : qW D _ _ [] _ _ := h_4
    exact q_lret X hr hlk hK h_4 (fun _ => 0, fun _ _ => 0, fun _ _ => 0) ⟨wr_4, (show (r_4 : Int64).toInt ≠ 0 ∨ ((j0 : Int64).toInt = 0 ∧ (j1 : Int64).toInt = 0) from by omega), trivial⟩ [] rfl rfl dX12_common_17 (Nat.le_of_ble_eq_true rfl) (Nat.le_of_ble_eq_true rfl)
  · replace c_1 := j_eq (x := j1) (y := 0) rfl (show (0 : Int64).toInt = 0 by decide) c_1
    refine lv_lload_n hx hb dX12_common_6 rfl (lv_at hl 0 rfl) ?_
    refine lv_goto (tgt := 17) hx hb dX12_common_7 (by decide) ?_
    exact q_lret X hr hlk hK h (fun _ => 0, fun _ _ => 0, fun _ _ => 0) ⟨hj0, (show (j0 : Int64).toInt ≠ 0 ∨ ((j0 : Int64).toInt = 0 ∧ (j1 : Int64).toInt = 0) from by omega), trivial⟩ [] rfl rfl dX12_common_17 (Nat.le_of_ble_eq_true rfl) (Nat.le_of_ble_eq_true rfl)
set_option maxHeartbeats 4000000 in
set_option maxRecDepth 100000 in
theorem gX12_common_c8e3fe0 (l : Launch) (D : va_G) (cy : Nat → ClassId) (j0 : Int64) (j1 : Int64) (hj0 : (-38146) ≤ (j0).toInt ∧ (j0).toInt ≤ 38146) (hj1 : (-19073) ≤ (j1).toInt ∧ (j1).toInt ≤ 19073) (hpre0 : CM 19073 38146 (j0 : Int64).toInt (j1 : Int64).toInt) (sz : Nat) : ML l yX12_common cX12_common 4 { frames := 30, cells := 0, slots := 0, locals := 690 } [.long j0, .long j1] D cy [] sz (fun r u => ((-38146) ≤ r.toInt ∧ r.toInt ≤ 38146) ∧ ((r : Int64).toInt ≠ 0 ∨ ((j0 : Int64).toInt = 0 ∧ (j1 : Int64).toInt = 0)) ∧ True) (fun u => []) 0 0 := by
  refine q_ent (own := RX12) (by decide) rfl (Nat.le_of_ble_eq_true rfl) (fun p e s m below meth c ls X hr hlk hnm hK hT h hA hl => ?_)
  obtain ⟨hx, hb, hml, hown, ht⟩ := id X
  replace hl : lv_has ls 4 [(0, .long j0), (2, .long j1)] := hl
  refine lv_lload_n hx hb dX12_common_0 rfl (lv_at hl 1 rfl) ?_
  refine lv_lconst (v := 0) hx hb dX12_common_1 (by decide) ?_
  refine W.lcmp hx hb dX12_common_2 ?_
  refine lv_if_ne (tgt := 10) hx hb dX12_common_3 (by decide) (fun c_1 => ?_) (fun c_1 => ?_)
  · replace c_1 := j_neq (x := j1) (y := 0) rfl (show (0 : Int64).toInt = 0 by decide) c_1
    refine lv_lload_n hx hb dX12_common_10 rfl (lv_at hl 1 rfl) ?_
    refine lv_lload_n hx hb dX12_common_11 rfl (lv_at hl 0 rfl) ?_
    refine lv_lload_n hx hb dX12_common_12 rfl (lv_at hl 1 rfl) ?_
    refine lv_lrem hx hb dX12_common_13 (j_nz (by omega)) ?_
    obtain ⟨z_2, ez_2, hz_2⟩ := e_anyJ (j0 - j0 / j1 * j1)
    refine q_cl z_2 ez_2 ?_
    have cm_3 : CM 19073 19073 _ _ := cm_s (by decide) hpre0 (by omega) ez_2
    have cr_3 := cm_r cm_3
    refine q_callSl (rest := []) (wr := []) X hK hT hA h (fun sz => gX12_common_655d0ea l D cy j1 z_2 hj1 ⟨by omega, by omega⟩ (cm_3) sz) wm_8_20 wm_8_22 wm_1_12 hd_X12_common wm_8_21 ⟨Nat.le_of_ble_eq_true rfl, Nat.le_of_ble_eq_true rfl⟩ hl.1 rfl (Nat.le_of_ble_eq_true rfl) dX12_common_14 ⟨Nat.le_of_ble_eq_true rfl, Nat.le_of_ble_eq_true rfl⟩ [] [] rfl rfl (by decide) rfl rfl (fun r_4 u_4 H locs w_4 h_4 => ?_)
    clear h
    obtain ⟨wr_4, y4_0, _⟩ := w_4
    replace h_4 : qW D _ _ [] _ _ := h_4
    exact q_lret X hr hlk hK h_4 (fun _ => 0, fun _ _ => 0, fun _ _ => 0) ⟨(bw wr_4 (by decide) (by decide)), (show (r_4 : Int64).toInt ≠ 0 ∨ ((j0 : Int64).toInt = 0 ∧ (j1 : Int64).toInt = 0) from by omega), trivial⟩ [] rfl rfl dX12_common_17 (Nat.le_of_ble_eq_true rfl) (Nat.le_of_ble_eq_true rfl)
  · replace c_1 := j_eq (x := j1) (y := 0) rfl (show (0 : Int64).toInt = 0 by decide) c_1
    refine lv_lload_n hx hb dX12_common_6 rfl (lv_at hl 0 rfl) ?_
    refine lv_goto (tgt := 17) hx hb dX12_common_7 (by decide) ?_
    exact q_lret X hr hlk hK h (fun _ => 0, fun _ _ => 0, fun _ _ => 0) ⟨hj0, (show (j0 : Int64).toInt ≠ 0 ∨ ((j0 : Int64).toInt = 0 ∧ (j1 : Int64).toInt = 0) from by omega), trivial⟩ [] rfl rfl dX12_common_17 (Nat.le_of_ble_eq_true rfl) (Nat.le_of_ble_eq_true rfl)
set_option maxHeartbeats 4000000 in
set_option maxRecDepth 100000 in
theorem gX12_common_c18a055 (l : Launch) (D : va_G) (cy : Nat → ClassId) (j0 : Int64) (j1 : Int64) (hj0 : (-38146) ≤ (j0).toInt ∧ (j0).toInt ≤ 38146) (hj1 : (-38146) ≤ (j1).toInt ∧ (j1).toInt ≤ 38146) (hpre0 : CM 38146 38146 (j0 : Int64).toInt (j1 : Int64).toInt) (sz : Nat) : ML l yX12_common cX12_common 4 { frames := 31, cells := 0, slots := 0, locals := 713 } [.long j0, .long j1] D cy [] sz (fun r u => ((-38146) ≤ r.toInt ∧ r.toInt ≤ 38146) ∧ ((r : Int64).toInt ≠ 0 ∨ ((j0 : Int64).toInt = 0 ∧ (j1 : Int64).toInt = 0)) ∧ True) (fun u => []) 0 0 := by
  refine q_ent (own := RX12) (by decide) rfl (Nat.le_of_ble_eq_true rfl) (fun p e s m below meth c ls X hr hlk hnm hK hT h hA hl => ?_)
  obtain ⟨hx, hb, hml, hown, ht⟩ := id X
  replace hl : lv_has ls 4 [(0, .long j0), (2, .long j1)] := hl
  refine lv_lload_n hx hb dX12_common_0 rfl (lv_at hl 1 rfl) ?_
  refine lv_lconst (v := 0) hx hb dX12_common_1 (by decide) ?_
  refine W.lcmp hx hb dX12_common_2 ?_
  refine lv_if_ne (tgt := 10) hx hb dX12_common_3 (by decide) (fun c_1 => ?_) (fun c_1 => ?_)
  · replace c_1 := j_neq (x := j1) (y := 0) rfl (show (0 : Int64).toInt = 0 by decide) c_1
    refine lv_lload_n hx hb dX12_common_10 rfl (lv_at hl 1 rfl) ?_
    refine lv_lload_n hx hb dX12_common_11 rfl (lv_at hl 0 rfl) ?_
    refine lv_lload_n hx hb dX12_common_12 rfl (lv_at hl 1 rfl) ?_
    refine lv_lrem hx hb dX12_common_13 (j_nz (by omega)) ?_
    obtain ⟨z_2, ez_2, hz_2⟩ := e_anyJ (j0 - j0 / j1 * j1)
    refine q_cl z_2 ez_2 ?_
    have cm_3 : CM 19073 38146 _ _ := cm_s (by decide) hpre0 (by omega) ez_2
    have cr_3 := cm_r cm_3
    refine q_callSl (rest := []) (wr := []) X hK hT hA h (fun sz => gX12_common_c8e3fe0 l D cy j1 z_2 hj1 ⟨by omega, by omega⟩ (cm_3) sz) wm_8_20 wm_8_22 wm_1_12 hd_X12_common wm_8_21 ⟨Nat.le_of_ble_eq_true rfl, Nat.le_of_ble_eq_true rfl⟩ hl.1 rfl (Nat.le_of_ble_eq_true rfl) dX12_common_14 ⟨Nat.le_of_ble_eq_true rfl, Nat.le_of_ble_eq_true rfl⟩ [] [] rfl rfl (by decide) rfl rfl (fun r_4 u_4 H locs w_4 h_4 => ?_)
    clear h
    obtain ⟨wr_4, y4_0, _⟩ := w_4
    replace h_4 : qW D _ _ [] _ _ := h_4
    exact q_lret X hr hlk hK h_4 (fun _ => 0, fun _ _ => 0, fun _ _ => 0) ⟨wr_4, (show (r_4 : Int64).toInt ≠ 0 ∨ ((j0 : Int64).toInt = 0 ∧ (j1 : Int64).toInt = 0) from by omega), trivial⟩ [] rfl rfl dX12_common_17 (Nat.le_of_ble_eq_true rfl) (Nat.le_of_ble_eq_true rfl)
  · replace c_1 := j_eq (x := j1) (y := 0) rfl (show (0 : Int64).toInt = 0 by decide) c_1
    refine lv_lload_n hx hb dX12_common_6 rfl (lv_at hl 0 rfl) ?_
    refine lv_goto (tgt := 17) hx hb dX12_common_7 (by decide) ?_
    exact q_lret X hr hlk hK h (fun _ => 0, fun _ _ => 0, fun _ _ => 0) ⟨hj0, (show (j0 : Int64).toInt ≠ 0 ∨ ((j0 : Int64).toInt = 0 ∧ (j1 : Int64).toInt = 0) from by omega), trivial⟩ [] rfl rfl dX12_common_17 (Nat.le_of_ble_eq_true rfl) (Nat.le_of_ble_eq_true rfl)
set_option maxHeartbeats 4000000 in
set_option maxRecDepth 100000 in
theorem gX12_common_f013f2c (l : Launch) (D : va_G) (cy : Nat → ClassId) (j0 : Int64) (j1 : Int64) (hj0 : (-76293) ≤ (j0).toInt ∧ (j0).toInt ≤ 76293) (hj1 : (-38146) ≤ (j1).toInt ∧ (j1).toInt ≤ 38146) (hpre0 : CM 38146 76293 (j0 : Int64).toInt (j1 : Int64).toInt) (sz : Nat) : ML l yX12_common cX12_common 4 { frames := 32, cells := 0, slots := 0, locals := 736 } [.long j0, .long j1] D cy [] sz (fun r u => ((-76293) ≤ r.toInt ∧ r.toInt ≤ 76293) ∧ ((r : Int64).toInt ≠ 0 ∨ ((j0 : Int64).toInt = 0 ∧ (j1 : Int64).toInt = 0)) ∧ True) (fun u => []) 0 0 := by
  refine q_ent (own := RX12) (by decide) rfl (Nat.le_of_ble_eq_true rfl) (fun p e s m below meth c ls X hr hlk hnm hK hT h hA hl => ?_)
  obtain ⟨hx, hb, hml, hown, ht⟩ := id X
  replace hl : lv_has ls 4 [(0, .long j0), (2, .long j1)] := hl
  refine lv_lload_n hx hb dX12_common_0 rfl (lv_at hl 1 rfl) ?_
  refine lv_lconst (v := 0) hx hb dX12_common_1 (by decide) ?_
  refine W.lcmp hx hb dX12_common_2 ?_
  refine lv_if_ne (tgt := 10) hx hb dX12_common_3 (by decide) (fun c_1 => ?_) (fun c_1 => ?_)
  · replace c_1 := j_neq (x := j1) (y := 0) rfl (show (0 : Int64).toInt = 0 by decide) c_1
    refine lv_lload_n hx hb dX12_common_10 rfl (lv_at hl 1 rfl) ?_
    refine lv_lload_n hx hb dX12_common_11 rfl (lv_at hl 0 rfl) ?_
    refine lv_lload_n hx hb dX12_common_12 rfl (lv_at hl 1 rfl) ?_
    refine lv_lrem hx hb dX12_common_13 (j_nz (by omega)) ?_
    obtain ⟨z_2, ez_2, hz_2⟩ := e_anyJ (j0 - j0 / j1 * j1)
    refine q_cl z_2 ez_2 ?_
    have cm_3 : CM 38146 38146 _ _ := cm_s (by decide) hpre0 (by omega) ez_2
    have cr_3 := cm_r cm_3
    refine q_callSl (rest := []) (wr := []) X hK hT hA h (fun sz => gX12_common_c18a055 l D cy j1 z_2 hj1 ⟨by omega, by omega⟩ (cm_3) sz) wm_8_20 wm_8_22 wm_1_12 hd_X12_common wm_8_21 ⟨Nat.le_of_ble_eq_true rfl, Nat.le_of_ble_eq_true rfl⟩ hl.1 rfl (Nat.le_of_ble_eq_true rfl) dX12_common_14 ⟨Nat.le_of_ble_eq_true rfl, Nat.le_of_ble_eq_true rfl⟩ [] [] rfl rfl (by decide) rfl rfl (fun r_4 u_4 H locs w_4 h_4 => ?_)
    clear h
    obtain ⟨wr_4, y4_0, _⟩ := w_4
    replace h_4 : qW D _ _ [] _ _ := h_4
    exact q_lret X hr hlk hK h_4 (fun _ => 0, fun _ _ => 0, fun _ _ => 0) ⟨(bw wr_4 (by decide) (by decide)), (show (r_4 : Int64).toInt ≠ 0 ∨ ((j0 : Int64).toInt = 0 ∧ (j1 : Int64).toInt = 0) from by omega), trivial⟩ [] rfl rfl dX12_common_17 (Nat.le_of_ble_eq_true rfl) (Nat.le_of_ble_eq_true rfl)
  · replace c_1 := j_eq (x := j1) (y := 0) rfl (show (0 : Int64).toInt = 0 by decide) c_1
    refine lv_lload_n hx hb dX12_common_6 rfl (lv_at hl 0 rfl) ?_
    refine lv_goto (tgt := 17) hx hb dX12_common_7 (by decide) ?_
    exact q_lret X hr hlk hK h (fun _ => 0, fun _ _ => 0, fun _ _ => 0) ⟨hj0, (show (j0 : Int64).toInt ≠ 0 ∨ ((j0 : Int64).toInt = 0 ∧ (j1 : Int64).toInt = 0) from by omega), trivial⟩ [] rfl rfl dX12_common_17 (Nat.le_of_ble_eq_true rfl) (Nat.le_of_ble_eq_true rfl)
set_option maxHeartbeats 4000000 in
set_option maxRecDepth 100000 in
theorem gX12_common_818f498 (l : Launch) (D : va_G) (cy : Nat → ClassId) (j0 : Int64) (j1 : Int64) (hj0 : (-76293) ≤ (j0).toInt ∧ (j0).toInt ≤ 76293) (hj1 : (-76293) ≤ (j1).toInt ∧ (j1).toInt ≤ 76293) (hpre0 : CM 76293 76293 (j0 : Int64).toInt (j1 : Int64).toInt) (sz : Nat) : ML l yX12_common cX12_common 4 { frames := 33, cells := 0, slots := 0, locals := 759 } [.long j0, .long j1] D cy [] sz (fun r u => ((-76293) ≤ r.toInt ∧ r.toInt ≤ 76293) ∧ ((r : Int64).toInt ≠ 0 ∨ ((j0 : Int64).toInt = 0 ∧ (j1 : Int64).toInt = 0)) ∧ True) (fun u => []) 0 0 := by
  refine q_ent (own := RX12) (by decide) rfl (Nat.le_of_ble_eq_true rfl) (fun p e s m below meth c ls X hr hlk hnm hK hT h hA hl => ?_)
  obtain ⟨hx, hb, hml, hown, ht⟩ := id X
  replace hl : lv_has ls 4 [(0, .long j0), (2, .long j1)] := hl
  refine lv_lload_n hx hb dX12_common_0 rfl (lv_at hl 1 rfl) ?_
  refine lv_lconst (v := 0) hx hb dX12_common_1 (by decide) ?_
  refine W.lcmp hx hb dX12_common_2 ?_
  refine lv_if_ne (tgt := 10) hx hb dX12_common_3 (by decide) (fun c_1 => ?_) (fun c_1 => ?_)
  · replace c_1 := j_neq (x := j1) (y := 0) rfl (show (0 : Int64).toInt = 0 by decide) c_1
    refine lv_lload_n hx hb dX12_common_10 rfl (lv_at hl 1 rfl) ?_
    refine lv_lload_n hx hb dX12_common_11 rfl (lv_at hl 0 rfl) ?_
    refine lv_lload_n hx hb dX12_common_12 rfl (lv_at hl 1 rfl) ?_
    refine lv_lrem hx hb dX12_common_13 (j_nz (by omega)) ?_
    obtain ⟨z_2, ez_2, hz_2⟩ := e_anyJ (j0 - j0 / j1 * j1)
    refine q_cl z_2 ez_2 ?_
    have cm_3 : CM 38146 76293 _ _ := cm_s (by decide) hpre0 (by omega) ez_2
    have cr_3 := cm_r cm_3
    refine q_callSl (rest := []) (wr := []) X hK hT hA h (fun sz => gX12_common_f013f2c l D cy j1 z_2 hj1 ⟨by omega, by omega⟩ (cm_3) sz) wm_8_20 wm_8_22 wm_1_12 hd_X12_common wm_8_21 ⟨Nat.le_of_ble_eq_true rfl, Nat.le_of_ble_eq_true rfl⟩ hl.1 rfl (Nat.le_of_ble_eq_true rfl) dX12_common_14 ⟨Nat.le_of_ble_eq_true rfl, Nat.le_of_ble_eq_true rfl⟩ [] [] rfl rfl (by decide) rfl rfl (fun r_4 u_4 H locs w_4 h_4 => ?_)
    clear h
    obtain ⟨wr_4, y4_0, _⟩ := w_4
    replace h_4 : qW D _ _ [] _ _ := h_4
    exact q_lret X hr hlk hK h_4 (fun _ => 0, fun _ _ => 0, fun _ _ => 0) ⟨wr_4, (show (r_4 : Int64).toInt ≠ 0 ∨ ((j0 : Int64).toInt = 0 ∧ (j1 : Int64).toInt = 0) from by omega), trivial⟩ [] rfl rfl dX12_common_17 (Nat.le_of_ble_eq_true rfl) (Nat.le_of_ble_eq_true rfl)
  · replace c_1 := j_eq (x := j1) (y := 0) rfl (show (0 : Int64).toInt = 0 by decide) c_1
    refine lv_lload_n hx hb dX12_common_6 rfl (lv_at hl 0 rfl) ?_
    refine lv_goto (tgt := 17) hx hb dX12_common_7 (by decide) ?_
    exact q_lret X hr hlk hK h (fun _ => 0, fun _ _ => 0, fun _ _ => 0) ⟨hj0, (show (j0 : Int64).toInt ≠ 0 ∨ ((j0 : Int64).toInt = 0 ∧ (j1 : Int64).toInt = 0) from by omega), trivial⟩ [] rfl rfl dX12_common_17 (Nat.le_of_ble_eq_true rfl) (Nat.le_of_ble_eq_true rfl)
set_option maxHeartbeats 4000000 in
set_option maxRecDepth 100000 in
theorem gX12_common_d1962f3 (l : Launch) (D : va_G) (cy : Nat → ClassId) (j0 : Int64) (j1 : Int64) (hj0 : (-152587) ≤ (j0).toInt ∧ (j0).toInt ≤ 152587) (hj1 : (-76293) ≤ (j1).toInt ∧ (j1).toInt ≤ 76293) (hpre0 : CM 76293 152587 (j0 : Int64).toInt (j1 : Int64).toInt) (sz : Nat) : ML l yX12_common cX12_common 4 { frames := 34, cells := 0, slots := 0, locals := 782 } [.long j0, .long j1] D cy [] sz (fun r u => ((-152587) ≤ r.toInt ∧ r.toInt ≤ 152587) ∧ ((r : Int64).toInt ≠ 0 ∨ ((j0 : Int64).toInt = 0 ∧ (j1 : Int64).toInt = 0)) ∧ True) (fun u => []) 0 0 := by
  refine q_ent (own := RX12) (by decide) rfl (Nat.le_of_ble_eq_true rfl) (fun p e s m below meth c ls X hr hlk hnm hK hT h hA hl => ?_)
  obtain ⟨hx, hb, hml, hown, ht⟩ := id X
  replace hl : lv_has ls 4 [(0, .long j0), (2, .long j1)] := hl
  refine lv_lload_n hx hb dX12_common_0 rfl (lv_at hl 1 rfl) ?_
  refine lv_lconst (v := 0) hx hb dX12_common_1 (by decide) ?_
  refine W.lcmp hx hb dX12_common_2 ?_
  refine lv_if_ne (tgt := 10) hx hb dX12_common_3 (by decide) (fun c_1 => ?_) (fun c_1 => ?_)
  · replace c_1 := j_neq (x := j1) (y := 0) rfl (show (0 : Int64).toInt = 0 by decide) c_1
    refine lv_lload_n hx hb dX12_common_10 rfl (lv_at hl 1 rfl) ?_
    refine lv_lload_n hx hb dX12_common_11 rfl (lv_at hl 0 rfl) ?_
    refine lv_lload_n hx hb dX12_common_12 rfl (lv_at hl 1 rfl) ?_
    refine lv_lrem hx hb dX12_common_13 (j_nz (by omega)) ?_
    obtain ⟨z_2, ez_2, hz_2⟩ := e_anyJ (j0 - j0 / j1 * j1)
    refine q_cl z_2 ez_2 ?_
    have cm_3 : CM 76293 76293 _ _ := cm_s (by decide) hpre0 (by omega) ez_2
    have cr_3 := cm_r cm_3
    refine q_callSl (rest := []) (wr := []) X hK hT hA h (fun sz => gX12_common_818f498 l D cy j1 z_2 hj1 ⟨by omega, by omega⟩ (cm_3) sz) wm_8_20 wm_8_22 wm_1_12 hd_X12_common wm_8_21 ⟨Nat.le_of_ble_eq_true rfl, Nat.le_of_ble_eq_true rfl⟩ hl.1 rfl (Nat.le_of_ble_eq_true rfl) dX12_common_14 ⟨Nat.le_of_ble_eq_true rfl, Nat.le_of_ble_eq_true rfl⟩ [] [] rfl rfl (by decide) rfl rfl (fun r_4 u_4 H locs w_4 h_4 => ?_)
    clear h
    obtain ⟨wr_4, y4_0, _⟩ := w_4
    replace h_4 : qW D _ _ [] _ _ := h_4
    exact q_lret X hr hlk hK h_4 (fun _ => 0, fun _ _ => 0, fun _ _ => 0) ⟨(bw wr_4 (by decide) (by decide)), (show (r_4 : Int64).toInt ≠ 0 ∨ ((j0 : Int64).toInt = 0 ∧ (j1 : Int64).toInt = 0) from by omega), trivial⟩ [] rfl rfl dX12_common_17 (Nat.le_of_ble_eq_true rfl) (Nat.le_of_ble_eq_true rfl)
  · replace c_1 := j_eq (x := j1) (y := 0) rfl (show (0 : Int64).toInt = 0 by decide) c_1
    refine lv_lload_n hx hb dX12_common_6 rfl (lv_at hl 0 rfl) ?_
    refine lv_goto (tgt := 17) hx hb dX12_common_7 (by decide) ?_
    exact q_lret X hr hlk hK h (fun _ => 0, fun _ _ => 0, fun _ _ => 0) ⟨hj0, (show (j0 : Int64).toInt ≠ 0 ∨ ((j0 : Int64).toInt = 0 ∧ (j1 : Int64).toInt = 0) from by omega), trivial⟩ [] rfl rfl dX12_common_17 (Nat.le_of_ble_eq_true rfl) (Nat.le_of_ble_eq_true rfl)
set_option maxHeartbeats 4000000 in
set_option maxRecDepth 100000 in
theorem gX12_common_5c1daf1 (l : Launch) (D : va_G) (cy : Nat → ClassId) (j0 : Int64) (j1 : Int64) (hj0 : (-152587) ≤ (j0).toInt ∧ (j0).toInt ≤ 152587) (hj1 : (-152587) ≤ (j1).toInt ∧ (j1).toInt ≤ 152587) (hpre0 : CM 152587 152587 (j0 : Int64).toInt (j1 : Int64).toInt) (sz : Nat) : ML l yX12_common cX12_common 4 { frames := 35, cells := 0, slots := 0, locals := 805 } [.long j0, .long j1] D cy [] sz (fun r u => ((-152587) ≤ r.toInt ∧ r.toInt ≤ 152587) ∧ ((r : Int64).toInt ≠ 0 ∨ ((j0 : Int64).toInt = 0 ∧ (j1 : Int64).toInt = 0)) ∧ True) (fun u => []) 0 0 := by
  refine q_ent (own := RX12) (by decide) rfl (Nat.le_of_ble_eq_true rfl) (fun p e s m below meth c ls X hr hlk hnm hK hT h hA hl => ?_)
  obtain ⟨hx, hb, hml, hown, ht⟩ := id X
  replace hl : lv_has ls 4 [(0, .long j0), (2, .long j1)] := hl
  refine lv_lload_n hx hb dX12_common_0 rfl (lv_at hl 1 rfl) ?_
  refine lv_lconst (v := 0) hx hb dX12_common_1 (by decide) ?_
  refine W.lcmp hx hb dX12_common_2 ?_
  refine lv_if_ne (tgt := 10) hx hb dX12_common_3 (by decide) (fun c_1 => ?_) (fun c_1 => ?_)
  · replace c_1 := j_neq (x := j1) (y := 0) rfl (show (0 : Int64).toInt = 0 by decide) c_1
    refine lv_lload_n hx hb dX12_common_10 rfl (lv_at hl 1 rfl) ?_
    refine lv_lload_n hx hb dX12_common_11 rfl (lv_at hl 0 rfl) ?_
    refine lv_lload_n hx hb dX12_common_12 rfl (lv_at hl 1 rfl) ?_
    refine lv_lrem hx hb dX12_common_13 (j_nz (by omega)) ?_
    obtain ⟨z_2, ez_2, hz_2⟩ := e_anyJ (j0 - j0 / j1 * j1)
    refine q_cl z_2 ez_2 ?_
    have cm_3 : CM 76293 152587 _ _ := cm_s (by decide) hpre0 (by omega) ez_2
    have cr_3 := cm_r cm_3
    refine q_callSl (rest := []) (wr := []) X hK hT hA h (fun sz => gX12_common_d1962f3 l D cy j1 z_2 hj1 ⟨by omega, by omega⟩ (cm_3) sz) wm_8_20 wm_8_22 wm_1_12 hd_X12_common wm_8_21 ⟨Nat.le_of_ble_eq_true rfl, Nat.le_of_ble_eq_true rfl⟩ hl.1 rfl (Nat.le_of_ble_eq_true rfl) dX12_common_14 ⟨Nat.le_of_ble_eq_true rfl, Nat.le_of_ble_eq_true rfl⟩ [] [] rfl rfl (by decide) rfl rfl (fun r_4 u_4 H locs w_4 h_4 => ?_)
    clear h
    obtain ⟨wr_4, y4_0, _⟩ := w_4
    replace h_4 : qW D _ _ [] _ _ := h_4
    exact q_lret X hr hlk hK h_4 (fun _ => 0, fun _ _ => 0, fun _ _ => 0) ⟨wr_4, (show (r_4 : Int64).toInt ≠ 0 ∨ ((j0 : Int64).toInt = 0 ∧ (j1 : Int64).toInt = 0) from by omega), trivial⟩ [] rfl rfl dX12_common_17 (Nat.le_of_ble_eq_true rfl) (Nat.le_of_ble_eq_true rfl)
  · replace c_1 := j_eq (x := j1) (y := 0) rfl (show (0 : Int64).toInt = 0 by decide) c_1
    refine lv_lload_n hx hb dX12_common_6 rfl (lv_at hl 0 rfl) ?_
    refine lv_goto (tgt := 17) hx hb dX12_common_7 (by decide) ?_
    exact q_lret X hr hlk hK h (fun _ => 0, fun _ _ => 0, fun _ _ => 0) ⟨hj0, (show (j0 : Int64).toInt ≠ 0 ∨ ((j0 : Int64).toInt = 0 ∧ (j1 : Int64).toInt = 0) from by omega), trivial⟩ [] rfl rfl dX12_common_17 (Nat.le_of_ble_eq_true rfl) (Nat.le_of_ble_eq_true rfl)
set_option maxHeartbeats 4000000 in
set_option maxRecDepth 100000 in
theorem gX12_common_450f168 (l : Launch) (D : va_G) (cy : Nat → ClassId) (j0 : Int64) (j1 : Int64) (hj0 : (-305175) ≤ (j0).toInt ∧ (j0).toInt ≤ 305175) (hj1 : (-152587) ≤ (j1).toInt ∧ (j1).toInt ≤ 152587) (hpre0 : CM 152587 305175 (j0 : Int64).toInt (j1 : Int64).toInt) (sz : Nat) : ML l yX12_common cX12_common 4 { frames := 36, cells := 0, slots := 0, locals := 828 } [.long j0, .long j1] D cy [] sz (fun r u => ((-305175) ≤ r.toInt ∧ r.toInt ≤ 305175) ∧ ((r : Int64).toInt ≠ 0 ∨ ((j0 : Int64).toInt = 0 ∧ (j1 : Int64).toInt = 0)) ∧ True) (fun u => []) 0 0 := by
  refine q_ent (own := RX12) (by decide) rfl (Nat.le_of_ble_eq_true rfl) (fun p e s m below meth c ls X hr hlk hnm hK hT h hA hl => ?_)
  obtain ⟨hx, hb, hml, hown, ht⟩ := id X
  replace hl : lv_has ls 4 [(0, .long j0), (2, .long j1)] := hl
  refine lv_lload_n hx hb dX12_common_0 rfl (lv_at hl 1 rfl) ?_
  refine lv_lconst (v := 0) hx hb dX12_common_1 (by decide) ?_
  refine W.lcmp hx hb dX12_common_2 ?_
  refine lv_if_ne (tgt := 10) hx hb dX12_common_3 (by decide) (fun c_1 => ?_) (fun c_1 => ?_)
  · replace c_1 := j_neq (x := j1) (y := 0) rfl (show (0 : Int64).toInt = 0 by decide) c_1
    refine lv_lload_n hx hb dX12_common_10 rfl (lv_at hl 1 rfl) ?_
    refine lv_lload_n hx hb dX12_common_11 rfl (lv_at hl 0 rfl) ?_
    refine lv_lload_n hx hb dX12_common_12 rfl (lv_at hl 1 rfl) ?_
    refine lv_lrem hx hb dX12_common_13 (j_nz (by omega)) ?_
    obtain ⟨z_2, ez_2, hz_2⟩ := e_anyJ (j0 - j0 / j1 * j1)
    refine q_cl z_2 ez_2 ?_
    have cm_3 : CM 152587 152587 _ _ := cm_s (by decide) hpre0 (by omega) ez_2
    have cr_3 := cm_r cm_3
    refine q_callSl (rest := []) (wr := []) X hK hT hA h (fun sz => gX12_common_5c1daf1 l D cy j1 z_2 hj1 ⟨by omega, by omega⟩ (cm_3) sz) wm_8_20 wm_8_22 wm_1_12 hd_X12_common wm_8_21 ⟨Nat.le_of_ble_eq_true rfl, Nat.le_of_ble_eq_true rfl⟩ hl.1 rfl (Nat.le_of_ble_eq_true rfl) dX12_common_14 ⟨Nat.le_of_ble_eq_true rfl, Nat.le_of_ble_eq_true rfl⟩ [] [] rfl rfl (by decide) rfl rfl (fun r_4 u_4 H locs w_4 h_4 => ?_)
    clear h
    obtain ⟨wr_4, y4_0, _⟩ := w_4
    replace h_4 : qW D _ _ [] _ _ := h_4
    exact q_lret X hr hlk hK h_4 (fun _ => 0, fun _ _ => 0, fun _ _ => 0) ⟨(bw wr_4 (by decide) (by decide)), (show (r_4 : Int64).toInt ≠ 0 ∨ ((j0 : Int64).toInt = 0 ∧ (j1 : Int64).toInt = 0) from by omega), trivial⟩ [] rfl rfl dX12_common_17 (Nat.le_of_ble_eq_true rfl) (Nat.le_of_ble_eq_true rfl)
  · replace c_1 := j_eq (x := j1) (y := 0) rfl (show (0 : Int64).toInt = 0 by decide) c_1
    refine lv_lload_n hx hb dX12_common_6 rfl (lv_at hl 0 rfl) ?_
    refine lv_goto (tgt := 17) hx hb dX12_common_7 (by decide) ?_
    exact q_lret X hr hlk hK h (fun _ => 0, fun _ _ => 0, fun _ _ => 0) ⟨hj0, (show (j0 : Int64).toInt ≠ 0 ∨ ((j0 : Int64).toInt = 0 ∧ (j1 : Int64).toInt = 0) from by omega), trivial⟩ [] rfl rfl dX12_common_17 (Nat.le_of_ble_eq_true rfl) (Nat.le_of_ble_eq_true rfl)
set_option maxHeartbeats 4000000 in
set_option maxRecDepth 100000 in
theorem gX12_common_52d1f75 (l : Launch) (D : va_G) (cy : Nat → ClassId) (j0 : Int64) (j1 : Int64) (hj0 : (-305175) ≤ (j0).toInt ∧ (j0).toInt ≤ 305175) (hj1 : (-305175) ≤ (j1).toInt ∧ (j1).toInt ≤ 305175) (hpre0 : CM 305175 305175 (j0 : Int64).toInt (j1 : Int64).toInt) (sz : Nat) : ML l yX12_common cX12_common 4 { frames := 37, cells := 0, slots := 0, locals := 851 } [.long j0, .long j1] D cy [] sz (fun r u => ((-305175) ≤ r.toInt ∧ r.toInt ≤ 305175) ∧ ((r : Int64).toInt ≠ 0 ∨ ((j0 : Int64).toInt = 0 ∧ (j1 : Int64).toInt = 0)) ∧ True) (fun u => []) 0 0 := by
  refine q_ent (own := RX12) (by decide) rfl (Nat.le_of_ble_eq_true rfl) (fun p e s m below meth c ls X hr hlk hnm hK hT h hA hl => ?_)
  obtain ⟨hx, hb, hml, hown, ht⟩ := id X
  replace hl : lv_has ls 4 [(0, .long j0), (2, .long j1)] := hl
  refine lv_lload_n hx hb dX12_common_0 rfl (lv_at hl 1 rfl) ?_
  refine lv_lconst (v := 0) hx hb dX12_common_1 (by decide) ?_
  refine W.lcmp hx hb dX12_common_2 ?_
  refine lv_if_ne (tgt := 10) hx hb dX12_common_3 (by decide) (fun c_1 => ?_) (fun c_1 => ?_)
  · replace c_1 := j_neq (x := j1) (y := 0) rfl (show (0 : Int64).toInt = 0 by decide) c_1
    refine lv_lload_n hx hb dX12_common_10 rfl (lv_at hl 1 rfl) ?_
    refine lv_lload_n hx hb dX12_common_11 rfl (lv_at hl 0 rfl) ?_
    refine lv_lload_n hx hb dX12_common_12 rfl (lv_at hl 1 rfl) ?_
    refine lv_lrem hx hb dX12_common_13 (j_nz (by omega)) ?_
    obtain ⟨z_2, ez_2, hz_2⟩ := e_anyJ (j0 - j0 / j1 * j1)
    refine q_cl z_2 ez_2 ?_
    have cm_3 : CM 152587 305175 _ _ := cm_s (by decide) hpre0 (by omega) ez_2
    have cr_3 := cm_r cm_3
    refine q_callSl (rest := []) (wr := []) X hK hT hA h (fun sz => gX12_common_450f168 l D cy j1 z_2 hj1 ⟨by omega, by omega⟩ (cm_3) sz) wm_8_20 wm_8_22 wm_1_12 hd_X12_common wm_8_21 ⟨Nat.le_of_ble_eq_true rfl, Nat.le_of_ble_eq_true rfl⟩ hl.1 rfl (Nat.le_of_ble_eq_true rfl) dX12_common_14 ⟨Nat.le_of_ble_eq_true rfl, Nat.le_of_ble_eq_true rfl⟩ [] [] rfl rfl (by decide) rfl rfl (fun r_4 u_4 H locs w_4 h_4 => ?_)
    clear h
    obtain ⟨wr_4, y4_0, _⟩ := w_4
    replace h_4 : qW D _ _ [] _ _ := h_4
    exact q_lret X hr hlk hK h_4 (fun _ => 0, fun _ _ => 0, fun _ _ => 0) ⟨wr_4, (show (r_4 : Int64).toInt ≠ 0 ∨ ((j0 : Int64).toInt = 0 ∧ (j1 : Int64).toInt = 0) from by omega), trivial⟩ [] rfl rfl dX12_common_17 (Nat.le_of_ble_eq_true rfl) (Nat.le_of_ble_eq_true rfl)
  · replace c_1 := j_eq (x := j1) (y := 0) rfl (show (0 : Int64).toInt = 0 by decide) c_1
    refine lv_lload_n hx hb dX12_common_6 rfl (lv_at hl 0 rfl) ?_
    refine lv_goto (tgt := 17) hx hb dX12_common_7 (by decide) ?_
    exact q_lret X hr hlk hK h (fun _ => 0, fun _ _ => 0, fun _ _ => 0) ⟨hj0, (show (j0 : Int64).toInt ≠ 0 ∨ ((j0 : Int64).toInt = 0 ∧ (j1 : Int64).toInt = 0) from by omega), trivial⟩ [] rfl rfl dX12_common_17 (Nat.le_of_ble_eq_true rfl) (Nat.le_of_ble_eq_true rfl)
set_option maxHeartbeats 4000000 in
set_option maxRecDepth 100000 in
theorem gX12_common_c828d64 (l : Launch) (D : va_G) (cy : Nat → ClassId) (j0 : Int64) (j1 : Int64) (hj0 : (-610351) ≤ (j0).toInt ∧ (j0).toInt ≤ 610351) (hj1 : (-305175) ≤ (j1).toInt ∧ (j1).toInt ≤ 305175) (hpre0 : CM 305175 610351 (j0 : Int64).toInt (j1 : Int64).toInt) (sz : Nat) : ML l yX12_common cX12_common 4 { frames := 38, cells := 0, slots := 0, locals := 874 } [.long j0, .long j1] D cy [] sz (fun r u => ((-610351) ≤ r.toInt ∧ r.toInt ≤ 610351) ∧ ((r : Int64).toInt ≠ 0 ∨ ((j0 : Int64).toInt = 0 ∧ (j1 : Int64).toInt = 0)) ∧ True) (fun u => []) 0 0 := by
  refine q_ent (own := RX12) (by decide) rfl (Nat.le_of_ble_eq_true rfl) (fun p e s m below meth c ls X hr hlk hnm hK hT h hA hl => ?_)
  obtain ⟨hx, hb, hml, hown, ht⟩ := id X
  replace hl : lv_has ls 4 [(0, .long j0), (2, .long j1)] := hl
  refine lv_lload_n hx hb dX12_common_0 rfl (lv_at hl 1 rfl) ?_
  refine lv_lconst (v := 0) hx hb dX12_common_1 (by decide) ?_
  refine W.lcmp hx hb dX12_common_2 ?_
  refine lv_if_ne (tgt := 10) hx hb dX12_common_3 (by decide) (fun c_1 => ?_) (fun c_1 => ?_)
  · replace c_1 := j_neq (x := j1) (y := 0) rfl (show (0 : Int64).toInt = 0 by decide) c_1
    refine lv_lload_n hx hb dX12_common_10 rfl (lv_at hl 1 rfl) ?_
    refine lv_lload_n hx hb dX12_common_11 rfl (lv_at hl 0 rfl) ?_
    refine lv_lload_n hx hb dX12_common_12 rfl (lv_at hl 1 rfl) ?_
    refine lv_lrem hx hb dX12_common_13 (j_nz (by omega)) ?_
    obtain ⟨z_2, ez_2, hz_2⟩ := e_anyJ (j0 - j0 / j1 * j1)
    refine q_cl z_2 ez_2 ?_
    have cm_3 : CM 305175 305175 _ _ := cm_s (by decide) hpre0 (by omega) ez_2
    have cr_3 := cm_r cm_3
    refine q_callSl (rest := []) (wr := []) X hK hT hA h (fun sz => gX12_common_52d1f75 l D cy j1 z_2 hj1 ⟨by omega, by omega⟩ (cm_3) sz) wm_8_20 wm_8_22 wm_1_12 hd_X12_common wm_8_21 ⟨Nat.le_of_ble_eq_true rfl, Nat.le_of_ble_eq_true rfl⟩ hl.1 rfl (Nat.le_of_ble_eq_true rfl) dX12_common_14 ⟨Nat.le_of_ble_eq_true rfl, Nat.le_of_ble_eq_true rfl⟩ [] [] rfl rfl (by decide) rfl rfl (fun r_4 u_4 H locs w_4 h_4 => ?_)
    clear h
    obtain ⟨wr_4, y4_0, _⟩ := w_4
    replace h_4 : qW D _ _ [] _ _ := h_4
    exact q_lret X hr hlk hK h_4 (fun _ => 0, fun _ _ => 0, fun _ _ => 0) ⟨(bw wr_4 (by decide) (by decide)), (show (r_4 : Int64).toInt ≠ 0 ∨ ((j0 : Int64).toInt = 0 ∧ (j1 : Int64).toInt = 0) from by omega), trivial⟩ [] rfl rfl dX12_common_17 (Nat.le_of_ble_eq_true rfl) (Nat.le_of_ble_eq_true rfl)
  · replace c_1 := j_eq (x := j1) (y := 0) rfl (show (0 : Int64).toInt = 0 by decide) c_1
    refine lv_lload_n hx hb dX12_common_6 rfl (lv_at hl 0 rfl) ?_
    refine lv_goto (tgt := 17) hx hb dX12_common_7 (by decide) ?_
    exact q_lret X hr hlk hK h (fun _ => 0, fun _ _ => 0, fun _ _ => 0) ⟨hj0, (show (j0 : Int64).toInt ≠ 0 ∨ ((j0 : Int64).toInt = 0 ∧ (j1 : Int64).toInt = 0) from by omega), trivial⟩ [] rfl rfl dX12_common_17 (Nat.le_of_ble_eq_true rfl) (Nat.le_of_ble_eq_true rfl)
set_option maxHeartbeats 4000000 in
set_option maxRecDepth 100000 in
theorem gX12_common_90642f0 (l : Launch) (D : va_G) (cy : Nat → ClassId) (j0 : Int64) (j1 : Int64) (hj0 : (-610351) ≤ (j0).toInt ∧ (j0).toInt ≤ 610351) (hj1 : (-610351) ≤ (j1).toInt ∧ (j1).toInt ≤ 610351) (hpre0 : CM 610351 610351 (j0 : Int64).toInt (j1 : Int64).toInt) (sz : Nat) : ML l yX12_common cX12_common 4 { frames := 39, cells := 0, slots := 0, locals := 897 } [.long j0, .long j1] D cy [] sz (fun r u => ((-610351) ≤ r.toInt ∧ r.toInt ≤ 610351) ∧ ((r : Int64).toInt ≠ 0 ∨ ((j0 : Int64).toInt = 0 ∧ (j1 : Int64).toInt = 0)) ∧ True) (fun u => []) 0 0 := by
  refine q_ent (own := RX12) (by decide) rfl (Nat.le_of_ble_eq_true rfl) (fun p e s m below meth c ls X hr hlk hnm hK hT h hA hl => ?_)
  obtain ⟨hx, hb, hml, hown, ht⟩ := id X
  replace hl : lv_has ls 4 [(0, .long j0), (2, .long j1)] := hl
  refine lv_lload_n hx hb dX12_common_0 rfl (lv_at hl 1 rfl) ?_
  refine lv_lconst (v := 0) hx hb dX12_common_1 (by decide) ?_
  refine W.lcmp hx hb dX12_common_2 ?_
  refine lv_if_ne (tgt := 10) hx hb dX12_common_3 (by decide) (fun c_1 => ?_) (fun c_1 => ?_)
  · replace c_1 := j_neq (x := j1) (y := 0) rfl (show (0 : Int64).toInt = 0 by decide) c_1
    refine lv_lload_n hx hb dX12_common_10 rfl (lv_at hl 1 rfl) ?_
    refine lv_lload_n hx hb dX12_common_11 rfl (lv_at hl 0 rfl) ?_
    refine lv_lload_n hx hb dX12_common_12 rfl (lv_at hl 1 rfl) ?_
    refine lv_lrem hx hb dX12_common_13 (j_nz (by omega)) ?_
    obtain ⟨z_2, ez_2, hz_2⟩ := e_anyJ (j0 - j0 / j1 * j1)
    refine q_cl z_2 ez_2 ?_
    have cm_3 : CM 305175 610351 _ _ := cm_s (by decide) hpre0 (by omega) ez_2
    have cr_3 := cm_r cm_3
    refine q_callSl (rest := []) (wr := []) X hK hT hA h (fun sz => gX12_common_c828d64 l D cy j1 z_2 hj1 ⟨by omega, by omega⟩ (cm_3) sz) wm_8_20 wm_8_22 wm_1_12 hd_X12_common wm_8_21 ⟨Nat.le_of_ble_eq_true rfl, Nat.le_of_ble_eq_true rfl⟩ hl.1 rfl (Nat.le_of_ble_eq_true rfl) dX12_common_14 ⟨Nat.le_of_ble_eq_true rfl, Nat.le_of_ble_eq_true rfl⟩ [] [] rfl rfl (by decide) rfl rfl (fun r_4 u_4 H locs w_4 h_4 => ?_)
    clear h
    obtain ⟨wr_4, y4_0, _⟩ := w_4
    replace h_4 : qW D _ _ [] _ _ := h_4
    exact q_lret X hr hlk hK h_4 (fun _ => 0, fun _ _ => 0, fun _ _ => 0) ⟨wr_4, (show (r_4 : Int64).toInt ≠ 0 ∨ ((j0 : Int64).toInt = 0 ∧ (j1 : Int64).toInt = 0) from by omega), trivial⟩ [] rfl rfl dX12_common_17 (Nat.le_of_ble_eq_true rfl) (Nat.le_of_ble_eq_true rfl)
  · replace c_1 := j_eq (x := j1) (y := 0) rfl (show (0 : Int64).toInt = 0 by decide) c_1
    refine lv_lload_n hx hb dX12_common_6 rfl (lv_at hl 0 rfl) ?_
    refine lv_goto (tgt := 17) hx hb dX12_common_7 (by decide) ?_
    exact q_lret X hr hlk hK h (fun _ => 0, fun _ _ => 0, fun _ _ => 0) ⟨hj0, (show (j0 : Int64).toInt ≠ 0 ∨ ((j0 : Int64).toInt = 0 ∧ (j1 : Int64).toInt = 0) from by omega), trivial⟩ [] rfl rfl dX12_common_17 (Nat.le_of_ble_eq_true rfl) (Nat.le_of_ble_eq_true rfl)
set_option maxHeartbeats 4000000 in
set_option maxRecDepth 100000 in
theorem gX12_common_95cc9e1 (l : Launch) (D : va_G) (cy : Nat → ClassId) (j0 : Int64) (j1 : Int64) (hj0 : (-1220703) ≤ (j0).toInt ∧ (j0).toInt ≤ 1220703) (hj1 : (-610351) ≤ (j1).toInt ∧ (j1).toInt ≤ 610351) (hpre0 : CM 610351 1220703 (j0 : Int64).toInt (j1 : Int64).toInt) (sz : Nat) : ML l yX12_common cX12_common 4 { frames := 40, cells := 0, slots := 0, locals := 920 } [.long j0, .long j1] D cy [] sz (fun r u => ((-1220703) ≤ r.toInt ∧ r.toInt ≤ 1220703) ∧ ((r : Int64).toInt ≠ 0 ∨ ((j0 : Int64).toInt = 0 ∧ (j1 : Int64).toInt = 0)) ∧ True) (fun u => []) 0 0 := by
  refine q_ent (own := RX12) (by decide) rfl (Nat.le_of_ble_eq_true rfl) (fun p e s m below meth c ls X hr hlk hnm hK hT h hA hl => ?_)
  obtain ⟨hx, hb, hml, hown, ht⟩ := id X
  replace hl : lv_has ls 4 [(0, .long j0), (2, .long j1)] := hl
  refine lv_lload_n hx hb dX12_common_0 rfl (lv_at hl 1 rfl) ?_
  refine lv_lconst (v := 0) hx hb dX12_common_1 (by decide) ?_
  refine W.lcmp hx hb dX12_common_2 ?_
  refine lv_if_ne (tgt := 10) hx hb dX12_common_3 (by decide) (fun c_1 => ?_) (fun c_1 => ?_)
  · replace c_1 := j_neq (x := j1) (y := 0) rfl (show (0 : Int64).toInt = 0 by decide) c_1
    refine lv_lload_n hx hb dX12_common_10 rfl (lv_at hl 1 rfl) ?_
    refine lv_lload_n hx hb dX12_common_11 rfl (lv_at hl 0 rfl) ?_
    refine lv_lload_n hx hb dX12_common_12 rfl (lv_at hl 1 rfl) ?_
    refine lv_lrem hx hb dX12_common_13 (j_nz (by omega)) ?_
    obtain ⟨z_2, ez_2, hz_2⟩ := e_anyJ (j0 - j0 / j1 * j1)
    refine q_cl z_2 ez_2 ?_
    have cm_3 : CM 610351 610351 _ _ := cm_s (by decide) hpre0 (by omega) ez_2
    have cr_3 := cm_r cm_3
    refine q_callSl (rest := []) (wr := []) X hK hT hA h (fun sz => gX12_common_90642f0 l D cy j1 z_2 hj1 ⟨by omega, by omega⟩ (cm_3) sz) wm_8_20 wm_8_22 wm_1_12 hd_X12_common wm_8_21 ⟨Nat.le_of_ble_eq_true rfl, Nat.le_of_ble_eq_true rfl⟩ hl.1 rfl (Nat.le_of_ble_eq_true rfl) dX12_common_14 ⟨Nat.le_of_ble_eq_true rfl, Nat.le_of_ble_eq_true rfl⟩ [] [] rfl rfl (by decide) rfl rfl (fun r_4 u_4 H locs w_4 h_4 => ?_)
    clear h
    obtain ⟨wr_4, y4_0, _⟩ := w_4
    replace h_4 : qW D _ _ [] _ _ := h_4
    exact q_lret X hr hlk hK h_4 (fun _ => 0, fun _ _ => 0, fun _ _ => 0) ⟨(bw wr_4 (by decide) (by decide)), (show (r_4 : Int64).toInt ≠ 0 ∨ ((j0 : Int64).toInt = 0 ∧ (j1 : Int64).toInt = 0) from by omega), trivial⟩ [] rfl rfl dX12_common_17 (Nat.le_of_ble_eq_true rfl) (Nat.le_of_ble_eq_true rfl)
  · replace c_1 := j_eq (x := j1) (y := 0) rfl (show (0 : Int64).toInt = 0 by decide) c_1
    refine lv_lload_n hx hb dX12_common_6 rfl (lv_at hl 0 rfl) ?_
    refine lv_goto (tgt := 17) hx hb dX12_common_7 (by decide) ?_
    exact q_lret X hr hlk hK h (fun _ => 0, fun _ _ => 0, fun _ _ => 0) ⟨hj0, (show (j0 : Int64).toInt ≠ 0 ∨ ((j0 : Int64).toInt = 0 ∧ (j1 : Int64).toInt = 0) from by omega), trivial⟩ [] rfl rfl dX12_common_17 (Nat.le_of_ble_eq_true rfl) (Nat.le_of_ble_eq_true rfl)
set_option maxHeartbeats 4000000 in
set_option maxRecDepth 100000 in
theorem gX12_common_ae74265 (l : Launch) (D : va_G) (cy : Nat → ClassId) (j0 : Int64) (j1 : Int64) (hj0 : (-1220703) ≤ (j0).toInt ∧ (j0).toInt ≤ 1220703) (hj1 : (-1220703) ≤ (j1).toInt ∧ (j1).toInt ≤ 1220703) (hpre0 : CM 1220703 1220703 (j0 : Int64).toInt (j1 : Int64).toInt) (sz : Nat) : ML l yX12_common cX12_common 4 { frames := 41, cells := 0, slots := 0, locals := 943 } [.long j0, .long j1] D cy [] sz (fun r u => ((-1220703) ≤ r.toInt ∧ r.toInt ≤ 1220703) ∧ ((r : Int64).toInt ≠ 0 ∨ ((j0 : Int64).toInt = 0 ∧ (j1 : Int64).toInt = 0)) ∧ True) (fun u => []) 0 0 := by
  refine q_ent (own := RX12) (by decide) rfl (Nat.le_of_ble_eq_true rfl) (fun p e s m below meth c ls X hr hlk hnm hK hT h hA hl => ?_)
  obtain ⟨hx, hb, hml, hown, ht⟩ := id X
  replace hl : lv_has ls 4 [(0, .long j0), (2, .long j1)] := hl
  refine lv_lload_n hx hb dX12_common_0 rfl (lv_at hl 1 rfl) ?_
  refine lv_lconst (v := 0) hx hb dX12_common_1 (by decide) ?_
  refine W.lcmp hx hb dX12_common_2 ?_
  refine lv_if_ne (tgt := 10) hx hb dX12_common_3 (by decide) (fun c_1 => ?_) (fun c_1 => ?_)
  · replace c_1 := j_neq (x := j1) (y := 0) rfl (show (0 : Int64).toInt = 0 by decide) c_1
    refine lv_lload_n hx hb dX12_common_10 rfl (lv_at hl 1 rfl) ?_
    refine lv_lload_n hx hb dX12_common_11 rfl (lv_at hl 0 rfl) ?_
    refine lv_lload_n hx hb dX12_common_12 rfl (lv_at hl 1 rfl) ?_
    refine lv_lrem hx hb dX12_common_13 (j_nz (by omega)) ?_
    obtain ⟨z_2, ez_2, hz_2⟩ := e_anyJ (j0 - j0 / j1 * j1)
    refine q_cl z_2 ez_2 ?_
    have cm_3 : CM 610351 1220703 _ _ := cm_s (by decide) hpre0 (by omega) ez_2
    have cr_3 := cm_r cm_3
    refine q_callSl (rest := []) (wr := []) X hK hT hA h (fun sz => gX12_common_95cc9e1 l D cy j1 z_2 hj1 ⟨by omega, by omega⟩ (cm_3) sz) wm_8_20 wm_8_22 wm_1_12 hd_X12_common wm_8_21 ⟨Nat.le_of_ble_eq_true rfl, Nat.le_of_ble_eq_true rfl⟩ hl.1 rfl (Nat.le_of_ble_eq_true rfl) dX12_common_14 ⟨Nat.le_of_ble_eq_true rfl, Nat.le_of_ble_eq_true rfl⟩ [] [] rfl rfl (by decide) rfl rfl (fun r_4 u_4 H locs w_4 h_4 => ?_)
    clear h
    obtain ⟨wr_4, y4_0, _⟩ := w_4
    replace h_4 : qW D _ _ [] _ _ := h_4
    exact q_lret X hr hlk hK h_4 (fun _ => 0, fun _ _ => 0, fun _ _ => 0) ⟨wr_4, (show (r_4 : Int64).toInt ≠ 0 ∨ ((j0 : Int64).toInt = 0 ∧ (j1 : Int64).toInt = 0) from by omega), trivial⟩ [] rfl rfl dX12_common_17 (Nat.le_of_ble_eq_true rfl) (Nat.le_of_ble_eq_true rfl)
  · replace c_1 := j_eq (x := j1) (y := 0) rfl (show (0 : Int64).toInt = 0 by decide) c_1
    refine lv_lload_n hx hb dX12_common_6 rfl (lv_at hl 0 rfl) ?_
    refine lv_goto (tgt := 17) hx hb dX12_common_7 (by decide) ?_
    exact q_lret X hr hlk hK h (fun _ => 0, fun _ _ => 0, fun _ _ => 0) ⟨hj0, (show (j0 : Int64).toInt ≠ 0 ∨ ((j0 : Int64).toInt = 0 ∧ (j1 : Int64).toInt = 0) from by omega), trivial⟩ [] rfl rfl dX12_common_17 (Nat.le_of_ble_eq_true rfl) (Nat.le_of_ble_eq_true rfl)
set_option maxHeartbeats 4000000 in
set_option maxRecDepth 100000 in
theorem gX12_common_b8ddbd5 (l : Launch) (D : va_G) (cy : Nat → ClassId) (j0 : Int64) (j1 : Int64) (hj0 : (-2441406) ≤ (j0).toInt ∧ (j0).toInt ≤ 2441406) (hj1 : (-1220703) ≤ (j1).toInt ∧ (j1).toInt ≤ 1220703) (hpre0 : CM 1220703 2441406 (j0 : Int64).toInt (j1 : Int64).toInt) (sz : Nat) : ML l yX12_common cX12_common 4 { frames := 42, cells := 0, slots := 0, locals := 966 } [.long j0, .long j1] D cy [] sz (fun r u => ((-2441406) ≤ r.toInt ∧ r.toInt ≤ 2441406) ∧ ((r : Int64).toInt ≠ 0 ∨ ((j0 : Int64).toInt = 0 ∧ (j1 : Int64).toInt = 0)) ∧ True) (fun u => []) 0 0 := by
  refine q_ent (own := RX12) (by decide) rfl (Nat.le_of_ble_eq_true rfl) (fun p e s m below meth c ls X hr hlk hnm hK hT h hA hl => ?_)
  obtain ⟨hx, hb, hml, hown, ht⟩ := id X
  replace hl : lv_has ls 4 [(0, .long j0), (2, .long j1)] := hl
  refine lv_lload_n hx hb dX12_common_0 rfl (lv_at hl 1 rfl) ?_
  refine lv_lconst (v := 0) hx hb dX12_common_1 (by decide) ?_
  refine W.lcmp hx hb dX12_common_2 ?_
  refine lv_if_ne (tgt := 10) hx hb dX12_common_3 (by decide) (fun c_1 => ?_) (fun c_1 => ?_)
  · replace c_1 := j_neq (x := j1) (y := 0) rfl (show (0 : Int64).toInt = 0 by decide) c_1
    refine lv_lload_n hx hb dX12_common_10 rfl (lv_at hl 1 rfl) ?_
    refine lv_lload_n hx hb dX12_common_11 rfl (lv_at hl 0 rfl) ?_
    refine lv_lload_n hx hb dX12_common_12 rfl (lv_at hl 1 rfl) ?_
    refine lv_lrem hx hb dX12_common_13 (j_nz (by omega)) ?_
    obtain ⟨z_2, ez_2, hz_2⟩ := e_anyJ (j0 - j0 / j1 * j1)
    refine q_cl z_2 ez_2 ?_
    have cm_3 : CM 1220703 1220703 _ _ := cm_s (by decide) hpre0 (by omega) ez_2
    have cr_3 := cm_r cm_3
    refine q_callSl (rest := []) (wr := []) X hK hT hA h (fun sz => gX12_common_ae74265 l D cy j1 z_2 hj1 ⟨by omega, by omega⟩ (cm_3) sz) wm_8_20 wm_8_22 wm_1_12 hd_X12_common wm_8_21 ⟨Nat.le_of_ble_eq_true rfl, Nat.le_of_ble_eq_true rfl⟩ hl.1 rfl (Nat.le_of_ble_eq_true rfl) dX12_common_14 ⟨Nat.le_of_ble_eq_true rfl, Nat.le_of_ble_eq_true rfl⟩ [] [] rfl rfl (by decide) rfl rfl (fun r_4 u_4 H locs w_4 h_4 => ?_)
    clear h
    obtain ⟨wr_4, y4_0, _⟩ := w_4
    replace h_4 : qW D _ _ [] _ _ := h_4
    exact q_lret X hr hlk hK h_4 (fun _ => 0, fun _ _ => 0, fun _ _ => 0) ⟨(bw wr_4 (by decide) (by decide)), (show (r_4 : Int64).toInt ≠ 0 ∨ ((j0 : Int64).toInt = 0 ∧ (j1 : Int64).toInt = 0) from by omega), trivial⟩ [] rfl rfl dX12_common_17 (Nat.le_of_ble_eq_true rfl) (Nat.le_of_ble_eq_true rfl)
  · replace c_1 := j_eq (x := j1) (y := 0) rfl (show (0 : Int64).toInt = 0 by decide) c_1
    refine lv_lload_n hx hb dX12_common_6 rfl (lv_at hl 0 rfl) ?_
    refine lv_goto (tgt := 17) hx hb dX12_common_7 (by decide) ?_
    exact q_lret X hr hlk hK h (fun _ => 0, fun _ _ => 0, fun _ _ => 0) ⟨hj0, (show (j0 : Int64).toInt ≠ 0 ∨ ((j0 : Int64).toInt = 0 ∧ (j1 : Int64).toInt = 0) from by omega), trivial⟩ [] rfl rfl dX12_common_17 (Nat.le_of_ble_eq_true rfl) (Nat.le_of_ble_eq_true rfl)
set_option maxHeartbeats 4000000 in
set_option maxRecDepth 100000 in
theorem gX12_common_38ce1ad (l : Launch) (D : va_G) (cy : Nat → ClassId) (j0 : Int64) (j1 : Int64) (hj0 : (-2441406) ≤ (j0).toInt ∧ (j0).toInt ≤ 2441406) (hj1 : (-2441406) ≤ (j1).toInt ∧ (j1).toInt ≤ 2441406) (hpre0 : CM 2441406 2441406 (j0 : Int64).toInt (j1 : Int64).toInt) (sz : Nat) : ML l yX12_common cX12_common 4 { frames := 43, cells := 0, slots := 0, locals := 989 } [.long j0, .long j1] D cy [] sz (fun r u => ((-2441406) ≤ r.toInt ∧ r.toInt ≤ 2441406) ∧ ((r : Int64).toInt ≠ 0 ∨ ((j0 : Int64).toInt = 0 ∧ (j1 : Int64).toInt = 0)) ∧ True) (fun u => []) 0 0 := by
  refine q_ent (own := RX12) (by decide) rfl (Nat.le_of_ble_eq_true rfl) (fun p e s m below meth c ls X hr hlk hnm hK hT h hA hl => ?_)
  obtain ⟨hx, hb, hml, hown, ht⟩ := id X
  replace hl : lv_has ls 4 [(0, .long j0), (2, .long j1)] := hl
  refine lv_lload_n hx hb dX12_common_0 rfl (lv_at hl 1 rfl) ?_
  refine lv_lconst (v := 0) hx hb dX12_common_1 (by decide) ?_
  refine W.lcmp hx hb dX12_common_2 ?_
  refine lv_if_ne (tgt := 10) hx hb dX12_common_3 (by decide) (fun c_1 => ?_) (fun c_1 => ?_)
  · replace c_1 := j_neq (x := j1) (y := 0) rfl (show (0 : Int64).toInt = 0 by decide) c_1
    refine lv_lload_n hx hb dX12_common_10 rfl (lv_at hl 1 rfl) ?_
    refine lv_lload_n hx hb dX12_common_11 rfl (lv_at hl 0 rfl) ?_
    refine lv_lload_n hx hb dX12_common_12 rfl (lv_at hl 1 rfl) ?_
    refine lv_lrem hx hb dX12_common_13 (j_nz (by omega)) ?_
    obtain ⟨z_2, ez_2, hz_2⟩ := e_anyJ (j0 - j0 / j1 * j1)
    refine q_cl z_2 ez_2 ?_
    have cm_3 : CM 1220703 2441406 _ _ := cm_s (by decide) hpre0 (by omega) ez_2
    have cr_3 := cm_r cm_3
    refine q_callSl (rest := []) (wr := []) X hK hT hA h (fun sz => gX12_common_b8ddbd5 l D cy j1 z_2 hj1 ⟨by omega, by omega⟩ (cm_3) sz) wm_8_20 wm_8_22 wm_1_12 hd_X12_common wm_8_21 ⟨Nat.le_of_ble_eq_true rfl, Nat.le_of_ble_eq_true rfl⟩ hl.1 rfl (Nat.le_of_ble_eq_true rfl) dX12_common_14 ⟨Nat.le_of_ble_eq_true rfl, Nat.le_of_ble_eq_true rfl⟩ [] [] rfl rfl (by decide) rfl rfl (fun r_4 u_4 H locs w_4 h_4 => ?_)
    clear h
    obtain ⟨wr_4, y4_0, _⟩ := w_4
    replace h_4 : qW D _ _ [] _ _ := h_4
    exact q_lret X hr hlk hK h_4 (fun _ => 0, fun _ _ => 0, fun _ _ => 0) ⟨wr_4, (show (r_4 : Int64).toInt ≠ 0 ∨ ((j0 : Int64).toInt = 0 ∧ (j1 : Int64).toInt = 0) from by omega), trivial⟩ [] rfl rfl dX12_common_17 (Nat.le_of_ble_eq_true rfl) (Nat.le_of_ble_eq_true rfl)
  · replace c_1 := j_eq (x := j1) (y := 0) rfl (show (0 : Int64).toInt = 0 by decide) c_1
    refine lv_lload_n hx hb dX12_common_6 rfl (lv_at hl 0 rfl) ?_
    refine lv_goto (tgt := 17) hx hb dX12_common_7 (by decide) ?_
    exact q_lret X hr hlk hK h (fun _ => 0, fun _ _ => 0, fun _ _ => 0) ⟨hj0, (show (j0 : Int64).toInt ≠ 0 ∨ ((j0 : Int64).toInt = 0 ∧ (j1 : Int64).toInt = 0) from by omega), trivial⟩ [] rfl rfl dX12_common_17 (Nat.le_of_ble_eq_true rfl) (Nat.le_of_ble_eq_true rfl)
set_option maxHeartbeats 4000000 in
set_option maxRecDepth 100000 in
theorem gX12_common_ea509c9 (l : Launch) (D : va_G) (cy : Nat → ClassId) (j0 : Int64) (j1 : Int64) (hj0 : (-4882812) ≤ (j0).toInt ∧ (j0).toInt ≤ 4882812) (hj1 : (-2441406) ≤ (j1).toInt ∧ (j1).toInt ≤ 2441406) (hpre0 : CM 2441406 4882812 (j0 : Int64).toInt (j1 : Int64).toInt) (sz : Nat) : ML l yX12_common cX12_common 4 { frames := 44, cells := 0, slots := 0, locals := 1012 } [.long j0, .long j1] D cy [] sz (fun r u => ((-4882812) ≤ r.toInt ∧ r.toInt ≤ 4882812) ∧ ((r : Int64).toInt ≠ 0 ∨ ((j0 : Int64).toInt = 0 ∧ (j1 : Int64).toInt = 0)) ∧ True) (fun u => []) 0 0 := by
  refine q_ent (own := RX12) (by decide) rfl (Nat.le_of_ble_eq_true rfl) (fun p e s m below meth c ls X hr hlk hnm hK hT h hA hl => ?_)
  obtain ⟨hx, hb, hml, hown, ht⟩ := id X
  replace hl : lv_has ls 4 [(0, .long j0), (2, .long j1)] := hl
  refine lv_lload_n hx hb dX12_common_0 rfl (lv_at hl 1 rfl) ?_
  refine lv_lconst (v := 0) hx hb dX12_common_1 (by decide) ?_
  refine W.lcmp hx hb dX12_common_2 ?_
  refine lv_if_ne (tgt := 10) hx hb dX12_common_3 (by decide) (fun c_1 => ?_) (fun c_1 => ?_)
  · replace c_1 := j_neq (x := j1) (y := 0) rfl (show (0 : Int64).toInt = 0 by decide) c_1
    refine lv_lload_n hx hb dX12_common_10 rfl (lv_at hl 1 rfl) ?_
    refine lv_lload_n hx hb dX12_common_11 rfl (lv_at hl 0 rfl) ?_
    refine lv_lload_n hx hb dX12_common_12 rfl (lv_at hl 1 rfl) ?_
    refine lv_lrem hx hb dX12_common_13 (j_nz (by omega)) ?_
    obtain ⟨z_2, ez_2, hz_2⟩ := e_anyJ (j0 - j0 / j1 * j1)
    refine q_cl z_2 ez_2 ?_
    have cm_3 : CM 2441406 2441406 _ _ := cm_s (by decide) hpre0 (by omega) ez_2
    have cr_3 := cm_r cm_3
    refine q_callSl (rest := []) (wr := []) X hK hT hA h (fun sz => gX12_common_38ce1ad l D cy j1 z_2 hj1 ⟨by omega, by omega⟩ (cm_3) sz) wm_8_20 wm_8_22 wm_1_12 hd_X12_common wm_8_21 ⟨Nat.le_of_ble_eq_true rfl, Nat.le_of_ble_eq_true rfl⟩ hl.1 rfl (Nat.le_of_ble_eq_true rfl) dX12_common_14 ⟨Nat.le_of_ble_eq_true rfl, Nat.le_of_ble_eq_true rfl⟩ [] [] rfl rfl (by decide) rfl rfl (fun r_4 u_4 H locs w_4 h_4 => ?_)
    clear h
    obtain ⟨wr_4, y4_0, _⟩ := w_4
    replace h_4 : qW D _ _ [] _ _ := h_4
    exact q_lret X hr hlk hK h_4 (fun _ => 0, fun _ _ => 0, fun _ _ => 0) ⟨(bw wr_4 (by decide) (by decide)), (show (r_4 : Int64).toInt ≠ 0 ∨ ((j0 : Int64).toInt = 0 ∧ (j1 : Int64).toInt = 0) from by omega), trivial⟩ [] rfl rfl dX12_common_17 (Nat.le_of_ble_eq_true rfl) (Nat.le_of_ble_eq_true rfl)
  · replace c_1 := j_eq (x := j1) (y := 0) rfl (show (0 : Int64).toInt = 0 by decide) c_1
    refine lv_lload_n hx hb dX12_common_6 rfl (lv_at hl 0 rfl) ?_
    refine lv_goto (tgt := 17) hx hb dX12_common_7 (by decide) ?_
    exact q_lret X hr hlk hK h (fun _ => 0, fun _ _ => 0, fun _ _ => 0) ⟨hj0, (show (j0 : Int64).toInt ≠ 0 ∨ ((j0 : Int64).toInt = 0 ∧ (j1 : Int64).toInt = 0) from by omega), trivial⟩ [] rfl rfl dX12_common_17 (Nat.le_of_ble_eq_true rfl) (Nat.le_of_ble_eq_true rfl)
set_option maxHeartbeats 4000000 in
set_option maxRecDepth 100000 in
theorem gX12_common_6a01d7d (l : Launch) (D : va_G) (cy : Nat → ClassId) (j0 : Int64) (j1 : Int64) (hj0 : (-4882812) ≤ (j0).toInt ∧ (j0).toInt ≤ 4882812) (hj1 : (-4882812) ≤ (j1).toInt ∧ (j1).toInt ≤ 4882812) (hpre0 : CM 4882812 4882812 (j0 : Int64).toInt (j1 : Int64).toInt) (sz : Nat) : ML l yX12_common cX12_common 4 { frames := 45, cells := 0, slots := 0, locals := 1035 } [.long j0, .long j1] D cy [] sz (fun r u => ((-4882812) ≤ r.toInt ∧ r.toInt ≤ 4882812) ∧ ((r : Int64).toInt ≠ 0 ∨ ((j0 : Int64).toInt = 0 ∧ (j1 : Int64).toInt = 0)) ∧ True) (fun u => []) 0 0 := by
  refine q_ent (own := RX12) (by decide) rfl (Nat.le_of_ble_eq_true rfl) (fun p e s m below meth c ls X hr hlk hnm hK hT h hA hl => ?_)
  obtain ⟨hx, hb, hml, hown, ht⟩ := id X
  replace hl : lv_has ls 4 [(0, .long j0), (2, .long j1)] := hl
  refine lv_lload_n hx hb dX12_common_0 rfl (lv_at hl 1 rfl) ?_
  refine lv_lconst (v := 0) hx hb dX12_common_1 (by decide) ?_
  refine W.lcmp hx hb dX12_common_2 ?_
  refine lv_if_ne (tgt := 10) hx hb dX12_common_3 (by decide) (fun c_1 => ?_) (fun c_1 => ?_)
  · replace c_1 := j_neq (x := j1) (y := 0) rfl (show (0 : Int64).toInt = 0 by decide) c_1
    refine lv_lload_n hx hb dX12_common_10 rfl (lv_at hl 1 rfl) ?_
    refine lv_lload_n hx hb dX12_common_11 rfl (lv_at hl 0 rfl) ?_
    refine lv_lload_n hx hb dX12_common_12 rfl (lv_at hl 1 rfl) ?_
    refine lv_lrem hx hb dX12_common_13 (j_nz (by omega)) ?_
    obtain ⟨z_2, ez_2, hz_2⟩ := e_anyJ (j0 - j0 / j1 * j1)
    refine q_cl z_2 ez_2 ?_
    have cm_3 : CM 2441406 4882812 _ _ := cm_s (by decide) hpre0 (by omega) ez_2
    have cr_3 := cm_r cm_3
    refine q_callSl (rest := []) (wr := []) X hK hT hA h (fun sz => gX12_common_ea509c9 l D cy j1 z_2 hj1 ⟨by omega, by omega⟩ (cm_3) sz) wm_8_20 wm_8_22 wm_1_12 hd_X12_common wm_8_21 ⟨Nat.le_of_ble_eq_true rfl, Nat.le_of_ble_eq_true rfl⟩ hl.1 rfl (Nat.le_of_ble_eq_true rfl) dX12_common_14 ⟨Nat.le_of_ble_eq_true rfl, Nat.le_of_ble_eq_true rfl⟩ [] [] rfl rfl (by decide) rfl rfl (fun r_4 u_4 H locs w_4 h_4 => ?_)
    clear h
    obtain ⟨wr_4, y4_0, _⟩ := w_4
    replace h_4 : qW D _ _ [] _ _ := h_4
    exact q_lret X hr hlk hK h_4 (fun _ => 0, fun _ _ => 0, fun _ _ => 0) ⟨wr_4, (show (r_4 : Int64).toInt ≠ 0 ∨ ((j0 : Int64).toInt = 0 ∧ (j1 : Int64).toInt = 0) from by omega), trivial⟩ [] rfl rfl dX12_common_17 (Nat.le_of_ble_eq_true rfl) (Nat.le_of_ble_eq_true rfl)
  · replace c_1 := j_eq (x := j1) (y := 0) rfl (show (0 : Int64).toInt = 0 by decide) c_1
    refine lv_lload_n hx hb dX12_common_6 rfl (lv_at hl 0 rfl) ?_
    refine lv_goto (tgt := 17) hx hb dX12_common_7 (by decide) ?_
    exact q_lret X hr hlk hK h (fun _ => 0, fun _ _ => 0, fun _ _ => 0) ⟨hj0, (show (j0 : Int64).toInt ≠ 0 ∨ ((j0 : Int64).toInt = 0 ∧ (j1 : Int64).toInt = 0) from by omega), trivial⟩ [] rfl rfl dX12_common_17 (Nat.le_of_ble_eq_true rfl) (Nat.le_of_ble_eq_true rfl)
set_option maxHeartbeats 4000000 in
set_option maxRecDepth 100000 in
theorem gX12_common_e16b3cb (l : Launch) (D : va_G) (cy : Nat → ClassId) (j0 : Int64) (j1 : Int64) (hj0 : (-9765624) ≤ (j0).toInt ∧ (j0).toInt ≤ 9765624) (hj1 : (-4882812) ≤ (j1).toInt ∧ (j1).toInt ≤ 4882812) (hpre0 : CM 4882812 9765624 (j0 : Int64).toInt (j1 : Int64).toInt) (sz : Nat) : ML l yX12_common cX12_common 4 { frames := 46, cells := 0, slots := 0, locals := 1058 } [.long j0, .long j1] D cy [] sz (fun r u => ((-9765624) ≤ r.toInt ∧ r.toInt ≤ 9765624) ∧ ((r : Int64).toInt ≠ 0 ∨ ((j0 : Int64).toInt = 0 ∧ (j1 : Int64).toInt = 0)) ∧ True) (fun u => []) 0 0 := by
  refine q_ent (own := RX12) (by decide) rfl (Nat.le_of_ble_eq_true rfl) (fun p e s m below meth c ls X hr hlk hnm hK hT h hA hl => ?_)
  obtain ⟨hx, hb, hml, hown, ht⟩ := id X
  replace hl : lv_has ls 4 [(0, .long j0), (2, .long j1)] := hl
  refine lv_lload_n hx hb dX12_common_0 rfl (lv_at hl 1 rfl) ?_
  refine lv_lconst (v := 0) hx hb dX12_common_1 (by decide) ?_
  refine W.lcmp hx hb dX12_common_2 ?_
  refine lv_if_ne (tgt := 10) hx hb dX12_common_3 (by decide) (fun c_1 => ?_) (fun c_1 => ?_)
  · replace c_1 := j_neq (x := j1) (y := 0) rfl (show (0 : Int64).toInt = 0 by decide) c_1
    refine lv_lload_n hx hb dX12_common_10 rfl (lv_at hl 1 rfl) ?_
    refine lv_lload_n hx hb dX12_common_11 rfl (lv_at hl 0 rfl) ?_
    refine lv_lload_n hx hb dX12_common_12 rfl (lv_at hl 1 rfl) ?_
    refine lv_lrem hx hb dX12_common_13 (j_nz (by omega)) ?_
    obtain ⟨z_2, ez_2, hz_2⟩ := e_anyJ (j0 - j0 / j1 * j1)
    refine q_cl z_2 ez_2 ?_
    have cm_3 : CM 4882812 4882812 _ _ := cm_s (by decide) hpre0 (by omega) ez_2
    have cr_3 := cm_r cm_3
    refine q_callSl (rest := []) (wr := []) X hK hT hA h (fun sz => gX12_common_6a01d7d l D cy j1 z_2 hj1 ⟨by omega, by omega⟩ (cm_3) sz) wm_8_20 wm_8_22 wm_1_12 hd_X12_common wm_8_21 ⟨Nat.le_of_ble_eq_true rfl, Nat.le_of_ble_eq_true rfl⟩ hl.1 rfl (Nat.le_of_ble_eq_true rfl) dX12_common_14 ⟨Nat.le_of_ble_eq_true rfl, Nat.le_of_ble_eq_true rfl⟩ [] [] rfl rfl (by decide) rfl rfl (fun r_4 u_4 H locs w_4 h_4 => ?_)
    clear h
    obtain ⟨wr_4, y4_0, _⟩ := w_4
    replace h_4 : qW D _ _ [] _ _ := h_4
    exact q_lret X hr hlk hK h_4 (fun _ => 0, fun _ _ => 0, fun _ _ => 0) ⟨(bw wr_4 (by decide) (by decide)), (show (r_4 : Int64).toInt ≠ 0 ∨ ((j0 : Int64).toInt = 0 ∧ (j1 : Int64).toInt = 0) from by omega), trivial⟩ [] rfl rfl dX12_common_17 (Nat.le_of_ble_eq_true rfl) (Nat.le_of_ble_eq_true rfl)
  · replace c_1 := j_eq (x := j1) (y := 0) rfl (show (0 : Int64).toInt = 0 by decide) c_1
    refine lv_lload_n hx hb dX12_common_6 rfl (lv_at hl 0 rfl) ?_
    refine lv_goto (tgt := 17) hx hb dX12_common_7 (by decide) ?_
    exact q_lret X hr hlk hK h (fun _ => 0, fun _ _ => 0, fun _ _ => 0) ⟨hj0, (show (j0 : Int64).toInt ≠ 0 ∨ ((j0 : Int64).toInt = 0 ∧ (j1 : Int64).toInt = 0) from by omega), trivial⟩ [] rfl rfl dX12_common_17 (Nat.le_of_ble_eq_true rfl) (Nat.le_of_ble_eq_true rfl)
set_option maxHeartbeats 4000000 in
set_option maxRecDepth 100000 in
theorem gX12_common_08e3292 (l : Launch) (D : va_G) (cy : Nat → ClassId) (j0 : Int64) (j1 : Int64) (hj0 : (-9765625) ≤ (j0).toInt ∧ (j0).toInt ≤ 9765625) (hj1 : (-9765624) ≤ (j1).toInt ∧ (j1).toInt ≤ 9765624) (hpre0 : CM 9765624 9765625 (j0 : Int64).toInt (j1 : Int64).toInt) (sz : Nat) : ML l yX12_common cX12_common 4 { frames := 47, cells := 0, slots := 0, locals := 1081 } [.long j0, .long j1] D cy [] sz (fun r u => ((-9765625) ≤ r.toInt ∧ r.toInt ≤ 9765625) ∧ ((r : Int64).toInt ≠ 0 ∨ ((j0 : Int64).toInt = 0 ∧ (j1 : Int64).toInt = 0)) ∧ True) (fun u => []) 0 0 := by
  refine q_ent (own := RX12) (by decide) rfl (Nat.le_of_ble_eq_true rfl) (fun p e s m below meth c ls X hr hlk hnm hK hT h hA hl => ?_)
  obtain ⟨hx, hb, hml, hown, ht⟩ := id X
  replace hl : lv_has ls 4 [(0, .long j0), (2, .long j1)] := hl
  refine lv_lload_n hx hb dX12_common_0 rfl (lv_at hl 1 rfl) ?_
  refine lv_lconst (v := 0) hx hb dX12_common_1 (by decide) ?_
  refine W.lcmp hx hb dX12_common_2 ?_
  refine lv_if_ne (tgt := 10) hx hb dX12_common_3 (by decide) (fun c_1 => ?_) (fun c_1 => ?_)
  · replace c_1 := j_neq (x := j1) (y := 0) rfl (show (0 : Int64).toInt = 0 by decide) c_1
    refine lv_lload_n hx hb dX12_common_10 rfl (lv_at hl 1 rfl) ?_
    refine lv_lload_n hx hb dX12_common_11 rfl (lv_at hl 0 rfl) ?_
    refine lv_lload_n hx hb dX12_common_12 rfl (lv_at hl 1 rfl) ?_
    refine lv_lrem hx hb dX12_common_13 (j_nz (by omega)) ?_
    obtain ⟨z_2, ez_2, hz_2⟩ := e_anyJ (j0 - j0 / j1 * j1)
    refine q_cl z_2 ez_2 ?_
    have cm_3 : CM 4882812 9765624 _ _ := cm_s (by decide) hpre0 (by omega) ez_2
    have cr_3 := cm_r cm_3
    refine q_callSl (rest := []) (wr := []) X hK hT hA h (fun sz => gX12_common_e16b3cb l D cy j1 z_2 hj1 ⟨by omega, by omega⟩ (cm_3) sz) wm_8_20 wm_8_22 wm_1_12 hd_X12_common wm_8_21 ⟨Nat.le_of_ble_eq_true rfl, Nat.le_of_ble_eq_true rfl⟩ hl.1 rfl (Nat.le_of_ble_eq_true rfl) dX12_common_14 ⟨Nat.le_of_ble_eq_true rfl, Nat.le_of_ble_eq_true rfl⟩ [] [] rfl rfl (by decide) rfl rfl (fun r_4 u_4 H locs w_4 h_4 => ?_)
    clear h
    obtain ⟨wr_4, y4_0, _⟩ := w_4
    replace h_4 : qW D _ _ [] _ _ := h_4
    exact q_lret X hr hlk hK h_4 (fun _ => 0, fun _ _ => 0, fun _ _ => 0) ⟨(bw wr_4 (by decide) (by decide)), (show (r_4 : Int64).toInt ≠ 0 ∨ ((j0 : Int64).toInt = 0 ∧ (j1 : Int64).toInt = 0) from by omega), trivial⟩ [] rfl rfl dX12_common_17 (Nat.le_of_ble_eq_true rfl) (Nat.le_of_ble_eq_true rfl)
  · replace c_1 := j_eq (x := j1) (y := 0) rfl (show (0 : Int64).toInt = 0 by decide) c_1
    refine lv_lload_n hx hb dX12_common_6 rfl (lv_at hl 0 rfl) ?_
    refine lv_goto (tgt := 17) hx hb dX12_common_7 (by decide) ?_
    exact q_lret X hr hlk hK h (fun _ => 0, fun _ _ => 0, fun _ _ => 0) ⟨hj0, (show (j0 : Int64).toInt ≠ 0 ∨ ((j0 : Int64).toInt = 0 ∧ (j1 : Int64).toInt = 0) from by omega), trivial⟩ [] rfl rfl dX12_common_17 (Nat.le_of_ble_eq_true rfl) (Nat.le_of_ble_eq_true rfl)
set_option maxHeartbeats 4000000 in
set_option maxRecDepth 100000 in
theorem gX12_common_0fa82ba (l : Launch) (D : va_G) (cy : Nat → ClassId) (j0 : Int64) (j1 : Int64) (hj0 : (-19531249) ≤ (j0).toInt ∧ (j0).toInt ≤ 19531249) (hj1 : (-9765625) ≤ (j1).toInt ∧ (j1).toInt ≤ 9765625) (hpre0 : CM 9765625 19531249 (j0 : Int64).toInt (j1 : Int64).toInt) (sz : Nat) : ML l yX12_common cX12_common 4 { frames := 48, cells := 0, slots := 0, locals := 1104 } [.long j0, .long j1] D cy [] sz (fun r u => ((-19531249) ≤ r.toInt ∧ r.toInt ≤ 19531249) ∧ ((r : Int64).toInt ≠ 0 ∨ ((j0 : Int64).toInt = 0 ∧ (j1 : Int64).toInt = 0)) ∧ True) (fun u => []) 0 0 := by
  refine q_ent (own := RX12) (by decide) rfl (Nat.le_of_ble_eq_true rfl) (fun p e s m below meth c ls X hr hlk hnm hK hT h hA hl => ?_)
  obtain ⟨hx, hb, hml, hown, ht⟩ := id X
  replace hl : lv_has ls 4 [(0, .long j0), (2, .long j1)] := hl
  refine lv_lload_n hx hb dX12_common_0 rfl (lv_at hl 1 rfl) ?_
  refine lv_lconst (v := 0) hx hb dX12_common_1 (by decide) ?_
  refine W.lcmp hx hb dX12_common_2 ?_
  refine lv_if_ne (tgt := 10) hx hb dX12_common_3 (by decide) (fun c_1 => ?_) (fun c_1 => ?_)
  · replace c_1 := j_neq (x := j1) (y := 0) rfl (show (0 : Int64).toInt = 0 by decide) c_1
    refine lv_lload_n hx hb dX12_common_10 rfl (lv_at hl 1 rfl) ?_
    refine lv_lload_n hx hb dX12_common_11 rfl (lv_at hl 0 rfl) ?_
    refine lv_lload_n hx hb dX12_common_12 rfl (lv_at hl 1 rfl) ?_
    refine lv_lrem hx hb dX12_common_13 (j_nz (by omega)) ?_
    obtain ⟨z_2, ez_2, hz_2⟩ := e_anyJ (j0 - j0 / j1 * j1)
    refine q_cl z_2 ez_2 ?_
    have cm_3 : CM 9765624 9765625 _ _ := cm_s (by decide) hpre0 (by omega) ez_2
    have cr_3 := cm_r cm_3
    refine q_callSl (rest := []) (wr := []) X hK hT hA h (fun sz => gX12_common_08e3292 l D cy j1 z_2 hj1 ⟨by omega, by omega⟩ (cm_3) sz) wm_8_20 wm_8_22 wm_1_12 hd_X12_common wm_8_21 ⟨Nat.le_of_ble_eq_true rfl, Nat.le_of_ble_eq_true rfl⟩ hl.1 rfl (Nat.le_of_ble_eq_true rfl) dX12_common_14 ⟨Nat.le_of_ble_eq_true rfl, Nat.le_of_ble_eq_true rfl⟩ [] [] rfl rfl (by decide) rfl rfl (fun r_4 u_4 H locs w_4 h_4 => ?_)
    clear h
    obtain ⟨wr_4, y4_0, _⟩ := w_4
    replace h_4 : qW D _ _ [] _ _ := h_4
    exact q_lret X hr hlk hK h_4 (fun _ => 0, fun _ _ => 0, fun _ _ => 0) ⟨(bw wr_4 (by decide) (by decide)), (show (r_4 : Int64).toInt ≠ 0 ∨ ((j0 : Int64).toInt = 0 ∧ (j1 : Int64).toInt = 0) from by omega), trivial⟩ [] rfl rfl dX12_common_17 (Nat.le_of_ble_eq_true rfl) (Nat.le_of_ble_eq_true rfl)
  · replace c_1 := j_eq (x := j1) (y := 0) rfl (show (0 : Int64).toInt = 0 by decide) c_1
    refine lv_lload_n hx hb dX12_common_6 rfl (lv_at hl 0 rfl) ?_
    refine lv_goto (tgt := 17) hx hb dX12_common_7 (by decide) ?_
    exact q_lret X hr hlk hK h (fun _ => 0, fun _ _ => 0, fun _ _ => 0) ⟨hj0, (show (j0 : Int64).toInt ≠ 0 ∨ ((j0 : Int64).toInt = 0 ∧ (j1 : Int64).toInt = 0) from by omega), trivial⟩ [] rfl rfl dX12_common_17 (Nat.le_of_ble_eq_true rfl) (Nat.le_of_ble_eq_true rfl)
set_option maxHeartbeats 4000000 in
set_option maxRecDepth 100000 in
theorem gX12_common_58ce12f (l : Launch) (D : va_G) (cy : Nat → ClassId) (j0 : Int64) (j1 : Int64) (hj0 : (-19531250) ≤ (j0).toInt ∧ (j0).toInt ≤ 19531250) (hj1 : (-19531249) ≤ (j1).toInt ∧ (j1).toInt ≤ 19531249) (hpre0 : CM 19531249 19531250 (j0 : Int64).toInt (j1 : Int64).toInt) (sz : Nat) : ML l yX12_common cX12_common 4 { frames := 49, cells := 0, slots := 0, locals := 1127 } [.long j0, .long j1] D cy [] sz (fun r u => ((-19531250) ≤ r.toInt ∧ r.toInt ≤ 19531250) ∧ ((r : Int64).toInt ≠ 0 ∨ ((j0 : Int64).toInt = 0 ∧ (j1 : Int64).toInt = 0)) ∧ True) (fun u => []) 0 0 := by
  refine q_ent (own := RX12) (by decide) rfl (Nat.le_of_ble_eq_true rfl) (fun p e s m below meth c ls X hr hlk hnm hK hT h hA hl => ?_)
  obtain ⟨hx, hb, hml, hown, ht⟩ := id X
  replace hl : lv_has ls 4 [(0, .long j0), (2, .long j1)] := hl
  refine lv_lload_n hx hb dX12_common_0 rfl (lv_at hl 1 rfl) ?_
  refine lv_lconst (v := 0) hx hb dX12_common_1 (by decide) ?_
  refine W.lcmp hx hb dX12_common_2 ?_
  refine lv_if_ne (tgt := 10) hx hb dX12_common_3 (by decide) (fun c_1 => ?_) (fun c_1 => ?_)
  · replace c_1 := j_neq (x := j1) (y := 0) rfl (show (0 : Int64).toInt = 0 by decide) c_1
    refine lv_lload_n hx hb dX12_common_10 rfl (lv_at hl 1 rfl) ?_
    refine lv_lload_n hx hb dX12_common_11 rfl (lv_at hl 0 rfl) ?_
    refine lv_lload_n hx hb dX12_common_12 rfl (lv_at hl 1 rfl) ?_
    refine lv_lrem hx hb dX12_common_13 (j_nz (by omega)) ?_
    obtain ⟨z_2, ez_2, hz_2⟩ := e_anyJ (j0 - j0 / j1 * j1)
    refine q_cl z_2 ez_2 ?_
    have cm_3 : CM 9765625 19531249 _ _ := cm_s (by decide) hpre0 (by omega) ez_2
    have cr_3 := cm_r cm_3
    refine q_callSl (rest := []) (wr := []) X hK hT hA h (fun sz => gX12_common_0fa82ba l D cy j1 z_2 hj1 ⟨by omega, by omega⟩ (cm_3) sz) wm_8_20 wm_8_22 wm_1_12 hd_X12_common wm_8_21 ⟨Nat.le_of_ble_eq_true rfl, Nat.le_of_ble_eq_true rfl⟩ hl.1 rfl (Nat.le_of_ble_eq_true rfl) dX12_common_14 ⟨Nat.le_of_ble_eq_true rfl, Nat.le_of_ble_eq_true rfl⟩ [] [] rfl rfl (by decide) rfl rfl (fun r_4 u_4 H locs w_4 h_4 => ?_)
    clear h
    obtain ⟨wr_4, y4_0, _⟩ := w_4
    replace h_4 : qW D _ _ [] _ _ := h_4
    exact q_lret X hr hlk hK h_4 (fun _ => 0, fun _ _ => 0, fun _ _ => 0) ⟨(bw wr_4 (by decide) (by decide)), (show (r_4 : Int64).toInt ≠ 0 ∨ ((j0 : Int64).toInt = 0 ∧ (j1 : Int64).toInt = 0) from by omega), trivial⟩ [] rfl rfl dX12_common_17 (Nat.le_of_ble_eq_true rfl) (Nat.le_of_ble_eq_true rfl)
  · replace c_1 := j_eq (x := j1) (y := 0) rfl (show (0 : Int64).toInt = 0 by decide) c_1
    refine lv_lload_n hx hb dX12_common_6 rfl (lv_at hl 0 rfl) ?_
    refine lv_goto (tgt := 17) hx hb dX12_common_7 (by decide) ?_
    exact q_lret X hr hlk hK h (fun _ => 0, fun _ _ => 0, fun _ _ => 0) ⟨hj0, (show (j0 : Int64).toInt ≠ 0 ∨ ((j0 : Int64).toInt = 0 ∧ (j1 : Int64).toInt = 0) from by omega), trivial⟩ [] rfl rfl dX12_common_17 (Nat.le_of_ble_eq_true rfl) (Nat.le_of_ble_eq_true rfl)
set_option maxHeartbeats 4000000 in
set_option maxRecDepth 100000 in
theorem gX12_common_24bbc95 (l : Launch) (D : va_G) (cy : Nat → ClassId) (j0 : Int64) (j1 : Int64) (hj0 : (-39062499) ≤ (j0).toInt ∧ (j0).toInt ≤ 39062499) (hj1 : (-19531250) ≤ (j1).toInt ∧ (j1).toInt ≤ 19531250) (hpre0 : CM 19531250 39062499 (j0 : Int64).toInt (j1 : Int64).toInt) (sz : Nat) : ML l yX12_common cX12_common 4 { frames := 50, cells := 0, slots := 0, locals := 1150 } [.long j0, .long j1] D cy [] sz (fun r u => ((-39062499) ≤ r.toInt ∧ r.toInt ≤ 39062499) ∧ ((r : Int64).toInt ≠ 0 ∨ ((j0 : Int64).toInt = 0 ∧ (j1 : Int64).toInt = 0)) ∧ True) (fun u => []) 0 0 := by
  refine q_ent (own := RX12) (by decide) rfl (Nat.le_of_ble_eq_true rfl) (fun p e s m below meth c ls X hr hlk hnm hK hT h hA hl => ?_)
  obtain ⟨hx, hb, hml, hown, ht⟩ := id X
  replace hl : lv_has ls 4 [(0, .long j0), (2, .long j1)] := hl
  refine lv_lload_n hx hb dX12_common_0 rfl (lv_at hl 1 rfl) ?_
  refine lv_lconst (v := 0) hx hb dX12_common_1 (by decide) ?_
  refine W.lcmp hx hb dX12_common_2 ?_
  refine lv_if_ne (tgt := 10) hx hb dX12_common_3 (by decide) (fun c_1 => ?_) (fun c_1 => ?_)
  · replace c_1 := j_neq (x := j1) (y := 0) rfl (show (0 : Int64).toInt = 0 by decide) c_1
    refine lv_lload_n hx hb dX12_common_10 rfl (lv_at hl 1 rfl) ?_
    refine lv_lload_n hx hb dX12_common_11 rfl (lv_at hl 0 rfl) ?_
    refine lv_lload_n hx hb dX12_common_12 rfl (lv_at hl 1 rfl) ?_
    refine lv_lrem hx hb dX12_common_13 (j_nz (by omega)) ?_
    obtain ⟨z_2, ez_2, hz_2⟩ := e_anyJ (j0 - j0 / j1 * j1)
    refine q_cl z_2 ez_2 ?_
    have cm_3 : CM 19531249 19531250 _ _ := cm_s (by decide) hpre0 (by omega) ez_2
    have cr_3 := cm_r cm_3
    refine q_callSl (rest := []) (wr := []) X hK hT hA h (fun sz => gX12_common_58ce12f l D cy j1 z_2 hj1 ⟨by omega, by omega⟩ (cm_3) sz) wm_8_20 wm_8_22 wm_1_12 hd_X12_common wm_8_21 ⟨Nat.le_of_ble_eq_true rfl, Nat.le_of_ble_eq_true rfl⟩ hl.1 rfl (Nat.le_of_ble_eq_true rfl) dX12_common_14 ⟨Nat.le_of_ble_eq_true rfl, Nat.le_of_ble_eq_true rfl⟩ [] [] rfl rfl (by decide) rfl rfl (fun r_4 u_4 H locs w_4 h_4 => ?_)
    clear h
    obtain ⟨wr_4, y4_0, _⟩ := w_4
    replace h_4 : qW D _ _ [] _ _ := h_4
    exact q_lret X hr hlk hK h_4 (fun _ => 0, fun _ _ => 0, fun _ _ => 0) ⟨(bw wr_4 (by decide) (by decide)), (show (r_4 : Int64).toInt ≠ 0 ∨ ((j0 : Int64).toInt = 0 ∧ (j1 : Int64).toInt = 0) from by omega), trivial⟩ [] rfl rfl dX12_common_17 (Nat.le_of_ble_eq_true rfl) (Nat.le_of_ble_eq_true rfl)
  · replace c_1 := j_eq (x := j1) (y := 0) rfl (show (0 : Int64).toInt = 0 by decide) c_1
    refine lv_lload_n hx hb dX12_common_6 rfl (lv_at hl 0 rfl) ?_
    refine lv_goto (tgt := 17) hx hb dX12_common_7 (by decide) ?_
    exact q_lret X hr hlk hK h (fun _ => 0, fun _ _ => 0, fun _ _ => 0) ⟨hj0, (show (j0 : Int64).toInt ≠ 0 ∨ ((j0 : Int64).toInt = 0 ∧ (j1 : Int64).toInt = 0) from by omega), trivial⟩ [] rfl rfl dX12_common_17 (Nat.le_of_ble_eq_true rfl) (Nat.le_of_ble_eq_true rfl)
set_option maxHeartbeats 4000000 in
set_option maxRecDepth 100000 in
theorem gX12_common_3c630fd (l : Launch) (D : va_G) (cy : Nat → ClassId) (j0 : Int64) (j1 : Int64) (hj0 : (-39062500) ≤ (j0).toInt ∧ (j0).toInt ≤ 39062500) (hj1 : (-39062499) ≤ (j1).toInt ∧ (j1).toInt ≤ 39062499) (hpre0 : CM 39062499 39062500 (j0 : Int64).toInt (j1 : Int64).toInt) (sz : Nat) : ML l yX12_common cX12_common 4 { frames := 51, cells := 0, slots := 0, locals := 1173 } [.long j0, .long j1] D cy [] sz (fun r u => ((-39062500) ≤ r.toInt ∧ r.toInt ≤ 39062500) ∧ ((r : Int64).toInt ≠ 0 ∨ ((j0 : Int64).toInt = 0 ∧ (j1 : Int64).toInt = 0)) ∧ True) (fun u => []) 0 0 := by
  refine q_ent (own := RX12) (by decide) rfl (Nat.le_of_ble_eq_true rfl) (fun p e s m below meth c ls X hr hlk hnm hK hT h hA hl => ?_)
  obtain ⟨hx, hb, hml, hown, ht⟩ := id X
  replace hl : lv_has ls 4 [(0, .long j0), (2, .long j1)] := hl
  refine lv_lload_n hx hb dX12_common_0 rfl (lv_at hl 1 rfl) ?_
  refine lv_lconst (v := 0) hx hb dX12_common_1 (by decide) ?_
  refine W.lcmp hx hb dX12_common_2 ?_
  refine lv_if_ne (tgt := 10) hx hb dX12_common_3 (by decide) (fun c_1 => ?_) (fun c_1 => ?_)
  · replace c_1 := j_neq (x := j1) (y := 0) rfl (show (0 : Int64).toInt = 0 by decide) c_1
    refine lv_lload_n hx hb dX12_common_10 rfl (lv_at hl 1 rfl) ?_
    refine lv_lload_n hx hb dX12_common_11 rfl (lv_at hl 0 rfl) ?_
    refine lv_lload_n hx hb dX12_common_12 rfl (lv_at hl 1 rfl) ?_
    refine lv_lrem hx hb dX12_common_13 (j_nz (by omega)) ?_
    obtain ⟨z_2, ez_2, hz_2⟩ := e_anyJ (j0 - j0 / j1 * j1)
    refine q_cl z_2 ez_2 ?_
    have cm_3 : CM 19531250 39062499 _ _ := cm_s (by decide) hpre0 (by omega) ez_2
    have cr_3 := cm_r cm_3
    refine q_callSl (rest := []) (wr := []) X hK hT hA h (fun sz => gX12_common_24bbc95 l D cy j1 z_2 hj1 ⟨by omega, by omega⟩ (cm_3) sz) wm_8_20 wm_8_22 wm_1_12 hd_X12_common wm_8_21 ⟨Nat.le_of_ble_eq_true rfl, Nat.le_of_ble_eq_true rfl⟩ hl.1 rfl (Nat.le_of_ble_eq_true rfl) dX12_common_14 ⟨Nat.le_of_ble_eq_true rfl, Nat.le_of_ble_eq_true rfl⟩ [] [] rfl rfl (by decide) rfl rfl (fun r_4 u_4 H locs w_4 h_4 => ?_)
    clear h
    obtain ⟨wr_4, y4_0, _⟩ := w_4
    replace h_4 : qW D _ _ [] _ _ := h_4
    exact q_lret X hr hlk hK h_4 (fun _ => 0, fun _ _ => 0, fun _ _ => 0) ⟨(bw wr_4 (by decide) (by decide)), (show (r_4 : Int64).toInt ≠ 0 ∨ ((j0 : Int64).toInt = 0 ∧ (j1 : Int64).toInt = 0) from by omega), trivial⟩ [] rfl rfl dX12_common_17 (Nat.le_of_ble_eq_true rfl) (Nat.le_of_ble_eq_true rfl)
  · replace c_1 := j_eq (x := j1) (y := 0) rfl (show (0 : Int64).toInt = 0 by decide) c_1
    refine lv_lload_n hx hb dX12_common_6 rfl (lv_at hl 0 rfl) ?_
    refine lv_goto (tgt := 17) hx hb dX12_common_7 (by decide) ?_
    exact q_lret X hr hlk hK h (fun _ => 0, fun _ _ => 0, fun _ _ => 0) ⟨hj0, (show (j0 : Int64).toInt ≠ 0 ∨ ((j0 : Int64).toInt = 0 ∧ (j1 : Int64).toInt = 0) from by omega), trivial⟩ [] rfl rfl dX12_common_17 (Nat.le_of_ble_eq_true rfl) (Nat.le_of_ble_eq_true rfl)
set_option maxHeartbeats 4000000 in
set_option maxRecDepth 100000 in
theorem gX12_common_bc5dc6c (l : Launch) (D : va_G) (cy : Nat → ClassId) (j0 : Int64) (j1 : Int64) (hj0 : (-78124999) ≤ (j0).toInt ∧ (j0).toInt ≤ 78124999) (hj1 : (-39062500) ≤ (j1).toInt ∧ (j1).toInt ≤ 39062500) (hpre0 : CM 39062500 78124999 (j0 : Int64).toInt (j1 : Int64).toInt) (sz : Nat) : ML l yX12_common cX12_common 4 { frames := 52, cells := 0, slots := 0, locals := 1196 } [.long j0, .long j1] D cy [] sz (fun r u => ((-78124999) ≤ r.toInt ∧ r.toInt ≤ 78124999) ∧ ((r : Int64).toInt ≠ 0 ∨ ((j0 : Int64).toInt = 0 ∧ (j1 : Int64).toInt = 0)) ∧ True) (fun u => []) 0 0 := by
  refine q_ent (own := RX12) (by decide) rfl (Nat.le_of_ble_eq_true rfl) (fun p e s m below meth c ls X hr hlk hnm hK hT h hA hl => ?_)
  obtain ⟨hx, hb, hml, hown, ht⟩ := id X
  replace hl : lv_has ls 4 [(0, .long j0), (2, .long j1)] := hl
  refine lv_lload_n hx hb dX12_common_0 rfl (lv_at hl 1 rfl) ?_
  refine lv_lconst (v := 0) hx hb dX12_common_1 (by decide) ?_
  refine W.lcmp hx hb dX12_common_2 ?_
  refine lv_if_ne (tgt := 10) hx hb dX12_common_3 (by decide) (fun c_1 => ?_) (fun c_1 => ?_)
  · replace c_1 := j_neq (x := j1) (y := 0) rfl (show (0 : Int64).toInt = 0 by decide) c_1
    refine lv_lload_n hx hb dX12_common_10 rfl (lv_at hl 1 rfl) ?_
    refine lv_lload_n hx hb dX12_common_11 rfl (lv_at hl 0 rfl) ?_
    refine lv_lload_n hx hb dX12_common_12 rfl (lv_at hl 1 rfl) ?_
    refine lv_lrem hx hb dX12_common_13 (j_nz (by omega)) ?_
    obtain ⟨z_2, ez_2, hz_2⟩ := e_anyJ (j0 - j0 / j1 * j1)
    refine q_cl z_2 ez_2 ?_
    have cm_3 : CM 39062499 39062500 _ _ := cm_s (by decide) hpre0 (by omega) ez_2
    have cr_3 := cm_r cm_3
    refine q_callSl (rest := []) (wr := []) X hK hT hA h (fun sz => gX12_common_3c630fd l D cy j1 z_2 hj1 ⟨by omega, by omega⟩ (cm_3) sz) wm_8_20 wm_8_22 wm_1_12 hd_X12_common wm_8_21 ⟨Nat.le_of_ble_eq_true rfl, Nat.le_of_ble_eq_true rfl⟩ hl.1 rfl (Nat.le_of_ble_eq_true rfl) dX12_common_14 ⟨Nat.le_of_ble_eq_true rfl, Nat.le_of_ble_eq_true rfl⟩ [] [] rfl rfl (by decide) rfl rfl (fun r_4 u_4 H locs w_4 h_4 => ?_)
    clear h
    obtain ⟨wr_4, y4_0, _⟩ := w_4
    replace h_4 : qW D _ _ [] _ _ := h_4
    exact q_lret X hr hlk hK h_4 (fun _ => 0, fun _ _ => 0, fun _ _ => 0) ⟨(bw wr_4 (by decide) (by decide)), (show (r_4 : Int64).toInt ≠ 0 ∨ ((j0 : Int64).toInt = 0 ∧ (j1 : Int64).toInt = 0) from by omega), trivial⟩ [] rfl rfl dX12_common_17 (Nat.le_of_ble_eq_true rfl) (Nat.le_of_ble_eq_true rfl)
  · replace c_1 := j_eq (x := j1) (y := 0) rfl (show (0 : Int64).toInt = 0 by decide) c_1
    refine lv_lload_n hx hb dX12_common_6 rfl (lv_at hl 0 rfl) ?_
    refine lv_goto (tgt := 17) hx hb dX12_common_7 (by decide) ?_
    exact q_lret X hr hlk hK h (fun _ => 0, fun _ _ => 0, fun _ _ => 0) ⟨hj0, (show (j0 : Int64).toInt ≠ 0 ∨ ((j0 : Int64).toInt = 0 ∧ (j1 : Int64).toInt = 0) from by omega), trivial⟩ [] rfl rfl dX12_common_17 (Nat.le_of_ble_eq_true rfl) (Nat.le_of_ble_eq_true rfl)
set_option maxHeartbeats 4000000 in
set_option maxRecDepth 100000 in
theorem gX12_common_bd035fc (l : Launch) (D : va_G) (cy : Nat → ClassId) (j0 : Int64) (j1 : Int64) (hj0 : (-78125000) ≤ (j0).toInt ∧ (j0).toInt ≤ 78125000) (hj1 : (-78124999) ≤ (j1).toInt ∧ (j1).toInt ≤ 78124999) (hpre0 : CM 78124999 78125000 (j0 : Int64).toInt (j1 : Int64).toInt) (sz : Nat) : ML l yX12_common cX12_common 4 { frames := 53, cells := 0, slots := 0, locals := 1219 } [.long j0, .long j1] D cy [] sz (fun r u => ((-78125000) ≤ r.toInt ∧ r.toInt ≤ 78125000) ∧ ((r : Int64).toInt ≠ 0 ∨ ((j0 : Int64).toInt = 0 ∧ (j1 : Int64).toInt = 0)) ∧ True) (fun u => []) 0 0 := by
  refine q_ent (own := RX12) (by decide) rfl (Nat.le_of_ble_eq_true rfl) (fun p e s m below meth c ls X hr hlk hnm hK hT h hA hl => ?_)
  obtain ⟨hx, hb, hml, hown, ht⟩ := id X
  replace hl : lv_has ls 4 [(0, .long j0), (2, .long j1)] := hl
  refine lv_lload_n hx hb dX12_common_0 rfl (lv_at hl 1 rfl) ?_
  refine lv_lconst (v := 0) hx hb dX12_common_1 (by decide) ?_
  refine W.lcmp hx hb dX12_common_2 ?_
  refine lv_if_ne (tgt := 10) hx hb dX12_common_3 (by decide) (fun c_1 => ?_) (fun c_1 => ?_)
  · replace c_1 := j_neq (x := j1) (y := 0) rfl (show (0 : Int64).toInt = 0 by decide) c_1
    refine lv_lload_n hx hb dX12_common_10 rfl (lv_at hl 1 rfl) ?_
    refine lv_lload_n hx hb dX12_common_11 rfl (lv_at hl 0 rfl) ?_
    refine lv_lload_n hx hb dX12_common_12 rfl (lv_at hl 1 rfl) ?_
    refine lv_lrem hx hb dX12_common_13 (j_nz (by omega)) ?_
    obtain ⟨z_2, ez_2, hz_2⟩ := e_anyJ (j0 - j0 / j1 * j1)
    refine q_cl z_2 ez_2 ?_
    have cm_3 : CM 39062500 78124999 _ _ := cm_s (by decide) hpre0 (by omega) ez_2
    have cr_3 := cm_r cm_3
    refine q_callSl (rest := []) (wr := []) X hK hT hA h (fun sz => gX12_common_bc5dc6c l D cy j1 z_2 hj1 ⟨by omega, by omega⟩ (cm_3) sz) wm_8_20 wm_8_22 wm_1_12 hd_X12_common wm_8_21 ⟨Nat.le_of_ble_eq_true rfl, Nat.le_of_ble_eq_true rfl⟩ hl.1 rfl (Nat.le_of_ble_eq_true rfl) dX12_common_14 ⟨Nat.le_of_ble_eq_true rfl, Nat.le_of_ble_eq_true rfl⟩ [] [] rfl rfl (by decide) rfl rfl (fun r_4 u_4 H locs w_4 h_4 => ?_)
    clear h
    obtain ⟨wr_4, y4_0, _⟩ := w_4
    replace h_4 : qW D _ _ [] _ _ := h_4
    exact q_lret X hr hlk hK h_4 (fun _ => 0, fun _ _ => 0, fun _ _ => 0) ⟨(bw wr_4 (by decide) (by decide)), (show (r_4 : Int64).toInt ≠ 0 ∨ ((j0 : Int64).toInt = 0 ∧ (j1 : Int64).toInt = 0) from by omega), trivial⟩ [] rfl rfl dX12_common_17 (Nat.le_of_ble_eq_true rfl) (Nat.le_of_ble_eq_true rfl)
  · replace c_1 := j_eq (x := j1) (y := 0) rfl (show (0 : Int64).toInt = 0 by decide) c_1
    refine lv_lload_n hx hb dX12_common_6 rfl (lv_at hl 0 rfl) ?_
    refine lv_goto (tgt := 17) hx hb dX12_common_7 (by decide) ?_
    exact q_lret X hr hlk hK h (fun _ => 0, fun _ _ => 0, fun _ _ => 0) ⟨hj0, (show (j0 : Int64).toInt ≠ 0 ∨ ((j0 : Int64).toInt = 0 ∧ (j1 : Int64).toInt = 0) from by omega), trivial⟩ [] rfl rfl dX12_common_17 (Nat.le_of_ble_eq_true rfl) (Nat.le_of_ble_eq_true rfl)
set_option maxHeartbeats 4000000 in
set_option maxRecDepth 100000 in
theorem gX12_common_e9510b5 (l : Launch) (D : va_G) (cy : Nat → ClassId) (j0 : Int64) (j1 : Int64) (hj0 : (-156249999) ≤ (j0).toInt ∧ (j0).toInt ≤ 156249999) (hj1 : (-78125000) ≤ (j1).toInt ∧ (j1).toInt ≤ 78125000) (hpre0 : CM 78125000 156249999 (j0 : Int64).toInt (j1 : Int64).toInt) (sz : Nat) : ML l yX12_common cX12_common 4 { frames := 54, cells := 0, slots := 0, locals := 1242 } [.long j0, .long j1] D cy [] sz (fun r u => ((-156249999) ≤ r.toInt ∧ r.toInt ≤ 156249999) ∧ ((r : Int64).toInt ≠ 0 ∨ ((j0 : Int64).toInt = 0 ∧ (j1 : Int64).toInt = 0)) ∧ True) (fun u => []) 0 0 := by
  refine q_ent (own := RX12) (by decide) rfl (Nat.le_of_ble_eq_true rfl) (fun p e s m below meth c ls X hr hlk hnm hK hT h hA hl => ?_)
  obtain ⟨hx, hb, hml, hown, ht⟩ := id X
  replace hl : lv_has ls 4 [(0, .long j0), (2, .long j1)] := hl
  refine lv_lload_n hx hb dX12_common_0 rfl (lv_at hl 1 rfl) ?_
  refine lv_lconst (v := 0) hx hb dX12_common_1 (by decide) ?_
  refine W.lcmp hx hb dX12_common_2 ?_
  refine lv_if_ne (tgt := 10) hx hb dX12_common_3 (by decide) (fun c_1 => ?_) (fun c_1 => ?_)
  · replace c_1 := j_neq (x := j1) (y := 0) rfl (show (0 : Int64).toInt = 0 by decide) c_1
    refine lv_lload_n hx hb dX12_common_10 rfl (lv_at hl 1 rfl) ?_
    refine lv_lload_n hx hb dX12_common_11 rfl (lv_at hl 0 rfl) ?_
    refine lv_lload_n hx hb dX12_common_12 rfl (lv_at hl 1 rfl) ?_
    refine lv_lrem hx hb dX12_common_13 (j_nz (by omega)) ?_
    obtain ⟨z_2, ez_2, hz_2⟩ := e_anyJ (j0 - j0 / j1 * j1)
    refine q_cl z_2 ez_2 ?_
    have cm_3 : CM 78124999 78125000 _ _ := cm_s (by decide) hpre0 (by omega) ez_2
    have cr_3 := cm_r cm_3
    refine q_callSl (rest := []) (wr := []) X hK hT hA h (fun sz => gX12_common_bd035fc l D cy j1 z_2 hj1 ⟨by omega, by omega⟩ (cm_3) sz) wm_8_20 wm_8_22 wm_1_12 hd_X12_common wm_8_21 ⟨Nat.le_of_ble_eq_true rfl, Nat.le_of_ble_eq_true rfl⟩ hl.1 rfl (Nat.le_of_ble_eq_true rfl) dX12_common_14 ⟨Nat.le_of_ble_eq_true rfl, Nat.le_of_ble_eq_true rfl⟩ [] [] rfl rfl (by decide) rfl rfl (fun r_4 u_4 H locs w_4 h_4 => ?_)
    clear h
    obtain ⟨wr_4, y4_0, _⟩ := w_4
    replace h_4 : qW D _ _ [] _ _ := h_4
    exact q_lret X hr hlk hK h_4 (fun _ => 0, fun _ _ => 0, fun _ _ => 0) ⟨(bw wr_4 (by decide) (by decide)), (show (r_4 : Int64).toInt ≠ 0 ∨ ((j0 : Int64).toInt = 0 ∧ (j1 : Int64).toInt = 0) from by omega), trivial⟩ [] rfl rfl dX12_common_17 (Nat.le_of_ble_eq_true rfl) (Nat.le_of_ble_eq_true rfl)
  · replace c_1 := j_eq (x := j1) (y := 0) rfl (show (0 : Int64).toInt = 0 by decide) c_1
    refine lv_lload_n hx hb dX12_common_6 rfl (lv_at hl 0 rfl) ?_
    refine lv_goto (tgt := 17) hx hb dX12_common_7 (by decide) ?_
    exact q_lret X hr hlk hK h (fun _ => 0, fun _ _ => 0, fun _ _ => 0) ⟨hj0, (show (j0 : Int64).toInt ≠ 0 ∨ ((j0 : Int64).toInt = 0 ∧ (j1 : Int64).toInt = 0) from by omega), trivial⟩ [] rfl rfl dX12_common_17 (Nat.le_of_ble_eq_true rfl) (Nat.le_of_ble_eq_true rfl)
set_option maxHeartbeats 4000000 in
set_option maxRecDepth 100000 in
theorem gX12_common_ea6d81a (l : Launch) (D : va_G) (cy : Nat → ClassId) (j0 : Int64) (j1 : Int64) (hj0 : (-156250000) ≤ (j0).toInt ∧ (j0).toInt ≤ 156250000) (hj1 : (-156249999) ≤ (j1).toInt ∧ (j1).toInt ≤ 156249999) (hpre0 : CM 156249999 156250000 (j0 : Int64).toInt (j1 : Int64).toInt) (sz : Nat) : ML l yX12_common cX12_common 4 { frames := 55, cells := 0, slots := 0, locals := 1265 } [.long j0, .long j1] D cy [] sz (fun r u => ((-156250000) ≤ r.toInt ∧ r.toInt ≤ 156250000) ∧ ((r : Int64).toInt ≠ 0 ∨ ((j0 : Int64).toInt = 0 ∧ (j1 : Int64).toInt = 0)) ∧ True) (fun u => []) 0 0 := by
  refine q_ent (own := RX12) (by decide) rfl (Nat.le_of_ble_eq_true rfl) (fun p e s m below meth c ls X hr hlk hnm hK hT h hA hl => ?_)
  obtain ⟨hx, hb, hml, hown, ht⟩ := id X
  replace hl : lv_has ls 4 [(0, .long j0), (2, .long j1)] := hl
  refine lv_lload_n hx hb dX12_common_0 rfl (lv_at hl 1 rfl) ?_
  refine lv_lconst (v := 0) hx hb dX12_common_1 (by decide) ?_
  refine W.lcmp hx hb dX12_common_2 ?_
  refine lv_if_ne (tgt := 10) hx hb dX12_common_3 (by decide) (fun c_1 => ?_) (fun c_1 => ?_)
  · replace c_1 := j_neq (x := j1) (y := 0) rfl (show (0 : Int64).toInt = 0 by decide) c_1
    refine lv_lload_n hx hb dX12_common_10 rfl (lv_at hl 1 rfl) ?_
    refine lv_lload_n hx hb dX12_common_11 rfl (lv_at hl 0 rfl) ?_
    refine lv_lload_n hx hb dX12_common_12 rfl (lv_at hl 1 rfl) ?_
    refine lv_lrem hx hb dX12_common_13 (j_nz (by omega)) ?_
    obtain ⟨z_2, ez_2, hz_2⟩ := e_anyJ (j0 - j0 / j1 * j1)
    refine q_cl z_2 ez_2 ?_
    have cm_3 : CM 78125000 156249999 _ _ := cm_s (by decide) hpre0 (by omega) ez_2
    have cr_3 := cm_r cm_3
    refine q_callSl (rest := []) (wr := []) X hK hT hA h (fun sz => gX12_common_e9510b5 l D cy j1 z_2 hj1 ⟨by omega, by omega⟩ (cm_3) sz) wm_8_20 wm_8_22 wm_1_12 hd_X12_common wm_8_21 ⟨Nat.le_of_ble_eq_true rfl, Nat.le_of_ble_eq_true rfl⟩ hl.1 rfl (Nat.le_of_ble_eq_true rfl) dX12_common_14 ⟨Nat.le_of_ble_eq_true rfl, Nat.le_of_ble_eq_true rfl⟩ [] [] rfl rfl (by decide) rfl rfl (fun r_4 u_4 H locs w_4 h_4 => ?_)
    clear h
    obtain ⟨wr_4, y4_0, _⟩ := w_4
    replace h_4 : qW D _ _ [] _ _ := h_4
    exact q_lret X hr hlk hK h_4 (fun _ => 0, fun _ _ => 0, fun _ _ => 0) ⟨(bw wr_4 (by decide) (by decide)), (show (r_4 : Int64).toInt ≠ 0 ∨ ((j0 : Int64).toInt = 0 ∧ (j1 : Int64).toInt = 0) from by omega), trivial⟩ [] rfl rfl dX12_common_17 (Nat.le_of_ble_eq_true rfl) (Nat.le_of_ble_eq_true rfl)
  · replace c_1 := j_eq (x := j1) (y := 0) rfl (show (0 : Int64).toInt = 0 by decide) c_1
    refine lv_lload_n hx hb dX12_common_6 rfl (lv_at hl 0 rfl) ?_
    refine lv_goto (tgt := 17) hx hb dX12_common_7 (by decide) ?_
    exact q_lret X hr hlk hK h (fun _ => 0, fun _ _ => 0, fun _ _ => 0) ⟨hj0, (show (j0 : Int64).toInt ≠ 0 ∨ ((j0 : Int64).toInt = 0 ∧ (j1 : Int64).toInt = 0) from by omega), trivial⟩ [] rfl rfl dX12_common_17 (Nat.le_of_ble_eq_true rfl) (Nat.le_of_ble_eq_true rfl)
set_option maxHeartbeats 4000000 in
set_option maxRecDepth 100000 in
theorem gX12_common_e313f30 (l : Launch) (D : va_G) (cy : Nat → ClassId) (j0 : Int64) (j1 : Int64) (hj0 : (-312499999) ≤ (j0).toInt ∧ (j0).toInt ≤ 312499999) (hj1 : (-156250000) ≤ (j1).toInt ∧ (j1).toInt ≤ 156250000) (hpre0 : CM 156250000 312499999 (j0 : Int64).toInt (j1 : Int64).toInt) (sz : Nat) : ML l yX12_common cX12_common 4 { frames := 56, cells := 0, slots := 0, locals := 1288 } [.long j0, .long j1] D cy [] sz (fun r u => ((-312499999) ≤ r.toInt ∧ r.toInt ≤ 312499999) ∧ ((r : Int64).toInt ≠ 0 ∨ ((j0 : Int64).toInt = 0 ∧ (j1 : Int64).toInt = 0)) ∧ True) (fun u => []) 0 0 := by
  refine q_ent (own := RX12) (by decide) rfl (Nat.le_of_ble_eq_true rfl) (fun p e s m below meth c ls X hr hlk hnm hK hT h hA hl => ?_)
  obtain ⟨hx, hb, hml, hown, ht⟩ := id X
  replace hl : lv_has ls 4 [(0, .long j0), (2, .long j1)] := hl
  refine lv_lload_n hx hb dX12_common_0 rfl (lv_at hl 1 rfl) ?_
  refine lv_lconst (v := 0) hx hb dX12_common_1 (by decide) ?_
  refine W.lcmp hx hb dX12_common_2 ?_
  refine lv_if_ne (tgt := 10) hx hb dX12_common_3 (by decide) (fun c_1 => ?_) (fun c_1 => ?_)
  · replace c_1 := j_neq (x := j1) (y := 0) rfl (show (0 : Int64).toInt = 0 by decide) c_1
    refine lv_lload_n hx hb dX12_common_10 rfl (lv_at hl 1 rfl) ?_
    refine lv_lload_n hx hb dX12_common_11 rfl (lv_at hl 0 rfl) ?_
    refine lv_lload_n hx hb dX12_common_12 rfl (lv_at hl 1 rfl) ?_
    refine lv_lrem hx hb dX12_common_13 (j_nz (by omega)) ?_
    obtain ⟨z_2, ez_2, hz_2⟩ := e_anyJ (j0 - j0 / j1 * j1)
    refine q_cl z_2 ez_2 ?_
    have cm_3 : CM 156249999 156250000 _ _ := cm_s (by decide) hpre0 (by omega) ez_2
    have cr_3 := cm_r cm_3
    refine q_callSl (rest := []) (wr := []) X hK hT hA h (fun sz => gX12_common_ea6d81a l D cy j1 z_2 hj1 ⟨by omega, by omega⟩ (cm_3) sz) wm_8_20 wm_8_22 wm_1_12 hd_X12_common wm_8_21 ⟨Nat.le_of_ble_eq_true rfl, Nat.le_of_ble_eq_true rfl⟩ hl.1 rfl (Nat.le_of_ble_eq_true rfl) dX12_common_14 ⟨Nat.le_of_ble_eq_true rfl, Nat.le_of_ble_eq_true rfl⟩ [] [] rfl rfl (by decide) rfl rfl (fun r_4 u_4 H locs w_4 h_4 => ?_)
    clear h
    obtain ⟨wr_4, y4_0, _⟩ := w_4
    replace h_4 : qW D _ _ [] _ _ := h_4
    exact q_lret X hr hlk hK h_4 (fun _ => 0, fun _ _ => 0, fun _ _ => 0) ⟨(bw wr_4 (by decide) (by decide)), (show (r_4 : Int64).toInt ≠ 0 ∨ ((j0 : Int64).toInt = 0 ∧ (j1 : Int64).toInt = 0) from by omega), trivial⟩ [] rfl rfl dX12_common_17 (Nat.le_of_ble_eq_true rfl) (Nat.le_of_ble_eq_true rfl)
  · replace c_1 := j_eq (x := j1) (y := 0) rfl (show (0 : Int64).toInt = 0 by decide) c_1
    refine lv_lload_n hx hb dX12_common_6 rfl (lv_at hl 0 rfl) ?_
    refine lv_goto (tgt := 17) hx hb dX12_common_7 (by decide) ?_
    exact q_lret X hr hlk hK h (fun _ => 0, fun _ _ => 0, fun _ _ => 0) ⟨hj0, (show (j0 : Int64).toInt ≠ 0 ∨ ((j0 : Int64).toInt = 0 ∧ (j1 : Int64).toInt = 0) from by omega), trivial⟩ [] rfl rfl dX12_common_17 (Nat.le_of_ble_eq_true rfl) (Nat.le_of_ble_eq_true rfl)
set_option maxHeartbeats 4000000 in
set_option maxRecDepth 100000 in
theorem gX12_common_fdd73f3 (l : Launch) (D : va_G) (cy : Nat → ClassId) (j0 : Int64) (j1 : Int64) (hj0 : (-312500000) ≤ (j0).toInt ∧ (j0).toInt ≤ 312500000) (hj1 : (-312499999) ≤ (j1).toInt ∧ (j1).toInt ≤ 312499999) (hpre0 : CM 312499999 312500000 (j0 : Int64).toInt (j1 : Int64).toInt) (sz : Nat) : ML l yX12_common cX12_common 4 { frames := 57, cells := 0, slots := 0, locals := 1311 } [.long j0, .long j1] D cy [] sz (fun r u => ((-312500000) ≤ r.toInt ∧ r.toInt ≤ 312500000) ∧ ((r : Int64).toInt ≠ 0 ∨ ((j0 : Int64).toInt = 0 ∧ (j1 : Int64).toInt = 0)) ∧ True) (fun u => []) 0 0 := by
  refine q_ent (own := RX12) (by decide) rfl (Nat.le_of_ble_eq_true rfl) (fun p e s m below meth c ls X hr hlk hnm hK hT h hA hl => ?_)
  obtain ⟨hx, hb, hml, hown, ht⟩ := id X
  replace hl : lv_has ls 4 [(0, .long j0), (2, .long j1)] := hl
  refine lv_lload_n hx hb dX12_common_0 rfl (lv_at hl 1 rfl) ?_
  refine lv_lconst (v := 0) hx hb dX12_common_1 (by decide) ?_
  refine W.lcmp hx hb dX12_common_2 ?_
  refine lv_if_ne (tgt := 10) hx hb dX12_common_3 (by decide) (fun c_1 => ?_) (fun c_1 => ?_)
  · replace c_1 := j_neq (x := j1) (y := 0) rfl (show (0 : Int64).toInt = 0 by decide) c_1
    refine lv_lload_n hx hb dX12_common_10 rfl (lv_at hl 1 rfl) ?_
    refine lv_lload_n hx hb dX12_common_11 rfl (lv_at hl 0 rfl) ?_
    refine lv_lload_n hx hb dX12_common_12 rfl (lv_at hl 1 rfl) ?_
    refine lv_lrem hx hb dX12_common_13 (j_nz (by omega)) ?_
    obtain ⟨z_2, ez_2, hz_2⟩ := e_anyJ (j0 - j0 / j1 * j1)
    refine q_cl z_2 ez_2 ?_
    have cm_3 : CM 156250000 312499999 _ _ := cm_s (by decide) hpre0 (by omega) ez_2
    have cr_3 := cm_r cm_3
    refine q_callSl (rest := []) (wr := []) X hK hT hA h (fun sz => gX12_common_e313f30 l D cy j1 z_2 hj1 ⟨by omega, by omega⟩ (cm_3) sz) wm_8_20 wm_8_22 wm_1_12 hd_X12_common wm_8_21 ⟨Nat.le_of_ble_eq_true rfl, Nat.le_of_ble_eq_true rfl⟩ hl.1 rfl (Nat.le_of_ble_eq_true rfl) dX12_common_14 ⟨Nat.le_of_ble_eq_true rfl, Nat.le_of_ble_eq_true rfl⟩ [] [] rfl rfl (by decide) rfl rfl (fun r_4 u_4 H locs w_4 h_4 => ?_)
    clear h
    obtain ⟨wr_4, y4_0, _⟩ := w_4
    replace h_4 : qW D _ _ [] _ _ := h_4
    exact q_lret X hr hlk hK h_4 (fun _ => 0, fun _ _ => 0, fun _ _ => 0) ⟨(bw wr_4 (by decide) (by decide)), (show (r_4 : Int64).toInt ≠ 0 ∨ ((j0 : Int64).toInt = 0 ∧ (j1 : Int64).toInt = 0) from by omega), trivial⟩ [] rfl rfl dX12_common_17 (Nat.le_of_ble_eq_true rfl) (Nat.le_of_ble_eq_true rfl)
  · replace c_1 := j_eq (x := j1) (y := 0) rfl (show (0 : Int64).toInt = 0 by decide) c_1
    refine lv_lload_n hx hb dX12_common_6 rfl (lv_at hl 0 rfl) ?_
    refine lv_goto (tgt := 17) hx hb dX12_common_7 (by decide) ?_
    exact q_lret X hr hlk hK h (fun _ => 0, fun _ _ => 0, fun _ _ => 0) ⟨hj0, (show (j0 : Int64).toInt ≠ 0 ∨ ((j0 : Int64).toInt = 0 ∧ (j1 : Int64).toInt = 0) from by omega), trivial⟩ [] rfl rfl dX12_common_17 (Nat.le_of_ble_eq_true rfl) (Nat.le_of_ble_eq_true rfl)
set_option maxHeartbeats 4000000 in
set_option maxRecDepth 100000 in
theorem gX12_common_b3b1016 (l : Launch) (D : va_G) (cy : Nat → ClassId) (j0 : Int64) (j1 : Int64) (hj0 : (-624999999) ≤ (j0).toInt ∧ (j0).toInt ≤ 624999999) (hj1 : (-312500000) ≤ (j1).toInt ∧ (j1).toInt ≤ 312500000) (hpre0 : CM 312500000 624999999 (j0 : Int64).toInt (j1 : Int64).toInt) (sz : Nat) : ML l yX12_common cX12_common 4 { frames := 58, cells := 0, slots := 0, locals := 1334 } [.long j0, .long j1] D cy [] sz (fun r u => ((-624999999) ≤ r.toInt ∧ r.toInt ≤ 624999999) ∧ ((r : Int64).toInt ≠ 0 ∨ ((j0 : Int64).toInt = 0 ∧ (j1 : Int64).toInt = 0)) ∧ True) (fun u => []) 0 0 := by
  refine q_ent (own := RX12) (by decide) rfl (Nat.le_of_ble_eq_true rfl) (fun p e s m below meth c ls X hr hlk hnm hK hT h hA hl => ?_)
  obtain ⟨hx, hb, hml, hown, ht⟩ := id X
  replace hl : lv_has ls 4 [(0, .long j0), (2, .long j1)] := hl
  refine lv_lload_n hx hb dX12_common_0 rfl (lv_at hl 1 rfl) ?_
  refine lv_lconst (v := 0) hx hb dX12_common_1 (by decide) ?_
  refine W.lcmp hx hb dX12_common_2 ?_
  refine lv_if_ne (tgt := 10) hx hb dX12_common_3 (by decide) (fun c_1 => ?_) (fun c_1 => ?_)
  · replace c_1 := j_neq (x := j1) (y := 0) rfl (show (0 : Int64).toInt = 0 by decide) c_1
    refine lv_lload_n hx hb dX12_common_10 rfl (lv_at hl 1 rfl) ?_
    refine lv_lload_n hx hb dX12_common_11 rfl (lv_at hl 0 rfl) ?_
    refine lv_lload_n hx hb dX12_common_12 rfl (lv_at hl 1 rfl) ?_
    refine lv_lrem hx hb dX12_common_13 (j_nz (by omega)) ?_
    obtain ⟨z_2, ez_2, hz_2⟩ := e_anyJ (j0 - j0 / j1 * j1)
    refine q_cl z_2 ez_2 ?_
    have cm_3 : CM 312499999 312500000 _ _ := cm_s (by decide) hpre0 (by omega) ez_2
    have cr_3 := cm_r cm_3
    refine q_callSl (rest := []) (wr := []) X hK hT hA h (fun sz => gX12_common_fdd73f3 l D cy j1 z_2 hj1 ⟨by omega, by omega⟩ (cm_3) sz) wm_8_20 wm_8_22 wm_1_12 hd_X12_common wm_8_21 ⟨Nat.le_of_ble_eq_true rfl, Nat.le_of_ble_eq_true rfl⟩ hl.1 rfl (Nat.le_of_ble_eq_true rfl) dX12_common_14 ⟨Nat.le_of_ble_eq_true rfl, Nat.le_of_ble_eq_true rfl⟩ [] [] rfl rfl (by decide) rfl rfl (fun r_4 u_4 H locs w_4 h_4 => ?_)
    clear h
    obtain ⟨wr_4, y4_0, _⟩ := w_4
    replace h_4 : qW D _ _ [] _ _ := h_4
    exact q_lret X hr hlk hK h_4 (fun _ => 0, fun _ _ => 0, fun _ _ => 0) ⟨(bw wr_4 (by decide) (by decide)), (show (r_4 : Int64).toInt ≠ 0 ∨ ((j0 : Int64).toInt = 0 ∧ (j1 : Int64).toInt = 0) from by omega), trivial⟩ [] rfl rfl dX12_common_17 (Nat.le_of_ble_eq_true rfl) (Nat.le_of_ble_eq_true rfl)
  · replace c_1 := j_eq (x := j1) (y := 0) rfl (show (0 : Int64).toInt = 0 by decide) c_1
    refine lv_lload_n hx hb dX12_common_6 rfl (lv_at hl 0 rfl) ?_
    refine lv_goto (tgt := 17) hx hb dX12_common_7 (by decide) ?_
    exact q_lret X hr hlk hK h (fun _ => 0, fun _ _ => 0, fun _ _ => 0) ⟨hj0, (show (j0 : Int64).toInt ≠ 0 ∨ ((j0 : Int64).toInt = 0 ∧ (j1 : Int64).toInt = 0) from by omega), trivial⟩ [] rfl rfl dX12_common_17 (Nat.le_of_ble_eq_true rfl) (Nat.le_of_ble_eq_true rfl)
set_option maxHeartbeats 4000000 in
set_option maxRecDepth 100000 in
theorem gX12_common_3133aa1 (l : Launch) (D : va_G) (cy : Nat → ClassId) (j0 : Int64) (j1 : Int64) (hj0 : (-625000000) ≤ (j0).toInt ∧ (j0).toInt ≤ 625000000) (hj1 : (-624999999) ≤ (j1).toInt ∧ (j1).toInt ≤ 624999999) (hpre0 : CM 624999999 625000000 (j0 : Int64).toInt (j1 : Int64).toInt) (sz : Nat) : ML l yX12_common cX12_common 4 { frames := 59, cells := 0, slots := 0, locals := 1357 } [.long j0, .long j1] D cy [] sz (fun r u => ((-625000000) ≤ r.toInt ∧ r.toInt ≤ 625000000) ∧ ((r : Int64).toInt ≠ 0 ∨ ((j0 : Int64).toInt = 0 ∧ (j1 : Int64).toInt = 0)) ∧ True) (fun u => []) 0 0 := by
  refine q_ent (own := RX12) (by decide) rfl (Nat.le_of_ble_eq_true rfl) (fun p e s m below meth c ls X hr hlk hnm hK hT h hA hl => ?_)
  obtain ⟨hx, hb, hml, hown, ht⟩ := id X
  replace hl : lv_has ls 4 [(0, .long j0), (2, .long j1)] := hl
  refine lv_lload_n hx hb dX12_common_0 rfl (lv_at hl 1 rfl) ?_
  refine lv_lconst (v := 0) hx hb dX12_common_1 (by decide) ?_
  refine W.lcmp hx hb dX12_common_2 ?_
  refine lv_if_ne (tgt := 10) hx hb dX12_common_3 (by decide) (fun c_1 => ?_) (fun c_1 => ?_)
  · replace c_1 := j_neq (x := j1) (y := 0) rfl (show (0 : Int64).toInt = 0 by decide) c_1
    refine lv_lload_n hx hb dX12_common_10 rfl (lv_at hl 1 rfl) ?_
    refine lv_lload_n hx hb dX12_common_11 rfl (lv_at hl 0 rfl) ?_
    refine lv_lload_n hx hb dX12_common_12 rfl (lv_at hl 1 rfl) ?_
    refine lv_lrem hx hb dX12_common_13 (j_nz (by omega)) ?_
    obtain ⟨z_2, ez_2, hz_2⟩ := e_anyJ (j0 - j0 / j1 * j1)
    refine q_cl z_2 ez_2 ?_
    have cm_3 : CM 312500000 624999999 _ _ := cm_s (by decide) hpre0 (by omega) ez_2
    have cr_3 := cm_r cm_3
    refine q_callSl (rest := []) (wr := []) X hK hT hA h (fun sz => gX12_common_b3b1016 l D cy j1 z_2 hj1 ⟨by omega, by omega⟩ (cm_3) sz) wm_8_20 wm_8_22 wm_1_12 hd_X12_common wm_8_21 ⟨Nat.le_of_ble_eq_true rfl, Nat.le_of_ble_eq_true rfl⟩ hl.1 rfl (Nat.le_of_ble_eq_true rfl) dX12_common_14 ⟨Nat.le_of_ble_eq_true rfl, Nat.le_of_ble_eq_true rfl⟩ [] [] rfl rfl (by decide) rfl rfl (fun r_4 u_4 H locs w_4 h_4 => ?_)
    clear h
    obtain ⟨wr_4, y4_0, _⟩ := w_4
    replace h_4 : qW D _ _ [] _ _ := h_4
    exact q_lret X hr hlk hK h_4 (fun _ => 0, fun _ _ => 0, fun _ _ => 0) ⟨(bw wr_4 (by decide) (by decide)), (show (r_4 : Int64).toInt ≠ 0 ∨ ((j0 : Int64).toInt = 0 ∧ (j1 : Int64).toInt = 0) from by omega), trivial⟩ [] rfl rfl dX12_common_17 (Nat.le_of_ble_eq_true rfl) (Nat.le_of_ble_eq_true rfl)
  · replace c_1 := j_eq (x := j1) (y := 0) rfl (show (0 : Int64).toInt = 0 by decide) c_1
    refine lv_lload_n hx hb dX12_common_6 rfl (lv_at hl 0 rfl) ?_
    refine lv_goto (tgt := 17) hx hb dX12_common_7 (by decide) ?_
    exact q_lret X hr hlk hK h (fun _ => 0, fun _ _ => 0, fun _ _ => 0) ⟨hj0, (show (j0 : Int64).toInt ≠ 0 ∨ ((j0 : Int64).toInt = 0 ∧ (j1 : Int64).toInt = 0) from by omega), trivial⟩ [] rfl rfl dX12_common_17 (Nat.le_of_ble_eq_true rfl) (Nat.le_of_ble_eq_true rfl)
set_option maxHeartbeats 4000000 in
set_option maxRecDepth 100000 in
theorem gX12_common_f8c9e6a (l : Launch) (D : va_G) (cy : Nat → ClassId) (j0 : Int64) (j1 : Int64) (hj0 : (-1249999999) ≤ (j0).toInt ∧ (j0).toInt ≤ 1249999999) (hj1 : (-625000000) ≤ (j1).toInt ∧ (j1).toInt ≤ 625000000) (hpre0 : CM 625000000 1249999999 (j0 : Int64).toInt (j1 : Int64).toInt) (sz : Nat) : ML l yX12_common cX12_common 4 { frames := 60, cells := 0, slots := 0, locals := 1380 } [.long j0, .long j1] D cy [] sz (fun r u => ((-1249999999) ≤ r.toInt ∧ r.toInt ≤ 1249999999) ∧ ((r : Int64).toInt ≠ 0 ∨ ((j0 : Int64).toInt = 0 ∧ (j1 : Int64).toInt = 0)) ∧ True) (fun u => []) 0 0 := by
  refine q_ent (own := RX12) (by decide) rfl (Nat.le_of_ble_eq_true rfl) (fun p e s m below meth c ls X hr hlk hnm hK hT h hA hl => ?_)
  obtain ⟨hx, hb, hml, hown, ht⟩ := id X
  replace hl : lv_has ls 4 [(0, .long j0), (2, .long j1)] := hl
  refine lv_lload_n hx hb dX12_common_0 rfl (lv_at hl 1 rfl) ?_
  refine lv_lconst (v := 0) hx hb dX12_common_1 (by decide) ?_
  refine W.lcmp hx hb dX12_common_2 ?_
  refine lv_if_ne (tgt := 10) hx hb dX12_common_3 (by decide) (fun c_1 => ?_) (fun c_1 => ?_)
  · replace c_1 := j_neq (x := j1) (y := 0) rfl (show (0 : Int64).toInt = 0 by decide) c_1
    refine lv_lload_n hx hb dX12_common_10 rfl (lv_at hl 1 rfl) ?_
    refine lv_lload_n hx hb dX12_common_11 rfl (lv_at hl 0 rfl) ?_
    refine lv_lload_n hx hb dX12_common_12 rfl (lv_at hl 1 rfl) ?_
    refine lv_lrem hx hb dX12_common_13 (j_nz (by omega)) ?_
    obtain ⟨z_2, ez_2, hz_2⟩ := e_anyJ (j0 - j0 / j1 * j1)
    refine q_cl z_2 ez_2 ?_
    have cm_3 : CM 624999999 625000000 _ _ := cm_s (by decide) hpre0 (by omega) ez_2
    have cr_3 := cm_r cm_3
    refine q_callSl (rest := []) (wr := []) X hK hT hA h (fun sz => gX12_common_3133aa1 l D cy j1 z_2 hj1 ⟨by omega, by omega⟩ (cm_3) sz) wm_8_20 wm_8_22 wm_1_12 hd_X12_common wm_8_21 ⟨Nat.le_of_ble_eq_true rfl, Nat.le_of_ble_eq_true rfl⟩ hl.1 rfl (Nat.le_of_ble_eq_true rfl) dX12_common_14 ⟨Nat.le_of_ble_eq_true rfl, Nat.le_of_ble_eq_true rfl⟩ [] [] rfl rfl (by decide) rfl rfl (fun r_4 u_4 H locs w_4 h_4 => ?_)
    clear h
    obtain ⟨wr_4, y4_0, _⟩ := w_4
    replace h_4 : qW D _ _ [] _ _ := h_4
    exact q_lret X hr hlk hK h_4 (fun _ => 0, fun _ _ => 0, fun _ _ => 0) ⟨(bw wr_4 (by decide) (by decide)), (show (r_4 : Int64).toInt ≠ 0 ∨ ((j0 : Int64).toInt = 0 ∧ (j1 : Int64).toInt = 0) from by omega), trivial⟩ [] rfl rfl dX12_common_17 (Nat.le_of_ble_eq_true rfl) (Nat.le_of_ble_eq_true rfl)
  · replace c_1 := j_eq (x := j1) (y := 0) rfl (show (0 : Int64).toInt = 0 by decide) c_1
    refine lv_lload_n hx hb dX12_common_6 rfl (lv_at hl 0 rfl) ?_
    refine lv_goto (tgt := 17) hx hb dX12_common_7 (by decide) ?_
    exact q_lret X hr hlk hK h (fun _ => 0, fun _ _ => 0, fun _ _ => 0) ⟨hj0, (show (j0 : Int64).toInt ≠ 0 ∨ ((j0 : Int64).toInt = 0 ∧ (j1 : Int64).toInt = 0) from by omega), trivial⟩ [] rfl rfl dX12_common_17 (Nat.le_of_ble_eq_true rfl) (Nat.le_of_ble_eq_true rfl)
set_option maxHeartbeats 4000000 in
set_option maxRecDepth 100000 in
theorem gX12_common_a9864a9 (l : Launch) (D : va_G) (cy : Nat → ClassId) (j0 : Int64) (j1 : Int64) (hj0 : (-1250000000) ≤ (j0).toInt ∧ (j0).toInt ≤ 1250000000) (hj1 : (-1249999999) ≤ (j1).toInt ∧ (j1).toInt ≤ 1249999999) (hpre0 : CM 1249999999 1250000000 (j0 : Int64).toInt (j1 : Int64).toInt) (sz : Nat) : ML l yX12_common cX12_common 4 { frames := 61, cells := 0, slots := 0, locals := 1403 } [.long j0, .long j1] D cy [] sz (fun r u => ((-1250000000) ≤ r.toInt ∧ r.toInt ≤ 1250000000) ∧ ((r : Int64).toInt ≠ 0 ∨ ((j0 : Int64).toInt = 0 ∧ (j1 : Int64).toInt = 0)) ∧ True) (fun u => []) 0 0 := by
  refine q_ent (own := RX12) (by decide) rfl (Nat.le_of_ble_eq_true rfl) (fun p e s m below meth c ls X hr hlk hnm hK hT h hA hl => ?_)
  obtain ⟨hx, hb, hml, hown, ht⟩ := id X
  replace hl : lv_has ls 4 [(0, .long j0), (2, .long j1)] := hl
  refine lv_lload_n hx hb dX12_common_0 rfl (lv_at hl 1 rfl) ?_
  refine lv_lconst (v := 0) hx hb dX12_common_1 (by decide) ?_
  refine W.lcmp hx hb dX12_common_2 ?_
  refine lv_if_ne (tgt := 10) hx hb dX12_common_3 (by decide) (fun c_1 => ?_) (fun c_1 => ?_)
  · replace c_1 := j_neq (x := j1) (y := 0) rfl (show (0 : Int64).toInt = 0 by decide) c_1
    refine lv_lload_n hx hb dX12_common_10 rfl (lv_at hl 1 rfl) ?_
    refine lv_lload_n hx hb dX12_common_11 rfl (lv_at hl 0 rfl) ?_
    refine lv_lload_n hx hb dX12_common_12 rfl (lv_at hl 1 rfl) ?_
    refine lv_lrem hx hb dX12_common_13 (j_nz (by omega)) ?_
    obtain ⟨z_2, ez_2, hz_2⟩ := e_anyJ (j0 - j0 / j1 * j1)
    refine q_cl z_2 ez_2 ?_
    have cm_3 : CM 625000000 1249999999 _ _ := cm_s (by decide) hpre0 (by omega) ez_2
    have cr_3 := cm_r cm_3
    refine q_callSl (rest := []) (wr := []) X hK hT hA h (fun sz => gX12_common_f8c9e6a l D cy j1 z_2 hj1 ⟨by omega, by omega⟩ (cm_3) sz) wm_8_20 wm_8_22 wm_1_12 hd_X12_common wm_8_21 ⟨Nat.le_of_ble_eq_true rfl, Nat.le_of_ble_eq_true rfl⟩ hl.1 rfl (Nat.le_of_ble_eq_true rfl) dX12_common_14 ⟨Nat.le_of_ble_eq_true rfl, Nat.le_of_ble_eq_true rfl⟩ [] [] rfl rfl (by decide) rfl rfl (fun r_4 u_4 H locs w_4 h_4 => ?_)
    clear h
    obtain ⟨wr_4, y4_0, _⟩ := w_4
    replace h_4 : qW D _ _ [] _ _ := h_4
    exact q_lret X hr hlk hK h_4 (fun _ => 0, fun _ _ => 0, fun _ _ => 0) ⟨(bw wr_4 (by decide) (by decide)), (show (r_4 : Int64).toInt ≠ 0 ∨ ((j0 : Int64).toInt = 0 ∧ (j1 : Int64).toInt = 0) from by omega), trivial⟩ [] rfl rfl dX12_common_17 (Nat.le_of_ble_eq_true rfl) (Nat.le_of_ble_eq_true rfl)
  · replace c_1 := j_eq (x := j1) (y := 0) rfl (show (0 : Int64).toInt = 0 by decide) c_1
    refine lv_lload_n hx hb dX12_common_6 rfl (lv_at hl 0 rfl) ?_
    refine lv_goto (tgt := 17) hx hb dX12_common_7 (by decide) ?_
    exact q_lret X hr hlk hK h (fun _ => 0, fun _ _ => 0, fun _ _ => 0) ⟨hj0, (show (j0 : Int64).toInt ≠ 0 ∨ ((j0 : Int64).toInt = 0 ∧ (j1 : Int64).toInt = 0) from by omega), trivial⟩ [] rfl rfl dX12_common_17 (Nat.le_of_ble_eq_true rfl) (Nat.le_of_ble_eq_true rfl)
set_option maxHeartbeats 4000000 in
set_option maxRecDepth 100000 in
theorem gX12_common_da70615 (l : Launch) (D : va_G) (cy : Nat → ClassId) (j0 : Int64) (j1 : Int64) (hj0 : (-2499999999) ≤ (j0).toInt ∧ (j0).toInt ≤ 2499999999) (hj1 : (-1250000000) ≤ (j1).toInt ∧ (j1).toInt ≤ 1250000000) (hpre0 : CM 1250000000 2499999999 (j0 : Int64).toInt (j1 : Int64).toInt) (sz : Nat) : ML l yX12_common cX12_common 4 { frames := 62, cells := 0, slots := 0, locals := 1426 } [.long j0, .long j1] D cy [] sz (fun r u => ((-2499999999) ≤ r.toInt ∧ r.toInt ≤ 2499999999) ∧ ((r : Int64).toInt ≠ 0 ∨ ((j0 : Int64).toInt = 0 ∧ (j1 : Int64).toInt = 0)) ∧ True) (fun u => []) 0 0 := by
  refine q_ent (own := RX12) (by decide) rfl (Nat.le_of_ble_eq_true rfl) (fun p e s m below meth c ls X hr hlk hnm hK hT h hA hl => ?_)
  obtain ⟨hx, hb, hml, hown, ht⟩ := id X
  replace hl : lv_has ls 4 [(0, .long j0), (2, .long j1)] := hl
  refine lv_lload_n hx hb dX12_common_0 rfl (lv_at hl 1 rfl) ?_
  refine lv_lconst (v := 0) hx hb dX12_common_1 (by decide) ?_
  refine W.lcmp hx hb dX12_common_2 ?_
  refine lv_if_ne (tgt := 10) hx hb dX12_common_3 (by decide) (fun c_1 => ?_) (fun c_1 => ?_)
  · replace c_1 := j_neq (x := j1) (y := 0) rfl (show (0 : Int64).toInt = 0 by decide) c_1
    refine lv_lload_n hx hb dX12_common_10 rfl (lv_at hl 1 rfl) ?_
    refine lv_lload_n hx hb dX12_common_11 rfl (lv_at hl 0 rfl) ?_
    refine lv_lload_n hx hb dX12_common_12 rfl (lv_at hl 1 rfl) ?_
    refine lv_lrem hx hb dX12_common_13 (j_nz (by omega)) ?_
    obtain ⟨z_2, ez_2, hz_2⟩ := e_anyJ (j0 - j0 / j1 * j1)
    refine q_cl z_2 ez_2 ?_
    have cm_3 : CM 1249999999 1250000000 _ _ := cm_s (by decide) hpre0 (by omega) ez_2
    have cr_3 := cm_r cm_3
    refine q_callSl (rest := []) (wr := []) X hK hT hA h (fun sz => gX12_common_a9864a9 l D cy j1 z_2 hj1 ⟨by omega, by omega⟩ (cm_3) sz) wm_8_20 wm_8_22 wm_1_12 hd_X12_common wm_8_21 ⟨Nat.le_of_ble_eq_true rfl, Nat.le_of_ble_eq_true rfl⟩ hl.1 rfl (Nat.le_of_ble_eq_true rfl) dX12_common_14 ⟨Nat.le_of_ble_eq_true rfl, Nat.le_of_ble_eq_true rfl⟩ [] [] rfl rfl (by decide) rfl rfl (fun r_4 u_4 H locs w_4 h_4 => ?_)
    clear h
    obtain ⟨wr_4, y4_0, _⟩ := w_4
    replace h_4 : qW D _ _ [] _ _ := h_4
    exact q_lret X hr hlk hK h_4 (fun _ => 0, fun _ _ => 0, fun _ _ => 0) ⟨(bw wr_4 (by decide) (by decide)), (show (r_4 : Int64).toInt ≠ 0 ∨ ((j0 : Int64).toInt = 0 ∧ (j1 : Int64).toInt = 0) from by omega), trivial⟩ [] rfl rfl dX12_common_17 (Nat.le_of_ble_eq_true rfl) (Nat.le_of_ble_eq_true rfl)
  · replace c_1 := j_eq (x := j1) (y := 0) rfl (show (0 : Int64).toInt = 0 by decide) c_1
    refine lv_lload_n hx hb dX12_common_6 rfl (lv_at hl 0 rfl) ?_
    refine lv_goto (tgt := 17) hx hb dX12_common_7 (by decide) ?_
    exact q_lret X hr hlk hK h (fun _ => 0, fun _ _ => 0, fun _ _ => 0) ⟨hj0, (show (j0 : Int64).toInt ≠ 0 ∨ ((j0 : Int64).toInt = 0 ∧ (j1 : Int64).toInt = 0) from by omega), trivial⟩ [] rfl rfl dX12_common_17 (Nat.le_of_ble_eq_true rfl) (Nat.le_of_ble_eq_true rfl)
set_option maxHeartbeats 4000000 in
set_option maxRecDepth 100000 in
theorem gX12_common_6fe0117 (l : Launch) (D : va_G) (cy : Nat → ClassId) (j0 : Int64) (j1 : Int64) (hj0 : (-2500000000) ≤ (j0).toInt ∧ (j0).toInt ≤ 2500000000) (hj1 : (-2499999999) ≤ (j1).toInt ∧ (j1).toInt ≤ 2499999999) (hpre0 : CM 2499999999 2500000000 (j0 : Int64).toInt (j1 : Int64).toInt) (sz : Nat) : ML l yX12_common cX12_common 4 { frames := 63, cells := 0, slots := 0, locals := 1449 } [.long j0, .long j1] D cy [] sz (fun r u => ((-2500000000) ≤ r.toInt ∧ r.toInt ≤ 2500000000) ∧ ((r : Int64).toInt ≠ 0 ∨ ((j0 : Int64).toInt = 0 ∧ (j1 : Int64).toInt = 0)) ∧ True) (fun u => []) 0 0 := by
  refine q_ent (own := RX12) (by decide) rfl (Nat.le_of_ble_eq_true rfl) (fun p e s m below meth c ls X hr hlk hnm hK hT h hA hl => ?_)
  obtain ⟨hx, hb, hml, hown, ht⟩ := id X
  replace hl : lv_has ls 4 [(0, .long j0), (2, .long j1)] := hl
  refine lv_lload_n hx hb dX12_common_0 rfl (lv_at hl 1 rfl) ?_
  refine lv_lconst (v := 0) hx hb dX12_common_1 (by decide) ?_
  refine W.lcmp hx hb dX12_common_2 ?_
  refine lv_if_ne (tgt := 10) hx hb dX12_common_3 (by decide) (fun c_1 => ?_) (fun c_1 => ?_)
  · replace c_1 := j_neq (x := j1) (y := 0) rfl (show (0 : Int64).toInt = 0 by decide) c_1
    refine lv_lload_n hx hb dX12_common_10 rfl (lv_at hl 1 rfl) ?_
    refine lv_lload_n hx hb dX12_common_11 rfl (lv_at hl 0 rfl) ?_
    refine lv_lload_n hx hb dX12_common_12 rfl (lv_at hl 1 rfl) ?_
    refine lv_lrem hx hb dX12_common_13 (j_nz (by omega)) ?_
    obtain ⟨z_2, ez_2, hz_2⟩ := e_anyJ (j0 - j0 / j1 * j1)
    refine q_cl z_2 ez_2 ?_
    have cm_3 : CM 1250000000 2499999999 _ _ := cm_s (by decide) hpre0 (by omega) ez_2
    have cr_3 := cm_r cm_3
    refine q_callSl (rest := []) (wr := []) X hK hT hA h (fun sz => gX12_common_da70615 l D cy j1 z_2 hj1 ⟨by omega, by omega⟩ (cm_3) sz) wm_8_20 wm_8_22 wm_1_12 hd_X12_common wm_8_21 ⟨Nat.le_of_ble_eq_true rfl, Nat.le_of_ble_eq_true rfl⟩ hl.1 rfl (Nat.le_of_ble_eq_true rfl) dX12_common_14 ⟨Nat.le_of_ble_eq_true rfl, Nat.le_of_ble_eq_true rfl⟩ [] [] rfl rfl (by decide) rfl rfl (fun r_4 u_4 H locs w_4 h_4 => ?_)
    clear h
    obtain ⟨wr_4, y4_0, _⟩ := w_4
    replace h_4 : qW D _ _ [] _ _ := h_4
    exact q_lret X hr hlk hK h_4 (fun _ => 0, fun _ _ => 0, fun _ _ => 0) ⟨(bw wr_4 (by decide) (by decide)), (show (r_4 : Int64).toInt ≠ 0 ∨ ((j0 : Int64).toInt = 0 ∧ (j1 : Int64).toInt = 0) from by omega), trivial⟩ [] rfl rfl dX12_common_17 (Nat.le_of_ble_eq_true rfl) (Nat.le_of_ble_eq_true rfl)
  · replace c_1 := j_eq (x := j1) (y := 0) rfl (show (0 : Int64).toInt = 0 by decide) c_1
    refine lv_lload_n hx hb dX12_common_6 rfl (lv_at hl 0 rfl) ?_
    refine lv_goto (tgt := 17) hx hb dX12_common_7 (by decide) ?_
    exact q_lret X hr hlk hK h (fun _ => 0, fun _ _ => 0, fun _ _ => 0) ⟨hj0, (show (j0 : Int64).toInt ≠ 0 ∨ ((j0 : Int64).toInt = 0 ∧ (j1 : Int64).toInt = 0) from by omega), trivial⟩ [] rfl rfl dX12_common_17 (Nat.le_of_ble_eq_true rfl) (Nat.le_of_ble_eq_true rfl)
set_option maxHeartbeats 4000000 in
set_option maxRecDepth 100000 in
theorem gX12_common_dc79104 (l : Launch) (D : va_G) (cy : Nat → ClassId) (j0 : Int64) (j1 : Int64) (hj0 : (-4999999999) ≤ (j0).toInt ∧ (j0).toInt ≤ 4999999999) (hj1 : (-2500000000) ≤ (j1).toInt ∧ (j1).toInt ≤ 2500000000) (hpre0 : CM 2500000000 4999999999 (j0 : Int64).toInt (j1 : Int64).toInt) (sz : Nat) : ML l yX12_common cX12_common 4 { frames := 64, cells := 0, slots := 0, locals := 1472 } [.long j0, .long j1] D cy [] sz (fun r u => ((-4999999999) ≤ r.toInt ∧ r.toInt ≤ 4999999999) ∧ ((r : Int64).toInt ≠ 0 ∨ ((j0 : Int64).toInt = 0 ∧ (j1 : Int64).toInt = 0)) ∧ True) (fun u => []) 0 0 := by
  refine q_ent (own := RX12) (by decide) rfl (Nat.le_of_ble_eq_true rfl) (fun p e s m below meth c ls X hr hlk hnm hK hT h hA hl => ?_)
  obtain ⟨hx, hb, hml, hown, ht⟩ := id X
  replace hl : lv_has ls 4 [(0, .long j0), (2, .long j1)] := hl
  refine lv_lload_n hx hb dX12_common_0 rfl (lv_at hl 1 rfl) ?_
  refine lv_lconst (v := 0) hx hb dX12_common_1 (by decide) ?_
  refine W.lcmp hx hb dX12_common_2 ?_
  refine lv_if_ne (tgt := 10) hx hb dX12_common_3 (by decide) (fun c_1 => ?_) (fun c_1 => ?_)
  · replace c_1 := j_neq (x := j1) (y := 0) rfl (show (0 : Int64).toInt = 0 by decide) c_1
    refine lv_lload_n hx hb dX12_common_10 rfl (lv_at hl 1 rfl) ?_
    refine lv_lload_n hx hb dX12_common_11 rfl (lv_at hl 0 rfl) ?_
    refine lv_lload_n hx hb dX12_common_12 rfl (lv_at hl 1 rfl) ?_
    refine lv_lrem hx hb dX12_common_13 (j_nz (by omega)) ?_
    obtain ⟨z_2, ez_2, hz_2⟩ := e_anyJ (j0 - j0 / j1 * j1)
    refine q_cl z_2 ez_2 ?_
    have cm_3 : CM 2499999999 2500000000 _ _ := cm_s (by decide) hpre0 (by omega) ez_2
    have cr_3 := cm_r cm_3
    refine q_callSl (rest := []) (wr := []) X hK hT hA h (fun sz => gX12_common_6fe0117 l D cy j1 z_2 hj1 ⟨by omega, by omega⟩ (cm_3) sz) wm_8_20 wm_8_22 wm_1_12 hd_X12_common wm_8_21 ⟨Nat.le_of_ble_eq_true rfl, Nat.le_of_ble_eq_true rfl⟩ hl.1 rfl (Nat.le_of_ble_eq_true rfl) dX12_common_14 ⟨Nat.le_of_ble_eq_true rfl, Nat.le_of_ble_eq_true rfl⟩ [] [] rfl rfl (by decide) rfl rfl (fun r_4 u_4 H locs w_4 h_4 => ?_)
    clear h
    obtain ⟨wr_4, y4_0, _⟩ := w_4
    replace h_4 : qW D _ _ [] _ _ := h_4
    exact q_lret X hr hlk hK h_4 (fun _ => 0, fun _ _ => 0, fun _ _ => 0) ⟨(bw wr_4 (by decide) (by decide)), (show (r_4 : Int64).toInt ≠ 0 ∨ ((j0 : Int64).toInt = 0 ∧ (j1 : Int64).toInt = 0) from by omega), trivial⟩ [] rfl rfl dX12_common_17 (Nat.le_of_ble_eq_true rfl) (Nat.le_of_ble_eq_true rfl)
  · replace c_1 := j_eq (x := j1) (y := 0) rfl (show (0 : Int64).toInt = 0 by decide) c_1
    refine lv_lload_n hx hb dX12_common_6 rfl (lv_at hl 0 rfl) ?_
    refine lv_goto (tgt := 17) hx hb dX12_common_7 (by decide) ?_
    exact q_lret X hr hlk hK h (fun _ => 0, fun _ _ => 0, fun _ _ => 0) ⟨hj0, (show (j0 : Int64).toInt ≠ 0 ∨ ((j0 : Int64).toInt = 0 ∧ (j1 : Int64).toInt = 0) from by omega), trivial⟩ [] rfl rfl dX12_common_17 (Nat.le_of_ble_eq_true rfl) (Nat.le_of_ble_eq_true rfl)
set_option maxHeartbeats 4000000 in
set_option maxRecDepth 100000 in
theorem gX12_common_3881220 (l : Launch) (D : va_G) (cy : Nat → ClassId) (j0 : Int64) (j1 : Int64) (hj0 : (-5000000000) ≤ (j0).toInt ∧ (j0).toInt ≤ 5000000000) (hj1 : (-4999999999) ≤ (j1).toInt ∧ (j1).toInt ≤ 4999999999) (hpre0 : CM 4999999999 5000000000 (j0 : Int64).toInt (j1 : Int64).toInt) (sz : Nat) : ML l yX12_common cX12_common 4 { frames := 65, cells := 0, slots := 0, locals := 1495 } [.long j0, .long j1] D cy [] sz (fun r u => ((-5000000000) ≤ r.toInt ∧ r.toInt ≤ 5000000000) ∧ ((r : Int64).toInt ≠ 0 ∨ ((j0 : Int64).toInt = 0 ∧ (j1 : Int64).toInt = 0)) ∧ True) (fun u => []) 0 0 := by
  refine q_ent (own := RX12) (by decide) rfl (Nat.le_of_ble_eq_true rfl) (fun p e s m below meth c ls X hr hlk hnm hK hT h hA hl => ?_)
  obtain ⟨hx, hb, hml, hown, ht⟩ := id X
  replace hl : lv_has ls 4 [(0, .long j0), (2, .long j1)] := hl
  refine lv_lload_n hx hb dX12_common_0 rfl (lv_at hl 1 rfl) ?_
  refine lv_lconst (v := 0) hx hb dX12_common_1 (by decide) ?_
  refine W.lcmp hx hb dX12_common_2 ?_
  refine lv_if_ne (tgt := 10) hx hb dX12_common_3 (by decide) (fun c_1 => ?_) (fun c_1 => ?_)
  · replace c_1 := j_neq (x := j1) (y := 0) rfl (show (0 : Int64).toInt = 0 by decide) c_1
    refine lv_lload_n hx hb dX12_common_10 rfl (lv_at hl 1 rfl) ?_
    refine lv_lload_n hx hb dX12_common_11 rfl (lv_at hl 0 rfl) ?_
    refine lv_lload_n hx hb dX12_common_12 rfl (lv_at hl 1 rfl) ?_
    refine lv_lrem hx hb dX12_common_13 (j_nz (by omega)) ?_
    obtain ⟨z_2, ez_2, hz_2⟩ := e_anyJ (j0 - j0 / j1 * j1)
    refine q_cl z_2 ez_2 ?_
    have cm_3 : CM 2500000000 4999999999 _ _ := cm_s (by decide) hpre0 (by omega) ez_2
    have cr_3 := cm_r cm_3
    refine q_callSl (rest := []) (wr := []) X hK hT hA h (fun sz => gX12_common_dc79104 l D cy j1 z_2 hj1 ⟨by omega, by omega⟩ (cm_3) sz) wm_8_20 wm_8_22 wm_1_12 hd_X12_common wm_8_21 ⟨Nat.le_of_ble_eq_true rfl, Nat.le_of_ble_eq_true rfl⟩ hl.1 rfl (Nat.le_of_ble_eq_true rfl) dX12_common_14 ⟨Nat.le_of_ble_eq_true rfl, Nat.le_of_ble_eq_true rfl⟩ [] [] rfl rfl (by decide) rfl rfl (fun r_4 u_4 H locs w_4 h_4 => ?_)
    clear h
    obtain ⟨wr_4, y4_0, _⟩ := w_4
    replace h_4 : qW D _ _ [] _ _ := h_4
    exact q_lret X hr hlk hK h_4 (fun _ => 0, fun _ _ => 0, fun _ _ => 0) ⟨(bw wr_4 (by decide) (by decide)), (show (r_4 : Int64).toInt ≠ 0 ∨ ((j0 : Int64).toInt = 0 ∧ (j1 : Int64).toInt = 0) from by omega), trivial⟩ [] rfl rfl dX12_common_17 (Nat.le_of_ble_eq_true rfl) (Nat.le_of_ble_eq_true rfl)
  · replace c_1 := j_eq (x := j1) (y := 0) rfl (show (0 : Int64).toInt = 0 by decide) c_1
    refine lv_lload_n hx hb dX12_common_6 rfl (lv_at hl 0 rfl) ?_
    refine lv_goto (tgt := 17) hx hb dX12_common_7 (by decide) ?_
    exact q_lret X hr hlk hK h (fun _ => 0, fun _ _ => 0, fun _ _ => 0) ⟨hj0, (show (j0 : Int64).toInt ≠ 0 ∨ ((j0 : Int64).toInt = 0 ∧ (j1 : Int64).toInt = 0) from by omega), trivial⟩ [] rfl rfl dX12_common_17 (Nat.le_of_ble_eq_true rfl) (Nat.le_of_ble_eq_true rfl)
set_option maxHeartbeats 4000000 in
set_option maxRecDepth 100000 in
theorem gX12_common_36a6529 (l : Launch) (D : va_G) (cy : Nat → ClassId) (j0 : Int64) (j1 : Int64) (hj0 : (-9999999999) ≤ (j0).toInt ∧ (j0).toInt ≤ 9999999999) (hj1 : (-5000000000) ≤ (j1).toInt ∧ (j1).toInt ≤ 5000000000) (hpre0 : CM 5000000000 9999999999 (j0 : Int64).toInt (j1 : Int64).toInt) (sz : Nat) : ML l yX12_common cX12_common 4 { frames := 66, cells := 0, slots := 0, locals := 1518 } [.long j0, .long j1] D cy [] sz (fun r u => ((-9999999999) ≤ r.toInt ∧ r.toInt ≤ 9999999999) ∧ ((r : Int64).toInt ≠ 0 ∨ ((j0 : Int64).toInt = 0 ∧ (j1 : Int64).toInt = 0)) ∧ True) (fun u => []) 0 0 := by
  refine q_ent (own := RX12) (by decide) rfl (Nat.le_of_ble_eq_true rfl) (fun p e s m below meth c ls X hr hlk hnm hK hT h hA hl => ?_)
  obtain ⟨hx, hb, hml, hown, ht⟩ := id X
  replace hl : lv_has ls 4 [(0, .long j0), (2, .long j1)] := hl
  refine lv_lload_n hx hb dX12_common_0 rfl (lv_at hl 1 rfl) ?_
  refine lv_lconst (v := 0) hx hb dX12_common_1 (by decide) ?_
  refine W.lcmp hx hb dX12_common_2 ?_
  refine lv_if_ne (tgt := 10) hx hb dX12_common_3 (by decide) (fun c_1 => ?_) (fun c_1 => ?_)
  · replace c_1 := j_neq (x := j1) (y := 0) rfl (show (0 : Int64).toInt = 0 by decide) c_1
    refine lv_lload_n hx hb dX12_common_10 rfl (lv_at hl 1 rfl) ?_
    refine lv_lload_n hx hb dX12_common_11 rfl (lv_at hl 0 rfl) ?_
    refine lv_lload_n hx hb dX12_common_12 rfl (lv_at hl 1 rfl) ?_
    refine lv_lrem hx hb dX12_common_13 (j_nz (by omega)) ?_
    obtain ⟨z_2, ez_2, hz_2⟩ := e_anyJ (j0 - j0 / j1 * j1)
    refine q_cl z_2 ez_2 ?_
    have cm_3 : CM 4999999999 5000000000 _ _ := cm_s (by decide) hpre0 (by omega) ez_2
    have cr_3 := cm_r cm_3
    refine q_callSl (rest := []) (wr := []) X hK hT hA h (fun sz => gX12_common_3881220 l D cy j1 z_2 hj1 ⟨by omega, by omega⟩ (cm_3) sz) wm_8_20 wm_8_22 wm_1_12 hd_X12_common wm_8_21 ⟨Nat.le_of_ble_eq_true rfl, Nat.le_of_ble_eq_true rfl⟩ hl.1 rfl (Nat.le_of_ble_eq_true rfl) dX12_common_14 ⟨Nat.le_of_ble_eq_true rfl, Nat.le_of_ble_eq_true rfl⟩ [] [] rfl rfl (by decide) rfl rfl (fun r_4 u_4 H locs w_4 h_4 => ?_)
    clear h
    obtain ⟨wr_4, y4_0, _⟩ := w_4
    replace h_4 : qW D _ _ [] _ _ := h_4
    exact q_lret X hr hlk hK h_4 (fun _ => 0, fun _ _ => 0, fun _ _ => 0) ⟨(bw wr_4 (by decide) (by decide)), (show (r_4 : Int64).toInt ≠ 0 ∨ ((j0 : Int64).toInt = 0 ∧ (j1 : Int64).toInt = 0) from by omega), trivial⟩ [] rfl rfl dX12_common_17 (Nat.le_of_ble_eq_true rfl) (Nat.le_of_ble_eq_true rfl)
  · replace c_1 := j_eq (x := j1) (y := 0) rfl (show (0 : Int64).toInt = 0 by decide) c_1
    refine lv_lload_n hx hb dX12_common_6 rfl (lv_at hl 0 rfl) ?_
    refine lv_goto (tgt := 17) hx hb dX12_common_7 (by decide) ?_
    exact q_lret X hr hlk hK h (fun _ => 0, fun _ _ => 0, fun _ _ => 0) ⟨hj0, (show (j0 : Int64).toInt ≠ 0 ∨ ((j0 : Int64).toInt = 0 ∧ (j1 : Int64).toInt = 0) from by omega), trivial⟩ [] rfl rfl dX12_common_17 (Nat.le_of_ble_eq_true rfl) (Nat.le_of_ble_eq_true rfl)
set_option maxHeartbeats 4000000 in
set_option maxRecDepth 100000 in
theorem gX12_common_97ca09e (l : Launch) (D : va_G) (cy : Nat → ClassId) (j0 : Int64) (j1 : Int64) (hj0 : 1 ≤ (j0).toInt ∧ (j0).toInt ≤ 10000000000) (hj1 : (-9999999999) ≤ (j1).toInt ∧ (j1).toInt ≤ 9999999999) (hpre0 : CM 9999999999 10000000000 (j0 : Int64).toInt (j1 : Int64).toInt) (sz : Nat) : ML l yX12_common cX12_common 4 { frames := 67, cells := 0, slots := 0, locals := 1541 } [.long j0, .long j1] D cy [] sz (fun r u => ((-9999999999) ≤ r.toInt ∧ r.toInt ≤ 10000000000) ∧ ((r : Int64).toInt ≠ 0 ∨ ((j0 : Int64).toInt = 0 ∧ (j1 : Int64).toInt = 0)) ∧ True) (fun u => []) 0 0 := by
  refine q_ent (own := RX12) (by decide) rfl (Nat.le_of_ble_eq_true rfl) (fun p e s m below meth c ls X hr hlk hnm hK hT h hA hl => ?_)
  obtain ⟨hx, hb, hml, hown, ht⟩ := id X
  replace hl : lv_has ls 4 [(0, .long j0), (2, .long j1)] := hl
  refine lv_lload_n hx hb dX12_common_0 rfl (lv_at hl 1 rfl) ?_
  refine lv_lconst (v := 0) hx hb dX12_common_1 (by decide) ?_
  refine W.lcmp hx hb dX12_common_2 ?_
  refine lv_if_ne (tgt := 10) hx hb dX12_common_3 (by decide) (fun c_1 => ?_) (fun c_1 => ?_)
  · replace c_1 := j_neq (x := j1) (y := 0) rfl (show (0 : Int64).toInt = 0 by decide) c_1
    refine lv_lload_n hx hb dX12_common_10 rfl (lv_at hl 1 rfl) ?_
    refine lv_lload_n hx hb dX12_common_11 rfl (lv_at hl 0 rfl) ?_
    refine lv_lload_n hx hb dX12_common_12 rfl (lv_at hl 1 rfl) ?_
    refine lv_lrem hx hb dX12_common_13 (j_nz (by omega)) ?_
    obtain ⟨z_2, ez_2, hz_2⟩ := e_anyJ (j0 - j0 / j1 * j1)
    refine q_cl z_2 ez_2 ?_
    have cm_3 : CM 5000000000 9999999999 _ _ := cm_s (by decide) hpre0 (by omega) ez_2
    have cr_3 := cm_r cm_3
    refine q_callSl (rest := []) (wr := []) X hK hT hA h (fun sz => gX12_common_36a6529 l D cy j1 z_2 hj1 ⟨by omega, by omega⟩ (cm_3) sz) wm_8_20 wm_8_22 wm_1_12 hd_X12_common wm_8_21 ⟨Nat.le_of_ble_eq_true rfl, Nat.le_of_ble_eq_true rfl⟩ hl.1 rfl (Nat.le_of_ble_eq_true rfl) dX12_common_14 ⟨Nat.le_of_ble_eq_true rfl, Nat.le_of_ble_eq_true rfl⟩ [] [] rfl rfl (by decide) rfl rfl (fun r_4 u_4 H locs w_4 h_4 => ?_)
    clear h
    obtain ⟨wr_4, y4_0, _⟩ := w_4
    replace h_4 : qW D _ _ [] _ _ := h_4
    exact q_lret X hr hlk hK h_4 (fun _ => 0, fun _ _ => 0, fun _ _ => 0) ⟨(bw wr_4 (by decide) (by decide)), (show (r_4 : Int64).toInt ≠ 0 ∨ ((j0 : Int64).toInt = 0 ∧ (j1 : Int64).toInt = 0) from by omega), trivial⟩ [] rfl rfl dX12_common_17 (Nat.le_of_ble_eq_true rfl) (Nat.le_of_ble_eq_true rfl)
  · replace c_1 := j_eq (x := j1) (y := 0) rfl (show (0 : Int64).toInt = 0 by decide) c_1
    refine lv_lload_n hx hb dX12_common_6 rfl (lv_at hl 0 rfl) ?_
    refine lv_goto (tgt := 17) hx hb dX12_common_7 (by decide) ?_
    exact q_lret X hr hlk hK h (fun _ => 0, fun _ _ => 0, fun _ _ => 0) ⟨(bw hj0 (by decide) (by decide)), (show (j0 : Int64).toInt ≠ 0 ∨ ((j0 : Int64).toInt = 0 ∧ (j1 : Int64).toInt = 0) from by omega), trivial⟩ [] rfl rfl dX12_common_17 (Nat.le_of_ble_eq_true rfl) (Nat.le_of_ble_eq_true rfl)
set_option maxHeartbeats 4000000 in
set_option maxRecDepth 100000 in
theorem gX12_common_0e81e8e (l : Launch) (D : va_G) (cy : Nat → ClassId) (j0 : Int64) (j1 : Int64) (hj0 : (-9223372036854775808) ≤ (j0).toInt ∧ (j0).toInt ≤ 9223372036854775807) (hj1 : 1 ≤ (j1).toInt ∧ (j1).toInt ≤ 10000000000) (hpre0 : 1 ≤ (j1 : Int64).toInt ∧ (j1 : Int64).toInt ≤ 10000000000) (sz : Nat) : ML l yX12_common cX12_common 4 { frames := 68, cells := 0, slots := 0, locals := 1564 } [.long j0, .long j1] D cy [] sz (fun r u => ((-9999999999) ≤ r.toInt ∧ r.toInt ≤ 10000000000) ∧ ((r : Int64).toInt ≠ 0 ∨ ((j0 : Int64).toInt = 0 ∧ (j1 : Int64).toInt = 0)) ∧ True) (fun u => []) 0 0 := by
  refine q_ent (own := RX12) (by decide) rfl (Nat.le_of_ble_eq_true rfl) (fun p e s m below meth c ls X hr hlk hnm hK hT h hA hl => ?_)
  obtain ⟨hx, hb, hml, hown, ht⟩ := id X
  replace hl : lv_has ls 4 [(0, .long j0), (2, .long j1)] := hl
  refine lv_lload_n hx hb dX12_common_0 rfl (lv_at hl 1 rfl) ?_
  refine lv_lconst (v := 0) hx hb dX12_common_1 (by decide) ?_
  refine W.lcmp hx hb dX12_common_2 ?_
  refine lv_if_ne (tgt := 10) hx hb dX12_common_3 (by decide) (fun c_1 => ?_) (fun c_1 => ?_)
  · replace c_1 := j_neq (x := j1) (y := 0) rfl (show (0 : Int64).toInt = 0 by decide) c_1
    refine lv_lload_n hx hb dX12_common_10 rfl (lv_at hl 1 rfl) ?_
    refine lv_lload_n hx hb dX12_common_11 rfl (lv_at hl 0 rfl) ?_
    refine lv_lload_n hx hb dX12_common_12 rfl (lv_at hl 1 rfl) ?_
    refine lv_lrem hx hb dX12_common_13 (j_nz (by omega)) ?_
    obtain ⟨z_2, ez_2, hz_2⟩ := e_anyJ (j0 - j0 / j1 * j1)
    refine q_cl z_2 ez_2 ?_
    have cm_3 : CM 9999999999 10000000000 _ _ := cm_0 (by decide) (by omega) (by omega) ez_2
    have cr_3 := cm_r cm_3
    refine q_callSl (rest := []) (wr := []) X hK hT hA h (fun sz => gX12_common_97ca09e l D cy j1 z_2 hj1 ⟨by omega, by omega⟩ (cm_3) sz) wm_8_20 wm_8_22 wm_1_12 hd_X12_common wm_8_21 ⟨Nat.le_of_ble_eq_true rfl, Nat.le_of_ble_eq_true rfl⟩ hl.1 rfl (Nat.le_of_ble_eq_true rfl) dX12_common_14 ⟨Nat.le_of_ble_eq_true rfl, Nat.le_of_ble_eq_true rfl⟩ [] [] rfl rfl (by decide) rfl rfl (fun r_4 u_4 H locs w_4 h_4 => ?_)
    clear h
    obtain ⟨wr_4, y4_0, _⟩ := w_4
    replace h_4 : qW D _ _ [] _ _ := h_4
    exact q_lret X hr hlk hK h_4 (fun _ => 0, fun _ _ => 0, fun _ _ => 0) ⟨wr_4, (show (r_4 : Int64).toInt ≠ 0 ∨ ((j0 : Int64).toInt = 0 ∧ (j1 : Int64).toInt = 0) from by omega), trivial⟩ [] rfl rfl dX12_common_17 (Nat.le_of_ble_eq_true rfl) (Nat.le_of_ble_eq_true rfl)
  · replace c_1 := j_eq (x := j1) (y := 0) rfl (show (0 : Int64).toInt = 0 by decide) c_1
    exfalso
    omega
set_option maxHeartbeats 4000000 in
set_option maxRecDepth 100000 in
theorem gX12_chance_87b66e9 (l : Launch) (D : va_G) (cy : Nat → ClassId) (h0 : Nat) (h1 : Nat) (h2 : Nat) (h3 : Nat) (h4 : Nat) (h5 : Nat) (p0 : Int32) (p1 : Int32) (p2 : Int32) (w0 : Value) (w1 : Value) (w2 : Value) (p3 : Int32) (p4 : Int32) (p5 : Int32) (p6 : Int32) (p7 : Int32) (p8 : Int32) (p9 : Int32) (p10 : Int32) (p11 : Int32) (p12 : Int32) (p13 : Int32) (w3 : Value) (w4 : Value) (p14 : Int32) (p15 : Int32) (w5 : Value) (w6 : Value) (p16 : Int32) (p17 : Int32) (w7 : Value) (w8 : Value) (w9 : Value) (w10 : Value) (w11 : Value) (p18 : Int32) (w12 : Value) (w13 : Value) (w14 : Value) (f0 : Nat → Int32) (p19 : Int32) (f1 : Nat → Int32) (f2 : Nat → Int32) (f3 : Nat → Int32) (f4 : Nat → Int32) (hp0 : (-2147483648) ≤ (p0).toInt ∧ (p0).toInt ≤ 2147483647) (hp1 : (-2147483648) ≤ (p1).toInt ∧ (p1).toInt ≤ 2147483647) (hp2 : (-2147483648) ≤ (p2).toInt ∧ (p2).toInt ≤ 2147483647) (hp3 : 0 ≤ (p3).toInt ∧ (p3).toInt ≤ 900) (hp4 : 0 ≤ (p4).toInt ∧ (p4).toInt ≤ 900) (hp5 : 0 ≤ (p5).toInt ∧ (p5).toInt ≤ 900) (hp6 : 0 ≤ (p6).toInt ∧ (p6).toInt ≤ 900) (hp7 : (-2147483648) ≤ (p7).toInt ∧ (p7).toInt ≤ 2147483647) (hp8 : 0 ≤ (p8).toInt ∧ (p8).toInt ≤ 999) (hp9 : (-2147483648) ≤ (p9).toInt ∧ (p9).toInt ≤ 2147483647) (hp10 : (-2147483648) ≤ (p10).toInt ∧ (p10).toInt ≤ 2147483647) (hp11 : (-2147483648) ≤ (p11).toInt ∧ (p11).toInt ≤ 2147483647) (hp12 : (-2147483648) ≤ (p12).toInt ∧ (p12).toInt ≤ 2147483647) (hp13 : (-2147483648) ≤ (p13).toInt ∧ (p13).toInt ≤ 2147483647) (hp14 : (-2147483648) ≤ (p14).toInt ∧ (p14).toInt ≤ 2147483647) (hp15 : (-2147483648) ≤ (p15).toInt ∧ (p15).toInt ≤ 2147483647) (hp16 : (-2147483648) ≤ (p16).toInt ∧ (p16).toInt ≤ 2147483647) (hp17 : (-2147483648) ≤ (p17).toInt ∧ (p17).toInt ≤ 2147483647) (hp18 : (-2147483648) ≤ (p18).toInt ∧ (p18).toInt ≤ 2147483647) (hp19 : 0 ≤ (p19).toInt ∧ (p19).toInt ≤ 10) (htf0_84 : f0 84 = p19) (rf0 : AL f0) (rf3 : RG f3 10 0 1023) (sz : Nat) : ML l yX12_chance cX12_chance 9 { frames := 69, cells := 0, slots := 0, locals := 1587 } [.ref h0, .int p0, .int p1] D cy [(h0, .inr (12, [.int p2, .ref h1, w0, w1, w2, .int p3, .int p4, .int p5, .int p6, .int p7, .int p8, .int p9, .int p10, .int p11, .int p12, .int p13, .ref h2, .ref h3, w3, .ref h4, w4, .int p14, .int p15, .ref h5, w5, w6, .int p16, .int p17, w7, w8, w9, w10, w11, .int p18, w12, w13, w14])), (h1, .inl (cy 1, 3918, .inl f0)), (h2, .inl (cy 1, 900, .inl f1)), (h3, .inl (cy 1, 11, .inl f2)), (h4, .inl (cy 1, 10, .inl f3)), (h5, .inl (cy 1, 1024, .inl f4))] sz (fun r u => ((-9223372036854775808) ≤ r.toInt ∧ r.toInt ≤ 9223372036854775807) ∧ RG (u.2.1 2) 10 0 1023 ∧ (0 ≤ (u.2.1 3 0).toInt ∧ (u.2.1 3 0).toInt ≤ 0) ∧ True) (fun u => [(h0, .inr (12, [.int (u.2.1 3 0), .ref h1, w0, w1, w2, .int p3, .int p4, .int p5, .int p6, .int p7, .int p8, .int p9, .int p10, .int p11, .int p12, .int p13, .ref h2, .ref h3, w3, .ref h4, w4, .int p14, .int p15, .ref h5, w5, w6, .int p16, .int p17, w7, w8, w9, w10, w11, .int p18, w12, w13, w14])), (h1, .inl (cy 1, 3918, .inl f0)), (h2, .inl (cy 1, 900, .inl (u.2.1 0))), (h3, .inl (cy 1, 11, .inl (u.2.1 1))), (h4, .inl (cy 1, 10, .inl (u.2.1 2))), (h5, .inl (cy 1, 1024, .inl (u.2.1 4)))]) 0 0 := by
  refine q_ent (own := RX12) (by decide) rfl (Nat.le_of_ble_eq_true rfl) (fun p e s m below meth c ls X hr hlk hnm hK hT h hA hl => ?_)
  obtain ⟨hx, hb, hml, hown, ht⟩ := id X
  replace hl : lv_has ls 9 [(0, .ref h0), (1, .int p0), (2, .int p1)] := hl
  refine lv_aload_n hx hb dX12_chance_0 rfl (lv_at hl 0 rfl) ?_
  refine lv_iconst (v := 0) hx hb dX12_chance_1 (by decide) ?_
  refine q_put (v := .int 0) X hK h 0 rfl rfl wf_12 tyX12 tyX12_ok nmX12 0 (by decide) wm_5_170 rfl rfl rfl (Nat.le_of_ble_eq_true rfl) dX12_chance_2 (fun H locs h_1 => ?_)
  clear h
  replace h_1 : qW D _ _ [(h0, .inr (12, [.int 0, .ref h1, w0, w1, w2, .int p3, .int p4, .int p5, .int p6, .int p7, .int p8, .int p9, .int p10, .int p11, .int p12, .int p13, .ref h2, .ref h3, w3, .ref h4, w4, .int p14, .int p15, .ref h5, w5, w6, .int p16, .int p17, w7, w8, w9, w10, w11, .int p18, w12, w13, w14])), (h1, .inl (cy 1, 3918, .inl f0)), (h2, .inl (cy 1, 900, .inl f1)), (h3, .inl (cy 1, 11, .inl f2)), (h4, .inl (cy 1, 10, .inl f3)), (h5, .inl (cy 1, 1024, .inl f4))] _ _ := h_1
  refine lv_iload_n hx hb dX12_chance_5 rfl (lv_at hl 2 rfl) ?_
  refine lv_i2l hx hb dX12_chance_6 rfl ?_
  obtain ⟨z_2, ez_2, hz_2⟩ := e_i2l (x := p1) rfl
  refine q_cl z_2 ez_2 ?_
  clear ez_2
  refine lv_lconst (v := 0) hx hb dX12_chance_7 (by decide) ?_
  refine lv_lconst (v := 1) hx hb dX12_chance_8 (by decide) ?_
  refine q_callSi (rest := []) (wr := [(h0, .inr (12, [.int 0, .ref h1, w0, w1, w2, .int p3, .int p4, .int p5, .int p6, .int p7, .int p8, .int p9, .int p10, .int p11, .int p12, .int p13, .ref h2, .ref h3, w3, .ref h4, w4, .int p14, .int p15, .ref h5, w5, w6, .int p16, .int p17, w7, w8, w9, w10, w11, .int p18, w12, w13, w14])), (h1, .inl (cy 1, 3918, .inl f0)), (h2, .inl (cy 1, 900, .inl f1)), (h3, .inl (cy 1, 11, .inl f2)), (h4, .inl (cy 1, 10, .inl f3)), (h5, .inl (cy 1, 1024, .inl f4))]) X hK hT hA h_1 (fun sz => gX12_within_00c7897 l D cy z_2 (0 : Int64) (1 : Int64) (j_rng _) ⟨by decide +kernel, by decide +kernel⟩ ⟨by decide +kernel, by decide +kernel⟩ sz) wm_6_50 wm_6_52 wm_1_12 hd_X12_within wm_6_51 ⟨Nat.le_of_ble_eq_true rfl, Nat.le_of_ble_eq_true rfl⟩ hl.1 rfl (Nat.le_of_ble_eq_true rfl) dX12_chance_9 ⟨Nat.le_of_ble_eq_true rfl, Nat.le_of_ble_eq_true rfl⟩ [] [0, 1, 2, 3, 4, 5] rfl rfl (by decide) rfl rfl (fun r_3 u_3 H locs w_3 h_3 => ?_)
  clear h_1
  obtain ⟨wr_3, y3_0, _⟩ := w_3
  have lq_3_1 : (0 : Int64).toInt = 0 := (by decide)
  have lq_3_2 : (1 : Int64).toInt = 1 := (by decide)
  replace h_3 : qW D _ _ [(h0, .inr (12, [.int 0, .ref h1, w0, w1, w2, .int p3, .int p4, .int p5, .int p6, .int p7, .int p8, .int p9, .int p10, .int p11, .int p12, .int p13, .ref h2, .ref h3, w3, .ref h4, w4, .int p14, .int p15, .ref h5, w5, w6, .int p16, .int p17, w7, w8, w9, w10, w11, .int p18, w12, w13, w14])), (h1, .inl (cy 1, 3918, .inl f0)), (h2, .inl (cy 1, 900, .inl f1)), (h3, .inl (cy 1, 11, .inl f2)), (h4, .inl (cy 1, 10, .inl f3)), (h5, .inl (cy 1, 1024, .inl f4))] _ _ := h_3
  refine lv_if_ne (tgt := 19) hx hb dX12_chance_12 (by decide) (fun c_4 => ?_) (fun c_4 => ?_)
  · replace c_4 := i_ne (x := r_3) (y := 0) rfl (show (0 : Int32).toInt = 0 by decide) c_4
    refine lv_aload_n hx hb dX12_chance_19 rfl (lv_at hl 0 rfl) ?_
    refine lv_iload_n hx hb dX12_chance_20 rfl (lv_at hl 1 rfl) ?_
    refine q_callVi (rest := []) (wr := [(h2, .inl (cy 1, 900, .inl f1)), (h3, .inl (cy 1, 11, .inl f2)), (h4, .inl (cy 1, 10, .inl f3)), (h5, .inl (cy 1, 1024, .inl f4))]) X hK hT hA h_3 (fun sz => gX12_isSet_9166d70 l D cy h0 h1 p0 (0 : Int32) w0 w1 w2 p3 p4 p5 p6 p7 p8 p9 p10 p11 p12 p13 (.ref h2) (.ref h3) w3 (.ref h4) w4 p14 p15 (.ref h5) w5 w6 p16 p17 w7 w8 w9 w10 w11 p18 w12 w13 w14 f0 p19 (i_rng _) ⟨by decide +kernel, by decide +kernel⟩ hp3 hp4 hp5 hp6 (i_rng _) hp8 (i_rng _) (i_rng _) (i_rng _) (i_rng _) (i_rng _) (i_rng _) (i_rng _) (i_rng _) (i_rng _) (i_rng _) hp19 htf0_84 rf0 sz) wm_7_96 wm_7_99 wm_1_12 hd_X12_isSet wm_7_98 wp_7_1 (ci := 12) (q0 := 0) rfl rfl ⟨Nat.le_of_ble_eq_true rfl, Nat.le_of_ble_eq_true rfl⟩ hl.1 rfl (Nat.le_of_ble_eq_true rfl) dX12_chance_21 ⟨Nat.le_of_ble_eq_true rfl, Nat.le_of_ble_eq_true rfl⟩ [0, 1] [2, 3, 4, 5] rfl rfl (by decide) rfl rfl (fun r_5 u_5 H locs w_5 h_5 => ?_)
    clear h_3
    obtain ⟨wr_5, y5_0, _⟩ := w_5
    replace h_5 : qW D _ _ [(h2, .inl (cy 1, 900, .inl f1)), (h3, .inl (cy 1, 11, .inl f2)), (h4, .inl (cy 1, 10, .inl f3)), (h5, .inl (cy 1, 1024, .inl f4)), (h0, .inr (12, [.int 0, .ref h1, w0, w1, w2, .int p3, .int p4, .int p5, .int p6, .int p7, .int p8, .int p9, .int p10, .int p11, .int p12, .int p13, .ref h2, .ref h3, w3, .ref h4, w4, .int p14, .int p15, .ref h5, w5, w6, .int p16, .int p17, w7, w8, w9, w10, w11, .int p18, w12, w13, w14])), (h1, .inl (cy 1, 3918, .inl f0))] _ _ := h_5
    refine lv_if_ne (tgt := 31) hx hb dX12_chance_24 (by decide) (fun c_6 => ?_) (fun c_6 => ?_)
    · replace c_6 := i_ne (x := r_5) (y := 0) rfl (show (0 : Int32).toInt = 0 by decide) c_6
      refine lv_aload_n hx hb dX12_chance_31 rfl (lv_at hl 0 rfl) ?_
      refine q_callVv (rest := []) (wr := []) X hK hT hA h_5 (fun sz => gX12_laysNow_7e7bd2c l D cy h0 h1 h2 h3 h4 h5 (0 : Int32) w0 w1 w2 p3 p4 p5 p6 p7 p8 p9 p10 p11 p12 p13 w3 w4 p14 p15 w5 w6 p16 p17 w7 w8 w9 w10 w11 p18 w12 w13 w14 f0 p19 f1 f2 f3 f4 ⟨by decide +kernel, by decide +kernel⟩ hp3 hp4 hp5 hp6 (i_rng _) hp8 (i_rng _) (i_rng _) (i_rng _) (i_rng _) (i_rng _) (i_rng _) (i_rng _) (i_rng _) (i_rng _) (i_rng _) hp19 htf0_84 rf0 (rg_wide rf3 (by decide) (by decide)) sz) wm_7_55 wm_7_58 wm_1_12 hd_X12_laysNow wm_7_57 wp_6_11 (ci := 12) (q0 := 0) rfl rfl ⟨Nat.le_of_ble_eq_true rfl, Nat.le_of_ble_eq_true rfl⟩ hl.1 rfl (Nat.le_of_ble_eq_true rfl) dX12_chance_32 ⟨Nat.le_of_ble_eq_true rfl, Nat.le_of_ble_eq_true rfl⟩ [4, 5, 0, 1, 2, 3] [] rfl rfl (by decide) rfl rfl (fun u_7 H locs w_7 h_7 => ?_)
      clear h_5
      obtain ⟨w7_0, _⟩ := w_7
      replace h_7 : qW D _ _ [(h0, .inr (12, [.int 0, .ref h1, w0, w1, w2, .int p3, .int p4, .int p5, .int p6, .int p7, .int p8, .int p9, .int p10, .int p11, .int p12, .int p13, .ref h2, .ref h3, w3, .ref h4, w4, .int p14, .int p15, .ref h5, w5, w6, .int p16, .int p17, w7, w8, w9, w10, w11, .int p18, w12, w13, w14])), (h1, .inl (cy 1, 3918, .inl f0)), (h2, .inl (cy 1, 900, .inl (u_7.2.1 0))), (h3, .inl (cy 1, 11, .inl (u_7.2.1 1))), (h4, .inl (cy 1, 10, .inl (u_7.2.1 2))), (h5, .inl (cy 1, 1024, .inl (u_7.2.1 3)))] _ _ := h_7
      refine lv_aload_n hx hb dX12_chance_35 rfl (lv_at hl 0 rfl) ?_
      refine lv_iload_n hx hb dX12_chance_36 rfl (lv_at hl 1 rfl) ?_
      refine q_callVl (rest := []) (wr := [(h2, .inl (cy 1, 900, .inl (u_7.2.1 0))), (h3, .inl (cy 1, 11, .inl (u_7.2.1 1))), (h4, .inl (cy 1, 10, .inl (u_7.2.1 2)))]) X hK hT hA h_7 (fun sz => gX12_chanceOf_39433c5 l D cy h0 h1 h5 p0 (0 : Int32) w0 w1 w2 p3 p4 p5 p6 p7 p8 p9 p10 p11 p12 p13 (.ref h2) (.ref h3) w3 (.ref h4) w4 p14 p15 w5 w6 p16 p17 w7 w8 w9 w10 w11 p18 w12 w13 w14 f0 p19 (u_7.2.1 3) ⟨by omega, by omega⟩ ⟨by decide +kernel, by decide +kernel⟩ hp3 hp4 hp5 hp6 (i_rng _) hp8 (i_rng _) (i_rng _) (i_rng _) (i_rng _) (i_rng _) (i_rng _) (i_rng _) (i_rng _) (i_rng _) (i_rng _) hp19 htf0_84 rf0 sz) wm_8_13 wm_8_16 wm_1_12 hd_X12_chanceOf wm_8_15 wp_8_3 (ci := 12) (q0 := 0) rfl rfl ⟨Nat.le_of_ble_eq_true rfl, Nat.le_of_ble_eq_true rfl⟩ hl.1 rfl (Nat.le_of_ble_eq_true rfl) dX12_chance_37 ⟨Nat.le_of_ble_eq_true rfl, Nat.le_of_ble_eq_true rfl⟩ [0, 1, 5] [2, 3, 4] rfl rfl (by decide) rfl rfl (fun r_8 u_8 H locs w_8 h_8 => ?_)
      clear h_7
      obtain ⟨wr_8, _⟩ := w_8
      replace h_8 : qW D _ _ [(h2, .inl (cy 1, 900, .inl (u_7.2.1 0))), (h3, .inl (cy 1, 11, .inl (u_7.2.1 1))), (h4, .inl (cy 1, 10, .inl (u_7.2.1 2))), (h0, .inr (12, [.int 0, .ref h1, w0, w1, w2, .int p3, .int p4, .int p5, .int p6, .int p7, .int p8, .int p9, .int p10, .int p11, .int p12, .int p13, .ref h2, .ref h3, w3, .ref h4, w4, .int p14, .int p15, .ref h5, w5, w6, .int p16, .int p17, w7, w8, w9, w10, w11, .int p18, w12, w13, w14])), (h1, .inl (cy 1, 3918, .inl f0)), (h5, .inl (cy 1, 1024, .inl (u_7.2.1 3)))] _ _ := h_8
      refine lv_lstore_n (lv' := [(3, .long r_8), (0, .ref h0), (1, .int p0), (2, .int p1)]) hx hb dX12_chance_40 rfl hl (by decide) rfl (fun ls_9 hl_9 => ?_)
      clear hl
      refine lv_iload_n hx hb dX12_chance_41 rfl (lv_at hl_9 2 rfl) ?_
      refine q_callSi (rest := []) (wr := [(h2, .inl (cy 1, 900, .inl (u_7.2.1 0))), (h3, .inl (cy 1, 11, .inl (u_7.2.1 1))), (h4, .inl (cy 1, 10, .inl (u_7.2.1 2))), (h0, .inr (12, [.int 0, .ref h1, w0, w1, w2, .int p3, .int p4, .int p5, .int p6, .int p7, .int p8, .int p9, .int p10, .int p11, .int p12, .int p13, .ref h2, .ref h3, w3, .ref h4, w4, .int p14, .int p15, .ref h5, w5, w6, .int p16, .int p17, w7, w8, w9, w10, w11, .int p18, w12, w13, w14])), (h1, .inl (cy 1, 3918, .inl f0)), (h5, .inl (cy 1, 1024, .inl (u_7.2.1 3)))]) X hK hT hA h_8 (fun sz => gX12_bitsOf_5a43b1c l D cy p0 (i_rng _) sz) wm_7_8 wm_7_10 wm_1_12 hd_X12_bitsOf wm_7_9 ⟨Nat.le_of_ble_eq_true rfl, Nat.le_of_ble_eq_true rfl⟩ hl_9.1 rfl (Nat.le_of_ble_eq_true rfl) dX12_chance_42 ⟨Nat.le_of_ble_eq_true rfl, Nat.le_of_ble_eq_true rfl⟩ [] [0, 1, 2, 3, 4, 5] rfl rfl (by decide) rfl rfl (fun r_10 u_10 H locs w_10 h_10 => ?_)
      clear h_8
      obtain ⟨wr_10, _⟩ := w_10
      replace h_10 : qW D _ _ [(h2, .inl (cy 1, 900, .inl (u_7.2.1 0))), (h3, .inl (cy 1, 11, .inl (u_7.2.1 1))), (h4, .inl (cy 1, 10, .inl (u_7.2.1 2))), (h0, .inr (12, [.int 0, .ref h1, w0, w1, w2, .int p3, .int p4, .int p5, .int p6, .int p7, .int p8, .int p9, .int p10, .int p11, .int p12, .int p13, .ref h2, .ref h3, w3, .ref h4, w4, .int p14, .int p15, .ref h5, w5, w6, .int p16, .int p17, w7, w8, w9, w10, w11, .int p18, w12, w13, w14])), (h1, .inl (cy 1, 3918, .inl f0)), (h5, .inl (cy 1, 1024, .inl (u_7.2.1 3)))] _ _ := h_10
      refine q_callSl (rest := []) (wr := [(h2, .inl (cy 1, 900, .inl (u_7.2.1 0))), (h3, .inl (cy 1, 11, .inl (u_7.2.1 1))), (h4, .inl (cy 1, 10, .inl (u_7.2.1 2))), (h0, .inr (12, [.int 0, .ref h1, w0, w1, w2, .int p3, .int p4, .int p5, .int p6, .int p7, .int p8, .int p9, .int p10, .int p11, .int p12, .int p13, .ref h2, .ref h3, w3, .ref h4, w4, .int p14, .int p15, .ref h5, w5, w6, .int p16, .int p17, w7, w8, w9, w10, w11, .int p18, w12, w13, w14])), (h1, .inl (cy 1, 3918, .inl f0)), (h5, .inl (cy 1, 1024, .inl (u_7.2.1 3)))]) X hK hT hA h_10 (fun sz => gX12_tens_dd3db09 l D cy r_10 wr_10 sz) wm_8_17 wm_8_19 wm_1_12 hd_X12_tens wm_8_18 ⟨Nat.le_of_ble_eq_true rfl, Nat.le_of_ble_eq_true rfl⟩ hl_9.1 rfl (Nat.le_of_ble_eq_true rfl) dX12_chance_45 ⟨Nat.le_of_ble_eq_true rfl, Nat.le_of_ble_eq_true rfl⟩ [] [0, 1, 2, 3, 4, 5] rfl rfl (by decide) rfl rfl (fun r_11 u_11 H locs w_11 h_11 => ?_)
      clear h_10
      obtain ⟨wr_11, y11_0, _⟩ := w_11
      replace h_11 : qW D _ _ [(h2, .inl (cy 1, 900, .inl (u_7.2.1 0))), (h3, .inl (cy 1, 11, .inl (u_7.2.1 1))), (h4, .inl (cy 1, 10, .inl (u_7.2.1 2))), (h0, .inr (12, [.int 0, .ref h1, w0, w1, w2, .int p3, .int p4, .int p5, .int p6, .int p7, .int p8, .int p9, .int p10, .int p11, .int p12, .int p13, .ref h2, .ref h3, w3, .ref h4, w4, .int p14, .int p15, .ref h5, w5, w6, .int p16, .int p17, w7, w8, w9, w10, w11, .int p18, w12, w13, w14])), (h1, .inl (cy 1, 3918, .inl f0)), (h5, .inl (cy 1, 1024, .inl (u_7.2.1 3)))] _ _ := h_11
      refine lv_lstore (lv' := [(5, .long r_11), (3, .long r_8), (0, .ref h0), (1, .int p0), (2, .int p1)]) hx hb dX12_chance_48 hl_9 (by decide) rfl (fun ls_12 hl_12 => ?_)
      clear hl_9
      refine lv_lload_n hx hb dX12_chance_50 rfl (lv_at hl_12 1 rfl) ?_
      refine lv_lload hx hb dX12_chance_51 (lv_at hl_12 0 rfl) ?_
      refine q_callSl (rest := []) (wr := [(h2, .inl (cy 1, 900, .inl (u_7.2.1 0))), (h3, .inl (cy 1, 11, .inl (u_7.2.1 1))), (h4, .inl (cy 1, 10, .inl (u_7.2.1 2))), (h0, .inr (12, [.int 0, .ref h1, w0, w1, w2, .int p3, .int p4, .int p5, .int p6, .int p7, .int p8, .int p9, .int p10, .int p11, .int p12, .int p13, .ref h2, .ref h3, w3, .ref h4, w4, .int p14, .int p15, .ref h5, w5, w6, .int p16, .int p17, w7, w8, w9, w10, w11, .int p18, w12, w13, w14])), (h1, .inl (cy 1, 3918, .inl f0)), (h5, .inl (cy 1, 1024, .inl (u_7.2.1 3)))]) X hK hT hA h_11 (fun sz => gX12_common_0e81e8e l D cy r_8 r_11 (j_rng _) wr_11 (by omega) sz) wm_8_20 wm_8_22 wm_1_12 hd_X12_common wm_8_21 ⟨Nat.le_of_ble_eq_true rfl, Nat.le_of_ble_eq_true rfl⟩ hl_12.1 rfl (Nat.le_of_ble_eq_true rfl) dX12_chance_53 ⟨Nat.le_of_ble_eq_true rfl, Nat.le_of_ble_eq_true rfl⟩ [] [0, 1, 2, 3, 4, 5] rfl rfl (by decide) rfl rfl (fun r_13 u_13 H locs w_13 h_13 => ?_)
      clear h_11
      obtain ⟨wr_13, y13_0, _⟩ := w_13
      replace h_13 : qW D _ _ [(h2, .inl (cy 1, 900, .inl (u_7.2.1 0))), (h3, .inl (cy 1, 11, .inl (u_7.2.1 1))), (h4, .inl (cy 1, 10, .inl (u_7.2.1 2))), (h0, .inr (12, [.int 0, .ref h1, w0, w1, w2, .int p3, .int p4, .int p5, .int p6, .int p7, .int p8, .int p9, .int p10, .int p11, .int p12, .int p13, .ref h2, .ref h3, w3, .ref h4, w4, .int p14, .int p15, .ref h5, w5, w6, .int p16, .int p17, w7, w8, w9, w10, w11, .int p18, w12, w13, w14])), (h1, .inl (cy 1, 3918, .inl f0)), (h5, .inl (cy 1, 1024, .inl (u_7.2.1 3)))] _ _ := h_13
      refine lv_lstore (lv' := [(7, .long r_13), (5, .long r_11), (3, .long r_8), (0, .ref h0), (1, .int p0), (2, .int p1)]) hx hb dX12_chance_56 hl_12 (by decide) rfl (fun ls_14 hl_14 => ?_)
      clear hl_12
      refine lv_iload_n hx hb dX12_chance_58 rfl (lv_at hl_14 5 rfl) ?_
      refine q_jn (pc2 := 68) (fun H locs ls st => ∃ v68_15_0 : Int64, ((-9223372036854775808) ≤ (v68_15_0).toInt ∧ (v68_15_0).toInt ≤ 9223372036854775807) ∧ st = [.long v68_15_0] ∧ qW D (va_A [(h0, .inr (12, [.int p2, .ref h1, w0, w1, w2, .int p3, .int p4, .int p5, .int p6, .int p7, .int p8, .int p9, .int p10, .int p11, .int p12, .int p13, .ref h2, .ref h3, w3, .ref h4, w4, .int p14, .int p15, .ref h5, w5, w6, .int p16, .int p17, w7, w8, w9, w10, w11, .int p18, w12, w13, w14])), (h1, .inl (cy 1, 3918, .inl f0)), (h2, .inl (cy 1, 900, .inl f1)), (h3, .inl (cy 1, 11, .inl f2)), (h4, .inl (cy 1, 10, .inl f3)), (h5, .inl (cy 1, 1024, .inl f4))] sz) s.heap [(h2, .inl (cy 1, 900, .inl (u_7.2.1 0))), (h3, .inl (cy 1, 11, .inl (u_7.2.1 1))), (h4, .inl (cy 1, 10, .inl (u_7.2.1 2))), (h0, .inr (12, [.int 0, .ref h1, w0, w1, w2, .int p3, .int p4, .int p5, .int p6, .int p7, .int p8, .int p9, .int p10, .int p11, .int p12, .int p13, .ref h2, .ref h3, w3, .ref h4, w4, .int p14, .int p15, .ref h5, w5, w6, .int p16, .int p17, w7, w8, w9, w10, w11, .int p18, w12, w13, w14])), (h1, .inl (cy 1, 3918, .inl f0)), (h5, .inl (cy 1, 1024, .inl (u_7.2.1 3)))] H locs ∧ lv_has ls 9 [(0, .ref h0), (1, .int p0), (2, .int p1), (3, .long r_8), (5, .long r_11), (7, .long r_13)]) (fun H locs ls st hP => ?_) (fun J_68 => ?_)
      · obtain ⟨v68_15_0, hv68_15_0, rfl, h, hl⟩ := hP
        refine lv_lload hx hb dX12_chance_68 (lv_at hl 5 rfl) ?_
        refine lv_ldiv hx hb dX12_chance_70 (j_nz (by omega)) ?_
        refine q_anyJ (fun z_16 hz_16 => ?_)
        exact q_lret X hr hlk hK h (fun _ => 0, fun k => List.getD [(u_7.2.1 0), (u_7.2.1 1), (u_7.2.1 2), (fun _ => 0), (u_7.2.1 3)] k (fun _ => 0), fun _ _ => 0) ⟨⟨by omega, by omega⟩, (rg_wide w7_0 (by decide) (by decide)), (⟨by decide +kernel, by decide +kernel⟩ : 0 ≤ (0 : Int32).toInt ∧ (0 : Int32).toInt ≤ 0), trivial⟩ [3, 4, 0, 1, 2, 5] rfl rfl dX12_chance_71 (Nat.le_of_ble_eq_true rfl) (Nat.le_of_ble_eq_true rfl)
      · skip
        refine lv_if_ne (tgt := 66) hx hb dX12_chance_59 (by decide) (fun c_17 => ?_) (fun c_17 => ?_)
        · replace c_17 := i_ne (x := p1) (y := 0) rfl (show (0 : Int32).toInt = 0 by decide) c_17
          refine lv_lload hx hb dX12_chance_66 (lv_at hl_14 1 rfl) ?_
          exact J_68 _ _ _ _ ⟨r_11, (bw wr_11 (by decide) (by decide)), rfl, h_13, (lv_sub hl_14 [3, 4, 5, 2, 1, 0] rfl)⟩
        · replace c_17 := i_eq (x := p1) (y := 0) rfl (show (0 : Int32).toInt = 0 by decide) c_17
          refine lv_lload_n hx hb dX12_chance_62 rfl (lv_at hl_14 2 rfl) ?_
          refine lv_goto (tgt := 68) hx hb dX12_chance_63 (by decide) ?_
          exact J_68 _ _ _ _ ⟨r_8, wr_8, rfl, h_13, (lv_sub hl_14 [3, 4, 5, 2, 1, 0] rfl)⟩
    · replace c_6 := i_eq (x := r_5) (y := 0) rfl (show (0 : Int32).toInt = 0 by decide) c_6
      refine lv_ldc2 hx hb hown (ht _ wm_8_12) dX12_chance_27 ?_
      exact q_lret X hr hlk hK h_5 (fun _ => 0, fun k => List.getD [f1, f2, f3, (fun _ => 0), f4] k (fun _ => 0), fun _ _ => 0) ⟨⟨by decide +kernel, by decide +kernel⟩, (rg_wide rf3 (by decide) (by decide)), (⟨by decide +kernel, by decide +kernel⟩ : 0 ≤ (0 : Int32).toInt ∧ (0 : Int32).toInt ≤ 0), trivial⟩ [4, 5, 0, 1, 2, 3] rfl rfl dX12_chance_30 (Nat.le_of_ble_eq_true rfl) (Nat.le_of_ble_eq_true rfl)
  · replace c_4 := i_eq (x := r_3) (y := 0) rfl (show (0 : Int32).toInt = 0 by decide) c_4
    refine lv_ldc2 hx hb hown (ht _ wm_8_11) dX12_chance_15 ?_
    exact q_lret X hr hlk hK h_3 (fun _ => 0, fun k => List.getD [f1, f2, f3, (fun _ => 0), f4] k (fun _ => 0), fun _ _ => 0) ⟨⟨by decide +kernel, by decide +kernel⟩, (rg_wide rf3 (by decide) (by decide)), (⟨by decide +kernel, by decide +kernel⟩ : 0 ≤ (0 : Int32).toInt ∧ (0 : Int32).toInt ≤ 0), trivial⟩ [0, 1, 2, 3, 4, 5] rfl rfl dX12_chance_18 (Nat.le_of_ble_eq_true rfl) (Nat.le_of_ble_eq_true rfl)
set_option maxHeartbeats 4000000 in
set_option maxRecDepth 100000 in
theorem gX12_reserve_90a1450 (l : Launch) (D : va_G) (cy : Nat → ClassId) (h0 : Nat) (h1 : Nat) (h2 : Nat) (h3 : Nat) (h4 : Nat) (h5 : Nat) (p0 : Int32) (p1 : Int32) (w0 : Value) (w1 : Value) (w2 : Value) (p2 : Int32) (p3 : Int32) (p4 : Int32) (p5 : Int32) (p6 : Int32) (p7 : Int32) (p8 : Int32) (p9 : Int32) (p10 : Int32) (p11 : Int32) (p12 : Int32) (w3 : Value) (w4 : Value) (p13 : Int32) (p14 : Int32) (w5 : Value) (w6 : Value) (p15 : Int32) (p16 : Int32) (w7 : Value) (w8 : Value) (w9 : Value) (w10 : Value) (w11 : Value) (p17 : Int32) (w12 : Value) (w13 : Value) (w14 : Value) (f0 : Nat → Int32) (p18 : Int32) (f1 : Nat → Int32) (f2 : Nat → Int32) (f3 : Nat → Int32) (f4 : Nat → Int32) (hp0 : (-2147483648) ≤ (p0).toInt ∧ (p0).toInt ≤ 2147483647) (hp1 : (-2147483648) ≤ (p1).toInt ∧ (p1).toInt ≤ 2147483647) (hp2 : 0 ≤ (p2).toInt ∧ (p2).toInt ≤ 900) (hp3 : 0 ≤ (p3).toInt ∧ (p3).toInt ≤ 900) (hp4 : 0 ≤ (p4).toInt ∧ (p4).toInt ≤ 900) (hp5 : 0 ≤ (p5).toInt ∧ (p5).toInt ≤ 900) (hp6 : (-2147483648) ≤ (p6).toInt ∧ (p6).toInt ≤ 2147483647) (hp7 : 0 ≤ (p7).toInt ∧ (p7).toInt ≤ 999) (hp8 : (-2147483648) ≤ (p8).toInt ∧ (p8).toInt ≤ 2147483647) (hp9 : (-2147483648) ≤ (p9).toInt ∧ (p9).toInt ≤ 2147483647) (hp10 : (-2147483648) ≤ (p10).toInt ∧ (p10).toInt ≤ 2147483647) (hp11 : (-2147483648) ≤ (p11).toInt ∧ (p11).toInt ≤ 2147483647) (hp12 : (-2147483648) ≤ (p12).toInt ∧ (p12).toInt ≤ 2147483647) (hp13 : (-2147483648) ≤ (p13).toInt ∧ (p13).toInt ≤ 2147483647) (hp14 : (-2147483648) ≤ (p14).toInt ∧ (p14).toInt ≤ 2147483647) (hp15 : (-2147483648) ≤ (p15).toInt ∧ (p15).toInt ≤ 2147483647) (hp16 : (-2147483648) ≤ (p16).toInt ∧ (p16).toInt ≤ 2147483647) (hp17 : (-2147483648) ≤ (p17).toInt ∧ (p17).toInt ≤ 2147483647) (hp18 : 0 ≤ (p18).toInt ∧ (p18).toInt ≤ 10) (htf0_84 : f0 84 = p18) (rf0 : AL f0) (rf3 : RG f3 10 0 1023) (sz : Nat) : MI l yX12_reserve cX12_reserve 9 .int { frames := 5, cells := 0, slots := 0, locals := 114 } [.ref h0, .int p0] D cy [(h0, .inr (12, [.int p1, .ref h1, w0, w1, w2, .int p2, .int p3, .int p4, .int p5, .int p6, .int p7, .int p8, .int p9, .int p10, .int p11, .int p12, .ref h2, .ref h3, w3, .ref h4, w4, .int p13, .int p14, .ref h5, w5, w6, .int p15, .int p16, w7, w8, w9, w10, w11, .int p17, w12, w13, w14])), (h1, .inl (cy 1, 3918, .inl f0)), (h2, .inl (cy 1, 900, .inl f1)), (h3, .inl (cy 1, 11, .inl f2)), (h4, .inl (cy 1, 10, .inl f3)), (h5, .inl (cy 1, 1024, .inl f4))] sz (fun r u => ((-3) ≤ r.toInt ∧ r.toInt ≤ 9) ∧ RG (u.2.1 2) 10 0 1023 ∧ (0 ≤ (u.2.1 3 0).toInt ∧ (u.2.1 3 0).toInt ≤ 0) ∧ True) (fun u => [(h0, .inr (12, [.int (u.2.1 3 0), .ref h1, w0, w1, w2, .int p2, .int p3, .int p4, .int p5, .int p6, .int p7, .int p8, .int p9, .int p10, .int p11, .int p12, .ref h2, .ref h3, w3, .ref h4, w4, .int p13, .int p14, .ref h5, w5, w6, .int p15, .int p16, w7, w8, w9, w10, w11, .int p17, w12, w13, w14])), (h1, .inl (cy 1, 3918, .inl f0)), (h2, .inl (cy 1, 900, .inl (u.2.1 0))), (h3, .inl (cy 1, 11, .inl (u.2.1 1))), (h4, .inl (cy 1, 10, .inl (u.2.1 2))), (h5, .inl (cy 1, 1024, .inl (u.2.1 4)))]) 0 0 := by
  refine q_ent (own := RX12) (by decide) rfl (Nat.le_of_ble_eq_true rfl) (fun p e s m below meth c ls X hr hlk hnm hK hT h hA hl => ?_)
  obtain ⟨hx, hb, hml, hown, ht⟩ := id X
  replace hl : lv_has ls 9 [(0, .ref h0), (1, .int p0)] := hl
  refine lv_aload_n hx hb dX12_reserve_0 rfl (lv_at hl 0 rfl) ?_
  refine lv_iconst (v := 0) hx hb dX12_reserve_1 (by decide) ?_
  refine q_put (v := .int 0) X hK h 0 rfl rfl wf_12 tyX12 tyX12_ok nmX12 0 (by decide) wm_5_170 rfl rfl rfl (Nat.le_of_ble_eq_true rfl) dX12_reserve_2 (fun H locs h_1 => ?_)
  clear h
  replace h_1 : qW D _ _ [(h0, .inr (12, [.int 0, .ref h1, w0, w1, w2, .int p2, .int p3, .int p4, .int p5, .int p6, .int p7, .int p8, .int p9, .int p10, .int p11, .int p12, .ref h2, .ref h3, w3, .ref h4, w4, .int p13, .int p14, .ref h5, w5, w6, .int p15, .int p16, w7, w8, w9, w10, w11, .int p17, w12, w13, w14])), (h1, .inl (cy 1, 3918, .inl f0)), (h2, .inl (cy 1, 900, .inl f1)), (h3, .inl (cy 1, 11, .inl f2)), (h4, .inl (cy 1, 10, .inl f3)), (h5, .inl (cy 1, 1024, .inl f4))] _ _ := h_1
  refine lv_aload_n hx hb dX12_reserve_5 rfl (lv_at hl 0 rfl) ?_
  refine lv_iload_n hx hb dX12_reserve_6 rfl (lv_at hl 1 rfl) ?_
  refine q_callVi (rest := []) (wr := [(h2, .inl (cy 1, 900, .inl f1)), (h3, .inl (cy 1, 11, .inl f2)), (h4, .inl (cy 1, 10, .inl f3)), (h5, .inl (cy 1, 1024, .inl f4))]) X hK hT hA h_1 (fun sz => gX12_isSet_9166d70 l D cy h0 h1 p0 (0 : Int32) w0 w1 w2 p2 p3 p4 p5 p6 p7 p8 p9 p10 p11 p12 (.ref h2) (.ref h3) w3 (.ref h4) w4 p13 p14 (.ref h5) w5 w6 p15 p16 w7 w8 w9 w10 w11 p17 w12 w13 w14 f0 p18 (i_rng _) ⟨by decide +kernel, by decide +kernel⟩ hp2 hp3 hp4 hp5 (i_rng _) hp7 (i_rng _) (i_rng _) (i_rng _) (i_rng _) (i_rng _) (i_rng _) (i_rng _) (i_rng _) (i_rng _) (i_rng _) hp18 htf0_84 rf0 sz) wm_7_96 wm_7_99 wm_1_12 hd_X12_isSet wm_7_98 wp_7_1 (ci := 12) (q0 := 0) rfl rfl ⟨Nat.le_of_ble_eq_true rfl, Nat.le_of_ble_eq_true rfl⟩ hl.1 rfl (Nat.le_of_ble_eq_true rfl) dX12_reserve_7 ⟨Nat.le_of_ble_eq_true rfl, Nat.le_of_ble_eq_true rfl⟩ [0, 1] [2, 3, 4, 5] rfl rfl (by decide) rfl rfl (fun r_2 u_2 H locs w_2 h_2 => ?_)
  clear h_1
  obtain ⟨wr_2, y2_0, _⟩ := w_2
  replace h_2 : qW D _ _ [(h2, .inl (cy 1, 900, .inl f1)), (h3, .inl (cy 1, 11, .inl f2)), (h4, .inl (cy 1, 10, .inl f3)), (h5, .inl (cy 1, 1024, .inl f4)), (h0, .inr (12, [.int 0, .ref h1, w0, w1, w2, .int p2, .int p3, .int p4, .int p5, .int p6, .int p7, .int p8, .int p9, .int p10, .int p11, .int p12, .ref h2, .ref h3, w3, .ref h4, w4, .int p13, .int p14, .ref h5, w5, w6, .int p15, .int p16, w7, w8, w9, w10, w11, .int p17, w12, w13, w14])), (h1, .inl (cy 1, 3918, .inl f0))] _ _ := h_2
  refine lv_if_ne (tgt := 16) hx hb dX12_reserve_10 (by decide) (fun c_3 => ?_) (fun c_3 => ?_)
  · replace c_3 := i_ne (x := r_2) (y := 0) rfl (show (0 : Int32).toInt = 0 by decide) c_3
    refine lv_aload_n hx hb dX12_reserve_16 rfl (lv_at hl 0 rfl) ?_
    refine q_callVv (rest := []) (wr := []) X hK hT hA h_2 (fun sz => gX12_laysNow_7e7bd2c l D cy h0 h1 h2 h3 h4 h5 (0 : Int32) w0 w1 w2 p2 p3 p4 p5 p6 p7 p8 p9 p10 p11 p12 w3 w4 p13 p14 w5 w6 p15 p16 w7 w8 w9 w10 w11 p17 w12 w13 w14 f0 p18 f1 f2 f3 f4 ⟨by decide +kernel, by decide +kernel⟩ hp2 hp3 hp4 hp5 (i_rng _) hp7 (i_rng _) (i_rng _) (i_rng _) (i_rng _) (i_rng _) (i_rng _) (i_rng _) (i_rng _) (i_rng _) (i_rng _) hp18 htf0_84 rf0 (rg_wide rf3 (by decide) (by decide)) sz) wm_7_55 wm_7_58 wm_1_12 hd_X12_laysNow wm_7_57 wp_6_11 (ci := 12) (q0 := 0) rfl rfl ⟨Nat.le_of_ble_eq_true rfl, Nat.le_of_ble_eq_true rfl⟩ hl.1 rfl (Nat.le_of_ble_eq_true rfl) dX12_reserve_17 ⟨Nat.le_of_ble_eq_true rfl, Nat.le_of_ble_eq_true rfl⟩ [4, 5, 0, 1, 2, 3] [] rfl rfl (by decide) rfl rfl (fun u_4 H locs w_4 h_4 => ?_)
    clear h_2
    obtain ⟨w4_0, _⟩ := w_4
    replace h_4 : qW D _ _ [(h0, .inr (12, [.int 0, .ref h1, w0, w1, w2, .int p2, .int p3, .int p4, .int p5, .int p6, .int p7, .int p8, .int p9, .int p10, .int p11, .int p12, .ref h2, .ref h3, w3, .ref h4, w4, .int p13, .int p14, .ref h5, w5, w6, .int p15, .int p16, w7, w8, w9, w10, w11, .int p17, w12, w13, w14])), (h1, .inl (cy 1, 3918, .inl f0)), (h2, .inl (cy 1, 900, .inl (u_4.2.1 0))), (h3, .inl (cy 1, 11, .inl (u_4.2.1 1))), (h4, .inl (cy 1, 10, .inl (u_4.2.1 2))), (h5, .inl (cy 1, 1024, .inl (u_4.2.1 3)))] _ _ := h_4
    refine lv_aload_n hx hb dX12_reserve_20 rfl (lv_at hl 0 rfl) ?_
    refine q_callVi (rest := []) (wr := [(h2, .inl (cy 1, 900, .inl (u_4.2.1 0))), (h3, .inl (cy 1, 11, .inl (u_4.2.1 1))), (h4, .inl (cy 1, 10, .inl (u_4.2.1 2))), (h5, .inl (cy 1, 1024, .inl (u_4.2.1 3)))]) X hK hT hA h_4 (fun sz => gX12_townNow_2907b4b l D cy h0 h1 (0 : Int32) w0 w1 w2 p2 p3 p4 p5 p6 p7 p8 p9 p10 p11 p12 (.ref h2) (.ref h3) w3 (.ref h4) w4 p13 p14 (.ref h5) w5 w6 p15 p16 w7 w8 w9 w10 w11 p17 w12 w13 w14 f0 p18 ⟨by decide +kernel, by decide +kernel⟩ hp2 hp3 hp4 hp5 (i_rng _) hp7 (i_rng _) (i_rng _) (i_rng _) (i_rng _) (i_rng _) (i_rng _) (i_rng _) (i_rng _) (i_rng _) (i_rng _) hp18 htf0_84 rf0 sz) wm_6_170 wm_6_173 wm_1_12 hd_X12_townNow wm_6_172 wp_5_9 (ci := 12) (q0 := 0) rfl rfl ⟨Nat.le_of_ble_eq_true rfl, Nat.le_of_ble_eq_true rfl⟩ hl.1 rfl (Nat.le_of_ble_eq_true rfl) dX12_reserve_21 ⟨Nat.le_of_ble_eq_true rfl, Nat.le_of_ble_eq_true rfl⟩ [0, 1] [2, 3, 4, 5] rfl rfl (by decide) rfl rfl (fun r_5 u_5 H locs w_5 h_5 => ?_)
    clear h_4
    obtain ⟨wr_5, _⟩ := w_5
    replace h_5 : qW D _ _ [(h2, .inl (cy 1, 900, .inl (u_4.2.1 0))), (h3, .inl (cy 1, 11, .inl (u_4.2.1 1))), (h4, .inl (cy 1, 10, .inl (u_4.2.1 2))), (h5, .inl (cy 1, 1024, .inl (u_4.2.1 3))), (h0, .inr (12, [.int 0, .ref h1, w0, w1, w2, .int p2, .int p3, .int p4, .int p5, .int p6, .int p7, .int p8, .int p9, .int p10, .int p11, .int p12, .ref h2, .ref h3, w3, .ref h4, w4, .int p13, .int p14, .ref h5, w5, w6, .int p15, .int p16, w7, w8, w9, w10, w11, .int p17, w12, w13, w14])), (h1, .inl (cy 1, 3918, .inl f0))] _ _ := h_5
    refine lv_iload_n hx hb dX12_reserve_24 rfl (lv_at hl 1 rfl) ?_
    refine lv_iconst (v := (-1)) hx hb dX12_reserve_25 (by decide) ?_
    refine lv_ixor hx hb dX12_reserve_26 ?_
    refine q_any (fun z_6 hz_6 => ?_)
    refine lv_iand hx hb dX12_reserve_27 ?_
    obtain ⟨z_7, ez_7, hz_7⟩ := e_and1 (x := r_5) (y := z_6) rfl (by omega)
    refine q_c z_7 ez_7 ?_
    clear ez_7
    refine lv_istore_n (lv' := [(2, .int z_7), (0, .ref h0), (1, .int p0)]) hx hb dX12_reserve_28 rfl hl (by decide) rfl (fun ls_8 hl_8 => ?_)
    clear hl
    refine lv_iconst (v := (-1)) hx hb dX12_reserve_29 (by decide) ?_
    refine lv_istore_n (lv' := [(3, .int (-1)), (2, .int z_7), (0, .ref h0), (1, .int p0)]) hx hb dX12_reserve_30 rfl hl_8 (by decide) rfl (fun ls_9 hl_9 => ?_)
    clear hl_8
    refine lv_ldc2 hx hb hown (ht _ wm_7_24) dX12_reserve_31 ?_
    refine lv_aload_n hx hb dX12_reserve_34 rfl (lv_at hl_9 2 rfl) ?_
    refine lv_iload_n hx hb dX12_reserve_35 rfl (lv_at hl_9 3 rfl) ?_
    refine q_callVl (rest := [.long 10]) (wr := [(h2, .inl (cy 1, 900, .inl (u_4.2.1 0))), (h3, .inl (cy 1, 11, .inl (u_4.2.1 1))), (h4, .inl (cy 1, 10, .inl (u_4.2.1 2)))]) X hK hT hA h_5 (fun sz => gX12_chanceOf_39433c5 l D cy h0 h1 h5 p0 (0 : Int32) w0 w1 w2 p2 p3 p4 p5 p6 p7 p8 p9 p10 p11 p12 (.ref h2) (.ref h3) w3 (.ref h4) w4 p13 p14 w5 w6 p15 p16 w7 w8 w9 w10 w11 p17 w12 w13 w14 f0 p18 (u_4.2.1 3) ⟨by omega, by omega⟩ ⟨by decide +kernel, by decide +kernel⟩ hp2 hp3 hp4 hp5 (i_rng _) hp7 (i_rng _) (i_rng _) (i_rng _) (i_rng _) (i_rng _) (i_rng _) (i_rng _) (i_rng _) (i_rng _) (i_rng _) hp18 htf0_84 rf0 sz) wm_8_13 wm_8_16 wm_1_12 hd_X12_chanceOf wm_8_15 wp_8_3 (ci := 12) (q0 := 0) rfl rfl ⟨Nat.le_of_ble_eq_true rfl, Nat.le_of_ble_eq_true rfl⟩ hl_9.1 rfl (Nat.le_of_ble_eq_true rfl) dX12_reserve_36 ⟨Nat.le_of_ble_eq_true rfl, Nat.le_of_ble_eq_true rfl⟩ [4, 5, 3] [0, 1, 2] rfl rfl (by decide) rfl rfl (fun r_10 u_10 H locs w_10 h_10 => ?_)
    clear h_5
    obtain ⟨wr_10, _⟩ := w_10
    replace h_10 : qW D _ _ [(h2, .inl (cy 1, 900, .inl (u_4.2.1 0))), (h3, .inl (cy 1, 11, .inl (u_4.2.1 1))), (h4, .inl (cy 1, 10, .inl (u_4.2.1 2))), (h0, .inr (12, [.int 0, .ref h1, w0, w1, w2, .int p2, .int p3, .int p4, .int p5, .int p6, .int p7, .int p8, .int p9, .int p10, .int p11, .int p12, .ref h2, .ref h3, w3, .ref h4, w4, .int p13, .int p14, .ref h5, w5, w6, .int p15, .int p16, w7, w8, w9, w10, w11, .int p17, w12, w13, w14])), (h1, .inl (cy 1, 3918, .inl f0)), (h5, .inl (cy 1, 1024, .inl (u_4.2.1 3)))] _ _ := h_10
    refine lv_lmul hx hb dX12_reserve_39 ?_
    refine q_anyJ (fun z_11 hz_11 => ?_)
    refine lv_lstore (lv' := [(4, .long z_11), (3, .int (-1)), (2, .int z_7), (0, .ref h0), (1, .int p0)]) hx hb dX12_reserve_40 hl_9 (by decide) rfl (fun ls_12 hl_12 => ?_)
    clear hl_9
    refine lv_iconst (v := 0) hx hb dX12_reserve_42 (by decide) ?_
    refine lv_istore (lv' := [(6, .int 0), (4, .long z_11), (3, .int (-1)), (2, .int z_7), (0, .ref h0), (1, .int p0)]) hx hb dX12_reserve_43 hl_12 (by decide) rfl (fun ls_13 hl_13 => ?_)
    clear hl_12
    refine q_wl (fun (q : Int32 × Int32 × Int64) H locs ls => match q with | (v45_14_0, v45_14_1, v45_14_2) => (0 ≤ (v45_14_0).toInt ∧ (v45_14_0).toInt ≤ 10) ∧ ((-1) ≤ (v45_14_1).toInt ∧ (v45_14_1).toInt ≤ 9) ∧ ((-9223372036854775808) ≤ (v45_14_2).toInt ∧ (v45_14_2).toInt ≤ 9223372036854775807) ∧ qW D (va_A [(h0, .inr (12, [.int p1, .ref h1, w0, w1, w2, .int p2, .int p3, .int p4, .int p5, .int p6, .int p7, .int p8, .int p9, .int p10, .int p11, .int p12, .ref h2, .ref h3, w3, .ref h4, w4, .int p13, .int p14, .ref h5, w5, w6, .int p15, .int p16, w7, w8, w9, w10, w11, .int p17, w12, w13, w14])), (h1, .inl (cy 1, 3918, .inl f0)), (h2, .inl (cy 1, 900, .inl f1)), (h3, .inl (cy 1, 11, .inl f2)), (h4, .inl (cy 1, 10, .inl f3)), (h5, .inl (cy 1, 1024, .inl f4))] sz) s.heap [(h2, .inl (cy 1, 900, .inl (u_4.2.1 0))), (h3, .inl (cy 1, 11, .inl (u_4.2.1 1))), (h4, .inl (cy 1, 10, .inl (u_4.2.1 2))), (h0, .inr (12, [.int 0, .ref h1, w0, w1, w2, .int p2, .int p3, .int p4, .int p5, .int p6, .int p7, .int p8, .int p9, .int p10, .int p11, .int p12, .ref h2, .ref h3, w3, .ref h4, w4, .int p13, .int p14, .ref h5, w5, w6, .int p15, .int p16, w7, w8, w9, w10, w11, .int p17, w12, w13, w14])), (h1, .inl (cy 1, 3918, .inl f0)), (h5, .inl (cy 1, 1024, .inl (u_4.2.1 3)))] H locs ∧ lv_has ls 9 [(0, .ref h0), (1, .int p0), (2, .int z_7), (3, .int v45_14_1), (4, .long v45_14_2), (6, .int v45_14_0)]) (fun (q : Int32 × Int32 × Int64) => match q with | (v45_14_0, v45_14_1, v45_14_2) => (11 - (v45_14_0).toInt).toNat) (fun q_45 ih_45 H locs ls hP => ?_) (0, (-1), z_11) ⟨⟨by decide +kernel, by decide +kernel⟩, ⟨by decide +kernel, by decide +kernel⟩, ⟨by omega, by omega⟩, h_10, (lv_sub hl_13 [4, 5, 3, 2, 1, 0] rfl)⟩
    obtain ⟨v45_14_0, v45_14_1, v45_14_2⟩ := q_45
    obtain ⟨hv45_14_0, hv45_14_1, hv45_14_2, h, hl⟩ := hP
    refine lv_iload hx hb dX12_reserve_45 (lv_at hl 5 rfl) ?_
    refine lv_aload_n hx hb dX12_reserve_47 rfl (lv_at hl 0 rfl) ?_
    refine q_get X hK h 3 rfl rfl wf_12 1 (by decide) rfl wm_5_171 dX12_reserve_48 ?_
    refine lv_iconst (v := 2) hx hb dX12_reserve_51 (by decide) ?_
    refine q_iald X hK h 4 rfl (q_in (by decide +kernel)) dX12_reserve_52 ?_
    obtain ⟨z_15, ez_15, hz_15⟩ := al_P rf0 (x := 2) (show (2 : Int32).toInt = 2 by decide) (by omega) (by omega)
    refine q_c z_15 ez_15 ?_
    clear ez_15
    refine lv_icmp_ge (tgt := 108) hx hb dX12_reserve_53 (by decide) (fun c_16 => ?_) (fun c_16 => ?_)
    · replace c_16 := i_le (x := z_15) (y := v45_14_0) rfl rfl c_16
      refine lv_iload_n hx hb dX12_reserve_108 rfl (lv_at hl 3 rfl) ?_
      exact q_iret X hr hlk hK h rfl (fun _ => 0, fun k => List.getD [(u_4.2.1 0), (u_4.2.1 1), (u_4.2.1 2), (fun _ => 0), (u_4.2.1 3)] k (fun _ => 0), fun _ _ => 0) ⟨(bw hv45_14_1 (by decide) (by decide)), (rg_wide w4_0 (by decide) (by decide)), (⟨by decide +kernel, by decide +kernel⟩ : 0 ≤ (0 : Int32).toInt ∧ (0 : Int32).toInt ≤ 0), trivial⟩ [3, 4, 0, 1, 2, 5] rfl rfl dX12_reserve_109 (Nat.le_of_ble_eq_true rfl) (Nat.le_of_ble_eq_true rfl)
    · replace c_16 := i_nle (x := z_15) (y := v45_14_0) rfl rfl c_16
      refine lv_iload_n hx hb dX12_reserve_56 rfl (lv_at hl 2 rfl) ?_
      refine lv_i2l hx hb dX12_reserve_57 rfl ?_
      obtain ⟨z_17, ez_17, hz_17⟩ := e_i2l (x := z_7) rfl
      refine q_cl z_17 ez_17 ?_
      clear ez_17
      refine lv_iload hx hb dX12_reserve_58 (lv_at hl 5 rfl) ?_
      refine q_callSi (rest := []) (wr := [(h2, .inl (cy 1, 900, .inl (u_4.2.1 0))), (h3, .inl (cy 1, 11, .inl (u_4.2.1 1))), (h4, .inl (cy 1, 10, .inl (u_4.2.1 2))), (h0, .inr (12, [.int 0, .ref h1, w0, w1, w2, .int p2, .int p3, .int p4, .int p5, .int p6, .int p7, .int p8, .int p9, .int p10, .int p11, .int p12, .ref h2, .ref h3, w3, .ref h4, w4, .int p13, .int p14, .ref h5, w5, w6, .int p15, .int p16, w7, w8, w9, w10, w11, .int p17, w12, w13, w14])), (h1, .inl (cy 1, 3918, .inl f0)), (h5, .inl (cy 1, 1024, .inl (u_4.2.1 3)))]) X hK hT hA h (fun sz => gX12_isIn_b0455a8 l D cy z_17 v45_14_0 ⟨by omega, by omega⟩ ⟨by omega, by omega⟩ sz) wm_6_167 wm_6_169 wm_1_12 hd_X12_isIn wm_6_168 ⟨Nat.le_of_ble_eq_true rfl, Nat.le_of_ble_eq_true rfl⟩ hl.1 rfl (Nat.le_of_ble_eq_true rfl) dX12_reserve_60 ⟨Nat.le_of_ble_eq_true rfl, Nat.le_of_ble_eq_true rfl⟩ [] [0, 1, 2, 3, 4, 5] rfl rfl (by decide) rfl rfl (fun r_18 u_18 H locs w_18 h_18 => ?_)
      clear h
      obtain ⟨wr_18, _⟩ := w_18
      replace h_18 : qW D _ _ [(h2, .inl (cy 1, 900, .inl (u_4.2.1 0))), (h3, .inl (cy 1, 11, .inl (u_4.2.1 1))), (h4, .inl (cy 1, 10, .inl (u_4.2.1 2))), (h0, .inr (12, [.int 0, .ref h1, w0, w1, w2, .int p2, .int p3, .int p4, .int p5, .int p6, .int p7, .int p8, .int p9, .int p10, .int p11, .int p12, .ref h2, .ref h3, w3, .ref h4, w4, .int p13, .int p14, .ref h5, w5, w6, .int p15, .int p16, w7, w8, w9, w10, w11, .int p17, w12, w13, w14])), (h1, .inl (cy 1, 3918, .inl f0)), (h5, .inl (cy 1, 1024, .inl (u_4.2.1 3)))] _ _ := h_18
      refine q_jn (pc2 := 82) (fun H locs ls st => ∃ v82_19_0 : Int64, ((-9223372036854775808) ≤ (v82_19_0).toInt ∧ (v82_19_0).toInt ≤ 9223372036854775807) ∧ st = [.long v82_19_0] ∧ qW D (va_A [(h0, .inr (12, [.int p1, .ref h1, w0, w1, w2, .int p2, .int p3, .int p4, .int p5, .int p6, .int p7, .int p8, .int p9, .int p10, .int p11, .int p12, .ref h2, .ref h3, w3, .ref h4, w4, .int p13, .int p14, .ref h5, w5, w6, .int p15, .int p16, w7, w8, w9, w10, w11, .int p17, w12, w13, w14])), (h1, .inl (cy 1, 3918, .inl f0)), (h2, .inl (cy 1, 900, .inl f1)), (h3, .inl (cy 1, 11, .inl f2)), (h4, .inl (cy 1, 10, .inl f3)), (h5, .inl (cy 1, 1024, .inl f4))] sz) s.heap [(h2, .inl (cy 1, 900, .inl (u_4.2.1 0))), (h3, .inl (cy 1, 11, .inl (u_4.2.1 1))), (h4, .inl (cy 1, 10, .inl (u_4.2.1 2))), (h0, .inr (12, [.int 0, .ref h1, w0, w1, w2, .int p2, .int p3, .int p4, .int p5, .int p6, .int p7, .int p8, .int p9, .int p10, .int p11, .int p12, .ref h2, .ref h3, w3, .ref h4, w4, .int p13, .int p14, .ref h5, w5, w6, .int p15, .int p16, w7, w8, w9, w10, w11, .int p17, w12, w13, w14])), (h1, .inl (cy 1, 3918, .inl f0)), (h5, .inl (cy 1, 1024, .inl (u_4.2.1 3)))] H locs ∧ lv_has ls 9 [(0, .ref h0), (1, .int p0), (2, .int z_7), (3, .int v45_14_1), (4, .long v45_14_2), (6, .int v45_14_0)]) (fun H locs ls st hP => ?_) (fun J_82 => ?_)
      · obtain ⟨v82_19_0, hv82_19_0, rfl, h, hl⟩ := hP
        refine lv_lstore (lv' := [(7, .long v82_19_0), (0, .ref h0), (1, .int p0), (2, .int z_7), (3, .int v45_14_1), (4, .long v45_14_2), (6, .int v45_14_0)]) hx hb dX12_reserve_82 hl (by decide) rfl (fun ls_20 hl_20 => ?_)
        clear hl
        refine lv_lload hx hb dX12_reserve_84 (lv_at hl_20 0 rfl) ?_
        refine lv_lload hx hb dX12_reserve_86 (lv_at hl_20 5 rfl) ?_
        refine W.lcmp hx hb dX12_reserve_88 ?_
        refine q_jn (pc2 := 102) (fun H locs ls st => ∃ v102_21_0 : Int64, ∃ v102_21_1 : Int32, ((-9223372036854775808) ≤ (v102_21_0).toInt ∧ (v102_21_0).toInt ≤ 9223372036854775807) ∧ ((-1) ≤ (v102_21_1).toInt ∧ (v102_21_1).toInt ≤ 9) ∧ st = [] ∧ qW D (va_A [(h0, .inr (12, [.int p1, .ref h1, w0, w1, w2, .int p2, .int p3, .int p4, .int p5, .int p6, .int p7, .int p8, .int p9, .int p10, .int p11, .int p12, .ref h2, .ref h3, w3, .ref h4, w4, .int p13, .int p14, .ref h5, w5, w6, .int p15, .int p16, w7, w8, w9, w10, w11, .int p17, w12, w13, w14])), (h1, .inl (cy 1, 3918, .inl f0)), (h2, .inl (cy 1, 900, .inl f1)), (h3, .inl (cy 1, 11, .inl f2)), (h4, .inl (cy 1, 10, .inl f3)), (h5, .inl (cy 1, 1024, .inl f4))] sz) s.heap [(h2, .inl (cy 1, 900, .inl (u_4.2.1 0))), (h3, .inl (cy 1, 11, .inl (u_4.2.1 1))), (h4, .inl (cy 1, 10, .inl (u_4.2.1 2))), (h0, .inr (12, [.int 0, .ref h1, w0, w1, w2, .int p2, .int p3, .int p4, .int p5, .int p6, .int p7, .int p8, .int p9, .int p10, .int p11, .int p12, .ref h2, .ref h3, w3, .ref h4, w4, .int p13, .int p14, .ref h5, w5, w6, .int p15, .int p16, w7, w8, w9, w10, w11, .int p17, w12, w13, w14])), (h1, .inl (cy 1, 3918, .inl f0)), (h5, .inl (cy 1, 1024, .inl (u_4.2.1 3)))] H locs ∧ lv_has ls 9 [(0, .ref h0), (1, .int p0), (2, .int z_7), (3, .int v102_21_1), (4, .long v102_21_0), (6, .int v45_14_0), (7, .long v82_19_0)]) (fun H locs ls st hP => ?_) (fun J_102 => ?_)
        · obtain ⟨v102_21_0, v102_21_1, hv102_21_0, hv102_21_1, rfl, h, hl⟩ := hP
          obtain ⟨z_22, ez_22, hz_22⟩ := e_add (x := v45_14_0) (y := Int32.ofInt 1) rfl (b := 1) (by decide) (by omega) (by omega)
          refine lv_iinc (v := z_22) (lv' := [(6, .int z_22), (0, .ref h0), (1, .int p0), (2, .int z_7), (3, .int v102_21_1), (4, .long v102_21_0), (7, .long v82_19_0)]) hx hb dX12_reserve_102 hl (k := 5) rfl ez_22 (by decide) rfl (fun ls_22 hl_22 => ?_)
          clear hl
          refine lv_goto (tgt := 45) hx hb dX12_reserve_105 (by decide) ?_
          exact ih_45 (z_22, v102_21_1, v102_21_0) (by show (11 - (z_22).toInt).toNat < (11 - (v45_14_0).toInt).toNat; omega) _ _ _ ⟨⟨by omega, by omega⟩, hv102_21_1, hv102_21_0, h, (lv_sub hl_22 [1, 2, 3, 4, 5, 0] rfl)⟩
        · skip
          refine lv_if_gt (tgt := 95) hx hb dX12_reserve_89 (by decide) (fun c_23 => ?_) (fun c_23 => ?_)
          · replace c_23 := j_gt (x := v82_19_0) (y := v45_14_2) rfl rfl c_23
            refine lv_iload hx hb dX12_reserve_95 (lv_at hl_20 6 rfl) ?_
            refine lv_istore_n (lv' := [(3, .int v45_14_0), (7, .long v82_19_0), (0, .ref h0), (1, .int p0), (2, .int z_7), (4, .long v45_14_2), (6, .int v45_14_0)]) hx hb dX12_reserve_97 rfl hl_20 (by decide) rfl (fun ls_24 hl_24 => ?_)
            clear hl_20
            refine lv_lload hx hb dX12_reserve_98 (lv_at hl_24 1 rfl) ?_
            refine lv_lstore (lv' := [(4, .long v82_19_0), (3, .int v45_14_0), (7, .long v82_19_0), (0, .ref h0), (1, .int p0), (2, .int z_7), (6, .int v45_14_0)]) hx hb dX12_reserve_100 hl_24 (by decide) rfl (fun ls_25 hl_25 => ?_)
            clear hl_24
            exact J_102 _ _ _ _ ⟨v82_19_0, v45_14_0, hv82_19_0, ⟨by omega, by omega⟩, rfl, h, (lv_sub hl_25 [3, 4, 5, 1, 0, 6, 2] rfl)⟩
          · replace c_23 := j_ngt (x := v82_19_0) (y := v45_14_2) rfl rfl c_23
            refine lv_goto (tgt := 102) hx hb dX12_reserve_92 (by decide) ?_
            exact J_102 _ _ _ _ ⟨v45_14_2, v45_14_1, hv45_14_2, hv45_14_1, rfl, h, (lv_sub hl_20 [1, 2, 3, 4, 5, 6, 0] rfl)⟩
      · skip
        refine lv_if_eq (tgt := 79) hx hb dX12_reserve_63 (by decide) (fun c_26 => ?_) (fun c_26 => ?_)
        · replace c_26 := i_eq (x := r_18) (y := 0) rfl (show (0 : Int32).toInt = 0 by decide) c_26
          refine lv_ldc2 hx hb hown (ht _ wm_7_42) dX12_reserve_79 ?_
          exact J_82 _ _ _ _ ⟨(-1), ⟨by decide +kernel, by decide +kernel⟩, rfl, h_18, (lv_sub hl [0, 1, 2, 3, 4, 5] rfl)⟩
        · replace c_26 := i_ne (x := r_18) (y := 0) rfl (show (0 : Int32).toInt = 0 by decide) c_26
          refine lv_aload_n hx hb dX12_reserve_66 rfl (lv_at hl 0 rfl) ?_
          refine lv_iload_n hx hb dX12_reserve_67 rfl (lv_at hl 1 rfl) ?_
          refine lv_iconst (v := 1) hx hb dX12_reserve_68 (by decide) ?_
          refine lv_iload hx hb dX12_reserve_69 (lv_at hl 5 rfl) ?_
          refine lv_ishl hx hb dX12_reserve_71 ?_
          obtain ⟨z_27, ez_27, hz_27⟩ := e_shlk (p := v45_14_0) 9 (by decide) rfl (by omega) (by omega)
          refine q_c z_27 ez_27 ?_
          clear ez_27
          refine lv_ior hx hb dX12_reserve_72 ?_
          obtain ⟨z_28, ez_28, hz_28⟩ := e_orm (x := p0) (y := z_27) 10 (by decide) rfl rfl (by omega) (by omega) (by omega) (by omega)
          refine q_c z_28 ez_28 ?_
          clear ez_28
          refine q_callVl (rest := []) (wr := [(h2, .inl (cy 1, 900, .inl (u_4.2.1 0))), (h3, .inl (cy 1, 11, .inl (u_4.2.1 1))), (h4, .inl (cy 1, 10, .inl (u_4.2.1 2)))]) X hK hT hA h_18 (fun sz => gX12_chanceOf_39433c5 l D cy h0 h1 h5 z_28 (0 : Int32) w0 w1 w2 p2 p3 p4 p5 p6 p7 p8 p9 p10 p11 p12 (.ref h2) (.ref h3) w3 (.ref h4) w4 p13 p14 w5 w6 p15 p16 w7 w8 w9 w10 w11 p17 w12 w13 w14 f0 p18 (u_4.2.1 3) ⟨by omega, by omega⟩ ⟨by decide +kernel, by decide +kernel⟩ hp2 hp3 hp4 hp5 (i_rng _) hp7 (i_rng _) (i_rng _) (i_rng _) (i_rng _) (i_rng _) (i_rng _) (i_rng _) (i_rng _) (i_rng _) (i_rng _) hp18 htf0_84 rf0 sz) wm_8_13 wm_8_16 wm_1_12 hd_X12_chanceOf wm_8_15 wp_8_3 (ci := 12) (q0 := 0) rfl rfl ⟨Nat.le_of_ble_eq_true rfl, Nat.le_of_ble_eq_true rfl⟩ hl.1 rfl (Nat.le_of_ble_eq_true rfl) dX12_reserve_73 ⟨Nat.le_of_ble_eq_true rfl, Nat.le_of_ble_eq_true rfl⟩ [3, 4, 5] [0, 1, 2] rfl rfl (by decide) rfl rfl (fun r_29 u_29 H locs w_29 h_29 => ?_)
          clear h_18
          obtain ⟨wr_29, _⟩ := w_29
          replace h_29 : qW D _ _ [(h2, .inl (cy 1, 900, .inl (u_4.2.1 0))), (h3, .inl (cy 1, 11, .inl (u_4.2.1 1))), (h4, .inl (cy 1, 10, .inl (u_4.2.1 2))), (h0, .inr (12, [.int 0, .ref h1, w0, w1, w2, .int p2, .int p3, .int p4, .int p5, .int p6, .int p7, .int p8, .int p9, .int p10, .int p11, .int p12, .ref h2, .ref h3, w3, .ref h4, w4, .int p13, .int p14, .ref h5, w5, w6, .int p15, .int p16, w7, w8, w9, w10, w11, .int p17, w12, w13, w14])), (h1, .inl (cy 1, 3918, .inl f0)), (h5, .inl (cy 1, 1024, .inl (u_4.2.1 3)))] _ _ := h_29
          refine lv_goto (tgt := 82) hx hb dX12_reserve_76 (by decide) ?_
          exact J_82 _ _ _ _ ⟨r_29, wr_29, rfl, h_29, (lv_sub hl [0, 1, 2, 3, 4, 5] rfl)⟩
  · replace c_3 := i_eq (x := r_2) (y := 0) rfl (show (0 : Int32).toInt = 0 by decide) c_3
    refine lv_bipush (v := (-3)) hx hb dX12_reserve_13 (by decide) ?_
    exact q_iret X hr hlk hK h_2 rfl (fun _ => 0, fun k => List.getD [f1, f2, f3, (fun _ => 0), f4] k (fun _ => 0), fun _ _ => 0) ⟨⟨by decide +kernel, by decide +kernel⟩, (rg_wide rf3 (by decide) (by decide)), (⟨by decide +kernel, by decide +kernel⟩ : 0 ≤ (0 : Int32).toInt ∧ (0 : Int32).toInt ≤ 0), trivial⟩ [4, 5, 0, 1, 2, 3] rfl rfl dX12_reserve_15 (Nat.le_of_ble_eq_true rfl) (Nat.le_of_ble_eq_true rfl)
