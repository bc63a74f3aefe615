theorem dJ6_bitCount_0f7a4_0 : decode cJ6_bitCount_0f7a4 0 = .ok (.iload_n 0, 1) := by decide +kernel
theorem dJ6_bitCount_0f7a4_1 : decode cJ6_bitCount_0f7a4 1 = .ok (.iload_n 0, 1) := by decide +kernel
theorem dJ6_bitCount_0f7a4_2 : decode cJ6_bitCount_0f7a4 2 = .ok (.iconst 1, 1) := by decide +kernel
theorem dJ6_bitCount_0f7a4_3 : decode cJ6_bitCount_0f7a4 3 = .ok (.iushr, 1) := by decide +kernel
theorem dJ6_bitCount_0f7a4_4 : decode cJ6_bitCount_0f7a4 4 = .ok (.ldc_w 265, 3) := by decide +kernel
theorem dJ6_bitCount_0f7a4_7 : decode cJ6_bitCount_0f7a4 7 = .ok (.iand, 1) := by decide +kernel
theorem dJ6_bitCount_0f7a4_8 : decode cJ6_bitCount_0f7a4 8 = .ok (.isub, 1) := by decide +kernel
theorem dJ6_bitCount_0f7a4_9 : decode cJ6_bitCount_0f7a4 9 = .ok (.istore_n 0, 1) := by decide +kernel
theorem dJ6_bitCount_0f7a4_10 : decode cJ6_bitCount_0f7a4 10 = .ok (.iload_n 0, 1) := by decide +kernel
theorem dJ6_bitCount_0f7a4_11 : decode cJ6_bitCount_0f7a4 11 = .ok (.ldc_w 266, 3) := by decide +kernel
theorem dJ6_bitCount_0f7a4_14 : decode cJ6_bitCount_0f7a4 14 = .ok (.iand, 1) := by decide +kernel
theorem dJ6_bitCount_0f7a4_15 : decode cJ6_bitCount_0f7a4 15 = .ok (.iload_n 0, 1) := by decide +kernel
theorem dJ6_bitCount_0f7a4_16 : decode cJ6_bitCount_0f7a4 16 = .ok (.iconst 2, 1) := by decide +kernel
theorem dJ6_bitCount_0f7a4_17 : decode cJ6_bitCount_0f7a4 17 = .ok (.iushr, 1) := by decide +kernel
theorem dJ6_bitCount_0f7a4_18 : decode cJ6_bitCount_0f7a4 18 = .ok (.ldc_w 266, 3) := by decide +kernel
theorem dJ6_bitCount_0f7a4_21 : decode cJ6_bitCount_0f7a4 21 = .ok (.iand, 1) := by decide +kernel
theorem dJ6_bitCount_0f7a4_22 : decode cJ6_bitCount_0f7a4 22 = .ok (.iadd, 1) := by decide +kernel
theorem dJ6_bitCount_0f7a4_23 : decode cJ6_bitCount_0f7a4 23 = .ok (.istore_n 0, 1) := by decide +kernel
theorem dJ6_bitCount_0f7a4_24 : decode cJ6_bitCount_0f7a4 24 = .ok (.iload_n 0, 1) := by decide +kernel
theorem dJ6_bitCount_0f7a4_25 : decode cJ6_bitCount_0f7a4 25 = .ok (.iload_n 0, 1) := by decide +kernel
theorem dJ6_bitCount_0f7a4_26 : decode cJ6_bitCount_0f7a4 26 = .ok (.iconst 4, 1) := by decide +kernel
theorem dJ6_bitCount_0f7a4_27 : decode cJ6_bitCount_0f7a4 27 = .ok (.iushr, 1) := by decide +kernel
theorem dJ6_bitCount_0f7a4_28 : decode cJ6_bitCount_0f7a4 28 = .ok (.iadd, 1) := by decide +kernel
theorem dJ6_bitCount_0f7a4_29 : decode cJ6_bitCount_0f7a4 29 = .ok (.ldc_w 267, 3) := by decide +kernel
theorem dJ6_bitCount_0f7a4_32 : decode cJ6_bitCount_0f7a4 32 = .ok (.iand, 1) := by decide +kernel
theorem dJ6_bitCount_0f7a4_33 : decode cJ6_bitCount_0f7a4 33 = .ok (.istore_n 0, 1) := by decide +kernel
theorem dJ6_bitCount_0f7a4_34 : decode cJ6_bitCount_0f7a4 34 = .ok (.iload_n 0, 1) := by decide +kernel
theorem dJ6_bitCount_0f7a4_35 : decode cJ6_bitCount_0f7a4 35 = .ok (.iload_n 0, 1) := by decide +kernel
theorem dJ6_bitCount_0f7a4_36 : decode cJ6_bitCount_0f7a4 36 = .ok (.bipush 8, 2) := by decide +kernel
theorem dJ6_bitCount_0f7a4_38 : decode cJ6_bitCount_0f7a4 38 = .ok (.iushr, 1) := by decide +kernel
theorem dJ6_bitCount_0f7a4_39 : decode cJ6_bitCount_0f7a4 39 = .ok (.iadd, 1) := by decide +kernel
theorem dJ6_bitCount_0f7a4_40 : decode cJ6_bitCount_0f7a4 40 = .ok (.istore_n 0, 1) := by decide +kernel
theorem dJ6_bitCount_0f7a4_41 : decode cJ6_bitCount_0f7a4 41 = .ok (.iload_n 0, 1) := by decide +kernel
theorem dJ6_bitCount_0f7a4_42 : decode cJ6_bitCount_0f7a4 42 = .ok (.iload_n 0, 1) := by decide +kernel
theorem dJ6_bitCount_0f7a4_43 : decode cJ6_bitCount_0f7a4 43 = .ok (.bipush 16, 2) := by decide +kernel
theorem dJ6_bitCount_0f7a4_45 : decode cJ6_bitCount_0f7a4 45 = .ok (.iushr, 1) := by decide +kernel
theorem dJ6_bitCount_0f7a4_46 : decode cJ6_bitCount_0f7a4 46 = .ok (.iadd, 1) := by decide +kernel
theorem dJ6_bitCount_0f7a4_47 : decode cJ6_bitCount_0f7a4 47 = .ok (.istore_n 0, 1) := by decide +kernel
theorem dJ6_bitCount_0f7a4_48 : decode cJ6_bitCount_0f7a4 48 = .ok (.iload_n 0, 1) := by decide +kernel
theorem dJ6_bitCount_0f7a4_49 : decode cJ6_bitCount_0f7a4 49 = .ok (.bipush 63, 2) := by decide +kernel
theorem dJ6_bitCount_0f7a4_51 : decode cJ6_bitCount_0f7a4 51 = .ok (.iand, 1) := by decide +kernel
theorem dJ6_bitCount_0f7a4_52 : decode cJ6_bitCount_0f7a4 52 = .ok (.ireturn, 1) := by decide +kernel
theorem dJ7_fill_53178_0 : decode cJ7_fill_53178 0 = .ok (.iconst 0, 1) := by decide +kernel
theorem dJ7_fill_53178_1 : decode cJ7_fill_53178 1 = .ok (.istore_n 2, 1) := by decide +kernel
theorem dJ7_fill_53178_2 : decode cJ7_fill_53178 2 = .ok (.aload_n 0, 1) := by decide +kernel
theorem dJ7_fill_53178_3 : decode cJ7_fill_53178 3 = .ok (.arraylength, 1) := by decide +kernel
theorem dJ7_fill_53178_4 : decode cJ7_fill_53178 4 = .ok (.istore_n 3, 1) := by decide +kernel
theorem dJ7_fill_53178_5 : decode cJ7_fill_53178 5 = .ok (.iload_n 2, 1) := by decide +kernel
theorem dJ7_fill_53178_6 : decode cJ7_fill_53178 6 = .ok (.iload_n 3, 1) := by decide +kernel
theorem dJ7_fill_53178_7 : decode cJ7_fill_53178 7 = .ok (.if_icmp .ge 13, 3) := by decide +kernel
theorem dJ7_fill_53178_10 : decode cJ7_fill_53178 10 = .ok (.aload_n 0, 1) := by decide +kernel
theorem dJ7_fill_53178_11 : decode cJ7_fill_53178 11 = .ok (.iload_n 2, 1) := by decide +kernel
theorem dJ7_fill_53178_12 : decode cJ7_fill_53178 12 = .ok (.iload_n 1, 1) := by decide +kernel
theorem dJ7_fill_53178_13 : decode cJ7_fill_53178 13 = .ok (.iastore, 1) := by decide +kernel
theorem dJ7_fill_53178_14 : decode cJ7_fill_53178 14 = .ok (.iinc 2 1, 3) := by decide +kernel
theorem dJ7_fill_53178_17 : decode cJ7_fill_53178 17 = .ok (.goto (-12), 3) := by decide +kernel
theorem dJ7_fill_53178_20 : decode cJ7_fill_53178 20 = .ok (.return_, 1) := by decide +kernel
theorem dJ7_fill_d0a16_0 : decode cJ7_fill_d0a16 0 = .ok (.iconst 0, 1) := by decide +kernel
theorem dJ7_fill_d0a16_1 : decode cJ7_fill_d0a16 1 = .ok (.istore_n 3, 1) := by decide +kernel
theorem dJ7_fill_d0a16_2 : decode cJ7_fill_d0a16 2 = .ok (.aload_n 0, 1) := by decide +kernel
theorem dJ7_fill_d0a16_3 : decode cJ7_fill_d0a16 3 = .ok (.arraylength, 1) := by decide +kernel
theorem dJ7_fill_d0a16_4 : decode cJ7_fill_d0a16 4 = .ok (.istore 4, 2) := by decide +kernel
theorem dJ7_fill_d0a16_6 : decode cJ7_fill_d0a16 6 = .ok (.iload_n 3, 1) := by decide +kernel
theorem dJ7_fill_d0a16_7 : decode cJ7_fill_d0a16 7 = .ok (.iload 4, 2) := by decide +kernel
theorem dJ7_fill_d0a16_9 : decode cJ7_fill_d0a16 9 = .ok (.if_icmp .ge 13, 3) := by decide +kernel
theorem dJ7_fill_d0a16_12 : decode cJ7_fill_d0a16 12 = .ok (.aload_n 0, 1) := by decide +kernel
theorem dJ7_fill_d0a16_13 : decode cJ7_fill_d0a16 13 = .ok (.iload_n 3, 1) := by decide +kernel
theorem dJ7_fill_d0a16_14 : decode cJ7_fill_d0a16 14 = .ok (.lload_n 1, 1) := by decide +kernel
theorem dJ7_fill_d0a16_15 : decode cJ7_fill_d0a16 15 = .ok (.lastore, 1) := by decide +kernel
theorem dJ7_fill_d0a16_16 : decode cJ7_fill_d0a16 16 = .ok (.iinc 3 1, 3) := by decide +kernel
theorem dJ7_fill_d0a16_19 : decode cJ7_fill_d0a16 19 = .ok (.goto (-13), 3) := by decide +kernel
theorem dJ7_fill_d0a16_22 : decode cJ7_fill_d0a16 22 = .ok (.return_, 1) := by decide +kernel
theorem dX0_canSit_0 : decode cX0_canSit 0 = .ok (.iload_n 1, 1) := by decide +kernel
theorem dX0_canSit_1 : decode cX0_canSit 1 = .ok (.ifCond .ne 5, 3) := by decide +kernel
theorem dX0_canSit_4 : decode cX0_canSit 4 = .ok (.iconst 1, 1) := by decide +kernel
theorem dX0_canSit_5 : decode cX0_canSit 5 = .ok (.ireturn, 1) := by decide +kernel
theorem dX0_countPartings_0 : decode cX0_countPartings 0 = .ok (.aload_n 0, 1) := by decide +kernel
theorem dX0_countPartings_1 : decode cX0_countPartings 1 = .ok (.getfield 19, 3) := by decide +kernel
theorem dX0_countPartings_4 : decode cX0_countPartings 4 = .ok (.iconst 0, 1) := by decide +kernel
theorem dX0_countPartings_5 : decode cX0_countPartings 5 = .ok (.iconst 1, 1) := by decide +kernel
theorem dX0_countPartings_6 : decode cX0_countPartings 6 = .ok (.iastore, 1) := by decide +kernel
theorem dX0_countPartings_7 : decode cX0_countPartings 7 = .ok (.iconst 1, 1) := by decide +kernel
theorem dX0_countPartings_8 : decode cX0_countPartings 8 = .ok (.istore_n 1, 1) := by decide +kernel
theorem dX0_countPartings_9 : decode cX0_countPartings 9 = .ok (.iload_n 1, 1) := by decide +kernel
theorem dX0_countPartings_10 : decode cX0_countPartings 10 = .ok (.iconst 1, 1) := by decide +kernel
theorem dX0_countPartings_11 : decode cX0_countPartings 11 = .ok (.aload_n 0, 1) := by decide +kernel
theorem dX0_countPartings_12 : decode cX0_countPartings 12 = .ok (.getfield 9, 3) := by decide +kernel
theorem dX0_countPartings_15 : decode cX0_countPartings 15 = .ok (.ishl, 1) := by decide +kernel
theorem dX0_countPartings_16 : decode cX0_countPartings 16 = .ok (.if_icmp .ge 86, 3) := by decide +kernel
theorem dX0_countPartings_102 : decode cX0_countPartings 102 = .ok (.return_, 1) := by decide +kernel
theorem dX0_countPieces_0 : decode cX0_countPieces 0 = .ok (.iload_n 1, 1) := by decide +kernel
theorem dX0_countPieces_1 : decode cX0_countPieces 1 = .ok (.istore_n 3, 1) := by decide +kernel
theorem dX0_countPieces_2 : decode cX0_countPieces 2 = .ok (.iconst 0, 1) := by decide +kernel
theorem dX0_countPieces_3 : decode cX0_countPieces 3 = .ok (.istore 4, 2) := by decide +kernel
theorem dX0_countPieces_5 : decode cX0_countPieces 5 = .ok (.iconst 0, 1) := by decide +kernel
theorem dX0_countPieces_6 : decode cX0_countPieces 6 = .ok (.istore 5, 2) := by decide +kernel
theorem dX0_countPieces_8 : decode cX0_countPieces 8 = .ok (.iload 5, 2) := by decide +kernel
theorem dX0_countPieces_10 : decode cX0_countPieces 10 = .ok (.aload_n 0, 1) := by decide +kernel
theorem dX0_countPieces_11 : decode cX0_countPieces 11 = .ok (.getfield 9, 3) := by decide +kernel
theorem dX0_countPieces_14 : decode cX0_countPieces 14 = .ok (.if_icmp .ge 49, 3) := by decide +kernel
theorem dX0_countPieces_63 : decode cX0_countPieces 63 = .ok (.iload 4, 2) := by decide +kernel
theorem dX0_countPieces_65 : decode cX0_countPieces 65 = .ok (.ireturn, 1) := by decide +kernel
theorem dX0_draw_0 : decode cX0_draw 0 = .ok (.aload_n 0, 1) := by decide +kernel
theorem dX0_draw_1 : decode cX0_draw 1 = .ok (.aload_n 1, 1) := by decide +kernel
theorem dX0_draw_2 : decode cX0_draw 2 = .ok (.getfield 25, 3) := by decide +kernel
theorem dX0_draw_5 : decode cX0_draw 5 = .ok (.getfield 31, 3) := by decide +kernel
theorem dX0_draw_8 : decode cX0_draw 8 = .ok (.putfield 9, 3) := by decide +kernel
theorem dX0_draw_11 : decode cX0_draw 11 = .ok (.aload_n 0, 1) := by decide +kernel
theorem dX0_draw_12 : decode cX0_draw 12 = .ok (.getfield 15, 3) := by decide +kernel
theorem dX0_draw_15 : decode cX0_draw 15 = .ok (.iconst 0, 1) := by decide +kernel
theorem dX0_draw_16 : decode cX0_draw 16 = .ok (.invokestatic 34, 3) := by decide +kernel
theorem dX0_draw_19 : decode cX0_draw 19 = .ok (.iconst 0, 1) := by decide +kernel
theorem dX0_draw_20 : decode cX0_draw 20 = .ok (.istore 4, 2) := by decide +kernel
theorem dX0_draw_22 : decode cX0_draw 22 = .ok (.iload 4, 2) := by decide +kernel
theorem dX0_draw_24 : decode cX0_draw 24 = .ok (.aload_n 0, 1) := by decide +kernel
theorem dX0_draw_25 : decode cX0_draw 25 = .ok (.getfield 9, 3) := by decide +kernel
theorem dX0_draw_28 : decode cX0_draw 28 = .ok (.if_icmp .ge 78, 3) := by decide +kernel
theorem dX0_draw_106 : decode cX0_draw 106 = .ok (.return_, 1) := by decide +kernel
theorem dX0_init_0 : decode cX0_init 0 = .ok (.aload_n 0, 1) := by decide +kernel
theorem dX0_init_1 : decode cX0_init 1 = .ok (.invokespecial 3, 3) := by decide +kernel
theorem dX0_init_4 : decode cX0_init 4 = .ok (.aload_n 0, 1) := by decide +kernel
theorem dX0_init_5 : decode cX0_init 5 = .ok (.iconst 0, 1) := by decide +kernel
theorem dX0_init_6 : decode cX0_init 6 = .ok (.putfield 9, 3) := by decide +kernel
theorem dX0_init_9 : decode cX0_init 9 = .ok (.aload_n 0, 1) := by decide +kernel
theorem dX0_init_10 : decode cX0_init 10 = .ok (.bipush 10, 2) := by decide +kernel
theorem dX0_init_12 : decode cX0_init 12 = .ok (.newarray .int, 2) := by decide +kernel
theorem dX0_init_14 : decode cX0_init 14 = .ok (.putfield 15, 3) := by decide +kernel
theorem dX0_init_17 : decode cX0_init 17 = .ok (.aload_n 0, 1) := by decide +kernel
theorem dX0_init_18 : decode cX0_init 18 = .ok (.sipush 1024, 3) := by decide +kernel
theorem dX0_init_21 : decode cX0_init 21 = .ok (.newarray .int, 2) := by decide +kernel
theorem dX0_init_23 : decode cX0_init 23 = .ok (.putfield 19, 3) := by decide +kernel
theorem dX0_init_26 : decode cX0_init 26 = .ok (.aload_n 0, 1) := by decide +kernel
theorem dX0_init_27 : decode cX0_init 27 = .ok (.sipush 1024, 3) := by decide +kernel
theorem dX0_init_30 : decode cX0_init 30 = .ok (.newarray .int, 2) := by decide +kernel
theorem dX0_init_32 : decode cX0_init 32 = .ok (.putfield 22, 3) := by decide +kernel
theorem dX0_init_35 : decode cX0_init 35 = .ok (.return_, 1) := by decide +kernel
theorem dX0_leastBar_0 : decode cX0_leastBar 0 = .ok (.iload_n 1, 1) := by decide +kernel
theorem dX0_leastBar_1 : decode cX0_leastBar 1 = .ok (.invokestatic 49, 3) := by decide +kernel
theorem dX0_leastBar_4 : decode cX0_leastBar 4 = .ok (.iconst 2, 1) := by decide +kernel
theorem dX0_leastBar_5 : decode cX0_leastBar 5 = .ok (.aload_n 0, 1) := by decide +kernel
theorem dX0_leastBar_6 : decode cX0_leastBar 6 = .ok (.iload_n 1, 1) := by decide +kernel
theorem dX0_leastBar_7 : decode cX0_leastBar 7 = .ok (.invokevirtual 79, 3) := by decide +kernel
theorem dX0_leastBar_10 : decode cX0_leastBar 10 = .ok (.imul, 1) := by decide +kernel
theorem dX0_leastBar_11 : decode cX0_leastBar 11 = .ok (.isub, 1) := by decide +kernel
theorem dX0_leastBar_12 : decode cX0_leastBar 12 = .ok (.istore_n 2, 1) := by decide +kernel
theorem dX0_leastBar_13 : decode cX0_leastBar 13 = .ok (.iconst 0, 1) := by decide +kernel
theorem dX0_leastBar_14 : decode cX0_leastBar 14 = .ok (.istore_n 3, 1) := by decide +kernel
theorem dX0_leastBar_15 : decode cX0_leastBar 15 = .ok (.bipush 11, 2) := by decide +kernel
theorem dX0_leastBar_17 : decode cX0_leastBar 17 = .ok (.istore 4, 2) := by decide +kernel
theorem dX0_leastBar_19 : decode cX0_leastBar 19 = .ok (.iconst 0, 1) := by decide +kernel
theorem dX0_leastBar_20 : decode cX0_leastBar 20 = .ok (.istore 5, 2) := by decide +kernel
theorem dX0_leastBar_22 : decode cX0_leastBar 22 = .ok (.iload 5, 2) := by decide +kernel
theorem dX0_leastBar_24 : decode cX0_leastBar 24 = .ok (.iload_n 1, 1) := by decide +kernel
theorem dX0_leastBar_25 : decode cX0_leastBar 25 = .ok (.if_icmp .gt 57, 3) := by decide +kernel
theorem dX0_leastBar_28 : decode cX0_leastBar 28 = .ok (.iload 5, 2) := by decide +kernel
theorem dX0_leastBar_30 : decode cX0_leastBar 30 = .ok (.invokestatic 49, 3) := by decide +kernel
theorem dX0_leastBar_33 : decode cX0_leastBar 33 = .ok (.istore 6, 2) := by decide +kernel
theorem dX0_leastBar_35 : decode cX0_leastBar 35 = .ok (.iload 5, 2) := by decide +kernel
theorem dX0_leastBar_37 : decode cX0_leastBar 37 = .ok (.iload_n 1, 1) := by decide +kernel
theorem dX0_leastBar_38 : decode cX0_leastBar 38 = .ok (.iconst (-1), 1) := by decide +kernel
theorem dX0_leastBar_39 : decode cX0_leastBar 39 = .ok (.ixor, 1) := by decide +kernel
theorem dX0_leastBar_40 : decode cX0_leastBar 40 = .ok (.iand, 1) := by decide +kernel
theorem dX0_leastBar_41 : decode cX0_leastBar 41 = .ok (.ifCond .ne 35, 3) := by decide +kernel
theorem dX0_leastBar_44 : decode cX0_leastBar 44 = .ok (.iload 6, 2) := by decide +kernel
theorem dX0_leastBar_46 : decode cX0_leastBar 46 = .ok (.iload 4, 2) := by decide +kernel
theorem dX0_leastBar_48 : decode cX0_leastBar 48 = .ok (.if_icmp .ge 28, 3) := by decide +kernel
theorem dX0_leastBar_51 : decode cX0_leastBar 51 = .ok (.aload_n 0, 1) := by decide +kernel
theorem dX0_leastBar_52 : decode cX0_leastBar 52 = .ok (.iload_n 1, 1) := by decide +kernel
theorem dX0_leastBar_53 : decode cX0_leastBar 53 = .ok (.iload 5, 2) := by decide +kernel
theorem dX0_leastBar_55 : decode cX0_leastBar 55 = .ok (.iconst (-1), 1) := by decide +kernel
theorem dX0_leastBar_56 : decode cX0_leastBar 56 = .ok (.ixor, 1) := by decide +kernel
theorem dX0_leastBar_57 : decode cX0_leastBar 57 = .ok (.iand, 1) := by decide +kernel
theorem dX0_leastBar_58 : decode cX0_leastBar 58 = .ok (.iconst 1, 1) := by decide +kernel
theorem dX0_leastBar_59 : decode cX0_leastBar 59 = .ok (.invokevirtual 82, 3) := by decide +kernel
theorem dX0_leastBar_62 : decode cX0_leastBar 62 = .ok (.iload 6, 2) := by decide +kernel
theorem dX0_leastBar_64 : decode cX0_leastBar 64 = .ok (.isub, 1) := by decide +kernel
theorem dX0_leastBar_65 : decode cX0_leastBar 65 = .ok (.iload_n 2, 1) := by decide +kernel
theorem dX0_leastBar_66 : decode cX0_leastBar 66 = .ok (.if_icmp .ne 10, 3) := by decide +kernel
theorem dX0_leastBar_69 : decode cX0_leastBar 69 = .ok (.iload 5, 2) := by decide +kernel
theorem dX0_leastBar_71 : decode cX0_leastBar 71 = .ok (.istore_n 3, 1) := by decide +kernel
theorem dX0_leastBar_72 : decode cX0_leastBar 72 = .ok (.iload 6, 2) := by decide +kernel
theorem dX0_leastBar_74 : decode cX0_leastBar 74 = .ok (.istore 4, 2) := by decide +kernel
theorem dX0_leastBar_76 : decode cX0_leastBar 76 = .ok (.iinc 5 1, 3) := by decide +kernel
theorem dX0_leastBar_79 : decode cX0_leastBar 79 = .ok (.goto (-57), 3) := by decide +kernel
theorem dX0_leastBar_82 : decode cX0_leastBar 82 = .ok (.iload_n 3, 1) := by decide +kernel
theorem dX0_leastBar_83 : decode cX0_leastBar 83 = .ok (.ireturn, 1) := by decide +kernel
theorem dX0_leastCover_0 : decode cX0_leastCover 0 = .ok (.iconst (-1), 1) := by decide +kernel
theorem dX0_leastCover_1 : decode cX0_leastCover 1 = .ok (.istore_n 3, 1) := by decide +kernel
theorem dX0_leastCover_2 : decode cX0_leastCover 2 = .ok (.bipush 11, 2) := by decide +kernel
theorem dX0_leastCover_4 : decode cX0_leastCover 4 = .ok (.istore 4, 2) := by decide +kernel
theorem dX0_leastCover_6 : decode cX0_leastCover 6 = .ok (.iconst 0, 1) := by decide +kernel
theorem dX0_leastCover_7 : decode cX0_leastCover 7 = .ok (.istore 5, 2) := by decide +kernel
theorem dX0_leastCover_9 : decode cX0_leastCover 9 = .ok (.iload 5, 2) := by decide +kernel
theorem dX0_leastCover_11 : decode cX0_leastCover 11 = .ok (.iload_n 2, 1) := by decide +kernel
theorem dX0_leastCover_12 : decode cX0_leastCover 12 = .ok (.if_icmp .gt 48, 3) := by decide +kernel
theorem dX0_leastCover_15 : decode cX0_leastCover 15 = .ok (.iload 5, 2) := by decide +kernel
theorem dX0_leastCover_17 : decode cX0_leastCover 17 = .ok (.iload_n 2, 1) := by decide +kernel
theorem dX0_leastCover_18 : decode cX0_leastCover 18 = .ok (.iconst (-1), 1) := by decide +kernel
theorem dX0_leastCover_19 : decode cX0_leastCover 19 = .ok (.ixor, 1) := by decide +kernel
theorem dX0_leastCover_20 : decode cX0_leastCover 20 = .ok (.iand, 1) := by decide +kernel
theorem dX0_leastCover_21 : decode cX0_leastCover 21 = .ok (.ifCond .ne 33, 3) := by decide +kernel
theorem dX0_leastCover_24 : decode cX0_leastCover 24 = .ok (.iload 5, 2) := by decide +kernel
theorem dX0_leastCover_26 : decode cX0_leastCover 26 = .ok (.invokestatic 49, 3) := by decide +kernel
theorem dX0_leastCover_29 : decode cX0_leastCover 29 = .ok (.iload 4, 2) := by decide +kernel
theorem dX0_leastCover_31 : decode cX0_leastCover 31 = .ok (.if_icmp .ge 23, 3) := by decide +kernel
theorem dX0_leastCover_34 : decode cX0_leastCover 34 = .ok (.aload_n 0, 1) := by decide +kernel
theorem dX0_leastCover_35 : decode cX0_leastCover 35 = .ok (.iload_n 1, 1) := by decide +kernel
theorem dX0_leastCover_36 : decode cX0_leastCover 36 = .ok (.iload 5, 2) := by decide +kernel
theorem dX0_leastCover_38 : decode cX0_leastCover 38 = .ok (.invokevirtual 86, 3) := by decide +kernel
theorem dX0_leastCover_41 : decode cX0_leastCover 41 = .ok (.ifCond .eq 13, 3) := by decide +kernel
theorem dX0_leastCover_44 : decode cX0_leastCover 44 = .ok (.iload 5, 2) := by decide +kernel
theorem dX0_leastCover_46 : decode cX0_leastCover 46 = .ok (.istore_n 3, 1) := by decide +kernel
theorem dX0_leastCover_47 : decode cX0_leastCover 47 = .ok (.iload 5, 2) := by decide +kernel
theorem dX0_leastCover_49 : decode cX0_leastCover 49 = .ok (.invokestatic 49, 3) := by decide +kernel
theorem dX0_leastCover_52 : decode cX0_leastCover 52 = .ok (.istore 4, 2) := by decide +kernel
theorem dX0_leastCover_54 : decode cX0_leastCover 54 = .ok (.iinc 5 1, 3) := by decide +kernel
theorem dX0_leastCover_57 : decode cX0_leastCover 57 = .ok (.goto (-48), 3) := by decide +kernel
theorem dX0_leastCover_60 : decode cX0_leastCover 60 = .ok (.iload_n 3, 1) := by decide +kernel
theorem dX0_leastCover_61 : decode cX0_leastCover 61 = .ok (.ireturn, 1) := by decide +kernel
theorem dX0_opposeAllOf_0 : decode cX0_opposeAllOf 0 = .ok (.iconst 0, 1) := by decide +kernel
theorem dX0_opposeAllOf_1 : decode cX0_opposeAllOf 1 = .ok (.istore_n 3, 1) := by decide +kernel
theorem dX0_opposeAllOf_2 : decode cX0_opposeAllOf 2 = .ok (.iload_n 3, 1) := by decide +kernel
theorem dX0_opposeAllOf_3 : decode cX0_opposeAllOf 3 = .ok (.aload_n 0, 1) := by decide +kernel
theorem dX0_opposeAllOf_4 : decode cX0_opposeAllOf 4 = .ok (.getfield 9, 3) := by decide +kernel
theorem dX0_opposeAllOf_7 : decode cX0_opposeAllOf 7 = .ok (.if_icmp .ge 31, 3) := by decide +kernel
theorem dX0_opposeAllOf_38 : decode cX0_opposeAllOf 38 = .ok (.iconst 1, 1) := by decide +kernel
theorem dX0_opposeAllOf_39 : decode cX0_opposeAllOf 39 = .ok (.ireturn, 1) := by decide +kernel
theorem dX0_shareOf_0 : decode cX0_shareOf 0 = .ok (.lconst 0, 1) := by decide +kernel
theorem dX0_shareOf_1 : decode cX0_shareOf 1 = .ok (.lstore_n 3, 1) := by decide +kernel
theorem dX0_shareOf_2 : decode cX0_shareOf 2 = .ok (.iconst 0, 1) := by decide +kernel
theorem dX0_shareOf_3 : decode cX0_shareOf 3 = .ok (.istore 5, 2) := by decide +kernel
theorem dX0_shareOf_5 : decode cX0_shareOf 5 = .ok (.iload 5, 2) := by decide +kernel
theorem dX0_shareOf_7 : decode cX0_shareOf 7 = .ok (.iload_n 1, 1) := by decide +kernel
theorem dX0_shareOf_8 : decode cX0_shareOf 8 = .ok (.if_icmp .gt 96, 3) := by decide +kernel
theorem dX0_shareOf_11 : decode cX0_shareOf 11 = .ok (.iload 5, 2) := by decide +kernel
theorem dX0_shareOf_13 : decode cX0_shareOf 13 = .ok (.iload_n 1, 1) := by decide +kernel
theorem dX0_shareOf_14 : decode cX0_shareOf 14 = .ok (.iconst (-1), 1) := by decide +kernel
theorem dX0_shareOf_15 : decode cX0_shareOf 15 = .ok (.ixor, 1) := by decide +kernel
theorem dX0_shareOf_16 : decode cX0_shareOf 16 = .ok (.iand, 1) := by decide +kernel
theorem dX0_shareOf_17 : decode cX0_shareOf 17 = .ok (.ifCond .ne 81, 3) := by decide +kernel
theorem dX0_shareOf_20 : decode cX0_shareOf 20 = .ok (.aload_n 0, 1) := by decide +kernel
theorem dX0_shareOf_21 : decode cX0_shareOf 21 = .ok (.getfield 19, 3) := by decide +kernel
theorem dX0_shareOf_24 : decode cX0_shareOf 24 = .ok (.iload 5, 2) := by decide +kernel
theorem dX0_shareOf_26 : decode cX0_shareOf 26 = .ok (.iaload, 1) := by decide +kernel
theorem dX0_shareOf_27 : decode cX0_shareOf 27 = .ok (.ifCond .le 71, 3) := by decide +kernel
theorem dX0_shareOf_30 : decode cX0_shareOf 30 = .ok (.lconst 1, 1) := by decide +kernel
theorem dX0_shareOf_31 : decode cX0_shareOf 31 = .ok (.lstore 6, 2) := by decide +kernel
theorem dX0_shareOf_33 : decode cX0_shareOf 33 = .ok (.iconst 0, 1) := by decide +kernel
theorem dX0_shareOf_34 : decode cX0_shareOf 34 = .ok (.istore 8, 2) := by decide +kernel
theorem dX0_shareOf_36 : decode cX0_shareOf 36 = .ok (.iload 8, 2) := by decide +kernel
theorem dX0_shareOf_38 : decode cX0_shareOf 38 = .ok (.aload_n 0, 1) := by decide +kernel
theorem dX0_shareOf_39 : decode cX0_shareOf 39 = .ok (.getfield 9, 3) := by decide +kernel
theorem dX0_shareOf_42 : decode cX0_shareOf 42 = .ok (.if_icmp .ge 51, 3) := by decide +kernel
theorem dX0_shareOf_93 : decode cX0_shareOf 93 = .ok (.lload_n 3, 1) := by decide +kernel
theorem dX0_shareOf_94 : decode cX0_shareOf 94 = .ok (.lload 6, 2) := by decide +kernel
theorem dX0_shareOf_96 : decode cX0_shareOf 96 = .ok (.ladd, 1) := by decide +kernel
theorem dX0_shareOf_97 : decode cX0_shareOf 97 = .ok (.lstore_n 3, 1) := by decide +kernel
theorem dX0_shareOf_98 : decode cX0_shareOf 98 = .ok (.iinc 5 1, 3) := by decide +kernel
theorem dX0_shareOf_101 : decode cX0_shareOf 101 = .ok (.goto (-96), 3) := by decide +kernel
theorem dX0_shareOf_104 : decode cX0_shareOf 104 = .ok (.lload_n 3, 1) := by decide +kernel
theorem dX0_shareOf_105 : decode cX0_shareOf 105 = .ok (.lreturn, 1) := by decide +kernel
theorem dX0_twosOf_0 : decode cX0_twosOf 0 = .ok (.aload_n 0, 1) := by decide +kernel
theorem dX0_twosOf_1 : decode cX0_twosOf 1 = .ok (.getfield 22, 3) := by decide +kernel
theorem dX0_twosOf_4 : decode cX0_twosOf 4 = .ok (.iload_n 1, 1) := by decide +kernel
theorem dX0_twosOf_5 : decode cX0_twosOf 5 = .ok (.iaload, 1) := by decide +kernel
theorem dX0_twosOf_6 : decode cX0_twosOf 6 = .ok (.sipush 1000, 3) := by decide +kernel
theorem dX0_twosOf_9 : decode cX0_twosOf 9 = .ok (.idiv, 1) := by decide +kernel
theorem dX0_twosOf_10 : decode cX0_twosOf 10 = .ok (.ireturn, 1) := by decide +kernel
theorem dX0_weighPairs_0 : decode cX0_weighPairs 0 = .ok (.aload_n 0, 1) := by decide +kernel
theorem dX0_weighPairs_1 : decode cX0_weighPairs 1 = .ok (.getfield 22, 3) := by decide +kernel
theorem dX0_weighPairs_4 : decode cX0_weighPairs 4 = .ok (.iconst 0, 1) := by decide +kernel
theorem dX0_weighPairs_5 : decode cX0_weighPairs 5 = .ok (.iconst 0, 1) := by decide +kernel
theorem dX0_weighPairs_6 : decode cX0_weighPairs 6 = .ok (.iastore, 1) := by decide +kernel
theorem dX0_weighPairs_7 : decode cX0_weighPairs 7 = .ok (.iconst 1, 1) := by decide +kernel
theorem dX0_weighPairs_8 : decode cX0_weighPairs 8 = .ok (.istore_n 2, 1) := by decide +kernel
theorem dX0_weighPairs_9 : decode cX0_weighPairs 9 = .ok (.iload_n 2, 1) := by decide +kernel
theorem dX0_weighPairs_10 : decode cX0_weighPairs 10 = .ok (.iconst 1, 1) := by decide +kernel
theorem dX0_weighPairs_11 : decode cX0_weighPairs 11 = .ok (.aload_n 0, 1) := by decide +kernel
theorem dX0_weighPairs_12 : decode cX0_weighPairs 12 = .ok (.getfield 9, 3) := by decide +kernel
theorem dX0_weighPairs_15 : decode cX0_weighPairs 15 = .ok (.ishl, 1) := by decide +kernel
theorem dX0_weighPairs_16 : decode cX0_weighPairs 16 = .ok (.if_icmp .ge 93, 3) := by decide +kernel
theorem dX0_weighPairs_109 : decode cX0_weighPairs 109 = .ok (.return_, 1) := by decide +kernel
theorem dX0_weightOf_0 : decode cX0_weightOf 0 = .ok (.aload_n 0, 1) := by decide +kernel
theorem dX0_weightOf_1 : decode cX0_weightOf 1 = .ok (.getfield 22, 3) := by decide +kernel
theorem dX0_weightOf_4 : decode cX0_weightOf 4 = .ok (.iload_n 1, 1) := by decide +kernel
theorem dX0_weightOf_5 : decode cX0_weightOf 5 = .ok (.iaload, 1) := by decide +kernel
theorem dX0_weightOf_6 : decode cX0_weightOf 6 = .ok (.sipush 1000, 3) := by decide +kernel
theorem dX0_weightOf_9 : decode cX0_weightOf 9 = .ok (.irem, 1) := by decide +kernel
theorem dX0_weightOf_10 : decode cX0_weightOf 10 = .ok (.ireturn, 1) := by decide +kernel
theorem dX10_init_0 : decode cX10_init 0 = .ok (.aload_n 0, 1) := by decide +kernel
theorem dX10_init_1 : decode cX10_init 1 = .ok (.invokespecial 3, 3) := by decide +kernel
theorem dX10_init_4 : decode cX10_init 4 = .ok (.aload_n 0, 1) := by decide +kernel
theorem dX10_init_5 : decode cX10_init 5 = .ok (.iconst (-1), 1) := by decide +kernel
theorem dX10_init_6 : decode cX10_init 6 = .ok (.putfield 9, 3) := by decide +kernel
theorem dX10_init_9 : decode cX10_init 9 = .ok (.aload_n 0, 1) := by decide +kernel
theorem dX10_init_10 : decode cX10_init 10 = .ok (.iconst (-1), 1) := by decide +kernel
theorem dX10_init_11 : decode cX10_init 11 = .ok (.putfield 15, 3) := by decide +kernel
theorem dX10_init_14 : decode cX10_init 14 = .ok (.aload_n 0, 1) := by decide +kernel
theorem dX10_init_15 : decode cX10_init 15 = .ok (.iconst (-1), 1) := by decide +kernel
theorem dX10_init_16 : decode cX10_init 16 = .ok (.putfield 18, 3) := by decide +kernel
theorem dX10_init_19 : decode cX10_init 19 = .ok (.aload_n 0, 1) := by decide +kernel
theorem dX10_init_20 : decode cX10_init 20 = .ok (.iconst (-1), 1) := by decide +kernel
theorem dX10_init_21 : decode cX10_init 21 = .ok (.putfield 21, 3) := by decide +kernel
theorem dX10_init_24 : decode cX10_init 24 = .ok (.aload_n 0, 1) := by decide +kernel
theorem dX10_init_25 : decode cX10_init 25 = .ok (.sipush 1000, 3) := by decide +kernel
theorem dX10_init_28 : decode cX10_init 28 = .ok (.newarray .int, 2) := by decide +kernel
theorem dX10_init_30 : decode cX10_init 30 = .ok (.putfield 24, 3) := by decide +kernel
theorem dX10_init_33 : decode cX10_init 33 = .ok (.aload_n 0, 1) := by decide +kernel
theorem dX10_init_34 : decode cX10_init 34 = .ok (.sipush 1000, 3) := by decide +kernel
theorem dX10_init_37 : decode cX10_init 37 = .ok (.newarray .int, 2) := by decide +kernel
theorem dX10_init_39 : decode cX10_init 39 = .ok (.putfield 28, 3) := by decide +kernel
theorem dX10_init_42 : decode cX10_init 42 = .ok (.aload_n 0, 1) := by decide +kernel
theorem dX10_init_43 : decode cX10_init 43 = .ok (.sipush 1000, 3) := by decide +kernel
theorem dX10_init_46 : decode cX10_init 46 = .ok (.newarray .int, 2) := by decide +kernel
theorem dX10_init_48 : decode cX10_init 48 = .ok (.putfield 31, 3) := by decide +kernel
theorem dX10_init_51 : decode cX10_init 51 = .ok (.aload_n 0, 1) := by decide +kernel
theorem dX10_init_52 : decode cX10_init 52 = .ok (.sipush 1000, 3) := by decide +kernel
theorem dX10_init_55 : decode cX10_init 55 = .ok (.newarray .int, 2) := by decide +kernel
theorem dX10_init_57 : decode cX10_init 57 = .ok (.putfield 34, 3) := by decide +kernel
theorem dX10_init_60 : decode cX10_init 60 = .ok (.return_, 1) := by decide +kernel
theorem dX11_areTwoPeople_0 : decode cX11_areTwoPeople 0 = .ok (.aload_n 0, 1) := by decide +kernel
theorem dX11_areTwoPeople_1 : decode cX11_areTwoPeople 1 = .ok (.iload_n 1, 1) := by decide +kernel
theorem dX11_areTwoPeople_2 : decode cX11_areTwoPeople 2 = .ok (.invokevirtual 122, 3) := by decide +kernel
theorem dX11_areTwoPeople_5 : decode cX11_areTwoPeople 5 = .ok (.ifCond .eq 20, 3) := by decide +kernel
theorem dX11_areTwoPeople_25 : decode cX11_areTwoPeople 25 = .ok (.iconst 0, 1) := by decide +kernel
theorem dX11_areTwoPeople_26 : decode cX11_areTwoPeople 26 = .ok (.ireturn, 1) := by decide +kernel
theorem dX11_ayes_0 : decode cX11_ayes 0 = .ok (.aload_n 0, 1) := by decide +kernel
theorem dX11_ayes_1 : decode cX11_ayes 1 = .ok (.iload_n 1, 1) := by decide +kernel
theorem dX11_ayes_2 : decode cX11_ayes 2 = .ok (.invokevirtual 316, 3) := by decide +kernel
theorem dX11_ayes_5 : decode cX11_ayes 5 = .ok (.ifCond .eq 11, 3) := by decide +kernel
theorem dX11_ayes_8 : decode cX11_ayes 8 = .ok (.aload_n 0, 1) := by decide +kernel
theorem dX11_ayes_9 : decode cX11_ayes 9 = .ok (.iload_n 1, 1) := by decide +kernel
theorem dX11_ayes_10 : decode cX11_ayes 10 = .ok (.invokevirtual 319, 3) := by decide +kernel
theorem dX11_ayes_13 : decode cX11_ayes 13 = .ok (.goto 5, 3) := by decide +kernel
theorem dX11_ayes_16 : decode cX11_ayes 16 = .ok (.bipush (-3), 2) := by decide +kernel
theorem dX11_ayes_18 : decode cX11_ayes 18 = .ok (.ireturn, 1) := by decide +kernel
theorem dX11_bar_0 : decode cX11_bar 0 = .ok (.iload_n 2, 1) := by decide +kernel
theorem dX11_bar_1 : decode cX11_bar 1 = .ok (.ifCond .eq 11, 3) := by decide +kernel
theorem dX11_bar_4 : decode cX11_bar 4 = .ok (.iload_n 2, 1) := by decide +kernel
theorem dX11_bar_5 : decode cX11_bar 5 = .ok (.iconst 1, 1) := by decide +kernel
theorem dX11_bar_6 : decode cX11_bar 6 = .ok (.if_icmp .eq 6, 3) := by decide +kernel
theorem dX11_bar_9 : decode cX11_bar 9 = .ok (.bipush (-2), 2) := by decide +kernel
theorem dX11_bar_11 : decode cX11_bar 11 = .ok (.ireturn, 1) := by decide +kernel
theorem dX11_bar_12 : decode cX11_bar 12 = .ok (.aload_n 0, 1) := by decide +kernel
theorem dX11_bar_13 : decode cX11_bar 13 = .ok (.iload_n 1, 1) := by decide +kernel
theorem dX11_bar_14 : decode cX11_bar 14 = .ok (.invokevirtual 257, 3) := by decide +kernel
theorem dX11_bar_17 : decode cX11_bar 17 = .ok (.ifCond .ne 6, 3) := by decide +kernel
theorem dX11_bar_20 : decode cX11_bar 20 = .ok (.bipush (-3), 2) := by decide +kernel
theorem dX11_bar_22 : decode cX11_bar 22 = .ok (.ireturn, 1) := by decide +kernel
theorem dX11_bar_23 : decode cX11_bar 23 = .ok (.aload_n 0, 1) := by decide +kernel
theorem dX11_bar_24 : decode cX11_bar 24 = .ok (.invokevirtual 260, 3) := by decide +kernel
theorem dX11_bar_27 : decode cX11_bar 27 = .ok (.aload_n 0, 1) := by decide +kernel
theorem dX11_bar_28 : decode cX11_bar 28 = .ok (.getfield 56, 3) := by decide +kernel
theorem dX11_bar_31 : decode cX11_bar 31 = .ok (.aload_n 0, 1) := by decide +kernel
theorem dX11_bar_32 : decode cX11_bar 32 = .ok (.getfield 83, 3) := by decide +kernel
theorem dX11_bar_35 : decode cX11_bar 35 = .ok (.getfield 126, 3) := by decide +kernel
theorem dX11_bar_38 : decode cX11_bar 38 = .ok (.getfield 149, 3) := by decide +kernel
theorem dX11_bar_41 : decode cX11_bar 41 = .ok (.invokevirtual 263, 3) := by decide +kernel
theorem dX11_bar_44 : decode cX11_bar 44 = .ok (.aload_n 0, 1) := by decide +kernel
theorem dX11_bar_45 : decode cX11_bar 45 = .ok (.getfield 56, 3) := by decide +kernel
theorem dX11_bar_48 : decode cX11_bar 48 = .ok (.iload_n 1, 1) := by decide +kernel
theorem dX11_bar_49 : decode cX11_bar 49 = .ok (.invokevirtual 283, 3) := by decide +kernel
theorem dX11_bar_52 : decode cX11_bar 52 = .ok (.istore_n 3, 1) := by decide +kernel
theorem dX11_bar_53 : decode cX11_bar 53 = .ok (.iload_n 2, 1) := by decide +kernel
theorem dX11_bar_54 : decode cX11_bar 54 = .ok (.ifCond .ne 10, 3) := by decide +kernel
theorem dX11_bar_57 : decode cX11_bar 57 = .ok (.iload_n 3, 1) := by decide +kernel
theorem dX11_bar_58 : decode cX11_bar 58 = .ok (.invokestatic 193, 3) := by decide +kernel
theorem dX11_bar_61 : decode cX11_bar 61 = .ok (.goto 4, 3) := by decide +kernel
theorem dX11_bar_64 : decode cX11_bar 64 = .ok (.iload_n 3, 1) := by decide +kernel
theorem dX11_bar_65 : decode cX11_bar 65 = .ok (.ireturn, 1) := by decide +kernel
theorem dX11_bestDay_0 : decode cX11_bestDay 0 = .ok (.iconst (-1), 1) := by decide +kernel
theorem dX11_bestDay_1 : decode cX11_bestDay 1 = .ok (.istore_n 1, 1) := by decide +kernel
theorem dX11_bestDay_2 : decode cX11_bestDay 2 = .ok (.iconst 0, 1) := by decide +kernel
theorem dX11_bestDay_3 : decode cX11_bestDay 3 = .ok (.istore_n 2, 1) := by decide +kernel
theorem dX11_bestDay_4 : decode cX11_bestDay 4 = .ok (.iconst 0, 1) := by decide +kernel
theorem dX11_bestDay_5 : decode cX11_bestDay 5 = .ok (.istore_n 3, 1) := by decide +kernel
theorem dX11_bestDay_6 : decode cX11_bestDay 6 = .ok (.iload_n 3, 1) := by decide +kernel
theorem dX11_bestDay_7 : decode cX11_bestDay 7 = .ok (.bipush 7, 2) := by decide +kernel
theorem dX11_bestDay_9 : decode cX11_bestDay 9 = .ok (.if_icmp .ge 116, 3) := by decide +kernel
theorem dX11_bestDay_12 : decode cX11_bestDay 12 = .ok (.aload_n 0, 1) := by decide +kernel
theorem dX11_bestDay_13 : decode cX11_bestDay 13 = .ok (.getfield 56, 3) := by decide +kernel
theorem dX11_bestDay_16 : decode cX11_bestDay 16 = .ok (.aload_n 0, 1) := by decide +kernel
theorem dX11_bestDay_17 : decode cX11_bestDay 17 = .ok (.getfield 83, 3) := by decide +kernel
theorem dX11_bestDay_20 : decode cX11_bestDay 20 = .ok (.aload_n 0, 1) := by decide +kernel
theorem dX11_bestDay_21 : decode cX11_bestDay 21 = .ok (.getfield 83, 3) := by decide +kernel
theorem dX11_bestDay_24 : decode cX11_bestDay 24 = .ok (.getfield 165, 3) := by decide +kernel
theorem dX11_bestDay_27 : decode cX11_bestDay 27 = .ok (.iload_n 3, 1) := by decide +kernel
theorem dX11_bestDay_28 : decode cX11_bestDay 28 = .ok (.iadd, 1) := by decide +kernel
theorem dX11_bestDay_29 : decode cX11_bestDay 29 = .ok (.aload_n 0, 1) := by decide +kernel
theorem dX11_bestDay_30 : decode cX11_bestDay 30 = .ok (.getfield 49, 3) := by decide +kernel
theorem dX11_bestDay_33 : decode cX11_bestDay 33 = .ok (.invokevirtual 243, 3) := by decide +kernel
theorem dX11_bestDay_36 : decode cX11_bestDay 36 = .ok (.aload_n 0, 1) := by decide +kernel
theorem dX11_bestDay_37 : decode cX11_bestDay 37 = .ok (.getfield 56, 3) := by decide +kernel
theorem dX11_bestDay_40 : decode cX11_bestDay 40 = .ok (.aload_n 0, 1) := by decide +kernel
theorem dX11_bestDay_41 : decode cX11_bestDay 41 = .ok (.getfield 83, 3) := by decide +kernel
theorem dX11_bestDay_44 : decode cX11_bestDay 44 = .ok (.getfield 126, 3) := by decide +kernel
theorem dX11_bestDay_47 : decode cX11_bestDay 47 = .ok (.getfield 149, 3) := by decide +kernel
theorem dX11_bestDay_50 : decode cX11_bestDay 50 = .ok (.invokevirtual 263, 3) := by decide +kernel
theorem dX11_bestDay_53 : decode cX11_bestDay 53 = .ok (.iload_n 3, 1) := by decide +kernel
theorem dX11_bestDay_54 : decode cX11_bestDay 54 = .ok (.istore 4, 2) := by decide +kernel
theorem dX11_bestDay_56 : decode cX11_bestDay 56 = .ok (.iload 4, 2) := by decide +kernel
theorem dX11_bestDay_58 : decode cX11_bestDay 58 = .ok (.bipush 100, 2) := by decide +kernel
theorem dX11_bestDay_60 : decode cX11_bestDay 60 = .ok (.if_icmp .ge 59, 3) := by decide +kernel
theorem dX11_bestDay_63 : decode cX11_bestDay 63 = .ok (.aload_n 0, 1) := by decide +kernel
theorem dX11_bestDay_64 : decode cX11_bestDay 64 = .ok (.getfield 56, 3) := by decide +kernel
theorem dX11_bestDay_67 : decode cX11_bestDay 67 = .ok (.aload_n 0, 1) := by decide +kernel
theorem dX11_bestDay_68 : decode cX11_bestDay 68 = .ok (.getfield 83, 3) := by decide +kernel
theorem dX11_bestDay_71 : decode cX11_bestDay 71 = .ok (.aload_n 0, 1) := by decide +kernel
theorem dX11_bestDay_72 : decode cX11_bestDay 72 = .ok (.getfield 83, 3) := by decide +kernel
theorem dX11_bestDay_75 : decode cX11_bestDay 75 = .ok (.getfield 165, 3) := by decide +kernel
theorem dX11_bestDay_78 : decode cX11_bestDay 78 = .ok (.iload 4, 2) := by decide +kernel
theorem dX11_bestDay_80 : decode cX11_bestDay 80 = .ok (.iadd, 1) := by decide +kernel
theorem dX11_bestDay_81 : decode cX11_bestDay 81 = .ok (.invokevirtual 168, 3) := by decide +kernel
theorem dX11_bestDay_84 : decode cX11_bestDay 84 = .ok (.invokevirtual 267, 3) := by decide +kernel
theorem dX11_bestDay_87 : decode cX11_bestDay 87 = .ok (.istore 5, 2) := by decide +kernel
theorem dX11_bestDay_89 : decode cX11_bestDay 89 = .ok (.iload 5, 2) := by decide +kernel
theorem dX11_bestDay_91 : decode cX11_bestDay 91 = .ok (.iload_n 1, 1) := by decide +kernel
theorem dX11_bestDay_92 : decode cX11_bestDay 92 = .ok (.if_icmp .gt 15, 3) := by decide +kernel
theorem dX11_bestDay_95 : decode cX11_bestDay 95 = .ok (.iload 5, 2) := by decide +kernel
theorem dX11_bestDay_97 : decode cX11_bestDay 97 = .ok (.iload_n 1, 1) := by decide +kernel
theorem dX11_bestDay_98 : decode cX11_bestDay 98 = .ok (.if_icmp .ne 15, 3) := by decide +kernel
theorem dX11_bestDay_101 : decode cX11_bestDay 101 = .ok (.iload 4, 2) := by decide +kernel
theorem dX11_bestDay_103 : decode cX11_bestDay 103 = .ok (.iload_n 2, 1) := by decide +kernel
theorem dX11_bestDay_104 : decode cX11_bestDay 104 = .ok (.if_icmp .ge 9, 3) := by decide +kernel
theorem dX11_bestDay_107 : decode cX11_bestDay 107 = .ok (.iload 5, 2) := by decide +kernel
theorem dX11_bestDay_109 : decode cX11_bestDay 109 = .ok (.istore_n 1, 1) := by decide +kernel
theorem dX11_bestDay_110 : decode cX11_bestDay 110 = .ok (.iload 4, 2) := by decide +kernel
theorem dX11_bestDay_112 : decode cX11_bestDay 112 = .ok (.istore_n 2, 1) := by decide +kernel
theorem dX11_bestDay_113 : decode cX11_bestDay 113 = .ok (.iinc 4 7, 3) := by decide +kernel
theorem dX11_bestDay_116 : decode cX11_bestDay 116 = .ok (.goto (-60), 3) := by decide +kernel
theorem dX11_bestDay_119 : decode cX11_bestDay 119 = .ok (.iinc 3 1, 3) := by decide +kernel
theorem dX11_bestDay_122 : decode cX11_bestDay 122 = .ok (.goto (-116), 3) := by decide +kernel
theorem dX11_bestDay_125 : decode cX11_bestDay 125 = .ok (.iload_n 2, 1) := by decide +kernel
theorem dX11_bestDay_126 : decode cX11_bestDay 126 = .ok (.ireturn, 1) := by decide +kernel
theorem dX11_call_0 : decode cX11_call 0 = .ok (.aload_n 0, 1) := by decide +kernel
theorem dX11_call_1 : decode cX11_call 1 = .ok (.sipush 200, 3) := by decide +kernel
theorem dX11_call_4 : decode cX11_call 4 = .ok (.iload_n 1, 1) := by decide +kernel
theorem dX11_call_5 : decode cX11_call 5 = .ok (.invokevirtual 190, 3) := by decide +kernel
theorem dX11_call_8 : decode cX11_call 8 = .ok (.ireturn, 1) := by decide +kernel
theorem dX11_chance_0 : decode cX11_chance 0 = .ok (.iload_n 2, 1) := by decide +kernel
theorem dX11_chance_1 : decode cX11_chance 1 = .ok (.ifCond .eq 12, 3) := by decide +kernel
theorem dX11_chance_4 : decode cX11_chance 4 = .ok (.iload_n 2, 1) := by decide +kernel
theorem dX11_chance_5 : decode cX11_chance 5 = .ok (.iconst 1, 1) := by decide +kernel
theorem dX11_chance_6 : decode cX11_chance 6 = .ok (.if_icmp .eq 7, 3) := by decide +kernel
theorem dX11_chance_9 : decode cX11_chance 9 = .ok (.ldc2_w 343, 3) := by decide +kernel
theorem dX11_chance_12 : decode cX11_chance 12 = .ok (.lreturn, 1) := by decide +kernel
theorem dX11_chance_13 : decode cX11_chance 13 = .ok (.aload_n 0, 1) := by decide +kernel
theorem dX11_chance_14 : decode cX11_chance 14 = .ok (.iload_n 1, 1) := by decide +kernel
theorem dX11_chance_15 : decode cX11_chance 15 = .ok (.invokevirtual 257, 3) := by decide +kernel
theorem dX11_chance_18 : decode cX11_chance 18 = .ok (.ifCond .ne 7, 3) := by decide +kernel
theorem dX11_chance_21 : decode cX11_chance 21 = .ok (.ldc2_w 345, 3) := by decide +kernel
theorem dX11_chance_24 : decode cX11_chance 24 = .ok (.lreturn, 1) := by decide +kernel
theorem dX11_chance_25 : decode cX11_chance 25 = .ok (.aload_n 0, 1) := by decide +kernel
theorem dX11_chance_26 : decode cX11_chance 26 = .ok (.invokevirtual 260, 3) := by decide +kernel
theorem dX11_chance_29 : decode cX11_chance 29 = .ok (.aload_n 0, 1) := by decide +kernel
theorem dX11_chance_30 : decode cX11_chance 30 = .ok (.getfield 56, 3) := by decide +kernel
theorem dX11_chance_33 : decode cX11_chance 33 = .ok (.invokevirtual 277, 3) := by decide +kernel
theorem dX11_chance_36 : decode cX11_chance 36 = .ok (.aload_n 0, 1) := by decide +kernel
theorem dX11_chance_37 : decode cX11_chance 37 = .ok (.getfield 56, 3) := by decide +kernel
theorem dX11_chance_40 : decode cX11_chance 40 = .ok (.iload_n 1, 1) := by decide +kernel
theorem dX11_chance_41 : decode cX11_chance 41 = .ok (.aload_n 0, 1) := by decide +kernel
theorem dX11_chance_42 : decode cX11_chance 42 = .ok (.getfield 83, 3) := by decide +kernel
theorem dX11_chance_45 : decode cX11_chance 45 = .ok (.getfield 126, 3) := by decide +kernel
theorem dX11_chance_48 : decode cX11_chance 48 = .ok (.getfield 146, 3) := by decide +kernel
theorem dX11_chance_51 : decode cX11_chance 51 = .ok (.invokevirtual 347, 3) := by decide +kernel
theorem dX11_chance_54 : decode cX11_chance 54 = .ok (.lstore_n 3, 1) := by decide +kernel
theorem dX11_chance_55 : decode cX11_chance 55 = .ok (.lconst 1, 1) := by decide +kernel
theorem dX11_chance_56 : decode cX11_chance 56 = .ok (.lstore 5, 2) := by decide +kernel
theorem dX11_chance_58 : decode cX11_chance 58 = .ok (.iload_n 1, 1) := by decide +kernel
theorem dX11_chance_59 : decode cX11_chance 59 = .ok (.invokestatic 193, 3) := by decide +kernel
theorem dX11_chance_62 : decode cX11_chance 62 = .ok (.istore 7, 2) := by decide +kernel
theorem dX11_chance_64 : decode cX11_chance 64 = .ok (.iload 7, 2) := by decide +kernel
theorem dX11_chance_66 : decode cX11_chance 66 = .ok (.ifCond .le 17, 3) := by decide +kernel
theorem dX11_chance_83 : decode cX11_chance 83 = .ok (.lload_n 3, 1) := by decide +kernel
theorem dX11_chance_84 : decode cX11_chance 84 = .ok (.lload 5, 2) := by decide +kernel
theorem dX11_chance_86 : decode cX11_chance 86 = .ok (.invokestatic 353, 3) := by decide +kernel
theorem dX11_chance_89 : decode cX11_chance 89 = .ok (.lstore 7, 2) := by decide +kernel
theorem dX11_chance_91 : decode cX11_chance 91 = .ok (.lload 7, 2) := by decide +kernel
theorem dX11_chance_93 : decode cX11_chance 93 = .ok (.lconst 0, 1) := by decide +kernel
theorem dX11_chance_94 : decode cX11_chance 94 = .ok (.lcmp, 1) := by decide +kernel
theorem dX11_chance_95 : decode cX11_chance 95 = .ok (.ifCond .ne 5, 3) := by decide +kernel
theorem dX11_chance_100 : decode cX11_chance 100 = .ok (.iload_n 2, 1) := by decide +kernel
theorem dX11_chance_101 : decode cX11_chance 101 = .ok (.ifCond .ne 10, 3) := by decide +kernel
theorem dX11_chance_104 : decode cX11_chance 104 = .ok (.lload_n 3, 1) := by decide +kernel
theorem dX11_chance_105 : decode cX11_chance 105 = .ok (.lload 7, 2) := by decide +kernel
theorem dX11_chance_107 : decode cX11_chance 107 = .ok (.ldiv, 1) := by decide +kernel
theorem dX11_chance_108 : decode cX11_chance 108 = .ok (.goto 8, 3) := by decide +kernel
theorem dX11_chance_111 : decode cX11_chance 111 = .ok (.lload 5, 2) := by decide +kernel
theorem dX11_chance_113 : decode cX11_chance 113 = .ok (.lload 7, 2) := by decide +kernel
theorem dX11_chance_115 : decode cX11_chance 115 = .ok (.ldiv, 1) := by decide +kernel
theorem dX11_chance_116 : decode cX11_chance 116 = .ok (.lreturn, 1) := by decide +kernel
theorem dX11_commonDivisor_0 : decode cX11_commonDivisor 0 = .ok (.lload_n 0, 1) := by decide +kernel
theorem dX11_commonDivisor_1 : decode cX11_commonDivisor 1 = .ok (.lstore 4, 2) := by decide +kernel
theorem dX11_commonDivisor_3 : decode cX11_commonDivisor 3 = .ok (.lload_n 2, 1) := by decide +kernel
theorem dX11_commonDivisor_4 : decode cX11_commonDivisor 4 = .ok (.lstore 6, 2) := by decide +kernel
theorem dX11_commonDivisor_6 : decode cX11_commonDivisor 6 = .ok (.iconst 0, 1) := by decide +kernel
theorem dX11_commonDivisor_7 : decode cX11_commonDivisor 7 = .ok (.istore 8, 2) := by decide +kernel
theorem dX11_commonDivisor_9 : decode cX11_commonDivisor 9 = .ok (.iload 8, 2) := by decide +kernel
theorem dX11_commonDivisor_11 : decode cX11_commonDivisor 11 = .ok (.sipush 200, 3) := by decide +kernel
theorem dX11_commonDivisor_14 : decode cX11_commonDivisor 14 = .ok (.if_icmp .ge 31, 3) := by decide +kernel
theorem dX11_commonDivisor_17 : decode cX11_commonDivisor 17 = .ok (.lload 6, 2) := by decide +kernel
theorem dX11_commonDivisor_19 : decode cX11_commonDivisor 19 = .ok (.lconst 0, 1) := by decide +kernel
theorem dX11_commonDivisor_20 : decode cX11_commonDivisor 20 = .ok (.lcmp, 1) := by decide +kernel
theorem dX11_commonDivisor_21 : decode cX11_commonDivisor 21 = .ok (.ifCond .eq 24, 3) := by decide +kernel
theorem dX11_commonDivisor_24 : decode cX11_commonDivisor 24 = .ok (.lload 4, 2) := by decide +kernel
theorem dX11_commonDivisor_26 : decode cX11_commonDivisor 26 = .ok (.lload 6, 2) := by decide +kernel
theorem dX11_commonDivisor_28 : decode cX11_commonDivisor 28 = .ok (.lrem, 1) := by decide +kernel
theorem dX11_commonDivisor_29 : decode cX11_commonDivisor 29 = .ok (.lstore 9, 2) := by decide +kernel
theorem dX11_commonDivisor_31 : decode cX11_commonDivisor 31 = .ok (.lload 6, 2) := by decide +kernel
theorem dX11_commonDivisor_33 : decode cX11_commonDivisor 33 = .ok (.lstore 4, 2) := by decide +kernel
theorem dX11_commonDivisor_35 : decode cX11_commonDivisor 35 = .ok (.lload 9, 2) := by decide +kernel
theorem dX11_commonDivisor_37 : decode cX11_commonDivisor 37 = .ok (.lstore 6, 2) := by decide +kernel
theorem dX11_commonDivisor_39 : decode cX11_commonDivisor 39 = .ok (.iinc 8 1, 3) := by decide +kernel
theorem dX11_commonDivisor_42 : decode cX11_commonDivisor 42 = .ok (.goto (-33), 3) := by decide +kernel
theorem dX11_commonDivisor_45 : decode cX11_commonDivisor 45 = .ok (.lload 4, 2) := by decide +kernel
theorem dX11_commonDivisor_47 : decode cX11_commonDivisor 47 = .ok (.lreturn, 1) := by decide +kernel
theorem dX11_count_0 : decode cX11_count 0 = .ok (.iload_n 1, 1) := by decide +kernel
theorem dX11_count_1 : decode cX11_count 1 = .ok (.tableswitch 126 0 8 #[51, 62, 73, 81, 89, 97, 102, 110, 115], 51) := by decide +kernel
theorem dX11_count_52 : decode cX11_count 52 = .ok (.aload_n 0, 1) := by decide +kernel
theorem dX11_count_53 : decode cX11_count 53 = .ok (.getfield 83, 3) := by decide +kernel
theorem dX11_count_56 : decode cX11_count 56 = .ok (.getfield 126, 3) := by decide +kernel
theorem dX11_count_59 : decode cX11_count 59 = .ok (.getfield 368, 3) := by decide +kernel
theorem dX11_count_62 : decode cX11_count 62 = .ok (.ireturn, 1) := by decide +kernel
theorem dX11_count_63 : decode cX11_count 63 = .ok (.aload_n 0, 1) := by decide +kernel
theorem dX11_count_64 : decode cX11_count 64 = .ok (.getfield 83, 3) := by decide +kernel
theorem dX11_count_67 : decode cX11_count 67 = .ok (.getfield 126, 3) := by decide +kernel
theorem dX11_count_70 : decode cX11_count 70 = .ok (.getfield 159, 3) := by decide +kernel
theorem dX11_count_73 : decode cX11_count 73 = .ok (.ireturn, 1) := by decide +kernel
theorem dX11_count_74 : decode cX11_count 74 = .ok (.aload_n 0, 1) := by decide +kernel
theorem dX11_count_75 : decode cX11_count 75 = .ok (.getfield 83, 3) := by decide +kernel
theorem dX11_count_78 : decode cX11_count 78 = .ok (.invokevirtual 155, 3) := by decide +kernel
theorem dX11_count_81 : decode cX11_count 81 = .ok (.ireturn, 1) := by decide +kernel
theorem dX11_count_82 : decode cX11_count 82 = .ok (.aload_n 0, 1) := by decide +kernel
theorem dX11_count_83 : decode cX11_count 83 = .ok (.getfield 83, 3) := by decide +kernel
theorem dX11_count_86 : decode cX11_count 86 = .ok (.getfield 152, 3) := by decide +kernel
theorem dX11_count_89 : decode cX11_count 89 = .ok (.ireturn, 1) := by decide +kernel
theorem dX11_count_90 : decode cX11_count 90 = .ok (.aload_n 0, 1) := by decide +kernel
theorem dX11_count_91 : decode cX11_count 91 = .ok (.getfield 83, 3) := by decide +kernel
theorem dX11_count_94 : decode cX11_count 94 = .ok (.getfield 165, 3) := by decide +kernel
theorem dX11_count_97 : decode cX11_count 97 = .ok (.ireturn, 1) := by decide +kernel
theorem dX11_count_98 : decode cX11_count 98 = .ok (.aload_n 0, 1) := by decide +kernel
theorem dX11_count_99 : decode cX11_count 99 = .ok (.invokevirtual 371, 3) := by decide +kernel
theorem dX11_count_102 : decode cX11_count 102 = .ok (.ireturn, 1) := by decide +kernel
theorem dX11_count_103 : decode cX11_count 103 = .ok (.aload_n 0, 1) := by decide +kernel
theorem dX11_count_104 : decode cX11_count 104 = .ok (.getfield 96, 3) := by decide +kernel
theorem dX11_count_107 : decode cX11_count 107 = .ok (.getfield 216, 3) := by decide +kernel
theorem dX11_count_110 : decode cX11_count 110 = .ok (.ireturn, 1) := by decide +kernel
theorem dX11_count_111 : decode cX11_count 111 = .ok (.aload_n 0, 1) := by decide +kernel
theorem dX11_count_112 : decode cX11_count 112 = .ok (.getfield 13, 3) := by decide +kernel
theorem dX11_count_115 : decode cX11_count 115 = .ok (.ireturn, 1) := by decide +kernel
theorem dX11_count_116 : decode cX11_count 116 = .ok (.aload_n 0, 1) := by decide +kernel
theorem dX11_count_117 : decode cX11_count 117 = .ok (.getfield 83, 3) := by decide +kernel
theorem dX11_count_120 : decode cX11_count 120 = .ok (.getfield 126, 3) := by decide +kernel
theorem dX11_count_123 : decode cX11_count 123 = .ok (.getfield 119, 3) := by decide +kernel
theorem dX11_count_126 : decode cX11_count 126 = .ok (.ireturn, 1) := by decide +kernel
theorem dX11_count_127 : decode cX11_count 127 = .ok (.iconst (-1), 1) := by decide +kernel
theorem dX11_count_128 : decode cX11_count 128 = .ok (.ireturn, 1) := by decide +kernel
theorem dX11_cover_0 : decode cX11_cover 0 = .ok (.iload_n 2, 1) := by decide +kernel
theorem dX11_cover_1 : decode cX11_cover 1 = .ok (.ifCond .eq 11, 3) := by decide +kernel
theorem dX11_cover_4 : decode cX11_cover 4 = .ok (.iload_n 2, 1) := by decide +kernel
theorem dX11_cover_5 : decode cX11_cover 5 = .ok (.iconst 1, 1) := by decide +kernel
theorem dX11_cover_6 : decode cX11_cover 6 = .ok (.if_icmp .eq 6, 3) := by decide +kernel
theorem dX11_cover_9 : decode cX11_cover 9 = .ok (.bipush (-2), 2) := by decide +kernel
theorem dX11_cover_11 : decode cX11_cover 11 = .ok (.ireturn, 1) := by decide +kernel
theorem dX11_cover_12 : decode cX11_cover 12 = .ok (.aload_n 0, 1) := by decide +kernel
theorem dX11_cover_13 : decode cX11_cover 13 = .ok (.iload_n 1, 1) := by decide +kernel
theorem dX11_cover_14 : decode cX11_cover 14 = .ok (.invokevirtual 257, 3) := by decide +kernel
theorem dX11_cover_17 : decode cX11_cover 17 = .ok (.ifCond .ne 6, 3) := by decide +kernel
theorem dX11_cover_20 : decode cX11_cover 20 = .ok (.bipush (-3), 2) := by decide +kernel
theorem dX11_cover_22 : decode cX11_cover 22 = .ok (.ireturn, 1) := by decide +kernel
theorem dX11_cover_23 : decode cX11_cover 23 = .ok (.aload_n 0, 1) := by decide +kernel
theorem dX11_cover_24 : decode cX11_cover 24 = .ok (.invokevirtual 260, 3) := by decide +kernel
theorem dX11_cover_27 : decode cX11_cover 27 = .ok (.aload_n 0, 1) := by decide +kernel
theorem dX11_cover_28 : decode cX11_cover 28 = .ok (.getfield 56, 3) := by decide +kernel
theorem dX11_cover_31 : decode cX11_cover 31 = .ok (.iload_n 1, 1) := by decide +kernel
theorem dX11_cover_32 : decode cX11_cover 32 = .ok (.aload_n 0, 1) := by decide +kernel
theorem dX11_cover_33 : decode cX11_cover 33 = .ok (.getfield 83, 3) := by decide +kernel
theorem dX11_cover_36 : decode cX11_cover 36 = .ok (.invokevirtual 155, 3) := by decide +kernel
theorem dX11_cover_39 : decode cX11_cover 39 = .ok (.iload_n 1, 1) := by decide +kernel
theorem dX11_cover_40 : decode cX11_cover 40 = .ok (.iconst (-1), 1) := by decide +kernel
theorem dX11_cover_41 : decode cX11_cover 41 = .ok (.ixor, 1) := by decide +kernel
theorem dX11_cover_42 : decode cX11_cover 42 = .ok (.iand, 1) := by decide +kernel
theorem dX11_cover_43 : decode cX11_cover 43 = .ok (.invokevirtual 290, 3) := by decide +kernel
theorem dX11_cover_46 : decode cX11_cover 46 = .ok (.iload_n 2, 1) := by decide +kernel
theorem dX11_cover_47 : decode cX11_cover 47 = .ok (.invokestatic 293, 3) := by decide +kernel
theorem dX11_cover_50 : decode cX11_cover 50 = .ok (.ireturn, 1) := by decide +kernel
theorem dX11_days_0 : decode cX11_days 0 = .ok (.iload_n 1, 1) := by decide +kernel
theorem dX11_days_1 : decode cX11_days 1 = .ok (.iconst 1, 1) := by decide +kernel
theorem dX11_days_2 : decode cX11_days 2 = .ok (.if_icmp .lt 9, 3) := by decide +kernel
theorem dX11_days_5 : decode cX11_days 5 = .ok (.iload_n 1, 1) := by decide +kernel
theorem dX11_days_6 : decode cX11_days 6 = .ok (.bipush 99, 2) := by decide +kernel
theorem dX11_days_8 : decode cX11_days 8 = .ok (.if_icmp .le 6, 3) := by decide +kernel
theorem dX11_days_11 : decode cX11_days 11 = .ok (.bipush (-3), 2) := by decide +kernel
theorem dX11_days_13 : decode cX11_days 13 = .ok (.ireturn, 1) := by decide +kernel
theorem dX11_days_14 : decode cX11_days 14 = .ok (.aload_n 0, 1) := by decide +kernel
theorem dX11_days_15 : decode cX11_days 15 = .ok (.getfield 87, 3) := by decide +kernel
theorem dX11_days_18 : decode cX11_days 18 = .ok (.aload_n 0, 1) := by decide +kernel
theorem dX11_days_19 : decode cX11_days 19 = .ok (.getfield 83, 3) := by decide +kernel
theorem dX11_days_22 : decode cX11_days 22 = .ok (.invokevirtual 202, 3) := by decide +kernel
theorem dX11_days_25 : decode cX11_days 25 = .ok (.aload_n 0, 1) := by decide +kernel
theorem dX11_days_26 : decode cX11_days 26 = .ok (.getfield 83, 3) := by decide +kernel
theorem dX11_days_29 : decode cX11_days 29 = .ok (.dup, 1) := by decide +kernel
theorem dX11_days_30 : decode cX11_days 30 = .ok (.getfield 165, 3) := by decide +kernel
theorem dX11_days_33 : decode cX11_days 33 = .ok (.iload_n 1, 1) := by decide +kernel
theorem dX11_days_34 : decode cX11_days 34 = .ok (.iadd, 1) := by decide +kernel
theorem dX11_days_35 : decode cX11_days 35 = .ok (.putfield 165, 3) := by decide +kernel
theorem dX11_days_38 : decode cX11_days 38 = .ok (.aload_n 0, 1) := by decide +kernel
theorem dX11_days_39 : decode cX11_days 39 = .ok (.invokevirtual 210, 3) := by decide +kernel
theorem dX11_days_42 : decode cX11_days 42 = .ok (.aload_n 0, 1) := by decide +kernel
theorem dX11_days_43 : decode cX11_days 43 = .ok (.getfield 83, 3) := by decide +kernel
theorem dX11_days_46 : decode cX11_days 46 = .ok (.invokevirtual 155, 3) := by decide +kernel
theorem dX11_days_49 : decode cX11_days 49 = .ok (.ireturn, 1) := by decide +kernel
theorem dX11_drawToday_0 : decode cX11_drawToday 0 = .ok (.aload_n 0, 1) := by decide +kernel
theorem dX11_drawToday_1 : decode cX11_drawToday 1 = .ok (.getfield 56, 3) := by decide +kernel
theorem dX11_drawToday_4 : decode cX11_drawToday 4 = .ok (.aload_n 0, 1) := by decide +kernel
theorem dX11_drawToday_5 : decode cX11_drawToday 5 = .ok (.getfield 83, 3) := by decide +kernel
theorem dX11_drawToday_8 : decode cX11_drawToday 8 = .ok (.aload_n 0, 1) := by decide +kernel
theorem dX11_drawToday_9 : decode cX11_drawToday 9 = .ok (.getfield 83, 3) := by decide +kernel
theorem dX11_drawToday_12 : decode cX11_drawToday 12 = .ok (.getfield 165, 3) := by decide +kernel
theorem dX11_drawToday_15 : decode cX11_drawToday 15 = .ok (.aload_n 0, 1) := by decide +kernel
theorem dX11_drawToday_16 : decode cX11_drawToday 16 = .ok (.getfield 49, 3) := by decide +kernel
theorem dX11_drawToday_19 : decode cX11_drawToday 19 = .ok (.invokevirtual 243, 3) := by decide +kernel
theorem dX11_drawToday_22 : decode cX11_drawToday 22 = .ok (.return_, 1) := by decide +kernel
theorem dX11_drawn_0 : decode cX11_drawn 0 = .ok (.iload_n 0, 1) := by decide +kernel
theorem dX11_drawn_1 : decode cX11_drawn 1 = .ok (.bipush 16, 2) := by decide +kernel
theorem dX11_drawn_3 : decode cX11_drawn 3 = .ok (.iushr, 1) := by decide +kernel
theorem dX11_drawn_4 : decode cX11_drawn 4 = .ok (.ireturn, 1) := by decide +kernel
theorem dX11_easiest_0 : decode cX11_easiest 0 = .ok (.aload_n 0, 1) := by decide +kernel
theorem dX11_easiest_1 : decode cX11_easiest 1 = .ok (.invokevirtual 260, 3) := by decide +kernel
theorem dX11_easiest_4 : decode cX11_easiest 4 = .ok (.aload_n 0, 1) := by decide +kernel
theorem dX11_easiest_5 : decode cX11_easiest 5 = .ok (.getfield 56, 3) := by decide +kernel
theorem dX11_easiest_8 : decode cX11_easiest 8 = .ok (.invokevirtual 277, 3) := by decide +kernel
theorem dX11_easiest_11 : decode cX11_easiest 11 = .ok (.iconst (-1), 1) := by decide +kernel
theorem dX11_easiest_12 : decode cX11_easiest 12 = .ok (.istore_n 1, 1) := by decide +kernel
theorem dX11_easiest_13 : decode cX11_easiest 13 = .ok (.bipush 11, 2) := by decide +kernel
theorem dX11_easiest_15 : decode cX11_easiest 15 = .ok (.istore_n 2, 1) := by decide +kernel
theorem dX11_easiest_16 : decode cX11_easiest 16 = .ok (.iconst 0, 1) := by decide +kernel
theorem dX11_easiest_17 : decode cX11_easiest 17 = .ok (.istore_n 3, 1) := by decide +kernel
theorem dX11_easiest_18 : decode cX11_easiest 18 = .ok (.iload_n 3, 1) := by decide +kernel
theorem dX11_easiest_19 : decode cX11_easiest 19 = .ok (.bipush 10, 2) := by decide +kernel
theorem dX11_easiest_21 : decode cX11_easiest 21 = .ok (.if_icmp .ge 39, 3) := by decide +kernel
theorem dX11_easiest_24 : decode cX11_easiest 24 = .ok (.aload_n 0, 1) := by decide +kernel
theorem dX11_easiest_25 : decode cX11_easiest 25 = .ok (.iload_n 3, 1) := by decide +kernel
theorem dX11_easiest_26 : decode cX11_easiest 26 = .ok (.invokevirtual 329, 3) := by decide +kernel
theorem dX11_easiest_29 : decode cX11_easiest 29 = .ok (.istore 4, 2) := by decide +kernel
theorem dX11_easiest_31 : decode cX11_easiest 31 = .ok (.iload 4, 2) := by decide +kernel
theorem dX11_easiest_33 : decode cX11_easiest 33 = .ok (.iconst (-1), 1) := by decide +kernel
theorem dX11_easiest_34 : decode cX11_easiest 34 = .ok (.if_icmp .eq 20, 3) := by decide +kernel
theorem dX11_easiest_54 : decode cX11_easiest 54 = .ok (.iinc 3 1, 3) := by decide +kernel
theorem dX11_easiest_57 : decode cX11_easiest 57 = .ok (.goto (-39), 3) := by decide +kernel
theorem dX11_easiest_60 : decode cX11_easiest 60 = .ok (.iload_n 1, 1) := by decide +kernel
theorem dX11_easiest_61 : decode cX11_easiest 61 = .ok (.ireturn, 1) := by decide +kernel
theorem dX11_everybody_0 : decode cX11_everybody 0 = .ok (.iconst 1, 1) := by decide +kernel
theorem dX11_everybody_1 : decode cX11_everybody 1 = .ok (.aload_n 0, 1) := by decide +kernel
theorem dX11_everybody_2 : decode cX11_everybody 2 = .ok (.getfield 83, 3) := by decide +kernel
theorem dX11_everybody_5 : decode cX11_everybody 5 = .ok (.getfield 126, 3) := by decide +kernel
theorem dX11_everybody_8 : decode cX11_everybody 8 = .ok (.getfield 159, 3) := by decide +kernel
theorem dX11_everybody_11 : decode cX11_everybody 11 = .ok (.ishl, 1) := by decide +kernel
theorem dX11_everybody_12 : decode cX11_everybody 12 = .ok (.iconst 1, 1) := by decide +kernel
theorem dX11_everybody_13 : decode cX11_everybody 13 = .ok (.isub, 1) := by decide +kernel
theorem dX11_everybody_14 : decode cX11_everybody 14 = .ok (.ireturn, 1) := by decide +kernel
theorem dX11_fault_0 : decode cX11_fault 0 = .ok (.iload_n 1, 1) := by decide +kernel
theorem dX11_fault_1 : decode cX11_fault 1 = .ok (.ifCond .ne 8, 3) := by decide +kernel
theorem dX11_fault_4 : decode cX11_fault 4 = .ok (.aload_n 0, 1) := by decide +kernel
theorem dX11_fault_5 : decode cX11_fault 5 = .ok (.getfield 17, 3) := by decide +kernel
theorem dX11_fault_8 : decode cX11_fault 8 = .ok (.ireturn, 1) := by decide +kernel
theorem dX11_fault_9 : decode cX11_fault 9 = .ok (.iload_n 1, 1) := by decide +kernel
theorem dX11_fault_10 : decode cX11_fault 10 = .ok (.iconst 1, 1) := by decide +kernel
theorem dX11_fault_11 : decode cX11_fault 11 = .ok (.if_icmp .ne 10, 3) := by decide +kernel
theorem dX11_fault_14 : decode cX11_fault 14 = .ok (.aload_n 0, 1) := by decide +kernel
theorem dX11_fault_15 : decode cX11_fault 15 = .ok (.getfield 20, 3) := by decide +kernel
theorem dX11_fault_18 : decode cX11_fault 18 = .ok (.goto 4, 3) := by decide +kernel
theorem dX11_fault_21 : decode cX11_fault 21 = .ok (.iconst (-1), 1) := by decide +kernel
theorem dX11_fault_22 : decode cX11_fault 22 = .ok (.ireturn, 1) := by decide +kernel
theorem dX11_feed_0 : decode cX11_feed 0 = .ok (.aload_n 0, 1) := by decide +kernel
theorem dX11_feed_1 : decode cX11_feed 1 = .ok (.getfield 13, 3) := by decide +kernel
theorem dX11_feed_4 : decode cX11_feed 4 = .ok (.bipush 20, 2) := by decide +kernel
theorem dX11_feed_6 : decode cX11_feed 6 = .ok (.iadd, 1) := by decide +kernel
theorem dX11_feed_7 : decode cX11_feed 7 = .ok (.sipush 900, 3) := by decide +kernel
theorem dX11_feed_10 : decode cX11_feed 10 = .ok (.if_icmp .le 6, 3) := by decide +kernel
theorem dX11_feed_16 : decode cX11_feed 16 = .ok (.aload_n 0, 1) := by decide +kernel
theorem dX11_feed_17 : decode cX11_feed 17 = .ok (.iload_n 1, 1) := by decide +kernel
theorem dX11_feed_18 : decode cX11_feed 18 = .ok (.invokevirtual 101, 3) := by decide +kernel
theorem dX11_feed_21 : decode cX11_feed 21 = .ok (.aload_n 0, 1) := by decide +kernel
theorem dX11_feed_22 : decode cX11_feed 22 = .ok (.iload_n 2, 1) := by decide +kernel
theorem dX11_feed_23 : decode cX11_feed 23 = .ok (.invokevirtual 101, 3) := by decide +kernel
theorem dX11_feed_26 : decode cX11_feed 26 = .ok (.aload_n 0, 1) := by decide +kernel
theorem dX11_feed_27 : decode cX11_feed 27 = .ok (.iload_n 3, 1) := by decide +kernel
theorem dX11_feed_28 : decode cX11_feed 28 = .ok (.invokevirtual 101, 3) := by decide +kernel
theorem dX11_feed_31 : decode cX11_feed 31 = .ok (.aload_n 0, 1) := by decide +kernel
theorem dX11_feed_32 : decode cX11_feed 32 = .ok (.iload 4, 2) := by decide +kernel
theorem dX11_feed_34 : decode cX11_feed 34 = .ok (.invokevirtual 101, 3) := by decide +kernel
theorem dX11_feed_37 : decode cX11_feed 37 = .ok (.aload_n 0, 1) := by decide +kernel
theorem dX11_feed_38 : decode cX11_feed 38 = .ok (.iload 5, 2) := by decide +kernel
theorem dX11_feed_40 : decode cX11_feed 40 = .ok (.invokevirtual 101, 3) := by decide +kernel
theorem dX11_feed_43 : decode cX11_feed 43 = .ok (.aload_n 0, 1) := by decide +kernel
theorem dX11_feed_44 : decode cX11_feed 44 = .ok (.getfield 13, 3) := by decide +kernel
theorem dX11_feed_47 : decode cX11_feed 47 = .ok (.ireturn, 1) := by decide +kernel
theorem dX11_fewestSent_0 : decode cX11_fewestSent 0 = .ok (.aload_n 0, 1) := by decide +kernel
theorem dX11_fewestSent_1 : decode cX11_fewestSent 1 = .ok (.getfield 83, 3) := by decide +kernel
theorem dX11_fewestSent_4 : decode cX11_fewestSent 4 = .ok (.invokevirtual 155, 3) := by decide +kernel
theorem dX11_fewestSent_7 : decode cX11_fewestSent 7 = .ok (.istore_n 2, 1) := by decide +kernel
theorem dX11_fewestSent_8 : decode cX11_fewestSent 8 = .ok (.aload_n 0, 1) := by decide +kernel
theorem dX11_fewestSent_9 : decode cX11_fewestSent 9 = .ok (.iload_n 1, 1) := by decide +kernel
theorem dX11_fewestSent_10 : decode cX11_fewestSent 10 = .ok (.invokevirtual 319, 3) := by decide +kernel
theorem dX11_fewestSent_13 : decode cX11_fewestSent 13 = .ok (.istore_n 3, 1) := by decide +kernel
theorem dX11_fewestSent_14 : decode cX11_fewestSent 14 = .ok (.iconst (-1), 1) := by decide +kernel
theorem dX11_fewestSent_15 : decode cX11_fewestSent 15 = .ok (.istore 4, 2) := by decide +kernel
theorem dX11_fewestSent_17 : decode cX11_fewestSent 17 = .ok (.bipush 11, 2) := by decide +kernel
theorem dX11_fewestSent_19 : decode cX11_fewestSent 19 = .ok (.istore 5, 2) := by decide +kernel
theorem dX11_fewestSent_21 : decode cX11_fewestSent 21 = .ok (.iconst 0, 1) := by decide +kernel
theorem dX11_fewestSent_22 : decode cX11_fewestSent 22 = .ok (.istore 6, 2) := by decide +kernel
theorem dX11_fewestSent_24 : decode cX11_fewestSent 24 = .ok (.iload 6, 2) := by decide +kernel
theorem dX11_fewestSent_26 : decode cX11_fewestSent 26 = .ok (.iload_n 2, 1) := by decide +kernel
theorem dX11_fewestSent_27 : decode cX11_fewestSent 27 = .ok (.if_icmp .gt 69, 3) := by decide +kernel
theorem dX11_fewestSent_30 : decode cX11_fewestSent 30 = .ok (.iload_n 2, 1) := by decide +kernel
theorem dX11_fewestSent_31 : decode cX11_fewestSent 31 = .ok (.iload 6, 2) := by decide +kernel
theorem dX11_fewestSent_33 : decode cX11_fewestSent 33 = .ok (.iconst (-1), 1) := by decide +kernel
theorem dX11_fewestSent_34 : decode cX11_fewestSent 34 = .ok (.ixor, 1) := by decide +kernel
theorem dX11_fewestSent_35 : decode cX11_fewestSent 35 = .ok (.iand, 1) := by decide +kernel
theorem dX11_fewestSent_36 : decode cX11_fewestSent 36 = .ok (.istore 7, 2) := by decide +kernel
theorem dX11_fewestSent_38 : decode cX11_fewestSent 38 = .ok (.iload 6, 2) := by decide +kernel
theorem dX11_fewestSent_40 : decode cX11_fewestSent 40 = .ok (.iload_n 2, 1) := by decide +kernel
theorem dX11_fewestSent_41 : decode cX11_fewestSent 41 = .ok (.iconst (-1), 1) := by decide +kernel
theorem dX11_fewestSent_42 : decode cX11_fewestSent 42 = .ok (.ixor, 1) := by decide +kernel
theorem dX11_fewestSent_43 : decode cX11_fewestSent 43 = .ok (.iand, 1) := by decide +kernel
theorem dX11_fewestSent_44 : decode cX11_fewestSent 44 = .ok (.ifCond .ne 46, 3) := by decide +kernel
theorem dX11_fewestSent_47 : decode cX11_fewestSent 47 = .ok (.iload 6, 2) := by decide +kernel
theorem dX11_fewestSent_49 : decode cX11_fewestSent 49 = .ok (.invokestatic 193, 3) := by decide +kernel
theorem dX11_fewestSent_52 : decode cX11_fewestSent 52 = .ok (.iload 5, 2) := by decide +kernel
theorem dX11_fewestSent_54 : decode cX11_fewestSent 54 = .ok (.if_icmp .ge 36, 3) := by decide +kernel
theorem dX11_fewestSent_57 : decode cX11_fewestSent 57 = .ok (.aload_n 0, 1) := by decide +kernel
theorem dX11_fewestSent_58 : decode cX11_fewestSent 58 = .ok (.getfield 56, 3) := by decide +kernel
theorem dX11_fewestSent_61 : decode cX11_fewestSent 61 = .ok (.getfield 280, 3) := by decide +kernel
theorem dX11_fewestSent_64 : decode cX11_fewestSent 64 = .ok (.iload 7, 2) := by decide +kernel
theorem dX11_fewestSent_66 : decode cX11_fewestSent 66 = .ok (.iaload, 1) := by decide +kernel
theorem dX11_fewestSent_67 : decode cX11_fewestSent 67 = .ok (.ifCond .le 23, 3) := by decide +kernel
theorem dX11_fewestSent_70 : decode cX11_fewestSent 70 = .ok (.iload_n 3, 1) := by decide +kernel
theorem dX11_fewestSent_71 : decode cX11_fewestSent 71 = .ok (.iload 7, 2) := by decide +kernel
theorem dX11_fewestSent_73 : decode cX11_fewestSent 73 = .ok (.invokestatic 326, 3) := by decide +kernel
theorem dX11_fewestSent_76 : decode cX11_fewestSent 76 = .ok (.ifCond .eq 14, 3) := by decide +kernel
theorem dX11_fewestSent_90 : decode cX11_fewestSent 90 = .ok (.iinc 6 1, 3) := by decide +kernel
theorem dX11_fewestSent_93 : decode cX11_fewestSent 93 = .ok (.goto (-69), 3) := by decide +kernel
theorem dX11_fewestSent_96 : decode cX11_fewestSent 96 = .ok (.iload 4, 2) := by decide +kernel
theorem dX11_fewestSent_98 : decode cX11_fewestSent 98 = .ok (.ireturn, 1) := by decide +kernel
theorem dX11_firstDay_0 : decode cX11_firstDay 0 = .ok (.bipush 100, 2) := by decide +kernel
theorem dX11_firstDay_2 : decode cX11_firstDay 2 = .ok (.istore_n 1, 1) := by decide +kernel
theorem dX11_firstDay_3 : decode cX11_firstDay 3 = .ok (.iconst 0, 1) := by decide +kernel
theorem dX11_firstDay_4 : decode cX11_firstDay 4 = .ok (.istore_n 2, 1) := by decide +kernel
theorem dX11_firstDay_5 : decode cX11_firstDay 5 = .ok (.iload_n 2, 1) := by decide +kernel
theorem dX11_firstDay_6 : decode cX11_firstDay 6 = .ok (.bipush 7, 2) := by decide +kernel
theorem dX11_firstDay_8 : decode cX11_firstDay 8 = .ok (.if_icmp .ge 84, 3) := by decide +kernel
theorem dX11_firstDay_11 : decode cX11_firstDay 11 = .ok (.aload_n 0, 1) := by decide +kernel
theorem dX11_firstDay_12 : decode cX11_firstDay 12 = .ok (.getfield 56, 3) := by decide +kernel
theorem dX11_firstDay_15 : decode cX11_firstDay 15 = .ok (.aload_n 0, 1) := by decide +kernel
theorem dX11_firstDay_16 : decode cX11_firstDay 16 = .ok (.getfield 83, 3) := by decide +kernel
theorem dX11_firstDay_19 : decode cX11_firstDay 19 = .ok (.aload_n 0, 1) := by decide +kernel
theorem dX11_firstDay_20 : decode cX11_firstDay 20 = .ok (.getfield 83, 3) := by decide +kernel
theorem dX11_firstDay_23 : decode cX11_firstDay 23 = .ok (.getfield 165, 3) := by decide +kernel
theorem dX11_firstDay_26 : decode cX11_firstDay 26 = .ok (.iload_n 2, 1) := by decide +kernel
theorem dX11_firstDay_27 : decode cX11_firstDay 27 = .ok (.iadd, 1) := by decide +kernel
theorem dX11_firstDay_28 : decode cX11_firstDay 28 = .ok (.aload_n 0, 1) := by decide +kernel
theorem dX11_firstDay_29 : decode cX11_firstDay 29 = .ok (.getfield 49, 3) := by decide +kernel
theorem dX11_firstDay_32 : decode cX11_firstDay 32 = .ok (.invokevirtual 243, 3) := by decide +kernel
theorem dX11_firstDay_35 : decode cX11_firstDay 35 = .ok (.iload_n 2, 1) := by decide +kernel
theorem dX11_firstDay_36 : decode cX11_firstDay 36 = .ok (.istore_n 3, 1) := by decide +kernel
theorem dX11_firstDay_37 : decode cX11_firstDay 37 = .ok (.iload_n 3, 1) := by decide +kernel
theorem dX11_firstDay_38 : decode cX11_firstDay 38 = .ok (.iload_n 1, 1) := by decide +kernel
theorem dX11_firstDay_39 : decode cX11_firstDay 39 = .ok (.if_icmp .ge 47, 3) := by decide +kernel
theorem dX11_firstDay_42 : decode cX11_firstDay 42 = .ok (.aload_n 0, 1) := by decide +kernel
theorem dX11_firstDay_43 : decode cX11_firstDay 43 = .ok (.getfield 83, 3) := by decide +kernel
theorem dX11_firstDay_46 : decode cX11_firstDay 46 = .ok (.aload_n 0, 1) := by decide +kernel
theorem dX11_firstDay_47 : decode cX11_firstDay 47 = .ok (.getfield 83, 3) := by decide +kernel
theorem dX11_firstDay_50 : decode cX11_firstDay 50 = .ok (.getfield 165, 3) := by decide +kernel
theorem dX11_firstDay_53 : decode cX11_firstDay 53 = .ok (.iload_n 3, 1) := by decide +kernel
theorem dX11_firstDay_54 : decode cX11_firstDay 54 = .ok (.iadd, 1) := by decide +kernel
theorem dX11_firstDay_55 : decode cX11_firstDay 55 = .ok (.invokevirtual 168, 3) := by decide +kernel
theorem dX11_firstDay_58 : decode cX11_firstDay 58 = .ok (.istore 4, 2) := by decide +kernel
theorem dX11_firstDay_60 : decode cX11_firstDay 60 = .ok (.iload 4, 2) := by decide +kernel
theorem dX11_firstDay_62 : decode cX11_firstDay 62 = .ok (.ifCond .eq 18, 3) := by decide +kernel
theorem dX11_firstDay_80 : decode cX11_firstDay 80 = .ok (.iinc 3 7, 3) := by decide +kernel
theorem dX11_firstDay_83 : decode cX11_firstDay 83 = .ok (.goto (-46), 3) := by decide +kernel
theorem dX11_firstDay_86 : decode cX11_firstDay 86 = .ok (.iinc 2 1, 3) := by decide +kernel
theorem dX11_firstDay_89 : decode cX11_firstDay 89 = .ok (.goto (-84), 3) := by decide +kernel
theorem dX11_firstDay_92 : decode cX11_firstDay 92 = .ok (.iload_n 1, 1) := by decide +kernel
theorem dX11_firstDay_93 : decode cX11_firstDay 93 = .ok (.bipush 100, 2) := by decide +kernel
theorem dX11_firstDay_95 : decode cX11_firstDay 95 = .ok (.if_icmp .ge 7, 3) := by decide +kernel
theorem dX11_firstDay_102 : decode cX11_firstDay 102 = .ok (.iconst (-1), 1) := by decide +kernel
theorem dX11_firstDay_103 : decode cX11_firstDay 103 = .ok (.ireturn, 1) := by decide +kernel
theorem dX11_hasMore_0 : decode cX11_hasMore 0 = .ok (.iconst 2, 1) := by decide +kernel
theorem dX11_hasMore_1 : decode cX11_hasMore 1 = .ok (.iload_n 0, 1) := by decide +kernel
theorem dX11_hasMore_2 : decode cX11_hasMore 2 = .ok (.iload_n 1, 1) := by decide +kernel
theorem dX11_hasMore_3 : decode cX11_hasMore 3 = .ok (.iand, 1) := by decide +kernel
theorem dX11_hasMore_4 : decode cX11_hasMore 4 = .ok (.invokestatic 193, 3) := by decide +kernel
theorem dX11_hasMore_7 : decode cX11_hasMore 7 = .ok (.imul, 1) := by decide +kernel
theorem dX11_hasMore_8 : decode cX11_hasMore 8 = .ok (.iload_n 1, 1) := by decide +kernel
theorem dX11_hasMore_9 : decode cX11_hasMore 9 = .ok (.invokestatic 193, 3) := by decide +kernel
theorem dX11_hasMore_12 : decode cX11_hasMore 12 = .ok (.if_icmp .le 7, 3) := by decide +kernel
theorem dX11_hasMore_19 : decode cX11_hasMore 19 = .ok (.iconst 0, 1) := by decide +kernel
theorem dX11_hasMore_20 : decode cX11_hasMore 20 = .ok (.ireturn, 1) := by decide +kernel
theorem dX11_hidden_0 : decode cX11_hidden 0 = .ok (.aload_n 0, 1) := by decide +kernel
theorem dX11_hidden_1 : decode cX11_hidden 1 = .ok (.iload_n 1, 1) := by decide +kernel
theorem dX11_hidden_2 : decode cX11_hidden 2 = .ok (.iload_n 2, 1) := by decide +kernel
theorem dX11_hidden_3 : decode cX11_hidden 3 = .ok (.invokevirtual 332, 3) := by decide +kernel
theorem dX11_hidden_6 : decode cX11_hidden 6 = .ok (.istore_n 3, 1) := by decide +kernel
theorem dX11_hidden_7 : decode cX11_hidden 7 = .ok (.iload_n 3, 1) := by decide +kernel
theorem dX11_hidden_8 : decode cX11_hidden 8 = .ok (.ifCond .eq 5, 3) := by decide +kernel
theorem dX11_hidden_11 : decode cX11_hidden 11 = .ok (.iload_n 3, 1) := by decide +kernel
theorem dX11_hidden_12 : decode cX11_hidden 12 = .ok (.ireturn, 1) := by decide +kernel
theorem dX11_hiddenAt_0 : decode cX11_hiddenAt 0 = .ok (.aload_n 0, 1) := by decide +kernel
theorem dX11_hiddenAt_1 : decode cX11_hiddenAt 1 = .ok (.iload_n 1, 1) := by decide +kernel
theorem dX11_hiddenAt_2 : decode cX11_hiddenAt 2 = .ok (.iload_n 2, 1) := by decide +kernel
theorem dX11_hiddenAt_3 : decode cX11_hiddenAt 3 = .ok (.invokevirtual 332, 3) := by decide +kernel
theorem dX11_hiddenAt_6 : decode cX11_hiddenAt 6 = .ok (.istore 4, 2) := by decide +kernel
theorem dX11_hiddenAt_8 : decode cX11_hiddenAt 8 = .ok (.iload 4, 2) := by decide +kernel
theorem dX11_hiddenAt_10 : decode cX11_hiddenAt 10 = .ok (.ifCond .eq 6, 3) := by decide +kernel
theorem dX11_hiddenAt_13 : decode cX11_hiddenAt 13 = .ok (.iload 4, 2) := by decide +kernel
theorem dX11_hiddenAt_15 : decode cX11_hiddenAt 15 = .ok (.ireturn, 1) := by decide +kernel
theorem dX11_house_0 : decode cX11_house 0 = .ok (.iload_n 1, 1) := by decide +kernel
theorem dX11_house_1 : decode cX11_house 1 = .ok (.ifCond .lt 11, 3) := by decide +kernel
theorem dX11_house_4 : decode cX11_house 4 = .ok (.iload_n 1, 1) := by decide +kernel
theorem dX11_house_5 : decode cX11_house 5 = .ok (.aload_n 0, 1) := by decide +kernel
theorem dX11_house_6 : decode cX11_house 6 = .ok (.getfield 13, 3) := by decide +kernel
theorem dX11_house_9 : decode cX11_house 9 = .ok (.if_icmp .le 6, 3) := by decide +kernel
theorem dX11_house_12 : decode cX11_house 12 = .ok (.bipush (-3), 2) := by decide +kernel
theorem dX11_house_14 : decode cX11_house 14 = .ok (.ireturn, 1) := by decide +kernel
theorem dX11_house_15 : decode cX11_house 15 = .ok (.aload_n 0, 1) := by decide +kernel
theorem dX11_house_16 : decode cX11_house 16 = .ok (.iconst 0, 1) := by decide +kernel
theorem dX11_house_17 : decode cX11_house 17 = .ok (.putfield 13, 3) := by decide +kernel
theorem dX11_house_20 : decode cX11_house 20 = .ok (.aload_n 0, 1) := by decide +kernel
theorem dX11_house_21 : decode cX11_house 21 = .ok (.getfield 26, 3) := by decide +kernel
theorem dX11_house_24 : decode cX11_house 24 = .ok (.aload_n 0, 1) := by decide +kernel
theorem dX11_house_25 : decode cX11_house 25 = .ok (.getfield 9, 3) := by decide +kernel
theorem dX11_house_28 : decode cX11_house 28 = .ok (.iload_n 1, 1) := by decide +kernel
theorem dX11_house_29 : decode cX11_house 29 = .ok (.invokevirtual 105, 3) := by decide +kernel
theorem dX11_house_32 : decode cX11_house 32 = .ok (.astore_n 2, 1) := by decide +kernel
theorem dX11_house_33 : decode cX11_house 33 = .ok (.aload_n 0, 1) := by decide +kernel
theorem dX11_house_34 : decode cX11_house 34 = .ok (.aload_n 0, 1) := by decide +kernel
theorem dX11_house_35 : decode cX11_house 35 = .ok (.getfield 26, 3) := by decide +kernel
theorem dX11_house_38 : decode cX11_house 38 = .ok (.getfield 109, 3) := by decide +kernel
theorem dX11_house_41 : decode cX11_house 41 = .ok (.putfield 17, 3) := by decide +kernel
theorem dX11_house_44 : decode cX11_house 44 = .ok (.aload_n 0, 1) := by decide +kernel
theorem dX11_house_45 : decode cX11_house 45 = .ok (.aload_n 0, 1) := by decide +kernel
theorem dX11_house_46 : decode cX11_house 46 = .ok (.getfield 26, 3) := by decide +kernel
theorem dX11_house_49 : decode cX11_house 49 = .ok (.getfield 112, 3) := by decide +kernel
theorem dX11_house_52 : decode cX11_house 52 = .ok (.putfield 20, 3) := by decide +kernel
theorem dX11_house_55 : decode cX11_house 55 = .ok (.aload_n 0, 1) := by decide +kernel
theorem dX11_house_56 : decode cX11_house 56 = .ok (.getfield 17, 3) := by decide +kernel
theorem dX11_house_59 : decode cX11_house 59 = .ok (.ifCond .eq 11, 3) := by decide +kernel
theorem dX11_house_62 : decode cX11_house 62 = .ok (.bipush (-30), 2) := by decide +kernel
theorem dX11_house_64 : decode cX11_house 64 = .ok (.aload_n 0, 1) := by decide +kernel
theorem dX11_house_65 : decode cX11_house 65 = .ok (.getfield 17, 3) := by decide +kernel
theorem dX11_house_68 : decode cX11_house 68 = .ok (.isub, 1) := by decide +kernel
theorem dX11_house_69 : decode cX11_house 69 = .ok (.ireturn, 1) := by decide +kernel
theorem dX11_image_0 : decode cX11_image 0 = .ok (.iload_n 1, 1) := by decide +kernel
theorem dX11_image_1 : decode cX11_image 1 = .ok (.ifCond .lt 8, 3) := by decide +kernel
theorem dX11_image_4 : decode cX11_image 4 = .ok (.iload_n 1, 1) := by decide +kernel
theorem dX11_image_5 : decode cX11_image 5 = .ok (.iconst 2, 1) := by decide +kernel
theorem dX11_image_6 : decode cX11_image 6 = .ok (.if_icmp .lt 6, 3) := by decide +kernel
theorem dX11_image_9 : decode cX11_image 9 = .ok (.bipush (-2), 2) := by decide +kernel
theorem dX11_image_11 : decode cX11_image 11 = .ok (.ireturn, 1) := by decide +kernel
theorem dX11_image_12 : decode cX11_image 12 = .ok (.aload_n 0, 1) := by decide +kernel
theorem dX11_image_13 : decode cX11_image 13 = .ok (.getfield 38, 3) := by decide +kernel
theorem dX11_image_16 : decode cX11_image 16 = .ok (.iload_n 1, 1) := by decide +kernel
theorem dX11_image_17 : decode cX11_image 17 = .ok (.aaload, 1) := by decide +kernel
theorem dX11_image_18 : decode cX11_image 18 = .ok (.aload_n 0, 1) := by decide +kernel
theorem dX11_image_19 : decode cX11_image 19 = .ok (.getfield 83, 3) := by decide +kernel
theorem dX11_image_22 : decode cX11_image 22 = .ok (.invokevirtual 202, 3) := by decide +kernel
theorem dX11_image_25 : decode cX11_image 25 = .ok (.aload_n 0, 1) := by decide +kernel
theorem dX11_image_26 : decode cX11_image 26 = .ok (.getfield 42, 3) := by decide +kernel
theorem dX11_image_29 : decode cX11_image 29 = .ok (.iload_n 1, 1) := by decide +kernel
theorem dX11_image_30 : decode cX11_image 30 = .ok (.iconst 1, 1) := by decide +kernel
theorem dX11_image_31 : decode cX11_image 31 = .ok (.bastore, 1) := by decide +kernel
theorem dX11_image_32 : decode cX11_image 32 = .ok (.iconst 0, 1) := by decide +kernel
theorem dX11_image_33 : decode cX11_image 33 = .ok (.ireturn, 1) := by decide +kernel
theorem dX11_init_0 : decode cX11_init 0 = .ok (.aload_n 0, 1) := by decide +kernel
theorem dX11_init_1 : decode cX11_init 1 = .ok (.invokespecial 1, 3) := by decide +kernel
theorem dX11_init_4 : decode cX11_init 4 = .ok (.aload_n 0, 1) := by decide +kernel
theorem dX11_init_5 : decode cX11_init 5 = .ok (.sipush 900, 3) := by decide +kernel
theorem dX11_init_8 : decode cX11_init 8 = .ok (.newarray .byte, 2) := by decide +kernel
theorem dX11_init_10 : decode cX11_init 10 = .ok (.putfield 9, 3) := by decide +kernel
theorem dX11_init_13 : decode cX11_init 13 = .ok (.aload_n 0, 1) := by decide +kernel
theorem dX11_init_14 : decode cX11_init 14 = .ok (.iconst 0, 1) := by decide +kernel
theorem dX11_init_15 : decode cX11_init 15 = .ok (.putfield 13, 3) := by decide +kernel
theorem dX11_init_18 : decode cX11_init 18 = .ok (.aload_n 0, 1) := by decide +kernel
theorem dX11_init_19 : decode cX11_init 19 = .ok (.iconst 0, 1) := by decide +kernel
theorem dX11_init_20 : decode cX11_init 20 = .ok (.putfield 17, 3) := by decide +kernel
theorem dX11_init_23 : decode cX11_init 23 = .ok (.aload_n 0, 1) := by decide +kernel
theorem dX11_init_24 : decode cX11_init 24 = .ok (.iconst (-1), 1) := by decide +kernel
theorem dX11_init_25 : decode cX11_init 25 = .ok (.putfield 20, 3) := by decide +kernel
theorem dX11_init_28 : decode cX11_init 28 = .ok (.aload_n 0, 1) := by decide +kernel
theorem dX11_init_29 : decode cX11_init 29 = .ok (.new 23, 3) := by decide +kernel
theorem dX11_init_32 : decode cX11_init 32 = .ok (.dup, 1) := by decide +kernel
theorem dX11_init_33 : decode cX11_init 33 = .ok (.invokespecial 25, 3) := by decide +kernel
theorem dX11_init_36 : decode cX11_init 36 = .ok (.putfield 26, 3) := by decide +kernel
theorem dX11_init_39 : decode cX11_init 39 = .ok (.aload_n 0, 1) := by decide +kernel
theorem dX11_init_40 : decode cX11_init 40 = .ok (.iconst 4, 1) := by decide +kernel
theorem dX11_init_41 : decode cX11_init 41 = .ok (.anewarray 30, 3) := by decide +kernel
theorem dX11_init_44 : decode cX11_init 44 = .ok (.putfield 32, 3) := by decide +kernel
theorem dX11_init_47 : decode cX11_init 47 = .ok (.aload_n 0, 1) := by decide +kernel
theorem dX11_init_48 : decode cX11_init 48 = .ok (.iconst 2, 1) := by decide +kernel
theorem dX11_init_49 : decode cX11_init 49 = .ok (.anewarray 36, 3) := by decide +kernel
theorem dX11_init_52 : decode cX11_init 52 = .ok (.putfield 38, 3) := by decide +kernel
theorem dX11_init_55 : decode cX11_init 55 = .ok (.aload_n 0, 1) := by decide +kernel
theorem dX11_init_56 : decode cX11_init 56 = .ok (.iconst 2, 1) := by decide +kernel
theorem dX11_init_57 : decode cX11_init 57 = .ok (.newarray .boolean, 2) := by decide +kernel
theorem dX11_init_59 : decode cX11_init 59 = .ok (.putfield 42, 3) := by decide +kernel
theorem dX11_init_62 : decode cX11_init 62 = .ok (.aload_n 0, 1) := by decide +kernel
theorem dX11_init_63 : decode cX11_init 63 = .ok (.new 46, 3) := by decide +kernel
theorem dX11_init_66 : decode cX11_init 66 = .ok (.dup, 1) := by decide +kernel
theorem dX11_init_67 : decode cX11_init 67 = .ok (.invokespecial 48, 3) := by decide +kernel
theorem dX11_init_70 : decode cX11_init 70 = .ok (.putfield 49, 3) := by decide +kernel
theorem dX11_init_73 : decode cX11_init 73 = .ok (.aload_n 0, 1) := by decide +kernel
theorem dX11_init_74 : decode cX11_init 74 = .ok (.new 53, 3) := by decide +kernel
theorem dX11_init_77 : decode cX11_init 77 = .ok (.dup, 1) := by decide +kernel
theorem dX11_init_78 : decode cX11_init 78 = .ok (.invokespecial 55, 3) := by decide +kernel
theorem dX11_init_81 : decode cX11_init 81 = .ok (.putfield 56, 3) := by decide +kernel
theorem dX11_init_84 : decode cX11_init 84 = .ok (.aload_n 0, 1) := by decide +kernel
theorem dX11_init_85 : decode cX11_init 85 = .ok (.new 60, 3) := by decide +kernel
theorem dX11_init_88 : decode cX11_init 88 = .ok (.dup, 1) := by decide +kernel
theorem dX11_init_89 : decode cX11_init 89 = .ok (.invokespecial 62, 3) := by decide +kernel
theorem dX11_init_92 : decode cX11_init 92 = .ok (.putfield 63, 3) := by decide +kernel
theorem dX11_init_95 : decode cX11_init 95 = .ok (.aload_n 0, 1) := by decide +kernel
theorem dX11_init_96 : decode cX11_init 96 = .ok (.new 67, 3) := by decide +kernel
theorem dX11_init_99 : decode cX11_init 99 = .ok (.dup, 1) := by decide +kernel
theorem dX11_init_100 : decode cX11_init 100 = .ok (.invokespecial 69, 3) := by decide +kernel
theorem dX11_init_103 : decode cX11_init 103 = .ok (.putfield 70, 3) := by decide +kernel
theorem dX11_init_106 : decode cX11_init 106 = .ok (.aload_n 0, 1) := by decide +kernel
theorem dX11_init_107 : decode cX11_init 107 = .ok (.iconst 0, 1) := by decide +kernel
theorem dX11_init_108 : decode cX11_init 108 = .ok (.putfield 74, 3) := by decide +kernel
theorem dX11_init_111 : decode cX11_init 111 = .ok (.new 77, 3) := by decide +kernel
theorem dX11_init_114 : decode cX11_init 114 = .ok (.dup, 1) := by decide +kernel
theorem dX11_init_115 : decode cX11_init 115 = .ok (.invokespecial 79, 3) := by decide +kernel
theorem dX11_init_118 : decode cX11_init 118 = .ok (.astore_n 1, 1) := by decide +kernel
theorem dX11_init_119 : decode cX11_init 119 = .ok (.aload_n 0, 1) := by decide +kernel
theorem dX11_init_120 : decode cX11_init 120 = .ok (.new 36, 3) := by decide +kernel
theorem dX11_init_123 : decode cX11_init 123 = .ok (.dup, 1) := by decide +kernel
theorem dX11_init_124 : decode cX11_init 124 = .ok (.aload_n 1, 1) := by decide +kernel
theorem dX11_init_125 : decode cX11_init 125 = .ok (.invokespecial 80, 3) := by decide +kernel
theorem dX11_init_128 : decode cX11_init 128 = .ok (.putfield 83, 3) := by decide +kernel
theorem dX11_init_131 : decode cX11_init 131 = .ok (.aload_n 0, 1) := by decide +kernel
theorem dX11_init_132 : decode cX11_init 132 = .ok (.new 36, 3) := by decide +kernel
theorem dX11_init_135 : decode cX11_init 135 = .ok (.dup, 1) := by decide +kernel
theorem dX11_init_136 : decode cX11_init 136 = .ok (.aload_n 1, 1) := by decide +kernel
theorem dX11_init_137 : decode cX11_init 137 = .ok (.invokespecial 80, 3) := by decide +kernel
theorem dX11_init_140 : decode cX11_init 140 = .ok (.putfield 87, 3) := by decide +kernel
theorem dX11_init_143 : decode cX11_init 143 = .ok (.aload_n 0, 1) := by decide +kernel
theorem dX11_init_144 : decode cX11_init 144 = .ok (.new 36, 3) := by decide +kernel
theorem dX11_init_147 : decode cX11_init 147 = .ok (.dup, 1) := by decide +kernel
theorem dX11_init_148 : decode cX11_init 148 = .ok (.aload_n 1, 1) := by decide +kernel
theorem dX11_init_149 : decode cX11_init 149 = .ok (.invokespecial 80, 3) := by decide +kernel
theorem dX11_init_152 : decode cX11_init 152 = .ok (.putfield 90, 3) := by decide +kernel
theorem dX11_init_155 : decode cX11_init 155 = .ok (.aload_n 0, 1) := by decide +kernel
theorem dX11_init_156 : decode cX11_init 156 = .ok (.new 93, 3) := by decide +kernel
theorem dX11_init_159 : decode cX11_init 159 = .ok (.dup, 1) := by decide +kernel
theorem dX11_init_160 : decode cX11_init 160 = .ok (.aload_n 1, 1) := by decide +kernel
theorem dX11_init_161 : decode cX11_init 161 = .ok (.invokespecial 95, 3) := by decide +kernel
theorem dX11_init_164 : decode cX11_init 164 = .ok (.putfield 96, 3) := by decide +kernel
theorem dX11_init_167 : decode cX11_init 167 = .ok (.iconst 0, 1) := by decide +kernel
theorem dX11_init_168 : decode cX11_init 168 = .ok (.istore_n 2, 1) := by decide +kernel
theorem dX11_init_169 : decode cX11_init 169 = .ok (.iload_n 2, 1) := by decide +kernel
theorem dX11_init_170 : decode cX11_init 170 = .ok (.iconst 4, 1) := by decide +kernel
theorem dX11_init_171 : decode cX11_init 171 = .ok (.if_icmp .ge 22, 3) := by decide +kernel
theorem dX11_init_174 : decode cX11_init 174 = .ok (.aload_n 0, 1) := by decide +kernel
theorem dX11_init_175 : decode cX11_init 175 = .ok (.getfield 32, 3) := by decide +kernel
theorem dX11_init_178 : decode cX11_init 178 = .ok (.iload_n 2, 1) := by decide +kernel
theorem dX11_init_179 : decode cX11_init 179 = .ok (.new 30, 3) := by decide +kernel
theorem dX11_init_182 : decode cX11_init 182 = .ok (.dup, 1) := by decide +kernel
theorem dX11_init_183 : decode cX11_init 183 = .ok (.invokespecial 100, 3) := by decide +kernel
theorem dX11_init_186 : decode cX11_init 186 = .ok (.aastore, 1) := by decide +kernel
theorem dX11_init_187 : decode cX11_init 187 = .ok (.iinc 2 1, 3) := by decide +kernel
theorem dX11_init_190 : decode cX11_init 190 = .ok (.goto (-21), 3) := by decide +kernel
theorem dX11_init_193 : decode cX11_init 193 = .ok (.iconst 0, 1) := by decide +kernel
theorem dX11_init_194 : decode cX11_init 194 = .ok (.istore_n 2, 1) := by decide +kernel
theorem dX11_init_195 : decode cX11_init 195 = .ok (.iload_n 2, 1) := by decide +kernel
theorem dX11_init_196 : decode cX11_init 196 = .ok (.iconst 2, 1) := by decide +kernel
theorem dX11_init_197 : decode cX11_init 197 = .ok (.if_icmp .ge 23, 3) := by decide +kernel
theorem dX11_init_200 : decode cX11_init 200 = .ok (.aload_n 0, 1) := by decide +kernel
theorem dX11_init_201 : decode cX11_init 201 = .ok (.getfield 38, 3) := by decide +kernel
theorem dX11_init_204 : decode cX11_init 204 = .ok (.iload_n 2, 1) := by decide +kernel
theorem dX11_init_205 : decode cX11_init 205 = .ok (.new 36, 3) := by decide +kernel
theorem dX11_init_208 : decode cX11_init 208 = .ok (.dup, 1) := by decide +kernel
theorem dX11_init_209 : decode cX11_init 209 = .ok (.aload_n 1, 1) := by decide +kernel
theorem dX11_init_210 : decode cX11_init 210 = .ok (.invokespecial 80, 3) := by decide +kernel
theorem dX11_init_213 : decode cX11_init 213 = .ok (.aastore, 1) := by decide +kernel
theorem dX11_init_214 : decode cX11_init 214 = .ok (.iinc 2 1, 3) := by decide +kernel
theorem dX11_init_217 : decode cX11_init 217 = .ok (.goto (-22), 3) := by decide +kernel
theorem dX11_init_220 : decode cX11_init 220 = .ok (.return_, 1) := by decide +kernel
theorem dX11_isBill_0 : decode cX11_isBill 0 = .ok (.iload_n 1, 1) := by decide +kernel
theorem dX11_isBill_1 : decode cX11_isBill 1 = .ok (.ifCond .lt 13, 3) := by decide +kernel
theorem dX11_isBill_4 : decode cX11_isBill 4 = .ok (.iload_n 1, 1) := by decide +kernel
theorem dX11_isBill_5 : decode cX11_isBill 5 = .ok (.bipush 10, 2) := by decide +kernel
theorem dX11_isBill_7 : decode cX11_isBill 7 = .ok (.if_icmp .ge 7, 3) := by decide +kernel
theorem dX11_isBill_10 : decode cX11_isBill 10 = .ok (.iconst 1, 1) := by decide +kernel
theorem dX11_isBill_11 : decode cX11_isBill 11 = .ok (.goto 4, 3) := by decide +kernel
theorem dX11_isBill_14 : decode cX11_isBill 14 = .ok (.iconst 0, 1) := by decide +kernel
theorem dX11_isBill_15 : decode cX11_isBill 15 = .ok (.ireturn, 1) := by decide +kernel
theorem dX11_isPerson_0 : decode cX11_isPerson 0 = .ok (.iload_n 1, 1) := by decide +kernel
theorem dX11_isPerson_1 : decode cX11_isPerson 1 = .ok (.ifCond .lt 21, 3) := by decide +kernel
theorem dX11_isPerson_4 : decode cX11_isPerson 4 = .ok (.iload_n 1, 1) := by decide +kernel
theorem dX11_isPerson_5 : decode cX11_isPerson 5 = .ok (.aload_n 0, 1) := by decide +kernel
theorem dX11_isPerson_6 : decode cX11_isPerson 6 = .ok (.getfield 83, 3) := by decide +kernel
theorem dX11_isPerson_9 : decode cX11_isPerson 9 = .ok (.getfield 126, 3) := by decide +kernel
theorem dX11_isPerson_12 : decode cX11_isPerson 12 = .ok (.getfield 159, 3) := by decide +kernel
theorem dX11_isPerson_15 : decode cX11_isPerson 15 = .ok (.if_icmp .ge 7, 3) := by decide +kernel
theorem dX11_isPerson_22 : decode cX11_isPerson 22 = .ok (.iconst 0, 1) := by decide +kernel
theorem dX11_isPerson_23 : decode cX11_isPerson 23 = .ok (.ireturn, 1) := by decide +kernel
theorem dX11_isSet_0 : decode cX11_isSet 0 = .ok (.iload_n 1, 1) := by decide +kernel
theorem dX11_isSet_1 : decode cX11_isSet 1 = .ok (.aload_n 0, 1) := by decide +kernel
theorem dX11_isSet_2 : decode cX11_isSet 2 = .ok (.invokevirtual 162, 3) := by decide +kernel
theorem dX11_isSet_5 : decode cX11_isSet 5 = .ok (.iconst (-1), 1) := by decide +kernel
theorem dX11_isSet_6 : decode cX11_isSet 6 = .ok (.ixor, 1) := by decide +kernel
theorem dX11_isSet_7 : decode cX11_isSet 7 = .ok (.iand, 1) := by decide +kernel
theorem dX11_isSet_8 : decode cX11_isSet 8 = .ok (.ifCond .ne 7, 3) := by decide +kernel
theorem dX11_isSet_11 : decode cX11_isSet 11 = .ok (.iconst 1, 1) := by decide +kernel
theorem dX11_isSet_12 : decode cX11_isSet 12 = .ok (.goto 4, 3) := by decide +kernel
theorem dX11_isSet_15 : decode cX11_isSet 15 = .ok (.iconst 0, 1) := by decide +kernel
theorem dX11_isSet_16 : decode cX11_isSet 16 = .ok (.ireturn, 1) := by decide +kernel
theorem dX11_isTray_0 : decode cX11_isTray 0 = .ok (.iload_n 1, 1) := by decide +kernel
theorem dX11_isTray_1 : decode cX11_isTray 1 = .ok (.ifCond .lt 12, 3) := by decide +kernel
theorem dX11_isTray_4 : decode cX11_isTray 4 = .ok (.iload_n 1, 1) := by decide +kernel
theorem dX11_isTray_5 : decode cX11_isTray 5 = .ok (.iconst 4, 1) := by decide +kernel
theorem dX11_isTray_6 : decode cX11_isTray 6 = .ok (.if_icmp .ge 7, 3) := by decide +kernel
theorem dX11_isTray_9 : decode cX11_isTray 9 = .ok (.iconst 1, 1) := by decide +kernel
theorem dX11_isTray_10 : decode cX11_isTray 10 = .ok (.goto 4, 3) := by decide +kernel
theorem dX11_isTray_13 : decode cX11_isTray 13 = .ok (.iconst 0, 1) := by decide +kernel
theorem dX11_isTray_14 : decode cX11_isTray 14 = .ok (.ireturn, 1) := by decide +kernel
theorem dX11_judge_0 : decode cX11_judge 0 = .ok (.aload_n 0, 1) := by decide +kernel
theorem dX11_judge_1 : decode cX11_judge 1 = .ok (.iload_n 1, 1) := by decide +kernel
theorem dX11_judge_2 : decode cX11_judge 2 = .ok (.invokevirtual 223, 3) := by decide +kernel
theorem dX11_judge_5 : decode cX11_judge 5 = .ok (.ifCond .eq 12, 3) := by decide +kernel
theorem dX11_judge_8 : decode cX11_judge 8 = .ok (.iload_n 2, 1) := by decide +kernel
theorem dX11_judge_9 : decode cX11_judge 9 = .ok (.ifCond .lt 8, 3) := by decide +kernel
theorem dX11_judge_12 : decode cX11_judge 12 = .ok (.iload_n 2, 1) := by decide +kernel
theorem dX11_judge_13 : decode cX11_judge 13 = .ok (.iconst 3, 1) := by decide +kernel
theorem dX11_judge_14 : decode cX11_judge 14 = .ok (.if_icmp .le 6, 3) := by decide +kernel
theorem dX11_judge_17 : decode cX11_judge 17 = .ok (.bipush (-2), 2) := by decide +kernel
theorem dX11_judge_19 : decode cX11_judge 19 = .ok (.ireturn, 1) := by decide +kernel
theorem dX11_judge_20 : decode cX11_judge 20 = .ok (.aload_n 0, 1) := by decide +kernel
theorem dX11_judge_21 : decode cX11_judge 21 = .ok (.getfield 32, 3) := by decide +kernel
theorem dX11_judge_24 : decode cX11_judge 24 = .ok (.iload_n 1, 1) := by decide +kernel
theorem dX11_judge_25 : decode cX11_judge 25 = .ok (.aaload, 1) := by decide +kernel
theorem dX11_judge_26 : decode cX11_judge 26 = .ok (.astore_n 3, 1) := by decide +kernel
theorem dX11_judge_27 : decode cX11_judge 27 = .ok (.aload_n 3, 1) := by decide +kernel
theorem dX11_judge_28 : decode cX11_judge 28 = .ok (.invokevirtual 226, 3) := by decide +kernel
theorem dX11_judge_31 : decode cX11_judge 31 = .ok (.ifCond .eq 6, 3) := by decide +kernel
theorem dX11_judge_34 : decode cX11_judge 34 = .ok (.bipush (-6), 2) := by decide +kernel
theorem dX11_judge_36 : decode cX11_judge 36 = .ok (.ireturn, 1) := by decide +kernel
theorem dX11_laundress_0 : decode cX11_laundress 0 = .ok (.aload_n 0, 1) := by decide +kernel
theorem dX11_laundress_1 : decode cX11_laundress 1 = .ok (.iload_n 1, 1) := by decide +kernel
theorem dX11_laundress_2 : decode cX11_laundress 2 = .ok (.invokevirtual 257, 3) := by decide +kernel
theorem dX11_laundress_5 : decode cX11_laundress 5 = .ok (.ifCond .ne 6, 3) := by decide +kernel
theorem dX11_laundress_8 : decode cX11_laundress 8 = .ok (.bipush (-3), 2) := by decide +kernel
theorem dX11_laundress_10 : decode cX11_laundress 10 = .ok (.ireturn, 1) := by decide +kernel
theorem dX11_laundress_11 : decode cX11_laundress 11 = .ok (.aload_n 0, 1) := by decide +kernel
theorem dX11_laundress_12 : decode cX11_laundress 12 = .ok (.invokevirtual 260, 3) := by decide +kernel
theorem dX11_laundress_15 : decode cX11_laundress 15 = .ok (.aload_n 0, 1) := by decide +kernel
theorem dX11_laundress_16 : decode cX11_laundress 16 = .ok (.getfield 83, 3) := by decide +kernel
theorem dX11_laundress_19 : decode cX11_laundress 19 = .ok (.invokevirtual 155, 3) := by decide +kernel
theorem dX11_laundress_22 : decode cX11_laundress 22 = .ok (.iload_n 1, 1) := by decide +kernel
theorem dX11_laundress_23 : decode cX11_laundress 23 = .ok (.iconst (-1), 1) := by decide +kernel
theorem dX11_laundress_24 : decode cX11_laundress 24 = .ok (.ixor, 1) := by decide +kernel
theorem dX11_laundress_25 : decode cX11_laundress 25 = .ok (.iand, 1) := by decide +kernel
theorem dX11_laundress_26 : decode cX11_laundress 26 = .ok (.istore_n 2, 1) := by decide +kernel
theorem dX11_laundress_27 : decode cX11_laundress 27 = .ok (.iconst (-1), 1) := by decide +kernel
theorem dX11_laundress_28 : decode cX11_laundress 28 = .ok (.istore_n 3, 1) := by decide +kernel
theorem dX11_laundress_29 : decode cX11_laundress 29 = .ok (.iconst (-1), 1) := by decide +kernel
theorem dX11_laundress_30 : decode cX11_laundress 30 = .ok (.istore 4, 2) := by decide +kernel
theorem dX11_laundress_32 : decode cX11_laundress 32 = .ok (.iconst 0, 1) := by decide +kernel
theorem dX11_laundress_33 : decode cX11_laundress 33 = .ok (.istore 5, 2) := by decide +kernel
theorem dX11_laundress_35 : decode cX11_laundress 35 = .ok (.iload 5, 2) := by decide +kernel
theorem dX11_laundress_37 : decode cX11_laundress 37 = .ok (.aload_n 0, 1) := by decide +kernel
theorem dX11_laundress_38 : decode cX11_laundress 38 = .ok (.getfield 83, 3) := by decide +kernel
theorem dX11_laundress_41 : decode cX11_laundress 41 = .ok (.getfield 126, 3) := by decide +kernel
theorem dX11_laundress_44 : decode cX11_laundress 44 = .ok (.getfield 159, 3) := by decide +kernel
theorem dX11_laundress_47 : decode cX11_laundress 47 = .ok (.if_icmp .ge 50, 3) := by decide +kernel
theorem dX11_laundress_97 : decode cX11_laundress 97 = .ok (.iload_n 3, 1) := by decide +kernel
theorem dX11_laundress_98 : decode cX11_laundress 98 = .ok (.ireturn, 1) := by decide +kernel
theorem dX11_lists_0 : decode cX11_lists 0 = .ok (.aload_n 0, 1) := by decide +kernel
theorem dX11_lists_1 : decode cX11_lists 1 = .ok (.iload_n 1, 1) := by decide +kernel
theorem dX11_lists_2 : decode cX11_lists 2 = .ok (.invokevirtual 223, 3) := by decide +kernel
theorem dX11_lists_5 : decode cX11_lists 5 = .ok (.ifCond .eq 12, 3) := by decide +kernel
theorem dX11_lists_8 : decode cX11_lists 8 = .ok (.aload_n 0, 1) := by decide +kernel
theorem dX11_lists_9 : decode cX11_lists 9 = .ok (.iload_n 2, 1) := by decide +kernel
theorem dX11_lists_10 : decode cX11_lists 10 = .ok (.iload_n 3, 1) := by decide +kernel
theorem dX11_lists_11 : decode cX11_lists 11 = .ok (.invokevirtual 180, 3) := by decide +kernel
theorem dX11_lists_14 : decode cX11_lists 14 = .ok (.ifCond .ne 6, 3) := by decide +kernel
theorem dX11_lists_17 : decode cX11_lists 17 = .ok (.bipush (-2), 2) := by decide +kernel
theorem dX11_lists_19 : decode cX11_lists 19 = .ok (.ireturn, 1) := by decide +kernel
theorem dX11_nextDraw_0 : decode cX11_nextDraw 0 = .ok (.ldc_w 256, 3) := by decide +kernel
theorem dX11_nextDraw_3 : decode cX11_nextDraw 3 = .ok (.iload_n 0, 1) := by decide +kernel
theorem dX11_nextDraw_4 : decode cX11_nextDraw 4 = .ok (.imul, 1) := by decide +kernel
theorem dX11_nextDraw_5 : decode cX11_nextDraw 5 = .ok (.sipush 12345, 3) := by decide +kernel
theorem dX11_nextDraw_8 : decode cX11_nextDraw 8 = .ok (.iadd, 1) := by decide +kernel
theorem dX11_nextDraw_9 : decode cX11_nextDraw 9 = .ok (.ireturn, 1) := by decide +kernel
theorem dX11_numberOrSet_0 : decode cX11_numberOrSet 0 = .ok (.iload_n 0, 1) := by decide +kernel
theorem dX11_numberOrSet_1 : decode cX11_numberOrSet 1 = .ok (.iconst (-1), 1) := by decide +kernel
theorem dX11_numberOrSet_2 : decode cX11_numberOrSet 2 = .ok (.if_icmp .ne 5, 3) := by decide +kernel
theorem dX11_numberOrSet_5 : decode cX11_numberOrSet 5 = .ok (.iconst (-1), 1) := by decide +kernel
theorem dX11_numberOrSet_6 : decode cX11_numberOrSet 6 = .ok (.ireturn, 1) := by decide +kernel
theorem dX11_numberOrSet_7 : decode cX11_numberOrSet 7 = .ok (.iload_n 1, 1) := by decide +kernel
theorem dX11_numberOrSet_8 : decode cX11_numberOrSet 8 = .ok (.ifCond .ne 10, 3) := by decide +kernel
theorem dX11_numberOrSet_11 : decode cX11_numberOrSet 11 = .ok (.iload_n 0, 1) := by decide +kernel
theorem dX11_numberOrSet_12 : decode cX11_numberOrSet 12 = .ok (.invokestatic 193, 3) := by decide +kernel
theorem dX11_numberOrSet_15 : decode cX11_numberOrSet 15 = .ok (.goto 4, 3) := by decide +kernel
theorem dX11_numberOrSet_18 : decode cX11_numberOrSet 18 = .ok (.iload_n 0, 1) := by decide +kernel
theorem dX11_numberOrSet_19 : decode cX11_numberOrSet 19 = .ok (.ireturn, 1) := by decide +kernel
theorem dX11_numbers_0 : decode cX11_numbers 0 = .ok (.aload_n 0, 1) := by decide +kernel
theorem dX11_numbers_1 : decode cX11_numbers 1 = .ok (.iload_n 1, 1) := by decide +kernel
theorem dX11_numbers_2 : decode cX11_numbers 2 = .ok (.invokevirtual 223, 3) := by decide +kernel
theorem dX11_numbers_5 : decode cX11_numbers 5 = .ok (.ifCond .eq 12, 3) := by decide +kernel
theorem dX11_numbers_8 : decode cX11_numbers 8 = .ok (.iload_n 2, 1) := by decide +kernel
theorem dX11_numbers_9 : decode cX11_numbers 9 = .ok (.ifCond .lt 8, 3) := by decide +kernel
theorem dX11_numbers_12 : decode cX11_numbers 12 = .ok (.iload_n 2, 1) := by decide +kernel
theorem dX11_numbers_13 : decode cX11_numbers 13 = .ok (.iconst 4, 1) := by decide +kernel
theorem dX11_numbers_14 : decode cX11_numbers 14 = .ok (.if_icmp .lt 6, 3) := by decide +kernel
theorem dX11_numbers_17 : decode cX11_numbers 17 = .ok (.bipush (-2), 2) := by decide +kernel
theorem dX11_numbers_19 : decode cX11_numbers 19 = .ok (.ireturn, 1) := by decide +kernel
theorem dX11_numbers_20 : decode cX11_numbers 20 = .ok (.iload_n 3, 1) := by decide +kernel
theorem dX11_numbers_21 : decode cX11_numbers 21 = .ok (.ifCond .lt 9, 3) := by decide +kernel
theorem dX11_numbers_24 : decode cX11_numbers 24 = .ok (.iload_n 3, 1) := by decide +kernel
theorem dX11_numbers_25 : decode cX11_numbers 25 = .ok (.bipush 40, 2) := by decide +kernel
theorem dX11_numbers_27 : decode cX11_numbers 27 = .ok (.if_icmp .le 6, 3) := by decide +kernel
theorem dX11_numbers_30 : decode cX11_numbers 30 = .ok (.bipush (-3), 2) := by decide +kernel
theorem dX11_numbers_32 : decode cX11_numbers 32 = .ok (.ireturn, 1) := by decide +kernel
theorem dX11_numbers_33 : decode cX11_numbers 33 = .ok (.aload_n 0, 1) := by decide +kernel
theorem dX11_numbers_34 : decode cX11_numbers 34 = .ok (.getfield 32, 3) := by decide +kernel
theorem dX11_numbers_37 : decode cX11_numbers 37 = .ok (.iload_n 1, 1) := by decide +kernel
theorem dX11_numbers_38 : decode cX11_numbers 38 = .ok (.aaload, 1) := by decide +kernel
theorem dX11_numbers_39 : decode cX11_numbers 39 = .ok (.iload_n 2, 1) := by decide +kernel
theorem dX11_numbers_40 : decode cX11_numbers 40 = .ok (.iload_n 3, 1) := by decide +kernel
theorem dX11_numbers_41 : decode cX11_numbers 41 = .ok (.invokevirtual 357, 3) := by decide +kernel
theorem dX11_numbers_44 : decode cX11_numbers 44 = .ok (.iconst 0, 1) := by decide +kernel
theorem dX11_numbers_45 : decode cX11_numbers 45 = .ok (.ireturn, 1) := by decide +kernel
theorem dX11_opposed_0 : decode cX11_opposed 0 = .ok (.aload_n 0, 1) := by decide +kernel
theorem dX11_opposed_1 : decode cX11_opposed 1 = .ok (.iload_n 1, 1) := by decide +kernel
theorem dX11_opposed_2 : decode cX11_opposed 2 = .ok (.invokevirtual 122, 3) := by decide +kernel
theorem dX11_opposed_5 : decode cX11_opposed 5 = .ok (.ifCond .eq 11, 3) := by decide +kernel
theorem dX11_opposed_16 : decode cX11_opposed 16 = .ok (.bipush (-2), 2) := by decide +kernel
theorem dX11_opposed_18 : decode cX11_opposed 18 = .ok (.ireturn, 1) := by decide +kernel
theorem dX11_opposedTwos_0 : decode cX11_opposedTwos 0 = .ok (.aload_n 0, 1) := by decide +kernel
theorem dX11_opposedTwos_1 : decode cX11_opposedTwos 1 = .ok (.invokevirtual 260, 3) := by decide +kernel
theorem dX11_opposedTwos_4 : decode cX11_opposedTwos 4 = .ok (.iconst 0, 1) := by decide +kernel
theorem dX11_opposedTwos_5 : decode cX11_opposedTwos 5 = .ok (.istore_n 1, 1) := by decide +kernel
theorem dX11_opposedTwos_6 : decode cX11_opposedTwos 6 = .ok (.iconst 0, 1) := by decide +kernel
theorem dX11_opposedTwos_7 : decode cX11_opposedTwos 7 = .ok (.istore_n 2, 1) := by decide +kernel
theorem dX11_opposedTwos_8 : decode cX11_opposedTwos 8 = .ok (.iload_n 2, 1) := by decide +kernel
theorem dX11_opposedTwos_9 : decode cX11_opposedTwos 9 = .ok (.aload_n 0, 1) := by decide +kernel
theorem dX11_opposedTwos_10 : decode cX11_opposedTwos 10 = .ok (.getfield 83, 3) := by decide +kernel
theorem dX11_opposedTwos_13 : decode cX11_opposedTwos 13 = .ok (.getfield 126, 3) := by decide +kernel
theorem dX11_opposedTwos_16 : decode cX11_opposedTwos 16 = .ok (.getfield 159, 3) := by decide +kernel
theorem dX11_opposedTwos_19 : decode cX11_opposedTwos 19 = .ok (.if_icmp .ge 24, 3) := by decide +kernel
theorem dX11_opposedTwos_43 : decode cX11_opposedTwos 43 = .ok (.iload_n 1, 1) := by decide +kernel
theorem dX11_opposedTwos_44 : decode cX11_opposedTwos 44 = .ok (.iconst 2, 1) := by decide +kernel
theorem dX11_opposedTwos_45 : decode cX11_opposedTwos 45 = .ok (.idiv, 1) := by decide +kernel
theorem dX11_opposedTwos_46 : decode cX11_opposedTwos 46 = .ok (.ireturn, 1) := by decide +kernel
theorem dX11_opposites_0 : decode cX11_opposites 0 = .ok (.aload_n 0, 1) := by decide +kernel
theorem dX11_opposites_1 : decode cX11_opposites 1 = .ok (.iload_n 1, 1) := by decide +kernel
theorem dX11_opposites_2 : decode cX11_opposites 2 = .ok (.invokevirtual 122, 3) := by decide +kernel
theorem dX11_opposites_5 : decode cX11_opposites 5 = .ok (.ifCond .ne 6, 3) := by decide +kernel
theorem dX11_opposites_8 : decode cX11_opposites 8 = .ok (.bipush (-2), 2) := by decide +kernel
theorem dX11_opposites_10 : decode cX11_opposites 10 = .ok (.ireturn, 1) := by decide +kernel
theorem dX11_pairs_0 : decode cX11_pairs 0 = .ok (.iload_n 2, 1) := by decide +kernel
theorem dX11_pairs_1 : decode cX11_pairs 1 = .ok (.ifCond .eq 28, 3) := by decide +kernel
theorem dX11_pairs_4 : decode cX11_pairs 4 = .ok (.iload_n 2, 1) := by decide +kernel
theorem dX11_pairs_5 : decode cX11_pairs 5 = .ok (.iconst 1, 1) := by decide +kernel
theorem dX11_pairs_6 : decode cX11_pairs 6 = .ok (.if_icmp .eq 23, 3) := by decide +kernel
theorem dX11_pairs_9 : decode cX11_pairs 9 = .ok (.iload_n 2, 1) := by decide +kernel
theorem dX11_pairs_10 : decode cX11_pairs 10 = .ok (.bipush 10, 2) := by decide +kernel
theorem dX11_pairs_12 : decode cX11_pairs 12 = .ok (.if_icmp .lt 14, 3) := by decide +kernel
theorem dX11_pairs_15 : decode cX11_pairs 15 = .ok (.aload_n 0, 1) := by decide +kernel
theorem dX11_pairs_16 : decode cX11_pairs 16 = .ok (.iload_n 2, 1) := by decide +kernel
theorem dX11_pairs_17 : decode cX11_pairs 17 = .ok (.bipush 10, 2) := by decide +kernel
theorem dX11_pairs_19 : decode cX11_pairs 19 = .ok (.isub, 1) := by decide +kernel
theorem dX11_pairs_20 : decode cX11_pairs 20 = .ok (.invokevirtual 122, 3) := by decide +kernel
theorem dX11_pairs_23 : decode cX11_pairs 23 = .ok (.ifCond .ne 6, 3) := by decide +kernel
theorem dX11_pairs_26 : decode cX11_pairs 26 = .ok (.bipush (-2), 2) := by decide +kernel
theorem dX11_pairs_28 : decode cX11_pairs 28 = .ok (.ireturn, 1) := by decide +kernel
theorem dX11_pairs_29 : decode cX11_pairs 29 = .ok (.aload_n 0, 1) := by decide +kernel
theorem dX11_pairs_30 : decode cX11_pairs 30 = .ok (.iload_n 1, 1) := by decide +kernel
theorem dX11_pairs_31 : decode cX11_pairs 31 = .ok (.invokevirtual 257, 3) := by decide +kernel
theorem dX11_pairs_34 : decode cX11_pairs 34 = .ok (.ifCond .ne 6, 3) := by decide +kernel
theorem dX11_pairs_37 : decode cX11_pairs 37 = .ok (.bipush (-3), 2) := by decide +kernel
theorem dX11_pairs_39 : decode cX11_pairs 39 = .ok (.ireturn, 1) := by decide +kernel
theorem dX11_pairs_40 : decode cX11_pairs 40 = .ok (.aload_n 0, 1) := by decide +kernel
theorem dX11_pairs_41 : decode cX11_pairs 41 = .ok (.invokevirtual 260, 3) := by decide +kernel
theorem dX11_pairs_44 : decode cX11_pairs 44 = .ok (.aload_n 0, 1) := by decide +kernel
theorem dX11_pairs_45 : decode cX11_pairs 45 = .ok (.getfield 56, 3) := by decide +kernel
theorem dX11_pairs_48 : decode cX11_pairs 48 = .ok (.aload_n 0, 1) := by decide +kernel
theorem dX11_pairs_49 : decode cX11_pairs 49 = .ok (.getfield 83, 3) := by decide +kernel
theorem dX11_pairs_52 : decode cX11_pairs 52 = .ok (.getfield 126, 3) := by decide +kernel
theorem dX11_pairs_55 : decode cX11_pairs 55 = .ok (.getfield 149, 3) := by decide +kernel
theorem dX11_pairs_58 : decode cX11_pairs 58 = .ok (.invokevirtual 263, 3) := by decide +kernel
theorem dX11_pairs_61 : decode cX11_pairs 61 = .ok (.iload_n 2, 1) := by decide +kernel
theorem dX11_pairs_62 : decode cX11_pairs 62 = .ok (.lookupswitch 44 #[(0, 26), (1, 35)], 26) := by decide +kernel
theorem dX11_pairs_88 : decode cX11_pairs 88 = .ok (.aload_n 0, 1) := by decide +kernel
theorem dX11_pairs_89 : decode cX11_pairs 89 = .ok (.getfield 56, 3) := by decide +kernel
theorem dX11_pairs_92 : decode cX11_pairs 92 = .ok (.iload_n 1, 1) := by decide +kernel
theorem dX11_pairs_93 : decode cX11_pairs 93 = .ok (.invokevirtual 267, 3) := by decide +kernel
theorem dX11_pairs_96 : decode cX11_pairs 96 = .ok (.ireturn, 1) := by decide +kernel
theorem dX11_pairs_97 : decode cX11_pairs 97 = .ok (.aload_n 0, 1) := by decide +kernel
theorem dX11_pairs_98 : decode cX11_pairs 98 = .ok (.getfield 56, 3) := by decide +kernel
theorem dX11_pairs_101 : decode cX11_pairs 101 = .ok (.iload_n 1, 1) := by decide +kernel
theorem dX11_pairs_102 : decode cX11_pairs 102 = .ok (.invokevirtual 270, 3) := by decide +kernel
theorem dX11_pairs_105 : decode cX11_pairs 105 = .ok (.ireturn, 1) := by decide +kernel
theorem dX11_passed_0 : decode cX11_passed 0 = .ok (.iload_n 2, 1) := by decide +kernel
theorem dX11_passed_1 : decode cX11_passed 1 = .ok (.ifCond .eq 11, 3) := by decide +kernel
theorem dX11_passed_4 : decode cX11_passed 4 = .ok (.iload_n 2, 1) := by decide +kernel
theorem dX11_passed_5 : decode cX11_passed 5 = .ok (.iconst 1, 1) := by decide +kernel
theorem dX11_passed_6 : decode cX11_passed 6 = .ok (.if_icmp .eq 6, 3) := by decide +kernel
theorem dX11_passed_9 : decode cX11_passed 9 = .ok (.bipush (-2), 2) := by decide +kernel
theorem dX11_passed_11 : decode cX11_passed 11 = .ok (.ireturn, 1) := by decide +kernel
theorem dX11_passed_12 : decode cX11_passed 12 = .ok (.aload_n 0, 1) := by decide +kernel
theorem dX11_passed_13 : decode cX11_passed 13 = .ok (.iload_n 1, 1) := by decide +kernel
theorem dX11_passed_14 : decode cX11_passed 14 = .ok (.invokevirtual 316, 3) := by decide +kernel
theorem dX11_passed_17 : decode cX11_passed 17 = .ok (.ifCond .ne 6, 3) := by decide +kernel
theorem dX11_passed_20 : decode cX11_passed 20 = .ok (.bipush (-3), 2) := by decide +kernel
theorem dX11_passed_22 : decode cX11_passed 22 = .ok (.ireturn, 1) := by decide +kernel
theorem dX11_passed_23 : decode cX11_passed 23 = .ok (.aload_n 0, 1) := by decide +kernel
theorem dX11_passed_24 : decode cX11_passed 24 = .ok (.invokevirtual 260, 3) := by decide +kernel
theorem dX11_passed_27 : decode cX11_passed 27 = .ok (.aload_n 0, 1) := by decide +kernel
theorem dX11_passed_28 : decode cX11_passed 28 = .ok (.getfield 56, 3) := by decide +kernel
theorem dX11_passed_31 : decode cX11_passed 31 = .ok (.invokevirtual 277, 3) := by decide +kernel
theorem dX11_passed_34 : decode cX11_passed 34 = .ok (.aload_n 0, 1) := by decide +kernel
theorem dX11_passed_35 : decode cX11_passed 35 = .ok (.iload_n 1, 1) := by decide +kernel
theorem dX11_passed_36 : decode cX11_passed 36 = .ok (.invokevirtual 329, 3) := by decide +kernel
theorem dX11_passed_39 : decode cX11_passed 39 = .ok (.iload_n 2, 1) := by decide +kernel
theorem dX11_passed_40 : decode cX11_passed 40 = .ok (.invokestatic 293, 3) := by decide +kernel
theorem dX11_passed_43 : decode cX11_passed 43 = .ok (.ireturn, 1) := by decide +kernel
theorem dX11_passes_0 : decode cX11_passes 0 = .ok (.aload_n 0, 1) := by decide +kernel
theorem dX11_passes_1 : decode cX11_passes 1 = .ok (.iload_n 1, 1) := by decide +kernel
theorem dX11_passes_2 : decode cX11_passes 2 = .ok (.invokevirtual 316, 3) := by decide +kernel
theorem dX11_passes_5 : decode cX11_passes 5 = .ok (.ifCond .ne 6, 3) := by decide +kernel
theorem dX11_passes_8 : decode cX11_passes 8 = .ok (.bipush (-3), 2) := by decide +kernel
theorem dX11_passes_10 : decode cX11_passes 10 = .ok (.ireturn, 1) := by decide +kernel
theorem dX11_passes_11 : decode cX11_passes 11 = .ok (.aload_n 0, 1) := by decide +kernel
theorem dX11_passes_12 : decode cX11_passes 12 = .ok (.iload_n 1, 1) := by decide +kernel
theorem dX11_passes_13 : decode cX11_passes 13 = .ok (.invokevirtual 319, 3) := by decide +kernel
theorem dX11_passes_16 : decode cX11_passes 16 = .ok (.aload_n 0, 1) := by decide +kernel
theorem dX11_passes_17 : decode cX11_passes 17 = .ok (.getfield 83, 3) := by decide +kernel
theorem dX11_passes_20 : decode cX11_passes 20 = .ok (.invokevirtual 155, 3) := by decide +kernel
theorem dX11_passes_23 : decode cX11_passes 23 = .ok (.invokestatic 326, 3) := by decide +kernel
theorem dX11_passes_26 : decode cX11_passes 26 = .ok (.ifCond .eq 18, 3) := by decide +kernel
theorem dX11_passes_44 : decode cX11_passes 44 = .ok (.iconst 0, 1) := by decide +kernel
theorem dX11_passes_45 : decode cX11_passes 45 = .ok (.ireturn, 1) := by decide +kernel
theorem dX11_perform_0 : decode cX11_perform 0 = .ok (.aload_n 0, 1) := by decide +kernel
theorem dX11_perform_1 : decode cX11_perform 1 = .ok (.iload_n 1, 1) := by decide +kernel
theorem dX11_perform_2 : decode cX11_perform 2 = .ok (.invokevirtual 223, 3) := by decide +kernel
theorem dX11_perform_5 : decode cX11_perform 5 = .ok (.ifCond .ne 6, 3) := by decide +kernel
theorem dX11_perform_8 : decode cX11_perform 8 = .ok (.bipush (-2), 2) := by decide +kernel
theorem dX11_perform_10 : decode cX11_perform 10 = .ok (.ireturn, 1) := by decide +kernel
theorem dX11_perform_11 : decode cX11_perform 11 = .ok (.aload_n 0, 1) := by decide +kernel
theorem dX11_perform_12 : decode cX11_perform 12 = .ok (.getfield 32, 3) := by decide +kernel
theorem dX11_perform_15 : decode cX11_perform 15 = .ok (.iload_n 1, 1) := by decide +kernel
theorem dX11_perform_16 : decode cX11_perform 16 = .ok (.aaload, 1) := by decide +kernel
theorem dX11_perform_17 : decode cX11_perform 17 = .ok (.invokevirtual 226, 3) := by decide +kernel
theorem dX11_perform_20 : decode cX11_perform 20 = .ok (.ifCond .eq 6, 3) := by decide +kernel
theorem dX11_perform_23 : decode cX11_perform 23 = .ok (.bipush (-6), 2) := by decide +kernel
theorem dX11_perform_25 : decode cX11_perform 25 = .ok (.ireturn, 1) := by decide +kernel
theorem dX11_person_0 : decode cX11_person 0 = .ok (.aload_n 0, 1) := by decide +kernel
theorem dX11_person_1 : decode cX11_person 1 = .ok (.iload_n 1, 1) := by decide +kernel
theorem dX11_person_2 : decode cX11_person 2 = .ok (.invokevirtual 122, 3) := by decide +kernel
theorem dX11_person_5 : decode cX11_person 5 = .ok (.ifCond .ne 6, 3) := by decide +kernel
theorem dX11_person_8 : decode cX11_person 8 = .ok (.bipush (-2), 2) := by decide +kernel
theorem dX11_person_10 : decode cX11_person 10 = .ok (.ireturn, 1) := by decide +kernel
theorem dX11_pieces_0 : decode cX11_pieces 0 = .ok (.aload_n 0, 1) := by decide +kernel
theorem dX11_pieces_1 : decode cX11_pieces 1 = .ok (.iload_n 1, 1) := by decide +kernel
theorem dX11_pieces_2 : decode cX11_pieces 2 = .ok (.invokevirtual 257, 3) := by decide +kernel
theorem dX11_pieces_5 : decode cX11_pieces 5 = .ok (.ifCond .ne 6, 3) := by decide +kernel
theorem dX11_pieces_8 : decode cX11_pieces 8 = .ok (.bipush (-3), 2) := by decide +kernel
theorem dX11_pieces_10 : decode cX11_pieces 10 = .ok (.ireturn, 1) := by decide +kernel
theorem dX11_pieces_11 : decode cX11_pieces 11 = .ok (.aload_n 0, 1) := by decide +kernel
theorem dX11_pieces_12 : decode cX11_pieces 12 = .ok (.invokevirtual 260, 3) := by decide +kernel
theorem dX11_pieces_15 : decode cX11_pieces 15 = .ok (.aload_n 0, 1) := by decide +kernel
theorem dX11_pieces_16 : decode cX11_pieces 16 = .ok (.getfield 56, 3) := by decide +kernel
theorem dX11_pieces_19 : decode cX11_pieces 19 = .ok (.iload_n 1, 1) := by decide +kernel
theorem dX11_pieces_20 : decode cX11_pieces 20 = .ok (.iconst 0, 1) := by decide +kernel
theorem dX11_pieces_21 : decode cX11_pieces 21 = .ok (.invokevirtual 286, 3) := by decide +kernel
theorem dX11_pieces_24 : decode cX11_pieces 24 = .ok (.ireturn, 1) := by decide +kernel
theorem dX11_probe_0 : decode cX11_probe 0 = .ok (.aload_n 0, 1) := by decide +kernel
theorem dX11_probe_1 : decode cX11_probe 1 = .ok (.iload_n 1, 1) := by decide +kernel
theorem dX11_probe_2 : decode cX11_probe 2 = .ok (.iload_n 2, 1) := by decide +kernel
theorem dX11_probe_3 : decode cX11_probe 3 = .ok (.invokevirtual 332, 3) := by decide +kernel
theorem dX11_probe_6 : decode cX11_probe 6 = .ok (.istore_n 3, 1) := by decide +kernel
theorem dX11_probe_7 : decode cX11_probe 7 = .ok (.iload_n 3, 1) := by decide +kernel
theorem dX11_probe_8 : decode cX11_probe 8 = .ok (.ifCond .eq 5, 3) := by decide +kernel
theorem dX11_probe_11 : decode cX11_probe 11 = .ok (.iload_n 3, 1) := by decide +kernel
theorem dX11_probe_12 : decode cX11_probe 12 = .ok (.ireturn, 1) := by decide +kernel
theorem dX11_putOnTape_0 : decode cX11_putOnTape 0 = .ok (.bipush 24, 2) := by decide +kernel
theorem dX11_putOnTape_2 : decode cX11_putOnTape 2 = .ok (.istore_n 2, 1) := by decide +kernel
theorem dX11_putOnTape_3 : decode cX11_putOnTape 3 = .ok (.iload_n 2, 1) := by decide +kernel
theorem dX11_putOnTape_4 : decode cX11_putOnTape 4 = .ok (.ifCond .lt 42, 3) := by decide +kernel
theorem dX11_putOnTape_7 : decode cX11_putOnTape 7 = .ok (.aload_n 0, 1) := by decide +kernel
theorem dX11_putOnTape_8 : decode cX11_putOnTape 8 = .ok (.getfield 13, 3) := by decide +kernel
theorem dX11_putOnTape_11 : decode cX11_putOnTape 11 = .ok (.sipush 900, 3) := by decide +kernel
theorem dX11_putOnTape_14 : decode cX11_putOnTape 14 = .ok (.if_icmp .ge 32, 3) := by decide +kernel
theorem dX11_putOnTape_17 : decode cX11_putOnTape 17 = .ok (.aload_n 0, 1) := by decide +kernel
theorem dX11_putOnTape_18 : decode cX11_putOnTape 18 = .ok (.getfield 9, 3) := by decide +kernel
theorem dX11_putOnTape_21 : decode cX11_putOnTape 21 = .ok (.aload_n 0, 1) := by decide +kernel
theorem dX11_putOnTape_22 : decode cX11_putOnTape 22 = .ok (.getfield 13, 3) := by decide +kernel
theorem dX11_putOnTape_25 : decode cX11_putOnTape 25 = .ok (.iload_n 1, 1) := by decide +kernel
theorem dX11_putOnTape_26 : decode cX11_putOnTape 26 = .ok (.iload_n 2, 1) := by decide +kernel
theorem dX11_putOnTape_27 : decode cX11_putOnTape 27 = .ok (.iushr, 1) := by decide +kernel
theorem dX11_putOnTape_28 : decode cX11_putOnTape 28 = .ok (.i2b, 1) := by decide +kernel
theorem dX11_putOnTape_29 : decode cX11_putOnTape 29 = .ok (.bastore, 1) := by decide +kernel
theorem dX11_putOnTape_30 : decode cX11_putOnTape 30 = .ok (.aload_n 0, 1) := by decide +kernel
theorem dX11_putOnTape_31 : decode cX11_putOnTape 31 = .ok (.dup, 1) := by decide +kernel
theorem dX11_putOnTape_32 : decode cX11_putOnTape 32 = .ok (.getfield 13, 3) := by decide +kernel
theorem dX11_putOnTape_35 : decode cX11_putOnTape 35 = .ok (.iconst 1, 1) := by decide +kernel
theorem dX11_putOnTape_36 : decode cX11_putOnTape 36 = .ok (.iadd, 1) := by decide +kernel
theorem dX11_putOnTape_37 : decode cX11_putOnTape 37 = .ok (.putfield 13, 3) := by decide +kernel
theorem dX11_putOnTape_40 : decode cX11_putOnTape 40 = .ok (.iinc 2 (-8), 3) := by decide +kernel
theorem dX11_putOnTape_43 : decode cX11_putOnTape 43 = .ok (.goto (-40), 3) := by decide +kernel
theorem dX11_putOnTape_46 : decode cX11_putOnTape 46 = .ok (.return_, 1) := by decide +kernel
theorem dX11_quorum_0 : decode cX11_quorum 0 = .ok (.aload_n 0, 1) := by decide +kernel
theorem dX11_quorum_1 : decode cX11_quorum 1 = .ok (.invokevirtual 260, 3) := by decide +kernel
theorem dX11_quorum_4 : decode cX11_quorum 4 = .ok (.aload_n 0, 1) := by decide +kernel
theorem dX11_quorum_5 : decode cX11_quorum 5 = .ok (.getfield 56, 3) := by decide +kernel
theorem dX11_quorum_8 : decode cX11_quorum 8 = .ok (.invokevirtual 277, 3) := by decide +kernel
theorem dX11_quorum_11 : decode cX11_quorum 11 = .ok (.aload_n 0, 1) := by decide +kernel
theorem dX11_quorum_12 : decode cX11_quorum 12 = .ok (.getfield 83, 3) := by decide +kernel
theorem dX11_quorum_15 : decode cX11_quorum 15 = .ok (.invokevirtual 155, 3) := by decide +kernel
theorem dX11_quorum_18 : decode cX11_quorum 18 = .ok (.istore_n 1, 1) := by decide +kernel
theorem dX11_quorum_19 : decode cX11_quorum 19 = .ok (.iconst 0, 1) := by decide +kernel
theorem dX11_quorum_20 : decode cX11_quorum 20 = .ok (.istore_n 2, 1) := by decide +kernel
theorem dX11_quorum_21 : decode cX11_quorum 21 = .ok (.iconst 1, 1) := by decide +kernel
theorem dX11_quorum_22 : decode cX11_quorum 22 = .ok (.istore_n 3, 1) := by decide +kernel
theorem dX11_quorum_23 : decode cX11_quorum 23 = .ok (.iload_n 3, 1) := by decide +kernel
theorem dX11_quorum_24 : decode cX11_quorum 24 = .ok (.iload_n 1, 1) := by decide +kernel
theorem dX11_quorum_25 : decode cX11_quorum 25 = .ok (.if_icmp .gt 42, 3) := by decide +kernel
theorem dX11_quorum_67 : decode cX11_quorum 67 = .ok (.iload_n 2, 1) := by decide +kernel
theorem dX11_quorum_68 : decode cX11_quorum 68 = .ok (.ireturn, 1) := by decide +kernel
theorem dX11_refusedGuess_0 : decode cX11_refusedGuess 0 = .ok (.aload_n 0, 1) := by decide +kernel
theorem dX11_refusedGuess_1 : decode cX11_refusedGuess 1 = .ok (.iload_n 1, 1) := by decide +kernel
theorem dX11_refusedGuess_2 : decode cX11_refusedGuess 2 = .ok (.invokevirtual 122, 3) := by decide +kernel
theorem dX11_refusedGuess_5 : decode cX11_refusedGuess 5 = .ok (.ifCond .ne 6, 3) := by decide +kernel
theorem dX11_refusedGuess_8 : decode cX11_refusedGuess 8 = .ok (.bipush (-2), 2) := by decide +kernel
theorem dX11_refusedGuess_10 : decode cX11_refusedGuess 10 = .ok (.ireturn, 1) := by decide +kernel
theorem dX11_remember_0 : decode cX11_remember 0 = .ok (.aload_n 0, 1) := by decide +kernel
theorem dX11_remember_1 : decode cX11_remember 1 = .ok (.getfield 96, 3) := by decide +kernel
theorem dX11_remember_4 : decode cX11_remember 4 = .ok (.aload_n 0, 1) := by decide +kernel
theorem dX11_remember_5 : decode cX11_remember 5 = .ok (.getfield 87, 3) := by decide +kernel
theorem dX11_remember_8 : decode cX11_remember 8 = .ok (.invokevirtual 213, 3) := by decide +kernel
theorem dX11_remember_11 : decode cX11_remember 11 = .ok (.aload_n 0, 1) := by decide +kernel
theorem dX11_remember_12 : decode cX11_remember 12 = .ok (.dup, 1) := by decide +kernel
theorem dX11_remember_13 : decode cX11_remember 13 = .ok (.getfield 74, 3) := by decide +kernel
theorem dX11_remember_16 : decode cX11_remember 16 = .ok (.iconst 1, 1) := by decide +kernel
theorem dX11_remember_17 : decode cX11_remember 17 = .ok (.iadd, 1) := by decide +kernel
theorem dX11_remember_18 : decode cX11_remember 18 = .ok (.putfield 74, 3) := by decide +kernel
theorem dX11_remember_21 : decode cX11_remember 21 = .ok (.return_, 1) := by decide +kernel
theorem dX11_reserve_0 : decode cX11_reserve 0 = .ok (.aload_n 0, 1) := by decide +kernel
theorem dX11_reserve_1 : decode cX11_reserve 1 = .ok (.iload_n 1, 1) := by decide +kernel
theorem dX11_reserve_2 : decode cX11_reserve 2 = .ok (.invokevirtual 257, 3) := by decide +kernel
theorem dX11_reserve_5 : decode cX11_reserve 5 = .ok (.ifCond .ne 6, 3) := by decide +kernel
theorem dX11_reserve_8 : decode cX11_reserve 8 = .ok (.bipush (-3), 2) := by decide +kernel
theorem dX11_reserve_10 : decode cX11_reserve 10 = .ok (.ireturn, 1) := by decide +kernel
theorem dX11_reserve_11 : decode cX11_reserve 11 = .ok (.aload_n 0, 1) := by decide +kernel
theorem dX11_reserve_12 : decode cX11_reserve 12 = .ok (.invokevirtual 260, 3) := by decide +kernel
theorem dX11_reserve_15 : decode cX11_reserve 15 = .ok (.aload_n 0, 1) := by decide +kernel
theorem dX11_reserve_16 : decode cX11_reserve 16 = .ok (.getfield 56, 3) := by decide +kernel
theorem dX11_reserve_19 : decode cX11_reserve 19 = .ok (.invokevirtual 277, 3) := by decide +kernel
theorem dX11_reserve_22 : decode cX11_reserve 22 = .ok (.aload_n 0, 1) := by decide +kernel
theorem dX11_reserve_23 : decode cX11_reserve 23 = .ok (.getfield 83, 3) := by decide +kernel
theorem dX11_reserve_26 : decode cX11_reserve 26 = .ok (.invokevirtual 155, 3) := by decide +kernel
theorem dX11_reserve_29 : decode cX11_reserve 29 = .ok (.iload_n 1, 1) := by decide +kernel
theorem dX11_reserve_30 : decode cX11_reserve 30 = .ok (.iconst (-1), 1) := by decide +kernel
theorem dX11_reserve_31 : decode cX11_reserve 31 = .ok (.ixor, 1) := by decide +kernel
theorem dX11_reserve_32 : decode cX11_reserve 32 = .ok (.iand, 1) := by decide +kernel
theorem dX11_reserve_33 : decode cX11_reserve 33 = .ok (.istore_n 2, 1) := by decide +kernel
theorem dX11_reserve_34 : decode cX11_reserve 34 = .ok (.iconst (-1), 1) := by decide +kernel
theorem dX11_reserve_35 : decode cX11_reserve 35 = .ok (.istore_n 3, 1) := by decide +kernel
theorem dX11_reserve_36 : decode cX11_reserve 36 = .ok (.ldc2_w 351, 3) := by decide +kernel
theorem dX11_reserve_39 : decode cX11_reserve 39 = .ok (.aload_n 0, 1) := by decide +kernel
theorem dX11_reserve_40 : decode cX11_reserve 40 = .ok (.getfield 56, 3) := by decide +kernel
theorem dX11_reserve_43 : decode cX11_reserve 43 = .ok (.iload_n 1, 1) := by decide +kernel
theorem dX11_reserve_44 : decode cX11_reserve 44 = .ok (.aload_n 0, 1) := by decide +kernel
theorem dX11_reserve_45 : decode cX11_reserve 45 = .ok (.getfield 83, 3) := by decide +kernel
theorem dX11_reserve_48 : decode cX11_reserve 48 = .ok (.getfield 126, 3) := by decide +kernel
theorem dX11_reserve_51 : decode cX11_reserve 51 = .ok (.getfield 146, 3) := by decide +kernel
theorem dX11_reserve_54 : decode cX11_reserve 54 = .ok (.invokevirtual 347, 3) := by decide +kernel
theorem dX11_reserve_57 : decode cX11_reserve 57 = .ok (.lmul, 1) := by decide +kernel
theorem dX11_reserve_58 : decode cX11_reserve 58 = .ok (.lstore 4, 2) := by decide +kernel
theorem dX11_reserve_60 : decode cX11_reserve 60 = .ok (.iconst 0, 1) := by decide +kernel
theorem dX11_reserve_61 : decode cX11_reserve 61 = .ok (.istore 6, 2) := by decide +kernel
theorem dX11_reserve_63 : decode cX11_reserve 63 = .ok (.iload 6, 2) := by decide +kernel
theorem dX11_reserve_65 : decode cX11_reserve 65 = .ok (.aload_n 0, 1) := by decide +kernel
theorem dX11_reserve_66 : decode cX11_reserve 66 = .ok (.getfield 83, 3) := by decide +kernel
theorem dX11_reserve_69 : decode cX11_reserve 69 = .ok (.getfield 126, 3) := by decide +kernel
theorem dX11_reserve_72 : decode cX11_reserve 72 = .ok (.getfield 159, 3) := by decide +kernel
theorem dX11_reserve_75 : decode cX11_reserve 75 = .ok (.if_icmp .ge 59, 3) := by decide +kernel
theorem dX11_reserve_134 : decode cX11_reserve 134 = .ok (.iload_n 3, 1) := by decide +kernel
theorem dX11_reserve_135 : decode cX11_reserve 135 = .ok (.ireturn, 1) := by decide +kernel
theorem dX11_restore_0 : decode cX11_restore 0 = .ok (.iload_n 1, 1) := by decide +kernel
theorem dX11_restore_1 : decode cX11_restore 1 = .ok (.ifCond .lt 8, 3) := by decide +kernel
theorem dX11_restore_4 : decode cX11_restore 4 = .ok (.iload_n 1, 1) := by decide +kernel
theorem dX11_restore_5 : decode cX11_restore 5 = .ok (.iconst 2, 1) := by decide +kernel
theorem dX11_restore_6 : decode cX11_restore 6 = .ok (.if_icmp .lt 6, 3) := by decide +kernel
theorem dX11_restore_9 : decode cX11_restore 9 = .ok (.bipush (-2), 2) := by decide +kernel
theorem dX11_restore_11 : decode cX11_restore 11 = .ok (.ireturn, 1) := by decide +kernel
theorem dX11_restore_12 : decode cX11_restore 12 = .ok (.aload_n 0, 1) := by decide +kernel
theorem dX11_restore_13 : decode cX11_restore 13 = .ok (.getfield 42, 3) := by decide +kernel
theorem dX11_restore_16 : decode cX11_restore 16 = .ok (.iload_n 1, 1) := by decide +kernel
theorem dX11_restore_17 : decode cX11_restore 17 = .ok (.baload, 1) := by decide +kernel
theorem dX11_restore_18 : decode cX11_restore 18 = .ok (.ifCond .ne 6, 3) := by decide +kernel
theorem dX11_restore_21 : decode cX11_restore 21 = .ok (.bipush (-5), 2) := by decide +kernel
theorem dX11_restore_23 : decode cX11_restore 23 = .ok (.ireturn, 1) := by decide +kernel
theorem dX11_sayers_0 : decode cX11_sayers 0 = .ok (.aload_n 0, 1) := by decide +kernel
theorem dX11_sayers_1 : decode cX11_sayers 1 = .ok (.getfield 83, 3) := by decide +kernel
theorem dX11_sayers_4 : decode cX11_sayers 4 = .ok (.invokevirtual 155, 3) := by decide +kernel
theorem dX11_sayers_7 : decode cX11_sayers 7 = .ok (.istore_n 2, 1) := by decide +kernel
theorem dX11_sayers_8 : decode cX11_sayers 8 = .ok (.iconst 0, 1) := by decide +kernel
theorem dX11_sayers_9 : decode cX11_sayers 9 = .ok (.istore_n 3, 1) := by decide +kernel
theorem dX11_sayers_10 : decode cX11_sayers 10 = .ok (.iconst 0, 1) := by decide +kernel
theorem dX11_sayers_11 : decode cX11_sayers 11 = .ok (.istore 4, 2) := by decide +kernel
theorem dX11_sayers_13 : decode cX11_sayers 13 = .ok (.iload 4, 2) := by decide +kernel
theorem dX11_sayers_15 : decode cX11_sayers 15 = .ok (.aload_n 0, 1) := by decide +kernel
theorem dX11_sayers_16 : decode cX11_sayers 16 = .ok (.getfield 83, 3) := by decide +kernel
theorem dX11_sayers_19 : decode cX11_sayers 19 = .ok (.getfield 126, 3) := by decide +kernel
theorem dX11_sayers_22 : decode cX11_sayers 22 = .ok (.getfield 159, 3) := by decide +kernel
theorem dX11_sayers_25 : decode cX11_sayers 25 = .ok (.if_icmp .ge 43, 3) := by decide +kernel
theorem dX11_sayers_68 : decode cX11_sayers 68 = .ok (.iload_n 3, 1) := by decide +kernel
theorem dX11_sayers_69 : decode cX11_sayers 69 = .ok (.ireturn, 1) := by decide +kernel
theorem dX11_send_0 : decode cX11_send 0 = .ok (.aload_n 0, 1) := by decide +kernel
theorem dX11_send_1 : decode cX11_send 1 = .ok (.bipush 100, 2) := by decide +kernel
theorem dX11_send_3 : decode cX11_send 3 = .ok (.iload_n 1, 1) := by decide +kernel
theorem dX11_send_4 : decode cX11_send 4 = .ok (.invokevirtual 190, 3) := by decide +kernel
theorem dX11_send_7 : decode cX11_send 7 = .ok (.ireturn, 1) := by decide +kernel
theorem dX11_sendOrCall_0 : decode cX11_sendOrCall 0 = .ok (.aload_n 0, 1) := by decide +kernel
theorem dX11_sendOrCall_1 : decode cX11_sendOrCall 1 = .ok (.iload_n 2, 1) := by decide +kernel
theorem dX11_sendOrCall_2 : decode cX11_sendOrCall 2 = .ok (.invokevirtual 122, 3) := by decide +kernel
theorem dX11_sendOrCall_5 : decode cX11_sendOrCall 5 = .ok (.ifCond .ne 6, 3) := by decide +kernel
theorem dX11_sendOrCall_8 : decode cX11_sendOrCall 8 = .ok (.bipush (-11), 2) := by decide +kernel
theorem dX11_sendOrCall_10 : decode cX11_sendOrCall 10 = .ok (.ireturn, 1) := by decide +kernel
theorem dX11_sits_0 : decode cX11_sits 0 = .ok (.aload_n 0, 1) := by decide +kernel
theorem dX11_sits_1 : decode cX11_sits 1 = .ok (.iload_n 1, 1) := by decide +kernel
theorem dX11_sits_2 : decode cX11_sits 2 = .ok (.invokevirtual 257, 3) := by decide +kernel
theorem dX11_sits_5 : decode cX11_sits 5 = .ok (.ifCond .ne 6, 3) := by decide +kernel
theorem dX11_sits_8 : decode cX11_sits 8 = .ok (.bipush (-3), 2) := by decide +kernel
theorem dX11_sits_10 : decode cX11_sits 10 = .ok (.ireturn, 1) := by decide +kernel
theorem dX11_sits_11 : decode cX11_sits 11 = .ok (.aload_n 0, 1) := by decide +kernel
theorem dX11_sits_12 : decode cX11_sits 12 = .ok (.invokevirtual 260, 3) := by decide +kernel
theorem dX11_sits_15 : decode cX11_sits 15 = .ok (.aload_n 0, 1) := by decide +kernel
theorem dX11_sits_16 : decode cX11_sits 16 = .ok (.getfield 56, 3) := by decide +kernel
theorem dX11_sits_19 : decode cX11_sits 19 = .ok (.iload_n 1, 1) := by decide +kernel
theorem dX11_sits_20 : decode cX11_sits 20 = .ok (.iconst 0, 1) := by decide +kernel
theorem dX11_sits_21 : decode cX11_sits 21 = .ok (.invokevirtual 247, 3) := by decide +kernel
theorem dX11_sits_24 : decode cX11_sits 24 = .ok (.ifCond .eq 7, 3) := by decide +kernel
theorem dX11_sits_27 : decode cX11_sits 27 = .ok (.iconst 1, 1) := by decide +kernel
theorem dX11_sits_28 : decode cX11_sits 28 = .ok (.goto 4, 3) := by decide +kernel
theorem dX11_sits_32 : decode cX11_sits 32 = .ok (.ireturn, 1) := by decide +kernel
theorem dX11_talk_0 : decode cX11_talk 0 = .ok (.aload_n 0, 1) := by decide +kernel
theorem dX11_talk_1 : decode cX11_talk 1 = .ok (.iload_n 1, 1) := by decide +kernel
theorem dX11_talk_2 : decode cX11_talk 2 = .ok (.iload_n 2, 1) := by decide +kernel
theorem dX11_talk_3 : decode cX11_talk 3 = .ok (.invokevirtual 180, 3) := by decide +kernel
theorem dX11_talk_6 : decode cX11_talk 6 = .ok (.ifCond .ne 6, 3) := by decide +kernel
theorem dX11_talk_9 : decode cX11_talk 9 = .ok (.bipush (-11), 2) := by decide +kernel
theorem dX11_talk_11 : decode cX11_talk 11 = .ok (.ireturn, 1) := by decide +kernel
theorem dX11_talkBy_0 : decode cX11_talkBy 0 = .ok (.aload_n 0, 1) := by decide +kernel
theorem dX11_talkBy_1 : decode cX11_talkBy 1 = .ok (.iload_n 1, 1) := by decide +kernel
theorem dX11_talkBy_2 : decode cX11_talkBy 2 = .ok (.iload_n 2, 1) := by decide +kernel
theorem dX11_talkBy_3 : decode cX11_talkBy 3 = .ok (.invokevirtual 180, 3) := by decide +kernel
theorem dX11_talkBy_6 : decode cX11_talkBy 6 = .ok (.ifCond .ne 6, 3) := by decide +kernel
theorem dX11_talkBy_9 : decode cX11_talkBy 9 = .ok (.bipush (-2), 2) := by decide +kernel
theorem dX11_talkBy_11 : decode cX11_talkBy 11 = .ok (.ireturn, 1) := by decide +kernel
theorem dX11_talks_0 : decode cX11_talks 0 = .ok (.aload_n 0, 1) := by decide +kernel
theorem dX11_talks_1 : decode cX11_talks 1 = .ok (.iload_n 1, 1) := by decide +kernel
theorem dX11_talks_2 : decode cX11_talks 2 = .ok (.iload_n 2, 1) := by decide +kernel
theorem dX11_talks_3 : decode cX11_talks 3 = .ok (.invokevirtual 180, 3) := by decide +kernel
theorem dX11_talks_6 : decode cX11_talks 6 = .ok (.ifCond .ne 6, 3) := by decide +kernel
theorem dX11_talks_9 : decode cX11_talks 9 = .ok (.bipush (-2), 2) := by decide +kernel
theorem dX11_talks_11 : decode cX11_talks 11 = .ok (.ireturn, 1) := by decide +kernel
theorem dX11_town_0 : decode cX11_town 0 = .ok (.iload_n 1, 1) := by decide +kernel
theorem dX11_town_1 : decode cX11_town 1 = .ok (.ifCond .lt 10, 3) := by decide +kernel
theorem dX11_town_4 : decode cX11_town 4 = .ok (.iload_n 1, 1) := by decide +kernel
theorem dX11_town_5 : decode cX11_town 5 = .ok (.sipush 999, 3) := by decide +kernel
theorem dX11_town_8 : decode cX11_town 8 = .ok (.if_icmp .le 6, 3) := by decide +kernel
theorem dX11_town_11 : decode cX11_town 11 = .ok (.bipush (-3), 2) := by decide +kernel
theorem dX11_town_13 : decode cX11_town 13 = .ok (.ireturn, 1) := by decide +kernel
theorem dX11_town_14 : decode cX11_town 14 = .ok (.aload_n 0, 1) := by decide +kernel
theorem dX11_town_15 : decode cX11_town 15 = .ok (.getfield 83, 3) := by decide +kernel
theorem dX11_town_18 : decode cX11_town 18 = .ok (.aload_n 0, 1) := by decide +kernel
theorem dX11_town_19 : decode cX11_town 19 = .ok (.getfield 83, 3) := by decide +kernel
theorem dX11_town_22 : decode cX11_town 22 = .ok (.getfield 165, 3) := by decide +kernel
theorem dX11_town_25 : decode cX11_town 25 = .ok (.iload_n 1, 1) := by decide +kernel
theorem dX11_town_26 : decode cX11_town 26 = .ok (.iadd, 1) := by decide +kernel
theorem dX11_town_27 : decode cX11_town 27 = .ok (.invokevirtual 168, 3) := by decide +kernel
theorem dX11_town_30 : decode cX11_town 30 = .ok (.ireturn, 1) := by decide +kernel
theorem dX11_townSits_0 : decode cX11_townSits 0 = .ok (.aload_n 0, 1) := by decide +kernel
theorem dX11_townSits_1 : decode cX11_townSits 1 = .ok (.getfield 56, 3) := by decide +kernel
theorem dX11_townSits_4 : decode cX11_townSits 4 = .ok (.aload_n 1, 1) := by decide +kernel
theorem dX11_townSits_5 : decode cX11_townSits 5 = .ok (.aload_n 1, 1) := by decide +kernel
theorem dX11_townSits_6 : decode cX11_townSits 6 = .ok (.getfield 165, 3) := by decide +kernel
theorem dX11_townSits_9 : decode cX11_townSits 9 = .ok (.aload_n 0, 1) := by decide +kernel
theorem dX11_townSits_10 : decode cX11_townSits 10 = .ok (.getfield 49, 3) := by decide +kernel
theorem dX11_townSits_13 : decode cX11_townSits 13 = .ok (.invokevirtual 243, 3) := by decide +kernel
theorem dX11_townSits_16 : decode cX11_townSits 16 = .ok (.aload_n 0, 1) := by decide +kernel
theorem dX11_townSits_17 : decode cX11_townSits 17 = .ok (.getfield 56, 3) := by decide +kernel
theorem dX11_townSits_20 : decode cX11_townSits 20 = .ok (.aload_n 1, 1) := by decide +kernel
theorem dX11_townSits_21 : decode cX11_townSits 21 = .ok (.invokevirtual 155, 3) := by decide +kernel
theorem dX11_townSits_24 : decode cX11_townSits 24 = .ok (.iconst 0, 1) := by decide +kernel
theorem dX11_townSits_25 : decode cX11_townSits 25 = .ok (.invokevirtual 247, 3) := by decide +kernel
theorem dX11_townSits_28 : decode cX11_townSits 28 = .ok (.ireturn, 1) := by decide +kernel
theorem dX11_undo_0 : decode cX11_undo 0 = .ok (.iload_n 1, 1) := by decide +kernel
theorem dX11_undo_1 : decode cX11_undo 1 = .ok (.iconst 1, 1) := by decide +kernel
theorem dX11_undo_2 : decode cX11_undo 2 = .ok (.if_icmp .lt 14, 3) := by decide +kernel
theorem dX11_undo_5 : decode cX11_undo 5 = .ok (.iload_n 1, 1) := by decide +kernel
theorem dX11_undo_6 : decode cX11_undo 6 = .ok (.aload_n 0, 1) := by decide +kernel
theorem dX11_undo_7 : decode cX11_undo 7 = .ok (.getfield 96, 3) := by decide +kernel
theorem dX11_undo_10 : decode cX11_undo 10 = .ok (.getfield 216, 3) := by decide +kernel
theorem dX11_undo_13 : decode cX11_undo 13 = .ok (.if_icmp .le 6, 3) := by decide +kernel
theorem dX11_undo_16 : decode cX11_undo 16 = .ok (.bipush (-3), 2) := by decide +kernel
theorem dX11_undo_18 : decode cX11_undo 18 = .ok (.ireturn, 1) := by decide +kernel
theorem dX11_ways_0 : decode cX11_ways 0 = .ok (.aload_n 0, 1) := by decide +kernel
theorem dX11_ways_1 : decode cX11_ways 1 = .ok (.iload_n 1, 1) := by decide +kernel
theorem dX11_ways_2 : decode cX11_ways 2 = .ok (.invokevirtual 257, 3) := by decide +kernel
theorem dX11_ways_5 : decode cX11_ways 5 = .ok (.ifCond .ne 6, 3) := by decide +kernel
theorem dX11_ways_8 : decode cX11_ways 8 = .ok (.bipush (-3), 2) := by decide +kernel
theorem dX11_ways_10 : decode cX11_ways 10 = .ok (.ireturn, 1) := by decide +kernel
theorem dX11_ways_11 : decode cX11_ways 11 = .ok (.aload_n 0, 1) := by decide +kernel
theorem dX11_ways_12 : decode cX11_ways 12 = .ok (.invokevirtual 260, 3) := by decide +kernel
theorem dX11_ways_15 : decode cX11_ways 15 = .ok (.aload_n 0, 1) := by decide +kernel
theorem dX11_ways_16 : decode cX11_ways 16 = .ok (.getfield 56, 3) := by decide +kernel
theorem dX11_ways_19 : decode cX11_ways 19 = .ok (.invokevirtual 277, 3) := by decide +kernel
theorem dX11_ways_22 : decode cX11_ways 22 = .ok (.aload_n 0, 1) := by decide +kernel
theorem dX11_ways_23 : decode cX11_ways 23 = .ok (.getfield 56, 3) := by decide +kernel
theorem dX11_ways_26 : decode cX11_ways 26 = .ok (.getfield 280, 3) := by decide +kernel
theorem dX11_ways_29 : decode cX11_ways 29 = .ok (.iload_n 1, 1) := by decide +kernel
theorem dX11_ways_30 : decode cX11_ways 30 = .ok (.iaload, 1) := by decide +kernel
theorem dX11_ways_31 : decode cX11_ways 31 = .ok (.ireturn, 1) := by decide +kernel
theorem dX11_word_0 : decode cX11_word 0 = .ok (.aload_n 0, 1) := by decide +kernel
theorem dX11_word_1 : decode cX11_word 1 = .ok (.getfield 83, 3) := by decide +kernel
theorem dX11_word_4 : decode cX11_word 4 = .ok (.invokevirtual 155, 3) := by decide +kernel
theorem dX11_word_7 : decode cX11_word 7 = .ok (.istore_n 1, 1) := by decide +kernel
theorem dX11_word_8 : decode cX11_word 8 = .ok (.aload_n 0, 1) := by decide +kernel
theorem dX11_word_9 : decode cX11_word 9 = .ok (.aload_n 0, 1) := by decide +kernel
theorem dX11_word_10 : decode cX11_word 10 = .ok (.getfield 83, 3) := by decide +kernel
theorem dX11_word_13 : decode cX11_word 13 = .ok (.invokevirtual 239, 3) := by decide +kernel
theorem dX11_word_16 : decode cX11_word 16 = .ok (.ifCond .eq 5, 3) := by decide +kernel
theorem dX11_word_19 : decode cX11_word 19 = .ok (.iconst (-1), 1) := by decide +kernel
theorem dX11_word_20 : decode cX11_word 20 = .ok (.ireturn, 1) := by decide +kernel
theorem dX11_write_0 : decode cX11_write 0 = .ok (.aload_n 0, 1) := by decide +kernel
theorem dX11_write_1 : decode cX11_write 1 = .ok (.iload_n 1, 1) := by decide +kernel
theorem dX11_write_2 : decode cX11_write 2 = .ok (.invokevirtual 223, 3) := by decide +kernel
theorem dX11_write_5 : decode cX11_write 5 = .ok (.ifCond .ne 7, 3) := by decide +kernel
theorem dX11_write_8 : decode cX11_write 8 = .ok (.ldc2_w 343, 3) := by decide +kernel
theorem dX11_write_11 : decode cX11_write 11 = .ok (.lreturn, 1) := by decide +kernel
theorem dX11_write_12 : decode cX11_write 12 = .ok (.aload_n 0, 1) := by decide +kernel
theorem dX11_write_13 : decode cX11_write 13 = .ok (.getfield 32, 3) := by decide +kernel
theorem dX11_write_16 : decode cX11_write 16 = .ok (.iload_n 1, 1) := by decide +kernel
theorem dX11_write_17 : decode cX11_write 17 = .ok (.aaload, 1) := by decide +kernel
theorem dX11_write_18 : decode cX11_write 18 = .ok (.astore 5, 2) := by decide +kernel
theorem dX11_write_20 : decode cX11_write 20 = .ok (.aload 5, 2) := by decide +kernel
theorem dX11_write_22 : decode cX11_write 22 = .ok (.invokevirtual 226, 3) := by decide +kernel
theorem dX11_write_25 : decode cX11_write 25 = .ok (.ifCond .eq 7, 3) := by decide +kernel
theorem dX11_write_28 : decode cX11_write 28 = .ok (.ldc2_w 360, 3) := by decide +kernel
theorem dX11_write_31 : decode cX11_write 31 = .ok (.lreturn, 1) := by decide +kernel
theorem dX11_year_0 : decode cX11_year 0 = .ok (.iload_n 2, 1) := by decide +kernel
theorem dX11_year_1 : decode cX11_year 1 = .ok (.iconst 1, 1) := by decide +kernel
theorem dX11_year_2 : decode cX11_year 2 = .ok (.if_icmp .lt 9, 3) := by decide +kernel
theorem dX11_year_5 : decode cX11_year 5 = .ok (.iload_n 2, 1) := by decide +kernel
theorem dX11_year_6 : decode cX11_year 6 = .ok (.bipush 40, 2) := by decide +kernel
theorem dX11_year_8 : decode cX11_year 8 = .ok (.if_icmp .le 6, 3) := by decide +kernel
theorem dX11_year_11 : decode cX11_year 11 = .ok (.bipush (-3), 2) := by decide +kernel
theorem dX11_year_13 : decode cX11_year 13 = .ok (.ireturn, 1) := by decide +kernel
theorem dX11_year_14 : decode cX11_year 14 = .ok (.aload_n 0, 1) := by decide +kernel
theorem dX11_year_15 : decode cX11_year 15 = .ok (.getfield 87, 3) := by decide +kernel
theorem dX11_year_18 : decode cX11_year 18 = .ok (.aload_n 0, 1) := by decide +kernel
theorem dX11_year_19 : decode cX11_year 19 = .ok (.getfield 83, 3) := by decide +kernel
theorem dX11_year_22 : decode cX11_year 22 = .ok (.invokevirtual 202, 3) := by decide +kernel
theorem dX11_year_25 : decode cX11_year 25 = .ok (.iload_n 1, 1) := by decide +kernel
theorem dX11_year_26 : decode cX11_year 26 = .ok (.istore_n 3, 1) := by decide +kernel
theorem dX11_year_27 : decode cX11_year 27 = .ok (.iconst 0, 1) := by decide +kernel
theorem dX11_year_28 : decode cX11_year 28 = .ok (.istore 4, 2) := by decide +kernel
theorem dX11_year_30 : decode cX11_year 30 = .ok (.iconst 0, 1) := by decide +kernel
theorem dX11_year_31 : decode cX11_year 31 = .ok (.istore 5, 2) := by decide +kernel
theorem dX11_year_33 : decode cX11_year 33 = .ok (.iload 5, 2) := by decide +kernel
theorem dX11_year_35 : decode cX11_year 35 = .ok (.iload_n 2, 1) := by decide +kernel
theorem dX11_year_36 : decode cX11_year 36 = .ok (.if_icmp .ge 122, 3) := by decide +kernel
theorem dX11_year_39 : decode cX11_year 39 = .ok (.iload_n 3, 1) := by decide +kernel
theorem dX11_year_40 : decode cX11_year 40 = .ok (.invokestatic 250, 3) := by decide +kernel
theorem dX11_year_43 : decode cX11_year 43 = .ok (.istore_n 3, 1) := by decide +kernel
theorem dX11_year_44 : decode cX11_year 44 = .ok (.iload_n 3, 1) := by decide +kernel
theorem dX11_year_45 : decode cX11_year 45 = .ok (.invokestatic 253, 3) := by decide +kernel
theorem dX11_year_48 : decode cX11_year 48 = .ok (.iconst 4, 1) := by decide +kernel
theorem dX11_year_49 : decode cX11_year 49 = .ok (.irem, 1) := by decide +kernel
theorem dX11_year_50 : decode cX11_year 50 = .ok (.istore 6, 2) := by decide +kernel
theorem dX11_year_52 : decode cX11_year 52 = .ok (.iconst (-1), 1) := by decide +kernel
theorem dX11_year_53 : decode cX11_year 53 = .ok (.istore 7, 2) := by decide +kernel
theorem dX11_year_55 : decode cX11_year 55 = .ok (.iload 6, 2) := by decide +kernel
theorem dX11_year_57 : decode cX11_year 57 = .ok (.ifCond .eq 65, 3) := by decide +kernel
theorem dX11_year_60 : decode cX11_year 60 = .ok (.iload_n 3, 1) := by decide +kernel
theorem dX11_year_61 : decode cX11_year 61 = .ok (.invokestatic 250, 3) := by decide +kernel
theorem dX11_year_64 : decode cX11_year 64 = .ok (.istore_n 3, 1) := by decide +kernel
theorem dX11_year_65 : decode cX11_year 65 = .ok (.iload_n 3, 1) := by decide +kernel
theorem dX11_year_66 : decode cX11_year 66 = .ok (.invokestatic 253, 3) := by decide +kernel
theorem dX11_year_69 : decode cX11_year 69 = .ok (.bipush 10, 2) := by decide +kernel
theorem dX11_year_71 : decode cX11_year 71 = .ok (.irem, 1) := by decide +kernel
theorem dX11_year_72 : decode cX11_year 72 = .ok (.istore 7, 2) := by decide +kernel
theorem dX11_year_74 : decode cX11_year 74 = .ok (.iload 6, 2) := by decide +kernel
theorem dX11_year_76 : decode cX11_year 76 = .ok (.iconst 1, 1) := by decide +kernel
theorem dX11_year_77 : decode cX11_year 77 = .ok (.if_icmp .ne 26, 3) := by decide +kernel
theorem dX11_year_103 : decode cX11_year 103 = .ok (.iload 7, 2) := by decide +kernel
theorem dX11_year_105 : decode cX11_year 105 = .ok (.iload 6, 2) := by decide +kernel
theorem dX11_year_107 : decode cX11_year 107 = .ok (.iconst 2, 1) := by decide +kernel
theorem dX11_year_108 : decode cX11_year 108 = .ok (.if_icmp .ne 8, 3) := by decide +kernel
theorem dX11_year_116 : decode cX11_year 116 = .ok (.sipush 200, 3) := by decide +kernel
theorem dX11_year_119 : decode cX11_year 119 = .ok (.iadd, 1) := by decide +kernel
theorem dX11_year_120 : decode cX11_year 120 = .ok (.istore 7, 2) := by decide +kernel
theorem dX11_year_122 : decode cX11_year 122 = .ok (.aload_n 0, 1) := by decide +kernel
theorem dX11_year_123 : decode cX11_year 123 = .ok (.getfield 83, 3) := by decide +kernel
theorem dX11_year_126 : decode cX11_year 126 = .ok (.iload 7, 2) := by decide +kernel
theorem dX11_year_128 : decode cX11_year 128 = .ok (.i2l, 1) := by decide +kernel
theorem dX11_year_129 : decode cX11_year 129 = .ok (.invokevirtual 198, 3) := by decide +kernel
theorem dX11_year_132 : decode cX11_year 132 = .ok (.ifCond .ne 20, 3) := by decide +kernel
theorem dX11_year_135 : decode cX11_year 135 = .ok (.aload_n 0, 1) := by decide +kernel
theorem dX11_year_136 : decode cX11_year 136 = .ok (.getfield 83, 3) := by decide +kernel
theorem dX11_year_139 : decode cX11_year 139 = .ok (.iload 7, 2) := by decide +kernel
theorem dX11_year_141 : decode cX11_year 141 = .ok (.i2l, 1) := by decide +kernel
theorem dX11_year_142 : decode cX11_year 142 = .ok (.aload_n 0, 1) := by decide +kernel
theorem dX11_year_143 : decode cX11_year 143 = .ok (.getfield 49, 3) := by decide +kernel
theorem dX11_year_146 : decode cX11_year 146 = .ok (.invokevirtual 206, 3) := by decide +kernel
theorem dX11_year_149 : decode cX11_year 149 = .ok (.iinc 4 1, 3) := by decide +kernel
theorem dX11_year_152 : decode cX11_year 152 = .ok (.iinc 5 1, 3) := by decide +kernel
theorem dX11_year_155 : decode cX11_year 155 = .ok (.goto (-122), 3) := by decide +kernel
theorem dX11_year_158 : decode cX11_year 158 = .ok (.iload 4, 2) := by decide +kernel
theorem dX11_year_160 : decode cX11_year 160 = .ok (.ifCond .le 7, 3) := by decide +kernel
theorem dX11_year_163 : decode cX11_year 163 = .ok (.aload_n 0, 1) := by decide +kernel
theorem dX11_year_164 : decode cX11_year 164 = .ok (.invokevirtual 210, 3) := by decide +kernel
theorem dX11_year_167 : decode cX11_year 167 = .ok (.iload 4, 2) := by decide +kernel
theorem dX11_year_169 : decode cX11_year 169 = .ok (.ireturn, 1) := by decide +kernel
theorem dX12_areTwo_0 : decode cX12_areTwo 0 = .ok (.aload_n 0, 1) := by decide +kernel
theorem dX12_areTwo_1 : decode cX12_areTwo 1 = .ok (.iload_n 1, 1) := by decide +kernel
theorem dX12_areTwo_2 : decode cX12_areTwo 2 = .ok (.i2l, 1) := by decide +kernel
theorem dX12_areTwo_3 : decode cX12_areTwo 3 = .ok (.invokevirtual 245, 3) := by decide +kernel
theorem dX12_areTwo_6 : decode cX12_areTwo 6 = .ok (.ifCond .eq 21, 3) := by decide +kernel
theorem dX12_areTwo_27 : decode cX12_areTwo 27 = .ok (.iconst 0, 1) := by decide +kernel
theorem dX12_areTwo_28 : decode cX12_areTwo 28 = .ok (.ireturn, 1) := by decide +kernel
theorem dX12_ayes_0 : decode cX12_ayes 0 = .ok (.aload_n 0, 1) := by decide +kernel
theorem dX12_ayes_1 : decode cX12_ayes 1 = .ok (.iconst 0, 1) := by decide +kernel
theorem dX12_ayes_2 : decode cX12_ayes 2 = .ok (.putfield 1, 3) := by decide +kernel
theorem dX12_ayes_5 : decode cX12_ayes 5 = .ok (.iload_n 1, 1) := by decide +kernel
theorem dX12_ayes_6 : decode cX12_ayes 6 = .ok (.invokestatic 393, 3) := by decide +kernel
theorem dX12_ayes_9 : decode cX12_ayes 9 = .ok (.ifCond .eq 15, 3) := by decide +kernel
theorem dX12_ayes_12 : decode cX12_ayes 12 = .ok (.aload_n 0, 1) := by decide +kernel
theorem dX12_ayes_13 : decode cX12_ayes 13 = .ok (.aload_n 0, 1) := by decide +kernel
theorem dX12_ayes_14 : decode cX12_ayes 14 = .ok (.invokevirtual 255, 3) := by decide +kernel
theorem dX12_ayes_17 : decode cX12_ayes 17 = .ok (.iload_n 1, 1) := by decide +kernel
theorem dX12_ayes_18 : decode cX12_ayes 18 = .ok (.invokevirtual 396, 3) := by decide +kernel
theorem dX12_ayes_21 : decode cX12_ayes 21 = .ok (.goto 5, 3) := by decide +kernel
theorem dX12_ayes_24 : decode cX12_ayes 24 = .ok (.bipush (-3), 2) := by decide +kernel
theorem dX12_ayes_26 : decode cX12_ayes 26 = .ok (.ireturn, 1) := by decide +kernel
theorem dX12_ayesOf_0 : decode cX12_ayesOf 0 = .ok (.iconst 0, 1) := by decide +kernel
theorem dX12_ayesOf_1 : decode cX12_ayesOf 1 = .ok (.istore_n 3, 1) := by decide +kernel
theorem dX12_ayesOf_2 : decode cX12_ayesOf 2 = .ok (.iconst 0, 1) := by decide +kernel
theorem dX12_ayesOf_3 : decode cX12_ayesOf 3 = .ok (.istore 4, 2) := by decide +kernel
theorem dX12_ayesOf_5 : decode cX12_ayesOf 5 = .ok (.iload 4, 2) := by decide +kernel
theorem dX12_ayesOf_7 : decode cX12_ayesOf 7 = .ok (.aload_n 0, 1) := by decide +kernel
theorem dX12_ayesOf_8 : decode cX12_ayesOf 8 = .ok (.getfield 13, 3) := by decide +kernel
theorem dX12_ayesOf_11 : decode cX12_ayesOf 11 = .ok (.iconst 2, 1) := by decide +kernel
theorem dX12_ayesOf_12 : decode cX12_ayesOf 12 = .ok (.iaload, 1) := by decide +kernel
theorem dX12_ayesOf_13 : decode cX12_ayesOf 13 = .ok (.if_icmp .ge 40, 3) := by decide +kernel
theorem dX12_ayesOf_53 : decode cX12_ayesOf 53 = .ok (.iload_n 3, 1) := by decide +kernel
theorem dX12_ayesOf_54 : decode cX12_ayesOf 54 = .ok (.ireturn, 1) := by decide +kernel
theorem dX12_bar_0 : decode cX12_bar 0 = .ok (.aload_n 0, 1) := by decide +kernel
theorem dX12_bar_1 : decode cX12_bar 1 = .ok (.iconst 0, 1) := by decide +kernel
theorem dX12_bar_2 : decode cX12_bar 2 = .ok (.putfield 1, 3) := by decide +kernel
theorem dX12_bar_5 : decode cX12_bar 5 = .ok (.iload_n 2, 1) := by decide +kernel
theorem dX12_bar_6 : decode cX12_bar 6 = .ok (.i2l, 1) := by decide +kernel
theorem dX12_bar_7 : decode cX12_bar 7 = .ok (.lconst 0, 1) := by decide +kernel
theorem dX12_bar_8 : decode cX12_bar 8 = .ok (.lconst 1, 1) := by decide +kernel
theorem dX12_bar_9 : decode cX12_bar 9 = .ok (.invokestatic 145, 3) := by decide +kernel
theorem dX12_bar_12 : decode cX12_bar 12 = .ok (.ifCond .ne 6, 3) := by decide +kernel
theorem dX12_bar_15 : decode cX12_bar 15 = .ok (.bipush (-2), 2) := by decide +kernel
theorem dX12_bar_17 : decode cX12_bar 17 = .ok (.ireturn, 1) := by decide +kernel
theorem dX12_bar_18 : decode cX12_bar 18 = .ok (.aload_n 0, 1) := by decide +kernel
theorem dX12_bar_19 : decode cX12_bar 19 = .ok (.iload_n 1, 1) := by decide +kernel
theorem dX12_bar_20 : decode cX12_bar 20 = .ok (.invokevirtual 349, 3) := by decide +kernel
theorem dX12_bar_23 : decode cX12_bar 23 = .ok (.ifCond .ne 6, 3) := by decide +kernel
theorem dX12_bar_26 : decode cX12_bar 26 = .ok (.bipush (-3), 2) := by decide +kernel
theorem dX12_bar_28 : decode cX12_bar 28 = .ok (.ireturn, 1) := by decide +kernel
theorem dX12_bar_29 : decode cX12_bar 29 = .ok (.aload_n 0, 1) := by decide +kernel
theorem dX12_bar_30 : decode cX12_bar 30 = .ok (.aload_n 0, 1) := by decide +kernel
theorem dX12_bar_31 : decode cX12_bar 31 = .ok (.getfield 13, 3) := by decide +kernel
theorem dX12_bar_34 : decode cX12_bar 34 = .ok (.bipush 52, 2) := by decide +kernel
theorem dX12_bar_36 : decode cX12_bar 36 = .ok (.iaload, 1) := by decide +kernel
theorem dX12_bar_37 : decode cX12_bar 37 = .ok (.invokevirtual 340, 3) := by decide +kernel
theorem dX12_bar_40 : decode cX12_bar 40 = .ok (.aload_n 0, 1) := by decide +kernel
theorem dX12_bar_41 : decode cX12_bar 41 = .ok (.iload_n 1, 1) := by decide +kernel
theorem dX12_bar_42 : decode cX12_bar 42 = .ok (.invokevirtual 361, 3) := by decide +kernel
theorem dX12_bar_45 : decode cX12_bar 45 = .ok (.iload_n 1, 1) := by decide +kernel
theorem dX12_bar_46 : decode cX12_bar 46 = .ok (.invokestatic 281, 3) := by decide +kernel
theorem dX12_bar_49 : decode cX12_bar 49 = .ok (.iconst 2, 1) := by decide +kernel
theorem dX12_bar_50 : decode cX12_bar 50 = .ok (.aload_n 0, 1) := by decide +kernel
theorem dX12_bar_51 : decode cX12_bar 51 = .ok (.getfield 352, 3) := by decide +kernel
theorem dX12_bar_54 : decode cX12_bar 54 = .ok (.imul, 1) := by decide +kernel
theorem dX12_bar_55 : decode cX12_bar 55 = .ok (.isub, 1) := by decide +kernel
theorem dX12_bar_56 : decode cX12_bar 56 = .ok (.istore_n 3, 1) := by decide +kernel
theorem dX12_bar_57 : decode cX12_bar 57 = .ok (.iconst (-1), 1) := by decide +kernel
theorem dX12_bar_58 : decode cX12_bar 58 = .ok (.istore 4, 2) := by decide +kernel
theorem dX12_bar_60 : decode cX12_bar 60 = .ok (.iconst 0, 1) := by decide +kernel
theorem dX12_bar_61 : decode cX12_bar 61 = .ok (.istore 5, 2) := by decide +kernel
theorem dX12_bar_63 : decode cX12_bar 63 = .ok (.iload 5, 2) := by decide +kernel
theorem dX12_bar_65 : decode cX12_bar 65 = .ok (.iload_n 1, 1) := by decide +kernel
theorem dX12_bar_66 : decode cX12_bar 66 = .ok (.if_icmp .gt 65, 3) := by decide +kernel
theorem dX12_bar_69 : decode cX12_bar 69 = .ok (.iload 5, 2) := by decide +kernel
theorem dX12_bar_71 : decode cX12_bar 71 = .ok (.iload_n 1, 1) := by decide +kernel
theorem dX12_bar_72 : decode cX12_bar 72 = .ok (.iconst (-1), 1) := by decide +kernel
theorem dX12_bar_73 : decode cX12_bar 73 = .ok (.ixor, 1) := by decide +kernel
theorem dX12_bar_74 : decode cX12_bar 74 = .ok (.iand, 1) := by decide +kernel
theorem dX12_bar_75 : decode cX12_bar 75 = .ok (.ifCond .ne 50, 3) := by decide +kernel
theorem dX12_bar_78 : decode cX12_bar 78 = .ok (.iload 4, 2) := by decide +kernel
theorem dX12_bar_80 : decode cX12_bar 80 = .ok (.iconst (-1), 1) := by decide +kernel
theorem dX12_bar_81 : decode cX12_bar 81 = .ok (.if_icmp .eq 19, 3) := by decide +kernel
theorem dX12_bar_100 : decode cX12_bar 100 = .ok (.aload_n 0, 1) := by decide +kernel
theorem dX12_bar_101 : decode cX12_bar 101 = .ok (.iload_n 1, 1) := by decide +kernel
theorem dX12_bar_102 : decode cX12_bar 102 = .ok (.iload 5, 2) := by decide +kernel
theorem dX12_bar_104 : decode cX12_bar 104 = .ok (.iconst (-1), 1) := by decide +kernel
theorem dX12_bar_105 : decode cX12_bar 105 = .ok (.ixor, 1) := by decide +kernel
theorem dX12_bar_106 : decode cX12_bar 106 = .ok (.iand, 1) := by decide +kernel
theorem dX12_bar_107 : decode cX12_bar 107 = .ok (.iconst 1, 1) := by decide +kernel
theorem dX12_bar_108 : decode cX12_bar 108 = .ok (.invokevirtual 367, 3) := by decide +kernel
theorem dX12_bar_111 : decode cX12_bar 111 = .ok (.iload 5, 2) := by decide +kernel
theorem dX12_bar_113 : decode cX12_bar 113 = .ok (.invokestatic 281, 3) := by decide +kernel
theorem dX12_bar_116 : decode cX12_bar 116 = .ok (.isub, 1) := by decide +kernel
theorem dX12_bar_117 : decode cX12_bar 117 = .ok (.iload_n 3, 1) := by decide +kernel
theorem dX12_bar_118 : decode cX12_bar 118 = .ok (.if_icmp .ne 7, 3) := by decide +kernel
theorem dX12_bar_121 : decode cX12_bar 121 = .ok (.iload 5, 2) := by decide +kernel
theorem dX12_bar_123 : decode cX12_bar 123 = .ok (.istore 4, 2) := by decide +kernel
theorem dX12_bar_125 : decode cX12_bar 125 = .ok (.iinc 5 1, 3) := by decide +kernel
theorem dX12_bar_128 : decode cX12_bar 128 = .ok (.goto (-65), 3) := by decide +kernel
theorem dX12_bar_131 : decode cX12_bar 131 = .ok (.iload_n 2, 1) := by decide +kernel
theorem dX12_bar_132 : decode cX12_bar 132 = .ok (.ifCond .ne 11, 3) := by decide +kernel
theorem dX12_bar_135 : decode cX12_bar 135 = .ok (.iload 4, 2) := by decide +kernel
theorem dX12_bar_137 : decode cX12_bar 137 = .ok (.invokestatic 281, 3) := by decide +kernel
theorem dX12_bar_140 : decode cX12_bar 140 = .ok (.goto 5, 3) := by decide +kernel
theorem dX12_bar_143 : decode cX12_bar 143 = .ok (.iload 4, 2) := by decide +kernel
theorem dX12_bar_145 : decode cX12_bar 145 = .ok (.ireturn, 1) := by decide +kernel
theorem dX12_bestDay_0 : decode cX12_bestDay 0 = .ok (.aload_n 0, 1) := by decide +kernel
theorem dX12_bestDay_1 : decode cX12_bestDay 1 = .ok (.iconst 0, 1) := by decide +kernel
theorem dX12_bestDay_2 : decode cX12_bestDay 2 = .ok (.putfield 1, 3) := by decide +kernel
theorem dX12_bestDay_5 : decode cX12_bestDay 5 = .ok (.iconst 0, 1) := by decide +kernel
theorem dX12_bestDay_6 : decode cX12_bestDay 6 = .ok (.istore_n 1, 1) := by decide +kernel
theorem dX12_bestDay_7 : decode cX12_bestDay 7 = .ok (.iconst (-1), 1) := by decide +kernel
theorem dX12_bestDay_8 : decode cX12_bestDay 8 = .ok (.istore_n 2, 1) := by decide +kernel
theorem dX12_bestDay_9 : decode cX12_bestDay 9 = .ok (.iconst 0, 1) := by decide +kernel
theorem dX12_bestDay_10 : decode cX12_bestDay 10 = .ok (.istore_n 3, 1) := by decide +kernel
theorem dX12_bestDay_11 : decode cX12_bestDay 11 = .ok (.iload_n 3, 1) := by decide +kernel
theorem dX12_bestDay_12 : decode cX12_bestDay 12 = .ok (.bipush 99, 2) := by decide +kernel
theorem dX12_bestDay_14 : decode cX12_bestDay 14 = .ok (.if_icmp .gt 57, 3) := by decide +kernel
theorem dX12_bestDay_17 : decode cX12_bestDay 17 = .ok (.aload_n 0, 1) := by decide +kernel
theorem dX12_bestDay_18 : decode cX12_bestDay 18 = .ok (.aload_n 0, 1) := by decide +kernel
theorem dX12_bestDay_19 : decode cX12_bestDay 19 = .ok (.getfield 13, 3) := by decide +kernel
theorem dX12_bestDay_22 : decode cX12_bestDay 22 = .ok (.bipush 52, 2) := by decide +kernel
theorem dX12_bestDay_24 : decode cX12_bestDay 24 = .ok (.iaload, 1) := by decide +kernel
theorem dX12_bestDay_25 : decode cX12_bestDay 25 = .ok (.iload_n 3, 1) := by decide +kernel
theorem dX12_bestDay_26 : decode cX12_bestDay 26 = .ok (.iadd, 1) := by decide +kernel
theorem dX12_bestDay_27 : decode cX12_bestDay 27 = .ok (.invokevirtual 340, 3) := by decide +kernel
theorem dX12_bestDay_30 : decode cX12_bestDay 30 = .ok (.aload_n 0, 1) := by decide +kernel
theorem dX12_bestDay_31 : decode cX12_bestDay 31 = .ok (.aload_n 0, 1) := by decide +kernel
theorem dX12_bestDay_32 : decode cX12_bestDay 32 = .ok (.aload_n 0, 1) := by decide +kernel
theorem dX12_bestDay_33 : decode cX12_bestDay 33 = .ok (.getfield 13, 3) := by decide +kernel
theorem dX12_bestDay_36 : decode cX12_bestDay 36 = .ok (.bipush 52, 2) := by decide +kernel
theorem dX12_bestDay_38 : decode cX12_bestDay 38 = .ok (.iaload, 1) := by decide +kernel
theorem dX12_bestDay_39 : decode cX12_bestDay 39 = .ok (.iload_n 3, 1) := by decide +kernel
theorem dX12_bestDay_40 : decode cX12_bestDay 40 = .ok (.iadd, 1) := by decide +kernel
theorem dX12_bestDay_41 : decode cX12_bestDay 41 = .ok (.invokevirtual 220, 3) := by decide +kernel
theorem dX12_bestDay_44 : decode cX12_bestDay 44 = .ok (.invokevirtual 361, 3) := by decide +kernel
theorem dX12_bestDay_47 : decode cX12_bestDay 47 = .ok (.aload_n 0, 1) := by decide +kernel
theorem dX12_bestDay_48 : decode cX12_bestDay 48 = .ok (.getfield 352, 3) := by decide +kernel
theorem dX12_bestDay_51 : decode cX12_bestDay 51 = .ok (.iload_n 2, 1) := by decide +kernel
theorem dX12_bestDay_52 : decode cX12_bestDay 52 = .ok (.if_icmp .gt 6, 3) := by decide +kernel
theorem dX12_bestDay_55 : decode cX12_bestDay 55 = .ok (.goto 10, 3) := by decide +kernel
theorem dX12_bestDay_58 : decode cX12_bestDay 58 = .ok (.iload_n 3, 1) := by decide +kernel
theorem dX12_bestDay_59 : decode cX12_bestDay 59 = .ok (.istore_n 1, 1) := by decide +kernel
theorem dX12_bestDay_60 : decode cX12_bestDay 60 = .ok (.aload_n 0, 1) := by decide +kernel
theorem dX12_bestDay_61 : decode cX12_bestDay 61 = .ok (.getfield 352, 3) := by decide +kernel
theorem dX12_bestDay_64 : decode cX12_bestDay 64 = .ok (.istore_n 2, 1) := by decide +kernel
theorem dX12_bestDay_65 : decode cX12_bestDay 65 = .ok (.iinc 3 1, 3) := by decide +kernel
theorem dX12_bestDay_68 : decode cX12_bestDay 68 = .ok (.goto (-57), 3) := by decide +kernel
theorem dX12_bestDay_71 : decode cX12_bestDay 71 = .ok (.iload_n 1, 1) := by decide +kernel
theorem dX12_bestDay_72 : decode cX12_bestDay 72 = .ok (.ireturn, 1) := by decide +kernel
theorem dX12_bitsOf_0 : decode cX12_bitsOf 0 = .ok (.iconst 0, 1) := by decide +kernel
theorem dX12_bitsOf_1 : decode cX12_bitsOf 1 = .ok (.istore_n 1, 1) := by decide +kernel
theorem dX12_bitsOf_2 : decode cX12_bitsOf 2 = .ok (.iconst 0, 1) := by decide +kernel
theorem dX12_bitsOf_3 : decode cX12_bitsOf 3 = .ok (.istore_n 2, 1) := by decide +kernel
theorem dX12_bitsOf_4 : decode cX12_bitsOf 4 = .ok (.iload_n 2, 1) := by decide +kernel
theorem dX12_bitsOf_5 : decode cX12_bitsOf 5 = .ok (.bipush 10, 2) := by decide +kernel
theorem dX12_bitsOf_7 : decode cX12_bitsOf 7 = .ok (.if_icmp .ge 17, 3) := by decide +kernel
theorem dX12_bitsOf_10 : decode cX12_bitsOf 10 = .ok (.iload_n 1, 1) := by decide +kernel
theorem dX12_bitsOf_11 : decode cX12_bitsOf 11 = .ok (.iload_n 0, 1) := by decide +kernel
theorem dX12_bitsOf_12 : decode cX12_bitsOf 12 = .ok (.iload_n 2, 1) := by decide +kernel
theorem dX12_bitsOf_13 : decode cX12_bitsOf 13 = .ok (.ishr, 1) := by decide +kernel
theorem dX12_bitsOf_14 : decode cX12_bitsOf 14 = .ok (.iconst 1, 1) := by decide +kernel
theorem dX12_bitsOf_15 : decode cX12_bitsOf 15 = .ok (.iand, 1) := by decide +kernel
theorem dX12_bitsOf_16 : decode cX12_bitsOf 16 = .ok (.iadd, 1) := by decide +kernel
theorem dX12_bitsOf_17 : decode cX12_bitsOf 17 = .ok (.istore_n 1, 1) := by decide +kernel
theorem dX12_bitsOf_18 : decode cX12_bitsOf 18 = .ok (.iinc 2 1, 3) := by decide +kernel
theorem dX12_bitsOf_21 : decode cX12_bitsOf 21 = .ok (.goto (-17), 3) := by decide +kernel
theorem dX12_bitsOf_24 : decode cX12_bitsOf 24 = .ok (.iload_n 1, 1) := by decide +kernel
theorem dX12_bitsOf_25 : decode cX12_bitsOf 25 = .ok (.ireturn, 1) := by decide +kernel
theorem dX12_call_0 : decode cX12_call 0 = .ok (.aload_n 0, 1) := by decide +kernel
theorem dX12_call_1 : decode cX12_call 1 = .ok (.iconst 0, 1) := by decide +kernel
theorem dX12_call_2 : decode cX12_call 2 = .ok (.putfield 1, 3) := by decide +kernel
theorem dX12_call_5 : decode cX12_call 5 = .ok (.aload_n 0, 1) := by decide +kernel
theorem dX12_call_6 : decode cX12_call 6 = .ok (.iload_n 1, 1) := by decide +kernel
theorem dX12_call_7 : decode cX12_call 7 = .ok (.iconst 0, 1) := by decide +kernel
theorem dX12_call_8 : decode cX12_call 8 = .ok (.invokevirtual 284, 3) := by decide +kernel
theorem dX12_call_11 : decode cX12_call 11 = .ok (.ireturn, 1) := by decide +kernel
theorem dX12_chance_0 : decode cX12_chance 0 = .ok (.aload_n 0, 1) := by decide +kernel
theorem dX12_chance_1 : decode cX12_chance 1 = .ok (.iconst 0, 1) := by decide +kernel
theorem dX12_chance_2 : decode cX12_chance 2 = .ok (.putfield 1, 3) := by decide +kernel
theorem dX12_chance_5 : decode cX12_chance 5 = .ok (.iload_n 2, 1) := by decide +kernel
theorem dX12_chance_6 : decode cX12_chance 6 = .ok (.i2l, 1) := by decide +kernel
theorem dX12_chance_7 : decode cX12_chance 7 = .ok (.lconst 0, 1) := by decide +kernel
theorem dX12_chance_8 : decode cX12_chance 8 = .ok (.lconst 1, 1) := by decide +kernel
theorem dX12_chance_9 : decode cX12_chance 9 = .ok (.invokestatic 145, 3) := by decide +kernel
theorem dX12_chance_12 : decode cX12_chance 12 = .ok (.ifCond .ne 7, 3) := by decide +kernel
theorem dX12_chance_15 : decode cX12_chance 15 = .ok (.ldc2_w 418, 3) := by decide +kernel
theorem dX12_chance_18 : decode cX12_chance 18 = .ok (.lreturn, 1) := by decide +kernel
theorem dX12_chance_19 : decode cX12_chance 19 = .ok (.aload_n 0, 1) := by decide +kernel
theorem dX12_chance_20 : decode cX12_chance 20 = .ok (.iload_n 1, 1) := by decide +kernel
theorem dX12_chance_21 : decode cX12_chance 21 = .ok (.invokevirtual 349, 3) := by decide +kernel
theorem dX12_chance_24 : decode cX12_chance 24 = .ok (.ifCond .ne 7, 3) := by decide +kernel
theorem dX12_chance_27 : decode cX12_chance 27 = .ok (.ldc2_w 420, 3) := by decide +kernel
theorem dX12_chance_30 : decode cX12_chance 30 = .ok (.lreturn, 1) := by decide +kernel
theorem dX12_chance_31 : decode cX12_chance 31 = .ok (.aload_n 0, 1) := by decide +kernel
theorem dX12_chance_32 : decode cX12_chance 32 = .ok (.invokevirtual 346, 3) := by decide +kernel
theorem dX12_chance_35 : decode cX12_chance 35 = .ok (.aload_n 0, 1) := by decide +kernel
theorem dX12_chance_36 : decode cX12_chance 36 = .ok (.iload_n 1, 1) := by decide +kernel
theorem dX12_chance_37 : decode cX12_chance 37 = .ok (.invokevirtual 422, 3) := by decide +kernel
theorem dX12_chance_40 : decode cX12_chance 40 = .ok (.lstore_n 3, 1) := by decide +kernel
theorem dX12_chance_41 : decode cX12_chance 41 = .ok (.iload_n 1, 1) := by decide +kernel
theorem dX12_chance_42 : decode cX12_chance 42 = .ok (.invokestatic 281, 3) := by decide +kernel
theorem dX12_chance_45 : decode cX12_chance 45 = .ok (.invokestatic 426, 3) := by decide +kernel
theorem dX12_chance_48 : decode cX12_chance 48 = .ok (.lstore 5, 2) := by decide +kernel
theorem dX12_chance_50 : decode cX12_chance 50 = .ok (.lload_n 3, 1) := by decide +kernel
theorem dX12_chance_51 : decode cX12_chance 51 = .ok (.lload 5, 2) := by decide +kernel
theorem dX12_chance_53 : decode cX12_chance 53 = .ok (.invokestatic 414, 3) := by decide +kernel
theorem dX12_chance_56 : decode cX12_chance 56 = .ok (.lstore 7, 2) := by decide +kernel
theorem dX12_chance_58 : decode cX12_chance 58 = .ok (.iload_n 2, 1) := by decide +kernel
theorem dX12_chance_59 : decode cX12_chance 59 = .ok (.ifCond .ne 7, 3) := by decide +kernel
theorem dX12_chance_62 : decode cX12_chance 62 = .ok (.lload_n 3, 1) := by decide +kernel
theorem dX12_chance_63 : decode cX12_chance 63 = .ok (.goto 5, 3) := by decide +kernel
theorem dX12_chance_66 : decode cX12_chance 66 = .ok (.lload 5, 2) := by decide +kernel
theorem dX12_chance_68 : decode cX12_chance 68 = .ok (.lload 7, 2) := by decide +kernel
theorem dX12_chance_70 : decode cX12_chance 70 = .ok (.ldiv, 1) := by decide +kernel
theorem dX12_chance_71 : decode cX12_chance 71 = .ok (.lreturn, 1) := by decide +kernel
theorem dX12_chanceOf_0 : decode cX12_chanceOf 0 = .ok (.lconst 0, 1) := by decide +kernel
theorem dX12_chanceOf_1 : decode cX12_chanceOf 1 = .ok (.lstore_n 2, 1) := by decide +kernel
theorem dX12_chanceOf_2 : decode cX12_chanceOf 2 = .ok (.iconst 0, 1) := by decide +kernel
theorem dX12_chanceOf_3 : decode cX12_chanceOf 3 = .ok (.istore 4, 2) := by decide +kernel
theorem dX12_chanceOf_5 : decode cX12_chanceOf 5 = .ok (.iload 4, 2) := by decide +kernel
theorem dX12_chanceOf_7 : decode cX12_chanceOf 7 = .ok (.iload_n 1, 1) := by decide +kernel
theorem dX12_chanceOf_8 : decode cX12_chanceOf 8 = .ok (.if_icmp .gt 113, 3) := by decide +kernel
theorem dX12_chanceOf_11 : decode cX12_chanceOf 11 = .ok (.iload 4, 2) := by decide +kernel
theorem dX12_chanceOf_13 : decode cX12_chanceOf 13 = .ok (.iload_n 1, 1) := by decide +kernel
theorem dX12_chanceOf_14 : decode cX12_chanceOf 14 = .ok (.iconst (-1), 1) := by decide +kernel
theorem dX12_chanceOf_15 : decode cX12_chanceOf 15 = .ok (.ixor, 1) := by decide +kernel
theorem dX12_chanceOf_16 : decode cX12_chanceOf 16 = .ok (.iand, 1) := by decide +kernel
theorem dX12_chanceOf_17 : decode cX12_chanceOf 17 = .ok (.ifCond .ne 98, 3) := by decide +kernel
theorem dX12_chanceOf_20 : decode cX12_chanceOf 20 = .ok (.aload_n 0, 1) := by decide +kernel
theorem dX12_chanceOf_21 : decode cX12_chanceOf 21 = .ok (.getfield 45, 3) := by decide +kernel
theorem dX12_chanceOf_24 : decode cX12_chanceOf 24 = .ok (.iload 4, 2) := by decide +kernel
theorem dX12_chanceOf_26 : decode cX12_chanceOf 26 = .ok (.iaload, 1) := by decide +kernel
theorem dX12_chanceOf_27 : decode cX12_chanceOf 27 = .ok (.ifCond .ne 6, 3) := by decide +kernel
theorem dX12_chanceOf_33 : decode cX12_chanceOf 33 = .ok (.lconst 1, 1) := by decide +kernel
theorem dX12_chanceOf_34 : decode cX12_chanceOf 34 = .ok (.lstore 5, 2) := by decide +kernel
theorem dX12_chanceOf_36 : decode cX12_chanceOf 36 = .ok (.iconst 0, 1) := by decide +kernel
theorem dX12_chanceOf_37 : decode cX12_chanceOf 37 = .ok (.istore 7, 2) := by decide +kernel
theorem dX12_chanceOf_39 : decode cX12_chanceOf 39 = .ok (.iload 7, 2) := by decide +kernel
theorem dX12_chanceOf_41 : decode cX12_chanceOf 41 = .ok (.aload_n 0, 1) := by decide +kernel
theorem dX12_chanceOf_42 : decode cX12_chanceOf 42 = .ok (.getfield 13, 3) := by decide +kernel
theorem dX12_chanceOf_45 : decode cX12_chanceOf 45 = .ok (.iconst 2, 1) := by decide +kernel
theorem dX12_chanceOf_46 : decode cX12_chanceOf 46 = .ok (.iaload, 1) := by decide +kernel
theorem dX12_chanceOf_47 : decode cX12_chanceOf 47 = .ok (.if_icmp .ge 63, 3) := by decide +kernel
theorem dX12_chanceOf_110 : decode cX12_chanceOf 110 = .ok (.lload_n 2, 1) := by decide +kernel
theorem dX12_chanceOf_111 : decode cX12_chanceOf 111 = .ok (.lload 5, 2) := by decide +kernel
theorem dX12_chanceOf_113 : decode cX12_chanceOf 113 = .ok (.ladd, 1) := by decide +kernel
theorem dX12_chanceOf_114 : decode cX12_chanceOf 114 = .ok (.lstore_n 2, 1) := by decide +kernel
theorem dX12_chanceOf_115 : decode cX12_chanceOf 115 = .ok (.iinc 4 1, 3) := by decide +kernel
theorem dX12_chanceOf_118 : decode cX12_chanceOf 118 = .ok (.goto (-113), 3) := by decide +kernel
theorem dX12_chanceOf_121 : decode cX12_chanceOf 121 = .ok (.lload_n 2, 1) := by decide +kernel
theorem dX12_chanceOf_122 : decode cX12_chanceOf 122 = .ok (.lreturn, 1) := by decide +kernel
theorem dX12_common_0 : decode cX12_common 0 = .ok (.lload_n 2, 1) := by decide +kernel
theorem dX12_common_1 : decode cX12_common 1 = .ok (.lconst 0, 1) := by decide +kernel
theorem dX12_common_2 : decode cX12_common 2 = .ok (.lcmp, 1) := by decide +kernel
theorem dX12_common_3 : decode cX12_common 3 = .ok (.ifCond .ne 7, 3) := by decide +kernel
theorem dX12_common_6 : decode cX12_common 6 = .ok (.lload_n 0, 1) := by decide +kernel
theorem dX12_common_7 : decode cX12_common 7 = .ok (.goto 10, 3) := by decide +kernel
theorem dX12_common_10 : decode cX12_common 10 = .ok (.lload_n 2, 1) := by decide +kernel
theorem dX12_common_11 : decode cX12_common 11 = .ok (.lload_n 0, 1) := by decide +kernel
theorem dX12_common_12 : decode cX12_common 12 = .ok (.lload_n 2, 1) := by decide +kernel
theorem dX12_common_13 : decode cX12_common 13 = .ok (.lrem, 1) := by decide +kernel
theorem dX12_common_14 : decode cX12_common 14 = .ok (.invokestatic 414, 3) := by decide +kernel
theorem dX12_common_17 : decode cX12_common 17 = .ok (.lreturn, 1) := by decide +kernel
theorem dX12_count_0 : decode cX12_count 0 = .ok (.aload_n 0, 1) := by decide +kernel
theorem dX12_count_1 : decode cX12_count 1 = .ok (.iconst 0, 1) := by decide +kernel
theorem dX12_count_2 : decode cX12_count 2 = .ok (.putfield 1, 3) := by decide +kernel
theorem dX12_count_5 : decode cX12_count 5 = .ok (.iload_n 1, 1) := by decide +kernel
theorem dX12_count_6 : decode cX12_count 6 = .ok (.tableswitch 110 0 8 #[50, 57, 64, 69, 77, 85, 90, 98, 103], 50) := by decide +kernel
theorem dX12_count_56 : decode cX12_count 56 = .ok (.aload_n 0, 1) := by decide +kernel
theorem dX12_count_57 : decode cX12_count 57 = .ok (.getfield 13, 3) := by decide +kernel
theorem dX12_count_60 : decode cX12_count 60 = .ok (.iconst 1, 1) := by decide +kernel
theorem dX12_count_61 : decode cX12_count 61 = .ok (.iaload, 1) := by decide +kernel
theorem dX12_count_62 : decode cX12_count 62 = .ok (.ireturn, 1) := by decide +kernel
theorem dX12_count_63 : decode cX12_count 63 = .ok (.aload_n 0, 1) := by decide +kernel
theorem dX12_count_64 : decode cX12_count 64 = .ok (.getfield 13, 3) := by decide +kernel
theorem dX12_count_67 : decode cX12_count 67 = .ok (.iconst 2, 1) := by decide +kernel
theorem dX12_count_68 : decode cX12_count 68 = .ok (.iaload, 1) := by decide +kernel
theorem dX12_count_69 : decode cX12_count 69 = .ok (.ireturn, 1) := by decide +kernel
theorem dX12_count_70 : decode cX12_count 70 = .ok (.aload_n 0, 1) := by decide +kernel
theorem dX12_count_71 : decode cX12_count 71 = .ok (.invokevirtual 255, 3) := by decide +kernel
theorem dX12_count_74 : decode cX12_count 74 = .ok (.ireturn, 1) := by decide +kernel
theorem dX12_count_75 : decode cX12_count 75 = .ok (.aload_n 0, 1) := by decide +kernel
theorem dX12_count_76 : decode cX12_count 76 = .ok (.getfield 13, 3) := by decide +kernel
theorem dX12_count_79 : decode cX12_count 79 = .ok (.bipush 53, 2) := by decide +kernel
theorem dX12_count_81 : decode cX12_count 81 = .ok (.iaload, 1) := by decide +kernel
theorem dX12_count_82 : decode cX12_count 82 = .ok (.ireturn, 1) := by decide +kernel
theorem dX12_count_83 : decode cX12_count 83 = .ok (.aload_n 0, 1) := by decide +kernel
theorem dX12_count_84 : decode cX12_count 84 = .ok (.getfield 13, 3) := by decide +kernel
theorem dX12_count_87 : decode cX12_count 87 = .ok (.bipush 52, 2) := by decide +kernel
theorem dX12_count_89 : decode cX12_count 89 = .ok (.iaload, 1) := by decide +kernel
theorem dX12_count_90 : decode cX12_count 90 = .ok (.ireturn, 1) := by decide +kernel
theorem dX12_count_91 : decode cX12_count 91 = .ok (.aload_n 0, 1) := by decide +kernel
theorem dX12_count_92 : decode cX12_count 92 = .ok (.invokevirtual 435, 3) := by decide +kernel
theorem dX12_count_95 : decode cX12_count 95 = .ok (.ireturn, 1) := by decide +kernel
theorem dX12_count_96 : decode cX12_count 96 = .ok (.aload_n 0, 1) := by decide +kernel
theorem dX12_count_97 : decode cX12_count 97 = .ok (.getfield 13, 3) := by decide +kernel
theorem dX12_count_100 : decode cX12_count 100 = .ok (.bipush 84, 2) := by decide +kernel
theorem dX12_count_102 : decode cX12_count 102 = .ok (.iaload, 1) := by decide +kernel
theorem dX12_count_103 : decode cX12_count 103 = .ok (.ireturn, 1) := by decide +kernel
theorem dX12_count_104 : decode cX12_count 104 = .ok (.aload_n 0, 1) := by decide +kernel
theorem dX12_count_105 : decode cX12_count 105 = .ok (.getfield 83, 3) := by decide +kernel
theorem dX12_count_108 : decode cX12_count 108 = .ok (.ireturn, 1) := by decide +kernel
theorem dX12_count_109 : decode cX12_count 109 = .ok (.aload_n 0, 1) := by decide +kernel
theorem dX12_count_110 : decode cX12_count 110 = .ok (.getfield 13, 3) := by decide +kernel
theorem dX12_count_113 : decode cX12_count 113 = .ok (.iconst 0, 1) := by decide +kernel
theorem dX12_count_114 : decode cX12_count 114 = .ok (.iaload, 1) := by decide +kernel
theorem dX12_count_115 : decode cX12_count 115 = .ok (.ireturn, 1) := by decide +kernel
theorem dX12_count_116 : decode cX12_count 116 = .ok (.iconst (-1), 1) := by decide +kernel
theorem dX12_count_117 : decode cX12_count 117 = .ok (.ireturn, 1) := by decide +kernel
theorem dX12_cover_0 : decode cX12_cover 0 = .ok (.aload_n 0, 1) := by decide +kernel
theorem dX12_cover_1 : decode cX12_cover 1 = .ok (.iconst 0, 1) := by decide +kernel
theorem dX12_cover_2 : decode cX12_cover 2 = .ok (.putfield 1, 3) := by decide +kernel
theorem dX12_cover_5 : decode cX12_cover 5 = .ok (.iload_n 2, 1) := by decide +kernel
theorem dX12_cover_6 : decode cX12_cover 6 = .ok (.i2l, 1) := by decide +kernel
theorem dX12_cover_7 : decode cX12_cover 7 = .ok (.lconst 0, 1) := by decide +kernel
theorem dX12_cover_8 : decode cX12_cover 8 = .ok (.lconst 1, 1) := by decide +kernel
theorem dX12_cover_9 : decode cX12_cover 9 = .ok (.invokestatic 145, 3) := by decide +kernel
theorem dX12_cover_12 : decode cX12_cover 12 = .ok (.ifCond .ne 6, 3) := by decide +kernel
theorem dX12_cover_15 : decode cX12_cover 15 = .ok (.bipush (-2), 2) := by decide +kernel
theorem dX12_cover_17 : decode cX12_cover 17 = .ok (.ireturn, 1) := by decide +kernel
theorem dX12_cover_18 : decode cX12_cover 18 = .ok (.aload_n 0, 1) := by decide +kernel
theorem dX12_cover_19 : decode cX12_cover 19 = .ok (.iload_n 1, 1) := by decide +kernel
theorem dX12_cover_20 : decode cX12_cover 20 = .ok (.invokevirtual 349, 3) := by decide +kernel
theorem dX12_cover_23 : decode cX12_cover 23 = .ok (.ifCond .ne 6, 3) := by decide +kernel
theorem dX12_cover_26 : decode cX12_cover 26 = .ok (.bipush (-3), 2) := by decide +kernel
theorem dX12_cover_28 : decode cX12_cover 28 = .ok (.ireturn, 1) := by decide +kernel
theorem dX12_cover_29 : decode cX12_cover 29 = .ok (.aload_n 0, 1) := by decide +kernel
theorem dX12_cover_30 : decode cX12_cover 30 = .ok (.aload_n 0, 1) := by decide +kernel
theorem dX12_cover_31 : decode cX12_cover 31 = .ok (.getfield 13, 3) := by decide +kernel
theorem dX12_cover_34 : decode cX12_cover 34 = .ok (.bipush 52, 2) := by decide +kernel
theorem dX12_cover_36 : decode cX12_cover 36 = .ok (.iaload, 1) := by decide +kernel
theorem dX12_cover_37 : decode cX12_cover 37 = .ok (.invokevirtual 340, 3) := by decide +kernel
theorem dX12_cover_40 : decode cX12_cover 40 = .ok (.aload_n 0, 1) := by decide +kernel
theorem dX12_cover_41 : decode cX12_cover 41 = .ok (.invokevirtual 255, 3) := by decide +kernel
theorem dX12_cover_44 : decode cX12_cover 44 = .ok (.iload_n 1, 1) := by decide +kernel
theorem dX12_cover_45 : decode cX12_cover 45 = .ok (.iconst (-1), 1) := by decide +kernel
theorem dX12_cover_46 : decode cX12_cover 46 = .ok (.ixor, 1) := by decide +kernel
theorem dX12_cover_47 : decode cX12_cover 47 = .ok (.iand, 1) := by decide +kernel
theorem dX12_cover_48 : decode cX12_cover 48 = .ok (.istore_n 3, 1) := by decide +kernel
theorem dX12_cover_49 : decode cX12_cover 49 = .ok (.iconst (-1), 1) := by decide +kernel
theorem dX12_cover_50 : decode cX12_cover 50 = .ok (.istore 4, 2) := by decide +kernel
theorem dX12_cover_52 : decode cX12_cover 52 = .ok (.iconst 0, 1) := by decide +kernel
theorem dX12_cover_53 : decode cX12_cover 53 = .ok (.istore 5, 2) := by decide +kernel
theorem dX12_cover_55 : decode cX12_cover 55 = .ok (.iload 5, 2) := by decide +kernel
theorem dX12_cover_57 : decode cX12_cover 57 = .ok (.iload_n 3, 1) := by decide +kernel
theorem dX12_cover_58 : decode cX12_cover 58 = .ok (.if_icmp .gt 51, 3) := by decide +kernel
theorem dX12_cover_61 : decode cX12_cover 61 = .ok (.iload 5, 2) := by decide +kernel
theorem dX12_cover_63 : decode cX12_cover 63 = .ok (.iload_n 3, 1) := by decide +kernel
theorem dX12_cover_64 : decode cX12_cover 64 = .ok (.iconst (-1), 1) := by decide +kernel
theorem dX12_cover_65 : decode cX12_cover 65 = .ok (.ixor, 1) := by decide +kernel
theorem dX12_cover_66 : decode cX12_cover 66 = .ok (.iand, 1) := by decide +kernel
theorem dX12_cover_67 : decode cX12_cover 67 = .ok (.ifCond .ne 36, 3) := by decide +kernel
theorem dX12_cover_70 : decode cX12_cover 70 = .ok (.iload 4, 2) := by decide +kernel
theorem dX12_cover_72 : decode cX12_cover 72 = .ok (.iconst (-1), 1) := by decide +kernel
theorem dX12_cover_73 : decode cX12_cover 73 = .ok (.if_icmp .eq 16, 3) := by decide +kernel
theorem dX12_cover_89 : decode cX12_cover 89 = .ok (.aload_n 0, 1) := by decide +kernel
theorem dX12_cover_90 : decode cX12_cover 90 = .ok (.iload_n 1, 1) := by decide +kernel
theorem dX12_cover_91 : decode cX12_cover 91 = .ok (.iload 5, 2) := by decide +kernel
theorem dX12_cover_93 : decode cX12_cover 93 = .ok (.invokevirtual 371, 3) := by decide +kernel
theorem dX12_cover_96 : decode cX12_cover 96 = .ok (.ifCond .eq 7, 3) := by decide +kernel
theorem dX12_cover_99 : decode cX12_cover 99 = .ok (.iload 5, 2) := by decide +kernel
theorem dX12_cover_101 : decode cX12_cover 101 = .ok (.istore 4, 2) := by decide +kernel
theorem dX12_cover_103 : decode cX12_cover 103 = .ok (.iinc 5 1, 3) := by decide +kernel
theorem dX12_cover_106 : decode cX12_cover 106 = .ok (.goto (-51), 3) := by decide +kernel
theorem dX12_cover_109 : decode cX12_cover 109 = .ok (.iload 4, 2) := by decide +kernel
theorem dX12_cover_111 : decode cX12_cover 111 = .ok (.iconst (-1), 1) := by decide +kernel
theorem dX12_cover_112 : decode cX12_cover 112 = .ok (.if_icmp .eq 8, 3) := by decide +kernel
theorem dX12_cover_115 : decode cX12_cover 115 = .ok (.iload_n 2, 1) := by decide +kernel
theorem dX12_cover_116 : decode cX12_cover 116 = .ok (.iconst 1, 1) := by decide +kernel
theorem dX12_cover_117 : decode cX12_cover 117 = .ok (.if_icmp .ne 8, 3) := by decide +kernel
theorem dX12_cover_120 : decode cX12_cover 120 = .ok (.iload 4, 2) := by decide +kernel
theorem dX12_cover_122 : decode cX12_cover 122 = .ok (.goto 8, 3) := by decide +kernel
theorem dX12_cover_125 : decode cX12_cover 125 = .ok (.iload 4, 2) := by decide +kernel
theorem dX12_cover_127 : decode cX12_cover 127 = .ok (.invokestatic 281, 3) := by decide +kernel
theorem dX12_cover_130 : decode cX12_cover 130 = .ok (.ireturn, 1) := by decide +kernel
theorem dX12_days_0 : decode cX12_days 0 = .ok (.aload_n 0, 1) := by decide +kernel
theorem dX12_days_1 : decode cX12_days 1 = .ok (.iconst 0, 1) := by decide +kernel
theorem dX12_days_2 : decode cX12_days 2 = .ok (.putfield 1, 3) := by decide +kernel
theorem dX12_days_5 : decode cX12_days 5 = .ok (.iload_n 1, 1) := by decide +kernel
theorem dX12_days_6 : decode cX12_days 6 = .ok (.i2l, 1) := by decide +kernel
theorem dX12_days_7 : decode cX12_days 7 = .ok (.lconst 1, 1) := by decide +kernel
theorem dX12_days_8 : decode cX12_days 8 = .ok (.ldc2_w 287, 3) := by decide +kernel
theorem dX12_days_11 : decode cX12_days 11 = .ok (.invokestatic 145, 3) := by decide +kernel
theorem dX12_days_14 : decode cX12_days 14 = .ok (.ifCond .ne 6, 3) := by decide +kernel
theorem dX12_days_17 : decode cX12_days 17 = .ok (.bipush (-3), 2) := by decide +kernel
theorem dX12_days_19 : decode cX12_days 19 = .ok (.ireturn, 1) := by decide +kernel
theorem dX12_days_20 : decode cX12_days 20 = .ok (.aload_n 0, 1) := by decide +kernel
theorem dX12_days_21 : decode cX12_days 21 = .ok (.invokevirtual 267, 3) := by decide +kernel
theorem dX12_days_24 : decode cX12_days 24 = .ok (.aload_n 0, 1) := by decide +kernel
theorem dX12_days_25 : decode cX12_days 25 = .ok (.getfield 13, 3) := by decide +kernel
theorem dX12_days_28 : decode cX12_days 28 = .ok (.bipush 52, 2) := by decide +kernel
theorem dX12_days_30 : decode cX12_days 30 = .ok (.dup2, 1) := by decide +kernel
theorem dX12_days_31 : decode cX12_days 31 = .ok (.iaload, 1) := by decide +kernel
theorem dX12_days_32 : decode cX12_days 32 = .ok (.iload_n 1, 1) := by decide +kernel
theorem dX12_days_33 : decode cX12_days 33 = .ok (.iadd, 1) := by decide +kernel
theorem dX12_days_34 : decode cX12_days 34 = .ok (.iastore, 1) := by decide +kernel
theorem dX12_days_35 : decode cX12_days 35 = .ok (.aload_n 0, 1) := by decide +kernel
theorem dX12_days_36 : decode cX12_days 36 = .ok (.invokevirtual 274, 3) := by decide +kernel
theorem dX12_days_39 : decode cX12_days 39 = .ok (.aload_n 0, 1) := by decide +kernel
theorem dX12_days_40 : decode cX12_days 40 = .ok (.invokevirtual 255, 3) := by decide +kernel
theorem dX12_days_43 : decode cX12_days 43 = .ok (.ireturn, 1) := by decide +kernel
theorem dX12_draw_0 : decode cX12_draw 0 = .ok (.aload_n 0, 1) := by decide +kernel
theorem dX12_draw_1 : decode cX12_draw 1 = .ok (.ldc_w 325, 3) := by decide +kernel
theorem dX12_draw_4 : decode cX12_draw 4 = .ok (.aload_n 0, 1) := by decide +kernel
theorem dX12_draw_5 : decode cX12_draw 5 = .ok (.getfield 326, 3) := by decide +kernel
theorem dX12_draw_8 : decode cX12_draw 8 = .ok (.imul, 1) := by decide +kernel
theorem dX12_draw_9 : decode cX12_draw 9 = .ok (.sipush 12345, 3) := by decide +kernel
theorem dX12_draw_12 : decode cX12_draw 12 = .ok (.iadd, 1) := by decide +kernel
theorem dX12_draw_13 : decode cX12_draw 13 = .ok (.putfield 326, 3) := by decide +kernel
theorem dX12_draw_16 : decode cX12_draw 16 = .ok (.aload_n 0, 1) := by decide +kernel
theorem dX12_draw_17 : decode cX12_draw 17 = .ok (.getfield 326, 3) := by decide +kernel
theorem dX12_draw_20 : decode cX12_draw 20 = .ok (.bipush 16, 2) := by decide +kernel
theorem dX12_draw_22 : decode cX12_draw 22 = .ok (.iushr, 1) := by decide +kernel
theorem dX12_draw_23 : decode cX12_draw 23 = .ok (.iload_n 1, 1) := by decide +kernel
theorem dX12_draw_24 : decode cX12_draw 24 = .ok (.irem, 1) := by decide +kernel
theorem dX12_draw_25 : decode cX12_draw 25 = .ok (.ireturn, 1) := by decide +kernel
theorem dX12_drawn_0 : decode cX12_drawn 0 = .ok (.aload_n 0, 1) := by decide +kernel
theorem dX12_drawn_1 : decode cX12_drawn 1 = .ok (.iconst 4, 1) := by decide +kernel
theorem dX12_drawn_2 : decode cX12_drawn 2 = .ok (.invokevirtual 329, 3) := by decide +kernel
theorem dX12_drawn_5 : decode cX12_drawn 5 = .ok (.istore_n 1, 1) := by decide +kernel
theorem dX12_drawn_6 : decode cX12_drawn 6 = .ok (.iload_n 1, 1) := by decide +kernel
theorem dX12_drawn_7 : decode cX12_drawn 7 = .ok (.ifCond .ne 5, 3) := by decide +kernel
theorem dX12_drawn_10 : decode cX12_drawn 10 = .ok (.iconst (-1), 1) := by decide +kernel
theorem dX12_drawn_11 : decode cX12_drawn 11 = .ok (.ireturn, 1) := by decide +kernel
theorem dX12_drawn_12 : decode cX12_drawn 12 = .ok (.aload_n 0, 1) := by decide +kernel
theorem dX12_drawn_13 : decode cX12_drawn 13 = .ok (.bipush 10, 2) := by decide +kernel
theorem dX12_drawn_15 : decode cX12_drawn 15 = .ok (.invokevirtual 329, 3) := by decide +kernel
theorem dX12_drawn_18 : decode cX12_drawn 18 = .ok (.istore_n 2, 1) := by decide +kernel
theorem dX12_drawn_19 : decode cX12_drawn 19 = .ok (.iload_n 1, 1) := by decide +kernel
theorem dX12_drawn_20 : decode cX12_drawn 20 = .ok (.iconst 1, 1) := by decide +kernel
theorem dX12_drawn_21 : decode cX12_drawn 21 = .ok (.if_icmp .ne 17, 3) := by decide +kernel
theorem dX12_drawn_24 : decode cX12_drawn 24 = .ok (.bipush 10, 2) := by decide +kernel
theorem dX12_drawn_26 : decode cX12_drawn 26 = .ok (.iload_n 2, 1) := by decide +kernel
theorem dX12_drawn_27 : decode cX12_drawn 27 = .ok (.imul, 1) := by decide +kernel
theorem dX12_drawn_28 : decode cX12_drawn 28 = .ok (.aload_n 0, 1) := by decide +kernel
theorem dX12_drawn_29 : decode cX12_drawn 29 = .ok (.bipush 10, 2) := by decide +kernel
theorem dX12_drawn_31 : decode cX12_drawn 31 = .ok (.invokevirtual 329, 3) := by decide +kernel
theorem dX12_drawn_34 : decode cX12_drawn 34 = .ok (.iadd, 1) := by decide +kernel
theorem dX12_drawn_35 : decode cX12_drawn 35 = .ok (.goto 20, 3) := by decide +kernel
theorem dX12_drawn_38 : decode cX12_drawn 38 = .ok (.iload_n 1, 1) := by decide +kernel
theorem dX12_drawn_39 : decode cX12_drawn 39 = .ok (.iconst 2, 1) := by decide +kernel
theorem dX12_drawn_40 : decode cX12_drawn 40 = .ok (.if_icmp .ne 10, 3) := by decide +kernel
theorem dX12_drawn_43 : decode cX12_drawn 43 = .ok (.bipush 100, 2) := by decide +kernel
theorem dX12_drawn_45 : decode cX12_drawn 45 = .ok (.iload_n 2, 1) := by decide +kernel
theorem dX12_drawn_46 : decode cX12_drawn 46 = .ok (.iadd, 1) := by decide +kernel
theorem dX12_drawn_47 : decode cX12_drawn 47 = .ok (.goto 8, 3) := by decide +kernel
theorem dX12_drawn_50 : decode cX12_drawn 50 = .ok (.sipush 200, 3) := by decide +kernel
theorem dX12_drawn_53 : decode cX12_drawn 53 = .ok (.iload_n 2, 1) := by decide +kernel
theorem dX12_drawn_54 : decode cX12_drawn 54 = .ok (.iadd, 1) := by decide +kernel
theorem dX12_drawn_55 : decode cX12_drawn 55 = .ok (.ireturn, 1) := by decide +kernel
theorem dX12_easiest_0 : decode cX12_easiest 0 = .ok (.aload_n 0, 1) := by decide +kernel
theorem dX12_easiest_1 : decode cX12_easiest 1 = .ok (.iconst 0, 1) := by decide +kernel
theorem dX12_easiest_2 : decode cX12_easiest 2 = .ok (.putfield 1, 3) := by decide +kernel
theorem dX12_easiest_5 : decode cX12_easiest 5 = .ok (.aload_n 0, 1) := by decide +kernel
theorem dX12_easiest_6 : decode cX12_easiest 6 = .ok (.invokevirtual 346, 3) := by decide +kernel
theorem dX12_easiest_9 : decode cX12_easiest 9 = .ok (.iconst (-1), 1) := by decide +kernel
theorem dX12_easiest_10 : decode cX12_easiest 10 = .ok (.istore_n 1, 1) := by decide +kernel
theorem dX12_easiest_11 : decode cX12_easiest 11 = .ok (.bipush 11, 2) := by decide +kernel
theorem dX12_easiest_13 : decode cX12_easiest 13 = .ok (.istore_n 2, 1) := by decide +kernel
theorem dX12_easiest_14 : decode cX12_easiest 14 = .ok (.iconst 0, 1) := by decide +kernel
theorem dX12_easiest_15 : decode cX12_easiest 15 = .ok (.istore_n 3, 1) := by decide +kernel
theorem dX12_easiest_16 : decode cX12_easiest 16 = .ok (.iload_n 3, 1) := by decide +kernel
theorem dX12_easiest_17 : decode cX12_easiest 17 = .ok (.bipush 10, 2) := by decide +kernel
theorem dX12_easiest_19 : decode cX12_easiest 19 = .ok (.if_icmp .ge 42, 3) := by decide +kernel
theorem dX12_easiest_22 : decode cX12_easiest 22 = .ok (.aload_n 0, 1) := by decide +kernel
theorem dX12_easiest_23 : decode cX12_easiest 23 = .ok (.iload_n 3, 1) := by decide +kernel
theorem dX12_easiest_24 : decode cX12_easiest 24 = .ok (.invokevirtual 399, 3) := by decide +kernel
theorem dX12_easiest_27 : decode cX12_easiest 27 = .ok (.istore 4, 2) := by decide +kernel
theorem dX12_easiest_29 : decode cX12_easiest 29 = .ok (.iload 4, 2) := by decide +kernel
theorem dX12_easiest_31 : decode cX12_easiest 31 = .ok (.iconst (-1), 1) := by decide +kernel
theorem dX12_easiest_32 : decode cX12_easiest 32 = .ok (.if_icmp .eq 23, 3) := by decide +kernel
theorem dX12_easiest_55 : decode cX12_easiest 55 = .ok (.iinc 3 1, 3) := by decide +kernel
theorem dX12_easiest_58 : decode cX12_easiest 58 = .ok (.goto (-42), 3) := by decide +kernel
theorem dX12_easiest_61 : decode cX12_easiest 61 = .ok (.iload_n 1, 1) := by decide +kernel
theorem dX12_easiest_62 : decode cX12_easiest 62 = .ok (.ireturn, 1) := by decide +kernel
theorem dX12_eats_0 : decode cX12_eats 0 = .ok (.aload_n 0, 1) := by decide +kernel
theorem dX12_eats_1 : decode cX12_eats 1 = .ok (.iload_n 1, 1) := by decide +kernel
theorem dX12_eats_2 : decode cX12_eats 2 = .ok (.invokevirtual 135, 3) := by decide +kernel
theorem dX12_eats_5 : decode cX12_eats 5 = .ok (.ifCond .ne 5, 3) := by decide +kernel
theorem dX12_eats_8 : decode cX12_eats 8 = .ok (.iconst 0, 1) := by decide +kernel
theorem dX12_eats_9 : decode cX12_eats 9 = .ok (.ireturn, 1) := by decide +kernel
theorem dX12_ends_0 : decode cX12_ends 0 = .ok (.aload_n 0, 1) := by decide +kernel
theorem dX12_ends_1 : decode cX12_ends 1 = .ok (.bipush 30, 2) := by decide +kernel
theorem dX12_ends_3 : decode cX12_ends 3 = .ok (.invokevirtual 172, 3) := by decide +kernel
theorem dX12_ends_6 : decode cX12_ends 6 = .ok (.ifCond .ne 8, 3) := by decide +kernel
theorem dX12_ends_9 : decode cX12_ends 9 = .ok (.aload_n 0, 1) := by decide +kernel
theorem dX12_ends_10 : decode cX12_ends 10 = .ok (.iconst 2, 1) := by decide +kernel
theorem dX12_ends_11 : decode cX12_ends 11 = .ok (.invokevirtual 141, 3) := by decide +kernel
theorem dX12_ends_14 : decode cX12_ends 14 = .ok (.aload_n 0, 1) := by decide +kernel
theorem dX12_ends_15 : decode cX12_ends 15 = .ok (.getfield 24, 3) := by decide +kernel
theorem dX12_ends_18 : decode cX12_ends 18 = .ok (.iconst 0, 1) := by decide +kernel
theorem dX12_ends_19 : decode cX12_ends 19 = .ok (.dup2, 1) := by decide +kernel
theorem dX12_ends_20 : decode cX12_ends 20 = .ok (.iaload, 1) := by decide +kernel
theorem dX12_ends_21 : decode cX12_ends 21 = .ok (.iconst 1, 1) := by decide +kernel
theorem dX12_ends_22 : decode cX12_ends 22 = .ok (.iadd, 1) := by decide +kernel
theorem dX12_ends_23 : decode cX12_ends 23 = .ok (.iastore, 1) := by decide +kernel
theorem dX12_ends_24 : decode cX12_ends 24 = .ok (.return_, 1) := by decide +kernel
theorem dX12_everybody_0 : decode cX12_everybody 0 = .ok (.iconst 1, 1) := by decide +kernel
theorem dX12_everybody_1 : decode cX12_everybody 1 = .ok (.aload_n 0, 1) := by decide +kernel
theorem dX12_everybody_2 : decode cX12_everybody 2 = .ok (.getfield 13, 3) := by decide +kernel
theorem dX12_everybody_5 : decode cX12_everybody 5 = .ok (.iconst 2, 1) := by decide +kernel
theorem dX12_everybody_6 : decode cX12_everybody 6 = .ok (.iaload, 1) := by decide +kernel
theorem dX12_everybody_7 : decode cX12_everybody 7 = .ok (.ishl, 1) := by decide +kernel
theorem dX12_everybody_8 : decode cX12_everybody 8 = .ok (.iconst 1, 1) := by decide +kernel
theorem dX12_everybody_9 : decode cX12_everybody 9 = .ok (.isub, 1) := by decide +kernel
theorem dX12_everybody_10 : decode cX12_everybody 10 = .ok (.ireturn, 1) := by decide +kernel
theorem dX12_fails_0 : decode cX12_fails 0 = .ok (.aload_n 0, 1) := by decide +kernel
theorem dX12_fails_1 : decode cX12_fails 1 = .ok (.getfield 129, 3) := by decide +kernel
theorem dX12_fails_4 : decode cX12_fails 4 = .ok (.ifCond .eq 4, 3) := by decide +kernel
theorem dX12_fails_7 : decode cX12_fails 7 = .ok (.return_, 1) := by decide +kernel
theorem dX12_fails_8 : decode cX12_fails 8 = .ok (.aload_n 0, 1) := by decide +kernel
theorem dX12_fails_9 : decode cX12_fails 9 = .ok (.aload_n 0, 1) := by decide +kernel
theorem dX12_fails_10 : decode cX12_fails 10 = .ok (.getfield 111, 3) := by decide +kernel
theorem dX12_fails_13 : decode cX12_fails 13 = .ok (.bipush 27, 2) := by decide +kernel
theorem dX12_fails_15 : decode cX12_fails 15 = .ok (.if_icmp .ne 7, 3) := by decide +kernel
theorem dX12_fails_22 : decode cX12_fails 22 = .ok (.iload_n 1, 1) := by decide +kernel
theorem dX12_fails_23 : decode cX12_fails 23 = .ok (.putfield 129, 3) := by decide +kernel
theorem dX12_fails_26 : decode cX12_fails 26 = .ok (.aload_n 0, 1) := by decide +kernel
theorem dX12_fails_27 : decode cX12_fails 27 = .ok (.aload_n 0, 1) := by decide +kernel
theorem dX12_fails_28 : decode cX12_fails 28 = .ok (.getfield 101, 3) := by decide +kernel
theorem dX12_fails_31 : decode cX12_fails 31 = .ok (.putfield 132, 3) := by decide +kernel
theorem dX12_fails_34 : decode cX12_fails 34 = .ok (.return_, 1) := by decide +kernel
theorem dX12_fault_0 : decode cX12_fault 0 = .ok (.aload_n 0, 1) := by decide +kernel
theorem dX12_fault_1 : decode cX12_fault 1 = .ok (.iconst 0, 1) := by decide +kernel
theorem dX12_fault_2 : decode cX12_fault 2 = .ok (.putfield 1, 3) := by decide +kernel
theorem dX12_fault_5 : decode cX12_fault 5 = .ok (.iload_n 1, 1) := by decide +kernel
theorem dX12_fault_6 : decode cX12_fault 6 = .ok (.ifCond .ne 10, 3) := by decide +kernel
theorem dX12_fault_9 : decode cX12_fault 9 = .ok (.aload_n 0, 1) := by decide +kernel
theorem dX12_fault_10 : decode cX12_fault 10 = .ok (.getfield 214, 3) := by decide +kernel
theorem dX12_fault_13 : decode cX12_fault 13 = .ok (.goto 16, 3) := by decide +kernel
theorem dX12_fault_16 : decode cX12_fault 16 = .ok (.iload_n 1, 1) := by decide +kernel
theorem dX12_fault_17 : decode cX12_fault 17 = .ok (.iconst 1, 1) := by decide +kernel
theorem dX12_fault_18 : decode cX12_fault 18 = .ok (.if_icmp .ne 10, 3) := by decide +kernel
theorem dX12_fault_21 : decode cX12_fault 21 = .ok (.aload_n 0, 1) := by decide +kernel
theorem dX12_fault_22 : decode cX12_fault 22 = .ok (.getfield 27, 3) := by decide +kernel
theorem dX12_fault_25 : decode cX12_fault 25 = .ok (.goto 4, 3) := by decide +kernel
theorem dX12_fault_28 : decode cX12_fault 28 = .ok (.iconst (-1), 1) := by decide +kernel
theorem dX12_fault_29 : decode cX12_fault 29 = .ok (.ireturn, 1) := by decide +kernel
theorem dX12_feed_0 : decode cX12_feed 0 = .ok (.aload_n 0, 1) := by decide +kernel
theorem dX12_feed_1 : decode cX12_feed 1 = .ok (.iconst 0, 1) := by decide +kernel
theorem dX12_feed_2 : decode cX12_feed 2 = .ok (.putfield 1, 3) := by decide +kernel
theorem dX12_feed_5 : decode cX12_feed 5 = .ok (.aload_n 0, 1) := by decide +kernel
theorem dX12_feed_6 : decode cX12_feed 6 = .ok (.getfield 83, 3) := by decide +kernel
theorem dX12_feed_9 : decode cX12_feed 9 = .ok (.bipush 20, 2) := by decide +kernel
theorem dX12_feed_11 : decode cX12_feed 11 = .ok (.iadd, 1) := by decide +kernel
theorem dX12_feed_12 : decode cX12_feed 12 = .ok (.sipush 900, 3) := by decide +kernel
theorem dX12_feed_15 : decode cX12_feed 15 = .ok (.if_icmp .le 6, 3) := by decide +kernel
theorem dX12_feed_21 : decode cX12_feed 21 = .ok (.iconst 0, 1) := by decide +kernel
theorem dX12_feed_22 : decode cX12_feed 22 = .ok (.istore 6, 2) := by decide +kernel
theorem dX12_feed_24 : decode cX12_feed 24 = .ok (.iload 6, 2) := by decide +kernel
theorem dX12_feed_26 : decode cX12_feed 26 = .ok (.bipush 20, 2) := by decide +kernel
theorem dX12_feed_28 : decode cX12_feed 28 = .ok (.if_icmp .ge 93, 3) := by decide +kernel
theorem dX12_feed_31 : decode cX12_feed 31 = .ok (.iload 6, 2) := by decide +kernel
theorem dX12_feed_33 : decode cX12_feed 33 = .ok (.iconst 4, 1) := by decide +kernel
theorem dX12_feed_34 : decode cX12_feed 34 = .ok (.if_icmp .ge 7, 3) := by decide +kernel
theorem dX12_feed_37 : decode cX12_feed 37 = .ok (.iload_n 1, 1) := by decide +kernel
theorem dX12_feed_38 : decode cX12_feed 38 = .ok (.goto 39, 3) := by decide +kernel
theorem dX12_feed_41 : decode cX12_feed 41 = .ok (.iload 6, 2) := by decide +kernel
theorem dX12_feed_43 : decode cX12_feed 43 = .ok (.bipush 8, 2) := by decide +kernel
theorem dX12_feed_45 : decode cX12_feed 45 = .ok (.if_icmp .ge 7, 3) := by decide +kernel
theorem dX12_feed_48 : decode cX12_feed 48 = .ok (.iload_n 2, 1) := by decide +kernel
theorem dX12_feed_49 : decode cX12_feed 49 = .ok (.goto 28, 3) := by decide +kernel
theorem dX12_feed_52 : decode cX12_feed 52 = .ok (.iload 6, 2) := by decide +kernel
theorem dX12_feed_54 : decode cX12_feed 54 = .ok (.bipush 12, 2) := by decide +kernel
theorem dX12_feed_56 : decode cX12_feed 56 = .ok (.if_icmp .ge 7, 3) := by decide +kernel
theorem dX12_feed_59 : decode cX12_feed 59 = .ok (.iload_n 3, 1) := by decide +kernel
theorem dX12_feed_60 : decode cX12_feed 60 = .ok (.goto 17, 3) := by decide +kernel
theorem dX12_feed_63 : decode cX12_feed 63 = .ok (.iload 6, 2) := by decide +kernel
theorem dX12_feed_65 : decode cX12_feed 65 = .ok (.bipush 16, 2) := by decide +kernel
theorem dX12_feed_67 : decode cX12_feed 67 = .ok (.if_icmp .ge 8, 3) := by decide +kernel
theorem dX12_feed_70 : decode cX12_feed 70 = .ok (.iload 4, 2) := by decide +kernel
theorem dX12_feed_72 : decode cX12_feed 72 = .ok (.goto 5, 3) := by decide +kernel
theorem dX12_feed_75 : decode cX12_feed 75 = .ok (.iload 5, 2) := by decide +kernel
theorem dX12_feed_77 : decode cX12_feed 77 = .ok (.istore 7, 2) := by decide +kernel
theorem dX12_feed_79 : decode cX12_feed 79 = .ok (.aload_n 0, 1) := by decide +kernel
theorem dX12_feed_80 : decode cX12_feed 80 = .ok (.getfield 21, 3) := by decide +kernel
theorem dX12_feed_83 : decode cX12_feed 83 = .ok (.aload_n 0, 1) := by decide +kernel
theorem dX12_feed_84 : decode cX12_feed 84 = .ok (.getfield 83, 3) := by decide +kernel
theorem dX12_feed_87 : decode cX12_feed 87 = .ok (.iload 7, 2) := by decide +kernel
theorem dX12_feed_89 : decode cX12_feed 89 = .ok (.bipush 24, 2) := by decide +kernel
theorem dX12_feed_91 : decode cX12_feed 91 = .ok (.bipush 8, 2) := by decide +kernel
theorem dX12_feed_93 : decode cX12_feed 93 = .ok (.iload 6, 2) := by decide +kernel
theorem dX12_feed_95 : decode cX12_feed 95 = .ok (.iconst 4, 1) := by decide +kernel
theorem dX12_feed_96 : decode cX12_feed 96 = .ok (.irem, 1) := by decide +kernel
theorem dX12_feed_97 : decode cX12_feed 97 = .ok (.imul, 1) := by decide +kernel
theorem dX12_feed_98 : decode cX12_feed 98 = .ok (.isub, 1) := by decide +kernel
theorem dX12_feed_99 : decode cX12_feed 99 = .ok (.ishr, 1) := by decide +kernel
theorem dX12_feed_100 : decode cX12_feed 100 = .ok (.sipush 255, 3) := by decide +kernel
theorem dX12_feed_103 : decode cX12_feed 103 = .ok (.iand, 1) := by decide +kernel
theorem dX12_feed_104 : decode cX12_feed 104 = .ok (.iastore, 1) := by decide +kernel
theorem dX12_feed_105 : decode cX12_feed 105 = .ok (.aload_n 0, 1) := by decide +kernel
theorem dX12_feed_106 : decode cX12_feed 106 = .ok (.dup, 1) := by decide +kernel
theorem dX12_feed_107 : decode cX12_feed 107 = .ok (.getfield 83, 3) := by decide +kernel
theorem dX12_feed_110 : decode cX12_feed 110 = .ok (.iconst 1, 1) := by decide +kernel
theorem dX12_feed_111 : decode cX12_feed 111 = .ok (.iadd, 1) := by decide +kernel
theorem dX12_feed_112 : decode cX12_feed 112 = .ok (.putfield 83, 3) := by decide +kernel
theorem dX12_feed_115 : decode cX12_feed 115 = .ok (.iinc 6 1, 3) := by decide +kernel
theorem dX12_feed_118 : decode cX12_feed 118 = .ok (.goto (-94), 3) := by decide +kernel
theorem dX12_feed_121 : decode cX12_feed 121 = .ok (.aload_n 0, 1) := by decide +kernel
theorem dX12_feed_122 : decode cX12_feed 122 = .ok (.getfield 83, 3) := by decide +kernel
theorem dX12_feed_125 : decode cX12_feed 125 = .ok (.ireturn, 1) := by decide +kernel
theorem dX12_firstDay_0 : decode cX12_firstDay 0 = .ok (.aload_n 0, 1) := by decide +kernel
theorem dX12_firstDay_1 : decode cX12_firstDay 1 = .ok (.iconst 0, 1) := by decide +kernel
theorem dX12_firstDay_2 : decode cX12_firstDay 2 = .ok (.putfield 1, 3) := by decide +kernel
theorem dX12_firstDay_5 : decode cX12_firstDay 5 = .ok (.iconst 0, 1) := by decide +kernel
theorem dX12_firstDay_6 : decode cX12_firstDay 6 = .ok (.istore_n 1, 1) := by decide +kernel
theorem dX12_firstDay_7 : decode cX12_firstDay 7 = .ok (.iload_n 1, 1) := by decide +kernel
theorem dX12_firstDay_8 : decode cX12_firstDay 8 = .ok (.bipush 99, 2) := by decide +kernel
theorem dX12_firstDay_10 : decode cX12_firstDay 10 = .ok (.if_icmp .gt 62, 3) := by decide +kernel
theorem dX12_firstDay_13 : decode cX12_firstDay 13 = .ok (.aload_n 0, 1) := by decide +kernel
theorem dX12_firstDay_14 : decode cX12_firstDay 14 = .ok (.aload_n 0, 1) := by decide +kernel
theorem dX12_firstDay_15 : decode cX12_firstDay 15 = .ok (.getfield 13, 3) := by decide +kernel
theorem dX12_firstDay_18 : decode cX12_firstDay 18 = .ok (.bipush 52, 2) := by decide +kernel
theorem dX12_firstDay_20 : decode cX12_firstDay 20 = .ok (.iaload, 1) := by decide +kernel
theorem dX12_firstDay_21 : decode cX12_firstDay 21 = .ok (.iload_n 1, 1) := by decide +kernel
theorem dX12_firstDay_22 : decode cX12_firstDay 22 = .ok (.iadd, 1) := by decide +kernel
theorem dX12_firstDay_23 : decode cX12_firstDay 23 = .ok (.invokevirtual 220, 3) := by decide +kernel
theorem dX12_firstDay_26 : decode cX12_firstDay 26 = .ok (.istore_n 2, 1) := by decide +kernel
theorem dX12_firstDay_27 : decode cX12_firstDay 27 = .ok (.iload_n 2, 1) := by decide +kernel
theorem dX12_firstDay_28 : decode cX12_firstDay 28 = .ok (.invokestatic 281, 3) := by decide +kernel
theorem dX12_firstDay_31 : decode cX12_firstDay 31 = .ok (.iconst 2, 1) := by decide +kernel
theorem dX12_firstDay_32 : decode cX12_firstDay 32 = .ok (.if_icmp .ge 6, 3) := by decide +kernel
theorem dX12_firstDay_35 : decode cX12_firstDay 35 = .ok (.goto 31, 3) := by decide +kernel
theorem dX12_firstDay_66 : decode cX12_firstDay 66 = .ok (.iinc 1 1, 3) := by decide +kernel
theorem dX12_firstDay_69 : decode cX12_firstDay 69 = .ok (.goto (-62), 3) := by decide +kernel
theorem dX12_firstDay_72 : decode cX12_firstDay 72 = .ok (.iconst (-1), 1) := by decide +kernel
theorem dX12_firstDay_73 : decode cX12_firstDay 73 = .ok (.ireturn, 1) := by decide +kernel
theorem dX12_goes_0 : decode cX12_goes 0 = .ok (.aload_n 0, 1) := by decide +kernel
theorem dX12_goes_1 : decode cX12_goes 1 = .ok (.iload_n 1, 1) := by decide +kernel
theorem dX12_goes_2 : decode cX12_goes 2 = .ok (.i2l, 1) := by decide +kernel
theorem dX12_goes_3 : decode cX12_goes 3 = .ok (.iload_n 2, 1) := by decide +kernel
theorem dX12_goes_4 : decode cX12_goes 4 = .ok (.invokevirtual 277, 3) := by decide +kernel
theorem dX12_goes_7 : decode cX12_goes 7 = .ok (.istore_n 3, 1) := by decide +kernel
theorem dX12_goes_8 : decode cX12_goes 8 = .ok (.iload_n 3, 1) := by decide +kernel
theorem dX12_goes_9 : decode cX12_goes 9 = .ok (.ifCond .eq 8, 3) := by decide +kernel
theorem dX12_goes_12 : decode cX12_goes 12 = .ok (.bipush (-10), 2) := by decide +kernel
theorem dX12_goes_14 : decode cX12_goes 14 = .ok (.iload_n 3, 1) := by decide +kernel
theorem dX12_goes_15 : decode cX12_goes 15 = .ok (.isub, 1) := by decide +kernel
theorem dX12_goes_16 : decode cX12_goes 16 = .ok (.ireturn, 1) := by decide +kernel
theorem dX12_goesPairs_0 : decode cX12_goesPairs 0 = .ok (.iload_n 1, 1) := by decide +kernel
theorem dX12_goesPairs_1 : decode cX12_goesPairs 1 = .ok (.ifCond .ne 69, 3) := by decide +kernel
theorem dX12_goesPairs_4 : decode cX12_goesPairs 4 = .ok (.iload_n 2, 1) := by decide +kernel
theorem dX12_goesPairs_5 : decode cX12_goesPairs 5 = .ok (.aload_n 0, 1) := by decide +kernel
theorem dX12_goesPairs_6 : decode cX12_goesPairs 6 = .ok (.getfield 352, 3) := by decide +kernel
theorem dX12_goesPairs_9 : decode cX12_goesPairs 9 = .ok (.if_icmp .lt 19, 3) := by decide +kernel
theorem dX12_goesPairs_12 : decode cX12_goesPairs 12 = .ok (.iload_n 2, 1) := by decide +kernel
theorem dX12_goesPairs_13 : decode cX12_goesPairs 13 = .ok (.aload_n 0, 1) := by decide +kernel
theorem dX12_goesPairs_14 : decode cX12_goesPairs 14 = .ok (.getfield 352, 3) := by decide +kernel
theorem dX12_goesPairs_17 : decode cX12_goesPairs 17 = .ok (.if_icmp .ne 12, 3) := by decide +kernel
theorem dX12_goesPairs_29 : decode cX12_goesPairs 29 = .ok (.aload_n 0, 1) := by decide +kernel
theorem dX12_goesPairs_30 : decode cX12_goesPairs 30 = .ok (.iload_n 2, 1) := by decide +kernel
theorem dX12_goesPairs_31 : decode cX12_goesPairs 31 = .ok (.putfield 352, 3) := by decide +kernel
theorem dX12_goesPairs_34 : decode cX12_goesPairs 34 = .ok (.aload_n 0, 1) := by decide +kernel
theorem dX12_goesPairs_35 : decode cX12_goesPairs 35 = .ok (.iload_n 3, 1) := by decide +kernel
theorem dX12_goesPairs_36 : decode cX12_goesPairs 36 = .ok (.putfield 355, 3) := by decide +kernel
theorem dX12_goesPairs_39 : decode cX12_goesPairs 39 = .ok (.iconst 0, 1) := by decide +kernel
theorem dX12_goesPairs_40 : decode cX12_goesPairs 40 = .ok (.istore 4, 2) := by decide +kernel
theorem dX12_goesPairs_42 : decode cX12_goesPairs 42 = .ok (.iload 4, 2) := by decide +kernel
theorem dX12_goesPairs_44 : decode cX12_goesPairs 44 = .ok (.bipush 10, 2) := by decide +kernel
theorem dX12_goesPairs_46 : decode cX12_goesPairs 46 = .ok (.if_icmp .ge 23, 3) := by decide +kernel
theorem dX12_goesPairs_49 : decode cX12_goesPairs 49 = .ok (.aload_n 0, 1) := by decide +kernel
theorem dX12_goesPairs_50 : decode cX12_goesPairs 50 = .ok (.getfield 51, 3) := by decide +kernel
theorem dX12_goesPairs_53 : decode cX12_goesPairs 53 = .ok (.iload 4, 2) := by decide +kernel
theorem dX12_goesPairs_55 : decode cX12_goesPairs 55 = .ok (.aload_n 0, 1) := by decide +kernel
theorem dX12_goesPairs_56 : decode cX12_goesPairs 56 = .ok (.getfield 48, 3) := by decide +kernel
theorem dX12_goesPairs_59 : decode cX12_goesPairs 59 = .ok (.iload 4, 2) := by decide +kernel
theorem dX12_goesPairs_61 : decode cX12_goesPairs 61 = .ok (.iaload, 1) := by decide +kernel
theorem dX12_goesPairs_62 : decode cX12_goesPairs 62 = .ok (.iastore, 1) := by decide +kernel
theorem dX12_goesPairs_63 : decode cX12_goesPairs 63 = .ok (.iinc 4 1, 3) := by decide +kernel
theorem dX12_goesPairs_66 : decode cX12_goesPairs 66 = .ok (.goto (-24), 3) := by decide +kernel
theorem dX12_goesPairs_69 : decode cX12_goesPairs 69 = .ok (.return_, 1) := by decide +kernel
theorem dX12_hidden_0 : decode cX12_hidden 0 = .ok (.aload_n 0, 1) := by decide +kernel
theorem dX12_hidden_1 : decode cX12_hidden 1 = .ok (.iconst 0, 1) := by decide +kernel
theorem dX12_hidden_2 : decode cX12_hidden 2 = .ok (.putfield 1, 3) := by decide +kernel
theorem dX12_hidden_5 : decode cX12_hidden 5 = .ok (.aload_n 0, 1) := by decide +kernel
theorem dX12_hidden_6 : decode cX12_hidden 6 = .ok (.iload_n 1, 1) := by decide +kernel
theorem dX12_hidden_7 : decode cX12_hidden 7 = .ok (.iload_n 2, 1) := by decide +kernel
theorem dX12_hidden_8 : decode cX12_hidden 8 = .ok (.invokevirtual 408, 3) := by decide +kernel
theorem dX12_hidden_11 : decode cX12_hidden 11 = .ok (.istore_n 3, 1) := by decide +kernel
theorem dX12_hidden_12 : decode cX12_hidden 12 = .ok (.iload_n 3, 1) := by decide +kernel
theorem dX12_hidden_13 : decode cX12_hidden 13 = .ok (.ifCond .eq 7, 3) := by decide +kernel
theorem dX12_hidden_16 : decode cX12_hidden 16 = .ok (.iload_n 3, 1) := by decide +kernel
theorem dX12_hidden_17 : decode cX12_hidden 17 = .ok (.goto 9, 3) := by decide +kernel
theorem dX12_hidden_26 : decode cX12_hidden 26 = .ok (.ireturn, 1) := by decide +kernel
theorem dX12_hiddenAt_0 : decode cX12_hiddenAt 0 = .ok (.aload_n 0, 1) := by decide +kernel
theorem dX12_hiddenAt_1 : decode cX12_hiddenAt 1 = .ok (.iconst 0, 1) := by decide +kernel
theorem dX12_hiddenAt_2 : decode cX12_hiddenAt 2 = .ok (.putfield 1, 3) := by decide +kernel
theorem dX12_hiddenAt_5 : decode cX12_hiddenAt 5 = .ok (.aload_n 0, 1) := by decide +kernel
theorem dX12_hiddenAt_6 : decode cX12_hiddenAt 6 = .ok (.iload_n 1, 1) := by decide +kernel
theorem dX12_hiddenAt_7 : decode cX12_hiddenAt 7 = .ok (.iload_n 2, 1) := by decide +kernel
theorem dX12_hiddenAt_8 : decode cX12_hiddenAt 8 = .ok (.invokevirtual 408, 3) := by decide +kernel
theorem dX12_hiddenAt_11 : decode cX12_hiddenAt 11 = .ok (.istore 4, 2) := by decide +kernel
theorem dX12_hiddenAt_13 : decode cX12_hiddenAt 13 = .ok (.iload 4, 2) := by decide +kernel
theorem dX12_hiddenAt_15 : decode cX12_hiddenAt 15 = .ok (.ifCond .eq 6, 3) := by decide +kernel
theorem dX12_hiddenAt_18 : decode cX12_hiddenAt 18 = .ok (.iload 4, 2) := by decide +kernel
theorem dX12_hiddenAt_20 : decode cX12_hiddenAt 20 = .ok (.ireturn, 1) := by decide +kernel
theorem dX12_house_0 : decode cX12_house 0 = .ok (.aload_n 0, 1) := by decide +kernel
theorem dX12_house_1 : decode cX12_house 1 = .ok (.iconst 0, 1) := by decide +kernel
theorem dX12_house_2 : decode cX12_house 2 = .ok (.putfield 1, 3) := by decide +kernel
theorem dX12_house_5 : decode cX12_house 5 = .ok (.iload_n 1, 1) := by decide +kernel
theorem dX12_house_6 : decode cX12_house 6 = .ok (.i2l, 1) := by decide +kernel
theorem dX12_house_7 : decode cX12_house 7 = .ok (.lconst 0, 1) := by decide +kernel
theorem dX12_house_8 : decode cX12_house 8 = .ok (.aload_n 0, 1) := by decide +kernel
theorem dX12_house_9 : decode cX12_house 9 = .ok (.getfield 83, 3) := by decide +kernel
theorem dX12_house_12 : decode cX12_house 12 = .ok (.i2l, 1) := by decide +kernel
theorem dX12_house_13 : decode cX12_house 13 = .ok (.invokestatic 145, 3) := by decide +kernel
theorem dX12_house_16 : decode cX12_house 16 = .ok (.ifCond .ne 6, 3) := by decide +kernel
theorem dX12_house_19 : decode cX12_house 19 = .ok (.bipush (-3), 2) := by decide +kernel
theorem dX12_house_21 : decode cX12_house 21 = .ok (.ireturn, 1) := by decide +kernel
theorem dX12_house_22 : decode cX12_house 22 = .ok (.aload_n 0, 1) := by decide +kernel
theorem dX12_house_23 : decode cX12_house 23 = .ok (.iload_n 1, 1) := by decide +kernel
theorem dX12_house_24 : decode cX12_house 24 = .ok (.putfield 86, 3) := by decide +kernel
theorem dX12_house_27 : decode cX12_house 27 = .ok (.aload_n 0, 1) := by decide +kernel
theorem dX12_house_28 : decode cX12_house 28 = .ok (.iconst 0, 1) := by decide +kernel
theorem dX12_house_29 : decode cX12_house 29 = .ok (.putfield 83, 3) := by decide +kernel
theorem dX12_house_32 : decode cX12_house 32 = .ok (.aload_n 0, 1) := by decide +kernel
theorem dX12_house_33 : decode cX12_house 33 = .ok (.iconst 0, 1) := by decide +kernel
theorem dX12_house_34 : decode cX12_house 34 = .ok (.putfield 104, 3) := by decide +kernel
theorem dX12_house_37 : decode cX12_house 37 = .ok (.aload_n 0, 1) := by decide +kernel
theorem dX12_house_38 : decode cX12_house 38 = .ok (.iconst 0, 1) := by decide +kernel
theorem dX12_house_39 : decode cX12_house 39 = .ok (.putfield 129, 3) := by decide +kernel
theorem dX12_house_42 : decode cX12_house 42 = .ok (.aload_n 0, 1) := by decide +kernel
theorem dX12_house_43 : decode cX12_house 43 = .ok (.getfield 24, 3) := by decide +kernel
theorem dX12_house_46 : decode cX12_house 46 = .ok (.invokestatic 79, 3) := by decide +kernel
theorem dX12_house_49 : decode cX12_house 49 = .ok (.aload_n 0, 1) := by decide +kernel
theorem dX12_house_50 : decode cX12_house 50 = .ok (.invokevirtual 138, 3) := by decide +kernel
theorem dX12_house_53 : decode cX12_house 53 = .ok (.aload_n 0, 1) := by decide +kernel
theorem dX12_house_54 : decode cX12_house 54 = .ok (.iconst 0, 1) := by decide +kernel
theorem dX12_house_55 : decode cX12_house 55 = .ok (.invokevirtual 172, 3) := by decide +kernel
theorem dX12_house_58 : decode cX12_house 58 = .ok (.ifCond .ne 8, 3) := by decide +kernel
theorem dX12_house_61 : decode cX12_house 61 = .ok (.aload_n 0, 1) := by decide +kernel
theorem dX12_house_62 : decode cX12_house 62 = .ok (.iconst 2, 1) := by decide +kernel
theorem dX12_house_63 : decode cX12_house 63 = .ok (.invokevirtual 141, 3) := by decide +kernel
theorem dX12_house_66 : decode cX12_house 66 = .ok (.aload_n 0, 1) := by decide +kernel
theorem dX12_house_67 : decode cX12_house 67 = .ok (.iconst 1, 1) := by decide +kernel
theorem dX12_house_68 : decode cX12_house 68 = .ok (.invokevirtual 172, 3) := by decide +kernel
theorem dX12_house_71 : decode cX12_house 71 = .ok (.ifCond .ne 8, 3) := by decide +kernel
theorem dX12_house_74 : decode cX12_house 74 = .ok (.aload_n 0, 1) := by decide +kernel
theorem dX12_house_75 : decode cX12_house 75 = .ok (.iconst 2, 1) := by decide +kernel
theorem dX12_house_76 : decode cX12_house 76 = .ok (.invokevirtual 141, 3) := by decide +kernel
theorem dX12_house_79 : decode cX12_house 79 = .ok (.aload_n 0, 1) := by decide +kernel
theorem dX12_house_80 : decode cX12_house 80 = .ok (.getfield 24, 3) := by decide +kernel
theorem dX12_house_83 : decode cX12_house 83 = .ok (.iconst 1, 1) := by decide +kernel
theorem dX12_house_84 : decode cX12_house 84 = .ok (.aload_n 0, 1) := by decide +kernel
theorem dX12_house_85 : decode cX12_house 85 = .ok (.iconst 1, 1) := by decide +kernel
theorem dX12_house_86 : decode cX12_house 86 = .ok (.iconst 3, 1) := by decide +kernel
theorem dX12_house_87 : decode cX12_house 87 = .ok (.invokevirtual 190, 3) := by decide +kernel
theorem dX12_house_90 : decode cX12_house 90 = .ok (.iastore, 1) := by decide +kernel
theorem dX12_house_91 : decode cX12_house 91 = .ok (.aload_n 0, 1) := by decide +kernel
theorem dX12_house_92 : decode cX12_house 92 = .ok (.invokevirtual 208, 3) := by decide +kernel
theorem dX12_house_95 : decode cX12_house 95 = .ok (.aload_n 0, 1) := by decide +kernel
theorem dX12_house_96 : decode cX12_house 96 = .ok (.getfield 129, 3) := by decide +kernel
theorem dX12_house_99 : decode cX12_house 99 = .ok (.ifCond .ne 23, 3) := by decide +kernel
theorem dX12_house_122 : decode cX12_house 122 = .ok (.aload_n 0, 1) := by decide +kernel
theorem dX12_house_123 : decode cX12_house 123 = .ok (.aload_n 0, 1) := by decide +kernel
theorem dX12_house_124 : decode cX12_house 124 = .ok (.getfield 129, 3) := by decide +kernel
theorem dX12_house_127 : decode cX12_house 127 = .ok (.putfield 214, 3) := by decide +kernel
theorem dX12_house_130 : decode cX12_house 130 = .ok (.aload_n 0, 1) := by decide +kernel
theorem dX12_house_131 : decode cX12_house 131 = .ok (.aload_n 0, 1) := by decide +kernel
theorem dX12_house_132 : decode cX12_house 132 = .ok (.getfield 129, 3) := by decide +kernel
theorem dX12_house_135 : decode cX12_house 135 = .ok (.ifCond .ne 7, 3) := by decide +kernel
theorem dX12_house_142 : decode cX12_house 142 = .ok (.aload_n 0, 1) := by decide +kernel
theorem dX12_house_143 : decode cX12_house 143 = .ok (.getfield 132, 3) := by decide +kernel
theorem dX12_house_146 : decode cX12_house 146 = .ok (.putfield 27, 3) := by decide +kernel
theorem dX12_house_149 : decode cX12_house 149 = .ok (.aload_n 0, 1) := by decide +kernel
theorem dX12_house_150 : decode cX12_house 150 = .ok (.getfield 129, 3) := by decide +kernel
theorem dX12_house_153 : decode cX12_house 153 = .ok (.ifCond .eq 11, 3) := by decide +kernel
theorem dX12_house_156 : decode cX12_house 156 = .ok (.bipush (-30), 2) := by decide +kernel
theorem dX12_house_158 : decode cX12_house 158 = .ok (.aload_n 0, 1) := by decide +kernel
theorem dX12_house_159 : decode cX12_house 159 = .ok (.getfield 129, 3) := by decide +kernel
theorem dX12_house_162 : decode cX12_house 162 = .ok (.isub, 1) := by decide +kernel
theorem dX12_house_163 : decode cX12_house 163 = .ok (.ireturn, 1) := by decide +kernel
theorem dX12_image_0 : decode cX12_image 0 = .ok (.aload_n 0, 1) := by decide +kernel
theorem dX12_image_1 : decode cX12_image 1 = .ok (.iconst 0, 1) := by decide +kernel
theorem dX12_image_2 : decode cX12_image 2 = .ok (.putfield 1, 3) := by decide +kernel
theorem dX12_image_5 : decode cX12_image 5 = .ok (.iload_n 1, 1) := by decide +kernel
theorem dX12_image_6 : decode cX12_image 6 = .ok (.i2l, 1) := by decide +kernel
theorem dX12_image_7 : decode cX12_image 7 = .ok (.lconst 0, 1) := by decide +kernel
theorem dX12_image_8 : decode cX12_image 8 = .ok (.lconst 1, 1) := by decide +kernel
theorem dX12_image_9 : decode cX12_image 9 = .ok (.invokestatic 145, 3) := by decide +kernel
theorem dX12_image_12 : decode cX12_image 12 = .ok (.ifCond .ne 6, 3) := by decide +kernel
theorem dX12_image_15 : decode cX12_image 15 = .ok (.bipush (-2), 2) := by decide +kernel
theorem dX12_image_17 : decode cX12_image 17 = .ok (.ireturn, 1) := by decide +kernel
theorem dX12_image_18 : decode cX12_image 18 = .ok (.iconst 0, 1) := by decide +kernel
theorem dX12_image_19 : decode cX12_image 19 = .ok (.istore_n 2, 1) := by decide +kernel
theorem dX12_image_20 : decode cX12_image 20 = .ok (.iload_n 2, 1) := by decide +kernel
theorem dX12_image_21 : decode cX12_image 21 = .ok (.sipush 1306, 3) := by decide +kernel
theorem dX12_image_24 : decode cX12_image 24 = .ok (.if_icmp .ge 29, 3) := by decide +kernel
theorem dX12_image_27 : decode cX12_image 27 = .ok (.aload_n 0, 1) := by decide +kernel
theorem dX12_image_28 : decode cX12_image 28 = .ok (.getfield 13, 3) := by decide +kernel
theorem dX12_image_31 : decode cX12_image 31 = .ok (.sipush 1306, 3) := by decide +kernel
theorem dX12_image_34 : decode cX12_image 34 = .ok (.iload_n 1, 1) := by decide +kernel
theorem dX12_image_35 : decode cX12_image 35 = .ok (.iconst 1, 1) := by decide +kernel
theorem dX12_image_36 : decode cX12_image 36 = .ok (.iadd, 1) := by decide +kernel
theorem dX12_image_37 : decode cX12_image 37 = .ok (.imul, 1) := by decide +kernel
theorem dX12_image_38 : decode cX12_image 38 = .ok (.iload_n 2, 1) := by decide +kernel
theorem dX12_image_39 : decode cX12_image 39 = .ok (.iadd, 1) := by decide +kernel
theorem dX12_image_40 : decode cX12_image 40 = .ok (.aload_n 0, 1) := by decide +kernel
theorem dX12_image_41 : decode cX12_image 41 = .ok (.getfield 13, 3) := by decide +kernel
theorem dX12_image_44 : decode cX12_image 44 = .ok (.iload_n 2, 1) := by decide +kernel
theorem dX12_image_45 : decode cX12_image 45 = .ok (.iaload, 1) := by decide +kernel
theorem dX12_image_46 : decode cX12_image 46 = .ok (.iastore, 1) := by decide +kernel
theorem dX12_image_47 : decode cX12_image 47 = .ok (.iinc 2 1, 3) := by decide +kernel
theorem dX12_image_50 : decode cX12_image 50 = .ok (.goto (-30), 3) := by decide +kernel
theorem dX12_image_53 : decode cX12_image 53 = .ok (.aload_n 0, 1) := by decide +kernel
theorem dX12_image_54 : decode cX12_image 54 = .ok (.getfield 17, 3) := by decide +kernel
theorem dX12_image_57 : decode cX12_image 57 = .ok (.iload_n 1, 1) := by decide +kernel
theorem dX12_image_58 : decode cX12_image 58 = .ok (.iconst 1, 1) := by decide +kernel
theorem dX12_image_59 : decode cX12_image 59 = .ok (.bastore, 1) := by decide +kernel
theorem dX12_image_60 : decode cX12_image 60 = .ok (.iconst 0, 1) := by decide +kernel
theorem dX12_image_61 : decode cX12_image 61 = .ok (.ireturn, 1) := by decide +kernel
theorem dX12_init_0 : decode cX12_init 0 = .ok (.aload_n 0, 1) := by decide +kernel
theorem dX12_init_1 : decode cX12_init 1 = .ok (.invokespecial 7, 3) := by decide +kernel
theorem dX12_init_4 : decode cX12_init 4 = .ok (.aload_n 0, 1) := by decide +kernel
theorem dX12_init_5 : decode cX12_init 5 = .ok (.sipush 3918, 3) := by decide +kernel
theorem dX12_init_8 : decode cX12_init 8 = .ok (.newarray .int, 2) := by decide +kernel
theorem dX12_init_10 : decode cX12_init 10 = .ok (.putfield 13, 3) := by decide +kernel
theorem dX12_init_13 : decode cX12_init 13 = .ok (.aload_n 0, 1) := by decide +kernel
theorem dX12_init_14 : decode cX12_init 14 = .ok (.iconst 2, 1) := by decide +kernel
theorem dX12_init_15 : decode cX12_init 15 = .ok (.newarray .boolean, 2) := by decide +kernel
theorem dX12_init_17 : decode cX12_init 17 = .ok (.putfield 17, 3) := by decide +kernel
theorem dX12_init_20 : decode cX12_init 20 = .ok (.aload_n 0, 1) := by decide +kernel
theorem dX12_init_21 : decode cX12_init 21 = .ok (.sipush 900, 3) := by decide +kernel
theorem dX12_init_24 : decode cX12_init 24 = .ok (.newarray .int, 2) := by decide +kernel
theorem dX12_init_26 : decode cX12_init 26 = .ok (.putfield 21, 3) := by decide +kernel
theorem dX12_init_29 : decode cX12_init 29 = .ok (.aload_n 0, 1) := by decide +kernel
theorem dX12_init_30 : decode cX12_init 30 = .ok (.sipush 1306, 3) := by decide +kernel
theorem dX12_init_33 : decode cX12_init 33 = .ok (.newarray .int, 2) := by decide +kernel
theorem dX12_init_35 : decode cX12_init 35 = .ok (.putfield 24, 3) := by decide +kernel
theorem dX12_init_38 : decode cX12_init 38 = .ok (.aload_n 0, 1) := by decide +kernel
theorem dX12_init_39 : decode cX12_init 39 = .ok (.iconst (-1), 1) := by decide +kernel
theorem dX12_init_40 : decode cX12_init 40 = .ok (.putfield 27, 3) := by decide +kernel
theorem dX12_init_43 : decode cX12_init 43 = .ok (.aload_n 0, 1) := by decide +kernel
theorem dX12_init_44 : decode cX12_init 44 = .ok (.sipush 900, 3) := by decide +kernel
theorem dX12_init_47 : decode cX12_init 47 = .ok (.newarray .int, 2) := by decide +kernel
theorem dX12_init_49 : decode cX12_init 49 = .ok (.putfield 30, 3) := by decide +kernel
theorem dX12_init_52 : decode cX12_init 52 = .ok (.aload_n 0, 1) := by decide +kernel
theorem dX12_init_53 : decode cX12_init 53 = .ok (.bipush 11, 2) := by decide +kernel
theorem dX12_init_55 : decode cX12_init 55 = .ok (.newarray .int, 2) := by decide +kernel
theorem dX12_init_57 : decode cX12_init 57 = .ok (.putfield 33, 3) := by decide +kernel
theorem dX12_init_60 : decode cX12_init 60 = .ok (.aload_n 0, 1) := by decide +kernel
theorem dX12_init_61 : decode cX12_init 61 = .ok (.iconst 3, 1) := by decide +kernel
theorem dX12_init_62 : decode cX12_init 62 = .ok (.newarray .int, 2) := by decide +kernel
theorem dX12_init_64 : decode cX12_init 64 = .ok (.putfield 36, 3) := by decide +kernel
theorem dX12_init_67 : decode cX12_init 67 = .ok (.aload_n 0, 1) := by decide +kernel
theorem dX12_init_68 : decode cX12_init 68 = .ok (.bipush 10, 2) := by decide +kernel
theorem dX12_init_70 : decode cX12_init 70 = .ok (.newarray .int, 2) := by decide +kernel
theorem dX12_init_72 : decode cX12_init 72 = .ok (.putfield 39, 3) := by decide +kernel
theorem dX12_init_75 : decode cX12_init 75 = .ok (.aload_n 0, 1) := by decide +kernel
theorem dX12_init_76 : decode cX12_init 76 = .ok (.bipush 32, 2) := by decide +kernel
theorem dX12_init_78 : decode cX12_init 78 = .ok (.newarray .int, 2) := by decide +kernel
theorem dX12_init_80 : decode cX12_init 80 = .ok (.putfield 42, 3) := by decide +kernel
theorem dX12_init_83 : decode cX12_init 83 = .ok (.aload_n 0, 1) := by decide +kernel
theorem dX12_init_84 : decode cX12_init 84 = .ok (.sipush 1024, 3) := by decide +kernel
theorem dX12_init_87 : decode cX12_init 87 = .ok (.newarray .int, 2) := by decide +kernel
theorem dX12_init_89 : decode cX12_init 89 = .ok (.putfield 45, 3) := by decide +kernel
theorem dX12_init_92 : decode cX12_init 92 = .ok (.aload_n 0, 1) := by decide +kernel
theorem dX12_init_93 : decode cX12_init 93 = .ok (.bipush 10, 2) := by decide +kernel
theorem dX12_init_95 : decode cX12_init 95 = .ok (.newarray .int, 2) := by decide +kernel
theorem dX12_init_97 : decode cX12_init 97 = .ok (.putfield 48, 3) := by decide +kernel
theorem dX12_init_100 : decode cX12_init 100 = .ok (.aload_n 0, 1) := by decide +kernel
theorem dX12_init_101 : decode cX12_init 101 = .ok (.bipush 10, 2) := by decide +kernel
theorem dX12_init_103 : decode cX12_init 103 = .ok (.newarray .int, 2) := by decide +kernel
theorem dX12_init_105 : decode cX12_init 105 = .ok (.putfield 51, 3) := by decide +kernel
theorem dX12_init_108 : decode cX12_init 108 = .ok (.aload_n 0, 1) := by decide +kernel
theorem dX12_init_109 : decode cX12_init 109 = .ok (.sipush 1000, 3) := by decide +kernel
theorem dX12_init_112 : decode cX12_init 112 = .ok (.newarray .int, 2) := by decide +kernel
theorem dX12_init_114 : decode cX12_init 114 = .ok (.putfield 54, 3) := by decide +kernel
theorem dX12_init_117 : decode cX12_init 117 = .ok (.aload_n 0, 1) := by decide +kernel
theorem dX12_init_118 : decode cX12_init 118 = .ok (.sipush 1000, 3) := by decide +kernel
theorem dX12_init_121 : decode cX12_init 121 = .ok (.newarray .int, 2) := by decide +kernel
theorem dX12_init_123 : decode cX12_init 123 = .ok (.putfield 57, 3) := by decide +kernel
theorem dX12_init_126 : decode cX12_init 126 = .ok (.aload_n 0, 1) := by decide +kernel
theorem dX12_init_127 : decode cX12_init 127 = .ok (.sipush 1000, 3) := by decide +kernel
theorem dX12_init_130 : decode cX12_init 130 = .ok (.newarray .int, 2) := by decide +kernel
theorem dX12_init_132 : decode cX12_init 132 = .ok (.putfield 60, 3) := by decide +kernel
theorem dX12_init_135 : decode cX12_init 135 = .ok (.aload_n 0, 1) := by decide +kernel
theorem dX12_init_136 : decode cX12_init 136 = .ok (.sipush 1000, 3) := by decide +kernel
theorem dX12_init_139 : decode cX12_init 139 = .ok (.newarray .int, 2) := by decide +kernel
theorem dX12_init_141 : decode cX12_init 141 = .ok (.putfield 63, 3) := by decide +kernel
theorem dX12_init_144 : decode cX12_init 144 = .ok (.aload_n 0, 1) := by decide +kernel
theorem dX12_init_145 : decode cX12_init 145 = .ok (.sipush 1000, 3) := by decide +kernel
theorem dX12_init_148 : decode cX12_init 148 = .ok (.newarray .boolean, 2) := by decide +kernel
theorem dX12_init_150 : decode cX12_init 150 = .ok (.putfield 66, 3) := by decide +kernel
theorem dX12_init_153 : decode cX12_init 153 = .ok (.aload_n 0, 1) := by decide +kernel
theorem dX12_init_154 : decode cX12_init 154 = .ok (.iconst 4, 1) := by decide +kernel
theorem dX12_init_155 : decode cX12_init 155 = .ok (.newarray .int, 2) := by decide +kernel
theorem dX12_init_157 : decode cX12_init 157 = .ok (.dup, 1) := by decide +kernel
theorem dX12_init_158 : decode cX12_init 158 = .ok (.iconst 0, 1) := by decide +kernel
theorem dX12_init_159 : decode cX12_init 159 = .ok (.iconst (-1), 1) := by decide +kernel
theorem dX12_init_160 : decode cX12_init 160 = .ok (.iastore, 1) := by decide +kernel
theorem dX12_init_161 : decode cX12_init 161 = .ok (.dup, 1) := by decide +kernel
theorem dX12_init_162 : decode cX12_init 162 = .ok (.iconst 1, 1) := by decide +kernel
theorem dX12_init_163 : decode cX12_init 163 = .ok (.iconst (-1), 1) := by decide +kernel
theorem dX12_init_164 : decode cX12_init 164 = .ok (.iastore, 1) := by decide +kernel
theorem dX12_init_165 : decode cX12_init 165 = .ok (.dup, 1) := by decide +kernel
theorem dX12_init_166 : decode cX12_init 166 = .ok (.iconst 2, 1) := by decide +kernel
theorem dX12_init_167 : decode cX12_init 167 = .ok (.iconst (-1), 1) := by decide +kernel
theorem dX12_init_168 : decode cX12_init 168 = .ok (.iastore, 1) := by decide +kernel
theorem dX12_init_169 : decode cX12_init 169 = .ok (.dup, 1) := by decide +kernel
theorem dX12_init_170 : decode cX12_init 170 = .ok (.iconst 3, 1) := by decide +kernel
theorem dX12_init_171 : decode cX12_init 171 = .ok (.iconst (-1), 1) := by decide +kernel
theorem dX12_init_172 : decode cX12_init 172 = .ok (.iastore, 1) := by decide +kernel
theorem dX12_init_173 : decode cX12_init 173 = .ok (.putfield 69, 3) := by decide +kernel
theorem dX12_init_176 : decode cX12_init 176 = .ok (.aload_n 0, 1) := by decide +kernel
theorem dX12_init_177 : decode cX12_init 177 = .ok (.iconst 4, 1) := by decide +kernel
theorem dX12_init_178 : decode cX12_init 178 = .ok (.newarray .int, 2) := by decide +kernel
theorem dX12_init_180 : decode cX12_init 180 = .ok (.putfield 72, 3) := by decide +kernel
theorem dX12_init_183 : decode cX12_init 183 = .ok (.aload_n 0, 1) := by decide +kernel
theorem dX12_init_184 : decode cX12_init 184 = .ok (.sipush 160, 3) := by decide +kernel
theorem dX12_init_187 : decode cX12_init 187 = .ok (.newarray .long, 2) := by decide +kernel
theorem dX12_init_189 : decode cX12_init 189 = .ok (.putfield 75, 3) := by decide +kernel
theorem dX12_init_192 : decode cX12_init 192 = .ok (.aload_n 0, 1) := by decide +kernel
theorem dX12_init_193 : decode cX12_init 193 = .ok (.getfield 13, 3) := by decide +kernel
theorem dX12_init_196 : decode cX12_init 196 = .ok (.invokestatic 79, 3) := by decide +kernel
theorem dX12_init_199 : decode cX12_init 199 = .ok (.return_, 1) := by decide +kernel
theorem dX12_is_0 : decode cX12_is 0 = .ok (.aload_n 0, 1) := by decide +kernel
theorem dX12_is_1 : decode cX12_is 1 = .ok (.getfield 129, 3) := by decide +kernel
theorem dX12_is_4 : decode cX12_is 4 = .ok (.ifCond .ne 15, 3) := by decide +kernel
theorem dX12_is_7 : decode cX12_is 7 = .ok (.aload_n 0, 1) := by decide +kernel
theorem dX12_is_8 : decode cX12_is 8 = .ok (.getfield 111, 3) := by decide +kernel
theorem dX12_is_11 : decode cX12_is 11 = .ok (.iload_n 1, 1) := by decide +kernel
theorem dX12_is_12 : decode cX12_is 12 = .ok (.if_icmp .ne 7, 3) := by decide +kernel
theorem dX12_is_19 : decode cX12_is 19 = .ok (.iconst 0, 1) := by decide +kernel
theorem dX12_is_20 : decode cX12_is 20 = .ok (.ireturn, 1) := by decide +kernel
theorem dX12_isBill_0 : decode cX12_isBill 0 = .ok (.iload_n 0, 1) := by decide +kernel
theorem dX12_isBill_1 : decode cX12_isBill 1 = .ok (.i2l, 1) := by decide +kernel
theorem dX12_isBill_2 : decode cX12_isBill 2 = .ok (.lconst 0, 1) := by decide +kernel
theorem dX12_isBill_3 : decode cX12_isBill 3 = .ok (.ldc2_w 203, 3) := by decide +kernel
theorem dX12_isBill_6 : decode cX12_isBill 6 = .ok (.invokestatic 145, 3) := by decide +kernel
theorem dX12_isBill_9 : decode cX12_isBill 9 = .ok (.ireturn, 1) := by decide +kernel
theorem dX12_isCovered_0 : decode cX12_isCovered 0 = .ok (.iconst 0, 1) := by decide +kernel
theorem dX12_isCovered_1 : decode cX12_isCovered 1 = .ok (.istore_n 3, 1) := by decide +kernel
theorem dX12_isCovered_2 : decode cX12_isCovered 2 = .ok (.iload_n 3, 1) := by decide +kernel
theorem dX12_isCovered_3 : decode cX12_isCovered 3 = .ok (.aload_n 0, 1) := by decide +kernel
theorem dX12_isCovered_4 : decode cX12_isCovered 4 = .ok (.getfield 13, 3) := by decide +kernel
theorem dX12_isCovered_7 : decode cX12_isCovered 7 = .ok (.iconst 2, 1) := by decide +kernel
theorem dX12_isCovered_8 : decode cX12_isCovered 8 = .ok (.iaload, 1) := by decide +kernel
theorem dX12_isCovered_9 : decode cX12_isCovered 9 = .ok (.if_icmp .ge 31, 3) := by decide +kernel
theorem dX12_isCovered_40 : decode cX12_isCovered 40 = .ok (.iconst 1, 1) := by decide +kernel
theorem dX12_isCovered_41 : decode cX12_isCovered 41 = .ok (.ireturn, 1) := by decide +kernel
theorem dX12_isPerson_0 : decode cX12_isPerson 0 = .ok (.lload_n 1, 1) := by decide +kernel
theorem dX12_isPerson_1 : decode cX12_isPerson 1 = .ok (.lconst 0, 1) := by decide +kernel
theorem dX12_isPerson_2 : decode cX12_isPerson 2 = .ok (.aload_n 0, 1) := by decide +kernel
theorem dX12_isPerson_3 : decode cX12_isPerson 3 = .ok (.getfield 13, 3) := by decide +kernel
theorem dX12_isPerson_6 : decode cX12_isPerson 6 = .ok (.iconst 2, 1) := by decide +kernel
theorem dX12_isPerson_7 : decode cX12_isPerson 7 = .ok (.iaload, 1) := by decide +kernel
theorem dX12_isPerson_8 : decode cX12_isPerson 8 = .ok (.iconst 1, 1) := by decide +kernel
theorem dX12_isPerson_9 : decode cX12_isPerson 9 = .ok (.isub, 1) := by decide +kernel
theorem dX12_isPerson_10 : decode cX12_isPerson 10 = .ok (.i2l, 1) := by decide +kernel
theorem dX12_isPerson_11 : decode cX12_isPerson 11 = .ok (.invokestatic 145, 3) := by decide +kernel
theorem dX12_isPerson_14 : decode cX12_isPerson 14 = .ok (.ireturn, 1) := by decide +kernel
theorem dX12_isSet_0 : decode cX12_isSet 0 = .ok (.iload_n 1, 1) := by decide +kernel
theorem dX12_isSet_1 : decode cX12_isSet 1 = .ok (.aload_n 0, 1) := by decide +kernel
theorem dX12_isSet_2 : decode cX12_isSet 2 = .ok (.invokevirtual 217, 3) := by decide +kernel
theorem dX12_isSet_5 : decode cX12_isSet 5 = .ok (.iconst (-1), 1) := by decide +kernel
theorem dX12_isSet_6 : decode cX12_isSet 6 = .ok (.ixor, 1) := by decide +kernel
theorem dX12_isSet_7 : decode cX12_isSet 7 = .ok (.iand, 1) := by decide +kernel
theorem dX12_isSet_8 : decode cX12_isSet 8 = .ok (.ifCond .ne 7, 3) := by decide +kernel
theorem dX12_isSet_11 : decode cX12_isSet 11 = .ok (.iconst 1, 1) := by decide +kernel
theorem dX12_isSet_12 : decode cX12_isSet 12 = .ok (.goto 4, 3) := by decide +kernel
theorem dX12_isSet_15 : decode cX12_isSet 15 = .ok (.iconst 0, 1) := by decide +kernel
theorem dX12_isSet_16 : decode cX12_isSet 16 = .ok (.ireturn, 1) := by decide +kernel
theorem dX12_judge_0 : decode cX12_judge 0 = .ok (.aload_n 0, 1) := by decide +kernel
theorem dX12_judge_1 : decode cX12_judge 1 = .ok (.iconst 0, 1) := by decide +kernel
theorem dX12_judge_2 : decode cX12_judge 2 = .ok (.putfield 1, 3) := by decide +kernel
theorem dX12_judge_5 : decode cX12_judge 5 = .ok (.iload_n 2, 1) := by decide +kernel
theorem dX12_judge_6 : decode cX12_judge 6 = .ok (.i2l, 1) := by decide +kernel
theorem dX12_judge_7 : decode cX12_judge 7 = .ok (.lconst 0, 1) := by decide +kernel
theorem dX12_judge_8 : decode cX12_judge 8 = .ok (.ldc2_w 311, 3) := by decide +kernel
theorem dX12_judge_11 : decode cX12_judge 11 = .ok (.invokestatic 145, 3) := by decide +kernel
theorem dX12_judge_14 : decode cX12_judge 14 = .ok (.ifCond .ne 6, 3) := by decide +kernel
theorem dX12_judge_17 : decode cX12_judge 17 = .ok (.bipush (-2), 2) := by decide +kernel
theorem dX12_judge_19 : decode cX12_judge 19 = .ok (.ireturn, 1) := by decide +kernel
theorem dX12_judge_20 : decode cX12_judge 20 = .ok (.aload_n 0, 1) := by decide +kernel
theorem dX12_judge_21 : decode cX12_judge 21 = .ok (.iload_n 1, 1) := by decide +kernel
theorem dX12_judge_22 : decode cX12_judge 22 = .ok (.invokevirtual 313, 3) := by decide +kernel
theorem dX12_judge_25 : decode cX12_judge 25 = .ok (.istore_n 3, 1) := by decide +kernel
theorem dX12_judge_26 : decode cX12_judge 26 = .ok (.iload_n 3, 1) := by decide +kernel
theorem dX12_judge_27 : decode cX12_judge 27 = .ok (.ifCond .eq 5, 3) := by decide +kernel
theorem dX12_judge_30 : decode cX12_judge 30 = .ok (.iload_n 3, 1) := by decide +kernel
theorem dX12_judge_31 : decode cX12_judge 31 = .ok (.ireturn, 1) := by decide +kernel
theorem dX12_keeps_0 : decode cX12_keeps 0 = .ok (.iconst 0, 1) := by decide +kernel
theorem dX12_keeps_1 : decode cX12_keeps 1 = .ok (.istore_n 1, 1) := by decide +kernel
theorem dX12_keeps_2 : decode cX12_keeps 2 = .ok (.iload_n 1, 1) := by decide +kernel
theorem dX12_keeps_3 : decode cX12_keeps 3 = .ok (.bipush 32, 2) := by decide +kernel
theorem dX12_keeps_5 : decode cX12_keeps 5 = .ok (.if_icmp .ge 24, 3) := by decide +kernel
theorem dX12_keeps_8 : decode cX12_keeps 8 = .ok (.aload_n 0, 1) := by decide +kernel
theorem dX12_keeps_9 : decode cX12_keeps 9 = .ok (.getfield 42, 3) := by decide +kernel
theorem dX12_keeps_12 : decode cX12_keeps 12 = .ok (.iload_n 1, 1) := by decide +kernel
theorem dX12_keeps_13 : decode cX12_keeps 13 = .ok (.aload_n 0, 1) := by decide +kernel
theorem dX12_keeps_14 : decode cX12_keeps 14 = .ok (.getfield 13, 3) := by decide +kernel
theorem dX12_keeps_17 : decode cX12_keeps 17 = .ok (.bipush 52, 2) := by decide +kernel
theorem dX12_keeps_19 : decode cX12_keeps 19 = .ok (.iload_n 1, 1) := by decide +kernel
theorem dX12_keeps_20 : decode cX12_keeps 20 = .ok (.iadd, 1) := by decide +kernel
theorem dX12_keeps_21 : decode cX12_keeps 21 = .ok (.iaload, 1) := by decide +kernel
theorem dX12_keeps_22 : decode cX12_keeps 22 = .ok (.iastore, 1) := by decide +kernel
theorem dX12_keeps_23 : decode cX12_keeps 23 = .ok (.iinc 1 1, 3) := by decide +kernel
theorem dX12_keeps_26 : decode cX12_keeps 26 = .ok (.goto (-24), 3) := by decide +kernel
theorem dX12_keeps_29 : decode cX12_keeps 29 = .ok (.return_, 1) := by decide +kernel
theorem dX12_laundress_0 : decode cX12_laundress 0 = .ok (.aload_n 0, 1) := by decide +kernel
theorem dX12_laundress_1 : decode cX12_laundress 1 = .ok (.iconst 0, 1) := by decide +kernel
theorem dX12_laundress_2 : decode cX12_laundress 2 = .ok (.putfield 1, 3) := by decide +kernel
theorem dX12_laundress_5 : decode cX12_laundress 5 = .ok (.aload_n 0, 1) := by decide +kernel
theorem dX12_laundress_6 : decode cX12_laundress 6 = .ok (.iload_n 1, 1) := by decide +kernel
theorem dX12_laundress_7 : decode cX12_laundress 7 = .ok (.invokevirtual 349, 3) := by decide +kernel
theorem dX12_laundress_10 : decode cX12_laundress 10 = .ok (.ifCond .ne 6, 3) := by decide +kernel
theorem dX12_laundress_13 : decode cX12_laundress 13 = .ok (.bipush (-3), 2) := by decide +kernel
theorem dX12_laundress_15 : decode cX12_laundress 15 = .ok (.ireturn, 1) := by decide +kernel
theorem dX12_laundress_16 : decode cX12_laundress 16 = .ok (.aload_n 0, 1) := by decide +kernel
theorem dX12_laundress_17 : decode cX12_laundress 17 = .ok (.aload_n 0, 1) := by decide +kernel
theorem dX12_laundress_18 : decode cX12_laundress 18 = .ok (.getfield 13, 3) := by decide +kernel
theorem dX12_laundress_21 : decode cX12_laundress 21 = .ok (.bipush 52, 2) := by decide +kernel
theorem dX12_laundress_23 : decode cX12_laundress 23 = .ok (.iaload, 1) := by decide +kernel
theorem dX12_laundress_24 : decode cX12_laundress 24 = .ok (.invokevirtual 340, 3) := by decide +kernel
theorem dX12_laundress_27 : decode cX12_laundress 27 = .ok (.aload_n 0, 1) := by decide +kernel
theorem dX12_laundress_28 : decode cX12_laundress 28 = .ok (.invokevirtual 255, 3) := by decide +kernel
theorem dX12_laundress_31 : decode cX12_laundress 31 = .ok (.iload_n 1, 1) := by decide +kernel
theorem dX12_laundress_32 : decode cX12_laundress 32 = .ok (.iconst (-1), 1) := by decide +kernel
theorem dX12_laundress_33 : decode cX12_laundress 33 = .ok (.ixor, 1) := by decide +kernel
theorem dX12_laundress_34 : decode cX12_laundress 34 = .ok (.iand, 1) := by decide +kernel
theorem dX12_laundress_35 : decode cX12_laundress 35 = .ok (.istore_n 2, 1) := by decide +kernel
theorem dX12_laundress_36 : decode cX12_laundress 36 = .ok (.iconst (-1), 1) := by decide +kernel
theorem dX12_laundress_37 : decode cX12_laundress 37 = .ok (.istore_n 3, 1) := by decide +kernel
theorem dX12_laundress_38 : decode cX12_laundress 38 = .ok (.iconst 0, 1) := by decide +kernel
theorem dX12_laundress_39 : decode cX12_laundress 39 = .ok (.istore 4, 2) := by decide +kernel
theorem dX12_laundress_41 : decode cX12_laundress 41 = .ok (.iload 4, 2) := by decide +kernel
theorem dX12_laundress_43 : decode cX12_laundress 43 = .ok (.aload_n 0, 1) := by decide +kernel
theorem dX12_laundress_44 : decode cX12_laundress 44 = .ok (.getfield 13, 3) := by decide +kernel
theorem dX12_laundress_47 : decode cX12_laundress 47 = .ok (.iconst 2, 1) := by decide +kernel
theorem dX12_laundress_48 : decode cX12_laundress 48 = .ok (.iaload, 1) := by decide +kernel
theorem dX12_laundress_49 : decode cX12_laundress 49 = .ok (.if_icmp .ge 53, 3) := by decide +kernel
theorem dX12_laundress_102 : decode cX12_laundress 102 = .ok (.iload_n 3, 1) := by decide +kernel
theorem dX12_laundress_103 : decode cX12_laundress 103 = .ok (.ireturn, 1) := by decide +kernel
theorem dX12_laysNow_0 : decode cX12_laysNow 0 = .ok (.aload_n 0, 1) := by decide +kernel
theorem dX12_laysNow_1 : decode cX12_laysNow 1 = .ok (.aload_n 0, 1) := by decide +kernel
theorem dX12_laysNow_2 : decode cX12_laysNow 2 = .ok (.getfield 13, 3) := by decide +kernel
theorem dX12_laysNow_5 : decode cX12_laysNow 5 = .ok (.bipush 52, 2) := by decide +kernel
theorem dX12_laysNow_7 : decode cX12_laysNow 7 = .ok (.iaload, 1) := by decide +kernel
theorem dX12_laysNow_8 : decode cX12_laysNow 8 = .ok (.invokevirtual 340, 3) := by decide +kernel
theorem dX12_laysNow_11 : decode cX12_laysNow 11 = .ok (.aload_n 0, 1) := by decide +kernel
theorem dX12_laysNow_12 : decode cX12_laysNow 12 = .ok (.invokevirtual 343, 3) := by decide +kernel
theorem dX12_laysNow_15 : decode cX12_laysNow 15 = .ok (.return_, 1) := by decide +kernel
theorem dX12_laysOpposed_0 : decode cX12_laysOpposed 0 = .ok (.iconst 0, 1) := by decide +kernel
theorem dX12_laysOpposed_1 : decode cX12_laysOpposed 1 = .ok (.istore_n 2, 1) := by decide +kernel
theorem dX12_laysOpposed_2 : decode cX12_laysOpposed 2 = .ok (.iload_n 2, 1) := by decide +kernel
theorem dX12_laysOpposed_3 : decode cX12_laysOpposed 3 = .ok (.aload_n 0, 1) := by decide +kernel
theorem dX12_laysOpposed_4 : decode cX12_laysOpposed 4 = .ok (.getfield 13, 3) := by decide +kernel
theorem dX12_laysOpposed_7 : decode cX12_laysOpposed 7 = .ok (.iconst 2, 1) := by decide +kernel
theorem dX12_laysOpposed_8 : decode cX12_laysOpposed 8 = .ok (.iaload, 1) := by decide +kernel
theorem dX12_laysOpposed_9 : decode cX12_laysOpposed 9 = .ok (.if_icmp .ge 16, 3) := by decide +kernel
theorem dX12_laysOpposed_25 : decode cX12_laysOpposed 25 = .ok (.iconst 0, 1) := by decide +kernel
theorem dX12_laysOpposed_26 : decode cX12_laysOpposed 26 = .ok (.istore_n 2, 1) := by decide +kernel
theorem dX12_laysOpposed_27 : decode cX12_laysOpposed 27 = .ok (.iload_n 2, 1) := by decide +kernel
theorem dX12_laysOpposed_28 : decode cX12_laysOpposed 28 = .ok (.aload_n 0, 1) := by decide +kernel
theorem dX12_laysOpposed_29 : decode cX12_laysOpposed 29 = .ok (.getfield 13, 3) := by decide +kernel
theorem dX12_laysOpposed_32 : decode cX12_laysOpposed 32 = .ok (.iconst 2, 1) := by decide +kernel
theorem dX12_laysOpposed_33 : decode cX12_laysOpposed 33 = .ok (.iaload, 1) := by decide +kernel
theorem dX12_laysOpposed_34 : decode cX12_laysOpposed 34 = .ok (.if_icmp .ge 59, 3) := by decide +kernel
theorem dX12_laysOpposed_93 : decode cX12_laysOpposed 93 = .ok (.return_, 1) := by decide +kernel
theorem dX12_laysPairs_0 : decode cX12_laysPairs 0 = .ok (.aload_n 0, 1) := by decide +kernel
theorem dX12_laysPairs_1 : decode cX12_laysPairs 1 = .ok (.iconst (-1), 1) := by decide +kernel
theorem dX12_laysPairs_2 : decode cX12_laysPairs 2 = .ok (.putfield 352, 3) := by decide +kernel
theorem dX12_laysPairs_5 : decode cX12_laysPairs 5 = .ok (.aload_n 0, 1) := by decide +kernel
theorem dX12_laysPairs_6 : decode cX12_laysPairs 6 = .ok (.iconst (-1), 1) := by decide +kernel
theorem dX12_laysPairs_7 : decode cX12_laysPairs 7 = .ok (.putfield 355, 3) := by decide +kernel
theorem dX12_laysPairs_10 : decode cX12_laysPairs 10 = .ok (.iconst 0, 1) := by decide +kernel
theorem dX12_laysPairs_11 : decode cX12_laysPairs 11 = .ok (.istore_n 2, 1) := by decide +kernel
theorem dX12_laysPairs_12 : decode cX12_laysPairs 12 = .ok (.iload_n 2, 1) := by decide +kernel
theorem dX12_laysPairs_13 : decode cX12_laysPairs 13 = .ok (.bipush 10, 2) := by decide +kernel
theorem dX12_laysPairs_15 : decode cX12_laysPairs 15 = .ok (.if_icmp .ge 16, 3) := by decide +kernel
theorem dX12_laysPairs_18 : decode cX12_laysPairs 18 = .ok (.aload_n 0, 1) := by decide +kernel
theorem dX12_laysPairs_19 : decode cX12_laysPairs 19 = .ok (.getfield 48, 3) := by decide +kernel
theorem dX12_laysPairs_22 : decode cX12_laysPairs 22 = .ok (.iload_n 2, 1) := by decide +kernel
theorem dX12_laysPairs_23 : decode cX12_laysPairs 23 = .ok (.iconst (-1), 1) := by decide +kernel
theorem dX12_laysPairs_24 : decode cX12_laysPairs 24 = .ok (.iastore, 1) := by decide +kernel
theorem dX12_laysPairs_25 : decode cX12_laysPairs 25 = .ok (.iinc 2 1, 3) := by decide +kernel
theorem dX12_laysPairs_28 : decode cX12_laysPairs 28 = .ok (.goto (-16), 3) := by decide +kernel
theorem dX12_laysPairs_31 : decode cX12_laysPairs 31 = .ok (.aload_n 0, 1) := by decide +kernel
theorem dX12_laysPairs_32 : decode cX12_laysPairs 32 = .ok (.iload_n 1, 1) := by decide +kernel
theorem dX12_laysPairs_33 : decode cX12_laysPairs 33 = .ok (.iconst 0, 1) := by decide +kernel
theorem dX12_laysPairs_34 : decode cX12_laysPairs 34 = .ok (.iconst 0, 1) := by decide +kernel
theorem dX12_laysPairs_35 : decode cX12_laysPairs 35 = .ok (.invokevirtual 358, 3) := by decide +kernel
theorem dX12_laysPairs_38 : decode cX12_laysPairs 38 = .ok (.return_, 1) := by decide +kernel
theorem dX12_laysParted_0 : decode cX12_laysParted 0 = .ok (.aload_n 0, 1) := by decide +kernel
theorem dX12_laysParted_1 : decode cX12_laysParted 1 = .ok (.getfield 45, 3) := by decide +kernel
theorem dX12_laysParted_4 : decode cX12_laysParted 4 = .ok (.iconst 0, 1) := by decide +kernel
theorem dX12_laysParted_5 : decode cX12_laysParted 5 = .ok (.iconst 1, 1) := by decide +kernel
theorem dX12_laysParted_6 : decode cX12_laysParted 6 = .ok (.iastore, 1) := by decide +kernel
theorem dX12_laysParted_7 : decode cX12_laysParted 7 = .ok (.iconst 1, 1) := by decide +kernel
theorem dX12_laysParted_8 : decode cX12_laysParted 8 = .ok (.istore_n 1, 1) := by decide +kernel
theorem dX12_laysParted_9 : decode cX12_laysParted 9 = .ok (.iload_n 1, 1) := by decide +kernel
theorem dX12_laysParted_10 : decode cX12_laysParted 10 = .ok (.iconst 1, 1) := by decide +kernel
theorem dX12_laysParted_11 : decode cX12_laysParted 11 = .ok (.aload_n 0, 1) := by decide +kernel
theorem dX12_laysParted_12 : decode cX12_laysParted 12 = .ok (.getfield 13, 3) := by decide +kernel
theorem dX12_laysParted_15 : decode cX12_laysParted 15 = .ok (.iconst 2, 1) := by decide +kernel
theorem dX12_laysParted_16 : decode cX12_laysParted 16 = .ok (.iaload, 1) := by decide +kernel
theorem dX12_laysParted_17 : decode cX12_laysParted 17 = .ok (.ishl, 1) := by decide +kernel
theorem dX12_laysParted_18 : decode cX12_laysParted 18 = .ok (.if_icmp .ge 84, 3) := by decide +kernel
theorem dX12_laysParted_102 : decode cX12_laysParted 102 = .ok (.return_, 1) := by decide +kernel
theorem dX12_lists_0 : decode cX12_lists 0 = .ok (.aload_n 0, 1) := by decide +kernel
theorem dX12_lists_1 : decode cX12_lists 1 = .ok (.iconst 0, 1) := by decide +kernel
theorem dX12_lists_2 : decode cX12_lists 2 = .ok (.putfield 1, 3) := by decide +kernel
theorem dX12_lists_5 : decode cX12_lists 5 = .ok (.iload_n 1, 1) := by decide +kernel
theorem dX12_lists_6 : decode cX12_lists 6 = .ok (.i2l, 1) := by decide +kernel
theorem dX12_lists_7 : decode cX12_lists 7 = .ok (.lconst 0, 1) := by decide +kernel
theorem dX12_lists_8 : decode cX12_lists 8 = .ok (.ldc2_w 311, 3) := by decide +kernel
theorem dX12_lists_11 : decode cX12_lists 11 = .ok (.invokestatic 145, 3) := by decide +kernel
theorem dX12_lists_14 : decode cX12_lists 14 = .ok (.ifCond .eq 12, 3) := by decide +kernel
theorem dX12_lists_17 : decode cX12_lists 17 = .ok (.aload_n 0, 1) := by decide +kernel
theorem dX12_lists_18 : decode cX12_lists 18 = .ok (.iload_n 2, 1) := by decide +kernel
theorem dX12_lists_19 : decode cX12_lists 19 = .ok (.iload_n 3, 1) := by decide +kernel
theorem dX12_lists_20 : decode cX12_lists 20 = .ok (.invokevirtual 384, 3) := by decide +kernel
theorem dX12_lists_23 : decode cX12_lists 23 = .ok (.ifCond .ne 6, 3) := by decide +kernel
theorem dX12_lists_26 : decode cX12_lists 26 = .ok (.bipush (-2), 2) := by decide +kernel
theorem dX12_lists_28 : decode cX12_lists 28 = .ok (.ireturn, 1) := by decide +kernel
theorem dX12_next_0 : decode cX12_next 0 = .ok (.aload_n 0, 1) := by decide +kernel
theorem dX12_next_1 : decode cX12_next 1 = .ok (.aload_n 0, 1) := by decide +kernel
theorem dX12_next_2 : decode cX12_next 2 = .ok (.getfield 104, 3) := by decide +kernel
theorem dX12_next_5 : decode cX12_next 5 = .ok (.putfield 101, 3) := by decide +kernel
theorem dX12_next_8 : decode cX12_next 8 = .ok (.aload_n 0, 1) := by decide +kernel
theorem dX12_next_9 : decode cX12_next 9 = .ok (.aload_n 0, 1) := by decide +kernel
theorem dX12_next_10 : decode cX12_next 10 = .ok (.getfield 101, 3) := by decide +kernel
theorem dX12_next_13 : decode cX12_next 13 = .ok (.invokevirtual 107, 3) := by decide +kernel
theorem dX12_next_16 : decode cX12_next 16 = .ok (.bipush 10, 2) := by decide +kernel
theorem dX12_next_18 : decode cX12_next 18 = .ok (.if_icmp .eq 16, 3) := by decide +kernel
theorem dX12_next_21 : decode cX12_next 21 = .ok (.aload_n 0, 1) := by decide +kernel
theorem dX12_next_22 : decode cX12_next 22 = .ok (.aload_n 0, 1) := by decide +kernel
theorem dX12_next_23 : decode cX12_next 23 = .ok (.getfield 101, 3) := by decide +kernel
theorem dX12_next_26 : decode cX12_next 26 = .ok (.invokevirtual 107, 3) := by decide +kernel
theorem dX12_next_29 : decode cX12_next 29 = .ok (.bipush 32, 2) := by decide +kernel
theorem dX12_next_31 : decode cX12_next 31 = .ok (.if_icmp .ne 16, 3) := by decide +kernel
theorem dX12_next_47 : decode cX12_next 47 = .ok (.aload_n 0, 1) := by decide +kernel
theorem dX12_next_48 : decode cX12_next 48 = .ok (.aload_n 0, 1) := by decide +kernel
theorem dX12_next_49 : decode cX12_next 49 = .ok (.getfield 101, 3) := by decide +kernel
theorem dX12_next_52 : decode cX12_next 52 = .ok (.putfield 104, 3) := by decide +kernel
theorem dX12_next_55 : decode cX12_next 55 = .ok (.aload_n 0, 1) := by decide +kernel
theorem dX12_next_56 : decode cX12_next 56 = .ok (.getfield 101, 3) := by decide +kernel
theorem dX12_next_59 : decode cX12_next 59 = .ok (.aload_n 0, 1) := by decide +kernel
theorem dX12_next_60 : decode cX12_next 60 = .ok (.getfield 86, 3) := by decide +kernel
theorem dX12_next_63 : decode cX12_next 63 = .ok (.if_icmp .lt 12, 3) := by decide +kernel
theorem dX12_next_66 : decode cX12_next 66 = .ok (.aload_n 0, 1) := by decide +kernel
theorem dX12_next_67 : decode cX12_next 67 = .ok (.bipush 26, 2) := by decide +kernel
theorem dX12_next_69 : decode cX12_next 69 = .ok (.putfield 111, 3) := by decide +kernel
theorem dX12_next_72 : decode cX12_next 72 = .ok (.goto 222, 3) := by decide +kernel
theorem dX12_next_294 : decode cX12_next 294 = .ok (.return_, 1) := by decide +kernel
theorem dX12_noHidden_0 : decode cX12_noHidden 0 = .ok (.aload_n 0, 1) := by decide +kernel
theorem dX12_noHidden_1 : decode cX12_noHidden 1 = .ok (.iload_n 1, 1) := by decide +kernel
theorem dX12_noHidden_2 : decode cX12_noHidden 2 = .ok (.i2l, 1) := by decide +kernel
theorem dX12_noHidden_3 : decode cX12_noHidden 3 = .ok (.invokevirtual 245, 3) := by decide +kernel
theorem dX12_noHidden_6 : decode cX12_noHidden 6 = .ok (.ifCond .ne 8, 3) := by decide +kernel
theorem dX12_noHidden_9 : decode cX12_noHidden 9 = .ok (.bipush (-2), 2) := by decide +kernel
theorem dX12_noHidden_11 : decode cX12_noHidden 11 = .ok (.goto 26, 3) := by decide +kernel
theorem dX12_noHidden_37 : decode cX12_noHidden 37 = .ok (.ireturn, 1) := by decide +kernel
theorem dX12_noTray_0 : decode cX12_noTray 0 = .ok (.iload_n 1, 1) := by decide +kernel
theorem dX12_noTray_1 : decode cX12_noTray 1 = .ok (.i2l, 1) := by decide +kernel
theorem dX12_noTray_2 : decode cX12_noTray 2 = .ok (.lconst 0, 1) := by decide +kernel
theorem dX12_noTray_3 : decode cX12_noTray 3 = .ok (.ldc2_w 311, 3) := by decide +kernel
theorem dX12_noTray_6 : decode cX12_noTray 6 = .ok (.invokestatic 145, 3) := by decide +kernel
theorem dX12_noTray_9 : decode cX12_noTray 9 = .ok (.ifCond .ne 8, 3) := by decide +kernel
theorem dX12_noTray_12 : decode cX12_noTray 12 = .ok (.bipush (-2), 2) := by decide +kernel
theorem dX12_noTray_14 : decode cX12_noTray 14 = .ok (.goto 19, 3) := by decide +kernel
theorem dX12_noTray_17 : decode cX12_noTray 17 = .ok (.aload_n 0, 1) := by decide +kernel
theorem dX12_noTray_18 : decode cX12_noTray 18 = .ok (.getfield 69, 3) := by decide +kernel
theorem dX12_noTray_21 : decode cX12_noTray 21 = .ok (.iload_n 1, 1) := by decide +kernel
theorem dX12_noTray_22 : decode cX12_noTray 22 = .ok (.iaload, 1) := by decide +kernel
theorem dX12_noTray_23 : decode cX12_noTray 23 = .ok (.iconst (-1), 1) := by decide +kernel
theorem dX12_noTray_24 : decode cX12_noTray 24 = .ok (.if_icmp .ne 8, 3) := by decide +kernel
theorem dX12_noTray_27 : decode cX12_noTray 27 = .ok (.bipush (-6), 2) := by decide +kernel
theorem dX12_noTray_29 : decode cX12_noTray 29 = .ok (.goto 4, 3) := by decide +kernel
theorem dX12_noTray_33 : decode cX12_noTray 33 = .ok (.ireturn, 1) := by decide +kernel
theorem dX12_notes_0 : decode cX12_notes 0 = .ok (.aload_n 0, 1) := by decide +kernel
theorem dX12_notes_1 : decode cX12_notes 1 = .ok (.getfield 13, 3) := by decide +kernel
theorem dX12_notes_4 : decode cX12_notes 4 = .ok (.bipush 84, 2) := by decide +kernel
theorem dX12_notes_6 : decode cX12_notes 6 = .ok (.iaload, 1) := by decide +kernel
theorem dX12_notes_7 : decode cX12_notes 7 = .ok (.bipush 10, 2) := by decide +kernel
theorem dX12_notes_9 : decode cX12_notes 9 = .ok (.if_icmp .ne 47, 3) := by decide +kernel
theorem dX12_notes_56 : decode cX12_notes 56 = .ok (.iconst 0, 1) := by decide +kernel
theorem dX12_notes_57 : decode cX12_notes 57 = .ok (.istore_n 1, 1) := by decide +kernel
theorem dX12_notes_58 : decode cX12_notes 58 = .ok (.iload_n 1, 1) := by decide +kernel
theorem dX12_notes_59 : decode cX12_notes 59 = .ok (.bipush 32, 2) := by decide +kernel
theorem dX12_notes_61 : decode cX12_notes 61 = .ok (.if_icmp .ge 35, 3) := by decide +kernel
theorem dX12_notes_64 : decode cX12_notes 64 = .ok (.aload_n 0, 1) := by decide +kernel
theorem dX12_notes_65 : decode cX12_notes 65 = .ok (.getfield 13, 3) := by decide +kernel
theorem dX12_notes_68 : decode cX12_notes 68 = .ok (.bipush 85, 2) := by decide +kernel
theorem dX12_notes_70 : decode cX12_notes 70 = .ok (.bipush 32, 2) := by decide +kernel
theorem dX12_notes_72 : decode cX12_notes 72 = .ok (.aload_n 0, 1) := by decide +kernel
theorem dX12_notes_73 : decode cX12_notes 73 = .ok (.getfield 13, 3) := by decide +kernel
theorem dX12_notes_76 : decode cX12_notes 76 = .ok (.bipush 84, 2) := by decide +kernel
theorem dX12_notes_78 : decode cX12_notes 78 = .ok (.iaload, 1) := by decide +kernel
theorem dX12_notes_79 : decode cX12_notes 79 = .ok (.imul, 1) := by decide +kernel
theorem dX12_notes_80 : decode cX12_notes 80 = .ok (.iadd, 1) := by decide +kernel
theorem dX12_notes_81 : decode cX12_notes 81 = .ok (.iload_n 1, 1) := by decide +kernel
theorem dX12_notes_82 : decode cX12_notes 82 = .ok (.iadd, 1) := by decide +kernel
theorem dX12_notes_83 : decode cX12_notes 83 = .ok (.aload_n 0, 1) := by decide +kernel
theorem dX12_notes_84 : decode cX12_notes 84 = .ok (.getfield 42, 3) := by decide +kernel
theorem dX12_notes_87 : decode cX12_notes 87 = .ok (.iload_n 1, 1) := by decide +kernel
theorem dX12_notes_88 : decode cX12_notes 88 = .ok (.iaload, 1) := by decide +kernel
theorem dX12_notes_89 : decode cX12_notes 89 = .ok (.iastore, 1) := by decide +kernel
theorem dX12_notes_90 : decode cX12_notes 90 = .ok (.iinc 1 1, 3) := by decide +kernel
theorem dX12_notes_93 : decode cX12_notes 93 = .ok (.goto (-35), 3) := by decide +kernel
theorem dX12_notes_96 : decode cX12_notes 96 = .ok (.aload_n 0, 1) := by decide +kernel
theorem dX12_notes_97 : decode cX12_notes 97 = .ok (.getfield 13, 3) := by decide +kernel
theorem dX12_notes_100 : decode cX12_notes 100 = .ok (.bipush 84, 2) := by decide +kernel
theorem dX12_notes_102 : decode cX12_notes 102 = .ok (.dup2, 1) := by decide +kernel
theorem dX12_notes_103 : decode cX12_notes 103 = .ok (.iaload, 1) := by decide +kernel
theorem dX12_notes_104 : decode cX12_notes 104 = .ok (.iconst 1, 1) := by decide +kernel
theorem dX12_notes_105 : decode cX12_notes 105 = .ok (.iadd, 1) := by decide +kernel
theorem dX12_notes_106 : decode cX12_notes 106 = .ok (.iastore, 1) := by decide +kernel
theorem dX12_notes_107 : decode cX12_notes 107 = .ok (.return_, 1) := by decide +kernel
theorem dX12_numbers_0 : decode cX12_numbers 0 = .ok (.aload_n 0, 1) := by decide +kernel
theorem dX12_numbers_1 : decode cX12_numbers 1 = .ok (.iconst 0, 1) := by decide +kernel
theorem dX12_numbers_2 : decode cX12_numbers 2 = .ok (.putfield 1, 3) := by decide +kernel
theorem dX12_numbers_5 : decode cX12_numbers 5 = .ok (.iload_n 1, 1) := by decide +kernel
theorem dX12_numbers_6 : decode cX12_numbers 6 = .ok (.i2l, 1) := by decide +kernel
theorem dX12_numbers_7 : decode cX12_numbers 7 = .ok (.lconst 0, 1) := by decide +kernel
theorem dX12_numbers_8 : decode cX12_numbers 8 = .ok (.ldc2_w 311, 3) := by decide +kernel
theorem dX12_numbers_11 : decode cX12_numbers 11 = .ok (.invokestatic 145, 3) := by decide +kernel
theorem dX12_numbers_14 : decode cX12_numbers 14 = .ok (.ifCond .eq 15, 3) := by decide +kernel
theorem dX12_numbers_17 : decode cX12_numbers 17 = .ok (.iload_n 2, 1) := by decide +kernel
theorem dX12_numbers_18 : decode cX12_numbers 18 = .ok (.i2l, 1) := by decide +kernel
theorem dX12_numbers_19 : decode cX12_numbers 19 = .ok (.lconst 0, 1) := by decide +kernel
theorem dX12_numbers_20 : decode cX12_numbers 20 = .ok (.ldc2_w 311, 3) := by decide +kernel
theorem dX12_numbers_23 : decode cX12_numbers 23 = .ok (.invokestatic 145, 3) := by decide +kernel
theorem dX12_numbers_26 : decode cX12_numbers 26 = .ok (.ifCond .ne 6, 3) := by decide +kernel
theorem dX12_numbers_29 : decode cX12_numbers 29 = .ok (.bipush (-2), 2) := by decide +kernel
theorem dX12_numbers_31 : decode cX12_numbers 31 = .ok (.ireturn, 1) := by decide +kernel
theorem dX12_numbers_32 : decode cX12_numbers 32 = .ok (.iload_n 3, 1) := by decide +kernel
theorem dX12_numbers_33 : decode cX12_numbers 33 = .ok (.i2l, 1) := by decide +kernel
theorem dX12_numbers_34 : decode cX12_numbers 34 = .ok (.lconst 0, 1) := by decide +kernel
theorem dX12_numbers_35 : decode cX12_numbers 35 = .ok (.ldc2_w 332, 3) := by decide +kernel
theorem dX12_numbers_38 : decode cX12_numbers 38 = .ok (.invokestatic 145, 3) := by decide +kernel
theorem dX12_numbers_41 : decode cX12_numbers 41 = .ok (.ifCond .ne 6, 3) := by decide +kernel
theorem dX12_numbers_44 : decode cX12_numbers 44 = .ok (.bipush (-3), 2) := by decide +kernel
theorem dX12_numbers_46 : decode cX12_numbers 46 = .ok (.ireturn, 1) := by decide +kernel
theorem dX12_numbers_47 : decode cX12_numbers 47 = .ok (.aload_n 0, 1) := by decide +kernel
theorem dX12_numbers_48 : decode cX12_numbers 48 = .ok (.getfield 69, 3) := by decide +kernel
theorem dX12_numbers_51 : decode cX12_numbers 51 = .ok (.iload_n 1, 1) := by decide +kernel
theorem dX12_numbers_52 : decode cX12_numbers 52 = .ok (.iload_n 2, 1) := by decide +kernel
theorem dX12_numbers_53 : decode cX12_numbers 53 = .ok (.iastore, 1) := by decide +kernel
theorem dX12_numbers_54 : decode cX12_numbers 54 = .ok (.aload_n 0, 1) := by decide +kernel
theorem dX12_numbers_55 : decode cX12_numbers 55 = .ok (.getfield 72, 3) := by decide +kernel
theorem dX12_numbers_58 : decode cX12_numbers 58 = .ok (.iload_n 1, 1) := by decide +kernel
theorem dX12_numbers_59 : decode cX12_numbers 59 = .ok (.iload_n 3, 1) := by decide +kernel
theorem dX12_numbers_60 : decode cX12_numbers 60 = .ok (.iastore, 1) := by decide +kernel
theorem dX12_numbers_61 : decode cX12_numbers 61 = .ok (.iconst 0, 1) := by decide +kernel
theorem dX12_numbers_62 : decode cX12_numbers 62 = .ok (.istore 4, 2) := by decide +kernel
theorem dX12_numbers_64 : decode cX12_numbers 64 = .ok (.iload 4, 2) := by decide +kernel
theorem dX12_numbers_66 : decode cX12_numbers 66 = .ok (.iload_n 3, 1) := by decide +kernel
theorem dX12_numbers_67 : decode cX12_numbers 67 = .ok (.if_icmp .ge 22, 3) := by decide +kernel
theorem dX12_numbers_70 : decode cX12_numbers 70 = .ok (.aload_n 0, 1) := by decide +kernel
theorem dX12_numbers_71 : decode cX12_numbers 71 = .ok (.getfield 75, 3) := by decide +kernel
theorem dX12_numbers_74 : decode cX12_numbers 74 = .ok (.bipush 40, 2) := by decide +kernel
theorem dX12_numbers_76 : decode cX12_numbers 76 = .ok (.iload_n 1, 1) := by decide +kernel
theorem dX12_numbers_77 : decode cX12_numbers 77 = .ok (.imul, 1) := by decide +kernel
theorem dX12_numbers_78 : decode cX12_numbers 78 = .ok (.iload 4, 2) := by decide +kernel
theorem dX12_numbers_80 : decode cX12_numbers 80 = .ok (.iadd, 1) := by decide +kernel
theorem dX12_numbers_81 : decode cX12_numbers 81 = .ok (.lconst 0, 1) := by decide +kernel
theorem dX12_numbers_82 : decode cX12_numbers 82 = .ok (.lastore, 1) := by decide +kernel
theorem dX12_numbers_83 : decode cX12_numbers 83 = .ok (.iinc 4 1, 3) := by decide +kernel
theorem dX12_numbers_86 : decode cX12_numbers 86 = .ok (.goto (-22), 3) := by decide +kernel
theorem dX12_numbers_89 : decode cX12_numbers 89 = .ok (.iconst 0, 1) := by decide +kernel
theorem dX12_numbers_90 : decode cX12_numbers 90 = .ok (.ireturn, 1) := by decide +kernel
theorem dX12_opposed_0 : decode cX12_opposed 0 = .ok (.aload_n 0, 1) := by decide +kernel
theorem dX12_opposed_1 : decode cX12_opposed 1 = .ok (.iconst 0, 1) := by decide +kernel
theorem dX12_opposed_2 : decode cX12_opposed 2 = .ok (.putfield 1, 3) := by decide +kernel
theorem dX12_opposed_5 : decode cX12_opposed 5 = .ok (.aload_n 0, 1) := by decide +kernel
theorem dX12_opposed_6 : decode cX12_opposed 6 = .ok (.iload_n 1, 1) := by decide +kernel
theorem dX12_opposed_7 : decode cX12_opposed 7 = .ok (.i2l, 1) := by decide +kernel
theorem dX12_opposed_8 : decode cX12_opposed 8 = .ok (.invokevirtual 245, 3) := by decide +kernel
theorem dX12_opposed_11 : decode cX12_opposed 11 = .ok (.ifCond .eq 36, 3) := by decide +kernel
theorem dX12_opposed_47 : decode cX12_opposed 47 = .ok (.bipush (-2), 2) := by decide +kernel
theorem dX12_opposed_49 : decode cX12_opposed 49 = .ok (.ireturn, 1) := by decide +kernel
theorem dX12_opposites_0 : decode cX12_opposites 0 = .ok (.aload_n 0, 1) := by decide +kernel
theorem dX12_opposites_1 : decode cX12_opposites 1 = .ok (.iconst 0, 1) := by decide +kernel
theorem dX12_opposites_2 : decode cX12_opposites 2 = .ok (.putfield 1, 3) := by decide +kernel
theorem dX12_opposites_5 : decode cX12_opposites 5 = .ok (.aload_n 0, 1) := by decide +kernel
theorem dX12_opposites_6 : decode cX12_opposites 6 = .ok (.iload_n 1, 1) := by decide +kernel
theorem dX12_opposites_7 : decode cX12_opposites 7 = .ok (.i2l, 1) := by decide +kernel
theorem dX12_opposites_8 : decode cX12_opposites 8 = .ok (.invokevirtual 245, 3) := by decide +kernel
theorem dX12_opposites_11 : decode cX12_opposites 11 = .ok (.ifCond .eq 11, 3) := by decide +kernel
theorem dX12_opposites_22 : decode cX12_opposites 22 = .ok (.bipush (-2), 2) := by decide +kernel
theorem dX12_opposites_24 : decode cX12_opposites 24 = .ok (.ireturn, 1) := by decide +kernel
theorem dX12_pairs_0 : decode cX12_pairs 0 = .ok (.aload_n 0, 1) := by decide +kernel
theorem dX12_pairs_1 : decode cX12_pairs 1 = .ok (.iconst 0, 1) := by decide +kernel
theorem dX12_pairs_2 : decode cX12_pairs 2 = .ok (.putfield 1, 3) := by decide +kernel
theorem dX12_pairs_5 : decode cX12_pairs 5 = .ok (.iload_n 2, 1) := by decide +kernel
theorem dX12_pairs_6 : decode cX12_pairs 6 = .ok (.i2l, 1) := by decide +kernel
theorem dX12_pairs_7 : decode cX12_pairs 7 = .ok (.lconst 0, 1) := by decide +kernel
theorem dX12_pairs_8 : decode cX12_pairs 8 = .ok (.lconst 1, 1) := by decide +kernel
theorem dX12_pairs_9 : decode cX12_pairs 9 = .ok (.invokestatic 145, 3) := by decide +kernel
theorem dX12_pairs_12 : decode cX12_pairs 12 = .ok (.ifCond .ne 24, 3) := by decide +kernel
theorem dX12_pairs_15 : decode cX12_pairs 15 = .ok (.iload_n 2, 1) := by decide +kernel
theorem dX12_pairs_16 : decode cX12_pairs 16 = .ok (.bipush 10, 2) := by decide +kernel
theorem dX12_pairs_18 : decode cX12_pairs 18 = .ok (.if_icmp .lt 15, 3) := by decide +kernel
theorem dX12_pairs_21 : decode cX12_pairs 21 = .ok (.aload_n 0, 1) := by decide +kernel
theorem dX12_pairs_22 : decode cX12_pairs 22 = .ok (.iload_n 2, 1) := by decide +kernel
theorem dX12_pairs_23 : decode cX12_pairs 23 = .ok (.bipush 10, 2) := by decide +kernel
theorem dX12_pairs_25 : decode cX12_pairs 25 = .ok (.isub, 1) := by decide +kernel
theorem dX12_pairs_26 : decode cX12_pairs 26 = .ok (.i2l, 1) := by decide +kernel
theorem dX12_pairs_27 : decode cX12_pairs 27 = .ok (.invokevirtual 245, 3) := by decide +kernel
theorem dX12_pairs_30 : decode cX12_pairs 30 = .ok (.ifCond .ne 6, 3) := by decide +kernel
theorem dX12_pairs_33 : decode cX12_pairs 33 = .ok (.bipush (-2), 2) := by decide +kernel
theorem dX12_pairs_35 : decode cX12_pairs 35 = .ok (.ireturn, 1) := by decide +kernel
theorem dX12_pairs_36 : decode cX12_pairs 36 = .ok (.aload_n 0, 1) := by decide +kernel
theorem dX12_pairs_37 : decode cX12_pairs 37 = .ok (.iload_n 1, 1) := by decide +kernel
theorem dX12_pairs_38 : decode cX12_pairs 38 = .ok (.invokevirtual 349, 3) := by decide +kernel
theorem dX12_pairs_41 : decode cX12_pairs 41 = .ok (.ifCond .ne 6, 3) := by decide +kernel
theorem dX12_pairs_44 : decode cX12_pairs 44 = .ok (.bipush (-3), 2) := by decide +kernel
theorem dX12_pairs_46 : decode cX12_pairs 46 = .ok (.ireturn, 1) := by decide +kernel
theorem dX12_pairs_47 : decode cX12_pairs 47 = .ok (.aload_n 0, 1) := by decide +kernel
theorem dX12_pairs_48 : decode cX12_pairs 48 = .ok (.aload_n 0, 1) := by decide +kernel
theorem dX12_pairs_49 : decode cX12_pairs 49 = .ok (.getfield 13, 3) := by decide +kernel
theorem dX12_pairs_52 : decode cX12_pairs 52 = .ok (.bipush 52, 2) := by decide +kernel
theorem dX12_pairs_54 : decode cX12_pairs 54 = .ok (.iaload, 1) := by decide +kernel
theorem dX12_pairs_55 : decode cX12_pairs 55 = .ok (.invokevirtual 340, 3) := by decide +kernel
theorem dX12_pairs_58 : decode cX12_pairs 58 = .ok (.aload_n 0, 1) := by decide +kernel
theorem dX12_pairs_59 : decode cX12_pairs 59 = .ok (.iload_n 1, 1) := by decide +kernel
theorem dX12_pairs_60 : decode cX12_pairs 60 = .ok (.invokevirtual 361, 3) := by decide +kernel
theorem dX12_pairs_63 : decode cX12_pairs 63 = .ok (.iload_n 2, 1) := by decide +kernel
theorem dX12_pairs_64 : decode cX12_pairs 64 = .ok (.ifCond .ne 10, 3) := by decide +kernel
theorem dX12_pairs_67 : decode cX12_pairs 67 = .ok (.aload_n 0, 1) := by decide +kernel
theorem dX12_pairs_68 : decode cX12_pairs 68 = .ok (.getfield 352, 3) := by decide +kernel
theorem dX12_pairs_71 : decode cX12_pairs 71 = .ok (.goto 24, 3) := by decide +kernel
theorem dX12_pairs_74 : decode cX12_pairs 74 = .ok (.iload_n 2, 1) := by decide +kernel
theorem dX12_pairs_75 : decode cX12_pairs 75 = .ok (.iconst 1, 1) := by decide +kernel
theorem dX12_pairs_76 : decode cX12_pairs 76 = .ok (.if_icmp .ne 10, 3) := by decide +kernel
theorem dX12_pairs_79 : decode cX12_pairs 79 = .ok (.aload_n 0, 1) := by decide +kernel
theorem dX12_pairs_80 : decode cX12_pairs 80 = .ok (.getfield 355, 3) := by decide +kernel
theorem dX12_pairs_83 : decode cX12_pairs 83 = .ok (.goto 12, 3) := by decide +kernel
theorem dX12_pairs_95 : decode cX12_pairs 95 = .ok (.ireturn, 1) := by decide +kernel
theorem dX12_passed_0 : decode cX12_passed 0 = .ok (.aload_n 0, 1) := by decide +kernel
theorem dX12_passed_1 : decode cX12_passed 1 = .ok (.iconst 0, 1) := by decide +kernel
theorem dX12_passed_2 : decode cX12_passed 2 = .ok (.putfield 1, 3) := by decide +kernel
theorem dX12_passed_5 : decode cX12_passed 5 = .ok (.iload_n 2, 1) := by decide +kernel
theorem dX12_passed_6 : decode cX12_passed 6 = .ok (.i2l, 1) := by decide +kernel
theorem dX12_passed_7 : decode cX12_passed 7 = .ok (.lconst 0, 1) := by decide +kernel
theorem dX12_passed_8 : decode cX12_passed 8 = .ok (.lconst 1, 1) := by decide +kernel
theorem dX12_passed_9 : decode cX12_passed 9 = .ok (.invokestatic 145, 3) := by decide +kernel
theorem dX12_passed_12 : decode cX12_passed 12 = .ok (.ifCond .ne 6, 3) := by decide +kernel
theorem dX12_passed_15 : decode cX12_passed 15 = .ok (.bipush (-2), 2) := by decide +kernel
theorem dX12_passed_17 : decode cX12_passed 17 = .ok (.ireturn, 1) := by decide +kernel
theorem dX12_passed_18 : decode cX12_passed 18 = .ok (.iload_n 1, 1) := by decide +kernel
theorem dX12_passed_19 : decode cX12_passed 19 = .ok (.invokestatic 393, 3) := by decide +kernel
theorem dX12_passed_22 : decode cX12_passed 22 = .ok (.ifCond .ne 6, 3) := by decide +kernel
theorem dX12_passed_25 : decode cX12_passed 25 = .ok (.bipush (-3), 2) := by decide +kernel
theorem dX12_passed_27 : decode cX12_passed 27 = .ok (.ireturn, 1) := by decide +kernel
theorem dX12_passed_28 : decode cX12_passed 28 = .ok (.aload_n 0, 1) := by decide +kernel
theorem dX12_passed_29 : decode cX12_passed 29 = .ok (.invokevirtual 346, 3) := by decide +kernel
theorem dX12_passed_32 : decode cX12_passed 32 = .ok (.aload_n 0, 1) := by decide +kernel
theorem dX12_passed_33 : decode cX12_passed 33 = .ok (.iload_n 1, 1) := by decide +kernel
theorem dX12_passed_34 : decode cX12_passed 34 = .ok (.invokevirtual 399, 3) := by decide +kernel
theorem dX12_passed_37 : decode cX12_passed 37 = .ok (.istore_n 3, 1) := by decide +kernel
theorem dX12_passed_38 : decode cX12_passed 38 = .ok (.iload_n 3, 1) := by decide +kernel
theorem dX12_passed_39 : decode cX12_passed 39 = .ok (.iconst (-1), 1) := by decide +kernel
theorem dX12_passed_40 : decode cX12_passed 40 = .ok (.if_icmp .eq 8, 3) := by decide +kernel
theorem dX12_passed_48 : decode cX12_passed 48 = .ok (.iload_n 3, 1) := by decide +kernel
theorem dX12_passed_49 : decode cX12_passed 49 = .ok (.goto 7, 3) := by decide +kernel
theorem dX12_passed_56 : decode cX12_passed 56 = .ok (.ireturn, 1) := by decide +kernel
theorem dX12_passedBy_0 : decode cX12_passedBy 0 = .ok (.aload_n 0, 1) := by decide +kernel
theorem dX12_passedBy_1 : decode cX12_passedBy 1 = .ok (.invokevirtual 255, 3) := by decide +kernel
theorem dX12_passedBy_4 : decode cX12_passedBy 4 = .ok (.istore_n 2, 1) := by decide +kernel
theorem dX12_passedBy_5 : decode cX12_passedBy 5 = .ok (.aload_n 0, 1) := by decide +kernel
theorem dX12_passedBy_6 : decode cX12_passedBy 6 = .ok (.iload_n 2, 1) := by decide +kernel
theorem dX12_passedBy_7 : decode cX12_passedBy 7 = .ok (.iload_n 1, 1) := by decide +kernel
theorem dX12_passedBy_8 : decode cX12_passedBy 8 = .ok (.invokevirtual 396, 3) := by decide +kernel
theorem dX12_passedBy_11 : decode cX12_passedBy 11 = .ok (.istore_n 3, 1) := by decide +kernel
theorem dX12_passedBy_12 : decode cX12_passedBy 12 = .ok (.iconst (-1), 1) := by decide +kernel
theorem dX12_passedBy_13 : decode cX12_passedBy 13 = .ok (.istore 4, 2) := by decide +kernel
theorem dX12_passedBy_15 : decode cX12_passedBy 15 = .ok (.iconst 0, 1) := by decide +kernel
theorem dX12_passedBy_16 : decode cX12_passedBy 16 = .ok (.istore 5, 2) := by decide +kernel
theorem dX12_passedBy_18 : decode cX12_passedBy 18 = .ok (.iload 5, 2) := by decide +kernel
theorem dX12_passedBy_20 : decode cX12_passedBy 20 = .ok (.iload_n 2, 1) := by decide +kernel
theorem dX12_passedBy_21 : decode cX12_passedBy 21 = .ok (.if_icmp .gt 79, 3) := by decide +kernel
theorem dX12_passedBy_24 : decode cX12_passedBy 24 = .ok (.iload_n 2, 1) := by decide +kernel
theorem dX12_passedBy_25 : decode cX12_passedBy 25 = .ok (.iload 5, 2) := by decide +kernel
theorem dX12_passedBy_27 : decode cX12_passedBy 27 = .ok (.iconst (-1), 1) := by decide +kernel
theorem dX12_passedBy_28 : decode cX12_passedBy 28 = .ok (.ixor, 1) := by decide +kernel
theorem dX12_passedBy_29 : decode cX12_passedBy 29 = .ok (.iand, 1) := by decide +kernel
theorem dX12_passedBy_30 : decode cX12_passedBy 30 = .ok (.istore 6, 2) := by decide +kernel
theorem dX12_passedBy_32 : decode cX12_passedBy 32 = .ok (.iload 5, 2) := by decide +kernel
theorem dX12_passedBy_34 : decode cX12_passedBy 34 = .ok (.iload_n 2, 1) := by decide +kernel
theorem dX12_passedBy_35 : decode cX12_passedBy 35 = .ok (.iconst (-1), 1) := by decide +kernel
theorem dX12_passedBy_36 : decode cX12_passedBy 36 = .ok (.ixor, 1) := by decide +kernel
theorem dX12_passedBy_37 : decode cX12_passedBy 37 = .ok (.iand, 1) := by decide +kernel
theorem dX12_passedBy_38 : decode cX12_passedBy 38 = .ok (.ifCond .ne 56, 3) := by decide +kernel
theorem dX12_passedBy_41 : decode cX12_passedBy 41 = .ok (.iload 4, 2) := by decide +kernel
theorem dX12_passedBy_43 : decode cX12_passedBy 43 = .ok (.iconst (-1), 1) := by decide +kernel
theorem dX12_passedBy_44 : decode cX12_passedBy 44 = .ok (.if_icmp .eq 19, 3) := by decide +kernel
theorem dX12_passedBy_63 : decode cX12_passedBy 63 = .ok (.aload_n 0, 1) := by decide +kernel
theorem dX12_passedBy_64 : decode cX12_passedBy 64 = .ok (.getfield 45, 3) := by decide +kernel
theorem dX12_passedBy_67 : decode cX12_passedBy 67 = .ok (.iload 6, 2) := by decide +kernel
theorem dX12_passedBy_69 : decode cX12_passedBy 69 = .ok (.iaload, 1) := by decide +kernel
theorem dX12_passedBy_70 : decode cX12_passedBy 70 = .ok (.ifCond .le 24, 3) := by decide +kernel
theorem dX12_passedBy_73 : decode cX12_passedBy 73 = .ok (.iconst 2, 1) := by decide +kernel
theorem dX12_passedBy_74 : decode cX12_passedBy 74 = .ok (.iload_n 3, 1) := by decide +kernel
theorem dX12_passedBy_75 : decode cX12_passedBy 75 = .ok (.iload 6, 2) := by decide +kernel
theorem dX12_passedBy_77 : decode cX12_passedBy 77 = .ok (.iand, 1) := by decide +kernel
theorem dX12_passedBy_78 : decode cX12_passedBy 78 = .ok (.invokestatic 281, 3) := by decide +kernel
theorem dX12_passedBy_81 : decode cX12_passedBy 81 = .ok (.imul, 1) := by decide +kernel
theorem dX12_passedBy_82 : decode cX12_passedBy 82 = .ok (.iload 6, 2) := by decide +kernel
theorem dX12_passedBy_84 : decode cX12_passedBy 84 = .ok (.invokestatic 281, 3) := by decide +kernel
theorem dX12_passedBy_87 : decode cX12_passedBy 87 = .ok (.if_icmp .le 7, 3) := by decide +kernel
theorem dX12_passedBy_94 : decode cX12_passedBy 94 = .ok (.iinc 5 1, 3) := by decide +kernel
theorem dX12_passedBy_97 : decode cX12_passedBy 97 = .ok (.goto (-79), 3) := by decide +kernel
theorem dX12_passedBy_100 : decode cX12_passedBy 100 = .ok (.iload 4, 2) := by decide +kernel
theorem dX12_passedBy_102 : decode cX12_passedBy 102 = .ok (.ireturn, 1) := by decide +kernel
theorem dX12_passes_0 : decode cX12_passes 0 = .ok (.aload_n 0, 1) := by decide +kernel
theorem dX12_passes_1 : decode cX12_passes 1 = .ok (.iconst 0, 1) := by decide +kernel
theorem dX12_passes_2 : decode cX12_passes 2 = .ok (.putfield 1, 3) := by decide +kernel
theorem dX12_passes_5 : decode cX12_passes 5 = .ok (.iload_n 1, 1) := by decide +kernel
theorem dX12_passes_6 : decode cX12_passes 6 = .ok (.invokestatic 393, 3) := by decide +kernel
theorem dX12_passes_9 : decode cX12_passes 9 = .ok (.ifCond .ne 6, 3) := by decide +kernel
theorem dX12_passes_12 : decode cX12_passes 12 = .ok (.bipush (-3), 2) := by decide +kernel
theorem dX12_passes_14 : decode cX12_passes 14 = .ok (.ireturn, 1) := by decide +kernel
theorem dX12_passes_15 : decode cX12_passes 15 = .ok (.aload_n 0, 1) := by decide +kernel
theorem dX12_passes_16 : decode cX12_passes 16 = .ok (.invokevirtual 346, 3) := by decide +kernel
theorem dX12_passes_19 : decode cX12_passes 19 = .ok (.aload_n 0, 1) := by decide +kernel
theorem dX12_passes_20 : decode cX12_passes 20 = .ok (.iload_n 1, 1) := by decide +kernel
theorem dX12_passes_21 : decode cX12_passes 21 = .ok (.invokevirtual 399, 3) := by decide +kernel
theorem dX12_passes_24 : decode cX12_passes 24 = .ok (.ifCond .ne 7, 3) := by decide +kernel
theorem dX12_passes_31 : decode cX12_passes 31 = .ok (.iconst 0, 1) := by decide +kernel
theorem dX12_passes_32 : decode cX12_passes 32 = .ok (.ireturn, 1) := by decide +kernel
theorem dX12_perform_0 : decode cX12_perform 0 = .ok (.aload_n 0, 1) := by decide +kernel
theorem dX12_perform_1 : decode cX12_perform 1 = .ok (.iconst 0, 1) := by decide +kernel
theorem dX12_perform_2 : decode cX12_perform 2 = .ok (.putfield 1, 3) := by decide +kernel
theorem dX12_perform_5 : decode cX12_perform 5 = .ok (.aload_n 0, 1) := by decide +kernel
theorem dX12_perform_6 : decode cX12_perform 6 = .ok (.iload_n 1, 1) := by decide +kernel
theorem dX12_perform_7 : decode cX12_perform 7 = .ok (.invokevirtual 313, 3) := by decide +kernel
theorem dX12_perform_10 : decode cX12_perform 10 = .ok (.istore_n 2, 1) := by decide +kernel
theorem dX12_perform_11 : decode cX12_perform 11 = .ok (.iload_n 2, 1) := by decide +kernel
theorem dX12_perform_12 : decode cX12_perform 12 = .ok (.ifCond .eq 5, 3) := by decide +kernel
theorem dX12_perform_15 : decode cX12_perform 15 = .ok (.iload_n 2, 1) := by decide +kernel
theorem dX12_perform_16 : decode cX12_perform 16 = .ok (.ireturn, 1) := by decide +kernel
theorem dX12_person_0 : decode cX12_person 0 = .ok (.aload_n 0, 1) := by decide +kernel
theorem dX12_person_1 : decode cX12_person 1 = .ok (.iconst 0, 1) := by decide +kernel
theorem dX12_person_2 : decode cX12_person 2 = .ok (.putfield 1, 3) := by decide +kernel
theorem dX12_person_5 : decode cX12_person 5 = .ok (.aload_n 0, 1) := by decide +kernel
theorem dX12_person_6 : decode cX12_person 6 = .ok (.iload_n 1, 1) := by decide +kernel
theorem dX12_person_7 : decode cX12_person 7 = .ok (.i2l, 1) := by decide +kernel
theorem dX12_person_8 : decode cX12_person 8 = .ok (.invokevirtual 245, 3) := by decide +kernel
theorem dX12_person_11 : decode cX12_person 11 = .ok (.ifCond .ne 6, 3) := by decide +kernel
theorem dX12_person_14 : decode cX12_person 14 = .ok (.bipush (-2), 2) := by decide +kernel
theorem dX12_person_16 : decode cX12_person 16 = .ok (.ireturn, 1) := by decide +kernel
theorem dX12_pieces_0 : decode cX12_pieces 0 = .ok (.aload_n 0, 1) := by decide +kernel
theorem dX12_pieces_1 : decode cX12_pieces 1 = .ok (.iconst 0, 1) := by decide +kernel
theorem dX12_pieces_2 : decode cX12_pieces 2 = .ok (.putfield 1, 3) := by decide +kernel
theorem dX12_pieces_5 : decode cX12_pieces 5 = .ok (.aload_n 0, 1) := by decide +kernel
theorem dX12_pieces_6 : decode cX12_pieces 6 = .ok (.iload_n 1, 1) := by decide +kernel
theorem dX12_pieces_7 : decode cX12_pieces 7 = .ok (.invokevirtual 349, 3) := by decide +kernel
theorem dX12_pieces_10 : decode cX12_pieces 10 = .ok (.ifCond .ne 6, 3) := by decide +kernel
theorem dX12_pieces_13 : decode cX12_pieces 13 = .ok (.bipush (-3), 2) := by decide +kernel
theorem dX12_pieces_15 : decode cX12_pieces 15 = .ok (.ireturn, 1) := by decide +kernel
theorem dX12_pieces_16 : decode cX12_pieces 16 = .ok (.aload_n 0, 1) := by decide +kernel
theorem dX12_pieces_17 : decode cX12_pieces 17 = .ok (.aload_n 0, 1) := by decide +kernel
theorem dX12_pieces_18 : decode cX12_pieces 18 = .ok (.getfield 13, 3) := by decide +kernel
theorem dX12_pieces_21 : decode cX12_pieces 21 = .ok (.bipush 52, 2) := by decide +kernel
theorem dX12_pieces_23 : decode cX12_pieces 23 = .ok (.iaload, 1) := by decide +kernel
theorem dX12_pieces_24 : decode cX12_pieces 24 = .ok (.invokevirtual 340, 3) := by decide +kernel
theorem dX12_pieces_27 : decode cX12_pieces 27 = .ok (.aload_n 0, 1) := by decide +kernel
theorem dX12_pieces_28 : decode cX12_pieces 28 = .ok (.iload_n 1, 1) := by decide +kernel
theorem dX12_pieces_29 : decode cX12_pieces 29 = .ok (.iconst 0, 1) := by decide +kernel
theorem dX12_pieces_30 : decode cX12_pieces 30 = .ok (.invokevirtual 367, 3) := by decide +kernel
theorem dX12_pieces_33 : decode cX12_pieces 33 = .ok (.ireturn, 1) := by decide +kernel
theorem dX12_piecesOf_0 : decode cX12_piecesOf 0 = .ok (.iconst 0, 1) := by decide +kernel
theorem dX12_piecesOf_1 : decode cX12_piecesOf 1 = .ok (.istore_n 3, 1) := by decide +kernel
theorem dX12_piecesOf_2 : decode cX12_piecesOf 2 = .ok (.iload_n 1, 1) := by decide +kernel
theorem dX12_piecesOf_3 : decode cX12_piecesOf 3 = .ok (.istore 4, 2) := by decide +kernel
theorem dX12_piecesOf_5 : decode cX12_piecesOf 5 = .ok (.iload 4, 2) := by decide +kernel
theorem dX12_piecesOf_7 : decode cX12_piecesOf 7 = .ok (.ifCond .eq 45, 3) := by decide +kernel
theorem dX12_piecesOf_52 : decode cX12_piecesOf 52 = .ok (.iload_n 3, 1) := by decide +kernel
theorem dX12_piecesOf_53 : decode cX12_piecesOf 53 = .ok (.ireturn, 1) := by decide +kernel
theorem dX12_plain_0 : decode cX12_plain 0 = .ok (.iconst 0, 1) := by decide +kernel
theorem dX12_plain_1 : decode cX12_plain 1 = .ok (.istore_n 1, 1) := by decide +kernel
theorem dX12_plain_2 : decode cX12_plain 2 = .ok (.iload_n 1, 1) := by decide +kernel
theorem dX12_plain_3 : decode cX12_plain 3 = .ok (.sipush 1306, 3) := by decide +kernel
theorem dX12_plain_6 : decode cX12_plain 6 = .ok (.if_icmp .ge 13, 3) := by decide +kernel
theorem dX12_plain_9 : decode cX12_plain 9 = .ok (.aload_n 0, 1) := by decide +kernel
theorem dX12_plain_10 : decode cX12_plain 10 = .ok (.iload_n 1, 1) := by decide +kernel
theorem dX12_plain_11 : decode cX12_plain 11 = .ok (.iconst 0, 1) := by decide +kernel
theorem dX12_plain_12 : decode cX12_plain 12 = .ok (.iastore, 1) := by decide +kernel
theorem dX12_plain_13 : decode cX12_plain 13 = .ok (.iinc 1 1, 3) := by decide +kernel
theorem dX12_plain_16 : decode cX12_plain 16 = .ok (.goto (-14), 3) := by decide +kernel
theorem dX12_plain_19 : decode cX12_plain 19 = .ok (.aload_n 0, 1) := by decide +kernel
theorem dX12_plain_20 : decode cX12_plain 20 = .ok (.iconst 1, 1) := by decide +kernel
theorem dX12_plain_21 : decode cX12_plain 21 = .ok (.iconst 1, 1) := by decide +kernel
theorem dX12_plain_22 : decode cX12_plain 22 = .ok (.iastore, 1) := by decide +kernel
theorem dX12_plain_23 : decode cX12_plain 23 = .ok (.return_, 1) := by decide +kernel
theorem dX12_probe_0 : decode cX12_probe 0 = .ok (.aload_n 0, 1) := by decide +kernel
theorem dX12_probe_1 : decode cX12_probe 1 = .ok (.iconst 0, 1) := by decide +kernel
theorem dX12_probe_2 : decode cX12_probe 2 = .ok (.putfield 1, 3) := by decide +kernel
theorem dX12_probe_5 : decode cX12_probe 5 = .ok (.aload_n 0, 1) := by decide +kernel
theorem dX12_probe_6 : decode cX12_probe 6 = .ok (.iload_n 1, 1) := by decide +kernel
theorem dX12_probe_7 : decode cX12_probe 7 = .ok (.iload_n 2, 1) := by decide +kernel
theorem dX12_probe_8 : decode cX12_probe 8 = .ok (.invokevirtual 408, 3) := by decide +kernel
theorem dX12_probe_11 : decode cX12_probe 11 = .ok (.istore_n 3, 1) := by decide +kernel
theorem dX12_probe_12 : decode cX12_probe 12 = .ok (.iload_n 3, 1) := by decide +kernel
theorem dX12_probe_13 : decode cX12_probe 13 = .ok (.ifCond .eq 5, 3) := by decide +kernel
theorem dX12_probe_16 : decode cX12_probe 16 = .ok (.iload_n 3, 1) := by decide +kernel
theorem dX12_probe_17 : decode cX12_probe 17 = .ok (.ireturn, 1) := by decide +kernel
theorem dX12_quorum_0 : decode cX12_quorum 0 = .ok (.aload_n 0, 1) := by decide +kernel
theorem dX12_quorum_1 : decode cX12_quorum 1 = .ok (.iconst 0, 1) := by decide +kernel
theorem dX12_quorum_2 : decode cX12_quorum 2 = .ok (.putfield 1, 3) := by decide +kernel
theorem dX12_quorum_5 : decode cX12_quorum 5 = .ok (.aload_n 0, 1) := by decide +kernel
theorem dX12_quorum_6 : decode cX12_quorum 6 = .ok (.invokevirtual 346, 3) := by decide +kernel
theorem dX12_quorum_9 : decode cX12_quorum 9 = .ok (.aload_n 0, 1) := by decide +kernel
theorem dX12_quorum_10 : decode cX12_quorum 10 = .ok (.invokevirtual 255, 3) := by decide +kernel
theorem dX12_quorum_13 : decode cX12_quorum 13 = .ok (.istore_n 1, 1) := by decide +kernel
theorem dX12_quorum_14 : decode cX12_quorum 14 = .ok (.iconst 0, 1) := by decide +kernel
theorem dX12_quorum_15 : decode cX12_quorum 15 = .ok (.istore_n 2, 1) := by decide +kernel
theorem dX12_quorum_16 : decode cX12_quorum 16 = .ok (.iconst 0, 1) := by decide +kernel
theorem dX12_quorum_17 : decode cX12_quorum 17 = .ok (.istore_n 3, 1) := by decide +kernel
theorem dX12_quorum_18 : decode cX12_quorum 18 = .ok (.iload_n 3, 1) := by decide +kernel
theorem dX12_quorum_19 : decode cX12_quorum 19 = .ok (.iload_n 1, 1) := by decide +kernel
theorem dX12_quorum_20 : decode cX12_quorum 20 = .ok (.if_icmp .gt 39, 3) := by decide +kernel
theorem dX12_quorum_23 : decode cX12_quorum 23 = .ok (.iload_n 3, 1) := by decide +kernel
theorem dX12_quorum_24 : decode cX12_quorum 24 = .ok (.iload_n 1, 1) := by decide +kernel
theorem dX12_quorum_25 : decode cX12_quorum 25 = .ok (.iconst (-1), 1) := by decide +kernel
theorem dX12_quorum_26 : decode cX12_quorum 26 = .ok (.ixor, 1) := by decide +kernel
theorem dX12_quorum_27 : decode cX12_quorum 27 = .ok (.iand, 1) := by decide +kernel
theorem dX12_quorum_28 : decode cX12_quorum 28 = .ok (.ifCond .ne 25, 3) := by decide +kernel
theorem dX12_quorum_31 : decode cX12_quorum 31 = .ok (.aload_n 0, 1) := by decide +kernel
theorem dX12_quorum_32 : decode cX12_quorum 32 = .ok (.getfield 45, 3) := by decide +kernel
theorem dX12_quorum_35 : decode cX12_quorum 35 = .ok (.iload_n 3, 1) := by decide +kernel
theorem dX12_quorum_36 : decode cX12_quorum 36 = .ok (.iaload, 1) := by decide +kernel
theorem dX12_quorum_37 : decode cX12_quorum 37 = .ok (.ifCond .le 16, 3) := by decide +kernel
theorem dX12_quorum_40 : decode cX12_quorum 40 = .ok (.iload_n 3, 1) := by decide +kernel
theorem dX12_quorum_41 : decode cX12_quorum 41 = .ok (.invokestatic 281, 3) := by decide +kernel
theorem dX12_quorum_44 : decode cX12_quorum 44 = .ok (.iload_n 2, 1) := by decide +kernel
theorem dX12_quorum_45 : decode cX12_quorum 45 = .ok (.invokestatic 281, 3) := by decide +kernel
theorem dX12_quorum_48 : decode cX12_quorum 48 = .ok (.if_icmp .le 5, 3) := by decide +kernel
theorem dX12_quorum_53 : decode cX12_quorum 53 = .ok (.iinc 3 1, 3) := by decide +kernel
theorem dX12_quorum_56 : decode cX12_quorum 56 = .ok (.goto (-38), 3) := by decide +kernel
theorem dX12_quorum_59 : decode cX12_quorum 59 = .ok (.iload_n 2, 1) := by decide +kernel
theorem dX12_quorum_60 : decode cX12_quorum 60 = .ok (.ireturn, 1) := by decide +kernel
theorem dX12_reserve_0 : decode cX12_reserve 0 = .ok (.aload_n 0, 1) := by decide +kernel
theorem dX12_reserve_1 : decode cX12_reserve 1 = .ok (.iconst 0, 1) := by decide +kernel
theorem dX12_reserve_2 : decode cX12_reserve 2 = .ok (.putfield 1, 3) := by decide +kernel
theorem dX12_reserve_5 : decode cX12_reserve 5 = .ok (.aload_n 0, 1) := by decide +kernel
theorem dX12_reserve_6 : decode cX12_reserve 6 = .ok (.iload_n 1, 1) := by decide +kernel
theorem dX12_reserve_7 : decode cX12_reserve 7 = .ok (.invokevirtual 349, 3) := by decide +kernel
theorem dX12_reserve_10 : decode cX12_reserve 10 = .ok (.ifCond .ne 6, 3) := by decide +kernel
theorem dX12_reserve_13 : decode cX12_reserve 13 = .ok (.bipush (-3), 2) := by decide +kernel
theorem dX12_reserve_15 : decode cX12_reserve 15 = .ok (.ireturn, 1) := by decide +kernel
theorem dX12_reserve_16 : decode cX12_reserve 16 = .ok (.aload_n 0, 1) := by decide +kernel
theorem dX12_reserve_17 : decode cX12_reserve 17 = .ok (.invokevirtual 346, 3) := by decide +kernel
theorem dX12_reserve_20 : decode cX12_reserve 20 = .ok (.aload_n 0, 1) := by decide +kernel
theorem dX12_reserve_21 : decode cX12_reserve 21 = .ok (.invokevirtual 255, 3) := by decide +kernel
theorem dX12_reserve_24 : decode cX12_reserve 24 = .ok (.iload_n 1, 1) := by decide +kernel
theorem dX12_reserve_25 : decode cX12_reserve 25 = .ok (.iconst (-1), 1) := by decide +kernel
theorem dX12_reserve_26 : decode cX12_reserve 26 = .ok (.ixor, 1) := by decide +kernel
theorem dX12_reserve_27 : decode cX12_reserve 27 = .ok (.iand, 1) := by decide +kernel
theorem dX12_reserve_28 : decode cX12_reserve 28 = .ok (.istore_n 2, 1) := by decide +kernel
theorem dX12_reserve_29 : decode cX12_reserve 29 = .ok (.iconst (-1), 1) := by decide +kernel
theorem dX12_reserve_30 : decode cX12_reserve 30 = .ok (.istore_n 3, 1) := by decide +kernel
theorem dX12_reserve_31 : decode cX12_reserve 31 = .ok (.ldc2_w 289, 3) := by decide +kernel
theorem dX12_reserve_34 : decode cX12_reserve 34 = .ok (.aload_n 0, 1) := by decide +kernel
theorem dX12_reserve_35 : decode cX12_reserve 35 = .ok (.iload_n 1, 1) := by decide +kernel
theorem dX12_reserve_36 : decode cX12_reserve 36 = .ok (.invokevirtual 422, 3) := by decide +kernel
theorem dX12_reserve_39 : decode cX12_reserve 39 = .ok (.lmul, 1) := by decide +kernel
theorem dX12_reserve_40 : decode cX12_reserve 40 = .ok (.lstore 4, 2) := by decide +kernel
theorem dX12_reserve_42 : decode cX12_reserve 42 = .ok (.iconst 0, 1) := by decide +kernel
theorem dX12_reserve_43 : decode cX12_reserve 43 = .ok (.istore 6, 2) := by decide +kernel
theorem dX12_reserve_45 : decode cX12_reserve 45 = .ok (.iload 6, 2) := by decide +kernel
theorem dX12_reserve_47 : decode cX12_reserve 47 = .ok (.aload_n 0, 1) := by decide +kernel
theorem dX12_reserve_48 : decode cX12_reserve 48 = .ok (.getfield 13, 3) := by decide +kernel
theorem dX12_reserve_51 : decode cX12_reserve 51 = .ok (.iconst 2, 1) := by decide +kernel
theorem dX12_reserve_52 : decode cX12_reserve 52 = .ok (.iaload, 1) := by decide +kernel
theorem dX12_reserve_53 : decode cX12_reserve 53 = .ok (.if_icmp .ge 55, 3) := by decide +kernel
theorem dX12_reserve_108 : decode cX12_reserve 108 = .ok (.iload_n 3, 1) := by decide +kernel
theorem dX12_reserve_109 : decode cX12_reserve 109 = .ok (.ireturn, 1) := by decide +kernel
theorem dX12_restore_0 : decode cX12_restore 0 = .ok (.aload_n 0, 1) := by decide +kernel
theorem dX12_restore_1 : decode cX12_restore 1 = .ok (.iconst 0, 1) := by decide +kernel
theorem dX12_restore_2 : decode cX12_restore 2 = .ok (.putfield 1, 3) := by decide +kernel
theorem dX12_restore_5 : decode cX12_restore 5 = .ok (.iload_n 1, 1) := by decide +kernel
theorem dX12_restore_6 : decode cX12_restore 6 = .ok (.i2l, 1) := by decide +kernel
theorem dX12_restore_7 : decode cX12_restore 7 = .ok (.lconst 0, 1) := by decide +kernel
theorem dX12_restore_8 : decode cX12_restore 8 = .ok (.lconst 1, 1) := by decide +kernel
theorem dX12_restore_9 : decode cX12_restore 9 = .ok (.invokestatic 145, 3) := by decide +kernel
theorem dX12_restore_12 : decode cX12_restore 12 = .ok (.ifCond .ne 6, 3) := by decide +kernel
theorem dX12_restore_15 : decode cX12_restore 15 = .ok (.bipush (-2), 2) := by decide +kernel
theorem dX12_restore_17 : decode cX12_restore 17 = .ok (.ireturn, 1) := by decide +kernel
theorem dX12_restore_18 : decode cX12_restore 18 = .ok (.aload_n 0, 1) := by decide +kernel
theorem dX12_restore_19 : decode cX12_restore 19 = .ok (.getfield 17, 3) := by decide +kernel
theorem dX12_restore_22 : decode cX12_restore 22 = .ok (.iload_n 1, 1) := by decide +kernel
theorem dX12_restore_23 : decode cX12_restore 23 = .ok (.baload, 1) := by decide +kernel
theorem dX12_restore_24 : decode cX12_restore 24 = .ok (.ifCond .ne 6, 3) := by decide +kernel
theorem dX12_restore_27 : decode cX12_restore 27 = .ok (.bipush (-5), 2) := by decide +kernel
theorem dX12_restore_29 : decode cX12_restore 29 = .ok (.ireturn, 1) := by decide +kernel
theorem dX12_see_0 : decode cX12_see 0 = .ok (.iload_n 1, 1) := by decide +kernel
theorem dX12_see_1 : decode cX12_see 1 = .ok (.aload_n 0, 1) := by decide +kernel
theorem dX12_see_2 : decode cX12_see 2 = .ok (.getfield 86, 3) := by decide +kernel
theorem dX12_see_5 : decode cX12_see 5 = .ok (.if_icmp .ge 12, 3) := by decide +kernel
theorem dX12_see_17 : decode cX12_see 17 = .ok (.iconst (-1), 1) := by decide +kernel
theorem dX12_see_18 : decode cX12_see 18 = .ok (.ireturn, 1) := by decide +kernel
theorem dX12_send_0 : decode cX12_send 0 = .ok (.aload_n 0, 1) := by decide +kernel
theorem dX12_send_1 : decode cX12_send 1 = .ok (.iconst 0, 1) := by decide +kernel
theorem dX12_send_2 : decode cX12_send 2 = .ok (.putfield 1, 3) := by decide +kernel
theorem dX12_send_5 : decode cX12_send 5 = .ok (.aload_n 0, 1) := by decide +kernel
theorem dX12_send_6 : decode cX12_send 6 = .ok (.iload_n 1, 1) := by decide +kernel
theorem dX12_send_7 : decode cX12_send 7 = .ok (.iconst 1, 1) := by decide +kernel
theorem dX12_send_8 : decode cX12_send 8 = .ok (.invokevirtual 284, 3) := by decide +kernel
theorem dX12_send_11 : decode cX12_send 11 = .ok (.ireturn, 1) := by decide +kernel
theorem dX12_sits_0 : decode cX12_sits 0 = .ok (.aload_n 0, 1) := by decide +kernel
theorem dX12_sits_1 : decode cX12_sits 1 = .ok (.iconst 0, 1) := by decide +kernel
theorem dX12_sits_2 : decode cX12_sits 2 = .ok (.putfield 1, 3) := by decide +kernel
theorem dX12_sits_5 : decode cX12_sits 5 = .ok (.aload_n 0, 1) := by decide +kernel
theorem dX12_sits_6 : decode cX12_sits 6 = .ok (.iload_n 1, 1) := by decide +kernel
theorem dX12_sits_7 : decode cX12_sits 7 = .ok (.invokevirtual 349, 3) := by decide +kernel
theorem dX12_sits_10 : decode cX12_sits 10 = .ok (.ifCond .ne 8, 3) := by decide +kernel
theorem dX12_sits_13 : decode cX12_sits 13 = .ok (.bipush (-3), 2) := by decide +kernel
theorem dX12_sits_15 : decode cX12_sits 15 = .ok (.goto 16, 3) := by decide +kernel
theorem dX12_sits_18 : decode cX12_sits 18 = .ok (.aload_n 0, 1) := by decide +kernel
theorem dX12_sits_19 : decode cX12_sits 19 = .ok (.iload_n 1, 1) := by decide +kernel
theorem dX12_sits_20 : decode cX12_sits 20 = .ok (.invokevirtual 319, 3) := by decide +kernel
theorem dX12_sits_23 : decode cX12_sits 23 = .ok (.ifCond .eq 7, 3) := by decide +kernel
theorem dX12_sits_26 : decode cX12_sits 26 = .ok (.iconst 1, 1) := by decide +kernel
theorem dX12_sits_27 : decode cX12_sits 27 = .ok (.goto 4, 3) := by decide +kernel
theorem dX12_sits_31 : decode cX12_sits 31 = .ok (.ireturn, 1) := by decide +kernel
theorem dX12_sitsNow_0 : decode cX12_sitsNow 0 = .ok (.aload_n 0, 1) := by decide +kernel
theorem dX12_sitsNow_1 : decode cX12_sitsNow 1 = .ok (.invokevirtual 346, 3) := by decide +kernel
theorem dX12_sitsNow_4 : decode cX12_sitsNow 4 = .ok (.aload_n 0, 1) := by decide +kernel
theorem dX12_sitsNow_5 : decode cX12_sitsNow 5 = .ok (.getfield 45, 3) := by decide +kernel
theorem dX12_sitsNow_8 : decode cX12_sitsNow 8 = .ok (.iload_n 1, 1) := by decide +kernel
theorem dX12_sitsNow_9 : decode cX12_sitsNow 9 = .ok (.iaload, 1) := by decide +kernel
theorem dX12_sitsNow_10 : decode cX12_sitsNow 10 = .ok (.ifCond .le 7, 3) := by decide +kernel
theorem dX12_sitsNow_13 : decode cX12_sitsNow 13 = .ok (.iconst 1, 1) := by decide +kernel
theorem dX12_sitsNow_14 : decode cX12_sitsNow 14 = .ok (.goto 4, 3) := by decide +kernel
theorem dX12_sitsNow_18 : decode cX12_sitsNow 18 = .ok (.ireturn, 1) := by decide +kernel
theorem dX12_takes_0 : decode cX12_takes 0 = .ok (.aload_n 0, 1) := by decide +kernel
theorem dX12_takes_1 : decode cX12_takes 1 = .ok (.bipush 25, 2) := by decide +kernel
theorem dX12_takes_3 : decode cX12_takes 3 = .ok (.invokevirtual 135, 3) := by decide +kernel
theorem dX12_takes_6 : decode cX12_takes 6 = .ok (.ifCond .ne 11, 3) := by decide +kernel
theorem dX12_takes_9 : decode cX12_takes 9 = .ok (.aload_n 0, 1) := by decide +kernel
theorem dX12_takes_10 : decode cX12_takes 10 = .ok (.iconst 2, 1) := by decide +kernel
theorem dX12_takes_11 : decode cX12_takes 11 = .ok (.invokevirtual 141, 3) := by decide +kernel
theorem dX12_takes_14 : decode cX12_takes 14 = .ok (.goto 23, 3) := by decide +kernel
theorem dX12_takes_37 : decode cX12_takes 37 = .ok (.aload_n 0, 1) := by decide +kernel
theorem dX12_takes_38 : decode cX12_takes 38 = .ok (.getfield 124, 3) := by decide +kernel
theorem dX12_takes_41 : decode cX12_takes 41 = .ok (.istore_n 3, 1) := by decide +kernel
theorem dX12_takes_42 : decode cX12_takes 42 = .ok (.aload_n 0, 1) := by decide +kernel
theorem dX12_takes_43 : decode cX12_takes 43 = .ok (.getfield 129, 3) := by decide +kernel
theorem dX12_takes_46 : decode cX12_takes 46 = .ok (.ifCond .ne 7, 3) := by decide +kernel
theorem dX12_takes_53 : decode cX12_takes 53 = .ok (.iload_n 3, 1) := by decide +kernel
theorem dX12_takes_54 : decode cX12_takes 54 = .ok (.ireturn, 1) := by decide +kernel
theorem dX12_talk_0 : decode cX12_talk 0 = .ok (.aload_n 0, 1) := by decide +kernel
theorem dX12_talk_1 : decode cX12_talk 1 = .ok (.iconst 0, 1) := by decide +kernel
theorem dX12_talk_2 : decode cX12_talk 2 = .ok (.putfield 1, 3) := by decide +kernel
theorem dX12_talk_5 : decode cX12_talk 5 = .ok (.aload_n 0, 1) := by decide +kernel
theorem dX12_talk_6 : decode cX12_talk 6 = .ok (.iload_n 1, 1) := by decide +kernel
theorem dX12_talk_7 : decode cX12_talk 7 = .ok (.i2l, 1) := by decide +kernel
theorem dX12_talk_8 : decode cX12_talk 8 = .ok (.iload_n 2, 1) := by decide +kernel
theorem dX12_talk_9 : decode cX12_talk 9 = .ok (.i2l, 1) := by decide +kernel
theorem dX12_talk_10 : decode cX12_talk 10 = .ok (.invokevirtual 263, 3) := by decide +kernel
theorem dX12_talk_13 : decode cX12_talk 13 = .ok (.istore_n 3, 1) := by decide +kernel
theorem dX12_talk_14 : decode cX12_talk 14 = .ok (.iload_n 3, 1) := by decide +kernel
theorem dX12_talk_15 : decode cX12_talk 15 = .ok (.ifCond .eq 8, 3) := by decide +kernel
theorem dX12_talk_18 : decode cX12_talk 18 = .ok (.bipush (-10), 2) := by decide +kernel
theorem dX12_talk_20 : decode cX12_talk 20 = .ok (.iload_n 3, 1) := by decide +kernel
theorem dX12_talk_21 : decode cX12_talk 21 = .ok (.isub, 1) := by decide +kernel
theorem dX12_talk_22 : decode cX12_talk 22 = .ok (.ireturn, 1) := by decide +kernel
theorem dX12_talkBy_0 : decode cX12_talkBy 0 = .ok (.aload_n 0, 1) := by decide +kernel
theorem dX12_talkBy_1 : decode cX12_talkBy 1 = .ok (.iconst 0, 1) := by decide +kernel
theorem dX12_talkBy_2 : decode cX12_talkBy 2 = .ok (.putfield 1, 3) := by decide +kernel
theorem dX12_talkBy_5 : decode cX12_talkBy 5 = .ok (.aload_n 0, 1) := by decide +kernel
theorem dX12_talkBy_6 : decode cX12_talkBy 6 = .ok (.iload_n 1, 1) := by decide +kernel
theorem dX12_talkBy_7 : decode cX12_talkBy 7 = .ok (.iload_n 2, 1) := by decide +kernel
theorem dX12_talkBy_8 : decode cX12_talkBy 8 = .ok (.invokevirtual 384, 3) := by decide +kernel
theorem dX12_talkBy_11 : decode cX12_talkBy 11 = .ok (.ifCond .ne 6, 3) := by decide +kernel
theorem dX12_talkBy_14 : decode cX12_talkBy 14 = .ok (.bipush (-2), 2) := by decide +kernel
theorem dX12_talkBy_16 : decode cX12_talkBy 16 = .ok (.ireturn, 1) := by decide +kernel
theorem dX12_talks_0 : decode cX12_talks 0 = .ok (.aload_n 0, 1) := by decide +kernel
theorem dX12_talks_1 : decode cX12_talks 1 = .ok (.iconst 0, 1) := by decide +kernel
theorem dX12_talks_2 : decode cX12_talks 2 = .ok (.putfield 1, 3) := by decide +kernel
theorem dX12_talks_5 : decode cX12_talks 5 = .ok (.aload_n 0, 1) := by decide +kernel
theorem dX12_talks_6 : decode cX12_talks 6 = .ok (.iload_n 1, 1) := by decide +kernel
theorem dX12_talks_7 : decode cX12_talks 7 = .ok (.iload_n 2, 1) := by decide +kernel
theorem dX12_talks_8 : decode cX12_talks 8 = .ok (.invokevirtual 384, 3) := by decide +kernel
theorem dX12_talks_11 : decode cX12_talks 11 = .ok (.ifCond .eq 12, 3) := by decide +kernel
theorem dX12_talks_23 : decode cX12_talks 23 = .ok (.bipush (-2), 2) := by decide +kernel
theorem dX12_talks_25 : decode cX12_talks 25 = .ok (.ireturn, 1) := by decide +kernel
theorem dX12_tens_0 : decode cX12_tens 0 = .ok (.lconst 1, 1) := by decide +kernel
theorem dX12_tens_1 : decode cX12_tens 1 = .ok (.lstore_n 1, 1) := by decide +kernel
theorem dX12_tens_2 : decode cX12_tens 2 = .ok (.iconst 0, 1) := by decide +kernel
theorem dX12_tens_3 : decode cX12_tens 3 = .ok (.istore_n 3, 1) := by decide +kernel
theorem dX12_tens_4 : decode cX12_tens 4 = .ok (.iload_n 3, 1) := by decide +kernel
theorem dX12_tens_5 : decode cX12_tens 5 = .ok (.iload_n 0, 1) := by decide +kernel
theorem dX12_tens_6 : decode cX12_tens 6 = .ok (.if_icmp .ge 15, 3) := by decide +kernel
theorem dX12_tens_21 : decode cX12_tens 21 = .ok (.lload_n 1, 1) := by decide +kernel
theorem dX12_tens_22 : decode cX12_tens 22 = .ok (.lreturn, 1) := by decide +kernel
theorem dX12_town_0 : decode cX12_town 0 = .ok (.aload_n 0, 1) := by decide +kernel
theorem dX12_town_1 : decode cX12_town 1 = .ok (.iconst 0, 1) := by decide +kernel
theorem dX12_town_2 : decode cX12_town 2 = .ok (.putfield 1, 3) := by decide +kernel
theorem dX12_town_5 : decode cX12_town 5 = .ok (.iload_n 1, 1) := by decide +kernel
theorem dX12_town_6 : decode cX12_town 6 = .ok (.i2l, 1) := by decide +kernel
theorem dX12_town_7 : decode cX12_town 7 = .ok (.lconst 0, 1) := by decide +kernel
theorem dX12_town_8 : decode cX12_town 8 = .ok (.ldc2_w 258, 3) := by decide +kernel
theorem dX12_town_11 : decode cX12_town 11 = .ok (.invokestatic 145, 3) := by decide +kernel
theorem dX12_town_14 : decode cX12_town 14 = .ok (.ifCond .eq 19, 3) := by decide +kernel
theorem dX12_town_17 : decode cX12_town 17 = .ok (.aload_n 0, 1) := by decide +kernel
theorem dX12_town_18 : decode cX12_town 18 = .ok (.aload_n 0, 1) := by decide +kernel
theorem dX12_town_19 : decode cX12_town 19 = .ok (.getfield 13, 3) := by decide +kernel
theorem dX12_town_22 : decode cX12_town 22 = .ok (.bipush 52, 2) := by decide +kernel
theorem dX12_town_24 : decode cX12_town 24 = .ok (.iaload, 1) := by decide +kernel
theorem dX12_town_25 : decode cX12_town 25 = .ok (.iload_n 1, 1) := by decide +kernel
theorem dX12_town_26 : decode cX12_town 26 = .ok (.iadd, 1) := by decide +kernel
theorem dX12_town_27 : decode cX12_town 27 = .ok (.invokevirtual 220, 3) := by decide +kernel
theorem dX12_town_30 : decode cX12_town 30 = .ok (.goto 5, 3) := by decide +kernel
theorem dX12_town_33 : decode cX12_town 33 = .ok (.bipush (-3), 2) := by decide +kernel
theorem dX12_town_35 : decode cX12_town 35 = .ok (.ireturn, 1) := by decide +kernel
theorem dX12_townNow_0 : decode cX12_townNow 0 = .ok (.aload_n 0, 1) := by decide +kernel
theorem dX12_townNow_1 : decode cX12_townNow 1 = .ok (.aload_n 0, 1) := by decide +kernel
theorem dX12_townNow_2 : decode cX12_townNow 2 = .ok (.getfield 13, 3) := by decide +kernel
theorem dX12_townNow_5 : decode cX12_townNow 5 = .ok (.bipush 52, 2) := by decide +kernel
theorem dX12_townNow_7 : decode cX12_townNow 7 = .ok (.iaload, 1) := by decide +kernel
theorem dX12_townNow_8 : decode cX12_townNow 8 = .ok (.invokevirtual 220, 3) := by decide +kernel
theorem dX12_townNow_11 : decode cX12_townNow 11 = .ok (.ireturn, 1) := by decide +kernel
theorem dX12_townOn_0 : decode cX12_townOn 0 = .ok (.iconst 0, 1) := by decide +kernel
theorem dX12_townOn_1 : decode cX12_townOn 1 = .ok (.istore_n 2, 1) := by decide +kernel
theorem dX12_townOn_2 : decode cX12_townOn 2 = .ok (.iconst 0, 1) := by decide +kernel
theorem dX12_townOn_3 : decode cX12_townOn 3 = .ok (.istore_n 3, 1) := by decide +kernel
theorem dX12_townOn_4 : decode cX12_townOn 4 = .ok (.iload_n 3, 1) := by decide +kernel
theorem dX12_townOn_5 : decode cX12_townOn 5 = .ok (.aload_n 0, 1) := by decide +kernel
theorem dX12_townOn_6 : decode cX12_townOn 6 = .ok (.getfield 13, 3) := by decide +kernel
theorem dX12_townOn_9 : decode cX12_townOn 9 = .ok (.iconst 2, 1) := by decide +kernel
theorem dX12_townOn_10 : decode cX12_townOn 10 = .ok (.iaload, 1) := by decide +kernel
theorem dX12_townOn_11 : decode cX12_townOn 11 = .ok (.if_icmp .ge 47, 3) := by decide +kernel
theorem dX12_townOn_58 : decode cX12_townOn 58 = .ok (.iload_n 2, 1) := by decide +kernel
theorem dX12_townOn_59 : decode cX12_townOn 59 = .ok (.aload_n 0, 1) := by decide +kernel
theorem dX12_townOn_60 : decode cX12_townOn 60 = .ok (.getfield 13, 3) := by decide +kernel
theorem dX12_townOn_63 : decode cX12_townOn 63 = .ok (.bipush 53, 2) := by decide +kernel
theorem dX12_townOn_65 : decode cX12_townOn 65 = .ok (.iaload, 1) := by decide +kernel
theorem dX12_townOn_66 : decode cX12_townOn 66 = .ok (.iconst (-1), 1) := by decide +kernel
theorem dX12_townOn_67 : decode cX12_townOn 67 = .ok (.ixor, 1) := by decide +kernel
theorem dX12_townOn_68 : decode cX12_townOn 68 = .ok (.iand, 1) := by decide +kernel
theorem dX12_townOn_69 : decode cX12_townOn 69 = .ok (.ireturn, 1) := by decide +kernel
theorem dX12_twosNow_0 : decode cX12_twosNow 0 = .ok (.aload_n 0, 1) := by decide +kernel
theorem dX12_twosNow_1 : decode cX12_twosNow 1 = .ok (.aload_n 0, 1) := by decide +kernel
theorem dX12_twosNow_2 : decode cX12_twosNow 2 = .ok (.getfield 13, 3) := by decide +kernel
theorem dX12_twosNow_5 : decode cX12_twosNow 5 = .ok (.bipush 52, 2) := by decide +kernel
theorem dX12_twosNow_7 : decode cX12_twosNow 7 = .ok (.iaload, 1) := by decide +kernel
theorem dX12_twosNow_8 : decode cX12_twosNow 8 = .ok (.invokevirtual 340, 3) := by decide +kernel
theorem dX12_twosNow_11 : decode cX12_twosNow 11 = .ok (.iconst 0, 1) := by decide +kernel
theorem dX12_twosNow_12 : decode cX12_twosNow 12 = .ok (.istore_n 1, 1) := by decide +kernel
theorem dX12_twosNow_13 : decode cX12_twosNow 13 = .ok (.iconst 0, 1) := by decide +kernel
theorem dX12_twosNow_14 : decode cX12_twosNow 14 = .ok (.istore_n 2, 1) := by decide +kernel
theorem dX12_twosNow_15 : decode cX12_twosNow 15 = .ok (.iload_n 2, 1) := by decide +kernel
theorem dX12_twosNow_16 : decode cX12_twosNow 16 = .ok (.aload_n 0, 1) := by decide +kernel
theorem dX12_twosNow_17 : decode cX12_twosNow 17 = .ok (.getfield 13, 3) := by decide +kernel
theorem dX12_twosNow_20 : decode cX12_twosNow 20 = .ok (.iconst 2, 1) := by decide +kernel
theorem dX12_twosNow_21 : decode cX12_twosNow 21 = .ok (.iaload, 1) := by decide +kernel
theorem dX12_twosNow_22 : decode cX12_twosNow 22 = .ok (.if_icmp .ge 21, 3) := by decide +kernel
theorem dX12_twosNow_43 : decode cX12_twosNow 43 = .ok (.iload_n 1, 1) := by decide +kernel
theorem dX12_twosNow_44 : decode cX12_twosNow 44 = .ok (.iconst 2, 1) := by decide +kernel
theorem dX12_twosNow_45 : decode cX12_twosNow 45 = .ok (.idiv, 1) := by decide +kernel
theorem dX12_twosNow_46 : decode cX12_twosNow 46 = .ok (.ireturn, 1) := by decide +kernel
theorem dX12_undo_0 : decode cX12_undo 0 = .ok (.aload_n 0, 1) := by decide +kernel
theorem dX12_undo_1 : decode cX12_undo 1 = .ok (.iconst 0, 1) := by decide +kernel
theorem dX12_undo_2 : decode cX12_undo 2 = .ok (.putfield 1, 3) := by decide +kernel
theorem dX12_undo_5 : decode cX12_undo 5 = .ok (.iload_n 1, 1) := by decide +kernel
theorem dX12_undo_6 : decode cX12_undo 6 = .ok (.i2l, 1) := by decide +kernel
theorem dX12_undo_7 : decode cX12_undo 7 = .ok (.lconst 1, 1) := by decide +kernel
theorem dX12_undo_8 : decode cX12_undo 8 = .ok (.ldc2_w 289, 3) := by decide +kernel
theorem dX12_undo_11 : decode cX12_undo 11 = .ok (.invokestatic 145, 3) := by decide +kernel
theorem dX12_undo_14 : decode cX12_undo 14 = .ok (.ifCond .eq 14, 3) := by decide +kernel
theorem dX12_undo_17 : decode cX12_undo 17 = .ok (.iload_n 1, 1) := by decide +kernel
theorem dX12_undo_18 : decode cX12_undo 18 = .ok (.aload_n 0, 1) := by decide +kernel
theorem dX12_undo_19 : decode cX12_undo 19 = .ok (.getfield 13, 3) := by decide +kernel
theorem dX12_undo_22 : decode cX12_undo 22 = .ok (.bipush 84, 2) := by decide +kernel
theorem dX12_undo_24 : decode cX12_undo 24 = .ok (.iaload, 1) := by decide +kernel
theorem dX12_undo_25 : decode cX12_undo 25 = .ok (.if_icmp .le 6, 3) := by decide +kernel
theorem dX12_undo_28 : decode cX12_undo 28 = .ok (.bipush (-3), 2) := by decide +kernel
theorem dX12_undo_30 : decode cX12_undo 30 = .ok (.ireturn, 1) := by decide +kernel
theorem dX12_ways_0 : decode cX12_ways 0 = .ok (.aload_n 0, 1) := by decide +kernel
theorem dX12_ways_1 : decode cX12_ways 1 = .ok (.iconst 0, 1) := by decide +kernel
theorem dX12_ways_2 : decode cX12_ways 2 = .ok (.putfield 1, 3) := by decide +kernel
theorem dX12_ways_5 : decode cX12_ways 5 = .ok (.aload_n 0, 1) := by decide +kernel
theorem dX12_ways_6 : decode cX12_ways 6 = .ok (.iload_n 1, 1) := by decide +kernel
theorem dX12_ways_7 : decode cX12_ways 7 = .ok (.invokevirtual 349, 3) := by decide +kernel
theorem dX12_ways_10 : decode cX12_ways 10 = .ok (.ifCond .ne 6, 3) := by decide +kernel
theorem dX12_ways_13 : decode cX12_ways 13 = .ok (.bipush (-3), 2) := by decide +kernel
theorem dX12_ways_15 : decode cX12_ways 15 = .ok (.ireturn, 1) := by decide +kernel
theorem dX12_ways_16 : decode cX12_ways 16 = .ok (.aload_n 0, 1) := by decide +kernel
theorem dX12_ways_17 : decode cX12_ways 17 = .ok (.invokevirtual 346, 3) := by decide +kernel
theorem dX12_ways_20 : decode cX12_ways 20 = .ok (.aload_n 0, 1) := by decide +kernel
theorem dX12_ways_21 : decode cX12_ways 21 = .ok (.getfield 45, 3) := by decide +kernel
theorem dX12_ways_24 : decode cX12_ways 24 = .ok (.iload_n 1, 1) := by decide +kernel
theorem dX12_ways_25 : decode cX12_ways 25 = .ok (.iaload, 1) := by decide +kernel
theorem dX12_ways_26 : decode cX12_ways 26 = .ok (.ireturn, 1) := by decide +kernel
theorem dX12_whySend_0 : decode cX12_whySend 0 = .ok (.aload_n 0, 1) := by decide +kernel
theorem dX12_whySend_1 : decode cX12_whySend 1 = .ok (.lload_n 1, 1) := by decide +kernel
theorem dX12_whySend_2 : decode cX12_whySend 2 = .ok (.invokevirtual 245, 3) := by decide +kernel
theorem dX12_whySend_5 : decode cX12_whySend 5 = .ok (.ifCond .ne 7, 3) := by decide +kernel
theorem dX12_whySend_8 : decode cX12_whySend 8 = .ok (.iconst 1, 1) := by decide +kernel
theorem dX12_whySend_9 : decode cX12_whySend 9 = .ok (.goto 24, 3) := by decide +kernel
theorem dX12_whySend_33 : decode cX12_whySend 33 = .ok (.ireturn, 1) := by decide +kernel
theorem dX12_whyTalk_0 : decode cX12_whyTalk 0 = .ok (.aload_n 0, 1) := by decide +kernel
theorem dX12_whyTalk_1 : decode cX12_whyTalk 1 = .ok (.lload_n 1, 1) := by decide +kernel
theorem dX12_whyTalk_2 : decode cX12_whyTalk 2 = .ok (.invokevirtual 245, 3) := by decide +kernel
theorem dX12_whyTalk_5 : decode cX12_whyTalk 5 = .ok (.ifCond .eq 17, 3) := by decide +kernel
theorem dX12_whyTalk_22 : decode cX12_whyTalk 22 = .ok (.iconst 1, 1) := by decide +kernel
theorem dX12_whyTalk_23 : decode cX12_whyTalk 23 = .ok (.ireturn, 1) := by decide +kernel
theorem dX12_within_0 : decode cX12_within 0 = .ok (.lload_n 0, 1) := by decide +kernel
theorem dX12_within_1 : decode cX12_within 1 = .ok (.lload_n 2, 1) := by decide +kernel
theorem dX12_within_2 : decode cX12_within 2 = .ok (.lcmp, 1) := by decide +kernel
theorem dX12_within_3 : decode cX12_within 3 = .ok (.ifCond .lt 14, 3) := by decide +kernel
theorem dX12_within_6 : decode cX12_within 6 = .ok (.lload_n 0, 1) := by decide +kernel
theorem dX12_within_7 : decode cX12_within 7 = .ok (.lload 4, 2) := by decide +kernel
theorem dX12_within_9 : decode cX12_within 9 = .ok (.lcmp, 1) := by decide +kernel
theorem dX12_within_10 : decode cX12_within 10 = .ok (.ifCond .gt 7, 3) := by decide +kernel
theorem dX12_within_13 : decode cX12_within 13 = .ok (.iconst 1, 1) := by decide +kernel
theorem dX12_within_14 : decode cX12_within 14 = .ok (.goto 4, 3) := by decide +kernel
theorem dX12_within_17 : decode cX12_within 17 = .ok (.iconst 0, 1) := by decide +kernel
theorem dX12_within_18 : decode cX12_within 18 = .ok (.ireturn, 1) := by decide +kernel
theorem dX12_word_0 : decode cX12_word 0 = .ok (.aload_n 0, 1) := by decide +kernel
theorem dX12_word_1 : decode cX12_word 1 = .ok (.iconst 0, 1) := by decide +kernel
theorem dX12_word_2 : decode cX12_word 2 = .ok (.putfield 1, 3) := by decide +kernel
theorem dX12_word_5 : decode cX12_word 5 = .ok (.aload_n 0, 1) := by decide +kernel
theorem dX12_word_6 : decode cX12_word 6 = .ok (.aload_n 0, 1) := by decide +kernel
theorem dX12_word_7 : decode cX12_word 7 = .ok (.invokevirtual 255, 3) := by decide +kernel
theorem dX12_word_10 : decode cX12_word 10 = .ok (.invokevirtual 319, 3) := by decide +kernel
theorem dX12_word_13 : decode cX12_word 13 = .ok (.ifCond .eq 5, 3) := by decide +kernel
theorem dX12_word_16 : decode cX12_word 16 = .ok (.iconst (-1), 1) := by decide +kernel
theorem dX12_word_17 : decode cX12_word 17 = .ok (.ireturn, 1) := by decide +kernel
theorem dX12_write_0 : decode cX12_write 0 = .ok (.aload_n 0, 1) := by decide +kernel
theorem dX12_write_1 : decode cX12_write 1 = .ok (.iconst 0, 1) := by decide +kernel
theorem dX12_write_2 : decode cX12_write 2 = .ok (.putfield 1, 3) := by decide +kernel
theorem dX12_write_5 : decode cX12_write 5 = .ok (.aload_n 0, 1) := by decide +kernel
theorem dX12_write_6 : decode cX12_write 6 = .ok (.iload_n 1, 1) := by decide +kernel
theorem dX12_write_7 : decode cX12_write 7 = .ok (.invokevirtual 313, 3) := by decide +kernel
theorem dX12_write_10 : decode cX12_write 10 = .ok (.istore 5, 2) := by decide +kernel
theorem dX12_write_12 : decode cX12_write 12 = .ok (.iload 5, 2) := by decide +kernel
theorem dX12_write_14 : decode cX12_write 14 = .ok (.ifCond .eq 7, 3) := by decide +kernel
theorem dX12_write_17 : decode cX12_write 17 = .ok (.iload 5, 2) := by decide +kernel
theorem dX12_write_19 : decode cX12_write 19 = .ok (.i2l, 1) := by decide +kernel
theorem dX12_write_20 : decode cX12_write 20 = .ok (.lreturn, 1) := by decide +kernel
theorem dX12_year_0 : decode cX12_year 0 = .ok (.aload_n 0, 1) := by decide +kernel
theorem dX12_year_1 : decode cX12_year 1 = .ok (.iconst 0, 1) := by decide +kernel
theorem dX12_year_2 : decode cX12_year 2 = .ok (.putfield 1, 3) := by decide +kernel
theorem dX12_year_5 : decode cX12_year 5 = .ok (.iload_n 2, 1) := by decide +kernel
theorem dX12_year_6 : decode cX12_year 6 = .ok (.i2l, 1) := by decide +kernel
theorem dX12_year_7 : decode cX12_year 7 = .ok (.lconst 1, 1) := by decide +kernel
theorem dX12_year_8 : decode cX12_year 8 = .ok (.ldc2_w 332, 3) := by decide +kernel
theorem dX12_year_11 : decode cX12_year 11 = .ok (.invokestatic 145, 3) := by decide +kernel
theorem dX12_year_14 : decode cX12_year 14 = .ok (.ifCond .ne 6, 3) := by decide +kernel
theorem dX12_year_17 : decode cX12_year 17 = .ok (.bipush (-3), 2) := by decide +kernel
theorem dX12_year_19 : decode cX12_year 19 = .ok (.ireturn, 1) := by decide +kernel
theorem dX12_year_20 : decode cX12_year 20 = .ok (.aload_n 0, 1) := by decide +kernel
theorem dX12_year_21 : decode cX12_year 21 = .ok (.invokevirtual 267, 3) := by decide +kernel
theorem dX12_year_24 : decode cX12_year 24 = .ok (.aload_n 0, 1) := by decide +kernel
theorem dX12_year_25 : decode cX12_year 25 = .ok (.iload_n 1, 1) := by decide +kernel
theorem dX12_year_26 : decode cX12_year 26 = .ok (.putfield 326, 3) := by decide +kernel
theorem dX12_year_29 : decode cX12_year 29 = .ok (.iconst 0, 1) := by decide +kernel
theorem dX12_year_30 : decode cX12_year 30 = .ok (.istore_n 3, 1) := by decide +kernel
theorem dX12_year_31 : decode cX12_year 31 = .ok (.iconst 0, 1) := by decide +kernel
theorem dX12_year_32 : decode cX12_year 32 = .ok (.istore 4, 2) := by decide +kernel
theorem dX12_year_34 : decode cX12_year 34 = .ok (.iload 4, 2) := by decide +kernel
theorem dX12_year_36 : decode cX12_year 36 = .ok (.iload_n 2, 1) := by decide +kernel
theorem dX12_year_37 : decode cX12_year 37 = .ok (.if_icmp .ge 37, 3) := by decide +kernel
theorem dX12_year_40 : decode cX12_year 40 = .ok (.aload_n 0, 1) := by decide +kernel
theorem dX12_year_41 : decode cX12_year 41 = .ok (.invokevirtual 334, 3) := by decide +kernel
theorem dX1_init_0 : decode cX1_init 0 = .ok (.aload_n 0, 1) := by decide +kernel
theorem dX1_init_1 : decode cX1_init 1 = .ok (.invokespecial 3, 3) := by decide +kernel
theorem dX1_init_4 : decode cX1_init 4 = .ok (.aload_n 0, 1) := by decide +kernel
theorem dX1_init_5 : decode cX1_init 5 = .ok (.iconst (-1), 1) := by decide +kernel
theorem dX1_init_6 : decode cX1_init 6 = .ok (.putfield 9, 3) := by decide +kernel
theorem dX1_init_9 : decode cX1_init 9 = .ok (.aload_n 0, 1) := by decide +kernel
theorem dX1_init_10 : decode cX1_init 10 = .ok (.iconst (-1), 1) := by decide +kernel
theorem dX1_init_11 : decode cX1_init 11 = .ok (.putfield 15, 3) := by decide +kernel
theorem dX1_init_14 : decode cX1_init 14 = .ok (.aload_n 0, 1) := by decide +kernel
theorem dX1_init_15 : decode cX1_init 15 = .ok (.iconst (-1), 1) := by decide +kernel
theorem dX1_init_16 : decode cX1_init 16 = .ok (.putfield 18, 3) := by decide +kernel
theorem dX1_init_19 : decode cX1_init 19 = .ok (.aload_n 0, 1) := by decide +kernel
theorem dX1_init_20 : decode cX1_init 20 = .ok (.iconst 0, 1) := by decide +kernel
theorem dX1_init_21 : decode cX1_init 21 = .ok (.putfield 21, 3) := by decide +kernel
theorem dX1_init_24 : decode cX1_init 24 = .ok (.aload_n 0, 1) := by decide +kernel
theorem dX1_init_25 : decode cX1_init 25 = .ok (.sipush 1000, 3) := by decide +kernel
theorem dX1_init_28 : decode cX1_init 28 = .ok (.newarray .int, 2) := by decide +kernel
theorem dX1_init_30 : decode cX1_init 30 = .ok (.putfield 24, 3) := by decide +kernel
theorem dX1_init_33 : decode cX1_init 33 = .ok (.return_, 1) := by decide +kernel
theorem dX2_add_0 : decode cX2_add 0 = .ok (.aload_n 0, 1) := by decide +kernel
theorem dX2_add_1 : decode cX2_add 1 = .ok (.getfield 9, 3) := by decide +kernel
theorem dX2_add_4 : decode cX2_add 4 = .ok (.bipush 10, 2) := by decide +kernel
theorem dX2_add_6 : decode cX2_add 6 = .ok (.if_icmp .lt 54, 3) := by decide +kernel
theorem dX2_add_60 : decode cX2_add 60 = .ok (.aload_n 0, 1) := by decide +kernel
theorem dX2_add_61 : decode cX2_add 61 = .ok (.getfield 17, 3) := by decide +kernel
theorem dX2_add_64 : decode cX2_add 64 = .ok (.aload_n 0, 1) := by decide +kernel
theorem dX2_add_65 : decode cX2_add 65 = .ok (.getfield 9, 3) := by decide +kernel
theorem dX2_add_68 : decode cX2_add 68 = .ok (.aaload, 1) := by decide +kernel
theorem dX2_add_69 : decode cX2_add 69 = .ok (.aload_n 1, 1) := by decide +kernel
theorem dX2_add_70 : decode cX2_add 70 = .ok (.invokevirtual 24, 3) := by decide +kernel
theorem dX2_add_73 : decode cX2_add 73 = .ok (.aload_n 0, 1) := by decide +kernel
theorem dX2_add_74 : decode cX2_add 74 = .ok (.dup, 1) := by decide +kernel
theorem dX2_add_75 : decode cX2_add 75 = .ok (.getfield 9, 3) := by decide +kernel
theorem dX2_add_78 : decode cX2_add 78 = .ok (.iconst 1, 1) := by decide +kernel
theorem dX2_add_79 : decode cX2_add 79 = .ok (.iadd, 1) := by decide +kernel
theorem dX2_add_80 : decode cX2_add 80 = .ok (.putfield 9, 3) := by decide +kernel
theorem dX2_add_83 : decode cX2_add 83 = .ok (.return_, 1) := by decide +kernel
theorem dX2_init_0 : decode cX2_init 0 = .ok (.aload_n 0, 1) := by decide +kernel
theorem dX2_init_1 : decode cX2_init 1 = .ok (.invokespecial 3, 3) := by decide +kernel
theorem dX2_init_4 : decode cX2_init 4 = .ok (.aload_n 0, 1) := by decide +kernel
theorem dX2_init_5 : decode cX2_init 5 = .ok (.iconst 0, 1) := by decide +kernel
theorem dX2_init_6 : decode cX2_init 6 = .ok (.putfield 9, 3) := by decide +kernel
theorem dX2_init_9 : decode cX2_init 9 = .ok (.aload_n 0, 1) := by decide +kernel
theorem dX2_init_10 : decode cX2_init 10 = .ok (.bipush 10, 2) := by decide +kernel
theorem dX2_init_12 : decode cX2_init 12 = .ok (.anewarray 15, 3) := by decide +kernel
theorem dX2_init_15 : decode cX2_init 15 = .ok (.putfield 17, 3) := by decide +kernel
theorem dX2_init_18 : decode cX2_init 18 = .ok (.iconst 0, 1) := by decide +kernel
theorem dX2_init_19 : decode cX2_init 19 = .ok (.istore_n 2, 1) := by decide +kernel
theorem dX2_init_20 : decode cX2_init 20 = .ok (.iload_n 2, 1) := by decide +kernel
theorem dX2_init_21 : decode cX2_init 21 = .ok (.bipush 10, 2) := by decide +kernel
theorem dX2_init_23 : decode cX2_init 23 = .ok (.if_icmp .ge 23, 3) := by decide +kernel
theorem dX2_init_26 : decode cX2_init 26 = .ok (.aload_n 0, 1) := by decide +kernel
theorem dX2_init_27 : decode cX2_init 27 = .ok (.getfield 17, 3) := by decide +kernel
theorem dX2_init_30 : decode cX2_init 30 = .ok (.iload_n 2, 1) := by decide +kernel
theorem dX2_init_31 : decode cX2_init 31 = .ok (.new 15, 3) := by decide +kernel
theorem dX2_init_34 : decode cX2_init 34 = .ok (.dup, 1) := by decide +kernel
theorem dX2_init_35 : decode cX2_init 35 = .ok (.aload_n 1, 1) := by decide +kernel
theorem dX2_init_36 : decode cX2_init 36 = .ok (.invokespecial 21, 3) := by decide +kernel
theorem dX2_init_39 : decode cX2_init 39 = .ok (.aastore, 1) := by decide +kernel
theorem dX2_init_40 : decode cX2_init 40 = .ok (.iinc 2 1, 3) := by decide +kernel
theorem dX2_init_43 : decode cX2_init 43 = .ok (.goto (-23), 3) := by decide +kernel
theorem dX2_init_46 : decode cX2_init 46 = .ok (.return_, 1) := by decide +kernel
theorem dX3_init_0 : decode cX3_init 0 = .ok (.aload_n 0, 1) := by decide +kernel
theorem dX3_init_1 : decode cX3_init 1 = .ok (.invokespecial 3, 3) := by decide +kernel
theorem dX3_init_4 : decode cX3_init 4 = .ok (.aload_n 0, 1) := by decide +kernel
theorem dX3_init_5 : decode cX3_init 5 = .ok (.iconst 1, 1) := by decide +kernel
theorem dX3_init_6 : decode cX3_init 6 = .ok (.putfield 9, 3) := by decide +kernel
theorem dX3_init_9 : decode cX3_init 9 = .ok (.aload_n 0, 1) := by decide +kernel
theorem dX3_init_10 : decode cX3_init 10 = .ok (.iconst 0, 1) := by decide +kernel
theorem dX3_init_11 : decode cX3_init 11 = .ok (.putfield 15, 3) := by decide +kernel
theorem dX3_init_14 : decode cX3_init 14 = .ok (.aload_n 0, 1) := by decide +kernel
theorem dX3_init_15 : decode cX3_init 15 = .ok (.iconst 0, 1) := by decide +kernel
theorem dX3_init_16 : decode cX3_init 16 = .ok (.putfield 18, 3) := by decide +kernel
theorem dX3_init_19 : decode cX3_init 19 = .ok (.aload_n 0, 1) := by decide +kernel
theorem dX3_init_20 : decode cX3_init 20 = .ok (.iconst 0, 1) := by decide +kernel
theorem dX3_init_21 : decode cX3_init 21 = .ok (.putfield 21, 3) := by decide +kernel
theorem dX3_init_24 : decode cX3_init 24 = .ok (.aload_n 0, 1) := by decide +kernel
theorem dX3_init_25 : decode cX3_init 25 = .ok (.aconst_null, 1) := by decide +kernel
theorem dX3_init_26 : decode cX3_init 26 = .ok (.putfield 24, 3) := by decide +kernel
theorem dX3_init_29 : decode cX3_init 29 = .ok (.aload_n 0, 1) := by decide +kernel
theorem dX3_init_30 : decode cX3_init 30 = .ok (.aconst_null, 1) := by decide +kernel
theorem dX3_init_31 : decode cX3_init 31 = .ok (.putfield 28, 3) := by decide +kernel
theorem dX3_init_34 : decode cX3_init 34 = .ok (.aload_n 0, 1) := by decide +kernel
theorem dX3_init_35 : decode cX3_init 35 = .ok (.aconst_null, 1) := by decide +kernel
theorem dX3_init_36 : decode cX3_init 36 = .ok (.putfield 31, 3) := by decide +kernel
theorem dX3_init_39 : decode cX3_init 39 = .ok (.aload_n 0, 1) := by decide +kernel
theorem dX3_init_40 : decode cX3_init 40 = .ok (.bipush 10, 2) := by decide +kernel
theorem dX3_init_42 : decode cX3_init 42 = .ok (.newarray .int, 2) := by decide +kernel
theorem dX3_init_44 : decode cX3_init 44 = .ok (.putfield 34, 3) := by decide +kernel
theorem dX3_init_47 : decode cX3_init 47 = .ok (.aload_n 0, 1) := by decide +kernel
theorem dX3_init_48 : decode cX3_init 48 = .ok (.bipush 10, 2) := by decide +kernel
theorem dX3_init_50 : decode cX3_init 50 = .ok (.newarray .int, 2) := by decide +kernel
theorem dX3_init_52 : decode cX3_init 52 = .ok (.putfield 38, 3) := by decide +kernel
theorem dX3_init_55 : decode cX3_init 55 = .ok (.aload_n 0, 1) := by decide +kernel
theorem dX3_init_56 : decode cX3_init 56 = .ok (.bipush 10, 2) := by decide +kernel
theorem dX3_init_58 : decode cX3_init 58 = .ok (.newarray .int, 2) := by decide +kernel
theorem dX3_init_60 : decode cX3_init 60 = .ok (.putfield 41, 3) := by decide +kernel
theorem dX3_init_63 : decode cX3_init 63 = .ok (.aload_n 0, 1) := by decide +kernel
theorem dX3_init_64 : decode cX3_init 64 = .ok (.bipush 10, 2) := by decide +kernel
theorem dX3_init_66 : decode cX3_init 66 = .ok (.newarray .int, 2) := by decide +kernel
theorem dX3_init_68 : decode cX3_init 68 = .ok (.putfield 44, 3) := by decide +kernel
theorem dX3_init_71 : decode cX3_init 71 = .ok (.aload_n 0, 1) := by decide +kernel
theorem dX3_init_72 : decode cX3_init 72 = .ok (.bipush 10, 2) := by decide +kernel
theorem dX3_init_74 : decode cX3_init 74 = .ok (.newarray .int, 2) := by decide +kernel
theorem dX3_init_76 : decode cX3_init 76 = .ok (.putfield 47, 3) := by decide +kernel
theorem dX3_init_79 : decode cX3_init 79 = .ok (.return_, 1) := by decide +kernel
theorem dX5_advance_0 : decode cX5_advance 0 = .ok (.aload_n 0, 1) := by decide +kernel
theorem dX5_advance_1 : decode cX5_advance 1 = .ok (.getfield 25, 3) := by decide +kernel
theorem dX5_advance_4 : decode cX5_advance 4 = .ok (.ifCond .ne 19, 3) := by decide +kernel
theorem dX5_advance_7 : decode cX5_advance 7 = .ok (.aload_n 0, 1) := by decide +kernel
theorem dX5_advance_8 : decode cX5_advance 8 = .ok (.getfield 18, 3) := by decide +kernel
theorem dX5_advance_11 : decode cX5_advance 11 = .ok (.iconst 1, 1) := by decide +kernel
theorem dX5_advance_12 : decode cX5_advance 12 = .ok (.iadd, 1) := by decide +kernel
theorem dX5_advance_13 : decode cX5_advance 13 = .ok (.aload_n 0, 1) := by decide +kernel
theorem dX5_advance_14 : decode cX5_advance 14 = .ok (.getfield 12, 3) := by decide +kernel
theorem dX5_advance_17 : decode cX5_advance 17 = .ok (.getfield 69, 3) := by decide +kernel
theorem dX5_advance_20 : decode cX5_advance 20 = .ok (.if_icmp .lt 4, 3) := by decide +kernel
theorem dX5_advance_24 : decode cX5_advance 24 = .ok (.aload_n 0, 1) := by decide +kernel
theorem dX5_advance_25 : decode cX5_advance 25 = .ok (.dup, 1) := by decide +kernel
theorem dX5_advance_26 : decode cX5_advance 26 = .ok (.getfield 18, 3) := by decide +kernel
theorem dX5_advance_29 : decode cX5_advance 29 = .ok (.iconst 1, 1) := by decide +kernel
theorem dX5_advance_30 : decode cX5_advance 30 = .ok (.iadd, 1) := by decide +kernel
theorem dX5_advance_31 : decode cX5_advance 31 = .ok (.putfield 18, 3) := by decide +kernel
theorem dX5_advance_34 : decode cX5_advance 34 = .ok (.aload_n 0, 1) := by decide +kernel
theorem dX5_advance_35 : decode cX5_advance 35 = .ok (.aload_n 0, 1) := by decide +kernel
theorem dX5_advance_36 : decode cX5_advance 36 = .ok (.getfield 12, 3) := by decide +kernel
theorem dX5_advance_39 : decode cX5_advance 39 = .ok (.getfield 78, 3) := by decide +kernel
theorem dX5_advance_42 : decode cX5_advance 42 = .ok (.aload_n 0, 1) := by decide +kernel
theorem dX5_advance_43 : decode cX5_advance 43 = .ok (.getfield 18, 3) := by decide +kernel
theorem dX5_advance_46 : decode cX5_advance 46 = .ok (.iaload, 1) := by decide +kernel
theorem dX5_advance_47 : decode cX5_advance 47 = .ok (.putfield 22, 3) := by decide +kernel
theorem dX5_advance_50 : decode cX5_advance 50 = .ok (.aload_n 0, 1) := by decide +kernel
theorem dX5_advance_51 : decode cX5_advance 51 = .ok (.getfield 22, 3) := by decide +kernel
theorem dX5_advance_54 : decode cX5_advance 54 = .ok (.bipush 27, 2) := by decide +kernel
theorem dX5_advance_56 : decode cX5_advance 56 = .ok (.if_icmp .ne 24, 3) := by decide +kernel
theorem dX5_advance_80 : decode cX5_advance 80 = .ok (.return_, 1) := by decide +kernel
theorem dX5_init_0 : decode cX5_init 0 = .ok (.aload_n 0, 1) := by decide +kernel
theorem dX5_init_1 : decode cX5_init 1 = .ok (.invokespecial 3, 3) := by decide +kernel
theorem dX5_init_4 : decode cX5_init 4 = .ok (.aload_n 0, 1) := by decide +kernel
theorem dX5_init_5 : decode cX5_init 5 = .ok (.new 9, 3) := by decide +kernel
theorem dX5_init_8 : decode cX5_init 8 = .ok (.dup, 1) := by decide +kernel
theorem dX5_init_9 : decode cX5_init 9 = .ok (.invokespecial 11, 3) := by decide +kernel
theorem dX5_init_12 : decode cX5_init 12 = .ok (.putfield 12, 3) := by decide +kernel
theorem dX5_init_15 : decode cX5_init 15 = .ok (.aload_n 0, 1) := by decide +kernel
theorem dX5_init_16 : decode cX5_init 16 = .ok (.iconst 0, 1) := by decide +kernel
theorem dX5_init_17 : decode cX5_init 17 = .ok (.putfield 18, 3) := by decide +kernel
theorem dX5_init_20 : decode cX5_init 20 = .ok (.aload_n 0, 1) := by decide +kernel
theorem dX5_init_21 : decode cX5_init 21 = .ok (.bipush 26, 2) := by decide +kernel
theorem dX5_init_23 : decode cX5_init 23 = .ok (.putfield 22, 3) := by decide +kernel
theorem dX5_init_26 : decode cX5_init 26 = .ok (.aload_n 0, 1) := by decide +kernel
theorem dX5_init_27 : decode cX5_init 27 = .ok (.iconst 0, 1) := by decide +kernel
theorem dX5_init_28 : decode cX5_init 28 = .ok (.putfield 25, 3) := by decide +kernel
theorem dX5_init_31 : decode cX5_init 31 = .ok (.aload_n 0, 1) := by decide +kernel
theorem dX5_init_32 : decode cX5_init 32 = .ok (.iconst (-1), 1) := by decide +kernel
theorem dX5_init_33 : decode cX5_init 33 = .ok (.putfield 28, 3) := by decide +kernel
theorem dX5_init_36 : decode cX5_init 36 = .ok (.aload_n 0, 1) := by decide +kernel
theorem dX5_init_37 : decode cX5_init 37 = .ok (.new 31, 3) := by decide +kernel
theorem dX5_init_40 : decode cX5_init 40 = .ok (.dup, 1) := by decide +kernel
theorem dX5_init_41 : decode cX5_init 41 = .ok (.invokespecial 33, 3) := by decide +kernel
theorem dX5_init_44 : decode cX5_init 44 = .ok (.putfield 34, 3) := by decide +kernel
theorem dX5_init_47 : decode cX5_init 47 = .ok (.aload_n 0, 1) := by decide +kernel
theorem dX5_init_48 : decode cX5_init 48 = .ok (.sipush 900, 3) := by decide +kernel
theorem dX5_init_51 : decode cX5_init 51 = .ok (.newarray .int, 2) := by decide +kernel
theorem dX5_init_53 : decode cX5_init 53 = .ok (.putfield 38, 3) := by decide +kernel
theorem dX5_init_56 : decode cX5_init 56 = .ok (.aload_n 0, 1) := by decide +kernel
theorem dX5_init_57 : decode cX5_init 57 = .ok (.iconst 0, 1) := by decide +kernel
theorem dX5_init_58 : decode cX5_init 58 = .ok (.putfield 42, 3) := by decide +kernel
theorem dX5_init_61 : decode cX5_init 61 = .ok (.aload_n 0, 1) := by decide +kernel
theorem dX5_init_62 : decode cX5_init 62 = .ok (.iconst 0, 1) := by decide +kernel
theorem dX5_init_63 : decode cX5_init 63 = .ok (.putfield 45, 3) := by decide +kernel
theorem dX5_init_66 : decode cX5_init 66 = .ok (.return_, 1) := by decide +kernel
theorem dX5_read_0 : decode cX5_read 0 = .ok (.aload_n 0, 1) := by decide +kernel
theorem dX5_read_1 : decode cX5_read 1 = .ok (.getfield 12, 3) := by decide +kernel
theorem dX5_read_4 : decode cX5_read 4 = .ok (.aload_n 1, 1) := by decide +kernel
theorem dX5_read_5 : decode cX5_read 5 = .ok (.iload_n 2, 1) := by decide +kernel
theorem dX5_read_6 : decode cX5_read 6 = .ok (.invokevirtual 48, 3) := by decide +kernel
theorem dX5_read_9 : decode cX5_read 9 = .ok (.aload_n 0, 1) := by decide +kernel
theorem dX5_read_10 : decode cX5_read 10 = .ok (.iconst (-1), 1) := by decide +kernel
theorem dX5_read_11 : decode cX5_read 11 = .ok (.putfield 18, 3) := by decide +kernel
theorem dX5_read_14 : decode cX5_read 14 = .ok (.aload_n 0, 1) := by decide +kernel
theorem dX5_read_15 : decode cX5_read 15 = .ok (.iconst 0, 1) := by decide +kernel
theorem dX5_read_16 : decode cX5_read 16 = .ok (.putfield 25, 3) := by decide +kernel
theorem dX5_read_19 : decode cX5_read 19 = .ok (.aload_n 0, 1) := by decide +kernel
theorem dX5_read_20 : decode cX5_read 20 = .ok (.iconst (-1), 1) := by decide +kernel
theorem dX5_read_21 : decode cX5_read 21 = .ok (.putfield 28, 3) := by decide +kernel
theorem dX5_read_24 : decode cX5_read 24 = .ok (.aload_n 0, 1) := by decide +kernel
theorem dX5_read_25 : decode cX5_read 25 = .ok (.new 31, 3) := by decide +kernel
theorem dX5_read_28 : decode cX5_read 28 = .ok (.dup, 1) := by decide +kernel
theorem dX5_read_29 : decode cX5_read 29 = .ok (.invokespecial 33, 3) := by decide +kernel
theorem dX5_read_32 : decode cX5_read 32 = .ok (.putfield 34, 3) := by decide +kernel
theorem dX5_read_35 : decode cX5_read 35 = .ok (.aload_n 0, 1) := by decide +kernel
theorem dX5_read_36 : decode cX5_read 36 = .ok (.invokevirtual 52, 3) := by decide +kernel
theorem dX5_read_39 : decode cX5_read 39 = .ok (.aload_n 0, 1) := by decide +kernel
theorem dX5_read_40 : decode cX5_read 40 = .ok (.bipush 11, 2) := by decide +kernel
theorem dX5_read_42 : decode cX5_read 42 = .ok (.invokevirtual 55, 3) := by decide +kernel
theorem dX5_read_45 : decode cX5_read 45 = .ok (.aload_n 0, 1) := by decide +kernel
theorem dX5_read_46 : decode cX5_read 46 = .ok (.bipush 12, 2) := by decide +kernel
theorem dX5_read_48 : decode cX5_read 48 = .ok (.invokevirtual 55, 3) := by decide +kernel
theorem dX5_read_51 : decode cX5_read 51 = .ok (.aload_n 0, 1) := by decide +kernel
theorem dX5_read_52 : decode cX5_read 52 = .ok (.getfield 34, 3) := by decide +kernel
theorem dX5_read_55 : decode cX5_read 55 = .ok (.aload_n 0, 1) := by decide +kernel
theorem dX5_read_56 : decode cX5_read 56 = .ok (.iconst 1, 1) := by decide +kernel
theorem dX5_read_57 : decode cX5_read 57 = .ok (.iconst 3, 1) := by decide +kernel
theorem dX5_read_58 : decode cX5_read 58 = .ok (.invokevirtual 59, 3) := by decide +kernel
theorem dX5_read_61 : decode cX5_read 61 = .ok (.putfield 63, 3) := by decide +kernel
theorem dX5_read_64 : decode cX5_read 64 = .ok (.aload_n 0, 1) := by decide +kernel
theorem dX5_read_65 : decode cX5_read 65 = .ok (.bipush 59, 2) := by decide +kernel
theorem dX5_read_67 : decode cX5_read 67 = .ok (.invokevirtual 55, 3) := by decide +kernel
theorem dX5_read_70 : decode cX5_read 70 = .ok (.aload_n 0, 1) := by decide +kernel
theorem dX5_read_71 : decode cX5_read 71 = .ok (.getfield 34, 3) := by decide +kernel
theorem dX5_read_74 : decode cX5_read 74 = .ok (.iconst 1, 1) := by decide +kernel
theorem dX5_read_75 : decode cX5_read 75 = .ok (.putfield 66, 3) := by decide +kernel
theorem dX5_read_78 : decode cX5_read 78 = .ok (.iconst 0, 1) := by decide +kernel
theorem dX5_read_79 : decode cX5_read 79 = .ok (.istore_n 3, 1) := by decide +kernel
theorem dX5_read_80 : decode cX5_read 80 = .ok (.iload_n 3, 1) := by decide +kernel
theorem dX5_read_81 : decode cX5_read 81 = .ok (.aload_n 0, 1) := by decide +kernel
theorem dX5_read_82 : decode cX5_read 82 = .ok (.getfield 12, 3) := by decide +kernel
theorem dX5_read_85 : decode cX5_read 85 = .ok (.getfield 69, 3) := by decide +kernel
theorem dX5_read_88 : decode cX5_read 88 = .ok (.if_icmp .ge 50, 3) := by decide +kernel
theorem dX5_read_91 : decode cX5_read 91 = .ok (.aload_n 0, 1) := by decide +kernel
theorem dX5_read_92 : decode cX5_read 92 = .ok (.getfield 22, 3) := by decide +kernel
theorem dX5_read_95 : decode cX5_read 95 = .ok (.bipush 26, 2) := by decide +kernel
theorem dX5_read_97 : decode cX5_read 97 = .ok (.if_icmp .eq 41, 3) := by decide +kernel
theorem dX5_read_100 : decode cX5_read 100 = .ok (.aload_n 0, 1) := by decide +kernel
theorem dX5_read_101 : decode cX5_read 101 = .ok (.getfield 22, 3) := by decide +kernel
theorem dX5_read_104 : decode cX5_read 104 = .ok (.bipush 27, 2) := by decide +kernel
theorem dX5_read_106 : decode cX5_read 106 = .ok (.if_icmp .eq 32, 3) := by decide +kernel
theorem dX5_read_138 : decode cX5_read 138 = .ok (.aload_n 0, 1) := by decide +kernel
theorem dX5_read_139 : decode cX5_read 139 = .ok (.getfield 34, 3) := by decide +kernel
theorem dX5_read_142 : decode cX5_read 142 = .ok (.areturn, 1) := by decide +kernel
theorem dX5_refuse_0 : decode cX5_refuse 0 = .ok (.aload_n 0, 1) := by decide +kernel
theorem dX5_refuse_1 : decode cX5_refuse 1 = .ok (.getfield 25, 3) := by decide +kernel
theorem dX5_refuse_4 : decode cX5_refuse 4 = .ok (.ifCond .ne 30, 3) := by decide +kernel
theorem dX5_refuse_7 : decode cX5_refuse 7 = .ok (.aload_n 0, 1) := by decide +kernel
theorem dX5_refuse_8 : decode cX5_refuse 8 = .ok (.iload_n 1, 1) := by decide +kernel
theorem dX5_refuse_9 : decode cX5_refuse 9 = .ok (.putfield 25, 3) := by decide +kernel
theorem dX5_refuse_12 : decode cX5_refuse 12 = .ok (.aload_n 0, 1) := by decide +kernel
theorem dX5_refuse_13 : decode cX5_refuse 13 = .ok (.aload_n 0, 1) := by decide +kernel
theorem dX5_refuse_14 : decode cX5_refuse 14 = .ok (.getfield 12, 3) := by decide +kernel
theorem dX5_refuse_17 : decode cX5_refuse 17 = .ok (.getfield 75, 3) := by decide +kernel
theorem dX5_refuse_20 : decode cX5_refuse 20 = .ok (.aload_n 0, 1) := by decide +kernel
theorem dX5_refuse_21 : decode cX5_refuse 21 = .ok (.getfield 18, 3) := by decide +kernel
theorem dX5_refuse_24 : decode cX5_refuse 24 = .ok (.iaload, 1) := by decide +kernel
theorem dX5_refuse_25 : decode cX5_refuse 25 = .ok (.putfield 28, 3) := by decide +kernel
theorem dX5_refuse_28 : decode cX5_refuse 28 = .ok (.aload_n 0, 1) := by decide +kernel
theorem dX5_refuse_29 : decode cX5_refuse 29 = .ok (.bipush 27, 2) := by decide +kernel
theorem dX5_refuse_31 : decode cX5_refuse 31 = .ok (.putfield 22, 3) := by decide +kernel
theorem dX5_refuse_34 : decode cX5_refuse 34 = .ok (.return_, 1) := by decide +kernel
theorem dX5_take_0 : decode cX5_take 0 = .ok (.aload_n 0, 1) := by decide +kernel
theorem dX5_take_1 : decode cX5_take 1 = .ok (.getfield 22, 3) := by decide +kernel
theorem dX5_take_4 : decode cX5_take 4 = .ok (.iload_n 1, 1) := by decide +kernel
theorem dX5_take_5 : decode cX5_take 5 = .ok (.if_icmp .ne 10, 3) := by decide +kernel
theorem dX5_take_15 : decode cX5_take 15 = .ok (.aload_n 0, 1) := by decide +kernel
theorem dX5_take_16 : decode cX5_take 16 = .ok (.iconst 2, 1) := by decide +kernel
theorem dX5_take_17 : decode cX5_take 17 = .ok (.invokevirtual 81, 3) := by decide +kernel
theorem dX5_take_20 : decode cX5_take 20 = .ok (.return_, 1) := by decide +kernel
theorem dX5_takeNumber_0 : decode cX5_takeNumber 0 = .ok (.aload_n 0, 1) := by decide +kernel
theorem dX5_takeNumber_1 : decode cX5_takeNumber 1 = .ok (.getfield 22, 3) := by decide +kernel
theorem dX5_takeNumber_4 : decode cX5_takeNumber 4 = .ok (.bipush 25, 2) := by decide +kernel
theorem dX5_takeNumber_6 : decode cX5_takeNumber 6 = .ok (.if_icmp .eq 10, 3) := by decide +kernel
theorem dX5_takeNumber_9 : decode cX5_takeNumber 9 = .ok (.aload_n 0, 1) := by decide +kernel
theorem dX5_takeNumber_10 : decode cX5_takeNumber 10 = .ok (.iconst 2, 1) := by decide +kernel
theorem dX5_takeNumber_11 : decode cX5_takeNumber 11 = .ok (.invokevirtual 81, 3) := by decide +kernel
theorem dX5_takeNumber_14 : decode cX5_takeNumber 14 = .ok (.iload_n 1, 1) := by decide +kernel
theorem dX5_takeNumber_15 : decode cX5_takeNumber 15 = .ok (.ireturn, 1) := by decide +kernel
theorem dX6_init_0 : decode cX6_init 0 = .ok (.aload_n 0, 1) := by decide +kernel
theorem dX6_init_1 : decode cX6_init 1 = .ok (.invokespecial 3, 3) := by decide +kernel
theorem dX6_init_4 : decode cX6_init 4 = .ok (.aload_n 0, 1) := by decide +kernel
theorem dX6_init_5 : decode cX6_init 5 = .ok (.bipush 11, 2) := by decide +kernel
theorem dX6_init_7 : decode cX6_init 7 = .ok (.newarray .int, 2) := by decide +kernel
theorem dX6_init_9 : decode cX6_init 9 = .ok (.putfield 9, 3) := by decide +kernel
theorem dX6_init_12 : decode cX6_init 12 = .ok (.aload_n 0, 1) := by decide +kernel
theorem dX6_init_13 : decode cX6_init 13 = .ok (.bipush 64, 2) := by decide +kernel
theorem dX6_init_15 : decode cX6_init 15 = .ok (.newarray .int, 2) := by decide +kernel
theorem dX6_init_17 : decode cX6_init 17 = .ok (.putfield 15, 3) := by decide +kernel
theorem dX6_init_20 : decode cX6_init 20 = .ok (.return_, 1) := by decide +kernel
theorem dX7_carryOut_0 : decode cX7_carryOut 0 = .ok (.lload_n 1, 1) := by decide +kernel
theorem dX7_carryOut_1 : decode cX7_carryOut 1 = .ok (.lconst 0, 1) := by decide +kernel
theorem dX7_carryOut_2 : decode cX7_carryOut 2 = .ok (.lcmp, 1) := by decide +kernel
theorem dX7_carryOut_3 : decode cX7_carryOut 3 = .ok (.ifCond .ge 16, 3) := by decide +kernel
theorem dX7_carryOut_6 : decode cX7_carryOut 6 = .ok (.aload_n 0, 1) := by decide +kernel
theorem dX7_carryOut_7 : decode cX7_carryOut 7 = .ok (.dup, 1) := by decide +kernel
theorem dX7_carryOut_8 : decode cX7_carryOut 8 = .ok (.getfield 9, 3) := by decide +kernel
theorem dX7_carryOut_11 : decode cX7_carryOut 11 = .ok (.iconst 1, 1) := by decide +kernel
theorem dX7_carryOut_12 : decode cX7_carryOut 12 = .ok (.iadd, 1) := by decide +kernel
theorem dX7_carryOut_13 : decode cX7_carryOut 13 = .ok (.putfield 9, 3) := by decide +kernel
theorem dX7_carryOut_16 : decode cX7_carryOut 16 = .ok (.goto 92, 3) := by decide +kernel
theorem dX7_carryOut_108 : decode cX7_carryOut 108 = .ok (.return_, 1) := by decide +kernel
theorem dX7_inTown_0 : decode cX7_inTown 0 = .ok (.aload_n 0, 1) := by decide +kernel
theorem dX7_inTown_1 : decode cX7_inTown 1 = .ok (.aload_n 0, 1) := by decide +kernel
theorem dX7_inTown_2 : decode cX7_inTown 2 = .ok (.getfield 9, 3) := by decide +kernel
theorem dX7_inTown_5 : decode cX7_inTown 5 = .ok (.invokevirtual 38, 3) := by decide +kernel
theorem dX7_inTown_8 : decode cX7_inTown 8 = .ok (.ireturn, 1) := by decide +kernel
theorem dX7_inTownOn_0 : decode cX7_inTownOn 0 = .ok (.iconst 0, 1) := by decide +kernel
theorem dX7_inTownOn_1 : decode cX7_inTownOn 1 = .ok (.istore_n 2, 1) := by decide +kernel
theorem dX7_inTownOn_2 : decode cX7_inTownOn 2 = .ok (.iconst 0, 1) := by decide +kernel
theorem dX7_inTownOn_3 : decode cX7_inTownOn 3 = .ok (.istore_n 3, 1) := by decide +kernel
theorem dX7_inTownOn_4 : decode cX7_inTownOn 4 = .ok (.iload_n 3, 1) := by decide +kernel
theorem dX7_inTownOn_5 : decode cX7_inTownOn 5 = .ok (.aload_n 0, 1) := by decide +kernel
theorem dX7_inTownOn_6 : decode cX7_inTownOn 6 = .ok (.getfield 22, 3) := by decide +kernel
theorem dX7_inTownOn_9 : decode cX7_inTownOn 9 = .ok (.getfield 42, 3) := by decide +kernel
theorem dX7_inTownOn_12 : decode cX7_inTownOn 12 = .ok (.if_icmp .ge 41, 3) := by decide +kernel
theorem dX7_inTownOn_53 : decode cX7_inTownOn 53 = .ok (.iload_n 2, 1) := by decide +kernel
theorem dX7_inTownOn_54 : decode cX7_inTownOn 54 = .ok (.aload_n 0, 1) := by decide +kernel
theorem dX7_inTownOn_55 : decode cX7_inTownOn 55 = .ok (.getfield 15, 3) := by decide +kernel
theorem dX7_inTownOn_58 : decode cX7_inTownOn 58 = .ok (.iconst (-1), 1) := by decide +kernel
theorem dX7_inTownOn_59 : decode cX7_inTownOn 59 = .ok (.ixor, 1) := by decide +kernel
theorem dX7_inTownOn_60 : decode cX7_inTownOn 60 = .ok (.iand, 1) := by decide +kernel
theorem dX7_inTownOn_61 : decode cX7_inTownOn 61 = .ok (.ireturn, 1) := by decide +kernel
theorem dX7_init_0 : decode cX7_init 0 = .ok (.aload_n 0, 1) := by decide +kernel
theorem dX7_init_1 : decode cX7_init 1 = .ok (.invokespecial 3, 3) := by decide +kernel
theorem dX7_init_4 : decode cX7_init 4 = .ok (.aload_n 0, 1) := by decide +kernel
theorem dX7_init_5 : decode cX7_init 5 = .ok (.iconst 0, 1) := by decide +kernel
theorem dX7_init_6 : decode cX7_init 6 = .ok (.putfield 9, 3) := by decide +kernel
theorem dX7_init_9 : decode cX7_init 9 = .ok (.aload_n 0, 1) := by decide +kernel
theorem dX7_init_10 : decode cX7_init 10 = .ok (.iconst 0, 1) := by decide +kernel
theorem dX7_init_11 : decode cX7_init 11 = .ok (.putfield 15, 3) := by decide +kernel
theorem dX7_init_14 : decode cX7_init 14 = .ok (.aload_n 0, 1) := by decide +kernel
theorem dX7_init_15 : decode cX7_init 15 = .ok (.bipush 10, 2) := by decide +kernel
theorem dX7_init_17 : decode cX7_init 17 = .ok (.newarray .int, 2) := by decide +kernel
theorem dX7_init_19 : decode cX7_init 19 = .ok (.putfield 18, 3) := by decide +kernel
theorem dX7_init_22 : decode cX7_init 22 = .ok (.aload_n 0, 1) := by decide +kernel
theorem dX7_init_23 : decode cX7_init 23 = .ok (.aload_n 1, 1) := by decide +kernel
theorem dX7_init_24 : decode cX7_init 24 = .ok (.putfield 22, 3) := by decide +kernel
theorem dX7_init_27 : decode cX7_init 27 = .ok (.return_, 1) := by decide +kernel
theorem dX7_takeFrom_0 : decode cX7_takeFrom 0 = .ok (.aload_n 0, 1) := by decide +kernel
theorem dX7_takeFrom_1 : decode cX7_takeFrom 1 = .ok (.aload_n 1, 1) := by decide +kernel
theorem dX7_takeFrom_2 : decode cX7_takeFrom 2 = .ok (.getfield 22, 3) := by decide +kernel
theorem dX7_takeFrom_5 : decode cX7_takeFrom 5 = .ok (.putfield 22, 3) := by decide +kernel
theorem dX7_takeFrom_8 : decode cX7_takeFrom 8 = .ok (.aload_n 0, 1) := by decide +kernel
theorem dX7_takeFrom_9 : decode cX7_takeFrom 9 = .ok (.aload_n 1, 1) := by decide +kernel
theorem dX7_takeFrom_10 : decode cX7_takeFrom 10 = .ok (.getfield 9, 3) := by decide +kernel
theorem dX7_takeFrom_13 : decode cX7_takeFrom 13 = .ok (.putfield 9, 3) := by decide +kernel
theorem dX7_takeFrom_16 : decode cX7_takeFrom 16 = .ok (.aload_n 0, 1) := by decide +kernel
theorem dX7_takeFrom_17 : decode cX7_takeFrom 17 = .ok (.aload_n 1, 1) := by decide +kernel
theorem dX7_takeFrom_18 : decode cX7_takeFrom 18 = .ok (.getfield 15, 3) := by decide +kernel
theorem dX7_takeFrom_21 : decode cX7_takeFrom 21 = .ok (.putfield 15, 3) := by decide +kernel
theorem dX7_takeFrom_24 : decode cX7_takeFrom 24 = .ok (.aload_n 1, 1) := by decide +kernel
theorem dX7_takeFrom_25 : decode cX7_takeFrom 25 = .ok (.getfield 18, 3) := by decide +kernel
theorem dX7_takeFrom_28 : decode cX7_takeFrom 28 = .ok (.iconst 0, 1) := by decide +kernel
theorem dX7_takeFrom_29 : decode cX7_takeFrom 29 = .ok (.aload_n 0, 1) := by decide +kernel
theorem dX7_takeFrom_30 : decode cX7_takeFrom 30 = .ok (.getfield 18, 3) := by decide +kernel
theorem dX7_takeFrom_33 : decode cX7_takeFrom 33 = .ok (.iconst 0, 1) := by decide +kernel
theorem dX7_takeFrom_34 : decode cX7_takeFrom 34 = .ok (.bipush 10, 2) := by decide +kernel
theorem dX7_takeFrom_36 : decode cX7_takeFrom 36 = .ok (.invokestatic 32, 3) := by decide +kernel
theorem dX7_takeFrom_39 : decode cX7_takeFrom 39 = .ok (.return_, 1) := by decide +kernel
theorem dX7_whyNoTalk_0 : decode cX7_whyNoTalk 0 = .ok (.iload_n 1, 1) := by decide +kernel
theorem dX7_whyNoTalk_1 : decode cX7_whyNoTalk 1 = .ok (.aload_n 0, 1) := by decide +kernel
theorem dX7_whyNoTalk_2 : decode cX7_whyNoTalk 2 = .ok (.getfield 22, 3) := by decide +kernel
theorem dX7_whyNoTalk_5 : decode cX7_whyNoTalk 5 = .ok (.getfield 42, 3) := by decide +kernel
theorem dX7_whyNoTalk_8 : decode cX7_whyNoTalk 8 = .ok (.if_icmp .ge 19, 3) := by decide +kernel
theorem dX7_whyNoTalk_11 : decode cX7_whyNoTalk 11 = .ok (.iload_n 2, 1) := by decide +kernel
theorem dX7_whyNoTalk_12 : decode cX7_whyNoTalk 12 = .ok (.aload_n 0, 1) := by decide +kernel
theorem dX7_whyNoTalk_13 : decode cX7_whyNoTalk 13 = .ok (.getfield 22, 3) := by decide +kernel
theorem dX7_whyNoTalk_16 : decode cX7_whyNoTalk 16 = .ok (.getfield 42, 3) := by decide +kernel
theorem dX7_whyNoTalk_19 : decode cX7_whyNoTalk 19 = .ok (.if_icmp .ge 8, 3) := by decide +kernel
theorem dX7_whyNoTalk_22 : decode cX7_whyNoTalk 22 = .ok (.iload_n 1, 1) := by decide +kernel
theorem dX7_whyNoTalk_23 : decode cX7_whyNoTalk 23 = .ok (.iload_n 2, 1) := by decide +kernel
theorem dX7_whyNoTalk_24 : decode cX7_whyNoTalk 24 = .ok (.if_icmp .ne 5, 3) := by decide +kernel
theorem dX7_whyNoTalk_27 : decode cX7_whyNoTalk 27 = .ok (.iconst 1, 1) := by decide +kernel
theorem dX7_whyNoTalk_28 : decode cX7_whyNoTalk 28 = .ok (.ireturn, 1) := by decide +kernel
theorem dX7_whyNoTalk_29 : decode cX7_whyNoTalk 29 = .ok (.iconst 1, 1) := by decide +kernel
theorem dX7_whyNoTalk_30 : decode cX7_whyNoTalk 30 = .ok (.iload_n 1, 1) := by decide +kernel
theorem dX7_whyNoTalk_31 : decode cX7_whyNoTalk 31 = .ok (.ishl, 1) := by decide +kernel
theorem dX7_whyNoTalk_32 : decode cX7_whyNoTalk 32 = .ok (.iconst 1, 1) := by decide +kernel
theorem dX7_whyNoTalk_33 : decode cX7_whyNoTalk 33 = .ok (.iload_n 2, 1) := by decide +kernel
theorem dX7_whyNoTalk_34 : decode cX7_whyNoTalk 34 = .ok (.ishl, 1) := by decide +kernel
theorem dX7_whyNoTalk_35 : decode cX7_whyNoTalk 35 = .ok (.ior, 1) := by decide +kernel
theorem dX7_whyNoTalk_36 : decode cX7_whyNoTalk 36 = .ok (.istore_n 3, 1) := by decide +kernel
theorem dX7_whyNoTalk_37 : decode cX7_whyNoTalk 37 = .ok (.aload_n 0, 1) := by decide +kernel
theorem dX7_whyNoTalk_38 : decode cX7_whyNoTalk 38 = .ok (.invokevirtual 65, 3) := by decide +kernel
theorem dX7_whyNoTalk_41 : decode cX7_whyNoTalk 41 = .ok (.iload_n 3, 1) := by decide +kernel
theorem dX7_whyNoTalk_42 : decode cX7_whyNoTalk 42 = .ok (.iand, 1) := by decide +kernel
theorem dX7_whyNoTalk_43 : decode cX7_whyNoTalk 43 = .ok (.iload_n 3, 1) := by decide +kernel
theorem dX7_whyNoTalk_44 : decode cX7_whyNoTalk 44 = .ok (.if_icmp .ne 7, 3) := by decide +kernel
theorem dX7_whyNoTalk_47 : decode cX7_whyNoTalk 47 = .ok (.iconst 0, 1) := by decide +kernel
theorem dX7_whyNoTalk_48 : decode cX7_whyNoTalk 48 = .ok (.goto 4, 3) := by decide +kernel
theorem dX7_whyNoTalk_51 : decode cX7_whyNoTalk 51 = .ok (.iconst 2, 1) := by decide +kernel
theorem dX7_whyNoTalk_52 : decode cX7_whyNoTalk 52 = .ok (.ireturn, 1) := by decide +kernel
theorem dX7_whyNot_0 : decode cX7_whyNot 0 = .ok (.lload_n 1, 1) := by decide +kernel
theorem dX7_whyNot_1 : decode cX7_whyNot 1 = .ok (.ldc2_w 51, 3) := by decide +kernel
theorem dX7_whyNot_4 : decode cX7_whyNot 4 = .ok (.lcmp, 1) := by decide +kernel
theorem dX7_whyNot_5 : decode cX7_whyNot 5 = .ok (.ifCond .ne 5, 3) := by decide +kernel
theorem dX7_whyNot_8 : decode cX7_whyNot 8 = .ok (.iconst 0, 1) := by decide +kernel
theorem dX7_whyNot_9 : decode cX7_whyNot 9 = .ok (.ireturn, 1) := by decide +kernel
theorem dX7_whyNot_10 : decode cX7_whyNot 10 = .ok (.lload_n 1, 1) := by decide +kernel
theorem dX7_whyNot_11 : decode cX7_whyNot 11 = .ok (.lconst 0, 1) := by decide +kernel
theorem dX7_whyNot_12 : decode cX7_whyNot 12 = .ok (.lcmp, 1) := by decide +kernel
theorem dX7_whyNot_13 : decode cX7_whyNot 13 = .ok (.ifCond .lt 26, 3) := by decide +kernel
theorem dX7_whyNot_16 : decode cX7_whyNot 16 = .ok (.lload_n 1, 1) := by decide +kernel
theorem dX7_whyNot_17 : decode cX7_whyNot 17 = .ok (.ldc2_w 53, 3) := by decide +kernel
theorem dX7_whyNot_20 : decode cX7_whyNot 20 = .ok (.lcmp, 1) := by decide +kernel
theorem dX7_whyNot_21 : decode cX7_whyNot 21 = .ok (.ifCond .ge 18, 3) := by decide +kernel
theorem dX7_whyNot_24 : decode cX7_whyNot 24 = .ok (.aload_n 0, 1) := by decide +kernel
theorem dX7_whyNot_25 : decode cX7_whyNot 25 = .ok (.lload_n 1, 1) := by decide +kernel
theorem dX7_whyNot_26 : decode cX7_whyNot 26 = .ok (.l2i, 1) := by decide +kernel
theorem dX7_whyNot_27 : decode cX7_whyNot 27 = .ok (.bipush 10, 2) := by decide +kernel
theorem dX7_whyNot_29 : decode cX7_whyNot 29 = .ok (.idiv, 1) := by decide +kernel
theorem dX7_whyNot_30 : decode cX7_whyNot 30 = .ok (.lload_n 1, 1) := by decide +kernel
theorem dX7_whyNot_31 : decode cX7_whyNot 31 = .ok (.l2i, 1) := by decide +kernel
theorem dX7_whyNot_32 : decode cX7_whyNot 32 = .ok (.bipush 10, 2) := by decide +kernel
theorem dX7_whyNot_34 : decode cX7_whyNot 34 = .ok (.irem, 1) := by decide +kernel
theorem dX7_whyNot_35 : decode cX7_whyNot 35 = .ok (.invokevirtual 55, 3) := by decide +kernel
theorem dX7_whyNot_39 : decode cX7_whyNot 39 = .ok (.lload_n 1, 1) := by decide +kernel
theorem dX7_whyNot_40 : decode cX7_whyNot 40 = .ok (.ldc2_w 53, 3) := by decide +kernel
theorem dX7_whyNot_43 : decode cX7_whyNot 43 = .ok (.lcmp, 1) := by decide +kernel
theorem dX7_whyNot_44 : decode cX7_whyNot 44 = .ok (.ifCond .lt 15, 3) := by decide +kernel
theorem dX7_whyNot_47 : decode cX7_whyNot 47 = .ok (.lload_n 1, 1) := by decide +kernel
theorem dX7_whyNot_48 : decode cX7_whyNot 48 = .ok (.ldc2_w 59, 3) := by decide +kernel
theorem dX7_whyNot_51 : decode cX7_whyNot 51 = .ok (.lcmp, 1) := by decide +kernel
theorem dX7_whyNot_52 : decode cX7_whyNot 52 = .ok (.ifCond .ge 7, 3) := by decide +kernel
theorem dX7_whyNot_55 : decode cX7_whyNot 55 = .ok (.iconst 1, 1) := by decide +kernel
theorem dX7_whyNot_56 : decode cX7_whyNot 56 = .ok (.goto 4, 3) := by decide +kernel
theorem dX7_whyNot_59 : decode cX7_whyNot 59 = .ok (.iconst 0, 1) := by decide +kernel
theorem dX7_whyNot_60 : decode cX7_whyNot 60 = .ok (.istore_n 3, 1) := by decide +kernel
theorem dX7_whyNot_61 : decode cX7_whyNot 61 = .ok (.iload_n 3, 1) := by decide +kernel
theorem dX7_whyNot_62 : decode cX7_whyNot 62 = .ok (.ifCond .ne 21, 3) := by decide +kernel
theorem dX7_whyNot_65 : decode cX7_whyNot 65 = .ok (.lload_n 1, 1) := by decide +kernel
theorem dX7_whyNot_66 : decode cX7_whyNot 66 = .ok (.ldc2_w 61, 3) := by decide +kernel
theorem dX7_whyNot_69 : decode cX7_whyNot 69 = .ok (.lcmp, 1) := by decide +kernel
theorem dX7_whyNot_70 : decode cX7_whyNot 70 = .ok (.ifCond .lt 11, 3) := by decide +kernel
theorem dX7_whyNot_73 : decode cX7_whyNot 73 = .ok (.lload_n 1, 1) := by decide +kernel
theorem dX7_whyNot_74 : decode cX7_whyNot 74 = .ok (.ldc2_w 63, 3) := by decide +kernel
theorem dX7_whyNot_77 : decode cX7_whyNot 77 = .ok (.lcmp, 1) := by decide +kernel
theorem dX7_whyNot_78 : decode cX7_whyNot 78 = .ok (.ifCond .lt 5, 3) := by decide +kernel
theorem dX7_whyNot_81 : decode cX7_whyNot 81 = .ok (.iconst 1, 1) := by decide +kernel
theorem dX7_whyNot_82 : decode cX7_whyNot 82 = .ok (.ireturn, 1) := by decide +kernel
theorem dX7_whyNot_83 : decode cX7_whyNot 83 = .ok (.lload_n 1, 1) := by decide +kernel
theorem dX7_whyNot_84 : decode cX7_whyNot 84 = .ok (.l2i, 1) := by decide +kernel
theorem dX7_whyNot_85 : decode cX7_whyNot 85 = .ok (.bipush 10, 2) := by decide +kernel
theorem dX7_whyNot_87 : decode cX7_whyNot 87 = .ok (.irem, 1) := by decide +kernel
theorem dX7_whyNot_88 : decode cX7_whyNot 88 = .ok (.istore 4, 2) := by decide +kernel
theorem dX7_whyNot_90 : decode cX7_whyNot 90 = .ok (.iload 4, 2) := by decide +kernel
theorem dX7_whyNot_92 : decode cX7_whyNot 92 = .ok (.aload_n 0, 1) := by decide +kernel
theorem dX7_whyNot_93 : decode cX7_whyNot 93 = .ok (.getfield 22, 3) := by decide +kernel
theorem dX7_whyNot_96 : decode cX7_whyNot 96 = .ok (.getfield 42, 3) := by decide +kernel
theorem dX7_whyNot_99 : decode cX7_whyNot 99 = .ok (.if_icmp .lt 5, 3) := by decide +kernel
theorem dX7_whyNot_102 : decode cX7_whyNot 102 = .ok (.iconst 1, 1) := by decide +kernel
theorem dX7_whyNot_103 : decode cX7_whyNot 103 = .ok (.ireturn, 1) := by decide +kernel
theorem dX7_whyNot_104 : decode cX7_whyNot 104 = .ok (.aload_n 0, 1) := by decide +kernel
theorem dX7_whyNot_105 : decode cX7_whyNot 105 = .ok (.getfield 15, 3) := by decide +kernel
theorem dX7_whyNot_108 : decode cX7_whyNot 108 = .ok (.iload 4, 2) := by decide +kernel
theorem dX7_whyNot_110 : decode cX7_whyNot 110 = .ok (.ishr, 1) := by decide +kernel
theorem dX7_whyNot_111 : decode cX7_whyNot 111 = .ok (.iconst 1, 1) := by decide +kernel
theorem dX7_whyNot_112 : decode cX7_whyNot 112 = .ok (.iand, 1) := by decide +kernel
theorem dX7_whyNot_113 : decode cX7_whyNot 113 = .ok (.iconst 1, 1) := by decide +kernel
theorem dX7_whyNot_114 : decode cX7_whyNot 114 = .ok (.if_icmp .ne 7, 3) := by decide +kernel
theorem dX7_whyNot_117 : decode cX7_whyNot 117 = .ok (.iconst 1, 1) := by decide +kernel
theorem dX7_whyNot_118 : decode cX7_whyNot 118 = .ok (.goto 4, 3) := by decide +kernel
theorem dX7_whyNot_121 : decode cX7_whyNot 121 = .ok (.iconst 0, 1) := by decide +kernel
theorem dX7_whyNot_122 : decode cX7_whyNot 122 = .ok (.istore 5, 2) := by decide +kernel
theorem dX7_whyNot_124 : decode cX7_whyNot 124 = .ok (.iload 5, 2) := by decide +kernel
theorem dX7_whyNot_126 : decode cX7_whyNot 126 = .ok (.iload_n 3, 1) := by decide +kernel
theorem dX7_whyNot_127 : decode cX7_whyNot 127 = .ok (.if_icmp .ne 7, 3) := by decide +kernel
theorem dX7_whyNot_130 : decode cX7_whyNot 130 = .ok (.iconst 2, 1) := by decide +kernel
theorem dX7_whyNot_131 : decode cX7_whyNot 131 = .ok (.goto 4, 3) := by decide +kernel
theorem dX7_whyNot_134 : decode cX7_whyNot 134 = .ok (.iconst 0, 1) := by decide +kernel
theorem dX7_whyNot_135 : decode cX7_whyNot 135 = .ok (.ireturn, 1) := by decide +kernel
theorem dX8_cut_0 : decode cX8_cut 0 = .ok (.aload_n 0, 1) := by decide +kernel
theorem dX8_cut_1 : decode cX8_cut 1 = .ok (.aload_n 1, 1) := by decide +kernel
theorem dX8_cut_2 : decode cX8_cut 2 = .ok (.putfield 9, 3) := by decide +kernel
theorem dX8_cut_5 : decode cX8_cut 5 = .ok (.aload_n 0, 1) := by decide +kernel
theorem dX8_cut_6 : decode cX8_cut 6 = .ok (.iload_n 2, 1) := by decide +kernel
theorem dX8_cut_7 : decode cX8_cut 7 = .ok (.aload_n 1, 1) := by decide +kernel
theorem dX8_cut_8 : decode cX8_cut 8 = .ok (.arraylength, 1) := by decide +kernel
theorem dX8_cut_9 : decode cX8_cut 9 = .ok (.invokestatic 32, 3) := by decide +kernel
theorem dX8_cut_12 : decode cX8_cut 12 = .ok (.sipush 900, 3) := by decide +kernel
theorem dX8_cut_15 : decode cX8_cut 15 = .ok (.invokestatic 32, 3) := by decide +kernel
theorem dX8_cut_18 : decode cX8_cut 18 = .ok (.putfield 15, 3) := by decide +kernel
theorem dX8_cut_21 : decode cX8_cut 21 = .ok (.aload_n 0, 1) := by decide +kernel
theorem dX8_cut_22 : decode cX8_cut 22 = .ok (.iconst 0, 1) := by decide +kernel
theorem dX8_cut_23 : decode cX8_cut 23 = .ok (.putfield 19, 3) := by decide +kernel
theorem dX8_cut_26 : decode cX8_cut 26 = .ok (.iconst 0, 1) := by decide +kernel
theorem dX8_cut_27 : decode cX8_cut 27 = .ok (.istore_n 3, 1) := by decide +kernel
theorem dX8_cut_28 : decode cX8_cut 28 = .ok (.iconst 1, 1) := by decide +kernel
theorem dX8_cut_29 : decode cX8_cut 29 = .ok (.istore 4, 2) := by decide +kernel
theorem dX8_cut_31 : decode cX8_cut 31 = .ok (.iconst 0, 1) := by decide +kernel
theorem dX8_cut_32 : decode cX8_cut 32 = .ok (.istore 5, 2) := by decide +kernel
theorem dX8_cut_34 : decode cX8_cut 34 = .ok (.iload 5, 2) := by decide +kernel
theorem dX8_cut_36 : decode cX8_cut 36 = .ok (.aload_n 0, 1) := by decide +kernel
theorem dX8_cut_37 : decode cX8_cut 37 = .ok (.getfield 15, 3) := by decide +kernel
theorem dX8_cut_40 : decode cX8_cut 40 = .ok (.if_icmp .gt 151, 3) := by decide +kernel
theorem dX8_cut_43 : decode cX8_cut 43 = .ok (.iload 4, 2) := by decide +kernel
theorem dX8_cut_45 : decode cX8_cut 45 = .ok (.ifCond .eq 146, 3) := by decide +kernel
theorem dX8_cut_48 : decode cX8_cut 48 = .ok (.iload_n 3, 1) := by decide +kernel
theorem dX8_cut_49 : decode cX8_cut 49 = .ok (.aload_n 0, 1) := by decide +kernel
theorem dX8_cut_50 : decode cX8_cut 50 = .ok (.getfield 15, 3) := by decide +kernel
theorem dX8_cut_53 : decode cX8_cut 53 = .ok (.if_icmp .ge 31, 3) := by decide +kernel
theorem dX8_cut_84 : decode cX8_cut 84 = .ok (.aload_n 0, 1) := by decide +kernel
theorem dX8_cut_85 : decode cX8_cut 85 = .ok (.iload_n 3, 1) := by decide +kernel
theorem dX8_cut_86 : decode cX8_cut 86 = .ok (.invokevirtual 38, 3) := by decide +kernel
theorem dX8_cut_89 : decode cX8_cut 89 = .ok (.istore 6, 2) := by decide +kernel
theorem dX8_cut_91 : decode cX8_cut 91 = .ok (.aload_n 0, 1) := by decide +kernel
theorem dX8_cut_92 : decode cX8_cut 92 = .ok (.getfield 22, 3) := by decide +kernel
theorem dX8_cut_95 : decode cX8_cut 95 = .ok (.iload 5, 2) := by decide +kernel
theorem dX8_cut_97 : decode cX8_cut 97 = .ok (.aload_n 0, 1) := by decide +kernel
theorem dX8_cut_98 : decode cX8_cut 98 = .ok (.iload_n 3, 1) := by decide +kernel
theorem dX8_cut_99 : decode cX8_cut 99 = .ok (.iload 6, 2) := by decide +kernel
theorem dX8_cut_101 : decode cX8_cut 101 = .ok (.invokevirtual 42, 3) := by decide +kernel
theorem dX8_cut_104 : decode cX8_cut 104 = .ok (.iastore, 1) := by decide +kernel
theorem dX8_cut_105 : decode cX8_cut 105 = .ok (.aload_n 0, 1) := by decide +kernel
theorem dX8_cut_106 : decode cX8_cut 106 = .ok (.getfield 26, 3) := by decide +kernel
theorem dX8_cut_109 : decode cX8_cut 109 = .ok (.iload 5, 2) := by decide +kernel
theorem dX8_cut_111 : decode cX8_cut 111 = .ok (.iload_n 3, 1) := by decide +kernel
theorem dX8_cut_112 : decode cX8_cut 112 = .ok (.iastore, 1) := by decide +kernel
theorem dX8_cut_113 : decode cX8_cut 113 = .ok (.aload_n 0, 1) := by decide +kernel
theorem dX8_cut_114 : decode cX8_cut 114 = .ok (.getfield 29, 3) := by decide +kernel
theorem dX8_cut_117 : decode cX8_cut 117 = .ok (.iload 5, 2) := by decide +kernel
theorem dX8_cut_119 : decode cX8_cut 119 = .ok (.aload_n 0, 1) := by decide +kernel
theorem dX8_cut_120 : decode cX8_cut 120 = .ok (.getfield 22, 3) := by decide +kernel
theorem dX8_cut_123 : decode cX8_cut 123 = .ok (.iload 5, 2) := by decide +kernel
theorem dX8_cut_125 : decode cX8_cut 125 = .ok (.iaload, 1) := by decide +kernel
theorem dX8_cut_126 : decode cX8_cut 126 = .ok (.bipush 25, 2) := by decide +kernel
theorem dX8_cut_128 : decode cX8_cut 128 = .ok (.if_icmp .ne 13, 3) := by decide +kernel
theorem dX8_cut_141 : decode cX8_cut 141 = .ok (.iconst 0, 1) := by decide +kernel
theorem dX8_cut_142 : decode cX8_cut 142 = .ok (.iastore, 1) := by decide +kernel
theorem dX8_cut_143 : decode cX8_cut 143 = .ok (.aload_n 0, 1) := by decide +kernel
theorem dX8_cut_144 : decode cX8_cut 144 = .ok (.iload 5, 2) := by decide +kernel
theorem dX8_cut_146 : decode cX8_cut 146 = .ok (.iconst 1, 1) := by decide +kernel
theorem dX8_cut_147 : decode cX8_cut 147 = .ok (.iadd, 1) := by decide +kernel
theorem dX8_cut_148 : decode cX8_cut 148 = .ok (.putfield 19, 3) := by decide +kernel
theorem dX8_cut_151 : decode cX8_cut 151 = .ok (.iload 6, 2) := by decide +kernel
theorem dX8_cut_153 : decode cX8_cut 153 = .ok (.istore_n 3, 1) := by decide +kernel
theorem dX8_cut_154 : decode cX8_cut 154 = .ok (.aload_n 0, 1) := by decide +kernel
theorem dX8_cut_155 : decode cX8_cut 155 = .ok (.getfield 22, 3) := by decide +kernel
theorem dX8_cut_158 : decode cX8_cut 158 = .ok (.iload 5, 2) := by decide +kernel
theorem dX8_cut_160 : decode cX8_cut 160 = .ok (.iaload, 1) := by decide +kernel
theorem dX8_cut_161 : decode cX8_cut 161 = .ok (.bipush 26, 2) := by decide +kernel
theorem dX8_cut_163 : decode cX8_cut 163 = .ok (.if_icmp .eq 19, 3) := by decide +kernel
theorem dX8_cut_182 : decode cX8_cut 182 = .ok (.iconst 0, 1) := by decide +kernel
theorem dX8_cut_183 : decode cX8_cut 183 = .ok (.istore 4, 2) := by decide +kernel
theorem dX8_cut_185 : decode cX8_cut 185 = .ok (.iinc 5 1, 3) := by decide +kernel
theorem dX8_cut_188 : decode cX8_cut 188 = .ok (.goto (-154), 3) := by decide +kernel
theorem dX8_cut_191 : decode cX8_cut 191 = .ok (.return_, 1) := by decide +kernel
theorem dX8_endOf_0 : decode cX8_endOf 0 = .ok (.iload_n 1, 1) := by decide +kernel
theorem dX8_endOf_1 : decode cX8_endOf 1 = .ok (.istore_n 2, 1) := by decide +kernel
theorem dX8_endOf_2 : decode cX8_endOf 2 = .ok (.aload_n 0, 1) := by decide +kernel
theorem dX8_endOf_3 : decode cX8_endOf 3 = .ok (.iload_n 1, 1) := by decide +kernel
theorem dX8_endOf_4 : decode cX8_endOf 4 = .ok (.invokevirtual 48, 3) := by decide +kernel
theorem dX8_endOf_7 : decode cX8_endOf 7 = .ok (.ifCond .eq 25, 3) := by decide +kernel
theorem dX8_endOf_32 : decode cX8_endOf 32 = .ok (.aload_n 0, 1) := by decide +kernel
theorem dX8_endOf_33 : decode cX8_endOf 33 = .ok (.iload_n 1, 1) := by decide +kernel
theorem dX8_endOf_34 : decode cX8_endOf 34 = .ok (.invokevirtual 52, 3) := by decide +kernel
theorem dX8_endOf_37 : decode cX8_endOf 37 = .ok (.ifCond .eq 25, 3) := by decide +kernel
theorem dX8_endOf_62 : decode cX8_endOf 62 = .ok (.iload_n 1, 1) := by decide +kernel
theorem dX8_endOf_63 : decode cX8_endOf 63 = .ok (.aload_n 0, 1) := by decide +kernel
theorem dX8_endOf_64 : decode cX8_endOf 64 = .ok (.getfield 15, 3) := by decide +kernel
theorem dX8_endOf_67 : decode cX8_endOf 67 = .ok (.if_icmp .ge 6, 3) := by decide +kernel
theorem dX8_endOf_73 : decode cX8_endOf 73 = .ok (.iload_n 2, 1) := by decide +kernel
theorem dX8_endOf_74 : decode cX8_endOf 74 = .ok (.ireturn, 1) := by decide +kernel
theorem dX8_init_0 : decode cX8_init 0 = .ok (.aload_n 0, 1) := by decide +kernel
theorem dX8_init_1 : decode cX8_init 1 = .ok (.invokespecial 3, 3) := by decide +kernel
theorem dX8_init_4 : decode cX8_init 4 = .ok (.aload_n 0, 1) := by decide +kernel
theorem dX8_init_5 : decode cX8_init 5 = .ok (.iconst 0, 1) := by decide +kernel
theorem dX8_init_6 : decode cX8_init 6 = .ok (.newarray .byte, 2) := by decide +kernel
theorem dX8_init_8 : decode cX8_init 8 = .ok (.putfield 9, 3) := by decide +kernel
theorem dX8_init_11 : decode cX8_init 11 = .ok (.aload_n 0, 1) := by decide +kernel
theorem dX8_init_12 : decode cX8_init 12 = .ok (.iconst 0, 1) := by decide +kernel
theorem dX8_init_13 : decode cX8_init 13 = .ok (.putfield 15, 3) := by decide +kernel
theorem dX8_init_16 : decode cX8_init 16 = .ok (.aload_n 0, 1) := by decide +kernel
theorem dX8_init_17 : decode cX8_init 17 = .ok (.iconst 0, 1) := by decide +kernel
theorem dX8_init_18 : decode cX8_init 18 = .ok (.putfield 19, 3) := by decide +kernel
theorem dX8_init_21 : decode cX8_init 21 = .ok (.aload_n 0, 1) := by decide +kernel
theorem dX8_init_22 : decode cX8_init 22 = .ok (.sipush 901, 3) := by decide +kernel
theorem dX8_init_25 : decode cX8_init 25 = .ok (.newarray .int, 2) := by decide +kernel
theorem dX8_init_27 : decode cX8_init 27 = .ok (.putfield 22, 3) := by decide +kernel
theorem dX8_init_30 : decode cX8_init 30 = .ok (.aload_n 0, 1) := by decide +kernel
theorem dX8_init_31 : decode cX8_init 31 = .ok (.sipush 901, 3) := by decide +kernel
theorem dX8_init_34 : decode cX8_init 34 = .ok (.newarray .int, 2) := by decide +kernel
theorem dX8_init_36 : decode cX8_init 36 = .ok (.putfield 26, 3) := by decide +kernel
theorem dX8_init_39 : decode cX8_init 39 = .ok (.aload_n 0, 1) := by decide +kernel
theorem dX8_init_40 : decode cX8_init 40 = .ok (.sipush 901, 3) := by decide +kernel
theorem dX8_init_43 : decode cX8_init 43 = .ok (.newarray .int, 2) := by decide +kernel
theorem dX8_init_45 : decode cX8_init 45 = .ok (.putfield 29, 3) := by decide +kernel
theorem dX8_init_48 : decode cX8_init 48 = .ok (.return_, 1) := by decide +kernel
theorem dX8_isDigit_0 : decode cX8_isDigit 0 = .ok (.iload_n 1, 1) := by decide +kernel
theorem dX8_isDigit_1 : decode cX8_isDigit 1 = .ok (.aload_n 0, 1) := by decide +kernel
theorem dX8_isDigit_2 : decode cX8_isDigit 2 = .ok (.getfield 15, 3) := by decide +kernel
theorem dX8_isDigit_5 : decode cX8_isDigit 5 = .ok (.if_icmp .ge 29, 3) := by decide +kernel
theorem dX8_isDigit_34 : decode cX8_isDigit 34 = .ok (.iconst 0, 1) := by decide +kernel
theorem dX8_isDigit_35 : decode cX8_isDigit 35 = .ok (.ireturn, 1) := by decide +kernel
theorem dX8_isLetter_0 : decode cX8_isLetter 0 = .ok (.iload_n 1, 1) := by decide +kernel
theorem dX8_isLetter_1 : decode cX8_isLetter 1 = .ok (.aload_n 0, 1) := by decide +kernel
theorem dX8_isLetter_2 : decode cX8_isLetter 2 = .ok (.getfield 15, 3) := by decide +kernel
theorem dX8_isLetter_5 : decode cX8_isLetter 5 = .ok (.if_icmp .ge 29, 3) := by decide +kernel
theorem dX8_isLetter_34 : decode cX8_isLetter 34 = .ok (.iconst 0, 1) := by decide +kernel
theorem dX8_isLetter_35 : decode cX8_isLetter 35 = .ok (.ireturn, 1) := by decide +kernel
theorem dX8_kindOf_0 : decode cX8_kindOf 0 = .ok (.iload_n 1, 1) := by decide +kernel
theorem dX8_kindOf_1 : decode cX8_kindOf 1 = .ok (.aload_n 0, 1) := by decide +kernel
theorem dX8_kindOf_2 : decode cX8_kindOf 2 = .ok (.getfield 15, 3) := by decide +kernel
theorem dX8_kindOf_5 : decode cX8_kindOf 5 = .ok (.if_icmp .lt 6, 3) := by decide +kernel
theorem dX8_kindOf_8 : decode cX8_kindOf 8 = .ok (.bipush 26, 2) := by decide +kernel
theorem dX8_kindOf_10 : decode cX8_kindOf 10 = .ok (.ireturn, 1) := by decide +kernel
theorem dX9_init_0 : decode cX9_init 0 = .ok (.aload_n 0, 1) := by decide +kernel
theorem dX9_init_1 : decode cX9_init 1 = .ok (.invokespecial 3, 3) := by decide +kernel
theorem dX9_init_4 : decode cX9_init 4 = .ok (.aload_n 0, 1) := by decide +kernel
theorem dX9_init_5 : decode cX9_init 5 = .ok (.iconst (-1), 1) := by decide +kernel
theorem dX9_init_6 : decode cX9_init 6 = .ok (.putfield 9, 3) := by decide +kernel
theorem dX9_init_9 : decode cX9_init 9 = .ok (.aload_n 0, 1) := by decide +kernel
theorem dX9_init_10 : decode cX9_init 10 = .ok (.iconst 0, 1) := by decide +kernel
theorem dX9_init_11 : decode cX9_init 11 = .ok (.putfield 15, 3) := by decide +kernel
theorem dX9_init_14 : decode cX9_init 14 = .ok (.aload_n 0, 1) := by decide +kernel
theorem dX9_init_15 : decode cX9_init 15 = .ok (.bipush 40, 2) := by decide +kernel
theorem dX9_init_17 : decode cX9_init 17 = .ok (.newarray .long, 2) := by decide +kernel
theorem dX9_init_19 : decode cX9_init 19 = .ok (.putfield 18, 3) := by decide +kernel
theorem dX9_init_22 : decode cX9_init 22 = .ok (.return_, 1) := by decide +kernel
theorem dX9_isMissing_0 : decode cX9_isMissing 0 = .ok (.aload_n 0, 1) := by decide +kernel
theorem dX9_isMissing_1 : decode cX9_isMissing 1 = .ok (.getfield 9, 3) := by decide +kernel
theorem dX9_isMissing_4 : decode cX9_isMissing 4 = .ok (.iconst (-1), 1) := by decide +kernel
theorem dX9_isMissing_5 : decode cX9_isMissing 5 = .ok (.if_icmp .ne 7, 3) := by decide +kernel
theorem dX9_isMissing_8 : decode cX9_isMissing 8 = .ok (.iconst 1, 1) := by decide +kernel
theorem dX9_isMissing_9 : decode cX9_isMissing 9 = .ok (.goto 4, 3) := by decide +kernel
theorem dX9_isMissing_13 : decode cX9_isMissing 13 = .ok (.ireturn, 1) := by decide +kernel
theorem dX9_lay_0 : decode cX9_lay 0 = .ok (.aload_n 0, 1) := by decide +kernel
theorem dX9_lay_1 : decode cX9_lay 1 = .ok (.iload_n 1, 1) := by decide +kernel
theorem dX9_lay_2 : decode cX9_lay 2 = .ok (.putfield 9, 3) := by decide +kernel
theorem dX9_lay_5 : decode cX9_lay 5 = .ok (.aload_n 0, 1) := by decide +kernel
theorem dX9_lay_6 : decode cX9_lay 6 = .ok (.iload_n 2, 1) := by decide +kernel
theorem dX9_lay_7 : decode cX9_lay 7 = .ok (.putfield 15, 3) := by decide +kernel
theorem dX9_lay_10 : decode cX9_lay 10 = .ok (.aload_n 0, 1) := by decide +kernel
theorem dX9_lay_11 : decode cX9_lay 11 = .ok (.getfield 18, 3) := by decide +kernel
theorem dX9_lay_14 : decode cX9_lay 14 = .ok (.lconst 0, 1) := by decide +kernel
theorem dX9_lay_15 : decode cX9_lay 15 = .ok (.invokestatic 22, 3) := by decide +kernel
theorem dX9_lay_18 : decode cX9_lay 18 = .ok (.return_, 1) := by decide +kernel
