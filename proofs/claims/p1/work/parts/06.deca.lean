theorem dJ6_bitCount_0f7a4_0 : decode cJ6_bitCount_0f7a4 0 = .ok (.iload_n 0, 1) := by decide +kernel
theorem dJ6_bitCount_0f7a4_1 : decode cJ6_bitCount_0f7a4 1 = .ok (.iload_n 0, 1) := by decide +kernel
theorem dJ6_bitCount_0f7a4_2 : decode cJ6_bitCount_0f7a4 2 = .ok (.iconst 1, 1) := by decide +kernel
theorem dJ6_bitCount_0f7a4_3 : decode cJ6_bitCount_0f7a4 3 = .ok (.iushr, 1) := by decide +kernel
theorem dJ6_bitCount_0f7a4_4 : decode cJ6_bitCount_0f7a4 4 = .ok (.ldc_w 265, 3) := by decide +kernel
theorem dJ6_bitCount_0f7a4_7 : decode cJ6_bitCount_0f7a4 7 = .ok (.iand, 1) := by decide +kernel
theorem dJ6_bitCount_0f7a4_8 : decode cJ6_bitCount_0f7a4 8 = .ok (.isub, 1) := by decide +kernel
theorem dJ6_bitCount_0f7a4_9 : decode cJ6_bitCount_0f7a4 9 = .ok (.istore_n 0, 1) := by decide +kernel
theorem dJ6_bitCount_0f7a4_10 : decode cJ6_bitCount_0f7a4 10 = .ok (.iload_n 0, 1) := by decide +kernel
theorem dJ6_bitCount_0f7a4_11 : decode cJ6_bitCount_0f7a4 11 = .ok (.ldc_w 266, 3) := by decide +kernel
theorem dJ6_bitCount_0f7a4_14 : decode cJ6_bitCount_0f7a4 14 = .ok (.iand, 1) := by decide +kernel
theorem dJ6_bitCount_0f7a4_15 : decode cJ6_bitCount_0f7a4 15 = .ok (.iload_n 0, 1) := by decide +kernel
theorem dJ6_bitCount_0f7a4_16 : decode cJ6_bitCount_0f7a4 16 = .ok (.iconst 2, 1) := by decide +kernel
theorem dJ6_bitCount_0f7a4_17 : decode cJ6_bitCount_0f7a4 17 = .ok (.iushr, 1) := by decide +kernel
theorem dJ6_bitCount_0f7a4_18 : decode cJ6_bitCount_0f7a4 18 = .ok (.ldc_w 266, 3) := by decide +kernel
theorem dJ6_bitCount_0f7a4_21 : decode cJ6_bitCount_0f7a4 21 = .ok (.iand, 1) := by decide +kernel
theorem dJ6_bitCount_0f7a4_22 : decode cJ6_bitCount_0f7a4 22 = .ok (.iadd, 1) := by decide +kernel
theorem dJ6_bitCount_0f7a4_23 : decode cJ6_bitCount_0f7a4 23 = .ok (.istore_n 0, 1) := by decide +kernel
theorem dJ6_bitCount_0f7a4_24 : decode cJ6_bitCount_0f7a4 24 = .ok (.iload_n 0, 1) := by decide +kernel
theorem dJ6_bitCount_0f7a4_25 : decode cJ6_bitCount_0f7a4 25 = .ok (.iload_n 0, 1) := by decide +kernel
theorem dJ6_bitCount_0f7a4_26 : decode cJ6_bitCount_0f7a4 26 = .ok (.iconst 4, 1) := by decide +kernel
theorem dJ6_bitCount_0f7a4_27 : decode cJ6_bitCount_0f7a4 27 = .ok (.iushr, 1) := by decide +kernel
theorem dJ6_bitCount_0f7a4_28 : decode cJ6_bitCount_0f7a4 28 = .ok (.iadd, 1) := by decide +kernel
theorem dJ6_bitCount_0f7a4_29 : decode cJ6_bitCount_0f7a4 29 = .ok (.ldc_w 267, 3) := by decide +kernel
theorem dJ6_bitCount_0f7a4_32 : decode cJ6_bitCount_0f7a4 32 = .ok (.iand, 1) := by decide +kernel
theorem dJ6_bitCount_0f7a4_33 : decode cJ6_bitCount_0f7a4 33 = .ok (.istore_n 0, 1) := by decide +kernel
theorem dJ6_bitCount_0f7a4_34 : decode cJ6_bitCount_0f7a4 34 = .ok (.iload_n 0, 1) := by decide +kernel
theorem dJ6_bitCount_0f7a4_35 : decode cJ6_bitCount_0f7a4 35 = .ok (.iload_n 0, 1) := by decide +kernel
theorem dJ6_bitCount_0f7a4_36 : decode cJ6_bitCount_0f7a4 36 = .ok (.bipush 8, 2) := by decide +kernel
theorem dJ6_bitCount_0f7a4_38 : decode cJ6_bitCount_0f7a4 38 = .ok (.iushr, 1) := by decide +kernel
theorem dJ6_bitCount_0f7a4_39 : decode cJ6_bitCount_0f7a4 39 = .ok (.iadd, 1) := by decide +kernel
theorem dJ6_bitCount_0f7a4_40 : decode cJ6_bitCount_0f7a4 40 = .ok (.istore_n 0, 1) := by decide +kernel
theorem dJ6_bitCount_0f7a4_41 : decode cJ6_bitCount_0f7a4 41 = .ok (.iload_n 0, 1) := by decide +kernel
theorem dJ6_bitCount_0f7a4_42 : decode cJ6_bitCount_0f7a4 42 = .ok (.iload_n 0, 1) := by decide +kernel
theorem dJ6_bitCount_0f7a4_43 : decode cJ6_bitCount_0f7a4 43 = .ok (.bipush 16, 2) := by decide +kernel
theorem dJ6_bitCount_0f7a4_45 : decode cJ6_bitCount_0f7a4 45 = .ok (.iushr, 1) := by decide +kernel
theorem dJ6_bitCount_0f7a4_46 : decode cJ6_bitCount_0f7a4 46 = .ok (.iadd, 1) := by decide +kernel
theorem dJ6_bitCount_0f7a4_47 : decode cJ6_bitCount_0f7a4 47 = .ok (.istore_n 0, 1) := by decide +kernel
theorem dJ6_bitCount_0f7a4_48 : decode cJ6_bitCount_0f7a4 48 = .ok (.iload_n 0, 1) := by decide +kernel
theorem dJ6_bitCount_0f7a4_49 : decode cJ6_bitCount_0f7a4 49 = .ok (.bipush 63, 2) := by decide +kernel
theorem dJ6_bitCount_0f7a4_51 : decode cJ6_bitCount_0f7a4 51 = .ok (.iand, 1) := by decide +kernel
theorem dJ6_bitCount_0f7a4_52 : decode cJ6_bitCount_0f7a4 52 = .ok (.ireturn, 1) := by decide +kernel
theorem dJ7_fill_53178_0 : decode cJ7_fill_53178 0 = .ok (.iconst 0, 1) := by decide +kernel
theorem dJ7_fill_53178_1 : decode cJ7_fill_53178 1 = .ok (.istore_n 2, 1) := by decide +kernel
theorem dJ7_fill_53178_2 : decode cJ7_fill_53178 2 = .ok (.aload_n 0, 1) := by decide +kernel
theorem dJ7_fill_53178_3 : decode cJ7_fill_53178 3 = .ok (.arraylength, 1) := by decide +kernel
theorem dJ7_fill_53178_4 : decode cJ7_fill_53178 4 = .ok (.istore_n 3, 1) := by decide +kernel
theorem dJ7_fill_53178_5 : decode cJ7_fill_53178 5 = .ok (.iload_n 2, 1) := by decide +kernel
theorem dJ7_fill_53178_6 : decode cJ7_fill_53178 6 = .ok (.iload_n 3, 1) := by decide +kernel
theorem dJ7_fill_53178_7 : decode cJ7_fill_53178 7 = .ok (.if_icmp .ge 13, 3) := by decide +kernel
theorem dJ7_fill_53178_10 : decode cJ7_fill_53178 10 = .ok (.aload_n 0, 1) := by decide +kernel
theorem dJ7_fill_53178_11 : decode cJ7_fill_53178 11 = .ok (.iload_n 2, 1) := by decide +kernel
theorem dJ7_fill_53178_12 : decode cJ7_fill_53178 12 = .ok (.iload_n 1, 1) := by decide +kernel
theorem dJ7_fill_53178_13 : decode cJ7_fill_53178 13 = .ok (.iastore, 1) := by decide +kernel
theorem dJ7_fill_53178_14 : decode cJ7_fill_53178 14 = .ok (.iinc 2 1, 3) := by decide +kernel
theorem dJ7_fill_53178_17 : decode cJ7_fill_53178 17 = .ok (.goto (-12), 3) := by decide +kernel
theorem dJ7_fill_53178_20 : decode cJ7_fill_53178 20 = .ok (.return_, 1) := by decide +kernel
theorem dJ7_fill_d0a16_0 : decode cJ7_fill_d0a16 0 = .ok (.iconst 0, 1) := by decide +kernel
theorem dJ7_fill_d0a16_1 : decode cJ7_fill_d0a16 1 = .ok (.istore_n 3, 1) := by decide +kernel
theorem dJ7_fill_d0a16_2 : decode cJ7_fill_d0a16 2 = .ok (.aload_n 0, 1) := by decide +kernel
theorem dJ7_fill_d0a16_3 : decode cJ7_fill_d0a16 3 = .ok (.arraylength, 1) := by decide +kernel
theorem dJ7_fill_d0a16_4 : decode cJ7_fill_d0a16 4 = .ok (.istore 4, 2) := by decide +kernel
theorem dJ7_fill_d0a16_6 : decode cJ7_fill_d0a16 6 = .ok (.iload_n 3, 1) := by decide +kernel
theorem dJ7_fill_d0a16_7 : decode cJ7_fill_d0a16 7 = .ok (.iload 4, 2) := by decide +kernel
theorem dJ7_fill_d0a16_9 : decode cJ7_fill_d0a16 9 = .ok (.if_icmp .ge 13, 3) := by decide +kernel
theorem dJ7_fill_d0a16_12 : decode cJ7_fill_d0a16 12 = .ok (.aload_n 0, 1) := by decide +kernel
theorem dJ7_fill_d0a16_13 : decode cJ7_fill_d0a16 13 = .ok (.iload_n 3, 1) := by decide +kernel
theorem dJ7_fill_d0a16_14 : decode cJ7_fill_d0a16 14 = .ok (.lload_n 1, 1) := by decide +kernel
theorem dJ7_fill_d0a16_15 : decode cJ7_fill_d0a16 15 = .ok (.lastore, 1) := by decide +kernel
theorem dJ7_fill_d0a16_16 : decode cJ7_fill_d0a16 16 = .ok (.iinc 3 1, 3) := by decide +kernel
theorem dJ7_fill_d0a16_19 : decode cJ7_fill_d0a16 19 = .ok (.goto (-13), 3) := by decide +kernel
theorem dJ7_fill_d0a16_22 : decode cJ7_fill_d0a16 22 = .ok (.return_, 1) := by decide +kernel
theorem dX0_canSit_0 : decode cX0_canSit 0 = .ok (.iload_n 1, 1) := by decide +kernel
theorem dX0_canSit_1 : decode cX0_canSit 1 = .ok (.ifCond .ne 5, 3) := by decide +kernel
theorem dX0_canSit_4 : decode cX0_canSit 4 = .ok (.iconst 1, 1) := by decide +kernel
theorem dX0_canSit_5 : decode cX0_canSit 5 = .ok (.ireturn, 1) := by decide +kernel
theorem dX0_canSit_6 : decode cX0_canSit 6 = .ok (.iload_n 2, 1) := by decide +kernel
theorem dX0_canSit_7 : decode cX0_canSit 7 = .ok (.bipush 10, 2) := by decide +kernel
theorem dX0_canSit_9 : decode cX0_canSit 9 = .ok (.if_icmp .lt 5, 3) := by decide +kernel
theorem dX0_canSit_12 : decode cX0_canSit 12 = .ok (.iconst 0, 1) := by decide +kernel
theorem dX0_canSit_13 : decode cX0_canSit 13 = .ok (.ireturn, 1) := by decide +kernel
theorem dX0_canSit_14 : decode cX0_canSit 14 = .ok (.iload_n 1, 1) := by decide +kernel
theorem dX0_canSit_15 : decode cX0_canSit 15 = .ok (.invokestatic 55, 3) := by decide +kernel
theorem dX0_canSit_18 : decode cX0_canSit 18 = .ok (.istore_n 3, 1) := by decide +kernel
theorem dX0_canSit_19 : decode cX0_canSit 19 = .ok (.aload_n 0, 1) := by decide +kernel
theorem dX0_canSit_20 : decode cX0_canSit 20 = .ok (.getfield 15, 3) := by decide +kernel
theorem dX0_canSit_23 : decode cX0_canSit 23 = .ok (.iload_n 3, 1) := by decide +kernel
theorem dX0_canSit_24 : decode cX0_canSit 24 = .ok (.iaload, 1) := by decide +kernel
theorem dX0_canSit_25 : decode cX0_canSit 25 = .ok (.iload_n 1, 1) := by decide +kernel
theorem dX0_canSit_26 : decode cX0_canSit 26 = .ok (.iand, 1) := by decide +kernel
theorem dX0_canSit_27 : decode cX0_canSit 27 = .ok (.istore 4, 2) := by decide +kernel
theorem dX0_canSit_29 : decode cX0_canSit 29 = .ok (.iload_n 3, 1) := by decide +kernel
theorem dX0_canSit_30 : decode cX0_canSit 30 = .ok (.iconst 1, 1) := by decide +kernel
theorem dX0_canSit_31 : decode cX0_canSit 31 = .ok (.iadd, 1) := by decide +kernel
theorem dX0_canSit_32 : decode cX0_canSit 32 = .ok (.istore 5, 2) := by decide +kernel
theorem dX0_canSit_34 : decode cX0_canSit 34 = .ok (.iload 5, 2) := by decide +kernel
theorem dX0_canSit_36 : decode cX0_canSit 36 = .ok (.aload_n 0, 1) := by decide +kernel
theorem dX0_canSit_37 : decode cX0_canSit 37 = .ok (.getfield 9, 3) := by decide +kernel
theorem dX0_canSit_40 : decode cX0_canSit 40 = .ok (.if_icmp .ge 44, 3) := by decide +kernel
theorem dX0_canSit_43 : decode cX0_canSit 43 = .ok (.iload 4, 2) := by decide +kernel
theorem dX0_canSit_45 : decode cX0_canSit 45 = .ok (.iload 5, 2) := by decide +kernel
theorem dX0_canSit_47 : decode cX0_canSit 47 = .ok (.ishr, 1) := by decide +kernel
theorem dX0_canSit_48 : decode cX0_canSit 48 = .ok (.iconst 1, 1) := by decide +kernel
theorem dX0_canSit_49 : decode cX0_canSit 49 = .ok (.iand, 1) := by decide +kernel
theorem dX0_canSit_50 : decode cX0_canSit 50 = .ok (.iconst 1, 1) := by decide +kernel
theorem dX0_canSit_51 : decode cX0_canSit 51 = .ok (.if_icmp .ne 27, 3) := by decide +kernel
theorem dX0_canSit_54 : decode cX0_canSit 54 = .ok (.aload_n 0, 1) := by decide +kernel
theorem dX0_canSit_55 : decode cX0_canSit 55 = .ok (.iload_n 1, 1) := by decide +kernel
theorem dX0_canSit_56 : decode cX0_canSit 56 = .ok (.iconst 1, 1) := by decide +kernel
theorem dX0_canSit_57 : decode cX0_canSit 57 = .ok (.iload_n 3, 1) := by decide +kernel
theorem dX0_canSit_58 : decode cX0_canSit 58 = .ok (.ishl, 1) := by decide +kernel
theorem dX0_canSit_59 : decode cX0_canSit 59 = .ok (.iconst 1, 1) := by decide +kernel
theorem dX0_canSit_60 : decode cX0_canSit 60 = .ok (.iload 5, 2) := by decide +kernel
theorem dX0_canSit_62 : decode cX0_canSit 62 = .ok (.ishl, 1) := by decide +kernel
theorem dX0_canSit_63 : decode cX0_canSit 63 = .ok (.ior, 1) := by decide +kernel
theorem dX0_canSit_64 : decode cX0_canSit 64 = .ok (.iconst (-1), 1) := by decide +kernel
theorem dX0_canSit_65 : decode cX0_canSit 65 = .ok (.ixor, 1) := by decide +kernel
theorem dX0_canSit_66 : decode cX0_canSit 66 = .ok (.iand, 1) := by decide +kernel
theorem dX0_canSit_67 : decode cX0_canSit 67 = .ok (.iload_n 2, 1) := by decide +kernel
theorem dX0_canSit_68 : decode cX0_canSit 68 = .ok (.iconst 1, 1) := by decide +kernel
theorem dX0_canSit_69 : decode cX0_canSit 69 = .ok (.iadd, 1) := by decide +kernel
theorem dX0_canSit_70 : decode cX0_canSit 70 = .ok (.invokevirtual 58, 3) := by decide +kernel
theorem dX0_canSit_73 : decode cX0_canSit 73 = .ok (.ifCond .eq 5, 3) := by decide +kernel
theorem dX0_canSit_76 : decode cX0_canSit 76 = .ok (.iconst 1, 1) := by decide +kernel
theorem dX0_canSit_77 : decode cX0_canSit 77 = .ok (.ireturn, 1) := by decide +kernel
theorem dX0_canSit_78 : decode cX0_canSit 78 = .ok (.iinc 5 1, 3) := by decide +kernel
theorem dX0_canSit_81 : decode cX0_canSit 81 = .ok (.goto (-47), 3) := by decide +kernel
theorem dX0_canSit_84 : decode cX0_canSit 84 = .ok (.iconst 0, 1) := by decide +kernel
theorem dX0_canSit_85 : decode cX0_canSit 85 = .ok (.ireturn, 1) := by decide +kernel
theorem dX0_countPartings_0 : decode cX0_countPartings 0 = .ok (.aload_n 0, 1) := by decide +kernel
theorem dX0_countPartings_1 : decode cX0_countPartings 1 = .ok (.getfield 19, 3) := by decide +kernel
theorem dX0_countPartings_4 : decode cX0_countPartings 4 = .ok (.iconst 0, 1) := by decide +kernel
theorem dX0_countPartings_5 : decode cX0_countPartings 5 = .ok (.iconst 1, 1) := by decide +kernel
theorem dX0_countPartings_6 : decode cX0_countPartings 6 = .ok (.iastore, 1) := by decide +kernel
theorem dX0_countPartings_7 : decode cX0_countPartings 7 = .ok (.iconst 1, 1) := by decide +kernel
theorem dX0_countPartings_8 : decode cX0_countPartings 8 = .ok (.istore_n 1, 1) := by decide +kernel
theorem dX0_countPartings_9 : decode cX0_countPartings 9 = .ok (.iload_n 1, 1) := by decide +kernel
theorem dX0_countPartings_10 : decode cX0_countPartings 10 = .ok (.iconst 1, 1) := by decide +kernel
theorem dX0_countPartings_11 : decode cX0_countPartings 11 = .ok (.aload_n 0, 1) := by decide +kernel
theorem dX0_countPartings_12 : decode cX0_countPartings 12 = .ok (.getfield 9, 3) := by decide +kernel
theorem dX0_countPartings_15 : decode cX0_countPartings 15 = .ok (.ishl, 1) := by decide +kernel
theorem dX0_countPartings_16 : decode cX0_countPartings 16 = .ok (.if_icmp .ge 86, 3) := by decide +kernel
theorem dX0_countPartings_19 : decode cX0_countPartings 19 = .ok (.iload_n 1, 1) := by decide +kernel
theorem dX0_countPartings_20 : decode cX0_countPartings 20 = .ok (.invokestatic 55, 3) := by decide +kernel
theorem dX0_countPartings_23 : decode cX0_countPartings 23 = .ok (.istore_n 2, 1) := by decide +kernel
theorem dX0_countPartings_24 : decode cX0_countPartings 24 = .ok (.aload_n 0, 1) := by decide +kernel
theorem dX0_countPartings_25 : decode cX0_countPartings 25 = .ok (.getfield 15, 3) := by decide +kernel
theorem dX0_countPartings_28 : decode cX0_countPartings 28 = .ok (.iload_n 2, 1) := by decide +kernel
theorem dX0_countPartings_29 : decode cX0_countPartings 29 = .ok (.iaload, 1) := by decide +kernel
theorem dX0_countPartings_30 : decode cX0_countPartings 30 = .ok (.iload_n 1, 1) := by decide +kernel
theorem dX0_countPartings_31 : decode cX0_countPartings 31 = .ok (.iand, 1) := by decide +kernel
theorem dX0_countPartings_32 : decode cX0_countPartings 32 = .ok (.istore_n 3, 1) := by decide +kernel
theorem dX0_countPartings_33 : decode cX0_countPartings 33 = .ok (.iconst 0, 1) := by decide +kernel
theorem dX0_countPartings_34 : decode cX0_countPartings 34 = .ok (.istore 4, 2) := by decide +kernel
theorem dX0_countPartings_36 : decode cX0_countPartings 36 = .ok (.iload_n 2, 1) := by decide +kernel
theorem dX0_countPartings_37 : decode cX0_countPartings 37 = .ok (.iconst 1, 1) := by decide +kernel
theorem dX0_countPartings_38 : decode cX0_countPartings 38 = .ok (.iadd, 1) := by decide +kernel
theorem dX0_countPartings_39 : decode cX0_countPartings 39 = .ok (.istore 5, 2) := by decide +kernel
theorem dX0_countPartings_41 : decode cX0_countPartings 41 = .ok (.iload 5, 2) := by decide +kernel
theorem dX0_countPartings_43 : decode cX0_countPartings 43 = .ok (.aload_n 0, 1) := by decide +kernel
theorem dX0_countPartings_44 : decode cX0_countPartings 44 = .ok (.getfield 9, 3) := by decide +kernel
theorem dX0_countPartings_47 : decode cX0_countPartings 47 = .ok (.if_icmp .ge 41, 3) := by decide +kernel
theorem dX0_countPartings_50 : decode cX0_countPartings 50 = .ok (.iload_n 3, 1) := by decide +kernel
theorem dX0_countPartings_51 : decode cX0_countPartings 51 = .ok (.iload 5, 2) := by decide +kernel
theorem dX0_countPartings_53 : decode cX0_countPartings 53 = .ok (.ishr, 1) := by decide +kernel
theorem dX0_countPartings_54 : decode cX0_countPartings 54 = .ok (.iconst 1, 1) := by decide +kernel
theorem dX0_countPartings_55 : decode cX0_countPartings 55 = .ok (.iand, 1) := by decide +kernel
theorem dX0_countPartings_56 : decode cX0_countPartings 56 = .ok (.iconst 1, 1) := by decide +kernel
theorem dX0_countPartings_57 : decode cX0_countPartings 57 = .ok (.if_icmp .ne 25, 3) := by decide +kernel
theorem dX0_countPartings_60 : decode cX0_countPartings 60 = .ok (.iload 4, 2) := by decide +kernel
theorem dX0_countPartings_62 : decode cX0_countPartings 62 = .ok (.aload_n 0, 1) := by decide +kernel
theorem dX0_countPartings_63 : decode cX0_countPartings 63 = .ok (.getfield 19, 3) := by decide +kernel
theorem dX0_countPartings_66 : decode cX0_countPartings 66 = .ok (.iload_n 1, 1) := by decide +kernel
theorem dX0_countPartings_67 : decode cX0_countPartings 67 = .ok (.iconst 1, 1) := by decide +kernel
theorem dX0_countPartings_68 : decode cX0_countPartings 68 = .ok (.iload_n 2, 1) := by decide +kernel
theorem dX0_countPartings_69 : decode cX0_countPartings 69 = .ok (.ishl, 1) := by decide +kernel
theorem dX0_countPartings_70 : decode cX0_countPartings 70 = .ok (.iconst 1, 1) := by decide +kernel
theorem dX0_countPartings_71 : decode cX0_countPartings 71 = .ok (.iload 5, 2) := by decide +kernel
theorem dX0_countPartings_73 : decode cX0_countPartings 73 = .ok (.ishl, 1) := by decide +kernel
theorem dX0_countPartings_74 : decode cX0_countPartings 74 = .ok (.ior, 1) := by decide +kernel
theorem dX0_countPartings_75 : decode cX0_countPartings 75 = .ok (.iconst (-1), 1) := by decide +kernel
theorem dX0_countPartings_76 : decode cX0_countPartings 76 = .ok (.ixor, 1) := by decide +kernel
theorem dX0_countPartings_77 : decode cX0_countPartings 77 = .ok (.iand, 1) := by decide +kernel
theorem dX0_countPartings_78 : decode cX0_countPartings 78 = .ok (.iaload, 1) := by decide +kernel
theorem dX0_countPartings_79 : decode cX0_countPartings 79 = .ok (.iadd, 1) := by decide +kernel
theorem dX0_countPartings_80 : decode cX0_countPartings 80 = .ok (.istore 4, 2) := by decide +kernel
theorem dX0_countPartings_82 : decode cX0_countPartings 82 = .ok (.iinc 5 1, 3) := by decide +kernel
theorem dX0_countPartings_85 : decode cX0_countPartings 85 = .ok (.goto (-44), 3) := by decide +kernel
theorem dX0_countPartings_88 : decode cX0_countPartings 88 = .ok (.aload_n 0, 1) := by decide +kernel
theorem dX0_countPartings_89 : decode cX0_countPartings 89 = .ok (.getfield 19, 3) := by decide +kernel
theorem dX0_countPartings_92 : decode cX0_countPartings 92 = .ok (.iload_n 1, 1) := by decide +kernel
theorem dX0_countPartings_93 : decode cX0_countPartings 93 = .ok (.iload 4, 2) := by decide +kernel
theorem dX0_countPartings_95 : decode cX0_countPartings 95 = .ok (.iastore, 1) := by decide +kernel
theorem dX0_countPartings_96 : decode cX0_countPartings 96 = .ok (.iinc 1 1, 3) := by decide +kernel
theorem dX0_countPartings_99 : decode cX0_countPartings 99 = .ok (.goto (-90), 3) := by decide +kernel
theorem dX0_countPartings_102 : decode cX0_countPartings 102 = .ok (.return_, 1) := by decide +kernel
theorem dX0_countPieces_0 : decode cX0_countPieces 0 = .ok (.iload_n 1, 1) := by decide +kernel
theorem dX0_countPieces_1 : decode cX0_countPieces 1 = .ok (.istore_n 3, 1) := by decide +kernel
theorem dX0_countPieces_2 : decode cX0_countPieces 2 = .ok (.iconst 0, 1) := by decide +kernel
theorem dX0_countPieces_3 : decode cX0_countPieces 3 = .ok (.istore 4, 2) := by decide +kernel
theorem dX0_countPieces_5 : decode cX0_countPieces 5 = .ok (.iconst 0, 1) := by decide +kernel
theorem dX0_countPieces_6 : decode cX0_countPieces 6 = .ok (.istore 5, 2) := by decide +kernel
theorem dX0_countPieces_8 : decode cX0_countPieces 8 = .ok (.iload 5, 2) := by decide +kernel
theorem dX0_countPieces_10 : decode cX0_countPieces 10 = .ok (.aload_n 0, 1) := by decide +kernel
theorem dX0_countPieces_11 : decode cX0_countPieces 11 = .ok (.getfield 9, 3) := by decide +kernel
theorem dX0_countPieces_14 : decode cX0_countPieces 14 = .ok (.if_icmp .ge 49, 3) := by decide +kernel
theorem dX0_countPieces_17 : decode cX0_countPieces 17 = .ok (.iload_n 3, 1) := by decide +kernel
theorem dX0_countPieces_18 : decode cX0_countPieces 18 = .ok (.ifCond .eq 45, 3) := by decide +kernel
theorem dX0_countPieces_21 : decode cX0_countPieces 21 = .ok (.aload_n 0, 1) := by decide +kernel
theorem dX0_countPieces_22 : decode cX0_countPieces 22 = .ok (.iload_n 3, 1) := by decide +kernel
theorem dX0_countPieces_23 : decode cX0_countPieces 23 = .ok (.iload_n 3, 1) := by decide +kernel
theorem dX0_countPieces_24 : decode cX0_countPieces 24 = .ok (.ineg, 1) := by decide +kernel
theorem dX0_countPieces_25 : decode cX0_countPieces 25 = .ok (.iand, 1) := by decide +kernel
theorem dX0_countPieces_26 : decode cX0_countPieces 26 = .ok (.iload_n 3, 1) := by decide +kernel
theorem dX0_countPieces_27 : decode cX0_countPieces 27 = .ok (.invokevirtual 76, 3) := by decide +kernel
theorem dX0_countPieces_30 : decode cX0_countPieces 30 = .ok (.istore 6, 2) := by decide +kernel
theorem dX0_countPieces_32 : decode cX0_countPieces 32 = .ok (.iload_n 3, 1) := by decide +kernel
theorem dX0_countPieces_33 : decode cX0_countPieces 33 = .ok (.iload 6, 2) := by decide +kernel
theorem dX0_countPieces_35 : decode cX0_countPieces 35 = .ok (.iconst (-1), 1) := by decide +kernel
theorem dX0_countPieces_36 : decode cX0_countPieces 36 = .ok (.ixor, 1) := by decide +kernel
theorem dX0_countPieces_37 : decode cX0_countPieces 37 = .ok (.iand, 1) := by decide +kernel
theorem dX0_countPieces_38 : decode cX0_countPieces 38 = .ok (.istore_n 3, 1) := by decide +kernel
theorem dX0_countPieces_39 : decode cX0_countPieces 39 = .ok (.iload_n 2, 1) := by decide +kernel
theorem dX0_countPieces_40 : decode cX0_countPieces 40 = .ok (.ifCond .eq 14, 3) := by decide +kernel
theorem dX0_countPieces_43 : decode cX0_countPieces 43 = .ok (.iload 6, 2) := by decide +kernel
theorem dX0_countPieces_45 : decode cX0_countPieces 45 = .ok (.invokestatic 49, 3) := by decide +kernel
theorem dX0_countPieces_48 : decode cX0_countPieces 48 = .ok (.iconst 2, 1) := by decide +kernel
theorem dX0_countPieces_49 : decode cX0_countPieces 49 = .ok (.irem, 1) := by decide +kernel
theorem dX0_countPieces_50 : decode cX0_countPieces 50 = .ok (.iconst 1, 1) := by decide +kernel
theorem dX0_countPieces_51 : decode cX0_countPieces 51 = .ok (.if_icmp .ne 6, 3) := by decide +kernel
theorem dX0_countPieces_54 : decode cX0_countPieces 54 = .ok (.iinc 4 1, 3) := by decide +kernel
theorem dX0_countPieces_57 : decode cX0_countPieces 57 = .ok (.iinc 5 1, 3) := by decide +kernel
theorem dX0_countPieces_60 : decode cX0_countPieces 60 = .ok (.goto (-52), 3) := by decide +kernel
theorem dX0_countPieces_63 : decode cX0_countPieces 63 = .ok (.iload 4, 2) := by decide +kernel
theorem dX0_countPieces_65 : decode cX0_countPieces 65 = .ok (.ireturn, 1) := by decide +kernel
theorem dX0_draw_0 : decode cX0_draw 0 = .ok (.aload_n 0, 1) := by decide +kernel
theorem dX0_draw_1 : decode cX0_draw 1 = .ok (.aload_n 1, 1) := by decide +kernel
theorem dX0_draw_2 : decode cX0_draw 2 = .ok (.getfield 25, 3) := by decide +kernel
theorem dX0_draw_5 : decode cX0_draw 5 = .ok (.getfield 31, 3) := by decide +kernel
theorem dX0_draw_8 : decode cX0_draw 8 = .ok (.putfield 9, 3) := by decide +kernel
theorem dX0_draw_11 : decode cX0_draw 11 = .ok (.aload_n 0, 1) := by decide +kernel
theorem dX0_draw_12 : decode cX0_draw 12 = .ok (.getfield 15, 3) := by decide +kernel
theorem dX0_draw_15 : decode cX0_draw 15 = .ok (.iconst 0, 1) := by decide +kernel
theorem dX0_draw_16 : decode cX0_draw 16 = .ok (.invokestatic 34, 3) := by decide +kernel
theorem dX0_draw_19 : decode cX0_draw 19 = .ok (.iconst 0, 1) := by decide +kernel
theorem dX0_draw_20 : decode cX0_draw 20 = .ok (.istore 4, 2) := by decide +kernel
theorem dX0_draw_22 : decode cX0_draw 22 = .ok (.iload 4, 2) := by decide +kernel
theorem dX0_draw_24 : decode cX0_draw 24 = .ok (.aload_n 0, 1) := by decide +kernel
theorem dX0_draw_25 : decode cX0_draw 25 = .ok (.getfield 9, 3) := by decide +kernel
theorem dX0_draw_28 : decode cX0_draw 28 = .ok (.if_icmp .ge 78, 3) := by decide +kernel
theorem dX0_draw_31 : decode cX0_draw 31 = .ok (.iload 4, 2) := by decide +kernel
theorem dX0_draw_33 : decode cX0_draw 33 = .ok (.iconst 1, 1) := by decide +kernel
theorem dX0_draw_34 : decode cX0_draw 34 = .ok (.iadd, 1) := by decide +kernel
theorem dX0_draw_35 : decode cX0_draw 35 = .ok (.istore 5, 2) := by decide +kernel
theorem dX0_draw_37 : decode cX0_draw 37 = .ok (.iload 5, 2) := by decide +kernel
theorem dX0_draw_39 : decode cX0_draw 39 = .ok (.aload_n 0, 1) := by decide +kernel
theorem dX0_draw_40 : decode cX0_draw 40 = .ok (.getfield 9, 3) := by decide +kernel
theorem dX0_draw_43 : decode cX0_draw 43 = .ok (.if_icmp .ge 57, 3) := by decide +kernel
theorem dX0_draw_46 : decode cX0_draw 46 = .ok (.aload_n 3, 1) := by decide +kernel
theorem dX0_draw_47 : decode cX0_draw 47 = .ok (.aload_n 1, 1) := by decide +kernel
theorem dX0_draw_48 : decode cX0_draw 48 = .ok (.iload 4, 2) := by decide +kernel
theorem dX0_draw_50 : decode cX0_draw 50 = .ok (.aload_n 1, 1) := by decide +kernel
theorem dX0_draw_51 : decode cX0_draw 51 = .ok (.getfield 40, 3) := by decide +kernel
theorem dX0_draw_54 : decode cX0_draw 54 = .ok (.iload 4, 2) := by decide +kernel
theorem dX0_draw_56 : decode cX0_draw 56 = .ok (.iaload, 1) := by decide +kernel
theorem dX0_draw_57 : decode cX0_draw 57 = .ok (.iload 5, 2) := by decide +kernel
theorem dX0_draw_59 : decode cX0_draw 59 = .ok (.iload_n 2, 1) := by decide +kernel
theorem dX0_draw_60 : decode cX0_draw 60 = .ok (.invokevirtual 43, 3) := by decide +kernel
theorem dX0_draw_63 : decode cX0_draw 63 = .ok (.ifCond .eq 31, 3) := by decide +kernel
theorem dX0_draw_66 : decode cX0_draw 66 = .ok (.aload_n 0, 1) := by decide +kernel
theorem dX0_draw_67 : decode cX0_draw 67 = .ok (.getfield 15, 3) := by decide +kernel
theorem dX0_draw_70 : decode cX0_draw 70 = .ok (.iload 4, 2) := by decide +kernel
theorem dX0_draw_72 : decode cX0_draw 72 = .ok (.dup2, 1) := by decide +kernel
theorem dX0_draw_73 : decode cX0_draw 73 = .ok (.iaload, 1) := by decide +kernel
theorem dX0_draw_74 : decode cX0_draw 74 = .ok (.iconst 1, 1) := by decide +kernel
theorem dX0_draw_75 : decode cX0_draw 75 = .ok (.iload 5, 2) := by decide +kernel
theorem dX0_draw_77 : decode cX0_draw 77 = .ok (.ishl, 1) := by decide +kernel
theorem dX0_draw_78 : decode cX0_draw 78 = .ok (.ior, 1) := by decide +kernel
theorem dX0_draw_79 : decode cX0_draw 79 = .ok (.iastore, 1) := by decide +kernel
theorem dX0_draw_80 : decode cX0_draw 80 = .ok (.aload_n 0, 1) := by decide +kernel
theorem dX0_draw_81 : decode cX0_draw 81 = .ok (.getfield 15, 3) := by decide +kernel
theorem dX0_draw_84 : decode cX0_draw 84 = .ok (.iload 5, 2) := by decide +kernel
theorem dX0_draw_86 : decode cX0_draw 86 = .ok (.dup2, 1) := by decide +kernel
theorem dX0_draw_87 : decode cX0_draw 87 = .ok (.iaload, 1) := by decide +kernel
theorem dX0_draw_88 : decode cX0_draw 88 = .ok (.iconst 1, 1) := by decide +kernel
theorem dX0_draw_89 : decode cX0_draw 89 = .ok (.iload 4, 2) := by decide +kernel
theorem dX0_draw_91 : decode cX0_draw 91 = .ok (.ishl, 1) := by decide +kernel
theorem dX0_draw_92 : decode cX0_draw 92 = .ok (.ior, 1) := by decide +kernel
theorem dX0_draw_93 : decode cX0_draw 93 = .ok (.iastore, 1) := by decide +kernel
theorem dX0_draw_94 : decode cX0_draw 94 = .ok (.iinc 5 1, 3) := by decide +kernel
theorem dX0_draw_97 : decode cX0_draw 97 = .ok (.goto (-60), 3) := by decide +kernel
theorem dX0_draw_100 : decode cX0_draw 100 = .ok (.iinc 4 1, 3) := by decide +kernel
theorem dX0_draw_103 : decode cX0_draw 103 = .ok (.goto (-81), 3) := by decide +kernel
theorem dX0_draw_106 : decode cX0_draw 106 = .ok (.return_, 1) := by decide +kernel
theorem dX0_init_0 : decode cX0_init 0 = .ok (.aload_n 0, 1) := by decide +kernel
theorem dX0_init_1 : decode cX0_init 1 = .ok (.invokespecial 3, 3) := by decide +kernel
theorem dX0_init_4 : decode cX0_init 4 = .ok (.aload_n 0, 1) := by decide +kernel
theorem dX0_init_5 : decode cX0_init 5 = .ok (.iconst 0, 1) := by decide +kernel
theorem dX0_init_6 : decode cX0_init 6 = .ok (.putfield 9, 3) := by decide +kernel
theorem dX0_init_9 : decode cX0_init 9 = .ok (.aload_n 0, 1) := by decide +kernel
theorem dX0_init_10 : decode cX0_init 10 = .ok (.bipush 10, 2) := by decide +kernel
theorem dX0_init_12 : decode cX0_init 12 = .ok (.newarray .int, 2) := by decide +kernel
theorem dX0_init_14 : decode cX0_init 14 = .ok (.putfield 15, 3) := by decide +kernel
theorem dX0_init_17 : decode cX0_init 17 = .ok (.aload_n 0, 1) := by decide +kernel
theorem dX0_init_18 : decode cX0_init 18 = .ok (.sipush 1024, 3) := by decide +kernel
theorem dX0_init_21 : decode cX0_init 21 = .ok (.newarray .int, 2) := by decide +kernel
theorem dX0_init_23 : decode cX0_init 23 = .ok (.putfield 19, 3) := by decide +kernel
theorem dX0_init_26 : decode cX0_init 26 = .ok (.aload_n 0, 1) := by decide +kernel
theorem dX0_init_27 : decode cX0_init 27 = .ok (.sipush 1024, 3) := by decide +kernel
theorem dX0_init_30 : decode cX0_init 30 = .ok (.newarray .int, 2) := by decide +kernel
theorem dX0_init_32 : decode cX0_init 32 = .ok (.putfield 22, 3) := by decide +kernel
theorem dX0_init_35 : decode cX0_init 35 = .ok (.return_, 1) := by decide +kernel
theorem dX0_leastBar_0 : decode cX0_leastBar 0 = .ok (.iload_n 1, 1) := by decide +kernel
theorem dX0_leastBar_1 : decode cX0_leastBar 1 = .ok (.invokestatic 49, 3) := by decide +kernel
theorem dX0_leastBar_4 : decode cX0_leastBar 4 = .ok (.iconst 2, 1) := by decide +kernel
theorem dX0_leastBar_5 : decode cX0_leastBar 5 = .ok (.aload_n 0, 1) := by decide +kernel
theorem dX0_leastBar_6 : decode cX0_leastBar 6 = .ok (.iload_n 1, 1) := by decide +kernel
theorem dX0_leastBar_7 : decode cX0_leastBar 7 = .ok (.invokevirtual 79, 3) := by decide +kernel
theorem dX0_leastBar_10 : decode cX0_leastBar 10 = .ok (.imul, 1) := by decide +kernel
theorem dX0_leastBar_11 : decode cX0_leastBar 11 = .ok (.isub, 1) := by decide +kernel
theorem dX0_leastBar_12 : decode cX0_leastBar 12 = .ok (.istore_n 2, 1) := by decide +kernel
theorem dX0_leastBar_13 : decode cX0_leastBar 13 = .ok (.iconst 0, 1) := by decide +kernel
theorem dX0_leastBar_14 : decode cX0_leastBar 14 = .ok (.istore_n 3, 1) := by decide +kernel
theorem dX0_leastBar_15 : decode cX0_leastBar 15 = .ok (.bipush 11, 2) := by decide +kernel
theorem dX0_leastBar_17 : decode cX0_leastBar 17 = .ok (.istore 4, 2) := by decide +kernel
theorem dX0_leastBar_19 : decode cX0_leastBar 19 = .ok (.iconst 0, 1) := by decide +kernel
theorem dX0_leastBar_20 : decode cX0_leastBar 20 = .ok (.istore 5, 2) := by decide +kernel
theorem dX0_leastBar_22 : decode cX0_leastBar 22 = .ok (.iload 5, 2) := by decide +kernel
theorem dX0_leastBar_24 : decode cX0_leastBar 24 = .ok (.iload_n 1, 1) := by decide +kernel
theorem dX0_leastBar_25 : decode cX0_leastBar 25 = .ok (.if_icmp .gt 57, 3) := by decide +kernel
theorem dX0_leastBar_28 : decode cX0_leastBar 28 = .ok (.iload 5, 2) := by decide +kernel
theorem dX0_leastBar_30 : decode cX0_leastBar 30 = .ok (.invokestatic 49, 3) := by decide +kernel
theorem dX0_leastBar_33 : decode cX0_leastBar 33 = .ok (.istore 6, 2) := by decide +kernel
theorem dX0_leastBar_35 : decode cX0_leastBar 35 = .ok (.iload 5, 2) := by decide +kernel
theorem dX0_leastBar_37 : decode cX0_leastBar 37 = .ok (.iload_n 1, 1) := by decide +kernel
theorem dX0_leastBar_38 : decode cX0_leastBar 38 = .ok (.iconst (-1), 1) := by decide +kernel
theorem dX0_leastBar_39 : decode cX0_leastBar 39 = .ok (.ixor, 1) := by decide +kernel
theorem dX0_leastBar_40 : decode cX0_leastBar 40 = .ok (.iand, 1) := by decide +kernel
theorem dX0_leastBar_41 : decode cX0_leastBar 41 = .ok (.ifCond .ne 35, 3) := by decide +kernel
theorem dX0_leastBar_44 : decode cX0_leastBar 44 = .ok (.iload 6, 2) := by decide +kernel
theorem dX0_leastBar_46 : decode cX0_leastBar 46 = .ok (.iload 4, 2) := by decide +kernel
theorem dX0_leastBar_48 : decode cX0_leastBar 48 = .ok (.if_icmp .ge 28, 3) := by decide +kernel
theorem dX0_leastBar_51 : decode cX0_leastBar 51 = .ok (.aload_n 0, 1) := by decide +kernel
theorem dX0_leastBar_52 : decode cX0_leastBar 52 = .ok (.iload_n 1, 1) := by decide +kernel
theorem dX0_leastBar_53 : decode cX0_leastBar 53 = .ok (.iload 5, 2) := by decide +kernel
theorem dX0_leastBar_55 : decode cX0_leastBar 55 = .ok (.iconst (-1), 1) := by decide +kernel
theorem dX0_leastBar_56 : decode cX0_leastBar 56 = .ok (.ixor, 1) := by decide +kernel
theorem dX0_leastBar_57 : decode cX0_leastBar 57 = .ok (.iand, 1) := by decide +kernel
theorem dX0_leastBar_58 : decode cX0_leastBar 58 = .ok (.iconst 1, 1) := by decide +kernel
theorem dX0_leastBar_59 : decode cX0_leastBar 59 = .ok (.invokevirtual 82, 3) := by decide +kernel
theorem dX0_leastBar_62 : decode cX0_leastBar 62 = .ok (.iload 6, 2) := by decide +kernel
theorem dX0_leastBar_64 : decode cX0_leastBar 64 = .ok (.isub, 1) := by decide +kernel
theorem dX0_leastBar_65 : decode cX0_leastBar 65 = .ok (.iload_n 2, 1) := by decide +kernel
theorem dX0_leastBar_66 : decode cX0_leastBar 66 = .ok (.if_icmp .ne 10, 3) := by decide +kernel
theorem dX0_leastBar_69 : decode cX0_leastBar 69 = .ok (.iload 5, 2) := by decide +kernel
theorem dX0_leastBar_71 : decode cX0_leastBar 71 = .ok (.istore_n 3, 1) := by decide +kernel
theorem dX0_leastBar_72 : decode cX0_leastBar 72 = .ok (.iload 6, 2) := by decide +kernel
theorem dX0_leastBar_74 : decode cX0_leastBar 74 = .ok (.istore 4, 2) := by decide +kernel
theorem dX0_leastBar_76 : decode cX0_leastBar 76 = .ok (.iinc 5 1, 3) := by decide +kernel
theorem dX0_leastBar_79 : decode cX0_leastBar 79 = .ok (.goto (-57), 3) := by decide +kernel
theorem dX0_leastBar_82 : decode cX0_leastBar 82 = .ok (.iload_n 3, 1) := by decide +kernel
theorem dX0_leastBar_83 : decode cX0_leastBar 83 = .ok (.ireturn, 1) := by decide +kernel
theorem dX0_leastCover_0 : decode cX0_leastCover 0 = .ok (.iconst (-1), 1) := by decide +kernel
theorem dX0_leastCover_1 : decode cX0_leastCover 1 = .ok (.istore_n 3, 1) := by decide +kernel
theorem dX0_leastCover_2 : decode cX0_leastCover 2 = .ok (.bipush 11, 2) := by decide +kernel
theorem dX0_leastCover_4 : decode cX0_leastCover 4 = .ok (.istore 4, 2) := by decide +kernel
theorem dX0_leastCover_6 : decode cX0_leastCover 6 = .ok (.iconst 0, 1) := by decide +kernel
theorem dX0_leastCover_7 : decode cX0_leastCover 7 = .ok (.istore 5, 2) := by decide +kernel
theorem dX0_leastCover_9 : decode cX0_leastCover 9 = .ok (.iload 5, 2) := by decide +kernel
theorem dX0_leastCover_11 : decode cX0_leastCover 11 = .ok (.iload_n 2, 1) := by decide +kernel
theorem dX0_leastCover_12 : decode cX0_leastCover 12 = .ok (.if_icmp .gt 48, 3) := by decide +kernel
theorem dX0_leastCover_15 : decode cX0_leastCover 15 = .ok (.iload 5, 2) := by decide +kernel
theorem dX0_leastCover_17 : decode cX0_leastCover 17 = .ok (.iload_n 2, 1) := by decide +kernel
theorem dX0_leastCover_18 : decode cX0_leastCover 18 = .ok (.iconst (-1), 1) := by decide +kernel
theorem dX0_leastCover_19 : decode cX0_leastCover 19 = .ok (.ixor, 1) := by decide +kernel
theorem dX0_leastCover_20 : decode cX0_leastCover 20 = .ok (.iand, 1) := by decide +kernel
theorem dX0_leastCover_21 : decode cX0_leastCover 21 = .ok (.ifCond .ne 33, 3) := by decide +kernel
theorem dX0_leastCover_24 : decode cX0_leastCover 24 = .ok (.iload 5, 2) := by decide +kernel
theorem dX0_leastCover_26 : decode cX0_leastCover 26 = .ok (.invokestatic 49, 3) := by decide +kernel
theorem dX0_leastCover_29 : decode cX0_leastCover 29 = .ok (.iload 4, 2) := by decide +kernel
theorem dX0_leastCover_31 : decode cX0_leastCover 31 = .ok (.if_icmp .ge 23, 3) := by decide +kernel
theorem dX0_leastCover_34 : decode cX0_leastCover 34 = .ok (.aload_n 0, 1) := by decide +kernel
theorem dX0_leastCover_35 : decode cX0_leastCover 35 = .ok (.iload_n 1, 1) := by decide +kernel
theorem dX0_leastCover_36 : decode cX0_leastCover 36 = .ok (.iload 5, 2) := by decide +kernel
theorem dX0_leastCover_38 : decode cX0_leastCover 38 = .ok (.invokevirtual 86, 3) := by decide +kernel
theorem dX0_leastCover_41 : decode cX0_leastCover 41 = .ok (.ifCond .eq 13, 3) := by decide +kernel
theorem dX0_leastCover_44 : decode cX0_leastCover 44 = .ok (.iload 5, 2) := by decide +kernel
theorem dX0_leastCover_46 : decode cX0_leastCover 46 = .ok (.istore_n 3, 1) := by decide +kernel
theorem dX0_leastCover_47 : decode cX0_leastCover 47 = .ok (.iload 5, 2) := by decide +kernel
theorem dX0_leastCover_49 : decode cX0_leastCover 49 = .ok (.invokestatic 49, 3) := by decide +kernel
theorem dX0_leastCover_52 : decode cX0_leastCover 52 = .ok (.istore 4, 2) := by decide +kernel
theorem dX0_leastCover_54 : decode cX0_leastCover 54 = .ok (.iinc 5 1, 3) := by decide +kernel
theorem dX0_leastCover_57 : decode cX0_leastCover 57 = .ok (.goto (-48), 3) := by decide +kernel
theorem dX0_leastCover_60 : decode cX0_leastCover 60 = .ok (.iload_n 3, 1) := by decide +kernel
theorem dX0_leastCover_61 : decode cX0_leastCover 61 = .ok (.ireturn, 1) := by decide +kernel
theorem dX0_opposeAllOf_0 : decode cX0_opposeAllOf 0 = .ok (.iconst 0, 1) := by decide +kernel
theorem dX0_opposeAllOf_1 : decode cX0_opposeAllOf 1 = .ok (.istore_n 3, 1) := by decide +kernel
theorem dX0_opposeAllOf_2 : decode cX0_opposeAllOf 2 = .ok (.iload_n 3, 1) := by decide +kernel
theorem dX0_opposeAllOf_3 : decode cX0_opposeAllOf 3 = .ok (.aload_n 0, 1) := by decide +kernel
theorem dX0_opposeAllOf_4 : decode cX0_opposeAllOf 4 = .ok (.getfield 9, 3) := by decide +kernel
theorem dX0_opposeAllOf_7 : decode cX0_opposeAllOf 7 = .ok (.if_icmp .ge 31, 3) := by decide +kernel
theorem dX0_opposeAllOf_10 : decode cX0_opposeAllOf 10 = .ok (.iload_n 1, 1) := by decide +kernel
theorem dX0_opposeAllOf_11 : decode cX0_opposeAllOf 11 = .ok (.iload_n 3, 1) := by decide +kernel
theorem dX0_opposeAllOf_12 : decode cX0_opposeAllOf 12 = .ok (.ishr, 1) := by decide +kernel
theorem dX0_opposeAllOf_13 : decode cX0_opposeAllOf 13 = .ok (.iconst 1, 1) := by decide +kernel
theorem dX0_opposeAllOf_14 : decode cX0_opposeAllOf 14 = .ok (.iand, 1) := by decide +kernel
theorem dX0_opposeAllOf_15 : decode cX0_opposeAllOf 15 = .ok (.iconst 1, 1) := by decide +kernel
theorem dX0_opposeAllOf_16 : decode cX0_opposeAllOf 16 = .ok (.if_icmp .ne 16, 3) := by decide +kernel
theorem dX0_opposeAllOf_19 : decode cX0_opposeAllOf 19 = .ok (.aload_n 0, 1) := by decide +kernel
theorem dX0_opposeAllOf_20 : decode cX0_opposeAllOf 20 = .ok (.getfield 15, 3) := by decide +kernel
theorem dX0_opposeAllOf_23 : decode cX0_opposeAllOf 23 = .ok (.iload_n 3, 1) := by decide +kernel
theorem dX0_opposeAllOf_24 : decode cX0_opposeAllOf 24 = .ok (.iaload, 1) := by decide +kernel
theorem dX0_opposeAllOf_25 : decode cX0_opposeAllOf 25 = .ok (.iload_n 2, 1) := by decide +kernel
theorem dX0_opposeAllOf_26 : decode cX0_opposeAllOf 26 = .ok (.iand, 1) := by decide +kernel
theorem dX0_opposeAllOf_27 : decode cX0_opposeAllOf 27 = .ok (.ifCond .ne 5, 3) := by decide +kernel
theorem dX0_opposeAllOf_30 : decode cX0_opposeAllOf 30 = .ok (.iconst 0, 1) := by decide +kernel
theorem dX0_opposeAllOf_31 : decode cX0_opposeAllOf 31 = .ok (.ireturn, 1) := by decide +kernel
theorem dX0_opposeAllOf_32 : decode cX0_opposeAllOf 32 = .ok (.iinc 3 1, 3) := by decide +kernel
theorem dX0_opposeAllOf_35 : decode cX0_opposeAllOf 35 = .ok (.goto (-33), 3) := by decide +kernel
theorem dX0_opposeAllOf_38 : decode cX0_opposeAllOf 38 = .ok (.iconst 1, 1) := by decide +kernel
theorem dX0_opposeAllOf_39 : decode cX0_opposeAllOf 39 = .ok (.ireturn, 1) := by decide +kernel
theorem dX0_shareOf_0 : decode cX0_shareOf 0 = .ok (.lconst 0, 1) := by decide +kernel
theorem dX0_shareOf_1 : decode cX0_shareOf 1 = .ok (.lstore_n 3, 1) := by decide +kernel
theorem dX0_shareOf_2 : decode cX0_shareOf 2 = .ok (.iconst 0, 1) := by decide +kernel
theorem dX0_shareOf_3 : decode cX0_shareOf 3 = .ok (.istore 5, 2) := by decide +kernel
theorem dX0_shareOf_5 : decode cX0_shareOf 5 = .ok (.iload 5, 2) := by decide +kernel
theorem dX0_shareOf_7 : decode cX0_shareOf 7 = .ok (.iload_n 1, 1) := by decide +kernel
theorem dX0_shareOf_8 : decode cX0_shareOf 8 = .ok (.if_icmp .gt 96, 3) := by decide +kernel
theorem dX0_shareOf_11 : decode cX0_shareOf 11 = .ok (.iload 5, 2) := by decide +kernel
theorem dX0_shareOf_13 : decode cX0_shareOf 13 = .ok (.iload_n 1, 1) := by decide +kernel
theorem dX0_shareOf_14 : decode cX0_shareOf 14 = .ok (.iconst (-1), 1) := by decide +kernel
theorem dX0_shareOf_15 : decode cX0_shareOf 15 = .ok (.ixor, 1) := by decide +kernel
theorem dX0_shareOf_16 : decode cX0_shareOf 16 = .ok (.iand, 1) := by decide +kernel
theorem dX0_shareOf_17 : decode cX0_shareOf 17 = .ok (.ifCond .ne 81, 3) := by decide +kernel
theorem dX0_shareOf_20 : decode cX0_shareOf 20 = .ok (.aload_n 0, 1) := by decide +kernel
theorem dX0_shareOf_21 : decode cX0_shareOf 21 = .ok (.getfield 19, 3) := by decide +kernel
theorem dX0_shareOf_24 : decode cX0_shareOf 24 = .ok (.iload 5, 2) := by decide +kernel
theorem dX0_shareOf_26 : decode cX0_shareOf 26 = .ok (.iaload, 1) := by decide +kernel
theorem dX0_shareOf_27 : decode cX0_shareOf 27 = .ok (.ifCond .le 71, 3) := by decide +kernel
theorem dX0_shareOf_30 : decode cX0_shareOf 30 = .ok (.lconst 1, 1) := by decide +kernel
theorem dX0_shareOf_31 : decode cX0_shareOf 31 = .ok (.lstore 6, 2) := by decide +kernel
theorem dX0_shareOf_33 : decode cX0_shareOf 33 = .ok (.iconst 0, 1) := by decide +kernel
theorem dX0_shareOf_34 : decode cX0_shareOf 34 = .ok (.istore 8, 2) := by decide +kernel
theorem dX0_shareOf_36 : decode cX0_shareOf 36 = .ok (.iload 8, 2) := by decide +kernel
theorem dX0_shareOf_38 : decode cX0_shareOf 38 = .ok (.aload_n 0, 1) := by decide +kernel
theorem dX0_shareOf_39 : decode cX0_shareOf 39 = .ok (.getfield 9, 3) := by decide +kernel
theorem dX0_shareOf_42 : decode cX0_shareOf 42 = .ok (.if_icmp .ge 51, 3) := by decide +kernel
theorem dX0_shareOf_45 : decode cX0_shareOf 45 = .ok (.iload_n 1, 1) := by decide +kernel
theorem dX0_shareOf_46 : decode cX0_shareOf 46 = .ok (.iload 8, 2) := by decide +kernel
theorem dX0_shareOf_48 : decode cX0_shareOf 48 = .ok (.ishr, 1) := by decide +kernel
theorem dX0_shareOf_49 : decode cX0_shareOf 49 = .ok (.iconst 1, 1) := by decide +kernel
theorem dX0_shareOf_50 : decode cX0_shareOf 50 = .ok (.iand, 1) := by decide +kernel
theorem dX0_shareOf_51 : decode cX0_shareOf 51 = .ok (.iconst 1, 1) := by decide +kernel
theorem dX0_shareOf_52 : decode cX0_shareOf 52 = .ok (.if_icmp .ne 35, 3) := by decide +kernel
theorem dX0_shareOf_55 : decode cX0_shareOf 55 = .ok (.lload 6, 2) := by decide +kernel
theorem dX0_shareOf_57 : decode cX0_shareOf 57 = .ok (.iload 5, 2) := by decide +kernel
theorem dX0_shareOf_59 : decode cX0_shareOf 59 = .ok (.iload 8, 2) := by decide +kernel
theorem dX0_shareOf_61 : decode cX0_shareOf 61 = .ok (.ishr, 1) := by decide +kernel
theorem dX0_shareOf_62 : decode cX0_shareOf 62 = .ok (.iconst 1, 1) := by decide +kernel
theorem dX0_shareOf_63 : decode cX0_shareOf 63 = .ok (.iand, 1) := by decide +kernel
theorem dX0_shareOf_64 : decode cX0_shareOf 64 = .ok (.iconst 1, 1) := by decide +kernel
theorem dX0_shareOf_65 : decode cX0_shareOf 65 = .ok (.if_icmp .ne 11, 3) := by decide +kernel
theorem dX0_shareOf_68 : decode cX0_shareOf 68 = .ok (.aload_n 2, 1) := by decide +kernel
theorem dX0_shareOf_69 : decode cX0_shareOf 69 = .ok (.iload 8, 2) := by decide +kernel
theorem dX0_shareOf_71 : decode cX0_shareOf 71 = .ok (.iaload, 1) := by decide +kernel
theorem dX0_shareOf_72 : decode cX0_shareOf 72 = .ok (.i2l, 1) := by decide +kernel
theorem dX0_shareOf_73 : decode cX0_shareOf 73 = .ok (.goto 11, 3) := by decide +kernel
theorem dX0_shareOf_76 : decode cX0_shareOf 76 = .ok (.bipush 10, 2) := by decide +kernel
theorem dX0_shareOf_78 : decode cX0_shareOf 78 = .ok (.aload_n 2, 1) := by decide +kernel
theorem dX0_shareOf_79 : decode cX0_shareOf 79 = .ok (.iload 8, 2) := by decide +kernel
theorem dX0_shareOf_81 : decode cX0_shareOf 81 = .ok (.iaload, 1) := by decide +kernel
theorem dX0_shareOf_82 : decode cX0_shareOf 82 = .ok (.isub, 1) := by decide +kernel
theorem dX0_shareOf_83 : decode cX0_shareOf 83 = .ok (.i2l, 1) := by decide +kernel
theorem dX0_shareOf_84 : decode cX0_shareOf 84 = .ok (.lmul, 1) := by decide +kernel
theorem dX0_shareOf_85 : decode cX0_shareOf 85 = .ok (.lstore 6, 2) := by decide +kernel
theorem dX0_shareOf_87 : decode cX0_shareOf 87 = .ok (.iinc 8 1, 3) := by decide +kernel
theorem dX0_shareOf_90 : decode cX0_shareOf 90 = .ok (.goto (-54), 3) := by decide +kernel
theorem dX0_shareOf_93 : decode cX0_shareOf 93 = .ok (.lload_n 3, 1) := by decide +kernel
theorem dX0_shareOf_94 : decode cX0_shareOf 94 = .ok (.lload 6, 2) := by decide +kernel
theorem dX0_shareOf_96 : decode cX0_shareOf 96 = .ok (.ladd, 1) := by decide +kernel
theorem dX0_shareOf_97 : decode cX0_shareOf 97 = .ok (.lstore_n 3, 1) := by decide +kernel
theorem dX0_shareOf_98 : decode cX0_shareOf 98 = .ok (.iinc 5 1, 3) := by decide +kernel
theorem dX0_shareOf_101 : decode cX0_shareOf 101 = .ok (.goto (-96), 3) := by decide +kernel
theorem dX0_shareOf_104 : decode cX0_shareOf 104 = .ok (.lload_n 3, 1) := by decide +kernel
theorem dX0_shareOf_105 : decode cX0_shareOf 105 = .ok (.lreturn, 1) := by decide +kernel
theorem dX0_twosOf_0 : decode cX0_twosOf 0 = .ok (.aload_n 0, 1) := by decide +kernel
theorem dX0_twosOf_1 : decode cX0_twosOf 1 = .ok (.getfield 22, 3) := by decide +kernel
theorem dX0_twosOf_4 : decode cX0_twosOf 4 = .ok (.iload_n 1, 1) := by decide +kernel
theorem dX0_twosOf_5 : decode cX0_twosOf 5 = .ok (.iaload, 1) := by decide +kernel
theorem dX0_twosOf_6 : decode cX0_twosOf 6 = .ok (.sipush 1000, 3) := by decide +kernel
theorem dX0_twosOf_9 : decode cX0_twosOf 9 = .ok (.idiv, 1) := by decide +kernel
theorem dX0_twosOf_10 : decode cX0_twosOf 10 = .ok (.ireturn, 1) := by decide +kernel
theorem dX0_weighPairs_0 : decode cX0_weighPairs 0 = .ok (.aload_n 0, 1) := by decide +kernel
theorem dX0_weighPairs_1 : decode cX0_weighPairs 1 = .ok (.getfield 22, 3) := by decide +kernel
theorem dX0_weighPairs_4 : decode cX0_weighPairs 4 = .ok (.iconst 0, 1) := by decide +kernel
theorem dX0_weighPairs_5 : decode cX0_weighPairs 5 = .ok (.iconst 0, 1) := by decide +kernel
theorem dX0_weighPairs_6 : decode cX0_weighPairs 6 = .ok (.iastore, 1) := by decide +kernel
theorem dX0_weighPairs_7 : decode cX0_weighPairs 7 = .ok (.iconst 1, 1) := by decide +kernel
theorem dX0_weighPairs_8 : decode cX0_weighPairs 8 = .ok (.istore_n 2, 1) := by decide +kernel
theorem dX0_weighPairs_9 : decode cX0_weighPairs 9 = .ok (.iload_n 2, 1) := by decide +kernel
theorem dX0_weighPairs_10 : decode cX0_weighPairs 10 = .ok (.iconst 1, 1) := by decide +kernel
theorem dX0_weighPairs_11 : decode cX0_weighPairs 11 = .ok (.aload_n 0, 1) := by decide +kernel
theorem dX0_weighPairs_12 : decode cX0_weighPairs 12 = .ok (.getfield 9, 3) := by decide +kernel
theorem dX0_weighPairs_15 : decode cX0_weighPairs 15 = .ok (.ishl, 1) := by decide +kernel
theorem dX0_weighPairs_16 : decode cX0_weighPairs 16 = .ok (.if_icmp .ge 93, 3) := by decide +kernel
theorem dX0_weighPairs_19 : decode cX0_weighPairs 19 = .ok (.iload_n 2, 1) := by decide +kernel
theorem dX0_weighPairs_20 : decode cX0_weighPairs 20 = .ok (.invokestatic 55, 3) := by decide +kernel
theorem dX0_weighPairs_23 : decode cX0_weighPairs 23 = .ok (.istore_n 3, 1) := by decide +kernel
theorem dX0_weighPairs_24 : decode cX0_weighPairs 24 = .ok (.aload_n 0, 1) := by decide +kernel
theorem dX0_weighPairs_25 : decode cX0_weighPairs 25 = .ok (.getfield 15, 3) := by decide +kernel
theorem dX0_weighPairs_28 : decode cX0_weighPairs 28 = .ok (.iload_n 3, 1) := by decide +kernel
theorem dX0_weighPairs_29 : decode cX0_weighPairs 29 = .ok (.iaload, 1) := by decide +kernel
theorem dX0_weighPairs_30 : decode cX0_weighPairs 30 = .ok (.iload_n 2, 1) := by decide +kernel
theorem dX0_weighPairs_31 : decode cX0_weighPairs 31 = .ok (.iand, 1) := by decide +kernel
theorem dX0_weighPairs_32 : decode cX0_weighPairs 32 = .ok (.istore 4, 2) := by decide +kernel
theorem dX0_weighPairs_34 : decode cX0_weighPairs 34 = .ok (.aload_n 0, 1) := by decide +kernel
theorem dX0_weighPairs_35 : decode cX0_weighPairs 35 = .ok (.getfield 22, 3) := by decide +kernel
theorem dX0_weighPairs_38 : decode cX0_weighPairs 38 = .ok (.iload_n 2, 1) := by decide +kernel
theorem dX0_weighPairs_39 : decode cX0_weighPairs 39 = .ok (.iconst 1, 1) := by decide +kernel
theorem dX0_weighPairs_40 : decode cX0_weighPairs 40 = .ok (.iload_n 3, 1) := by decide +kernel
theorem dX0_weighPairs_41 : decode cX0_weighPairs 41 = .ok (.ishl, 1) := by decide +kernel
theorem dX0_weighPairs_42 : decode cX0_weighPairs 42 = .ok (.iconst (-1), 1) := by decide +kernel
theorem dX0_weighPairs_43 : decode cX0_weighPairs 43 = .ok (.ixor, 1) := by decide +kernel
theorem dX0_weighPairs_44 : decode cX0_weighPairs 44 = .ok (.iand, 1) := by decide +kernel
theorem dX0_weighPairs_45 : decode cX0_weighPairs 45 = .ok (.iaload, 1) := by decide +kernel
theorem dX0_weighPairs_46 : decode cX0_weighPairs 46 = .ok (.istore 5, 2) := by decide +kernel
theorem dX0_weighPairs_48 : decode cX0_weighPairs 48 = .ok (.iload_n 3, 1) := by decide +kernel
theorem dX0_weighPairs_49 : decode cX0_weighPairs 49 = .ok (.iconst 1, 1) := by decide +kernel
theorem dX0_weighPairs_50 : decode cX0_weighPairs 50 = .ok (.iadd, 1) := by decide +kernel
theorem dX0_weighPairs_51 : decode cX0_weighPairs 51 = .ok (.istore 6, 2) := by decide +kernel
theorem dX0_weighPairs_53 : decode cX0_weighPairs 53 = .ok (.iload 6, 2) := by decide +kernel
theorem dX0_weighPairs_55 : decode cX0_weighPairs 55 = .ok (.aload_n 0, 1) := by decide +kernel
theorem dX0_weighPairs_56 : decode cX0_weighPairs 56 = .ok (.getfield 9, 3) := by decide +kernel
theorem dX0_weighPairs_59 : decode cX0_weighPairs 59 = .ok (.if_icmp .ge 36, 3) := by decide +kernel
theorem dX0_weighPairs_62 : decode cX0_weighPairs 62 = .ok (.iload 4, 2) := by decide +kernel
theorem dX0_weighPairs_64 : decode cX0_weighPairs 64 = .ok (.iload 6, 2) := by decide +kernel
theorem dX0_weighPairs_66 : decode cX0_weighPairs 66 = .ok (.ishr, 1) := by decide +kernel
theorem dX0_weighPairs_67 : decode cX0_weighPairs 67 = .ok (.iconst 1, 1) := by decide +kernel
theorem dX0_weighPairs_68 : decode cX0_weighPairs 68 = .ok (.iand, 1) := by decide +kernel
theorem dX0_weighPairs_69 : decode cX0_weighPairs 69 = .ok (.iconst 1, 1) := by decide +kernel
theorem dX0_weighPairs_70 : decode cX0_weighPairs 70 = .ok (.if_icmp .ne 19, 3) := by decide +kernel
theorem dX0_weighPairs_73 : decode cX0_weighPairs 73 = .ok (.iload 5, 2) := by decide +kernel
theorem dX0_weighPairs_75 : decode cX0_weighPairs 75 = .ok (.aload_n 0, 1) := by decide +kernel
theorem dX0_weighPairs_76 : decode cX0_weighPairs 76 = .ok (.iload_n 3, 1) := by decide +kernel
theorem dX0_weighPairs_77 : decode cX0_weighPairs 77 = .ok (.iload 6, 2) := by decide +kernel
theorem dX0_weighPairs_79 : decode cX0_weighPairs 79 = .ok (.iload_n 2, 1) := by decide +kernel
theorem dX0_weighPairs_80 : decode cX0_weighPairs 80 = .ok (.aload_n 1, 1) := by decide +kernel
theorem dX0_weighPairs_81 : decode cX0_weighPairs 81 = .ok (.invokevirtual 62, 3) := by decide +kernel
theorem dX0_weighPairs_84 : decode cX0_weighPairs 84 = .ok (.invokestatic 66, 3) := by decide +kernel
theorem dX0_weighPairs_87 : decode cX0_weighPairs 87 = .ok (.istore 5, 2) := by decide +kernel
theorem dX0_weighPairs_89 : decode cX0_weighPairs 89 = .ok (.iinc 6 1, 3) := by decide +kernel
theorem dX0_weighPairs_92 : decode cX0_weighPairs 92 = .ok (.goto (-39), 3) := by decide +kernel
theorem dX0_weighPairs_95 : decode cX0_weighPairs 95 = .ok (.aload_n 0, 1) := by decide +kernel
theorem dX0_weighPairs_96 : decode cX0_weighPairs 96 = .ok (.getfield 22, 3) := by decide +kernel
theorem dX0_weighPairs_99 : decode cX0_weighPairs 99 = .ok (.iload_n 2, 1) := by decide +kernel
theorem dX0_weighPairs_100 : decode cX0_weighPairs 100 = .ok (.iload 5, 2) := by decide +kernel
theorem dX0_weighPairs_102 : decode cX0_weighPairs 102 = .ok (.iastore, 1) := by decide +kernel
theorem dX0_weighPairs_103 : decode cX0_weighPairs 103 = .ok (.iinc 2 1, 3) := by decide +kernel
theorem dX0_weighPairs_106 : decode cX0_weighPairs 106 = .ok (.goto (-97), 3) := by decide +kernel
theorem dX0_weighPairs_109 : decode cX0_weighPairs 109 = .ok (.return_, 1) := by decide +kernel
theorem dX0_weightOf_0 : decode cX0_weightOf 0 = .ok (.aload_n 0, 1) := by decide +kernel
theorem dX0_weightOf_1 : decode cX0_weightOf 1 = .ok (.getfield 22, 3) := by decide +kernel
theorem dX0_weightOf_4 : decode cX0_weightOf 4 = .ok (.iload_n 1, 1) := by decide +kernel
theorem dX0_weightOf_5 : decode cX0_weightOf 5 = .ok (.iaload, 1) := by decide +kernel
theorem dX0_weightOf_6 : decode cX0_weightOf 6 = .ok (.sipush 1000, 3) := by decide +kernel
theorem dX0_weightOf_9 : decode cX0_weightOf 9 = .ok (.irem, 1) := by decide +kernel
theorem dX0_weightOf_10 : decode cX0_weightOf 10 = .ok (.ireturn, 1) := by decide +kernel
theorem dX10_init_0 : decode cX10_init 0 = .ok (.aload_n 0, 1) := by decide +kernel
theorem dX10_init_1 : decode cX10_init 1 = .ok (.invokespecial 3, 3) := by decide +kernel
theorem dX10_init_4 : decode cX10_init 4 = .ok (.aload_n 0, 1) := by decide +kernel
theorem dX10_init_5 : decode cX10_init 5 = .ok (.iconst (-1), 1) := by decide +kernel
theorem dX10_init_6 : decode cX10_init 6 = .ok (.putfield 9, 3) := by decide +kernel
theorem dX10_init_9 : decode cX10_init 9 = .ok (.aload_n 0, 1) := by decide +kernel
theorem dX10_init_10 : decode cX10_init 10 = .ok (.iconst (-1), 1) := by decide +kernel
theorem dX10_init_11 : decode cX10_init 11 = .ok (.putfield 15, 3) := by decide +kernel
theorem dX10_init_14 : decode cX10_init 14 = .ok (.aload_n 0, 1) := by decide +kernel
theorem dX10_init_15 : decode cX10_init 15 = .ok (.iconst (-1), 1) := by decide +kernel
theorem dX10_init_16 : decode cX10_init 16 = .ok (.putfield 18, 3) := by decide +kernel
theorem dX10_init_19 : decode cX10_init 19 = .ok (.aload_n 0, 1) := by decide +kernel
theorem dX10_init_20 : decode cX10_init 20 = .ok (.iconst (-1), 1) := by decide +kernel
theorem dX10_init_21 : decode cX10_init 21 = .ok (.putfield 21, 3) := by decide +kernel
theorem dX10_init_24 : decode cX10_init 24 = .ok (.aload_n 0, 1) := by decide +kernel
theorem dX10_init_25 : decode cX10_init 25 = .ok (.sipush 1000, 3) := by decide +kernel
theorem dX10_init_28 : decode cX10_init 28 = .ok (.newarray .int, 2) := by decide +kernel
theorem dX10_init_30 : decode cX10_init 30 = .ok (.putfield 24, 3) := by decide +kernel
theorem dX10_init_33 : decode cX10_init 33 = .ok (.aload_n 0, 1) := by decide +kernel
theorem dX10_init_34 : decode cX10_init 34 = .ok (.sipush 1000, 3) := by decide +kernel
theorem dX10_init_37 : decode cX10_init 37 = .ok (.newarray .int, 2) := by decide +kernel
theorem dX10_init_39 : decode cX10_init 39 = .ok (.putfield 28, 3) := by decide +kernel
theorem dX10_init_42 : decode cX10_init 42 = .ok (.aload_n 0, 1) := by decide +kernel
theorem dX10_init_43 : decode cX10_init 43 = .ok (.sipush 1000, 3) := by decide +kernel
theorem dX10_init_46 : decode cX10_init 46 = .ok (.newarray .int, 2) := by decide +kernel
theorem dX10_init_48 : decode cX10_init 48 = .ok (.putfield 31, 3) := by decide +kernel
theorem dX10_init_51 : decode cX10_init 51 = .ok (.aload_n 0, 1) := by decide +kernel
theorem dX10_init_52 : decode cX10_init 52 = .ok (.sipush 1000, 3) := by decide +kernel
theorem dX10_init_55 : decode cX10_init 55 = .ok (.newarray .int, 2) := by decide +kernel
theorem dX10_init_57 : decode cX10_init 57 = .ok (.putfield 34, 3) := by decide +kernel
theorem dX10_init_60 : decode cX10_init 60 = .ok (.return_, 1) := by decide +kernel
theorem dX1_init_0 : decode cX1_init 0 = .ok (.aload_n 0, 1) := by decide +kernel
theorem dX1_init_1 : decode cX1_init 1 = .ok (.invokespecial 3, 3) := by decide +kernel
theorem dX1_init_4 : decode cX1_init 4 = .ok (.aload_n 0, 1) := by decide +kernel
theorem dX1_init_5 : decode cX1_init 5 = .ok (.iconst (-1), 1) := by decide +kernel
theorem dX1_init_6 : decode cX1_init 6 = .ok (.putfield 9, 3) := by decide +kernel
theorem dX1_init_9 : decode cX1_init 9 = .ok (.aload_n 0, 1) := by decide +kernel
theorem dX1_init_10 : decode cX1_init 10 = .ok (.iconst (-1), 1) := by decide +kernel
theorem dX1_init_11 : decode cX1_init 11 = .ok (.putfield 15, 3) := by decide +kernel
theorem dX1_init_14 : decode cX1_init 14 = .ok (.aload_n 0, 1) := by decide +kernel
theorem dX1_init_15 : decode cX1_init 15 = .ok (.iconst (-1), 1) := by decide +kernel
theorem dX1_init_16 : decode cX1_init 16 = .ok (.putfield 18, 3) := by decide +kernel
theorem dX1_init_19 : decode cX1_init 19 = .ok (.aload_n 0, 1) := by decide +kernel
theorem dX1_init_20 : decode cX1_init 20 = .ok (.iconst 0, 1) := by decide +kernel
theorem dX1_init_21 : decode cX1_init 21 = .ok (.putfield 21, 3) := by decide +kernel
theorem dX1_init_24 : decode cX1_init 24 = .ok (.aload_n 0, 1) := by decide +kernel
theorem dX1_init_25 : decode cX1_init 25 = .ok (.sipush 1000, 3) := by decide +kernel
theorem dX1_init_28 : decode cX1_init 28 = .ok (.newarray .int, 2) := by decide +kernel
theorem dX1_init_30 : decode cX1_init 30 = .ok (.putfield 24, 3) := by decide +kernel
theorem dX1_init_33 : decode cX1_init 33 = .ok (.return_, 1) := by decide +kernel
theorem dX2_add_0 : decode cX2_add 0 = .ok (.aload_n 0, 1) := by decide +kernel
theorem dX2_add_1 : decode cX2_add 1 = .ok (.getfield 9, 3) := by decide +kernel
theorem dX2_add_4 : decode cX2_add 4 = .ok (.bipush 10, 2) := by decide +kernel
theorem dX2_add_6 : decode cX2_add 6 = .ok (.if_icmp .lt 54, 3) := by decide +kernel
theorem dX2_add_9 : decode cX2_add 9 = .ok (.aload_n 0, 1) := by decide +kernel
theorem dX2_add_10 : decode cX2_add 10 = .ok (.getfield 17, 3) := by decide +kernel
theorem dX2_add_13 : decode cX2_add 13 = .ok (.iconst 0, 1) := by decide +kernel
theorem dX2_add_14 : decode cX2_add 14 = .ok (.aaload, 1) := by decide +kernel
theorem dX2_add_15 : decode cX2_add 15 = .ok (.astore_n 2, 1) := by decide +kernel
theorem dX2_add_16 : decode cX2_add 16 = .ok (.iconst 1, 1) := by decide +kernel
theorem dX2_add_17 : decode cX2_add 17 = .ok (.istore_n 3, 1) := by decide +kernel
theorem dX2_add_18 : decode cX2_add 18 = .ok (.iload_n 3, 1) := by decide +kernel
theorem dX2_add_19 : decode cX2_add 19 = .ok (.bipush 10, 2) := by decide +kernel
theorem dX2_add_21 : decode cX2_add 21 = .ok (.if_icmp .ge 23, 3) := by decide +kernel
theorem dX2_add_24 : decode cX2_add 24 = .ok (.aload_n 0, 1) := by decide +kernel
theorem dX2_add_25 : decode cX2_add 25 = .ok (.getfield 17, 3) := by decide +kernel
theorem dX2_add_28 : decode cX2_add 28 = .ok (.iload_n 3, 1) := by decide +kernel
theorem dX2_add_29 : decode cX2_add 29 = .ok (.iconst 1, 1) := by decide +kernel
theorem dX2_add_30 : decode cX2_add 30 = .ok (.isub, 1) := by decide +kernel
theorem dX2_add_31 : decode cX2_add 31 = .ok (.aload_n 0, 1) := by decide +kernel
theorem dX2_add_32 : decode cX2_add 32 = .ok (.getfield 17, 3) := by decide +kernel
theorem dX2_add_35 : decode cX2_add 35 = .ok (.iload_n 3, 1) := by decide +kernel
theorem dX2_add_36 : decode cX2_add 36 = .ok (.aaload, 1) := by decide +kernel
theorem dX2_add_37 : decode cX2_add 37 = .ok (.aastore, 1) := by decide +kernel
theorem dX2_add_38 : decode cX2_add 38 = .ok (.iinc 3 1, 3) := by decide +kernel
theorem dX2_add_41 : decode cX2_add 41 = .ok (.goto (-23), 3) := by decide +kernel
theorem dX2_add_44 : decode cX2_add 44 = .ok (.aload_n 0, 1) := by decide +kernel
theorem dX2_add_45 : decode cX2_add 45 = .ok (.bipush 9, 2) := by decide +kernel
theorem dX2_add_47 : decode cX2_add 47 = .ok (.putfield 9, 3) := by decide +kernel
theorem dX2_add_50 : decode cX2_add 50 = .ok (.aload_n 0, 1) := by decide +kernel
theorem dX2_add_51 : decode cX2_add 51 = .ok (.getfield 17, 3) := by decide +kernel
theorem dX2_add_54 : decode cX2_add 54 = .ok (.aload_n 0, 1) := by decide +kernel
theorem dX2_add_55 : decode cX2_add 55 = .ok (.getfield 9, 3) := by decide +kernel
theorem dX2_add_58 : decode cX2_add 58 = .ok (.aload_n 2, 1) := by decide +kernel
theorem dX2_add_59 : decode cX2_add 59 = .ok (.aastore, 1) := by decide +kernel
theorem dX2_add_60 : decode cX2_add 60 = .ok (.aload_n 0, 1) := by decide +kernel
theorem dX2_add_61 : decode cX2_add 61 = .ok (.getfield 17, 3) := by decide +kernel
theorem dX2_add_64 : decode cX2_add 64 = .ok (.aload_n 0, 1) := by decide +kernel
theorem dX2_add_65 : decode cX2_add 65 = .ok (.getfield 9, 3) := by decide +kernel
theorem dX2_add_68 : decode cX2_add 68 = .ok (.aaload, 1) := by decide +kernel
theorem dX2_add_69 : decode cX2_add 69 = .ok (.aload_n 1, 1) := by decide +kernel
theorem dX2_add_70 : decode cX2_add 70 = .ok (.invokevirtual 24, 3) := by decide +kernel
theorem dX2_add_73 : decode cX2_add 73 = .ok (.aload_n 0, 1) := by decide +kernel
theorem dX2_add_74 : decode cX2_add 74 = .ok (.dup, 1) := by decide +kernel
theorem dX2_add_75 : decode cX2_add 75 = .ok (.getfield 9, 3) := by decide +kernel
theorem dX2_add_78 : decode cX2_add 78 = .ok (.iconst 1, 1) := by decide +kernel
theorem dX2_add_79 : decode cX2_add 79 = .ok (.iadd, 1) := by decide +kernel
theorem dX2_add_80 : decode cX2_add 80 = .ok (.putfield 9, 3) := by decide +kernel
theorem dX2_add_83 : decode cX2_add 83 = .ok (.return_, 1) := by decide +kernel
theorem dX2_init_0 : decode cX2_init 0 = .ok (.aload_n 0, 1) := by decide +kernel
theorem dX2_init_1 : decode cX2_init 1 = .ok (.invokespecial 3, 3) := by decide +kernel
theorem dX2_init_4 : decode cX2_init 4 = .ok (.aload_n 0, 1) := by decide +kernel
theorem dX2_init_5 : decode cX2_init 5 = .ok (.iconst 0, 1) := by decide +kernel
theorem dX2_init_6 : decode cX2_init 6 = .ok (.putfield 9, 3) := by decide +kernel
theorem dX2_init_9 : decode cX2_init 9 = .ok (.aload_n 0, 1) := by decide +kernel
theorem dX2_init_10 : decode cX2_init 10 = .ok (.bipush 10, 2) := by decide +kernel
theorem dX2_init_12 : decode cX2_init 12 = .ok (.anewarray 15, 3) := by decide +kernel
theorem dX2_init_15 : decode cX2_init 15 = .ok (.putfield 17, 3) := by decide +kernel
theorem dX2_init_18 : decode cX2_init 18 = .ok (.iconst 0, 1) := by decide +kernel
theorem dX2_init_19 : decode cX2_init 19 = .ok (.istore_n 2, 1) := by decide +kernel
theorem dX2_init_20 : decode cX2_init 20 = .ok (.iload_n 2, 1) := by decide +kernel
theorem dX2_init_21 : decode cX2_init 21 = .ok (.bipush 10, 2) := by decide +kernel
theorem dX2_init_23 : decode cX2_init 23 = .ok (.if_icmp .ge 23, 3) := by decide +kernel
theorem dX2_init_26 : decode cX2_init 26 = .ok (.aload_n 0, 1) := by decide +kernel
theorem dX2_init_27 : decode cX2_init 27 = .ok (.getfield 17, 3) := by decide +kernel
theorem dX2_init_30 : decode cX2_init 30 = .ok (.iload_n 2, 1) := by decide +kernel
theorem dX2_init_31 : decode cX2_init 31 = .ok (.new 15, 3) := by decide +kernel
theorem dX2_init_34 : decode cX2_init 34 = .ok (.dup, 1) := by decide +kernel
theorem dX2_init_35 : decode cX2_init 35 = .ok (.aload_n 1, 1) := by decide +kernel
theorem dX2_init_36 : decode cX2_init 36 = .ok (.invokespecial 21, 3) := by decide +kernel
theorem dX2_init_39 : decode cX2_init 39 = .ok (.aastore, 1) := by decide +kernel
theorem dX2_init_40 : decode cX2_init 40 = .ok (.iinc 2 1, 3) := by decide +kernel
theorem dX2_init_43 : decode cX2_init 43 = .ok (.goto (-23), 3) := by decide +kernel
theorem dX2_init_46 : decode cX2_init 46 = .ok (.return_, 1) := by decide +kernel
theorem dX3_init_0 : decode cX3_init 0 = .ok (.aload_n 0, 1) := by decide +kernel
theorem dX3_init_1 : decode cX3_init 1 = .ok (.invokespecial 3, 3) := by decide +kernel
theorem dX3_init_4 : decode cX3_init 4 = .ok (.aload_n 0, 1) := by decide +kernel
theorem dX3_init_5 : decode cX3_init 5 = .ok (.iconst 1, 1) := by decide +kernel
theorem dX3_init_6 : decode cX3_init 6 = .ok (.putfield 9, 3) := by decide +kernel
theorem dX3_init_9 : decode cX3_init 9 = .ok (.aload_n 0, 1) := by decide +kernel
theorem dX3_init_10 : decode cX3_init 10 = .ok (.iconst 0, 1) := by decide +kernel
theorem dX3_init_11 : decode cX3_init 11 = .ok (.putfield 15, 3) := by decide +kernel
theorem dX3_init_14 : decode cX3_init 14 = .ok (.aload_n 0, 1) := by decide +kernel
theorem dX3_init_15 : decode cX3_init 15 = .ok (.iconst 0, 1) := by decide +kernel
theorem dX3_init_16 : decode cX3_init 16 = .ok (.putfield 18, 3) := by decide +kernel
theorem dX3_init_19 : decode cX3_init 19 = .ok (.aload_n 0, 1) := by decide +kernel
theorem dX3_init_20 : decode cX3_init 20 = .ok (.iconst 0, 1) := by decide +kernel
theorem dX3_init_21 : decode cX3_init 21 = .ok (.putfield 21, 3) := by decide +kernel
theorem dX3_init_24 : decode cX3_init 24 = .ok (.aload_n 0, 1) := by decide +kernel
theorem dX3_init_25 : decode cX3_init 25 = .ok (.aconst_null, 1) := by decide +kernel
theorem dX3_init_26 : decode cX3_init 26 = .ok (.putfield 24, 3) := by decide +kernel
theorem dX3_init_29 : decode cX3_init 29 = .ok (.aload_n 0, 1) := by decide +kernel
theorem dX3_init_30 : decode cX3_init 30 = .ok (.aconst_null, 1) := by decide +kernel
theorem dX3_init_31 : decode cX3_init 31 = .ok (.putfield 28, 3) := by decide +kernel
theorem dX3_init_34 : decode cX3_init 34 = .ok (.aload_n 0, 1) := by decide +kernel
theorem dX3_init_35 : decode cX3_init 35 = .ok (.aconst_null, 1) := by decide +kernel
theorem dX3_init_36 : decode cX3_init 36 = .ok (.putfield 31, 3) := by decide +kernel
theorem dX3_init_39 : decode cX3_init 39 = .ok (.aload_n 0, 1) := by decide +kernel
theorem dX3_init_40 : decode cX3_init 40 = .ok (.bipush 10, 2) := by decide +kernel
theorem dX3_init_42 : decode cX3_init 42 = .ok (.newarray .int, 2) := by decide +kernel
theorem dX3_init_44 : decode cX3_init 44 = .ok (.putfield 34, 3) := by decide +kernel
theorem dX3_init_47 : decode cX3_init 47 = .ok (.aload_n 0, 1) := by decide +kernel
theorem dX3_init_48 : decode cX3_init 48 = .ok (.bipush 10, 2) := by decide +kernel
theorem dX3_init_50 : decode cX3_init 50 = .ok (.newarray .int, 2) := by decide +kernel
theorem dX3_init_52 : decode cX3_init 52 = .ok (.putfield 38, 3) := by decide +kernel
theorem dX3_init_55 : decode cX3_init 55 = .ok (.aload_n 0, 1) := by decide +kernel
theorem dX3_init_56 : decode cX3_init 56 = .ok (.bipush 10, 2) := by decide +kernel
theorem dX3_init_58 : decode cX3_init 58 = .ok (.newarray .int, 2) := by decide +kernel
theorem dX3_init_60 : decode cX3_init 60 = .ok (.putfield 41, 3) := by decide +kernel
theorem dX3_init_63 : decode cX3_init 63 = .ok (.aload_n 0, 1) := by decide +kernel
theorem dX3_init_64 : decode cX3_init 64 = .ok (.bipush 10, 2) := by decide +kernel
theorem dX3_init_66 : decode cX3_init 66 = .ok (.newarray .int, 2) := by decide +kernel
theorem dX3_init_68 : decode cX3_init 68 = .ok (.putfield 44, 3) := by decide +kernel
theorem dX3_init_71 : decode cX3_init 71 = .ok (.aload_n 0, 1) := by decide +kernel
theorem dX3_init_72 : decode cX3_init 72 = .ok (.bipush 10, 2) := by decide +kernel
theorem dX3_init_74 : decode cX3_init 74 = .ok (.newarray .int, 2) := by decide +kernel
theorem dX3_init_76 : decode cX3_init 76 = .ok (.putfield 47, 3) := by decide +kernel
theorem dX3_init_79 : decode cX3_init 79 = .ok (.return_, 1) := by decide +kernel
theorem dX5_advance_0 : decode cX5_advance 0 = .ok (.aload_n 0, 1) := by decide +kernel
theorem dX5_advance_1 : decode cX5_advance 1 = .ok (.getfield 25, 3) := by decide +kernel
theorem dX5_advance_4 : decode cX5_advance 4 = .ok (.ifCond .ne 19, 3) := by decide +kernel
theorem dX5_advance_7 : decode cX5_advance 7 = .ok (.aload_n 0, 1) := by decide +kernel
theorem dX5_advance_8 : decode cX5_advance 8 = .ok (.getfield 18, 3) := by decide +kernel
theorem dX5_advance_11 : decode cX5_advance 11 = .ok (.iconst 1, 1) := by decide +kernel
theorem dX5_advance_12 : decode cX5_advance 12 = .ok (.iadd, 1) := by decide +kernel
theorem dX5_advance_13 : decode cX5_advance 13 = .ok (.aload_n 0, 1) := by decide +kernel
theorem dX5_advance_14 : decode cX5_advance 14 = .ok (.getfield 12, 3) := by decide +kernel
theorem dX5_advance_17 : decode cX5_advance 17 = .ok (.getfield 69, 3) := by decide +kernel
theorem dX5_advance_20 : decode cX5_advance 20 = .ok (.if_icmp .lt 4, 3) := by decide +kernel
theorem dX5_advance_23 : decode cX5_advance 23 = .ok (.return_, 1) := by decide +kernel
theorem dX5_advance_24 : decode cX5_advance 24 = .ok (.aload_n 0, 1) := by decide +kernel
theorem dX5_advance_25 : decode cX5_advance 25 = .ok (.dup, 1) := by decide +kernel
theorem dX5_advance_26 : decode cX5_advance 26 = .ok (.getfield 18, 3) := by decide +kernel
theorem dX5_advance_29 : decode cX5_advance 29 = .ok (.iconst 1, 1) := by decide +kernel
theorem dX5_advance_30 : decode cX5_advance 30 = .ok (.iadd, 1) := by decide +kernel
theorem dX5_advance_31 : decode cX5_advance 31 = .ok (.putfield 18, 3) := by decide +kernel
theorem dX5_advance_34 : decode cX5_advance 34 = .ok (.aload_n 0, 1) := by decide +kernel
theorem dX5_advance_35 : decode cX5_advance 35 = .ok (.aload_n 0, 1) := by decide +kernel
theorem dX5_advance_36 : decode cX5_advance 36 = .ok (.getfield 12, 3) := by decide +kernel
theorem dX5_advance_39 : decode cX5_advance 39 = .ok (.getfield 78, 3) := by decide +kernel
theorem dX5_advance_42 : decode cX5_advance 42 = .ok (.aload_n 0, 1) := by decide +kernel
theorem dX5_advance_43 : decode cX5_advance 43 = .ok (.getfield 18, 3) := by decide +kernel
theorem dX5_advance_46 : decode cX5_advance 46 = .ok (.iaload, 1) := by decide +kernel
theorem dX5_advance_47 : decode cX5_advance 47 = .ok (.putfield 22, 3) := by decide +kernel
theorem dX5_advance_50 : decode cX5_advance 50 = .ok (.aload_n 0, 1) := by decide +kernel
theorem dX5_advance_51 : decode cX5_advance 51 = .ok (.getfield 22, 3) := by decide +kernel
theorem dX5_advance_54 : decode cX5_advance 54 = .ok (.bipush 27, 2) := by decide +kernel
theorem dX5_advance_56 : decode cX5_advance 56 = .ok (.if_icmp .ne 24, 3) := by decide +kernel
theorem dX5_advance_59 : decode cX5_advance 59 = .ok (.aload_n 0, 1) := by decide +kernel
theorem dX5_advance_60 : decode cX5_advance 60 = .ok (.iconst 1, 1) := by decide +kernel
theorem dX5_advance_61 : decode cX5_advance 61 = .ok (.putfield 25, 3) := by decide +kernel
theorem dX5_advance_64 : decode cX5_advance 64 = .ok (.aload_n 0, 1) := by decide +kernel
theorem dX5_advance_65 : decode cX5_advance 65 = .ok (.aload_n 0, 1) := by decide +kernel
theorem dX5_advance_66 : decode cX5_advance 66 = .ok (.getfield 12, 3) := by decide +kernel
theorem dX5_advance_69 : decode cX5_advance 69 = .ok (.getfield 75, 3) := by decide +kernel
theorem dX5_advance_72 : decode cX5_advance 72 = .ok (.aload_n 0, 1) := by decide +kernel
theorem dX5_advance_73 : decode cX5_advance 73 = .ok (.getfield 18, 3) := by decide +kernel
theorem dX5_advance_76 : decode cX5_advance 76 = .ok (.iaload, 1) := by decide +kernel
theorem dX5_advance_77 : decode cX5_advance 77 = .ok (.putfield 28, 3) := by decide +kernel
theorem dX5_advance_80 : decode cX5_advance 80 = .ok (.return_, 1) := by decide +kernel
theorem dX5_init_0 : decode cX5_init 0 = .ok (.aload_n 0, 1) := by decide +kernel
theorem dX5_init_1 : decode cX5_init 1 = .ok (.invokespecial 3, 3) := by decide +kernel
theorem dX5_init_4 : decode cX5_init 4 = .ok (.aload_n 0, 1) := by decide +kernel
theorem dX5_init_5 : decode cX5_init 5 = .ok (.new 9, 3) := by decide +kernel
theorem dX5_init_8 : decode cX5_init 8 = .ok (.dup, 1) := by decide +kernel
theorem dX5_init_9 : decode cX5_init 9 = .ok (.invokespecial 11, 3) := by decide +kernel
theorem dX5_init_12 : decode cX5_init 12 = .ok (.putfield 12, 3) := by decide +kernel
theorem dX5_init_15 : decode cX5_init 15 = .ok (.aload_n 0, 1) := by decide +kernel
theorem dX5_init_16 : decode cX5_init 16 = .ok (.iconst 0, 1) := by decide +kernel
theorem dX5_init_17 : decode cX5_init 17 = .ok (.putfield 18, 3) := by decide +kernel
theorem dX5_init_20 : decode cX5_init 20 = .ok (.aload_n 0, 1) := by decide +kernel
theorem dX5_init_21 : decode cX5_init 21 = .ok (.bipush 26, 2) := by decide +kernel
theorem dX5_init_23 : decode cX5_init 23 = .ok (.putfield 22, 3) := by decide +kernel
theorem dX5_init_26 : decode cX5_init 26 = .ok (.aload_n 0, 1) := by decide +kernel
theorem dX5_init_27 : decode cX5_init 27 = .ok (.iconst 0, 1) := by decide +kernel
theorem dX5_init_28 : decode cX5_init 28 = .ok (.putfield 25, 3) := by decide +kernel
theorem dX5_init_31 : decode cX5_init 31 = .ok (.aload_n 0, 1) := by decide +kernel
theorem dX5_init_32 : decode cX5_init 32 = .ok (.iconst (-1), 1) := by decide +kernel
theorem dX5_init_33 : decode cX5_init 33 = .ok (.putfield 28, 3) := by decide +kernel
theorem dX5_init_36 : decode cX5_init 36 = .ok (.aload_n 0, 1) := by decide +kernel
theorem dX5_init_37 : decode cX5_init 37 = .ok (.new 31, 3) := by decide +kernel
theorem dX5_init_40 : decode cX5_init 40 = .ok (.dup, 1) := by decide +kernel
theorem dX5_init_41 : decode cX5_init 41 = .ok (.invokespecial 33, 3) := by decide +kernel
theorem dX5_init_44 : decode cX5_init 44 = .ok (.putfield 34, 3) := by decide +kernel
theorem dX5_init_47 : decode cX5_init 47 = .ok (.aload_n 0, 1) := by decide +kernel
theorem dX5_init_48 : decode cX5_init 48 = .ok (.sipush 900, 3) := by decide +kernel
theorem dX5_init_51 : decode cX5_init 51 = .ok (.newarray .int, 2) := by decide +kernel
theorem dX5_init_53 : decode cX5_init 53 = .ok (.putfield 38, 3) := by decide +kernel
theorem dX5_init_56 : decode cX5_init 56 = .ok (.aload_n 0, 1) := by decide +kernel
theorem dX5_init_57 : decode cX5_init 57 = .ok (.iconst 0, 1) := by decide +kernel
theorem dX5_init_58 : decode cX5_init 58 = .ok (.putfield 42, 3) := by decide +kernel
theorem dX5_init_61 : decode cX5_init 61 = .ok (.aload_n 0, 1) := by decide +kernel
theorem dX5_init_62 : decode cX5_init 62 = .ok (.iconst 0, 1) := by decide +kernel
theorem dX5_init_63 : decode cX5_init 63 = .ok (.putfield 45, 3) := by decide +kernel
theorem dX5_init_66 : decode cX5_init 66 = .ok (.return_, 1) := by decide +kernel
theorem dX5_read_0 : decode cX5_read 0 = .ok (.aload_n 0, 1) := by decide +kernel
theorem dX5_read_1 : decode cX5_read 1 = .ok (.getfield 12, 3) := by decide +kernel
theorem dX5_read_4 : decode cX5_read 4 = .ok (.aload_n 1, 1) := by decide +kernel
theorem dX5_read_5 : decode cX5_read 5 = .ok (.iload_n 2, 1) := by decide +kernel
theorem dX5_read_6 : decode cX5_read 6 = .ok (.invokevirtual 48, 3) := by decide +kernel
theorem dX5_read_9 : decode cX5_read 9 = .ok (.aload_n 0, 1) := by decide +kernel
theorem dX5_read_10 : decode cX5_read 10 = .ok (.iconst (-1), 1) := by decide +kernel
theorem dX5_read_11 : decode cX5_read 11 = .ok (.putfield 18, 3) := by decide +kernel
theorem dX5_read_14 : decode cX5_read 14 = .ok (.aload_n 0, 1) := by decide +kernel
theorem dX5_read_15 : decode cX5_read 15 = .ok (.iconst 0, 1) := by decide +kernel
theorem dX5_read_16 : decode cX5_read 16 = .ok (.putfield 25, 3) := by decide +kernel
theorem dX5_read_19 : decode cX5_read 19 = .ok (.aload_n 0, 1) := by decide +kernel
theorem dX5_read_20 : decode cX5_read 20 = .ok (.iconst (-1), 1) := by decide +kernel
theorem dX5_read_21 : decode cX5_read 21 = .ok (.putfield 28, 3) := by decide +kernel
theorem dX5_read_24 : decode cX5_read 24 = .ok (.aload_n 0, 1) := by decide +kernel
theorem dX5_read_25 : decode cX5_read 25 = .ok (.new 31, 3) := by decide +kernel
theorem dX5_read_28 : decode cX5_read 28 = .ok (.dup, 1) := by decide +kernel
theorem dX5_read_29 : decode cX5_read 29 = .ok (.invokespecial 33, 3) := by decide +kernel
theorem dX5_read_32 : decode cX5_read 32 = .ok (.putfield 34, 3) := by decide +kernel
theorem dX5_read_35 : decode cX5_read 35 = .ok (.aload_n 0, 1) := by decide +kernel
theorem dX5_read_36 : decode cX5_read 36 = .ok (.invokevirtual 52, 3) := by decide +kernel
theorem dX5_read_39 : decode cX5_read 39 = .ok (.aload_n 0, 1) := by decide +kernel
theorem dX5_read_40 : decode cX5_read 40 = .ok (.bipush 11, 2) := by decide +kernel
theorem dX5_read_42 : decode cX5_read 42 = .ok (.invokevirtual 55, 3) := by decide +kernel
theorem dX5_read_45 : decode cX5_read 45 = .ok (.aload_n 0, 1) := by decide +kernel
theorem dX5_read_46 : decode cX5_read 46 = .ok (.bipush 12, 2) := by decide +kernel
theorem dX5_read_48 : decode cX5_read 48 = .ok (.invokevirtual 55, 3) := by decide +kernel
theorem dX5_read_51 : decode cX5_read 51 = .ok (.aload_n 0, 1) := by decide +kernel
theorem dX5_read_52 : decode cX5_read 52 = .ok (.getfield 34, 3) := by decide +kernel
theorem dX5_read_55 : decode cX5_read 55 = .ok (.aload_n 0, 1) := by decide +kernel
theorem dX5_read_56 : decode cX5_read 56 = .ok (.iconst 1, 1) := by decide +kernel
theorem dX5_read_57 : decode cX5_read 57 = .ok (.iconst 3, 1) := by decide +kernel
theorem dX5_read_58 : decode cX5_read 58 = .ok (.invokevirtual 59, 3) := by decide +kernel
theorem dX5_read_61 : decode cX5_read 61 = .ok (.putfield 63, 3) := by decide +kernel
theorem dX5_read_64 : decode cX5_read 64 = .ok (.aload_n 0, 1) := by decide +kernel
theorem dX5_read_65 : decode cX5_read 65 = .ok (.bipush 59, 2) := by decide +kernel
theorem dX5_read_67 : decode cX5_read 67 = .ok (.invokevirtual 55, 3) := by decide +kernel
theorem dX5_read_70 : decode cX5_read 70 = .ok (.aload_n 0, 1) := by decide +kernel
theorem dX5_read_71 : decode cX5_read 71 = .ok (.getfield 34, 3) := by decide +kernel
theorem dX5_read_74 : decode cX5_read 74 = .ok (.iconst 1, 1) := by decide +kernel
theorem dX5_read_75 : decode cX5_read 75 = .ok (.putfield 66, 3) := by decide +kernel
theorem dX5_read_78 : decode cX5_read 78 = .ok (.iconst 0, 1) := by decide +kernel
theorem dX5_read_79 : decode cX5_read 79 = .ok (.istore_n 3, 1) := by decide +kernel
theorem dX5_read_80 : decode cX5_read 80 = .ok (.iload_n 3, 1) := by decide +kernel
theorem dX5_read_81 : decode cX5_read 81 = .ok (.aload_n 0, 1) := by decide +kernel
theorem dX5_read_82 : decode cX5_read 82 = .ok (.getfield 12, 3) := by decide +kernel
theorem dX5_read_85 : decode cX5_read 85 = .ok (.getfield 69, 3) := by decide +kernel
theorem dX5_read_88 : decode cX5_read 88 = .ok (.if_icmp .ge 50, 3) := by decide +kernel
theorem dX5_read_91 : decode cX5_read 91 = .ok (.aload_n 0, 1) := by decide +kernel
theorem dX5_read_92 : decode cX5_read 92 = .ok (.getfield 22, 3) := by decide +kernel
theorem dX5_read_95 : decode cX5_read 95 = .ok (.bipush 26, 2) := by decide +kernel
theorem dX5_read_97 : decode cX5_read 97 = .ok (.if_icmp .eq 41, 3) := by decide +kernel
theorem dX5_read_100 : decode cX5_read 100 = .ok (.aload_n 0, 1) := by decide +kernel
theorem dX5_read_101 : decode cX5_read 101 = .ok (.getfield 22, 3) := by decide +kernel
theorem dX5_read_104 : decode cX5_read 104 = .ok (.bipush 27, 2) := by decide +kernel
theorem dX5_read_106 : decode cX5_read 106 = .ok (.if_icmp .eq 32, 3) := by decide +kernel
theorem dX5_read_109 : decode cX5_read 109 = .ok (.aload_n 0, 1) := by decide +kernel
theorem dX5_read_110 : decode cX5_read 110 = .ok (.invokevirtual 72, 3) := by decide +kernel
theorem dX5_read_113 : decode cX5_read 113 = .ok (.aload_n 0, 1) := by decide +kernel
theorem dX5_read_114 : decode cX5_read 114 = .ok (.bipush 59, 2) := by decide +kernel
theorem dX5_read_116 : decode cX5_read 116 = .ok (.invokevirtual 55, 3) := by decide +kernel
theorem dX5_read_119 : decode cX5_read 119 = .ok (.aload_n 0, 1) := by decide +kernel
theorem dX5_read_120 : decode cX5_read 120 = .ok (.getfield 34, 3) := by decide +kernel
theorem dX5_read_123 : decode cX5_read 123 = .ok (.dup, 1) := by decide +kernel
theorem dX5_read_124 : decode cX5_read 124 = .ok (.getfield 66, 3) := by decide +kernel
theorem dX5_read_127 : decode cX5_read 127 = .ok (.iconst 1, 1) := by decide +kernel
theorem dX5_read_128 : decode cX5_read 128 = .ok (.iadd, 1) := by decide +kernel
theorem dX5_read_129 : decode cX5_read 129 = .ok (.putfield 66, 3) := by decide +kernel
theorem dX5_read_132 : decode cX5_read 132 = .ok (.iinc 3 1, 3) := by decide +kernel
theorem dX5_read_135 : decode cX5_read 135 = .ok (.goto (-55), 3) := by decide +kernel
theorem dX5_read_138 : decode cX5_read 138 = .ok (.aload_n 0, 1) := by decide +kernel
theorem dX5_read_139 : decode cX5_read 139 = .ok (.getfield 34, 3) := by decide +kernel
theorem dX5_read_142 : decode cX5_read 142 = .ok (.areturn, 1) := by decide +kernel
theorem dX5_refuse_0 : decode cX5_refuse 0 = .ok (.aload_n 0, 1) := by decide +kernel
theorem dX5_refuse_1 : decode cX5_refuse 1 = .ok (.getfield 25, 3) := by decide +kernel
theorem dX5_refuse_4 : decode cX5_refuse 4 = .ok (.ifCond .ne 30, 3) := by decide +kernel
theorem dX5_refuse_7 : decode cX5_refuse 7 = .ok (.aload_n 0, 1) := by decide +kernel
theorem dX5_refuse_8 : decode cX5_refuse 8 = .ok (.iload_n 1, 1) := by decide +kernel
theorem dX5_refuse_9 : decode cX5_refuse 9 = .ok (.putfield 25, 3) := by decide +kernel
theorem dX5_refuse_12 : decode cX5_refuse 12 = .ok (.aload_n 0, 1) := by decide +kernel
theorem dX5_refuse_13 : decode cX5_refuse 13 = .ok (.aload_n 0, 1) := by decide +kernel
theorem dX5_refuse_14 : decode cX5_refuse 14 = .ok (.getfield 12, 3) := by decide +kernel
theorem dX5_refuse_17 : decode cX5_refuse 17 = .ok (.getfield 75, 3) := by decide +kernel
theorem dX5_refuse_20 : decode cX5_refuse 20 = .ok (.aload_n 0, 1) := by decide +kernel
theorem dX5_refuse_21 : decode cX5_refuse 21 = .ok (.getfield 18, 3) := by decide +kernel
theorem dX5_refuse_24 : decode cX5_refuse 24 = .ok (.iaload, 1) := by decide +kernel
theorem dX5_refuse_25 : decode cX5_refuse 25 = .ok (.putfield 28, 3) := by decide +kernel
theorem dX5_refuse_28 : decode cX5_refuse 28 = .ok (.aload_n 0, 1) := by decide +kernel
theorem dX5_refuse_29 : decode cX5_refuse 29 = .ok (.bipush 27, 2) := by decide +kernel
theorem dX5_refuse_31 : decode cX5_refuse 31 = .ok (.putfield 22, 3) := by decide +kernel
theorem dX5_refuse_34 : decode cX5_refuse 34 = .ok (.return_, 1) := by decide +kernel
theorem dX5_take_0 : decode cX5_take 0 = .ok (.aload_n 0, 1) := by decide +kernel
theorem dX5_take_1 : decode cX5_take 1 = .ok (.getfield 22, 3) := by decide +kernel
theorem dX5_take_4 : decode cX5_take 4 = .ok (.iload_n 1, 1) := by decide +kernel
theorem dX5_take_5 : decode cX5_take 5 = .ok (.if_icmp .ne 10, 3) := by decide +kernel
theorem dX5_take_8 : decode cX5_take 8 = .ok (.aload_n 0, 1) := by decide +kernel
theorem dX5_take_9 : decode cX5_take 9 = .ok (.invokevirtual 52, 3) := by decide +kernel
theorem dX5_take_12 : decode cX5_take 12 = .ok (.goto 8, 3) := by decide +kernel
theorem dX5_take_15 : decode cX5_take 15 = .ok (.aload_n 0, 1) := by decide +kernel
theorem dX5_take_16 : decode cX5_take 16 = .ok (.iconst 2, 1) := by decide +kernel
theorem dX5_take_17 : decode cX5_take 17 = .ok (.invokevirtual 81, 3) := by decide +kernel
theorem dX5_take_20 : decode cX5_take 20 = .ok (.return_, 1) := by decide +kernel
theorem dX5_takeNumber_0 : decode cX5_takeNumber 0 = .ok (.aload_n 0, 1) := by decide +kernel
theorem dX5_takeNumber_1 : decode cX5_takeNumber 1 = .ok (.getfield 22, 3) := by decide +kernel
theorem dX5_takeNumber_4 : decode cX5_takeNumber 4 = .ok (.bipush 25, 2) := by decide +kernel
theorem dX5_takeNumber_6 : decode cX5_takeNumber 6 = .ok (.if_icmp .eq 10, 3) := by decide +kernel
theorem dX5_takeNumber_9 : decode cX5_takeNumber 9 = .ok (.aload_n 0, 1) := by decide +kernel
theorem dX5_takeNumber_10 : decode cX5_takeNumber 10 = .ok (.iconst 2, 1) := by decide +kernel
theorem dX5_takeNumber_11 : decode cX5_takeNumber 11 = .ok (.invokevirtual 81, 3) := by decide +kernel
theorem dX5_takeNumber_14 : decode cX5_takeNumber 14 = .ok (.iload_n 1, 1) := by decide +kernel
theorem dX5_takeNumber_15 : decode cX5_takeNumber 15 = .ok (.ireturn, 1) := by decide +kernel
theorem dX5_takeNumber_16 : decode cX5_takeNumber 16 = .ok (.aload_n 0, 1) := by decide +kernel
theorem dX5_takeNumber_17 : decode cX5_takeNumber 17 = .ok (.getfield 12, 3) := by decide +kernel
theorem dX5_takeNumber_20 : decode cX5_takeNumber 20 = .ok (.getfield 84, 3) := by decide +kernel
theorem dX5_takeNumber_23 : decode cX5_takeNumber 23 = .ok (.aload_n 0, 1) := by decide +kernel
theorem dX5_takeNumber_24 : decode cX5_takeNumber 24 = .ok (.getfield 18, 3) := by decide +kernel
theorem dX5_takeNumber_27 : decode cX5_takeNumber 27 = .ok (.iaload, 1) := by decide +kernel
theorem dX5_takeNumber_28 : decode cX5_takeNumber 28 = .ok (.istore_n 3, 1) := by decide +kernel
theorem dX5_takeNumber_29 : decode cX5_takeNumber 29 = .ok (.iload_n 3, 1) := by decide +kernel
theorem dX5_takeNumber_30 : decode cX5_takeNumber 30 = .ok (.iload_n 1, 1) := by decide +kernel
theorem dX5_takeNumber_31 : decode cX5_takeNumber 31 = .ok (.if_icmp .lt 8, 3) := by decide +kernel
theorem dX5_takeNumber_34 : decode cX5_takeNumber 34 = .ok (.iload_n 3, 1) := by decide +kernel
theorem dX5_takeNumber_35 : decode cX5_takeNumber 35 = .ok (.iload_n 2, 1) := by decide +kernel
theorem dX5_takeNumber_36 : decode cX5_takeNumber 36 = .ok (.if_icmp .le 10, 3) := by decide +kernel
theorem dX5_takeNumber_39 : decode cX5_takeNumber 39 = .ok (.aload_n 0, 1) := by decide +kernel
theorem dX5_takeNumber_40 : decode cX5_takeNumber 40 = .ok (.iconst 3, 1) := by decide +kernel
theorem dX5_takeNumber_41 : decode cX5_takeNumber 41 = .ok (.invokevirtual 81, 3) := by decide +kernel
theorem dX5_takeNumber_44 : decode cX5_takeNumber 44 = .ok (.iload_n 1, 1) := by decide +kernel
theorem dX5_takeNumber_45 : decode cX5_takeNumber 45 = .ok (.ireturn, 1) := by decide +kernel
theorem dX5_takeNumber_46 : decode cX5_takeNumber 46 = .ok (.aload_n 0, 1) := by decide +kernel
theorem dX5_takeNumber_47 : decode cX5_takeNumber 47 = .ok (.invokevirtual 52, 3) := by decide +kernel
theorem dX5_takeNumber_50 : decode cX5_takeNumber 50 = .ok (.iload_n 3, 1) := by decide +kernel
theorem dX5_takeNumber_51 : decode cX5_takeNumber 51 = .ok (.ireturn, 1) := by decide +kernel
theorem dX6_init_0 : decode cX6_init 0 = .ok (.aload_n 0, 1) := by decide +kernel
theorem dX6_init_1 : decode cX6_init 1 = .ok (.invokespecial 3, 3) := by decide +kernel
theorem dX6_init_4 : decode cX6_init 4 = .ok (.aload_n 0, 1) := by decide +kernel
theorem dX6_init_5 : decode cX6_init 5 = .ok (.bipush 11, 2) := by decide +kernel
theorem dX6_init_7 : decode cX6_init 7 = .ok (.newarray .int, 2) := by decide +kernel
theorem dX6_init_9 : decode cX6_init 9 = .ok (.putfield 9, 3) := by decide +kernel
theorem dX6_init_12 : decode cX6_init 12 = .ok (.aload_n 0, 1) := by decide +kernel
theorem dX6_init_13 : decode cX6_init 13 = .ok (.bipush 64, 2) := by decide +kernel
theorem dX6_init_15 : decode cX6_init 15 = .ok (.newarray .int, 2) := by decide +kernel
theorem dX6_init_17 : decode cX6_init 17 = .ok (.putfield 15, 3) := by decide +kernel
theorem dX6_init_20 : decode cX6_init 20 = .ok (.return_, 1) := by decide +kernel
theorem dX7_carryOut_0 : decode cX7_carryOut 0 = .ok (.lload_n 1, 1) := by decide +kernel
theorem dX7_carryOut_1 : decode cX7_carryOut 1 = .ok (.lconst 0, 1) := by decide +kernel
theorem dX7_carryOut_2 : decode cX7_carryOut 2 = .ok (.lcmp, 1) := by decide +kernel
theorem dX7_carryOut_3 : decode cX7_carryOut 3 = .ok (.ifCond .ge 16, 3) := by decide +kernel
theorem dX7_carryOut_6 : decode cX7_carryOut 6 = .ok (.aload_n 0, 1) := by decide +kernel
theorem dX7_carryOut_7 : decode cX7_carryOut 7 = .ok (.dup, 1) := by decide +kernel
theorem dX7_carryOut_8 : decode cX7_carryOut 8 = .ok (.getfield 9, 3) := by decide +kernel
theorem dX7_carryOut_11 : decode cX7_carryOut 11 = .ok (.iconst 1, 1) := by decide +kernel
theorem dX7_carryOut_12 : decode cX7_carryOut 12 = .ok (.iadd, 1) := by decide +kernel
theorem dX7_carryOut_13 : decode cX7_carryOut 13 = .ok (.putfield 9, 3) := by decide +kernel
theorem dX7_carryOut_16 : decode cX7_carryOut 16 = .ok (.goto 92, 3) := by decide +kernel
theorem dX7_carryOut_19 : decode cX7_carryOut 19 = .ok (.lload_n 1, 1) := by decide +kernel
theorem dX7_carryOut_20 : decode cX7_carryOut 20 = .ok (.ldc2_w 53, 3) := by decide +kernel
theorem dX7_carryOut_23 : decode cX7_carryOut 23 = .ok (.lcmp, 1) := by decide +kernel
theorem dX7_carryOut_24 : decode cX7_carryOut 24 = .ok (.ifCond .ge 39, 3) := by decide +kernel
theorem dX7_carryOut_27 : decode cX7_carryOut 27 = .ok (.lload_n 1, 1) := by decide +kernel
theorem dX7_carryOut_28 : decode cX7_carryOut 28 = .ok (.l2i, 1) := by decide +kernel
theorem dX7_carryOut_29 : decode cX7_carryOut 29 = .ok (.bipush 10, 2) := by decide +kernel
theorem dX7_carryOut_31 : decode cX7_carryOut 31 = .ok (.idiv, 1) := by decide +kernel
theorem dX7_carryOut_32 : decode cX7_carryOut 32 = .ok (.istore 4, 2) := by decide +kernel
theorem dX7_carryOut_34 : decode cX7_carryOut 34 = .ok (.aload_n 0, 1) := by decide +kernel
theorem dX7_carryOut_35 : decode cX7_carryOut 35 = .ok (.getfield 18, 3) := by decide +kernel
theorem dX7_carryOut_38 : decode cX7_carryOut 38 = .ok (.iload 4, 2) := by decide +kernel
theorem dX7_carryOut_40 : decode cX7_carryOut 40 = .ok (.aload_n 3, 1) := by decide +kernel
theorem dX7_carryOut_41 : decode cX7_carryOut 41 = .ok (.aload_n 0, 1) := by decide +kernel
theorem dX7_carryOut_42 : decode cX7_carryOut 42 = .ok (.iload 4, 2) := by decide +kernel
theorem dX7_carryOut_44 : decode cX7_carryOut 44 = .ok (.aload_n 0, 1) := by decide +kernel
theorem dX7_carryOut_45 : decode cX7_carryOut 45 = .ok (.getfield 18, 3) := by decide +kernel
theorem dX7_carryOut_48 : decode cX7_carryOut 48 = .ok (.iload 4, 2) := by decide +kernel
theorem dX7_carryOut_50 : decode cX7_carryOut 50 = .ok (.iaload, 1) := by decide +kernel
theorem dX7_carryOut_51 : decode cX7_carryOut 51 = .ok (.lload_n 1, 1) := by decide +kernel
theorem dX7_carryOut_52 : decode cX7_carryOut 52 = .ok (.l2i, 1) := by decide +kernel
theorem dX7_carryOut_53 : decode cX7_carryOut 53 = .ok (.bipush 10, 2) := by decide +kernel
theorem dX7_carryOut_55 : decode cX7_carryOut 55 = .ok (.irem, 1) := by decide +kernel
theorem dX7_carryOut_56 : decode cX7_carryOut 56 = .ok (.invokevirtual 69, 3) := by decide +kernel
theorem dX7_carryOut_59 : decode cX7_carryOut 59 = .ok (.iastore, 1) := by decide +kernel
theorem dX7_carryOut_60 : decode cX7_carryOut 60 = .ok (.goto 48, 3) := by decide +kernel
theorem dX7_carryOut_63 : decode cX7_carryOut 63 = .ok (.lload_n 1, 1) := by decide +kernel
theorem dX7_carryOut_64 : decode cX7_carryOut 64 = .ok (.ldc2_w 61, 3) := by decide +kernel
theorem dX7_carryOut_67 : decode cX7_carryOut 67 = .ok (.lcmp, 1) := by decide +kernel
theorem dX7_carryOut_68 : decode cX7_carryOut 68 = .ok (.ifCond .ge 22, 3) := by decide +kernel
theorem dX7_carryOut_71 : decode cX7_carryOut 71 = .ok (.aload_n 0, 1) := by decide +kernel
theorem dX7_carryOut_72 : decode cX7_carryOut 72 = .ok (.dup, 1) := by decide +kernel
theorem dX7_carryOut_73 : decode cX7_carryOut 73 = .ok (.getfield 15, 3) := by decide +kernel
theorem dX7_carryOut_76 : decode cX7_carryOut 76 = .ok (.iconst 1, 1) := by decide +kernel
theorem dX7_carryOut_77 : decode cX7_carryOut 77 = .ok (.lload_n 1, 1) := by decide +kernel
theorem dX7_carryOut_78 : decode cX7_carryOut 78 = .ok (.l2i, 1) := by decide +kernel
theorem dX7_carryOut_79 : decode cX7_carryOut 79 = .ok (.bipush 10, 2) := by decide +kernel
theorem dX7_carryOut_81 : decode cX7_carryOut 81 = .ok (.irem, 1) := by decide +kernel
theorem dX7_carryOut_82 : decode cX7_carryOut 82 = .ok (.ishl, 1) := by decide +kernel
theorem dX7_carryOut_83 : decode cX7_carryOut 83 = .ok (.ior, 1) := by decide +kernel
theorem dX7_carryOut_84 : decode cX7_carryOut 84 = .ok (.putfield 15, 3) := by decide +kernel
theorem dX7_carryOut_87 : decode cX7_carryOut 87 = .ok (.goto 21, 3) := by decide +kernel
theorem dX7_carryOut_90 : decode cX7_carryOut 90 = .ok (.aload_n 0, 1) := by decide +kernel
theorem dX7_carryOut_91 : decode cX7_carryOut 91 = .ok (.dup, 1) := by decide +kernel
theorem dX7_carryOut_92 : decode cX7_carryOut 92 = .ok (.getfield 15, 3) := by decide +kernel
theorem dX7_carryOut_95 : decode cX7_carryOut 95 = .ok (.iconst 1, 1) := by decide +kernel
theorem dX7_carryOut_96 : decode cX7_carryOut 96 = .ok (.lload_n 1, 1) := by decide +kernel
theorem dX7_carryOut_97 : decode cX7_carryOut 97 = .ok (.l2i, 1) := by decide +kernel
theorem dX7_carryOut_98 : decode cX7_carryOut 98 = .ok (.bipush 10, 2) := by decide +kernel
theorem dX7_carryOut_100 : decode cX7_carryOut 100 = .ok (.irem, 1) := by decide +kernel
theorem dX7_carryOut_101 : decode cX7_carryOut 101 = .ok (.ishl, 1) := by decide +kernel
theorem dX7_carryOut_102 : decode cX7_carryOut 102 = .ok (.iconst (-1), 1) := by decide +kernel
theorem dX7_carryOut_103 : decode cX7_carryOut 103 = .ok (.ixor, 1) := by decide +kernel
theorem dX7_carryOut_104 : decode cX7_carryOut 104 = .ok (.iand, 1) := by decide +kernel
theorem dX7_carryOut_105 : decode cX7_carryOut 105 = .ok (.putfield 15, 3) := by decide +kernel
theorem dX7_carryOut_108 : decode cX7_carryOut 108 = .ok (.return_, 1) := by decide +kernel
theorem dX7_inTown_0 : decode cX7_inTown 0 = .ok (.aload_n 0, 1) := by decide +kernel
theorem dX7_inTown_1 : decode cX7_inTown 1 = .ok (.aload_n 0, 1) := by decide +kernel
theorem dX7_inTown_2 : decode cX7_inTown 2 = .ok (.getfield 9, 3) := by decide +kernel
theorem dX7_inTown_5 : decode cX7_inTown 5 = .ok (.invokevirtual 38, 3) := by decide +kernel
theorem dX7_inTown_8 : decode cX7_inTown 8 = .ok (.ireturn, 1) := by decide +kernel
theorem dX7_inTownOn_0 : decode cX7_inTownOn 0 = .ok (.iconst 0, 1) := by decide +kernel
theorem dX7_inTownOn_1 : decode cX7_inTownOn 1 = .ok (.istore_n 2, 1) := by decide +kernel
theorem dX7_inTownOn_2 : decode cX7_inTownOn 2 = .ok (.iconst 0, 1) := by decide +kernel
theorem dX7_inTownOn_3 : decode cX7_inTownOn 3 = .ok (.istore_n 3, 1) := by decide +kernel
theorem dX7_inTownOn_4 : decode cX7_inTownOn 4 = .ok (.iload_n 3, 1) := by decide +kernel
theorem dX7_inTownOn_5 : decode cX7_inTownOn 5 = .ok (.aload_n 0, 1) := by decide +kernel
theorem dX7_inTownOn_6 : decode cX7_inTownOn 6 = .ok (.getfield 22, 3) := by decide +kernel
theorem dX7_inTownOn_9 : decode cX7_inTownOn 9 = .ok (.getfield 42, 3) := by decide +kernel
theorem dX7_inTownOn_12 : decode cX7_inTownOn 12 = .ok (.if_icmp .ge 41, 3) := by decide +kernel
theorem dX7_inTownOn_15 : decode cX7_inTownOn 15 = .ok (.aload_n 0, 1) := by decide +kernel
theorem dX7_inTownOn_16 : decode cX7_inTownOn 16 = .ok (.getfield 22, 3) := by decide +kernel
theorem dX7_inTownOn_19 : decode cX7_inTownOn 19 = .ok (.getfield 45, 3) := by decide +kernel
theorem dX7_inTownOn_22 : decode cX7_inTownOn 22 = .ok (.iload_n 3, 1) := by decide +kernel
theorem dX7_inTownOn_23 : decode cX7_inTownOn 23 = .ok (.iaload, 1) := by decide +kernel
theorem dX7_inTownOn_24 : decode cX7_inTownOn 24 = .ok (.iload_n 1, 1) := by decide +kernel
theorem dX7_inTownOn_25 : decode cX7_inTownOn 25 = .ok (.if_icmp .gt 22, 3) := by decide +kernel
theorem dX7_inTownOn_28 : decode cX7_inTownOn 28 = .ok (.iload_n 1, 1) := by decide +kernel
theorem dX7_inTownOn_29 : decode cX7_inTownOn 29 = .ok (.aload_n 0, 1) := by decide +kernel
theorem dX7_inTownOn_30 : decode cX7_inTownOn 30 = .ok (.getfield 22, 3) := by decide +kernel
theorem dX7_inTownOn_33 : decode cX7_inTownOn 33 = .ok (.getfield 48, 3) := by decide +kernel
theorem dX7_inTownOn_36 : decode cX7_inTownOn 36 = .ok (.iload_n 3, 1) := by decide +kernel
theorem dX7_inTownOn_37 : decode cX7_inTownOn 37 = .ok (.iaload, 1) := by decide +kernel
theorem dX7_inTownOn_38 : decode cX7_inTownOn 38 = .ok (.if_icmp .gt 9, 3) := by decide +kernel
theorem dX7_inTownOn_41 : decode cX7_inTownOn 41 = .ok (.iload_n 2, 1) := by decide +kernel
theorem dX7_inTownOn_42 : decode cX7_inTownOn 42 = .ok (.iconst 1, 1) := by decide +kernel
theorem dX7_inTownOn_43 : decode cX7_inTownOn 43 = .ok (.iload_n 3, 1) := by decide +kernel
theorem dX7_inTownOn_44 : decode cX7_inTownOn 44 = .ok (.ishl, 1) := by decide +kernel
theorem dX7_inTownOn_45 : decode cX7_inTownOn 45 = .ok (.ior, 1) := by decide +kernel
theorem dX7_inTownOn_46 : decode cX7_inTownOn 46 = .ok (.istore_n 2, 1) := by decide +kernel
theorem dX7_inTownOn_47 : decode cX7_inTownOn 47 = .ok (.iinc 3 1, 3) := by decide +kernel
theorem dX7_inTownOn_50 : decode cX7_inTownOn 50 = .ok (.goto (-46), 3) := by decide +kernel
theorem dX7_inTownOn_53 : decode cX7_inTownOn 53 = .ok (.iload_n 2, 1) := by decide +kernel
theorem dX7_inTownOn_54 : decode cX7_inTownOn 54 = .ok (.aload_n 0, 1) := by decide +kernel
theorem dX7_inTownOn_55 : decode cX7_inTownOn 55 = .ok (.getfield 15, 3) := by decide +kernel
theorem dX7_inTownOn_58 : decode cX7_inTownOn 58 = .ok (.iconst (-1), 1) := by decide +kernel
theorem dX7_inTownOn_59 : decode cX7_inTownOn 59 = .ok (.ixor, 1) := by decide +kernel
theorem dX7_inTownOn_60 : decode cX7_inTownOn 60 = .ok (.iand, 1) := by decide +kernel
theorem dX7_inTownOn_61 : decode cX7_inTownOn 61 = .ok (.ireturn, 1) := by decide +kernel
theorem dX7_init_0 : decode cX7_init 0 = .ok (.aload_n 0, 1) := by decide +kernel
theorem dX7_init_1 : decode cX7_init 1 = .ok (.invokespecial 3, 3) := by decide +kernel
theorem dX7_init_4 : decode cX7_init 4 = .ok (.aload_n 0, 1) := by decide +kernel
theorem dX7_init_5 : decode cX7_init 5 = .ok (.iconst 0, 1) := by decide +kernel
theorem dX7_init_6 : decode cX7_init 6 = .ok (.putfield 9, 3) := by decide +kernel
theorem dX7_init_9 : decode cX7_init 9 = .ok (.aload_n 0, 1) := by decide +kernel
theorem dX7_init_10 : decode cX7_init 10 = .ok (.iconst 0, 1) := by decide +kernel
theorem dX7_init_11 : decode cX7_init 11 = .ok (.putfield 15, 3) := by decide +kernel
theorem dX7_init_14 : decode cX7_init 14 = .ok (.aload_n 0, 1) := by decide +kernel
theorem dX7_init_15 : decode cX7_init 15 = .ok (.bipush 10, 2) := by decide +kernel
theorem dX7_init_17 : decode cX7_init 17 = .ok (.newarray .int, 2) := by decide +kernel
theorem dX7_init_19 : decode cX7_init 19 = .ok (.putfield 18, 3) := by decide +kernel
theorem dX7_init_22 : decode cX7_init 22 = .ok (.aload_n 0, 1) := by decide +kernel
theorem dX7_init_23 : decode cX7_init 23 = .ok (.aload_n 1, 1) := by decide +kernel
theorem dX7_init_24 : decode cX7_init 24 = .ok (.putfield 22, 3) := by decide +kernel
theorem dX7_init_27 : decode cX7_init 27 = .ok (.return_, 1) := by decide +kernel
theorem dX7_takeFrom_0 : decode cX7_takeFrom 0 = .ok (.aload_n 0, 1) := by decide +kernel
theorem dX7_takeFrom_1 : decode cX7_takeFrom 1 = .ok (.aload_n 1, 1) := by decide +kernel
theorem dX7_takeFrom_2 : decode cX7_takeFrom 2 = .ok (.getfield 22, 3) := by decide +kernel
theorem dX7_takeFrom_5 : decode cX7_takeFrom 5 = .ok (.putfield 22, 3) := by decide +kernel
theorem dX7_takeFrom_8 : decode cX7_takeFrom 8 = .ok (.aload_n 0, 1) := by decide +kernel
theorem dX7_takeFrom_9 : decode cX7_takeFrom 9 = .ok (.aload_n 1, 1) := by decide +kernel
theorem dX7_takeFrom_10 : decode cX7_takeFrom 10 = .ok (.getfield 9, 3) := by decide +kernel
theorem dX7_takeFrom_13 : decode cX7_takeFrom 13 = .ok (.putfield 9, 3) := by decide +kernel
theorem dX7_takeFrom_16 : decode cX7_takeFrom 16 = .ok (.aload_n 0, 1) := by decide +kernel
theorem dX7_takeFrom_17 : decode cX7_takeFrom 17 = .ok (.aload_n 1, 1) := by decide +kernel
theorem dX7_takeFrom_18 : decode cX7_takeFrom 18 = .ok (.getfield 15, 3) := by decide +kernel
theorem dX7_takeFrom_21 : decode cX7_takeFrom 21 = .ok (.putfield 15, 3) := by decide +kernel
theorem dX7_takeFrom_24 : decode cX7_takeFrom 24 = .ok (.aload_n 1, 1) := by decide +kernel
theorem dX7_takeFrom_25 : decode cX7_takeFrom 25 = .ok (.getfield 18, 3) := by decide +kernel
theorem dX7_takeFrom_28 : decode cX7_takeFrom 28 = .ok (.iconst 0, 1) := by decide +kernel
theorem dX7_takeFrom_29 : decode cX7_takeFrom 29 = .ok (.aload_n 0, 1) := by decide +kernel
theorem dX7_takeFrom_30 : decode cX7_takeFrom 30 = .ok (.getfield 18, 3) := by decide +kernel
theorem dX7_takeFrom_33 : decode cX7_takeFrom 33 = .ok (.iconst 0, 1) := by decide +kernel
theorem dX7_takeFrom_34 : decode cX7_takeFrom 34 = .ok (.bipush 10, 2) := by decide +kernel
theorem dX7_takeFrom_36 : decode cX7_takeFrom 36 = .ok (.invokestatic 32, 3) := by decide +kernel
theorem dX7_takeFrom_39 : decode cX7_takeFrom 39 = .ok (.return_, 1) := by decide +kernel
theorem dX7_whyNoTalk_0 : decode cX7_whyNoTalk 0 = .ok (.iload_n 1, 1) := by decide +kernel
theorem dX7_whyNoTalk_1 : decode cX7_whyNoTalk 1 = .ok (.aload_n 0, 1) := by decide +kernel
theorem dX7_whyNoTalk_2 : decode cX7_whyNoTalk 2 = .ok (.getfield 22, 3) := by decide +kernel
theorem dX7_whyNoTalk_5 : decode cX7_whyNoTalk 5 = .ok (.getfield 42, 3) := by decide +kernel
theorem dX7_whyNoTalk_8 : decode cX7_whyNoTalk 8 = .ok (.if_icmp .ge 19, 3) := by decide +kernel
theorem dX7_whyNoTalk_11 : decode cX7_whyNoTalk 11 = .ok (.iload_n 2, 1) := by decide +kernel
theorem dX7_whyNoTalk_12 : decode cX7_whyNoTalk 12 = .ok (.aload_n 0, 1) := by decide +kernel
theorem dX7_whyNoTalk_13 : decode cX7_whyNoTalk 13 = .ok (.getfield 22, 3) := by decide +kernel
theorem dX7_whyNoTalk_16 : decode cX7_whyNoTalk 16 = .ok (.getfield 42, 3) := by decide +kernel
theorem dX7_whyNoTalk_19 : decode cX7_whyNoTalk 19 = .ok (.if_icmp .ge 8, 3) := by decide +kernel
theorem dX7_whyNoTalk_22 : decode cX7_whyNoTalk 22 = .ok (.iload_n 1, 1) := by decide +kernel
theorem dX7_whyNoTalk_23 : decode cX7_whyNoTalk 23 = .ok (.iload_n 2, 1) := by decide +kernel
theorem dX7_whyNoTalk_24 : decode cX7_whyNoTalk 24 = .ok (.if_icmp .ne 5, 3) := by decide +kernel
theorem dX7_whyNoTalk_27 : decode cX7_whyNoTalk 27 = .ok (.iconst 1, 1) := by decide +kernel
theorem dX7_whyNoTalk_28 : decode cX7_whyNoTalk 28 = .ok (.ireturn, 1) := by decide +kernel
theorem dX7_whyNoTalk_29 : decode cX7_whyNoTalk 29 = .ok (.iconst 1, 1) := by decide +kernel
theorem dX7_whyNoTalk_30 : decode cX7_whyNoTalk 30 = .ok (.iload_n 1, 1) := by decide +kernel
theorem dX7_whyNoTalk_31 : decode cX7_whyNoTalk 31 = .ok (.ishl, 1) := by decide +kernel
theorem dX7_whyNoTalk_32 : decode cX7_whyNoTalk 32 = .ok (.iconst 1, 1) := by decide +kernel
theorem dX7_whyNoTalk_33 : decode cX7_whyNoTalk 33 = .ok (.iload_n 2, 1) := by decide +kernel
theorem dX7_whyNoTalk_34 : decode cX7_whyNoTalk 34 = .ok (.ishl, 1) := by decide +kernel
theorem dX7_whyNoTalk_35 : decode cX7_whyNoTalk 35 = .ok (.ior, 1) := by decide +kernel
theorem dX7_whyNoTalk_36 : decode cX7_whyNoTalk 36 = .ok (.istore_n 3, 1) := by decide +kernel
theorem dX7_whyNoTalk_37 : decode cX7_whyNoTalk 37 = .ok (.aload_n 0, 1) := by decide +kernel
theorem dX7_whyNoTalk_38 : decode cX7_whyNoTalk 38 = .ok (.invokevirtual 65, 3) := by decide +kernel
theorem dX7_whyNoTalk_41 : decode cX7_whyNoTalk 41 = .ok (.iload_n 3, 1) := by decide +kernel
theorem dX7_whyNoTalk_42 : decode cX7_whyNoTalk 42 = .ok (.iand, 1) := by decide +kernel
theorem dX7_whyNoTalk_43 : decode cX7_whyNoTalk 43 = .ok (.iload_n 3, 1) := by decide +kernel
theorem dX7_whyNoTalk_44 : decode cX7_whyNoTalk 44 = .ok (.if_icmp .ne 7, 3) := by decide +kernel
theorem dX7_whyNoTalk_47 : decode cX7_whyNoTalk 47 = .ok (.iconst 0, 1) := by decide +kernel
theorem dX7_whyNoTalk_48 : decode cX7_whyNoTalk 48 = .ok (.goto 4, 3) := by decide +kernel
theorem dX7_whyNoTalk_51 : decode cX7_whyNoTalk 51 = .ok (.iconst 2, 1) := by decide +kernel
theorem dX7_whyNoTalk_52 : decode cX7_whyNoTalk 52 = .ok (.ireturn, 1) := by decide +kernel
theorem dX7_whyNot_0 : decode cX7_whyNot 0 = .ok (.lload_n 1, 1) := by decide +kernel
theorem dX7_whyNot_1 : decode cX7_whyNot 1 = .ok (.ldc2_w 51, 3) := by decide +kernel
theorem dX7_whyNot_4 : decode cX7_whyNot 4 = .ok (.lcmp, 1) := by decide +kernel
theorem dX7_whyNot_5 : decode cX7_whyNot 5 = .ok (.ifCond .ne 5, 3) := by decide +kernel
theorem dX7_whyNot_8 : decode cX7_whyNot 8 = .ok (.iconst 0, 1) := by decide +kernel
theorem dX7_whyNot_9 : decode cX7_whyNot 9 = .ok (.ireturn, 1) := by decide +kernel
theorem dX7_whyNot_10 : decode cX7_whyNot 10 = .ok (.lload_n 1, 1) := by decide +kernel
theorem dX7_whyNot_11 : decode cX7_whyNot 11 = .ok (.lconst 0, 1) := by decide +kernel
theorem dX7_whyNot_12 : decode cX7_whyNot 12 = .ok (.lcmp, 1) := by decide +kernel
theorem dX7_whyNot_13 : decode cX7_whyNot 13 = .ok (.ifCond .lt 26, 3) := by decide +kernel
theorem dX7_whyNot_16 : decode cX7_whyNot 16 = .ok (.lload_n 1, 1) := by decide +kernel
theorem dX7_whyNot_17 : decode cX7_whyNot 17 = .ok (.ldc2_w 53, 3) := by decide +kernel
theorem dX7_whyNot_20 : decode cX7_whyNot 20 = .ok (.lcmp, 1) := by decide +kernel
theorem dX7_whyNot_21 : decode cX7_whyNot 21 = .ok (.ifCond .ge 18, 3) := by decide +kernel
theorem dX7_whyNot_24 : decode cX7_whyNot 24 = .ok (.aload_n 0, 1) := by decide +kernel
theorem dX7_whyNot_25 : decode cX7_whyNot 25 = .ok (.lload_n 1, 1) := by decide +kernel
theorem dX7_whyNot_26 : decode cX7_whyNot 26 = .ok (.l2i, 1) := by decide +kernel
theorem dX7_whyNot_27 : decode cX7_whyNot 27 = .ok (.bipush 10, 2) := by decide +kernel
theorem dX7_whyNot_29 : decode cX7_whyNot 29 = .ok (.idiv, 1) := by decide +kernel
theorem dX7_whyNot_30 : decode cX7_whyNot 30 = .ok (.lload_n 1, 1) := by decide +kernel
theorem dX7_whyNot_31 : decode cX7_whyNot 31 = .ok (.l2i, 1) := by decide +kernel
theorem dX7_whyNot_32 : decode cX7_whyNot 32 = .ok (.bipush 10, 2) := by decide +kernel
theorem dX7_whyNot_34 : decode cX7_whyNot 34 = .ok (.irem, 1) := by decide +kernel
theorem dX7_whyNot_35 : decode cX7_whyNot 35 = .ok (.invokevirtual 55, 3) := by decide +kernel
theorem dX7_whyNot_38 : decode cX7_whyNot 38 = .ok (.ireturn, 1) := by decide +kernel
theorem dX7_whyNot_39 : decode cX7_whyNot 39 = .ok (.lload_n 1, 1) := by decide +kernel
theorem dX7_whyNot_40 : decode cX7_whyNot 40 = .ok (.ldc2_w 53, 3) := by decide +kernel
theorem dX7_whyNot_43 : decode cX7_whyNot 43 = .ok (.lcmp, 1) := by decide +kernel
theorem dX7_whyNot_44 : decode cX7_whyNot 44 = .ok (.ifCond .lt 15, 3) := by decide +kernel
theorem dX7_whyNot_47 : decode cX7_whyNot 47 = .ok (.lload_n 1, 1) := by decide +kernel
theorem dX7_whyNot_48 : decode cX7_whyNot 48 = .ok (.ldc2_w 59, 3) := by decide +kernel
theorem dX7_whyNot_51 : decode cX7_whyNot 51 = .ok (.lcmp, 1) := by decide +kernel
theorem dX7_whyNot_52 : decode cX7_whyNot 52 = .ok (.ifCond .ge 7, 3) := by decide +kernel
theorem dX7_whyNot_55 : decode cX7_whyNot 55 = .ok (.iconst 1, 1) := by decide +kernel
theorem dX7_whyNot_56 : decode cX7_whyNot 56 = .ok (.goto 4, 3) := by decide +kernel
theorem dX7_whyNot_59 : decode cX7_whyNot 59 = .ok (.iconst 0, 1) := by decide +kernel
theorem dX7_whyNot_60 : decode cX7_whyNot 60 = .ok (.istore_n 3, 1) := by decide +kernel
theorem dX7_whyNot_61 : decode cX7_whyNot 61 = .ok (.iload_n 3, 1) := by decide +kernel
theorem dX7_whyNot_62 : decode cX7_whyNot 62 = .ok (.ifCond .ne 21, 3) := by decide +kernel
theorem dX7_whyNot_65 : decode cX7_whyNot 65 = .ok (.lload_n 1, 1) := by decide +kernel
theorem dX7_whyNot_66 : decode cX7_whyNot 66 = .ok (.ldc2_w 61, 3) := by decide +kernel
theorem dX7_whyNot_69 : decode cX7_whyNot 69 = .ok (.lcmp, 1) := by decide +kernel
theorem dX7_whyNot_70 : decode cX7_whyNot 70 = .ok (.ifCond .lt 11, 3) := by decide +kernel
theorem dX7_whyNot_73 : decode cX7_whyNot 73 = .ok (.lload_n 1, 1) := by decide +kernel
theorem dX7_whyNot_74 : decode cX7_whyNot 74 = .ok (.ldc2_w 63, 3) := by decide +kernel
theorem dX7_whyNot_77 : decode cX7_whyNot 77 = .ok (.lcmp, 1) := by decide +kernel
theorem dX7_whyNot_78 : decode cX7_whyNot 78 = .ok (.ifCond .lt 5, 3) := by decide +kernel
theorem dX7_whyNot_81 : decode cX7_whyNot 81 = .ok (.iconst 1, 1) := by decide +kernel
theorem dX7_whyNot_82 : decode cX7_whyNot 82 = .ok (.ireturn, 1) := by decide +kernel
theorem dX7_whyNot_83 : decode cX7_whyNot 83 = .ok (.lload_n 1, 1) := by decide +kernel
theorem dX7_whyNot_84 : decode cX7_whyNot 84 = .ok (.l2i, 1) := by decide +kernel
theorem dX7_whyNot_85 : decode cX7_whyNot 85 = .ok (.bipush 10, 2) := by decide +kernel
theorem dX7_whyNot_87 : decode cX7_whyNot 87 = .ok (.irem, 1) := by decide +kernel
theorem dX7_whyNot_88 : decode cX7_whyNot 88 = .ok (.istore 4, 2) := by decide +kernel
theorem dX7_whyNot_90 : decode cX7_whyNot 90 = .ok (.iload 4, 2) := by decide +kernel
theorem dX7_whyNot_92 : decode cX7_whyNot 92 = .ok (.aload_n 0, 1) := by decide +kernel
theorem dX7_whyNot_93 : decode cX7_whyNot 93 = .ok (.getfield 22, 3) := by decide +kernel
theorem dX7_whyNot_96 : decode cX7_whyNot 96 = .ok (.getfield 42, 3) := by decide +kernel
theorem dX7_whyNot_99 : decode cX7_whyNot 99 = .ok (.if_icmp .lt 5, 3) := by decide +kernel
theorem dX7_whyNot_102 : decode cX7_whyNot 102 = .ok (.iconst 1, 1) := by decide +kernel
theorem dX7_whyNot_103 : decode cX7_whyNot 103 = .ok (.ireturn, 1) := by decide +kernel
theorem dX7_whyNot_104 : decode cX7_whyNot 104 = .ok (.aload_n 0, 1) := by decide +kernel
theorem dX7_whyNot_105 : decode cX7_whyNot 105 = .ok (.getfield 15, 3) := by decide +kernel
theorem dX7_whyNot_108 : decode cX7_whyNot 108 = .ok (.iload 4, 2) := by decide +kernel
theorem dX7_whyNot_110 : decode cX7_whyNot 110 = .ok (.ishr, 1) := by decide +kernel
theorem dX7_whyNot_111 : decode cX7_whyNot 111 = .ok (.iconst 1, 1) := by decide +kernel
theorem dX7_whyNot_112 : decode cX7_whyNot 112 = .ok (.iand, 1) := by decide +kernel
theorem dX7_whyNot_113 : decode cX7_whyNot 113 = .ok (.iconst 1, 1) := by decide +kernel
theorem dX7_whyNot_114 : decode cX7_whyNot 114 = .ok (.if_icmp .ne 7, 3) := by decide +kernel
theorem dX7_whyNot_117 : decode cX7_whyNot 117 = .ok (.iconst 1, 1) := by decide +kernel
theorem dX7_whyNot_118 : decode cX7_whyNot 118 = .ok (.goto 4, 3) := by decide +kernel
theorem dX7_whyNot_121 : decode cX7_whyNot 121 = .ok (.iconst 0, 1) := by decide +kernel
theorem dX7_whyNot_122 : decode cX7_whyNot 122 = .ok (.istore 5, 2) := by decide +kernel
theorem dX7_whyNot_124 : decode cX7_whyNot 124 = .ok (.iload 5, 2) := by decide +kernel
theorem dX7_whyNot_126 : decode cX7_whyNot 126 = .ok (.iload_n 3, 1) := by decide +kernel
theorem dX7_whyNot_127 : decode cX7_whyNot 127 = .ok (.if_icmp .ne 7, 3) := by decide +kernel
theorem dX7_whyNot_130 : decode cX7_whyNot 130 = .ok (.iconst 2, 1) := by decide +kernel
theorem dX7_whyNot_131 : decode cX7_whyNot 131 = .ok (.goto 4, 3) := by decide +kernel
theorem dX7_whyNot_134 : decode cX7_whyNot 134 = .ok (.iconst 0, 1) := by decide +kernel
theorem dX7_whyNot_135 : decode cX7_whyNot 135 = .ok (.ireturn, 1) := by decide +kernel
theorem dX8_cut_0 : decode cX8_cut 0 = .ok (.aload_n 0, 1) := by decide +kernel
theorem dX8_cut_1 : decode cX8_cut 1 = .ok (.aload_n 1, 1) := by decide +kernel
theorem dX8_cut_2 : decode cX8_cut 2 = .ok (.putfield 9, 3) := by decide +kernel
theorem dX8_cut_5 : decode cX8_cut 5 = .ok (.aload_n 0, 1) := by decide +kernel
theorem dX8_cut_6 : decode cX8_cut 6 = .ok (.iload_n 2, 1) := by decide +kernel
theorem dX8_cut_7 : decode cX8_cut 7 = .ok (.aload_n 1, 1) := by decide +kernel
theorem dX8_cut_8 : decode cX8_cut 8 = .ok (.arraylength, 1) := by decide +kernel
theorem dX8_cut_9 : decode cX8_cut 9 = .ok (.invokestatic 32, 3) := by decide +kernel
theorem dX8_cut_12 : decode cX8_cut 12 = .ok (.sipush 900, 3) := by decide +kernel
theorem dX8_cut_15 : decode cX8_cut 15 = .ok (.invokestatic 32, 3) := by decide +kernel
theorem dX8_cut_18 : decode cX8_cut 18 = .ok (.putfield 15, 3) := by decide +kernel
theorem dX8_cut_21 : decode cX8_cut 21 = .ok (.aload_n 0, 1) := by decide +kernel
theorem dX8_cut_22 : decode cX8_cut 22 = .ok (.iconst 0, 1) := by decide +kernel
theorem dX8_cut_23 : decode cX8_cut 23 = .ok (.putfield 19, 3) := by decide +kernel
theorem dX8_cut_26 : decode cX8_cut 26 = .ok (.iconst 0, 1) := by decide +kernel
theorem dX8_cut_27 : decode cX8_cut 27 = .ok (.istore_n 3, 1) := by decide +kernel
theorem dX8_cut_28 : decode cX8_cut 28 = .ok (.iconst 1, 1) := by decide +kernel
theorem dX8_cut_29 : decode cX8_cut 29 = .ok (.istore 4, 2) := by decide +kernel
theorem dX8_cut_31 : decode cX8_cut 31 = .ok (.iconst 0, 1) := by decide +kernel
theorem dX8_cut_32 : decode cX8_cut 32 = .ok (.istore 5, 2) := by decide +kernel
theorem dX8_cut_34 : decode cX8_cut 34 = .ok (.iload 5, 2) := by decide +kernel
theorem dX8_cut_36 : decode cX8_cut 36 = .ok (.aload_n 0, 1) := by decide +kernel
theorem dX8_cut_37 : decode cX8_cut 37 = .ok (.getfield 15, 3) := by decide +kernel
theorem dX8_cut_40 : decode cX8_cut 40 = .ok (.if_icmp .gt 151, 3) := by decide +kernel
theorem dX8_cut_43 : decode cX8_cut 43 = .ok (.iload 4, 2) := by decide +kernel
theorem dX8_cut_45 : decode cX8_cut 45 = .ok (.ifCond .eq 146, 3) := by decide +kernel
theorem dX8_cut_48 : decode cX8_cut 48 = .ok (.iload_n 3, 1) := by decide +kernel
theorem dX8_cut_49 : decode cX8_cut 49 = .ok (.aload_n 0, 1) := by decide +kernel
theorem dX8_cut_50 : decode cX8_cut 50 = .ok (.getfield 15, 3) := by decide +kernel
theorem dX8_cut_53 : decode cX8_cut 53 = .ok (.if_icmp .ge 31, 3) := by decide +kernel
theorem dX8_cut_56 : decode cX8_cut 56 = .ok (.aload_n 0, 1) := by decide +kernel
theorem dX8_cut_57 : decode cX8_cut 57 = .ok (.getfield 9, 3) := by decide +kernel
theorem dX8_cut_60 : decode cX8_cut 60 = .ok (.iload_n 3, 1) := by decide +kernel
theorem dX8_cut_61 : decode cX8_cut 61 = .ok (.baload, 1) := by decide +kernel
theorem dX8_cut_62 : decode cX8_cut 62 = .ok (.bipush 10, 2) := by decide +kernel
theorem dX8_cut_64 : decode cX8_cut 64 = .ok (.if_icmp .eq 14, 3) := by decide +kernel
theorem dX8_cut_67 : decode cX8_cut 67 = .ok (.aload_n 0, 1) := by decide +kernel
theorem dX8_cut_68 : decode cX8_cut 68 = .ok (.getfield 9, 3) := by decide +kernel
theorem dX8_cut_71 : decode cX8_cut 71 = .ok (.iload_n 3, 1) := by decide +kernel
theorem dX8_cut_72 : decode cX8_cut 72 = .ok (.baload, 1) := by decide +kernel
theorem dX8_cut_73 : decode cX8_cut 73 = .ok (.bipush 32, 2) := by decide +kernel
theorem dX8_cut_75 : decode cX8_cut 75 = .ok (.if_icmp .ne 9, 3) := by decide +kernel
theorem dX8_cut_78 : decode cX8_cut 78 = .ok (.iinc 3 1, 3) := by decide +kernel
theorem dX8_cut_81 : decode cX8_cut 81 = .ok (.goto (-33), 3) := by decide +kernel
theorem dX8_cut_84 : decode cX8_cut 84 = .ok (.aload_n 0, 1) := by decide +kernel
theorem dX8_cut_85 : decode cX8_cut 85 = .ok (.iload_n 3, 1) := by decide +kernel
theorem dX8_cut_86 : decode cX8_cut 86 = .ok (.invokevirtual 38, 3) := by decide +kernel
theorem dX8_cut_89 : decode cX8_cut 89 = .ok (.istore 6, 2) := by decide +kernel
theorem dX8_cut_91 : decode cX8_cut 91 = .ok (.aload_n 0, 1) := by decide +kernel
theorem dX8_cut_92 : decode cX8_cut 92 = .ok (.getfield 22, 3) := by decide +kernel
theorem dX8_cut_95 : decode cX8_cut 95 = .ok (.iload 5, 2) := by decide +kernel
theorem dX8_cut_97 : decode cX8_cut 97 = .ok (.aload_n 0, 1) := by decide +kernel
theorem dX8_cut_98 : decode cX8_cut 98 = .ok (.iload_n 3, 1) := by decide +kernel
theorem dX8_cut_99 : decode cX8_cut 99 = .ok (.iload 6, 2) := by decide +kernel
theorem dX8_cut_101 : decode cX8_cut 101 = .ok (.invokevirtual 42, 3) := by decide +kernel
theorem dX8_cut_104 : decode cX8_cut 104 = .ok (.iastore, 1) := by decide +kernel
theorem dX8_cut_105 : decode cX8_cut 105 = .ok (.aload_n 0, 1) := by decide +kernel
theorem dX8_cut_106 : decode cX8_cut 106 = .ok (.getfield 26, 3) := by decide +kernel
theorem dX8_cut_109 : decode cX8_cut 109 = .ok (.iload 5, 2) := by decide +kernel
theorem dX8_cut_111 : decode cX8_cut 111 = .ok (.iload_n 3, 1) := by decide +kernel
theorem dX8_cut_112 : decode cX8_cut 112 = .ok (.iastore, 1) := by decide +kernel
theorem dX8_cut_113 : decode cX8_cut 113 = .ok (.aload_n 0, 1) := by decide +kernel
theorem dX8_cut_114 : decode cX8_cut 114 = .ok (.getfield 29, 3) := by decide +kernel
theorem dX8_cut_117 : decode cX8_cut 117 = .ok (.iload 5, 2) := by decide +kernel
theorem dX8_cut_119 : decode cX8_cut 119 = .ok (.aload_n 0, 1) := by decide +kernel
theorem dX8_cut_120 : decode cX8_cut 120 = .ok (.getfield 22, 3) := by decide +kernel
theorem dX8_cut_123 : decode cX8_cut 123 = .ok (.iload 5, 2) := by decide +kernel
theorem dX8_cut_125 : decode cX8_cut 125 = .ok (.iaload, 1) := by decide +kernel
theorem dX8_cut_126 : decode cX8_cut 126 = .ok (.bipush 25, 2) := by decide +kernel
theorem dX8_cut_128 : decode cX8_cut 128 = .ok (.if_icmp .ne 13, 3) := by decide +kernel
theorem dX8_cut_131 : decode cX8_cut 131 = .ok (.aload_n 0, 1) := by decide +kernel
theorem dX8_cut_132 : decode cX8_cut 132 = .ok (.iload_n 3, 1) := by decide +kernel
theorem dX8_cut_133 : decode cX8_cut 133 = .ok (.iload 6, 2) := by decide +kernel
theorem dX8_cut_135 : decode cX8_cut 135 = .ok (.invokevirtual 45, 3) := by decide +kernel
theorem dX8_cut_138 : decode cX8_cut 138 = .ok (.goto 4, 3) := by decide +kernel
theorem dX8_cut_141 : decode cX8_cut 141 = .ok (.iconst 0, 1) := by decide +kernel
theorem dX8_cut_142 : decode cX8_cut 142 = .ok (.iastore, 1) := by decide +kernel
theorem dX8_cut_143 : decode cX8_cut 143 = .ok (.aload_n 0, 1) := by decide +kernel
theorem dX8_cut_144 : decode cX8_cut 144 = .ok (.iload 5, 2) := by decide +kernel
theorem dX8_cut_146 : decode cX8_cut 146 = .ok (.iconst 1, 1) := by decide +kernel
theorem dX8_cut_147 : decode cX8_cut 147 = .ok (.iadd, 1) := by decide +kernel
theorem dX8_cut_148 : decode cX8_cut 148 = .ok (.putfield 19, 3) := by decide +kernel
theorem dX8_cut_151 : decode cX8_cut 151 = .ok (.iload 6, 2) := by decide +kernel
theorem dX8_cut_153 : decode cX8_cut 153 = .ok (.istore_n 3, 1) := by decide +kernel
theorem dX8_cut_154 : decode cX8_cut 154 = .ok (.aload_n 0, 1) := by decide +kernel
theorem dX8_cut_155 : decode cX8_cut 155 = .ok (.getfield 22, 3) := by decide +kernel
theorem dX8_cut_158 : decode cX8_cut 158 = .ok (.iload 5, 2) := by decide +kernel
theorem dX8_cut_160 : decode cX8_cut 160 = .ok (.iaload, 1) := by decide +kernel
theorem dX8_cut_161 : decode cX8_cut 161 = .ok (.bipush 26, 2) := by decide +kernel
theorem dX8_cut_163 : decode cX8_cut 163 = .ok (.if_icmp .eq 19, 3) := by decide +kernel
theorem dX8_cut_166 : decode cX8_cut 166 = .ok (.aload_n 0, 1) := by decide +kernel
theorem dX8_cut_167 : decode cX8_cut 167 = .ok (.getfield 22, 3) := by decide +kernel
theorem dX8_cut_170 : decode cX8_cut 170 = .ok (.iload 5, 2) := by decide +kernel
theorem dX8_cut_172 : decode cX8_cut 172 = .ok (.iaload, 1) := by decide +kernel
theorem dX8_cut_173 : decode cX8_cut 173 = .ok (.bipush 27, 2) := by decide +kernel
theorem dX8_cut_175 : decode cX8_cut 175 = .ok (.if_icmp .eq 7, 3) := by decide +kernel
theorem dX8_cut_178 : decode cX8_cut 178 = .ok (.iconst 1, 1) := by decide +kernel
theorem dX8_cut_179 : decode cX8_cut 179 = .ok (.goto 4, 3) := by decide +kernel
theorem dX8_cut_182 : decode cX8_cut 182 = .ok (.iconst 0, 1) := by decide +kernel
theorem dX8_cut_183 : decode cX8_cut 183 = .ok (.istore 4, 2) := by decide +kernel
theorem dX8_cut_185 : decode cX8_cut 185 = .ok (.iinc 5 1, 3) := by decide +kernel
theorem dX8_cut_188 : decode cX8_cut 188 = .ok (.goto (-154), 3) := by decide +kernel
theorem dX8_cut_191 : decode cX8_cut 191 = .ok (.return_, 1) := by decide +kernel
theorem dX8_endOf_0 : decode cX8_endOf 0 = .ok (.iload_n 1, 1) := by decide +kernel
theorem dX8_endOf_1 : decode cX8_endOf 1 = .ok (.istore_n 2, 1) := by decide +kernel
theorem dX8_endOf_2 : decode cX8_endOf 2 = .ok (.aload_n 0, 1) := by decide +kernel
theorem dX8_endOf_3 : decode cX8_endOf 3 = .ok (.iload_n 1, 1) := by decide +kernel
theorem dX8_endOf_4 : decode cX8_endOf 4 = .ok (.invokevirtual 48, 3) := by decide +kernel
theorem dX8_endOf_7 : decode cX8_endOf 7 = .ok (.ifCond .eq 25, 3) := by decide +kernel
theorem dX8_endOf_10 : decode cX8_endOf 10 = .ok (.iload_n 2, 1) := by decide +kernel
theorem dX8_endOf_11 : decode cX8_endOf 11 = .ok (.aload_n 0, 1) := by decide +kernel
theorem dX8_endOf_12 : decode cX8_endOf 12 = .ok (.getfield 15, 3) := by decide +kernel
theorem dX8_endOf_15 : decode cX8_endOf 15 = .ok (.if_icmp .ge 58, 3) := by decide +kernel
theorem dX8_endOf_18 : decode cX8_endOf 18 = .ok (.aload_n 0, 1) := by decide +kernel
theorem dX8_endOf_19 : decode cX8_endOf 19 = .ok (.iload_n 2, 1) := by decide +kernel
theorem dX8_endOf_20 : decode cX8_endOf 20 = .ok (.invokevirtual 48, 3) := by decide +kernel
theorem dX8_endOf_23 : decode cX8_endOf 23 = .ok (.ifCond .eq 50, 3) := by decide +kernel
theorem dX8_endOf_26 : decode cX8_endOf 26 = .ok (.iinc 2 1, 3) := by decide +kernel
theorem dX8_endOf_29 : decode cX8_endOf 29 = .ok (.goto (-19), 3) := by decide +kernel
theorem dX8_endOf_32 : decode cX8_endOf 32 = .ok (.aload_n 0, 1) := by decide +kernel
theorem dX8_endOf_33 : decode cX8_endOf 33 = .ok (.iload_n 1, 1) := by decide +kernel
theorem dX8_endOf_34 : decode cX8_endOf 34 = .ok (.invokevirtual 52, 3) := by decide +kernel
theorem dX8_endOf_37 : decode cX8_endOf 37 = .ok (.ifCond .eq 25, 3) := by decide +kernel
theorem dX8_endOf_40 : decode cX8_endOf 40 = .ok (.iload_n 2, 1) := by decide +kernel
theorem dX8_endOf_41 : decode cX8_endOf 41 = .ok (.aload_n 0, 1) := by decide +kernel
theorem dX8_endOf_42 : decode cX8_endOf 42 = .ok (.getfield 15, 3) := by decide +kernel
theorem dX8_endOf_45 : decode cX8_endOf 45 = .ok (.if_icmp .ge 28, 3) := by decide +kernel
theorem dX8_endOf_48 : decode cX8_endOf 48 = .ok (.aload_n 0, 1) := by decide +kernel
theorem dX8_endOf_49 : decode cX8_endOf 49 = .ok (.iload_n 2, 1) := by decide +kernel
theorem dX8_endOf_50 : decode cX8_endOf 50 = .ok (.invokevirtual 52, 3) := by decide +kernel
theorem dX8_endOf_53 : decode cX8_endOf 53 = .ok (.ifCond .eq 20, 3) := by decide +kernel
theorem dX8_endOf_56 : decode cX8_endOf 56 = .ok (.iinc 2 1, 3) := by decide +kernel
theorem dX8_endOf_59 : decode cX8_endOf 59 = .ok (.goto (-19), 3) := by decide +kernel
theorem dX8_endOf_62 : decode cX8_endOf 62 = .ok (.iload_n 1, 1) := by decide +kernel
theorem dX8_endOf_63 : decode cX8_endOf 63 = .ok (.aload_n 0, 1) := by decide +kernel
theorem dX8_endOf_64 : decode cX8_endOf 64 = .ok (.getfield 15, 3) := by decide +kernel
theorem dX8_endOf_67 : decode cX8_endOf 67 = .ok (.if_icmp .ge 6, 3) := by decide +kernel
theorem dX8_endOf_70 : decode cX8_endOf 70 = .ok (.iinc 2 1, 3) := by decide +kernel
theorem dX8_endOf_73 : decode cX8_endOf 73 = .ok (.iload_n 2, 1) := by decide +kernel
theorem dX8_endOf_74 : decode cX8_endOf 74 = .ok (.ireturn, 1) := by decide +kernel
theorem dX8_init_0 : decode cX8_init 0 = .ok (.aload_n 0, 1) := by decide +kernel
theorem dX8_init_1 : decode cX8_init 1 = .ok (.invokespecial 3, 3) := by decide +kernel
theorem dX8_init_4 : decode cX8_init 4 = .ok (.aload_n 0, 1) := by decide +kernel
theorem dX8_init_5 : decode cX8_init 5 = .ok (.iconst 0, 1) := by decide +kernel
theorem dX8_init_6 : decode cX8_init 6 = .ok (.newarray .byte, 2) := by decide +kernel
theorem dX8_init_8 : decode cX8_init 8 = .ok (.putfield 9, 3) := by decide +kernel
theorem dX8_init_11 : decode cX8_init 11 = .ok (.aload_n 0, 1) := by decide +kernel
theorem dX8_init_12 : decode cX8_init 12 = .ok (.iconst 0, 1) := by decide +kernel
theorem dX8_init_13 : decode cX8_init 13 = .ok (.putfield 15, 3) := by decide +kernel
theorem dX8_init_16 : decode cX8_init 16 = .ok (.aload_n 0, 1) := by decide +kernel
theorem dX8_init_17 : decode cX8_init 17 = .ok (.iconst 0, 1) := by decide +kernel
theorem dX8_init_18 : decode cX8_init 18 = .ok (.putfield 19, 3) := by decide +kernel
theorem dX8_init_21 : decode cX8_init 21 = .ok (.aload_n 0, 1) := by decide +kernel
theorem dX8_init_22 : decode cX8_init 22 = .ok (.sipush 901, 3) := by decide +kernel
theorem dX8_init_25 : decode cX8_init 25 = .ok (.newarray .int, 2) := by decide +kernel
theorem dX8_init_27 : decode cX8_init 27 = .ok (.putfield 22, 3) := by decide +kernel
theorem dX8_init_30 : decode cX8_init 30 = .ok (.aload_n 0, 1) := by decide +kernel
theorem dX8_init_31 : decode cX8_init 31 = .ok (.sipush 901, 3) := by decide +kernel
theorem dX8_init_34 : decode cX8_init 34 = .ok (.newarray .int, 2) := by decide +kernel
theorem dX8_init_36 : decode cX8_init 36 = .ok (.putfield 26, 3) := by decide +kernel
theorem dX8_init_39 : decode cX8_init 39 = .ok (.aload_n 0, 1) := by decide +kernel
theorem dX8_init_40 : decode cX8_init 40 = .ok (.sipush 901, 3) := by decide +kernel
theorem dX8_init_43 : decode cX8_init 43 = .ok (.newarray .int, 2) := by decide +kernel
theorem dX8_init_45 : decode cX8_init 45 = .ok (.putfield 29, 3) := by decide +kernel
theorem dX8_init_48 : decode cX8_init 48 = .ok (.return_, 1) := by decide +kernel
theorem dX8_isDigit_0 : decode cX8_isDigit 0 = .ok (.iload_n 1, 1) := by decide +kernel
theorem dX8_isDigit_1 : decode cX8_isDigit 1 = .ok (.aload_n 0, 1) := by decide +kernel
theorem dX8_isDigit_2 : decode cX8_isDigit 2 = .ok (.getfield 15, 3) := by decide +kernel
theorem dX8_isDigit_5 : decode cX8_isDigit 5 = .ok (.if_icmp .ge 29, 3) := by decide +kernel
theorem dX8_isDigit_8 : decode cX8_isDigit 8 = .ok (.aload_n 0, 1) := by decide +kernel
theorem dX8_isDigit_9 : decode cX8_isDigit 9 = .ok (.getfield 9, 3) := by decide +kernel
theorem dX8_isDigit_12 : decode cX8_isDigit 12 = .ok (.iload_n 1, 1) := by decide +kernel
theorem dX8_isDigit_13 : decode cX8_isDigit 13 = .ok (.baload, 1) := by decide +kernel
theorem dX8_isDigit_14 : decode cX8_isDigit 14 = .ok (.bipush 48, 2) := by decide +kernel
theorem dX8_isDigit_16 : decode cX8_isDigit 16 = .ok (.if_icmp .lt 18, 3) := by decide +kernel
theorem dX8_isDigit_19 : decode cX8_isDigit 19 = .ok (.aload_n 0, 1) := by decide +kernel
theorem dX8_isDigit_20 : decode cX8_isDigit 20 = .ok (.getfield 9, 3) := by decide +kernel
theorem dX8_isDigit_23 : decode cX8_isDigit 23 = .ok (.iload_n 1, 1) := by decide +kernel
theorem dX8_isDigit_24 : decode cX8_isDigit 24 = .ok (.baload, 1) := by decide +kernel
theorem dX8_isDigit_25 : decode cX8_isDigit 25 = .ok (.bipush 57, 2) := by decide +kernel
theorem dX8_isDigit_27 : decode cX8_isDigit 27 = .ok (.if_icmp .gt 7, 3) := by decide +kernel
theorem dX8_isDigit_30 : decode cX8_isDigit 30 = .ok (.iconst 1, 1) := by decide +kernel
theorem dX8_isDigit_31 : decode cX8_isDigit 31 = .ok (.goto 4, 3) := by decide +kernel
theorem dX8_isDigit_34 : decode cX8_isDigit 34 = .ok (.iconst 0, 1) := by decide +kernel
theorem dX8_isDigit_35 : decode cX8_isDigit 35 = .ok (.ireturn, 1) := by decide +kernel
theorem dX8_isLetter_0 : decode cX8_isLetter 0 = .ok (.iload_n 1, 1) := by decide +kernel
theorem dX8_isLetter_1 : decode cX8_isLetter 1 = .ok (.aload_n 0, 1) := by decide +kernel
theorem dX8_isLetter_2 : decode cX8_isLetter 2 = .ok (.getfield 15, 3) := by decide +kernel
theorem dX8_isLetter_5 : decode cX8_isLetter 5 = .ok (.if_icmp .ge 29, 3) := by decide +kernel
theorem dX8_isLetter_8 : decode cX8_isLetter 8 = .ok (.aload_n 0, 1) := by decide +kernel
theorem dX8_isLetter_9 : decode cX8_isLetter 9 = .ok (.getfield 9, 3) := by decide +kernel
theorem dX8_isLetter_12 : decode cX8_isLetter 12 = .ok (.iload_n 1, 1) := by decide +kernel
theorem dX8_isLetter_13 : decode cX8_isLetter 13 = .ok (.baload, 1) := by decide +kernel
theorem dX8_isLetter_14 : decode cX8_isLetter 14 = .ok (.bipush 97, 2) := by decide +kernel
theorem dX8_isLetter_16 : decode cX8_isLetter 16 = .ok (.if_icmp .lt 18, 3) := by decide +kernel
theorem dX8_isLetter_19 : decode cX8_isLetter 19 = .ok (.aload_n 0, 1) := by decide +kernel
theorem dX8_isLetter_20 : decode cX8_isLetter 20 = .ok (.getfield 9, 3) := by decide +kernel
theorem dX8_isLetter_23 : decode cX8_isLetter 23 = .ok (.iload_n 1, 1) := by decide +kernel
theorem dX8_isLetter_24 : decode cX8_isLetter 24 = .ok (.baload, 1) := by decide +kernel
theorem dX8_isLetter_25 : decode cX8_isLetter 25 = .ok (.bipush 122, 2) := by decide +kernel
theorem dX8_isLetter_27 : decode cX8_isLetter 27 = .ok (.if_icmp .gt 7, 3) := by decide +kernel
theorem dX8_isLetter_30 : decode cX8_isLetter 30 = .ok (.iconst 1, 1) := by decide +kernel
theorem dX8_isLetter_31 : decode cX8_isLetter 31 = .ok (.goto 4, 3) := by decide +kernel
theorem dX8_isLetter_34 : decode cX8_isLetter 34 = .ok (.iconst 0, 1) := by decide +kernel
theorem dX8_isLetter_35 : decode cX8_isLetter 35 = .ok (.ireturn, 1) := by decide +kernel
theorem dX8_kindOf_0 : decode cX8_kindOf 0 = .ok (.iload_n 1, 1) := by decide +kernel
theorem dX8_kindOf_1 : decode cX8_kindOf 1 = .ok (.aload_n 0, 1) := by decide +kernel
theorem dX8_kindOf_2 : decode cX8_kindOf 2 = .ok (.getfield 15, 3) := by decide +kernel
theorem dX8_kindOf_5 : decode cX8_kindOf 5 = .ok (.if_icmp .lt 6, 3) := by decide +kernel
theorem dX8_kindOf_8 : decode cX8_kindOf 8 = .ok (.bipush 26, 2) := by decide +kernel
theorem dX8_kindOf_10 : decode cX8_kindOf 10 = .ok (.ireturn, 1) := by decide +kernel
theorem dX8_kindOf_11 : decode cX8_kindOf 11 = .ok (.aload_n 0, 1) := by decide +kernel
theorem dX8_kindOf_12 : decode cX8_kindOf 12 = .ok (.iload_n 1, 1) := by decide +kernel
theorem dX8_kindOf_13 : decode cX8_kindOf 13 = .ok (.invokevirtual 48, 3) := by decide +kernel
theorem dX8_kindOf_16 : decode cX8_kindOf 16 = .ok (.ifCond .eq 10, 3) := by decide +kernel
theorem dX8_kindOf_19 : decode cX8_kindOf 19 = .ok (.aload_n 0, 1) := by decide +kernel
theorem dX8_kindOf_20 : decode cX8_kindOf 20 = .ok (.iload_n 1, 1) := by decide +kernel
theorem dX8_kindOf_21 : decode cX8_kindOf 21 = .ok (.iload_n 2, 1) := by decide +kernel
theorem dX8_kindOf_22 : decode cX8_kindOf 22 = .ok (.invokevirtual 55, 3) := by decide +kernel
theorem dX8_kindOf_25 : decode cX8_kindOf 25 = .ok (.ireturn, 1) := by decide +kernel
theorem dX8_kindOf_26 : decode cX8_kindOf 26 = .ok (.aload_n 0, 1) := by decide +kernel
theorem dX8_kindOf_27 : decode cX8_kindOf 27 = .ok (.iload_n 1, 1) := by decide +kernel
theorem dX8_kindOf_28 : decode cX8_kindOf 28 = .ok (.invokevirtual 52, 3) := by decide +kernel
theorem dX8_kindOf_31 : decode cX8_kindOf 31 = .ok (.ifCond .eq 18, 3) := by decide +kernel
theorem dX8_kindOf_34 : decode cX8_kindOf 34 = .ok (.iload_n 2, 1) := by decide +kernel
theorem dX8_kindOf_35 : decode cX8_kindOf 35 = .ok (.iload_n 1, 1) := by decide +kernel
theorem dX8_kindOf_36 : decode cX8_kindOf 36 = .ok (.isub, 1) := by decide +kernel
theorem dX8_kindOf_37 : decode cX8_kindOf 37 = .ok (.iconst 3, 1) := by decide +kernel
theorem dX8_kindOf_38 : decode cX8_kindOf 38 = .ok (.if_icmp .le 8, 3) := by decide +kernel
theorem dX8_kindOf_41 : decode cX8_kindOf 41 = .ok (.bipush 27, 2) := by decide +kernel
theorem dX8_kindOf_43 : decode cX8_kindOf 43 = .ok (.goto 5, 3) := by decide +kernel
theorem dX8_kindOf_46 : decode cX8_kindOf 46 = .ok (.bipush 25, 2) := by decide +kernel
theorem dX8_kindOf_48 : decode cX8_kindOf 48 = .ok (.ireturn, 1) := by decide +kernel
theorem dX8_kindOf_49 : decode cX8_kindOf 49 = .ok (.aload_n 0, 1) := by decide +kernel
theorem dX8_kindOf_50 : decode cX8_kindOf 50 = .ok (.getfield 9, 3) := by decide +kernel
theorem dX8_kindOf_53 : decode cX8_kindOf 53 = .ok (.iload_n 1, 1) := by decide +kernel
theorem dX8_kindOf_54 : decode cX8_kindOf 54 = .ok (.baload, 1) := by decide +kernel
theorem dX8_kindOf_55 : decode cX8_kindOf 55 = .ok (.sipush 255, 3) := by decide +kernel
theorem dX8_kindOf_58 : decode cX8_kindOf 58 = .ok (.iand, 1) := by decide +kernel
theorem dX8_kindOf_59 : decode cX8_kindOf 59 = .ok (.i2c, 1) := by decide +kernel
theorem dX8_kindOf_60 : decode cX8_kindOf 60 = .ok (.istore_n 3, 1) := by decide +kernel
theorem dX8_kindOf_61 : decode cX8_kindOf 61 = .ok (.ldc 58, 2) := by decide +kernel
theorem dX8_kindOf_63 : decode cX8_kindOf 63 = .ok (.iload_n 3, 1) := by decide +kernel
theorem dX8_kindOf_64 : decode cX8_kindOf 64 = .ok (.invokevirtual 60, 3) := by decide +kernel
theorem dX8_kindOf_67 : decode cX8_kindOf 67 = .ok (.ifCond .lt 7, 3) := by decide +kernel
theorem dX8_kindOf_70 : decode cX8_kindOf 70 = .ok (.iload_n 3, 1) := by decide +kernel
theorem dX8_kindOf_71 : decode cX8_kindOf 71 = .ok (.goto 5, 3) := by decide +kernel
theorem dX8_kindOf_74 : decode cX8_kindOf 74 = .ok (.bipush 27, 2) := by decide +kernel
theorem dX8_kindOf_76 : decode cX8_kindOf 76 = .ok (.ireturn, 1) := by decide +kernel
theorem dX9_init_0 : decode cX9_init 0 = .ok (.aload_n 0, 1) := by decide +kernel
theorem dX9_init_1 : decode cX9_init 1 = .ok (.invokespecial 3, 3) := by decide +kernel
theorem dX9_init_4 : decode cX9_init 4 = .ok (.aload_n 0, 1) := by decide +kernel
theorem dX9_init_5 : decode cX9_init 5 = .ok (.iconst (-1), 1) := by decide +kernel
theorem dX9_init_6 : decode cX9_init 6 = .ok (.putfield 9, 3) := by decide +kernel
theorem dX9_init_9 : decode cX9_init 9 = .ok (.aload_n 0, 1) := by decide +kernel
theorem dX9_init_10 : decode cX9_init 10 = .ok (.iconst 0, 1) := by decide +kernel
theorem dX9_init_11 : decode cX9_init 11 = .ok (.putfield 15, 3) := by decide +kernel
theorem dX9_init_14 : decode cX9_init 14 = .ok (.aload_n 0, 1) := by decide +kernel
theorem dX9_init_15 : decode cX9_init 15 = .ok (.bipush 40, 2) := by decide +kernel
theorem dX9_init_17 : decode cX9_init 17 = .ok (.newarray .long, 2) := by decide +kernel
theorem dX9_init_19 : decode cX9_init 19 = .ok (.putfield 18, 3) := by decide +kernel
theorem dX9_init_22 : decode cX9_init 22 = .ok (.return_, 1) := by decide +kernel
theorem dX9_isMissing_0 : decode cX9_isMissing 0 = .ok (.aload_n 0, 1) := by decide +kernel
theorem dX9_isMissing_1 : decode cX9_isMissing 1 = .ok (.getfield 9, 3) := by decide +kernel
theorem dX9_isMissing_4 : decode cX9_isMissing 4 = .ok (.iconst (-1), 1) := by decide +kernel
theorem dX9_isMissing_5 : decode cX9_isMissing 5 = .ok (.if_icmp .ne 7, 3) := by decide +kernel
theorem dX9_isMissing_8 : decode cX9_isMissing 8 = .ok (.iconst 1, 1) := by decide +kernel
theorem dX9_isMissing_9 : decode cX9_isMissing 9 = .ok (.goto 4, 3) := by decide +kernel
theorem dX9_isMissing_12 : decode cX9_isMissing 12 = .ok (.iconst 0, 1) := by decide +kernel
theorem dX9_isMissing_13 : decode cX9_isMissing 13 = .ok (.ireturn, 1) := by decide +kernel
theorem dX9_lay_0 : decode cX9_lay 0 = .ok (.aload_n 0, 1) := by decide +kernel
theorem dX9_lay_1 : decode cX9_lay 1 = .ok (.iload_n 1, 1) := by decide +kernel
theorem dX9_lay_2 : decode cX9_lay 2 = .ok (.putfield 9, 3) := by decide +kernel
theorem dX9_lay_5 : decode cX9_lay 5 = .ok (.aload_n 0, 1) := by decide +kernel
theorem dX9_lay_6 : decode cX9_lay 6 = .ok (.iload_n 2, 1) := by decide +kernel
theorem dX9_lay_7 : decode cX9_lay 7 = .ok (.putfield 15, 3) := by decide +kernel
theorem dX9_lay_10 : decode cX9_lay 10 = .ok (.aload_n 0, 1) := by decide +kernel
theorem dX9_lay_11 : decode cX9_lay 11 = .ok (.getfield 18, 3) := by decide +kernel
theorem dX9_lay_14 : decode cX9_lay 14 = .ok (.lconst 0, 1) := by decide +kernel
theorem dX9_lay_15 : decode cX9_lay 15 = .ok (.invokestatic 22, 3) := by decide +kernel
theorem dX9_lay_18 : decode cX9_lay 18 = .ok (.return_, 1) := by decide +kernel
