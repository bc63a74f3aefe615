theorem dJ6_bitCount_0f7a4_0 : decode cJ6_bitCount_0f7a4 0 = .ok (.iload_n 0, 1) := by decide +kernel
theorem dJ6_bitCount_0f7a4_1 : decode cJ6_bitCount_0f7a4 1 = .ok (.iload_n 0, 1) := by decide +kernel
theorem dJ6_bitCount_0f7a4_2 : decode cJ6_bitCount_0f7a4 2 = .ok (.iconst 1, 1) := by decide +kernel
theorem dJ6_bitCount_0f7a4_3 : decode cJ6_bitCount_0f7a4 3 = .ok (.iushr, 1) := by decide +kernel
theorem dJ6_bitCount_0f7a4_4 : decode cJ6_bitCount_0f7a4 4 = .ok (.ldc_w 265, 3) := by decide +kernel
theorem dJ6_bitCount_0f7a4_7 : decode cJ6_bitCount_0f7a4 7 = .ok (.iand, 1) := by decide +kernel
theorem dJ6_bitCount_0f7a4_8 : decode cJ6_bitCount_0f7a4 8 = .ok (.isub, 1) := by decide +kernel
theorem dJ6_bitCount_0f7a4_9 : decode cJ6_bitCount_0f7a4 9 = .ok (.istore_n 0, 1) := by decide +kernel
theorem dJ6_bitCount_0f7a4_10 : decode cJ6_bitCount_0f7a4 10 = .ok (.iload_n 0, 1) := by decide +kernel
theorem dJ6_bitCount_0f7a4_11 : decode cJ6_bitCount_0f7a4 11 = .ok (.ldc_w 266, 3) := by decide +kernel
theorem dJ6_bitCount_0f7a4_14 : decode cJ6_bitCount_0f7a4 14 = .ok (.iand, 1) := by decide +kernel
theorem dJ6_bitCount_0f7a4_15 : decode cJ6_bitCount_0f7a4 15 = .ok (.iload_n 0, 1) := by decide +kernel
theorem dJ6_bitCount_0f7a4_16 : decode cJ6_bitCount_0f7a4 16 = .ok (.iconst 2, 1) := by decide +kernel
theorem dJ6_bitCount_0f7a4_17 : decode cJ6_bitCount_0f7a4 17 = .ok (.iushr, 1) := by decide +kernel
theorem dJ6_bitCount_0f7a4_18 : decode cJ6_bitCount_0f7a4 18 = .ok (.ldc_w 266, 3) := by decide +kernel
theorem dJ6_bitCount_0f7a4_21 : decode cJ6_bitCount_0f7a4 21 = .ok (.iand, 1) := by decide +kernel
theorem dJ6_bitCount_0f7a4_22 : decode cJ6_bitCount_0f7a4 22 = .ok (.iadd, 1) := by decide +kernel
theorem dJ6_bitCount_0f7a4_23 : decode cJ6_bitCount_0f7a4 23 = .ok (.istore_n 0, 1) := by decide +kernel
theorem dJ6_bitCount_0f7a4_24 : decode cJ6_bitCount_0f7a4 24 = .ok (.iload_n 0, 1) := by decide +kernel
theorem dJ6_bitCount_0f7a4_25 : decode cJ6_bitCount_0f7a4 25 = .ok (.iload_n 0, 1) := by decide +kernel
theorem dJ6_bitCount_0f7a4_26 : decode cJ6_bitCount_0f7a4 26 = .ok (.iconst 4, 1) := by decide +kernel
theorem dJ6_bitCount_0f7a4_27 : decode cJ6_bitCount_0f7a4 27 = .ok (.iushr, 1) := by decide +kernel
theorem dJ6_bitCount_0f7a4_28 : decode cJ6_bitCount_0f7a4 28 = .ok (.iadd, 1) := by decide +kernel
theorem dJ6_bitCount_0f7a4_29 : decode cJ6_bitCount_0f7a4 29 = .ok (.ldc_w 267, 3) := by decide +kernel
theorem dJ6_bitCount_0f7a4_32 : decode cJ6_bitCount_0f7a4 32 = .ok (.iand, 1) := by decide +kernel
theorem dJ6_bitCount_0f7a4_33 : decode cJ6_bitCount_0f7a4 33 = .ok (.istore_n 0, 1) := by decide +kernel
theorem dJ6_bitCount_0f7a4_34 : decode cJ6_bitCount_0f7a4 34 = .ok (.iload_n 0, 1) := by decide +kernel
theorem dJ6_bitCount_0f7a4_35 : decode cJ6_bitCount_0f7a4 35 = .ok (.iload_n 0, 1) := by decide +kernel
theorem dJ6_bitCount_0f7a4_36 : decode cJ6_bitCount_0f7a4 36 = .ok (.bipush 8, 2) := by decide +kernel
theorem dJ6_bitCount_0f7a4_38 : decode cJ6_bitCount_0f7a4 38 = .ok (.iushr, 1) := by decide +kernel
theorem dJ6_bitCount_0f7a4_39 : decode cJ6_bitCount_0f7a4 39 = .ok (.iadd, 1) := by decide +kernel
theorem dJ6_bitCount_0f7a4_40 : decode cJ6_bitCount_0f7a4 40 = .ok (.istore_n 0, 1) := by decide +kernel
theorem dJ6_bitCount_0f7a4_41 : decode cJ6_bitCount_0f7a4 41 = .ok (.iload_n 0, 1) := by decide +kernel
theorem dJ6_bitCount_0f7a4_42 : decode cJ6_bitCount_0f7a4 42 = .ok (.iload_n 0, 1) := by decide +kernel
theorem dJ6_bitCount_0f7a4_43 : decode cJ6_bitCount_0f7a4 43 = .ok (.bipush 16, 2) := by decide +kernel
theorem dJ6_bitCount_0f7a4_45 : decode cJ6_bitCount_0f7a4 45 = .ok (.iushr, 1) := by decide +kernel
theorem dJ6_bitCount_0f7a4_46 : decode cJ6_bitCount_0f7a4 46 = .ok (.iadd, 1) := by decide +kernel
theorem dJ6_bitCount_0f7a4_47 : decode cJ6_bitCount_0f7a4 47 = .ok (.istore_n 0, 1) := by decide +kernel
theorem dJ6_bitCount_0f7a4_48 : decode cJ6_bitCount_0f7a4 48 = .ok (.iload_n 0, 1) := by decide +kernel
theorem dJ6_bitCount_0f7a4_49 : decode cJ6_bitCount_0f7a4 49 = .ok (.bipush 63, 2) := by decide +kernel
theorem dJ6_bitCount_0f7a4_51 : decode cJ6_bitCount_0f7a4 51 = .ok (.iand, 1) := by decide +kernel
theorem dJ6_bitCount_0f7a4_52 : decode cJ6_bitCount_0f7a4 52 = .ok (.ireturn, 1) := by decide +kernel
theorem dJ6_compare_7cf53_0 : decode cJ6_compare_7cf53 0 = .ok (.iload_n 0, 1) := by decide +kernel
theorem dJ6_compare_7cf53_1 : decode cJ6_compare_7cf53 1 = .ok (.iload_n 1, 1) := by decide +kernel
theorem dJ6_compare_7cf53_2 : decode cJ6_compare_7cf53 2 = .ok (.if_icmp .ge 7, 3) := by decide +kernel
theorem dJ6_compare_7cf53_5 : decode cJ6_compare_7cf53 5 = .ok (.iconst (-1), 1) := by decide +kernel
theorem dJ6_compare_7cf53_6 : decode cJ6_compare_7cf53 6 = .ok (.goto 13, 3) := by decide +kernel
theorem dJ6_compare_7cf53_9 : decode cJ6_compare_7cf53 9 = .ok (.iload_n 0, 1) := by decide +kernel
theorem dJ6_compare_7cf53_10 : decode cJ6_compare_7cf53 10 = .ok (.iload_n 1, 1) := by decide +kernel
theorem dJ6_compare_7cf53_11 : decode cJ6_compare_7cf53 11 = .ok (.if_icmp .ne 7, 3) := by decide +kernel
theorem dJ6_compare_7cf53_14 : decode cJ6_compare_7cf53 14 = .ok (.iconst 0, 1) := by decide +kernel
theorem dJ6_compare_7cf53_15 : decode cJ6_compare_7cf53 15 = .ok (.goto 4, 3) := by decide +kernel
theorem dJ6_compare_7cf53_18 : decode cJ6_compare_7cf53 18 = .ok (.iconst 1, 1) := by decide +kernel
theorem dJ6_compare_7cf53_19 : decode cJ6_compare_7cf53 19 = .ok (.ireturn, 1) := by decide +kernel
theorem dJ7_fill_53178_0 : decode cJ7_fill_53178 0 = .ok (.iconst 0, 1) := by decide +kernel
theorem dJ7_fill_53178_1 : decode cJ7_fill_53178 1 = .ok (.istore_n 2, 1) := by decide +kernel
theorem dJ7_fill_53178_2 : decode cJ7_fill_53178 2 = .ok (.aload_n 0, 1) := by decide +kernel
theorem dJ7_fill_53178_3 : decode cJ7_fill_53178 3 = .ok (.arraylength, 1) := by decide +kernel
theorem dJ7_fill_53178_4 : decode cJ7_fill_53178 4 = .ok (.istore_n 3, 1) := by decide +kernel
theorem dJ7_fill_53178_5 : decode cJ7_fill_53178 5 = .ok (.iload_n 2, 1) := by decide +kernel
theorem dJ7_fill_53178_6 : decode cJ7_fill_53178 6 = .ok (.iload_n 3, 1) := by decide +kernel
theorem dJ7_fill_53178_7 : decode cJ7_fill_53178 7 = .ok (.if_icmp .ge 13, 3) := by decide +kernel
theorem dJ7_fill_53178_10 : decode cJ7_fill_53178 10 = .ok (.aload_n 0, 1) := by decide +kernel
theorem dJ7_fill_53178_11 : decode cJ7_fill_53178 11 = .ok (.iload_n 2, 1) := by decide +kernel
theorem dJ7_fill_53178_12 : decode cJ7_fill_53178 12 = .ok (.iload_n 1, 1) := by decide +kernel
theorem dJ7_fill_53178_13 : decode cJ7_fill_53178 13 = .ok (.iastore, 1) := by decide +kernel
theorem dJ7_fill_53178_14 : decode cJ7_fill_53178 14 = .ok (.iinc 2 1, 3) := by decide +kernel
theorem dJ7_fill_53178_17 : decode cJ7_fill_53178 17 = .ok (.goto (-12), 3) := by decide +kernel
theorem dJ7_fill_53178_20 : decode cJ7_fill_53178 20 = .ok (.return_, 1) := by decide +kernel
theorem dJ7_fill_d0a16_0 : decode cJ7_fill_d0a16 0 = .ok (.iconst 0, 1) := by decide +kernel
theorem dJ7_fill_d0a16_1 : decode cJ7_fill_d0a16 1 = .ok (.istore_n 3, 1) := by decide +kernel
theorem dJ7_fill_d0a16_2 : decode cJ7_fill_d0a16 2 = .ok (.aload_n 0, 1) := by decide +kernel
theorem dJ7_fill_d0a16_3 : decode cJ7_fill_d0a16 3 = .ok (.arraylength, 1) := by decide +kernel
theorem dJ7_fill_d0a16_4 : decode cJ7_fill_d0a16 4 = .ok (.istore 4, 2) := by decide +kernel
theorem dJ7_fill_d0a16_6 : decode cJ7_fill_d0a16 6 = .ok (.iload_n 3, 1) := by decide +kernel
theorem dJ7_fill_d0a16_7 : decode cJ7_fill_d0a16 7 = .ok (.iload 4, 2) := by decide +kernel
theorem dJ7_fill_d0a16_9 : decode cJ7_fill_d0a16 9 = .ok (.if_icmp .ge 13, 3) := by decide +kernel
theorem dJ7_fill_d0a16_12 : decode cJ7_fill_d0a16 12 = .ok (.aload_n 0, 1) := by decide +kernel
theorem dJ7_fill_d0a16_13 : decode cJ7_fill_d0a16 13 = .ok (.iload_n 3, 1) := by decide +kernel
theorem dJ7_fill_d0a16_14 : decode cJ7_fill_d0a16 14 = .ok (.lload_n 1, 1) := by decide +kernel
theorem dJ7_fill_d0a16_15 : decode cJ7_fill_d0a16 15 = .ok (.lastore, 1) := by decide +kernel
theorem dJ7_fill_d0a16_16 : decode cJ7_fill_d0a16 16 = .ok (.iinc 3 1, 3) := by decide +kernel
theorem dJ7_fill_d0a16_19 : decode cJ7_fill_d0a16 19 = .ok (.goto (-13), 3) := by decide +kernel
theorem dJ7_fill_d0a16_22 : decode cJ7_fill_d0a16 22 = .ok (.return_, 1) := by decide +kernel
theorem dX0_canSit_0 : decode cX0_canSit 0 = .ok (.iload_n 1, 1) := by decide +kernel
theorem dX0_canSit_1 : decode cX0_canSit 1 = .ok (.ifCond .ne 5, 3) := by decide +kernel
theorem dX0_canSit_4 : decode cX0_canSit 4 = .ok (.iconst 1, 1) := by decide +kernel
theorem dX0_canSit_5 : decode cX0_canSit 5 = .ok (.ireturn, 1) := by decide +kernel
theorem dX0_canSit_6 : decode cX0_canSit 6 = .ok (.iload_n 2, 1) := by decide +kernel
theorem dX0_canSit_7 : decode cX0_canSit 7 = .ok (.bipush 10, 2) := by decide +kernel
theorem dX0_canSit_9 : decode cX0_canSit 9 = .ok (.if_icmp .lt 5, 3) := by decide +kernel
theorem dX0_canSit_12 : decode cX0_canSit 12 = .ok (.iconst 0, 1) := by decide +kernel
theorem dX0_canSit_13 : decode cX0_canSit 13 = .ok (.ireturn, 1) := by decide +kernel
theorem dX0_canSit_14 : decode cX0_canSit 14 = .ok (.iload_n 1, 1) := by decide +kernel
theorem dX0_canSit_15 : decode cX0_canSit 15 = .ok (.invokestatic 55, 3) := by decide +kernel
theorem dX0_canSit_18 : decode cX0_canSit 18 = .ok (.istore_n 3, 1) := by decide +kernel
theorem dX0_canSit_19 : decode cX0_canSit 19 = .ok (.aload_n 0, 1) := by decide +kernel
theorem dX0_canSit_20 : decode cX0_canSit 20 = .ok (.getfield 15, 3) := by decide +kernel
theorem dX0_canSit_23 : decode cX0_canSit 23 = .ok (.iload_n 3, 1) := by decide +kernel
theorem dX0_canSit_24 : decode cX0_canSit 24 = .ok (.iaload, 1) := by decide +kernel
theorem dX0_canSit_25 : decode cX0_canSit 25 = .ok (.iload_n 1, 1) := by decide +kernel
theorem dX0_canSit_26 : decode cX0_canSit 26 = .ok (.iand, 1) := by decide +kernel
theorem dX0_canSit_27 : decode cX0_canSit 27 = .ok (.istore 4, 2) := by decide +kernel
theorem dX0_canSit_29 : decode cX0_canSit 29 = .ok (.iload_n 3, 1) := by decide +kernel
theorem dX0_canSit_30 : decode cX0_canSit 30 = .ok (.iconst 1, 1) := by decide +kernel
theorem dX0_canSit_31 : decode cX0_canSit 31 = .ok (.iadd, 1) := by decide +kernel
theorem dX0_canSit_32 : decode cX0_canSit 32 = .ok (.istore 5, 2) := by decide +kernel
theorem dX0_canSit_34 : decode cX0_canSit 34 = .ok (.iload 5, 2) := by decide +kernel
theorem dX0_canSit_36 : decode cX0_canSit 36 = .ok (.aload_n 0, 1) := by decide +kernel
theorem dX0_canSit_37 : decode cX0_canSit 37 = .ok (.getfield 9, 3) := by decide +kernel
theorem dX0_canSit_40 : decode cX0_canSit 40 = .ok (.if_icmp .ge 44, 3) := by decide +kernel
theorem dX0_canSit_43 : decode cX0_canSit 43 = .ok (.iload 4, 2) := by decide +kernel
theorem dX0_canSit_45 : decode cX0_canSit 45 = .ok (.iload 5, 2) := by decide +kernel
theorem dX0_canSit_47 : decode cX0_canSit 47 = .ok (.ishr, 1) := by decide +kernel
theorem dX0_canSit_48 : decode cX0_canSit 48 = .ok (.iconst 1, 1) := by decide +kernel
theorem dX0_canSit_49 : decode cX0_canSit 49 = .ok (.iand, 1) := by decide +kernel
theorem dX0_canSit_50 : decode cX0_canSit 50 = .ok (.iconst 1, 1) := by decide +kernel
theorem dX0_canSit_51 : decode cX0_canSit 51 = .ok (.if_icmp .ne 27, 3) := by decide +kernel
theorem dX0_canSit_54 : decode cX0_canSit 54 = .ok (.aload_n 0, 1) := by decide +kernel
theorem dX0_canSit_55 : decode cX0_canSit 55 = .ok (.iload_n 1, 1) := by decide +kernel
theorem dX0_canSit_56 : decode cX0_canSit 56 = .ok (.iconst 1, 1) := by decide +kernel
theorem dX0_canSit_57 : decode cX0_canSit 57 = .ok (.iload_n 3, 1) := by decide +kernel
theorem dX0_canSit_58 : decode cX0_canSit 58 = .ok (.ishl, 1) := by decide +kernel
theorem dX0_canSit_59 : decode cX0_canSit 59 = .ok (.iconst 1, 1) := by decide +kernel
theorem dX0_canSit_60 : decode cX0_canSit 60 = .ok (.iload 5, 2) := by decide +kernel
theorem dX0_canSit_62 : decode cX0_canSit 62 = .ok (.ishl, 1) := by decide +kernel
theorem dX0_canSit_63 : decode cX0_canSit 63 = .ok (.ior, 1) := by decide +kernel
theorem dX0_canSit_64 : decode cX0_canSit 64 = .ok (.iconst (-1), 1) := by decide +kernel
theorem dX0_canSit_65 : decode cX0_canSit 65 = .ok (.ixor, 1) := by decide +kernel
theorem dX0_canSit_66 : decode cX0_canSit 66 = .ok (.iand, 1) := by decide +kernel
theorem dX0_canSit_67 : decode cX0_canSit 67 = .ok (.iload_n 2, 1) := by decide +kernel
theorem dX0_canSit_68 : decode cX0_canSit 68 = .ok (.iconst 1, 1) := by decide +kernel
theorem dX0_canSit_69 : decode cX0_canSit 69 = .ok (.iadd, 1) := by decide +kernel
theorem dX0_canSit_70 : decode cX0_canSit 70 = .ok (.invokevirtual 58, 3) := by decide +kernel
theorem dX0_canSit_73 : decode cX0_canSit 73 = .ok (.ifCond .eq 5, 3) := by decide +kernel
theorem dX0_canSit_76 : decode cX0_canSit 76 = .ok (.iconst 1, 1) := by decide +kernel
theorem dX0_canSit_77 : decode cX0_canSit 77 = .ok (.ireturn, 1) := by decide +kernel
theorem dX0_canSit_78 : decode cX0_canSit 78 = .ok (.iinc 5 1, 3) := by decide +kernel
theorem dX0_canSit_81 : decode cX0_canSit 81 = .ok (.goto (-47), 3) := by decide +kernel
theorem dX0_canSit_84 : decode cX0_canSit 84 = .ok (.iconst 0, 1) := by decide +kernel
theorem dX0_canSit_85 : decode cX0_canSit 85 = .ok (.ireturn, 1) := by decide +kernel
theorem dX0_countPartings_0 : decode cX0_countPartings 0 = .ok (.aload_n 0, 1) := by decide +kernel
theorem dX0_countPartings_1 : decode cX0_countPartings 1 = .ok (.getfield 19, 3) := by decide +kernel
theorem dX0_countPartings_4 : decode cX0_countPartings 4 = .ok (.iconst 0, 1) := by decide +kernel
theorem dX0_countPartings_5 : decode cX0_countPartings 5 = .ok (.iconst 1, 1) := by decide +kernel
theorem dX0_countPartings_6 : decode cX0_countPartings 6 = .ok (.iastore, 1) := by decide +kernel
theorem dX0_countPartings_7 : decode cX0_countPartings 7 = .ok (.iconst 1, 1) := by decide +kernel
theorem dX0_countPartings_8 : decode cX0_countPartings 8 = .ok (.istore_n 1, 1) := by decide +kernel
theorem dX0_countPartings_9 : decode cX0_countPartings 9 = .ok (.iload_n 1, 1) := by decide +kernel
theorem dX0_countPartings_10 : decode cX0_countPartings 10 = .ok (.iconst 1, 1) := by decide +kernel
theorem dX0_countPartings_11 : decode cX0_countPartings 11 = .ok (.aload_n 0, 1) := by decide +kernel
theorem dX0_countPartings_12 : decode cX0_countPartings 12 = .ok (.getfield 9, 3) := by decide +kernel
theorem dX0_countPartings_15 : decode cX0_countPartings 15 = .ok (.ishl, 1) := by decide +kernel
theorem dX0_countPartings_16 : decode cX0_countPartings 16 = .ok (.if_icmp .ge 86, 3) := by decide +kernel
theorem dX0_countPartings_19 : decode cX0_countPartings 19 = .ok (.iload_n 1, 1) := by decide +kernel
theorem dX0_countPartings_20 : decode cX0_countPartings 20 = .ok (.invokestatic 55, 3) := by decide +kernel
theorem dX0_countPartings_23 : decode cX0_countPartings 23 = .ok (.istore_n 2, 1) := by decide +kernel
theorem dX0_countPartings_24 : decode cX0_countPartings 24 = .ok (.aload_n 0, 1) := by decide +kernel
theorem dX0_countPartings_25 : decode cX0_countPartings 25 = .ok (.getfield 15, 3) := by decide +kernel
theorem dX0_countPartings_28 : decode cX0_countPartings 28 = .ok (.iload_n 2, 1) := by decide +kernel
theorem dX0_countPartings_29 : decode cX0_countPartings 29 = .ok (.iaload, 1) := by decide +kernel
theorem dX0_countPartings_30 : decode cX0_countPartings 30 = .ok (.iload_n 1, 1) := by decide +kernel
theorem dX0_countPartings_31 : decode cX0_countPartings 31 = .ok (.iand, 1) := by decide +kernel
theorem dX0_countPartings_32 : decode cX0_countPartings 32 = .ok (.istore_n 3, 1) := by decide +kernel
theorem dX0_countPartings_33 : decode cX0_countPartings 33 = .ok (.iconst 0, 1) := by decide +kernel
theorem dX0_countPartings_34 : decode cX0_countPartings 34 = .ok (.istore 4, 2) := by decide +kernel
theorem dX0_countPartings_36 : decode cX0_countPartings 36 = .ok (.iload_n 2, 1) := by decide +kernel
theorem dX0_countPartings_37 : decode cX0_countPartings 37 = .ok (.iconst 1, 1) := by decide +kernel
theorem dX0_countPartings_38 : decode cX0_countPartings 38 = .ok (.iadd, 1) := by decide +kernel
theorem dX0_countPartings_39 : decode cX0_countPartings 39 = .ok (.istore 5, 2) := by decide +kernel
theorem dX0_countPartings_41 : decode cX0_countPartings 41 = .ok (.iload 5, 2) := by decide +kernel
theorem dX0_countPartings_43 : decode cX0_countPartings 43 = .ok (.aload_n 0, 1) := by decide +kernel
theorem dX0_countPartings_44 : decode cX0_countPartings 44 = .ok (.getfield 9, 3) := by decide +kernel
theorem dX0_countPartings_47 : decode cX0_countPartings 47 = .ok (.if_icmp .ge 41, 3) := by decide +kernel
theorem dX0_countPartings_50 : decode cX0_countPartings 50 = .ok (.iload_n 3, 1) := by decide +kernel
theorem dX0_countPartings_51 : decode cX0_countPartings 51 = .ok (.iload 5, 2) := by decide +kernel
theorem dX0_countPartings_53 : decode cX0_countPartings 53 = .ok (.ishr, 1) := by decide +kernel
theorem dX0_countPartings_54 : decode cX0_countPartings 54 = .ok (.iconst 1, 1) := by decide +kernel
theorem dX0_countPartings_55 : decode cX0_countPartings 55 = .ok (.iand, 1) := by decide +kernel
theorem dX0_countPartings_56 : decode cX0_countPartings 56 = .ok (.iconst 1, 1) := by decide +kernel
theorem dX0_countPartings_57 : decode cX0_countPartings 57 = .ok (.if_icmp .ne 25, 3) := by decide +kernel
theorem dX0_countPartings_60 : decode cX0_countPartings 60 = .ok (.iload 4, 2) := by decide +kernel
theorem dX0_countPartings_62 : decode cX0_countPartings 62 = .ok (.aload_n 0, 1) := by decide +kernel
theorem dX0_countPartings_63 : decode cX0_countPartings 63 = .ok (.getfield 19, 3) := by decide +kernel
theorem dX0_countPartings_66 : decode cX0_countPartings 66 = .ok (.iload_n 1, 1) := by decide +kernel
theorem dX0_countPartings_67 : decode cX0_countPartings 67 = .ok (.iconst 1, 1) := by decide +kernel
theorem dX0_countPartings_68 : decode cX0_countPartings 68 = .ok (.iload_n 2, 1) := by decide +kernel
theorem dX0_countPartings_69 : decode cX0_countPartings 69 = .ok (.ishl, 1) := by decide +kernel
theorem dX0_countPartings_70 : decode cX0_countPartings 70 = .ok (.iconst 1, 1) := by decide +kernel
theorem dX0_countPartings_71 : decode cX0_countPartings 71 = .ok (.iload 5, 2) := by decide +kernel
theorem dX0_countPartings_73 : decode cX0_countPartings 73 = .ok (.ishl, 1) := by decide +kernel
theorem dX0_countPartings_74 : decode cX0_countPartings 74 = .ok (.ior, 1) := by decide +kernel
theorem dX0_countPartings_75 : decode cX0_countPartings 75 = .ok (.iconst (-1), 1) := by decide +kernel
theorem dX0_countPartings_76 : decode cX0_countPartings 76 = .ok (.ixor, 1) := by decide +kernel
theorem dX0_countPartings_77 : decode cX0_countPartings 77 = .ok (.iand, 1) := by decide +kernel
theorem dX0_countPartings_78 : decode cX0_countPartings 78 = .ok (.iaload, 1) := by decide +kernel
theorem dX0_countPartings_79 : decode cX0_countPartings 79 = .ok (.iadd, 1) := by decide +kernel
theorem dX0_countPartings_80 : decode cX0_countPartings 80 = .ok (.istore 4, 2) := by decide +kernel
theorem dX0_countPartings_82 : decode cX0_countPartings 82 = .ok (.iinc 5 1, 3) := by decide +kernel
theorem dX0_countPartings_85 : decode cX0_countPartings 85 = .ok (.goto (-44), 3) := by decide +kernel
theorem dX0_countPartings_88 : decode cX0_countPartings 88 = .ok (.aload_n 0, 1) := by decide +kernel
theorem dX0_countPartings_89 : decode cX0_countPartings 89 = .ok (.getfield 19, 3) := by decide +kernel
theorem dX0_countPartings_92 : decode cX0_countPartings 92 = .ok (.iload_n 1, 1) := by decide +kernel
theorem dX0_countPartings_93 : decode cX0_countPartings 93 = .ok (.iload 4, 2) := by decide +kernel
theorem dX0_countPartings_95 : decode cX0_countPartings 95 = .ok (.iastore, 1) := by decide +kernel
theorem dX0_countPartings_96 : decode cX0_countPartings 96 = .ok (.iinc 1 1, 3) := by decide +kernel
theorem dX0_countPartings_99 : decode cX0_countPartings 99 = .ok (.goto (-90), 3) := by decide +kernel
theorem dX0_countPartings_102 : decode cX0_countPartings 102 = .ok (.return_, 1) := by decide +kernel
theorem dX0_countPieces_0 : decode cX0_countPieces 0 = .ok (.iload_n 1, 1) := by decide +kernel
theorem dX0_countPieces_1 : decode cX0_countPieces 1 = .ok (.istore_n 3, 1) := by decide +kernel
theorem dX0_countPieces_2 : decode cX0_countPieces 2 = .ok (.iconst 0, 1) := by decide +kernel
theorem dX0_countPieces_3 : decode cX0_countPieces 3 = .ok (.istore 4, 2) := by decide +kernel
theorem dX0_countPieces_5 : decode cX0_countPieces 5 = .ok (.iconst 0, 1) := by decide +kernel
theorem dX0_countPieces_6 : decode cX0_countPieces 6 = .ok (.istore 5, 2) := by decide +kernel
theorem dX0_countPieces_8 : decode cX0_countPieces 8 = .ok (.iload 5, 2) := by decide +kernel
theorem dX0_countPieces_10 : decode cX0_countPieces 10 = .ok (.aload_n 0, 1) := by decide +kernel
theorem dX0_countPieces_11 : decode cX0_countPieces 11 = .ok (.getfield 9, 3) := by decide +kernel
theorem dX0_countPieces_14 : decode cX0_countPieces 14 = .ok (.if_icmp .ge 49, 3) := by decide +kernel
theorem dX0_countPieces_17 : decode cX0_countPieces 17 = .ok (.iload_n 3, 1) := by decide +kernel
theorem dX0_countPieces_18 : decode cX0_countPieces 18 = .ok (.ifCond .eq 45, 3) := by decide +kernel
theorem dX0_countPieces_21 : decode cX0_countPieces 21 = .ok (.aload_n 0, 1) := by decide +kernel
theorem dX0_countPieces_22 : decode cX0_countPieces 22 = .ok (.iload_n 3, 1) := by decide +kernel
theorem dX0_countPieces_23 : decode cX0_countPieces 23 = .ok (.iload_n 3, 1) := by decide +kernel
theorem dX0_countPieces_24 : decode cX0_countPieces 24 = .ok (.ineg, 1) := by decide +kernel
theorem dX0_countPieces_25 : decode cX0_countPieces 25 = .ok (.iand, 1) := by decide +kernel
theorem dX0_countPieces_26 : decode cX0_countPieces 26 = .ok (.iload_n 3, 1) := by decide +kernel
theorem dX0_countPieces_27 : decode cX0_countPieces 27 = .ok (.invokevirtual 76, 3) := by decide +kernel
theorem dX0_countPieces_30 : decode cX0_countPieces 30 = .ok (.istore 6, 2) := by decide +kernel
theorem dX0_countPieces_32 : decode cX0_countPieces 32 = .ok (.iload_n 3, 1) := by decide +kernel
theorem dX0_countPieces_33 : decode cX0_countPieces 33 = .ok (.iload 6, 2) := by decide +kernel
theorem dX0_countPieces_35 : decode cX0_countPieces 35 = .ok (.iconst (-1), 1) := by decide +kernel
theorem dX0_countPieces_36 : decode cX0_countPieces 36 = .ok (.ixor, 1) := by decide +kernel
theorem dX0_countPieces_37 : decode cX0_countPieces 37 = .ok (.iand, 1) := by decide +kernel
theorem dX0_countPieces_38 : decode cX0_countPieces 38 = .ok (.istore_n 3, 1) := by decide +kernel
theorem dX0_countPieces_39 : decode cX0_countPieces 39 = .ok (.iload_n 2, 1) := by decide +kernel
theorem dX0_countPieces_40 : decode cX0_countPieces 40 = .ok (.ifCond .eq 14, 3) := by decide +kernel
theorem dX0_countPieces_43 : decode cX0_countPieces 43 = .ok (.iload 6, 2) := by decide +kernel
theorem dX0_countPieces_45 : decode cX0_countPieces 45 = .ok (.invokestatic 49, 3) := by decide +kernel
theorem dX0_countPieces_48 : decode cX0_countPieces 48 = .ok (.iconst 2, 1) := by decide +kernel
theorem dX0_countPieces_49 : decode cX0_countPieces 49 = .ok (.irem, 1) := by decide +kernel
theorem dX0_countPieces_50 : decode cX0_countPieces 50 = .ok (.iconst 1, 1) := by decide +kernel
theorem dX0_countPieces_51 : decode cX0_countPieces 51 = .ok (.if_icmp .ne 6, 3) := by decide +kernel
theorem dX0_countPieces_54 : decode cX0_countPieces 54 = .ok (.iinc 4 1, 3) := by decide +kernel
theorem dX0_countPieces_57 : decode cX0_countPieces 57 = .ok (.iinc 5 1, 3) := by decide +kernel
theorem dX0_countPieces_60 : decode cX0_countPieces 60 = .ok (.goto (-52), 3) := by decide +kernel
theorem dX0_countPieces_63 : decode cX0_countPieces 63 = .ok (.iload 4, 2) := by decide +kernel
theorem dX0_countPieces_65 : decode cX0_countPieces 65 = .ok (.ireturn, 1) := by decide +kernel
theorem dX0_draw_0 : decode cX0_draw 0 = .ok (.aload_n 0, 1) := by decide +kernel
theorem dX0_draw_1 : decode cX0_draw 1 = .ok (.aload_n 1, 1) := by decide +kernel
theorem dX0_draw_2 : decode cX0_draw 2 = .ok (.getfield 25, 3) := by decide +kernel
theorem dX0_draw_5 : decode cX0_draw 5 = .ok (.getfield 31, 3) := by decide +kernel
theorem dX0_draw_8 : decode cX0_draw 8 = .ok (.putfield 9, 3) := by decide +kernel
theorem dX0_draw_11 : decode cX0_draw 11 = .ok (.aload_n 0, 1) := by decide +kernel
theorem dX0_draw_12 : decode cX0_draw 12 = .ok (.getfield 15, 3) := by decide +kernel
theorem dX0_draw_15 : decode cX0_draw 15 = .ok (.iconst 0, 1) := by decide +kernel
theorem dX0_draw_16 : decode cX0_draw 16 = .ok (.invokestatic 34, 3) := by decide +kernel
theorem dX0_draw_19 : decode cX0_draw 19 = .ok (.iconst 0, 1) := by decide +kernel
theorem dX0_draw_20 : decode cX0_draw 20 = .ok (.istore 4, 2) := by decide +kernel
theorem dX0_draw_22 : decode cX0_draw 22 = .ok (.iload 4, 2) := by decide +kernel
theorem dX0_draw_24 : decode cX0_draw 24 = .ok (.aload_n 0, 1) := by decide +kernel
theorem dX0_draw_25 : decode cX0_draw 25 = .ok (.getfield 9, 3) := by decide +kernel
theorem dX0_draw_28 : decode cX0_draw 28 = .ok (.if_icmp .ge 78, 3) := by decide +kernel
theorem dX0_draw_31 : decode cX0_draw 31 = .ok (.iload 4, 2) := by decide +kernel
theorem dX0_draw_33 : decode cX0_draw 33 = .ok (.iconst 1, 1) := by decide +kernel
theorem dX0_draw_34 : decode cX0_draw 34 = .ok (.iadd, 1) := by decide +kernel
theorem dX0_draw_35 : decode cX0_draw 35 = .ok (.istore 5, 2) := by decide +kernel
theorem dX0_draw_37 : decode cX0_draw 37 = .ok (.iload 5, 2) := by decide +kernel
theorem dX0_draw_39 : decode cX0_draw 39 = .ok (.aload_n 0, 1) := by decide +kernel
theorem dX0_draw_40 : decode cX0_draw 40 = .ok (.getfield 9, 3) := by decide +kernel
theorem dX0_draw_43 : decode cX0_draw 43 = .ok (.if_icmp .ge 57, 3) := by decide +kernel
theorem dX0_draw_46 : decode cX0_draw 46 = .ok (.aload_n 3, 1) := by decide +kernel
theorem dX0_draw_47 : decode cX0_draw 47 = .ok (.aload_n 1, 1) := by decide +kernel
theorem dX0_draw_48 : decode cX0_draw 48 = .ok (.iload 4, 2) := by decide +kernel
theorem dX0_draw_50 : decode cX0_draw 50 = .ok (.aload_n 1, 1) := by decide +kernel
theorem dX0_draw_51 : decode cX0_draw 51 = .ok (.getfield 40, 3) := by decide +kernel
theorem dX0_draw_54 : decode cX0_draw 54 = .ok (.iload 4, 2) := by decide +kernel
theorem dX0_draw_56 : decode cX0_draw 56 = .ok (.iaload, 1) := by decide +kernel
theorem dX0_draw_57 : decode cX0_draw 57 = .ok (.iload 5, 2) := by decide +kernel
theorem dX0_draw_59 : decode cX0_draw 59 = .ok (.iload_n 2, 1) := by decide +kernel
theorem dX0_draw_60 : decode cX0_draw 60 = .ok (.invokevirtual 43, 3) := by decide +kernel
theorem dX0_draw_63 : decode cX0_draw 63 = .ok (.ifCond .eq 31, 3) := by decide +kernel
theorem dX0_draw_66 : decode cX0_draw 66 = .ok (.aload_n 0, 1) := by decide +kernel
theorem dX0_draw_67 : decode cX0_draw 67 = .ok (.getfield 15, 3) := by decide +kernel
theorem dX0_draw_70 : decode cX0_draw 70 = .ok (.iload 4, 2) := by decide +kernel
theorem dX0_draw_72 : decode cX0_draw 72 = .ok (.dup2, 1) := by decide +kernel
theorem dX0_draw_73 : decode cX0_draw 73 = .ok (.iaload, 1) := by decide +kernel
theorem dX0_draw_74 : decode cX0_draw 74 = .ok (.iconst 1, 1) := by decide +kernel
theorem dX0_draw_75 : decode cX0_draw 75 = .ok (.iload 5, 2) := by decide +kernel
theorem dX0_draw_77 : decode cX0_draw 77 = .ok (.ishl, 1) := by decide +kernel
theorem dX0_draw_78 : decode cX0_draw 78 = .ok (.ior, 1) := by decide +kernel
theorem dX0_draw_79 : decode cX0_draw 79 = .ok (.iastore, 1) := by decide +kernel
theorem dX0_draw_80 : decode cX0_draw 80 = .ok (.aload_n 0, 1) := by decide +kernel
theorem dX0_draw_81 : decode cX0_draw 81 = .ok (.getfield 15, 3) := by decide +kernel
theorem dX0_draw_84 : decode cX0_draw 84 = .ok (.iload 5, 2) := by decide +kernel
theorem dX0_draw_86 : decode cX0_draw 86 = .ok (.dup2, 1) := by decide +kernel
theorem dX0_draw_87 : decode cX0_draw 87 = .ok (.iaload, 1) := by decide +kernel
theorem dX0_draw_88 : decode cX0_draw 88 = .ok (.iconst 1, 1) := by decide +kernel
theorem dX0_draw_89 : decode cX0_draw 89 = .ok (.iload 4, 2) := by decide +kernel
theorem dX0_draw_91 : decode cX0_draw 91 = .ok (.ishl, 1) := by decide +kernel
theorem dX0_draw_92 : decode cX0_draw 92 = .ok (.ior, 1) := by decide +kernel
theorem dX0_draw_93 : decode cX0_draw 93 = .ok (.iastore, 1) := by decide +kernel
theorem dX0_draw_94 : decode cX0_draw 94 = .ok (.iinc 5 1, 3) := by decide +kernel
theorem dX0_draw_97 : decode cX0_draw 97 = .ok (.goto (-60), 3) := by decide +kernel
theorem dX0_draw_100 : decode cX0_draw 100 = .ok (.iinc 4 1, 3) := by decide +kernel
theorem dX0_draw_103 : decode cX0_draw 103 = .ok (.goto (-81), 3) := by decide +kernel
theorem dX0_draw_106 : decode cX0_draw 106 = .ok (.return_, 1) := by decide +kernel
theorem dX0_firstPartner_0 : decode cX0_firstPartner 0 = .ok (.aload_n 0, 1) := by decide +kernel
theorem dX0_firstPartner_1 : decode cX0_firstPartner 1 = .ok (.getfield 15, 3) := by decide +kernel
theorem dX0_firstPartner_4 : decode cX0_firstPartner 4 = .ok (.iload_n 1, 1) := by decide +kernel
theorem dX0_firstPartner_5 : decode cX0_firstPartner 5 = .ok (.iaload, 1) := by decide +kernel
theorem dX0_firstPartner_6 : decode cX0_firstPartner 6 = .ok (.iload_n 2, 1) := by decide +kernel
theorem dX0_firstPartner_7 : decode cX0_firstPartner 7 = .ok (.iand, 1) := by decide +kernel
theorem dX0_firstPartner_8 : decode cX0_firstPartner 8 = .ok (.istore 4, 2) := by decide +kernel
theorem dX0_firstPartner_10 : decode cX0_firstPartner 10 = .ok (.iload_n 1, 1) := by decide +kernel
theorem dX0_firstPartner_11 : decode cX0_firstPartner 11 = .ok (.iconst 1, 1) := by decide +kernel
theorem dX0_firstPartner_12 : decode cX0_firstPartner 12 = .ok (.iadd, 1) := by decide +kernel
theorem dX0_firstPartner_13 : decode cX0_firstPartner 13 = .ok (.istore 5, 2) := by decide +kernel
theorem dX0_firstPartner_15 : decode cX0_firstPartner 15 = .ok (.iload 5, 2) := by decide +kernel
theorem dX0_firstPartner_17 : decode cX0_firstPartner 17 = .ok (.aload_n 0, 1) := by decide +kernel
theorem dX0_firstPartner_18 : decode cX0_firstPartner 18 = .ok (.getfield 9, 3) := by decide +kernel
theorem dX0_firstPartner_21 : decode cX0_firstPartner 21 = .ok (.if_icmp .ge 41, 3) := by decide +kernel
theorem dX0_firstPartner_24 : decode cX0_firstPartner 24 = .ok (.iload 4, 2) := by decide +kernel
theorem dX0_firstPartner_26 : decode cX0_firstPartner 26 = .ok (.iload 5, 2) := by decide +kernel
theorem dX0_firstPartner_28 : decode cX0_firstPartner 28 = .ok (.ishr, 1) := by decide +kernel
theorem dX0_firstPartner_29 : decode cX0_firstPartner 29 = .ok (.iconst 1, 1) := by decide +kernel
theorem dX0_firstPartner_30 : decode cX0_firstPartner 30 = .ok (.iand, 1) := by decide +kernel
theorem dX0_firstPartner_31 : decode cX0_firstPartner 31 = .ok (.iconst 1, 1) := by decide +kernel
theorem dX0_firstPartner_32 : decode cX0_firstPartner 32 = .ok (.if_icmp .ne 24, 3) := by decide +kernel
theorem dX0_firstPartner_35 : decode cX0_firstPartner 35 = .ok (.aload_n 0, 1) := by decide +kernel
theorem dX0_firstPartner_36 : decode cX0_firstPartner 36 = .ok (.iload_n 1, 1) := by decide +kernel
theorem dX0_firstPartner_37 : decode cX0_firstPartner 37 = .ok (.iload 5, 2) := by decide +kernel
theorem dX0_firstPartner_39 : decode cX0_firstPartner 39 = .ok (.iload_n 2, 1) := by decide +kernel
theorem dX0_firstPartner_40 : decode cX0_firstPartner 40 = .ok (.aload_n 3, 1) := by decide +kernel
theorem dX0_firstPartner_41 : decode cX0_firstPartner 41 = .ok (.invokevirtual 62, 3) := by decide +kernel
theorem dX0_firstPartner_44 : decode cX0_firstPartner 44 = .ok (.aload_n 0, 1) := by decide +kernel
theorem dX0_firstPartner_45 : decode cX0_firstPartner 45 = .ok (.getfield 22, 3) := by decide +kernel
theorem dX0_firstPartner_48 : decode cX0_firstPartner 48 = .ok (.iload_n 2, 1) := by decide +kernel
theorem dX0_firstPartner_49 : decode cX0_firstPartner 49 = .ok (.iaload, 1) := by decide +kernel
theorem dX0_firstPartner_50 : decode cX0_firstPartner 50 = .ok (.if_icmp .ne 6, 3) := by decide +kernel
theorem dX0_firstPartner_53 : decode cX0_firstPartner 53 = .ok (.iload 5, 2) := by decide +kernel
theorem dX0_firstPartner_55 : decode cX0_firstPartner 55 = .ok (.ireturn, 1) := by decide +kernel
theorem dX0_firstPartner_56 : decode cX0_firstPartner 56 = .ok (.iinc 5 1, 3) := by decide +kernel
theorem dX0_firstPartner_59 : decode cX0_firstPartner 59 = .ok (.goto (-44), 3) := by decide +kernel
theorem dX0_firstPartner_62 : decode cX0_firstPartner 62 = .ok (.iconst (-1), 1) := by decide +kernel
theorem dX0_firstPartner_63 : decode cX0_firstPartner 63 = .ok (.ireturn, 1) := by decide +kernel
theorem dX0_leastBar_0 : decode cX0_leastBar 0 = .ok (.iload_n 1, 1) := by decide +kernel
theorem dX0_leastBar_1 : decode cX0_leastBar 1 = .ok (.invokestatic 49, 3) := by decide +kernel
theorem dX0_leastBar_4 : decode cX0_leastBar 4 = .ok (.iconst 2, 1) := by decide +kernel
theorem dX0_leastBar_5 : decode cX0_leastBar 5 = .ok (.aload_n 0, 1) := by decide +kernel
theorem dX0_leastBar_6 : decode cX0_leastBar 6 = .ok (.iload_n 1, 1) := by decide +kernel
theorem dX0_leastBar_7 : decode cX0_leastBar 7 = .ok (.invokevirtual 79, 3) := by decide +kernel
theorem dX0_leastBar_10 : decode cX0_leastBar 10 = .ok (.imul, 1) := by decide +kernel
theorem dX0_leastBar_11 : decode cX0_leastBar 11 = .ok (.isub, 1) := by decide +kernel
theorem dX0_leastBar_12 : decode cX0_leastBar 12 = .ok (.istore_n 2, 1) := by decide +kernel
theorem dX0_leastBar_13 : decode cX0_leastBar 13 = .ok (.iconst 0, 1) := by decide +kernel
theorem dX0_leastBar_14 : decode cX0_leastBar 14 = .ok (.istore_n 3, 1) := by decide +kernel
theorem dX0_leastBar_15 : decode cX0_leastBar 15 = .ok (.bipush 11, 2) := by decide +kernel
theorem dX0_leastBar_17 : decode cX0_leastBar 17 = .ok (.istore 4, 2) := by decide +kernel
theorem dX0_leastBar_19 : decode cX0_leastBar 19 = .ok (.iconst 0, 1) := by decide +kernel
theorem dX0_leastBar_20 : decode cX0_leastBar 20 = .ok (.istore 5, 2) := by decide +kernel
theorem dX0_leastBar_22 : decode cX0_leastBar 22 = .ok (.iload 5, 2) := by decide +kernel
theorem dX0_leastBar_24 : decode cX0_leastBar 24 = .ok (.iload_n 1, 1) := by decide +kernel
theorem dX0_leastBar_25 : decode cX0_leastBar 25 = .ok (.if_icmp .gt 57, 3) := by decide +kernel
theorem dX0_leastBar_28 : decode cX0_leastBar 28 = .ok (.iload 5, 2) := by decide +kernel
theorem dX0_leastBar_30 : decode cX0_leastBar 30 = .ok (.invokestatic 49, 3) := by decide +kernel
theorem dX0_leastBar_33 : decode cX0_leastBar 33 = .ok (.istore 6, 2) := by decide +kernel
theorem dX0_leastBar_35 : decode cX0_leastBar 35 = .ok (.iload 5, 2) := by decide +kernel
theorem dX0_leastBar_37 : decode cX0_leastBar 37 = .ok (.iload_n 1, 1) := by decide +kernel
theorem dX0_leastBar_38 : decode cX0_leastBar 38 = .ok (.iconst (-1), 1) := by decide +kernel
theorem dX0_leastBar_39 : decode cX0_leastBar 39 = .ok (.ixor, 1) := by decide +kernel
theorem dX0_leastBar_40 : decode cX0_leastBar 40 = .ok (.iand, 1) := by decide +kernel
theorem dX0_leastBar_41 : decode cX0_leastBar 41 = .ok (.ifCond .ne 35, 3) := by decide +kernel
theorem dX0_leastBar_44 : decode cX0_leastBar 44 = .ok (.iload 6, 2) := by decide +kernel
theorem dX0_leastBar_46 : decode cX0_leastBar 46 = .ok (.iload 4, 2) := by decide +kernel
theorem dX0_leastBar_48 : decode cX0_leastBar 48 = .ok (.if_icmp .ge 28, 3) := by decide +kernel
theorem dX0_leastBar_51 : decode cX0_leastBar 51 = .ok (.aload_n 0, 1) := by decide +kernel
theorem dX0_leastBar_52 : decode cX0_leastBar 52 = .ok (.iload_n 1, 1) := by decide +kernel
theorem dX0_leastBar_53 : decode cX0_leastBar 53 = .ok (.iload 5, 2) := by decide +kernel
theorem dX0_leastBar_55 : decode cX0_leastBar 55 = .ok (.iconst (-1), 1) := by decide +kernel
theorem dX0_leastBar_56 : decode cX0_leastBar 56 = .ok (.ixor, 1) := by decide +kernel
theorem dX0_leastBar_57 : decode cX0_leastBar 57 = .ok (.iand, 1) := by decide +kernel
theorem dX0_leastBar_58 : decode cX0_leastBar 58 = .ok (.iconst 1, 1) := by decide +kernel
theorem dX0_leastBar_59 : decode cX0_leastBar 59 = .ok (.invokevirtual 82, 3) := by decide +kernel
theorem dX0_leastBar_62 : decode cX0_leastBar 62 = .ok (.iload 6, 2) := by decide +kernel
theorem dX0_leastBar_64 : decode cX0_leastBar 64 = .ok (.isub, 1) := by decide +kernel
theorem dX0_leastBar_65 : decode cX0_leastBar 65 = .ok (.iload_n 2, 1) := by decide +kernel
theorem dX0_leastBar_66 : decode cX0_leastBar 66 = .ok (.if_icmp .ne 10, 3) := by decide +kernel
theorem dX0_leastBar_69 : decode cX0_leastBar 69 = .ok (.iload 5, 2) := by decide +kernel
theorem dX0_leastBar_71 : decode cX0_leastBar 71 = .ok (.istore_n 3, 1) := by decide +kernel
theorem dX0_leastBar_72 : decode cX0_leastBar 72 = .ok (.iload 6, 2) := by decide +kernel
theorem dX0_leastBar_74 : decode cX0_leastBar 74 = .ok (.istore 4, 2) := by decide +kernel
theorem dX0_leastBar_76 : decode cX0_leastBar 76 = .ok (.iinc 5 1, 3) := by decide +kernel
theorem dX0_leastBar_79 : decode cX0_leastBar 79 = .ok (.goto (-57), 3) := by decide +kernel
theorem dX0_leastBar_82 : decode cX0_leastBar 82 = .ok (.iload_n 3, 1) := by decide +kernel
theorem dX0_leastBar_83 : decode cX0_leastBar 83 = .ok (.ireturn, 1) := by decide +kernel
theorem dX0_leastCover_0 : decode cX0_leastCover 0 = .ok (.iconst (-1), 1) := by decide +kernel
theorem dX0_leastCover_1 : decode cX0_leastCover 1 = .ok (.istore_n 3, 1) := by decide +kernel
theorem dX0_leastCover_2 : decode cX0_leastCover 2 = .ok (.bipush 11, 2) := by decide +kernel
theorem dX0_leastCover_4 : decode cX0_leastCover 4 = .ok (.istore 4, 2) := by decide +kernel
theorem dX0_leastCover_6 : decode cX0_leastCover 6 = .ok (.iconst 0, 1) := by decide +kernel
theorem dX0_leastCover_7 : decode cX0_leastCover 7 = .ok (.istore 5, 2) := by decide +kernel
theorem dX0_leastCover_9 : decode cX0_leastCover 9 = .ok (.iload 5, 2) := by decide +kernel
theorem dX0_leastCover_11 : decode cX0_leastCover 11 = .ok (.iload_n 2, 1) := by decide +kernel
theorem dX0_leastCover_12 : decode cX0_leastCover 12 = .ok (.if_icmp .gt 48, 3) := by decide +kernel
theorem dX0_leastCover_15 : decode cX0_leastCover 15 = .ok (.iload 5, 2) := by decide +kernel
theorem dX0_leastCover_17 : decode cX0_leastCover 17 = .ok (.iload_n 2, 1) := by decide +kernel
theorem dX0_leastCover_18 : decode cX0_leastCover 18 = .ok (.iconst (-1), 1) := by decide +kernel
theorem dX0_leastCover_19 : decode cX0_leastCover 19 = .ok (.ixor, 1) := by decide +kernel
theorem dX0_leastCover_20 : decode cX0_leastCover 20 = .ok (.iand, 1) := by decide +kernel
theorem dX0_leastCover_21 : decode cX0_leastCover 21 = .ok (.ifCond .ne 33, 3) := by decide +kernel
theorem dX0_leastCover_24 : decode cX0_leastCover 24 = .ok (.iload 5, 2) := by decide +kernel
theorem dX0_leastCover_26 : decode cX0_leastCover 26 = .ok (.invokestatic 49, 3) := by decide +kernel
theorem dX0_leastCover_29 : decode cX0_leastCover 29 = .ok (.iload 4, 2) := by decide +kernel
theorem dX0_leastCover_31 : decode cX0_leastCover 31 = .ok (.if_icmp .ge 23, 3) := by decide +kernel
theorem dX0_leastCover_34 : decode cX0_leastCover 34 = .ok (.aload_n 0, 1) := by decide +kernel
theorem dX0_leastCover_35 : decode cX0_leastCover 35 = .ok (.iload_n 1, 1) := by decide +kernel
theorem dX0_leastCover_36 : decode cX0_leastCover 36 = .ok (.iload 5, 2) := by decide +kernel
theorem dX0_leastCover_38 : decode cX0_leastCover 38 = .ok (.invokevirtual 86, 3) := by decide +kernel
theorem dX0_leastCover_41 : decode cX0_leastCover 41 = .ok (.ifCond .eq 13, 3) := by decide +kernel
theorem dX0_leastCover_44 : decode cX0_leastCover 44 = .ok (.iload 5, 2) := by decide +kernel
theorem dX0_leastCover_46 : decode cX0_leastCover 46 = .ok (.istore_n 3, 1) := by decide +kernel
theorem dX0_leastCover_47 : decode cX0_leastCover 47 = .ok (.iload 5, 2) := by decide +kernel
theorem dX0_leastCover_49 : decode cX0_leastCover 49 = .ok (.invokestatic 49, 3) := by decide +kernel
theorem dX0_leastCover_52 : decode cX0_leastCover 52 = .ok (.istore 4, 2) := by decide +kernel
theorem dX0_leastCover_54 : decode cX0_leastCover 54 = .ok (.iinc 5 1, 3) := by decide +kernel
theorem dX0_leastCover_57 : decode cX0_leastCover 57 = .ok (.goto (-48), 3) := by decide +kernel
theorem dX0_leastCover_60 : decode cX0_leastCover 60 = .ok (.iload_n 3, 1) := by decide +kernel
theorem dX0_leastCover_61 : decode cX0_leastCover 61 = .ok (.ireturn, 1) := by decide +kernel
theorem dX0_lowestOf_0 : decode cX0_lowestOf 0 = .ok (.iload_n 0, 1) := by decide +kernel
theorem dX0_lowestOf_1 : decode cX0_lowestOf 1 = .ok (.iload_n 0, 1) := by decide +kernel
theorem dX0_lowestOf_2 : decode cX0_lowestOf 2 = .ok (.ineg, 1) := by decide +kernel
theorem dX0_lowestOf_3 : decode cX0_lowestOf 3 = .ok (.iand, 1) := by decide +kernel
theorem dX0_lowestOf_4 : decode cX0_lowestOf 4 = .ok (.iconst 1, 1) := by decide +kernel
theorem dX0_lowestOf_5 : decode cX0_lowestOf 5 = .ok (.isub, 1) := by decide +kernel
theorem dX0_lowestOf_6 : decode cX0_lowestOf 6 = .ok (.invokestatic 49, 3) := by decide +kernel
theorem dX0_lowestOf_9 : decode cX0_lowestOf 9 = .ok (.ireturn, 1) := by decide +kernel
theorem dX0_opposeAllOf_0 : decode cX0_opposeAllOf 0 = .ok (.iconst 0, 1) := by decide +kernel
theorem dX0_opposeAllOf_1 : decode cX0_opposeAllOf 1 = .ok (.istore_n 3, 1) := by decide +kernel
theorem dX0_opposeAllOf_2 : decode cX0_opposeAllOf 2 = .ok (.iload_n 3, 1) := by decide +kernel
theorem dX0_opposeAllOf_3 : decode cX0_opposeAllOf 3 = .ok (.aload_n 0, 1) := by decide +kernel
theorem dX0_opposeAllOf_4 : decode cX0_opposeAllOf 4 = .ok (.getfield 9, 3) := by decide +kernel
theorem dX0_opposeAllOf_7 : decode cX0_opposeAllOf 7 = .ok (.if_icmp .ge 31, 3) := by decide +kernel
theorem dX0_opposeAllOf_10 : decode cX0_opposeAllOf 10 = .ok (.iload_n 1, 1) := by decide +kernel
theorem dX0_opposeAllOf_11 : decode cX0_opposeAllOf 11 = .ok (.iload_n 3, 1) := by decide +kernel
theorem dX0_opposeAllOf_12 : decode cX0_opposeAllOf 12 = .ok (.ishr, 1) := by decide +kernel
theorem dX0_opposeAllOf_13 : decode cX0_opposeAllOf 13 = .ok (.iconst 1, 1) := by decide +kernel
theorem dX0_opposeAllOf_14 : decode cX0_opposeAllOf 14 = .ok (.iand, 1) := by decide +kernel
theorem dX0_opposeAllOf_15 : decode cX0_opposeAllOf 15 = .ok (.iconst 1, 1) := by decide +kernel
theorem dX0_opposeAllOf_16 : decode cX0_opposeAllOf 16 = .ok (.if_icmp .ne 16, 3) := by decide +kernel
theorem dX0_opposeAllOf_19 : decode cX0_opposeAllOf 19 = .ok (.aload_n 0, 1) := by decide +kernel
theorem dX0_opposeAllOf_20 : decode cX0_opposeAllOf 20 = .ok (.getfield 15, 3) := by decide +kernel
theorem dX0_opposeAllOf_23 : decode cX0_opposeAllOf 23 = .ok (.iload_n 3, 1) := by decide +kernel
theorem dX0_opposeAllOf_24 : decode cX0_opposeAllOf 24 = .ok (.iaload, 1) := by decide +kernel
theorem dX0_opposeAllOf_25 : decode cX0_opposeAllOf 25 = .ok (.iload_n 2, 1) := by decide +kernel
theorem dX0_opposeAllOf_26 : decode cX0_opposeAllOf 26 = .ok (.iand, 1) := by decide +kernel
theorem dX0_opposeAllOf_27 : decode cX0_opposeAllOf 27 = .ok (.ifCond .ne 5, 3) := by decide +kernel
theorem dX0_opposeAllOf_30 : decode cX0_opposeAllOf 30 = .ok (.iconst 0, 1) := by decide +kernel
theorem dX0_opposeAllOf_31 : decode cX0_opposeAllOf 31 = .ok (.ireturn, 1) := by decide +kernel
theorem dX0_opposeAllOf_32 : decode cX0_opposeAllOf 32 = .ok (.iinc 3 1, 3) := by decide +kernel
theorem dX0_opposeAllOf_35 : decode cX0_opposeAllOf 35 = .ok (.goto (-33), 3) := by decide +kernel
theorem dX0_opposeAllOf_38 : decode cX0_opposeAllOf 38 = .ok (.iconst 1, 1) := by decide +kernel
theorem dX0_opposeAllOf_39 : decode cX0_opposeAllOf 39 = .ok (.ireturn, 1) := by decide +kernel
theorem dX0_partnerOf_0 : decode cX0_partnerOf 0 = .ok (.iload_n 2, 1) := by decide +kernel
theorem dX0_partnerOf_1 : decode cX0_partnerOf 1 = .ok (.istore 4, 2) := by decide +kernel
theorem dX0_partnerOf_3 : decode cX0_partnerOf 3 = .ok (.iconst 0, 1) := by decide +kernel
theorem dX0_partnerOf_4 : decode cX0_partnerOf 4 = .ok (.istore 5, 2) := by decide +kernel
theorem dX0_partnerOf_6 : decode cX0_partnerOf 6 = .ok (.iload 5, 2) := by decide +kernel
theorem dX0_partnerOf_8 : decode cX0_partnerOf 8 = .ok (.aload_n 0, 1) := by decide +kernel
theorem dX0_partnerOf_9 : decode cX0_partnerOf 9 = .ok (.getfield 9, 3) := by decide +kernel
theorem dX0_partnerOf_12 : decode cX0_partnerOf 12 = .ok (.if_icmp .ge 77, 3) := by decide +kernel
theorem dX0_partnerOf_15 : decode cX0_partnerOf 15 = .ok (.iload 4, 2) := by decide +kernel
theorem dX0_partnerOf_17 : decode cX0_partnerOf 17 = .ok (.iload 5, 2) := by decide +kernel
theorem dX0_partnerOf_19 : decode cX0_partnerOf 19 = .ok (.ishr, 1) := by decide +kernel
theorem dX0_partnerOf_20 : decode cX0_partnerOf 20 = .ok (.iconst 1, 1) := by decide +kernel
theorem dX0_partnerOf_21 : decode cX0_partnerOf 21 = .ok (.iand, 1) := by decide +kernel
theorem dX0_partnerOf_22 : decode cX0_partnerOf 22 = .ok (.iconst 1, 1) := by decide +kernel
theorem dX0_partnerOf_23 : decode cX0_partnerOf 23 = .ok (.if_icmp .ne 60, 3) := by decide +kernel
theorem dX0_partnerOf_26 : decode cX0_partnerOf 26 = .ok (.aload_n 0, 1) := by decide +kernel
theorem dX0_partnerOf_27 : decode cX0_partnerOf 27 = .ok (.iload 5, 2) := by decide +kernel
theorem dX0_partnerOf_29 : decode cX0_partnerOf 29 = .ok (.iload 4, 2) := by decide +kernel
theorem dX0_partnerOf_31 : decode cX0_partnerOf 31 = .ok (.aload_n 3, 1) := by decide +kernel
theorem dX0_partnerOf_32 : decode cX0_partnerOf 32 = .ok (.invokevirtual 72, 3) := by decide +kernel
theorem dX0_partnerOf_35 : decode cX0_partnerOf 35 = .ok (.istore 6, 2) := by decide +kernel
theorem dX0_partnerOf_37 : decode cX0_partnerOf 37 = .ok (.iload 5, 2) := by decide +kernel
theorem dX0_partnerOf_39 : decode cX0_partnerOf 39 = .ok (.iload_n 1, 1) := by decide +kernel
theorem dX0_partnerOf_40 : decode cX0_partnerOf 40 = .ok (.if_icmp .ne 6, 3) := by decide +kernel
theorem dX0_partnerOf_43 : decode cX0_partnerOf 43 = .ok (.iload 6, 2) := by decide +kernel
theorem dX0_partnerOf_45 : decode cX0_partnerOf 45 = .ok (.ireturn, 1) := by decide +kernel
theorem dX0_partnerOf_46 : decode cX0_partnerOf 46 = .ok (.iload 6, 2) := by decide +kernel
theorem dX0_partnerOf_48 : decode cX0_partnerOf 48 = .ok (.iload_n 1, 1) := by decide +kernel
theorem dX0_partnerOf_49 : decode cX0_partnerOf 49 = .ok (.if_icmp .ne 6, 3) := by decide +kernel
theorem dX0_partnerOf_52 : decode cX0_partnerOf 52 = .ok (.iload 5, 2) := by decide +kernel
theorem dX0_partnerOf_54 : decode cX0_partnerOf 54 = .ok (.ireturn, 1) := by decide +kernel
theorem dX0_partnerOf_55 : decode cX0_partnerOf 55 = .ok (.iload 4, 2) := by decide +kernel
theorem dX0_partnerOf_57 : decode cX0_partnerOf 57 = .ok (.iconst 1, 1) := by decide +kernel
theorem dX0_partnerOf_58 : decode cX0_partnerOf 58 = .ok (.iload 5, 2) := by decide +kernel
theorem dX0_partnerOf_60 : decode cX0_partnerOf 60 = .ok (.ishl, 1) := by decide +kernel
theorem dX0_partnerOf_61 : decode cX0_partnerOf 61 = .ok (.iconst (-1), 1) := by decide +kernel
theorem dX0_partnerOf_62 : decode cX0_partnerOf 62 = .ok (.ixor, 1) := by decide +kernel
theorem dX0_partnerOf_63 : decode cX0_partnerOf 63 = .ok (.iand, 1) := by decide +kernel
theorem dX0_partnerOf_64 : decode cX0_partnerOf 64 = .ok (.istore 4, 2) := by decide +kernel
theorem dX0_partnerOf_66 : decode cX0_partnerOf 66 = .ok (.iload 6, 2) := by decide +kernel
theorem dX0_partnerOf_68 : decode cX0_partnerOf 68 = .ok (.iconst (-1), 1) := by decide +kernel
theorem dX0_partnerOf_69 : decode cX0_partnerOf 69 = .ok (.if_icmp .eq 14, 3) := by decide +kernel
theorem dX0_partnerOf_72 : decode cX0_partnerOf 72 = .ok (.iload 4, 2) := by decide +kernel
theorem dX0_partnerOf_74 : decode cX0_partnerOf 74 = .ok (.iconst 1, 1) := by decide +kernel
theorem dX0_partnerOf_75 : decode cX0_partnerOf 75 = .ok (.iload 6, 2) := by decide +kernel
theorem dX0_partnerOf_77 : decode cX0_partnerOf 77 = .ok (.ishl, 1) := by decide +kernel
theorem dX0_partnerOf_78 : decode cX0_partnerOf 78 = .ok (.iconst (-1), 1) := by decide +kernel
theorem dX0_partnerOf_79 : decode cX0_partnerOf 79 = .ok (.ixor, 1) := by decide +kernel
theorem dX0_partnerOf_80 : decode cX0_partnerOf 80 = .ok (.iand, 1) := by decide +kernel
theorem dX0_partnerOf_81 : decode cX0_partnerOf 81 = .ok (.istore 4, 2) := by decide +kernel
theorem dX0_partnerOf_83 : decode cX0_partnerOf 83 = .ok (.iinc 5 1, 3) := by decide +kernel
theorem dX0_partnerOf_86 : decode cX0_partnerOf 86 = .ok (.goto (-80), 3) := by decide +kernel
theorem dX0_partnerOf_89 : decode cX0_partnerOf 89 = .ok (.iconst (-1), 1) := by decide +kernel
theorem dX0_partnerOf_90 : decode cX0_partnerOf 90 = .ok (.ireturn, 1) := by decide +kernel
theorem dX0_pieceOf_0 : decode cX0_pieceOf 0 = .ok (.iload_n 1, 1) := by decide +kernel
theorem dX0_pieceOf_1 : decode cX0_pieceOf 1 = .ok (.istore_n 3, 1) := by decide +kernel
theorem dX0_pieceOf_2 : decode cX0_pieceOf 2 = .ok (.iload_n 1, 1) := by decide +kernel
theorem dX0_pieceOf_3 : decode cX0_pieceOf 3 = .ok (.istore 4, 2) := by decide +kernel
theorem dX0_pieceOf_5 : decode cX0_pieceOf 5 = .ok (.iconst 0, 1) := by decide +kernel
theorem dX0_pieceOf_6 : decode cX0_pieceOf 6 = .ok (.istore 5, 2) := by decide +kernel
theorem dX0_pieceOf_8 : decode cX0_pieceOf 8 = .ok (.iload 5, 2) := by decide +kernel
theorem dX0_pieceOf_10 : decode cX0_pieceOf 10 = .ok (.aload_n 0, 1) := by decide +kernel
theorem dX0_pieceOf_11 : decode cX0_pieceOf 11 = .ok (.getfield 9, 3) := by decide +kernel
theorem dX0_pieceOf_14 : decode cX0_pieceOf 14 = .ok (.if_icmp .ge 55, 3) := by decide +kernel
theorem dX0_pieceOf_17 : decode cX0_pieceOf 17 = .ok (.iload 4, 2) := by decide +kernel
theorem dX0_pieceOf_19 : decode cX0_pieceOf 19 = .ok (.ifCond .eq 50, 3) := by decide +kernel
theorem dX0_pieceOf_22 : decode cX0_pieceOf 22 = .ok (.iload 4, 2) := by decide +kernel
theorem dX0_pieceOf_24 : decode cX0_pieceOf 24 = .ok (.invokestatic 55, 3) := by decide +kernel
theorem dX0_pieceOf_27 : decode cX0_pieceOf 27 = .ok (.istore 6, 2) := by decide +kernel
theorem dX0_pieceOf_29 : decode cX0_pieceOf 29 = .ok (.aload_n 0, 1) := by decide +kernel
theorem dX0_pieceOf_30 : decode cX0_pieceOf 30 = .ok (.getfield 15, 3) := by decide +kernel
theorem dX0_pieceOf_33 : decode cX0_pieceOf 33 = .ok (.iload 6, 2) := by decide +kernel
theorem dX0_pieceOf_35 : decode cX0_pieceOf 35 = .ok (.iaload, 1) := by decide +kernel
theorem dX0_pieceOf_36 : decode cX0_pieceOf 36 = .ok (.iload_n 2, 1) := by decide +kernel
theorem dX0_pieceOf_37 : decode cX0_pieceOf 37 = .ok (.iand, 1) := by decide +kernel
theorem dX0_pieceOf_38 : decode cX0_pieceOf 38 = .ok (.iload_n 3, 1) := by decide +kernel
theorem dX0_pieceOf_39 : decode cX0_pieceOf 39 = .ok (.iconst (-1), 1) := by decide +kernel
theorem dX0_pieceOf_40 : decode cX0_pieceOf 40 = .ok (.ixor, 1) := by decide +kernel
theorem dX0_pieceOf_41 : decode cX0_pieceOf 41 = .ok (.iand, 1) := by decide +kernel
theorem dX0_pieceOf_42 : decode cX0_pieceOf 42 = .ok (.istore 7, 2) := by decide +kernel
theorem dX0_pieceOf_44 : decode cX0_pieceOf 44 = .ok (.iload_n 3, 1) := by decide +kernel
theorem dX0_pieceOf_45 : decode cX0_pieceOf 45 = .ok (.iload 7, 2) := by decide +kernel
theorem dX0_pieceOf_47 : decode cX0_pieceOf 47 = .ok (.ior, 1) := by decide +kernel
theorem dX0_pieceOf_48 : decode cX0_pieceOf 48 = .ok (.istore_n 3, 1) := by decide +kernel
theorem dX0_pieceOf_49 : decode cX0_pieceOf 49 = .ok (.iload 4, 2) := by decide +kernel
theorem dX0_pieceOf_51 : decode cX0_pieceOf 51 = .ok (.iconst 1, 1) := by decide +kernel
theorem dX0_pieceOf_52 : decode cX0_pieceOf 52 = .ok (.iload 6, 2) := by decide +kernel
theorem dX0_pieceOf_54 : decode cX0_pieceOf 54 = .ok (.ishl, 1) := by decide +kernel
theorem dX0_pieceOf_55 : decode cX0_pieceOf 55 = .ok (.iconst (-1), 1) := by decide +kernel
theorem dX0_pieceOf_56 : decode cX0_pieceOf 56 = .ok (.ixor, 1) := by decide +kernel
theorem dX0_pieceOf_57 : decode cX0_pieceOf 57 = .ok (.iand, 1) := by decide +kernel
theorem dX0_pieceOf_58 : decode cX0_pieceOf 58 = .ok (.iload 7, 2) := by decide +kernel
theorem dX0_pieceOf_60 : decode cX0_pieceOf 60 = .ok (.ior, 1) := by decide +kernel
theorem dX0_pieceOf_61 : decode cX0_pieceOf 61 = .ok (.istore 4, 2) := by decide +kernel
theorem dX0_pieceOf_63 : decode cX0_pieceOf 63 = .ok (.iinc 5 1, 3) := by decide +kernel
theorem dX0_pieceOf_66 : decode cX0_pieceOf 66 = .ok (.goto (-58), 3) := by decide +kernel
theorem dX0_pieceOf_69 : decode cX0_pieceOf 69 = .ok (.iload_n 3, 1) := by decide +kernel
theorem dX0_pieceOf_70 : decode cX0_pieceOf 70 = .ok (.ireturn, 1) := by decide +kernel
theorem dX0_redraw_0 : decode cX0_redraw 0 = .ok (.aload_n 0, 1) := by decide +kernel
theorem dX0_redraw_1 : decode cX0_redraw 1 = .ok (.getfield 15, 3) := by decide +kernel
theorem dX0_redraw_4 : decode cX0_redraw 4 = .ok (.iload_n 1, 1) := by decide +kernel
theorem dX0_redraw_5 : decode cX0_redraw 5 = .ok (.iload_n 2, 1) := by decide +kernel
theorem dX0_redraw_6 : decode cX0_redraw 6 = .ok (.iastore, 1) := by decide +kernel
theorem dX0_redraw_7 : decode cX0_redraw 7 = .ok (.iconst 0, 1) := by decide +kernel
theorem dX0_redraw_8 : decode cX0_redraw 8 = .ok (.istore_n 3, 1) := by decide +kernel
theorem dX0_redraw_9 : decode cX0_redraw 9 = .ok (.iload_n 3, 1) := by decide +kernel
theorem dX0_redraw_10 : decode cX0_redraw 10 = .ok (.aload_n 0, 1) := by decide +kernel
theorem dX0_redraw_11 : decode cX0_redraw 11 = .ok (.getfield 9, 3) := by decide +kernel
theorem dX0_redraw_14 : decode cX0_redraw 14 = .ok (.if_icmp .ge 40, 3) := by decide +kernel
theorem dX0_redraw_17 : decode cX0_redraw 17 = .ok (.iload_n 3, 1) := by decide +kernel
theorem dX0_redraw_18 : decode cX0_redraw 18 = .ok (.iload_n 1, 1) := by decide +kernel
theorem dX0_redraw_19 : decode cX0_redraw 19 = .ok (.if_icmp .eq 29, 3) := by decide +kernel
theorem dX0_redraw_22 : decode cX0_redraw 22 = .ok (.aload_n 0, 1) := by decide +kernel
theorem dX0_redraw_23 : decode cX0_redraw 23 = .ok (.getfield 15, 3) := by decide +kernel
theorem dX0_redraw_26 : decode cX0_redraw 26 = .ok (.iload_n 3, 1) := by decide +kernel
theorem dX0_redraw_27 : decode cX0_redraw 27 = .ok (.aload_n 0, 1) := by decide +kernel
theorem dX0_redraw_28 : decode cX0_redraw 28 = .ok (.getfield 15, 3) := by decide +kernel
theorem dX0_redraw_31 : decode cX0_redraw 31 = .ok (.iload_n 3, 1) := by decide +kernel
theorem dX0_redraw_32 : decode cX0_redraw 32 = .ok (.iaload, 1) := by decide +kernel
theorem dX0_redraw_33 : decode cX0_redraw 33 = .ok (.iconst 1, 1) := by decide +kernel
theorem dX0_redraw_34 : decode cX0_redraw 34 = .ok (.iload_n 1, 1) := by decide +kernel
theorem dX0_redraw_35 : decode cX0_redraw 35 = .ok (.ishl, 1) := by decide +kernel
theorem dX0_redraw_36 : decode cX0_redraw 36 = .ok (.iconst (-1), 1) := by decide +kernel
theorem dX0_redraw_37 : decode cX0_redraw 37 = .ok (.ixor, 1) := by decide +kernel
theorem dX0_redraw_38 : decode cX0_redraw 38 = .ok (.iand, 1) := by decide +kernel
theorem dX0_redraw_39 : decode cX0_redraw 39 = .ok (.iload_n 2, 1) := by decide +kernel
theorem dX0_redraw_40 : decode cX0_redraw 40 = .ok (.iload_n 3, 1) := by decide +kernel
theorem dX0_redraw_41 : decode cX0_redraw 41 = .ok (.ishr, 1) := by decide +kernel
theorem dX0_redraw_42 : decode cX0_redraw 42 = .ok (.iconst 1, 1) := by decide +kernel
theorem dX0_redraw_43 : decode cX0_redraw 43 = .ok (.iand, 1) := by decide +kernel
theorem dX0_redraw_44 : decode cX0_redraw 44 = .ok (.iload_n 1, 1) := by decide +kernel
theorem dX0_redraw_45 : decode cX0_redraw 45 = .ok (.ishl, 1) := by decide +kernel
theorem dX0_redraw_46 : decode cX0_redraw 46 = .ok (.ior, 1) := by decide +kernel
theorem dX0_redraw_47 : decode cX0_redraw 47 = .ok (.iastore, 1) := by decide +kernel
theorem dX0_redraw_48 : decode cX0_redraw 48 = .ok (.iinc 3 1, 3) := by decide +kernel
theorem dX0_redraw_51 : decode cX0_redraw 51 = .ok (.goto (-42), 3) := by decide +kernel
theorem dX0_redraw_54 : decode cX0_redraw 54 = .ok (.return_, 1) := by decide +kernel
theorem dX0_shareOf_0 : decode cX0_shareOf 0 = .ok (.lconst 0, 1) := by decide +kernel
theorem dX0_shareOf_1 : decode cX0_shareOf 1 = .ok (.lstore_n 3, 1) := by decide +kernel
theorem dX0_shareOf_2 : decode cX0_shareOf 2 = .ok (.iconst 0, 1) := by decide +kernel
theorem dX0_shareOf_3 : decode cX0_shareOf 3 = .ok (.istore 5, 2) := by decide +kernel
theorem dX0_shareOf_5 : decode cX0_shareOf 5 = .ok (.iload 5, 2) := by decide +kernel
theorem dX0_shareOf_7 : decode cX0_shareOf 7 = .ok (.iload_n 1, 1) := by decide +kernel
theorem dX0_shareOf_8 : decode cX0_shareOf 8 = .ok (.if_icmp .gt 96, 3) := by decide +kernel
theorem dX0_shareOf_11 : decode cX0_shareOf 11 = .ok (.iload 5, 2) := by decide +kernel
theorem dX0_shareOf_13 : decode cX0_shareOf 13 = .ok (.iload_n 1, 1) := by decide +kernel
theorem dX0_shareOf_14 : decode cX0_shareOf 14 = .ok (.iconst (-1), 1) := by decide +kernel
theorem dX0_shareOf_15 : decode cX0_shareOf 15 = .ok (.ixor, 1) := by decide +kernel
theorem dX0_shareOf_16 : decode cX0_shareOf 16 = .ok (.iand, 1) := by decide +kernel
theorem dX0_shareOf_17 : decode cX0_shareOf 17 = .ok (.ifCond .ne 81, 3) := by decide +kernel
theorem dX0_shareOf_20 : decode cX0_shareOf 20 = .ok (.aload_n 0, 1) := by decide +kernel
theorem dX0_shareOf_21 : decode cX0_shareOf 21 = .ok (.getfield 19, 3) := by decide +kernel
theorem dX0_shareOf_24 : decode cX0_shareOf 24 = .ok (.iload 5, 2) := by decide +kernel
theorem dX0_shareOf_26 : decode cX0_shareOf 26 = .ok (.iaload, 1) := by decide +kernel
theorem dX0_shareOf_27 : decode cX0_shareOf 27 = .ok (.ifCond .le 71, 3) := by decide +kernel
theorem dX0_shareOf_30 : decode cX0_shareOf 30 = .ok (.lconst 1, 1) := by decide +kernel
theorem dX0_shareOf_31 : decode cX0_shareOf 31 = .ok (.lstore 6, 2) := by decide +kernel
theorem dX0_shareOf_33 : decode cX0_shareOf 33 = .ok (.iconst 0, 1) := by decide +kernel
theorem dX0_shareOf_34 : decode cX0_shareOf 34 = .ok (.istore 8, 2) := by decide +kernel
theorem dX0_shareOf_36 : decode cX0_shareOf 36 = .ok (.iload 8, 2) := by decide +kernel
theorem dX0_shareOf_38 : decode cX0_shareOf 38 = .ok (.aload_n 0, 1) := by decide +kernel
theorem dX0_shareOf_39 : decode cX0_shareOf 39 = .ok (.getfield 9, 3) := by decide +kernel
theorem dX0_shareOf_42 : decode cX0_shareOf 42 = .ok (.if_icmp .ge 51, 3) := by decide +kernel
theorem dX0_shareOf_45 : decode cX0_shareOf 45 = .ok (.iload_n 1, 1) := by decide +kernel
theorem dX0_shareOf_46 : decode cX0_shareOf 46 = .ok (.iload 8, 2) := by decide +kernel
theorem dX0_shareOf_48 : decode cX0_shareOf 48 = .ok (.ishr, 1) := by decide +kernel
theorem dX0_shareOf_49 : decode cX0_shareOf 49 = .ok (.iconst 1, 1) := by decide +kernel
theorem dX0_shareOf_50 : decode cX0_shareOf 50 = .ok (.iand, 1) := by decide +kernel
theorem dX0_shareOf_51 : decode cX0_shareOf 51 = .ok (.iconst 1, 1) := by decide +kernel
theorem dX0_shareOf_52 : decode cX0_shareOf 52 = .ok (.if_icmp .ne 35, 3) := by decide +kernel
theorem dX0_shareOf_55 : decode cX0_shareOf 55 = .ok (.lload 6, 2) := by decide +kernel
theorem dX0_shareOf_57 : decode cX0_shareOf 57 = .ok (.iload 5, 2) := by decide +kernel
theorem dX0_shareOf_59 : decode cX0_shareOf 59 = .ok (.iload 8, 2) := by decide +kernel
theorem dX0_shareOf_61 : decode cX0_shareOf 61 = .ok (.ishr, 1) := by decide +kernel
theorem dX0_shareOf_62 : decode cX0_shareOf 62 = .ok (.iconst 1, 1) := by decide +kernel
theorem dX0_shareOf_63 : decode cX0_shareOf 63 = .ok (.iand, 1) := by decide +kernel
theorem dX0_shareOf_64 : decode cX0_shareOf 64 = .ok (.iconst 1, 1) := by decide +kernel
theorem dX0_shareOf_65 : decode cX0_shareOf 65 = .ok (.if_icmp .ne 11, 3) := by decide +kernel
theorem dX0_shareOf_68 : decode cX0_shareOf 68 = .ok (.aload_n 2, 1) := by decide +kernel
theorem dX0_shareOf_69 : decode cX0_shareOf 69 = .ok (.iload 8, 2) := by decide +kernel
theorem dX0_shareOf_71 : decode cX0_shareOf 71 = .ok (.iaload, 1) := by decide +kernel
theorem dX0_shareOf_72 : decode cX0_shareOf 72 = .ok (.i2l, 1) := by decide +kernel
theorem dX0_shareOf_73 : decode cX0_shareOf 73 = .ok (.goto 11, 3) := by decide +kernel
theorem dX0_shareOf_76 : decode cX0_shareOf 76 = .ok (.bipush 10, 2) := by decide +kernel
theorem dX0_shareOf_78 : decode cX0_shareOf 78 = .ok (.aload_n 2, 1) := by decide +kernel
theorem dX0_shareOf_79 : decode cX0_shareOf 79 = .ok (.iload 8, 2) := by decide +kernel
theorem dX0_shareOf_81 : decode cX0_shareOf 81 = .ok (.iaload, 1) := by decide +kernel
theorem dX0_shareOf_82 : decode cX0_shareOf 82 = .ok (.isub, 1) := by decide +kernel
theorem dX0_shareOf_83 : decode cX0_shareOf 83 = .ok (.i2l, 1) := by decide +kernel
theorem dX0_shareOf_84 : decode cX0_shareOf 84 = .ok (.lmul, 1) := by decide +kernel
theorem dX0_shareOf_85 : decode cX0_shareOf 85 = .ok (.lstore 6, 2) := by decide +kernel
theorem dX0_shareOf_87 : decode cX0_shareOf 87 = .ok (.iinc 8 1, 3) := by decide +kernel
theorem dX0_shareOf_90 : decode cX0_shareOf 90 = .ok (.goto (-54), 3) := by decide +kernel
theorem dX0_shareOf_93 : decode cX0_shareOf 93 = .ok (.lload_n 3, 1) := by decide +kernel
theorem dX0_shareOf_94 : decode cX0_shareOf 94 = .ok (.lload 6, 2) := by decide +kernel
theorem dX0_shareOf_96 : decode cX0_shareOf 96 = .ok (.ladd, 1) := by decide +kernel
theorem dX0_shareOf_97 : decode cX0_shareOf 97 = .ok (.lstore_n 3, 1) := by decide +kernel
theorem dX0_shareOf_98 : decode cX0_shareOf 98 = .ok (.iinc 5 1, 3) := by decide +kernel
theorem dX0_shareOf_101 : decode cX0_shareOf 101 = .ok (.goto (-96), 3) := by decide +kernel
theorem dX0_shareOf_104 : decode cX0_shareOf 104 = .ok (.lload_n 3, 1) := by decide +kernel
theorem dX0_shareOf_105 : decode cX0_shareOf 105 = .ok (.lreturn, 1) := by decide +kernel
theorem dX0_twosOf_0 : decode cX0_twosOf 0 = .ok (.aload_n 0, 1) := by decide +kernel
theorem dX0_twosOf_1 : decode cX0_twosOf 1 = .ok (.getfield 22, 3) := by decide +kernel
theorem dX0_twosOf_4 : decode cX0_twosOf 4 = .ok (.iload_n 1, 1) := by decide +kernel
theorem dX0_twosOf_5 : decode cX0_twosOf 5 = .ok (.iaload, 1) := by decide +kernel
theorem dX0_twosOf_6 : decode cX0_twosOf 6 = .ok (.sipush 1000, 3) := by decide +kernel
theorem dX0_twosOf_9 : decode cX0_twosOf 9 = .ok (.idiv, 1) := by decide +kernel
theorem dX0_twosOf_10 : decode cX0_twosOf 10 = .ok (.ireturn, 1) := by decide +kernel
theorem dX0_weighPairs_0 : decode cX0_weighPairs 0 = .ok (.aload_n 0, 1) := by decide +kernel
theorem dX0_weighPairs_1 : decode cX0_weighPairs 1 = .ok (.getfield 22, 3) := by decide +kernel
theorem dX0_weighPairs_4 : decode cX0_weighPairs 4 = .ok (.iconst 0, 1) := by decide +kernel
theorem dX0_weighPairs_5 : decode cX0_weighPairs 5 = .ok (.iconst 0, 1) := by decide +kernel
theorem dX0_weighPairs_6 : decode cX0_weighPairs 6 = .ok (.iastore, 1) := by decide +kernel
theorem dX0_weighPairs_7 : decode cX0_weighPairs 7 = .ok (.iconst 1, 1) := by decide +kernel
theorem dX0_weighPairs_8 : decode cX0_weighPairs 8 = .ok (.istore_n 2, 1) := by decide +kernel
theorem dX0_weighPairs_9 : decode cX0_weighPairs 9 = .ok (.iload_n 2, 1) := by decide +kernel
theorem dX0_weighPairs_10 : decode cX0_weighPairs 10 = .ok (.iconst 1, 1) := by decide +kernel
theorem dX0_weighPairs_11 : decode cX0_weighPairs 11 = .ok (.aload_n 0, 1) := by decide +kernel
theorem dX0_weighPairs_12 : decode cX0_weighPairs 12 = .ok (.getfield 9, 3) := by decide +kernel
theorem dX0_weighPairs_15 : decode cX0_weighPairs 15 = .ok (.ishl, 1) := by decide +kernel
theorem dX0_weighPairs_16 : decode cX0_weighPairs 16 = .ok (.if_icmp .ge 93, 3) := by decide +kernel
theorem dX0_weighPairs_19 : decode cX0_weighPairs 19 = .ok (.iload_n 2, 1) := by decide +kernel
theorem dX0_weighPairs_20 : decode cX0_weighPairs 20 = .ok (.invokestatic 55, 3) := by decide +kernel
theorem dX0_weighPairs_23 : decode cX0_weighPairs 23 = .ok (.istore_n 3, 1) := by decide +kernel
theorem dX0_weighPairs_24 : decode cX0_weighPairs 24 = .ok (.aload_n 0, 1) := by decide +kernel
theorem dX0_weighPairs_25 : decode cX0_weighPairs 25 = .ok (.getfield 15, 3) := by decide +kernel
theorem dX0_weighPairs_28 : decode cX0_weighPairs 28 = .ok (.iload_n 3, 1) := by decide +kernel
theorem dX0_weighPairs_29 : decode cX0_weighPairs 29 = .ok (.iaload, 1) := by decide +kernel
theorem dX0_weighPairs_30 : decode cX0_weighPairs 30 = .ok (.iload_n 2, 1) := by decide +kernel
theorem dX0_weighPairs_31 : decode cX0_weighPairs 31 = .ok (.iand, 1) := by decide +kernel
theorem dX0_weighPairs_32 : decode cX0_weighPairs 32 = .ok (.istore 4, 2) := by decide +kernel
theorem dX0_weighPairs_34 : decode cX0_weighPairs 34 = .ok (.aload_n 0, 1) := by decide +kernel
theorem dX0_weighPairs_35 : decode cX0_weighPairs 35 = .ok (.getfield 22, 3) := by decide +kernel
theorem dX0_weighPairs_38 : decode cX0_weighPairs 38 = .ok (.iload_n 2, 1) := by decide +kernel
theorem dX0_weighPairs_39 : decode cX0_weighPairs 39 = .ok (.iconst 1, 1) := by decide +kernel
theorem dX0_weighPairs_40 : decode cX0_weighPairs 40 = .ok (.iload_n 3, 1) := by decide +kernel
theorem dX0_weighPairs_41 : decode cX0_weighPairs 41 = .ok (.ishl, 1) := by decide +kernel
theorem dX0_weighPairs_42 : decode cX0_weighPairs 42 = .ok (.iconst (-1), 1) := by decide +kernel
theorem dX0_weighPairs_43 : decode cX0_weighPairs 43 = .ok (.ixor, 1) := by decide +kernel
theorem dX0_weighPairs_44 : decode cX0_weighPairs 44 = .ok (.iand, 1) := by decide +kernel
theorem dX0_weighPairs_45 : decode cX0_weighPairs 45 = .ok (.iaload, 1) := by decide +kernel
theorem dX0_weighPairs_46 : decode cX0_weighPairs 46 = .ok (.istore 5, 2) := by decide +kernel
theorem dX0_weighPairs_48 : decode cX0_weighPairs 48 = .ok (.iload_n 3, 1) := by decide +kernel
theorem dX0_weighPairs_49 : decode cX0_weighPairs 49 = .ok (.iconst 1, 1) := by decide +kernel
theorem dX0_weighPairs_50 : decode cX0_weighPairs 50 = .ok (.iadd, 1) := by decide +kernel
theorem dX0_weighPairs_51 : decode cX0_weighPairs 51 = .ok (.istore 6, 2) := by decide +kernel
theorem dX0_weighPairs_53 : decode cX0_weighPairs 53 = .ok (.iload 6, 2) := by decide +kernel
theorem dX0_weighPairs_55 : decode cX0_weighPairs 55 = .ok (.aload_n 0, 1) := by decide +kernel
theorem dX0_weighPairs_56 : decode cX0_weighPairs 56 = .ok (.getfield 9, 3) := by decide +kernel
theorem dX0_weighPairs_59 : decode cX0_weighPairs 59 = .ok (.if_icmp .ge 36, 3) := by decide +kernel
theorem dX0_weighPairs_62 : decode cX0_weighPairs 62 = .ok (.iload 4, 2) := by decide +kernel
theorem dX0_weighPairs_64 : decode cX0_weighPairs 64 = .ok (.iload 6, 2) := by decide +kernel
theorem dX0_weighPairs_66 : decode cX0_weighPairs 66 = .ok (.ishr, 1) := by decide +kernel
theorem dX0_weighPairs_67 : decode cX0_weighPairs 67 = .ok (.iconst 1, 1) := by decide +kernel
theorem dX0_weighPairs_68 : decode cX0_weighPairs 68 = .ok (.iand, 1) := by decide +kernel
theorem dX0_weighPairs_69 : decode cX0_weighPairs 69 = .ok (.iconst 1, 1) := by decide +kernel
theorem dX0_weighPairs_70 : decode cX0_weighPairs 70 = .ok (.if_icmp .ne 19, 3) := by decide +kernel
theorem dX0_weighPairs_73 : decode cX0_weighPairs 73 = .ok (.iload 5, 2) := by decide +kernel
theorem dX0_weighPairs_75 : decode cX0_weighPairs 75 = .ok (.aload_n 0, 1) := by decide +kernel
theorem dX0_weighPairs_76 : decode cX0_weighPairs 76 = .ok (.iload_n 3, 1) := by decide +kernel
theorem dX0_weighPairs_77 : decode cX0_weighPairs 77 = .ok (.iload 6, 2) := by decide +kernel
theorem dX0_weighPairs_79 : decode cX0_weighPairs 79 = .ok (.iload_n 2, 1) := by decide +kernel
theorem dX0_weighPairs_80 : decode cX0_weighPairs 80 = .ok (.aload_n 1, 1) := by decide +kernel
theorem dX0_weighPairs_81 : decode cX0_weighPairs 81 = .ok (.invokevirtual 62, 3) := by decide +kernel
theorem dX0_weighPairs_84 : decode cX0_weighPairs 84 = .ok (.invokestatic 66, 3) := by decide +kernel
theorem dX0_weighPairs_87 : decode cX0_weighPairs 87 = .ok (.istore 5, 2) := by decide +kernel
theorem dX0_weighPairs_89 : decode cX0_weighPairs 89 = .ok (.iinc 6 1, 3) := by decide +kernel
theorem dX0_weighPairs_92 : decode cX0_weighPairs 92 = .ok (.goto (-39), 3) := by decide +kernel
theorem dX0_weighPairs_95 : decode cX0_weighPairs 95 = .ok (.aload_n 0, 1) := by decide +kernel
theorem dX0_weighPairs_96 : decode cX0_weighPairs 96 = .ok (.getfield 22, 3) := by decide +kernel
theorem dX0_weighPairs_99 : decode cX0_weighPairs 99 = .ok (.iload_n 2, 1) := by decide +kernel
theorem dX0_weighPairs_100 : decode cX0_weighPairs 100 = .ok (.iload 5, 2) := by decide +kernel
theorem dX0_weighPairs_102 : decode cX0_weighPairs 102 = .ok (.iastore, 1) := by decide +kernel
theorem dX0_weighPairs_103 : decode cX0_weighPairs 103 = .ok (.iinc 2 1, 3) := by decide +kernel
theorem dX0_weighPairs_106 : decode cX0_weighPairs 106 = .ok (.goto (-97), 3) := by decide +kernel
theorem dX0_weighPairs_109 : decode cX0_weighPairs 109 = .ok (.return_, 1) := by decide +kernel
theorem dX0_worthWith_0 : decode cX0_worthWith 0 = .ok (.aload_n 0, 1) := by decide +kernel
theorem dX0_worthWith_1 : decode cX0_worthWith 1 = .ok (.getfield 22, 3) := by decide +kernel
theorem dX0_worthWith_4 : decode cX0_worthWith 4 = .ok (.iload_n 3, 1) := by decide +kernel
theorem dX0_worthWith_5 : decode cX0_worthWith 5 = .ok (.iconst 1, 1) := by decide +kernel
theorem dX0_worthWith_6 : decode cX0_worthWith 6 = .ok (.iload_n 1, 1) := by decide +kernel
theorem dX0_worthWith_7 : decode cX0_worthWith 7 = .ok (.ishl, 1) := by decide +kernel
theorem dX0_worthWith_8 : decode cX0_worthWith 8 = .ok (.iconst 1, 1) := by decide +kernel
theorem dX0_worthWith_9 : decode cX0_worthWith 9 = .ok (.iload_n 2, 1) := by decide +kernel
theorem dX0_worthWith_10 : decode cX0_worthWith 10 = .ok (.ishl, 1) := by decide +kernel
theorem dX0_worthWith_11 : decode cX0_worthWith 11 = .ok (.ior, 1) := by decide +kernel
theorem dX0_worthWith_12 : decode cX0_worthWith 12 = .ok (.iconst (-1), 1) := by decide +kernel
theorem dX0_worthWith_13 : decode cX0_worthWith 13 = .ok (.ixor, 1) := by decide +kernel
theorem dX0_worthWith_14 : decode cX0_worthWith 14 = .ok (.iand, 1) := by decide +kernel
theorem dX0_worthWith_15 : decode cX0_worthWith 15 = .ok (.iaload, 1) := by decide +kernel
theorem dX0_worthWith_16 : decode cX0_worthWith 16 = .ok (.sipush 1000, 3) := by decide +kernel
theorem dX0_worthWith_19 : decode cX0_worthWith 19 = .ok (.iadd, 1) := by decide +kernel
theorem dX0_worthWith_20 : decode cX0_worthWith 20 = .ok (.aload 4, 2) := by decide +kernel
theorem dX0_worthWith_22 : decode cX0_worthWith 22 = .ok (.iload_n 1, 1) := by decide +kernel
theorem dX0_worthWith_23 : decode cX0_worthWith 23 = .ok (.iaload, 1) := by decide +kernel
theorem dX0_worthWith_24 : decode cX0_worthWith 24 = .ok (.iadd, 1) := by decide +kernel
theorem dX0_worthWith_25 : decode cX0_worthWith 25 = .ok (.aload 4, 2) := by decide +kernel
theorem dX0_worthWith_27 : decode cX0_worthWith 27 = .ok (.iload_n 2, 1) := by decide +kernel
theorem dX0_worthWith_28 : decode cX0_worthWith 28 = .ok (.iaload, 1) := by decide +kernel
theorem dX0_worthWith_29 : decode cX0_worthWith 29 = .ok (.iadd, 1) := by decide +kernel
theorem dX0_worthWith_30 : decode cX0_worthWith 30 = .ok (.ireturn, 1) := by decide +kernel
theorem dX10_lastViews_0 : decode cX10_lastViews 0 = .ok (.aload_n 1, 1) := by decide +kernel
theorem dX10_lastViews_1 : decode cX10_lastViews 1 = .ok (.invokevirtual 51, 3) := by decide +kernel
theorem dX10_lastViews_4 : decode cX10_lastViews 4 = .ok (.iconst 1, 1) := by decide +kernel
theorem dX10_lastViews_5 : decode cX10_lastViews 5 = .ok (.aload_n 0, 1) := by decide +kernel
theorem dX10_lastViews_6 : decode cX10_lastViews 6 = .ok (.getfield 9, 3) := by decide +kernel
theorem dX10_lastViews_9 : decode cX10_lastViews 9 = .ok (.ishl, 1) := by decide +kernel
theorem dX10_lastViews_10 : decode cX10_lastViews 10 = .ok (.iconst (-1), 1) := by decide +kernel
theorem dX10_lastViews_11 : decode cX10_lastViews 11 = .ok (.ixor, 1) := by decide +kernel
theorem dX10_lastViews_12 : decode cX10_lastViews 12 = .ok (.iand, 1) := by decide +kernel
theorem dX10_lastViews_13 : decode cX10_lastViews 13 = .ok (.istore_n 3, 1) := by decide +kernel
theorem dX10_lastViews_14 : decode cX10_lastViews 14 = .ok (.aload_n 1, 1) := by decide +kernel
theorem dX10_lastViews_15 : decode cX10_lastViews 15 = .ok (.getfield 37, 3) := by decide +kernel
theorem dX10_lastViews_18 : decode cX10_lastViews 18 = .ok (.aload_n 0, 1) := by decide +kernel
theorem dX10_lastViews_19 : decode cX10_lastViews 19 = .ok (.getfield 9, 3) := by decide +kernel
theorem dX10_lastViews_22 : decode cX10_lastViews 22 = .ok (.iaload, 1) := by decide +kernel
theorem dX10_lastViews_23 : decode cX10_lastViews 23 = .ok (.istore 4, 2) := by decide +kernel
theorem dX10_lastViews_25 : decode cX10_lastViews 25 = .ok (.aload_n 0, 1) := by decide +kernel
theorem dX10_lastViews_26 : decode cX10_lastViews 26 = .ok (.getfield 31, 3) := by decide +kernel
theorem dX10_lastViews_29 : decode cX10_lastViews 29 = .ok (.iconst (-1), 1) := by decide +kernel
theorem dX10_lastViews_30 : decode cX10_lastViews 30 = .ok (.invokestatic 63, 3) := by decide +kernel
theorem dX10_lastViews_33 : decode cX10_lastViews 33 = .ok (.aload_n 0, 1) := by decide +kernel
theorem dX10_lastViews_34 : decode cX10_lastViews 34 = .ok (.getfield 31, 3) := by decide +kernel
theorem dX10_lastViews_37 : decode cX10_lastViews 37 = .ok (.iload 4, 2) := by decide +kernel
theorem dX10_lastViews_39 : decode cX10_lastViews 39 = .ok (.iload 4, 2) := by decide +kernel
theorem dX10_lastViews_41 : decode cX10_lastViews 41 = .ok (.iastore, 1) := by decide +kernel
theorem dX10_lastViews_42 : decode cX10_lastViews 42 = .ok (.aload_n 0, 1) := by decide +kernel
theorem dX10_lastViews_43 : decode cX10_lastViews 43 = .ok (.getfield 28, 3) := by decide +kernel
theorem dX10_lastViews_46 : decode cX10_lastViews 46 = .ok (.iconst 0, 1) := by decide +kernel
theorem dX10_lastViews_47 : decode cX10_lastViews 47 = .ok (.iload 4, 2) := by decide +kernel
theorem dX10_lastViews_49 : decode cX10_lastViews 49 = .ok (.iastore, 1) := by decide +kernel
theorem dX10_lastViews_50 : decode cX10_lastViews 50 = .ok (.iconst 1, 1) := by decide +kernel
theorem dX10_lastViews_51 : decode cX10_lastViews 51 = .ok (.istore 5, 2) := by decide +kernel
theorem dX10_lastViews_53 : decode cX10_lastViews 53 = .ok (.iconst 0, 1) := by decide +kernel
theorem dX10_lastViews_54 : decode cX10_lastViews 54 = .ok (.istore 6, 2) := by decide +kernel
theorem dX10_lastViews_56 : decode cX10_lastViews 56 = .ok (.iload 6, 2) := by decide +kernel
theorem dX10_lastViews_58 : decode cX10_lastViews 58 = .ok (.iload 5, 2) := by decide +kernel
theorem dX10_lastViews_60 : decode cX10_lastViews 60 = .ok (.if_icmp .ge 143, 3) := by decide +kernel
theorem dX10_lastViews_63 : decode cX10_lastViews 63 = .ok (.aload_n 0, 1) := by decide +kernel
theorem dX10_lastViews_64 : decode cX10_lastViews 64 = .ok (.getfield 28, 3) := by decide +kernel
theorem dX10_lastViews_67 : decode cX10_lastViews 67 = .ok (.iload 6, 2) := by decide +kernel
theorem dX10_lastViews_69 : decode cX10_lastViews 69 = .ok (.iaload, 1) := by decide +kernel
theorem dX10_lastViews_70 : decode cX10_lastViews 70 = .ok (.istore 7, 2) := by decide +kernel
theorem dX10_lastViews_72 : decode cX10_lastViews 72 = .ok (.iconst 0, 1) := by decide +kernel
theorem dX10_lastViews_73 : decode cX10_lastViews 73 = .ok (.istore 8, 2) := by decide +kernel
theorem dX10_lastViews_75 : decode cX10_lastViews 75 = .ok (.iload 8, 2) := by decide +kernel
theorem dX10_lastViews_77 : decode cX10_lastViews 77 = .ok (.aload_n 1, 1) := by decide +kernel
theorem dX10_lastViews_78 : decode cX10_lastViews 78 = .ok (.getfield 69, 3) := by decide +kernel
theorem dX10_lastViews_81 : decode cX10_lastViews 81 = .ok (.getfield 73, 3) := by decide +kernel
theorem dX10_lastViews_84 : decode cX10_lastViews 84 = .ok (.if_icmp .ge 113, 3) := by decide +kernel
theorem dX10_lastViews_87 : decode cX10_lastViews 87 = .ok (.iload_n 3, 1) := by decide +kernel
theorem dX10_lastViews_88 : decode cX10_lastViews 88 = .ok (.iload 8, 2) := by decide +kernel
theorem dX10_lastViews_90 : decode cX10_lastViews 90 = .ok (.ishr, 1) := by decide +kernel
theorem dX10_lastViews_91 : decode cX10_lastViews 91 = .ok (.iconst 1, 1) := by decide +kernel
theorem dX10_lastViews_92 : decode cX10_lastViews 92 = .ok (.iand, 1) := by decide +kernel
theorem dX10_lastViews_93 : decode cX10_lastViews 93 = .ok (.iconst 1, 1) := by decide +kernel
theorem dX10_lastViews_94 : decode cX10_lastViews 94 = .ok (.if_icmp .ne 19, 3) := by decide +kernel
theorem dX10_lastViews_97 : decode cX10_lastViews 97 = .ok (.aload_n 2, 1) := by decide +kernel
theorem dX10_lastViews_98 : decode cX10_lastViews 98 = .ok (.aload_n 1, 1) := by decide +kernel
theorem dX10_lastViews_99 : decode cX10_lastViews 99 = .ok (.aload_n 0, 1) := by decide +kernel
theorem dX10_lastViews_100 : decode cX10_lastViews 100 = .ok (.getfield 9, 3) := by decide +kernel
theorem dX10_lastViews_103 : decode cX10_lastViews 103 = .ok (.iload 7, 2) := by decide +kernel
theorem dX10_lastViews_105 : decode cX10_lastViews 105 = .ok (.iload 8, 2) := by decide +kernel
theorem dX10_lastViews_107 : decode cX10_lastViews 107 = .ok (.invokevirtual 78, 3) := by decide +kernel
theorem dX10_lastViews_110 : decode cX10_lastViews 110 = .ok (.goto 5, 3) := by decide +kernel
theorem dX10_lastViews_113 : decode cX10_lastViews 113 = .ok (.iload 7, 2) := by decide +kernel
theorem dX10_lastViews_115 : decode cX10_lastViews 115 = .ok (.istore 9, 2) := by decide +kernel
theorem dX10_lastViews_117 : decode cX10_lastViews 117 = .ok (.aload_n 0, 1) := by decide +kernel
theorem dX10_lastViews_118 : decode cX10_lastViews 118 = .ok (.getfield 31, 3) := by decide +kernel
theorem dX10_lastViews_121 : decode cX10_lastViews 121 = .ok (.iload 9, 2) := by decide +kernel
theorem dX10_lastViews_123 : decode cX10_lastViews 123 = .ok (.iaload, 1) := by decide +kernel
theorem dX10_lastViews_124 : decode cX10_lastViews 124 = .ok (.iconst (-1), 1) := by decide +kernel
theorem dX10_lastViews_125 : decode cX10_lastViews 125 = .ok (.if_icmp .ne 66, 3) := by decide +kernel
theorem dX10_lastViews_128 : decode cX10_lastViews 128 = .ok (.iload 5, 2) := by decide +kernel
theorem dX10_lastViews_130 : decode cX10_lastViews 130 = .ok (.sipush 1000, 3) := by decide +kernel
theorem dX10_lastViews_133 : decode cX10_lastViews 133 = .ok (.if_icmp .ge 58, 3) := by decide +kernel
theorem dX10_lastViews_136 : decode cX10_lastViews 136 = .ok (.aload_n 0, 1) := by decide +kernel
theorem dX10_lastViews_137 : decode cX10_lastViews 137 = .ok (.getfield 31, 3) := by decide +kernel
theorem dX10_lastViews_140 : decode cX10_lastViews 140 = .ok (.iload 9, 2) := by decide +kernel
theorem dX10_lastViews_142 : decode cX10_lastViews 142 = .ok (.iload 7, 2) := by decide +kernel
theorem dX10_lastViews_144 : decode cX10_lastViews 144 = .ok (.iastore, 1) := by decide +kernel
theorem dX10_lastViews_145 : decode cX10_lastViews 145 = .ok (.aload_n 0, 1) := by decide +kernel
theorem dX10_lastViews_146 : decode cX10_lastViews 146 = .ok (.getfield 34, 3) := by decide +kernel
theorem dX10_lastViews_149 : decode cX10_lastViews 149 = .ok (.iload 9, 2) := by decide +kernel
theorem dX10_lastViews_151 : decode cX10_lastViews 151 = .ok (.iload 8, 2) := by decide +kernel
theorem dX10_lastViews_153 : decode cX10_lastViews 153 = .ok (.iastore, 1) := by decide +kernel
theorem dX10_lastViews_154 : decode cX10_lastViews 154 = .ok (.aload_n 2, 1) := by decide +kernel
theorem dX10_lastViews_155 : decode cX10_lastViews 155 = .ok (.aload_n 1, 1) := by decide +kernel
theorem dX10_lastViews_156 : decode cX10_lastViews 156 = .ok (.aload_n 0, 1) := by decide +kernel
theorem dX10_lastViews_157 : decode cX10_lastViews 157 = .ok (.getfield 9, 3) := by decide +kernel
theorem dX10_lastViews_160 : decode cX10_lastViews 160 = .ok (.iload 9, 2) := by decide +kernel
theorem dX10_lastViews_162 : decode cX10_lastViews 162 = .ok (.aload_n 0, 1) := by decide +kernel
theorem dX10_lastViews_163 : decode cX10_lastViews 163 = .ok (.getfield 15, 3) := by decide +kernel
theorem dX10_lastViews_166 : decode cX10_lastViews 166 = .ok (.aload_n 1, 1) := by decide +kernel
theorem dX10_lastViews_167 : decode cX10_lastViews 167 = .ok (.getfield 42, 3) := by decide +kernel
theorem dX10_lastViews_170 : decode cX10_lastViews 170 = .ok (.invokevirtual 45, 3) := by decide +kernel
theorem dX10_lastViews_173 : decode cX10_lastViews 173 = .ok (.ifCond .eq 6, 3) := by decide +kernel
theorem dX10_lastViews_176 : decode cX10_lastViews 176 = .ok (.iload 9, 2) := by decide +kernel
theorem dX10_lastViews_178 : decode cX10_lastViews 178 = .ok (.ireturn, 1) := by decide +kernel
theorem dX10_lastViews_179 : decode cX10_lastViews 179 = .ok (.aload_n 0, 1) := by decide +kernel
theorem dX10_lastViews_180 : decode cX10_lastViews 180 = .ok (.getfield 28, 3) := by decide +kernel
theorem dX10_lastViews_183 : decode cX10_lastViews 183 = .ok (.iload 5, 2) := by decide +kernel
theorem dX10_lastViews_185 : decode cX10_lastViews 185 = .ok (.iload 9, 2) := by decide +kernel
theorem dX10_lastViews_187 : decode cX10_lastViews 187 = .ok (.iastore, 1) := by decide +kernel
theorem dX10_lastViews_188 : decode cX10_lastViews 188 = .ok (.iinc 5 1, 3) := by decide +kernel
theorem dX10_lastViews_191 : decode cX10_lastViews 191 = .ok (.iinc 8 1, 3) := by decide +kernel
theorem dX10_lastViews_194 : decode cX10_lastViews 194 = .ok (.goto (-119), 3) := by decide +kernel
theorem dX10_lastViews_197 : decode cX10_lastViews 197 = .ok (.iinc 6 1, 3) := by decide +kernel
theorem dX10_lastViews_200 : decode cX10_lastViews 200 = .ok (.goto (-144), 3) := by decide +kernel
theorem dX10_lastViews_203 : decode cX10_lastViews 203 = .ok (.iconst (-1), 1) := by decide +kernel
theorem dX10_lastViews_204 : decode cX10_lastViews 204 = .ok (.ireturn, 1) := by decide +kernel
theorem dX10_seek_0 : decode cX10_seek 0 = .ok (.aload_n 0, 1) := by decide +kernel
theorem dX10_seek_1 : decode cX10_seek 1 = .ok (.getfield 9, 3) := by decide +kernel
theorem dX10_seek_4 : decode cX10_seek 4 = .ok (.iload_n 2, 1) := by decide +kernel
theorem dX10_seek_5 : decode cX10_seek 5 = .ok (.if_icmp .ne 21, 3) := by decide +kernel
theorem dX10_seek_8 : decode cX10_seek 8 = .ok (.aload_n 0, 1) := by decide +kernel
theorem dX10_seek_9 : decode cX10_seek 9 = .ok (.getfield 15, 3) := by decide +kernel
theorem dX10_seek_12 : decode cX10_seek 12 = .ok (.iload_n 3, 1) := by decide +kernel
theorem dX10_seek_13 : decode cX10_seek 13 = .ok (.if_icmp .ne 13, 3) := by decide +kernel
theorem dX10_seek_16 : decode cX10_seek 16 = .ok (.aload_n 0, 1) := by decide +kernel
theorem dX10_seek_17 : decode cX10_seek 17 = .ok (.getfield 18, 3) := by decide +kernel
theorem dX10_seek_20 : decode cX10_seek 20 = .ok (.iload 5, 2) := by decide +kernel
theorem dX10_seek_22 : decode cX10_seek 22 = .ok (.if_icmp .ne 4, 3) := by decide +kernel
theorem dX10_seek_25 : decode cX10_seek 25 = .ok (.return_, 1) := by decide +kernel
theorem dX10_seek_26 : decode cX10_seek 26 = .ok (.aload_n 0, 1) := by decide +kernel
theorem dX10_seek_27 : decode cX10_seek 27 = .ok (.iload_n 2, 1) := by decide +kernel
theorem dX10_seek_28 : decode cX10_seek 28 = .ok (.putfield 9, 3) := by decide +kernel
theorem dX10_seek_31 : decode cX10_seek 31 = .ok (.aload_n 0, 1) := by decide +kernel
theorem dX10_seek_32 : decode cX10_seek 32 = .ok (.iload_n 3, 1) := by decide +kernel
theorem dX10_seek_33 : decode cX10_seek 33 = .ok (.putfield 15, 3) := by decide +kernel
theorem dX10_seek_36 : decode cX10_seek 36 = .ok (.aload_n 0, 1) := by decide +kernel
theorem dX10_seek_37 : decode cX10_seek 37 = .ok (.iload 5, 2) := by decide +kernel
theorem dX10_seek_39 : decode cX10_seek 39 = .ok (.putfield 18, 3) := by decide +kernel
theorem dX10_seek_42 : decode cX10_seek 42 = .ok (.aload_n 1, 1) := by decide +kernel
theorem dX10_seek_43 : decode cX10_seek 43 = .ok (.getfield 37, 3) := by decide +kernel
theorem dX10_seek_46 : decode cX10_seek 46 = .ok (.iload_n 2, 1) := by decide +kernel
theorem dX10_seek_47 : decode cX10_seek 47 = .ok (.iaload, 1) := by decide +kernel
theorem dX10_seek_48 : decode cX10_seek 48 = .ok (.istore 6, 2) := by decide +kernel
theorem dX10_seek_50 : decode cX10_seek 50 = .ok (.aload 4, 2) := by decide +kernel
theorem dX10_seek_52 : decode cX10_seek 52 = .ok (.aload_n 1, 1) := by decide +kernel
theorem dX10_seek_53 : decode cX10_seek 53 = .ok (.iload_n 2, 1) := by decide +kernel
theorem dX10_seek_54 : decode cX10_seek 54 = .ok (.iload 6, 2) := by decide +kernel
theorem dX10_seek_56 : decode cX10_seek 56 = .ok (.iload_n 3, 1) := by decide +kernel
theorem dX10_seek_57 : decode cX10_seek 57 = .ok (.aload_n 1, 1) := by decide +kernel
theorem dX10_seek_58 : decode cX10_seek 58 = .ok (.getfield 42, 3) := by decide +kernel
theorem dX10_seek_61 : decode cX10_seek 61 = .ok (.invokevirtual 45, 3) := by decide +kernel
theorem dX10_seek_64 : decode cX10_seek 64 = .ok (.ifCond .eq 11, 3) := by decide +kernel
theorem dX10_seek_67 : decode cX10_seek 67 = .ok (.aload_n 0, 1) := by decide +kernel
theorem dX10_seek_68 : decode cX10_seek 68 = .ok (.iconst 0, 1) := by decide +kernel
theorem dX10_seek_69 : decode cX10_seek 69 = .ok (.putfield 21, 3) := by decide +kernel
theorem dX10_seek_72 : decode cX10_seek 72 = .ok (.goto 35, 3) := by decide +kernel
theorem dX10_seek_75 : decode cX10_seek 75 = .ok (.aload_n 1, 1) := by decide +kernel
theorem dX10_seek_76 : decode cX10_seek 76 = .ok (.invokevirtual 51, 3) := by decide +kernel
theorem dX10_seek_79 : decode cX10_seek 79 = .ok (.iload_n 2, 1) := by decide +kernel
theorem dX10_seek_80 : decode cX10_seek 80 = .ok (.ishr, 1) := by decide +kernel
theorem dX10_seek_81 : decode cX10_seek 81 = .ok (.iconst 1, 1) := by decide +kernel
theorem dX10_seek_82 : decode cX10_seek 82 = .ok (.iand, 1) := by decide +kernel
theorem dX10_seek_83 : decode cX10_seek 83 = .ok (.ifCond .ne 11, 3) := by decide +kernel
theorem dX10_seek_86 : decode cX10_seek 86 = .ok (.aload_n 0, 1) := by decide +kernel
theorem dX10_seek_87 : decode cX10_seek 87 = .ok (.iconst (-1), 1) := by decide +kernel
theorem dX10_seek_88 : decode cX10_seek 88 = .ok (.putfield 21, 3) := by decide +kernel
theorem dX10_seek_91 : decode cX10_seek 91 = .ok (.goto 16, 3) := by decide +kernel
theorem dX10_seek_94 : decode cX10_seek 94 = .ok (.aload_n 0, 1) := by decide +kernel
theorem dX10_seek_95 : decode cX10_seek 95 = .ok (.iload 6, 2) := by decide +kernel
theorem dX10_seek_97 : decode cX10_seek 97 = .ok (.aload_n 0, 1) := by decide +kernel
theorem dX10_seek_98 : decode cX10_seek 98 = .ok (.aload_n 1, 1) := by decide +kernel
theorem dX10_seek_99 : decode cX10_seek 99 = .ok (.aload 4, 2) := by decide +kernel
theorem dX10_seek_101 : decode cX10_seek 101 = .ok (.invokevirtual 55, 3) := by decide +kernel
theorem dX10_seek_104 : decode cX10_seek 104 = .ok (.invokevirtual 59, 3) := by decide +kernel
theorem dX10_seek_107 : decode cX10_seek 107 = .ok (.return_, 1) := by decide +kernel
theorem dX10_trace_0 : decode cX10_trace 0 = .ok (.aload_n 0, 1) := by decide +kernel
theorem dX10_trace_1 : decode cX10_trace 1 = .ok (.iconst (-1), 1) := by decide +kernel
theorem dX10_trace_2 : decode cX10_trace 2 = .ok (.putfield 21, 3) := by decide +kernel
theorem dX10_trace_5 : decode cX10_trace 5 = .ok (.iload_n 2, 1) := by decide +kernel
theorem dX10_trace_6 : decode cX10_trace 6 = .ok (.iconst (-1), 1) := by decide +kernel
theorem dX10_trace_7 : decode cX10_trace 7 = .ok (.if_icmp .ne 4, 3) := by decide +kernel
theorem dX10_trace_10 : decode cX10_trace 10 = .ok (.return_, 1) := by decide +kernel
theorem dX10_trace_11 : decode cX10_trace 11 = .ok (.iconst 0, 1) := by decide +kernel
theorem dX10_trace_12 : decode cX10_trace 12 = .ok (.istore_n 3, 1) := by decide +kernel
theorem dX10_trace_13 : decode cX10_trace 13 = .ok (.iload_n 2, 1) := by decide +kernel
theorem dX10_trace_14 : decode cX10_trace 14 = .ok (.istore 4, 2) := by decide +kernel
theorem dX10_trace_16 : decode cX10_trace 16 = .ok (.iload 4, 2) := by decide +kernel
theorem dX10_trace_18 : decode cX10_trace 18 = .ok (.iload_n 1, 1) := by decide +kernel
theorem dX10_trace_19 : decode cX10_trace 19 = .ok (.if_icmp .eq 25, 3) := by decide +kernel
theorem dX10_trace_22 : decode cX10_trace 22 = .ok (.iload_n 3, 1) := by decide +kernel
theorem dX10_trace_23 : decode cX10_trace 23 = .ok (.sipush 1000, 3) := by decide +kernel
theorem dX10_trace_26 : decode cX10_trace 26 = .ok (.if_icmp .ge 18, 3) := by decide +kernel
theorem dX10_trace_29 : decode cX10_trace 29 = .ok (.iinc 3 1, 3) := by decide +kernel
theorem dX10_trace_32 : decode cX10_trace 32 = .ok (.aload_n 0, 1) := by decide +kernel
theorem dX10_trace_33 : decode cX10_trace 33 = .ok (.getfield 31, 3) := by decide +kernel
theorem dX10_trace_36 : decode cX10_trace 36 = .ok (.iload 4, 2) := by decide +kernel
theorem dX10_trace_38 : decode cX10_trace 38 = .ok (.iaload, 1) := by decide +kernel
theorem dX10_trace_39 : decode cX10_trace 39 = .ok (.istore 4, 2) := by decide +kernel
theorem dX10_trace_41 : decode cX10_trace 41 = .ok (.goto (-25), 3) := by decide +kernel
theorem dX10_trace_44 : decode cX10_trace 44 = .ok (.aload_n 0, 1) := by decide +kernel
theorem dX10_trace_45 : decode cX10_trace 45 = .ok (.iload_n 3, 1) := by decide +kernel
theorem dX10_trace_46 : decode cX10_trace 46 = .ok (.putfield 21, 3) := by decide +kernel
theorem dX10_trace_49 : decode cX10_trace 49 = .ok (.iload_n 2, 1) := by decide +kernel
theorem dX10_trace_50 : decode cX10_trace 50 = .ok (.istore 4, 2) := by decide +kernel
theorem dX10_trace_52 : decode cX10_trace 52 = .ok (.iload 4, 2) := by decide +kernel
theorem dX10_trace_54 : decode cX10_trace 54 = .ok (.iload_n 1, 1) := by decide +kernel
theorem dX10_trace_55 : decode cX10_trace 55 = .ok (.if_icmp .eq 35, 3) := by decide +kernel
theorem dX10_trace_58 : decode cX10_trace 58 = .ok (.iload_n 3, 1) := by decide +kernel
theorem dX10_trace_59 : decode cX10_trace 59 = .ok (.ifCond .le 31, 3) := by decide +kernel
theorem dX10_trace_62 : decode cX10_trace 62 = .ok (.iinc 3 (-1), 3) := by decide +kernel
theorem dX10_trace_65 : decode cX10_trace 65 = .ok (.aload_n 0, 1) := by decide +kernel
theorem dX10_trace_66 : decode cX10_trace 66 = .ok (.getfield 24, 3) := by decide +kernel
theorem dX10_trace_69 : decode cX10_trace 69 = .ok (.iload_n 3, 1) := by decide +kernel
theorem dX10_trace_70 : decode cX10_trace 70 = .ok (.aload_n 0, 1) := by decide +kernel
theorem dX10_trace_71 : decode cX10_trace 71 = .ok (.getfield 34, 3) := by decide +kernel
theorem dX10_trace_74 : decode cX10_trace 74 = .ok (.iload 4, 2) := by decide +kernel
theorem dX10_trace_76 : decode cX10_trace 76 = .ok (.iaload, 1) := by decide +kernel
theorem dX10_trace_77 : decode cX10_trace 77 = .ok (.iastore, 1) := by decide +kernel
theorem dX10_trace_78 : decode cX10_trace 78 = .ok (.aload_n 0, 1) := by decide +kernel
theorem dX10_trace_79 : decode cX10_trace 79 = .ok (.getfield 31, 3) := by decide +kernel
theorem dX10_trace_82 : decode cX10_trace 82 = .ok (.iload 4, 2) := by decide +kernel
theorem dX10_trace_84 : decode cX10_trace 84 = .ok (.iaload, 1) := by decide +kernel
theorem dX10_trace_85 : decode cX10_trace 85 = .ok (.istore 4, 2) := by decide +kernel
theorem dX10_trace_87 : decode cX10_trace 87 = .ok (.goto (-35), 3) := by decide +kernel
theorem dX10_trace_90 : decode cX10_trace 90 = .ok (.return_, 1) := by decide +kernel
theorem dX1_fits_0 : decode cX1_fits 0 = .ok (.aload_n 2, 1) := by decide +kernel
theorem dX1_fits_1 : decode cX1_fits 1 = .ok (.invokevirtual 43, 3) := by decide +kernel
theorem dX1_fits_4 : decode cX1_fits 4 = .ok (.iconst 1, 1) := by decide +kernel
theorem dX1_fits_5 : decode cX1_fits 5 = .ok (.aload_n 0, 1) := by decide +kernel
theorem dX1_fits_6 : decode cX1_fits 6 = .ok (.getfield 9, 3) := by decide +kernel
theorem dX1_fits_9 : decode cX1_fits 9 = .ok (.ishl, 1) := by decide +kernel
theorem dX1_fits_10 : decode cX1_fits 10 = .ok (.iconst (-1), 1) := by decide +kernel
theorem dX1_fits_11 : decode cX1_fits 11 = .ok (.ixor, 1) := by decide +kernel
theorem dX1_fits_12 : decode cX1_fits 12 = .ok (.iand, 1) := by decide +kernel
theorem dX1_fits_13 : decode cX1_fits 13 = .ok (.istore 4, 2) := by decide +kernel
theorem dX1_fits_15 : decode cX1_fits 15 = .ok (.iconst 0, 1) := by decide +kernel
theorem dX1_fits_16 : decode cX1_fits 16 = .ok (.istore 5, 2) := by decide +kernel
theorem dX1_fits_18 : decode cX1_fits 18 = .ok (.iload 5, 2) := by decide +kernel
theorem dX1_fits_20 : decode cX1_fits 20 = .ok (.aload_n 2, 1) := by decide +kernel
theorem dX1_fits_21 : decode cX1_fits 21 = .ok (.getfield 28, 3) := by decide +kernel
theorem dX1_fits_24 : decode cX1_fits 24 = .ok (.getfield 47, 3) := by decide +kernel
theorem dX1_fits_27 : decode cX1_fits 27 = .ok (.if_icmp .ge 63, 3) := by decide +kernel
theorem dX1_fits_30 : decode cX1_fits 30 = .ok (.iload 4, 2) := by decide +kernel
theorem dX1_fits_32 : decode cX1_fits 32 = .ok (.iload 5, 2) := by decide +kernel
theorem dX1_fits_34 : decode cX1_fits 34 = .ok (.ishr, 1) := by decide +kernel
theorem dX1_fits_35 : decode cX1_fits 35 = .ok (.iconst 1, 1) := by decide +kernel
theorem dX1_fits_36 : decode cX1_fits 36 = .ok (.iand, 1) := by decide +kernel
theorem dX1_fits_37 : decode cX1_fits 37 = .ok (.iconst 1, 1) := by decide +kernel
theorem dX1_fits_38 : decode cX1_fits 38 = .ok (.if_icmp .ne 46, 3) := by decide +kernel
theorem dX1_fits_41 : decode cX1_fits 41 = .ok (.aload_n 0, 1) := by decide +kernel
theorem dX1_fits_42 : decode cX1_fits 42 = .ok (.getfield 15, 3) := by decide +kernel
theorem dX1_fits_45 : decode cX1_fits 45 = .ok (.iload 5, 2) := by decide +kernel
theorem dX1_fits_47 : decode cX1_fits 47 = .ok (.ishr, 1) := by decide +kernel
theorem dX1_fits_48 : decode cX1_fits 48 = .ok (.iconst 1, 1) := by decide +kernel
theorem dX1_fits_49 : decode cX1_fits 49 = .ok (.iand, 1) := by decide +kernel
theorem dX1_fits_50 : decode cX1_fits 50 = .ok (.iconst 1, 1) := by decide +kernel
theorem dX1_fits_51 : decode cX1_fits 51 = .ok (.if_icmp .ne 7, 3) := by decide +kernel
theorem dX1_fits_54 : decode cX1_fits 54 = .ok (.iconst 1, 1) := by decide +kernel
theorem dX1_fits_55 : decode cX1_fits 55 = .ok (.goto 4, 3) := by decide +kernel
theorem dX1_fits_58 : decode cX1_fits 58 = .ok (.iconst 0, 1) := by decide +kernel
theorem dX1_fits_59 : decode cX1_fits 59 = .ok (.istore 6, 2) := by decide +kernel
theorem dX1_fits_61 : decode cX1_fits 61 = .ok (.aload_n 3, 1) := by decide +kernel
theorem dX1_fits_62 : decode cX1_fits 62 = .ok (.aload_n 2, 1) := by decide +kernel
theorem dX1_fits_63 : decode cX1_fits 63 = .ok (.aload_n 0, 1) := by decide +kernel
theorem dX1_fits_64 : decode cX1_fits 64 = .ok (.getfield 9, 3) := by decide +kernel
theorem dX1_fits_67 : decode cX1_fits 67 = .ok (.iload_n 1, 1) := by decide +kernel
theorem dX1_fits_68 : decode cX1_fits 68 = .ok (.iload 5, 2) := by decide +kernel
theorem dX1_fits_70 : decode cX1_fits 70 = .ok (.aload_n 2, 1) := by decide +kernel
theorem dX1_fits_71 : decode cX1_fits 71 = .ok (.getfield 50, 3) := by decide +kernel
theorem dX1_fits_74 : decode cX1_fits 74 = .ok (.invokevirtual 53, 3) := by decide +kernel
theorem dX1_fits_77 : decode cX1_fits 77 = .ok (.iload 6, 2) := by decide +kernel
theorem dX1_fits_79 : decode cX1_fits 79 = .ok (.if_icmp .eq 5, 3) := by decide +kernel
theorem dX1_fits_82 : decode cX1_fits 82 = .ok (.iconst 0, 1) := by decide +kernel
theorem dX1_fits_83 : decode cX1_fits 83 = .ok (.ireturn, 1) := by decide +kernel
theorem dX1_fits_84 : decode cX1_fits 84 = .ok (.iinc 5 1, 3) := by decide +kernel
theorem dX1_fits_87 : decode cX1_fits 87 = .ok (.goto (-69), 3) := by decide +kernel
theorem dX1_fits_90 : decode cX1_fits 90 = .ok (.iconst 1, 1) := by decide +kernel
theorem dX1_fits_91 : decode cX1_fits 91 = .ok (.ireturn, 1) := by decide +kernel
theorem dX1_lesserPart_0 : decode cX1_lesserPart 0 = .ok (.iconst 0, 1) := by decide +kernel
theorem dX1_lesserPart_1 : decode cX1_lesserPart 1 = .ok (.istore 4, 2) := by decide +kernel
theorem dX1_lesserPart_3 : decode cX1_lesserPart 3 = .ok (.iconst 0, 1) := by decide +kernel
theorem dX1_lesserPart_4 : decode cX1_lesserPart 4 = .ok (.istore 5, 2) := by decide +kernel
theorem dX1_lesserPart_6 : decode cX1_lesserPart 6 = .ok (.iload 5, 2) := by decide +kernel
theorem dX1_lesserPart_8 : decode cX1_lesserPart 8 = .ok (.aload_n 0, 1) := by decide +kernel
theorem dX1_lesserPart_9 : decode cX1_lesserPart 9 = .ok (.getfield 21, 3) := by decide +kernel
theorem dX1_lesserPart_12 : decode cX1_lesserPart 12 = .ok (.if_icmp .ge 36, 3) := by decide +kernel
theorem dX1_lesserPart_15 : decode cX1_lesserPart 15 = .ok (.aload_n 3, 1) := by decide +kernel
theorem dX1_lesserPart_16 : decode cX1_lesserPart 16 = .ok (.aload_n 2, 1) := by decide +kernel
theorem dX1_lesserPart_17 : decode cX1_lesserPart 17 = .ok (.aload_n 0, 1) := by decide +kernel
theorem dX1_lesserPart_18 : decode cX1_lesserPart 18 = .ok (.getfield 9, 3) := by decide +kernel
theorem dX1_lesserPart_21 : decode cX1_lesserPart 21 = .ok (.aload_n 0, 1) := by decide +kernel
theorem dX1_lesserPart_22 : decode cX1_lesserPart 22 = .ok (.getfield 24, 3) := by decide +kernel
theorem dX1_lesserPart_25 : decode cX1_lesserPart 25 = .ok (.iload 5, 2) := by decide +kernel
theorem dX1_lesserPart_27 : decode cX1_lesserPart 27 = .ok (.iaload, 1) := by decide +kernel
theorem dX1_lesserPart_28 : decode cX1_lesserPart 28 = .ok (.iload_n 1, 1) := by decide +kernel
theorem dX1_lesserPart_29 : decode cX1_lesserPart 29 = .ok (.aload_n 2, 1) := by decide +kernel
theorem dX1_lesserPart_30 : decode cX1_lesserPart 30 = .ok (.getfield 50, 3) := by decide +kernel
theorem dX1_lesserPart_33 : decode cX1_lesserPart 33 = .ok (.invokevirtual 53, 3) := by decide +kernel
theorem dX1_lesserPart_36 : decode cX1_lesserPart 36 = .ok (.ifCond .eq 6, 3) := by decide +kernel
theorem dX1_lesserPart_39 : decode cX1_lesserPart 39 = .ok (.iinc 4 1, 3) := by decide +kernel
theorem dX1_lesserPart_42 : decode cX1_lesserPart 42 = .ok (.iinc 5 1, 3) := by decide +kernel
theorem dX1_lesserPart_45 : decode cX1_lesserPart 45 = .ok (.goto (-39), 3) := by decide +kernel
theorem dX1_lesserPart_48 : decode cX1_lesserPart 48 = .ok (.iload 4, 2) := by decide +kernel
theorem dX1_lesserPart_50 : decode cX1_lesserPart 50 = .ok (.aload_n 0, 1) := by decide +kernel
theorem dX1_lesserPart_51 : decode cX1_lesserPart 51 = .ok (.getfield 21, 3) := by decide +kernel
theorem dX1_lesserPart_54 : decode cX1_lesserPart 54 = .ok (.iload 4, 2) := by decide +kernel
theorem dX1_lesserPart_56 : decode cX1_lesserPart 56 = .ok (.isub, 1) := by decide +kernel
theorem dX1_lesserPart_57 : decode cX1_lesserPart 57 = .ok (.invokestatic 63, 3) := by decide +kernel
theorem dX1_lesserPart_60 : decode cX1_lesserPart 60 = .ok (.ireturn, 1) := by decide +kernel
theorem dX1_seek_0 : decode cX1_seek 0 = .ok (.aload_n 0, 1) := by decide +kernel
theorem dX1_seek_1 : decode cX1_seek 1 = .ok (.getfield 9, 3) := by decide +kernel
theorem dX1_seek_4 : decode cX1_seek 4 = .ok (.iload_n 2, 1) := by decide +kernel
theorem dX1_seek_5 : decode cX1_seek 5 = .ok (.if_icmp .ne 21, 3) := by decide +kernel
theorem dX1_seek_8 : decode cX1_seek 8 = .ok (.aload_n 0, 1) := by decide +kernel
theorem dX1_seek_9 : decode cX1_seek 9 = .ok (.getfield 15, 3) := by decide +kernel
theorem dX1_seek_12 : decode cX1_seek 12 = .ok (.iload_n 3, 1) := by decide +kernel
theorem dX1_seek_13 : decode cX1_seek 13 = .ok (.if_icmp .ne 13, 3) := by decide +kernel
theorem dX1_seek_16 : decode cX1_seek 16 = .ok (.aload_n 0, 1) := by decide +kernel
theorem dX1_seek_17 : decode cX1_seek 17 = .ok (.getfield 18, 3) := by decide +kernel
theorem dX1_seek_20 : decode cX1_seek 20 = .ok (.iload 5, 2) := by decide +kernel
theorem dX1_seek_22 : decode cX1_seek 22 = .ok (.if_icmp .ne 4, 3) := by decide +kernel
theorem dX1_seek_25 : decode cX1_seek 25 = .ok (.return_, 1) := by decide +kernel
theorem dX1_seek_26 : decode cX1_seek 26 = .ok (.aload_n 0, 1) := by decide +kernel
theorem dX1_seek_27 : decode cX1_seek 27 = .ok (.iload_n 2, 1) := by decide +kernel
theorem dX1_seek_28 : decode cX1_seek 28 = .ok (.putfield 9, 3) := by decide +kernel
theorem dX1_seek_31 : decode cX1_seek 31 = .ok (.aload_n 0, 1) := by decide +kernel
theorem dX1_seek_32 : decode cX1_seek 32 = .ok (.iload_n 3, 1) := by decide +kernel
theorem dX1_seek_33 : decode cX1_seek 33 = .ok (.putfield 15, 3) := by decide +kernel
theorem dX1_seek_36 : decode cX1_seek 36 = .ok (.aload_n 0, 1) := by decide +kernel
theorem dX1_seek_37 : decode cX1_seek 37 = .ok (.iload 5, 2) := by decide +kernel
theorem dX1_seek_39 : decode cX1_seek 39 = .ok (.putfield 18, 3) := by decide +kernel
theorem dX1_seek_42 : decode cX1_seek 42 = .ok (.aload_n 0, 1) := by decide +kernel
theorem dX1_seek_43 : decode cX1_seek 43 = .ok (.iconst 0, 1) := by decide +kernel
theorem dX1_seek_44 : decode cX1_seek 44 = .ok (.putfield 21, 3) := by decide +kernel
theorem dX1_seek_47 : decode cX1_seek 47 = .ok (.iconst 1, 1) := by decide +kernel
theorem dX1_seek_48 : decode cX1_seek 48 = .ok (.istore 6, 2) := by decide +kernel
theorem dX1_seek_50 : decode cX1_seek 50 = .ok (.aload_n 1, 1) := by decide +kernel
theorem dX1_seek_51 : decode cX1_seek 51 = .ok (.getfield 28, 3) := by decide +kernel
theorem dX1_seek_54 : decode cX1_seek 54 = .ok (.getfield 34, 3) := by decide +kernel
theorem dX1_seek_57 : decode cX1_seek 57 = .ok (.istore 7, 2) := by decide +kernel
theorem dX1_seek_59 : decode cX1_seek 59 = .ok (.iload 7, 2) := by decide +kernel
theorem dX1_seek_61 : decode cX1_seek 61 = .ok (.iconst 3, 1) := by decide +kernel
theorem dX1_seek_62 : decode cX1_seek 62 = .ok (.if_icmp .ge 16, 3) := by decide +kernel
theorem dX1_seek_65 : decode cX1_seek 65 = .ok (.iload 6, 2) := by decide +kernel
theorem dX1_seek_67 : decode cX1_seek 67 = .ok (.bipush 10, 2) := by decide +kernel
theorem dX1_seek_69 : decode cX1_seek 69 = .ok (.imul, 1) := by decide +kernel
theorem dX1_seek_70 : decode cX1_seek 70 = .ok (.istore 6, 2) := by decide +kernel
theorem dX1_seek_72 : decode cX1_seek 72 = .ok (.iinc 7 1, 3) := by decide +kernel
theorem dX1_seek_75 : decode cX1_seek 75 = .ok (.goto (-16), 3) := by decide +kernel
theorem dX1_seek_78 : decode cX1_seek 78 = .ok (.iconst 0, 1) := by decide +kernel
theorem dX1_seek_79 : decode cX1_seek 79 = .ok (.istore 7, 2) := by decide +kernel
theorem dX1_seek_81 : decode cX1_seek 81 = .ok (.iload 7, 2) := by decide +kernel
theorem dX1_seek_83 : decode cX1_seek 83 = .ok (.sipush 1000, 3) := by decide +kernel
theorem dX1_seek_86 : decode cX1_seek 86 = .ok (.if_icmp .ge 46, 3) := by decide +kernel
theorem dX1_seek_89 : decode cX1_seek 89 = .ok (.aload_n 0, 1) := by decide +kernel
theorem dX1_seek_90 : decode cX1_seek 90 = .ok (.iload 7, 2) := by decide +kernel
theorem dX1_seek_92 : decode cX1_seek 92 = .ok (.aload_n 1, 1) := by decide +kernel
theorem dX1_seek_93 : decode cX1_seek 93 = .ok (.aload 4, 2) := by decide +kernel
theorem dX1_seek_95 : decode cX1_seek 95 = .ok (.invokevirtual 39, 3) := by decide +kernel
theorem dX1_seek_98 : decode cX1_seek 98 = .ok (.ifCond .eq 24, 3) := by decide +kernel
theorem dX1_seek_101 : decode cX1_seek 101 = .ok (.aload_n 0, 1) := by decide +kernel
theorem dX1_seek_102 : decode cX1_seek 102 = .ok (.getfield 24, 3) := by decide +kernel
theorem dX1_seek_105 : decode cX1_seek 105 = .ok (.aload_n 0, 1) := by decide +kernel
theorem dX1_seek_106 : decode cX1_seek 106 = .ok (.getfield 21, 3) := by decide +kernel
theorem dX1_seek_109 : decode cX1_seek 109 = .ok (.iload 7, 2) := by decide +kernel
theorem dX1_seek_111 : decode cX1_seek 111 = .ok (.iastore, 1) := by decide +kernel
theorem dX1_seek_112 : decode cX1_seek 112 = .ok (.aload_n 0, 1) := by decide +kernel
theorem dX1_seek_113 : decode cX1_seek 113 = .ok (.dup, 1) := by decide +kernel
theorem dX1_seek_114 : decode cX1_seek 114 = .ok (.getfield 21, 3) := by decide +kernel
theorem dX1_seek_117 : decode cX1_seek 117 = .ok (.iconst 1, 1) := by decide +kernel
theorem dX1_seek_118 : decode cX1_seek 118 = .ok (.iadd, 1) := by decide +kernel
theorem dX1_seek_119 : decode cX1_seek 119 = .ok (.putfield 21, 3) := by decide +kernel
theorem dX1_seek_122 : decode cX1_seek 122 = .ok (.iload 7, 2) := by decide +kernel
theorem dX1_seek_124 : decode cX1_seek 124 = .ok (.iload 6, 2) := by decide +kernel
theorem dX1_seek_126 : decode cX1_seek 126 = .ok (.iadd, 1) := by decide +kernel
theorem dX1_seek_127 : decode cX1_seek 127 = .ok (.istore 7, 2) := by decide +kernel
theorem dX1_seek_129 : decode cX1_seek 129 = .ok (.goto (-48), 3) := by decide +kernel
theorem dX1_seek_132 : decode cX1_seek 132 = .ok (.return_, 1) := by decide +kernel
theorem dX1_whomToTry_0 : decode cX1_whomToTry 0 = .ok (.aload_n 1, 1) := by decide +kernel
theorem dX1_whomToTry_1 : decode cX1_whomToTry 1 = .ok (.invokevirtual 43, 3) := by decide +kernel
theorem dX1_whomToTry_4 : decode cX1_whomToTry 4 = .ok (.iconst (-1), 1) := by decide +kernel
theorem dX1_whomToTry_5 : decode cX1_whomToTry 5 = .ok (.ixor, 1) := by decide +kernel
theorem dX1_whomToTry_6 : decode cX1_whomToTry 6 = .ok (.iconst 1, 1) := by decide +kernel
theorem dX1_whomToTry_7 : decode cX1_whomToTry 7 = .ok (.aload_n 0, 1) := by decide +kernel
theorem dX1_whomToTry_8 : decode cX1_whomToTry 8 = .ok (.getfield 9, 3) := by decide +kernel
theorem dX1_whomToTry_11 : decode cX1_whomToTry 11 = .ok (.ishl, 1) := by decide +kernel
theorem dX1_whomToTry_12 : decode cX1_whomToTry 12 = .ok (.iconst (-1), 1) := by decide +kernel
theorem dX1_whomToTry_13 : decode cX1_whomToTry 13 = .ok (.ixor, 1) := by decide +kernel
theorem dX1_whomToTry_14 : decode cX1_whomToTry 14 = .ok (.iand, 1) := by decide +kernel
theorem dX1_whomToTry_15 : decode cX1_whomToTry 15 = .ok (.istore_n 3, 1) := by decide +kernel
theorem dX1_whomToTry_16 : decode cX1_whomToTry 16 = .ok (.iconst (-1), 1) := by decide +kernel
theorem dX1_whomToTry_17 : decode cX1_whomToTry 17 = .ok (.istore 4, 2) := by decide +kernel
theorem dX1_whomToTry_19 : decode cX1_whomToTry 19 = .ok (.iconst (-1), 1) := by decide +kernel
theorem dX1_whomToTry_20 : decode cX1_whomToTry 20 = .ok (.istore 5, 2) := by decide +kernel
theorem dX1_whomToTry_22 : decode cX1_whomToTry 22 = .ok (.iconst 0, 1) := by decide +kernel
theorem dX1_whomToTry_23 : decode cX1_whomToTry 23 = .ok (.istore 6, 2) := by decide +kernel
theorem dX1_whomToTry_25 : decode cX1_whomToTry 25 = .ok (.iload 6, 2) := by decide +kernel
theorem dX1_whomToTry_27 : decode cX1_whomToTry 27 = .ok (.aload_n 1, 1) := by decide +kernel
theorem dX1_whomToTry_28 : decode cX1_whomToTry 28 = .ok (.getfield 28, 3) := by decide +kernel
theorem dX1_whomToTry_31 : decode cX1_whomToTry 31 = .ok (.getfield 47, 3) := by decide +kernel
theorem dX1_whomToTry_34 : decode cX1_whomToTry 34 = .ok (.if_icmp .ge 44, 3) := by decide +kernel
theorem dX1_whomToTry_37 : decode cX1_whomToTry 37 = .ok (.iload_n 3, 1) := by decide +kernel
theorem dX1_whomToTry_38 : decode cX1_whomToTry 38 = .ok (.iload 6, 2) := by decide +kernel
theorem dX1_whomToTry_40 : decode cX1_whomToTry 40 = .ok (.ishr, 1) := by decide +kernel
theorem dX1_whomToTry_41 : decode cX1_whomToTry 41 = .ok (.iconst 1, 1) := by decide +kernel
theorem dX1_whomToTry_42 : decode cX1_whomToTry 42 = .ok (.iand, 1) := by decide +kernel
theorem dX1_whomToTry_43 : decode cX1_whomToTry 43 = .ok (.iconst 1, 1) := by decide +kernel
theorem dX1_whomToTry_44 : decode cX1_whomToTry 44 = .ok (.if_icmp .ne 28, 3) := by decide +kernel
theorem dX1_whomToTry_47 : decode cX1_whomToTry 47 = .ok (.aload_n 0, 1) := by decide +kernel
theorem dX1_whomToTry_48 : decode cX1_whomToTry 48 = .ok (.iload 6, 2) := by decide +kernel
theorem dX1_whomToTry_50 : decode cX1_whomToTry 50 = .ok (.aload_n 1, 1) := by decide +kernel
theorem dX1_whomToTry_51 : decode cX1_whomToTry 51 = .ok (.aload_n 2, 1) := by decide +kernel
theorem dX1_whomToTry_52 : decode cX1_whomToTry 52 = .ok (.invokevirtual 59, 3) := by decide +kernel
theorem dX1_whomToTry_55 : decode cX1_whomToTry 55 = .ok (.istore 7, 2) := by decide +kernel
theorem dX1_whomToTry_57 : decode cX1_whomToTry 57 = .ok (.iload 7, 2) := by decide +kernel
theorem dX1_whomToTry_59 : decode cX1_whomToTry 59 = .ok (.iload 5, 2) := by decide +kernel
theorem dX1_whomToTry_61 : decode cX1_whomToTry 61 = .ok (.if_icmp .le 11, 3) := by decide +kernel
theorem dX1_whomToTry_64 : decode cX1_whomToTry 64 = .ok (.iload 7, 2) := by decide +kernel
theorem dX1_whomToTry_66 : decode cX1_whomToTry 66 = .ok (.istore 5, 2) := by decide +kernel
theorem dX1_whomToTry_68 : decode cX1_whomToTry 68 = .ok (.iload 6, 2) := by decide +kernel
theorem dX1_whomToTry_70 : decode cX1_whomToTry 70 = .ok (.istore 4, 2) := by decide +kernel
theorem dX1_whomToTry_72 : decode cX1_whomToTry 72 = .ok (.iinc 6 1, 3) := by decide +kernel
theorem dX1_whomToTry_75 : decode cX1_whomToTry 75 = .ok (.goto (-50), 3) := by decide +kernel
theorem dX1_whomToTry_78 : decode cX1_whomToTry 78 = .ok (.iload 4, 2) := by decide +kernel
theorem dX1_whomToTry_80 : decode cX1_whomToTry 80 = .ok (.ireturn, 1) := by decide +kernel
theorem dX4_joined_0 : decode cX4_joined 0 = .ok (.iload_n 0, 1) := by decide +kernel
theorem dX4_joined_1 : decode cX4_joined 1 = .ok (.lookupswitch 144 #[(22, 136), (42, 85), (43, 67), (45, 76), (60, 108), (61, 94), (62, 122)], 67) := by decide +kernel
theorem dX4_joined_68 : decode cX4_joined 68 = .ok (.iload_n 1, 1) := by decide +kernel
theorem dX4_joined_69 : decode cX4_joined 69 = .ok (.i2l, 1) := by decide +kernel
theorem dX4_joined_70 : decode cX4_joined 70 = .ok (.iload_n 2, 1) := by decide +kernel
theorem dX4_joined_71 : decode cX4_joined 71 = .ok (.i2l, 1) := by decide +kernel
theorem dX4_joined_72 : decode cX4_joined 72 = .ok (.ladd, 1) := by decide +kernel
theorem dX4_joined_73 : decode cX4_joined 73 = .ok (.lstore_n 3, 1) := by decide +kernel
theorem dX4_joined_74 : decode cX4_joined 74 = .ok (.goto 76, 3) := by decide +kernel
theorem dX4_joined_77 : decode cX4_joined 77 = .ok (.iload_n 1, 1) := by decide +kernel
theorem dX4_joined_78 : decode cX4_joined 78 = .ok (.i2l, 1) := by decide +kernel
theorem dX4_joined_79 : decode cX4_joined 79 = .ok (.iload_n 2, 1) := by decide +kernel
theorem dX4_joined_80 : decode cX4_joined 80 = .ok (.i2l, 1) := by decide +kernel
theorem dX4_joined_81 : decode cX4_joined 81 = .ok (.lsub, 1) := by decide +kernel
theorem dX4_joined_82 : decode cX4_joined 82 = .ok (.lstore_n 3, 1) := by decide +kernel
theorem dX4_joined_83 : decode cX4_joined 83 = .ok (.goto 67, 3) := by decide +kernel
theorem dX4_joined_86 : decode cX4_joined 86 = .ok (.iload_n 1, 1) := by decide +kernel
theorem dX4_joined_87 : decode cX4_joined 87 = .ok (.i2l, 1) := by decide +kernel
theorem dX4_joined_88 : decode cX4_joined 88 = .ok (.iload_n 2, 1) := by decide +kernel
theorem dX4_joined_89 : decode cX4_joined 89 = .ok (.i2l, 1) := by decide +kernel
theorem dX4_joined_90 : decode cX4_joined 90 = .ok (.lmul, 1) := by decide +kernel
theorem dX4_joined_91 : decode cX4_joined 91 = .ok (.lstore_n 3, 1) := by decide +kernel
theorem dX4_joined_92 : decode cX4_joined 92 = .ok (.goto 58, 3) := by decide +kernel
theorem dX4_joined_95 : decode cX4_joined 95 = .ok (.iload_n 1, 1) := by decide +kernel
theorem dX4_joined_96 : decode cX4_joined 96 = .ok (.iload_n 2, 1) := by decide +kernel
theorem dX4_joined_97 : decode cX4_joined 97 = .ok (.if_icmp .ne 7, 3) := by decide +kernel
theorem dX4_joined_100 : decode cX4_joined 100 = .ok (.lconst 1, 1) := by decide +kernel
theorem dX4_joined_101 : decode cX4_joined 101 = .ok (.goto 4, 3) := by decide +kernel
theorem dX4_joined_104 : decode cX4_joined 104 = .ok (.lconst 0, 1) := by decide +kernel
theorem dX4_joined_105 : decode cX4_joined 105 = .ok (.lstore_n 3, 1) := by decide +kernel
theorem dX4_joined_106 : decode cX4_joined 106 = .ok (.goto 44, 3) := by decide +kernel
theorem dX4_joined_109 : decode cX4_joined 109 = .ok (.iload_n 1, 1) := by decide +kernel
theorem dX4_joined_110 : decode cX4_joined 110 = .ok (.iload_n 2, 1) := by decide +kernel
theorem dX4_joined_111 : decode cX4_joined 111 = .ok (.if_icmp .ge 7, 3) := by decide +kernel
theorem dX4_joined_114 : decode cX4_joined 114 = .ok (.lconst 1, 1) := by decide +kernel
theorem dX4_joined_115 : decode cX4_joined 115 = .ok (.goto 4, 3) := by decide +kernel
theorem dX4_joined_118 : decode cX4_joined 118 = .ok (.lconst 0, 1) := by decide +kernel
theorem dX4_joined_119 : decode cX4_joined 119 = .ok (.lstore_n 3, 1) := by decide +kernel
theorem dX4_joined_120 : decode cX4_joined 120 = .ok (.goto 30, 3) := by decide +kernel
theorem dX4_joined_123 : decode cX4_joined 123 = .ok (.iload_n 1, 1) := by decide +kernel
theorem dX4_joined_124 : decode cX4_joined 124 = .ok (.iload_n 2, 1) := by decide +kernel
theorem dX4_joined_125 : decode cX4_joined 125 = .ok (.if_icmp .le 7, 3) := by decide +kernel
theorem dX4_joined_128 : decode cX4_joined 128 = .ok (.lconst 1, 1) := by decide +kernel
theorem dX4_joined_129 : decode cX4_joined 129 = .ok (.goto 4, 3) := by decide +kernel
theorem dX4_joined_132 : decode cX4_joined 132 = .ok (.lconst 0, 1) := by decide +kernel
theorem dX4_joined_133 : decode cX4_joined 133 = .ok (.lstore_n 3, 1) := by decide +kernel
theorem dX4_joined_134 : decode cX4_joined 134 = .ok (.goto 16, 3) := by decide +kernel
theorem dX4_joined_137 : decode cX4_joined 137 = .ok (.iload_n 1, 1) := by decide +kernel
theorem dX4_joined_138 : decode cX4_joined 138 = .ok (.iload_n 2, 1) := by decide +kernel
theorem dX4_joined_139 : decode cX4_joined 139 = .ok (.iand, 1) := by decide +kernel
theorem dX4_joined_140 : decode cX4_joined 140 = .ok (.i2l, 1) := by decide +kernel
theorem dX4_joined_141 : decode cX4_joined 141 = .ok (.lstore_n 3, 1) := by decide +kernel
theorem dX4_joined_142 : decode cX4_joined 142 = .ok (.goto 8, 3) := by decide +kernel
theorem dX4_joined_145 : decode cX4_joined 145 = .ok (.iload_n 1, 1) := by decide +kernel
theorem dX4_joined_146 : decode cX4_joined 146 = .ok (.iload_n 2, 1) := by decide +kernel
theorem dX4_joined_147 : decode cX4_joined 147 = .ok (.ior, 1) := by decide +kernel
theorem dX4_joined_148 : decode cX4_joined 148 = .ok (.i2l, 1) := by decide +kernel
theorem dX4_joined_149 : decode cX4_joined 149 = .ok (.lstore_n 3, 1) := by decide +kernel
theorem dX4_joined_150 : decode cX4_joined 150 = .ok (.ldc2_w 25, 3) := by decide +kernel
theorem dX4_joined_153 : decode cX4_joined 153 = .ok (.ldc2_w 27, 3) := by decide +kernel
theorem dX4_joined_156 : decode cX4_joined 156 = .ok (.lload_n 3, 1) := by decide +kernel
theorem dX4_joined_157 : decode cX4_joined 157 = .ok (.invokestatic 29, 3) := by decide +kernel
theorem dX4_joined_160 : decode cX4_joined 160 = .ok (.invokestatic 35, 3) := by decide +kernel
theorem dX4_joined_163 : decode cX4_joined 163 = .ok (.l2i, 1) := by decide +kernel
theorem dX4_joined_164 : decode cX4_joined 164 = .ok (.ireturn, 1) := by decide +kernel
theorem dX4_valueFor_0 : decode cX4_valueFor 0 = .ok (.iconst 0, 1) := by decide +kernel
theorem dX4_valueFor_1 : decode cX4_valueFor 1 = .ok (.istore_n 3, 1) := by decide +kernel
theorem dX4_valueFor_2 : decode cX4_valueFor 2 = .ok (.iconst 0, 1) := by decide +kernel
theorem dX4_valueFor_3 : decode cX4_valueFor 3 = .ok (.istore 4, 2) := by decide +kernel
theorem dX4_valueFor_5 : decode cX4_valueFor 5 = .ok (.iload 4, 2) := by decide +kernel
theorem dX4_valueFor_7 : decode cX4_valueFor 7 = .ok (.aload_n 0, 1) := by decide +kernel
theorem dX4_valueFor_8 : decode cX4_valueFor 8 = .ok (.getfield 15, 3) := by decide +kernel
theorem dX4_valueFor_11 : decode cX4_valueFor 11 = .ok (.arraylength, 1) := by decide +kernel
theorem dX4_valueFor_12 : decode cX4_valueFor 12 = .ok (.if_icmp .ge 127, 3) := by decide +kernel
theorem dX4_valueFor_15 : decode cX4_valueFor 15 = .ok (.aload_n 0, 1) := by decide +kernel
theorem dX4_valueFor_16 : decode cX4_valueFor 16 = .ok (.getfield 15, 3) := by decide +kernel
theorem dX4_valueFor_19 : decode cX4_valueFor 19 = .ok (.iload 4, 2) := by decide +kernel
theorem dX4_valueFor_21 : decode cX4_valueFor 21 = .ok (.iaload, 1) := by decide +kernel
theorem dX4_valueFor_22 : decode cX4_valueFor 22 = .ok (.istore 5, 2) := by decide +kernel
theorem dX4_valueFor_24 : decode cX4_valueFor 24 = .ok (.iload 5, 2) := by decide +kernel
theorem dX4_valueFor_26 : decode cX4_valueFor 26 = .ok (.sipush 2000, 3) := by decide +kernel
theorem dX4_valueFor_29 : decode cX4_valueFor 29 = .ok (.if_icmp .ge 47, 3) := by decide +kernel
theorem dX4_valueFor_32 : decode cX4_valueFor 32 = .ok (.iload 5, 2) := by decide +kernel
theorem dX4_valueFor_34 : decode cX4_valueFor 34 = .ok (.sipush 1000, 3) := by decide +kernel
theorem dX4_valueFor_37 : decode cX4_valueFor 37 = .ok (.isub, 1) := by decide +kernel
theorem dX4_valueFor_38 : decode cX4_valueFor 38 = .ok (.istore 6, 2) := by decide +kernel
theorem dX4_valueFor_40 : decode cX4_valueFor 40 = .ok (.iload_n 3, 1) := by decide +kernel
theorem dX4_valueFor_41 : decode cX4_valueFor 41 = .ok (.aload_n 2, 1) := by decide +kernel
theorem dX4_valueFor_42 : decode cX4_valueFor 42 = .ok (.arraylength, 1) := by decide +kernel
theorem dX4_valueFor_43 : decode cX4_valueFor 43 = .ok (.if_icmp .ge 30, 3) := by decide +kernel
theorem dX4_valueFor_46 : decode cX4_valueFor 46 = .ok (.iload 6, 2) := by decide +kernel
theorem dX4_valueFor_48 : decode cX4_valueFor 48 = .ok (.aload_n 1, 1) := by decide +kernel
theorem dX4_valueFor_49 : decode cX4_valueFor 49 = .ok (.arraylength, 1) := by decide +kernel
theorem dX4_valueFor_50 : decode cX4_valueFor 50 = .ok (.if_icmp .ge 23, 3) := by decide +kernel
theorem dX4_valueFor_53 : decode cX4_valueFor 53 = .ok (.aload_n 2, 1) := by decide +kernel
theorem dX4_valueFor_54 : decode cX4_valueFor 54 = .ok (.iload_n 3, 1) := by decide +kernel
theorem dX4_valueFor_55 : decode cX4_valueFor 55 = .ok (.iload 6, 2) := by decide +kernel
theorem dX4_valueFor_57 : decode cX4_valueFor 57 = .ok (.ifCond .ge 8, 3) := by decide +kernel
theorem dX4_valueFor_60 : decode cX4_valueFor 60 = .ok (.iload 5, 2) := by decide +kernel
theorem dX4_valueFor_62 : decode cX4_valueFor 62 = .ok (.goto 7, 3) := by decide +kernel
theorem dX4_valueFor_65 : decode cX4_valueFor 65 = .ok (.aload_n 1, 1) := by decide +kernel
theorem dX4_valueFor_66 : decode cX4_valueFor 66 = .ok (.iload 6, 2) := by decide +kernel
theorem dX4_valueFor_68 : decode cX4_valueFor 68 = .ok (.iaload, 1) := by decide +kernel
theorem dX4_valueFor_69 : decode cX4_valueFor 69 = .ok (.iastore, 1) := by decide +kernel
theorem dX4_valueFor_70 : decode cX4_valueFor 70 = .ok (.iinc 3 1, 3) := by decide +kernel
theorem dX4_valueFor_73 : decode cX4_valueFor 73 = .ok (.goto 60, 3) := by decide +kernel
theorem dX4_valueFor_76 : decode cX4_valueFor 76 = .ok (.iload 5, 2) := by decide +kernel
theorem dX4_valueFor_78 : decode cX4_valueFor 78 = .ok (.sipush 2023, 3) := by decide +kernel
theorem dX4_valueFor_81 : decode cX4_valueFor 81 = .ok (.if_icmp .ne 22, 3) := by decide +kernel
theorem dX4_valueFor_84 : decode cX4_valueFor 84 = .ok (.iload_n 3, 1) := by decide +kernel
theorem dX4_valueFor_85 : decode cX4_valueFor 85 = .ok (.ifCond .le 48, 3) := by decide +kernel
theorem dX4_valueFor_88 : decode cX4_valueFor 88 = .ok (.aload_n 2, 1) := by decide +kernel
theorem dX4_valueFor_89 : decode cX4_valueFor 89 = .ok (.iload_n 3, 1) := by decide +kernel
theorem dX4_valueFor_90 : decode cX4_valueFor 90 = .ok (.iconst 1, 1) := by decide +kernel
theorem dX4_valueFor_91 : decode cX4_valueFor 91 = .ok (.isub, 1) := by decide +kernel
theorem dX4_valueFor_92 : decode cX4_valueFor 92 = .ok (.iconst 1, 1) := by decide +kernel
theorem dX4_valueFor_93 : decode cX4_valueFor 93 = .ok (.aload_n 2, 1) := by decide +kernel
theorem dX4_valueFor_94 : decode cX4_valueFor 94 = .ok (.iload_n 3, 1) := by decide +kernel
theorem dX4_valueFor_95 : decode cX4_valueFor 95 = .ok (.iconst 1, 1) := by decide +kernel
theorem dX4_valueFor_96 : decode cX4_valueFor 96 = .ok (.isub, 1) := by decide +kernel
theorem dX4_valueFor_97 : decode cX4_valueFor 97 = .ok (.iaload, 1) := by decide +kernel
theorem dX4_valueFor_98 : decode cX4_valueFor 98 = .ok (.isub, 1) := by decide +kernel
theorem dX4_valueFor_99 : decode cX4_valueFor 99 = .ok (.iastore, 1) := by decide +kernel
theorem dX4_valueFor_100 : decode cX4_valueFor 100 = .ok (.goto 33, 3) := by decide +kernel
theorem dX4_valueFor_103 : decode cX4_valueFor 103 = .ok (.iload_n 3, 1) := by decide +kernel
theorem dX4_valueFor_104 : decode cX4_valueFor 104 = .ok (.iconst 1, 1) := by decide +kernel
theorem dX4_valueFor_105 : decode cX4_valueFor 105 = .ok (.if_icmp .le 28, 3) := by decide +kernel
theorem dX4_valueFor_108 : decode cX4_valueFor 108 = .ok (.iinc 3 (-1), 3) := by decide +kernel
theorem dX4_valueFor_111 : decode cX4_valueFor 111 = .ok (.aload_n 2, 1) := by decide +kernel
theorem dX4_valueFor_112 : decode cX4_valueFor 112 = .ok (.iload_n 3, 1) := by decide +kernel
theorem dX4_valueFor_113 : decode cX4_valueFor 113 = .ok (.iconst 1, 1) := by decide +kernel
theorem dX4_valueFor_114 : decode cX4_valueFor 114 = .ok (.isub, 1) := by decide +kernel
theorem dX4_valueFor_115 : decode cX4_valueFor 115 = .ok (.iload 5, 2) := by decide +kernel
theorem dX4_valueFor_117 : decode cX4_valueFor 117 = .ok (.sipush 2000, 3) := by decide +kernel
theorem dX4_valueFor_120 : decode cX4_valueFor 120 = .ok (.isub, 1) := by decide +kernel
theorem dX4_valueFor_121 : decode cX4_valueFor 121 = .ok (.aload_n 2, 1) := by decide +kernel
theorem dX4_valueFor_122 : decode cX4_valueFor 122 = .ok (.iload_n 3, 1) := by decide +kernel
theorem dX4_valueFor_123 : decode cX4_valueFor 123 = .ok (.iconst 1, 1) := by decide +kernel
theorem dX4_valueFor_124 : decode cX4_valueFor 124 = .ok (.isub, 1) := by decide +kernel
theorem dX4_valueFor_125 : decode cX4_valueFor 125 = .ok (.iaload, 1) := by decide +kernel
theorem dX4_valueFor_126 : decode cX4_valueFor 126 = .ok (.aload_n 2, 1) := by decide +kernel
theorem dX4_valueFor_127 : decode cX4_valueFor 127 = .ok (.iload_n 3, 1) := by decide +kernel
theorem dX4_valueFor_128 : decode cX4_valueFor 128 = .ok (.iaload, 1) := by decide +kernel
theorem dX4_valueFor_129 : decode cX4_valueFor 129 = .ok (.invokestatic 21, 3) := by decide +kernel
theorem dX4_valueFor_132 : decode cX4_valueFor 132 = .ok (.iastore, 1) := by decide +kernel
theorem dX4_valueFor_133 : decode cX4_valueFor 133 = .ok (.iinc 4 1, 3) := by decide +kernel
theorem dX4_valueFor_136 : decode cX4_valueFor 136 = .ok (.goto (-131), 3) := by decide +kernel
theorem dX4_valueFor_139 : decode cX4_valueFor 139 = .ok (.iload_n 3, 1) := by decide +kernel
theorem dX4_valueFor_140 : decode cX4_valueFor 140 = .ok (.ifCond .le 9, 3) := by decide +kernel
theorem dX4_valueFor_143 : decode cX4_valueFor 143 = .ok (.aload_n 2, 1) := by decide +kernel
theorem dX4_valueFor_144 : decode cX4_valueFor 144 = .ok (.iconst 0, 1) := by decide +kernel
theorem dX4_valueFor_145 : decode cX4_valueFor 145 = .ok (.iaload, 1) := by decide +kernel
theorem dX4_valueFor_146 : decode cX4_valueFor 146 = .ok (.goto 4, 3) := by decide +kernel
theorem dX4_valueFor_149 : decode cX4_valueFor 149 = .ok (.iconst 0, 1) := by decide +kernel
theorem dX4_valueFor_150 : decode cX4_valueFor 150 = .ok (.ireturn, 1) := by decide +kernel
theorem dX6_areOpposites_0 : decode cX6_areOpposites 0 = .ok (.aload_n 1, 1) := by decide +kernel
theorem dX6_areOpposites_1 : decode cX6_areOpposites 1 = .ok (.getfield 28, 3) := by decide +kernel
theorem dX6_areOpposites_4 : decode cX6_areOpposites 4 = .ok (.getfield 34, 3) := by decide +kernel
theorem dX6_areOpposites_7 : decode cX6_areOpposites 7 = .ok (.astore 6, 2) := by decide +kernel
theorem dX6_areOpposites_9 : decode cX6_areOpposites 9 = .ok (.aload_n 1, 1) := by decide +kernel
theorem dX6_areOpposites_10 : decode cX6_areOpposites 10 = .ok (.getfield 40, 3) := by decide +kernel
theorem dX6_areOpposites_13 : decode cX6_areOpposites 13 = .ok (.iload 4, 2) := by decide +kernel
theorem dX6_areOpposites_15 : decode cX6_areOpposites 15 = .ok (.iaload, 1) := by decide +kernel
theorem dX6_areOpposites_16 : decode cX6_areOpposites 16 = .ok (.istore 7, 2) := by decide +kernel
theorem dX6_areOpposites_18 : decode cX6_areOpposites 18 = .ok (.aload 6, 2) := by decide +kernel
theorem dX6_areOpposites_20 : decode cX6_areOpposites 20 = .ok (.ifnonnull 24, 3) := by decide +kernel
theorem dX6_areOpposites_23 : decode cX6_areOpposites 23 = .ok (.iload_n 3, 1) := by decide +kernel
theorem dX6_areOpposites_24 : decode cX6_areOpposites 24 = .ok (.bipush 100, 2) := by decide +kernel
theorem dX6_areOpposites_26 : decode cX6_areOpposites 26 = .ok (.idiv, 1) := by decide +kernel
theorem dX6_areOpposites_27 : decode cX6_areOpposites 27 = .ok (.iload 7, 2) := by decide +kernel
theorem dX6_areOpposites_29 : decode cX6_areOpposites 29 = .ok (.bipush 100, 2) := by decide +kernel
theorem dX6_areOpposites_31 : decode cX6_areOpposites 31 = .ok (.idiv, 1) := by decide +kernel
theorem dX6_areOpposites_32 : decode cX6_areOpposites 32 = .ok (.iadd, 1) := by decide +kernel
theorem dX6_areOpposites_33 : decode cX6_areOpposites 33 = .ok (.bipush 9, 2) := by decide +kernel
theorem dX6_areOpposites_35 : decode cX6_areOpposites 35 = .ok (.if_icmp .ne 7, 3) := by decide +kernel
theorem dX6_areOpposites_38 : decode cX6_areOpposites 38 = .ok (.iconst 1, 1) := by decide +kernel
theorem dX6_areOpposites_39 : decode cX6_areOpposites 39 = .ok (.goto 4, 3) := by decide +kernel
theorem dX6_areOpposites_42 : decode cX6_areOpposites 42 = .ok (.iconst 0, 1) := by decide +kernel
theorem dX6_areOpposites_43 : decode cX6_areOpposites 43 = .ok (.ireturn, 1) := by decide +kernel
theorem dX6_areOpposites_44 : decode cX6_areOpposites 44 = .ok (.aload_n 0, 1) := by decide +kernel
theorem dX6_areOpposites_45 : decode cX6_areOpposites 45 = .ok (.getfield 9, 3) := by decide +kernel
theorem dX6_areOpposites_48 : decode cX6_areOpposites 48 = .ok (.bipush 8, 2) := by decide +kernel
theorem dX6_areOpposites_50 : decode cX6_areOpposites 50 = .ok (.iload 5, 2) := by decide +kernel
theorem dX6_areOpposites_52 : decode cX6_areOpposites 52 = .ok (.bipush 7, 2) := by decide +kernel
theorem dX6_areOpposites_54 : decode cX6_areOpposites 54 = .ok (.irem, 1) := by decide +kernel
theorem dX6_areOpposites_55 : decode cX6_areOpposites 55 = .ok (.iastore, 1) := by decide +kernel
theorem dX6_areOpposites_56 : decode cX6_areOpposites 56 = .ok (.aload_n 0, 1) := by decide +kernel
theorem dX6_areOpposites_57 : decode cX6_areOpposites 57 = .ok (.aload 6, 2) := by decide +kernel
theorem dX6_areOpposites_59 : decode cX6_areOpposites 59 = .ok (.iload_n 2, 1) := by decide +kernel
theorem dX6_areOpposites_60 : decode cX6_areOpposites 60 = .ok (.iload_n 3, 1) := by decide +kernel
theorem dX6_areOpposites_61 : decode cX6_areOpposites 61 = .ok (.iload 4, 2) := by decide +kernel
theorem dX6_areOpposites_63 : decode cX6_areOpposites 63 = .ok (.iload 7, 2) := by decide +kernel
theorem dX6_areOpposites_65 : decode cX6_areOpposites 65 = .ok (.invokevirtual 43, 3) := by decide +kernel
theorem dX6_areOpposites_68 : decode cX6_areOpposites 68 = .ok (.ifCond .ne 18, 3) := by decide +kernel
theorem dX6_areOpposites_71 : decode cX6_areOpposites 71 = .ok (.aload_n 0, 1) := by decide +kernel
theorem dX6_areOpposites_72 : decode cX6_areOpposites 72 = .ok (.aload 6, 2) := by decide +kernel
theorem dX6_areOpposites_74 : decode cX6_areOpposites 74 = .ok (.iload 4, 2) := by decide +kernel
theorem dX6_areOpposites_76 : decode cX6_areOpposites 76 = .ok (.iload 7, 2) := by decide +kernel
theorem dX6_areOpposites_78 : decode cX6_areOpposites 78 = .ok (.iload_n 2, 1) := by decide +kernel
theorem dX6_areOpposites_79 : decode cX6_areOpposites 79 = .ok (.iload_n 3, 1) := by decide +kernel
theorem dX6_areOpposites_80 : decode cX6_areOpposites 80 = .ok (.invokevirtual 43, 3) := by decide +kernel
theorem dX6_areOpposites_83 : decode cX6_areOpposites 83 = .ok (.ifCond .eq 7, 3) := by decide +kernel
theorem dX6_areOpposites_86 : decode cX6_areOpposites 86 = .ok (.iconst 1, 1) := by decide +kernel
theorem dX6_areOpposites_87 : decode cX6_areOpposites 87 = .ok (.goto 4, 3) := by decide +kernel
theorem dX6_areOpposites_90 : decode cX6_areOpposites 90 = .ok (.iconst 0, 1) := by decide +kernel
theorem dX6_areOpposites_91 : decode cX6_areOpposites 91 = .ok (.ireturn, 1) := by decide +kernel
theorem dX6_opposesOneWay_0 : decode cX6_opposesOneWay 0 = .ok (.aload_n 0, 1) := by decide +kernel
theorem dX6_opposesOneWay_1 : decode cX6_opposesOneWay 1 = .ok (.iconst 0, 1) := by decide +kernel
theorem dX6_opposesOneWay_2 : decode cX6_opposesOneWay 2 = .ok (.iload_n 3, 1) := by decide +kernel
theorem dX6_opposesOneWay_3 : decode cX6_opposesOneWay 3 = .ok (.iload_n 2, 1) := by decide +kernel
theorem dX6_opposesOneWay_4 : decode cX6_opposesOneWay 4 = .ok (.invokevirtual 18, 3) := by decide +kernel
theorem dX6_opposesOneWay_7 : decode cX6_opposesOneWay 7 = .ok (.aload_n 0, 1) := by decide +kernel
theorem dX6_opposesOneWay_8 : decode cX6_opposesOneWay 8 = .ok (.iconst 4, 1) := by decide +kernel
theorem dX6_opposesOneWay_9 : decode cX6_opposesOneWay 9 = .ok (.iload 5, 2) := by decide +kernel
theorem dX6_opposesOneWay_11 : decode cX6_opposesOneWay 11 = .ok (.iload 4, 2) := by decide +kernel
theorem dX6_opposesOneWay_13 : decode cX6_opposesOneWay 13 = .ok (.invokevirtual 18, 3) := by decide +kernel
theorem dX6_opposesOneWay_16 : decode cX6_opposesOneWay 16 = .ok (.aload_n 1, 1) := by decide +kernel
theorem dX6_opposesOneWay_17 : decode cX6_opposesOneWay 17 = .ok (.aload_n 0, 1) := by decide +kernel
theorem dX6_opposesOneWay_18 : decode cX6_opposesOneWay 18 = .ok (.getfield 9, 3) := by decide +kernel
theorem dX6_opposesOneWay_21 : decode cX6_opposesOneWay 21 = .ok (.aload_n 0, 1) := by decide +kernel
theorem dX6_opposesOneWay_22 : decode cX6_opposesOneWay 22 = .ok (.getfield 15, 3) := by decide +kernel
theorem dX6_opposesOneWay_25 : decode cX6_opposesOneWay 25 = .ok (.invokevirtual 22, 3) := by decide +kernel
theorem dX6_opposesOneWay_28 : decode cX6_opposesOneWay 28 = .ok (.ifCond .eq 7, 3) := by decide +kernel
theorem dX6_opposesOneWay_31 : decode cX6_opposesOneWay 31 = .ok (.iconst 1, 1) := by decide +kernel
theorem dX6_opposesOneWay_32 : decode cX6_opposesOneWay 32 = .ok (.goto 4, 3) := by decide +kernel
theorem dX6_opposesOneWay_35 : decode cX6_opposesOneWay 35 = .ok (.iconst 0, 1) := by decide +kernel
theorem dX6_opposesOneWay_36 : decode cX6_opposesOneWay 36 = .ok (.ireturn, 1) := by decide +kernel
theorem dX6_put_0 : decode cX6_put 0 = .ok (.aload_n 0, 1) := by decide +kernel
theorem dX6_put_1 : decode cX6_put 1 = .ok (.getfield 9, 3) := by decide +kernel
theorem dX6_put_4 : decode cX6_put 4 = .ok (.iload_n 1, 1) := by decide +kernel
theorem dX6_put_5 : decode cX6_put 5 = .ok (.iload_n 2, 1) := by decide +kernel
theorem dX6_put_6 : decode cX6_put 6 = .ok (.bipush 100, 2) := by decide +kernel
theorem dX6_put_8 : decode cX6_put 8 = .ok (.idiv, 1) := by decide +kernel
theorem dX6_put_9 : decode cX6_put 9 = .ok (.iastore, 1) := by decide +kernel
theorem dX6_put_10 : decode cX6_put 10 = .ok (.aload_n 0, 1) := by decide +kernel
theorem dX6_put_11 : decode cX6_put 11 = .ok (.getfield 9, 3) := by decide +kernel
theorem dX6_put_14 : decode cX6_put 14 = .ok (.iload_n 1, 1) := by decide +kernel
theorem dX6_put_15 : decode cX6_put 15 = .ok (.iconst 1, 1) := by decide +kernel
theorem dX6_put_16 : decode cX6_put 16 = .ok (.iadd, 1) := by decide +kernel
theorem dX6_put_17 : decode cX6_put 17 = .ok (.iload_n 2, 1) := by decide +kernel
theorem dX6_put_18 : decode cX6_put 18 = .ok (.bipush 10, 2) := by decide +kernel
theorem dX6_put_20 : decode cX6_put 20 = .ok (.idiv, 1) := by decide +kernel
theorem dX6_put_21 : decode cX6_put 21 = .ok (.bipush 10, 2) := by decide +kernel
theorem dX6_put_23 : decode cX6_put 23 = .ok (.irem, 1) := by decide +kernel
theorem dX6_put_24 : decode cX6_put 24 = .ok (.iastore, 1) := by decide +kernel
theorem dX6_put_25 : decode cX6_put 25 = .ok (.aload_n 0, 1) := by decide +kernel
theorem dX6_put_26 : decode cX6_put 26 = .ok (.getfield 9, 3) := by decide +kernel
theorem dX6_put_29 : decode cX6_put 29 = .ok (.iload_n 1, 1) := by decide +kernel
theorem dX6_put_30 : decode cX6_put 30 = .ok (.iconst 2, 1) := by decide +kernel
theorem dX6_put_31 : decode cX6_put 31 = .ok (.iadd, 1) := by decide +kernel
theorem dX6_put_32 : decode cX6_put 32 = .ok (.iload_n 2, 1) := by decide +kernel
theorem dX6_put_33 : decode cX6_put 33 = .ok (.bipush 10, 2) := by decide +kernel
theorem dX6_put_35 : decode cX6_put 35 = .ok (.irem, 1) := by decide +kernel
theorem dX6_put_36 : decode cX6_put 36 = .ok (.iastore, 1) := by decide +kernel
theorem dX6_put_37 : decode cX6_put 37 = .ok (.aload_n 0, 1) := by decide +kernel
theorem dX6_put_38 : decode cX6_put 38 = .ok (.getfield 9, 3) := by decide +kernel
theorem dX6_put_41 : decode cX6_put 41 = .ok (.iload_n 1, 1) := by decide +kernel
theorem dX6_put_42 : decode cX6_put 42 = .ok (.iconst 3, 1) := by decide +kernel
theorem dX6_put_43 : decode cX6_put 43 = .ok (.iadd, 1) := by decide +kernel
theorem dX6_put_44 : decode cX6_put 44 = .ok (.iload_n 3, 1) := by decide +kernel
theorem dX6_put_45 : decode cX6_put 45 = .ok (.iastore, 1) := by decide +kernel
theorem dX6_put_46 : decode cX6_put 46 = .ok (.return_, 1) := by decide +kernel
theorem dX6_rowOf_0 : decode cX6_rowOf 0 = .ok (.iconst 0, 1) := by decide +kernel
theorem dX6_rowOf_1 : decode cX6_rowOf 1 = .ok (.istore 5, 2) := by decide +kernel
theorem dX6_rowOf_3 : decode cX6_rowOf 3 = .ok (.iconst 0, 1) := by decide +kernel
theorem dX6_rowOf_4 : decode cX6_rowOf 4 = .ok (.istore 6, 2) := by decide +kernel
theorem dX6_rowOf_6 : decode cX6_rowOf 6 = .ok (.iload 6, 2) := by decide +kernel
theorem dX6_rowOf_8 : decode cX6_rowOf 8 = .ok (.aload_n 1, 1) := by decide +kernel
theorem dX6_rowOf_9 : decode cX6_rowOf 9 = .ok (.getfield 28, 3) := by decide +kernel
theorem dX6_rowOf_12 : decode cX6_rowOf 12 = .ok (.getfield 47, 3) := by decide +kernel
theorem dX6_rowOf_15 : decode cX6_rowOf 15 = .ok (.if_icmp .ge 38, 3) := by decide +kernel
theorem dX6_rowOf_18 : decode cX6_rowOf 18 = .ok (.iload 6, 2) := by decide +kernel
theorem dX6_rowOf_20 : decode cX6_rowOf 20 = .ok (.iload_n 2, 1) := by decide +kernel
theorem dX6_rowOf_21 : decode cX6_rowOf 21 = .ok (.if_icmp .eq 26, 3) := by decide +kernel
theorem dX6_rowOf_24 : decode cX6_rowOf 24 = .ok (.aload_n 0, 1) := by decide +kernel
theorem dX6_rowOf_25 : decode cX6_rowOf 25 = .ok (.aload_n 1, 1) := by decide +kernel
theorem dX6_rowOf_26 : decode cX6_rowOf 26 = .ok (.iload_n 2, 1) := by decide +kernel
theorem dX6_rowOf_27 : decode cX6_rowOf 27 = .ok (.iload_n 3, 1) := by decide +kernel
theorem dX6_rowOf_28 : decode cX6_rowOf 28 = .ok (.iload 6, 2) := by decide +kernel
theorem dX6_rowOf_30 : decode cX6_rowOf 30 = .ok (.iload 4, 2) := by decide +kernel
theorem dX6_rowOf_32 : decode cX6_rowOf 32 = .ok (.invokevirtual 51, 3) := by decide +kernel
theorem dX6_rowOf_35 : decode cX6_rowOf 35 = .ok (.ifCond .eq 12, 3) := by decide +kernel
theorem dX6_rowOf_38 : decode cX6_rowOf 38 = .ok (.iload 5, 2) := by decide +kernel
theorem dX6_rowOf_40 : decode cX6_rowOf 40 = .ok (.iconst 1, 1) := by decide +kernel
theorem dX6_rowOf_41 : decode cX6_rowOf 41 = .ok (.iload 6, 2) := by decide +kernel
theorem dX6_rowOf_43 : decode cX6_rowOf 43 = .ok (.ishl, 1) := by decide +kernel
theorem dX6_rowOf_44 : decode cX6_rowOf 44 = .ok (.ior, 1) := by decide +kernel
theorem dX6_rowOf_45 : decode cX6_rowOf 45 = .ok (.istore 5, 2) := by decide +kernel
theorem dX6_rowOf_47 : decode cX6_rowOf 47 = .ok (.iinc 6 1, 3) := by decide +kernel
theorem dX6_rowOf_50 : decode cX6_rowOf 50 = .ok (.goto (-44), 3) := by decide +kernel
theorem dX6_rowOf_53 : decode cX6_rowOf 53 = .ok (.iload 5, 2) := by decide +kernel
theorem dX6_rowOf_55 : decode cX6_rowOf 55 = .ok (.ireturn, 1) := by decide +kernel
theorem dX6_saysAye_0 : decode cX6_saysAye 0 = .ok (.aload_n 1, 1) := by decide +kernel
theorem dX6_saysAye_1 : decode cX6_saysAye 1 = .ok (.getfield 28, 3) := by decide +kernel
theorem dX6_saysAye_4 : decode cX6_saysAye 4 = .ok (.getfield 55, 3) := by decide +kernel
theorem dX6_saysAye_7 : decode cX6_saysAye 7 = .ok (.astore 4, 2) := by decide +kernel
theorem dX6_saysAye_9 : decode cX6_saysAye 9 = .ok (.aload 4, 2) := by decide +kernel
theorem dX6_saysAye_11 : decode cX6_saysAye 11 = .ok (.ifnonnull 22, 3) := by decide +kernel
theorem dX6_saysAye_14 : decode cX6_saysAye 14 = .ok (.aload_n 1, 1) := by decide +kernel
theorem dX6_saysAye_15 : decode cX6_saysAye 15 = .ok (.getfield 40, 3) := by decide +kernel
theorem dX6_saysAye_18 : decode cX6_saysAye 18 = .ok (.iload_n 2, 1) := by decide +kernel
theorem dX6_saysAye_19 : decode cX6_saysAye 19 = .ok (.iaload, 1) := by decide +kernel
theorem dX6_saysAye_20 : decode cX6_saysAye 20 = .ok (.bipush 100, 2) := by decide +kernel
theorem dX6_saysAye_22 : decode cX6_saysAye 22 = .ok (.idiv, 1) := by decide +kernel
theorem dX6_saysAye_23 : decode cX6_saysAye 23 = .ok (.iconst 4, 1) := by decide +kernel
theorem dX6_saysAye_24 : decode cX6_saysAye 24 = .ok (.if_icmp .le 7, 3) := by decide +kernel
theorem dX6_saysAye_27 : decode cX6_saysAye 27 = .ok (.iconst 1, 1) := by decide +kernel
theorem dX6_saysAye_28 : decode cX6_saysAye 28 = .ok (.goto 4, 3) := by decide +kernel
theorem dX6_saysAye_31 : decode cX6_saysAye 31 = .ok (.iconst 0, 1) := by decide +kernel
theorem dX6_saysAye_32 : decode cX6_saysAye 32 = .ok (.ireturn, 1) := by decide +kernel
theorem dX6_saysAye_33 : decode cX6_saysAye 33 = .ok (.aload_n 0, 1) := by decide +kernel
theorem dX6_saysAye_34 : decode cX6_saysAye 34 = .ok (.iconst 0, 1) := by decide +kernel
theorem dX6_saysAye_35 : decode cX6_saysAye 35 = .ok (.aload_n 1, 1) := by decide +kernel
theorem dX6_saysAye_36 : decode cX6_saysAye 36 = .ok (.getfield 40, 3) := by decide +kernel
theorem dX6_saysAye_39 : decode cX6_saysAye 39 = .ok (.iload_n 2, 1) := by decide +kernel
theorem dX6_saysAye_40 : decode cX6_saysAye 40 = .ok (.iaload, 1) := by decide +kernel
theorem dX6_saysAye_41 : decode cX6_saysAye 41 = .ok (.iload_n 2, 1) := by decide +kernel
theorem dX6_saysAye_42 : decode cX6_saysAye 42 = .ok (.invokevirtual 18, 3) := by decide +kernel
theorem dX6_saysAye_45 : decode cX6_saysAye 45 = .ok (.aload_n 0, 1) := by decide +kernel
theorem dX6_saysAye_46 : decode cX6_saysAye 46 = .ok (.getfield 9, 3) := by decide +kernel
theorem dX6_saysAye_49 : decode cX6_saysAye 49 = .ok (.bipush 8, 2) := by decide +kernel
theorem dX6_saysAye_51 : decode cX6_saysAye 51 = .ok (.aload_n 1, 1) := by decide +kernel
theorem dX6_saysAye_52 : decode cX6_saysAye 52 = .ok (.getfield 58, 3) := by decide +kernel
theorem dX6_saysAye_55 : decode cX6_saysAye 55 = .ok (.bipush 7, 2) := by decide +kernel
theorem dX6_saysAye_57 : decode cX6_saysAye 57 = .ok (.irem, 1) := by decide +kernel
theorem dX6_saysAye_58 : decode cX6_saysAye 58 = .ok (.iastore, 1) := by decide +kernel
theorem dX6_saysAye_59 : decode cX6_saysAye 59 = .ok (.aload_n 0, 1) := by decide +kernel
theorem dX6_saysAye_60 : decode cX6_saysAye 60 = .ok (.getfield 9, 3) := by decide +kernel
theorem dX6_saysAye_63 : decode cX6_saysAye 63 = .ok (.bipush 9, 2) := by decide +kernel
theorem dX6_saysAye_65 : decode cX6_saysAye 65 = .ok (.iload_n 3, 1) := by decide +kernel
theorem dX6_saysAye_66 : decode cX6_saysAye 66 = .ok (.iastore, 1) := by decide +kernel
theorem dX6_saysAye_67 : decode cX6_saysAye 67 = .ok (.aload 4, 2) := by decide +kernel
theorem dX6_saysAye_69 : decode cX6_saysAye 69 = .ok (.aload_n 0, 1) := by decide +kernel
theorem dX6_saysAye_70 : decode cX6_saysAye 70 = .ok (.getfield 9, 3) := by decide +kernel
theorem dX6_saysAye_73 : decode cX6_saysAye 73 = .ok (.aload_n 0, 1) := by decide +kernel
theorem dX6_saysAye_74 : decode cX6_saysAye 74 = .ok (.getfield 15, 3) := by decide +kernel
theorem dX6_saysAye_77 : decode cX6_saysAye 77 = .ok (.invokevirtual 22, 3) := by decide +kernel
theorem dX6_saysAye_80 : decode cX6_saysAye 80 = .ok (.ifCond .eq 7, 3) := by decide +kernel
theorem dX6_saysAye_83 : decode cX6_saysAye 83 = .ok (.iconst 1, 1) := by decide +kernel
theorem dX6_saysAye_84 : decode cX6_saysAye 84 = .ok (.goto 4, 3) := by decide +kernel
theorem dX6_saysAye_87 : decode cX6_saysAye 87 = .ok (.iconst 0, 1) := by decide +kernel
theorem dX6_saysAye_88 : decode cX6_saysAye 88 = .ok (.ireturn, 1) := by decide +kernel
theorem dX6_swayOf_0 : decode cX6_swayOf 0 = .ok (.aload_n 1, 1) := by decide +kernel
theorem dX6_swayOf_1 : decode cX6_swayOf 1 = .ok (.ifnonnull 21, 3) := by decide +kernel
theorem dX6_swayOf_4 : decode cX6_swayOf 4 = .ok (.aload_n 0, 1) := by decide +kernel
theorem dX6_swayOf_5 : decode cX6_swayOf 5 = .ok (.getfield 9, 3) := by decide +kernel
theorem dX6_swayOf_8 : decode cX6_swayOf 8 = .ok (.iconst 4, 1) := by decide +kernel
theorem dX6_swayOf_9 : decode cX6_swayOf 9 = .ok (.iload_n 2, 1) := by decide +kernel
theorem dX6_swayOf_10 : decode cX6_swayOf 10 = .ok (.iadd, 1) := by decide +kernel
theorem dX6_swayOf_11 : decode cX6_swayOf 11 = .ok (.iaload, 1) := by decide +kernel
theorem dX6_swayOf_12 : decode cX6_swayOf 12 = .ok (.aload_n 0, 1) := by decide +kernel
theorem dX6_swayOf_13 : decode cX6_swayOf 13 = .ok (.getfield 9, 3) := by decide +kernel
theorem dX6_swayOf_16 : decode cX6_swayOf 16 = .ok (.iconst 0, 1) := by decide +kernel
theorem dX6_swayOf_17 : decode cX6_swayOf 17 = .ok (.iload_n 2, 1) := by decide +kernel
theorem dX6_swayOf_18 : decode cX6_swayOf 18 = .ok (.iadd, 1) := by decide +kernel
theorem dX6_swayOf_19 : decode cX6_swayOf 19 = .ok (.iaload, 1) := by decide +kernel
theorem dX6_swayOf_20 : decode cX6_swayOf 20 = .ok (.isub, 1) := by decide +kernel
theorem dX6_swayOf_21 : decode cX6_swayOf 21 = .ok (.ireturn, 1) := by decide +kernel
theorem dX6_swayOf_22 : decode cX6_swayOf 22 = .ok (.aload_n 0, 1) := by decide +kernel
theorem dX6_swayOf_23 : decode cX6_swayOf 23 = .ok (.getfield 9, 3) := by decide +kernel
theorem dX6_swayOf_26 : decode cX6_swayOf 26 = .ok (.bipush 10, 2) := by decide +kernel
theorem dX6_swayOf_28 : decode cX6_swayOf 28 = .ok (.iload_n 2, 1) := by decide +kernel
theorem dX6_swayOf_29 : decode cX6_swayOf 29 = .ok (.iastore, 1) := by decide +kernel
theorem dX6_swayOf_30 : decode cX6_swayOf 30 = .ok (.aload_n 1, 1) := by decide +kernel
theorem dX6_swayOf_31 : decode cX6_swayOf 31 = .ok (.aload_n 0, 1) := by decide +kernel
theorem dX6_swayOf_32 : decode cX6_swayOf 32 = .ok (.getfield 9, 3) := by decide +kernel
theorem dX6_swayOf_35 : decode cX6_swayOf 35 = .ok (.aload_n 0, 1) := by decide +kernel
theorem dX6_swayOf_36 : decode cX6_swayOf 36 = .ok (.getfield 15, 3) := by decide +kernel
theorem dX6_swayOf_39 : decode cX6_swayOf 39 = .ok (.invokevirtual 22, 3) := by decide +kernel
theorem dX6_swayOf_42 : decode cX6_swayOf 42 = .ok (.ireturn, 1) := by decide +kernel
theorem dX6_swayed_0 : decode cX6_swayed 0 = .ok (.aload_n 0, 1) := by decide +kernel
theorem dX6_swayed_1 : decode cX6_swayed 1 = .ok (.iconst 0, 1) := by decide +kernel
theorem dX6_swayed_2 : decode cX6_swayed 2 = .ok (.iload_n 3, 1) := by decide +kernel
theorem dX6_swayed_3 : decode cX6_swayed 3 = .ok (.iload_n 2, 1) := by decide +kernel
theorem dX6_swayed_4 : decode cX6_swayed 4 = .ok (.invokevirtual 18, 3) := by decide +kernel
theorem dX6_swayed_7 : decode cX6_swayed 7 = .ok (.aload_n 0, 1) := by decide +kernel
theorem dX6_swayed_8 : decode cX6_swayed 8 = .ok (.iconst 4, 1) := by decide +kernel
theorem dX6_swayed_9 : decode cX6_swayed 9 = .ok (.aload_n 1, 1) := by decide +kernel
theorem dX6_swayed_10 : decode cX6_swayed 10 = .ok (.getfield 40, 3) := by decide +kernel
theorem dX6_swayed_13 : decode cX6_swayed 13 = .ok (.iload 4, 2) := by decide +kernel
theorem dX6_swayed_15 : decode cX6_swayed 15 = .ok (.iaload, 1) := by decide +kernel
theorem dX6_swayed_16 : decode cX6_swayed 16 = .ok (.iload 4, 2) := by decide +kernel
theorem dX6_swayed_18 : decode cX6_swayed 18 = .ok (.invokevirtual 18, 3) := by decide +kernel
theorem dX6_swayed_21 : decode cX6_swayed 21 = .ok (.aload_n 0, 1) := by decide +kernel
theorem dX6_swayed_22 : decode cX6_swayed 22 = .ok (.getfield 9, 3) := by decide +kernel
theorem dX6_swayed_25 : decode cX6_swayed 25 = .ok (.bipush 8, 2) := by decide +kernel
theorem dX6_swayed_27 : decode cX6_swayed 27 = .ok (.aload_n 1, 1) := by decide +kernel
theorem dX6_swayed_28 : decode cX6_swayed 28 = .ok (.getfield 58, 3) := by decide +kernel
theorem dX6_swayed_31 : decode cX6_swayed 31 = .ok (.bipush 7, 2) := by decide +kernel
theorem dX6_swayed_33 : decode cX6_swayed 33 = .ok (.irem, 1) := by decide +kernel
theorem dX6_swayed_34 : decode cX6_swayed 34 = .ok (.iastore, 1) := by decide +kernel
theorem dX6_swayed_35 : decode cX6_swayed 35 = .ok (.iconst 0, 1) := by decide +kernel
theorem dX6_swayed_36 : decode cX6_swayed 36 = .ok (.istore 5, 2) := by decide +kernel
theorem dX6_swayed_38 : decode cX6_swayed 38 = .ok (.iconst 0, 1) := by decide +kernel
theorem dX6_swayed_39 : decode cX6_swayed 39 = .ok (.istore 6, 2) := by decide +kernel
theorem dX6_swayed_41 : decode cX6_swayed 41 = .ok (.iload 6, 2) := by decide +kernel
theorem dX6_swayed_43 : decode cX6_swayed 43 = .ok (.iconst 3, 1) := by decide +kernel
theorem dX6_swayed_44 : decode cX6_swayed 44 = .ok (.if_icmp .ge 77, 3) := by decide +kernel
theorem dX6_swayed_47 : decode cX6_swayed 47 = .ok (.iload 6, 2) := by decide +kernel
theorem dX6_swayed_49 : decode cX6_swayed 49 = .ok (.aload_n 1, 1) := by decide +kernel
theorem dX6_swayed_50 : decode cX6_swayed 50 = .ok (.getfield 28, 3) := by decide +kernel
theorem dX6_swayed_53 : decode cX6_swayed 53 = .ok (.getfield 61, 3) := by decide +kernel
theorem dX6_swayed_56 : decode cX6_swayed 56 = .ok (.if_icmp .ge 19, 3) := by decide +kernel
theorem dX6_swayed_59 : decode cX6_swayed 59 = .ok (.aload_n 0, 1) := by decide +kernel
theorem dX6_swayed_60 : decode cX6_swayed 60 = .ok (.aload_n 1, 1) := by decide +kernel
theorem dX6_swayed_61 : decode cX6_swayed 61 = .ok (.getfield 28, 3) := by decide +kernel
theorem dX6_swayed_64 : decode cX6_swayed 64 = .ok (.getfield 64, 3) := by decide +kernel
theorem dX6_swayed_67 : decode cX6_swayed 67 = .ok (.iload 6, 2) := by decide +kernel
theorem dX6_swayed_69 : decode cX6_swayed 69 = .ok (.invokevirtual 67, 3) := by decide +kernel
theorem dX6_swayed_72 : decode cX6_swayed 72 = .ok (.goto 4, 3) := by decide +kernel
theorem dX6_swayed_75 : decode cX6_swayed 75 = .ok (.iconst 0, 1) := by decide +kernel
theorem dX6_swayed_76 : decode cX6_swayed 76 = .ok (.istore 7, 2) := by decide +kernel
theorem dX6_swayed_78 : decode cX6_swayed 78 = .ok (.aload_n 0, 1) := by decide +kernel
theorem dX6_swayed_79 : decode cX6_swayed 79 = .ok (.getfield 9, 3) := by decide +kernel
theorem dX6_swayed_82 : decode cX6_swayed 82 = .ok (.iconst 0, 1) := by decide +kernel
theorem dX6_swayed_83 : decode cX6_swayed 83 = .ok (.iload 6, 2) := by decide +kernel
theorem dX6_swayed_85 : decode cX6_swayed 85 = .ok (.iadd, 1) := by decide +kernel
theorem dX6_swayed_86 : decode cX6_swayed 86 = .ok (.iaload, 1) := by decide +kernel
theorem dX6_swayed_87 : decode cX6_swayed 87 = .ok (.iload 7, 2) := by decide +kernel
theorem dX6_swayed_89 : decode cX6_swayed 89 = .ok (.iconst 0, 1) := by decide +kernel
theorem dX6_swayed_90 : decode cX6_swayed 90 = .ok (.invokestatic 71, 3) := by decide +kernel
theorem dX6_swayed_93 : decode cX6_swayed 93 = .ok (.iadd, 1) := by decide +kernel
theorem dX6_swayed_94 : decode cX6_swayed 94 = .ok (.istore 8, 2) := by decide +kernel
theorem dX6_swayed_96 : decode cX6_swayed 96 = .ok (.bipush 10, 2) := by decide +kernel
theorem dX6_swayed_98 : decode cX6_swayed 98 = .ok (.iload 5, 2) := by decide +kernel
theorem dX6_swayed_100 : decode cX6_swayed 100 = .ok (.imul, 1) := by decide +kernel
theorem dX6_swayed_101 : decode cX6_swayed 101 = .ok (.iconst 0, 1) := by decide +kernel
theorem dX6_swayed_102 : decode cX6_swayed 102 = .ok (.bipush 9, 2) := by decide +kernel
theorem dX6_swayed_104 : decode cX6_swayed 104 = .ok (.iload 8, 2) := by decide +kernel
theorem dX6_swayed_106 : decode cX6_swayed 106 = .ok (.invokestatic 77, 3) := by decide +kernel
theorem dX6_swayed_109 : decode cX6_swayed 109 = .ok (.invokestatic 82, 3) := by decide +kernel
theorem dX6_swayed_112 : decode cX6_swayed 112 = .ok (.iadd, 1) := by decide +kernel
theorem dX6_swayed_113 : decode cX6_swayed 113 = .ok (.istore 5, 2) := by decide +kernel
theorem dX6_swayed_115 : decode cX6_swayed 115 = .ok (.iinc 6 1, 3) := by decide +kernel
theorem dX6_swayed_118 : decode cX6_swayed 118 = .ok (.goto (-77), 3) := by decide +kernel
theorem dX6_swayed_121 : decode cX6_swayed 121 = .ok (.iload 5, 2) := by decide +kernel
theorem dX6_swayed_123 : decode cX6_swayed 123 = .ok (.ireturn, 1) := by decide +kernel
theorem dX7_inTown_0 : decode cX7_inTown 0 = .ok (.aload_n 0, 1) := by decide +kernel
theorem dX7_inTown_1 : decode cX7_inTown 1 = .ok (.aload_n 0, 1) := by decide +kernel
theorem dX7_inTown_2 : decode cX7_inTown 2 = .ok (.getfield 9, 3) := by decide +kernel
theorem dX7_inTown_5 : decode cX7_inTown 5 = .ok (.invokevirtual 38, 3) := by decide +kernel
theorem dX7_inTown_8 : decode cX7_inTown 8 = .ok (.ireturn, 1) := by decide +kernel
theorem dX7_inTownOn_0 : decode cX7_inTownOn 0 = .ok (.iconst 0, 1) := by decide +kernel
theorem dX7_inTownOn_1 : decode cX7_inTownOn 1 = .ok (.istore_n 2, 1) := by decide +kernel
theorem dX7_inTownOn_2 : decode cX7_inTownOn 2 = .ok (.iconst 0, 1) := by decide +kernel
theorem dX7_inTownOn_3 : decode cX7_inTownOn 3 = .ok (.istore_n 3, 1) := by decide +kernel
theorem dX7_inTownOn_4 : decode cX7_inTownOn 4 = .ok (.iload_n 3, 1) := by decide +kernel
theorem dX7_inTownOn_5 : decode cX7_inTownOn 5 = .ok (.aload_n 0, 1) := by decide +kernel
theorem dX7_inTownOn_6 : decode cX7_inTownOn 6 = .ok (.getfield 22, 3) := by decide +kernel
theorem dX7_inTownOn_9 : decode cX7_inTownOn 9 = .ok (.getfield 42, 3) := by decide +kernel
theorem dX7_inTownOn_12 : decode cX7_inTownOn 12 = .ok (.if_icmp .ge 41, 3) := by decide +kernel
theorem dX7_inTownOn_15 : decode cX7_inTownOn 15 = .ok (.aload_n 0, 1) := by decide +kernel
theorem dX7_inTownOn_16 : decode cX7_inTownOn 16 = .ok (.getfield 22, 3) := by decide +kernel
theorem dX7_inTownOn_19 : decode cX7_inTownOn 19 = .ok (.getfield 45, 3) := by decide +kernel
theorem dX7_inTownOn_22 : decode cX7_inTownOn 22 = .ok (.iload_n 3, 1) := by decide +kernel
theorem dX7_inTownOn_23 : decode cX7_inTownOn 23 = .ok (.iaload, 1) := by decide +kernel
theorem dX7_inTownOn_24 : decode cX7_inTownOn 24 = .ok (.iload_n 1, 1) := by decide +kernel
theorem dX7_inTownOn_25 : decode cX7_inTownOn 25 = .ok (.if_icmp .gt 22, 3) := by decide +kernel
theorem dX7_inTownOn_28 : decode cX7_inTownOn 28 = .ok (.iload_n 1, 1) := by decide +kernel
theorem dX7_inTownOn_29 : decode cX7_inTownOn 29 = .ok (.aload_n 0, 1) := by decide +kernel
theorem dX7_inTownOn_30 : decode cX7_inTownOn 30 = .ok (.getfield 22, 3) := by decide +kernel
theorem dX7_inTownOn_33 : decode cX7_inTownOn 33 = .ok (.getfield 48, 3) := by decide +kernel
theorem dX7_inTownOn_36 : decode cX7_inTownOn 36 = .ok (.iload_n 3, 1) := by decide +kernel
theorem dX7_inTownOn_37 : decode cX7_inTownOn 37 = .ok (.iaload, 1) := by decide +kernel
theorem dX7_inTownOn_38 : decode cX7_inTownOn 38 = .ok (.if_icmp .gt 9, 3) := by decide +kernel
theorem dX7_inTownOn_41 : decode cX7_inTownOn 41 = .ok (.iload_n 2, 1) := by decide +kernel
theorem dX7_inTownOn_42 : decode cX7_inTownOn 42 = .ok (.iconst 1, 1) := by decide +kernel
theorem dX7_inTownOn_43 : decode cX7_inTownOn 43 = .ok (.iload_n 3, 1) := by decide +kernel
theorem dX7_inTownOn_44 : decode cX7_inTownOn 44 = .ok (.ishl, 1) := by decide +kernel
theorem dX7_inTownOn_45 : decode cX7_inTownOn 45 = .ok (.ior, 1) := by decide +kernel
theorem dX7_inTownOn_46 : decode cX7_inTownOn 46 = .ok (.istore_n 2, 1) := by decide +kernel
theorem dX7_inTownOn_47 : decode cX7_inTownOn 47 = .ok (.iinc 3 1, 3) := by decide +kernel
theorem dX7_inTownOn_50 : decode cX7_inTownOn 50 = .ok (.goto (-46), 3) := by decide +kernel
theorem dX7_inTownOn_53 : decode cX7_inTownOn 53 = .ok (.iload_n 2, 1) := by decide +kernel
theorem dX7_inTownOn_54 : decode cX7_inTownOn 54 = .ok (.aload_n 0, 1) := by decide +kernel
theorem dX7_inTownOn_55 : decode cX7_inTownOn 55 = .ok (.getfield 15, 3) := by decide +kernel
theorem dX7_inTownOn_58 : decode cX7_inTownOn 58 = .ok (.iconst (-1), 1) := by decide +kernel
theorem dX7_inTownOn_59 : decode cX7_inTownOn 59 = .ok (.ixor, 1) := by decide +kernel
theorem dX7_inTownOn_60 : decode cX7_inTownOn 60 = .ok (.iand, 1) := by decide +kernel
theorem dX7_inTownOn_61 : decode cX7_inTownOn 61 = .ok (.ireturn, 1) := by decide +kernel
theorem dX7_takeFrom_0 : decode cX7_takeFrom 0 = .ok (.aload_n 0, 1) := by decide +kernel
theorem dX7_takeFrom_1 : decode cX7_takeFrom 1 = .ok (.aload_n 1, 1) := by decide +kernel
theorem dX7_takeFrom_2 : decode cX7_takeFrom 2 = .ok (.getfield 22, 3) := by decide +kernel
theorem dX7_takeFrom_5 : decode cX7_takeFrom 5 = .ok (.putfield 22, 3) := by decide +kernel
theorem dX7_takeFrom_8 : decode cX7_takeFrom 8 = .ok (.aload_n 0, 1) := by decide +kernel
theorem dX7_takeFrom_9 : decode cX7_takeFrom 9 = .ok (.aload_n 1, 1) := by decide +kernel
theorem dX7_takeFrom_10 : decode cX7_takeFrom 10 = .ok (.getfield 9, 3) := by decide +kernel
theorem dX7_takeFrom_13 : decode cX7_takeFrom 13 = .ok (.putfield 9, 3) := by decide +kernel
theorem dX7_takeFrom_16 : decode cX7_takeFrom 16 = .ok (.aload_n 0, 1) := by decide +kernel
theorem dX7_takeFrom_17 : decode cX7_takeFrom 17 = .ok (.aload_n 1, 1) := by decide +kernel
theorem dX7_takeFrom_18 : decode cX7_takeFrom 18 = .ok (.getfield 15, 3) := by decide +kernel
theorem dX7_takeFrom_21 : decode cX7_takeFrom 21 = .ok (.putfield 15, 3) := by decide +kernel
theorem dX7_takeFrom_24 : decode cX7_takeFrom 24 = .ok (.aload_n 1, 1) := by decide +kernel
theorem dX7_takeFrom_25 : decode cX7_takeFrom 25 = .ok (.getfield 18, 3) := by decide +kernel
theorem dX7_takeFrom_28 : decode cX7_takeFrom 28 = .ok (.iconst 0, 1) := by decide +kernel
theorem dX7_takeFrom_29 : decode cX7_takeFrom 29 = .ok (.aload_n 0, 1) := by decide +kernel
theorem dX7_takeFrom_30 : decode cX7_takeFrom 30 = .ok (.getfield 18, 3) := by decide +kernel
theorem dX7_takeFrom_33 : decode cX7_takeFrom 33 = .ok (.iconst 0, 1) := by decide +kernel
theorem dX7_takeFrom_34 : decode cX7_takeFrom 34 = .ok (.bipush 10, 2) := by decide +kernel
theorem dX7_takeFrom_36 : decode cX7_takeFrom 36 = .ok (.invokestatic 32, 3) := by decide +kernel
theorem dX7_takeFrom_39 : decode cX7_takeFrom 39 = .ok (.return_, 1) := by decide +kernel
theorem dX7_whyNoTalk_0 : decode cX7_whyNoTalk 0 = .ok (.iload_n 1, 1) := by decide +kernel
theorem dX7_whyNoTalk_1 : decode cX7_whyNoTalk 1 = .ok (.aload_n 0, 1) := by decide +kernel
theorem dX7_whyNoTalk_2 : decode cX7_whyNoTalk 2 = .ok (.getfield 22, 3) := by decide +kernel
theorem dX7_whyNoTalk_5 : decode cX7_whyNoTalk 5 = .ok (.getfield 42, 3) := by decide +kernel
theorem dX7_whyNoTalk_8 : decode cX7_whyNoTalk 8 = .ok (.if_icmp .ge 19, 3) := by decide +kernel
theorem dX7_whyNoTalk_11 : decode cX7_whyNoTalk 11 = .ok (.iload_n 2, 1) := by decide +kernel
theorem dX7_whyNoTalk_12 : decode cX7_whyNoTalk 12 = .ok (.aload_n 0, 1) := by decide +kernel
theorem dX7_whyNoTalk_13 : decode cX7_whyNoTalk 13 = .ok (.getfield 22, 3) := by decide +kernel
theorem dX7_whyNoTalk_16 : decode cX7_whyNoTalk 16 = .ok (.getfield 42, 3) := by decide +kernel
theorem dX7_whyNoTalk_19 : decode cX7_whyNoTalk 19 = .ok (.if_icmp .ge 8, 3) := by decide +kernel
theorem dX7_whyNoTalk_22 : decode cX7_whyNoTalk 22 = .ok (.iload_n 1, 1) := by decide +kernel
theorem dX7_whyNoTalk_23 : decode cX7_whyNoTalk 23 = .ok (.iload_n 2, 1) := by decide +kernel
theorem dX7_whyNoTalk_24 : decode cX7_whyNoTalk 24 = .ok (.if_icmp .ne 5, 3) := by decide +kernel
theorem dX7_whyNoTalk_27 : decode cX7_whyNoTalk 27 = .ok (.iconst 1, 1) := by decide +kernel
theorem dX7_whyNoTalk_28 : decode cX7_whyNoTalk 28 = .ok (.ireturn, 1) := by decide +kernel
theorem dX7_whyNoTalk_29 : decode cX7_whyNoTalk 29 = .ok (.iconst 1, 1) := by decide +kernel
theorem dX7_whyNoTalk_30 : decode cX7_whyNoTalk 30 = .ok (.iload_n 1, 1) := by decide +kernel
theorem dX7_whyNoTalk_31 : decode cX7_whyNoTalk 31 = .ok (.ishl, 1) := by decide +kernel
theorem dX7_whyNoTalk_32 : decode cX7_whyNoTalk 32 = .ok (.iconst 1, 1) := by decide +kernel
theorem dX7_whyNoTalk_33 : decode cX7_whyNoTalk 33 = .ok (.iload_n 2, 1) := by decide +kernel
theorem dX7_whyNoTalk_34 : decode cX7_whyNoTalk 34 = .ok (.ishl, 1) := by decide +kernel
theorem dX7_whyNoTalk_35 : decode cX7_whyNoTalk 35 = .ok (.ior, 1) := by decide +kernel
theorem dX7_whyNoTalk_36 : decode cX7_whyNoTalk 36 = .ok (.istore_n 3, 1) := by decide +kernel
theorem dX7_whyNoTalk_37 : decode cX7_whyNoTalk 37 = .ok (.aload_n 0, 1) := by decide +kernel
theorem dX7_whyNoTalk_38 : decode cX7_whyNoTalk 38 = .ok (.invokevirtual 65, 3) := by decide +kernel
theorem dX7_whyNoTalk_41 : decode cX7_whyNoTalk 41 = .ok (.iload_n 3, 1) := by decide +kernel
theorem dX7_whyNoTalk_42 : decode cX7_whyNoTalk 42 = .ok (.iand, 1) := by decide +kernel
theorem dX7_whyNoTalk_43 : decode cX7_whyNoTalk 43 = .ok (.iload_n 3, 1) := by decide +kernel
theorem dX7_whyNoTalk_44 : decode cX7_whyNoTalk 44 = .ok (.if_icmp .ne 7, 3) := by decide +kernel
theorem dX7_whyNoTalk_47 : decode cX7_whyNoTalk 47 = .ok (.iconst 0, 1) := by decide +kernel
theorem dX7_whyNoTalk_48 : decode cX7_whyNoTalk 48 = .ok (.goto 4, 3) := by decide +kernel
theorem dX7_whyNoTalk_51 : decode cX7_whyNoTalk 51 = .ok (.iconst 2, 1) := by decide +kernel
theorem dX7_whyNoTalk_52 : decode cX7_whyNoTalk 52 = .ok (.ireturn, 1) := by decide +kernel
theorem dX7_whyNot_0 : decode cX7_whyNot 0 = .ok (.lload_n 1, 1) := by decide +kernel
theorem dX7_whyNot_1 : decode cX7_whyNot 1 = .ok (.ldc2_w 51, 3) := by decide +kernel
theorem dX7_whyNot_4 : decode cX7_whyNot 4 = .ok (.lcmp, 1) := by decide +kernel
theorem dX7_whyNot_5 : decode cX7_whyNot 5 = .ok (.ifCond .ne 5, 3) := by decide +kernel
theorem dX7_whyNot_8 : decode cX7_whyNot 8 = .ok (.iconst 0, 1) := by decide +kernel
theorem dX7_whyNot_9 : decode cX7_whyNot 9 = .ok (.ireturn, 1) := by decide +kernel
theorem dX7_whyNot_10 : decode cX7_whyNot 10 = .ok (.lload_n 1, 1) := by decide +kernel
theorem dX7_whyNot_11 : decode cX7_whyNot 11 = .ok (.lconst 0, 1) := by decide +kernel
theorem dX7_whyNot_12 : decode cX7_whyNot 12 = .ok (.lcmp, 1) := by decide +kernel
theorem dX7_whyNot_13 : decode cX7_whyNot 13 = .ok (.ifCond .lt 26, 3) := by decide +kernel
theorem dX7_whyNot_16 : decode cX7_whyNot 16 = .ok (.lload_n 1, 1) := by decide +kernel
theorem dX7_whyNot_17 : decode cX7_whyNot 17 = .ok (.ldc2_w 53, 3) := by decide +kernel
theorem dX7_whyNot_20 : decode cX7_whyNot 20 = .ok (.lcmp, 1) := by decide +kernel
theorem dX7_whyNot_21 : decode cX7_whyNot 21 = .ok (.ifCond .ge 18, 3) := by decide +kernel
theorem dX7_whyNot_24 : decode cX7_whyNot 24 = .ok (.aload_n 0, 1) := by decide +kernel
theorem dX7_whyNot_25 : decode cX7_whyNot 25 = .ok (.lload_n 1, 1) := by decide +kernel
theorem dX7_whyNot_26 : decode cX7_whyNot 26 = .ok (.l2i, 1) := by decide +kernel
theorem dX7_whyNot_27 : decode cX7_whyNot 27 = .ok (.bipush 10, 2) := by decide +kernel
theorem dX7_whyNot_29 : decode cX7_whyNot 29 = .ok (.idiv, 1) := by decide +kernel
theorem dX7_whyNot_30 : decode cX7_whyNot 30 = .ok (.lload_n 1, 1) := by decide +kernel
theorem dX7_whyNot_31 : decode cX7_whyNot 31 = .ok (.l2i, 1) := by decide +kernel
theorem dX7_whyNot_32 : decode cX7_whyNot 32 = .ok (.bipush 10, 2) := by decide +kernel
theorem dX7_whyNot_34 : decode cX7_whyNot 34 = .ok (.irem, 1) := by decide +kernel
theorem dX7_whyNot_35 : decode cX7_whyNot 35 = .ok (.invokevirtual 55, 3) := by decide +kernel
theorem dX7_whyNot_38 : decode cX7_whyNot 38 = .ok (.ireturn, 1) := by decide +kernel
theorem dX7_whyNot_39 : decode cX7_whyNot 39 = .ok (.lload_n 1, 1) := by decide +kernel
theorem dX7_whyNot_40 : decode cX7_whyNot 40 = .ok (.ldc2_w 53, 3) := by decide +kernel
theorem dX7_whyNot_43 : decode cX7_whyNot 43 = .ok (.lcmp, 1) := by decide +kernel
theorem dX7_whyNot_44 : decode cX7_whyNot 44 = .ok (.ifCond .lt 15, 3) := by decide +kernel
theorem dX7_whyNot_47 : decode cX7_whyNot 47 = .ok (.lload_n 1, 1) := by decide +kernel
theorem dX7_whyNot_48 : decode cX7_whyNot 48 = .ok (.ldc2_w 59, 3) := by decide +kernel
theorem dX7_whyNot_51 : decode cX7_whyNot 51 = .ok (.lcmp, 1) := by decide +kernel
theorem dX7_whyNot_52 : decode cX7_whyNot 52 = .ok (.ifCond .ge 7, 3) := by decide +kernel
theorem dX7_whyNot_55 : decode cX7_whyNot 55 = .ok (.iconst 1, 1) := by decide +kernel
theorem dX7_whyNot_56 : decode cX7_whyNot 56 = .ok (.goto 4, 3) := by decide +kernel
theorem dX7_whyNot_59 : decode cX7_whyNot 59 = .ok (.iconst 0, 1) := by decide +kernel
theorem dX7_whyNot_60 : decode cX7_whyNot 60 = .ok (.istore_n 3, 1) := by decide +kernel
theorem dX7_whyNot_61 : decode cX7_whyNot 61 = .ok (.iload_n 3, 1) := by decide +kernel
theorem dX7_whyNot_62 : decode cX7_whyNot 62 = .ok (.ifCond .ne 21, 3) := by decide +kernel
theorem dX7_whyNot_65 : decode cX7_whyNot 65 = .ok (.lload_n 1, 1) := by decide +kernel
theorem dX7_whyNot_66 : decode cX7_whyNot 66 = .ok (.ldc2_w 61, 3) := by decide +kernel
theorem dX7_whyNot_69 : decode cX7_whyNot 69 = .ok (.lcmp, 1) := by decide +kernel
theorem dX7_whyNot_70 : decode cX7_whyNot 70 = .ok (.ifCond .lt 11, 3) := by decide +kernel
theorem dX7_whyNot_73 : decode cX7_whyNot 73 = .ok (.lload_n 1, 1) := by decide +kernel
theorem dX7_whyNot_74 : decode cX7_whyNot 74 = .ok (.ldc2_w 63, 3) := by decide +kernel
theorem dX7_whyNot_77 : decode cX7_whyNot 77 = .ok (.lcmp, 1) := by decide +kernel
theorem dX7_whyNot_78 : decode cX7_whyNot 78 = .ok (.ifCond .lt 5, 3) := by decide +kernel
theorem dX7_whyNot_81 : decode cX7_whyNot 81 = .ok (.iconst 1, 1) := by decide +kernel
theorem dX7_whyNot_82 : decode cX7_whyNot 82 = .ok (.ireturn, 1) := by decide +kernel
theorem dX7_whyNot_83 : decode cX7_whyNot 83 = .ok (.lload_n 1, 1) := by decide +kernel
theorem dX7_whyNot_84 : decode cX7_whyNot 84 = .ok (.l2i, 1) := by decide +kernel
theorem dX7_whyNot_85 : decode cX7_whyNot 85 = .ok (.bipush 10, 2) := by decide +kernel
theorem dX7_whyNot_87 : decode cX7_whyNot 87 = .ok (.irem, 1) := by decide +kernel
theorem dX7_whyNot_88 : decode cX7_whyNot 88 = .ok (.istore 4, 2) := by decide +kernel
theorem dX7_whyNot_90 : decode cX7_whyNot 90 = .ok (.iload 4, 2) := by decide +kernel
theorem dX7_whyNot_92 : decode cX7_whyNot 92 = .ok (.aload_n 0, 1) := by decide +kernel
theorem dX7_whyNot_93 : decode cX7_whyNot 93 = .ok (.getfield 22, 3) := by decide +kernel
theorem dX7_whyNot_96 : decode cX7_whyNot 96 = .ok (.getfield 42, 3) := by decide +kernel
theorem dX7_whyNot_99 : decode cX7_whyNot 99 = .ok (.if_icmp .lt 5, 3) := by decide +kernel
theorem dX7_whyNot_102 : decode cX7_whyNot 102 = .ok (.iconst 1, 1) := by decide +kernel
theorem dX7_whyNot_103 : decode cX7_whyNot 103 = .ok (.ireturn, 1) := by decide +kernel
theorem dX7_whyNot_104 : decode cX7_whyNot 104 = .ok (.aload_n 0, 1) := by decide +kernel
theorem dX7_whyNot_105 : decode cX7_whyNot 105 = .ok (.getfield 15, 3) := by decide +kernel
theorem dX7_whyNot_108 : decode cX7_whyNot 108 = .ok (.iload 4, 2) := by decide +kernel
theorem dX7_whyNot_110 : decode cX7_whyNot 110 = .ok (.ishr, 1) := by decide +kernel
theorem dX7_whyNot_111 : decode cX7_whyNot 111 = .ok (.iconst 1, 1) := by decide +kernel
theorem dX7_whyNot_112 : decode cX7_whyNot 112 = .ok (.iand, 1) := by decide +kernel
theorem dX7_whyNot_113 : decode cX7_whyNot 113 = .ok (.iconst 1, 1) := by decide +kernel
theorem dX7_whyNot_114 : decode cX7_whyNot 114 = .ok (.if_icmp .ne 7, 3) := by decide +kernel
theorem dX7_whyNot_117 : decode cX7_whyNot 117 = .ok (.iconst 1, 1) := by decide +kernel
theorem dX7_whyNot_118 : decode cX7_whyNot 118 = .ok (.goto 4, 3) := by decide +kernel
theorem dX7_whyNot_121 : decode cX7_whyNot 121 = .ok (.iconst 0, 1) := by decide +kernel
theorem dX7_whyNot_122 : decode cX7_whyNot 122 = .ok (.istore 5, 2) := by decide +kernel
theorem dX7_whyNot_124 : decode cX7_whyNot 124 = .ok (.iload 5, 2) := by decide +kernel
theorem dX7_whyNot_126 : decode cX7_whyNot 126 = .ok (.iload_n 3, 1) := by decide +kernel
theorem dX7_whyNot_127 : decode cX7_whyNot 127 = .ok (.if_icmp .ne 7, 3) := by decide +kernel
theorem dX7_whyNot_130 : decode cX7_whyNot 130 = .ok (.iconst 2, 1) := by decide +kernel
theorem dX7_whyNot_131 : decode cX7_whyNot 131 = .ok (.goto 4, 3) := by decide +kernel
theorem dX7_whyNot_134 : decode cX7_whyNot 134 = .ok (.iconst 0, 1) := by decide +kernel
theorem dX7_whyNot_135 : decode cX7_whyNot 135 = .ok (.ireturn, 1) := by decide +kernel
theorem dX9_lay_0 : decode cX9_lay 0 = .ok (.aload_n 0, 1) := by decide +kernel
theorem dX9_lay_1 : decode cX9_lay 1 = .ok (.iload_n 1, 1) := by decide +kernel
theorem dX9_lay_2 : decode cX9_lay 2 = .ok (.putfield 9, 3) := by decide +kernel
theorem dX9_lay_5 : decode cX9_lay 5 = .ok (.aload_n 0, 1) := by decide +kernel
theorem dX9_lay_6 : decode cX9_lay 6 = .ok (.iload_n 2, 1) := by decide +kernel
theorem dX9_lay_7 : decode cX9_lay 7 = .ok (.putfield 15, 3) := by decide +kernel
theorem dX9_lay_10 : decode cX9_lay 10 = .ok (.aload_n 0, 1) := by decide +kernel
theorem dX9_lay_11 : decode cX9_lay 11 = .ok (.getfield 18, 3) := by decide +kernel
theorem dX9_lay_14 : decode cX9_lay 14 = .ok (.lconst 0, 1) := by decide +kernel
theorem dX9_lay_15 : decode cX9_lay 15 = .ok (.invokestatic 22, 3) := by decide +kernel
theorem dX9_lay_18 : decode cX9_lay 18 = .ok (.return_, 1) := by decide +kernel
theorem dX9_put_0 : decode cX9_put 0 = .ok (.aload_n 0, 1) := by decide +kernel
theorem dX9_put_1 : decode cX9_put 1 = .ok (.getfield 9, 3) := by decide +kernel
theorem dX9_put_4 : decode cX9_put 4 = .ok (.tableswitch 66 0 2 #[28, 41, 54], 28) := by decide +kernel
theorem dX9_put_32 : decode cX9_put 32 = .ok (.aload_n 0, 1) := by decide +kernel
theorem dX9_put_33 : decode cX9_put 33 = .ok (.getfield 18, 3) := by decide +kernel
theorem dX9_put_36 : decode cX9_put 36 = .ok (.iload_n 1, 1) := by decide +kernel
theorem dX9_put_37 : decode cX9_put 37 = .ok (.lload_n 2, 1) := by decide +kernel
theorem dX9_put_38 : decode cX9_put 38 = .ok (.l2i, 1) := by decide +kernel
theorem dX9_put_39 : decode cX9_put 39 = .ok (.i2b, 1) := by decide +kernel
theorem dX9_put_40 : decode cX9_put 40 = .ok (.i2l, 1) := by decide +kernel
theorem dX9_put_41 : decode cX9_put 41 = .ok (.lastore, 1) := by decide +kernel
theorem dX9_put_42 : decode cX9_put 42 = .ok (.goto 35, 3) := by decide +kernel
theorem dX9_put_45 : decode cX9_put 45 = .ok (.aload_n 0, 1) := by decide +kernel
theorem dX9_put_46 : decode cX9_put 46 = .ok (.getfield 18, 3) := by decide +kernel
theorem dX9_put_49 : decode cX9_put 49 = .ok (.iload_n 1, 1) := by decide +kernel
theorem dX9_put_50 : decode cX9_put 50 = .ok (.lload_n 2, 1) := by decide +kernel
theorem dX9_put_51 : decode cX9_put 51 = .ok (.l2i, 1) := by decide +kernel
theorem dX9_put_52 : decode cX9_put 52 = .ok (.i2s, 1) := by decide +kernel
theorem dX9_put_53 : decode cX9_put 53 = .ok (.i2l, 1) := by decide +kernel
theorem dX9_put_54 : decode cX9_put 54 = .ok (.lastore, 1) := by decide +kernel
theorem dX9_put_55 : decode cX9_put 55 = .ok (.goto 22, 3) := by decide +kernel
theorem dX9_put_58 : decode cX9_put 58 = .ok (.aload_n 0, 1) := by decide +kernel
theorem dX9_put_59 : decode cX9_put 59 = .ok (.getfield 18, 3) := by decide +kernel
theorem dX9_put_62 : decode cX9_put 62 = .ok (.iload_n 1, 1) := by decide +kernel
theorem dX9_put_63 : decode cX9_put 63 = .ok (.lload_n 2, 1) := by decide +kernel
theorem dX9_put_64 : decode cX9_put 64 = .ok (.l2i, 1) := by decide +kernel
theorem dX9_put_65 : decode cX9_put 65 = .ok (.i2l, 1) := by decide +kernel
theorem dX9_put_66 : decode cX9_put 66 = .ok (.lastore, 1) := by decide +kernel
theorem dX9_put_67 : decode cX9_put 67 = .ok (.goto 10, 3) := by decide +kernel
theorem dX9_put_70 : decode cX9_put 70 = .ok (.aload_n 0, 1) := by decide +kernel
theorem dX9_put_71 : decode cX9_put 71 = .ok (.getfield 18, 3) := by decide +kernel
theorem dX9_put_74 : decode cX9_put 74 = .ok (.iload_n 1, 1) := by decide +kernel
theorem dX9_put_75 : decode cX9_put 75 = .ok (.lload_n 2, 1) := by decide +kernel
theorem dX9_put_76 : decode cX9_put 76 = .ok (.lastore, 1) := by decide +kernel
theorem dX9_put_77 : decode cX9_put 77 = .ok (.return_, 1) := by decide +kernel
