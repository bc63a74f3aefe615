theorem dX11_areTwoPeople_0 : decode cX11_areTwoPeople 0 = .ok (.aload_n 0, 1) := by decide +kernel
theorem dX11_areTwoPeople_1 : decode cX11_areTwoPeople 1 = .ok (.iload_n 1, 1) := by decide +kernel
theorem dX11_areTwoPeople_2 : decode cX11_areTwoPeople 2 = .ok (.invokevirtual 122, 3) := by decide +kernel
theorem dX11_areTwoPeople_5 : decode cX11_areTwoPeople 5 = .ok (.ifCond .eq 20, 3) := by decide +kernel
theorem dX11_areTwoPeople_8 : decode cX11_areTwoPeople 8 = .ok (.aload_n 0, 1) := by decide +kernel
theorem dX11_areTwoPeople_9 : decode cX11_areTwoPeople 9 = .ok (.iload_n 2, 1) := by decide +kernel
theorem dX11_areTwoPeople_10 : decode cX11_areTwoPeople 10 = .ok (.invokevirtual 122, 3) := by decide +kernel
theorem dX11_areTwoPeople_13 : decode cX11_areTwoPeople 13 = .ok (.ifCond .eq 12, 3) := by decide +kernel
theorem dX11_areTwoPeople_16 : decode cX11_areTwoPeople 16 = .ok (.iload_n 1, 1) := by decide +kernel
theorem dX11_areTwoPeople_17 : decode cX11_areTwoPeople 17 = .ok (.iload_n 2, 1) := by decide +kernel
theorem dX11_areTwoPeople_18 : decode cX11_areTwoPeople 18 = .ok (.if_icmp .eq 7, 3) := by decide +kernel
theorem dX11_areTwoPeople_21 : decode cX11_areTwoPeople 21 = .ok (.iconst 1, 1) := by decide +kernel
theorem dX11_areTwoPeople_22 : decode cX11_areTwoPeople 22 = .ok (.goto 4, 3) := by decide +kernel
theorem dX11_areTwoPeople_25 : decode cX11_areTwoPeople 25 = .ok (.iconst 0, 1) := by decide +kernel
theorem dX11_areTwoPeople_26 : decode cX11_areTwoPeople 26 = .ok (.ireturn, 1) := by decide +kernel
theorem dX11_ayes_0 : decode cX11_ayes 0 = .ok (.aload_n 0, 1) := by decide +kernel
theorem dX11_ayes_1 : decode cX11_ayes 1 = .ok (.iload_n 1, 1) := by decide +kernel
theorem dX11_ayes_2 : decode cX11_ayes 2 = .ok (.invokevirtual 316, 3) := by decide +kernel
theorem dX11_ayes_5 : decode cX11_ayes 5 = .ok (.ifCond .eq 11, 3) := by decide +kernel
theorem dX11_ayes_8 : decode cX11_ayes 8 = .ok (.aload_n 0, 1) := by decide +kernel
theorem dX11_ayes_9 : decode cX11_ayes 9 = .ok (.iload_n 1, 1) := by decide +kernel
theorem dX11_ayes_10 : decode cX11_ayes 10 = .ok (.invokevirtual 319, 3) := by decide +kernel
theorem dX11_ayes_13 : decode cX11_ayes 13 = .ok (.goto 5, 3) := by decide +kernel
theorem dX11_ayes_16 : decode cX11_ayes 16 = .ok (.bipush (-3), 2) := by decide +kernel
theorem dX11_ayes_18 : decode cX11_ayes 18 = .ok (.ireturn, 1) := by decide +kernel
theorem dX11_bar_0 : decode cX11_bar 0 = .ok (.iload_n 2, 1) := by decide +kernel
theorem dX11_bar_1 : decode cX11_bar 1 = .ok (.ifCond .eq 11, 3) := by decide +kernel
theorem dX11_bar_4 : decode cX11_bar 4 = .ok (.iload_n 2, 1) := by decide +kernel
theorem dX11_bar_5 : decode cX11_bar 5 = .ok (.iconst 1, 1) := by decide +kernel
theorem dX11_bar_6 : decode cX11_bar 6 = .ok (.if_icmp .eq 6, 3) := by decide +kernel
theorem dX11_bar_9 : decode cX11_bar 9 = .ok (.bipush (-2), 2) := by decide +kernel
theorem dX11_bar_11 : decode cX11_bar 11 = .ok (.ireturn, 1) := by decide +kernel
theorem dX11_bar_12 : decode cX11_bar 12 = .ok (.aload_n 0, 1) := by decide +kernel
theorem dX11_bar_13 : decode cX11_bar 13 = .ok (.iload_n 1, 1) := by decide +kernel
theorem dX11_bar_14 : decode cX11_bar 14 = .ok (.invokevirtual 257, 3) := by decide +kernel
theorem dX11_bar_17 : decode cX11_bar 17 = .ok (.ifCond .ne 6, 3) := by decide +kernel
theorem dX11_bar_20 : decode cX11_bar 20 = .ok (.bipush (-3), 2) := by decide +kernel
theorem dX11_bar_22 : decode cX11_bar 22 = .ok (.ireturn, 1) := by decide +kernel
theorem dX11_bar_23 : decode cX11_bar 23 = .ok (.aload_n 0, 1) := by decide +kernel
theorem dX11_bar_24 : decode cX11_bar 24 = .ok (.invokevirtual 260, 3) := by decide +kernel
theorem dX11_bar_27 : decode cX11_bar 27 = .ok (.aload_n 0, 1) := by decide +kernel
theorem dX11_bar_28 : decode cX11_bar 28 = .ok (.getfield 56, 3) := by decide +kernel
theorem dX11_bar_31 : decode cX11_bar 31 = .ok (.aload_n 0, 1) := by decide +kernel
theorem dX11_bar_32 : decode cX11_bar 32 = .ok (.getfield 83, 3) := by decide +kernel
theorem dX11_bar_35 : decode cX11_bar 35 = .ok (.getfield 126, 3) := by decide +kernel
theorem dX11_bar_38 : decode cX11_bar 38 = .ok (.getfield 149, 3) := by decide +kernel
theorem dX11_bar_41 : decode cX11_bar 41 = .ok (.invokevirtual 263, 3) := by decide +kernel
theorem dX11_bar_44 : decode cX11_bar 44 = .ok (.aload_n 0, 1) := by decide +kernel
theorem dX11_bar_45 : decode cX11_bar 45 = .ok (.getfield 56, 3) := by decide +kernel
theorem dX11_bar_48 : decode cX11_bar 48 = .ok (.iload_n 1, 1) := by decide +kernel
theorem dX11_bar_49 : decode cX11_bar 49 = .ok (.invokevirtual 283, 3) := by decide +kernel
theorem dX11_bar_52 : decode cX11_bar 52 = .ok (.istore_n 3, 1) := by decide +kernel
theorem dX11_bar_53 : decode cX11_bar 53 = .ok (.iload_n 2, 1) := by decide +kernel
theorem dX11_bar_54 : decode cX11_bar 54 = .ok (.ifCond .ne 10, 3) := by decide +kernel
theorem dX11_bar_57 : decode cX11_bar 57 = .ok (.iload_n 3, 1) := by decide +kernel
theorem dX11_bar_58 : decode cX11_bar 58 = .ok (.invokestatic 193, 3) := by decide +kernel
theorem dX11_bar_61 : decode cX11_bar 61 = .ok (.goto 4, 3) := by decide +kernel
theorem dX11_bar_64 : decode cX11_bar 64 = .ok (.iload_n 3, 1) := by decide +kernel
theorem dX11_bar_65 : decode cX11_bar 65 = .ok (.ireturn, 1) := by decide +kernel
theorem dX11_bestDay_0 : decode cX11_bestDay 0 = .ok (.iconst (-1), 1) := by decide +kernel
theorem dX11_bestDay_1 : decode cX11_bestDay 1 = .ok (.istore_n 1, 1) := by decide +kernel
theorem dX11_bestDay_2 : decode cX11_bestDay 2 = .ok (.iconst 0, 1) := by decide +kernel
theorem dX11_bestDay_3 : decode cX11_bestDay 3 = .ok (.istore_n 2, 1) := by decide +kernel
theorem dX11_bestDay_4 : decode cX11_bestDay 4 = .ok (.iconst 0, 1) := by decide +kernel
theorem dX11_bestDay_5 : decode cX11_bestDay 5 = .ok (.istore_n 3, 1) := by decide +kernel
theorem dX11_bestDay_6 : decode cX11_bestDay 6 = .ok (.iload_n 3, 1) := by decide +kernel
theorem dX11_bestDay_7 : decode cX11_bestDay 7 = .ok (.bipush 7, 2) := by decide +kernel
theorem dX11_bestDay_9 : decode cX11_bestDay 9 = .ok (.if_icmp .ge 116, 3) := by decide +kernel
theorem dX11_bestDay_12 : decode cX11_bestDay 12 = .ok (.aload_n 0, 1) := by decide +kernel
theorem dX11_bestDay_13 : decode cX11_bestDay 13 = .ok (.getfield 56, 3) := by decide +kernel
theorem dX11_bestDay_16 : decode cX11_bestDay 16 = .ok (.aload_n 0, 1) := by decide +kernel
theorem dX11_bestDay_17 : decode cX11_bestDay 17 = .ok (.getfield 83, 3) := by decide +kernel
theorem dX11_bestDay_20 : decode cX11_bestDay 20 = .ok (.aload_n 0, 1) := by decide +kernel
theorem dX11_bestDay_21 : decode cX11_bestDay 21 = .ok (.getfield 83, 3) := by decide +kernel
theorem dX11_bestDay_24 : decode cX11_bestDay 24 = .ok (.getfield 165, 3) := by decide +kernel
theorem dX11_bestDay_27 : decode cX11_bestDay 27 = .ok (.iload_n 3, 1) := by decide +kernel
theorem dX11_bestDay_28 : decode cX11_bestDay 28 = .ok (.iadd, 1) := by decide +kernel
theorem dX11_bestDay_29 : decode cX11_bestDay 29 = .ok (.aload_n 0, 1) := by decide +kernel
theorem dX11_bestDay_30 : decode cX11_bestDay 30 = .ok (.getfield 49, 3) := by decide +kernel
theorem dX11_bestDay_33 : decode cX11_bestDay 33 = .ok (.invokevirtual 243, 3) := by decide +kernel
theorem dX11_bestDay_36 : decode cX11_bestDay 36 = .ok (.aload_n 0, 1) := by decide +kernel
theorem dX11_bestDay_37 : decode cX11_bestDay 37 = .ok (.getfield 56, 3) := by decide +kernel
theorem dX11_bestDay_40 : decode cX11_bestDay 40 = .ok (.aload_n 0, 1) := by decide +kernel
theorem dX11_bestDay_41 : decode cX11_bestDay 41 = .ok (.getfield 83, 3) := by decide +kernel
theorem dX11_bestDay_44 : decode cX11_bestDay 44 = .ok (.getfield 126, 3) := by decide +kernel
theorem dX11_bestDay_47 : decode cX11_bestDay 47 = .ok (.getfield 149, 3) := by decide +kernel
theorem dX11_bestDay_50 : decode cX11_bestDay 50 = .ok (.invokevirtual 263, 3) := by decide +kernel
theorem dX11_bestDay_53 : decode cX11_bestDay 53 = .ok (.iload_n 3, 1) := by decide +kernel
theorem dX11_bestDay_54 : decode cX11_bestDay 54 = .ok (.istore 4, 2) := by decide +kernel
theorem dX11_bestDay_56 : decode cX11_bestDay 56 = .ok (.iload 4, 2) := by decide +kernel
theorem dX11_bestDay_58 : decode cX11_bestDay 58 = .ok (.bipush 100, 2) := by decide +kernel
theorem dX11_bestDay_60 : decode cX11_bestDay 60 = .ok (.if_icmp .ge 59, 3) := by decide +kernel
theorem dX11_bestDay_63 : decode cX11_bestDay 63 = .ok (.aload_n 0, 1) := by decide +kernel
theorem dX11_bestDay_64 : decode cX11_bestDay 64 = .ok (.getfield 56, 3) := by decide +kernel
theorem dX11_bestDay_67 : decode cX11_bestDay 67 = .ok (.aload_n 0, 1) := by decide +kernel
theorem dX11_bestDay_68 : decode cX11_bestDay 68 = .ok (.getfield 83, 3) := by decide +kernel
theorem dX11_bestDay_71 : decode cX11_bestDay 71 = .ok (.aload_n 0, 1) := by decide +kernel
theorem dX11_bestDay_72 : decode cX11_bestDay 72 = .ok (.getfield 83, 3) := by decide +kernel
theorem dX11_bestDay_75 : decode cX11_bestDay 75 = .ok (.getfield 165, 3) := by decide +kernel
theorem dX11_bestDay_78 : decode cX11_bestDay 78 = .ok (.iload 4, 2) := by decide +kernel
theorem dX11_bestDay_80 : decode cX11_bestDay 80 = .ok (.iadd, 1) := by decide +kernel
theorem dX11_bestDay_81 : decode cX11_bestDay 81 = .ok (.invokevirtual 168, 3) := by decide +kernel
theorem dX11_bestDay_84 : decode cX11_bestDay 84 = .ok (.invokevirtual 267, 3) := by decide +kernel
theorem dX11_bestDay_87 : decode cX11_bestDay 87 = .ok (.istore 5, 2) := by decide +kernel
theorem dX11_bestDay_89 : decode cX11_bestDay 89 = .ok (.iload 5, 2) := by decide +kernel
theorem dX11_bestDay_91 : decode cX11_bestDay 91 = .ok (.iload_n 1, 1) := by decide +kernel
theorem dX11_bestDay_92 : decode cX11_bestDay 92 = .ok (.if_icmp .gt 15, 3) := by decide +kernel
theorem dX11_bestDay_95 : decode cX11_bestDay 95 = .ok (.iload 5, 2) := by decide +kernel
theorem dX11_bestDay_97 : decode cX11_bestDay 97 = .ok (.iload_n 1, 1) := by decide +kernel
theorem dX11_bestDay_98 : decode cX11_bestDay 98 = .ok (.if_icmp .ne 15, 3) := by decide +kernel
theorem dX11_bestDay_101 : decode cX11_bestDay 101 = .ok (.iload 4, 2) := by decide +kernel
theorem dX11_bestDay_103 : decode cX11_bestDay 103 = .ok (.iload_n 2, 1) := by decide +kernel
theorem dX11_bestDay_104 : decode cX11_bestDay 104 = .ok (.if_icmp .ge 9, 3) := by decide +kernel
theorem dX11_bestDay_107 : decode cX11_bestDay 107 = .ok (.iload 5, 2) := by decide +kernel
theorem dX11_bestDay_109 : decode cX11_bestDay 109 = .ok (.istore_n 1, 1) := by decide +kernel
theorem dX11_bestDay_110 : decode cX11_bestDay 110 = .ok (.iload 4, 2) := by decide +kernel
theorem dX11_bestDay_112 : decode cX11_bestDay 112 = .ok (.istore_n 2, 1) := by decide +kernel
theorem dX11_bestDay_113 : decode cX11_bestDay 113 = .ok (.iinc 4 7, 3) := by decide +kernel
theorem dX11_bestDay_116 : decode cX11_bestDay 116 = .ok (.goto (-60), 3) := by decide +kernel
theorem dX11_bestDay_119 : decode cX11_bestDay 119 = .ok (.iinc 3 1, 3) := by decide +kernel
theorem dX11_bestDay_122 : decode cX11_bestDay 122 = .ok (.goto (-116), 3) := by decide +kernel
theorem dX11_bestDay_125 : decode cX11_bestDay 125 = .ok (.iload_n 2, 1) := by decide +kernel
theorem dX11_bestDay_126 : decode cX11_bestDay 126 = .ok (.ireturn, 1) := by decide +kernel
theorem dX11_call_0 : decode cX11_call 0 = .ok (.aload_n 0, 1) := by decide +kernel
theorem dX11_call_1 : decode cX11_call 1 = .ok (.sipush 200, 3) := by decide +kernel
theorem dX11_call_4 : decode cX11_call 4 = .ok (.iload_n 1, 1) := by decide +kernel
theorem dX11_call_5 : decode cX11_call 5 = .ok (.invokevirtual 190, 3) := by decide +kernel
theorem dX11_call_8 : decode cX11_call 8 = .ok (.ireturn, 1) := by decide +kernel
theorem dX11_chance_0 : decode cX11_chance 0 = .ok (.iload_n 2, 1) := by decide +kernel
theorem dX11_chance_1 : decode cX11_chance 1 = .ok (.ifCond .eq 12, 3) := by decide +kernel
theorem dX11_chance_4 : decode cX11_chance 4 = .ok (.iload_n 2, 1) := by decide +kernel
theorem dX11_chance_5 : decode cX11_chance 5 = .ok (.iconst 1, 1) := by decide +kernel
theorem dX11_chance_6 : decode cX11_chance 6 = .ok (.if_icmp .eq 7, 3) := by decide +kernel
theorem dX11_chance_9 : decode cX11_chance 9 = .ok (.ldc2_w 343, 3) := by decide +kernel
theorem dX11_chance_12 : decode cX11_chance 12 = .ok (.lreturn, 1) := by decide +kernel
theorem dX11_chance_13 : decode cX11_chance 13 = .ok (.aload_n 0, 1) := by decide +kernel
theorem dX11_chance_14 : decode cX11_chance 14 = .ok (.iload_n 1, 1) := by decide +kernel
theorem dX11_chance_15 : decode cX11_chance 15 = .ok (.invokevirtual 257, 3) := by decide +kernel
theorem dX11_chance_18 : decode cX11_chance 18 = .ok (.ifCond .ne 7, 3) := by decide +kernel
theorem dX11_chance_21 : decode cX11_chance 21 = .ok (.ldc2_w 345, 3) := by decide +kernel
theorem dX11_chance_24 : decode cX11_chance 24 = .ok (.lreturn, 1) := by decide +kernel
theorem dX11_chance_25 : decode cX11_chance 25 = .ok (.aload_n 0, 1) := by decide +kernel
theorem dX11_chance_26 : decode cX11_chance 26 = .ok (.invokevirtual 260, 3) := by decide +kernel
theorem dX11_chance_29 : decode cX11_chance 29 = .ok (.aload_n 0, 1) := by decide +kernel
theorem dX11_chance_30 : decode cX11_chance 30 = .ok (.getfield 56, 3) := by decide +kernel
theorem dX11_chance_33 : decode cX11_chance 33 = .ok (.invokevirtual 277, 3) := by decide +kernel
theorem dX11_chance_36 : decode cX11_chance 36 = .ok (.aload_n 0, 1) := by decide +kernel
theorem dX11_chance_37 : decode cX11_chance 37 = .ok (.getfield 56, 3) := by decide +kernel
theorem dX11_chance_40 : decode cX11_chance 40 = .ok (.iload_n 1, 1) := by decide +kernel
theorem dX11_chance_41 : decode cX11_chance 41 = .ok (.aload_n 0, 1) := by decide +kernel
theorem dX11_chance_42 : decode cX11_chance 42 = .ok (.getfield 83, 3) := by decide +kernel
theorem dX11_chance_45 : decode cX11_chance 45 = .ok (.getfield 126, 3) := by decide +kernel
theorem dX11_chance_48 : decode cX11_chance 48 = .ok (.getfield 146, 3) := by decide +kernel
theorem dX11_chance_51 : decode cX11_chance 51 = .ok (.invokevirtual 347, 3) := by decide +kernel
theorem dX11_chance_54 : decode cX11_chance 54 = .ok (.lstore_n 3, 1) := by decide +kernel
theorem dX11_chance_55 : decode cX11_chance 55 = .ok (.lconst 1, 1) := by decide +kernel
theorem dX11_chance_56 : decode cX11_chance 56 = .ok (.lstore 5, 2) := by decide +kernel
theorem dX11_chance_58 : decode cX11_chance 58 = .ok (.iload_n 1, 1) := by decide +kernel
theorem dX11_chance_59 : decode cX11_chance 59 = .ok (.invokestatic 193, 3) := by decide +kernel
theorem dX11_chance_62 : decode cX11_chance 62 = .ok (.istore 7, 2) := by decide +kernel
theorem dX11_chance_64 : decode cX11_chance 64 = .ok (.iload 7, 2) := by decide +kernel
theorem dX11_chance_66 : decode cX11_chance 66 = .ok (.ifCond .le 17, 3) := by decide +kernel
theorem dX11_chance_69 : decode cX11_chance 69 = .ok (.lload 5, 2) := by decide +kernel
theorem dX11_chance_71 : decode cX11_chance 71 = .ok (.ldc2_w 351, 3) := by decide +kernel
theorem dX11_chance_74 : decode cX11_chance 74 = .ok (.lmul, 1) := by decide +kernel
theorem dX11_chance_75 : decode cX11_chance 75 = .ok (.lstore 5, 2) := by decide +kernel
theorem dX11_chance_77 : decode cX11_chance 77 = .ok (.iinc 7 (-1), 3) := by decide +kernel
theorem dX11_chance_80 : decode cX11_chance 80 = .ok (.goto (-16), 3) := by decide +kernel
theorem dX11_chance_83 : decode cX11_chance 83 = .ok (.lload_n 3, 1) := by decide +kernel
theorem dX11_chance_84 : decode cX11_chance 84 = .ok (.lload 5, 2) := by decide +kernel
theorem dX11_chance_86 : decode cX11_chance 86 = .ok (.invokestatic 353, 3) := by decide +kernel
theorem dX11_chance_89 : decode cX11_chance 89 = .ok (.lstore 7, 2) := by decide +kernel
theorem dX11_chance_91 : decode cX11_chance 91 = .ok (.lload 7, 2) := by decide +kernel
theorem dX11_chance_93 : decode cX11_chance 93 = .ok (.lconst 0, 1) := by decide +kernel
theorem dX11_chance_94 : decode cX11_chance 94 = .ok (.lcmp, 1) := by decide +kernel
theorem dX11_chance_95 : decode cX11_chance 95 = .ok (.ifCond .ne 5, 3) := by decide +kernel
theorem dX11_chance_98 : decode cX11_chance 98 = .ok (.lconst 0, 1) := by decide +kernel
theorem dX11_chance_99 : decode cX11_chance 99 = .ok (.lreturn, 1) := by decide +kernel
theorem dX11_chance_100 : decode cX11_chance 100 = .ok (.iload_n 2, 1) := by decide +kernel
theorem dX11_chance_101 : decode cX11_chance 101 = .ok (.ifCond .ne 10, 3) := by decide +kernel
theorem dX11_chance_104 : decode cX11_chance 104 = .ok (.lload_n 3, 1) := by decide +kernel
theorem dX11_chance_105 : decode cX11_chance 105 = .ok (.lload 7, 2) := by decide +kernel
theorem dX11_chance_107 : decode cX11_chance 107 = .ok (.ldiv, 1) := by decide +kernel
theorem dX11_chance_108 : decode cX11_chance 108 = .ok (.goto 8, 3) := by decide +kernel
theorem dX11_chance_111 : decode cX11_chance 111 = .ok (.lload 5, 2) := by decide +kernel
theorem dX11_chance_113 : decode cX11_chance 113 = .ok (.lload 7, 2) := by decide +kernel
theorem dX11_chance_115 : decode cX11_chance 115 = .ok (.ldiv, 1) := by decide +kernel
theorem dX11_chance_116 : decode cX11_chance 116 = .ok (.lreturn, 1) := by decide +kernel
theorem dX11_commonDivisor_0 : decode cX11_commonDivisor 0 = .ok (.lload_n 0, 1) := by decide +kernel
theorem dX11_commonDivisor_1 : decode cX11_commonDivisor 1 = .ok (.lstore 4, 2) := by decide +kernel
theorem dX11_commonDivisor_3 : decode cX11_commonDivisor 3 = .ok (.lload_n 2, 1) := by decide +kernel
theorem dX11_commonDivisor_4 : decode cX11_commonDivisor 4 = .ok (.lstore 6, 2) := by decide +kernel
theorem dX11_commonDivisor_6 : decode cX11_commonDivisor 6 = .ok (.iconst 0, 1) := by decide +kernel
theorem dX11_commonDivisor_7 : decode cX11_commonDivisor 7 = .ok (.istore 8, 2) := by decide +kernel
theorem dX11_commonDivisor_9 : decode cX11_commonDivisor 9 = .ok (.iload 8, 2) := by decide +kernel
theorem dX11_commonDivisor_11 : decode cX11_commonDivisor 11 = .ok (.sipush 200, 3) := by decide +kernel
theorem dX11_commonDivisor_14 : decode cX11_commonDivisor 14 = .ok (.if_icmp .ge 31, 3) := by decide +kernel
theorem dX11_commonDivisor_17 : decode cX11_commonDivisor 17 = .ok (.lload 6, 2) := by decide +kernel
theorem dX11_commonDivisor_19 : decode cX11_commonDivisor 19 = .ok (.lconst 0, 1) := by decide +kernel
theorem dX11_commonDivisor_20 : decode cX11_commonDivisor 20 = .ok (.lcmp, 1) := by decide +kernel
theorem dX11_commonDivisor_21 : decode cX11_commonDivisor 21 = .ok (.ifCond .eq 24, 3) := by decide +kernel
theorem dX11_commonDivisor_24 : decode cX11_commonDivisor 24 = .ok (.lload 4, 2) := by decide +kernel
theorem dX11_commonDivisor_26 : decode cX11_commonDivisor 26 = .ok (.lload 6, 2) := by decide +kernel
theorem dX11_commonDivisor_28 : decode cX11_commonDivisor 28 = .ok (.lrem, 1) := by decide +kernel
theorem dX11_commonDivisor_29 : decode cX11_commonDivisor 29 = .ok (.lstore 9, 2) := by decide +kernel
theorem dX11_commonDivisor_31 : decode cX11_commonDivisor 31 = .ok (.lload 6, 2) := by decide +kernel
theorem dX11_commonDivisor_33 : decode cX11_commonDivisor 33 = .ok (.lstore 4, 2) := by decide +kernel
theorem dX11_commonDivisor_35 : decode cX11_commonDivisor 35 = .ok (.lload 9, 2) := by decide +kernel
theorem dX11_commonDivisor_37 : decode cX11_commonDivisor 37 = .ok (.lstore 6, 2) := by decide +kernel
theorem dX11_commonDivisor_39 : decode cX11_commonDivisor 39 = .ok (.iinc 8 1, 3) := by decide +kernel
theorem dX11_commonDivisor_42 : decode cX11_commonDivisor 42 = .ok (.goto (-33), 3) := by decide +kernel
theorem dX11_commonDivisor_45 : decode cX11_commonDivisor 45 = .ok (.lload 4, 2) := by decide +kernel
theorem dX11_commonDivisor_47 : decode cX11_commonDivisor 47 = .ok (.lreturn, 1) := by decide +kernel
theorem dX11_count_0 : decode cX11_count 0 = .ok (.iload_n 1, 1) := by decide +kernel
theorem dX11_count_1 : decode cX11_count 1 = .ok (.tableswitch 126 0 8 #[51, 62, 73, 81, 89, 97, 102, 110, 115], 51) := by decide +kernel
theorem dX11_count_52 : decode cX11_count 52 = .ok (.aload_n 0, 1) := by decide +kernel
theorem dX11_count_53 : decode cX11_count 53 = .ok (.getfield 83, 3) := by decide +kernel
theorem dX11_count_56 : decode cX11_count 56 = .ok (.getfield 126, 3) := by decide +kernel
theorem dX11_count_59 : decode cX11_count 59 = .ok (.getfield 368, 3) := by decide +kernel
theorem dX11_count_62 : decode cX11_count 62 = .ok (.ireturn, 1) := by decide +kernel
theorem dX11_count_63 : decode cX11_count 63 = .ok (.aload_n 0, 1) := by decide +kernel
theorem dX11_count_64 : decode cX11_count 64 = .ok (.getfield 83, 3) := by decide +kernel
theorem dX11_count_67 : decode cX11_count 67 = .ok (.getfield 126, 3) := by decide +kernel
theorem dX11_count_70 : decode cX11_count 70 = .ok (.getfield 159, 3) := by decide +kernel
theorem dX11_count_73 : decode cX11_count 73 = .ok (.ireturn, 1) := by decide +kernel
theorem dX11_count_74 : decode cX11_count 74 = .ok (.aload_n 0, 1) := by decide +kernel
theorem dX11_count_75 : decode cX11_count 75 = .ok (.getfield 83, 3) := by decide +kernel
theorem dX11_count_78 : decode cX11_count 78 = .ok (.invokevirtual 155, 3) := by decide +kernel
theorem dX11_count_81 : decode cX11_count 81 = .ok (.ireturn, 1) := by decide +kernel
theorem dX11_count_82 : decode cX11_count 82 = .ok (.aload_n 0, 1) := by decide +kernel
theorem dX11_count_83 : decode cX11_count 83 = .ok (.getfield 83, 3) := by decide +kernel
theorem dX11_count_86 : decode cX11_count 86 = .ok (.getfield 152, 3) := by decide +kernel
theorem dX11_count_89 : decode cX11_count 89 = .ok (.ireturn, 1) := by decide +kernel
theorem dX11_count_90 : decode cX11_count 90 = .ok (.aload_n 0, 1) := by decide +kernel
theorem dX11_count_91 : decode cX11_count 91 = .ok (.getfield 83, 3) := by decide +kernel
theorem dX11_count_94 : decode cX11_count 94 = .ok (.getfield 165, 3) := by decide +kernel
theorem dX11_count_97 : decode cX11_count 97 = .ok (.ireturn, 1) := by decide +kernel
theorem dX11_count_98 : decode cX11_count 98 = .ok (.aload_n 0, 1) := by decide +kernel
theorem dX11_count_99 : decode cX11_count 99 = .ok (.invokevirtual 371, 3) := by decide +kernel
theorem dX11_count_102 : decode cX11_count 102 = .ok (.ireturn, 1) := by decide +kernel
theorem dX11_count_103 : decode cX11_count 103 = .ok (.aload_n 0, 1) := by decide +kernel
theorem dX11_count_104 : decode cX11_count 104 = .ok (.getfield 96, 3) := by decide +kernel
theorem dX11_count_107 : decode cX11_count 107 = .ok (.getfield 216, 3) := by decide +kernel
theorem dX11_count_110 : decode cX11_count 110 = .ok (.ireturn, 1) := by decide +kernel
theorem dX11_count_111 : decode cX11_count 111 = .ok (.aload_n 0, 1) := by decide +kernel
theorem dX11_count_112 : decode cX11_count 112 = .ok (.getfield 13, 3) := by decide +kernel
theorem dX11_count_115 : decode cX11_count 115 = .ok (.ireturn, 1) := by decide +kernel
theorem dX11_count_116 : decode cX11_count 116 = .ok (.aload_n 0, 1) := by decide +kernel
theorem dX11_count_117 : decode cX11_count 117 = .ok (.getfield 83, 3) := by decide +kernel
theorem dX11_count_120 : decode cX11_count 120 = .ok (.getfield 126, 3) := by decide +kernel
theorem dX11_count_123 : decode cX11_count 123 = .ok (.getfield 119, 3) := by decide +kernel
theorem dX11_count_126 : decode cX11_count 126 = .ok (.ireturn, 1) := by decide +kernel
theorem dX11_count_127 : decode cX11_count 127 = .ok (.iconst (-1), 1) := by decide +kernel
theorem dX11_count_128 : decode cX11_count 128 = .ok (.ireturn, 1) := by decide +kernel
theorem dX11_cover_0 : decode cX11_cover 0 = .ok (.iload_n 2, 1) := by decide +kernel
theorem dX11_cover_1 : decode cX11_cover 1 = .ok (.ifCond .eq 11, 3) := by decide +kernel
theorem dX11_cover_4 : decode cX11_cover 4 = .ok (.iload_n 2, 1) := by decide +kernel
theorem dX11_cover_5 : decode cX11_cover 5 = .ok (.iconst 1, 1) := by decide +kernel
theorem dX11_cover_6 : decode cX11_cover 6 = .ok (.if_icmp .eq 6, 3) := by decide +kernel
theorem dX11_cover_9 : decode cX11_cover 9 = .ok (.bipush (-2), 2) := by decide +kernel
theorem dX11_cover_11 : decode cX11_cover 11 = .ok (.ireturn, 1) := by decide +kernel
theorem dX11_cover_12 : decode cX11_cover 12 = .ok (.aload_n 0, 1) := by decide +kernel
theorem dX11_cover_13 : decode cX11_cover 13 = .ok (.iload_n 1, 1) := by decide +kernel
theorem dX11_cover_14 : decode cX11_cover 14 = .ok (.invokevirtual 257, 3) := by decide +kernel
theorem dX11_cover_17 : decode cX11_cover 17 = .ok (.ifCond .ne 6, 3) := by decide +kernel
theorem dX11_cover_20 : decode cX11_cover 20 = .ok (.bipush (-3), 2) := by decide +kernel
theorem dX11_cover_22 : decode cX11_cover 22 = .ok (.ireturn, 1) := by decide +kernel
theorem dX11_cover_23 : decode cX11_cover 23 = .ok (.aload_n 0, 1) := by decide +kernel
theorem dX11_cover_24 : decode cX11_cover 24 = .ok (.invokevirtual 260, 3) := by decide +kernel
theorem dX11_cover_27 : decode cX11_cover 27 = .ok (.aload_n 0, 1) := by decide +kernel
theorem dX11_cover_28 : decode cX11_cover 28 = .ok (.getfield 56, 3) := by decide +kernel
theorem dX11_cover_31 : decode cX11_cover 31 = .ok (.iload_n 1, 1) := by decide +kernel
theorem dX11_cover_32 : decode cX11_cover 32 = .ok (.aload_n 0, 1) := by decide +kernel
theorem dX11_cover_33 : decode cX11_cover 33 = .ok (.getfield 83, 3) := by decide +kernel
theorem dX11_cover_36 : decode cX11_cover 36 = .ok (.invokevirtual 155, 3) := by decide +kernel
theorem dX11_cover_39 : decode cX11_cover 39 = .ok (.iload_n 1, 1) := by decide +kernel
theorem dX11_cover_40 : decode cX11_cover 40 = .ok (.iconst (-1), 1) := by decide +kernel
theorem dX11_cover_41 : decode cX11_cover 41 = .ok (.ixor, 1) := by decide +kernel
theorem dX11_cover_42 : decode cX11_cover 42 = .ok (.iand, 1) := by decide +kernel
theorem dX11_cover_43 : decode cX11_cover 43 = .ok (.invokevirtual 290, 3) := by decide +kernel
theorem dX11_cover_46 : decode cX11_cover 46 = .ok (.iload_n 2, 1) := by decide +kernel
theorem dX11_cover_47 : decode cX11_cover 47 = .ok (.invokestatic 293, 3) := by decide +kernel
theorem dX11_cover_50 : decode cX11_cover 50 = .ok (.ireturn, 1) := by decide +kernel
theorem dX11_days_0 : decode cX11_days 0 = .ok (.iload_n 1, 1) := by decide +kernel
theorem dX11_days_1 : decode cX11_days 1 = .ok (.iconst 1, 1) := by decide +kernel
theorem dX11_days_2 : decode cX11_days 2 = .ok (.if_icmp .lt 9, 3) := by decide +kernel
theorem dX11_days_5 : decode cX11_days 5 = .ok (.iload_n 1, 1) := by decide +kernel
theorem dX11_days_6 : decode cX11_days 6 = .ok (.bipush 99, 2) := by decide +kernel
theorem dX11_days_8 : decode cX11_days 8 = .ok (.if_icmp .le 6, 3) := by decide +kernel
theorem dX11_days_11 : decode cX11_days 11 = .ok (.bipush (-3), 2) := by decide +kernel
theorem dX11_days_13 : decode cX11_days 13 = .ok (.ireturn, 1) := by decide +kernel
theorem dX11_days_14 : decode cX11_days 14 = .ok (.aload_n 0, 1) := by decide +kernel
theorem dX11_days_15 : decode cX11_days 15 = .ok (.getfield 87, 3) := by decide +kernel
theorem dX11_days_18 : decode cX11_days 18 = .ok (.aload_n 0, 1) := by decide +kernel
theorem dX11_days_19 : decode cX11_days 19 = .ok (.getfield 83, 3) := by decide +kernel
theorem dX11_days_22 : decode cX11_days 22 = .ok (.invokevirtual 202, 3) := by decide +kernel
theorem dX11_days_25 : decode cX11_days 25 = .ok (.aload_n 0, 1) := by decide +kernel
theorem dX11_days_26 : decode cX11_days 26 = .ok (.getfield 83, 3) := by decide +kernel
theorem dX11_days_29 : decode cX11_days 29 = .ok (.dup, 1) := by decide +kernel
theorem dX11_days_30 : decode cX11_days 30 = .ok (.getfield 165, 3) := by decide +kernel
theorem dX11_days_33 : decode cX11_days 33 = .ok (.iload_n 1, 1) := by decide +kernel
theorem dX11_days_34 : decode cX11_days 34 = .ok (.iadd, 1) := by decide +kernel
theorem dX11_days_35 : decode cX11_days 35 = .ok (.putfield 165, 3) := by decide +kernel
theorem dX11_days_38 : decode cX11_days 38 = .ok (.aload_n 0, 1) := by decide +kernel
theorem dX11_days_39 : decode cX11_days 39 = .ok (.invokevirtual 210, 3) := by decide +kernel
theorem dX11_days_42 : decode cX11_days 42 = .ok (.aload_n 0, 1) := by decide +kernel
theorem dX11_days_43 : decode cX11_days 43 = .ok (.getfield 83, 3) := by decide +kernel
theorem dX11_days_46 : decode cX11_days 46 = .ok (.invokevirtual 155, 3) := by decide +kernel
theorem dX11_days_49 : decode cX11_days 49 = .ok (.ireturn, 1) := by decide +kernel
theorem dX11_drawToday_0 : decode cX11_drawToday 0 = .ok (.aload_n 0, 1) := by decide +kernel
theorem dX11_drawToday_1 : decode cX11_drawToday 1 = .ok (.getfield 56, 3) := by decide +kernel
theorem dX11_drawToday_4 : decode cX11_drawToday 4 = .ok (.aload_n 0, 1) := by decide +kernel
theorem dX11_drawToday_5 : decode cX11_drawToday 5 = .ok (.getfield 83, 3) := by decide +kernel
theorem dX11_drawToday_8 : decode cX11_drawToday 8 = .ok (.aload_n 0, 1) := by decide +kernel
theorem dX11_drawToday_9 : decode cX11_drawToday 9 = .ok (.getfield 83, 3) := by decide +kernel
theorem dX11_drawToday_12 : decode cX11_drawToday 12 = .ok (.getfield 165, 3) := by decide +kernel
theorem dX11_drawToday_15 : decode cX11_drawToday 15 = .ok (.aload_n 0, 1) := by decide +kernel
theorem dX11_drawToday_16 : decode cX11_drawToday 16 = .ok (.getfield 49, 3) := by decide +kernel
theorem dX11_drawToday_19 : decode cX11_drawToday 19 = .ok (.invokevirtual 243, 3) := by decide +kernel
theorem dX11_drawToday_22 : decode cX11_drawToday 22 = .ok (.return_, 1) := by decide +kernel
theorem dX11_drawn_0 : decode cX11_drawn 0 = .ok (.iload_n 0, 1) := by decide +kernel
theorem dX11_drawn_1 : decode cX11_drawn 1 = .ok (.bipush 16, 2) := by decide +kernel
theorem dX11_drawn_3 : decode cX11_drawn 3 = .ok (.iushr, 1) := by decide +kernel
theorem dX11_drawn_4 : decode cX11_drawn 4 = .ok (.ireturn, 1) := by decide +kernel
theorem dX11_easiest_0 : decode cX11_easiest 0 = .ok (.aload_n 0, 1) := by decide +kernel
theorem dX11_easiest_1 : decode cX11_easiest 1 = .ok (.invokevirtual 260, 3) := by decide +kernel
theorem dX11_easiest_4 : decode cX11_easiest 4 = .ok (.aload_n 0, 1) := by decide +kernel
theorem dX11_easiest_5 : decode cX11_easiest 5 = .ok (.getfield 56, 3) := by decide +kernel
theorem dX11_easiest_8 : decode cX11_easiest 8 = .ok (.invokevirtual 277, 3) := by decide +kernel
theorem dX11_easiest_11 : decode cX11_easiest 11 = .ok (.iconst (-1), 1) := by decide +kernel
theorem dX11_easiest_12 : decode cX11_easiest 12 = .ok (.istore_n 1, 1) := by decide +kernel
theorem dX11_easiest_13 : decode cX11_easiest 13 = .ok (.bipush 11, 2) := by decide +kernel
theorem dX11_easiest_15 : decode cX11_easiest 15 = .ok (.istore_n 2, 1) := by decide +kernel
theorem dX11_easiest_16 : decode cX11_easiest 16 = .ok (.iconst 0, 1) := by decide +kernel
theorem dX11_easiest_17 : decode cX11_easiest 17 = .ok (.istore_n 3, 1) := by decide +kernel
theorem dX11_easiest_18 : decode cX11_easiest 18 = .ok (.iload_n 3, 1) := by decide +kernel
theorem dX11_easiest_19 : decode cX11_easiest 19 = .ok (.bipush 10, 2) := by decide +kernel
theorem dX11_easiest_21 : decode cX11_easiest 21 = .ok (.if_icmp .ge 39, 3) := by decide +kernel
theorem dX11_easiest_24 : decode cX11_easiest 24 = .ok (.aload_n 0, 1) := by decide +kernel
theorem dX11_easiest_25 : decode cX11_easiest 25 = .ok (.iload_n 3, 1) := by decide +kernel
theorem dX11_easiest_26 : decode cX11_easiest 26 = .ok (.invokevirtual 329, 3) := by decide +kernel
theorem dX11_easiest_29 : decode cX11_easiest 29 = .ok (.istore 4, 2) := by decide +kernel
theorem dX11_easiest_31 : decode cX11_easiest 31 = .ok (.iload 4, 2) := by decide +kernel
theorem dX11_easiest_33 : decode cX11_easiest 33 = .ok (.iconst (-1), 1) := by decide +kernel
theorem dX11_easiest_34 : decode cX11_easiest 34 = .ok (.if_icmp .eq 20, 3) := by decide +kernel
theorem dX11_easiest_37 : decode cX11_easiest 37 = .ok (.iload 4, 2) := by decide +kernel
theorem dX11_easiest_39 : decode cX11_easiest 39 = .ok (.invokestatic 193, 3) := by decide +kernel
theorem dX11_easiest_42 : decode cX11_easiest 42 = .ok (.iload_n 2, 1) := by decide +kernel
theorem dX11_easiest_43 : decode cX11_easiest 43 = .ok (.if_icmp .ge 11, 3) := by decide +kernel
theorem dX11_easiest_46 : decode cX11_easiest 46 = .ok (.iload_n 3, 1) := by decide +kernel
theorem dX11_easiest_47 : decode cX11_easiest 47 = .ok (.istore_n 1, 1) := by decide +kernel
theorem dX11_easiest_48 : decode cX11_easiest 48 = .ok (.iload 4, 2) := by decide +kernel
theorem dX11_easiest_50 : decode cX11_easiest 50 = .ok (.invokestatic 193, 3) := by decide +kernel
theorem dX11_easiest_53 : decode cX11_easiest 53 = .ok (.istore_n 2, 1) := by decide +kernel
theorem dX11_easiest_54 : decode cX11_easiest 54 = .ok (.iinc 3 1, 3) := by decide +kernel
theorem dX11_easiest_57 : decode cX11_easiest 57 = .ok (.goto (-39), 3) := by decide +kernel
theorem dX11_easiest_60 : decode cX11_easiest 60 = .ok (.iload_n 1, 1) := by decide +kernel
theorem dX11_easiest_61 : decode cX11_easiest 61 = .ok (.ireturn, 1) := by decide +kernel
theorem dX11_everybody_0 : decode cX11_everybody 0 = .ok (.iconst 1, 1) := by decide +kernel
theorem dX11_everybody_1 : decode cX11_everybody 1 = .ok (.aload_n 0, 1) := by decide +kernel
theorem dX11_everybody_2 : decode cX11_everybody 2 = .ok (.getfield 83, 3) := by decide +kernel
theorem dX11_everybody_5 : decode cX11_everybody 5 = .ok (.getfield 126, 3) := by decide +kernel
theorem dX11_everybody_8 : decode cX11_everybody 8 = .ok (.getfield 159, 3) := by decide +kernel
theorem dX11_everybody_11 : decode cX11_everybody 11 = .ok (.ishl, 1) := by decide +kernel
theorem dX11_everybody_12 : decode cX11_everybody 12 = .ok (.iconst 1, 1) := by decide +kernel
theorem dX11_everybody_13 : decode cX11_everybody 13 = .ok (.isub, 1) := by decide +kernel
theorem dX11_everybody_14 : decode cX11_everybody 14 = .ok (.ireturn, 1) := by decide +kernel
theorem dX11_fault_0 : decode cX11_fault 0 = .ok (.iload_n 1, 1) := by decide +kernel
theorem dX11_fault_1 : decode cX11_fault 1 = .ok (.ifCond .ne 8, 3) := by decide +kernel
theorem dX11_fault_4 : decode cX11_fault 4 = .ok (.aload_n 0, 1) := by decide +kernel
theorem dX11_fault_5 : decode cX11_fault 5 = .ok (.getfield 17, 3) := by decide +kernel
theorem dX11_fault_8 : decode cX11_fault 8 = .ok (.ireturn, 1) := by decide +kernel
theorem dX11_fault_9 : decode cX11_fault 9 = .ok (.iload_n 1, 1) := by decide +kernel
theorem dX11_fault_10 : decode cX11_fault 10 = .ok (.iconst 1, 1) := by decide +kernel
theorem dX11_fault_11 : decode cX11_fault 11 = .ok (.if_icmp .ne 10, 3) := by decide +kernel
theorem dX11_fault_14 : decode cX11_fault 14 = .ok (.aload_n 0, 1) := by decide +kernel
theorem dX11_fault_15 : decode cX11_fault 15 = .ok (.getfield 20, 3) := by decide +kernel
theorem dX11_fault_18 : decode cX11_fault 18 = .ok (.goto 4, 3) := by decide +kernel
theorem dX11_fault_21 : decode cX11_fault 21 = .ok (.iconst (-1), 1) := by decide +kernel
theorem dX11_fault_22 : decode cX11_fault 22 = .ok (.ireturn, 1) := by decide +kernel
theorem dX11_feed_0 : decode cX11_feed 0 = .ok (.aload_n 0, 1) := by decide +kernel
theorem dX11_feed_1 : decode cX11_feed 1 = .ok (.getfield 13, 3) := by decide +kernel
theorem dX11_feed_4 : decode cX11_feed 4 = .ok (.bipush 20, 2) := by decide +kernel
theorem dX11_feed_6 : decode cX11_feed 6 = .ok (.iadd, 1) := by decide +kernel
theorem dX11_feed_7 : decode cX11_feed 7 = .ok (.sipush 900, 3) := by decide +kernel
theorem dX11_feed_10 : decode cX11_feed 10 = .ok (.if_icmp .le 6, 3) := by decide +kernel
theorem dX11_feed_13 : decode cX11_feed 13 = .ok (.bipush (-5), 2) := by decide +kernel
theorem dX11_feed_15 : decode cX11_feed 15 = .ok (.ireturn, 1) := by decide +kernel
theorem dX11_feed_16 : decode cX11_feed 16 = .ok (.aload_n 0, 1) := by decide +kernel
theorem dX11_feed_17 : decode cX11_feed 17 = .ok (.iload_n 1, 1) := by decide +kernel
theorem dX11_feed_18 : decode cX11_feed 18 = .ok (.invokevirtual 101, 3) := by decide +kernel
theorem dX11_feed_21 : decode cX11_feed 21 = .ok (.aload_n 0, 1) := by decide +kernel
theorem dX11_feed_22 : decode cX11_feed 22 = .ok (.iload_n 2, 1) := by decide +kernel
theorem dX11_feed_23 : decode cX11_feed 23 = .ok (.invokevirtual 101, 3) := by decide +kernel
theorem dX11_feed_26 : decode cX11_feed 26 = .ok (.aload_n 0, 1) := by decide +kernel
theorem dX11_feed_27 : decode cX11_feed 27 = .ok (.iload_n 3, 1) := by decide +kernel
theorem dX11_feed_28 : decode cX11_feed 28 = .ok (.invokevirtual 101, 3) := by decide +kernel
theorem dX11_feed_31 : decode cX11_feed 31 = .ok (.aload_n 0, 1) := by decide +kernel
theorem dX11_feed_32 : decode cX11_feed 32 = .ok (.iload 4, 2) := by decide +kernel
theorem dX11_feed_34 : decode cX11_feed 34 = .ok (.invokevirtual 101, 3) := by decide +kernel
theorem dX11_feed_37 : decode cX11_feed 37 = .ok (.aload_n 0, 1) := by decide +kernel
theorem dX11_feed_38 : decode cX11_feed 38 = .ok (.iload 5, 2) := by decide +kernel
theorem dX11_feed_40 : decode cX11_feed 40 = .ok (.invokevirtual 101, 3) := by decide +kernel
theorem dX11_feed_43 : decode cX11_feed 43 = .ok (.aload_n 0, 1) := by decide +kernel
theorem dX11_feed_44 : decode cX11_feed 44 = .ok (.getfield 13, 3) := by decide +kernel
theorem dX11_feed_47 : decode cX11_feed 47 = .ok (.ireturn, 1) := by decide +kernel
theorem dX11_fewestSent_0 : decode cX11_fewestSent 0 = .ok (.aload_n 0, 1) := by decide +kernel
theorem dX11_fewestSent_1 : decode cX11_fewestSent 1 = .ok (.getfield 83, 3) := by decide +kernel
theorem dX11_fewestSent_4 : decode cX11_fewestSent 4 = .ok (.invokevirtual 155, 3) := by decide +kernel
theorem dX11_fewestSent_7 : decode cX11_fewestSent 7 = .ok (.istore_n 2, 1) := by decide +kernel
theorem dX11_fewestSent_8 : decode cX11_fewestSent 8 = .ok (.aload_n 0, 1) := by decide +kernel
theorem dX11_fewestSent_9 : decode cX11_fewestSent 9 = .ok (.iload_n 1, 1) := by decide +kernel
theorem dX11_fewestSent_10 : decode cX11_fewestSent 10 = .ok (.invokevirtual 319, 3) := by decide +kernel
theorem dX11_fewestSent_13 : decode cX11_fewestSent 13 = .ok (.istore_n 3, 1) := by decide +kernel
theorem dX11_fewestSent_14 : decode cX11_fewestSent 14 = .ok (.iconst (-1), 1) := by decide +kernel
theorem dX11_fewestSent_15 : decode cX11_fewestSent 15 = .ok (.istore 4, 2) := by decide +kernel
theorem dX11_fewestSent_17 : decode cX11_fewestSent 17 = .ok (.bipush 11, 2) := by decide +kernel
theorem dX11_fewestSent_19 : decode cX11_fewestSent 19 = .ok (.istore 5, 2) := by decide +kernel
theorem dX11_fewestSent_21 : decode cX11_fewestSent 21 = .ok (.iconst 0, 1) := by decide +kernel
theorem dX11_fewestSent_22 : decode cX11_fewestSent 22 = .ok (.istore 6, 2) := by decide +kernel
theorem dX11_fewestSent_24 : decode cX11_fewestSent 24 = .ok (.iload 6, 2) := by decide +kernel
theorem dX11_fewestSent_26 : decode cX11_fewestSent 26 = .ok (.iload_n 2, 1) := by decide +kernel
theorem dX11_fewestSent_27 : decode cX11_fewestSent 27 = .ok (.if_icmp .gt 69, 3) := by decide +kernel
theorem dX11_fewestSent_30 : decode cX11_fewestSent 30 = .ok (.iload_n 2, 1) := by decide +kernel
theorem dX11_fewestSent_31 : decode cX11_fewestSent 31 = .ok (.iload 6, 2) := by decide +kernel
theorem dX11_fewestSent_33 : decode cX11_fewestSent 33 = .ok (.iconst (-1), 1) := by decide +kernel
theorem dX11_fewestSent_34 : decode cX11_fewestSent 34 = .ok (.ixor, 1) := by decide +kernel
theorem dX11_fewestSent_35 : decode cX11_fewestSent 35 = .ok (.iand, 1) := by decide +kernel
theorem dX11_fewestSent_36 : decode cX11_fewestSent 36 = .ok (.istore 7, 2) := by decide +kernel
theorem dX11_fewestSent_38 : decode cX11_fewestSent 38 = .ok (.iload 6, 2) := by decide +kernel
theorem dX11_fewestSent_40 : decode cX11_fewestSent 40 = .ok (.iload_n 2, 1) := by decide +kernel
theorem dX11_fewestSent_41 : decode cX11_fewestSent 41 = .ok (.iconst (-1), 1) := by decide +kernel
theorem dX11_fewestSent_42 : decode cX11_fewestSent 42 = .ok (.ixor, 1) := by decide +kernel
theorem dX11_fewestSent_43 : decode cX11_fewestSent 43 = .ok (.iand, 1) := by decide +kernel
theorem dX11_fewestSent_44 : decode cX11_fewestSent 44 = .ok (.ifCond .ne 46, 3) := by decide +kernel
theorem dX11_fewestSent_47 : decode cX11_fewestSent 47 = .ok (.iload 6, 2) := by decide +kernel
theorem dX11_fewestSent_49 : decode cX11_fewestSent 49 = .ok (.invokestatic 193, 3) := by decide +kernel
theorem dX11_fewestSent_52 : decode cX11_fewestSent 52 = .ok (.iload 5, 2) := by decide +kernel
theorem dX11_fewestSent_54 : decode cX11_fewestSent 54 = .ok (.if_icmp .ge 36, 3) := by decide +kernel
theorem dX11_fewestSent_57 : decode cX11_fewestSent 57 = .ok (.aload_n 0, 1) := by decide +kernel
theorem dX11_fewestSent_58 : decode cX11_fewestSent 58 = .ok (.getfield 56, 3) := by decide +kernel
theorem dX11_fewestSent_61 : decode cX11_fewestSent 61 = .ok (.getfield 280, 3) := by decide +kernel
theorem dX11_fewestSent_64 : decode cX11_fewestSent 64 = .ok (.iload 7, 2) := by decide +kernel
theorem dX11_fewestSent_66 : decode cX11_fewestSent 66 = .ok (.iaload, 1) := by decide +kernel
theorem dX11_fewestSent_67 : decode cX11_fewestSent 67 = .ok (.ifCond .le 23, 3) := by decide +kernel
theorem dX11_fewestSent_70 : decode cX11_fewestSent 70 = .ok (.iload_n 3, 1) := by decide +kernel
theorem dX11_fewestSent_71 : decode cX11_fewestSent 71 = .ok (.iload 7, 2) := by decide +kernel
theorem dX11_fewestSent_73 : decode cX11_fewestSent 73 = .ok (.invokestatic 326, 3) := by decide +kernel
theorem dX11_fewestSent_76 : decode cX11_fewestSent 76 = .ok (.ifCond .eq 14, 3) := by decide +kernel
theorem dX11_fewestSent_79 : decode cX11_fewestSent 79 = .ok (.iload 6, 2) := by decide +kernel
theorem dX11_fewestSent_81 : decode cX11_fewestSent 81 = .ok (.istore 4, 2) := by decide +kernel
theorem dX11_fewestSent_83 : decode cX11_fewestSent 83 = .ok (.iload 6, 2) := by decide +kernel
theorem dX11_fewestSent_85 : decode cX11_fewestSent 85 = .ok (.invokestatic 193, 3) := by decide +kernel
theorem dX11_fewestSent_88 : decode cX11_fewestSent 88 = .ok (.istore 5, 2) := by decide +kernel
theorem dX11_fewestSent_90 : decode cX11_fewestSent 90 = .ok (.iinc 6 1, 3) := by decide +kernel
theorem dX11_fewestSent_93 : decode cX11_fewestSent 93 = .ok (.goto (-69), 3) := by decide +kernel
theorem dX11_fewestSent_96 : decode cX11_fewestSent 96 = .ok (.iload 4, 2) := by decide +kernel
theorem dX11_fewestSent_98 : decode cX11_fewestSent 98 = .ok (.ireturn, 1) := by decide +kernel
theorem dX11_firstDay_0 : decode cX11_firstDay 0 = .ok (.bipush 100, 2) := by decide +kernel
theorem dX11_firstDay_2 : decode cX11_firstDay 2 = .ok (.istore_n 1, 1) := by decide +kernel
theorem dX11_firstDay_3 : decode cX11_firstDay 3 = .ok (.iconst 0, 1) := by decide +kernel
theorem dX11_firstDay_4 : decode cX11_firstDay 4 = .ok (.istore_n 2, 1) := by decide +kernel
theorem dX11_firstDay_5 : decode cX11_firstDay 5 = .ok (.iload_n 2, 1) := by decide +kernel
theorem dX11_firstDay_6 : decode cX11_firstDay 6 = .ok (.bipush 7, 2) := by decide +kernel
theorem dX11_firstDay_8 : decode cX11_firstDay 8 = .ok (.if_icmp .ge 84, 3) := by decide +kernel
theorem dX11_firstDay_11 : decode cX11_firstDay 11 = .ok (.aload_n 0, 1) := by decide +kernel
theorem dX11_firstDay_12 : decode cX11_firstDay 12 = .ok (.getfield 56, 3) := by decide +kernel
theorem dX11_firstDay_15 : decode cX11_firstDay 15 = .ok (.aload_n 0, 1) := by decide +kernel
theorem dX11_firstDay_16 : decode cX11_firstDay 16 = .ok (.getfield 83, 3) := by decide +kernel
theorem dX11_firstDay_19 : decode cX11_firstDay 19 = .ok (.aload_n 0, 1) := by decide +kernel
theorem dX11_firstDay_20 : decode cX11_firstDay 20 = .ok (.getfield 83, 3) := by decide +kernel
theorem dX11_firstDay_23 : decode cX11_firstDay 23 = .ok (.getfield 165, 3) := by decide +kernel
theorem dX11_firstDay_26 : decode cX11_firstDay 26 = .ok (.iload_n 2, 1) := by decide +kernel
theorem dX11_firstDay_27 : decode cX11_firstDay 27 = .ok (.iadd, 1) := by decide +kernel
theorem dX11_firstDay_28 : decode cX11_firstDay 28 = .ok (.aload_n 0, 1) := by decide +kernel
theorem dX11_firstDay_29 : decode cX11_firstDay 29 = .ok (.getfield 49, 3) := by decide +kernel
theorem dX11_firstDay_32 : decode cX11_firstDay 32 = .ok (.invokevirtual 243, 3) := by decide +kernel
theorem dX11_firstDay_35 : decode cX11_firstDay 35 = .ok (.iload_n 2, 1) := by decide +kernel
theorem dX11_firstDay_36 : decode cX11_firstDay 36 = .ok (.istore_n 3, 1) := by decide +kernel
theorem dX11_firstDay_37 : decode cX11_firstDay 37 = .ok (.iload_n 3, 1) := by decide +kernel
theorem dX11_firstDay_38 : decode cX11_firstDay 38 = .ok (.iload_n 1, 1) := by decide +kernel
theorem dX11_firstDay_39 : decode cX11_firstDay 39 = .ok (.if_icmp .ge 47, 3) := by decide +kernel
theorem dX11_firstDay_42 : decode cX11_firstDay 42 = .ok (.aload_n 0, 1) := by decide +kernel
theorem dX11_firstDay_43 : decode cX11_firstDay 43 = .ok (.getfield 83, 3) := by decide +kernel
theorem dX11_firstDay_46 : decode cX11_firstDay 46 = .ok (.aload_n 0, 1) := by decide +kernel
theorem dX11_firstDay_47 : decode cX11_firstDay 47 = .ok (.getfield 83, 3) := by decide +kernel
theorem dX11_firstDay_50 : decode cX11_firstDay 50 = .ok (.getfield 165, 3) := by decide +kernel
theorem dX11_firstDay_53 : decode cX11_firstDay 53 = .ok (.iload_n 3, 1) := by decide +kernel
theorem dX11_firstDay_54 : decode cX11_firstDay 54 = .ok (.iadd, 1) := by decide +kernel
theorem dX11_firstDay_55 : decode cX11_firstDay 55 = .ok (.invokevirtual 168, 3) := by decide +kernel
theorem dX11_firstDay_58 : decode cX11_firstDay 58 = .ok (.istore 4, 2) := by decide +kernel
theorem dX11_firstDay_60 : decode cX11_firstDay 60 = .ok (.iload 4, 2) := by decide +kernel
theorem dX11_firstDay_62 : decode cX11_firstDay 62 = .ok (.ifCond .eq 18, 3) := by decide +kernel
theorem dX11_firstDay_65 : decode cX11_firstDay 65 = .ok (.aload_n 0, 1) := by decide +kernel
theorem dX11_firstDay_66 : decode cX11_firstDay 66 = .ok (.getfield 56, 3) := by decide +kernel
theorem dX11_firstDay_69 : decode cX11_firstDay 69 = .ok (.iload 4, 2) := by decide +kernel
theorem dX11_firstDay_71 : decode cX11_firstDay 71 = .ok (.iconst 0, 1) := by decide +kernel
theorem dX11_firstDay_72 : decode cX11_firstDay 72 = .ok (.invokevirtual 247, 3) := by decide +kernel
theorem dX11_firstDay_75 : decode cX11_firstDay 75 = .ok (.ifCond .eq 5, 3) := by decide +kernel
theorem dX11_firstDay_78 : decode cX11_firstDay 78 = .ok (.iload_n 3, 1) := by decide +kernel
theorem dX11_firstDay_79 : decode cX11_firstDay 79 = .ok (.istore_n 1, 1) := by decide +kernel
theorem dX11_firstDay_80 : decode cX11_firstDay 80 = .ok (.iinc 3 7, 3) := by decide +kernel
theorem dX11_firstDay_83 : decode cX11_firstDay 83 = .ok (.goto (-46), 3) := by decide +kernel
theorem dX11_firstDay_86 : decode cX11_firstDay 86 = .ok (.iinc 2 1, 3) := by decide +kernel
theorem dX11_firstDay_89 : decode cX11_firstDay 89 = .ok (.goto (-84), 3) := by decide +kernel
theorem dX11_firstDay_92 : decode cX11_firstDay 92 = .ok (.iload_n 1, 1) := by decide +kernel
theorem dX11_firstDay_93 : decode cX11_firstDay 93 = .ok (.bipush 100, 2) := by decide +kernel
theorem dX11_firstDay_95 : decode cX11_firstDay 95 = .ok (.if_icmp .ge 7, 3) := by decide +kernel
theorem dX11_firstDay_98 : decode cX11_firstDay 98 = .ok (.iload_n 1, 1) := by decide +kernel
theorem dX11_firstDay_99 : decode cX11_firstDay 99 = .ok (.goto 4, 3) := by decide +kernel
theorem dX11_firstDay_102 : decode cX11_firstDay 102 = .ok (.iconst (-1), 1) := by decide +kernel
theorem dX11_firstDay_103 : decode cX11_firstDay 103 = .ok (.ireturn, 1) := by decide +kernel
theorem dX11_hasMore_0 : decode cX11_hasMore 0 = .ok (.iconst 2, 1) := by decide +kernel
theorem dX11_hasMore_1 : decode cX11_hasMore 1 = .ok (.iload_n 0, 1) := by decide +kernel
theorem dX11_hasMore_2 : decode cX11_hasMore 2 = .ok (.iload_n 1, 1) := by decide +kernel
theorem dX11_hasMore_3 : decode cX11_hasMore 3 = .ok (.iand, 1) := by decide +kernel
theorem dX11_hasMore_4 : decode cX11_hasMore 4 = .ok (.invokestatic 193, 3) := by decide +kernel
theorem dX11_hasMore_7 : decode cX11_hasMore 7 = .ok (.imul, 1) := by decide +kernel
theorem dX11_hasMore_8 : decode cX11_hasMore 8 = .ok (.iload_n 1, 1) := by decide +kernel
theorem dX11_hasMore_9 : decode cX11_hasMore 9 = .ok (.invokestatic 193, 3) := by decide +kernel
theorem dX11_hasMore_12 : decode cX11_hasMore 12 = .ok (.if_icmp .le 7, 3) := by decide +kernel
theorem dX11_hasMore_15 : decode cX11_hasMore 15 = .ok (.iconst 1, 1) := by decide +kernel
theorem dX11_hasMore_16 : decode cX11_hasMore 16 = .ok (.goto 4, 3) := by decide +kernel
theorem dX11_hasMore_19 : decode cX11_hasMore 19 = .ok (.iconst 0, 1) := by decide +kernel
theorem dX11_hasMore_20 : decode cX11_hasMore 20 = .ok (.ireturn, 1) := by decide +kernel
theorem dX11_hidden_0 : decode cX11_hidden 0 = .ok (.aload_n 0, 1) := by decide +kernel
theorem dX11_hidden_1 : decode cX11_hidden 1 = .ok (.iload_n 1, 1) := by decide +kernel
theorem dX11_hidden_2 : decode cX11_hidden 2 = .ok (.iload_n 2, 1) := by decide +kernel
theorem dX11_hidden_3 : decode cX11_hidden 3 = .ok (.invokevirtual 332, 3) := by decide +kernel
theorem dX11_hidden_6 : decode cX11_hidden 6 = .ok (.istore_n 3, 1) := by decide +kernel
theorem dX11_hidden_7 : decode cX11_hidden 7 = .ok (.iload_n 3, 1) := by decide +kernel
theorem dX11_hidden_8 : decode cX11_hidden 8 = .ok (.ifCond .eq 5, 3) := by decide +kernel
theorem dX11_hidden_11 : decode cX11_hidden 11 = .ok (.iload_n 3, 1) := by decide +kernel
theorem dX11_hidden_12 : decode cX11_hidden 12 = .ok (.ireturn, 1) := by decide +kernel
theorem dX11_hidden_13 : decode cX11_hidden 13 = .ok (.aload_n 0, 1) := by decide +kernel
theorem dX11_hidden_14 : decode cX11_hidden 14 = .ok (.getfield 70, 3) := by decide +kernel
theorem dX11_hidden_17 : decode cX11_hidden 17 = .ok (.aload_n 0, 1) := by decide +kernel
theorem dX11_hidden_18 : decode cX11_hidden 18 = .ok (.getfield 83, 3) := by decide +kernel
theorem dX11_hidden_21 : decode cX11_hidden 21 = .ok (.iload_n 1, 1) := by decide +kernel
theorem dX11_hidden_22 : decode cX11_hidden 22 = .ok (.iload_n 2, 1) := by decide +kernel
theorem dX11_hidden_23 : decode cX11_hidden 23 = .ok (.aload_n 0, 1) := by decide +kernel
theorem dX11_hidden_24 : decode cX11_hidden 24 = .ok (.getfield 49, 3) := by decide +kernel
theorem dX11_hidden_27 : decode cX11_hidden 27 = .ok (.aload_n 0, 1) := by decide +kernel
theorem dX11_hidden_28 : decode cX11_hidden 28 = .ok (.getfield 74, 3) := by decide +kernel
theorem dX11_hidden_31 : decode cX11_hidden 31 = .ok (.invokevirtual 335, 3) := by decide +kernel
theorem dX11_hidden_34 : decode cX11_hidden 34 = .ok (.aload_n 0, 1) := by decide +kernel
theorem dX11_hidden_35 : decode cX11_hidden 35 = .ok (.getfield 70, 3) := by decide +kernel
theorem dX11_hidden_38 : decode cX11_hidden 38 = .ok (.getfield 336, 3) := by decide +kernel
theorem dX11_hidden_41 : decode cX11_hidden 41 = .ok (.ireturn, 1) := by decide +kernel
theorem dX11_hiddenAt_0 : decode cX11_hiddenAt 0 = .ok (.aload_n 0, 1) := by decide +kernel
theorem dX11_hiddenAt_1 : decode cX11_hiddenAt 1 = .ok (.iload_n 1, 1) := by decide +kernel
theorem dX11_hiddenAt_2 : decode cX11_hiddenAt 2 = .ok (.iload_n 2, 1) := by decide +kernel
theorem dX11_hiddenAt_3 : decode cX11_hiddenAt 3 = .ok (.invokevirtual 332, 3) := by decide +kernel
theorem dX11_hiddenAt_6 : decode cX11_hiddenAt 6 = .ok (.istore 4, 2) := by decide +kernel
theorem dX11_hiddenAt_8 : decode cX11_hiddenAt 8 = .ok (.iload 4, 2) := by decide +kernel
theorem dX11_hiddenAt_10 : decode cX11_hiddenAt 10 = .ok (.ifCond .eq 6, 3) := by decide +kernel
theorem dX11_hiddenAt_13 : decode cX11_hiddenAt 13 = .ok (.iload 4, 2) := by decide +kernel
theorem dX11_hiddenAt_15 : decode cX11_hiddenAt 15 = .ok (.ireturn, 1) := by decide +kernel
theorem dX11_hiddenAt_16 : decode cX11_hiddenAt 16 = .ok (.iload_n 3, 1) := by decide +kernel
theorem dX11_hiddenAt_17 : decode cX11_hiddenAt 17 = .ok (.ifCond .ge 6, 3) := by decide +kernel
theorem dX11_hiddenAt_20 : decode cX11_hiddenAt 20 = .ok (.bipush (-3), 2) := by decide +kernel
theorem dX11_hiddenAt_22 : decode cX11_hiddenAt 22 = .ok (.ireturn, 1) := by decide +kernel
theorem dX11_hiddenAt_23 : decode cX11_hiddenAt 23 = .ok (.aload_n 0, 1) := by decide +kernel
theorem dX11_hiddenAt_24 : decode cX11_hiddenAt 24 = .ok (.getfield 70, 3) := by decide +kernel
theorem dX11_hiddenAt_27 : decode cX11_hiddenAt 27 = .ok (.aload_n 0, 1) := by decide +kernel
theorem dX11_hiddenAt_28 : decode cX11_hiddenAt 28 = .ok (.getfield 83, 3) := by decide +kernel
theorem dX11_hiddenAt_31 : decode cX11_hiddenAt 31 = .ok (.iload_n 1, 1) := by decide +kernel
theorem dX11_hiddenAt_32 : decode cX11_hiddenAt 32 = .ok (.iload_n 2, 1) := by decide +kernel
theorem dX11_hiddenAt_33 : decode cX11_hiddenAt 33 = .ok (.aload_n 0, 1) := by decide +kernel
theorem dX11_hiddenAt_34 : decode cX11_hiddenAt 34 = .ok (.getfield 49, 3) := by decide +kernel
theorem dX11_hiddenAt_37 : decode cX11_hiddenAt 37 = .ok (.aload_n 0, 1) := by decide +kernel
theorem dX11_hiddenAt_38 : decode cX11_hiddenAt 38 = .ok (.getfield 74, 3) := by decide +kernel
theorem dX11_hiddenAt_41 : decode cX11_hiddenAt 41 = .ok (.invokevirtual 335, 3) := by decide +kernel
theorem dX11_hiddenAt_44 : decode cX11_hiddenAt 44 = .ok (.iload_n 3, 1) := by decide +kernel
theorem dX11_hiddenAt_45 : decode cX11_hiddenAt 45 = .ok (.aload_n 0, 1) := by decide +kernel
theorem dX11_hiddenAt_46 : decode cX11_hiddenAt 46 = .ok (.getfield 70, 3) := by decide +kernel
theorem dX11_hiddenAt_49 : decode cX11_hiddenAt 49 = .ok (.getfield 336, 3) := by decide +kernel
theorem dX11_hiddenAt_52 : decode cX11_hiddenAt 52 = .ok (.if_icmp .ge 15, 3) := by decide +kernel
theorem dX11_hiddenAt_55 : decode cX11_hiddenAt 55 = .ok (.aload_n 0, 1) := by decide +kernel
theorem dX11_hiddenAt_56 : decode cX11_hiddenAt 56 = .ok (.getfield 70, 3) := by decide +kernel
theorem dX11_hiddenAt_59 : decode cX11_hiddenAt 59 = .ok (.getfield 337, 3) := by decide +kernel
theorem dX11_hiddenAt_62 : decode cX11_hiddenAt 62 = .ok (.iload_n 3, 1) := by decide +kernel
theorem dX11_hiddenAt_63 : decode cX11_hiddenAt 63 = .ok (.iaload, 1) := by decide +kernel
theorem dX11_hiddenAt_64 : decode cX11_hiddenAt 64 = .ok (.goto 4, 3) := by decide +kernel
theorem dX11_hiddenAt_67 : decode cX11_hiddenAt 67 = .ok (.iconst (-1), 1) := by decide +kernel
theorem dX11_hiddenAt_68 : decode cX11_hiddenAt 68 = .ok (.ireturn, 1) := by decide +kernel
theorem dX11_house_0 : decode cX11_house 0 = .ok (.iload_n 1, 1) := by decide +kernel
theorem dX11_house_1 : decode cX11_house 1 = .ok (.ifCond .lt 11, 3) := by decide +kernel
theorem dX11_house_4 : decode cX11_house 4 = .ok (.iload_n 1, 1) := by decide +kernel
theorem dX11_house_5 : decode cX11_house 5 = .ok (.aload_n 0, 1) := by decide +kernel
theorem dX11_house_6 : decode cX11_house 6 = .ok (.getfield 13, 3) := by decide +kernel
theorem dX11_house_9 : decode cX11_house 9 = .ok (.if_icmp .le 6, 3) := by decide +kernel
theorem dX11_house_12 : decode cX11_house 12 = .ok (.bipush (-3), 2) := by decide +kernel
theorem dX11_house_14 : decode cX11_house 14 = .ok (.ireturn, 1) := by decide +kernel
theorem dX11_house_15 : decode cX11_house 15 = .ok (.aload_n 0, 1) := by decide +kernel
theorem dX11_house_16 : decode cX11_house 16 = .ok (.iconst 0, 1) := by decide +kernel
theorem dX11_house_17 : decode cX11_house 17 = .ok (.putfield 13, 3) := by decide +kernel
theorem dX11_house_20 : decode cX11_house 20 = .ok (.aload_n 0, 1) := by decide +kernel
theorem dX11_house_21 : decode cX11_house 21 = .ok (.getfield 26, 3) := by decide +kernel
theorem dX11_house_24 : decode cX11_house 24 = .ok (.aload_n 0, 1) := by decide +kernel
theorem dX11_house_25 : decode cX11_house 25 = .ok (.getfield 9, 3) := by decide +kernel
theorem dX11_house_28 : decode cX11_house 28 = .ok (.iload_n 1, 1) := by decide +kernel
theorem dX11_house_29 : decode cX11_house 29 = .ok (.invokevirtual 105, 3) := by decide +kernel
theorem dX11_house_32 : decode cX11_house 32 = .ok (.astore_n 2, 1) := by decide +kernel
theorem dX11_house_33 : decode cX11_house 33 = .ok (.aload_n 0, 1) := by decide +kernel
theorem dX11_house_34 : decode cX11_house 34 = .ok (.aload_n 0, 1) := by decide +kernel
theorem dX11_house_35 : decode cX11_house 35 = .ok (.getfield 26, 3) := by decide +kernel
theorem dX11_house_38 : decode cX11_house 38 = .ok (.getfield 109, 3) := by decide +kernel
theorem dX11_house_41 : decode cX11_house 41 = .ok (.putfield 17, 3) := by decide +kernel
theorem dX11_house_44 : decode cX11_house 44 = .ok (.aload_n 0, 1) := by decide +kernel
theorem dX11_house_45 : decode cX11_house 45 = .ok (.aload_n 0, 1) := by decide +kernel
theorem dX11_house_46 : decode cX11_house 46 = .ok (.getfield 26, 3) := by decide +kernel
theorem dX11_house_49 : decode cX11_house 49 = .ok (.getfield 112, 3) := by decide +kernel
theorem dX11_house_52 : decode cX11_house 52 = .ok (.putfield 20, 3) := by decide +kernel
theorem dX11_house_55 : decode cX11_house 55 = .ok (.aload_n 0, 1) := by decide +kernel
theorem dX11_house_56 : decode cX11_house 56 = .ok (.getfield 17, 3) := by decide +kernel
theorem dX11_house_59 : decode cX11_house 59 = .ok (.ifCond .eq 11, 3) := by decide +kernel
theorem dX11_house_62 : decode cX11_house 62 = .ok (.bipush (-30), 2) := by decide +kernel
theorem dX11_house_64 : decode cX11_house 64 = .ok (.aload_n 0, 1) := by decide +kernel
theorem dX11_house_65 : decode cX11_house 65 = .ok (.getfield 17, 3) := by decide +kernel
theorem dX11_house_68 : decode cX11_house 68 = .ok (.isub, 1) := by decide +kernel
theorem dX11_house_69 : decode cX11_house 69 = .ok (.ireturn, 1) := by decide +kernel
theorem dX11_house_70 : decode cX11_house 70 = .ok (.aload_n 0, 1) := by decide +kernel
theorem dX11_house_71 : decode cX11_house 71 = .ok (.getfield 83, 3) := by decide +kernel
theorem dX11_house_74 : decode cX11_house 74 = .ok (.aload_n 2, 1) := by decide +kernel
theorem dX11_house_75 : decode cX11_house 75 = .ok (.invokevirtual 113, 3) := by decide +kernel
theorem dX11_house_78 : decode cX11_house 78 = .ok (.aload_n 0, 1) := by decide +kernel
theorem dX11_house_79 : decode cX11_house 79 = .ok (.getfield 96, 3) := by decide +kernel
theorem dX11_house_82 : decode cX11_house 82 = .ok (.invokevirtual 116, 3) := by decide +kernel
theorem dX11_house_85 : decode cX11_house 85 = .ok (.aload_n 0, 1) := by decide +kernel
theorem dX11_house_86 : decode cX11_house 86 = .ok (.dup, 1) := by decide +kernel
theorem dX11_house_87 : decode cX11_house 87 = .ok (.getfield 74, 3) := by decide +kernel
theorem dX11_house_90 : decode cX11_house 90 = .ok (.iconst 1, 1) := by decide +kernel
theorem dX11_house_91 : decode cX11_house 91 = .ok (.iadd, 1) := by decide +kernel
theorem dX11_house_92 : decode cX11_house 92 = .ok (.putfield 74, 3) := by decide +kernel
theorem dX11_house_95 : decode cX11_house 95 = .ok (.aload_n 2, 1) := by decide +kernel
theorem dX11_house_96 : decode cX11_house 96 = .ok (.getfield 119, 3) := by decide +kernel
theorem dX11_house_99 : decode cX11_house 99 = .ok (.ireturn, 1) := by decide +kernel
theorem dX11_image_0 : decode cX11_image 0 = .ok (.iload_n 1, 1) := by decide +kernel
theorem dX11_image_1 : decode cX11_image 1 = .ok (.ifCond .lt 8, 3) := by decide +kernel
theorem dX11_image_4 : decode cX11_image 4 = .ok (.iload_n 1, 1) := by decide +kernel
theorem dX11_image_5 : decode cX11_image 5 = .ok (.iconst 2, 1) := by decide +kernel
theorem dX11_image_6 : decode cX11_image 6 = .ok (.if_icmp .lt 6, 3) := by decide +kernel
theorem dX11_image_9 : decode cX11_image 9 = .ok (.bipush (-2), 2) := by decide +kernel
theorem dX11_image_11 : decode cX11_image 11 = .ok (.ireturn, 1) := by decide +kernel
theorem dX11_image_12 : decode cX11_image 12 = .ok (.aload_n 0, 1) := by decide +kernel
theorem dX11_image_13 : decode cX11_image 13 = .ok (.getfield 38, 3) := by decide +kernel
theorem dX11_image_16 : decode cX11_image 16 = .ok (.iload_n 1, 1) := by decide +kernel
theorem dX11_image_17 : decode cX11_image 17 = .ok (.aaload, 1) := by decide +kernel
theorem dX11_image_18 : decode cX11_image 18 = .ok (.aload_n 0, 1) := by decide +kernel
theorem dX11_image_19 : decode cX11_image 19 = .ok (.getfield 83, 3) := by decide +kernel
theorem dX11_image_22 : decode cX11_image 22 = .ok (.invokevirtual 202, 3) := by decide +kernel
theorem dX11_image_25 : decode cX11_image 25 = .ok (.aload_n 0, 1) := by decide +kernel
theorem dX11_image_26 : decode cX11_image 26 = .ok (.getfield 42, 3) := by decide +kernel
theorem dX11_image_29 : decode cX11_image 29 = .ok (.iload_n 1, 1) := by decide +kernel
theorem dX11_image_30 : decode cX11_image 30 = .ok (.iconst 1, 1) := by decide +kernel
theorem dX11_image_31 : decode cX11_image 31 = .ok (.bastore, 1) := by decide +kernel
theorem dX11_image_32 : decode cX11_image 32 = .ok (.iconst 0, 1) := by decide +kernel
theorem dX11_image_33 : decode cX11_image 33 = .ok (.ireturn, 1) := by decide +kernel
theorem dX11_init_0 : decode cX11_init 0 = .ok (.aload_n 0, 1) := by decide +kernel
theorem dX11_init_1 : decode cX11_init 1 = .ok (.invokespecial 1, 3) := by decide +kernel
theorem dX11_init_4 : decode cX11_init 4 = .ok (.aload_n 0, 1) := by decide +kernel
theorem dX11_init_5 : decode cX11_init 5 = .ok (.sipush 900, 3) := by decide +kernel
theorem dX11_init_8 : decode cX11_init 8 = .ok (.newarray .byte, 2) := by decide +kernel
theorem dX11_init_10 : decode cX11_init 10 = .ok (.putfield 9, 3) := by decide +kernel
theorem dX11_init_13 : decode cX11_init 13 = .ok (.aload_n 0, 1) := by decide +kernel
theorem dX11_init_14 : decode cX11_init 14 = .ok (.iconst 0, 1) := by decide +kernel
theorem dX11_init_15 : decode cX11_init 15 = .ok (.putfield 13, 3) := by decide +kernel
theorem dX11_init_18 : decode cX11_init 18 = .ok (.aload_n 0, 1) := by decide +kernel
theorem dX11_init_19 : decode cX11_init 19 = .ok (.iconst 0, 1) := by decide +kernel
theorem dX11_init_20 : decode cX11_init 20 = .ok (.putfield 17, 3) := by decide +kernel
theorem dX11_init_23 : decode cX11_init 23 = .ok (.aload_n 0, 1) := by decide +kernel
theorem dX11_init_24 : decode cX11_init 24 = .ok (.iconst (-1), 1) := by decide +kernel
theorem dX11_init_25 : decode cX11_init 25 = .ok (.putfield 20, 3) := by decide +kernel
theorem dX11_init_28 : decode cX11_init 28 = .ok (.aload_n 0, 1) := by decide +kernel
theorem dX11_init_29 : decode cX11_init 29 = .ok (.new 23, 3) := by decide +kernel
theorem dX11_init_32 : decode cX11_init 32 = .ok (.dup, 1) := by decide +kernel
theorem dX11_init_33 : decode cX11_init 33 = .ok (.invokespecial 25, 3) := by decide +kernel
theorem dX11_init_36 : decode cX11_init 36 = .ok (.putfield 26, 3) := by decide +kernel
theorem dX11_init_39 : decode cX11_init 39 = .ok (.aload_n 0, 1) := by decide +kernel
theorem dX11_init_40 : decode cX11_init 40 = .ok (.iconst 4, 1) := by decide +kernel
theorem dX11_init_41 : decode cX11_init 41 = .ok (.anewarray 30, 3) := by decide +kernel
theorem dX11_init_44 : decode cX11_init 44 = .ok (.putfield 32, 3) := by decide +kernel
theorem dX11_init_47 : decode cX11_init 47 = .ok (.aload_n 0, 1) := by decide +kernel
theorem dX11_init_48 : decode cX11_init 48 = .ok (.iconst 2, 1) := by decide +kernel
theorem dX11_init_49 : decode cX11_init 49 = .ok (.anewarray 36, 3) := by decide +kernel
theorem dX11_init_52 : decode cX11_init 52 = .ok (.putfield 38, 3) := by decide +kernel
theorem dX11_init_55 : decode cX11_init 55 = .ok (.aload_n 0, 1) := by decide +kernel
theorem dX11_init_56 : decode cX11_init 56 = .ok (.iconst 2, 1) := by decide +kernel
theorem dX11_init_57 : decode cX11_init 57 = .ok (.newarray .boolean, 2) := by decide +kernel
theorem dX11_init_59 : decode cX11_init 59 = .ok (.putfield 42, 3) := by decide +kernel
theorem dX11_init_62 : decode cX11_init 62 = .ok (.aload_n 0, 1) := by decide +kernel
theorem dX11_init_63 : decode cX11_init 63 = .ok (.new 46, 3) := by decide +kernel
theorem dX11_init_66 : decode cX11_init 66 = .ok (.dup, 1) := by decide +kernel
theorem dX11_init_67 : decode cX11_init 67 = .ok (.invokespecial 48, 3) := by decide +kernel
theorem dX11_init_70 : decode cX11_init 70 = .ok (.putfield 49, 3) := by decide +kernel
theorem dX11_init_73 : decode cX11_init 73 = .ok (.aload_n 0, 1) := by decide +kernel
theorem dX11_init_74 : decode cX11_init 74 = .ok (.new 53, 3) := by decide +kernel
theorem dX11_init_77 : decode cX11_init 77 = .ok (.dup, 1) := by decide +kernel
theorem dX11_init_78 : decode cX11_init 78 = .ok (.invokespecial 55, 3) := by decide +kernel
theorem dX11_init_81 : decode cX11_init 81 = .ok (.putfield 56, 3) := by decide +kernel
theorem dX11_init_84 : decode cX11_init 84 = .ok (.aload_n 0, 1) := by decide +kernel
theorem dX11_init_85 : decode cX11_init 85 = .ok (.new 60, 3) := by decide +kernel
theorem dX11_init_88 : decode cX11_init 88 = .ok (.dup, 1) := by decide +kernel
theorem dX11_init_89 : decode cX11_init 89 = .ok (.invokespecial 62, 3) := by decide +kernel
theorem dX11_init_92 : decode cX11_init 92 = .ok (.putfield 63, 3) := by decide +kernel
theorem dX11_init_95 : decode cX11_init 95 = .ok (.aload_n 0, 1) := by decide +kernel
theorem dX11_init_96 : decode cX11_init 96 = .ok (.new 67, 3) := by decide +kernel
theorem dX11_init_99 : decode cX11_init 99 = .ok (.dup, 1) := by decide +kernel
theorem dX11_init_100 : decode cX11_init 100 = .ok (.invokespecial 69, 3) := by decide +kernel
theorem dX11_init_103 : decode cX11_init 103 = .ok (.putfield 70, 3) := by decide +kernel
theorem dX11_init_106 : decode cX11_init 106 = .ok (.aload_n 0, 1) := by decide +kernel
theorem dX11_init_107 : decode cX11_init 107 = .ok (.iconst 0, 1) := by decide +kernel
theorem dX11_init_108 : decode cX11_init 108 = .ok (.putfield 74, 3) := by decide +kernel
theorem dX11_init_111 : decode cX11_init 111 = .ok (.new 77, 3) := by decide +kernel
theorem dX11_init_114 : decode cX11_init 114 = .ok (.dup, 1) := by decide +kernel
theorem dX11_init_115 : decode cX11_init 115 = .ok (.invokespecial 79, 3) := by decide +kernel
theorem dX11_init_118 : decode cX11_init 118 = .ok (.astore_n 1, 1) := by decide +kernel
theorem dX11_init_119 : decode cX11_init 119 = .ok (.aload_n 0, 1) := by decide +kernel
theorem dX11_init_120 : decode cX11_init 120 = .ok (.new 36, 3) := by decide +kernel
theorem dX11_init_123 : decode cX11_init 123 = .ok (.dup, 1) := by decide +kernel
theorem dX11_init_124 : decode cX11_init 124 = .ok (.aload_n 1, 1) := by decide +kernel
theorem dX11_init_125 : decode cX11_init 125 = .ok (.invokespecial 80, 3) := by decide +kernel
theorem dX11_init_128 : decode cX11_init 128 = .ok (.putfield 83, 3) := by decide +kernel
theorem dX11_init_131 : decode cX11_init 131 = .ok (.aload_n 0, 1) := by decide +kernel
theorem dX11_init_132 : decode cX11_init 132 = .ok (.new 36, 3) := by decide +kernel
theorem dX11_init_135 : decode cX11_init 135 = .ok (.dup, 1) := by decide +kernel
theorem dX11_init_136 : decode cX11_init 136 = .ok (.aload_n 1, 1) := by decide +kernel
theorem dX11_init_137 : decode cX11_init 137 = .ok (.invokespecial 80, 3) := by decide +kernel
theorem dX11_init_140 : decode cX11_init 140 = .ok (.putfield 87, 3) := by decide +kernel
theorem dX11_init_143 : decode cX11_init 143 = .ok (.aload_n 0, 1) := by decide +kernel
theorem dX11_init_144 : decode cX11_init 144 = .ok (.new 36, 3) := by decide +kernel
theorem dX11_init_147 : decode cX11_init 147 = .ok (.dup, 1) := by decide +kernel
theorem dX11_init_148 : decode cX11_init 148 = .ok (.aload_n 1, 1) := by decide +kernel
theorem dX11_init_149 : decode cX11_init 149 = .ok (.invokespecial 80, 3) := by decide +kernel
theorem dX11_init_152 : decode cX11_init 152 = .ok (.putfield 90, 3) := by decide +kernel
theorem dX11_init_155 : decode cX11_init 155 = .ok (.aload_n 0, 1) := by decide +kernel
theorem dX11_init_156 : decode cX11_init 156 = .ok (.new 93, 3) := by decide +kernel
theorem dX11_init_159 : decode cX11_init 159 = .ok (.dup, 1) := by decide +kernel
theorem dX11_init_160 : decode cX11_init 160 = .ok (.aload_n 1, 1) := by decide +kernel
theorem dX11_init_161 : decode cX11_init 161 = .ok (.invokespecial 95, 3) := by decide +kernel
theorem dX11_init_164 : decode cX11_init 164 = .ok (.putfield 96, 3) := by decide +kernel
theorem dX11_init_167 : decode cX11_init 167 = .ok (.iconst 0, 1) := by decide +kernel
theorem dX11_init_168 : decode cX11_init 168 = .ok (.istore_n 2, 1) := by decide +kernel
theorem dX11_init_169 : decode cX11_init 169 = .ok (.iload_n 2, 1) := by decide +kernel
theorem dX11_init_170 : decode cX11_init 170 = .ok (.iconst 4, 1) := by decide +kernel
theorem dX11_init_171 : decode cX11_init 171 = .ok (.if_icmp .ge 22, 3) := by decide +kernel
theorem dX11_init_174 : decode cX11_init 174 = .ok (.aload_n 0, 1) := by decide +kernel
theorem dX11_init_175 : decode cX11_init 175 = .ok (.getfield 32, 3) := by decide +kernel
theorem dX11_init_178 : decode cX11_init 178 = .ok (.iload_n 2, 1) := by decide +kernel
theorem dX11_init_179 : decode cX11_init 179 = .ok (.new 30, 3) := by decide +kernel
theorem dX11_init_182 : decode cX11_init 182 = .ok (.dup, 1) := by decide +kernel
theorem dX11_init_183 : decode cX11_init 183 = .ok (.invokespecial 100, 3) := by decide +kernel
theorem dX11_init_186 : decode cX11_init 186 = .ok (.aastore, 1) := by decide +kernel
theorem dX11_init_187 : decode cX11_init 187 = .ok (.iinc 2 1, 3) := by decide +kernel
theorem dX11_init_190 : decode cX11_init 190 = .ok (.goto (-21), 3) := by decide +kernel
theorem dX11_init_193 : decode cX11_init 193 = .ok (.iconst 0, 1) := by decide +kernel
theorem dX11_init_194 : decode cX11_init 194 = .ok (.istore_n 2, 1) := by decide +kernel
theorem dX11_init_195 : decode cX11_init 195 = .ok (.iload_n 2, 1) := by decide +kernel
theorem dX11_init_196 : decode cX11_init 196 = .ok (.iconst 2, 1) := by decide +kernel
theorem dX11_init_197 : decode cX11_init 197 = .ok (.if_icmp .ge 23, 3) := by decide +kernel
theorem dX11_init_200 : decode cX11_init 200 = .ok (.aload_n 0, 1) := by decide +kernel
theorem dX11_init_201 : decode cX11_init 201 = .ok (.getfield 38, 3) := by decide +kernel
theorem dX11_init_204 : decode cX11_init 204 = .ok (.iload_n 2, 1) := by decide +kernel
theorem dX11_init_205 : decode cX11_init 205 = .ok (.new 36, 3) := by decide +kernel
theorem dX11_init_208 : decode cX11_init 208 = .ok (.dup, 1) := by decide +kernel
theorem dX11_init_209 : decode cX11_init 209 = .ok (.aload_n 1, 1) := by decide +kernel
theorem dX11_init_210 : decode cX11_init 210 = .ok (.invokespecial 80, 3) := by decide +kernel
theorem dX11_init_213 : decode cX11_init 213 = .ok (.aastore, 1) := by decide +kernel
theorem dX11_init_214 : decode cX11_init 214 = .ok (.iinc 2 1, 3) := by decide +kernel
theorem dX11_init_217 : decode cX11_init 217 = .ok (.goto (-22), 3) := by decide +kernel
theorem dX11_init_220 : decode cX11_init 220 = .ok (.return_, 1) := by decide +kernel
theorem dX11_isBill_0 : decode cX11_isBill 0 = .ok (.iload_n 1, 1) := by decide +kernel
theorem dX11_isBill_1 : decode cX11_isBill 1 = .ok (.ifCond .lt 13, 3) := by decide +kernel
theorem dX11_isBill_4 : decode cX11_isBill 4 = .ok (.iload_n 1, 1) := by decide +kernel
theorem dX11_isBill_5 : decode cX11_isBill 5 = .ok (.bipush 10, 2) := by decide +kernel
theorem dX11_isBill_7 : decode cX11_isBill 7 = .ok (.if_icmp .ge 7, 3) := by decide +kernel
theorem dX11_isBill_10 : decode cX11_isBill 10 = .ok (.iconst 1, 1) := by decide +kernel
theorem dX11_isBill_11 : decode cX11_isBill 11 = .ok (.goto 4, 3) := by decide +kernel
theorem dX11_isBill_14 : decode cX11_isBill 14 = .ok (.iconst 0, 1) := by decide +kernel
theorem dX11_isBill_15 : decode cX11_isBill 15 = .ok (.ireturn, 1) := by decide +kernel
theorem dX11_isPerson_0 : decode cX11_isPerson 0 = .ok (.iload_n 1, 1) := by decide +kernel
theorem dX11_isPerson_1 : decode cX11_isPerson 1 = .ok (.ifCond .lt 21, 3) := by decide +kernel
theorem dX11_isPerson_4 : decode cX11_isPerson 4 = .ok (.iload_n 1, 1) := by decide +kernel
theorem dX11_isPerson_5 : decode cX11_isPerson 5 = .ok (.aload_n 0, 1) := by decide +kernel
theorem dX11_isPerson_6 : decode cX11_isPerson 6 = .ok (.getfield 83, 3) := by decide +kernel
theorem dX11_isPerson_9 : decode cX11_isPerson 9 = .ok (.getfield 126, 3) := by decide +kernel
theorem dX11_isPerson_12 : decode cX11_isPerson 12 = .ok (.getfield 159, 3) := by decide +kernel
theorem dX11_isPerson_15 : decode cX11_isPerson 15 = .ok (.if_icmp .ge 7, 3) := by decide +kernel
theorem dX11_isPerson_18 : decode cX11_isPerson 18 = .ok (.iconst 1, 1) := by decide +kernel
theorem dX11_isPerson_19 : decode cX11_isPerson 19 = .ok (.goto 4, 3) := by decide +kernel
theorem dX11_isPerson_22 : decode cX11_isPerson 22 = .ok (.iconst 0, 1) := by decide +kernel
theorem dX11_isPerson_23 : decode cX11_isPerson 23 = .ok (.ireturn, 1) := by decide +kernel
theorem dX11_isSet_0 : decode cX11_isSet 0 = .ok (.iload_n 1, 1) := by decide +kernel
theorem dX11_isSet_1 : decode cX11_isSet 1 = .ok (.aload_n 0, 1) := by decide +kernel
theorem dX11_isSet_2 : decode cX11_isSet 2 = .ok (.invokevirtual 162, 3) := by decide +kernel
theorem dX11_isSet_5 : decode cX11_isSet 5 = .ok (.iconst (-1), 1) := by decide +kernel
theorem dX11_isSet_6 : decode cX11_isSet 6 = .ok (.ixor, 1) := by decide +kernel
theorem dX11_isSet_7 : decode cX11_isSet 7 = .ok (.iand, 1) := by decide +kernel
theorem dX11_isSet_8 : decode cX11_isSet 8 = .ok (.ifCond .ne 7, 3) := by decide +kernel
theorem dX11_isSet_11 : decode cX11_isSet 11 = .ok (.iconst 1, 1) := by decide +kernel
theorem dX11_isSet_12 : decode cX11_isSet 12 = .ok (.goto 4, 3) := by decide +kernel
theorem dX11_isSet_15 : decode cX11_isSet 15 = .ok (.iconst 0, 1) := by decide +kernel
theorem dX11_isSet_16 : decode cX11_isSet 16 = .ok (.ireturn, 1) := by decide +kernel
theorem dX11_isTray_0 : decode cX11_isTray 0 = .ok (.iload_n 1, 1) := by decide +kernel
theorem dX11_isTray_1 : decode cX11_isTray 1 = .ok (.ifCond .lt 12, 3) := by decide +kernel
theorem dX11_isTray_4 : decode cX11_isTray 4 = .ok (.iload_n 1, 1) := by decide +kernel
theorem dX11_isTray_5 : decode cX11_isTray 5 = .ok (.iconst 4, 1) := by decide +kernel
theorem dX11_isTray_6 : decode cX11_isTray 6 = .ok (.if_icmp .ge 7, 3) := by decide +kernel
theorem dX11_isTray_9 : decode cX11_isTray 9 = .ok (.iconst 1, 1) := by decide +kernel
theorem dX11_isTray_10 : decode cX11_isTray 10 = .ok (.goto 4, 3) := by decide +kernel
theorem dX11_isTray_13 : decode cX11_isTray 13 = .ok (.iconst 0, 1) := by decide +kernel
theorem dX11_isTray_14 : decode cX11_isTray 14 = .ok (.ireturn, 1) := by decide +kernel
theorem dX11_judge_0 : decode cX11_judge 0 = .ok (.aload_n 0, 1) := by decide +kernel
theorem dX11_judge_1 : decode cX11_judge 1 = .ok (.iload_n 1, 1) := by decide +kernel
theorem dX11_judge_2 : decode cX11_judge 2 = .ok (.invokevirtual 223, 3) := by decide +kernel
theorem dX11_judge_5 : decode cX11_judge 5 = .ok (.ifCond .eq 12, 3) := by decide +kernel
theorem dX11_judge_8 : decode cX11_judge 8 = .ok (.iload_n 2, 1) := by decide +kernel
theorem dX11_judge_9 : decode cX11_judge 9 = .ok (.ifCond .lt 8, 3) := by decide +kernel
theorem dX11_judge_12 : decode cX11_judge 12 = .ok (.iload_n 2, 1) := by decide +kernel
theorem dX11_judge_13 : decode cX11_judge 13 = .ok (.iconst 3, 1) := by decide +kernel
theorem dX11_judge_14 : decode cX11_judge 14 = .ok (.if_icmp .le 6, 3) := by decide +kernel
theorem dX11_judge_17 : decode cX11_judge 17 = .ok (.bipush (-2), 2) := by decide +kernel
theorem dX11_judge_19 : decode cX11_judge 19 = .ok (.ireturn, 1) := by decide +kernel
theorem dX11_judge_20 : decode cX11_judge 20 = .ok (.aload_n 0, 1) := by decide +kernel
theorem dX11_judge_21 : decode cX11_judge 21 = .ok (.getfield 32, 3) := by decide +kernel
theorem dX11_judge_24 : decode cX11_judge 24 = .ok (.iload_n 1, 1) := by decide +kernel
theorem dX11_judge_25 : decode cX11_judge 25 = .ok (.aaload, 1) := by decide +kernel
theorem dX11_judge_26 : decode cX11_judge 26 = .ok (.astore_n 3, 1) := by decide +kernel
theorem dX11_judge_27 : decode cX11_judge 27 = .ok (.aload_n 3, 1) := by decide +kernel
theorem dX11_judge_28 : decode cX11_judge 28 = .ok (.invokevirtual 226, 3) := by decide +kernel
theorem dX11_judge_31 : decode cX11_judge 31 = .ok (.ifCond .eq 6, 3) := by decide +kernel
theorem dX11_judge_34 : decode cX11_judge 34 = .ok (.bipush (-6), 2) := by decide +kernel
theorem dX11_judge_36 : decode cX11_judge 36 = .ok (.ireturn, 1) := by decide +kernel
theorem dX11_judge_37 : decode cX11_judge 37 = .ok (.aload_n 0, 1) := by decide +kernel
theorem dX11_judge_38 : decode cX11_judge 38 = .ok (.getfield 90, 3) := by decide +kernel
theorem dX11_judge_41 : decode cX11_judge 41 = .ok (.aload_n 0, 1) := by decide +kernel
theorem dX11_judge_42 : decode cX11_judge 42 = .ok (.getfield 83, 3) := by decide +kernel
theorem dX11_judge_45 : decode cX11_judge 45 = .ok (.invokevirtual 202, 3) := by decide +kernel
theorem dX11_judge_48 : decode cX11_judge 48 = .ok (.aload_n 3, 1) := by decide +kernel
theorem dX11_judge_49 : decode cX11_judge 49 = .ok (.aload_n 0, 1) := by decide +kernel
theorem dX11_judge_50 : decode cX11_judge 50 = .ok (.getfield 90, 3) := by decide +kernel
theorem dX11_judge_53 : decode cX11_judge 53 = .ok (.aload_n 0, 1) := by decide +kernel
theorem dX11_judge_54 : decode cX11_judge 54 = .ok (.getfield 49, 3) := by decide +kernel
theorem dX11_judge_57 : decode cX11_judge 57 = .ok (.invokevirtual 230, 3) := by decide +kernel
theorem dX11_judge_60 : decode cX11_judge 60 = .ok (.istore 4, 2) := by decide +kernel
theorem dX11_judge_62 : decode cX11_judge 62 = .ok (.iload_n 2, 1) := by decide +kernel
theorem dX11_judge_63 : decode cX11_judge 63 = .ok (.tableswitch 86 0 2 #[25, 41, 69], 25) := by decide +kernel
theorem dX11_judge_88 : decode cX11_judge 88 = .ok (.iload 4, 2) := by decide +kernel
theorem dX11_judge_90 : decode cX11_judge 90 = .ok (.aload_n 3, 1) := by decide +kernel
theorem dX11_judge_91 : decode cX11_judge 91 = .ok (.getfield 234, 3) := by decide +kernel
theorem dX11_judge_94 : decode cX11_judge 94 = .ok (.if_icmp .ge 8, 3) := by decide +kernel
theorem dX11_judge_97 : decode cX11_judge 97 = .ok (.iload 4, 2) := by decide +kernel
theorem dX11_judge_99 : decode cX11_judge 99 = .ok (.goto 4, 3) := by decide +kernel
theorem dX11_judge_102 : decode cX11_judge 102 = .ok (.iconst (-1), 1) := by decide +kernel
theorem dX11_judge_103 : decode cX11_judge 103 = .ok (.ireturn, 1) := by decide +kernel
theorem dX11_judge_104 : decode cX11_judge 104 = .ok (.iload 4, 2) := by decide +kernel
theorem dX11_judge_106 : decode cX11_judge 106 = .ok (.aload_n 3, 1) := by decide +kernel
theorem dX11_judge_107 : decode cX11_judge 107 = .ok (.getfield 234, 3) := by decide +kernel
theorem dX11_judge_110 : decode cX11_judge 110 = .ok (.if_icmp .ge 20, 3) := by decide +kernel
theorem dX11_judge_113 : decode cX11_judge 113 = .ok (.aload_n 0, 1) := by decide +kernel
theorem dX11_judge_114 : decode cX11_judge 114 = .ok (.getfield 90, 3) := by decide +kernel
theorem dX11_judge_117 : decode cX11_judge 117 = .ok (.aload_n 3, 1) := by decide +kernel
theorem dX11_judge_118 : decode cX11_judge 118 = .ok (.getfield 235, 3) := by decide +kernel
theorem dX11_judge_121 : decode cX11_judge 121 = .ok (.iload 4, 2) := by decide +kernel
theorem dX11_judge_123 : decode cX11_judge 123 = .ok (.laload, 1) := by decide +kernel
theorem dX11_judge_124 : decode cX11_judge 124 = .ok (.invokevirtual 198, 3) := by decide +kernel
theorem dX11_judge_127 : decode cX11_judge 127 = .ok (.goto 4, 3) := by decide +kernel
theorem dX11_judge_130 : decode cX11_judge 130 = .ok (.iconst 0, 1) := by decide +kernel
theorem dX11_judge_131 : decode cX11_judge 131 = .ok (.ireturn, 1) := by decide +kernel
theorem dX11_judge_132 : decode cX11_judge 132 = .ok (.aload_n 0, 1) := by decide +kernel
theorem dX11_judge_133 : decode cX11_judge 133 = .ok (.aload_n 0, 1) := by decide +kernel
theorem dX11_judge_134 : decode cX11_judge 134 = .ok (.getfield 90, 3) := by decide +kernel
theorem dX11_judge_137 : decode cX11_judge 137 = .ok (.invokevirtual 239, 3) := by decide +kernel
theorem dX11_judge_140 : decode cX11_judge 140 = .ok (.ifCond .eq 7, 3) := by decide +kernel
theorem dX11_judge_143 : decode cX11_judge 143 = .ok (.iconst 1, 1) := by decide +kernel
theorem dX11_judge_144 : decode cX11_judge 144 = .ok (.goto 4, 3) := by decide +kernel
theorem dX11_judge_147 : decode cX11_judge 147 = .ok (.iconst 0, 1) := by decide +kernel
theorem dX11_judge_148 : decode cX11_judge 148 = .ok (.ireturn, 1) := by decide +kernel
theorem dX11_judge_149 : decode cX11_judge 149 = .ok (.aload_n 0, 1) := by decide +kernel
theorem dX11_judge_150 : decode cX11_judge 150 = .ok (.getfield 90, 3) := by decide +kernel
theorem dX11_judge_153 : decode cX11_judge 153 = .ok (.getfield 165, 3) := by decide +kernel
theorem dX11_judge_156 : decode cX11_judge 156 = .ok (.ireturn, 1) := by decide +kernel
theorem dX11_laundress_0 : decode cX11_laundress 0 = .ok (.aload_n 0, 1) := by decide +kernel
theorem dX11_laundress_1 : decode cX11_laundress 1 = .ok (.iload_n 1, 1) := by decide +kernel
theorem dX11_laundress_2 : decode cX11_laundress 2 = .ok (.invokevirtual 257, 3) := by decide +kernel
theorem dX11_laundress_5 : decode cX11_laundress 5 = .ok (.ifCond .ne 6, 3) := by decide +kernel
theorem dX11_laundress_8 : decode cX11_laundress 8 = .ok (.bipush (-3), 2) := by decide +kernel
theorem dX11_laundress_10 : decode cX11_laundress 10 = .ok (.ireturn, 1) := by decide +kernel
theorem dX11_laundress_11 : decode cX11_laundress 11 = .ok (.aload_n 0, 1) := by decide +kernel
theorem dX11_laundress_12 : decode cX11_laundress 12 = .ok (.invokevirtual 260, 3) := by decide +kernel
theorem dX11_laundress_15 : decode cX11_laundress 15 = .ok (.aload_n 0, 1) := by decide +kernel
theorem dX11_laundress_16 : decode cX11_laundress 16 = .ok (.getfield 83, 3) := by decide +kernel
theorem dX11_laundress_19 : decode cX11_laundress 19 = .ok (.invokevirtual 155, 3) := by decide +kernel
theorem dX11_laundress_22 : decode cX11_laundress 22 = .ok (.iload_n 1, 1) := by decide +kernel
theorem dX11_laundress_23 : decode cX11_laundress 23 = .ok (.iconst (-1), 1) := by decide +kernel
theorem dX11_laundress_24 : decode cX11_laundress 24 = .ok (.ixor, 1) := by decide +kernel
theorem dX11_laundress_25 : decode cX11_laundress 25 = .ok (.iand, 1) := by decide +kernel
theorem dX11_laundress_26 : decode cX11_laundress 26 = .ok (.istore_n 2, 1) := by decide +kernel
theorem dX11_laundress_27 : decode cX11_laundress 27 = .ok (.iconst (-1), 1) := by decide +kernel
theorem dX11_laundress_28 : decode cX11_laundress 28 = .ok (.istore_n 3, 1) := by decide +kernel
theorem dX11_laundress_29 : decode cX11_laundress 29 = .ok (.iconst (-1), 1) := by decide +kernel
theorem dX11_laundress_30 : decode cX11_laundress 30 = .ok (.istore 4, 2) := by decide +kernel
theorem dX11_laundress_32 : decode cX11_laundress 32 = .ok (.iconst 0, 1) := by decide +kernel
theorem dX11_laundress_33 : decode cX11_laundress 33 = .ok (.istore 5, 2) := by decide +kernel
theorem dX11_laundress_35 : decode cX11_laundress 35 = .ok (.iload 5, 2) := by decide +kernel
theorem dX11_laundress_37 : decode cX11_laundress 37 = .ok (.aload_n 0, 1) := by decide +kernel
theorem dX11_laundress_38 : decode cX11_laundress 38 = .ok (.getfield 83, 3) := by decide +kernel
theorem dX11_laundress_41 : decode cX11_laundress 41 = .ok (.getfield 126, 3) := by decide +kernel
theorem dX11_laundress_44 : decode cX11_laundress 44 = .ok (.getfield 159, 3) := by decide +kernel
theorem dX11_laundress_47 : decode cX11_laundress 47 = .ok (.if_icmp .ge 50, 3) := by decide +kernel
theorem dX11_laundress_50 : decode cX11_laundress 50 = .ok (.aload_n 0, 1) := by decide +kernel
theorem dX11_laundress_51 : decode cX11_laundress 51 = .ok (.getfield 56, 3) := by decide +kernel
theorem dX11_laundress_54 : decode cX11_laundress 54 = .ok (.getfield 296, 3) := by decide +kernel
theorem dX11_laundress_57 : decode cX11_laundress 57 = .ok (.iload 5, 2) := by decide +kernel
theorem dX11_laundress_59 : decode cX11_laundress 59 = .ok (.iaload, 1) := by decide +kernel
theorem dX11_laundress_60 : decode cX11_laundress 60 = .ok (.iload_n 1, 1) := by decide +kernel
theorem dX11_laundress_61 : decode cX11_laundress 61 = .ok (.iand, 1) := by decide +kernel
theorem dX11_laundress_62 : decode cX11_laundress 62 = .ok (.invokestatic 193, 3) := by decide +kernel
theorem dX11_laundress_65 : decode cX11_laundress 65 = .ok (.istore 6, 2) := by decide +kernel
theorem dX11_laundress_67 : decode cX11_laundress 67 = .ok (.iload_n 2, 1) := by decide +kernel
theorem dX11_laundress_68 : decode cX11_laundress 68 = .ok (.iload 5, 2) := by decide +kernel
theorem dX11_laundress_70 : decode cX11_laundress 70 = .ok (.ishr, 1) := by decide +kernel
theorem dX11_laundress_71 : decode cX11_laundress 71 = .ok (.iconst 1, 1) := by decide +kernel
theorem dX11_laundress_72 : decode cX11_laundress 72 = .ok (.iand, 1) := by decide +kernel
theorem dX11_laundress_73 : decode cX11_laundress 73 = .ok (.iconst 1, 1) := by decide +kernel
theorem dX11_laundress_74 : decode cX11_laundress 74 = .ok (.if_icmp .ne 17, 3) := by decide +kernel
theorem dX11_laundress_77 : decode cX11_laundress 77 = .ok (.iload 6, 2) := by decide +kernel
theorem dX11_laundress_79 : decode cX11_laundress 79 = .ok (.iload 4, 2) := by decide +kernel
theorem dX11_laundress_81 : decode cX11_laundress 81 = .ok (.if_icmp .le 10, 3) := by decide +kernel
theorem dX11_laundress_84 : decode cX11_laundress 84 = .ok (.iload 6, 2) := by decide +kernel
theorem dX11_laundress_86 : decode cX11_laundress 86 = .ok (.istore 4, 2) := by decide +kernel
theorem dX11_laundress_88 : decode cX11_laundress 88 = .ok (.iload 5, 2) := by decide +kernel
theorem dX11_laundress_90 : decode cX11_laundress 90 = .ok (.istore_n 3, 1) := by decide +kernel
theorem dX11_laundress_91 : decode cX11_laundress 91 = .ok (.iinc 5 1, 3) := by decide +kernel
theorem dX11_laundress_94 : decode cX11_laundress 94 = .ok (.goto (-59), 3) := by decide +kernel
theorem dX11_laundress_97 : decode cX11_laundress 97 = .ok (.iload_n 3, 1) := by decide +kernel
theorem dX11_laundress_98 : decode cX11_laundress 98 = .ok (.ireturn, 1) := by decide +kernel
theorem dX11_lists_0 : decode cX11_lists 0 = .ok (.aload_n 0, 1) := by decide +kernel
theorem dX11_lists_1 : decode cX11_lists 1 = .ok (.iload_n 1, 1) := by decide +kernel
theorem dX11_lists_2 : decode cX11_lists 2 = .ok (.invokevirtual 223, 3) := by decide +kernel
theorem dX11_lists_5 : decode cX11_lists 5 = .ok (.ifCond .eq 12, 3) := by decide +kernel
theorem dX11_lists_8 : decode cX11_lists 8 = .ok (.aload_n 0, 1) := by decide +kernel
theorem dX11_lists_9 : decode cX11_lists 9 = .ok (.iload_n 2, 1) := by decide +kernel
theorem dX11_lists_10 : decode cX11_lists 10 = .ok (.iload_n 3, 1) := by decide +kernel
theorem dX11_lists_11 : decode cX11_lists 11 = .ok (.invokevirtual 180, 3) := by decide +kernel
theorem dX11_lists_14 : decode cX11_lists 14 = .ok (.ifCond .ne 6, 3) := by decide +kernel
theorem dX11_lists_17 : decode cX11_lists 17 = .ok (.bipush (-2), 2) := by decide +kernel
theorem dX11_lists_19 : decode cX11_lists 19 = .ok (.ireturn, 1) := by decide +kernel
theorem dX11_lists_20 : decode cX11_lists 20 = .ok (.aload_n 0, 1) := by decide +kernel
theorem dX11_lists_21 : decode cX11_lists 21 = .ok (.getfield 32, 3) := by decide +kernel
theorem dX11_lists_24 : decode cX11_lists 24 = .ok (.iload_n 1, 1) := by decide +kernel
theorem dX11_lists_25 : decode cX11_lists 25 = .ok (.aaload, 1) := by decide +kernel
theorem dX11_lists_26 : decode cX11_lists 26 = .ok (.astore 4, 2) := by decide +kernel
theorem dX11_lists_28 : decode cX11_lists 28 = .ok (.aload 4, 2) := by decide +kernel
theorem dX11_lists_30 : decode cX11_lists 30 = .ok (.invokevirtual 226, 3) := by decide +kernel
theorem dX11_lists_33 : decode cX11_lists 33 = .ok (.ifCond .eq 6, 3) := by decide +kernel
theorem dX11_lists_36 : decode cX11_lists 36 = .ok (.bipush (-6), 2) := by decide +kernel
theorem dX11_lists_38 : decode cX11_lists 38 = .ok (.ireturn, 1) := by decide +kernel
theorem dX11_lists_39 : decode cX11_lists 39 = .ok (.aload_n 0, 1) := by decide +kernel
theorem dX11_lists_40 : decode cX11_lists 40 = .ok (.getfield 63, 3) := by decide +kernel
theorem dX11_lists_43 : decode cX11_lists 43 = .ok (.aload_n 0, 1) := by decide +kernel
theorem dX11_lists_44 : decode cX11_lists 44 = .ok (.getfield 83, 3) := by decide +kernel
theorem dX11_lists_47 : decode cX11_lists 47 = .ok (.iload_n 2, 1) := by decide +kernel
theorem dX11_lists_48 : decode cX11_lists 48 = .ok (.iload_n 3, 1) := by decide +kernel
theorem dX11_lists_49 : decode cX11_lists 49 = .ok (.aload_n 0, 1) := by decide +kernel
theorem dX11_lists_50 : decode cX11_lists 50 = .ok (.getfield 49, 3) := by decide +kernel
theorem dX11_lists_53 : decode cX11_lists 53 = .ok (.aload_n 0, 1) := by decide +kernel
theorem dX11_lists_54 : decode cX11_lists 54 = .ok (.getfield 74, 3) := by decide +kernel
theorem dX11_lists_57 : decode cX11_lists 57 = .ok (.invokevirtual 299, 3) := by decide +kernel
theorem dX11_lists_60 : decode cX11_lists 60 = .ok (.aload_n 0, 1) := by decide +kernel
theorem dX11_lists_61 : decode cX11_lists 61 = .ok (.getfield 63, 3) := by decide +kernel
theorem dX11_lists_64 : decode cX11_lists 64 = .ok (.getfield 303, 3) := by decide +kernel
theorem dX11_lists_67 : decode cX11_lists 67 = .ok (.iconst (-1), 1) := by decide +kernel
theorem dX11_lists_68 : decode cX11_lists 68 = .ok (.if_icmp .ne 6, 3) := by decide +kernel
theorem dX11_lists_71 : decode cX11_lists 71 = .ok (.bipush (-5), 2) := by decide +kernel
theorem dX11_lists_73 : decode cX11_lists 73 = .ok (.ireturn, 1) := by decide +kernel
theorem dX11_lists_74 : decode cX11_lists 74 = .ok (.aload_n 0, 1) := by decide +kernel
theorem dX11_lists_75 : decode cX11_lists 75 = .ok (.getfield 63, 3) := by decide +kernel
theorem dX11_lists_78 : decode cX11_lists 78 = .ok (.getfield 303, 3) := by decide +kernel
theorem dX11_lists_81 : decode cX11_lists 81 = .ok (.aload 4, 2) := by decide +kernel
theorem dX11_lists_83 : decode cX11_lists 83 = .ok (.getfield 234, 3) := by decide +kernel
theorem dX11_lists_86 : decode cX11_lists 86 = .ok (.invokestatic 140, 3) := by decide +kernel
theorem dX11_lists_89 : decode cX11_lists 89 = .ok (.istore 5, 2) := by decide +kernel
theorem dX11_lists_91 : decode cX11_lists 91 = .ok (.iconst 0, 1) := by decide +kernel
theorem dX11_lists_92 : decode cX11_lists 92 = .ok (.istore 6, 2) := by decide +kernel
theorem dX11_lists_94 : decode cX11_lists 94 = .ok (.iload 6, 2) := by decide +kernel
theorem dX11_lists_96 : decode cX11_lists 96 = .ok (.iload 5, 2) := by decide +kernel
theorem dX11_lists_98 : decode cX11_lists 98 = .ok (.if_icmp .ge 32, 3) := by decide +kernel
theorem dX11_lists_101 : decode cX11_lists 101 = .ok (.aload 4, 2) := by decide +kernel
theorem dX11_lists_103 : decode cX11_lists 103 = .ok (.iload 6, 2) := by decide +kernel
theorem dX11_lists_105 : decode cX11_lists 105 = .ok (.bipush 10, 2) := by decide +kernel
theorem dX11_lists_107 : decode cX11_lists 107 = .ok (.iload_n 2, 1) := by decide +kernel
theorem dX11_lists_108 : decode cX11_lists 108 = .ok (.imul, 1) := by decide +kernel
theorem dX11_lists_109 : decode cX11_lists 109 = .ok (.aload_n 0, 1) := by decide +kernel
theorem dX11_lists_110 : decode cX11_lists 110 = .ok (.getfield 63, 3) := by decide +kernel
theorem dX11_lists_113 : decode cX11_lists 113 = .ok (.getfield 306, 3) := by decide +kernel
theorem dX11_lists_116 : decode cX11_lists 116 = .ok (.iload 6, 2) := by decide +kernel
theorem dX11_lists_118 : decode cX11_lists 118 = .ok (.iaload, 1) := by decide +kernel
theorem dX11_lists_119 : decode cX11_lists 119 = .ok (.iadd, 1) := by decide +kernel
theorem dX11_lists_120 : decode cX11_lists 120 = .ok (.i2l, 1) := by decide +kernel
theorem dX11_lists_121 : decode cX11_lists 121 = .ok (.invokevirtual 364, 3) := by decide +kernel
theorem dX11_lists_124 : decode cX11_lists 124 = .ok (.iinc 6 1, 3) := by decide +kernel
theorem dX11_lists_127 : decode cX11_lists 127 = .ok (.goto (-33), 3) := by decide +kernel
theorem dX11_lists_130 : decode cX11_lists 130 = .ok (.iload 5, 2) := by decide +kernel
theorem dX11_lists_132 : decode cX11_lists 132 = .ok (.ireturn, 1) := by decide +kernel
theorem dX11_nextDraw_0 : decode cX11_nextDraw 0 = .ok (.ldc_w 256, 3) := by decide +kernel
theorem dX11_nextDraw_3 : decode cX11_nextDraw 3 = .ok (.iload_n 0, 1) := by decide +kernel
theorem dX11_nextDraw_4 : decode cX11_nextDraw 4 = .ok (.imul, 1) := by decide +kernel
theorem dX11_nextDraw_5 : decode cX11_nextDraw 5 = .ok (.sipush 12345, 3) := by decide +kernel
theorem dX11_nextDraw_8 : decode cX11_nextDraw 8 = .ok (.iadd, 1) := by decide +kernel
theorem dX11_nextDraw_9 : decode cX11_nextDraw 9 = .ok (.ireturn, 1) := by decide +kernel
theorem dX11_numberOrSet_0 : decode cX11_numberOrSet 0 = .ok (.iload_n 0, 1) := by decide +kernel
theorem dX11_numberOrSet_1 : decode cX11_numberOrSet 1 = .ok (.iconst (-1), 1) := by decide +kernel
theorem dX11_numberOrSet_2 : decode cX11_numberOrSet 2 = .ok (.if_icmp .ne 5, 3) := by decide +kernel
theorem dX11_numberOrSet_5 : decode cX11_numberOrSet 5 = .ok (.iconst (-1), 1) := by decide +kernel
theorem dX11_numberOrSet_6 : decode cX11_numberOrSet 6 = .ok (.ireturn, 1) := by decide +kernel
theorem dX11_numberOrSet_7 : decode cX11_numberOrSet 7 = .ok (.iload_n 1, 1) := by decide +kernel
theorem dX11_numberOrSet_8 : decode cX11_numberOrSet 8 = .ok (.ifCond .ne 10, 3) := by decide +kernel
theorem dX11_numberOrSet_11 : decode cX11_numberOrSet 11 = .ok (.iload_n 0, 1) := by decide +kernel
theorem dX11_numberOrSet_12 : decode cX11_numberOrSet 12 = .ok (.invokestatic 193, 3) := by decide +kernel
theorem dX11_numberOrSet_15 : decode cX11_numberOrSet 15 = .ok (.goto 4, 3) := by decide +kernel
theorem dX11_numberOrSet_18 : decode cX11_numberOrSet 18 = .ok (.iload_n 0, 1) := by decide +kernel
theorem dX11_numberOrSet_19 : decode cX11_numberOrSet 19 = .ok (.ireturn, 1) := by decide +kernel
theorem dX11_numbers_0 : decode cX11_numbers 0 = .ok (.aload_n 0, 1) := by decide +kernel
theorem dX11_numbers_1 : decode cX11_numbers 1 = .ok (.iload_n 1, 1) := by decide +kernel
theorem dX11_numbers_2 : decode cX11_numbers 2 = .ok (.invokevirtual 223, 3) := by decide +kernel
theorem dX11_numbers_5 : decode cX11_numbers 5 = .ok (.ifCond .eq 12, 3) := by decide +kernel
theorem dX11_numbers_8 : decode cX11_numbers 8 = .ok (.iload_n 2, 1) := by decide +kernel
theorem dX11_numbers_9 : decode cX11_numbers 9 = .ok (.ifCond .lt 8, 3) := by decide +kernel
theorem dX11_numbers_12 : decode cX11_numbers 12 = .ok (.iload_n 2, 1) := by decide +kernel
theorem dX11_numbers_13 : decode cX11_numbers 13 = .ok (.iconst 4, 1) := by decide +kernel
theorem dX11_numbers_14 : decode cX11_numbers 14 = .ok (.if_icmp .lt 6, 3) := by decide +kernel
theorem dX11_numbers_17 : decode cX11_numbers 17 = .ok (.bipush (-2), 2) := by decide +kernel
theorem dX11_numbers_19 : decode cX11_numbers 19 = .ok (.ireturn, 1) := by decide +kernel
theorem dX11_numbers_20 : decode cX11_numbers 20 = .ok (.iload_n 3, 1) := by decide +kernel
theorem dX11_numbers_21 : decode cX11_numbers 21 = .ok (.ifCond .lt 9, 3) := by decide +kernel
theorem dX11_numbers_24 : decode cX11_numbers 24 = .ok (.iload_n 3, 1) := by decide +kernel
theorem dX11_numbers_25 : decode cX11_numbers 25 = .ok (.bipush 40, 2) := by decide +kernel
theorem dX11_numbers_27 : decode cX11_numbers 27 = .ok (.if_icmp .le 6, 3) := by decide +kernel
theorem dX11_numbers_30 : decode cX11_numbers 30 = .ok (.bipush (-3), 2) := by decide +kernel
theorem dX11_numbers_32 : decode cX11_numbers 32 = .ok (.ireturn, 1) := by decide +kernel
theorem dX11_numbers_33 : decode cX11_numbers 33 = .ok (.aload_n 0, 1) := by decide +kernel
theorem dX11_numbers_34 : decode cX11_numbers 34 = .ok (.getfield 32, 3) := by decide +kernel
theorem dX11_numbers_37 : decode cX11_numbers 37 = .ok (.iload_n 1, 1) := by decide +kernel
theorem dX11_numbers_38 : decode cX11_numbers 38 = .ok (.aaload, 1) := by decide +kernel
theorem dX11_numbers_39 : decode cX11_numbers 39 = .ok (.iload_n 2, 1) := by decide +kernel
theorem dX11_numbers_40 : decode cX11_numbers 40 = .ok (.iload_n 3, 1) := by decide +kernel
theorem dX11_numbers_41 : decode cX11_numbers 41 = .ok (.invokevirtual 357, 3) := by decide +kernel
theorem dX11_numbers_44 : decode cX11_numbers 44 = .ok (.iconst 0, 1) := by decide +kernel
theorem dX11_numbers_45 : decode cX11_numbers 45 = .ok (.ireturn, 1) := by decide +kernel
theorem dX11_opposed_0 : decode cX11_opposed 0 = .ok (.aload_n 0, 1) := by decide +kernel
theorem dX11_opposed_1 : decode cX11_opposed 1 = .ok (.iload_n 1, 1) := by decide +kernel
theorem dX11_opposed_2 : decode cX11_opposed 2 = .ok (.invokevirtual 122, 3) := by decide +kernel
theorem dX11_opposed_5 : decode cX11_opposed 5 = .ok (.ifCond .eq 11, 3) := by decide +kernel
theorem dX11_opposed_8 : decode cX11_opposed 8 = .ok (.aload_n 0, 1) := by decide +kernel
theorem dX11_opposed_9 : decode cX11_opposed 9 = .ok (.iload_n 2, 1) := by decide +kernel
theorem dX11_opposed_10 : decode cX11_opposed 10 = .ok (.invokevirtual 122, 3) := by decide +kernel
theorem dX11_opposed_13 : decode cX11_opposed 13 = .ok (.ifCond .ne 6, 3) := by decide +kernel
theorem dX11_opposed_16 : decode cX11_opposed 16 = .ok (.bipush (-2), 2) := by decide +kernel
theorem dX11_opposed_18 : decode cX11_opposed 18 = .ok (.ireturn, 1) := by decide +kernel
theorem dX11_opposed_19 : decode cX11_opposed 19 = .ok (.iload_n 1, 1) := by decide +kernel
theorem dX11_opposed_20 : decode cX11_opposed 20 = .ok (.iload_n 2, 1) := by decide +kernel
theorem dX11_opposed_21 : decode cX11_opposed 21 = .ok (.if_icmp .eq 39, 3) := by decide +kernel
theorem dX11_opposed_24 : decode cX11_opposed 24 = .ok (.aload_n 0, 1) := by decide +kernel
theorem dX11_opposed_25 : decode cX11_opposed 25 = .ok (.getfield 49, 3) := by decide +kernel
theorem dX11_opposed_28 : decode cX11_opposed 28 = .ok (.aload_n 0, 1) := by decide +kernel
theorem dX11_opposed_29 : decode cX11_opposed 29 = .ok (.getfield 83, 3) := by decide +kernel
theorem dX11_opposed_32 : decode cX11_opposed 32 = .ok (.iload_n 1, 1) := by decide +kernel
theorem dX11_opposed_33 : decode cX11_opposed 33 = .ok (.aload_n 0, 1) := by decide +kernel
theorem dX11_opposed_34 : decode cX11_opposed 34 = .ok (.getfield 83, 3) := by decide +kernel
theorem dX11_opposed_37 : decode cX11_opposed 37 = .ok (.getfield 130, 3) := by decide +kernel
theorem dX11_opposed_40 : decode cX11_opposed 40 = .ok (.iload_n 1, 1) := by decide +kernel
theorem dX11_opposed_41 : decode cX11_opposed 41 = .ok (.iaload, 1) := by decide +kernel
theorem dX11_opposed_42 : decode cX11_opposed 42 = .ok (.iload_n 2, 1) := by decide +kernel
theorem dX11_opposed_43 : decode cX11_opposed 43 = .ok (.aload_n 0, 1) := by decide +kernel
theorem dX11_opposed_44 : decode cX11_opposed 44 = .ok (.getfield 83, 3) := by decide +kernel
theorem dX11_opposed_47 : decode cX11_opposed 47 = .ok (.getfield 165, 3) := by decide +kernel
theorem dX11_opposed_50 : decode cX11_opposed 50 = .ok (.invokevirtual 172, 3) := by decide +kernel
theorem dX11_opposed_53 : decode cX11_opposed 53 = .ok (.ifCond .eq 7, 3) := by decide +kernel
theorem dX11_opposed_56 : decode cX11_opposed 56 = .ok (.iconst 1, 1) := by decide +kernel
theorem dX11_opposed_57 : decode cX11_opposed 57 = .ok (.goto 4, 3) := by decide +kernel
theorem dX11_opposed_60 : decode cX11_opposed 60 = .ok (.iconst 0, 1) := by decide +kernel
theorem dX11_opposed_61 : decode cX11_opposed 61 = .ok (.ireturn, 1) := by decide +kernel
theorem dX11_opposedTwos_0 : decode cX11_opposedTwos 0 = .ok (.aload_n 0, 1) := by decide +kernel
theorem dX11_opposedTwos_1 : decode cX11_opposedTwos 1 = .ok (.invokevirtual 260, 3) := by decide +kernel
theorem dX11_opposedTwos_4 : decode cX11_opposedTwos 4 = .ok (.iconst 0, 1) := by decide +kernel
theorem dX11_opposedTwos_5 : decode cX11_opposedTwos 5 = .ok (.istore_n 1, 1) := by decide +kernel
theorem dX11_opposedTwos_6 : decode cX11_opposedTwos 6 = .ok (.iconst 0, 1) := by decide +kernel
theorem dX11_opposedTwos_7 : decode cX11_opposedTwos 7 = .ok (.istore_n 2, 1) := by decide +kernel
theorem dX11_opposedTwos_8 : decode cX11_opposedTwos 8 = .ok (.iload_n 2, 1) := by decide +kernel
theorem dX11_opposedTwos_9 : decode cX11_opposedTwos 9 = .ok (.aload_n 0, 1) := by decide +kernel
theorem dX11_opposedTwos_10 : decode cX11_opposedTwos 10 = .ok (.getfield 83, 3) := by decide +kernel
theorem dX11_opposedTwos_13 : decode cX11_opposedTwos 13 = .ok (.getfield 126, 3) := by decide +kernel
theorem dX11_opposedTwos_16 : decode cX11_opposedTwos 16 = .ok (.getfield 159, 3) := by decide +kernel
theorem dX11_opposedTwos_19 : decode cX11_opposedTwos 19 = .ok (.if_icmp .ge 24, 3) := by decide +kernel
theorem dX11_opposedTwos_22 : decode cX11_opposedTwos 22 = .ok (.iload_n 1, 1) := by decide +kernel
theorem dX11_opposedTwos_23 : decode cX11_opposedTwos 23 = .ok (.aload_n 0, 1) := by decide +kernel
theorem dX11_opposedTwos_24 : decode cX11_opposedTwos 24 = .ok (.getfield 56, 3) := by decide +kernel
theorem dX11_opposedTwos_27 : decode cX11_opposedTwos 27 = .ok (.getfield 296, 3) := by decide +kernel
theorem dX11_opposedTwos_30 : decode cX11_opposedTwos 30 = .ok (.iload_n 2, 1) := by decide +kernel
theorem dX11_opposedTwos_31 : decode cX11_opposedTwos 31 = .ok (.iaload, 1) := by decide +kernel
theorem dX11_opposedTwos_32 : decode cX11_opposedTwos 32 = .ok (.invokestatic 193, 3) := by decide +kernel
theorem dX11_opposedTwos_35 : decode cX11_opposedTwos 35 = .ok (.iadd, 1) := by decide +kernel
theorem dX11_opposedTwos_36 : decode cX11_opposedTwos 36 = .ok (.istore_n 1, 1) := by decide +kernel
theorem dX11_opposedTwos_37 : decode cX11_opposedTwos 37 = .ok (.iinc 2 1, 3) := by decide +kernel
theorem dX11_opposedTwos_40 : decode cX11_opposedTwos 40 = .ok (.goto (-32), 3) := by decide +kernel
theorem dX11_opposedTwos_43 : decode cX11_opposedTwos 43 = .ok (.iload_n 1, 1) := by decide +kernel
theorem dX11_opposedTwos_44 : decode cX11_opposedTwos 44 = .ok (.iconst 2, 1) := by decide +kernel
theorem dX11_opposedTwos_45 : decode cX11_opposedTwos 45 = .ok (.idiv, 1) := by decide +kernel
theorem dX11_opposedTwos_46 : decode cX11_opposedTwos 46 = .ok (.ireturn, 1) := by decide +kernel
theorem dX11_opposites_0 : decode cX11_opposites 0 = .ok (.aload_n 0, 1) := by decide +kernel
theorem dX11_opposites_1 : decode cX11_opposites 1 = .ok (.iload_n 1, 1) := by decide +kernel
theorem dX11_opposites_2 : decode cX11_opposites 2 = .ok (.invokevirtual 122, 3) := by decide +kernel
theorem dX11_opposites_5 : decode cX11_opposites 5 = .ok (.ifCond .ne 6, 3) := by decide +kernel
theorem dX11_opposites_8 : decode cX11_opposites 8 = .ok (.bipush (-2), 2) := by decide +kernel
theorem dX11_opposites_10 : decode cX11_opposites 10 = .ok (.ireturn, 1) := by decide +kernel
theorem dX11_opposites_11 : decode cX11_opposites 11 = .ok (.aload_n 0, 1) := by decide +kernel
theorem dX11_opposites_12 : decode cX11_opposites 12 = .ok (.getfield 49, 3) := by decide +kernel
theorem dX11_opposites_15 : decode cX11_opposites 15 = .ok (.aload_n 0, 1) := by decide +kernel
theorem dX11_opposites_16 : decode cX11_opposites 16 = .ok (.getfield 83, 3) := by decide +kernel
theorem dX11_opposites_19 : decode cX11_opposites 19 = .ok (.iload_n 1, 1) := by decide +kernel
theorem dX11_opposites_20 : decode cX11_opposites 20 = .ok (.aload_n 0, 1) := by decide +kernel
theorem dX11_opposites_21 : decode cX11_opposites 21 = .ok (.getfield 83, 3) := by decide +kernel
theorem dX11_opposites_24 : decode cX11_opposites 24 = .ok (.getfield 130, 3) := by decide +kernel
theorem dX11_opposites_27 : decode cX11_opposites 27 = .ok (.iload_n 1, 1) := by decide +kernel
theorem dX11_opposites_28 : decode cX11_opposites 28 = .ok (.iaload, 1) := by decide +kernel
theorem dX11_opposites_29 : decode cX11_opposites 29 = .ok (.aload_n 0, 1) := by decide +kernel
theorem dX11_opposites_30 : decode cX11_opposites 30 = .ok (.getfield 83, 3) := by decide +kernel
theorem dX11_opposites_33 : decode cX11_opposites 33 = .ok (.getfield 165, 3) := by decide +kernel
theorem dX11_opposites_36 : decode cX11_opposites 36 = .ok (.invokevirtual 176, 3) := by decide +kernel
theorem dX11_opposites_39 : decode cX11_opposites 39 = .ok (.ireturn, 1) := by decide +kernel
theorem dX11_pairs_0 : decode cX11_pairs 0 = .ok (.iload_n 2, 1) := by decide +kernel
theorem dX11_pairs_1 : decode cX11_pairs 1 = .ok (.ifCond .eq 28, 3) := by decide +kernel
theorem dX11_pairs_4 : decode cX11_pairs 4 = .ok (.iload_n 2, 1) := by decide +kernel
theorem dX11_pairs_5 : decode cX11_pairs 5 = .ok (.iconst 1, 1) := by decide +kernel
theorem dX11_pairs_6 : decode cX11_pairs 6 = .ok (.if_icmp .eq 23, 3) := by decide +kernel
theorem dX11_pairs_9 : decode cX11_pairs 9 = .ok (.iload_n 2, 1) := by decide +kernel
theorem dX11_pairs_10 : decode cX11_pairs 10 = .ok (.bipush 10, 2) := by decide +kernel
theorem dX11_pairs_12 : decode cX11_pairs 12 = .ok (.if_icmp .lt 14, 3) := by decide +kernel
theorem dX11_pairs_15 : decode cX11_pairs 15 = .ok (.aload_n 0, 1) := by decide +kernel
theorem dX11_pairs_16 : decode cX11_pairs 16 = .ok (.iload_n 2, 1) := by decide +kernel
theorem dX11_pairs_17 : decode cX11_pairs 17 = .ok (.bipush 10, 2) := by decide +kernel
theorem dX11_pairs_19 : decode cX11_pairs 19 = .ok (.isub, 1) := by decide +kernel
theorem dX11_pairs_20 : decode cX11_pairs 20 = .ok (.invokevirtual 122, 3) := by decide +kernel
theorem dX11_pairs_23 : decode cX11_pairs 23 = .ok (.ifCond .ne 6, 3) := by decide +kernel
theorem dX11_pairs_26 : decode cX11_pairs 26 = .ok (.bipush (-2), 2) := by decide +kernel
theorem dX11_pairs_28 : decode cX11_pairs 28 = .ok (.ireturn, 1) := by decide +kernel
theorem dX11_pairs_29 : decode cX11_pairs 29 = .ok (.aload_n 0, 1) := by decide +kernel
theorem dX11_pairs_30 : decode cX11_pairs 30 = .ok (.iload_n 1, 1) := by decide +kernel
theorem dX11_pairs_31 : decode cX11_pairs 31 = .ok (.invokevirtual 257, 3) := by decide +kernel
theorem dX11_pairs_34 : decode cX11_pairs 34 = .ok (.ifCond .ne 6, 3) := by decide +kernel
theorem dX11_pairs_37 : decode cX11_pairs 37 = .ok (.bipush (-3), 2) := by decide +kernel
theorem dX11_pairs_39 : decode cX11_pairs 39 = .ok (.ireturn, 1) := by decide +kernel
theorem dX11_pairs_40 : decode cX11_pairs 40 = .ok (.aload_n 0, 1) := by decide +kernel
theorem dX11_pairs_41 : decode cX11_pairs 41 = .ok (.invokevirtual 260, 3) := by decide +kernel
theorem dX11_pairs_44 : decode cX11_pairs 44 = .ok (.aload_n 0, 1) := by decide +kernel
theorem dX11_pairs_45 : decode cX11_pairs 45 = .ok (.getfield 56, 3) := by decide +kernel
theorem dX11_pairs_48 : decode cX11_pairs 48 = .ok (.aload_n 0, 1) := by decide +kernel
theorem dX11_pairs_49 : decode cX11_pairs 49 = .ok (.getfield 83, 3) := by decide +kernel
theorem dX11_pairs_52 : decode cX11_pairs 52 = .ok (.getfield 126, 3) := by decide +kernel
theorem dX11_pairs_55 : decode cX11_pairs 55 = .ok (.getfield 149, 3) := by decide +kernel
theorem dX11_pairs_58 : decode cX11_pairs 58 = .ok (.invokevirtual 263, 3) := by decide +kernel
theorem dX11_pairs_61 : decode cX11_pairs 61 = .ok (.iload_n 2, 1) := by decide +kernel
theorem dX11_pairs_62 : decode cX11_pairs 62 = .ok (.lookupswitch 44 #[(0, 26), (1, 35)], 26) := by decide +kernel
theorem dX11_pairs_88 : decode cX11_pairs 88 = .ok (.aload_n 0, 1) := by decide +kernel
theorem dX11_pairs_89 : decode cX11_pairs 89 = .ok (.getfield 56, 3) := by decide +kernel
theorem dX11_pairs_92 : decode cX11_pairs 92 = .ok (.iload_n 1, 1) := by decide +kernel
theorem dX11_pairs_93 : decode cX11_pairs 93 = .ok (.invokevirtual 267, 3) := by decide +kernel
theorem dX11_pairs_96 : decode cX11_pairs 96 = .ok (.ireturn, 1) := by decide +kernel
theorem dX11_pairs_97 : decode cX11_pairs 97 = .ok (.aload_n 0, 1) := by decide +kernel
theorem dX11_pairs_98 : decode cX11_pairs 98 = .ok (.getfield 56, 3) := by decide +kernel
theorem dX11_pairs_101 : decode cX11_pairs 101 = .ok (.iload_n 1, 1) := by decide +kernel
theorem dX11_pairs_102 : decode cX11_pairs 102 = .ok (.invokevirtual 270, 3) := by decide +kernel
theorem dX11_pairs_105 : decode cX11_pairs 105 = .ok (.ireturn, 1) := by decide +kernel
theorem dX11_pairs_106 : decode cX11_pairs 106 = .ok (.aload_n 0, 1) := by decide +kernel
theorem dX11_pairs_107 : decode cX11_pairs 107 = .ok (.getfield 56, 3) := by decide +kernel
theorem dX11_pairs_110 : decode cX11_pairs 110 = .ok (.iload_n 2, 1) := by decide +kernel
theorem dX11_pairs_111 : decode cX11_pairs 111 = .ok (.bipush 10, 2) := by decide +kernel
theorem dX11_pairs_113 : decode cX11_pairs 113 = .ok (.isub, 1) := by decide +kernel
theorem dX11_pairs_114 : decode cX11_pairs 114 = .ok (.iload_n 1, 1) := by decide +kernel
theorem dX11_pairs_115 : decode cX11_pairs 115 = .ok (.aload_n 0, 1) := by decide +kernel
theorem dX11_pairs_116 : decode cX11_pairs 116 = .ok (.getfield 83, 3) := by decide +kernel
theorem dX11_pairs_119 : decode cX11_pairs 119 = .ok (.getfield 126, 3) := by decide +kernel
theorem dX11_pairs_122 : decode cX11_pairs 122 = .ok (.getfield 149, 3) := by decide +kernel
theorem dX11_pairs_125 : decode cX11_pairs 125 = .ok (.invokevirtual 273, 3) := by decide +kernel
theorem dX11_pairs_128 : decode cX11_pairs 128 = .ok (.ireturn, 1) := by decide +kernel
theorem dX11_passed_0 : decode cX11_passed 0 = .ok (.iload_n 2, 1) := by decide +kernel
theorem dX11_passed_1 : decode cX11_passed 1 = .ok (.ifCond .eq 11, 3) := by decide +kernel
theorem dX11_passed_4 : decode cX11_passed 4 = .ok (.iload_n 2, 1) := by decide +kernel
theorem dX11_passed_5 : decode cX11_passed 5 = .ok (.iconst 1, 1) := by decide +kernel
theorem dX11_passed_6 : decode cX11_passed 6 = .ok (.if_icmp .eq 6, 3) := by decide +kernel
theorem dX11_passed_9 : decode cX11_passed 9 = .ok (.bipush (-2), 2) := by decide +kernel
theorem dX11_passed_11 : decode cX11_passed 11 = .ok (.ireturn, 1) := by decide +kernel
theorem dX11_passed_12 : decode cX11_passed 12 = .ok (.aload_n 0, 1) := by decide +kernel
theorem dX11_passed_13 : decode cX11_passed 13 = .ok (.iload_n 1, 1) := by decide +kernel
theorem dX11_passed_14 : decode cX11_passed 14 = .ok (.invokevirtual 316, 3) := by decide +kernel
theorem dX11_passed_17 : decode cX11_passed 17 = .ok (.ifCond .ne 6, 3) := by decide +kernel
theorem dX11_passed_20 : decode cX11_passed 20 = .ok (.bipush (-3), 2) := by decide +kernel
theorem dX11_passed_22 : decode cX11_passed 22 = .ok (.ireturn, 1) := by decide +kernel
theorem dX11_passed_23 : decode cX11_passed 23 = .ok (.aload_n 0, 1) := by decide +kernel
theorem dX11_passed_24 : decode cX11_passed 24 = .ok (.invokevirtual 260, 3) := by decide +kernel
theorem dX11_passed_27 : decode cX11_passed 27 = .ok (.aload_n 0, 1) := by decide +kernel
theorem dX11_passed_28 : decode cX11_passed 28 = .ok (.getfield 56, 3) := by decide +kernel
theorem dX11_passed_31 : decode cX11_passed 31 = .ok (.invokevirtual 277, 3) := by decide +kernel
theorem dX11_passed_34 : decode cX11_passed 34 = .ok (.aload_n 0, 1) := by decide +kernel
theorem dX11_passed_35 : decode cX11_passed 35 = .ok (.iload_n 1, 1) := by decide +kernel
theorem dX11_passed_36 : decode cX11_passed 36 = .ok (.invokevirtual 329, 3) := by decide +kernel
theorem dX11_passed_39 : decode cX11_passed 39 = .ok (.iload_n 2, 1) := by decide +kernel
theorem dX11_passed_40 : decode cX11_passed 40 = .ok (.invokestatic 293, 3) := by decide +kernel
theorem dX11_passed_43 : decode cX11_passed 43 = .ok (.ireturn, 1) := by decide +kernel
theorem dX11_passes_0 : decode cX11_passes 0 = .ok (.aload_n 0, 1) := by decide +kernel
theorem dX11_passes_1 : decode cX11_passes 1 = .ok (.iload_n 1, 1) := by decide +kernel
theorem dX11_passes_2 : decode cX11_passes 2 = .ok (.invokevirtual 316, 3) := by decide +kernel
theorem dX11_passes_5 : decode cX11_passes 5 = .ok (.ifCond .ne 6, 3) := by decide +kernel
theorem dX11_passes_8 : decode cX11_passes 8 = .ok (.bipush (-3), 2) := by decide +kernel
theorem dX11_passes_10 : decode cX11_passes 10 = .ok (.ireturn, 1) := by decide +kernel
theorem dX11_passes_11 : decode cX11_passes 11 = .ok (.aload_n 0, 1) := by decide +kernel
theorem dX11_passes_12 : decode cX11_passes 12 = .ok (.iload_n 1, 1) := by decide +kernel
theorem dX11_passes_13 : decode cX11_passes 13 = .ok (.invokevirtual 319, 3) := by decide +kernel
theorem dX11_passes_16 : decode cX11_passes 16 = .ok (.aload_n 0, 1) := by decide +kernel
theorem dX11_passes_17 : decode cX11_passes 17 = .ok (.getfield 83, 3) := by decide +kernel
theorem dX11_passes_20 : decode cX11_passes 20 = .ok (.invokevirtual 155, 3) := by decide +kernel
theorem dX11_passes_23 : decode cX11_passes 23 = .ok (.invokestatic 326, 3) := by decide +kernel
theorem dX11_passes_26 : decode cX11_passes 26 = .ok (.ifCond .eq 18, 3) := by decide +kernel
theorem dX11_passes_29 : decode cX11_passes 29 = .ok (.aload_n 0, 1) := by decide +kernel
theorem dX11_passes_30 : decode cX11_passes 30 = .ok (.aload_n 0, 1) := by decide +kernel
theorem dX11_passes_31 : decode cX11_passes 31 = .ok (.getfield 83, 3) := by decide +kernel
theorem dX11_passes_34 : decode cX11_passes 34 = .ok (.invokevirtual 239, 3) := by decide +kernel
theorem dX11_passes_37 : decode cX11_passes 37 = .ok (.ifCond .eq 7, 3) := by decide +kernel
theorem dX11_passes_40 : decode cX11_passes 40 = .ok (.iconst 1, 1) := by decide +kernel
theorem dX11_passes_41 : decode cX11_passes 41 = .ok (.goto 4, 3) := by decide +kernel
theorem dX11_passes_44 : decode cX11_passes 44 = .ok (.iconst 0, 1) := by decide +kernel
theorem dX11_passes_45 : decode cX11_passes 45 = .ok (.ireturn, 1) := by decide +kernel
theorem dX11_perform_0 : decode cX11_perform 0 = .ok (.aload_n 0, 1) := by decide +kernel
theorem dX11_perform_1 : decode cX11_perform 1 = .ok (.iload_n 1, 1) := by decide +kernel
theorem dX11_perform_2 : decode cX11_perform 2 = .ok (.invokevirtual 223, 3) := by decide +kernel
theorem dX11_perform_5 : decode cX11_perform 5 = .ok (.ifCond .ne 6, 3) := by decide +kernel
theorem dX11_perform_8 : decode cX11_perform 8 = .ok (.bipush (-2), 2) := by decide +kernel
theorem dX11_perform_10 : decode cX11_perform 10 = .ok (.ireturn, 1) := by decide +kernel
theorem dX11_perform_11 : decode cX11_perform 11 = .ok (.aload_n 0, 1) := by decide +kernel
theorem dX11_perform_12 : decode cX11_perform 12 = .ok (.getfield 32, 3) := by decide +kernel
theorem dX11_perform_15 : decode cX11_perform 15 = .ok (.iload_n 1, 1) := by decide +kernel
theorem dX11_perform_16 : decode cX11_perform 16 = .ok (.aaload, 1) := by decide +kernel
theorem dX11_perform_17 : decode cX11_perform 17 = .ok (.invokevirtual 226, 3) := by decide +kernel
theorem dX11_perform_20 : decode cX11_perform 20 = .ok (.ifCond .eq 6, 3) := by decide +kernel
theorem dX11_perform_23 : decode cX11_perform 23 = .ok (.bipush (-6), 2) := by decide +kernel
theorem dX11_perform_25 : decode cX11_perform 25 = .ok (.ireturn, 1) := by decide +kernel
theorem dX11_perform_26 : decode cX11_perform 26 = .ok (.aload_n 0, 1) := by decide +kernel
theorem dX11_perform_27 : decode cX11_perform 27 = .ok (.getfield 87, 3) := by decide +kernel
theorem dX11_perform_30 : decode cX11_perform 30 = .ok (.aload_n 0, 1) := by decide +kernel
theorem dX11_perform_31 : decode cX11_perform 31 = .ok (.getfield 83, 3) := by decide +kernel
theorem dX11_perform_34 : decode cX11_perform 34 = .ok (.invokevirtual 202, 3) := by decide +kernel
theorem dX11_perform_37 : decode cX11_perform 37 = .ok (.aload_n 0, 1) := by decide +kernel
theorem dX11_perform_38 : decode cX11_perform 38 = .ok (.getfield 32, 3) := by decide +kernel
theorem dX11_perform_41 : decode cX11_perform 41 = .ok (.iload_n 1, 1) := by decide +kernel
theorem dX11_perform_42 : decode cX11_perform 42 = .ok (.aaload, 1) := by decide +kernel
theorem dX11_perform_43 : decode cX11_perform 43 = .ok (.aload_n 0, 1) := by decide +kernel
theorem dX11_perform_44 : decode cX11_perform 44 = .ok (.getfield 83, 3) := by decide +kernel
theorem dX11_perform_47 : decode cX11_perform 47 = .ok (.aload_n 0, 1) := by decide +kernel
theorem dX11_perform_48 : decode cX11_perform 48 = .ok (.getfield 49, 3) := by decide +kernel
theorem dX11_perform_51 : decode cX11_perform 51 = .ok (.invokevirtual 230, 3) := by decide +kernel
theorem dX11_perform_54 : decode cX11_perform 54 = .ok (.istore_n 2, 1) := by decide +kernel
theorem dX11_perform_55 : decode cX11_perform 55 = .ok (.iload_n 2, 1) := by decide +kernel
theorem dX11_perform_56 : decode cX11_perform 56 = .ok (.ifCond .le 7, 3) := by decide +kernel
theorem dX11_perform_59 : decode cX11_perform 59 = .ok (.aload_n 0, 1) := by decide +kernel
theorem dX11_perform_60 : decode cX11_perform 60 = .ok (.invokevirtual 210, 3) := by decide +kernel
theorem dX11_perform_63 : decode cX11_perform 63 = .ok (.iload_n 2, 1) := by decide +kernel
theorem dX11_perform_64 : decode cX11_perform 64 = .ok (.ireturn, 1) := by decide +kernel
theorem dX11_person_0 : decode cX11_person 0 = .ok (.aload_n 0, 1) := by decide +kernel
theorem dX11_person_1 : decode cX11_person 1 = .ok (.iload_n 1, 1) := by decide +kernel
theorem dX11_person_2 : decode cX11_person 2 = .ok (.invokevirtual 122, 3) := by decide +kernel
theorem dX11_person_5 : decode cX11_person 5 = .ok (.ifCond .ne 6, 3) := by decide +kernel
theorem dX11_person_8 : decode cX11_person 8 = .ok (.bipush (-2), 2) := by decide +kernel
theorem dX11_person_10 : decode cX11_person 10 = .ok (.ireturn, 1) := by decide +kernel
theorem dX11_person_11 : decode cX11_person 11 = .ok (.aload_n 0, 1) := by decide +kernel
theorem dX11_person_12 : decode cX11_person 12 = .ok (.getfield 83, 3) := by decide +kernel
theorem dX11_person_15 : decode cX11_person 15 = .ok (.getfield 126, 3) := by decide +kernel
theorem dX11_person_18 : decode cX11_person 18 = .ok (.astore_n 3, 1) := by decide +kernel
theorem dX11_person_19 : decode cX11_person 19 = .ok (.iload_n 2, 1) := by decide +kernel
theorem dX11_person_20 : decode cX11_person 20 = .ok (.tableswitch 152 0 8 #[52, 65, 81, 94, 101, 114, 121, 128, 140], 52) := by decide +kernel
theorem dX11_person_72 : decode cX11_person 72 = .ok (.aload_n 0, 1) := by decide +kernel
theorem dX11_person_73 : decode cX11_person 73 = .ok (.getfield 83, 3) := by decide +kernel
theorem dX11_person_76 : decode cX11_person 76 = .ok (.getfield 130, 3) := by decide +kernel
theorem dX11_person_79 : decode cX11_person 79 = .ok (.iload_n 1, 1) := by decide +kernel
theorem dX11_person_80 : decode cX11_person 80 = .ok (.iaload, 1) := by decide +kernel
theorem dX11_person_81 : decode cX11_person 81 = .ok (.bipush 100, 2) := by decide +kernel
theorem dX11_person_83 : decode cX11_person 83 = .ok (.idiv, 1) := by decide +kernel
theorem dX11_person_84 : decode cX11_person 84 = .ok (.ireturn, 1) := by decide +kernel
theorem dX11_person_85 : decode cX11_person 85 = .ok (.aload_n 0, 1) := by decide +kernel
theorem dX11_person_86 : decode cX11_person 86 = .ok (.getfield 83, 3) := by decide +kernel
theorem dX11_person_89 : decode cX11_person 89 = .ok (.getfield 130, 3) := by decide +kernel
theorem dX11_person_92 : decode cX11_person 92 = .ok (.iload_n 1, 1) := by decide +kernel
theorem dX11_person_93 : decode cX11_person 93 = .ok (.iaload, 1) := by decide +kernel
theorem dX11_person_94 : decode cX11_person 94 = .ok (.bipush 10, 2) := by decide +kernel
theorem dX11_person_96 : decode cX11_person 96 = .ok (.idiv, 1) := by decide +kernel
theorem dX11_person_97 : decode cX11_person 97 = .ok (.bipush 10, 2) := by decide +kernel
theorem dX11_person_99 : decode cX11_person 99 = .ok (.irem, 1) := by decide +kernel
theorem dX11_person_100 : decode cX11_person 100 = .ok (.ireturn, 1) := by decide +kernel
theorem dX11_person_101 : decode cX11_person 101 = .ok (.aload_n 0, 1) := by decide +kernel
theorem dX11_person_102 : decode cX11_person 102 = .ok (.getfield 83, 3) := by decide +kernel
theorem dX11_person_105 : decode cX11_person 105 = .ok (.getfield 130, 3) := by decide +kernel
theorem dX11_person_108 : decode cX11_person 108 = .ok (.iload_n 1, 1) := by decide +kernel
theorem dX11_person_109 : decode cX11_person 109 = .ok (.iaload, 1) := by decide +kernel
theorem dX11_person_110 : decode cX11_person 110 = .ok (.bipush 10, 2) := by decide +kernel
theorem dX11_person_112 : decode cX11_person 112 = .ok (.irem, 1) := by decide +kernel
theorem dX11_person_113 : decode cX11_person 113 = .ok (.ireturn, 1) := by decide +kernel
theorem dX11_person_114 : decode cX11_person 114 = .ok (.aload_n 3, 1) := by decide +kernel
theorem dX11_person_115 : decode cX11_person 115 = .ok (.getfield 134, 3) := by decide +kernel
theorem dX11_person_118 : decode cX11_person 118 = .ok (.iload_n 1, 1) := by decide +kernel
theorem dX11_person_119 : decode cX11_person 119 = .ok (.iaload, 1) := by decide +kernel
theorem dX11_person_120 : decode cX11_person 120 = .ok (.ireturn, 1) := by decide +kernel
theorem dX11_person_121 : decode cX11_person 121 = .ok (.aload_n 3, 1) := by decide +kernel
theorem dX11_person_122 : decode cX11_person 122 = .ok (.getfield 137, 3) := by decide +kernel
theorem dX11_person_125 : decode cX11_person 125 = .ok (.iload_n 1, 1) := by decide +kernel
theorem dX11_person_126 : decode cX11_person 126 = .ok (.iaload, 1) := by decide +kernel
theorem dX11_person_127 : decode cX11_person 127 = .ok (.sipush 999, 3) := by decide +kernel
theorem dX11_person_130 : decode cX11_person 130 = .ok (.invokestatic 140, 3) := by decide +kernel
theorem dX11_person_133 : decode cX11_person 133 = .ok (.ireturn, 1) := by decide +kernel
theorem dX11_person_134 : decode cX11_person 134 = .ok (.aload_n 3, 1) := by decide +kernel
theorem dX11_person_135 : decode cX11_person 135 = .ok (.getfield 146, 3) := by decide +kernel
theorem dX11_person_138 : decode cX11_person 138 = .ok (.iload_n 1, 1) := by decide +kernel
theorem dX11_person_139 : decode cX11_person 139 = .ok (.iaload, 1) := by decide +kernel
theorem dX11_person_140 : decode cX11_person 140 = .ok (.ireturn, 1) := by decide +kernel
theorem dX11_person_141 : decode cX11_person 141 = .ok (.aload_n 3, 1) := by decide +kernel
theorem dX11_person_142 : decode cX11_person 142 = .ok (.getfield 149, 3) := by decide +kernel
theorem dX11_person_145 : decode cX11_person 145 = .ok (.iload_n 1, 1) := by decide +kernel
theorem dX11_person_146 : decode cX11_person 146 = .ok (.iaload, 1) := by decide +kernel
theorem dX11_person_147 : decode cX11_person 147 = .ok (.ireturn, 1) := by decide +kernel
theorem dX11_person_148 : decode cX11_person 148 = .ok (.aload_n 0, 1) := by decide +kernel
theorem dX11_person_149 : decode cX11_person 149 = .ok (.getfield 83, 3) := by decide +kernel
theorem dX11_person_152 : decode cX11_person 152 = .ok (.getfield 152, 3) := by decide +kernel
theorem dX11_person_155 : decode cX11_person 155 = .ok (.iload_n 1, 1) := by decide +kernel
theorem dX11_person_156 : decode cX11_person 156 = .ok (.ishr, 1) := by decide +kernel
theorem dX11_person_157 : decode cX11_person 157 = .ok (.iconst 1, 1) := by decide +kernel
theorem dX11_person_158 : decode cX11_person 158 = .ok (.iand, 1) := by decide +kernel
theorem dX11_person_159 : decode cX11_person 159 = .ok (.ireturn, 1) := by decide +kernel
theorem dX11_person_160 : decode cX11_person 160 = .ok (.aload_n 0, 1) := by decide +kernel
theorem dX11_person_161 : decode cX11_person 161 = .ok (.getfield 83, 3) := by decide +kernel
theorem dX11_person_164 : decode cX11_person 164 = .ok (.invokevirtual 155, 3) := by decide +kernel
theorem dX11_person_167 : decode cX11_person 167 = .ok (.iload_n 1, 1) := by decide +kernel
theorem dX11_person_168 : decode cX11_person 168 = .ok (.ishr, 1) := by decide +kernel
theorem dX11_person_169 : decode cX11_person 169 = .ok (.iconst 1, 1) := by decide +kernel
theorem dX11_person_170 : decode cX11_person 170 = .ok (.iand, 1) := by decide +kernel
theorem dX11_person_171 : decode cX11_person 171 = .ok (.ireturn, 1) := by decide +kernel
theorem dX11_person_172 : decode cX11_person 172 = .ok (.bipush (-2), 2) := by decide +kernel
theorem dX11_person_174 : decode cX11_person 174 = .ok (.ireturn, 1) := by decide +kernel
theorem dX11_pieces_0 : decode cX11_pieces 0 = .ok (.aload_n 0, 1) := by decide +kernel
theorem dX11_pieces_1 : decode cX11_pieces 1 = .ok (.iload_n 1, 1) := by decide +kernel
theorem dX11_pieces_2 : decode cX11_pieces 2 = .ok (.invokevirtual 257, 3) := by decide +kernel
theorem dX11_pieces_5 : decode cX11_pieces 5 = .ok (.ifCond .ne 6, 3) := by decide +kernel
theorem dX11_pieces_8 : decode cX11_pieces 8 = .ok (.bipush (-3), 2) := by decide +kernel
theorem dX11_pieces_10 : decode cX11_pieces 10 = .ok (.ireturn, 1) := by decide +kernel
theorem dX11_pieces_11 : decode cX11_pieces 11 = .ok (.aload_n 0, 1) := by decide +kernel
theorem dX11_pieces_12 : decode cX11_pieces 12 = .ok (.invokevirtual 260, 3) := by decide +kernel
theorem dX11_pieces_15 : decode cX11_pieces 15 = .ok (.aload_n 0, 1) := by decide +kernel
theorem dX11_pieces_16 : decode cX11_pieces 16 = .ok (.getfield 56, 3) := by decide +kernel
theorem dX11_pieces_19 : decode cX11_pieces 19 = .ok (.iload_n 1, 1) := by decide +kernel
theorem dX11_pieces_20 : decode cX11_pieces 20 = .ok (.iconst 0, 1) := by decide +kernel
theorem dX11_pieces_21 : decode cX11_pieces 21 = .ok (.invokevirtual 286, 3) := by decide +kernel
theorem dX11_pieces_24 : decode cX11_pieces 24 = .ok (.ireturn, 1) := by decide +kernel
theorem dX11_probe_0 : decode cX11_probe 0 = .ok (.aload_n 0, 1) := by decide +kernel
theorem dX11_probe_1 : decode cX11_probe 1 = .ok (.iload_n 1, 1) := by decide +kernel
theorem dX11_probe_2 : decode cX11_probe 2 = .ok (.iload_n 2, 1) := by decide +kernel
theorem dX11_probe_3 : decode cX11_probe 3 = .ok (.invokevirtual 332, 3) := by decide +kernel
theorem dX11_probe_6 : decode cX11_probe 6 = .ok (.istore_n 3, 1) := by decide +kernel
theorem dX11_probe_7 : decode cX11_probe 7 = .ok (.iload_n 3, 1) := by decide +kernel
theorem dX11_probe_8 : decode cX11_probe 8 = .ok (.ifCond .eq 5, 3) := by decide +kernel
theorem dX11_probe_11 : decode cX11_probe 11 = .ok (.iload_n 3, 1) := by decide +kernel
theorem dX11_probe_12 : decode cX11_probe 12 = .ok (.ireturn, 1) := by decide +kernel
theorem dX11_probe_13 : decode cX11_probe 13 = .ok (.aload_n 0, 1) := by decide +kernel
theorem dX11_probe_14 : decode cX11_probe 14 = .ok (.getfield 70, 3) := by decide +kernel
theorem dX11_probe_17 : decode cX11_probe 17 = .ok (.aload_n 0, 1) := by decide +kernel
theorem dX11_probe_18 : decode cX11_probe 18 = .ok (.getfield 83, 3) := by decide +kernel
theorem dX11_probe_21 : decode cX11_probe 21 = .ok (.iload_n 1, 1) := by decide +kernel
theorem dX11_probe_22 : decode cX11_probe 22 = .ok (.iload_n 2, 1) := by decide +kernel
theorem dX11_probe_23 : decode cX11_probe 23 = .ok (.aload_n 0, 1) := by decide +kernel
theorem dX11_probe_24 : decode cX11_probe 24 = .ok (.getfield 49, 3) := by decide +kernel
theorem dX11_probe_27 : decode cX11_probe 27 = .ok (.aload_n 0, 1) := by decide +kernel
theorem dX11_probe_28 : decode cX11_probe 28 = .ok (.getfield 74, 3) := by decide +kernel
theorem dX11_probe_31 : decode cX11_probe 31 = .ok (.invokevirtual 335, 3) := by decide +kernel
theorem dX11_probe_34 : decode cX11_probe 34 = .ok (.aload_n 0, 1) := by decide +kernel
theorem dX11_probe_35 : decode cX11_probe 35 = .ok (.getfield 70, 3) := by decide +kernel
theorem dX11_probe_38 : decode cX11_probe 38 = .ok (.getfield 336, 3) := by decide +kernel
theorem dX11_probe_41 : decode cX11_probe 41 = .ok (.ifCond .ne 7, 3) := by decide +kernel
theorem dX11_probe_44 : decode cX11_probe 44 = .ok (.iconst (-1), 1) := by decide +kernel
theorem dX11_probe_45 : decode cX11_probe 45 = .ok (.goto 18, 3) := by decide +kernel
theorem dX11_probe_48 : decode cX11_probe 48 = .ok (.aload_n 0, 1) := by decide +kernel
theorem dX11_probe_49 : decode cX11_probe 49 = .ok (.getfield 70, 3) := by decide +kernel
theorem dX11_probe_52 : decode cX11_probe 52 = .ok (.aload_n 0, 1) := by decide +kernel
theorem dX11_probe_53 : decode cX11_probe 53 = .ok (.getfield 83, 3) := by decide +kernel
theorem dX11_probe_56 : decode cX11_probe 56 = .ok (.aload_n 0, 1) := by decide +kernel
theorem dX11_probe_57 : decode cX11_probe 57 = .ok (.getfield 49, 3) := by decide +kernel
theorem dX11_probe_60 : decode cX11_probe 60 = .ok (.invokevirtual 340, 3) := by decide +kernel
theorem dX11_probe_63 : decode cX11_probe 63 = .ok (.ireturn, 1) := by decide +kernel
theorem dX11_putOnTape_0 : decode cX11_putOnTape 0 = .ok (.bipush 24, 2) := by decide +kernel
theorem dX11_putOnTape_2 : decode cX11_putOnTape 2 = .ok (.istore_n 2, 1) := by decide +kernel
theorem dX11_putOnTape_3 : decode cX11_putOnTape 3 = .ok (.iload_n 2, 1) := by decide +kernel
theorem dX11_putOnTape_4 : decode cX11_putOnTape 4 = .ok (.ifCond .lt 42, 3) := by decide +kernel
theorem dX11_putOnTape_7 : decode cX11_putOnTape 7 = .ok (.aload_n 0, 1) := by decide +kernel
theorem dX11_putOnTape_8 : decode cX11_putOnTape 8 = .ok (.getfield 13, 3) := by decide +kernel
theorem dX11_putOnTape_11 : decode cX11_putOnTape 11 = .ok (.sipush 900, 3) := by decide +kernel
theorem dX11_putOnTape_14 : decode cX11_putOnTape 14 = .ok (.if_icmp .ge 32, 3) := by decide +kernel
theorem dX11_putOnTape_17 : decode cX11_putOnTape 17 = .ok (.aload_n 0, 1) := by decide +kernel
theorem dX11_putOnTape_18 : decode cX11_putOnTape 18 = .ok (.getfield 9, 3) := by decide +kernel
theorem dX11_putOnTape_21 : decode cX11_putOnTape 21 = .ok (.aload_n 0, 1) := by decide +kernel
theorem dX11_putOnTape_22 : decode cX11_putOnTape 22 = .ok (.getfield 13, 3) := by decide +kernel
theorem dX11_putOnTape_25 : decode cX11_putOnTape 25 = .ok (.iload_n 1, 1) := by decide +kernel
theorem dX11_putOnTape_26 : decode cX11_putOnTape 26 = .ok (.iload_n 2, 1) := by decide +kernel
theorem dX11_putOnTape_27 : decode cX11_putOnTape 27 = .ok (.iushr, 1) := by decide +kernel
theorem dX11_putOnTape_28 : decode cX11_putOnTape 28 = .ok (.i2b, 1) := by decide +kernel
theorem dX11_putOnTape_29 : decode cX11_putOnTape 29 = .ok (.bastore, 1) := by decide +kernel
theorem dX11_putOnTape_30 : decode cX11_putOnTape 30 = .ok (.aload_n 0, 1) := by decide +kernel
theorem dX11_putOnTape_31 : decode cX11_putOnTape 31 = .ok (.dup, 1) := by decide +kernel
theorem dX11_putOnTape_32 : decode cX11_putOnTape 32 = .ok (.getfield 13, 3) := by decide +kernel
theorem dX11_putOnTape_35 : decode cX11_putOnTape 35 = .ok (.iconst 1, 1) := by decide +kernel
theorem dX11_putOnTape_36 : decode cX11_putOnTape 36 = .ok (.iadd, 1) := by decide +kernel
theorem dX11_putOnTape_37 : decode cX11_putOnTape 37 = .ok (.putfield 13, 3) := by decide +kernel
theorem dX11_putOnTape_40 : decode cX11_putOnTape 40 = .ok (.iinc 2 (-8), 3) := by decide +kernel
theorem dX11_putOnTape_43 : decode cX11_putOnTape 43 = .ok (.goto (-40), 3) := by decide +kernel
theorem dX11_putOnTape_46 : decode cX11_putOnTape 46 = .ok (.return_, 1) := by decide +kernel
theorem dX11_quorum_0 : decode cX11_quorum 0 = .ok (.aload_n 0, 1) := by decide +kernel
theorem dX11_quorum_1 : decode cX11_quorum 1 = .ok (.invokevirtual 260, 3) := by decide +kernel
theorem dX11_quorum_4 : decode cX11_quorum 4 = .ok (.aload_n 0, 1) := by decide +kernel
theorem dX11_quorum_5 : decode cX11_quorum 5 = .ok (.getfield 56, 3) := by decide +kernel
theorem dX11_quorum_8 : decode cX11_quorum 8 = .ok (.invokevirtual 277, 3) := by decide +kernel
theorem dX11_quorum_11 : decode cX11_quorum 11 = .ok (.aload_n 0, 1) := by decide +kernel
theorem dX11_quorum_12 : decode cX11_quorum 12 = .ok (.getfield 83, 3) := by decide +kernel
theorem dX11_quorum_15 : decode cX11_quorum 15 = .ok (.invokevirtual 155, 3) := by decide +kernel
theorem dX11_quorum_18 : decode cX11_quorum 18 = .ok (.istore_n 1, 1) := by decide +kernel
theorem dX11_quorum_19 : decode cX11_quorum 19 = .ok (.iconst 0, 1) := by decide +kernel
theorem dX11_quorum_20 : decode cX11_quorum 20 = .ok (.istore_n 2, 1) := by decide +kernel
theorem dX11_quorum_21 : decode cX11_quorum 21 = .ok (.iconst 1, 1) := by decide +kernel
theorem dX11_quorum_22 : decode cX11_quorum 22 = .ok (.istore_n 3, 1) := by decide +kernel
theorem dX11_quorum_23 : decode cX11_quorum 23 = .ok (.iload_n 3, 1) := by decide +kernel
theorem dX11_quorum_24 : decode cX11_quorum 24 = .ok (.iload_n 1, 1) := by decide +kernel
theorem dX11_quorum_25 : decode cX11_quorum 25 = .ok (.if_icmp .gt 42, 3) := by decide +kernel
theorem dX11_quorum_28 : decode cX11_quorum 28 = .ok (.iload_n 3, 1) := by decide +kernel
theorem dX11_quorum_29 : decode cX11_quorum 29 = .ok (.iload_n 1, 1) := by decide +kernel
theorem dX11_quorum_30 : decode cX11_quorum 30 = .ok (.iconst (-1), 1) := by decide +kernel
theorem dX11_quorum_31 : decode cX11_quorum 31 = .ok (.ixor, 1) := by decide +kernel
theorem dX11_quorum_32 : decode cX11_quorum 32 = .ok (.iand, 1) := by decide +kernel
theorem dX11_quorum_33 : decode cX11_quorum 33 = .ok (.ifCond .ne 28, 3) := by decide +kernel
theorem dX11_quorum_36 : decode cX11_quorum 36 = .ok (.aload_n 0, 1) := by decide +kernel
theorem dX11_quorum_37 : decode cX11_quorum 37 = .ok (.getfield 56, 3) := by decide +kernel
theorem dX11_quorum_40 : decode cX11_quorum 40 = .ok (.getfield 280, 3) := by decide +kernel
theorem dX11_quorum_43 : decode cX11_quorum 43 = .ok (.iload_n 3, 1) := by decide +kernel
theorem dX11_quorum_44 : decode cX11_quorum 44 = .ok (.iaload, 1) := by decide +kernel
theorem dX11_quorum_45 : decode cX11_quorum 45 = .ok (.ifCond .le 16, 3) := by decide +kernel
theorem dX11_quorum_48 : decode cX11_quorum 48 = .ok (.iload_n 3, 1) := by decide +kernel
theorem dX11_quorum_49 : decode cX11_quorum 49 = .ok (.invokestatic 193, 3) := by decide +kernel
theorem dX11_quorum_52 : decode cX11_quorum 52 = .ok (.iload_n 2, 1) := by decide +kernel
theorem dX11_quorum_53 : decode cX11_quorum 53 = .ok (.invokestatic 193, 3) := by decide +kernel
theorem dX11_quorum_56 : decode cX11_quorum 56 = .ok (.if_icmp .le 5, 3) := by decide +kernel
theorem dX11_quorum_59 : decode cX11_quorum 59 = .ok (.iload_n 3, 1) := by decide +kernel
theorem dX11_quorum_60 : decode cX11_quorum 60 = .ok (.istore_n 2, 1) := by decide +kernel
theorem dX11_quorum_61 : decode cX11_quorum 61 = .ok (.iinc 3 1, 3) := by decide +kernel
theorem dX11_quorum_64 : decode cX11_quorum 64 = .ok (.goto (-41), 3) := by decide +kernel
theorem dX11_quorum_67 : decode cX11_quorum 67 = .ok (.iload_n 2, 1) := by decide +kernel
theorem dX11_quorum_68 : decode cX11_quorum 68 = .ok (.ireturn, 1) := by decide +kernel
theorem dX11_refusedGuess_0 : decode cX11_refusedGuess 0 = .ok (.aload_n 0, 1) := by decide +kernel
theorem dX11_refusedGuess_1 : decode cX11_refusedGuess 1 = .ok (.iload_n 1, 1) := by decide +kernel
theorem dX11_refusedGuess_2 : decode cX11_refusedGuess 2 = .ok (.invokevirtual 122, 3) := by decide +kernel
theorem dX11_refusedGuess_5 : decode cX11_refusedGuess 5 = .ok (.ifCond .ne 6, 3) := by decide +kernel
theorem dX11_refusedGuess_8 : decode cX11_refusedGuess 8 = .ok (.bipush (-2), 2) := by decide +kernel
theorem dX11_refusedGuess_10 : decode cX11_refusedGuess 10 = .ok (.ireturn, 1) := by decide +kernel
theorem dX11_refusedGuess_11 : decode cX11_refusedGuess 11 = .ok (.iload_n 2, 1) := by decide +kernel
theorem dX11_refusedGuess_12 : decode cX11_refusedGuess 12 = .ok (.aload_n 0, 1) := by decide +kernel
theorem dX11_refusedGuess_13 : decode cX11_refusedGuess 13 = .ok (.getfield 83, 3) := by decide +kernel
theorem dX11_refusedGuess_16 : decode cX11_refusedGuess 16 = .ok (.invokevirtual 155, 3) := by decide +kernel
theorem dX11_refusedGuess_19 : decode cX11_refusedGuess 19 = .ok (.iconst 1, 1) := by decide +kernel
theorem dX11_refusedGuess_20 : decode cX11_refusedGuess 20 = .ok (.iload_n 1, 1) := by decide +kernel
theorem dX11_refusedGuess_21 : decode cX11_refusedGuess 21 = .ok (.ishl, 1) := by decide +kernel
theorem dX11_refusedGuess_22 : decode cX11_refusedGuess 22 = .ok (.iconst (-1), 1) := by decide +kernel
theorem dX11_refusedGuess_23 : decode cX11_refusedGuess 23 = .ok (.ixor, 1) := by decide +kernel
theorem dX11_refusedGuess_24 : decode cX11_refusedGuess 24 = .ok (.iand, 1) := by decide +kernel
theorem dX11_refusedGuess_25 : decode cX11_refusedGuess 25 = .ok (.iconst (-1), 1) := by decide +kernel
theorem dX11_refusedGuess_26 : decode cX11_refusedGuess 26 = .ok (.ixor, 1) := by decide +kernel
theorem dX11_refusedGuess_27 : decode cX11_refusedGuess 27 = .ok (.iand, 1) := by decide +kernel
theorem dX11_refusedGuess_28 : decode cX11_refusedGuess 28 = .ok (.ifCond .eq 8, 3) := by decide +kernel
theorem dX11_refusedGuess_31 : decode cX11_refusedGuess 31 = .ok (.bipush (-3), 2) := by decide +kernel
theorem dX11_refusedGuess_33 : decode cX11_refusedGuess 33 = .ok (.goto 4, 3) := by decide +kernel
theorem dX11_refusedGuess_36 : decode cX11_refusedGuess 36 = .ok (.iconst 0, 1) := by decide +kernel
theorem dX11_refusedGuess_37 : decode cX11_refusedGuess 37 = .ok (.ireturn, 1) := by decide +kernel
theorem dX11_remember_0 : decode cX11_remember 0 = .ok (.aload_n 0, 1) := by decide +kernel
theorem dX11_remember_1 : decode cX11_remember 1 = .ok (.getfield 96, 3) := by decide +kernel
theorem dX11_remember_4 : decode cX11_remember 4 = .ok (.aload_n 0, 1) := by decide +kernel
theorem dX11_remember_5 : decode cX11_remember 5 = .ok (.getfield 87, 3) := by decide +kernel
theorem dX11_remember_8 : decode cX11_remember 8 = .ok (.invokevirtual 213, 3) := by decide +kernel
theorem dX11_remember_11 : decode cX11_remember 11 = .ok (.aload_n 0, 1) := by decide +kernel
theorem dX11_remember_12 : decode cX11_remember 12 = .ok (.dup, 1) := by decide +kernel
theorem dX11_remember_13 : decode cX11_remember 13 = .ok (.getfield 74, 3) := by decide +kernel
theorem dX11_remember_16 : decode cX11_remember 16 = .ok (.iconst 1, 1) := by decide +kernel
theorem dX11_remember_17 : decode cX11_remember 17 = .ok (.iadd, 1) := by decide +kernel
theorem dX11_remember_18 : decode cX11_remember 18 = .ok (.putfield 74, 3) := by decide +kernel
theorem dX11_remember_21 : decode cX11_remember 21 = .ok (.return_, 1) := by decide +kernel
theorem dX11_reserve_0 : decode cX11_reserve 0 = .ok (.aload_n 0, 1) := by decide +kernel
theorem dX11_reserve_1 : decode cX11_reserve 1 = .ok (.iload_n 1, 1) := by decide +kernel
theorem dX11_reserve_2 : decode cX11_reserve 2 = .ok (.invokevirtual 257, 3) := by decide +kernel
theorem dX11_reserve_5 : decode cX11_reserve 5 = .ok (.ifCond .ne 6, 3) := by decide +kernel
theorem dX11_reserve_8 : decode cX11_reserve 8 = .ok (.bipush (-3), 2) := by decide +kernel
theorem dX11_reserve_10 : decode cX11_reserve 10 = .ok (.ireturn, 1) := by decide +kernel
theorem dX11_reserve_11 : decode cX11_reserve 11 = .ok (.aload_n 0, 1) := by decide +kernel
theorem dX11_reserve_12 : decode cX11_reserve 12 = .ok (.invokevirtual 260, 3) := by decide +kernel
theorem dX11_reserve_15 : decode cX11_reserve 15 = .ok (.aload_n 0, 1) := by decide +kernel
theorem dX11_reserve_16 : decode cX11_reserve 16 = .ok (.getfield 56, 3) := by decide +kernel
theorem dX11_reserve_19 : decode cX11_reserve 19 = .ok (.invokevirtual 277, 3) := by decide +kernel
theorem dX11_reserve_22 : decode cX11_reserve 22 = .ok (.aload_n 0, 1) := by decide +kernel
theorem dX11_reserve_23 : decode cX11_reserve 23 = .ok (.getfield 83, 3) := by decide +kernel
theorem dX11_reserve_26 : decode cX11_reserve 26 = .ok (.invokevirtual 155, 3) := by decide +kernel
theorem dX11_reserve_29 : decode cX11_reserve 29 = .ok (.iload_n 1, 1) := by decide +kernel
theorem dX11_reserve_30 : decode cX11_reserve 30 = .ok (.iconst (-1), 1) := by decide +kernel
theorem dX11_reserve_31 : decode cX11_reserve 31 = .ok (.ixor, 1) := by decide +kernel
theorem dX11_reserve_32 : decode cX11_reserve 32 = .ok (.iand, 1) := by decide +kernel
theorem dX11_reserve_33 : decode cX11_reserve 33 = .ok (.istore_n 2, 1) := by decide +kernel
theorem dX11_reserve_34 : decode cX11_reserve 34 = .ok (.iconst (-1), 1) := by decide +kernel
theorem dX11_reserve_35 : decode cX11_reserve 35 = .ok (.istore_n 3, 1) := by decide +kernel
theorem dX11_reserve_36 : decode cX11_reserve 36 = .ok (.ldc2_w 351, 3) := by decide +kernel
theorem dX11_reserve_39 : decode cX11_reserve 39 = .ok (.aload_n 0, 1) := by decide +kernel
theorem dX11_reserve_40 : decode cX11_reserve 40 = .ok (.getfield 56, 3) := by decide +kernel
theorem dX11_reserve_43 : decode cX11_reserve 43 = .ok (.iload_n 1, 1) := by decide +kernel
theorem dX11_reserve_44 : decode cX11_reserve 44 = .ok (.aload_n 0, 1) := by decide +kernel
theorem dX11_reserve_45 : decode cX11_reserve 45 = .ok (.getfield 83, 3) := by decide +kernel
theorem dX11_reserve_48 : decode cX11_reserve 48 = .ok (.getfield 126, 3) := by decide +kernel
theorem dX11_reserve_51 : decode cX11_reserve 51 = .ok (.getfield 146, 3) := by decide +kernel
theorem dX11_reserve_54 : decode cX11_reserve 54 = .ok (.invokevirtual 347, 3) := by decide +kernel
theorem dX11_reserve_57 : decode cX11_reserve 57 = .ok (.lmul, 1) := by decide +kernel
theorem dX11_reserve_58 : decode cX11_reserve 58 = .ok (.lstore 4, 2) := by decide +kernel
theorem dX11_reserve_60 : decode cX11_reserve 60 = .ok (.iconst 0, 1) := by decide +kernel
theorem dX11_reserve_61 : decode cX11_reserve 61 = .ok (.istore 6, 2) := by decide +kernel
theorem dX11_reserve_63 : decode cX11_reserve 63 = .ok (.iload 6, 2) := by decide +kernel
theorem dX11_reserve_65 : decode cX11_reserve 65 = .ok (.aload_n 0, 1) := by decide +kernel
theorem dX11_reserve_66 : decode cX11_reserve 66 = .ok (.getfield 83, 3) := by decide +kernel
theorem dX11_reserve_69 : decode cX11_reserve 69 = .ok (.getfield 126, 3) := by decide +kernel
theorem dX11_reserve_72 : decode cX11_reserve 72 = .ok (.getfield 159, 3) := by decide +kernel
theorem dX11_reserve_75 : decode cX11_reserve 75 = .ok (.if_icmp .ge 59, 3) := by decide +kernel
theorem dX11_reserve_78 : decode cX11_reserve 78 = .ok (.iload_n 2, 1) := by decide +kernel
theorem dX11_reserve_79 : decode cX11_reserve 79 = .ok (.iload 6, 2) := by decide +kernel
theorem dX11_reserve_81 : decode cX11_reserve 81 = .ok (.ishr, 1) := by decide +kernel
theorem dX11_reserve_82 : decode cX11_reserve 82 = .ok (.iconst 1, 1) := by decide +kernel
theorem dX11_reserve_83 : decode cX11_reserve 83 = .ok (.iand, 1) := by decide +kernel
theorem dX11_reserve_84 : decode cX11_reserve 84 = .ok (.iconst 1, 1) := by decide +kernel
theorem dX11_reserve_85 : decode cX11_reserve 85 = .ok (.if_icmp .ne 43, 3) := by decide +kernel
theorem dX11_reserve_88 : decode cX11_reserve 88 = .ok (.aload_n 0, 1) := by decide +kernel
theorem dX11_reserve_89 : decode cX11_reserve 89 = .ok (.getfield 56, 3) := by decide +kernel
theorem dX11_reserve_92 : decode cX11_reserve 92 = .ok (.iload_n 1, 1) := by decide +kernel
theorem dX11_reserve_93 : decode cX11_reserve 93 = .ok (.iconst 1, 1) := by decide +kernel
theorem dX11_reserve_94 : decode cX11_reserve 94 = .ok (.iload 6, 2) := by decide +kernel
theorem dX11_reserve_96 : decode cX11_reserve 96 = .ok (.ishl, 1) := by decide +kernel
theorem dX11_reserve_97 : decode cX11_reserve 97 = .ok (.ior, 1) := by decide +kernel
theorem dX11_reserve_98 : decode cX11_reserve 98 = .ok (.aload_n 0, 1) := by decide +kernel
theorem dX11_reserve_99 : decode cX11_reserve 99 = .ok (.getfield 83, 3) := by decide +kernel
theorem dX11_reserve_102 : decode cX11_reserve 102 = .ok (.getfield 126, 3) := by decide +kernel
theorem dX11_reserve_105 : decode cX11_reserve 105 = .ok (.getfield 146, 3) := by decide +kernel
theorem dX11_reserve_108 : decode cX11_reserve 108 = .ok (.invokevirtual 347, 3) := by decide +kernel
theorem dX11_reserve_111 : decode cX11_reserve 111 = .ok (.lstore 7, 2) := by decide +kernel
theorem dX11_reserve_113 : decode cX11_reserve 113 = .ok (.lload 7, 2) := by decide +kernel
theorem dX11_reserve_115 : decode cX11_reserve 115 = .ok (.lload 4, 2) := by decide +kernel
theorem dX11_reserve_117 : decode cX11_reserve 117 = .ok (.lcmp, 1) := by decide +kernel
theorem dX11_reserve_118 : decode cX11_reserve 118 = .ok (.ifCond .le 10, 3) := by decide +kernel
theorem dX11_reserve_121 : decode cX11_reserve 121 = .ok (.lload 7, 2) := by decide +kernel
theorem dX11_reserve_123 : decode cX11_reserve 123 = .ok (.lstore 4, 2) := by decide +kernel
theorem dX11_reserve_125 : decode cX11_reserve 125 = .ok (.iload 6, 2) := by decide +kernel
theorem dX11_reserve_127 : decode cX11_reserve 127 = .ok (.istore_n 3, 1) := by decide +kernel
theorem dX11_reserve_128 : decode cX11_reserve 128 = .ok (.iinc 6 1, 3) := by decide +kernel
theorem dX11_reserve_131 : decode cX11_reserve 131 = .ok (.goto (-68), 3) := by decide +kernel
theorem dX11_reserve_134 : decode cX11_reserve 134 = .ok (.iload_n 3, 1) := by decide +kernel
theorem dX11_reserve_135 : decode cX11_reserve 135 = .ok (.ireturn, 1) := by decide +kernel
theorem dX11_restore_0 : decode cX11_restore 0 = .ok (.iload_n 1, 1) := by decide +kernel
theorem dX11_restore_1 : decode cX11_restore 1 = .ok (.ifCond .lt 8, 3) := by decide +kernel
theorem dX11_restore_4 : decode cX11_restore 4 = .ok (.iload_n 1, 1) := by decide +kernel
theorem dX11_restore_5 : decode cX11_restore 5 = .ok (.iconst 2, 1) := by decide +kernel
theorem dX11_restore_6 : decode cX11_restore 6 = .ok (.if_icmp .lt 6, 3) := by decide +kernel
theorem dX11_restore_9 : decode cX11_restore 9 = .ok (.bipush (-2), 2) := by decide +kernel
theorem dX11_restore_11 : decode cX11_restore 11 = .ok (.ireturn, 1) := by decide +kernel
theorem dX11_restore_12 : decode cX11_restore 12 = .ok (.aload_n 0, 1) := by decide +kernel
theorem dX11_restore_13 : decode cX11_restore 13 = .ok (.getfield 42, 3) := by decide +kernel
theorem dX11_restore_16 : decode cX11_restore 16 = .ok (.iload_n 1, 1) := by decide +kernel
theorem dX11_restore_17 : decode cX11_restore 17 = .ok (.baload, 1) := by decide +kernel
theorem dX11_restore_18 : decode cX11_restore 18 = .ok (.ifCond .ne 6, 3) := by decide +kernel
theorem dX11_restore_21 : decode cX11_restore 21 = .ok (.bipush (-5), 2) := by decide +kernel
theorem dX11_restore_23 : decode cX11_restore 23 = .ok (.ireturn, 1) := by decide +kernel
theorem dX11_restore_24 : decode cX11_restore 24 = .ok (.aload_n 0, 1) := by decide +kernel
theorem dX11_restore_25 : decode cX11_restore 25 = .ok (.getfield 83, 3) := by decide +kernel
theorem dX11_restore_28 : decode cX11_restore 28 = .ok (.aload_n 0, 1) := by decide +kernel
theorem dX11_restore_29 : decode cX11_restore 29 = .ok (.getfield 38, 3) := by decide +kernel
theorem dX11_restore_32 : decode cX11_restore 32 = .ok (.iload_n 1, 1) := by decide +kernel
theorem dX11_restore_33 : decode cX11_restore 33 = .ok (.aaload, 1) := by decide +kernel
theorem dX11_restore_34 : decode cX11_restore 34 = .ok (.invokevirtual 202, 3) := by decide +kernel
theorem dX11_restore_37 : decode cX11_restore 37 = .ok (.aload_n 0, 1) := by decide +kernel
theorem dX11_restore_38 : decode cX11_restore 38 = .ok (.getfield 96, 3) := by decide +kernel
theorem dX11_restore_41 : decode cX11_restore 41 = .ok (.invokevirtual 116, 3) := by decide +kernel
theorem dX11_restore_44 : decode cX11_restore 44 = .ok (.aload_n 0, 1) := by decide +kernel
theorem dX11_restore_45 : decode cX11_restore 45 = .ok (.dup, 1) := by decide +kernel
theorem dX11_restore_46 : decode cX11_restore 46 = .ok (.getfield 74, 3) := by decide +kernel
theorem dX11_restore_49 : decode cX11_restore 49 = .ok (.iconst 1, 1) := by decide +kernel
theorem dX11_restore_50 : decode cX11_restore 50 = .ok (.iadd, 1) := by decide +kernel
theorem dX11_restore_51 : decode cX11_restore 51 = .ok (.putfield 74, 3) := by decide +kernel
theorem dX11_restore_54 : decode cX11_restore 54 = .ok (.iconst 0, 1) := by decide +kernel
theorem dX11_restore_55 : decode cX11_restore 55 = .ok (.ireturn, 1) := by decide +kernel
theorem dX11_sayers_0 : decode cX11_sayers 0 = .ok (.aload_n 0, 1) := by decide +kernel
theorem dX11_sayers_1 : decode cX11_sayers 1 = .ok (.getfield 83, 3) := by decide +kernel
theorem dX11_sayers_4 : decode cX11_sayers 4 = .ok (.invokevirtual 155, 3) := by decide +kernel
theorem dX11_sayers_7 : decode cX11_sayers 7 = .ok (.istore_n 2, 1) := by decide +kernel
theorem dX11_sayers_8 : decode cX11_sayers 8 = .ok (.iconst 0, 1) := by decide +kernel
theorem dX11_sayers_9 : decode cX11_sayers 9 = .ok (.istore_n 3, 1) := by decide +kernel
theorem dX11_sayers_10 : decode cX11_sayers 10 = .ok (.iconst 0, 1) := by decide +kernel
theorem dX11_sayers_11 : decode cX11_sayers 11 = .ok (.istore 4, 2) := by decide +kernel
theorem dX11_sayers_13 : decode cX11_sayers 13 = .ok (.iload 4, 2) := by decide +kernel
theorem dX11_sayers_15 : decode cX11_sayers 15 = .ok (.aload_n 0, 1) := by decide +kernel
theorem dX11_sayers_16 : decode cX11_sayers 16 = .ok (.getfield 83, 3) := by decide +kernel
theorem dX11_sayers_19 : decode cX11_sayers 19 = .ok (.getfield 126, 3) := by decide +kernel
theorem dX11_sayers_22 : decode cX11_sayers 22 = .ok (.getfield 159, 3) := by decide +kernel
theorem dX11_sayers_25 : decode cX11_sayers 25 = .ok (.if_icmp .ge 43, 3) := by decide +kernel
theorem dX11_sayers_28 : decode cX11_sayers 28 = .ok (.iload_n 2, 1) := by decide +kernel
theorem dX11_sayers_29 : decode cX11_sayers 29 = .ok (.iload 4, 2) := by decide +kernel
theorem dX11_sayers_31 : decode cX11_sayers 31 = .ok (.ishr, 1) := by decide +kernel
theorem dX11_sayers_32 : decode cX11_sayers 32 = .ok (.iconst 1, 1) := by decide +kernel
theorem dX11_sayers_33 : decode cX11_sayers 33 = .ok (.iand, 1) := by decide +kernel
theorem dX11_sayers_34 : decode cX11_sayers 34 = .ok (.iconst 1, 1) := by decide +kernel
theorem dX11_sayers_35 : decode cX11_sayers 35 = .ok (.if_icmp .ne 27, 3) := by decide +kernel
theorem dX11_sayers_38 : decode cX11_sayers 38 = .ok (.aload_n 0, 1) := by decide +kernel
theorem dX11_sayers_39 : decode cX11_sayers 39 = .ok (.getfield 49, 3) := by decide +kernel
theorem dX11_sayers_42 : decode cX11_sayers 42 = .ok (.aload_n 0, 1) := by decide +kernel
theorem dX11_sayers_43 : decode cX11_sayers 43 = .ok (.getfield 83, 3) := by decide +kernel
theorem dX11_sayers_46 : decode cX11_sayers 46 = .ok (.iload 4, 2) := by decide +kernel
theorem dX11_sayers_48 : decode cX11_sayers 48 = .ok (.iload_n 1, 1) := by decide +kernel
theorem dX11_sayers_49 : decode cX11_sayers 49 = .ok (.invokevirtual 322, 3) := by decide +kernel
theorem dX11_sayers_52 : decode cX11_sayers 52 = .ok (.ifCond .eq 10, 3) := by decide +kernel
theorem dX11_sayers_55 : decode cX11_sayers 55 = .ok (.iload_n 3, 1) := by decide +kernel
theorem dX11_sayers_56 : decode cX11_sayers 56 = .ok (.iconst 1, 1) := by decide +kernel
theorem dX11_sayers_57 : decode cX11_sayers 57 = .ok (.iload 4, 2) := by decide +kernel
theorem dX11_sayers_59 : decode cX11_sayers 59 = .ok (.ishl, 1) := by decide +kernel
theorem dX11_sayers_60 : decode cX11_sayers 60 = .ok (.ior, 1) := by decide +kernel
theorem dX11_sayers_61 : decode cX11_sayers 61 = .ok (.istore_n 3, 1) := by decide +kernel
theorem dX11_sayers_62 : decode cX11_sayers 62 = .ok (.iinc 4 1, 3) := by decide +kernel
theorem dX11_sayers_65 : decode cX11_sayers 65 = .ok (.goto (-52), 3) := by decide +kernel
theorem dX11_sayers_68 : decode cX11_sayers 68 = .ok (.iload_n 3, 1) := by decide +kernel
theorem dX11_sayers_69 : decode cX11_sayers 69 = .ok (.ireturn, 1) := by decide +kernel
theorem dX11_send_0 : decode cX11_send 0 = .ok (.aload_n 0, 1) := by decide +kernel
theorem dX11_send_1 : decode cX11_send 1 = .ok (.bipush 100, 2) := by decide +kernel
theorem dX11_send_3 : decode cX11_send 3 = .ok (.iload_n 1, 1) := by decide +kernel
theorem dX11_send_4 : decode cX11_send 4 = .ok (.invokevirtual 190, 3) := by decide +kernel
theorem dX11_send_7 : decode cX11_send 7 = .ok (.ireturn, 1) := by decide +kernel
theorem dX11_sendOrCall_0 : decode cX11_sendOrCall 0 = .ok (.aload_n 0, 1) := by decide +kernel
theorem dX11_sendOrCall_1 : decode cX11_sendOrCall 1 = .ok (.iload_n 2, 1) := by decide +kernel
theorem dX11_sendOrCall_2 : decode cX11_sendOrCall 2 = .ok (.invokevirtual 122, 3) := by decide +kernel
theorem dX11_sendOrCall_5 : decode cX11_sendOrCall 5 = .ok (.ifCond .ne 6, 3) := by decide +kernel
theorem dX11_sendOrCall_8 : decode cX11_sendOrCall 8 = .ok (.bipush (-11), 2) := by decide +kernel
theorem dX11_sendOrCall_10 : decode cX11_sendOrCall 10 = .ok (.ireturn, 1) := by decide +kernel
theorem dX11_sendOrCall_11 : decode cX11_sendOrCall 11 = .ok (.aload_n 0, 1) := by decide +kernel
theorem dX11_sendOrCall_12 : decode cX11_sendOrCall 12 = .ok (.iload_n 1, 1) := by decide +kernel
theorem dX11_sendOrCall_13 : decode cX11_sendOrCall 13 = .ok (.iload_n 2, 1) := by decide +kernel
theorem dX11_sendOrCall_14 : decode cX11_sendOrCall 14 = .ok (.iadd, 1) := by decide +kernel
theorem dX11_sendOrCall_15 : decode cX11_sendOrCall 15 = .ok (.invokevirtual 184, 3) := by decide +kernel
theorem dX11_sendOrCall_18 : decode cX11_sendOrCall 18 = .ok (.istore_n 3, 1) := by decide +kernel
theorem dX11_sendOrCall_19 : decode cX11_sendOrCall 19 = .ok (.iload_n 3, 1) := by decide +kernel
theorem dX11_sendOrCall_20 : decode cX11_sendOrCall 20 = .ok (.ifCond .eq 10, 3) := by decide +kernel
theorem dX11_sendOrCall_23 : decode cX11_sendOrCall 23 = .ok (.bipush (-10), 2) := by decide +kernel
theorem dX11_sendOrCall_25 : decode cX11_sendOrCall 25 = .ok (.iload_n 3, 1) := by decide +kernel
theorem dX11_sendOrCall_26 : decode cX11_sendOrCall 26 = .ok (.isub, 1) := by decide +kernel
theorem dX11_sendOrCall_27 : decode cX11_sendOrCall 27 = .ok (.goto 13, 3) := by decide +kernel
theorem dX11_sendOrCall_30 : decode cX11_sendOrCall 30 = .ok (.aload_n 0, 1) := by decide +kernel
theorem dX11_sendOrCall_31 : decode cX11_sendOrCall 31 = .ok (.getfield 83, 3) := by decide +kernel
theorem dX11_sendOrCall_34 : decode cX11_sendOrCall 34 = .ok (.getfield 152, 3) := by decide +kernel
theorem dX11_sendOrCall_37 : decode cX11_sendOrCall 37 = .ok (.invokestatic 193, 3) := by decide +kernel
theorem dX11_sendOrCall_40 : decode cX11_sendOrCall 40 = .ok (.ireturn, 1) := by decide +kernel
theorem dX11_sits_0 : decode cX11_sits 0 = .ok (.aload_n 0, 1) := by decide +kernel
theorem dX11_sits_1 : decode cX11_sits 1 = .ok (.iload_n 1, 1) := by decide +kernel
theorem dX11_sits_2 : decode cX11_sits 2 = .ok (.invokevirtual 257, 3) := by decide +kernel
theorem dX11_sits_5 : decode cX11_sits 5 = .ok (.ifCond .ne 6, 3) := by decide +kernel
theorem dX11_sits_8 : decode cX11_sits 8 = .ok (.bipush (-3), 2) := by decide +kernel
theorem dX11_sits_10 : decode cX11_sits 10 = .ok (.ireturn, 1) := by decide +kernel
theorem dX11_sits_11 : decode cX11_sits 11 = .ok (.aload_n 0, 1) := by decide +kernel
theorem dX11_sits_12 : decode cX11_sits 12 = .ok (.invokevirtual 260, 3) := by decide +kernel
theorem dX11_sits_15 : decode cX11_sits 15 = .ok (.aload_n 0, 1) := by decide +kernel
theorem dX11_sits_16 : decode cX11_sits 16 = .ok (.getfield 56, 3) := by decide +kernel
theorem dX11_sits_19 : decode cX11_sits 19 = .ok (.iload_n 1, 1) := by decide +kernel
theorem dX11_sits_20 : decode cX11_sits 20 = .ok (.iconst 0, 1) := by decide +kernel
theorem dX11_sits_21 : decode cX11_sits 21 = .ok (.invokevirtual 247, 3) := by decide +kernel
theorem dX11_sits_24 : decode cX11_sits 24 = .ok (.ifCond .eq 7, 3) := by decide +kernel
theorem dX11_sits_27 : decode cX11_sits 27 = .ok (.iconst 1, 1) := by decide +kernel
theorem dX11_sits_28 : decode cX11_sits 28 = .ok (.goto 4, 3) := by decide +kernel
theorem dX11_sits_31 : decode cX11_sits 31 = .ok (.iconst 0, 1) := by decide +kernel
theorem dX11_sits_32 : decode cX11_sits 32 = .ok (.ireturn, 1) := by decide +kernel
theorem dX11_talk_0 : decode cX11_talk 0 = .ok (.aload_n 0, 1) := by decide +kernel
theorem dX11_talk_1 : decode cX11_talk 1 = .ok (.iload_n 1, 1) := by decide +kernel
theorem dX11_talk_2 : decode cX11_talk 2 = .ok (.iload_n 2, 1) := by decide +kernel
theorem dX11_talk_3 : decode cX11_talk 3 = .ok (.invokevirtual 180, 3) := by decide +kernel
theorem dX11_talk_6 : decode cX11_talk 6 = .ok (.ifCond .ne 6, 3) := by decide +kernel
theorem dX11_talk_9 : decode cX11_talk 9 = .ok (.bipush (-11), 2) := by decide +kernel
theorem dX11_talk_11 : decode cX11_talk 11 = .ok (.ireturn, 1) := by decide +kernel
theorem dX11_talk_12 : decode cX11_talk 12 = .ok (.aload_n 0, 1) := by decide +kernel
theorem dX11_talk_13 : decode cX11_talk 13 = .ok (.bipush 10, 2) := by decide +kernel
theorem dX11_talk_15 : decode cX11_talk 15 = .ok (.iload_n 1, 1) := by decide +kernel
theorem dX11_talk_16 : decode cX11_talk 16 = .ok (.imul, 1) := by decide +kernel
theorem dX11_talk_17 : decode cX11_talk 17 = .ok (.iload_n 2, 1) := by decide +kernel
theorem dX11_talk_18 : decode cX11_talk 18 = .ok (.iadd, 1) := by decide +kernel
theorem dX11_talk_19 : decode cX11_talk 19 = .ok (.invokevirtual 184, 3) := by decide +kernel
theorem dX11_talk_22 : decode cX11_talk 22 = .ok (.istore_n 3, 1) := by decide +kernel
theorem dX11_talk_23 : decode cX11_talk 23 = .ok (.iload_n 3, 1) := by decide +kernel
theorem dX11_talk_24 : decode cX11_talk 24 = .ok (.ifCond .eq 10, 3) := by decide +kernel
theorem dX11_talk_27 : decode cX11_talk 27 = .ok (.bipush (-10), 2) := by decide +kernel
theorem dX11_talk_29 : decode cX11_talk 29 = .ok (.iload_n 3, 1) := by decide +kernel
theorem dX11_talk_30 : decode cX11_talk 30 = .ok (.isub, 1) := by decide +kernel
theorem dX11_talk_31 : decode cX11_talk 31 = .ok (.goto 8, 3) := by decide +kernel
theorem dX11_talk_34 : decode cX11_talk 34 = .ok (.aload_n 0, 1) := by decide +kernel
theorem dX11_talk_35 : decode cX11_talk 35 = .ok (.iload_n 1, 1) := by decide +kernel
theorem dX11_talk_36 : decode cX11_talk 36 = .ok (.invokevirtual 187, 3) := by decide +kernel
theorem dX11_talk_39 : decode cX11_talk 39 = .ok (.ireturn, 1) := by decide +kernel
theorem dX11_talkBy_0 : decode cX11_talkBy 0 = .ok (.aload_n 0, 1) := by decide +kernel
theorem dX11_talkBy_1 : decode cX11_talkBy 1 = .ok (.iload_n 1, 1) := by decide +kernel
theorem dX11_talkBy_2 : decode cX11_talkBy 2 = .ok (.iload_n 2, 1) := by decide +kernel
theorem dX11_talkBy_3 : decode cX11_talkBy 3 = .ok (.invokevirtual 180, 3) := by decide +kernel
theorem dX11_talkBy_6 : decode cX11_talkBy 6 = .ok (.ifCond .ne 6, 3) := by decide +kernel
theorem dX11_talkBy_9 : decode cX11_talkBy 9 = .ok (.bipush (-2), 2) := by decide +kernel
theorem dX11_talkBy_11 : decode cX11_talkBy 11 = .ok (.ireturn, 1) := by decide +kernel
theorem dX11_talkBy_12 : decode cX11_talkBy 12 = .ok (.iload_n 3, 1) := by decide +kernel
theorem dX11_talkBy_13 : decode cX11_talkBy 13 = .ok (.ifCond .ge 6, 3) := by decide +kernel
theorem dX11_talkBy_16 : decode cX11_talkBy 16 = .ok (.bipush (-3), 2) := by decide +kernel
theorem dX11_talkBy_18 : decode cX11_talkBy 18 = .ok (.ireturn, 1) := by decide +kernel
theorem dX11_talkBy_19 : decode cX11_talkBy 19 = .ok (.aload_n 0, 1) := by decide +kernel
theorem dX11_talkBy_20 : decode cX11_talkBy 20 = .ok (.getfield 63, 3) := by decide +kernel
theorem dX11_talkBy_23 : decode cX11_talkBy 23 = .ok (.aload_n 0, 1) := by decide +kernel
theorem dX11_talkBy_24 : decode cX11_talkBy 24 = .ok (.getfield 83, 3) := by decide +kernel
theorem dX11_talkBy_27 : decode cX11_talkBy 27 = .ok (.iload_n 1, 1) := by decide +kernel
theorem dX11_talkBy_28 : decode cX11_talkBy 28 = .ok (.iload_n 2, 1) := by decide +kernel
theorem dX11_talkBy_29 : decode cX11_talkBy 29 = .ok (.aload_n 0, 1) := by decide +kernel
theorem dX11_talkBy_30 : decode cX11_talkBy 30 = .ok (.getfield 49, 3) := by decide +kernel
theorem dX11_talkBy_33 : decode cX11_talkBy 33 = .ok (.aload_n 0, 1) := by decide +kernel
theorem dX11_talkBy_34 : decode cX11_talkBy 34 = .ok (.getfield 74, 3) := by decide +kernel
theorem dX11_talkBy_37 : decode cX11_talkBy 37 = .ok (.invokevirtual 299, 3) := by decide +kernel
theorem dX11_talkBy_40 : decode cX11_talkBy 40 = .ok (.iload_n 3, 1) := by decide +kernel
theorem dX11_talkBy_41 : decode cX11_talkBy 41 = .ok (.aload_n 0, 1) := by decide +kernel
theorem dX11_talkBy_42 : decode cX11_talkBy 42 = .ok (.getfield 63, 3) := by decide +kernel
theorem dX11_talkBy_45 : decode cX11_talkBy 45 = .ok (.getfield 303, 3) := by decide +kernel
theorem dX11_talkBy_48 : decode cX11_talkBy 48 = .ok (.if_icmp .ge 15, 3) := by decide +kernel
theorem dX11_talkBy_51 : decode cX11_talkBy 51 = .ok (.aload_n 0, 1) := by decide +kernel
theorem dX11_talkBy_52 : decode cX11_talkBy 52 = .ok (.getfield 63, 3) := by decide +kernel
theorem dX11_talkBy_55 : decode cX11_talkBy 55 = .ok (.getfield 306, 3) := by decide +kernel
theorem dX11_talkBy_58 : decode cX11_talkBy 58 = .ok (.iload_n 3, 1) := by decide +kernel
theorem dX11_talkBy_59 : decode cX11_talkBy 59 = .ok (.iaload, 1) := by decide +kernel
theorem dX11_talkBy_60 : decode cX11_talkBy 60 = .ok (.goto 4, 3) := by decide +kernel
theorem dX11_talkBy_63 : decode cX11_talkBy 63 = .ok (.iconst (-1), 1) := by decide +kernel
theorem dX11_talkBy_64 : decode cX11_talkBy 64 = .ok (.ireturn, 1) := by decide +kernel
theorem dX11_talks_0 : decode cX11_talks 0 = .ok (.aload_n 0, 1) := by decide +kernel
theorem dX11_talks_1 : decode cX11_talks 1 = .ok (.iload_n 1, 1) := by decide +kernel
theorem dX11_talks_2 : decode cX11_talks 2 = .ok (.iload_n 2, 1) := by decide +kernel
theorem dX11_talks_3 : decode cX11_talks 3 = .ok (.invokevirtual 180, 3) := by decide +kernel
theorem dX11_talks_6 : decode cX11_talks 6 = .ok (.ifCond .ne 6, 3) := by decide +kernel
theorem dX11_talks_9 : decode cX11_talks 9 = .ok (.bipush (-2), 2) := by decide +kernel
theorem dX11_talks_11 : decode cX11_talks 11 = .ok (.ireturn, 1) := by decide +kernel
theorem dX11_talks_12 : decode cX11_talks 12 = .ok (.aload_n 0, 1) := by decide +kernel
theorem dX11_talks_13 : decode cX11_talks 13 = .ok (.getfield 63, 3) := by decide +kernel
theorem dX11_talks_16 : decode cX11_talks 16 = .ok (.aload_n 0, 1) := by decide +kernel
theorem dX11_talks_17 : decode cX11_talks 17 = .ok (.getfield 83, 3) := by decide +kernel
theorem dX11_talks_20 : decode cX11_talks 20 = .ok (.iload_n 1, 1) := by decide +kernel
theorem dX11_talks_21 : decode cX11_talks 21 = .ok (.iload_n 2, 1) := by decide +kernel
theorem dX11_talks_22 : decode cX11_talks 22 = .ok (.aload_n 0, 1) := by decide +kernel
theorem dX11_talks_23 : decode cX11_talks 23 = .ok (.getfield 49, 3) := by decide +kernel
theorem dX11_talks_26 : decode cX11_talks 26 = .ok (.aload_n 0, 1) := by decide +kernel
theorem dX11_talks_27 : decode cX11_talks 27 = .ok (.getfield 74, 3) := by decide +kernel
theorem dX11_talks_30 : decode cX11_talks 30 = .ok (.invokevirtual 299, 3) := by decide +kernel
theorem dX11_talks_33 : decode cX11_talks 33 = .ok (.aload_n 0, 1) := by decide +kernel
theorem dX11_talks_34 : decode cX11_talks 34 = .ok (.getfield 63, 3) := by decide +kernel
theorem dX11_talks_37 : decode cX11_talks 37 = .ok (.getfield 303, 3) := by decide +kernel
theorem dX11_talks_40 : decode cX11_talks 40 = .ok (.ireturn, 1) := by decide +kernel
theorem dX11_town_0 : decode cX11_town 0 = .ok (.iload_n 1, 1) := by decide +kernel
theorem dX11_town_1 : decode cX11_town 1 = .ok (.ifCond .lt 10, 3) := by decide +kernel
theorem dX11_town_4 : decode cX11_town 4 = .ok (.iload_n 1, 1) := by decide +kernel
theorem dX11_town_5 : decode cX11_town 5 = .ok (.sipush 999, 3) := by decide +kernel
theorem dX11_town_8 : decode cX11_town 8 = .ok (.if_icmp .le 6, 3) := by decide +kernel
theorem dX11_town_11 : decode cX11_town 11 = .ok (.bipush (-3), 2) := by decide +kernel
theorem dX11_town_13 : decode cX11_town 13 = .ok (.ireturn, 1) := by decide +kernel
theorem dX11_town_14 : decode cX11_town 14 = .ok (.aload_n 0, 1) := by decide +kernel
theorem dX11_town_15 : decode cX11_town 15 = .ok (.getfield 83, 3) := by decide +kernel
theorem dX11_town_18 : decode cX11_town 18 = .ok (.aload_n 0, 1) := by decide +kernel
theorem dX11_town_19 : decode cX11_town 19 = .ok (.getfield 83, 3) := by decide +kernel
theorem dX11_town_22 : decode cX11_town 22 = .ok (.getfield 165, 3) := by decide +kernel
theorem dX11_town_25 : decode cX11_town 25 = .ok (.iload_n 1, 1) := by decide +kernel
theorem dX11_town_26 : decode cX11_town 26 = .ok (.iadd, 1) := by decide +kernel
theorem dX11_town_27 : decode cX11_town 27 = .ok (.invokevirtual 168, 3) := by decide +kernel
theorem dX11_town_30 : decode cX11_town 30 = .ok (.ireturn, 1) := by decide +kernel
theorem dX11_townSits_0 : decode cX11_townSits 0 = .ok (.aload_n 0, 1) := by decide +kernel
theorem dX11_townSits_1 : decode cX11_townSits 1 = .ok (.getfield 56, 3) := by decide +kernel
theorem dX11_townSits_4 : decode cX11_townSits 4 = .ok (.aload_n 1, 1) := by decide +kernel
theorem dX11_townSits_5 : decode cX11_townSits 5 = .ok (.aload_n 1, 1) := by decide +kernel
theorem dX11_townSits_6 : decode cX11_townSits 6 = .ok (.getfield 165, 3) := by decide +kernel
theorem dX11_townSits_9 : decode cX11_townSits 9 = .ok (.aload_n 0, 1) := by decide +kernel
theorem dX11_townSits_10 : decode cX11_townSits 10 = .ok (.getfield 49, 3) := by decide +kernel
theorem dX11_townSits_13 : decode cX11_townSits 13 = .ok (.invokevirtual 243, 3) := by decide +kernel
theorem dX11_townSits_16 : decode cX11_townSits 16 = .ok (.aload_n 0, 1) := by decide +kernel
theorem dX11_townSits_17 : decode cX11_townSits 17 = .ok (.getfield 56, 3) := by decide +kernel
theorem dX11_townSits_20 : decode cX11_townSits 20 = .ok (.aload_n 1, 1) := by decide +kernel
theorem dX11_townSits_21 : decode cX11_townSits 21 = .ok (.invokevirtual 155, 3) := by decide +kernel
theorem dX11_townSits_24 : decode cX11_townSits 24 = .ok (.iconst 0, 1) := by decide +kernel
theorem dX11_townSits_25 : decode cX11_townSits 25 = .ok (.invokevirtual 247, 3) := by decide +kernel
theorem dX11_townSits_28 : decode cX11_townSits 28 = .ok (.ireturn, 1) := by decide +kernel
theorem dX11_undo_0 : decode cX11_undo 0 = .ok (.iload_n 1, 1) := by decide +kernel
theorem dX11_undo_1 : decode cX11_undo 1 = .ok (.iconst 1, 1) := by decide +kernel
theorem dX11_undo_2 : decode cX11_undo 2 = .ok (.if_icmp .lt 14, 3) := by decide +kernel
theorem dX11_undo_5 : decode cX11_undo 5 = .ok (.iload_n 1, 1) := by decide +kernel
theorem dX11_undo_6 : decode cX11_undo 6 = .ok (.aload_n 0, 1) := by decide +kernel
theorem dX11_undo_7 : decode cX11_undo 7 = .ok (.getfield 96, 3) := by decide +kernel
theorem dX11_undo_10 : decode cX11_undo 10 = .ok (.getfield 216, 3) := by decide +kernel
theorem dX11_undo_13 : decode cX11_undo 13 = .ok (.if_icmp .le 6, 3) := by decide +kernel
theorem dX11_undo_16 : decode cX11_undo 16 = .ok (.bipush (-3), 2) := by decide +kernel
theorem dX11_undo_18 : decode cX11_undo 18 = .ok (.ireturn, 1) := by decide +kernel
theorem dX11_undo_19 : decode cX11_undo 19 = .ok (.aload_n 0, 1) := by decide +kernel
theorem dX11_undo_20 : decode cX11_undo 20 = .ok (.getfield 96, 3) := by decide +kernel
theorem dX11_undo_23 : decode cX11_undo 23 = .ok (.iload_n 1, 1) := by decide +kernel
theorem dX11_undo_24 : decode cX11_undo 24 = .ok (.aload_n 0, 1) := by decide +kernel
theorem dX11_undo_25 : decode cX11_undo 25 = .ok (.getfield 83, 3) := by decide +kernel
theorem dX11_undo_28 : decode cX11_undo 28 = .ok (.invokevirtual 219, 3) := by decide +kernel
theorem dX11_undo_31 : decode cX11_undo 31 = .ok (.aload_n 0, 1) := by decide +kernel
theorem dX11_undo_32 : decode cX11_undo 32 = .ok (.dup, 1) := by decide +kernel
theorem dX11_undo_33 : decode cX11_undo 33 = .ok (.getfield 74, 3) := by decide +kernel
theorem dX11_undo_36 : decode cX11_undo 36 = .ok (.iconst 1, 1) := by decide +kernel
theorem dX11_undo_37 : decode cX11_undo 37 = .ok (.iadd, 1) := by decide +kernel
theorem dX11_undo_38 : decode cX11_undo 38 = .ok (.putfield 74, 3) := by decide +kernel
theorem dX11_undo_41 : decode cX11_undo 41 = .ok (.aload_n 0, 1) := by decide +kernel
theorem dX11_undo_42 : decode cX11_undo 42 = .ok (.getfield 96, 3) := by decide +kernel
theorem dX11_undo_45 : decode cX11_undo 45 = .ok (.getfield 216, 3) := by decide +kernel
theorem dX11_undo_48 : decode cX11_undo 48 = .ok (.ireturn, 1) := by decide +kernel
theorem dX11_ways_0 : decode cX11_ways 0 = .ok (.aload_n 0, 1) := by decide +kernel
theorem dX11_ways_1 : decode cX11_ways 1 = .ok (.iload_n 1, 1) := by decide +kernel
theorem dX11_ways_2 : decode cX11_ways 2 = .ok (.invokevirtual 257, 3) := by decide +kernel
theorem dX11_ways_5 : decode cX11_ways 5 = .ok (.ifCond .ne 6, 3) := by decide +kernel
theorem dX11_ways_8 : decode cX11_ways 8 = .ok (.bipush (-3), 2) := by decide +kernel
theorem dX11_ways_10 : decode cX11_ways 10 = .ok (.ireturn, 1) := by decide +kernel
theorem dX11_ways_11 : decode cX11_ways 11 = .ok (.aload_n 0, 1) := by decide +kernel
theorem dX11_ways_12 : decode cX11_ways 12 = .ok (.invokevirtual 260, 3) := by decide +kernel
theorem dX11_ways_15 : decode cX11_ways 15 = .ok (.aload_n 0, 1) := by decide +kernel
theorem dX11_ways_16 : decode cX11_ways 16 = .ok (.getfield 56, 3) := by decide +kernel
theorem dX11_ways_19 : decode cX11_ways 19 = .ok (.invokevirtual 277, 3) := by decide +kernel
theorem dX11_ways_22 : decode cX11_ways 22 = .ok (.aload_n 0, 1) := by decide +kernel
theorem dX11_ways_23 : decode cX11_ways 23 = .ok (.getfield 56, 3) := by decide +kernel
theorem dX11_ways_26 : decode cX11_ways 26 = .ok (.getfield 280, 3) := by decide +kernel
theorem dX11_ways_29 : decode cX11_ways 29 = .ok (.iload_n 1, 1) := by decide +kernel
theorem dX11_ways_30 : decode cX11_ways 30 = .ok (.iaload, 1) := by decide +kernel
theorem dX11_ways_31 : decode cX11_ways 31 = .ok (.ireturn, 1) := by decide +kernel
theorem dX11_word_0 : decode cX11_word 0 = .ok (.aload_n 0, 1) := by decide +kernel
theorem dX11_word_1 : decode cX11_word 1 = .ok (.getfield 83, 3) := by decide +kernel
theorem dX11_word_4 : decode cX11_word 4 = .ok (.invokevirtual 155, 3) := by decide +kernel
theorem dX11_word_7 : decode cX11_word 7 = .ok (.istore_n 1, 1) := by decide +kernel
theorem dX11_word_8 : decode cX11_word 8 = .ok (.aload_n 0, 1) := by decide +kernel
theorem dX11_word_9 : decode cX11_word 9 = .ok (.aload_n 0, 1) := by decide +kernel
theorem dX11_word_10 : decode cX11_word 10 = .ok (.getfield 83, 3) := by decide +kernel
theorem dX11_word_13 : decode cX11_word 13 = .ok (.invokevirtual 239, 3) := by decide +kernel
theorem dX11_word_16 : decode cX11_word 16 = .ok (.ifCond .eq 5, 3) := by decide +kernel
theorem dX11_word_19 : decode cX11_word 19 = .ok (.iconst (-1), 1) := by decide +kernel
theorem dX11_word_20 : decode cX11_word 20 = .ok (.ireturn, 1) := by decide +kernel
theorem dX11_word_21 : decode cX11_word 21 = .ok (.iconst 0, 1) := by decide +kernel
theorem dX11_word_22 : decode cX11_word 22 = .ok (.istore_n 2, 1) := by decide +kernel
theorem dX11_word_23 : decode cX11_word 23 = .ok (.iload_n 2, 1) := by decide +kernel
theorem dX11_word_24 : decode cX11_word 24 = .ok (.aload_n 0, 1) := by decide +kernel
theorem dX11_word_25 : decode cX11_word 25 = .ok (.getfield 83, 3) := by decide +kernel
theorem dX11_word_28 : decode cX11_word 28 = .ok (.getfield 126, 3) := by decide +kernel
theorem dX11_word_31 : decode cX11_word 31 = .ok (.getfield 159, 3) := by decide +kernel
theorem dX11_word_34 : decode cX11_word 34 = .ok (.if_icmp .ge 146, 3) := by decide +kernel
theorem dX11_word_37 : decode cX11_word 37 = .ok (.aload_n 0, 1) := by decide +kernel
theorem dX11_word_38 : decode cX11_word 38 = .ok (.getfield 56, 3) := by decide +kernel
theorem dX11_word_41 : decode cX11_word 41 = .ok (.getfield 296, 3) := by decide +kernel
theorem dX11_word_44 : decode cX11_word 44 = .ok (.iload_n 2, 1) := by decide +kernel
theorem dX11_word_45 : decode cX11_word 45 = .ok (.iaload, 1) := by decide +kernel
theorem dX11_word_46 : decode cX11_word 46 = .ok (.istore_n 3, 1) := by decide +kernel
theorem dX11_word_47 : decode cX11_word 47 = .ok (.iconst 0, 1) := by decide +kernel
theorem dX11_word_48 : decode cX11_word 48 = .ok (.istore 4, 2) := by decide +kernel
theorem dX11_word_50 : decode cX11_word 50 = .ok (.iload 4, 2) := by decide +kernel
theorem dX11_word_52 : decode cX11_word 52 = .ok (.aload_n 0, 1) := by decide +kernel
theorem dX11_word_53 : decode cX11_word 53 = .ok (.getfield 83, 3) := by decide +kernel
theorem dX11_word_56 : decode cX11_word 56 = .ok (.getfield 126, 3) := by decide +kernel
theorem dX11_word_59 : decode cX11_word 59 = .ok (.getfield 159, 3) := by decide +kernel
theorem dX11_word_62 : decode cX11_word 62 = .ok (.if_icmp .ge 103, 3) := by decide +kernel
theorem dX11_word_65 : decode cX11_word 65 = .ok (.bipush 10, 2) := by decide +kernel
theorem dX11_word_67 : decode cX11_word 67 = .ok (.iload_n 2, 1) := by decide +kernel
theorem dX11_word_68 : decode cX11_word 68 = .ok (.imul, 1) := by decide +kernel
theorem dX11_word_69 : decode cX11_word 69 = .ok (.iload 4, 2) := by decide +kernel
theorem dX11_word_71 : decode cX11_word 71 = .ok (.iadd, 1) := by decide +kernel
theorem dX11_word_72 : decode cX11_word 72 = .ok (.istore 5, 2) := by decide +kernel
theorem dX11_word_74 : decode cX11_word 74 = .ok (.aload_n 0, 1) := by decide +kernel
theorem dX11_word_75 : decode cX11_word 75 = .ok (.getfield 83, 3) := by decide +kernel
theorem dX11_word_78 : decode cX11_word 78 = .ok (.iload 5, 2) := by decide +kernel
theorem dX11_word_80 : decode cX11_word 80 = .ok (.i2l, 1) := by decide +kernel
theorem dX11_word_81 : decode cX11_word 81 = .ok (.invokevirtual 198, 3) := by decide +kernel
theorem dX11_word_84 : decode cX11_word 84 = .ok (.ifCond .eq 6, 3) := by decide +kernel
theorem dX11_word_87 : decode cX11_word 87 = .ok (.goto 72, 3) := by decide +kernel
theorem dX11_word_90 : decode cX11_word 90 = .ok (.aload_n 0, 1) := by decide +kernel
theorem dX11_word_91 : decode cX11_word 91 = .ok (.getfield 49, 3) := by decide +kernel
theorem dX11_word_94 : decode cX11_word 94 = .ok (.aload_n 0, 1) := by decide +kernel
theorem dX11_word_95 : decode cX11_word 95 = .ok (.getfield 83, 3) := by decide +kernel
theorem dX11_word_98 : decode cX11_word 98 = .ok (.iload_n 2, 1) := by decide +kernel
theorem dX11_word_99 : decode cX11_word 99 = .ok (.aload_n 0, 1) := by decide +kernel
theorem dX11_word_100 : decode cX11_word 100 = .ok (.getfield 83, 3) := by decide +kernel
theorem dX11_word_103 : decode cX11_word 103 = .ok (.getfield 130, 3) := by decide +kernel
theorem dX11_word_106 : decode cX11_word 106 = .ok (.iload_n 2, 1) := by decide +kernel
theorem dX11_word_107 : decode cX11_word 107 = .ok (.iaload, 1) := by decide +kernel
theorem dX11_word_108 : decode cX11_word 108 = .ok (.iload 4, 2) := by decide +kernel
theorem dX11_word_110 : decode cX11_word 110 = .ok (.invokevirtual 309, 3) := by decide +kernel
theorem dX11_word_113 : decode cX11_word 113 = .ok (.istore 6, 2) := by decide +kernel
theorem dX11_word_115 : decode cX11_word 115 = .ok (.aload_n 0, 1) := by decide +kernel
theorem dX11_word_116 : decode cX11_word 116 = .ok (.getfield 56, 3) := by decide +kernel
theorem dX11_word_119 : decode cX11_word 119 = .ok (.iload_n 2, 1) := by decide +kernel
theorem dX11_word_120 : decode cX11_word 120 = .ok (.aload_n 0, 1) := by decide +kernel
theorem dX11_word_121 : decode cX11_word 121 = .ok (.getfield 49, 3) := by decide +kernel
theorem dX11_word_124 : decode cX11_word 124 = .ok (.aload_n 0, 1) := by decide +kernel
theorem dX11_word_125 : decode cX11_word 125 = .ok (.getfield 83, 3) := by decide +kernel
theorem dX11_word_128 : decode cX11_word 128 = .ok (.iload_n 2, 1) := by decide +kernel
theorem dX11_word_129 : decode cX11_word 129 = .ok (.iload 6, 2) := by decide +kernel
theorem dX11_word_131 : decode cX11_word 131 = .ok (.aload_n 0, 1) := by decide +kernel
theorem dX11_word_132 : decode cX11_word 132 = .ok (.getfield 83, 3) := by decide +kernel
theorem dX11_word_135 : decode cX11_word 135 = .ok (.getfield 165, 3) := by decide +kernel
theorem dX11_word_138 : decode cX11_word 138 = .ok (.invokevirtual 176, 3) := by decide +kernel
theorem dX11_word_141 : decode cX11_word 141 = .ok (.invokevirtual 312, 3) := by decide +kernel
theorem dX11_word_144 : decode cX11_word 144 = .ok (.aload_n 0, 1) := by decide +kernel
theorem dX11_word_145 : decode cX11_word 145 = .ok (.getfield 56, 3) := by decide +kernel
theorem dX11_word_148 : decode cX11_word 148 = .ok (.iload_n 1, 1) := by decide +kernel
theorem dX11_word_149 : decode cX11_word 149 = .ok (.iconst 0, 1) := by decide +kernel
theorem dX11_word_150 : decode cX11_word 150 = .ok (.invokevirtual 247, 3) := by decide +kernel
theorem dX11_word_153 : decode cX11_word 153 = .ok (.ifCond .eq 6, 3) := by decide +kernel
theorem dX11_word_156 : decode cX11_word 156 = .ok (.iload 5, 2) := by decide +kernel
theorem dX11_word_158 : decode cX11_word 158 = .ok (.ireturn, 1) := by decide +kernel
theorem dX11_word_159 : decode cX11_word 159 = .ok (.iinc 4 1, 3) := by decide +kernel
theorem dX11_word_162 : decode cX11_word 162 = .ok (.goto (-112), 3) := by decide +kernel
theorem dX11_word_165 : decode cX11_word 165 = .ok (.aload_n 0, 1) := by decide +kernel
theorem dX11_word_166 : decode cX11_word 166 = .ok (.getfield 56, 3) := by decide +kernel
theorem dX11_word_169 : decode cX11_word 169 = .ok (.iload_n 2, 1) := by decide +kernel
theorem dX11_word_170 : decode cX11_word 170 = .ok (.iload_n 3, 1) := by decide +kernel
theorem dX11_word_171 : decode cX11_word 171 = .ok (.invokevirtual 312, 3) := by decide +kernel
theorem dX11_word_174 : decode cX11_word 174 = .ok (.iinc 2 1, 3) := by decide +kernel
theorem dX11_word_177 : decode cX11_word 177 = .ok (.goto (-154), 3) := by decide +kernel
theorem dX11_word_180 : decode cX11_word 180 = .ok (.iconst (-1), 1) := by decide +kernel
theorem dX11_word_181 : decode cX11_word 181 = .ok (.ireturn, 1) := by decide +kernel
theorem dX11_write_0 : decode cX11_write 0 = .ok (.aload_n 0, 1) := by decide +kernel
theorem dX11_write_1 : decode cX11_write 1 = .ok (.iload_n 1, 1) := by decide +kernel
theorem dX11_write_2 : decode cX11_write 2 = .ok (.invokevirtual 223, 3) := by decide +kernel
theorem dX11_write_5 : decode cX11_write 5 = .ok (.ifCond .ne 7, 3) := by decide +kernel
theorem dX11_write_8 : decode cX11_write 8 = .ok (.ldc2_w 343, 3) := by decide +kernel
theorem dX11_write_11 : decode cX11_write 11 = .ok (.lreturn, 1) := by decide +kernel
theorem dX11_write_12 : decode cX11_write 12 = .ok (.aload_n 0, 1) := by decide +kernel
theorem dX11_write_13 : decode cX11_write 13 = .ok (.getfield 32, 3) := by decide +kernel
theorem dX11_write_16 : decode cX11_write 16 = .ok (.iload_n 1, 1) := by decide +kernel
theorem dX11_write_17 : decode cX11_write 17 = .ok (.aaload, 1) := by decide +kernel
theorem dX11_write_18 : decode cX11_write 18 = .ok (.astore 5, 2) := by decide +kernel
theorem dX11_write_20 : decode cX11_write 20 = .ok (.aload 5, 2) := by decide +kernel
theorem dX11_write_22 : decode cX11_write 22 = .ok (.invokevirtual 226, 3) := by decide +kernel
theorem dX11_write_25 : decode cX11_write 25 = .ok (.ifCond .eq 7, 3) := by decide +kernel
theorem dX11_write_28 : decode cX11_write 28 = .ok (.ldc2_w 360, 3) := by decide +kernel
theorem dX11_write_31 : decode cX11_write 31 = .ok (.lreturn, 1) := by decide +kernel
theorem dX11_write_32 : decode cX11_write 32 = .ok (.iload_n 2, 1) := by decide +kernel
theorem dX11_write_33 : decode cX11_write 33 = .ok (.ifCond .lt 12, 3) := by decide +kernel
theorem dX11_write_36 : decode cX11_write 36 = .ok (.iload_n 2, 1) := by decide +kernel
theorem dX11_write_37 : decode cX11_write 37 = .ok (.aload 5, 2) := by decide +kernel
theorem dX11_write_39 : decode cX11_write 39 = .ok (.getfield 234, 3) := by decide +kernel
theorem dX11_write_42 : decode cX11_write 42 = .ok (.if_icmp .lt 7, 3) := by decide +kernel
theorem dX11_write_45 : decode cX11_write 45 = .ok (.ldc2_w 362, 3) := by decide +kernel
theorem dX11_write_48 : decode cX11_write 48 = .ok (.lreturn, 1) := by decide +kernel
theorem dX11_write_49 : decode cX11_write 49 = .ok (.aload 5, 2) := by decide +kernel
theorem dX11_write_51 : decode cX11_write 51 = .ok (.iload_n 2, 1) := by decide +kernel
theorem dX11_write_52 : decode cX11_write 52 = .ok (.lload_n 3, 1) := by decide +kernel
theorem dX11_write_53 : decode cX11_write 53 = .ok (.invokevirtual 364, 3) := by decide +kernel
theorem dX11_write_56 : decode cX11_write 56 = .ok (.aload 5, 2) := by decide +kernel
theorem dX11_write_58 : decode cX11_write 58 = .ok (.getfield 235, 3) := by decide +kernel
theorem dX11_write_61 : decode cX11_write 61 = .ok (.iload_n 2, 1) := by decide +kernel
theorem dX11_write_62 : decode cX11_write 62 = .ok (.laload, 1) := by decide +kernel
theorem dX11_write_63 : decode cX11_write 63 = .ok (.lreturn, 1) := by decide +kernel
theorem dX11_year_0 : decode cX11_year 0 = .ok (.iload_n 2, 1) := by decide +kernel
theorem dX11_year_1 : decode cX11_year 1 = .ok (.iconst 1, 1) := by decide +kernel
theorem dX11_year_2 : decode cX11_year 2 = .ok (.if_icmp .lt 9, 3) := by decide +kernel
theorem dX11_year_5 : decode cX11_year 5 = .ok (.iload_n 2, 1) := by decide +kernel
theorem dX11_year_6 : decode cX11_year 6 = .ok (.bipush 40, 2) := by decide +kernel
theorem dX11_year_8 : decode cX11_year 8 = .ok (.if_icmp .le 6, 3) := by decide +kernel
theorem dX11_year_11 : decode cX11_year 11 = .ok (.bipush (-3), 2) := by decide +kernel
theorem dX11_year_13 : decode cX11_year 13 = .ok (.ireturn, 1) := by decide +kernel
theorem dX11_year_14 : decode cX11_year 14 = .ok (.aload_n 0, 1) := by decide +kernel
theorem dX11_year_15 : decode cX11_year 15 = .ok (.getfield 87, 3) := by decide +kernel
theorem dX11_year_18 : decode cX11_year 18 = .ok (.aload_n 0, 1) := by decide +kernel
theorem dX11_year_19 : decode cX11_year 19 = .ok (.getfield 83, 3) := by decide +kernel
theorem dX11_year_22 : decode cX11_year 22 = .ok (.invokevirtual 202, 3) := by decide +kernel
theorem dX11_year_25 : decode cX11_year 25 = .ok (.iload_n 1, 1) := by decide +kernel
theorem dX11_year_26 : decode cX11_year 26 = .ok (.istore_n 3, 1) := by decide +kernel
theorem dX11_year_27 : decode cX11_year 27 = .ok (.iconst 0, 1) := by decide +kernel
theorem dX11_year_28 : decode cX11_year 28 = .ok (.istore 4, 2) := by decide +kernel
theorem dX11_year_30 : decode cX11_year 30 = .ok (.iconst 0, 1) := by decide +kernel
theorem dX11_year_31 : decode cX11_year 31 = .ok (.istore 5, 2) := by decide +kernel
theorem dX11_year_33 : decode cX11_year 33 = .ok (.iload 5, 2) := by decide +kernel
theorem dX11_year_35 : decode cX11_year 35 = .ok (.iload_n 2, 1) := by decide +kernel
theorem dX11_year_36 : decode cX11_year 36 = .ok (.if_icmp .ge 122, 3) := by decide +kernel
theorem dX11_year_39 : decode cX11_year 39 = .ok (.iload_n 3, 1) := by decide +kernel
theorem dX11_year_40 : decode cX11_year 40 = .ok (.invokestatic 250, 3) := by decide +kernel
theorem dX11_year_43 : decode cX11_year 43 = .ok (.istore_n 3, 1) := by decide +kernel
theorem dX11_year_44 : decode cX11_year 44 = .ok (.iload_n 3, 1) := by decide +kernel
theorem dX11_year_45 : decode cX11_year 45 = .ok (.invokestatic 253, 3) := by decide +kernel
theorem dX11_year_48 : decode cX11_year 48 = .ok (.iconst 4, 1) := by decide +kernel
theorem dX11_year_49 : decode cX11_year 49 = .ok (.irem, 1) := by decide +kernel
theorem dX11_year_50 : decode cX11_year 50 = .ok (.istore 6, 2) := by decide +kernel
theorem dX11_year_52 : decode cX11_year 52 = .ok (.iconst (-1), 1) := by decide +kernel
theorem dX11_year_53 : decode cX11_year 53 = .ok (.istore 7, 2) := by decide +kernel
theorem dX11_year_55 : decode cX11_year 55 = .ok (.iload 6, 2) := by decide +kernel
theorem dX11_year_57 : decode cX11_year 57 = .ok (.ifCond .eq 65, 3) := by decide +kernel
theorem dX11_year_60 : decode cX11_year 60 = .ok (.iload_n 3, 1) := by decide +kernel
theorem dX11_year_61 : decode cX11_year 61 = .ok (.invokestatic 250, 3) := by decide +kernel
theorem dX11_year_64 : decode cX11_year 64 = .ok (.istore_n 3, 1) := by decide +kernel
theorem dX11_year_65 : decode cX11_year 65 = .ok (.iload_n 3, 1) := by decide +kernel
theorem dX11_year_66 : decode cX11_year 66 = .ok (.invokestatic 253, 3) := by decide +kernel
theorem dX11_year_69 : decode cX11_year 69 = .ok (.bipush 10, 2) := by decide +kernel
theorem dX11_year_71 : decode cX11_year 71 = .ok (.irem, 1) := by decide +kernel
theorem dX11_year_72 : decode cX11_year 72 = .ok (.istore 7, 2) := by decide +kernel
theorem dX11_year_74 : decode cX11_year 74 = .ok (.iload 6, 2) := by decide +kernel
theorem dX11_year_76 : decode cX11_year 76 = .ok (.iconst 1, 1) := by decide +kernel
theorem dX11_year_77 : decode cX11_year 77 = .ok (.if_icmp .ne 26, 3) := by decide +kernel
theorem dX11_year_80 : decode cX11_year 80 = .ok (.iload_n 3, 1) := by decide +kernel
theorem dX11_year_81 : decode cX11_year 81 = .ok (.invokestatic 250, 3) := by decide +kernel
theorem dX11_year_84 : decode cX11_year 84 = .ok (.istore_n 3, 1) := by decide +kernel
theorem dX11_year_85 : decode cX11_year 85 = .ok (.bipush 10, 2) := by decide +kernel
theorem dX11_year_87 : decode cX11_year 87 = .ok (.iload 7, 2) := by decide +kernel
theorem dX11_year_89 : decode cX11_year 89 = .ok (.imul, 1) := by decide +kernel
theorem dX11_year_90 : decode cX11_year 90 = .ok (.iload_n 3, 1) := by decide +kernel
theorem dX11_year_91 : decode cX11_year 91 = .ok (.invokestatic 253, 3) := by decide +kernel
theorem dX11_year_94 : decode cX11_year 94 = .ok (.bipush 10, 2) := by decide +kernel
theorem dX11_year_96 : decode cX11_year 96 = .ok (.irem, 1) := by decide +kernel
theorem dX11_year_97 : decode cX11_year 97 = .ok (.iadd, 1) := by decide +kernel
theorem dX11_year_98 : decode cX11_year 98 = .ok (.istore 7, 2) := by decide +kernel
theorem dX11_year_100 : decode cX11_year 100 = .ok (.goto 22, 3) := by decide +kernel
theorem dX11_year_103 : decode cX11_year 103 = .ok (.iload 7, 2) := by decide +kernel
theorem dX11_year_105 : decode cX11_year 105 = .ok (.iload 6, 2) := by decide +kernel
theorem dX11_year_107 : decode cX11_year 107 = .ok (.iconst 2, 1) := by decide +kernel
theorem dX11_year_108 : decode cX11_year 108 = .ok (.if_icmp .ne 8, 3) := by decide +kernel
theorem dX11_year_111 : decode cX11_year 111 = .ok (.bipush 100, 2) := by decide +kernel
theorem dX11_year_113 : decode cX11_year 113 = .ok (.goto 6, 3) := by decide +kernel
theorem dX11_year_116 : decode cX11_year 116 = .ok (.sipush 200, 3) := by decide +kernel
theorem dX11_year_119 : decode cX11_year 119 = .ok (.iadd, 1) := by decide +kernel
theorem dX11_year_120 : decode cX11_year 120 = .ok (.istore 7, 2) := by decide +kernel
theorem dX11_year_122 : decode cX11_year 122 = .ok (.aload_n 0, 1) := by decide +kernel
theorem dX11_year_123 : decode cX11_year 123 = .ok (.getfield 83, 3) := by decide +kernel
theorem dX11_year_126 : decode cX11_year 126 = .ok (.iload 7, 2) := by decide +kernel
theorem dX11_year_128 : decode cX11_year 128 = .ok (.i2l, 1) := by decide +kernel
theorem dX11_year_129 : decode cX11_year 129 = .ok (.invokevirtual 198, 3) := by decide +kernel
theorem dX11_year_132 : decode cX11_year 132 = .ok (.ifCond .ne 20, 3) := by decide +kernel
theorem dX11_year_135 : decode cX11_year 135 = .ok (.aload_n 0, 1) := by decide +kernel
theorem dX11_year_136 : decode cX11_year 136 = .ok (.getfield 83, 3) := by decide +kernel
theorem dX11_year_139 : decode cX11_year 139 = .ok (.iload 7, 2) := by decide +kernel
theorem dX11_year_141 : decode cX11_year 141 = .ok (.i2l, 1) := by decide +kernel
theorem dX11_year_142 : decode cX11_year 142 = .ok (.aload_n 0, 1) := by decide +kernel
theorem dX11_year_143 : decode cX11_year 143 = .ok (.getfield 49, 3) := by decide +kernel
theorem dX11_year_146 : decode cX11_year 146 = .ok (.invokevirtual 206, 3) := by decide +kernel
theorem dX11_year_149 : decode cX11_year 149 = .ok (.iinc 4 1, 3) := by decide +kernel
theorem dX11_year_152 : decode cX11_year 152 = .ok (.iinc 5 1, 3) := by decide +kernel
theorem dX11_year_155 : decode cX11_year 155 = .ok (.goto (-122), 3) := by decide +kernel
theorem dX11_year_158 : decode cX11_year 158 = .ok (.iload 4, 2) := by decide +kernel
theorem dX11_year_160 : decode cX11_year 160 = .ok (.ifCond .le 7, 3) := by decide +kernel
theorem dX11_year_163 : decode cX11_year 163 = .ok (.aload_n 0, 1) := by decide +kernel
theorem dX11_year_164 : decode cX11_year 164 = .ok (.invokevirtual 210, 3) := by decide +kernel
theorem dX11_year_167 : decode cX11_year 167 = .ok (.iload 4, 2) := by decide +kernel
theorem dX11_year_169 : decode cX11_year 169 = .ok (.ireturn, 1) := by decide +kernel
