theorem dX12_areTwo_0 : decode cX12_areTwo 0 = .ok (.aload_n 0, 1) := by decide +kernel
theorem dX12_areTwo_1 : decode cX12_areTwo 1 = .ok (.iload_n 1, 1) := by decide +kernel
theorem dX12_areTwo_2 : decode cX12_areTwo 2 = .ok (.i2l, 1) := by decide +kernel
theorem dX12_areTwo_3 : decode cX12_areTwo 3 = .ok (.invokevirtual 245, 3) := by decide +kernel
theorem dX12_areTwo_6 : decode cX12_areTwo 6 = .ok (.ifCond .eq 21, 3) := by decide +kernel
theorem dX12_areTwo_9 : decode cX12_areTwo 9 = .ok (.aload_n 0, 1) := by decide +kernel
theorem dX12_areTwo_10 : decode cX12_areTwo 10 = .ok (.iload_n 2, 1) := by decide +kernel
theorem dX12_areTwo_11 : decode cX12_areTwo 11 = .ok (.i2l, 1) := by decide +kernel
theorem dX12_areTwo_12 : decode cX12_areTwo 12 = .ok (.invokevirtual 245, 3) := by decide +kernel
theorem dX12_areTwo_15 : decode cX12_areTwo 15 = .ok (.ifCond .eq 12, 3) := by decide +kernel
theorem dX12_areTwo_18 : decode cX12_areTwo 18 = .ok (.iload_n 1, 1) := by decide +kernel
theorem dX12_areTwo_19 : decode cX12_areTwo 19 = .ok (.iload_n 2, 1) := by decide +kernel
theorem dX12_areTwo_20 : decode cX12_areTwo 20 = .ok (.if_icmp .eq 7, 3) := by decide +kernel
theorem dX12_areTwo_23 : decode cX12_areTwo 23 = .ok (.iconst 1, 1) := by decide +kernel
theorem dX12_areTwo_24 : decode cX12_areTwo 24 = .ok (.goto 4, 3) := by decide +kernel
theorem dX12_areTwo_27 : decode cX12_areTwo 27 = .ok (.iconst 0, 1) := by decide +kernel
theorem dX12_areTwo_28 : decode cX12_areTwo 28 = .ok (.ireturn, 1) := by decide +kernel
theorem dX12_ayes_0 : decode cX12_ayes 0 = .ok (.aload_n 0, 1) := by decide +kernel
theorem dX12_ayes_1 : decode cX12_ayes 1 = .ok (.iconst 0, 1) := by decide +kernel
theorem dX12_ayes_2 : decode cX12_ayes 2 = .ok (.putfield 1, 3) := by decide +kernel
theorem dX12_ayes_5 : decode cX12_ayes 5 = .ok (.iload_n 1, 1) := by decide +kernel
theorem dX12_ayes_6 : decode cX12_ayes 6 = .ok (.invokestatic 393, 3) := by decide +kernel
theorem dX12_ayes_9 : decode cX12_ayes 9 = .ok (.ifCond .eq 15, 3) := by decide +kernel
theorem dX12_ayes_12 : decode cX12_ayes 12 = .ok (.aload_n 0, 1) := by decide +kernel
theorem dX12_ayes_13 : decode cX12_ayes 13 = .ok (.aload_n 0, 1) := by decide +kernel
theorem dX12_ayes_14 : decode cX12_ayes 14 = .ok (.invokevirtual 255, 3) := by decide +kernel
theorem dX12_ayes_17 : decode cX12_ayes 17 = .ok (.iload_n 1, 1) := by decide +kernel
theorem dX12_ayes_18 : decode cX12_ayes 18 = .ok (.invokevirtual 396, 3) := by decide +kernel
theorem dX12_ayes_21 : decode cX12_ayes 21 = .ok (.goto 5, 3) := by decide +kernel
theorem dX12_ayes_24 : decode cX12_ayes 24 = .ok (.bipush (-3), 2) := by decide +kernel
theorem dX12_ayes_26 : decode cX12_ayes 26 = .ok (.ireturn, 1) := by decide +kernel
theorem dX12_ayesOf_0 : decode cX12_ayesOf 0 = .ok (.iconst 0, 1) := by decide +kernel
theorem dX12_ayesOf_1 : decode cX12_ayesOf 1 = .ok (.istore_n 3, 1) := by decide +kernel
theorem dX12_ayesOf_2 : decode cX12_ayesOf 2 = .ok (.iconst 0, 1) := by decide +kernel
theorem dX12_ayesOf_3 : decode cX12_ayesOf 3 = .ok (.istore 4, 2) := by decide +kernel
theorem dX12_ayesOf_5 : decode cX12_ayesOf 5 = .ok (.iload 4, 2) := by decide +kernel
theorem dX12_ayesOf_7 : decode cX12_ayesOf 7 = .ok (.aload_n 0, 1) := by decide +kernel
theorem dX12_ayesOf_8 : decode cX12_ayesOf 8 = .ok (.getfield 13, 3) := by decide +kernel
theorem dX12_ayesOf_11 : decode cX12_ayesOf 11 = .ok (.iconst 2, 1) := by decide +kernel
theorem dX12_ayesOf_12 : decode cX12_ayesOf 12 = .ok (.iaload, 1) := by decide +kernel
theorem dX12_ayesOf_13 : decode cX12_ayesOf 13 = .ok (.if_icmp .ge 40, 3) := by decide +kernel
theorem dX12_ayesOf_16 : decode cX12_ayesOf 16 = .ok (.iload_n 3, 1) := by decide +kernel
theorem dX12_ayesOf_17 : decode cX12_ayesOf 17 = .ok (.iload_n 1, 1) := by decide +kernel
theorem dX12_ayesOf_18 : decode cX12_ayesOf 18 = .ok (.i2l, 1) := by decide +kernel
theorem dX12_ayesOf_19 : decode cX12_ayesOf 19 = .ok (.iload 4, 2) := by decide +kernel
theorem dX12_ayesOf_21 : decode cX12_ayesOf 21 = .ok (.invokestatic 251, 3) := by decide +kernel
theorem dX12_ayesOf_24 : decode cX12_ayesOf 24 = .ok (.ifCond .eq 20, 3) := by decide +kernel
theorem dX12_ayesOf_27 : decode cX12_ayesOf 27 = .ok (.aload_n 0, 1) := by decide +kernel
theorem dX12_ayesOf_28 : decode cX12_ayesOf 28 = .ok (.iload 4, 2) := by decide +kernel
theorem dX12_ayesOf_30 : decode cX12_ayesOf 30 = .ok (.iload_n 2, 1) := by decide +kernel
theorem dX12_ayesOf_31 : decode cX12_ayesOf 31 = .ok (.invokevirtual 390, 3) := by decide +kernel
theorem dX12_ayesOf_34 : decode cX12_ayesOf 34 = .ok (.ifCond .eq 10, 3) := by decide +kernel
theorem dX12_ayesOf_37 : decode cX12_ayesOf 37 = .ok (.iconst 1, 1) := by decide +kernel
theorem dX12_ayesOf_38 : decode cX12_ayesOf 38 = .ok (.iload 4, 2) := by decide +kernel
theorem dX12_ayesOf_40 : decode cX12_ayesOf 40 = .ok (.ishl, 1) := by decide +kernel
theorem dX12_ayesOf_41 : decode cX12_ayesOf 41 = .ok (.goto 4, 3) := by decide +kernel
theorem dX12_ayesOf_44 : decode cX12_ayesOf 44 = .ok (.iconst 0, 1) := by decide +kernel
theorem dX12_ayesOf_45 : decode cX12_ayesOf 45 = .ok (.ior, 1) := by decide +kernel
theorem dX12_ayesOf_46 : decode cX12_ayesOf 46 = .ok (.istore_n 3, 1) := by decide +kernel
theorem dX12_ayesOf_47 : decode cX12_ayesOf 47 = .ok (.iinc 4 1, 3) := by decide +kernel
theorem dX12_ayesOf_50 : decode cX12_ayesOf 50 = .ok (.goto (-45), 3) := by decide +kernel
theorem dX12_ayesOf_53 : decode cX12_ayesOf 53 = .ok (.iload_n 3, 1) := by decide +kernel
theorem dX12_ayesOf_54 : decode cX12_ayesOf 54 = .ok (.ireturn, 1) := by decide +kernel
theorem dX12_bar_0 : decode cX12_bar 0 = .ok (.aload_n 0, 1) := by decide +kernel
theorem dX12_bar_1 : decode cX12_bar 1 = .ok (.iconst 0, 1) := by decide +kernel
theorem dX12_bar_2 : decode cX12_bar 2 = .ok (.putfield 1, 3) := by decide +kernel
theorem dX12_bar_5 : decode cX12_bar 5 = .ok (.iload_n 2, 1) := by decide +kernel
theorem dX12_bar_6 : decode cX12_bar 6 = .ok (.i2l, 1) := by decide +kernel
theorem dX12_bar_7 : decode cX12_bar 7 = .ok (.lconst 0, 1) := by decide +kernel
theorem dX12_bar_8 : decode cX12_bar 8 = .ok (.lconst 1, 1) := by decide +kernel
theorem dX12_bar_9 : decode cX12_bar 9 = .ok (.invokestatic 145, 3) := by decide +kernel
theorem dX12_bar_12 : decode cX12_bar 12 = .ok (.ifCond .ne 6, 3) := by decide +kernel
theorem dX12_bar_15 : decode cX12_bar 15 = .ok (.bipush (-2), 2) := by decide +kernel
theorem dX12_bar_17 : decode cX12_bar 17 = .ok (.ireturn, 1) := by decide +kernel
theorem dX12_bar_18 : decode cX12_bar 18 = .ok (.aload_n 0, 1) := by decide +kernel
theorem dX12_bar_19 : decode cX12_bar 19 = .ok (.iload_n 1, 1) := by decide +kernel
theorem dX12_bar_20 : decode cX12_bar 20 = .ok (.invokevirtual 349, 3) := by decide +kernel
theorem dX12_bar_23 : decode cX12_bar 23 = .ok (.ifCond .ne 6, 3) := by decide +kernel
theorem dX12_bar_26 : decode cX12_bar 26 = .ok (.bipush (-3), 2) := by decide +kernel
theorem dX12_bar_28 : decode cX12_bar 28 = .ok (.ireturn, 1) := by decide +kernel
theorem dX12_bar_29 : decode cX12_bar 29 = .ok (.aload_n 0, 1) := by decide +kernel
theorem dX12_bar_30 : decode cX12_bar 30 = .ok (.aload_n 0, 1) := by decide +kernel
theorem dX12_bar_31 : decode cX12_bar 31 = .ok (.getfield 13, 3) := by decide +kernel
theorem dX12_bar_34 : decode cX12_bar 34 = .ok (.bipush 52, 2) := by decide +kernel
theorem dX12_bar_36 : decode cX12_bar 36 = .ok (.iaload, 1) := by decide +kernel
theorem dX12_bar_37 : decode cX12_bar 37 = .ok (.invokevirtual 340, 3) := by decide +kernel
theorem dX12_bar_40 : decode cX12_bar 40 = .ok (.aload_n 0, 1) := by decide +kernel
theorem dX12_bar_41 : decode cX12_bar 41 = .ok (.iload_n 1, 1) := by decide +kernel
theorem dX12_bar_42 : decode cX12_bar 42 = .ok (.invokevirtual 361, 3) := by decide +kernel
theorem dX12_bar_45 : decode cX12_bar 45 = .ok (.iload_n 1, 1) := by decide +kernel
theorem dX12_bar_46 : decode cX12_bar 46 = .ok (.invokestatic 281, 3) := by decide +kernel
theorem dX12_bar_49 : decode cX12_bar 49 = .ok (.iconst 2, 1) := by decide +kernel
theorem dX12_bar_50 : decode cX12_bar 50 = .ok (.aload_n 0, 1) := by decide +kernel
theorem dX12_bar_51 : decode cX12_bar 51 = .ok (.getfield 352, 3) := by decide +kernel
theorem dX12_bar_54 : decode cX12_bar 54 = .ok (.imul, 1) := by decide +kernel
theorem dX12_bar_55 : decode cX12_bar 55 = .ok (.isub, 1) := by decide +kernel
theorem dX12_bar_56 : decode cX12_bar 56 = .ok (.istore_n 3, 1) := by decide +kernel
theorem dX12_bar_57 : decode cX12_bar 57 = .ok (.iconst (-1), 1) := by decide +kernel
theorem dX12_bar_58 : decode cX12_bar 58 = .ok (.istore 4, 2) := by decide +kernel
theorem dX12_bar_60 : decode cX12_bar 60 = .ok (.iconst 0, 1) := by decide +kernel
theorem dX12_bar_61 : decode cX12_bar 61 = .ok (.istore 5, 2) := by decide +kernel
theorem dX12_bar_63 : decode cX12_bar 63 = .ok (.iload 5, 2) := by decide +kernel
theorem dX12_bar_65 : decode cX12_bar 65 = .ok (.iload_n 1, 1) := by decide +kernel
theorem dX12_bar_66 : decode cX12_bar 66 = .ok (.if_icmp .gt 65, 3) := by decide +kernel
theorem dX12_bar_69 : decode cX12_bar 69 = .ok (.iload 5, 2) := by decide +kernel
theorem dX12_bar_71 : decode cX12_bar 71 = .ok (.iload_n 1, 1) := by decide +kernel
theorem dX12_bar_72 : decode cX12_bar 72 = .ok (.iconst (-1), 1) := by decide +kernel
theorem dX12_bar_73 : decode cX12_bar 73 = .ok (.ixor, 1) := by decide +kernel
theorem dX12_bar_74 : decode cX12_bar 74 = .ok (.iand, 1) := by decide +kernel
theorem dX12_bar_75 : decode cX12_bar 75 = .ok (.ifCond .ne 50, 3) := by decide +kernel
theorem dX12_bar_78 : decode cX12_bar 78 = .ok (.iload 4, 2) := by decide +kernel
theorem dX12_bar_80 : decode cX12_bar 80 = .ok (.iconst (-1), 1) := by decide +kernel
theorem dX12_bar_81 : decode cX12_bar 81 = .ok (.if_icmp .eq 19, 3) := by decide +kernel
theorem dX12_bar_84 : decode cX12_bar 84 = .ok (.iload 5, 2) := by decide +kernel
theorem dX12_bar_86 : decode cX12_bar 86 = .ok (.invokestatic 281, 3) := by decide +kernel
theorem dX12_bar_89 : decode cX12_bar 89 = .ok (.iload 4, 2) := by decide +kernel
theorem dX12_bar_91 : decode cX12_bar 91 = .ok (.invokestatic 281, 3) := by decide +kernel
theorem dX12_bar_94 : decode cX12_bar 94 = .ok (.if_icmp .lt 6, 3) := by decide +kernel
theorem dX12_bar_97 : decode cX12_bar 97 = .ok (.goto 28, 3) := by decide +kernel
theorem dX12_bar_100 : decode cX12_bar 100 = .ok (.aload_n 0, 1) := by decide +kernel
theorem dX12_bar_101 : decode cX12_bar 101 = .ok (.iload_n 1, 1) := by decide +kernel
theorem dX12_bar_102 : decode cX12_bar 102 = .ok (.iload 5, 2) := by decide +kernel
theorem dX12_bar_104 : decode cX12_bar 104 = .ok (.iconst (-1), 1) := by decide +kernel
theorem dX12_bar_105 : decode cX12_bar 105 = .ok (.ixor, 1) := by decide +kernel
theorem dX12_bar_106 : decode cX12_bar 106 = .ok (.iand, 1) := by decide +kernel
theorem dX12_bar_107 : decode cX12_bar 107 = .ok (.iconst 1, 1) := by decide +kernel
theorem dX12_bar_108 : decode cX12_bar 108 = .ok (.invokevirtual 367, 3) := by decide +kernel
theorem dX12_bar_111 : decode cX12_bar 111 = .ok (.iload 5, 2) := by decide +kernel
theorem dX12_bar_113 : decode cX12_bar 113 = .ok (.invokestatic 281, 3) := by decide +kernel
theorem dX12_bar_116 : decode cX12_bar 116 = .ok (.isub, 1) := by decide +kernel
theorem dX12_bar_117 : decode cX12_bar 117 = .ok (.iload_n 3, 1) := by decide +kernel
theorem dX12_bar_118 : decode cX12_bar 118 = .ok (.if_icmp .ne 7, 3) := by decide +kernel
theorem dX12_bar_121 : decode cX12_bar 121 = .ok (.iload 5, 2) := by decide +kernel
theorem dX12_bar_123 : decode cX12_bar 123 = .ok (.istore 4, 2) := by decide +kernel
theorem dX12_bar_125 : decode cX12_bar 125 = .ok (.iinc 5 1, 3) := by decide +kernel
theorem dX12_bar_128 : decode cX12_bar 128 = .ok (.goto (-65), 3) := by decide +kernel
theorem dX12_bar_131 : decode cX12_bar 131 = .ok (.iload_n 2, 1) := by decide +kernel
theorem dX12_bar_132 : decode cX12_bar 132 = .ok (.ifCond .ne 11, 3) := by decide +kernel
theorem dX12_bar_135 : decode cX12_bar 135 = .ok (.iload 4, 2) := by decide +kernel
theorem dX12_bar_137 : decode cX12_bar 137 = .ok (.invokestatic 281, 3) := by decide +kernel
theorem dX12_bar_140 : decode cX12_bar 140 = .ok (.goto 5, 3) := by decide +kernel
theorem dX12_bar_143 : decode cX12_bar 143 = .ok (.iload 4, 2) := by decide +kernel
theorem dX12_bar_145 : decode cX12_bar 145 = .ok (.ireturn, 1) := by decide +kernel
theorem dX12_bestDay_0 : decode cX12_bestDay 0 = .ok (.aload_n 0, 1) := by decide +kernel
theorem dX12_bestDay_1 : decode cX12_bestDay 1 = .ok (.iconst 0, 1) := by decide +kernel
theorem dX12_bestDay_2 : decode cX12_bestDay 2 = .ok (.putfield 1, 3) := by decide +kernel
theorem dX12_bestDay_5 : decode cX12_bestDay 5 = .ok (.iconst 0, 1) := by decide +kernel
theorem dX12_bestDay_6 : decode cX12_bestDay 6 = .ok (.istore_n 1, 1) := by decide +kernel
theorem dX12_bestDay_7 : decode cX12_bestDay 7 = .ok (.iconst (-1), 1) := by decide +kernel
theorem dX12_bestDay_8 : decode cX12_bestDay 8 = .ok (.istore_n 2, 1) := by decide +kernel
theorem dX12_bestDay_9 : decode cX12_bestDay 9 = .ok (.iconst 0, 1) := by decide +kernel
theorem dX12_bestDay_10 : decode cX12_bestDay 10 = .ok (.istore_n 3, 1) := by decide +kernel
theorem dX12_bestDay_11 : decode cX12_bestDay 11 = .ok (.iload_n 3, 1) := by decide +kernel
theorem dX12_bestDay_12 : decode cX12_bestDay 12 = .ok (.bipush 99, 2) := by decide +kernel
theorem dX12_bestDay_14 : decode cX12_bestDay 14 = .ok (.if_icmp .gt 57, 3) := by decide +kernel
theorem dX12_bestDay_17 : decode cX12_bestDay 17 = .ok (.aload_n 0, 1) := by decide +kernel
theorem dX12_bestDay_18 : decode cX12_bestDay 18 = .ok (.aload_n 0, 1) := by decide +kernel
theorem dX12_bestDay_19 : decode cX12_bestDay 19 = .ok (.getfield 13, 3) := by decide +kernel
theorem dX12_bestDay_22 : decode cX12_bestDay 22 = .ok (.bipush 52, 2) := by decide +kernel
theorem dX12_bestDay_24 : decode cX12_bestDay 24 = .ok (.iaload, 1) := by decide +kernel
theorem dX12_bestDay_25 : decode cX12_bestDay 25 = .ok (.iload_n 3, 1) := by decide +kernel
theorem dX12_bestDay_26 : decode cX12_bestDay 26 = .ok (.iadd, 1) := by decide +kernel
theorem dX12_bestDay_27 : decode cX12_bestDay 27 = .ok (.invokevirtual 340, 3) := by decide +kernel
theorem dX12_bestDay_30 : decode cX12_bestDay 30 = .ok (.aload_n 0, 1) := by decide +kernel
theorem dX12_bestDay_31 : decode cX12_bestDay 31 = .ok (.aload_n 0, 1) := by decide +kernel
theorem dX12_bestDay_32 : decode cX12_bestDay 32 = .ok (.aload_n 0, 1) := by decide +kernel
theorem dX12_bestDay_33 : decode cX12_bestDay 33 = .ok (.getfield 13, 3) := by decide +kernel
theorem dX12_bestDay_36 : decode cX12_bestDay 36 = .ok (.bipush 52, 2) := by decide +kernel
theorem dX12_bestDay_38 : decode cX12_bestDay 38 = .ok (.iaload, 1) := by decide +kernel
theorem dX12_bestDay_39 : decode cX12_bestDay 39 = .ok (.iload_n 3, 1) := by decide +kernel
theorem dX12_bestDay_40 : decode cX12_bestDay 40 = .ok (.iadd, 1) := by decide +kernel
theorem dX12_bestDay_41 : decode cX12_bestDay 41 = .ok (.invokevirtual 220, 3) := by decide +kernel
theorem dX12_bestDay_44 : decode cX12_bestDay 44 = .ok (.invokevirtual 361, 3) := by decide +kernel
theorem dX12_bestDay_47 : decode cX12_bestDay 47 = .ok (.aload_n 0, 1) := by decide +kernel
theorem dX12_bestDay_48 : decode cX12_bestDay 48 = .ok (.getfield 352, 3) := by decide +kernel
theorem dX12_bestDay_51 : decode cX12_bestDay 51 = .ok (.iload_n 2, 1) := by decide +kernel
theorem dX12_bestDay_52 : decode cX12_bestDay 52 = .ok (.if_icmp .gt 6, 3) := by decide +kernel
theorem dX12_bestDay_55 : decode cX12_bestDay 55 = .ok (.goto 10, 3) := by decide +kernel
theorem dX12_bestDay_58 : decode cX12_bestDay 58 = .ok (.iload_n 3, 1) := by decide +kernel
theorem dX12_bestDay_59 : decode cX12_bestDay 59 = .ok (.istore_n 1, 1) := by decide +kernel
theorem dX12_bestDay_60 : decode cX12_bestDay 60 = .ok (.aload_n 0, 1) := by decide +kernel
theorem dX12_bestDay_61 : decode cX12_bestDay 61 = .ok (.getfield 352, 3) := by decide +kernel
theorem dX12_bestDay_64 : decode cX12_bestDay 64 = .ok (.istore_n 2, 1) := by decide +kernel
theorem dX12_bestDay_65 : decode cX12_bestDay 65 = .ok (.iinc 3 1, 3) := by decide +kernel
theorem dX12_bestDay_68 : decode cX12_bestDay 68 = .ok (.goto (-57), 3) := by decide +kernel
theorem dX12_bestDay_71 : decode cX12_bestDay 71 = .ok (.iload_n 1, 1) := by decide +kernel
theorem dX12_bestDay_72 : decode cX12_bestDay 72 = .ok (.ireturn, 1) := by decide +kernel
theorem dX12_bitsOf_0 : decode cX12_bitsOf 0 = .ok (.iconst 0, 1) := by decide +kernel
theorem dX12_bitsOf_1 : decode cX12_bitsOf 1 = .ok (.istore_n 1, 1) := by decide +kernel
theorem dX12_bitsOf_2 : decode cX12_bitsOf 2 = .ok (.iconst 0, 1) := by decide +kernel
theorem dX12_bitsOf_3 : decode cX12_bitsOf 3 = .ok (.istore_n 2, 1) := by decide +kernel
theorem dX12_bitsOf_4 : decode cX12_bitsOf 4 = .ok (.iload_n 2, 1) := by decide +kernel
theorem dX12_bitsOf_5 : decode cX12_bitsOf 5 = .ok (.bipush 10, 2) := by decide +kernel
theorem dX12_bitsOf_7 : decode cX12_bitsOf 7 = .ok (.if_icmp .ge 17, 3) := by decide +kernel
theorem dX12_bitsOf_10 : decode cX12_bitsOf 10 = .ok (.iload_n 1, 1) := by decide +kernel
theorem dX12_bitsOf_11 : decode cX12_bitsOf 11 = .ok (.iload_n 0, 1) := by decide +kernel
theorem dX12_bitsOf_12 : decode cX12_bitsOf 12 = .ok (.iload_n 2, 1) := by decide +kernel
theorem dX12_bitsOf_13 : decode cX12_bitsOf 13 = .ok (.ishr, 1) := by decide +kernel
theorem dX12_bitsOf_14 : decode cX12_bitsOf 14 = .ok (.iconst 1, 1) := by decide +kernel
theorem dX12_bitsOf_15 : decode cX12_bitsOf 15 = .ok (.iand, 1) := by decide +kernel
theorem dX12_bitsOf_16 : decode cX12_bitsOf 16 = .ok (.iadd, 1) := by decide +kernel
theorem dX12_bitsOf_17 : decode cX12_bitsOf 17 = .ok (.istore_n 1, 1) := by decide +kernel
theorem dX12_bitsOf_18 : decode cX12_bitsOf 18 = .ok (.iinc 2 1, 3) := by decide +kernel
theorem dX12_bitsOf_21 : decode cX12_bitsOf 21 = .ok (.goto (-17), 3) := by decide +kernel
theorem dX12_bitsOf_24 : decode cX12_bitsOf 24 = .ok (.iload_n 1, 1) := by decide +kernel
theorem dX12_bitsOf_25 : decode cX12_bitsOf 25 = .ok (.ireturn, 1) := by decide +kernel
theorem dX12_call_0 : decode cX12_call 0 = .ok (.aload_n 0, 1) := by decide +kernel
theorem dX12_call_1 : decode cX12_call 1 = .ok (.iconst 0, 1) := by decide +kernel
theorem dX12_call_2 : decode cX12_call 2 = .ok (.putfield 1, 3) := by decide +kernel
theorem dX12_call_5 : decode cX12_call 5 = .ok (.aload_n 0, 1) := by decide +kernel
theorem dX12_call_6 : decode cX12_call 6 = .ok (.iload_n 1, 1) := by decide +kernel
theorem dX12_call_7 : decode cX12_call 7 = .ok (.iconst 0, 1) := by decide +kernel
theorem dX12_call_8 : decode cX12_call 8 = .ok (.invokevirtual 284, 3) := by decide +kernel
theorem dX12_call_11 : decode cX12_call 11 = .ok (.ireturn, 1) := by decide +kernel
theorem dX12_chance_0 : decode cX12_chance 0 = .ok (.aload_n 0, 1) := by decide +kernel
theorem dX12_chance_1 : decode cX12_chance 1 = .ok (.iconst 0, 1) := by decide +kernel
theorem dX12_chance_2 : decode cX12_chance 2 = .ok (.putfield 1, 3) := by decide +kernel
theorem dX12_chance_5 : decode cX12_chance 5 = .ok (.iload_n 2, 1) := by decide +kernel
theorem dX12_chance_6 : decode cX12_chance 6 = .ok (.i2l, 1) := by decide +kernel
theorem dX12_chance_7 : decode cX12_chance 7 = .ok (.lconst 0, 1) := by decide +kernel
theorem dX12_chance_8 : decode cX12_chance 8 = .ok (.lconst 1, 1) := by decide +kernel
theorem dX12_chance_9 : decode cX12_chance 9 = .ok (.invokestatic 145, 3) := by decide +kernel
theorem dX12_chance_12 : decode cX12_chance 12 = .ok (.ifCond .ne 7, 3) := by decide +kernel
theorem dX12_chance_15 : decode cX12_chance 15 = .ok (.ldc2_w 418, 3) := by decide +kernel
theorem dX12_chance_18 : decode cX12_chance 18 = .ok (.lreturn, 1) := by decide +kernel
theorem dX12_chance_19 : decode cX12_chance 19 = .ok (.aload_n 0, 1) := by decide +kernel
theorem dX12_chance_20 : decode cX12_chance 20 = .ok (.iload_n 1, 1) := by decide +kernel
theorem dX12_chance_21 : decode cX12_chance 21 = .ok (.invokevirtual 349, 3) := by decide +kernel
theorem dX12_chance_24 : decode cX12_chance 24 = .ok (.ifCond .ne 7, 3) := by decide +kernel
theorem dX12_chance_27 : decode cX12_chance 27 = .ok (.ldc2_w 420, 3) := by decide +kernel
theorem dX12_chance_30 : decode cX12_chance 30 = .ok (.lreturn, 1) := by decide +kernel
theorem dX12_chance_31 : decode cX12_chance 31 = .ok (.aload_n 0, 1) := by decide +kernel
theorem dX12_chance_32 : decode cX12_chance 32 = .ok (.invokevirtual 346, 3) := by decide +kernel
theorem dX12_chance_35 : decode cX12_chance 35 = .ok (.aload_n 0, 1) := by decide +kernel
theorem dX12_chance_36 : decode cX12_chance 36 = .ok (.iload_n 1, 1) := by decide +kernel
theorem dX12_chance_37 : decode cX12_chance 37 = .ok (.invokevirtual 422, 3) := by decide +kernel
theorem dX12_chance_40 : decode cX12_chance 40 = .ok (.lstore_n 3, 1) := by decide +kernel
theorem dX12_chance_41 : decode cX12_chance 41 = .ok (.iload_n 1, 1) := by decide +kernel
theorem dX12_chance_42 : decode cX12_chance 42 = .ok (.invokestatic 281, 3) := by decide +kernel
theorem dX12_chance_45 : decode cX12_chance 45 = .ok (.invokestatic 426, 3) := by decide +kernel
theorem dX12_chance_48 : decode cX12_chance 48 = .ok (.lstore 5, 2) := by decide +kernel
theorem dX12_chance_50 : decode cX12_chance 50 = .ok (.lload_n 3, 1) := by decide +kernel
theorem dX12_chance_51 : decode cX12_chance 51 = .ok (.lload 5, 2) := by decide +kernel
theorem dX12_chance_53 : decode cX12_chance 53 = .ok (.invokestatic 414, 3) := by decide +kernel
theorem dX12_chance_56 : decode cX12_chance 56 = .ok (.lstore 7, 2) := by decide +kernel
theorem dX12_chance_58 : decode cX12_chance 58 = .ok (.iload_n 2, 1) := by decide +kernel
theorem dX12_chance_59 : decode cX12_chance 59 = .ok (.ifCond .ne 7, 3) := by decide +kernel
theorem dX12_chance_62 : decode cX12_chance 62 = .ok (.lload_n 3, 1) := by decide +kernel
theorem dX12_chance_63 : decode cX12_chance 63 = .ok (.goto 5, 3) := by decide +kernel
theorem dX12_chance_66 : decode cX12_chance 66 = .ok (.lload 5, 2) := by decide +kernel
theorem dX12_chance_68 : decode cX12_chance 68 = .ok (.lload 7, 2) := by decide +kernel
theorem dX12_chance_70 : decode cX12_chance 70 = .ok (.ldiv, 1) := by decide +kernel
theorem dX12_chance_71 : decode cX12_chance 71 = .ok (.lreturn, 1) := by decide +kernel
theorem dX12_chanceOf_0 : decode cX12_chanceOf 0 = .ok (.lconst 0, 1) := by decide +kernel
theorem dX12_chanceOf_1 : decode cX12_chanceOf 1 = .ok (.lstore_n 2, 1) := by decide +kernel
theorem dX12_chanceOf_2 : decode cX12_chanceOf 2 = .ok (.iconst 0, 1) := by decide +kernel
theorem dX12_chanceOf_3 : decode cX12_chanceOf 3 = .ok (.istore 4, 2) := by decide +kernel
theorem dX12_chanceOf_5 : decode cX12_chanceOf 5 = .ok (.iload 4, 2) := by decide +kernel
theorem dX12_chanceOf_7 : decode cX12_chanceOf 7 = .ok (.iload_n 1, 1) := by decide +kernel
theorem dX12_chanceOf_8 : decode cX12_chanceOf 8 = .ok (.if_icmp .gt 113, 3) := by decide +kernel
theorem dX12_chanceOf_11 : decode cX12_chanceOf 11 = .ok (.iload 4, 2) := by decide +kernel
theorem dX12_chanceOf_13 : decode cX12_chanceOf 13 = .ok (.iload_n 1, 1) := by decide +kernel
theorem dX12_chanceOf_14 : decode cX12_chanceOf 14 = .ok (.iconst (-1), 1) := by decide +kernel
theorem dX12_chanceOf_15 : decode cX12_chanceOf 15 = .ok (.ixor, 1) := by decide +kernel
theorem dX12_chanceOf_16 : decode cX12_chanceOf 16 = .ok (.iand, 1) := by decide +kernel
theorem dX12_chanceOf_17 : decode cX12_chanceOf 17 = .ok (.ifCond .ne 98, 3) := by decide +kernel
theorem dX12_chanceOf_20 : decode cX12_chanceOf 20 = .ok (.aload_n 0, 1) := by decide +kernel
theorem dX12_chanceOf_21 : decode cX12_chanceOf 21 = .ok (.getfield 45, 3) := by decide +kernel
theorem dX12_chanceOf_24 : decode cX12_chanceOf 24 = .ok (.iload 4, 2) := by decide +kernel
theorem dX12_chanceOf_26 : decode cX12_chanceOf 26 = .ok (.iaload, 1) := by decide +kernel
theorem dX12_chanceOf_27 : decode cX12_chanceOf 27 = .ok (.ifCond .ne 6, 3) := by decide +kernel
theorem dX12_chanceOf_30 : decode cX12_chanceOf 30 = .ok (.goto 85, 3) := by decide +kernel
theorem dX12_chanceOf_33 : decode cX12_chanceOf 33 = .ok (.lconst 1, 1) := by decide +kernel
theorem dX12_chanceOf_34 : decode cX12_chanceOf 34 = .ok (.lstore 5, 2) := by decide +kernel
theorem dX12_chanceOf_36 : decode cX12_chanceOf 36 = .ok (.iconst 0, 1) := by decide +kernel
theorem dX12_chanceOf_37 : decode cX12_chanceOf 37 = .ok (.istore 7, 2) := by decide +kernel
theorem dX12_chanceOf_39 : decode cX12_chanceOf 39 = .ok (.iload 7, 2) := by decide +kernel
theorem dX12_chanceOf_41 : decode cX12_chanceOf 41 = .ok (.aload_n 0, 1) := by decide +kernel
theorem dX12_chanceOf_42 : decode cX12_chanceOf 42 = .ok (.getfield 13, 3) := by decide +kernel
theorem dX12_chanceOf_45 : decode cX12_chanceOf 45 = .ok (.iconst 2, 1) := by decide +kernel
theorem dX12_chanceOf_46 : decode cX12_chanceOf 46 = .ok (.iaload, 1) := by decide +kernel
theorem dX12_chanceOf_47 : decode cX12_chanceOf 47 = .ok (.if_icmp .ge 63, 3) := by decide +kernel
theorem dX12_chanceOf_50 : decode cX12_chanceOf 50 = .ok (.iload_n 1, 1) := by decide +kernel
theorem dX12_chanceOf_51 : decode cX12_chanceOf 51 = .ok (.i2l, 1) := by decide +kernel
theorem dX12_chanceOf_52 : decode cX12_chanceOf 52 = .ok (.iload 7, 2) := by decide +kernel
theorem dX12_chanceOf_54 : decode cX12_chanceOf 54 = .ok (.invokestatic 251, 3) := by decide +kernel
theorem dX12_chanceOf_57 : decode cX12_chanceOf 57 = .ok (.ifCond .eq 47, 3) := by decide +kernel
theorem dX12_chanceOf_60 : decode cX12_chanceOf 60 = .ok (.lload 5, 2) := by decide +kernel
theorem dX12_chanceOf_62 : decode cX12_chanceOf 62 = .ok (.iload 4, 2) := by decide +kernel
theorem dX12_chanceOf_64 : decode cX12_chanceOf 64 = .ok (.i2l, 1) := by decide +kernel
theorem dX12_chanceOf_65 : decode cX12_chanceOf 65 = .ok (.iload 7, 2) := by decide +kernel
theorem dX12_chanceOf_67 : decode cX12_chanceOf 67 = .ok (.invokestatic 251, 3) := by decide +kernel
theorem dX12_chanceOf_70 : decode cX12_chanceOf 70 = .ok (.ifCond .eq 17, 3) := by decide +kernel
theorem dX12_chanceOf_73 : decode cX12_chanceOf 73 = .ok (.aload_n 0, 1) := by decide +kernel
theorem dX12_chanceOf_74 : decode cX12_chanceOf 74 = .ok (.getfield 13, 3) := by decide +kernel
theorem dX12_chanceOf_77 : decode cX12_chanceOf 77 = .ok (.bipush 32, 2) := by decide +kernel
theorem dX12_chanceOf_79 : decode cX12_chanceOf 79 = .ok (.iload 7, 2) := by decide +kernel
theorem dX12_chanceOf_81 : decode cX12_chanceOf 81 = .ok (.iadd, 1) := by decide +kernel
theorem dX12_chanceOf_82 : decode cX12_chanceOf 82 = .ok (.iaload, 1) := by decide +kernel
theorem dX12_chanceOf_83 : decode cX12_chanceOf 83 = .ok (.i2l, 1) := by decide +kernel
theorem dX12_chanceOf_84 : decode cX12_chanceOf 84 = .ok (.goto 17, 3) := by decide +kernel
theorem dX12_chanceOf_87 : decode cX12_chanceOf 87 = .ok (.bipush 10, 2) := by decide +kernel
theorem dX12_chanceOf_89 : decode cX12_chanceOf 89 = .ok (.aload_n 0, 1) := by decide +kernel
theorem dX12_chanceOf_90 : decode cX12_chanceOf 90 = .ok (.getfield 13, 3) := by decide +kernel
theorem dX12_chanceOf_93 : decode cX12_chanceOf 93 = .ok (.bipush 32, 2) := by decide +kernel
theorem dX12_chanceOf_95 : decode cX12_chanceOf 95 = .ok (.iload 7, 2) := by decide +kernel
theorem dX12_chanceOf_97 : decode cX12_chanceOf 97 = .ok (.iadd, 1) := by decide +kernel
theorem dX12_chanceOf_98 : decode cX12_chanceOf 98 = .ok (.iaload, 1) := by decide +kernel
theorem dX12_chanceOf_99 : decode cX12_chanceOf 99 = .ok (.isub, 1) := by decide +kernel
theorem dX12_chanceOf_100 : decode cX12_chanceOf 100 = .ok (.i2l, 1) := by decide +kernel
theorem dX12_chanceOf_101 : decode cX12_chanceOf 101 = .ok (.lmul, 1) := by decide +kernel
theorem dX12_chanceOf_102 : decode cX12_chanceOf 102 = .ok (.lstore 5, 2) := by decide +kernel
theorem dX12_chanceOf_104 : decode cX12_chanceOf 104 = .ok (.iinc 7 1, 3) := by decide +kernel
theorem dX12_chanceOf_107 : decode cX12_chanceOf 107 = .ok (.goto (-68), 3) := by decide +kernel
theorem dX12_chanceOf_110 : decode cX12_chanceOf 110 = .ok (.lload_n 2, 1) := by decide +kernel
theorem dX12_chanceOf_111 : decode cX12_chanceOf 111 = .ok (.lload 5, 2) := by decide +kernel
theorem dX12_chanceOf_113 : decode cX12_chanceOf 113 = .ok (.ladd, 1) := by decide +kernel
theorem dX12_chanceOf_114 : decode cX12_chanceOf 114 = .ok (.lstore_n 2, 1) := by decide +kernel
theorem dX12_chanceOf_115 : decode cX12_chanceOf 115 = .ok (.iinc 4 1, 3) := by decide +kernel
theorem dX12_chanceOf_118 : decode cX12_chanceOf 118 = .ok (.goto (-113), 3) := by decide +kernel
theorem dX12_chanceOf_121 : decode cX12_chanceOf 121 = .ok (.lload_n 2, 1) := by decide +kernel
theorem dX12_chanceOf_122 : decode cX12_chanceOf 122 = .ok (.lreturn, 1) := by decide +kernel
theorem dX12_common_0 : decode cX12_common 0 = .ok (.lload_n 2, 1) := by decide +kernel
theorem dX12_common_1 : decode cX12_common 1 = .ok (.lconst 0, 1) := by decide +kernel
theorem dX12_common_2 : decode cX12_common 2 = .ok (.lcmp, 1) := by decide +kernel
theorem dX12_common_3 : decode cX12_common 3 = .ok (.ifCond .ne 7, 3) := by decide +kernel
theorem dX12_common_6 : decode cX12_common 6 = .ok (.lload_n 0, 1) := by decide +kernel
theorem dX12_common_7 : decode cX12_common 7 = .ok (.goto 10, 3) := by decide +kernel
theorem dX12_common_10 : decode cX12_common 10 = .ok (.lload_n 2, 1) := by decide +kernel
theorem dX12_common_11 : decode cX12_common 11 = .ok (.lload_n 0, 1) := by decide +kernel
theorem dX12_common_12 : decode cX12_common 12 = .ok (.lload_n 2, 1) := by decide +kernel
theorem dX12_common_13 : decode cX12_common 13 = .ok (.lrem, 1) := by decide +kernel
theorem dX12_common_14 : decode cX12_common 14 = .ok (.invokestatic 414, 3) := by decide +kernel
theorem dX12_common_17 : decode cX12_common 17 = .ok (.lreturn, 1) := by decide +kernel
theorem dX12_count_0 : decode cX12_count 0 = .ok (.aload_n 0, 1) := by decide +kernel
theorem dX12_count_1 : decode cX12_count 1 = .ok (.iconst 0, 1) := by decide +kernel
theorem dX12_count_2 : decode cX12_count 2 = .ok (.putfield 1, 3) := by decide +kernel
theorem dX12_count_5 : decode cX12_count 5 = .ok (.iload_n 1, 1) := by decide +kernel
theorem dX12_count_6 : decode cX12_count 6 = .ok (.tableswitch 110 0 8 #[50, 57, 64, 69, 77, 85, 90, 98, 103], 50) := by decide +kernel
theorem dX12_count_56 : decode cX12_count 56 = .ok (.aload_n 0, 1) := by decide +kernel
theorem dX12_count_57 : decode cX12_count 57 = .ok (.getfield 13, 3) := by decide +kernel
theorem dX12_count_60 : decode cX12_count 60 = .ok (.iconst 1, 1) := by decide +kernel
theorem dX12_count_61 : decode cX12_count 61 = .ok (.iaload, 1) := by decide +kernel
theorem dX12_count_62 : decode cX12_count 62 = .ok (.ireturn, 1) := by decide +kernel
theorem dX12_count_63 : decode cX12_count 63 = .ok (.aload_n 0, 1) := by decide +kernel
theorem dX12_count_64 : decode cX12_count 64 = .ok (.getfield 13, 3) := by decide +kernel
theorem dX12_count_67 : decode cX12_count 67 = .ok (.iconst 2, 1) := by decide +kernel
theorem dX12_count_68 : decode cX12_count 68 = .ok (.iaload, 1) := by decide +kernel
theorem dX12_count_69 : decode cX12_count 69 = .ok (.ireturn, 1) := by decide +kernel
theorem dX12_count_70 : decode cX12_count 70 = .ok (.aload_n 0, 1) := by decide +kernel
theorem dX12_count_71 : decode cX12_count 71 = .ok (.invokevirtual 255, 3) := by decide +kernel
theorem dX12_count_74 : decode cX12_count 74 = .ok (.ireturn, 1) := by decide +kernel
theorem dX12_count_75 : decode cX12_count 75 = .ok (.aload_n 0, 1) := by decide +kernel
theorem dX12_count_76 : decode cX12_count 76 = .ok (.getfield 13, 3) := by decide +kernel
theorem dX12_count_79 : decode cX12_count 79 = .ok (.bipush 53, 2) := by decide +kernel
theorem dX12_count_81 : decode cX12_count 81 = .ok (.iaload, 1) := by decide +kernel
theorem dX12_count_82 : decode cX12_count 82 = .ok (.ireturn, 1) := by decide +kernel
theorem dX12_count_83 : decode cX12_count 83 = .ok (.aload_n 0, 1) := by decide +kernel
theorem dX12_count_84 : decode cX12_count 84 = .ok (.getfield 13, 3) := by decide +kernel
theorem dX12_count_87 : decode cX12_count 87 = .ok (.bipush 52, 2) := by decide +kernel
theorem dX12_count_89 : decode cX12_count 89 = .ok (.iaload, 1) := by decide +kernel
theorem dX12_count_90 : decode cX12_count 90 = .ok (.ireturn, 1) := by decide +kernel
theorem dX12_count_91 : decode cX12_count 91 = .ok (.aload_n 0, 1) := by decide +kernel
theorem dX12_count_92 : decode cX12_count 92 = .ok (.invokevirtual 435, 3) := by decide +kernel
theorem dX12_count_95 : decode cX12_count 95 = .ok (.ireturn, 1) := by decide +kernel
theorem dX12_count_96 : decode cX12_count 96 = .ok (.aload_n 0, 1) := by decide +kernel
theorem dX12_count_97 : decode cX12_count 97 = .ok (.getfield 13, 3) := by decide +kernel
theorem dX12_count_100 : decode cX12_count 100 = .ok (.bipush 84, 2) := by decide +kernel
theorem dX12_count_102 : decode cX12_count 102 = .ok (.iaload, 1) := by decide +kernel
theorem dX12_count_103 : decode cX12_count 103 = .ok (.ireturn, 1) := by decide +kernel
theorem dX12_count_104 : decode cX12_count 104 = .ok (.aload_n 0, 1) := by decide +kernel
theorem dX12_count_105 : decode cX12_count 105 = .ok (.getfield 83, 3) := by decide +kernel
theorem dX12_count_108 : decode cX12_count 108 = .ok (.ireturn, 1) := by decide +kernel
theorem dX12_count_109 : decode cX12_count 109 = .ok (.aload_n 0, 1) := by decide +kernel
theorem dX12_count_110 : decode cX12_count 110 = .ok (.getfield 13, 3) := by decide +kernel
theorem dX12_count_113 : decode cX12_count 113 = .ok (.iconst 0, 1) := by decide +kernel
theorem dX12_count_114 : decode cX12_count 114 = .ok (.iaload, 1) := by decide +kernel
theorem dX12_count_115 : decode cX12_count 115 = .ok (.ireturn, 1) := by decide +kernel
theorem dX12_count_116 : decode cX12_count 116 = .ok (.iconst (-1), 1) := by decide +kernel
theorem dX12_count_117 : decode cX12_count 117 = .ok (.ireturn, 1) := by decide +kernel
theorem dX12_cover_0 : decode cX12_cover 0 = .ok (.aload_n 0, 1) := by decide +kernel
theorem dX12_cover_1 : decode cX12_cover 1 = .ok (.iconst 0, 1) := by decide +kernel
theorem dX12_cover_2 : decode cX12_cover 2 = .ok (.putfield 1, 3) := by decide +kernel
theorem dX12_cover_5 : decode cX12_cover 5 = .ok (.iload_n 2, 1) := by decide +kernel
theorem dX12_cover_6 : decode cX12_cover 6 = .ok (.i2l, 1) := by decide +kernel
theorem dX12_cover_7 : decode cX12_cover 7 = .ok (.lconst 0, 1) := by decide +kernel
theorem dX12_cover_8 : decode cX12_cover 8 = .ok (.lconst 1, 1) := by decide +kernel
theorem dX12_cover_9 : decode cX12_cover 9 = .ok (.invokestatic 145, 3) := by decide +kernel
theorem dX12_cover_12 : decode cX12_cover 12 = .ok (.ifCond .ne 6, 3) := by decide +kernel
theorem dX12_cover_15 : decode cX12_cover 15 = .ok (.bipush (-2), 2) := by decide +kernel
theorem dX12_cover_17 : decode cX12_cover 17 = .ok (.ireturn, 1) := by decide +kernel
theorem dX12_cover_18 : decode cX12_cover 18 = .ok (.aload_n 0, 1) := by decide +kernel
theorem dX12_cover_19 : decode cX12_cover 19 = .ok (.iload_n 1, 1) := by decide +kernel
theorem dX12_cover_20 : decode cX12_cover 20 = .ok (.invokevirtual 349, 3) := by decide +kernel
theorem dX12_cover_23 : decode cX12_cover 23 = .ok (.ifCond .ne 6, 3) := by decide +kernel
theorem dX12_cover_26 : decode cX12_cover 26 = .ok (.bipush (-3), 2) := by decide +kernel
theorem dX12_cover_28 : decode cX12_cover 28 = .ok (.ireturn, 1) := by decide +kernel
theorem dX12_cover_29 : decode cX12_cover 29 = .ok (.aload_n 0, 1) := by decide +kernel
theorem dX12_cover_30 : decode cX12_cover 30 = .ok (.aload_n 0, 1) := by decide +kernel
theorem dX12_cover_31 : decode cX12_cover 31 = .ok (.getfield 13, 3) := by decide +kernel
theorem dX12_cover_34 : decode cX12_cover 34 = .ok (.bipush 52, 2) := by decide +kernel
theorem dX12_cover_36 : decode cX12_cover 36 = .ok (.iaload, 1) := by decide +kernel
theorem dX12_cover_37 : decode cX12_cover 37 = .ok (.invokevirtual 340, 3) := by decide +kernel
theorem dX12_cover_40 : decode cX12_cover 40 = .ok (.aload_n 0, 1) := by decide +kernel
theorem dX12_cover_41 : decode cX12_cover 41 = .ok (.invokevirtual 255, 3) := by decide +kernel
theorem dX12_cover_44 : decode cX12_cover 44 = .ok (.iload_n 1, 1) := by decide +kernel
theorem dX12_cover_45 : decode cX12_cover 45 = .ok (.iconst (-1), 1) := by decide +kernel
theorem dX12_cover_46 : decode cX12_cover 46 = .ok (.ixor, 1) := by decide +kernel
theorem dX12_cover_47 : decode cX12_cover 47 = .ok (.iand, 1) := by decide +kernel
theorem dX12_cover_48 : decode cX12_cover 48 = .ok (.istore_n 3, 1) := by decide +kernel
theorem dX12_cover_49 : decode cX12_cover 49 = .ok (.iconst (-1), 1) := by decide +kernel
theorem dX12_cover_50 : decode cX12_cover 50 = .ok (.istore 4, 2) := by decide +kernel
theorem dX12_cover_52 : decode cX12_cover 52 = .ok (.iconst 0, 1) := by decide +kernel
theorem dX12_cover_53 : decode cX12_cover 53 = .ok (.istore 5, 2) := by decide +kernel
theorem dX12_cover_55 : decode cX12_cover 55 = .ok (.iload 5, 2) := by decide +kernel
theorem dX12_cover_57 : decode cX12_cover 57 = .ok (.iload_n 3, 1) := by decide +kernel
theorem dX12_cover_58 : decode cX12_cover 58 = .ok (.if_icmp .gt 51, 3) := by decide +kernel
theorem dX12_cover_61 : decode cX12_cover 61 = .ok (.iload 5, 2) := by decide +kernel
theorem dX12_cover_63 : decode cX12_cover 63 = .ok (.iload_n 3, 1) := by decide +kernel
theorem dX12_cover_64 : decode cX12_cover 64 = .ok (.iconst (-1), 1) := by decide +kernel
theorem dX12_cover_65 : decode cX12_cover 65 = .ok (.ixor, 1) := by decide +kernel
theorem dX12_cover_66 : decode cX12_cover 66 = .ok (.iand, 1) := by decide +kernel
theorem dX12_cover_67 : decode cX12_cover 67 = .ok (.ifCond .ne 36, 3) := by decide +kernel
theorem dX12_cover_70 : decode cX12_cover 70 = .ok (.iload 4, 2) := by decide +kernel
theorem dX12_cover_72 : decode cX12_cover 72 = .ok (.iconst (-1), 1) := by decide +kernel
theorem dX12_cover_73 : decode cX12_cover 73 = .ok (.if_icmp .eq 16, 3) := by decide +kernel
theorem dX12_cover_76 : decode cX12_cover 76 = .ok (.iload 5, 2) := by decide +kernel
theorem dX12_cover_78 : decode cX12_cover 78 = .ok (.invokestatic 281, 3) := by decide +kernel
theorem dX12_cover_81 : decode cX12_cover 81 = .ok (.iload 4, 2) := by decide +kernel
theorem dX12_cover_83 : decode cX12_cover 83 = .ok (.invokestatic 281, 3) := by decide +kernel
theorem dX12_cover_86 : decode cX12_cover 86 = .ok (.if_icmp .ge 17, 3) := by decide +kernel
theorem dX12_cover_89 : decode cX12_cover 89 = .ok (.aload_n 0, 1) := by decide +kernel
theorem dX12_cover_90 : decode cX12_cover 90 = .ok (.iload_n 1, 1) := by decide +kernel
theorem dX12_cover_91 : decode cX12_cover 91 = .ok (.iload 5, 2) := by decide +kernel
theorem dX12_cover_93 : decode cX12_cover 93 = .ok (.invokevirtual 371, 3) := by decide +kernel
theorem dX12_cover_96 : decode cX12_cover 96 = .ok (.ifCond .eq 7, 3) := by decide +kernel
theorem dX12_cover_99 : decode cX12_cover 99 = .ok (.iload 5, 2) := by decide +kernel
theorem dX12_cover_101 : decode cX12_cover 101 = .ok (.istore 4, 2) := by decide +kernel
theorem dX12_cover_103 : decode cX12_cover 103 = .ok (.iinc 5 1, 3) := by decide +kernel
theorem dX12_cover_106 : decode cX12_cover 106 = .ok (.goto (-51), 3) := by decide +kernel
theorem dX12_cover_109 : decode cX12_cover 109 = .ok (.iload 4, 2) := by decide +kernel
theorem dX12_cover_111 : decode cX12_cover 111 = .ok (.iconst (-1), 1) := by decide +kernel
theorem dX12_cover_112 : decode cX12_cover 112 = .ok (.if_icmp .eq 8, 3) := by decide +kernel
theorem dX12_cover_115 : decode cX12_cover 115 = .ok (.iload_n 2, 1) := by decide +kernel
theorem dX12_cover_116 : decode cX12_cover 116 = .ok (.iconst 1, 1) := by decide +kernel
theorem dX12_cover_117 : decode cX12_cover 117 = .ok (.if_icmp .ne 8, 3) := by decide +kernel
theorem dX12_cover_120 : decode cX12_cover 120 = .ok (.iload 4, 2) := by decide +kernel
theorem dX12_cover_122 : decode cX12_cover 122 = .ok (.goto 8, 3) := by decide +kernel
theorem dX12_cover_125 : decode cX12_cover 125 = .ok (.iload 4, 2) := by decide +kernel
theorem dX12_cover_127 : decode cX12_cover 127 = .ok (.invokestatic 281, 3) := by decide +kernel
theorem dX12_cover_130 : decode cX12_cover 130 = .ok (.ireturn, 1) := by decide +kernel
theorem dX12_days_0 : decode cX12_days 0 = .ok (.aload_n 0, 1) := by decide +kernel
theorem dX12_days_1 : decode cX12_days 1 = .ok (.iconst 0, 1) := by decide +kernel
theorem dX12_days_2 : decode cX12_days 2 = .ok (.putfield 1, 3) := by decide +kernel
theorem dX12_days_5 : decode cX12_days 5 = .ok (.iload_n 1, 1) := by decide +kernel
theorem dX12_days_6 : decode cX12_days 6 = .ok (.i2l, 1) := by decide +kernel
theorem dX12_days_7 : decode cX12_days 7 = .ok (.lconst 1, 1) := by decide +kernel
theorem dX12_days_8 : decode cX12_days 8 = .ok (.ldc2_w 287, 3) := by decide +kernel
theorem dX12_days_11 : decode cX12_days 11 = .ok (.invokestatic 145, 3) := by decide +kernel
theorem dX12_days_14 : decode cX12_days 14 = .ok (.ifCond .ne 6, 3) := by decide +kernel
theorem dX12_days_17 : decode cX12_days 17 = .ok (.bipush (-3), 2) := by decide +kernel
theorem dX12_days_19 : decode cX12_days 19 = .ok (.ireturn, 1) := by decide +kernel
theorem dX12_days_20 : decode cX12_days 20 = .ok (.aload_n 0, 1) := by decide +kernel
theorem dX12_days_21 : decode cX12_days 21 = .ok (.invokevirtual 267, 3) := by decide +kernel
theorem dX12_days_24 : decode cX12_days 24 = .ok (.aload_n 0, 1) := by decide +kernel
theorem dX12_days_25 : decode cX12_days 25 = .ok (.getfield 13, 3) := by decide +kernel
theorem dX12_days_28 : decode cX12_days 28 = .ok (.bipush 52, 2) := by decide +kernel
theorem dX12_days_30 : decode cX12_days 30 = .ok (.dup2, 1) := by decide +kernel
theorem dX12_days_31 : decode cX12_days 31 = .ok (.iaload, 1) := by decide +kernel
theorem dX12_days_32 : decode cX12_days 32 = .ok (.iload_n 1, 1) := by decide +kernel
theorem dX12_days_33 : decode cX12_days 33 = .ok (.iadd, 1) := by decide +kernel
theorem dX12_days_34 : decode cX12_days 34 = .ok (.iastore, 1) := by decide +kernel
theorem dX12_days_35 : decode cX12_days 35 = .ok (.aload_n 0, 1) := by decide +kernel
theorem dX12_days_36 : decode cX12_days 36 = .ok (.invokevirtual 274, 3) := by decide +kernel
theorem dX12_days_39 : decode cX12_days 39 = .ok (.aload_n 0, 1) := by decide +kernel
theorem dX12_days_40 : decode cX12_days 40 = .ok (.invokevirtual 255, 3) := by decide +kernel
theorem dX12_days_43 : decode cX12_days 43 = .ok (.ireturn, 1) := by decide +kernel
theorem dX12_does_0 : decode cX12_does 0 = .ok (.iload_n 1, 1) := by decide +kernel
theorem dX12_does_1 : decode cX12_does 1 = .ok (.iconst (-1), 1) := by decide +kernel
theorem dX12_does_2 : decode cX12_does 2 = .ok (.if_icmp .ne 17, 3) := by decide +kernel
theorem dX12_does_5 : decode cX12_does 5 = .ok (.aload_n 0, 1) := by decide +kernel
theorem dX12_does_6 : decode cX12_does 6 = .ok (.getfield 13, 3) := by decide +kernel
theorem dX12_does_9 : decode cX12_does 9 = .ok (.bipush 52, 2) := by decide +kernel
theorem dX12_does_11 : decode cX12_does 11 = .ok (.dup2, 1) := by decide +kernel
theorem dX12_does_12 : decode cX12_does 12 = .ok (.iaload, 1) := by decide +kernel
theorem dX12_does_13 : decode cX12_does 13 = .ok (.iconst 1, 1) := by decide +kernel
theorem dX12_does_14 : decode cX12_does 14 = .ok (.iadd, 1) := by decide +kernel
theorem dX12_does_15 : decode cX12_does 15 = .ok (.iastore, 1) := by decide +kernel
theorem dX12_does_16 : decode cX12_does 16 = .ok (.goto 40, 3) := by decide +kernel
theorem dX12_does_19 : decode cX12_does 19 = .ok (.iload_n 1, 1) := by decide +kernel
theorem dX12_does_20 : decode cX12_does 20 = .ok (.bipush 100, 2) := by decide +kernel
theorem dX12_does_22 : decode cX12_does 22 = .ok (.if_icmp .ge 18, 3) := by decide +kernel
theorem dX12_does_25 : decode cX12_does 25 = .ok (.aload_n 0, 1) := by decide +kernel
theorem dX12_does_26 : decode cX12_does 26 = .ok (.iload_n 1, 1) := by decide +kernel
theorem dX12_does_27 : decode cX12_does 27 = .ok (.bipush 10, 2) := by decide +kernel
theorem dX12_does_29 : decode cX12_does 29 = .ok (.idiv, 1) := by decide +kernel
theorem dX12_does_30 : decode cX12_does 30 = .ok (.iload_n 1, 1) := by decide +kernel
theorem dX12_does_31 : decode cX12_does 31 = .ok (.bipush 10, 2) := by decide +kernel
theorem dX12_does_33 : decode cX12_does 33 = .ok (.irem, 1) := by decide +kernel
theorem dX12_does_34 : decode cX12_does 34 = .ok (.invokevirtual 270, 3) := by decide +kernel
theorem dX12_does_37 : decode cX12_does 37 = .ok (.goto 19, 3) := by decide +kernel
theorem dX12_does_40 : decode cX12_does 40 = .ok (.aload_n 0, 1) := by decide +kernel
theorem dX12_does_41 : decode cX12_does 41 = .ok (.getfield 13, 3) := by decide +kernel
theorem dX12_does_44 : decode cX12_does 44 = .ok (.bipush 53, 2) := by decide +kernel
theorem dX12_does_46 : decode cX12_does 46 = .ok (.dup2, 1) := by decide +kernel
theorem dX12_does_47 : decode cX12_does 47 = .ok (.iaload, 1) := by decide +kernel
theorem dX12_does_48 : decode cX12_does 48 = .ok (.iconst 1, 1) := by decide +kernel
theorem dX12_does_49 : decode cX12_does 49 = .ok (.iload_n 1, 1) := by decide +kernel
theorem dX12_does_50 : decode cX12_does 50 = .ok (.bipush 100, 2) := by decide +kernel
theorem dX12_does_52 : decode cX12_does 52 = .ok (.irem, 1) := by decide +kernel
theorem dX12_does_53 : decode cX12_does 53 = .ok (.ishl, 1) := by decide +kernel
theorem dX12_does_54 : decode cX12_does 54 = .ok (.ixor, 1) := by decide +kernel
theorem dX12_does_55 : decode cX12_does 55 = .ok (.iastore, 1) := by decide +kernel
theorem dX12_does_56 : decode cX12_does 56 = .ok (.return_, 1) := by decide +kernel
theorem dX12_draw_0 : decode cX12_draw 0 = .ok (.aload_n 0, 1) := by decide +kernel
theorem dX12_draw_1 : decode cX12_draw 1 = .ok (.ldc_w 325, 3) := by decide +kernel
theorem dX12_draw_4 : decode cX12_draw 4 = .ok (.aload_n 0, 1) := by decide +kernel
theorem dX12_draw_5 : decode cX12_draw 5 = .ok (.getfield 326, 3) := by decide +kernel
theorem dX12_draw_8 : decode cX12_draw 8 = .ok (.imul, 1) := by decide +kernel
theorem dX12_draw_9 : decode cX12_draw 9 = .ok (.sipush 12345, 3) := by decide +kernel
theorem dX12_draw_12 : decode cX12_draw 12 = .ok (.iadd, 1) := by decide +kernel
theorem dX12_draw_13 : decode cX12_draw 13 = .ok (.putfield 326, 3) := by decide +kernel
theorem dX12_draw_16 : decode cX12_draw 16 = .ok (.aload_n 0, 1) := by decide +kernel
theorem dX12_draw_17 : decode cX12_draw 17 = .ok (.getfield 326, 3) := by decide +kernel
theorem dX12_draw_20 : decode cX12_draw 20 = .ok (.bipush 16, 2) := by decide +kernel
theorem dX12_draw_22 : decode cX12_draw 22 = .ok (.iushr, 1) := by decide +kernel
theorem dX12_draw_23 : decode cX12_draw 23 = .ok (.iload_n 1, 1) := by decide +kernel
theorem dX12_draw_24 : decode cX12_draw 24 = .ok (.irem, 1) := by decide +kernel
theorem dX12_draw_25 : decode cX12_draw 25 = .ok (.ireturn, 1) := by decide +kernel
theorem dX12_drawn_0 : decode cX12_drawn 0 = .ok (.aload_n 0, 1) := by decide +kernel
theorem dX12_drawn_1 : decode cX12_drawn 1 = .ok (.iconst 4, 1) := by decide +kernel
theorem dX12_drawn_2 : decode cX12_drawn 2 = .ok (.invokevirtual 329, 3) := by decide +kernel
theorem dX12_drawn_5 : decode cX12_drawn 5 = .ok (.istore_n 1, 1) := by decide +kernel
theorem dX12_drawn_6 : decode cX12_drawn 6 = .ok (.iload_n 1, 1) := by decide +kernel
theorem dX12_drawn_7 : decode cX12_drawn 7 = .ok (.ifCond .ne 5, 3) := by decide +kernel
theorem dX12_drawn_10 : decode cX12_drawn 10 = .ok (.iconst (-1), 1) := by decide +kernel
theorem dX12_drawn_11 : decode cX12_drawn 11 = .ok (.ireturn, 1) := by decide +kernel
theorem dX12_drawn_12 : decode cX12_drawn 12 = .ok (.aload_n 0, 1) := by decide +kernel
theorem dX12_drawn_13 : decode cX12_drawn 13 = .ok (.bipush 10, 2) := by decide +kernel
theorem dX12_drawn_15 : decode cX12_drawn 15 = .ok (.invokevirtual 329, 3) := by decide +kernel
theorem dX12_drawn_18 : decode cX12_drawn 18 = .ok (.istore_n 2, 1) := by decide +kernel
theorem dX12_drawn_19 : decode cX12_drawn 19 = .ok (.iload_n 1, 1) := by decide +kernel
theorem dX12_drawn_20 : decode cX12_drawn 20 = .ok (.iconst 1, 1) := by decide +kernel
theorem dX12_drawn_21 : decode cX12_drawn 21 = .ok (.if_icmp .ne 17, 3) := by decide +kernel
theorem dX12_drawn_24 : decode cX12_drawn 24 = .ok (.bipush 10, 2) := by decide +kernel
theorem dX12_drawn_26 : decode cX12_drawn 26 = .ok (.iload_n 2, 1) := by decide +kernel
theorem dX12_drawn_27 : decode cX12_drawn 27 = .ok (.imul, 1) := by decide +kernel
theorem dX12_drawn_28 : decode cX12_drawn 28 = .ok (.aload_n 0, 1) := by decide +kernel
theorem dX12_drawn_29 : decode cX12_drawn 29 = .ok (.bipush 10, 2) := by decide +kernel
theorem dX12_drawn_31 : decode cX12_drawn 31 = .ok (.invokevirtual 329, 3) := by decide +kernel
theorem dX12_drawn_34 : decode cX12_drawn 34 = .ok (.iadd, 1) := by decide +kernel
theorem dX12_drawn_35 : decode cX12_drawn 35 = .ok (.goto 20, 3) := by decide +kernel
theorem dX12_drawn_38 : decode cX12_drawn 38 = .ok (.iload_n 1, 1) := by decide +kernel
theorem dX12_drawn_39 : decode cX12_drawn 39 = .ok (.iconst 2, 1) := by decide +kernel
theorem dX12_drawn_40 : decode cX12_drawn 40 = .ok (.if_icmp .ne 10, 3) := by decide +kernel
theorem dX12_drawn_43 : decode cX12_drawn 43 = .ok (.bipush 100, 2) := by decide +kernel
theorem dX12_drawn_45 : decode cX12_drawn 45 = .ok (.iload_n 2, 1) := by decide +kernel
theorem dX12_drawn_46 : decode cX12_drawn 46 = .ok (.iadd, 1) := by decide +kernel
theorem dX12_drawn_47 : decode cX12_drawn 47 = .ok (.goto 8, 3) := by decide +kernel
theorem dX12_drawn_50 : decode cX12_drawn 50 = .ok (.sipush 200, 3) := by decide +kernel
theorem dX12_drawn_53 : decode cX12_drawn 53 = .ok (.iload_n 2, 1) := by decide +kernel
theorem dX12_drawn_54 : decode cX12_drawn 54 = .ok (.iadd, 1) := by decide +kernel
theorem dX12_drawn_55 : decode cX12_drawn 55 = .ok (.ireturn, 1) := by decide +kernel
theorem dX12_easiest_0 : decode cX12_easiest 0 = .ok (.aload_n 0, 1) := by decide +kernel
theorem dX12_easiest_1 : decode cX12_easiest 1 = .ok (.iconst 0, 1) := by decide +kernel
theorem dX12_easiest_2 : decode cX12_easiest 2 = .ok (.putfield 1, 3) := by decide +kernel
theorem dX12_easiest_5 : decode cX12_easiest 5 = .ok (.aload_n 0, 1) := by decide +kernel
theorem dX12_easiest_6 : decode cX12_easiest 6 = .ok (.invokevirtual 346, 3) := by decide +kernel
theorem dX12_easiest_9 : decode cX12_easiest 9 = .ok (.iconst (-1), 1) := by decide +kernel
theorem dX12_easiest_10 : decode cX12_easiest 10 = .ok (.istore_n 1, 1) := by decide +kernel
theorem dX12_easiest_11 : decode cX12_easiest 11 = .ok (.bipush 11, 2) := by decide +kernel
theorem dX12_easiest_13 : decode cX12_easiest 13 = .ok (.istore_n 2, 1) := by decide +kernel
theorem dX12_easiest_14 : decode cX12_easiest 14 = .ok (.iconst 0, 1) := by decide +kernel
theorem dX12_easiest_15 : decode cX12_easiest 15 = .ok (.istore_n 3, 1) := by decide +kernel
theorem dX12_easiest_16 : decode cX12_easiest 16 = .ok (.iload_n 3, 1) := by decide +kernel
theorem dX12_easiest_17 : decode cX12_easiest 17 = .ok (.bipush 10, 2) := by decide +kernel
theorem dX12_easiest_19 : decode cX12_easiest 19 = .ok (.if_icmp .ge 42, 3) := by decide +kernel
theorem dX12_easiest_22 : decode cX12_easiest 22 = .ok (.aload_n 0, 1) := by decide +kernel
theorem dX12_easiest_23 : decode cX12_easiest 23 = .ok (.iload_n 3, 1) := by decide +kernel
theorem dX12_easiest_24 : decode cX12_easiest 24 = .ok (.invokevirtual 399, 3) := by decide +kernel
theorem dX12_easiest_27 : decode cX12_easiest 27 = .ok (.istore 4, 2) := by decide +kernel
theorem dX12_easiest_29 : decode cX12_easiest 29 = .ok (.iload 4, 2) := by decide +kernel
theorem dX12_easiest_31 : decode cX12_easiest 31 = .ok (.iconst (-1), 1) := by decide +kernel
theorem dX12_easiest_32 : decode cX12_easiest 32 = .ok (.if_icmp .eq 23, 3) := by decide +kernel
theorem dX12_easiest_35 : decode cX12_easiest 35 = .ok (.iload 4, 2) := by decide +kernel
theorem dX12_easiest_37 : decode cX12_easiest 37 = .ok (.invokestatic 281, 3) := by decide +kernel
theorem dX12_easiest_40 : decode cX12_easiest 40 = .ok (.iload_n 2, 1) := by decide +kernel
theorem dX12_easiest_41 : decode cX12_easiest 41 = .ok (.if_icmp .lt 6, 3) := by decide +kernel
theorem dX12_easiest_44 : decode cX12_easiest 44 = .ok (.goto 11, 3) := by decide +kernel
theorem dX12_easiest_47 : decode cX12_easiest 47 = .ok (.iload_n 3, 1) := by decide +kernel
theorem dX12_easiest_48 : decode cX12_easiest 48 = .ok (.istore_n 1, 1) := by decide +kernel
theorem dX12_easiest_49 : decode cX12_easiest 49 = .ok (.iload 4, 2) := by decide +kernel
theorem dX12_easiest_51 : decode cX12_easiest 51 = .ok (.invokestatic 281, 3) := by decide +kernel
theorem dX12_easiest_54 : decode cX12_easiest 54 = .ok (.istore_n 2, 1) := by decide +kernel
theorem dX12_easiest_55 : decode cX12_easiest 55 = .ok (.iinc 3 1, 3) := by decide +kernel
theorem dX12_easiest_58 : decode cX12_easiest 58 = .ok (.goto (-42), 3) := by decide +kernel
theorem dX12_easiest_61 : decode cX12_easiest 61 = .ok (.iload_n 1, 1) := by decide +kernel
theorem dX12_easiest_62 : decode cX12_easiest 62 = .ok (.ireturn, 1) := by decide +kernel
theorem dX12_eats_0 : decode cX12_eats 0 = .ok (.aload_n 0, 1) := by decide +kernel
theorem dX12_eats_1 : decode cX12_eats 1 = .ok (.iload_n 1, 1) := by decide +kernel
theorem dX12_eats_2 : decode cX12_eats 2 = .ok (.invokevirtual 135, 3) := by decide +kernel
theorem dX12_eats_5 : decode cX12_eats 5 = .ok (.ifCond .ne 5, 3) := by decide +kernel
theorem dX12_eats_8 : decode cX12_eats 8 = .ok (.iconst 0, 1) := by decide +kernel
theorem dX12_eats_9 : decode cX12_eats 9 = .ok (.ireturn, 1) := by decide +kernel
theorem dX12_eats_10 : decode cX12_eats 10 = .ok (.aload_n 0, 1) := by decide +kernel
theorem dX12_eats_11 : decode cX12_eats 11 = .ok (.invokevirtual 138, 3) := by decide +kernel
theorem dX12_eats_14 : decode cX12_eats 14 = .ok (.iconst 1, 1) := by decide +kernel
theorem dX12_eats_15 : decode cX12_eats 15 = .ok (.ireturn, 1) := by decide +kernel
theorem dX12_ends_0 : decode cX12_ends 0 = .ok (.aload_n 0, 1) := by decide +kernel
theorem dX12_ends_1 : decode cX12_ends 1 = .ok (.bipush 30, 2) := by decide +kernel
theorem dX12_ends_3 : decode cX12_ends 3 = .ok (.invokevirtual 172, 3) := by decide +kernel
theorem dX12_ends_6 : decode cX12_ends 6 = .ok (.ifCond .ne 8, 3) := by decide +kernel
theorem dX12_ends_9 : decode cX12_ends 9 = .ok (.aload_n 0, 1) := by decide +kernel
theorem dX12_ends_10 : decode cX12_ends 10 = .ok (.iconst 2, 1) := by decide +kernel
theorem dX12_ends_11 : decode cX12_ends 11 = .ok (.invokevirtual 141, 3) := by decide +kernel
theorem dX12_ends_14 : decode cX12_ends 14 = .ok (.aload_n 0, 1) := by decide +kernel
theorem dX12_ends_15 : decode cX12_ends 15 = .ok (.getfield 24, 3) := by decide +kernel
theorem dX12_ends_18 : decode cX12_ends 18 = .ok (.iconst 0, 1) := by decide +kernel
theorem dX12_ends_19 : decode cX12_ends 19 = .ok (.dup2, 1) := by decide +kernel
theorem dX12_ends_20 : decode cX12_ends 20 = .ok (.iaload, 1) := by decide +kernel
theorem dX12_ends_21 : decode cX12_ends 21 = .ok (.iconst 1, 1) := by decide +kernel
theorem dX12_ends_22 : decode cX12_ends 22 = .ok (.iadd, 1) := by decide +kernel
theorem dX12_ends_23 : decode cX12_ends 23 = .ok (.iastore, 1) := by decide +kernel
theorem dX12_ends_24 : decode cX12_ends 24 = .ok (.return_, 1) := by decide +kernel
theorem dX12_everybody_0 : decode cX12_everybody 0 = .ok (.iconst 1, 1) := by decide +kernel
theorem dX12_everybody_1 : decode cX12_everybody 1 = .ok (.aload_n 0, 1) := by decide +kernel
theorem dX12_everybody_2 : decode cX12_everybody 2 = .ok (.getfield 13, 3) := by decide +kernel
theorem dX12_everybody_5 : decode cX12_everybody 5 = .ok (.iconst 2, 1) := by decide +kernel
theorem dX12_everybody_6 : decode cX12_everybody 6 = .ok (.iaload, 1) := by decide +kernel
theorem dX12_everybody_7 : decode cX12_everybody 7 = .ok (.ishl, 1) := by decide +kernel
theorem dX12_everybody_8 : decode cX12_everybody 8 = .ok (.iconst 1, 1) := by decide +kernel
theorem dX12_everybody_9 : decode cX12_everybody 9 = .ok (.isub, 1) := by decide +kernel
theorem dX12_everybody_10 : decode cX12_everybody 10 = .ok (.ireturn, 1) := by decide +kernel
theorem dX12_fails_0 : decode cX12_fails 0 = .ok (.aload_n 0, 1) := by decide +kernel
theorem dX12_fails_1 : decode cX12_fails 1 = .ok (.getfield 129, 3) := by decide +kernel
theorem dX12_fails_4 : decode cX12_fails 4 = .ok (.ifCond .eq 4, 3) := by decide +kernel
theorem dX12_fails_7 : decode cX12_fails 7 = .ok (.return_, 1) := by decide +kernel
theorem dX12_fails_8 : decode cX12_fails 8 = .ok (.aload_n 0, 1) := by decide +kernel
theorem dX12_fails_9 : decode cX12_fails 9 = .ok (.aload_n 0, 1) := by decide +kernel
theorem dX12_fails_10 : decode cX12_fails 10 = .ok (.getfield 111, 3) := by decide +kernel
theorem dX12_fails_13 : decode cX12_fails 13 = .ok (.bipush 27, 2) := by decide +kernel
theorem dX12_fails_15 : decode cX12_fails 15 = .ok (.if_icmp .ne 7, 3) := by decide +kernel
theorem dX12_fails_18 : decode cX12_fails 18 = .ok (.iconst 1, 1) := by decide +kernel
theorem dX12_fails_19 : decode cX12_fails 19 = .ok (.goto 4, 3) := by decide +kernel
theorem dX12_fails_22 : decode cX12_fails 22 = .ok (.iload_n 1, 1) := by decide +kernel
theorem dX12_fails_23 : decode cX12_fails 23 = .ok (.putfield 129, 3) := by decide +kernel
theorem dX12_fails_26 : decode cX12_fails 26 = .ok (.aload_n 0, 1) := by decide +kernel
theorem dX12_fails_27 : decode cX12_fails 27 = .ok (.aload_n 0, 1) := by decide +kernel
theorem dX12_fails_28 : decode cX12_fails 28 = .ok (.getfield 101, 3) := by decide +kernel
theorem dX12_fails_31 : decode cX12_fails 31 = .ok (.putfield 132, 3) := by decide +kernel
theorem dX12_fails_34 : decode cX12_fails 34 = .ok (.return_, 1) := by decide +kernel
theorem dX12_fault_0 : decode cX12_fault 0 = .ok (.aload_n 0, 1) := by decide +kernel
theorem dX12_fault_1 : decode cX12_fault 1 = .ok (.iconst 0, 1) := by decide +kernel
theorem dX12_fault_2 : decode cX12_fault 2 = .ok (.putfield 1, 3) := by decide +kernel
theorem dX12_fault_5 : decode cX12_fault 5 = .ok (.iload_n 1, 1) := by decide +kernel
theorem dX12_fault_6 : decode cX12_fault 6 = .ok (.ifCond .ne 10, 3) := by decide +kernel
theorem dX12_fault_9 : decode cX12_fault 9 = .ok (.aload_n 0, 1) := by decide +kernel
theorem dX12_fault_10 : decode cX12_fault 10 = .ok (.getfield 214, 3) := by decide +kernel
theorem dX12_fault_13 : decode cX12_fault 13 = .ok (.goto 16, 3) := by decide +kernel
theorem dX12_fault_16 : decode cX12_fault 16 = .ok (.iload_n 1, 1) := by decide +kernel
theorem dX12_fault_17 : decode cX12_fault 17 = .ok (.iconst 1, 1) := by decide +kernel
theorem dX12_fault_18 : decode cX12_fault 18 = .ok (.if_icmp .ne 10, 3) := by decide +kernel
theorem dX12_fault_21 : decode cX12_fault 21 = .ok (.aload_n 0, 1) := by decide +kernel
theorem dX12_fault_22 : decode cX12_fault 22 = .ok (.getfield 27, 3) := by decide +kernel
theorem dX12_fault_25 : decode cX12_fault 25 = .ok (.goto 4, 3) := by decide +kernel
theorem dX12_fault_28 : decode cX12_fault 28 = .ok (.iconst (-1), 1) := by decide +kernel
theorem dX12_fault_29 : decode cX12_fault 29 = .ok (.ireturn, 1) := by decide +kernel
theorem dX12_feed_0 : decode cX12_feed 0 = .ok (.aload_n 0, 1) := by decide +kernel
theorem dX12_feed_1 : decode cX12_feed 1 = .ok (.iconst 0, 1) := by decide +kernel
theorem dX12_feed_2 : decode cX12_feed 2 = .ok (.putfield 1, 3) := by decide +kernel
theorem dX12_feed_5 : decode cX12_feed 5 = .ok (.aload_n 0, 1) := by decide +kernel
theorem dX12_feed_6 : decode cX12_feed 6 = .ok (.getfield 83, 3) := by decide +kernel
theorem dX12_feed_9 : decode cX12_feed 9 = .ok (.bipush 20, 2) := by decide +kernel
theorem dX12_feed_11 : decode cX12_feed 11 = .ok (.iadd, 1) := by decide +kernel
theorem dX12_feed_12 : decode cX12_feed 12 = .ok (.sipush 900, 3) := by decide +kernel
theorem dX12_feed_15 : decode cX12_feed 15 = .ok (.if_icmp .le 6, 3) := by decide +kernel
theorem dX12_feed_18 : decode cX12_feed 18 = .ok (.bipush (-5), 2) := by decide +kernel
theorem dX12_feed_20 : decode cX12_feed 20 = .ok (.ireturn, 1) := by decide +kernel
theorem dX12_feed_21 : decode cX12_feed 21 = .ok (.iconst 0, 1) := by decide +kernel
theorem dX12_feed_22 : decode cX12_feed 22 = .ok (.istore 6, 2) := by decide +kernel
theorem dX12_feed_24 : decode cX12_feed 24 = .ok (.iload 6, 2) := by decide +kernel
theorem dX12_feed_26 : decode cX12_feed 26 = .ok (.bipush 20, 2) := by decide +kernel
theorem dX12_feed_28 : decode cX12_feed 28 = .ok (.if_icmp .ge 93, 3) := by decide +kernel
theorem dX12_feed_31 : decode cX12_feed 31 = .ok (.iload 6, 2) := by decide +kernel
theorem dX12_feed_33 : decode cX12_feed 33 = .ok (.iconst 4, 1) := by decide +kernel
theorem dX12_feed_34 : decode cX12_feed 34 = .ok (.if_icmp .ge 7, 3) := by decide +kernel
theorem dX12_feed_37 : decode cX12_feed 37 = .ok (.iload_n 1, 1) := by decide +kernel
theorem dX12_feed_38 : decode cX12_feed 38 = .ok (.goto 39, 3) := by decide +kernel
theorem dX12_feed_41 : decode cX12_feed 41 = .ok (.iload 6, 2) := by decide +kernel
theorem dX12_feed_43 : decode cX12_feed 43 = .ok (.bipush 8, 2) := by decide +kernel
theorem dX12_feed_45 : decode cX12_feed 45 = .ok (.if_icmp .ge 7, 3) := by decide +kernel
theorem dX12_feed_48 : decode cX12_feed 48 = .ok (.iload_n 2, 1) := by decide +kernel
theorem dX12_feed_49 : decode cX12_feed 49 = .ok (.goto 28, 3) := by decide +kernel
theorem dX12_feed_52 : decode cX12_feed 52 = .ok (.iload 6, 2) := by decide +kernel
theorem dX12_feed_54 : decode cX12_feed 54 = .ok (.bipush 12, 2) := by decide +kernel
theorem dX12_feed_56 : decode cX12_feed 56 = .ok (.if_icmp .ge 7, 3) := by decide +kernel
theorem dX12_feed_59 : decode cX12_feed 59 = .ok (.iload_n 3, 1) := by decide +kernel
theorem dX12_feed_60 : decode cX12_feed 60 = .ok (.goto 17, 3) := by decide +kernel
theorem dX12_feed_63 : decode cX12_feed 63 = .ok (.iload 6, 2) := by decide +kernel
theorem dX12_feed_65 : decode cX12_feed 65 = .ok (.bipush 16, 2) := by decide +kernel
theorem dX12_feed_67 : decode cX12_feed 67 = .ok (.if_icmp .ge 8, 3) := by decide +kernel
theorem dX12_feed_70 : decode cX12_feed 70 = .ok (.iload 4, 2) := by decide +kernel
theorem dX12_feed_72 : decode cX12_feed 72 = .ok (.goto 5, 3) := by decide +kernel
theorem dX12_feed_75 : decode cX12_feed 75 = .ok (.iload 5, 2) := by decide +kernel
theorem dX12_feed_77 : decode cX12_feed 77 = .ok (.istore 7, 2) := by decide +kernel
theorem dX12_feed_79 : decode cX12_feed 79 = .ok (.aload_n 0, 1) := by decide +kernel
theorem dX12_feed_80 : decode cX12_feed 80 = .ok (.getfield 21, 3) := by decide +kernel
theorem dX12_feed_83 : decode cX12_feed 83 = .ok (.aload_n 0, 1) := by decide +kernel
theorem dX12_feed_84 : decode cX12_feed 84 = .ok (.getfield 83, 3) := by decide +kernel
theorem dX12_feed_87 : decode cX12_feed 87 = .ok (.iload 7, 2) := by decide +kernel
theorem dX12_feed_89 : decode cX12_feed 89 = .ok (.bipush 24, 2) := by decide +kernel
theorem dX12_feed_91 : decode cX12_feed 91 = .ok (.bipush 8, 2) := by decide +kernel
theorem dX12_feed_93 : decode cX12_feed 93 = .ok (.iload 6, 2) := by decide +kernel
theorem dX12_feed_95 : decode cX12_feed 95 = .ok (.iconst 4, 1) := by decide +kernel
theorem dX12_feed_96 : decode cX12_feed 96 = .ok (.irem, 1) := by decide +kernel
theorem dX12_feed_97 : decode cX12_feed 97 = .ok (.imul, 1) := by decide +kernel
theorem dX12_feed_98 : decode cX12_feed 98 = .ok (.isub, 1) := by decide +kernel
theorem dX12_feed_99 : decode cX12_feed 99 = .ok (.ishr, 1) := by decide +kernel
theorem dX12_feed_100 : decode cX12_feed 100 = .ok (.sipush 255, 3) := by decide +kernel
theorem dX12_feed_103 : decode cX12_feed 103 = .ok (.iand, 1) := by decide +kernel
theorem dX12_feed_104 : decode cX12_feed 104 = .ok (.iastore, 1) := by decide +kernel
theorem dX12_feed_105 : decode cX12_feed 105 = .ok (.aload_n 0, 1) := by decide +kernel
theorem dX12_feed_106 : decode cX12_feed 106 = .ok (.dup, 1) := by decide +kernel
theorem dX12_feed_107 : decode cX12_feed 107 = .ok (.getfield 83, 3) := by decide +kernel
theorem dX12_feed_110 : decode cX12_feed 110 = .ok (.iconst 1, 1) := by decide +kernel
theorem dX12_feed_111 : decode cX12_feed 111 = .ok (.iadd, 1) := by decide +kernel
theorem dX12_feed_112 : decode cX12_feed 112 = .ok (.putfield 83, 3) := by decide +kernel
theorem dX12_feed_115 : decode cX12_feed 115 = .ok (.iinc 6 1, 3) := by decide +kernel
theorem dX12_feed_118 : decode cX12_feed 118 = .ok (.goto (-94), 3) := by decide +kernel
theorem dX12_feed_121 : decode cX12_feed 121 = .ok (.aload_n 0, 1) := by decide +kernel
theorem dX12_feed_122 : decode cX12_feed 122 = .ok (.getfield 83, 3) := by decide +kernel
theorem dX12_feed_125 : decode cX12_feed 125 = .ok (.ireturn, 1) := by decide +kernel
theorem dX12_firstDay_0 : decode cX12_firstDay 0 = .ok (.aload_n 0, 1) := by decide +kernel
theorem dX12_firstDay_1 : decode cX12_firstDay 1 = .ok (.iconst 0, 1) := by decide +kernel
theorem dX12_firstDay_2 : decode cX12_firstDay 2 = .ok (.putfield 1, 3) := by decide +kernel
theorem dX12_firstDay_5 : decode cX12_firstDay 5 = .ok (.iconst 0, 1) := by decide +kernel
theorem dX12_firstDay_6 : decode cX12_firstDay 6 = .ok (.istore_n 1, 1) := by decide +kernel
theorem dX12_firstDay_7 : decode cX12_firstDay 7 = .ok (.iload_n 1, 1) := by decide +kernel
theorem dX12_firstDay_8 : decode cX12_firstDay 8 = .ok (.bipush 99, 2) := by decide +kernel
theorem dX12_firstDay_10 : decode cX12_firstDay 10 = .ok (.if_icmp .gt 62, 3) := by decide +kernel
theorem dX12_firstDay_13 : decode cX12_firstDay 13 = .ok (.aload_n 0, 1) := by decide +kernel
theorem dX12_firstDay_14 : decode cX12_firstDay 14 = .ok (.aload_n 0, 1) := by decide +kernel
theorem dX12_firstDay_15 : decode cX12_firstDay 15 = .ok (.getfield 13, 3) := by decide +kernel
theorem dX12_firstDay_18 : decode cX12_firstDay 18 = .ok (.bipush 52, 2) := by decide +kernel
theorem dX12_firstDay_20 : decode cX12_firstDay 20 = .ok (.iaload, 1) := by decide +kernel
theorem dX12_firstDay_21 : decode cX12_firstDay 21 = .ok (.iload_n 1, 1) := by decide +kernel
theorem dX12_firstDay_22 : decode cX12_firstDay 22 = .ok (.iadd, 1) := by decide +kernel
theorem dX12_firstDay_23 : decode cX12_firstDay 23 = .ok (.invokevirtual 220, 3) := by decide +kernel
theorem dX12_firstDay_26 : decode cX12_firstDay 26 = .ok (.istore_n 2, 1) := by decide +kernel
theorem dX12_firstDay_27 : decode cX12_firstDay 27 = .ok (.iload_n 2, 1) := by decide +kernel
theorem dX12_firstDay_28 : decode cX12_firstDay 28 = .ok (.invokestatic 281, 3) := by decide +kernel
theorem dX12_firstDay_31 : decode cX12_firstDay 31 = .ok (.iconst 2, 1) := by decide +kernel
theorem dX12_firstDay_32 : decode cX12_firstDay 32 = .ok (.if_icmp .ge 6, 3) := by decide +kernel
theorem dX12_firstDay_35 : decode cX12_firstDay 35 = .ok (.goto 31, 3) := by decide +kernel
theorem dX12_firstDay_38 : decode cX12_firstDay 38 = .ok (.aload_n 0, 1) := by decide +kernel
theorem dX12_firstDay_39 : decode cX12_firstDay 39 = .ok (.aload_n 0, 1) := by decide +kernel
theorem dX12_firstDay_40 : decode cX12_firstDay 40 = .ok (.getfield 13, 3) := by decide +kernel
theorem dX12_firstDay_43 : decode cX12_firstDay 43 = .ok (.bipush 52, 2) := by decide +kernel
theorem dX12_firstDay_45 : decode cX12_firstDay 45 = .ok (.iaload, 1) := by decide +kernel
theorem dX12_firstDay_46 : decode cX12_firstDay 46 = .ok (.iload_n 1, 1) := by decide +kernel
theorem dX12_firstDay_47 : decode cX12_firstDay 47 = .ok (.iadd, 1) := by decide +kernel
theorem dX12_firstDay_48 : decode cX12_firstDay 48 = .ok (.invokevirtual 340, 3) := by decide +kernel
theorem dX12_firstDay_51 : decode cX12_firstDay 51 = .ok (.aload_n 0, 1) := by decide +kernel
theorem dX12_firstDay_52 : decode cX12_firstDay 52 = .ok (.invokevirtual 343, 3) := by decide +kernel
theorem dX12_firstDay_55 : decode cX12_firstDay 55 = .ok (.aload_n 0, 1) := by decide +kernel
theorem dX12_firstDay_56 : decode cX12_firstDay 56 = .ok (.getfield 45, 3) := by decide +kernel
theorem dX12_firstDay_59 : decode cX12_firstDay 59 = .ok (.iload_n 2, 1) := by decide +kernel
theorem dX12_firstDay_60 : decode cX12_firstDay 60 = .ok (.iaload, 1) := by decide +kernel
theorem dX12_firstDay_61 : decode cX12_firstDay 61 = .ok (.ifCond .le 5, 3) := by decide +kernel
theorem dX12_firstDay_64 : decode cX12_firstDay 64 = .ok (.iload_n 1, 1) := by decide +kernel
theorem dX12_firstDay_65 : decode cX12_firstDay 65 = .ok (.ireturn, 1) := by decide +kernel
theorem dX12_firstDay_66 : decode cX12_firstDay 66 = .ok (.iinc 1 1, 3) := by decide +kernel
theorem dX12_firstDay_69 : decode cX12_firstDay 69 = .ok (.goto (-62), 3) := by decide +kernel
theorem dX12_firstDay_72 : decode cX12_firstDay 72 = .ok (.iconst (-1), 1) := by decide +kernel
theorem dX12_firstDay_73 : decode cX12_firstDay 73 = .ok (.ireturn, 1) := by decide +kernel
theorem dX12_goes_0 : decode cX12_goes 0 = .ok (.aload_n 0, 1) := by decide +kernel
theorem dX12_goes_1 : decode cX12_goes 1 = .ok (.iload_n 1, 1) := by decide +kernel
theorem dX12_goes_2 : decode cX12_goes 2 = .ok (.i2l, 1) := by decide +kernel
theorem dX12_goes_3 : decode cX12_goes 3 = .ok (.iload_n 2, 1) := by decide +kernel
theorem dX12_goes_4 : decode cX12_goes 4 = .ok (.invokevirtual 277, 3) := by decide +kernel
theorem dX12_goes_7 : decode cX12_goes 7 = .ok (.istore_n 3, 1) := by decide +kernel
theorem dX12_goes_8 : decode cX12_goes 8 = .ok (.iload_n 3, 1) := by decide +kernel
theorem dX12_goes_9 : decode cX12_goes 9 = .ok (.ifCond .eq 8, 3) := by decide +kernel
theorem dX12_goes_12 : decode cX12_goes 12 = .ok (.bipush (-10), 2) := by decide +kernel
theorem dX12_goes_14 : decode cX12_goes 14 = .ok (.iload_n 3, 1) := by decide +kernel
theorem dX12_goes_15 : decode cX12_goes 15 = .ok (.isub, 1) := by decide +kernel
theorem dX12_goes_16 : decode cX12_goes 16 = .ok (.ireturn, 1) := by decide +kernel
theorem dX12_goes_17 : decode cX12_goes 17 = .ok (.aload_n 0, 1) := by decide +kernel
theorem dX12_goes_18 : decode cX12_goes 18 = .ok (.invokevirtual 267, 3) := by decide +kernel
theorem dX12_goes_21 : decode cX12_goes 21 = .ok (.aload_n 0, 1) := by decide +kernel
theorem dX12_goes_22 : decode cX12_goes 22 = .ok (.getfield 13, 3) := by decide +kernel
theorem dX12_goes_25 : decode cX12_goes 25 = .ok (.bipush 53, 2) := by decide +kernel
theorem dX12_goes_27 : decode cX12_goes 27 = .ok (.dup2, 1) := by decide +kernel
theorem dX12_goes_28 : decode cX12_goes 28 = .ok (.iaload, 1) := by decide +kernel
theorem dX12_goes_29 : decode cX12_goes 29 = .ok (.iconst 1, 1) := by decide +kernel
theorem dX12_goes_30 : decode cX12_goes 30 = .ok (.iload_n 1, 1) := by decide +kernel
theorem dX12_goes_31 : decode cX12_goes 31 = .ok (.ishl, 1) := by decide +kernel
theorem dX12_goes_32 : decode cX12_goes 32 = .ok (.ixor, 1) := by decide +kernel
theorem dX12_goes_33 : decode cX12_goes 33 = .ok (.iastore, 1) := by decide +kernel
theorem dX12_goes_34 : decode cX12_goes 34 = .ok (.aload_n 0, 1) := by decide +kernel
theorem dX12_goes_35 : decode cX12_goes 35 = .ok (.invokevirtual 274, 3) := by decide +kernel
theorem dX12_goes_38 : decode cX12_goes 38 = .ok (.aload_n 0, 1) := by decide +kernel
theorem dX12_goes_39 : decode cX12_goes 39 = .ok (.getfield 13, 3) := by decide +kernel
theorem dX12_goes_42 : decode cX12_goes 42 = .ok (.bipush 53, 2) := by decide +kernel
theorem dX12_goes_44 : decode cX12_goes 44 = .ok (.iaload, 1) := by decide +kernel
theorem dX12_goes_45 : decode cX12_goes 45 = .ok (.invokestatic 281, 3) := by decide +kernel
theorem dX12_goes_48 : decode cX12_goes 48 = .ok (.ireturn, 1) := by decide +kernel
theorem dX12_goesPairs_0 : decode cX12_goesPairs 0 = .ok (.iload_n 1, 1) := by decide +kernel
theorem dX12_goesPairs_1 : decode cX12_goesPairs 1 = .ok (.ifCond .ne 69, 3) := by decide +kernel
theorem dX12_goesPairs_4 : decode cX12_goesPairs 4 = .ok (.iload_n 2, 1) := by decide +kernel
theorem dX12_goesPairs_5 : decode cX12_goesPairs 5 = .ok (.aload_n 0, 1) := by decide +kernel
theorem dX12_goesPairs_6 : decode cX12_goesPairs 6 = .ok (.getfield 352, 3) := by decide +kernel
theorem dX12_goesPairs_9 : decode cX12_goesPairs 9 = .ok (.if_icmp .lt 19, 3) := by decide +kernel
theorem dX12_goesPairs_12 : decode cX12_goesPairs 12 = .ok (.iload_n 2, 1) := by decide +kernel
theorem dX12_goesPairs_13 : decode cX12_goesPairs 13 = .ok (.aload_n 0, 1) := by decide +kernel
theorem dX12_goesPairs_14 : decode cX12_goesPairs 14 = .ok (.getfield 352, 3) := by decide +kernel
theorem dX12_goesPairs_17 : decode cX12_goesPairs 17 = .ok (.if_icmp .ne 12, 3) := by decide +kernel
theorem dX12_goesPairs_20 : decode cX12_goesPairs 20 = .ok (.iload_n 3, 1) := by decide +kernel
theorem dX12_goesPairs_21 : decode cX12_goesPairs 21 = .ok (.aload_n 0, 1) := by decide +kernel
theorem dX12_goesPairs_22 : decode cX12_goesPairs 22 = .ok (.getfield 355, 3) := by decide +kernel
theorem dX12_goesPairs_25 : decode cX12_goesPairs 25 = .ok (.if_icmp .gt 4, 3) := by decide +kernel
theorem dX12_goesPairs_28 : decode cX12_goesPairs 28 = .ok (.return_, 1) := by decide +kernel
theorem dX12_goesPairs_29 : decode cX12_goesPairs 29 = .ok (.aload_n 0, 1) := by decide +kernel
theorem dX12_goesPairs_30 : decode cX12_goesPairs 30 = .ok (.iload_n 2, 1) := by decide +kernel
theorem dX12_goesPairs_31 : decode cX12_goesPairs 31 = .ok (.putfield 352, 3) := by decide +kernel
theorem dX12_goesPairs_34 : decode cX12_goesPairs 34 = .ok (.aload_n 0, 1) := by decide +kernel
theorem dX12_goesPairs_35 : decode cX12_goesPairs 35 = .ok (.iload_n 3, 1) := by decide +kernel
theorem dX12_goesPairs_36 : decode cX12_goesPairs 36 = .ok (.putfield 355, 3) := by decide +kernel
theorem dX12_goesPairs_39 : decode cX12_goesPairs 39 = .ok (.iconst 0, 1) := by decide +kernel
theorem dX12_goesPairs_40 : decode cX12_goesPairs 40 = .ok (.istore 4, 2) := by decide +kernel
theorem dX12_goesPairs_42 : decode cX12_goesPairs 42 = .ok (.iload 4, 2) := by decide +kernel
theorem dX12_goesPairs_44 : decode cX12_goesPairs 44 = .ok (.bipush 10, 2) := by decide +kernel
theorem dX12_goesPairs_46 : decode cX12_goesPairs 46 = .ok (.if_icmp .ge 23, 3) := by decide +kernel
theorem dX12_goesPairs_49 : decode cX12_goesPairs 49 = .ok (.aload_n 0, 1) := by decide +kernel
theorem dX12_goesPairs_50 : decode cX12_goesPairs 50 = .ok (.getfield 51, 3) := by decide +kernel
theorem dX12_goesPairs_53 : decode cX12_goesPairs 53 = .ok (.iload 4, 2) := by decide +kernel
theorem dX12_goesPairs_55 : decode cX12_goesPairs 55 = .ok (.aload_n 0, 1) := by decide +kernel
theorem dX12_goesPairs_56 : decode cX12_goesPairs 56 = .ok (.getfield 48, 3) := by decide +kernel
theorem dX12_goesPairs_59 : decode cX12_goesPairs 59 = .ok (.iload 4, 2) := by decide +kernel
theorem dX12_goesPairs_61 : decode cX12_goesPairs 61 = .ok (.iaload, 1) := by decide +kernel
theorem dX12_goesPairs_62 : decode cX12_goesPairs 62 = .ok (.iastore, 1) := by decide +kernel
theorem dX12_goesPairs_63 : decode cX12_goesPairs 63 = .ok (.iinc 4 1, 3) := by decide +kernel
theorem dX12_goesPairs_66 : decode cX12_goesPairs 66 = .ok (.goto (-24), 3) := by decide +kernel
theorem dX12_goesPairs_69 : decode cX12_goesPairs 69 = .ok (.return_, 1) := by decide +kernel
theorem dX12_goesPairs_70 : decode cX12_goesPairs 70 = .ok (.iload_n 1, 1) := by decide +kernel
theorem dX12_goesPairs_71 : decode cX12_goesPairs 71 = .ok (.invokestatic 337, 3) := by decide +kernel
theorem dX12_goesPairs_74 : decode cX12_goesPairs 74 = .ok (.istore 4, 2) := by decide +kernel
theorem dX12_goesPairs_76 : decode cX12_goesPairs 76 = .ok (.iload_n 1, 1) := by decide +kernel
theorem dX12_goesPairs_77 : decode cX12_goesPairs 77 = .ok (.iconst 1, 1) := by decide +kernel
theorem dX12_goesPairs_78 : decode cX12_goesPairs 78 = .ok (.iload 4, 2) := by decide +kernel
theorem dX12_goesPairs_80 : decode cX12_goesPairs 80 = .ok (.ishl, 1) := by decide +kernel
theorem dX12_goesPairs_81 : decode cX12_goesPairs 81 = .ok (.iconst (-1), 1) := by decide +kernel
theorem dX12_goesPairs_82 : decode cX12_goesPairs 82 = .ok (.ixor, 1) := by decide +kernel
theorem dX12_goesPairs_83 : decode cX12_goesPairs 83 = .ok (.iand, 1) := by decide +kernel
theorem dX12_goesPairs_84 : decode cX12_goesPairs 84 = .ok (.istore 5, 2) := by decide +kernel
theorem dX12_goesPairs_86 : decode cX12_goesPairs 86 = .ok (.iload 4, 2) := by decide +kernel
theorem dX12_goesPairs_88 : decode cX12_goesPairs 88 = .ok (.iconst 1, 1) := by decide +kernel
theorem dX12_goesPairs_89 : decode cX12_goesPairs 89 = .ok (.iadd, 1) := by decide +kernel
theorem dX12_goesPairs_90 : decode cX12_goesPairs 90 = .ok (.istore 6, 2) := by decide +kernel
theorem dX12_goesPairs_92 : decode cX12_goesPairs 92 = .ok (.iload 6, 2) := by decide +kernel
theorem dX12_goesPairs_94 : decode cX12_goesPairs 94 = .ok (.aload_n 0, 1) := by decide +kernel
theorem dX12_goesPairs_95 : decode cX12_goesPairs 95 = .ok (.getfield 13, 3) := by decide +kernel
theorem dX12_goesPairs_98 : decode cX12_goesPairs 98 = .ok (.iconst 2, 1) := by decide +kernel
theorem dX12_goesPairs_99 : decode cX12_goesPairs 99 = .ok (.iaload, 1) := by decide +kernel
theorem dX12_goesPairs_100 : decode cX12_goesPairs 100 = .ok (.if_icmp .ge 96, 3) := by decide +kernel
theorem dX12_goesPairs_103 : decode cX12_goesPairs 103 = .ok (.iload 5, 2) := by decide +kernel
theorem dX12_goesPairs_105 : decode cX12_goesPairs 105 = .ok (.aload_n 0, 1) := by decide +kernel
theorem dX12_goesPairs_106 : decode cX12_goesPairs 106 = .ok (.getfield 39, 3) := by decide +kernel
theorem dX12_goesPairs_109 : decode cX12_goesPairs 109 = .ok (.iload 4, 2) := by decide +kernel
theorem dX12_goesPairs_111 : decode cX12_goesPairs 111 = .ok (.iaload, 1) := by decide +kernel
theorem dX12_goesPairs_112 : decode cX12_goesPairs 112 = .ok (.iand, 1) := by decide +kernel
theorem dX12_goesPairs_113 : decode cX12_goesPairs 113 = .ok (.i2l, 1) := by decide +kernel
theorem dX12_goesPairs_114 : decode cX12_goesPairs 114 = .ok (.iload 6, 2) := by decide +kernel
theorem dX12_goesPairs_116 : decode cX12_goesPairs 116 = .ok (.invokestatic 251, 3) := by decide +kernel
theorem dX12_goesPairs_119 : decode cX12_goesPairs 119 = .ok (.ifCond .ne 6, 3) := by decide +kernel
theorem dX12_goesPairs_122 : decode cX12_goesPairs 122 = .ok (.goto 68, 3) := by decide +kernel
theorem dX12_goesPairs_125 : decode cX12_goesPairs 125 = .ok (.aload_n 0, 1) := by decide +kernel
theorem dX12_goesPairs_126 : decode cX12_goesPairs 126 = .ok (.getfield 48, 3) := by decide +kernel
theorem dX12_goesPairs_129 : decode cX12_goesPairs 129 = .ok (.iload 4, 2) := by decide +kernel
theorem dX12_goesPairs_131 : decode cX12_goesPairs 131 = .ok (.iload 6, 2) := by decide +kernel
theorem dX12_goesPairs_133 : decode cX12_goesPairs 133 = .ok (.iastore, 1) := by decide +kernel
theorem dX12_goesPairs_134 : decode cX12_goesPairs 134 = .ok (.aload_n 0, 1) := by decide +kernel
theorem dX12_goesPairs_135 : decode cX12_goesPairs 135 = .ok (.getfield 48, 3) := by decide +kernel
theorem dX12_goesPairs_138 : decode cX12_goesPairs 138 = .ok (.iload 6, 2) := by decide +kernel
theorem dX12_goesPairs_140 : decode cX12_goesPairs 140 = .ok (.iload 4, 2) := by decide +kernel
theorem dX12_goesPairs_142 : decode cX12_goesPairs 142 = .ok (.iastore, 1) := by decide +kernel
theorem dX12_goesPairs_143 : decode cX12_goesPairs 143 = .ok (.aload_n 0, 1) := by decide +kernel
theorem dX12_goesPairs_144 : decode cX12_goesPairs 144 = .ok (.iload 5, 2) := by decide +kernel
theorem dX12_goesPairs_146 : decode cX12_goesPairs 146 = .ok (.iconst 1, 1) := by decide +kernel
theorem dX12_goesPairs_147 : decode cX12_goesPairs 147 = .ok (.iload 6, 2) := by decide +kernel
theorem dX12_goesPairs_149 : decode cX12_goesPairs 149 = .ok (.ishl, 1) := by decide +kernel
theorem dX12_goesPairs_150 : decode cX12_goesPairs 150 = .ok (.iconst (-1), 1) := by decide +kernel
theorem dX12_goesPairs_151 : decode cX12_goesPairs 151 = .ok (.ixor, 1) := by decide +kernel
theorem dX12_goesPairs_152 : decode cX12_goesPairs 152 = .ok (.iand, 1) := by decide +kernel
theorem dX12_goesPairs_153 : decode cX12_goesPairs 153 = .ok (.iload_n 2, 1) := by decide +kernel
theorem dX12_goesPairs_154 : decode cX12_goesPairs 154 = .ok (.iconst 1, 1) := by decide +kernel
theorem dX12_goesPairs_155 : decode cX12_goesPairs 155 = .ok (.iadd, 1) := by decide +kernel
theorem dX12_goesPairs_156 : decode cX12_goesPairs 156 = .ok (.iload_n 3, 1) := by decide +kernel
theorem dX12_goesPairs_157 : decode cX12_goesPairs 157 = .ok (.aload_n 0, 1) := by decide +kernel
theorem dX12_goesPairs_158 : decode cX12_goesPairs 158 = .ok (.getfield 13, 3) := by decide +kernel
theorem dX12_goesPairs_161 : decode cX12_goesPairs 161 = .ok (.bipush 42, 2) := by decide +kernel
theorem dX12_goesPairs_163 : decode cX12_goesPairs 163 = .ok (.iload 4, 2) := by decide +kernel
theorem dX12_goesPairs_165 : decode cX12_goesPairs 165 = .ok (.iadd, 1) := by decide +kernel
theorem dX12_goesPairs_166 : decode cX12_goesPairs 166 = .ok (.iaload, 1) := by decide +kernel
theorem dX12_goesPairs_167 : decode cX12_goesPairs 167 = .ok (.iadd, 1) := by decide +kernel
theorem dX12_goesPairs_168 : decode cX12_goesPairs 168 = .ok (.aload_n 0, 1) := by decide +kernel
theorem dX12_goesPairs_169 : decode cX12_goesPairs 169 = .ok (.getfield 13, 3) := by decide +kernel
theorem dX12_goesPairs_172 : decode cX12_goesPairs 172 = .ok (.bipush 42, 2) := by decide +kernel
theorem dX12_goesPairs_174 : decode cX12_goesPairs 174 = .ok (.iload 6, 2) := by decide +kernel
theorem dX12_goesPairs_176 : decode cX12_goesPairs 176 = .ok (.iadd, 1) := by decide +kernel
theorem dX12_goesPairs_177 : decode cX12_goesPairs 177 = .ok (.iaload, 1) := by decide +kernel
theorem dX12_goesPairs_178 : decode cX12_goesPairs 178 = .ok (.iadd, 1) := by decide +kernel
theorem dX12_goesPairs_179 : decode cX12_goesPairs 179 = .ok (.invokevirtual 358, 3) := by decide +kernel
theorem dX12_goesPairs_182 : decode cX12_goesPairs 182 = .ok (.aload_n 0, 1) := by decide +kernel
theorem dX12_goesPairs_183 : decode cX12_goesPairs 183 = .ok (.getfield 48, 3) := by decide +kernel
theorem dX12_goesPairs_186 : decode cX12_goesPairs 186 = .ok (.iload 6, 2) := by decide +kernel
theorem dX12_goesPairs_188 : decode cX12_goesPairs 188 = .ok (.iconst (-1), 1) := by decide +kernel
theorem dX12_goesPairs_189 : decode cX12_goesPairs 189 = .ok (.iastore, 1) := by decide +kernel
theorem dX12_goesPairs_190 : decode cX12_goesPairs 190 = .ok (.iinc 6 1, 3) := by decide +kernel
theorem dX12_goesPairs_193 : decode cX12_goesPairs 193 = .ok (.goto (-101), 3) := by decide +kernel
theorem dX12_goesPairs_196 : decode cX12_goesPairs 196 = .ok (.aload_n 0, 1) := by decide +kernel
theorem dX12_goesPairs_197 : decode cX12_goesPairs 197 = .ok (.getfield 48, 3) := by decide +kernel
theorem dX12_goesPairs_200 : decode cX12_goesPairs 200 = .ok (.iload 4, 2) := by decide +kernel
theorem dX12_goesPairs_202 : decode cX12_goesPairs 202 = .ok (.iconst (-1), 1) := by decide +kernel
theorem dX12_goesPairs_203 : decode cX12_goesPairs 203 = .ok (.iastore, 1) := by decide +kernel
theorem dX12_goesPairs_204 : decode cX12_goesPairs 204 = .ok (.aload_n 0, 1) := by decide +kernel
theorem dX12_goesPairs_205 : decode cX12_goesPairs 205 = .ok (.iload 5, 2) := by decide +kernel
theorem dX12_goesPairs_207 : decode cX12_goesPairs 207 = .ok (.iload_n 2, 1) := by decide +kernel
theorem dX12_goesPairs_208 : decode cX12_goesPairs 208 = .ok (.iload_n 3, 1) := by decide +kernel
theorem dX12_goesPairs_209 : decode cX12_goesPairs 209 = .ok (.invokevirtual 358, 3) := by decide +kernel
theorem dX12_goesPairs_212 : decode cX12_goesPairs 212 = .ok (.return_, 1) := by decide +kernel
theorem dX12_hidden_0 : decode cX12_hidden 0 = .ok (.aload_n 0, 1) := by decide +kernel
theorem dX12_hidden_1 : decode cX12_hidden 1 = .ok (.iconst 0, 1) := by decide +kernel
theorem dX12_hidden_2 : decode cX12_hidden 2 = .ok (.putfield 1, 3) := by decide +kernel
theorem dX12_hidden_5 : decode cX12_hidden 5 = .ok (.aload_n 0, 1) := by decide +kernel
theorem dX12_hidden_6 : decode cX12_hidden 6 = .ok (.iload_n 1, 1) := by decide +kernel
theorem dX12_hidden_7 : decode cX12_hidden 7 = .ok (.iload_n 2, 1) := by decide +kernel
theorem dX12_hidden_8 : decode cX12_hidden 8 = .ok (.invokevirtual 408, 3) := by decide +kernel
theorem dX12_hidden_11 : decode cX12_hidden 11 = .ok (.istore_n 3, 1) := by decide +kernel
theorem dX12_hidden_12 : decode cX12_hidden 12 = .ok (.iload_n 3, 1) := by decide +kernel
theorem dX12_hidden_13 : decode cX12_hidden 13 = .ok (.ifCond .eq 7, 3) := by decide +kernel
theorem dX12_hidden_16 : decode cX12_hidden 16 = .ok (.iload_n 3, 1) := by decide +kernel
theorem dX12_hidden_17 : decode cX12_hidden 17 = .ok (.goto 9, 3) := by decide +kernel
theorem dX12_hidden_20 : decode cX12_hidden 20 = .ok (.aload_n 0, 1) := by decide +kernel
theorem dX12_hidden_21 : decode cX12_hidden 21 = .ok (.iload_n 1, 1) := by decide +kernel
theorem dX12_hidden_22 : decode cX12_hidden 22 = .ok (.iload_n 2, 1) := by decide +kernel
theorem dX12_hidden_23 : decode cX12_hidden 23 = .ok (.invokevirtual 411, 3) := by decide +kernel
theorem dX12_hidden_26 : decode cX12_hidden 26 = .ok (.ireturn, 1) := by decide +kernel
theorem dX12_hiddenAt_0 : decode cX12_hiddenAt 0 = .ok (.aload_n 0, 1) := by decide +kernel
theorem dX12_hiddenAt_1 : decode cX12_hiddenAt 1 = .ok (.iconst 0, 1) := by decide +kernel
theorem dX12_hiddenAt_2 : decode cX12_hiddenAt 2 = .ok (.putfield 1, 3) := by decide +kernel
theorem dX12_hiddenAt_5 : decode cX12_hiddenAt 5 = .ok (.aload_n 0, 1) := by decide +kernel
theorem dX12_hiddenAt_6 : decode cX12_hiddenAt 6 = .ok (.iload_n 1, 1) := by decide +kernel
theorem dX12_hiddenAt_7 : decode cX12_hiddenAt 7 = .ok (.iload_n 2, 1) := by decide +kernel
theorem dX12_hiddenAt_8 : decode cX12_hiddenAt 8 = .ok (.invokevirtual 408, 3) := by decide +kernel
theorem dX12_hiddenAt_11 : decode cX12_hiddenAt 11 = .ok (.istore 4, 2) := by decide +kernel
theorem dX12_hiddenAt_13 : decode cX12_hiddenAt 13 = .ok (.iload 4, 2) := by decide +kernel
theorem dX12_hiddenAt_15 : decode cX12_hiddenAt 15 = .ok (.ifCond .eq 6, 3) := by decide +kernel
theorem dX12_hiddenAt_18 : decode cX12_hiddenAt 18 = .ok (.iload 4, 2) := by decide +kernel
theorem dX12_hiddenAt_20 : decode cX12_hiddenAt 20 = .ok (.ireturn, 1) := by decide +kernel
theorem dX12_hiddenAt_21 : decode cX12_hiddenAt 21 = .ok (.iload_n 3, 1) := by decide +kernel
theorem dX12_hiddenAt_22 : decode cX12_hiddenAt 22 = .ok (.ifCond .ge 6, 3) := by decide +kernel
theorem dX12_hiddenAt_25 : decode cX12_hiddenAt 25 = .ok (.bipush (-3), 2) := by decide +kernel
theorem dX12_hiddenAt_27 : decode cX12_hiddenAt 27 = .ok (.ireturn, 1) := by decide +kernel
theorem dX12_hiddenAt_28 : decode cX12_hiddenAt 28 = .ok (.iload_n 3, 1) := by decide +kernel
theorem dX12_hiddenAt_29 : decode cX12_hiddenAt 29 = .ok (.aload_n 0, 1) := by decide +kernel
theorem dX12_hiddenAt_30 : decode cX12_hiddenAt 30 = .ok (.iload_n 1, 1) := by decide +kernel
theorem dX12_hiddenAt_31 : decode cX12_hiddenAt 31 = .ok (.iload_n 2, 1) := by decide +kernel
theorem dX12_hiddenAt_32 : decode cX12_hiddenAt 32 = .ok (.invokevirtual 411, 3) := by decide +kernel
theorem dX12_hiddenAt_35 : decode cX12_hiddenAt 35 = .ok (.if_icmp .ge 12, 3) := by decide +kernel
theorem dX12_hiddenAt_38 : decode cX12_hiddenAt 38 = .ok (.aload_n 0, 1) := by decide +kernel
theorem dX12_hiddenAt_39 : decode cX12_hiddenAt 39 = .ok (.getfield 54, 3) := by decide +kernel
theorem dX12_hiddenAt_42 : decode cX12_hiddenAt 42 = .ok (.iload_n 3, 1) := by decide +kernel
theorem dX12_hiddenAt_43 : decode cX12_hiddenAt 43 = .ok (.iaload, 1) := by decide +kernel
theorem dX12_hiddenAt_44 : decode cX12_hiddenAt 44 = .ok (.goto 4, 3) := by decide +kernel
theorem dX12_hiddenAt_47 : decode cX12_hiddenAt 47 = .ok (.iconst (-1), 1) := by decide +kernel
theorem dX12_hiddenAt_48 : decode cX12_hiddenAt 48 = .ok (.ireturn, 1) := by decide +kernel
theorem dX12_house_0 : decode cX12_house 0 = .ok (.aload_n 0, 1) := by decide +kernel
theorem dX12_house_1 : decode cX12_house 1 = .ok (.iconst 0, 1) := by decide +kernel
theorem dX12_house_2 : decode cX12_house 2 = .ok (.putfield 1, 3) := by decide +kernel
theorem dX12_house_5 : decode cX12_house 5 = .ok (.iload_n 1, 1) := by decide +kernel
theorem dX12_house_6 : decode cX12_house 6 = .ok (.i2l, 1) := by decide +kernel
theorem dX12_house_7 : decode cX12_house 7 = .ok (.lconst 0, 1) := by decide +kernel
theorem dX12_house_8 : decode cX12_house 8 = .ok (.aload_n 0, 1) := by decide +kernel
theorem dX12_house_9 : decode cX12_house 9 = .ok (.getfield 83, 3) := by decide +kernel
theorem dX12_house_12 : decode cX12_house 12 = .ok (.i2l, 1) := by decide +kernel
theorem dX12_house_13 : decode cX12_house 13 = .ok (.invokestatic 145, 3) := by decide +kernel
theorem dX12_house_16 : decode cX12_house 16 = .ok (.ifCond .ne 6, 3) := by decide +kernel
theorem dX12_house_19 : decode cX12_house 19 = .ok (.bipush (-3), 2) := by decide +kernel
theorem dX12_house_21 : decode cX12_house 21 = .ok (.ireturn, 1) := by decide +kernel
theorem dX12_house_22 : decode cX12_house 22 = .ok (.aload_n 0, 1) := by decide +kernel
theorem dX12_house_23 : decode cX12_house 23 = .ok (.iload_n 1, 1) := by decide +kernel
theorem dX12_house_24 : decode cX12_house 24 = .ok (.putfield 86, 3) := by decide +kernel
theorem dX12_house_27 : decode cX12_house 27 = .ok (.aload_n 0, 1) := by decide +kernel
theorem dX12_house_28 : decode cX12_house 28 = .ok (.iconst 0, 1) := by decide +kernel
theorem dX12_house_29 : decode cX12_house 29 = .ok (.putfield 83, 3) := by decide +kernel
theorem dX12_house_32 : decode cX12_house 32 = .ok (.aload_n 0, 1) := by decide +kernel
theorem dX12_house_33 : decode cX12_house 33 = .ok (.iconst 0, 1) := by decide +kernel
theorem dX12_house_34 : decode cX12_house 34 = .ok (.putfield 104, 3) := by decide +kernel
theorem dX12_house_37 : decode cX12_house 37 = .ok (.aload_n 0, 1) := by decide +kernel
theorem dX12_house_38 : decode cX12_house 38 = .ok (.iconst 0, 1) := by decide +kernel
theorem dX12_house_39 : decode cX12_house 39 = .ok (.putfield 129, 3) := by decide +kernel
theorem dX12_house_42 : decode cX12_house 42 = .ok (.aload_n 0, 1) := by decide +kernel
theorem dX12_house_43 : decode cX12_house 43 = .ok (.getfield 24, 3) := by decide +kernel
theorem dX12_house_46 : decode cX12_house 46 = .ok (.invokestatic 79, 3) := by decide +kernel
theorem dX12_house_49 : decode cX12_house 49 = .ok (.aload_n 0, 1) := by decide +kernel
theorem dX12_house_50 : decode cX12_house 50 = .ok (.invokevirtual 138, 3) := by decide +kernel
theorem dX12_house_53 : decode cX12_house 53 = .ok (.aload_n 0, 1) := by decide +kernel
theorem dX12_house_54 : decode cX12_house 54 = .ok (.iconst 0, 1) := by decide +kernel
theorem dX12_house_55 : decode cX12_house 55 = .ok (.invokevirtual 172, 3) := by decide +kernel
theorem dX12_house_58 : decode cX12_house 58 = .ok (.ifCond .ne 8, 3) := by decide +kernel
theorem dX12_house_61 : decode cX12_house 61 = .ok (.aload_n 0, 1) := by decide +kernel
theorem dX12_house_62 : decode cX12_house 62 = .ok (.iconst 2, 1) := by decide +kernel
theorem dX12_house_63 : decode cX12_house 63 = .ok (.invokevirtual 141, 3) := by decide +kernel
theorem dX12_house_66 : decode cX12_house 66 = .ok (.aload_n 0, 1) := by decide +kernel
theorem dX12_house_67 : decode cX12_house 67 = .ok (.iconst 1, 1) := by decide +kernel
theorem dX12_house_68 : decode cX12_house 68 = .ok (.invokevirtual 172, 3) := by decide +kernel
theorem dX12_house_71 : decode cX12_house 71 = .ok (.ifCond .ne 8, 3) := by decide +kernel
theorem dX12_house_74 : decode cX12_house 74 = .ok (.aload_n 0, 1) := by decide +kernel
theorem dX12_house_75 : decode cX12_house 75 = .ok (.iconst 2, 1) := by decide +kernel
theorem dX12_house_76 : decode cX12_house 76 = .ok (.invokevirtual 141, 3) := by decide +kernel
theorem dX12_house_79 : decode cX12_house 79 = .ok (.aload_n 0, 1) := by decide +kernel
theorem dX12_house_80 : decode cX12_house 80 = .ok (.getfield 24, 3) := by decide +kernel
theorem dX12_house_83 : decode cX12_house 83 = .ok (.iconst 1, 1) := by decide +kernel
theorem dX12_house_84 : decode cX12_house 84 = .ok (.aload_n 0, 1) := by decide +kernel
theorem dX12_house_85 : decode cX12_house 85 = .ok (.iconst 1, 1) := by decide +kernel
theorem dX12_house_86 : decode cX12_house 86 = .ok (.iconst 3, 1) := by decide +kernel
theorem dX12_house_87 : decode cX12_house 87 = .ok (.invokevirtual 190, 3) := by decide +kernel
theorem dX12_house_90 : decode cX12_house 90 = .ok (.iastore, 1) := by decide +kernel
theorem dX12_house_91 : decode cX12_house 91 = .ok (.aload_n 0, 1) := by decide +kernel
theorem dX12_house_92 : decode cX12_house 92 = .ok (.invokevirtual 208, 3) := by decide +kernel
theorem dX12_house_95 : decode cX12_house 95 = .ok (.aload_n 0, 1) := by decide +kernel
theorem dX12_house_96 : decode cX12_house 96 = .ok (.getfield 129, 3) := by decide +kernel
theorem dX12_house_99 : decode cX12_house 99 = .ok (.ifCond .ne 23, 3) := by decide +kernel
theorem dX12_house_102 : decode cX12_house 102 = .ok (.aload_n 0, 1) := by decide +kernel
theorem dX12_house_103 : decode cX12_house 103 = .ok (.getfield 111, 3) := by decide +kernel
theorem dX12_house_106 : decode cX12_house 106 = .ok (.bipush 26, 2) := by decide +kernel
theorem dX12_house_108 : decode cX12_house 108 = .ok (.if_icmp .eq 14, 3) := by decide +kernel
theorem dX12_house_111 : decode cX12_house 111 = .ok (.aload_n 0, 1) := by decide +kernel
theorem dX12_house_112 : decode cX12_house 112 = .ok (.invokevirtual 211, 3) := by decide +kernel
theorem dX12_house_115 : decode cX12_house 115 = .ok (.aload_n 0, 1) := by decide +kernel
theorem dX12_house_116 : decode cX12_house 116 = .ok (.invokevirtual 208, 3) := by decide +kernel
theorem dX12_house_119 : decode cX12_house 119 = .ok (.goto (-24), 3) := by decide +kernel
theorem dX12_house_122 : decode cX12_house 122 = .ok (.aload_n 0, 1) := by decide +kernel
theorem dX12_house_123 : decode cX12_house 123 = .ok (.aload_n 0, 1) := by decide +kernel
theorem dX12_house_124 : decode cX12_house 124 = .ok (.getfield 129, 3) := by decide +kernel
theorem dX12_house_127 : decode cX12_house 127 = .ok (.putfield 214, 3) := by decide +kernel
theorem dX12_house_130 : decode cX12_house 130 = .ok (.aload_n 0, 1) := by decide +kernel
theorem dX12_house_131 : decode cX12_house 131 = .ok (.aload_n 0, 1) := by decide +kernel
theorem dX12_house_132 : decode cX12_house 132 = .ok (.getfield 129, 3) := by decide +kernel
theorem dX12_house_135 : decode cX12_house 135 = .ok (.ifCond .ne 7, 3) := by decide +kernel
theorem dX12_house_138 : decode cX12_house 138 = .ok (.iconst (-1), 1) := by decide +kernel
theorem dX12_house_139 : decode cX12_house 139 = .ok (.goto 7, 3) := by decide +kernel
theorem dX12_house_142 : decode cX12_house 142 = .ok (.aload_n 0, 1) := by decide +kernel
theorem dX12_house_143 : decode cX12_house 143 = .ok (.getfield 132, 3) := by decide +kernel
theorem dX12_house_146 : decode cX12_house 146 = .ok (.putfield 27, 3) := by decide +kernel
theorem dX12_house_149 : decode cX12_house 149 = .ok (.aload_n 0, 1) := by decide +kernel
theorem dX12_house_150 : decode cX12_house 150 = .ok (.getfield 129, 3) := by decide +kernel
theorem dX12_house_153 : decode cX12_house 153 = .ok (.ifCond .eq 11, 3) := by decide +kernel
theorem dX12_house_156 : decode cX12_house 156 = .ok (.bipush (-30), 2) := by decide +kernel
theorem dX12_house_158 : decode cX12_house 158 = .ok (.aload_n 0, 1) := by decide +kernel
theorem dX12_house_159 : decode cX12_house 159 = .ok (.getfield 129, 3) := by decide +kernel
theorem dX12_house_162 : decode cX12_house 162 = .ok (.isub, 1) := by decide +kernel
theorem dX12_house_163 : decode cX12_house 163 = .ok (.ireturn, 1) := by decide +kernel
theorem dX12_house_164 : decode cX12_house 164 = .ok (.iconst 0, 1) := by decide +kernel
theorem dX12_house_165 : decode cX12_house 165 = .ok (.istore_n 2, 1) := by decide +kernel
theorem dX12_house_166 : decode cX12_house 166 = .ok (.iload_n 2, 1) := by decide +kernel
theorem dX12_house_167 : decode cX12_house 167 = .ok (.sipush 1306, 3) := by decide +kernel
theorem dX12_house_170 : decode cX12_house 170 = .ok (.if_icmp .ge 21, 3) := by decide +kernel
theorem dX12_house_173 : decode cX12_house 173 = .ok (.aload_n 0, 1) := by decide +kernel
theorem dX12_house_174 : decode cX12_house 174 = .ok (.getfield 13, 3) := by decide +kernel
theorem dX12_house_177 : decode cX12_house 177 = .ok (.iload_n 2, 1) := by decide +kernel
theorem dX12_house_178 : decode cX12_house 178 = .ok (.aload_n 0, 1) := by decide +kernel
theorem dX12_house_179 : decode cX12_house 179 = .ok (.getfield 24, 3) := by decide +kernel
theorem dX12_house_182 : decode cX12_house 182 = .ok (.iload_n 2, 1) := by decide +kernel
theorem dX12_house_183 : decode cX12_house 183 = .ok (.iaload, 1) := by decide +kernel
theorem dX12_house_184 : decode cX12_house 184 = .ok (.iastore, 1) := by decide +kernel
theorem dX12_house_185 : decode cX12_house 185 = .ok (.iinc 2 1, 3) := by decide +kernel
theorem dX12_house_188 : decode cX12_house 188 = .ok (.goto (-22), 3) := by decide +kernel
theorem dX12_house_191 : decode cX12_house 191 = .ok (.aload_n 0, 1) := by decide +kernel
theorem dX12_house_192 : decode cX12_house 192 = .ok (.getfield 13, 3) := by decide +kernel
theorem dX12_house_195 : decode cX12_house 195 = .ok (.iconst 0, 1) := by decide +kernel
theorem dX12_house_196 : decode cX12_house 196 = .ok (.iaload, 1) := by decide +kernel
theorem dX12_house_197 : decode cX12_house 197 = .ok (.ireturn, 1) := by decide +kernel
theorem dX12_image_0 : decode cX12_image 0 = .ok (.aload_n 0, 1) := by decide +kernel
theorem dX12_image_1 : decode cX12_image 1 = .ok (.iconst 0, 1) := by decide +kernel
theorem dX12_image_2 : decode cX12_image 2 = .ok (.putfield 1, 3) := by decide +kernel
theorem dX12_image_5 : decode cX12_image 5 = .ok (.iload_n 1, 1) := by decide +kernel
theorem dX12_image_6 : decode cX12_image 6 = .ok (.i2l, 1) := by decide +kernel
theorem dX12_image_7 : decode cX12_image 7 = .ok (.lconst 0, 1) := by decide +kernel
theorem dX12_image_8 : decode cX12_image 8 = .ok (.lconst 1, 1) := by decide +kernel
theorem dX12_image_9 : decode cX12_image 9 = .ok (.invokestatic 145, 3) := by decide +kernel
theorem dX12_image_12 : decode cX12_image 12 = .ok (.ifCond .ne 6, 3) := by decide +kernel
theorem dX12_image_15 : decode cX12_image 15 = .ok (.bipush (-2), 2) := by decide +kernel
theorem dX12_image_17 : decode cX12_image 17 = .ok (.ireturn, 1) := by decide +kernel
theorem dX12_image_18 : decode cX12_image 18 = .ok (.iconst 0, 1) := by decide +kernel
theorem dX12_image_19 : decode cX12_image 19 = .ok (.istore_n 2, 1) := by decide +kernel
theorem dX12_image_20 : decode cX12_image 20 = .ok (.iload_n 2, 1) := by decide +kernel
theorem dX12_image_21 : decode cX12_image 21 = .ok (.sipush 1306, 3) := by decide +kernel
theorem dX12_image_24 : decode cX12_image 24 = .ok (.if_icmp .ge 29, 3) := by decide +kernel
theorem dX12_image_27 : decode cX12_image 27 = .ok (.aload_n 0, 1) := by decide +kernel
theorem dX12_image_28 : decode cX12_image 28 = .ok (.getfield 13, 3) := by decide +kernel
theorem dX12_image_31 : decode cX12_image 31 = .ok (.sipush 1306, 3) := by decide +kernel
theorem dX12_image_34 : decode cX12_image 34 = .ok (.iload_n 1, 1) := by decide +kernel
theorem dX12_image_35 : decode cX12_image 35 = .ok (.iconst 1, 1) := by decide +kernel
theorem dX12_image_36 : decode cX12_image 36 = .ok (.iadd, 1) := by decide +kernel
theorem dX12_image_37 : decode cX12_image 37 = .ok (.imul, 1) := by decide +kernel
theorem dX12_image_38 : decode cX12_image 38 = .ok (.iload_n 2, 1) := by decide +kernel
theorem dX12_image_39 : decode cX12_image 39 = .ok (.iadd, 1) := by decide +kernel
theorem dX12_image_40 : decode cX12_image 40 = .ok (.aload_n 0, 1) := by decide +kernel
theorem dX12_image_41 : decode cX12_image 41 = .ok (.getfield 13, 3) := by decide +kernel
theorem dX12_image_44 : decode cX12_image 44 = .ok (.iload_n 2, 1) := by decide +kernel
theorem dX12_image_45 : decode cX12_image 45 = .ok (.iaload, 1) := by decide +kernel
theorem dX12_image_46 : decode cX12_image 46 = .ok (.iastore, 1) := by decide +kernel
theorem dX12_image_47 : decode cX12_image 47 = .ok (.iinc 2 1, 3) := by decide +kernel
theorem dX12_image_50 : decode cX12_image 50 = .ok (.goto (-30), 3) := by decide +kernel
theorem dX12_image_53 : decode cX12_image 53 = .ok (.aload_n 0, 1) := by decide +kernel
theorem dX12_image_54 : decode cX12_image 54 = .ok (.getfield 17, 3) := by decide +kernel
theorem dX12_image_57 : decode cX12_image 57 = .ok (.iload_n 1, 1) := by decide +kernel
theorem dX12_image_58 : decode cX12_image 58 = .ok (.iconst 1, 1) := by decide +kernel
theorem dX12_image_59 : decode cX12_image 59 = .ok (.bastore, 1) := by decide +kernel
theorem dX12_image_60 : decode cX12_image 60 = .ok (.iconst 0, 1) := by decide +kernel
theorem dX12_image_61 : decode cX12_image 61 = .ok (.ireturn, 1) := by decide +kernel
theorem dX12_init_0 : decode cX12_init 0 = .ok (.aload_n 0, 1) := by decide +kernel
theorem dX12_init_1 : decode cX12_init 1 = .ok (.invokespecial 7, 3) := by decide +kernel
theorem dX12_init_4 : decode cX12_init 4 = .ok (.aload_n 0, 1) := by decide +kernel
theorem dX12_init_5 : decode cX12_init 5 = .ok (.sipush 3918, 3) := by decide +kernel
theorem dX12_init_8 : decode cX12_init 8 = .ok (.newarray .int, 2) := by decide +kernel
theorem dX12_init_10 : decode cX12_init 10 = .ok (.putfield 13, 3) := by decide +kernel
theorem dX12_init_13 : decode cX12_init 13 = .ok (.aload_n 0, 1) := by decide +kernel
theorem dX12_init_14 : decode cX12_init 14 = .ok (.iconst 2, 1) := by decide +kernel
theorem dX12_init_15 : decode cX12_init 15 = .ok (.newarray .boolean, 2) := by decide +kernel
theorem dX12_init_17 : decode cX12_init 17 = .ok (.putfield 17, 3) := by decide +kernel
theorem dX12_init_20 : decode cX12_init 20 = .ok (.aload_n 0, 1) := by decide +kernel
theorem dX12_init_21 : decode cX12_init 21 = .ok (.sipush 900, 3) := by decide +kernel
theorem dX12_init_24 : decode cX12_init 24 = .ok (.newarray .int, 2) := by decide +kernel
theorem dX12_init_26 : decode cX12_init 26 = .ok (.putfield 21, 3) := by decide +kernel
theorem dX12_init_29 : decode cX12_init 29 = .ok (.aload_n 0, 1) := by decide +kernel
theorem dX12_init_30 : decode cX12_init 30 = .ok (.sipush 1306, 3) := by decide +kernel
theorem dX12_init_33 : decode cX12_init 33 = .ok (.newarray .int, 2) := by decide +kernel
theorem dX12_init_35 : decode cX12_init 35 = .ok (.putfield 24, 3) := by decide +kernel
theorem dX12_init_38 : decode cX12_init 38 = .ok (.aload_n 0, 1) := by decide +kernel
theorem dX12_init_39 : decode cX12_init 39 = .ok (.iconst (-1), 1) := by decide +kernel
theorem dX12_init_40 : decode cX12_init 40 = .ok (.putfield 27, 3) := by decide +kernel
theorem dX12_init_43 : decode cX12_init 43 = .ok (.aload_n 0, 1) := by decide +kernel
theorem dX12_init_44 : decode cX12_init 44 = .ok (.sipush 900, 3) := by decide +kernel
theorem dX12_init_47 : decode cX12_init 47 = .ok (.newarray .int, 2) := by decide +kernel
theorem dX12_init_49 : decode cX12_init 49 = .ok (.putfield 30, 3) := by decide +kernel
theorem dX12_init_52 : decode cX12_init 52 = .ok (.aload_n 0, 1) := by decide +kernel
theorem dX12_init_53 : decode cX12_init 53 = .ok (.bipush 11, 2) := by decide +kernel
theorem dX12_init_55 : decode cX12_init 55 = .ok (.newarray .int, 2) := by decide +kernel
theorem dX12_init_57 : decode cX12_init 57 = .ok (.putfield 33, 3) := by decide +kernel
theorem dX12_init_60 : decode cX12_init 60 = .ok (.aload_n 0, 1) := by decide +kernel
theorem dX12_init_61 : decode cX12_init 61 = .ok (.iconst 3, 1) := by decide +kernel
theorem dX12_init_62 : decode cX12_init 62 = .ok (.newarray .int, 2) := by decide +kernel
theorem dX12_init_64 : decode cX12_init 64 = .ok (.putfield 36, 3) := by decide +kernel
theorem dX12_init_67 : decode cX12_init 67 = .ok (.aload_n 0, 1) := by decide +kernel
theorem dX12_init_68 : decode cX12_init 68 = .ok (.bipush 10, 2) := by decide +kernel
theorem dX12_init_70 : decode cX12_init 70 = .ok (.newarray .int, 2) := by decide +kernel
theorem dX12_init_72 : decode cX12_init 72 = .ok (.putfield 39, 3) := by decide +kernel
theorem dX12_init_75 : decode cX12_init 75 = .ok (.aload_n 0, 1) := by decide +kernel
theorem dX12_init_76 : decode cX12_init 76 = .ok (.bipush 32, 2) := by decide +kernel
theorem dX12_init_78 : decode cX12_init 78 = .ok (.newarray .int, 2) := by decide +kernel
theorem dX12_init_80 : decode cX12_init 80 = .ok (.putfield 42, 3) := by decide +kernel
theorem dX12_init_83 : decode cX12_init 83 = .ok (.aload_n 0, 1) := by decide +kernel
theorem dX12_init_84 : decode cX12_init 84 = .ok (.sipush 1024, 3) := by decide +kernel
theorem dX12_init_87 : decode cX12_init 87 = .ok (.newarray .int, 2) := by decide +kernel
theorem dX12_init_89 : decode cX12_init 89 = .ok (.putfield 45, 3) := by decide +kernel
theorem dX12_init_92 : decode cX12_init 92 = .ok (.aload_n 0, 1) := by decide +kernel
theorem dX12_init_93 : decode cX12_init 93 = .ok (.bipush 10, 2) := by decide +kernel
theorem dX12_init_95 : decode cX12_init 95 = .ok (.newarray .int, 2) := by decide +kernel
theorem dX12_init_97 : decode cX12_init 97 = .ok (.putfield 48, 3) := by decide +kernel
theorem dX12_init_100 : decode cX12_init 100 = .ok (.aload_n 0, 1) := by decide +kernel
theorem dX12_init_101 : decode cX12_init 101 = .ok (.bipush 10, 2) := by decide +kernel
theorem dX12_init_103 : decode cX12_init 103 = .ok (.newarray .int, 2) := by decide +kernel
theorem dX12_init_105 : decode cX12_init 105 = .ok (.putfield 51, 3) := by decide +kernel
theorem dX12_init_108 : decode cX12_init 108 = .ok (.aload_n 0, 1) := by decide +kernel
theorem dX12_init_109 : decode cX12_init 109 = .ok (.sipush 1000, 3) := by decide +kernel
theorem dX12_init_112 : decode cX12_init 112 = .ok (.newarray .int, 2) := by decide +kernel
theorem dX12_init_114 : decode cX12_init 114 = .ok (.putfield 54, 3) := by decide +kernel
theorem dX12_init_117 : decode cX12_init 117 = .ok (.aload_n 0, 1) := by decide +kernel
theorem dX12_init_118 : decode cX12_init 118 = .ok (.sipush 1000, 3) := by decide +kernel
theorem dX12_init_121 : decode cX12_init 121 = .ok (.newarray .int, 2) := by decide +kernel
theorem dX12_init_123 : decode cX12_init 123 = .ok (.putfield 57, 3) := by decide +kernel
theorem dX12_init_126 : decode cX12_init 126 = .ok (.aload_n 0, 1) := by decide +kernel
theorem dX12_init_127 : decode cX12_init 127 = .ok (.sipush 1000, 3) := by decide +kernel
theorem dX12_init_130 : decode cX12_init 130 = .ok (.newarray .int, 2) := by decide +kernel
theorem dX12_init_132 : decode cX12_init 132 = .ok (.putfield 60, 3) := by decide +kernel
theorem dX12_init_135 : decode cX12_init 135 = .ok (.aload_n 0, 1) := by decide +kernel
theorem dX12_init_136 : decode cX12_init 136 = .ok (.sipush 1000, 3) := by decide +kernel
theorem dX12_init_139 : decode cX12_init 139 = .ok (.newarray .int, 2) := by decide +kernel
theorem dX12_init_141 : decode cX12_init 141 = .ok (.putfield 63, 3) := by decide +kernel
theorem dX12_init_144 : decode cX12_init 144 = .ok (.aload_n 0, 1) := by decide +kernel
theorem dX12_init_145 : decode cX12_init 145 = .ok (.sipush 1000, 3) := by decide +kernel
theorem dX12_init_148 : decode cX12_init 148 = .ok (.newarray .boolean, 2) := by decide +kernel
theorem dX12_init_150 : decode cX12_init 150 = .ok (.putfield 66, 3) := by decide +kernel
theorem dX12_init_153 : decode cX12_init 153 = .ok (.aload_n 0, 1) := by decide +kernel
theorem dX12_init_154 : decode cX12_init 154 = .ok (.iconst 4, 1) := by decide +kernel
theorem dX12_init_155 : decode cX12_init 155 = .ok (.newarray .int, 2) := by decide +kernel
theorem dX12_init_157 : decode cX12_init 157 = .ok (.dup, 1) := by decide +kernel
theorem dX12_init_158 : decode cX12_init 158 = .ok (.iconst 0, 1) := by decide +kernel
theorem dX12_init_159 : decode cX12_init 159 = .ok (.iconst (-1), 1) := by decide +kernel
theorem dX12_init_160 : decode cX12_init 160 = .ok (.iastore, 1) := by decide +kernel
theorem dX12_init_161 : decode cX12_init 161 = .ok (.dup, 1) := by decide +kernel
theorem dX12_init_162 : decode cX12_init 162 = .ok (.iconst 1, 1) := by decide +kernel
theorem dX12_init_163 : decode cX12_init 163 = .ok (.iconst (-1), 1) := by decide +kernel
theorem dX12_init_164 : decode cX12_init 164 = .ok (.iastore, 1) := by decide +kernel
theorem dX12_init_165 : decode cX12_init 165 = .ok (.dup, 1) := by decide +kernel
theorem dX12_init_166 : decode cX12_init 166 = .ok (.iconst 2, 1) := by decide +kernel
theorem dX12_init_167 : decode cX12_init 167 = .ok (.iconst (-1), 1) := by decide +kernel
theorem dX12_init_168 : decode cX12_init 168 = .ok (.iastore, 1) := by decide +kernel
theorem dX12_init_169 : decode cX12_init 169 = .ok (.dup, 1) := by decide +kernel
theorem dX12_init_170 : decode cX12_init 170 = .ok (.iconst 3, 1) := by decide +kernel
theorem dX12_init_171 : decode cX12_init 171 = .ok (.iconst (-1), 1) := by decide +kernel
theorem dX12_init_172 : decode cX12_init 172 = .ok (.iastore, 1) := by decide +kernel
theorem dX12_init_173 : decode cX12_init 173 = .ok (.putfield 69, 3) := by decide +kernel
theorem dX12_init_176 : decode cX12_init 176 = .ok (.aload_n 0, 1) := by decide +kernel
theorem dX12_init_177 : decode cX12_init 177 = .ok (.iconst 4, 1) := by decide +kernel
theorem dX12_init_178 : decode cX12_init 178 = .ok (.newarray .int, 2) := by decide +kernel
theorem dX12_init_180 : decode cX12_init 180 = .ok (.putfield 72, 3) := by decide +kernel
theorem dX12_init_183 : decode cX12_init 183 = .ok (.aload_n 0, 1) := by decide +kernel
theorem dX12_init_184 : decode cX12_init 184 = .ok (.sipush 160, 3) := by decide +kernel
theorem dX12_init_187 : decode cX12_init 187 = .ok (.newarray .long, 2) := by decide +kernel
theorem dX12_init_189 : decode cX12_init 189 = .ok (.putfield 75, 3) := by decide +kernel
theorem dX12_init_192 : decode cX12_init 192 = .ok (.aload_n 0, 1) := by decide +kernel
theorem dX12_init_193 : decode cX12_init 193 = .ok (.getfield 13, 3) := by decide +kernel
theorem dX12_init_196 : decode cX12_init 196 = .ok (.invokestatic 79, 3) := by decide +kernel
theorem dX12_init_199 : decode cX12_init 199 = .ok (.return_, 1) := by decide +kernel
theorem dX12_is_0 : decode cX12_is 0 = .ok (.aload_n 0, 1) := by decide +kernel
theorem dX12_is_1 : decode cX12_is 1 = .ok (.getfield 129, 3) := by decide +kernel
theorem dX12_is_4 : decode cX12_is 4 = .ok (.ifCond .ne 15, 3) := by decide +kernel
theorem dX12_is_7 : decode cX12_is 7 = .ok (.aload_n 0, 1) := by decide +kernel
theorem dX12_is_8 : decode cX12_is 8 = .ok (.getfield 111, 3) := by decide +kernel
theorem dX12_is_11 : decode cX12_is 11 = .ok (.iload_n 1, 1) := by decide +kernel
theorem dX12_is_12 : decode cX12_is 12 = .ok (.if_icmp .ne 7, 3) := by decide +kernel
theorem dX12_is_15 : decode cX12_is 15 = .ok (.iconst 1, 1) := by decide +kernel
theorem dX12_is_16 : decode cX12_is 16 = .ok (.goto 4, 3) := by decide +kernel
theorem dX12_is_19 : decode cX12_is 19 = .ok (.iconst 0, 1) := by decide +kernel
theorem dX12_is_20 : decode cX12_is 20 = .ok (.ireturn, 1) := by decide +kernel
theorem dX12_isBill_0 : decode cX12_isBill 0 = .ok (.iload_n 0, 1) := by decide +kernel
theorem dX12_isBill_1 : decode cX12_isBill 1 = .ok (.i2l, 1) := by decide +kernel
theorem dX12_isBill_2 : decode cX12_isBill 2 = .ok (.lconst 0, 1) := by decide +kernel
theorem dX12_isBill_3 : decode cX12_isBill 3 = .ok (.ldc2_w 203, 3) := by decide +kernel
theorem dX12_isBill_6 : decode cX12_isBill 6 = .ok (.invokestatic 145, 3) := by decide +kernel
theorem dX12_isBill_9 : decode cX12_isBill 9 = .ok (.ireturn, 1) := by decide +kernel
theorem dX12_isCovered_0 : decode cX12_isCovered 0 = .ok (.iconst 0, 1) := by decide +kernel
theorem dX12_isCovered_1 : decode cX12_isCovered 1 = .ok (.istore_n 3, 1) := by decide +kernel
theorem dX12_isCovered_2 : decode cX12_isCovered 2 = .ok (.iload_n 3, 1) := by decide +kernel
theorem dX12_isCovered_3 : decode cX12_isCovered 3 = .ok (.aload_n 0, 1) := by decide +kernel
theorem dX12_isCovered_4 : decode cX12_isCovered 4 = .ok (.getfield 13, 3) := by decide +kernel
theorem dX12_isCovered_7 : decode cX12_isCovered 7 = .ok (.iconst 2, 1) := by decide +kernel
theorem dX12_isCovered_8 : decode cX12_isCovered 8 = .ok (.iaload, 1) := by decide +kernel
theorem dX12_isCovered_9 : decode cX12_isCovered 9 = .ok (.if_icmp .ge 31, 3) := by decide +kernel
theorem dX12_isCovered_12 : decode cX12_isCovered 12 = .ok (.iload_n 1, 1) := by decide +kernel
theorem dX12_isCovered_13 : decode cX12_isCovered 13 = .ok (.i2l, 1) := by decide +kernel
theorem dX12_isCovered_14 : decode cX12_isCovered 14 = .ok (.iload_n 3, 1) := by decide +kernel
theorem dX12_isCovered_15 : decode cX12_isCovered 15 = .ok (.invokestatic 251, 3) := by decide +kernel
theorem dX12_isCovered_18 : decode cX12_isCovered 18 = .ok (.ifCond .eq 16, 3) := by decide +kernel
theorem dX12_isCovered_21 : decode cX12_isCovered 21 = .ok (.aload_n 0, 1) := by decide +kernel
theorem dX12_isCovered_22 : decode cX12_isCovered 22 = .ok (.getfield 39, 3) := by decide +kernel
theorem dX12_isCovered_25 : decode cX12_isCovered 25 = .ok (.iload_n 3, 1) := by decide +kernel
theorem dX12_isCovered_26 : decode cX12_isCovered 26 = .ok (.iaload, 1) := by decide +kernel
theorem dX12_isCovered_27 : decode cX12_isCovered 27 = .ok (.iload_n 2, 1) := by decide +kernel
theorem dX12_isCovered_28 : decode cX12_isCovered 28 = .ok (.iand, 1) := by decide +kernel
theorem dX12_isCovered_29 : decode cX12_isCovered 29 = .ok (.ifCond .ne 5, 3) := by decide +kernel
theorem dX12_isCovered_32 : decode cX12_isCovered 32 = .ok (.iconst 0, 1) := by decide +kernel
theorem dX12_isCovered_33 : decode cX12_isCovered 33 = .ok (.ireturn, 1) := by decide +kernel
theorem dX12_isCovered_34 : decode cX12_isCovered 34 = .ok (.iinc 3 1, 3) := by decide +kernel
theorem dX12_isCovered_37 : decode cX12_isCovered 37 = .ok (.goto (-35), 3) := by decide +kernel
theorem dX12_isCovered_40 : decode cX12_isCovered 40 = .ok (.iconst 1, 1) := by decide +kernel
theorem dX12_isCovered_41 : decode cX12_isCovered 41 = .ok (.ireturn, 1) := by decide +kernel
theorem dX12_isPerson_0 : decode cX12_isPerson 0 = .ok (.lload_n 1, 1) := by decide +kernel
theorem dX12_isPerson_1 : decode cX12_isPerson 1 = .ok (.lconst 0, 1) := by decide +kernel
theorem dX12_isPerson_2 : decode cX12_isPerson 2 = .ok (.aload_n 0, 1) := by decide +kernel
theorem dX12_isPerson_3 : decode cX12_isPerson 3 = .ok (.getfield 13, 3) := by decide +kernel
theorem dX12_isPerson_6 : decode cX12_isPerson 6 = .ok (.iconst 2, 1) := by decide +kernel
theorem dX12_isPerson_7 : decode cX12_isPerson 7 = .ok (.iaload, 1) := by decide +kernel
theorem dX12_isPerson_8 : decode cX12_isPerson 8 = .ok (.iconst 1, 1) := by decide +kernel
theorem dX12_isPerson_9 : decode cX12_isPerson 9 = .ok (.isub, 1) := by decide +kernel
theorem dX12_isPerson_10 : decode cX12_isPerson 10 = .ok (.i2l, 1) := by decide +kernel
theorem dX12_isPerson_11 : decode cX12_isPerson 11 = .ok (.invokestatic 145, 3) := by decide +kernel
theorem dX12_isPerson_14 : decode cX12_isPerson 14 = .ok (.ireturn, 1) := by decide +kernel
theorem dX12_isSet_0 : decode cX12_isSet 0 = .ok (.iload_n 1, 1) := by decide +kernel
theorem dX12_isSet_1 : decode cX12_isSet 1 = .ok (.aload_n 0, 1) := by decide +kernel
theorem dX12_isSet_2 : decode cX12_isSet 2 = .ok (.invokevirtual 217, 3) := by decide +kernel
theorem dX12_isSet_5 : decode cX12_isSet 5 = .ok (.iconst (-1), 1) := by decide +kernel
theorem dX12_isSet_6 : decode cX12_isSet 6 = .ok (.ixor, 1) := by decide +kernel
theorem dX12_isSet_7 : decode cX12_isSet 7 = .ok (.iand, 1) := by decide +kernel
theorem dX12_isSet_8 : decode cX12_isSet 8 = .ok (.ifCond .ne 7, 3) := by decide +kernel
theorem dX12_isSet_11 : decode cX12_isSet 11 = .ok (.iconst 1, 1) := by decide +kernel
theorem dX12_isSet_12 : decode cX12_isSet 12 = .ok (.goto 4, 3) := by decide +kernel
theorem dX12_isSet_15 : decode cX12_isSet 15 = .ok (.iconst 0, 1) := by decide +kernel
theorem dX12_isSet_16 : decode cX12_isSet 16 = .ok (.ireturn, 1) := by decide +kernel
theorem dX12_judge_0 : decode cX12_judge 0 = .ok (.aload_n 0, 1) := by decide +kernel
theorem dX12_judge_1 : decode cX12_judge 1 = .ok (.iconst 0, 1) := by decide +kernel
theorem dX12_judge_2 : decode cX12_judge 2 = .ok (.putfield 1, 3) := by decide +kernel
theorem dX12_judge_5 : decode cX12_judge 5 = .ok (.iload_n 2, 1) := by decide +kernel
theorem dX12_judge_6 : decode cX12_judge 6 = .ok (.i2l, 1) := by decide +kernel
theorem dX12_judge_7 : decode cX12_judge 7 = .ok (.lconst 0, 1) := by decide +kernel
theorem dX12_judge_8 : decode cX12_judge 8 = .ok (.ldc2_w 311, 3) := by decide +kernel
theorem dX12_judge_11 : decode cX12_judge 11 = .ok (.invokestatic 145, 3) := by decide +kernel
theorem dX12_judge_14 : decode cX12_judge 14 = .ok (.ifCond .ne 6, 3) := by decide +kernel
theorem dX12_judge_17 : decode cX12_judge 17 = .ok (.bipush (-2), 2) := by decide +kernel
theorem dX12_judge_19 : decode cX12_judge 19 = .ok (.ireturn, 1) := by decide +kernel
theorem dX12_judge_20 : decode cX12_judge 20 = .ok (.aload_n 0, 1) := by decide +kernel
theorem dX12_judge_21 : decode cX12_judge 21 = .ok (.iload_n 1, 1) := by decide +kernel
theorem dX12_judge_22 : decode cX12_judge 22 = .ok (.invokevirtual 313, 3) := by decide +kernel
theorem dX12_judge_25 : decode cX12_judge 25 = .ok (.istore_n 3, 1) := by decide +kernel
theorem dX12_judge_26 : decode cX12_judge 26 = .ok (.iload_n 3, 1) := by decide +kernel
theorem dX12_judge_27 : decode cX12_judge 27 = .ok (.ifCond .eq 5, 3) := by decide +kernel
theorem dX12_judge_30 : decode cX12_judge 30 = .ok (.iload_n 3, 1) := by decide +kernel
theorem dX12_judge_31 : decode cX12_judge 31 = .ok (.ireturn, 1) := by decide +kernel
theorem dX12_judge_32 : decode cX12_judge 32 = .ok (.aload_n 0, 1) := by decide +kernel
theorem dX12_judge_33 : decode cX12_judge 33 = .ok (.invokevirtual 267, 3) := by decide +kernel
theorem dX12_judge_36 : decode cX12_judge 36 = .ok (.aload_n 0, 1) := by decide +kernel
theorem dX12_judge_37 : decode cX12_judge 37 = .ok (.iload_n 1, 1) := by decide +kernel
theorem dX12_judge_38 : decode cX12_judge 38 = .ok (.invokevirtual 316, 3) := by decide +kernel
theorem dX12_judge_41 : decode cX12_judge 41 = .ok (.istore 4, 2) := by decide +kernel
theorem dX12_judge_43 : decode cX12_judge 43 = .ok (.aload_n 0, 1) := by decide +kernel
theorem dX12_judge_44 : decode cX12_judge 44 = .ok (.aload_n 0, 1) := by decide +kernel
theorem dX12_judge_45 : decode cX12_judge 45 = .ok (.invokevirtual 255, 3) := by decide +kernel
theorem dX12_judge_48 : decode cX12_judge 48 = .ok (.invokevirtual 319, 3) := by decide +kernel
theorem dX12_judge_51 : decode cX12_judge 51 = .ok (.ifCond .eq 7, 3) := by decide +kernel
theorem dX12_judge_54 : decode cX12_judge 54 = .ok (.iconst 1, 1) := by decide +kernel
theorem dX12_judge_55 : decode cX12_judge 55 = .ok (.goto 4, 3) := by decide +kernel
theorem dX12_judge_58 : decode cX12_judge 58 = .ok (.iconst 0, 1) := by decide +kernel
theorem dX12_judge_59 : decode cX12_judge 59 = .ok (.istore 5, 2) := by decide +kernel
theorem dX12_judge_61 : decode cX12_judge 61 = .ok (.aload_n 0, 1) := by decide +kernel
theorem dX12_judge_62 : decode cX12_judge 62 = .ok (.getfield 13, 3) := by decide +kernel
theorem dX12_judge_65 : decode cX12_judge 65 = .ok (.bipush 52, 2) := by decide +kernel
theorem dX12_judge_67 : decode cX12_judge 67 = .ok (.iaload, 1) := by decide +kernel
theorem dX12_judge_68 : decode cX12_judge 68 = .ok (.istore 6, 2) := by decide +kernel
theorem dX12_judge_70 : decode cX12_judge 70 = .ok (.aload_n 0, 1) := by decide +kernel
theorem dX12_judge_71 : decode cX12_judge 71 = .ok (.invokevirtual 322, 3) := by decide +kernel
theorem dX12_judge_74 : decode cX12_judge 74 = .ok (.iload_n 2, 1) := by decide +kernel
theorem dX12_judge_75 : decode cX12_judge 75 = .ok (.ifCond .ne 19, 3) := by decide +kernel
theorem dX12_judge_78 : decode cX12_judge 78 = .ok (.aload_n 0, 1) := by decide +kernel
theorem dX12_judge_79 : decode cX12_judge 79 = .ok (.getfield 301, 3) := by decide +kernel
theorem dX12_judge_82 : decode cX12_judge 82 = .ok (.ifCond .ne 7, 3) := by decide +kernel
theorem dX12_judge_85 : decode cX12_judge 85 = .ok (.iconst (-1), 1) := by decide +kernel
theorem dX12_judge_86 : decode cX12_judge 86 = .ok (.goto 32, 3) := by decide +kernel
theorem dX12_judge_89 : decode cX12_judge 89 = .ok (.iload 4, 2) := by decide +kernel
theorem dX12_judge_91 : decode cX12_judge 91 = .ok (.goto 27, 3) := by decide +kernel
theorem dX12_judge_94 : decode cX12_judge 94 = .ok (.iload_n 2, 1) := by decide +kernel
theorem dX12_judge_95 : decode cX12_judge 95 = .ok (.iconst 1, 1) := by decide +kernel
theorem dX12_judge_96 : decode cX12_judge 96 = .ok (.if_icmp .ne 10, 3) := by decide +kernel
theorem dX12_judge_99 : decode cX12_judge 99 = .ok (.aload_n 0, 1) := by decide +kernel
theorem dX12_judge_100 : decode cX12_judge 100 = .ok (.getfield 301, 3) := by decide +kernel
theorem dX12_judge_103 : decode cX12_judge 103 = .ok (.goto 15, 3) := by decide +kernel
theorem dX12_judge_106 : decode cX12_judge 106 = .ok (.iload_n 2, 1) := by decide +kernel
theorem dX12_judge_107 : decode cX12_judge 107 = .ok (.iconst 2, 1) := by decide +kernel
theorem dX12_judge_108 : decode cX12_judge 108 = .ok (.if_icmp .ne 8, 3) := by decide +kernel
theorem dX12_judge_111 : decode cX12_judge 111 = .ok (.iload 5, 2) := by decide +kernel
theorem dX12_judge_113 : decode cX12_judge 113 = .ok (.goto 5, 3) := by decide +kernel
theorem dX12_judge_116 : decode cX12_judge 116 = .ok (.iload 6, 2) := by decide +kernel
theorem dX12_judge_118 : decode cX12_judge 118 = .ok (.ireturn, 1) := by decide +kernel
theorem dX12_keeps_0 : decode cX12_keeps 0 = .ok (.iconst 0, 1) := by decide +kernel
theorem dX12_keeps_1 : decode cX12_keeps 1 = .ok (.istore_n 1, 1) := by decide +kernel
theorem dX12_keeps_2 : decode cX12_keeps 2 = .ok (.iload_n 1, 1) := by decide +kernel
theorem dX12_keeps_3 : decode cX12_keeps 3 = .ok (.bipush 32, 2) := by decide +kernel
theorem dX12_keeps_5 : decode cX12_keeps 5 = .ok (.if_icmp .ge 24, 3) := by decide +kernel
theorem dX12_keeps_8 : decode cX12_keeps 8 = .ok (.aload_n 0, 1) := by decide +kernel
theorem dX12_keeps_9 : decode cX12_keeps 9 = .ok (.getfield 42, 3) := by decide +kernel
theorem dX12_keeps_12 : decode cX12_keeps 12 = .ok (.iload_n 1, 1) := by decide +kernel
theorem dX12_keeps_13 : decode cX12_keeps 13 = .ok (.aload_n 0, 1) := by decide +kernel
theorem dX12_keeps_14 : decode cX12_keeps 14 = .ok (.getfield 13, 3) := by decide +kernel
theorem dX12_keeps_17 : decode cX12_keeps 17 = .ok (.bipush 52, 2) := by decide +kernel
theorem dX12_keeps_19 : decode cX12_keeps 19 = .ok (.iload_n 1, 1) := by decide +kernel
theorem dX12_keeps_20 : decode cX12_keeps 20 = .ok (.iadd, 1) := by decide +kernel
theorem dX12_keeps_21 : decode cX12_keeps 21 = .ok (.iaload, 1) := by decide +kernel
theorem dX12_keeps_22 : decode cX12_keeps 22 = .ok (.iastore, 1) := by decide +kernel
theorem dX12_keeps_23 : decode cX12_keeps 23 = .ok (.iinc 1 1, 3) := by decide +kernel
theorem dX12_keeps_26 : decode cX12_keeps 26 = .ok (.goto (-24), 3) := by decide +kernel
theorem dX12_keeps_29 : decode cX12_keeps 29 = .ok (.return_, 1) := by decide +kernel
theorem dX12_laundress_0 : decode cX12_laundress 0 = .ok (.aload_n 0, 1) := by decide +kernel
theorem dX12_laundress_1 : decode cX12_laundress 1 = .ok (.iconst 0, 1) := by decide +kernel
theorem dX12_laundress_2 : decode cX12_laundress 2 = .ok (.putfield 1, 3) := by decide +kernel
theorem dX12_laundress_5 : decode cX12_laundress 5 = .ok (.aload_n 0, 1) := by decide +kernel
theorem dX12_laundress_6 : decode cX12_laundress 6 = .ok (.iload_n 1, 1) := by decide +kernel
theorem dX12_laundress_7 : decode cX12_laundress 7 = .ok (.invokevirtual 349, 3) := by decide +kernel
theorem dX12_laundress_10 : decode cX12_laundress 10 = .ok (.ifCond .ne 6, 3) := by decide +kernel
theorem dX12_laundress_13 : decode cX12_laundress 13 = .ok (.bipush (-3), 2) := by decide +kernel
theorem dX12_laundress_15 : decode cX12_laundress 15 = .ok (.ireturn, 1) := by decide +kernel
theorem dX12_laundress_16 : decode cX12_laundress 16 = .ok (.aload_n 0, 1) := by decide +kernel
theorem dX12_laundress_17 : decode cX12_laundress 17 = .ok (.aload_n 0, 1) := by decide +kernel
theorem dX12_laundress_18 : decode cX12_laundress 18 = .ok (.getfield 13, 3) := by decide +kernel
theorem dX12_laundress_21 : decode cX12_laundress 21 = .ok (.bipush 52, 2) := by decide +kernel
theorem dX12_laundress_23 : decode cX12_laundress 23 = .ok (.iaload, 1) := by decide +kernel
theorem dX12_laundress_24 : decode cX12_laundress 24 = .ok (.invokevirtual 340, 3) := by decide +kernel
theorem dX12_laundress_27 : decode cX12_laundress 27 = .ok (.aload_n 0, 1) := by decide +kernel
theorem dX12_laundress_28 : decode cX12_laundress 28 = .ok (.invokevirtual 255, 3) := by decide +kernel
theorem dX12_laundress_31 : decode cX12_laundress 31 = .ok (.iload_n 1, 1) := by decide +kernel
theorem dX12_laundress_32 : decode cX12_laundress 32 = .ok (.iconst (-1), 1) := by decide +kernel
theorem dX12_laundress_33 : decode cX12_laundress 33 = .ok (.ixor, 1) := by decide +kernel
theorem dX12_laundress_34 : decode cX12_laundress 34 = .ok (.iand, 1) := by decide +kernel
theorem dX12_laundress_35 : decode cX12_laundress 35 = .ok (.istore_n 2, 1) := by decide +kernel
theorem dX12_laundress_36 : decode cX12_laundress 36 = .ok (.iconst (-1), 1) := by decide +kernel
theorem dX12_laundress_37 : decode cX12_laundress 37 = .ok (.istore_n 3, 1) := by decide +kernel
theorem dX12_laundress_38 : decode cX12_laundress 38 = .ok (.iconst 0, 1) := by decide +kernel
theorem dX12_laundress_39 : decode cX12_laundress 39 = .ok (.istore 4, 2) := by decide +kernel
theorem dX12_laundress_41 : decode cX12_laundress 41 = .ok (.iload 4, 2) := by decide +kernel
theorem dX12_laundress_43 : decode cX12_laundress 43 = .ok (.aload_n 0, 1) := by decide +kernel
theorem dX12_laundress_44 : decode cX12_laundress 44 = .ok (.getfield 13, 3) := by decide +kernel
theorem dX12_laundress_47 : decode cX12_laundress 47 = .ok (.iconst 2, 1) := by decide +kernel
theorem dX12_laundress_48 : decode cX12_laundress 48 = .ok (.iaload, 1) := by decide +kernel
theorem dX12_laundress_49 : decode cX12_laundress 49 = .ok (.if_icmp .ge 53, 3) := by decide +kernel
theorem dX12_laundress_52 : decode cX12_laundress 52 = .ok (.iload_n 2, 1) := by decide +kernel
theorem dX12_laundress_53 : decode cX12_laundress 53 = .ok (.i2l, 1) := by decide +kernel
theorem dX12_laundress_54 : decode cX12_laundress 54 = .ok (.iload 4, 2) := by decide +kernel
theorem dX12_laundress_56 : decode cX12_laundress 56 = .ok (.invokestatic 251, 3) := by decide +kernel
theorem dX12_laundress_59 : decode cX12_laundress 59 = .ok (.ifCond .eq 37, 3) := by decide +kernel
theorem dX12_laundress_62 : decode cX12_laundress 62 = .ok (.iload_n 3, 1) := by decide +kernel
theorem dX12_laundress_63 : decode cX12_laundress 63 = .ok (.iconst (-1), 1) := by decide +kernel
theorem dX12_laundress_64 : decode cX12_laundress 64 = .ok (.if_icmp .eq 29, 3) := by decide +kernel
theorem dX12_laundress_67 : decode cX12_laundress 67 = .ok (.aload_n 0, 1) := by decide +kernel
theorem dX12_laundress_68 : decode cX12_laundress 68 = .ok (.getfield 39, 3) := by decide +kernel
theorem dX12_laundress_71 : decode cX12_laundress 71 = .ok (.iload 4, 2) := by decide +kernel
theorem dX12_laundress_73 : decode cX12_laundress 73 = .ok (.iaload, 1) := by decide +kernel
theorem dX12_laundress_74 : decode cX12_laundress 74 = .ok (.iload_n 1, 1) := by decide +kernel
theorem dX12_laundress_75 : decode cX12_laundress 75 = .ok (.iand, 1) := by decide +kernel
theorem dX12_laundress_76 : decode cX12_laundress 76 = .ok (.invokestatic 281, 3) := by decide +kernel
theorem dX12_laundress_79 : decode cX12_laundress 79 = .ok (.aload_n 0, 1) := by decide +kernel
theorem dX12_laundress_80 : decode cX12_laundress 80 = .ok (.getfield 39, 3) := by decide +kernel
theorem dX12_laundress_83 : decode cX12_laundress 83 = .ok (.iload_n 3, 1) := by decide +kernel
theorem dX12_laundress_84 : decode cX12_laundress 84 = .ok (.iaload, 1) := by decide +kernel
theorem dX12_laundress_85 : decode cX12_laundress 85 = .ok (.iload_n 1, 1) := by decide +kernel
theorem dX12_laundress_86 : decode cX12_laundress 86 = .ok (.iand, 1) := by decide +kernel
theorem dX12_laundress_87 : decode cX12_laundress 87 = .ok (.invokestatic 281, 3) := by decide +kernel
theorem dX12_laundress_90 : decode cX12_laundress 90 = .ok (.if_icmp .le 6, 3) := by decide +kernel
theorem dX12_laundress_93 : decode cX12_laundress 93 = .ok (.iload 4, 2) := by decide +kernel
theorem dX12_laundress_95 : decode cX12_laundress 95 = .ok (.istore_n 3, 1) := by decide +kernel
theorem dX12_laundress_96 : decode cX12_laundress 96 = .ok (.iinc 4 1, 3) := by decide +kernel
theorem dX12_laundress_99 : decode cX12_laundress 99 = .ok (.goto (-58), 3) := by decide +kernel
theorem dX12_laundress_102 : decode cX12_laundress 102 = .ok (.iload_n 3, 1) := by decide +kernel
theorem dX12_laundress_103 : decode cX12_laundress 103 = .ok (.ireturn, 1) := by decide +kernel
theorem dX12_laysNow_0 : decode cX12_laysNow 0 = .ok (.aload_n 0, 1) := by decide +kernel
theorem dX12_laysNow_1 : decode cX12_laysNow 1 = .ok (.aload_n 0, 1) := by decide +kernel
theorem dX12_laysNow_2 : decode cX12_laysNow 2 = .ok (.getfield 13, 3) := by decide +kernel
theorem dX12_laysNow_5 : decode cX12_laysNow 5 = .ok (.bipush 52, 2) := by decide +kernel
theorem dX12_laysNow_7 : decode cX12_laysNow 7 = .ok (.iaload, 1) := by decide +kernel
theorem dX12_laysNow_8 : decode cX12_laysNow 8 = .ok (.invokevirtual 340, 3) := by decide +kernel
theorem dX12_laysNow_11 : decode cX12_laysNow 11 = .ok (.aload_n 0, 1) := by decide +kernel
theorem dX12_laysNow_12 : decode cX12_laysNow 12 = .ok (.invokevirtual 343, 3) := by decide +kernel
theorem dX12_laysNow_15 : decode cX12_laysNow 15 = .ok (.return_, 1) := by decide +kernel
theorem dX12_laysOpposed_0 : decode cX12_laysOpposed 0 = .ok (.iconst 0, 1) := by decide +kernel
theorem dX12_laysOpposed_1 : decode cX12_laysOpposed 1 = .ok (.istore_n 2, 1) := by decide +kernel
theorem dX12_laysOpposed_2 : decode cX12_laysOpposed 2 = .ok (.iload_n 2, 1) := by decide +kernel
theorem dX12_laysOpposed_3 : decode cX12_laysOpposed 3 = .ok (.aload_n 0, 1) := by decide +kernel
theorem dX12_laysOpposed_4 : decode cX12_laysOpposed 4 = .ok (.getfield 13, 3) := by decide +kernel
theorem dX12_laysOpposed_7 : decode cX12_laysOpposed 7 = .ok (.iconst 2, 1) := by decide +kernel
theorem dX12_laysOpposed_8 : decode cX12_laysOpposed 8 = .ok (.iaload, 1) := by decide +kernel
theorem dX12_laysOpposed_9 : decode cX12_laysOpposed 9 = .ok (.if_icmp .ge 16, 3) := by decide +kernel
theorem dX12_laysOpposed_12 : decode cX12_laysOpposed 12 = .ok (.aload_n 0, 1) := by decide +kernel
theorem dX12_laysOpposed_13 : decode cX12_laysOpposed 13 = .ok (.getfield 39, 3) := by decide +kernel
theorem dX12_laysOpposed_16 : decode cX12_laysOpposed 16 = .ok (.iload_n 2, 1) := by decide +kernel
theorem dX12_laysOpposed_17 : decode cX12_laysOpposed 17 = .ok (.iconst 0, 1) := by decide +kernel
theorem dX12_laysOpposed_18 : decode cX12_laysOpposed 18 = .ok (.iastore, 1) := by decide +kernel
theorem dX12_laysOpposed_19 : decode cX12_laysOpposed 19 = .ok (.iinc 2 1, 3) := by decide +kernel
theorem dX12_laysOpposed_22 : decode cX12_laysOpposed 22 = .ok (.goto (-20), 3) := by decide +kernel
theorem dX12_laysOpposed_25 : decode cX12_laysOpposed 25 = .ok (.iconst 0, 1) := by decide +kernel
theorem dX12_laysOpposed_26 : decode cX12_laysOpposed 26 = .ok (.istore_n 2, 1) := by decide +kernel
theorem dX12_laysOpposed_27 : decode cX12_laysOpposed 27 = .ok (.iload_n 2, 1) := by decide +kernel
theorem dX12_laysOpposed_28 : decode cX12_laysOpposed 28 = .ok (.aload_n 0, 1) := by decide +kernel
theorem dX12_laysOpposed_29 : decode cX12_laysOpposed 29 = .ok (.getfield 13, 3) := by decide +kernel
theorem dX12_laysOpposed_32 : decode cX12_laysOpposed 32 = .ok (.iconst 2, 1) := by decide +kernel
theorem dX12_laysOpposed_33 : decode cX12_laysOpposed 33 = .ok (.iaload, 1) := by decide +kernel
theorem dX12_laysOpposed_34 : decode cX12_laysOpposed 34 = .ok (.if_icmp .ge 59, 3) := by decide +kernel
theorem dX12_laysOpposed_37 : decode cX12_laysOpposed 37 = .ok (.iconst 0, 1) := by decide +kernel
theorem dX12_laysOpposed_38 : decode cX12_laysOpposed 38 = .ok (.istore_n 3, 1) := by decide +kernel
theorem dX12_laysOpposed_39 : decode cX12_laysOpposed 39 = .ok (.iload_n 3, 1) := by decide +kernel
theorem dX12_laysOpposed_40 : decode cX12_laysOpposed 40 = .ok (.iload_n 2, 1) := by decide +kernel
theorem dX12_laysOpposed_41 : decode cX12_laysOpposed 41 = .ok (.if_icmp .ge 46, 3) := by decide +kernel
theorem dX12_laysOpposed_44 : decode cX12_laysOpposed 44 = .ok (.aload_n 0, 1) := by decide +kernel
theorem dX12_laysOpposed_45 : decode cX12_laysOpposed 45 = .ok (.iload_n 2, 1) := by decide +kernel
theorem dX12_laysOpposed_46 : decode cX12_laysOpposed 46 = .ok (.iload_n 3, 1) := by decide +kernel
theorem dX12_laysOpposed_47 : decode cX12_laysOpposed 47 = .ok (.iload_n 1, 1) := by decide +kernel
theorem dX12_laysOpposed_48 : decode cX12_laysOpposed 48 = .ok (.invokevirtual 241, 3) := by decide +kernel
theorem dX12_laysOpposed_51 : decode cX12_laysOpposed 51 = .ok (.ifCond .ne 6, 3) := by decide +kernel
theorem dX12_laysOpposed_54 : decode cX12_laysOpposed 54 = .ok (.goto 27, 3) := by decide +kernel
theorem dX12_laysOpposed_57 : decode cX12_laysOpposed 57 = .ok (.aload_n 0, 1) := by decide +kernel
theorem dX12_laysOpposed_58 : decode cX12_laysOpposed 58 = .ok (.getfield 39, 3) := by decide +kernel
theorem dX12_laysOpposed_61 : decode cX12_laysOpposed 61 = .ok (.iload_n 2, 1) := by decide +kernel
theorem dX12_laysOpposed_62 : decode cX12_laysOpposed 62 = .ok (.dup2, 1) := by decide +kernel
theorem dX12_laysOpposed_63 : decode cX12_laysOpposed 63 = .ok (.iaload, 1) := by decide +kernel
theorem dX12_laysOpposed_64 : decode cX12_laysOpposed 64 = .ok (.iconst 1, 1) := by decide +kernel
theorem dX12_laysOpposed_65 : decode cX12_laysOpposed 65 = .ok (.iload_n 3, 1) := by decide +kernel
theorem dX12_laysOpposed_66 : decode cX12_laysOpposed 66 = .ok (.ishl, 1) := by decide +kernel
theorem dX12_laysOpposed_67 : decode cX12_laysOpposed 67 = .ok (.ior, 1) := by decide +kernel
theorem dX12_laysOpposed_68 : decode cX12_laysOpposed 68 = .ok (.iastore, 1) := by decide +kernel
theorem dX12_laysOpposed_69 : decode cX12_laysOpposed 69 = .ok (.aload_n 0, 1) := by decide +kernel
theorem dX12_laysOpposed_70 : decode cX12_laysOpposed 70 = .ok (.getfield 39, 3) := by decide +kernel
theorem dX12_laysOpposed_73 : decode cX12_laysOpposed 73 = .ok (.iload_n 3, 1) := by decide +kernel
theorem dX12_laysOpposed_74 : decode cX12_laysOpposed 74 = .ok (.dup2, 1) := by decide +kernel
theorem dX12_laysOpposed_75 : decode cX12_laysOpposed 75 = .ok (.iaload, 1) := by decide +kernel
theorem dX12_laysOpposed_76 : decode cX12_laysOpposed 76 = .ok (.iconst 1, 1) := by decide +kernel
theorem dX12_laysOpposed_77 : decode cX12_laysOpposed 77 = .ok (.iload_n 2, 1) := by decide +kernel
theorem dX12_laysOpposed_78 : decode cX12_laysOpposed 78 = .ok (.ishl, 1) := by decide +kernel
theorem dX12_laysOpposed_79 : decode cX12_laysOpposed 79 = .ok (.ior, 1) := by decide +kernel
theorem dX12_laysOpposed_80 : decode cX12_laysOpposed 80 = .ok (.iastore, 1) := by decide +kernel
theorem dX12_laysOpposed_81 : decode cX12_laysOpposed 81 = .ok (.iinc 3 1, 3) := by decide +kernel
theorem dX12_laysOpposed_84 : decode cX12_laysOpposed 84 = .ok (.goto (-45), 3) := by decide +kernel
theorem dX12_laysOpposed_87 : decode cX12_laysOpposed 87 = .ok (.iinc 2 1, 3) := by decide +kernel
theorem dX12_laysOpposed_90 : decode cX12_laysOpposed 90 = .ok (.goto (-63), 3) := by decide +kernel
theorem dX12_laysOpposed_93 : decode cX12_laysOpposed 93 = .ok (.return_, 1) := by decide +kernel
theorem dX12_laysPairs_0 : decode cX12_laysPairs 0 = .ok (.aload_n 0, 1) := by decide +kernel
theorem dX12_laysPairs_1 : decode cX12_laysPairs 1 = .ok (.iconst (-1), 1) := by decide +kernel
theorem dX12_laysPairs_2 : decode cX12_laysPairs 2 = .ok (.putfield 352, 3) := by decide +kernel
theorem dX12_laysPairs_5 : decode cX12_laysPairs 5 = .ok (.aload_n 0, 1) := by decide +kernel
theorem dX12_laysPairs_6 : decode cX12_laysPairs 6 = .ok (.iconst (-1), 1) := by decide +kernel
theorem dX12_laysPairs_7 : decode cX12_laysPairs 7 = .ok (.putfield 355, 3) := by decide +kernel
theorem dX12_laysPairs_10 : decode cX12_laysPairs 10 = .ok (.iconst 0, 1) := by decide +kernel
theorem dX12_laysPairs_11 : decode cX12_laysPairs 11 = .ok (.istore_n 2, 1) := by decide +kernel
theorem dX12_laysPairs_12 : decode cX12_laysPairs 12 = .ok (.iload_n 2, 1) := by decide +kernel
theorem dX12_laysPairs_13 : decode cX12_laysPairs 13 = .ok (.bipush 10, 2) := by decide +kernel
theorem dX12_laysPairs_15 : decode cX12_laysPairs 15 = .ok (.if_icmp .ge 16, 3) := by decide +kernel
theorem dX12_laysPairs_18 : decode cX12_laysPairs 18 = .ok (.aload_n 0, 1) := by decide +kernel
theorem dX12_laysPairs_19 : decode cX12_laysPairs 19 = .ok (.getfield 48, 3) := by decide +kernel
theorem dX12_laysPairs_22 : decode cX12_laysPairs 22 = .ok (.iload_n 2, 1) := by decide +kernel
theorem dX12_laysPairs_23 : decode cX12_laysPairs 23 = .ok (.iconst (-1), 1) := by decide +kernel
theorem dX12_laysPairs_24 : decode cX12_laysPairs 24 = .ok (.iastore, 1) := by decide +kernel
theorem dX12_laysPairs_25 : decode cX12_laysPairs 25 = .ok (.iinc 2 1, 3) := by decide +kernel
theorem dX12_laysPairs_28 : decode cX12_laysPairs 28 = .ok (.goto (-16), 3) := by decide +kernel
theorem dX12_laysPairs_31 : decode cX12_laysPairs 31 = .ok (.aload_n 0, 1) := by decide +kernel
theorem dX12_laysPairs_32 : decode cX12_laysPairs 32 = .ok (.iload_n 1, 1) := by decide +kernel
theorem dX12_laysPairs_33 : decode cX12_laysPairs 33 = .ok (.iconst 0, 1) := by decide +kernel
theorem dX12_laysPairs_34 : decode cX12_laysPairs 34 = .ok (.iconst 0, 1) := by decide +kernel
theorem dX12_laysPairs_35 : decode cX12_laysPairs 35 = .ok (.invokevirtual 358, 3) := by decide +kernel
theorem dX12_laysPairs_38 : decode cX12_laysPairs 38 = .ok (.return_, 1) := by decide +kernel
theorem dX12_laysParted_0 : decode cX12_laysParted 0 = .ok (.aload_n 0, 1) := by decide +kernel
theorem dX12_laysParted_1 : decode cX12_laysParted 1 = .ok (.getfield 45, 3) := by decide +kernel
theorem dX12_laysParted_4 : decode cX12_laysParted 4 = .ok (.iconst 0, 1) := by decide +kernel
theorem dX12_laysParted_5 : decode cX12_laysParted 5 = .ok (.iconst 1, 1) := by decide +kernel
theorem dX12_laysParted_6 : decode cX12_laysParted 6 = .ok (.iastore, 1) := by decide +kernel
theorem dX12_laysParted_7 : decode cX12_laysParted 7 = .ok (.iconst 1, 1) := by decide +kernel
theorem dX12_laysParted_8 : decode cX12_laysParted 8 = .ok (.istore_n 1, 1) := by decide +kernel
theorem dX12_laysParted_9 : decode cX12_laysParted 9 = .ok (.iload_n 1, 1) := by decide +kernel
theorem dX12_laysParted_10 : decode cX12_laysParted 10 = .ok (.iconst 1, 1) := by decide +kernel
theorem dX12_laysParted_11 : decode cX12_laysParted 11 = .ok (.aload_n 0, 1) := by decide +kernel
theorem dX12_laysParted_12 : decode cX12_laysParted 12 = .ok (.getfield 13, 3) := by decide +kernel
theorem dX12_laysParted_15 : decode cX12_laysParted 15 = .ok (.iconst 2, 1) := by decide +kernel
theorem dX12_laysParted_16 : decode cX12_laysParted 16 = .ok (.iaload, 1) := by decide +kernel
theorem dX12_laysParted_17 : decode cX12_laysParted 17 = .ok (.ishl, 1) := by decide +kernel
theorem dX12_laysParted_18 : decode cX12_laysParted 18 = .ok (.if_icmp .ge 84, 3) := by decide +kernel
theorem dX12_laysParted_21 : decode cX12_laysParted 21 = .ok (.iload_n 1, 1) := by decide +kernel
theorem dX12_laysParted_22 : decode cX12_laysParted 22 = .ok (.invokestatic 337, 3) := by decide +kernel
theorem dX12_laysParted_25 : decode cX12_laysParted 25 = .ok (.istore_n 2, 1) := by decide +kernel
theorem dX12_laysParted_26 : decode cX12_laysParted 26 = .ok (.iconst 0, 1) := by decide +kernel
theorem dX12_laysParted_27 : decode cX12_laysParted 27 = .ok (.istore_n 3, 1) := by decide +kernel
theorem dX12_laysParted_28 : decode cX12_laysParted 28 = .ok (.iload_n 2, 1) := by decide +kernel
theorem dX12_laysParted_29 : decode cX12_laysParted 29 = .ok (.iconst 1, 1) := by decide +kernel
theorem dX12_laysParted_30 : decode cX12_laysParted 30 = .ok (.iadd, 1) := by decide +kernel
theorem dX12_laysParted_31 : decode cX12_laysParted 31 = .ok (.istore 4, 2) := by decide +kernel
theorem dX12_laysParted_33 : decode cX12_laysParted 33 = .ok (.iload 4, 2) := by decide +kernel
theorem dX12_laysParted_35 : decode cX12_laysParted 35 = .ok (.aload_n 0, 1) := by decide +kernel
theorem dX12_laysParted_36 : decode cX12_laysParted 36 = .ok (.getfield 13, 3) := by decide +kernel
theorem dX12_laysParted_39 : decode cX12_laysParted 39 = .ok (.iconst 2, 1) := by decide +kernel
theorem dX12_laysParted_40 : decode cX12_laysParted 40 = .ok (.iaload, 1) := by decide +kernel
theorem dX12_laysParted_41 : decode cX12_laysParted 41 = .ok (.if_icmp .ge 48, 3) := by decide +kernel
theorem dX12_laysParted_44 : decode cX12_laysParted 44 = .ok (.iload_n 1, 1) := by decide +kernel
theorem dX12_laysParted_45 : decode cX12_laysParted 45 = .ok (.aload_n 0, 1) := by decide +kernel
theorem dX12_laysParted_46 : decode cX12_laysParted 46 = .ok (.getfield 39, 3) := by decide +kernel
theorem dX12_laysParted_49 : decode cX12_laysParted 49 = .ok (.iload_n 2, 1) := by decide +kernel
theorem dX12_laysParted_50 : decode cX12_laysParted 50 = .ok (.iaload, 1) := by decide +kernel
theorem dX12_laysParted_51 : decode cX12_laysParted 51 = .ok (.iand, 1) := by decide +kernel
theorem dX12_laysParted_52 : decode cX12_laysParted 52 = .ok (.i2l, 1) := by decide +kernel
theorem dX12_laysParted_53 : decode cX12_laysParted 53 = .ok (.iload 4, 2) := by decide +kernel
theorem dX12_laysParted_55 : decode cX12_laysParted 55 = .ok (.invokestatic 251, 3) := by decide +kernel
theorem dX12_laysParted_58 : decode cX12_laysParted 58 = .ok (.ifCond .eq 25, 3) := by decide +kernel
theorem dX12_laysParted_61 : decode cX12_laysParted 61 = .ok (.iload_n 3, 1) := by decide +kernel
theorem dX12_laysParted_62 : decode cX12_laysParted 62 = .ok (.aload_n 0, 1) := by decide +kernel
theorem dX12_laysParted_63 : decode cX12_laysParted 63 = .ok (.getfield 45, 3) := by decide +kernel
theorem dX12_laysParted_66 : decode cX12_laysParted 66 = .ok (.iload_n 1, 1) := by decide +kernel
theorem dX12_laysParted_67 : decode cX12_laysParted 67 = .ok (.iconst 1, 1) := by decide +kernel
theorem dX12_laysParted_68 : decode cX12_laysParted 68 = .ok (.iload_n 2, 1) := by decide +kernel
theorem dX12_laysParted_69 : decode cX12_laysParted 69 = .ok (.ishl, 1) := by decide +kernel
theorem dX12_laysParted_70 : decode cX12_laysParted 70 = .ok (.iconst (-1), 1) := by decide +kernel
theorem dX12_laysParted_71 : decode cX12_laysParted 71 = .ok (.ixor, 1) := by decide +kernel
theorem dX12_laysParted_72 : decode cX12_laysParted 72 = .ok (.iand, 1) := by decide +kernel
theorem dX12_laysParted_73 : decode cX12_laysParted 73 = .ok (.iconst 1, 1) := by decide +kernel
theorem dX12_laysParted_74 : decode cX12_laysParted 74 = .ok (.iload 4, 2) := by decide +kernel
theorem dX12_laysParted_76 : decode cX12_laysParted 76 = .ok (.ishl, 1) := by decide +kernel
theorem dX12_laysParted_77 : decode cX12_laysParted 77 = .ok (.iconst (-1), 1) := by decide +kernel
theorem dX12_laysParted_78 : decode cX12_laysParted 78 = .ok (.ixor, 1) := by decide +kernel
theorem dX12_laysParted_79 : decode cX12_laysParted 79 = .ok (.iand, 1) := by decide +kernel
theorem dX12_laysParted_80 : decode cX12_laysParted 80 = .ok (.iaload, 1) := by decide +kernel
theorem dX12_laysParted_81 : decode cX12_laysParted 81 = .ok (.iadd, 1) := by decide +kernel
theorem dX12_laysParted_82 : decode cX12_laysParted 82 = .ok (.istore_n 3, 1) := by decide +kernel
theorem dX12_laysParted_83 : decode cX12_laysParted 83 = .ok (.iinc 4 1, 3) := by decide +kernel
theorem dX12_laysParted_86 : decode cX12_laysParted 86 = .ok (.goto (-53), 3) := by decide +kernel
theorem dX12_laysParted_89 : decode cX12_laysParted 89 = .ok (.aload_n 0, 1) := by decide +kernel
theorem dX12_laysParted_90 : decode cX12_laysParted 90 = .ok (.getfield 45, 3) := by decide +kernel
theorem dX12_laysParted_93 : decode cX12_laysParted 93 = .ok (.iload_n 1, 1) := by decide +kernel
theorem dX12_laysParted_94 : decode cX12_laysParted 94 = .ok (.iload_n 3, 1) := by decide +kernel
theorem dX12_laysParted_95 : decode cX12_laysParted 95 = .ok (.iastore, 1) := by decide +kernel
theorem dX12_laysParted_96 : decode cX12_laysParted 96 = .ok (.iinc 1 1, 3) := by decide +kernel
theorem dX12_laysParted_99 : decode cX12_laysParted 99 = .ok (.goto (-90), 3) := by decide +kernel
theorem dX12_laysParted_102 : decode cX12_laysParted 102 = .ok (.return_, 1) := by decide +kernel
theorem dX12_lists_0 : decode cX12_lists 0 = .ok (.aload_n 0, 1) := by decide +kernel
theorem dX12_lists_1 : decode cX12_lists 1 = .ok (.iconst 0, 1) := by decide +kernel
theorem dX12_lists_2 : decode cX12_lists 2 = .ok (.putfield 1, 3) := by decide +kernel
theorem dX12_lists_5 : decode cX12_lists 5 = .ok (.iload_n 1, 1) := by decide +kernel
theorem dX12_lists_6 : decode cX12_lists 6 = .ok (.i2l, 1) := by decide +kernel
theorem dX12_lists_7 : decode cX12_lists 7 = .ok (.lconst 0, 1) := by decide +kernel
theorem dX12_lists_8 : decode cX12_lists 8 = .ok (.ldc2_w 311, 3) := by decide +kernel
theorem dX12_lists_11 : decode cX12_lists 11 = .ok (.invokestatic 145, 3) := by decide +kernel
theorem dX12_lists_14 : decode cX12_lists 14 = .ok (.ifCond .eq 12, 3) := by decide +kernel
theorem dX12_lists_17 : decode cX12_lists 17 = .ok (.aload_n 0, 1) := by decide +kernel
theorem dX12_lists_18 : decode cX12_lists 18 = .ok (.iload_n 2, 1) := by decide +kernel
theorem dX12_lists_19 : decode cX12_lists 19 = .ok (.iload_n 3, 1) := by decide +kernel
theorem dX12_lists_20 : decode cX12_lists 20 = .ok (.invokevirtual 384, 3) := by decide +kernel
theorem dX12_lists_23 : decode cX12_lists 23 = .ok (.ifCond .ne 6, 3) := by decide +kernel
theorem dX12_lists_26 : decode cX12_lists 26 = .ok (.bipush (-2), 2) := by decide +kernel
theorem dX12_lists_28 : decode cX12_lists 28 = .ok (.ireturn, 1) := by decide +kernel
theorem dX12_lists_29 : decode cX12_lists 29 = .ok (.aload_n 0, 1) := by decide +kernel
theorem dX12_lists_30 : decode cX12_lists 30 = .ok (.iload_n 1, 1) := by decide +kernel
theorem dX12_lists_31 : decode cX12_lists 31 = .ok (.invokevirtual 313, 3) := by decide +kernel
theorem dX12_lists_34 : decode cX12_lists 34 = .ok (.istore 4, 2) := by decide +kernel
theorem dX12_lists_36 : decode cX12_lists 36 = .ok (.iload 4, 2) := by decide +kernel
theorem dX12_lists_38 : decode cX12_lists 38 = .ok (.ifCond .eq 6, 3) := by decide +kernel
theorem dX12_lists_41 : decode cX12_lists 41 = .ok (.iload 4, 2) := by decide +kernel
theorem dX12_lists_43 : decode cX12_lists 43 = .ok (.ireturn, 1) := by decide +kernel
theorem dX12_lists_44 : decode cX12_lists 44 = .ok (.aload_n 0, 1) := by decide +kernel
theorem dX12_lists_45 : decode cX12_lists 45 = .ok (.iload_n 2, 1) := by decide +kernel
theorem dX12_lists_46 : decode cX12_lists 46 = .ok (.iload_n 3, 1) := by decide +kernel
theorem dX12_lists_47 : decode cX12_lists 47 = .ok (.invokevirtual 387, 3) := by decide +kernel
theorem dX12_lists_50 : decode cX12_lists 50 = .ok (.istore 5, 2) := by decide +kernel
theorem dX12_lists_52 : decode cX12_lists 52 = .ok (.iload 5, 2) := by decide +kernel
theorem dX12_lists_54 : decode cX12_lists 54 = .ok (.iconst (-1), 1) := by decide +kernel
theorem dX12_lists_55 : decode cX12_lists 55 = .ok (.if_icmp .ne 6, 3) := by decide +kernel
theorem dX12_lists_58 : decode cX12_lists 58 = .ok (.bipush (-5), 2) := by decide +kernel
theorem dX12_lists_60 : decode cX12_lists 60 = .ok (.ireturn, 1) := by decide +kernel
theorem dX12_lists_61 : decode cX12_lists 61 = .ok (.iload 5, 2) := by decide +kernel
theorem dX12_lists_63 : decode cX12_lists 63 = .ok (.aload_n 0, 1) := by decide +kernel
theorem dX12_lists_64 : decode cX12_lists 64 = .ok (.getfield 72, 3) := by decide +kernel
theorem dX12_lists_67 : decode cX12_lists 67 = .ok (.iload_n 1, 1) := by decide +kernel
theorem dX12_lists_68 : decode cX12_lists 68 = .ok (.iaload, 1) := by decide +kernel
theorem dX12_lists_69 : decode cX12_lists 69 = .ok (.if_icmp .ge 8, 3) := by decide +kernel
theorem dX12_lists_72 : decode cX12_lists 72 = .ok (.iload 5, 2) := by decide +kernel
theorem dX12_lists_74 : decode cX12_lists 74 = .ok (.goto 9, 3) := by decide +kernel
theorem dX12_lists_77 : decode cX12_lists 77 = .ok (.aload_n 0, 1) := by decide +kernel
theorem dX12_lists_78 : decode cX12_lists 78 = .ok (.getfield 72, 3) := by decide +kernel
theorem dX12_lists_81 : decode cX12_lists 81 = .ok (.iload_n 1, 1) := by decide +kernel
theorem dX12_lists_82 : decode cX12_lists 82 = .ok (.iaload, 1) := by decide +kernel
theorem dX12_lists_83 : decode cX12_lists 83 = .ok (.istore 6, 2) := by decide +kernel
theorem dX12_lists_85 : decode cX12_lists 85 = .ok (.iconst 0, 1) := by decide +kernel
theorem dX12_lists_86 : decode cX12_lists 86 = .ok (.istore 7, 2) := by decide +kernel
theorem dX12_lists_88 : decode cX12_lists 88 = .ok (.iload 7, 2) := by decide +kernel
theorem dX12_lists_90 : decode cX12_lists 90 = .ok (.iload 6, 2) := by decide +kernel
theorem dX12_lists_92 : decode cX12_lists 92 = .ok (.if_icmp .ge 43, 3) := by decide +kernel
theorem dX12_lists_95 : decode cX12_lists 95 = .ok (.aload_n 0, 1) := by decide +kernel
theorem dX12_lists_96 : decode cX12_lists 96 = .ok (.getfield 75, 3) := by decide +kernel
theorem dX12_lists_99 : decode cX12_lists 99 = .ok (.bipush 40, 2) := by decide +kernel
theorem dX12_lists_101 : decode cX12_lists 101 = .ok (.iload_n 1, 1) := by decide +kernel
theorem dX12_lists_102 : decode cX12_lists 102 = .ok (.imul, 1) := by decide +kernel
theorem dX12_lists_103 : decode cX12_lists 103 = .ok (.iload 7, 2) := by decide +kernel
theorem dX12_lists_105 : decode cX12_lists 105 = .ok (.iadd, 1) := by decide +kernel
theorem dX12_lists_106 : decode cX12_lists 106 = .ok (.bipush 10, 2) := by decide +kernel
theorem dX12_lists_108 : decode cX12_lists 108 = .ok (.iload_n 2, 1) := by decide +kernel
theorem dX12_lists_109 : decode cX12_lists 109 = .ok (.imul, 1) := by decide +kernel
theorem dX12_lists_110 : decode cX12_lists 110 = .ok (.aload_n 0, 1) := by decide +kernel
theorem dX12_lists_111 : decode cX12_lists 111 = .ok (.getfield 63, 3) := by decide +kernel
theorem dX12_lists_114 : decode cX12_lists 114 = .ok (.iload 7, 2) := by decide +kernel
theorem dX12_lists_116 : decode cX12_lists 116 = .ok (.iaload, 1) := by decide +kernel
theorem dX12_lists_117 : decode cX12_lists 117 = .ok (.iadd, 1) := by decide +kernel
theorem dX12_lists_118 : decode cX12_lists 118 = .ok (.i2l, 1) := by decide +kernel
theorem dX12_lists_119 : decode cX12_lists 119 = .ok (.aload_n 0, 1) := by decide +kernel
theorem dX12_lists_120 : decode cX12_lists 120 = .ok (.getfield 69, 3) := by decide +kernel
theorem dX12_lists_123 : decode cX12_lists 123 = .ok (.iload_n 1, 1) := by decide +kernel
theorem dX12_lists_124 : decode cX12_lists 124 = .ok (.iaload, 1) := by decide +kernel
theorem dX12_lists_125 : decode cX12_lists 125 = .ok (.invokestatic 431, 3) := by decide +kernel
theorem dX12_lists_128 : decode cX12_lists 128 = .ok (.lastore, 1) := by decide +kernel
theorem dX12_lists_129 : decode cX12_lists 129 = .ok (.iinc 7 1, 3) := by decide +kernel
theorem dX12_lists_132 : decode cX12_lists 132 = .ok (.goto (-44), 3) := by decide +kernel
theorem dX12_lists_135 : decode cX12_lists 135 = .ok (.iload 6, 2) := by decide +kernel
theorem dX12_lists_137 : decode cX12_lists 137 = .ok (.ireturn, 1) := by decide +kernel
theorem dX12_next_0 : decode cX12_next 0 = .ok (.aload_n 0, 1) := by decide +kernel
theorem dX12_next_1 : decode cX12_next 1 = .ok (.aload_n 0, 1) := by decide +kernel
theorem dX12_next_2 : decode cX12_next 2 = .ok (.getfield 104, 3) := by decide +kernel
theorem dX12_next_5 : decode cX12_next 5 = .ok (.putfield 101, 3) := by decide +kernel
theorem dX12_next_8 : decode cX12_next 8 = .ok (.aload_n 0, 1) := by decide +kernel
theorem dX12_next_9 : decode cX12_next 9 = .ok (.aload_n 0, 1) := by decide +kernel
theorem dX12_next_10 : decode cX12_next 10 = .ok (.getfield 101, 3) := by decide +kernel
theorem dX12_next_13 : decode cX12_next 13 = .ok (.invokevirtual 107, 3) := by decide +kernel
theorem dX12_next_16 : decode cX12_next 16 = .ok (.bipush 10, 2) := by decide +kernel
theorem dX12_next_18 : decode cX12_next 18 = .ok (.if_icmp .eq 16, 3) := by decide +kernel
theorem dX12_next_21 : decode cX12_next 21 = .ok (.aload_n 0, 1) := by decide +kernel
theorem dX12_next_22 : decode cX12_next 22 = .ok (.aload_n 0, 1) := by decide +kernel
theorem dX12_next_23 : decode cX12_next 23 = .ok (.getfield 101, 3) := by decide +kernel
theorem dX12_next_26 : decode cX12_next 26 = .ok (.invokevirtual 107, 3) := by decide +kernel
theorem dX12_next_29 : decode cX12_next 29 = .ok (.bipush 32, 2) := by decide +kernel
theorem dX12_next_31 : decode cX12_next 31 = .ok (.if_icmp .ne 16, 3) := by decide +kernel
theorem dX12_next_34 : decode cX12_next 34 = .ok (.aload_n 0, 1) := by decide +kernel
theorem dX12_next_35 : decode cX12_next 35 = .ok (.dup, 1) := by decide +kernel
theorem dX12_next_36 : decode cX12_next 36 = .ok (.getfield 101, 3) := by decide +kernel
theorem dX12_next_39 : decode cX12_next 39 = .ok (.iconst 1, 1) := by decide +kernel
theorem dX12_next_40 : decode cX12_next 40 = .ok (.iadd, 1) := by decide +kernel
theorem dX12_next_41 : decode cX12_next 41 = .ok (.putfield 101, 3) := by decide +kernel
theorem dX12_next_44 : decode cX12_next 44 = .ok (.goto (-36), 3) := by decide +kernel
theorem dX12_next_47 : decode cX12_next 47 = .ok (.aload_n 0, 1) := by decide +kernel
theorem dX12_next_48 : decode cX12_next 48 = .ok (.aload_n 0, 1) := by decide +kernel
theorem dX12_next_49 : decode cX12_next 49 = .ok (.getfield 101, 3) := by decide +kernel
theorem dX12_next_52 : decode cX12_next 52 = .ok (.putfield 104, 3) := by decide +kernel
theorem dX12_next_55 : decode cX12_next 55 = .ok (.aload_n 0, 1) := by decide +kernel
theorem dX12_next_56 : decode cX12_next 56 = .ok (.getfield 101, 3) := by decide +kernel
theorem dX12_next_59 : decode cX12_next 59 = .ok (.aload_n 0, 1) := by decide +kernel
theorem dX12_next_60 : decode cX12_next 60 = .ok (.getfield 86, 3) := by decide +kernel
theorem dX12_next_63 : decode cX12_next 63 = .ok (.if_icmp .lt 12, 3) := by decide +kernel
theorem dX12_next_66 : decode cX12_next 66 = .ok (.aload_n 0, 1) := by decide +kernel
theorem dX12_next_67 : decode cX12_next 67 = .ok (.bipush 26, 2) := by decide +kernel
theorem dX12_next_69 : decode cX12_next 69 = .ok (.putfield 111, 3) := by decide +kernel
theorem dX12_next_72 : decode cX12_next 72 = .ok (.goto 222, 3) := by decide +kernel
theorem dX12_next_75 : decode cX12_next 75 = .ok (.aload_n 0, 1) := by decide +kernel
theorem dX12_next_76 : decode cX12_next 76 = .ok (.aload_n 0, 1) := by decide +kernel
theorem dX12_next_77 : decode cX12_next 77 = .ok (.getfield 101, 3) := by decide +kernel
theorem dX12_next_80 : decode cX12_next 80 = .ok (.invokevirtual 107, 3) := by decide +kernel
theorem dX12_next_83 : decode cX12_next 83 = .ok (.invokestatic 114, 3) := by decide +kernel
theorem dX12_next_86 : decode cX12_next 86 = .ok (.ifCond .eq 41, 3) := by decide +kernel
theorem dX12_next_89 : decode cX12_next 89 = .ok (.aload_n 0, 1) := by decide +kernel
theorem dX12_next_90 : decode cX12_next 90 = .ok (.aload_n 0, 1) := by decide +kernel
theorem dX12_next_91 : decode cX12_next 91 = .ok (.getfield 104, 3) := by decide +kernel
theorem dX12_next_94 : decode cX12_next 94 = .ok (.invokevirtual 107, 3) := by decide +kernel
theorem dX12_next_97 : decode cX12_next 97 = .ok (.invokestatic 114, 3) := by decide +kernel
theorem dX12_next_100 : decode cX12_next 100 = .ok (.ifCond .eq 16, 3) := by decide +kernel
theorem dX12_next_103 : decode cX12_next 103 = .ok (.aload_n 0, 1) := by decide +kernel
theorem dX12_next_104 : decode cX12_next 104 = .ok (.dup, 1) := by decide +kernel
theorem dX12_next_105 : decode cX12_next 105 = .ok (.getfield 104, 3) := by decide +kernel
theorem dX12_next_108 : decode cX12_next 108 = .ok (.iconst 1, 1) := by decide +kernel
theorem dX12_next_109 : decode cX12_next 109 = .ok (.iadd, 1) := by decide +kernel
theorem dX12_next_110 : decode cX12_next 110 = .ok (.putfield 104, 3) := by decide +kernel
theorem dX12_next_113 : decode cX12_next 113 = .ok (.goto (-24), 3) := by decide +kernel
theorem dX12_next_116 : decode cX12_next 116 = .ok (.aload_n 0, 1) := by decide +kernel
theorem dX12_next_117 : decode cX12_next 117 = .ok (.aload_n 0, 1) := by decide +kernel
theorem dX12_next_118 : decode cX12_next 118 = .ok (.invokevirtual 118, 3) := by decide +kernel
theorem dX12_next_121 : decode cX12_next 121 = .ok (.putfield 111, 3) := by decide +kernel
theorem dX12_next_124 : decode cX12_next 124 = .ok (.goto 170, 3) := by decide +kernel
theorem dX12_next_127 : decode cX12_next 127 = .ok (.aload_n 0, 1) := by decide +kernel
theorem dX12_next_128 : decode cX12_next 128 = .ok (.aload_n 0, 1) := by decide +kernel
theorem dX12_next_129 : decode cX12_next 129 = .ok (.getfield 101, 3) := by decide +kernel
theorem dX12_next_132 : decode cX12_next 132 = .ok (.invokevirtual 107, 3) := by decide +kernel
theorem dX12_next_135 : decode cX12_next 135 = .ok (.invokestatic 121, 3) := by decide +kernel
theorem dX12_next_138 : decode cX12_next 138 = .ok (.ifCond .eq 98, 3) := by decide +kernel
theorem dX12_next_141 : decode cX12_next 141 = .ok (.aload_n 0, 1) := by decide +kernel
theorem dX12_next_142 : decode cX12_next 142 = .ok (.iconst 0, 1) := by decide +kernel
theorem dX12_next_143 : decode cX12_next 143 = .ok (.putfield 124, 3) := by decide +kernel
theorem dX12_next_146 : decode cX12_next 146 = .ok (.aload_n 0, 1) := by decide +kernel
theorem dX12_next_147 : decode cX12_next 147 = .ok (.aload_n 0, 1) := by decide +kernel
theorem dX12_next_148 : decode cX12_next 148 = .ok (.getfield 104, 3) := by decide +kernel
theorem dX12_next_151 : decode cX12_next 151 = .ok (.invokevirtual 107, 3) := by decide +kernel
theorem dX12_next_154 : decode cX12_next 154 = .ok (.invokestatic 121, 3) := by decide +kernel
theorem dX12_next_157 : decode cX12_next 157 = .ok (.ifCond .eq 52, 3) := by decide +kernel
theorem dX12_next_160 : decode cX12_next 160 = .ok (.aload_n 0, 1) := by decide +kernel
theorem dX12_next_161 : decode cX12_next 161 = .ok (.getfield 104, 3) := by decide +kernel
theorem dX12_next_164 : decode cX12_next 164 = .ok (.aload_n 0, 1) := by decide +kernel
theorem dX12_next_165 : decode cX12_next 165 = .ok (.getfield 101, 3) := by decide +kernel
theorem dX12_next_168 : decode cX12_next 168 = .ok (.isub, 1) := by decide +kernel
theorem dX12_next_169 : decode cX12_next 169 = .ok (.iconst 3, 1) := by decide +kernel
theorem dX12_next_170 : decode cX12_next 170 = .ok (.if_icmp .ge 26, 3) := by decide +kernel
theorem dX12_next_173 : decode cX12_next 173 = .ok (.aload_n 0, 1) := by decide +kernel
theorem dX12_next_174 : decode cX12_next 174 = .ok (.bipush 10, 2) := by decide +kernel
theorem dX12_next_176 : decode cX12_next 176 = .ok (.aload_n 0, 1) := by decide +kernel
theorem dX12_next_177 : decode cX12_next 177 = .ok (.getfield 124, 3) := by decide +kernel
theorem dX12_next_180 : decode cX12_next 180 = .ok (.imul, 1) := by decide +kernel
theorem dX12_next_181 : decode cX12_next 181 = .ok (.aload_n 0, 1) := by decide +kernel
theorem dX12_next_182 : decode cX12_next 182 = .ok (.aload_n 0, 1) := by decide +kernel
theorem dX12_next_183 : decode cX12_next 183 = .ok (.getfield 104, 3) := by decide +kernel
theorem dX12_next_186 : decode cX12_next 186 = .ok (.invokevirtual 107, 3) := by decide +kernel
theorem dX12_next_189 : decode cX12_next 189 = .ok (.iadd, 1) := by decide +kernel
theorem dX12_next_190 : decode cX12_next 190 = .ok (.bipush 48, 2) := by decide +kernel
theorem dX12_next_192 : decode cX12_next 192 = .ok (.isub, 1) := by decide +kernel
theorem dX12_next_193 : decode cX12_next 193 = .ok (.putfield 124, 3) := by decide +kernel
theorem dX12_next_196 : decode cX12_next 196 = .ok (.aload_n 0, 1) := by decide +kernel
theorem dX12_next_197 : decode cX12_next 197 = .ok (.dup, 1) := by decide +kernel
theorem dX12_next_198 : decode cX12_next 198 = .ok (.getfield 104, 3) := by decide +kernel
theorem dX12_next_201 : decode cX12_next 201 = .ok (.iconst 1, 1) := by decide +kernel
theorem dX12_next_202 : decode cX12_next 202 = .ok (.iadd, 1) := by decide +kernel
theorem dX12_next_203 : decode cX12_next 203 = .ok (.putfield 104, 3) := by decide +kernel
theorem dX12_next_206 : decode cX12_next 206 = .ok (.goto (-60), 3) := by decide +kernel
theorem dX12_next_209 : decode cX12_next 209 = .ok (.aload_n 0, 1) := by decide +kernel
theorem dX12_next_210 : decode cX12_next 210 = .ok (.aload_n 0, 1) := by decide +kernel
theorem dX12_next_211 : decode cX12_next 211 = .ok (.getfield 104, 3) := by decide +kernel
theorem dX12_next_214 : decode cX12_next 214 = .ok (.aload_n 0, 1) := by decide +kernel
theorem dX12_next_215 : decode cX12_next 215 = .ok (.getfield 101, 3) := by decide +kernel
theorem dX12_next_218 : decode cX12_next 218 = .ok (.isub, 1) := by decide +kernel
theorem dX12_next_219 : decode cX12_next 219 = .ok (.iconst 3, 1) := by decide +kernel
theorem dX12_next_220 : decode cX12_next 220 = .ok (.if_icmp .le 8, 3) := by decide +kernel
theorem dX12_next_223 : decode cX12_next 223 = .ok (.bipush 27, 2) := by decide +kernel
theorem dX12_next_225 : decode cX12_next 225 = .ok (.goto 5, 3) := by decide +kernel
theorem dX12_next_228 : decode cX12_next 228 = .ok (.bipush 25, 2) := by decide +kernel
theorem dX12_next_230 : decode cX12_next 230 = .ok (.putfield 111, 3) := by decide +kernel
theorem dX12_next_233 : decode cX12_next 233 = .ok (.goto 61, 3) := by decide +kernel
theorem dX12_next_236 : decode cX12_next 236 = .ok (.aload_n 0, 1) := by decide +kernel
theorem dX12_next_237 : decode cX12_next 237 = .ok (.dup, 1) := by decide +kernel
theorem dX12_next_238 : decode cX12_next 238 = .ok (.getfield 104, 3) := by decide +kernel
theorem dX12_next_241 : decode cX12_next 241 = .ok (.iconst 1, 1) := by decide +kernel
theorem dX12_next_242 : decode cX12_next 242 = .ok (.iadd, 1) := by decide +kernel
theorem dX12_next_243 : decode cX12_next 243 = .ok (.putfield 104, 3) := by decide +kernel
theorem dX12_next_246 : decode cX12_next 246 = .ok (.aload_n 0, 1) := by decide +kernel
theorem dX12_next_247 : decode cX12_next 247 = .ok (.bipush 27, 2) := by decide +kernel
theorem dX12_next_249 : decode cX12_next 249 = .ok (.putfield 111, 3) := by decide +kernel
theorem dX12_next_252 : decode cX12_next 252 = .ok (.iconst 0, 1) := by decide +kernel
theorem dX12_next_253 : decode cX12_next 253 = .ok (.istore_n 1, 1) := by decide +kernel
theorem dX12_next_254 : decode cX12_next 254 = .ok (.iload_n 1, 1) := by decide +kernel
theorem dX12_next_255 : decode cX12_next 255 = .ok (.ldc 127, 2) := by decide +kernel
theorem dX12_next_257 : decode cX12_next 257 = .ok (.invokevirtual 91, 3) := by decide +kernel
theorem dX12_next_260 : decode cX12_next 260 = .ok (.if_icmp .ge 34, 3) := by decide +kernel
theorem dX12_next_263 : decode cX12_next 263 = .ok (.aload_n 0, 1) := by decide +kernel
theorem dX12_next_264 : decode cX12_next 264 = .ok (.aload_n 0, 1) := by decide +kernel
theorem dX12_next_265 : decode cX12_next 265 = .ok (.getfield 101, 3) := by decide +kernel
theorem dX12_next_268 : decode cX12_next 268 = .ok (.invokevirtual 107, 3) := by decide +kernel
theorem dX12_next_271 : decode cX12_next 271 = .ok (.ldc 127, 2) := by decide +kernel
theorem dX12_next_273 : decode cX12_next 273 = .ok (.iload_n 1, 1) := by decide +kernel
theorem dX12_next_274 : decode cX12_next 274 = .ok (.invokevirtual 97, 3) := by decide +kernel
theorem dX12_next_277 : decode cX12_next 277 = .ok (.if_icmp .ne 11, 3) := by decide +kernel
theorem dX12_next_280 : decode cX12_next 280 = .ok (.aload_n 0, 1) := by decide +kernel
theorem dX12_next_281 : decode cX12_next 281 = .ok (.bipush 30, 2) := by decide +kernel
theorem dX12_next_283 : decode cX12_next 283 = .ok (.iload_n 1, 1) := by decide +kernel
theorem dX12_next_284 : decode cX12_next 284 = .ok (.iadd, 1) := by decide +kernel
theorem dX12_next_285 : decode cX12_next 285 = .ok (.putfield 111, 3) := by decide +kernel
theorem dX12_next_288 : decode cX12_next 288 = .ok (.iinc 1 1, 3) := by decide +kernel
theorem dX12_next_291 : decode cX12_next 291 = .ok (.goto (-37), 3) := by decide +kernel
theorem dX12_next_294 : decode cX12_next 294 = .ok (.return_, 1) := by decide +kernel
theorem dX12_noHidden_0 : decode cX12_noHidden 0 = .ok (.aload_n 0, 1) := by decide +kernel
theorem dX12_noHidden_1 : decode cX12_noHidden 1 = .ok (.iload_n 1, 1) := by decide +kernel
theorem dX12_noHidden_2 : decode cX12_noHidden 2 = .ok (.i2l, 1) := by decide +kernel
theorem dX12_noHidden_3 : decode cX12_noHidden 3 = .ok (.invokevirtual 245, 3) := by decide +kernel
theorem dX12_noHidden_6 : decode cX12_noHidden 6 = .ok (.ifCond .ne 8, 3) := by decide +kernel
theorem dX12_noHidden_9 : decode cX12_noHidden 9 = .ok (.bipush (-2), 2) := by decide +kernel
theorem dX12_noHidden_11 : decode cX12_noHidden 11 = .ok (.goto 26, 3) := by decide +kernel
theorem dX12_noHidden_14 : decode cX12_noHidden 14 = .ok (.iload_n 2, 1) := by decide +kernel
theorem dX12_noHidden_15 : decode cX12_noHidden 15 = .ok (.aload_n 0, 1) := by decide +kernel
theorem dX12_noHidden_16 : decode cX12_noHidden 16 = .ok (.invokevirtual 255, 3) := by decide +kernel
theorem dX12_noHidden_19 : decode cX12_noHidden 19 = .ok (.iconst 1, 1) := by decide +kernel
theorem dX12_noHidden_20 : decode cX12_noHidden 20 = .ok (.iload_n 1, 1) := by decide +kernel
theorem dX12_noHidden_21 : decode cX12_noHidden 21 = .ok (.ishl, 1) := by decide +kernel
theorem dX12_noHidden_22 : decode cX12_noHidden 22 = .ok (.iconst (-1), 1) := by decide +kernel
theorem dX12_noHidden_23 : decode cX12_noHidden 23 = .ok (.ixor, 1) := by decide +kernel
theorem dX12_noHidden_24 : decode cX12_noHidden 24 = .ok (.iand, 1) := by decide +kernel
theorem dX12_noHidden_25 : decode cX12_noHidden 25 = .ok (.iconst (-1), 1) := by decide +kernel
theorem dX12_noHidden_26 : decode cX12_noHidden 26 = .ok (.ixor, 1) := by decide +kernel
theorem dX12_noHidden_27 : decode cX12_noHidden 27 = .ok (.iand, 1) := by decide +kernel
theorem dX12_noHidden_28 : decode cX12_noHidden 28 = .ok (.ifCond .eq 8, 3) := by decide +kernel
theorem dX12_noHidden_31 : decode cX12_noHidden 31 = .ok (.bipush (-3), 2) := by decide +kernel
theorem dX12_noHidden_33 : decode cX12_noHidden 33 = .ok (.goto 4, 3) := by decide +kernel
theorem dX12_noHidden_36 : decode cX12_noHidden 36 = .ok (.iconst 0, 1) := by decide +kernel
theorem dX12_noHidden_37 : decode cX12_noHidden 37 = .ok (.ireturn, 1) := by decide +kernel
theorem dX12_noTray_0 : decode cX12_noTray 0 = .ok (.iload_n 1, 1) := by decide +kernel
theorem dX12_noTray_1 : decode cX12_noTray 1 = .ok (.i2l, 1) := by decide +kernel
theorem dX12_noTray_2 : decode cX12_noTray 2 = .ok (.lconst 0, 1) := by decide +kernel
theorem dX12_noTray_3 : decode cX12_noTray 3 = .ok (.ldc2_w 311, 3) := by decide +kernel
theorem dX12_noTray_6 : decode cX12_noTray 6 = .ok (.invokestatic 145, 3) := by decide +kernel
theorem dX12_noTray_9 : decode cX12_noTray 9 = .ok (.ifCond .ne 8, 3) := by decide +kernel
theorem dX12_noTray_12 : decode cX12_noTray 12 = .ok (.bipush (-2), 2) := by decide +kernel
theorem dX12_noTray_14 : decode cX12_noTray 14 = .ok (.goto 19, 3) := by decide +kernel
theorem dX12_noTray_17 : decode cX12_noTray 17 = .ok (.aload_n 0, 1) := by decide +kernel
theorem dX12_noTray_18 : decode cX12_noTray 18 = .ok (.getfield 69, 3) := by decide +kernel
theorem dX12_noTray_21 : decode cX12_noTray 21 = .ok (.iload_n 1, 1) := by decide +kernel
theorem dX12_noTray_22 : decode cX12_noTray 22 = .ok (.iaload, 1) := by decide +kernel
theorem dX12_noTray_23 : decode cX12_noTray 23 = .ok (.iconst (-1), 1) := by decide +kernel
theorem dX12_noTray_24 : decode cX12_noTray 24 = .ok (.if_icmp .ne 8, 3) := by decide +kernel
theorem dX12_noTray_27 : decode cX12_noTray 27 = .ok (.bipush (-6), 2) := by decide +kernel
theorem dX12_noTray_29 : decode cX12_noTray 29 = .ok (.goto 4, 3) := by decide +kernel
theorem dX12_noTray_32 : decode cX12_noTray 32 = .ok (.iconst 0, 1) := by decide +kernel
theorem dX12_noTray_33 : decode cX12_noTray 33 = .ok (.ireturn, 1) := by decide +kernel
theorem dX12_notes_0 : decode cX12_notes 0 = .ok (.aload_n 0, 1) := by decide +kernel
theorem dX12_notes_1 : decode cX12_notes 1 = .ok (.getfield 13, 3) := by decide +kernel
theorem dX12_notes_4 : decode cX12_notes 4 = .ok (.bipush 84, 2) := by decide +kernel
theorem dX12_notes_6 : decode cX12_notes 6 = .ok (.iaload, 1) := by decide +kernel
theorem dX12_notes_7 : decode cX12_notes 7 = .ok (.bipush 10, 2) := by decide +kernel
theorem dX12_notes_9 : decode cX12_notes 9 = .ok (.if_icmp .ne 47, 3) := by decide +kernel
theorem dX12_notes_12 : decode cX12_notes 12 = .ok (.iconst 0, 1) := by decide +kernel
theorem dX12_notes_13 : decode cX12_notes 13 = .ok (.istore_n 1, 1) := by decide +kernel
theorem dX12_notes_14 : decode cX12_notes 14 = .ok (.iload_n 1, 1) := by decide +kernel
theorem dX12_notes_15 : decode cX12_notes 15 = .ok (.sipush 288, 3) := by decide +kernel
theorem dX12_notes_18 : decode cX12_notes 18 = .ok (.if_icmp .ge 27, 3) := by decide +kernel
theorem dX12_notes_21 : decode cX12_notes 21 = .ok (.aload_n 0, 1) := by decide +kernel
theorem dX12_notes_22 : decode cX12_notes 22 = .ok (.getfield 13, 3) := by decide +kernel
theorem dX12_notes_25 : decode cX12_notes 25 = .ok (.bipush 85, 2) := by decide +kernel
theorem dX12_notes_27 : decode cX12_notes 27 = .ok (.iload_n 1, 1) := by decide +kernel
theorem dX12_notes_28 : decode cX12_notes 28 = .ok (.iadd, 1) := by decide +kernel
theorem dX12_notes_29 : decode cX12_notes 29 = .ok (.aload_n 0, 1) := by decide +kernel
theorem dX12_notes_30 : decode cX12_notes 30 = .ok (.getfield 13, 3) := by decide +kernel
theorem dX12_notes_33 : decode cX12_notes 33 = .ok (.bipush 117, 2) := by decide +kernel
theorem dX12_notes_35 : decode cX12_notes 35 = .ok (.iload_n 1, 1) := by decide +kernel
theorem dX12_notes_36 : decode cX12_notes 36 = .ok (.iadd, 1) := by decide +kernel
theorem dX12_notes_37 : decode cX12_notes 37 = .ok (.iaload, 1) := by decide +kernel
theorem dX12_notes_38 : decode cX12_notes 38 = .ok (.iastore, 1) := by decide +kernel
theorem dX12_notes_39 : decode cX12_notes 39 = .ok (.iinc 1 1, 3) := by decide +kernel
theorem dX12_notes_42 : decode cX12_notes 42 = .ok (.goto (-28), 3) := by decide +kernel
theorem dX12_notes_45 : decode cX12_notes 45 = .ok (.aload_n 0, 1) := by decide +kernel
theorem dX12_notes_46 : decode cX12_notes 46 = .ok (.getfield 13, 3) := by decide +kernel
theorem dX12_notes_49 : decode cX12_notes 49 = .ok (.bipush 84, 2) := by decide +kernel
theorem dX12_notes_51 : decode cX12_notes 51 = .ok (.dup2, 1) := by decide +kernel
theorem dX12_notes_52 : decode cX12_notes 52 = .ok (.iaload, 1) := by decide +kernel
theorem dX12_notes_53 : decode cX12_notes 53 = .ok (.iconst 1, 1) := by decide +kernel
theorem dX12_notes_54 : decode cX12_notes 54 = .ok (.isub, 1) := by decide +kernel
theorem dX12_notes_55 : decode cX12_notes 55 = .ok (.iastore, 1) := by decide +kernel
theorem dX12_notes_56 : decode cX12_notes 56 = .ok (.iconst 0, 1) := by decide +kernel
theorem dX12_notes_57 : decode cX12_notes 57 = .ok (.istore_n 1, 1) := by decide +kernel
theorem dX12_notes_58 : decode cX12_notes 58 = .ok (.iload_n 1, 1) := by decide +kernel
theorem dX12_notes_59 : decode cX12_notes 59 = .ok (.bipush 32, 2) := by decide +kernel
theorem dX12_notes_61 : decode cX12_notes 61 = .ok (.if_icmp .ge 35, 3) := by decide +kernel
theorem dX12_notes_64 : decode cX12_notes 64 = .ok (.aload_n 0, 1) := by decide +kernel
theorem dX12_notes_65 : decode cX12_notes 65 = .ok (.getfield 13, 3) := by decide +kernel
theorem dX12_notes_68 : decode cX12_notes 68 = .ok (.bipush 85, 2) := by decide +kernel
theorem dX12_notes_70 : decode cX12_notes 70 = .ok (.bipush 32, 2) := by decide +kernel
theorem dX12_notes_72 : decode cX12_notes 72 = .ok (.aload_n 0, 1) := by decide +kernel
theorem dX12_notes_73 : decode cX12_notes 73 = .ok (.getfield 13, 3) := by decide +kernel
theorem dX12_notes_76 : decode cX12_notes 76 = .ok (.bipush 84, 2) := by decide +kernel
theorem dX12_notes_78 : decode cX12_notes 78 = .ok (.iaload, 1) := by decide +kernel
theorem dX12_notes_79 : decode cX12_notes 79 = .ok (.imul, 1) := by decide +kernel
theorem dX12_notes_80 : decode cX12_notes 80 = .ok (.iadd, 1) := by decide +kernel
theorem dX12_notes_81 : decode cX12_notes 81 = .ok (.iload_n 1, 1) := by decide +kernel
theorem dX12_notes_82 : decode cX12_notes 82 = .ok (.iadd, 1) := by decide +kernel
theorem dX12_notes_83 : decode cX12_notes 83 = .ok (.aload_n 0, 1) := by decide +kernel
theorem dX12_notes_84 : decode cX12_notes 84 = .ok (.getfield 42, 3) := by decide +kernel
theorem dX12_notes_87 : decode cX12_notes 87 = .ok (.iload_n 1, 1) := by decide +kernel
theorem dX12_notes_88 : decode cX12_notes 88 = .ok (.iaload, 1) := by decide +kernel
theorem dX12_notes_89 : decode cX12_notes 89 = .ok (.iastore, 1) := by decide +kernel
theorem dX12_notes_90 : decode cX12_notes 90 = .ok (.iinc 1 1, 3) := by decide +kernel
theorem dX12_notes_93 : decode cX12_notes 93 = .ok (.goto (-35), 3) := by decide +kernel
theorem dX12_notes_96 : decode cX12_notes 96 = .ok (.aload_n 0, 1) := by decide +kernel
theorem dX12_notes_97 : decode cX12_notes 97 = .ok (.getfield 13, 3) := by decide +kernel
theorem dX12_notes_100 : decode cX12_notes 100 = .ok (.bipush 84, 2) := by decide +kernel
theorem dX12_notes_102 : decode cX12_notes 102 = .ok (.dup2, 1) := by decide +kernel
theorem dX12_notes_103 : decode cX12_notes 103 = .ok (.iaload, 1) := by decide +kernel
theorem dX12_notes_104 : decode cX12_notes 104 = .ok (.iconst 1, 1) := by decide +kernel
theorem dX12_notes_105 : decode cX12_notes 105 = .ok (.iadd, 1) := by decide +kernel
theorem dX12_notes_106 : decode cX12_notes 106 = .ok (.iastore, 1) := by decide +kernel
theorem dX12_notes_107 : decode cX12_notes 107 = .ok (.return_, 1) := by decide +kernel
theorem dX12_numbers_0 : decode cX12_numbers 0 = .ok (.aload_n 0, 1) := by decide +kernel
theorem dX12_numbers_1 : decode cX12_numbers 1 = .ok (.iconst 0, 1) := by decide +kernel
theorem dX12_numbers_2 : decode cX12_numbers 2 = .ok (.putfield 1, 3) := by decide +kernel
theorem dX12_numbers_5 : decode cX12_numbers 5 = .ok (.iload_n 1, 1) := by decide +kernel
theorem dX12_numbers_6 : decode cX12_numbers 6 = .ok (.i2l, 1) := by decide +kernel
theorem dX12_numbers_7 : decode cX12_numbers 7 = .ok (.lconst 0, 1) := by decide +kernel
theorem dX12_numbers_8 : decode cX12_numbers 8 = .ok (.ldc2_w 311, 3) := by decide +kernel
theorem dX12_numbers_11 : decode cX12_numbers 11 = .ok (.invokestatic 145, 3) := by decide +kernel
theorem dX12_numbers_14 : decode cX12_numbers 14 = .ok (.ifCond .eq 15, 3) := by decide +kernel
theorem dX12_numbers_17 : decode cX12_numbers 17 = .ok (.iload_n 2, 1) := by decide +kernel
theorem dX12_numbers_18 : decode cX12_numbers 18 = .ok (.i2l, 1) := by decide +kernel
theorem dX12_numbers_19 : decode cX12_numbers 19 = .ok (.lconst 0, 1) := by decide +kernel
theorem dX12_numbers_20 : decode cX12_numbers 20 = .ok (.ldc2_w 311, 3) := by decide +kernel
theorem dX12_numbers_23 : decode cX12_numbers 23 = .ok (.invokestatic 145, 3) := by decide +kernel
theorem dX12_numbers_26 : decode cX12_numbers 26 = .ok (.ifCond .ne 6, 3) := by decide +kernel
theorem dX12_numbers_29 : decode cX12_numbers 29 = .ok (.bipush (-2), 2) := by decide +kernel
theorem dX12_numbers_31 : decode cX12_numbers 31 = .ok (.ireturn, 1) := by decide +kernel
theorem dX12_numbers_32 : decode cX12_numbers 32 = .ok (.iload_n 3, 1) := by decide +kernel
theorem dX12_numbers_33 : decode cX12_numbers 33 = .ok (.i2l, 1) := by decide +kernel
theorem dX12_numbers_34 : decode cX12_numbers 34 = .ok (.lconst 0, 1) := by decide +kernel
theorem dX12_numbers_35 : decode cX12_numbers 35 = .ok (.ldc2_w 332, 3) := by decide +kernel
theorem dX12_numbers_38 : decode cX12_numbers 38 = .ok (.invokestatic 145, 3) := by decide +kernel
theorem dX12_numbers_41 : decode cX12_numbers 41 = .ok (.ifCond .ne 6, 3) := by decide +kernel
theorem dX12_numbers_44 : decode cX12_numbers 44 = .ok (.bipush (-3), 2) := by decide +kernel
theorem dX12_numbers_46 : decode cX12_numbers 46 = .ok (.ireturn, 1) := by decide +kernel
theorem dX12_numbers_47 : decode cX12_numbers 47 = .ok (.aload_n 0, 1) := by decide +kernel
theorem dX12_numbers_48 : decode cX12_numbers 48 = .ok (.getfield 69, 3) := by decide +kernel
theorem dX12_numbers_51 : decode cX12_numbers 51 = .ok (.iload_n 1, 1) := by decide +kernel
theorem dX12_numbers_52 : decode cX12_numbers 52 = .ok (.iload_n 2, 1) := by decide +kernel
theorem dX12_numbers_53 : decode cX12_numbers 53 = .ok (.iastore, 1) := by decide +kernel
theorem dX12_numbers_54 : decode cX12_numbers 54 = .ok (.aload_n 0, 1) := by decide +kernel
theorem dX12_numbers_55 : decode cX12_numbers 55 = .ok (.getfield 72, 3) := by decide +kernel
theorem dX12_numbers_58 : decode cX12_numbers 58 = .ok (.iload_n 1, 1) := by decide +kernel
theorem dX12_numbers_59 : decode cX12_numbers 59 = .ok (.iload_n 3, 1) := by decide +kernel
theorem dX12_numbers_60 : decode cX12_numbers 60 = .ok (.iastore, 1) := by decide +kernel
theorem dX12_numbers_61 : decode cX12_numbers 61 = .ok (.iconst 0, 1) := by decide +kernel
theorem dX12_numbers_62 : decode cX12_numbers 62 = .ok (.istore 4, 2) := by decide +kernel
theorem dX12_numbers_64 : decode cX12_numbers 64 = .ok (.iload 4, 2) := by decide +kernel
theorem dX12_numbers_66 : decode cX12_numbers 66 = .ok (.iload_n 3, 1) := by decide +kernel
theorem dX12_numbers_67 : decode cX12_numbers 67 = .ok (.if_icmp .ge 22, 3) := by decide +kernel
theorem dX12_numbers_70 : decode cX12_numbers 70 = .ok (.aload_n 0, 1) := by decide +kernel
theorem dX12_numbers_71 : decode cX12_numbers 71 = .ok (.getfield 75, 3) := by decide +kernel
theorem dX12_numbers_74 : decode cX12_numbers 74 = .ok (.bipush 40, 2) := by decide +kernel
theorem dX12_numbers_76 : decode cX12_numbers 76 = .ok (.iload_n 1, 1) := by decide +kernel
theorem dX12_numbers_77 : decode cX12_numbers 77 = .ok (.imul, 1) := by decide +kernel
theorem dX12_numbers_78 : decode cX12_numbers 78 = .ok (.iload 4, 2) := by decide +kernel
theorem dX12_numbers_80 : decode cX12_numbers 80 = .ok (.iadd, 1) := by decide +kernel
theorem dX12_numbers_81 : decode cX12_numbers 81 = .ok (.lconst 0, 1) := by decide +kernel
theorem dX12_numbers_82 : decode cX12_numbers 82 = .ok (.lastore, 1) := by decide +kernel
theorem dX12_numbers_83 : decode cX12_numbers 83 = .ok (.iinc 4 1, 3) := by decide +kernel
theorem dX12_numbers_86 : decode cX12_numbers 86 = .ok (.goto (-22), 3) := by decide +kernel
theorem dX12_numbers_89 : decode cX12_numbers 89 = .ok (.iconst 0, 1) := by decide +kernel
theorem dX12_numbers_90 : decode cX12_numbers 90 = .ok (.ireturn, 1) := by decide +kernel
theorem dX12_opposed_0 : decode cX12_opposed 0 = .ok (.aload_n 0, 1) := by decide +kernel
theorem dX12_opposed_1 : decode cX12_opposed 1 = .ok (.iconst 0, 1) := by decide +kernel
theorem dX12_opposed_2 : decode cX12_opposed 2 = .ok (.putfield 1, 3) := by decide +kernel
theorem dX12_opposed_5 : decode cX12_opposed 5 = .ok (.aload_n 0, 1) := by decide +kernel
theorem dX12_opposed_6 : decode cX12_opposed 6 = .ok (.iload_n 1, 1) := by decide +kernel
theorem dX12_opposed_7 : decode cX12_opposed 7 = .ok (.i2l, 1) := by decide +kernel
theorem dX12_opposed_8 : decode cX12_opposed 8 = .ok (.invokevirtual 245, 3) := by decide +kernel
theorem dX12_opposed_11 : decode cX12_opposed 11 = .ok (.ifCond .eq 36, 3) := by decide +kernel
theorem dX12_opposed_14 : decode cX12_opposed 14 = .ok (.aload_n 0, 1) := by decide +kernel
theorem dX12_opposed_15 : decode cX12_opposed 15 = .ok (.iload_n 2, 1) := by decide +kernel
theorem dX12_opposed_16 : decode cX12_opposed 16 = .ok (.i2l, 1) := by decide +kernel
theorem dX12_opposed_17 : decode cX12_opposed 17 = .ok (.invokevirtual 245, 3) := by decide +kernel
theorem dX12_opposed_20 : decode cX12_opposed 20 = .ok (.ifCond .eq 27, 3) := by decide +kernel
theorem dX12_opposed_23 : decode cX12_opposed 23 = .ok (.aload_n 0, 1) := by decide +kernel
theorem dX12_opposed_24 : decode cX12_opposed 24 = .ok (.iload_n 1, 1) := by decide +kernel
theorem dX12_opposed_25 : decode cX12_opposed 25 = .ok (.iload_n 2, 1) := by decide +kernel
theorem dX12_opposed_26 : decode cX12_opposed 26 = .ok (.aload_n 0, 1) := by decide +kernel
theorem dX12_opposed_27 : decode cX12_opposed 27 = .ok (.getfield 13, 3) := by decide +kernel
theorem dX12_opposed_30 : decode cX12_opposed 30 = .ok (.bipush 52, 2) := by decide +kernel
theorem dX12_opposed_32 : decode cX12_opposed 32 = .ok (.iaload, 1) := by decide +kernel
theorem dX12_opposed_33 : decode cX12_opposed 33 = .ok (.invokevirtual 241, 3) := by decide +kernel
theorem dX12_opposed_36 : decode cX12_opposed 36 = .ok (.ifCond .eq 7, 3) := by decide +kernel
theorem dX12_opposed_39 : decode cX12_opposed 39 = .ok (.iconst 1, 1) := by decide +kernel
theorem dX12_opposed_40 : decode cX12_opposed 40 = .ok (.goto 9, 3) := by decide +kernel
theorem dX12_opposed_43 : decode cX12_opposed 43 = .ok (.iconst 0, 1) := by decide +kernel
theorem dX12_opposed_44 : decode cX12_opposed 44 = .ok (.goto 5, 3) := by decide +kernel
theorem dX12_opposed_47 : decode cX12_opposed 47 = .ok (.bipush (-2), 2) := by decide +kernel
theorem dX12_opposed_49 : decode cX12_opposed 49 = .ok (.ireturn, 1) := by decide +kernel
theorem dX12_opposites_0 : decode cX12_opposites 0 = .ok (.aload_n 0, 1) := by decide +kernel
theorem dX12_opposites_1 : decode cX12_opposites 1 = .ok (.iconst 0, 1) := by decide +kernel
theorem dX12_opposites_2 : decode cX12_opposites 2 = .ok (.putfield 1, 3) := by decide +kernel
theorem dX12_opposites_5 : decode cX12_opposites 5 = .ok (.aload_n 0, 1) := by decide +kernel
theorem dX12_opposites_6 : decode cX12_opposites 6 = .ok (.iload_n 1, 1) := by decide +kernel
theorem dX12_opposites_7 : decode cX12_opposites 7 = .ok (.i2l, 1) := by decide +kernel
theorem dX12_opposites_8 : decode cX12_opposites 8 = .ok (.invokevirtual 245, 3) := by decide +kernel
theorem dX12_opposites_11 : decode cX12_opposites 11 = .ok (.ifCond .eq 11, 3) := by decide +kernel
theorem dX12_opposites_14 : decode cX12_opposites 14 = .ok (.aload_n 0, 1) := by decide +kernel
theorem dX12_opposites_15 : decode cX12_opposites 15 = .ok (.iload_n 1, 1) := by decide +kernel
theorem dX12_opposites_16 : decode cX12_opposites 16 = .ok (.invokevirtual 260, 3) := by decide +kernel
theorem dX12_opposites_19 : decode cX12_opposites 19 = .ok (.goto 5, 3) := by decide +kernel
theorem dX12_opposites_22 : decode cX12_opposites 22 = .ok (.bipush (-2), 2) := by decide +kernel
theorem dX12_opposites_24 : decode cX12_opposites 24 = .ok (.ireturn, 1) := by decide +kernel
theorem dX12_pairs_0 : decode cX12_pairs 0 = .ok (.aload_n 0, 1) := by decide +kernel
theorem dX12_pairs_1 : decode cX12_pairs 1 = .ok (.iconst 0, 1) := by decide +kernel
theorem dX12_pairs_2 : decode cX12_pairs 2 = .ok (.putfield 1, 3) := by decide +kernel
theorem dX12_pairs_5 : decode cX12_pairs 5 = .ok (.iload_n 2, 1) := by decide +kernel
theorem dX12_pairs_6 : decode cX12_pairs 6 = .ok (.i2l, 1) := by decide +kernel
theorem dX12_pairs_7 : decode cX12_pairs 7 = .ok (.lconst 0, 1) := by decide +kernel
theorem dX12_pairs_8 : decode cX12_pairs 8 = .ok (.lconst 1, 1) := by decide +kernel
theorem dX12_pairs_9 : decode cX12_pairs 9 = .ok (.invokestatic 145, 3) := by decide +kernel
theorem dX12_pairs_12 : decode cX12_pairs 12 = .ok (.ifCond .ne 24, 3) := by decide +kernel
theorem dX12_pairs_15 : decode cX12_pairs 15 = .ok (.iload_n 2, 1) := by decide +kernel
theorem dX12_pairs_16 : decode cX12_pairs 16 = .ok (.bipush 10, 2) := by decide +kernel
theorem dX12_pairs_18 : decode cX12_pairs 18 = .ok (.if_icmp .lt 15, 3) := by decide +kernel
theorem dX12_pairs_21 : decode cX12_pairs 21 = .ok (.aload_n 0, 1) := by decide +kernel
theorem dX12_pairs_22 : decode cX12_pairs 22 = .ok (.iload_n 2, 1) := by decide +kernel
theorem dX12_pairs_23 : decode cX12_pairs 23 = .ok (.bipush 10, 2) := by decide +kernel
theorem dX12_pairs_25 : decode cX12_pairs 25 = .ok (.isub, 1) := by decide +kernel
theorem dX12_pairs_26 : decode cX12_pairs 26 = .ok (.i2l, 1) := by decide +kernel
theorem dX12_pairs_27 : decode cX12_pairs 27 = .ok (.invokevirtual 245, 3) := by decide +kernel
theorem dX12_pairs_30 : decode cX12_pairs 30 = .ok (.ifCond .ne 6, 3) := by decide +kernel
theorem dX12_pairs_33 : decode cX12_pairs 33 = .ok (.bipush (-2), 2) := by decide +kernel
theorem dX12_pairs_35 : decode cX12_pairs 35 = .ok (.ireturn, 1) := by decide +kernel
theorem dX12_pairs_36 : decode cX12_pairs 36 = .ok (.aload_n 0, 1) := by decide +kernel
theorem dX12_pairs_37 : decode cX12_pairs 37 = .ok (.iload_n 1, 1) := by decide +kernel
theorem dX12_pairs_38 : decode cX12_pairs 38 = .ok (.invokevirtual 349, 3) := by decide +kernel
theorem dX12_pairs_41 : decode cX12_pairs 41 = .ok (.ifCond .ne 6, 3) := by decide +kernel
theorem dX12_pairs_44 : decode cX12_pairs 44 = .ok (.bipush (-3), 2) := by decide +kernel
theorem dX12_pairs_46 : decode cX12_pairs 46 = .ok (.ireturn, 1) := by decide +kernel
theorem dX12_pairs_47 : decode cX12_pairs 47 = .ok (.aload_n 0, 1) := by decide +kernel
theorem dX12_pairs_48 : decode cX12_pairs 48 = .ok (.aload_n 0, 1) := by decide +kernel
theorem dX12_pairs_49 : decode cX12_pairs 49 = .ok (.getfield 13, 3) := by decide +kernel
theorem dX12_pairs_52 : decode cX12_pairs 52 = .ok (.bipush 52, 2) := by decide +kernel
theorem dX12_pairs_54 : decode cX12_pairs 54 = .ok (.iaload, 1) := by decide +kernel
theorem dX12_pairs_55 : decode cX12_pairs 55 = .ok (.invokevirtual 340, 3) := by decide +kernel
theorem dX12_pairs_58 : decode cX12_pairs 58 = .ok (.aload_n 0, 1) := by decide +kernel
theorem dX12_pairs_59 : decode cX12_pairs 59 = .ok (.iload_n 1, 1) := by decide +kernel
theorem dX12_pairs_60 : decode cX12_pairs 60 = .ok (.invokevirtual 361, 3) := by decide +kernel
theorem dX12_pairs_63 : decode cX12_pairs 63 = .ok (.iload_n 2, 1) := by decide +kernel
theorem dX12_pairs_64 : decode cX12_pairs 64 = .ok (.ifCond .ne 10, 3) := by decide +kernel
theorem dX12_pairs_67 : decode cX12_pairs 67 = .ok (.aload_n 0, 1) := by decide +kernel
theorem dX12_pairs_68 : decode cX12_pairs 68 = .ok (.getfield 352, 3) := by decide +kernel
theorem dX12_pairs_71 : decode cX12_pairs 71 = .ok (.goto 24, 3) := by decide +kernel
theorem dX12_pairs_74 : decode cX12_pairs 74 = .ok (.iload_n 2, 1) := by decide +kernel
theorem dX12_pairs_75 : decode cX12_pairs 75 = .ok (.iconst 1, 1) := by decide +kernel
theorem dX12_pairs_76 : decode cX12_pairs 76 = .ok (.if_icmp .ne 10, 3) := by decide +kernel
theorem dX12_pairs_79 : decode cX12_pairs 79 = .ok (.aload_n 0, 1) := by decide +kernel
theorem dX12_pairs_80 : decode cX12_pairs 80 = .ok (.getfield 355, 3) := by decide +kernel
theorem dX12_pairs_83 : decode cX12_pairs 83 = .ok (.goto 12, 3) := by decide +kernel
theorem dX12_pairs_86 : decode cX12_pairs 86 = .ok (.aload_n 0, 1) := by decide +kernel
theorem dX12_pairs_87 : decode cX12_pairs 87 = .ok (.getfield 51, 3) := by decide +kernel
theorem dX12_pairs_90 : decode cX12_pairs 90 = .ok (.iload_n 2, 1) := by decide +kernel
theorem dX12_pairs_91 : decode cX12_pairs 91 = .ok (.bipush 10, 2) := by decide +kernel
theorem dX12_pairs_93 : decode cX12_pairs 93 = .ok (.isub, 1) := by decide +kernel
theorem dX12_pairs_94 : decode cX12_pairs 94 = .ok (.iaload, 1) := by decide +kernel
theorem dX12_pairs_95 : decode cX12_pairs 95 = .ok (.ireturn, 1) := by decide +kernel
theorem dX12_passed_0 : decode cX12_passed 0 = .ok (.aload_n 0, 1) := by decide +kernel
theorem dX12_passed_1 : decode cX12_passed 1 = .ok (.iconst 0, 1) := by decide +kernel
theorem dX12_passed_2 : decode cX12_passed 2 = .ok (.putfield 1, 3) := by decide +kernel
theorem dX12_passed_5 : decode cX12_passed 5 = .ok (.iload_n 2, 1) := by decide +kernel
theorem dX12_passed_6 : decode cX12_passed 6 = .ok (.i2l, 1) := by decide +kernel
theorem dX12_passed_7 : decode cX12_passed 7 = .ok (.lconst 0, 1) := by decide +kernel
theorem dX12_passed_8 : decode cX12_passed 8 = .ok (.lconst 1, 1) := by decide +kernel
theorem dX12_passed_9 : decode cX12_passed 9 = .ok (.invokestatic 145, 3) := by decide +kernel
theorem dX12_passed_12 : decode cX12_passed 12 = .ok (.ifCond .ne 6, 3) := by decide +kernel
theorem dX12_passed_15 : decode cX12_passed 15 = .ok (.bipush (-2), 2) := by decide +kernel
theorem dX12_passed_17 : decode cX12_passed 17 = .ok (.ireturn, 1) := by decide +kernel
theorem dX12_passed_18 : decode cX12_passed 18 = .ok (.iload_n 1, 1) := by decide +kernel
theorem dX12_passed_19 : decode cX12_passed 19 = .ok (.invokestatic 393, 3) := by decide +kernel
theorem dX12_passed_22 : decode cX12_passed 22 = .ok (.ifCond .ne 6, 3) := by decide +kernel
theorem dX12_passed_25 : decode cX12_passed 25 = .ok (.bipush (-3), 2) := by decide +kernel
theorem dX12_passed_27 : decode cX12_passed 27 = .ok (.ireturn, 1) := by decide +kernel
theorem dX12_passed_28 : decode cX12_passed 28 = .ok (.aload_n 0, 1) := by decide +kernel
theorem dX12_passed_29 : decode cX12_passed 29 = .ok (.invokevirtual 346, 3) := by decide +kernel
theorem dX12_passed_32 : decode cX12_passed 32 = .ok (.aload_n 0, 1) := by decide +kernel
theorem dX12_passed_33 : decode cX12_passed 33 = .ok (.iload_n 1, 1) := by decide +kernel
theorem dX12_passed_34 : decode cX12_passed 34 = .ok (.invokevirtual 399, 3) := by decide +kernel
theorem dX12_passed_37 : decode cX12_passed 37 = .ok (.istore_n 3, 1) := by decide +kernel
theorem dX12_passed_38 : decode cX12_passed 38 = .ok (.iload_n 3, 1) := by decide +kernel
theorem dX12_passed_39 : decode cX12_passed 39 = .ok (.iconst (-1), 1) := by decide +kernel
theorem dX12_passed_40 : decode cX12_passed 40 = .ok (.if_icmp .eq 8, 3) := by decide +kernel
theorem dX12_passed_43 : decode cX12_passed 43 = .ok (.iload_n 2, 1) := by decide +kernel
theorem dX12_passed_44 : decode cX12_passed 44 = .ok (.iconst 1, 1) := by decide +kernel
theorem dX12_passed_45 : decode cX12_passed 45 = .ok (.if_icmp .ne 7, 3) := by decide +kernel
theorem dX12_passed_48 : decode cX12_passed 48 = .ok (.iload_n 3, 1) := by decide +kernel
theorem dX12_passed_49 : decode cX12_passed 49 = .ok (.goto 7, 3) := by decide +kernel
theorem dX12_passed_52 : decode cX12_passed 52 = .ok (.iload_n 3, 1) := by decide +kernel
theorem dX12_passed_53 : decode cX12_passed 53 = .ok (.invokestatic 281, 3) := by decide +kernel
theorem dX12_passed_56 : decode cX12_passed 56 = .ok (.ireturn, 1) := by decide +kernel
theorem dX12_passedBy_0 : decode cX12_passedBy 0 = .ok (.aload_n 0, 1) := by decide +kernel
theorem dX12_passedBy_1 : decode cX12_passedBy 1 = .ok (.invokevirtual 255, 3) := by decide +kernel
theorem dX12_passedBy_4 : decode cX12_passedBy 4 = .ok (.istore_n 2, 1) := by decide +kernel
theorem dX12_passedBy_5 : decode cX12_passedBy 5 = .ok (.aload_n 0, 1) := by decide +kernel
theorem dX12_passedBy_6 : decode cX12_passedBy 6 = .ok (.iload_n 2, 1) := by decide +kernel
theorem dX12_passedBy_7 : decode cX12_passedBy 7 = .ok (.iload_n 1, 1) := by decide +kernel
theorem dX12_passedBy_8 : decode cX12_passedBy 8 = .ok (.invokevirtual 396, 3) := by decide +kernel
theorem dX12_passedBy_11 : decode cX12_passedBy 11 = .ok (.istore_n 3, 1) := by decide +kernel
theorem dX12_passedBy_12 : decode cX12_passedBy 12 = .ok (.iconst (-1), 1) := by decide +kernel
theorem dX12_passedBy_13 : decode cX12_passedBy 13 = .ok (.istore 4, 2) := by decide +kernel
theorem dX12_passedBy_15 : decode cX12_passedBy 15 = .ok (.iconst 0, 1) := by decide +kernel
theorem dX12_passedBy_16 : decode cX12_passedBy 16 = .ok (.istore 5, 2) := by decide +kernel
theorem dX12_passedBy_18 : decode cX12_passedBy 18 = .ok (.iload 5, 2) := by decide +kernel
theorem dX12_passedBy_20 : decode cX12_passedBy 20 = .ok (.iload_n 2, 1) := by decide +kernel
theorem dX12_passedBy_21 : decode cX12_passedBy 21 = .ok (.if_icmp .gt 79, 3) := by decide +kernel
theorem dX12_passedBy_24 : decode cX12_passedBy 24 = .ok (.iload_n 2, 1) := by decide +kernel
theorem dX12_passedBy_25 : decode cX12_passedBy 25 = .ok (.iload 5, 2) := by decide +kernel
theorem dX12_passedBy_27 : decode cX12_passedBy 27 = .ok (.iconst (-1), 1) := by decide +kernel
theorem dX12_passedBy_28 : decode cX12_passedBy 28 = .ok (.ixor, 1) := by decide +kernel
theorem dX12_passedBy_29 : decode cX12_passedBy 29 = .ok (.iand, 1) := by decide +kernel
theorem dX12_passedBy_30 : decode cX12_passedBy 30 = .ok (.istore 6, 2) := by decide +kernel
theorem dX12_passedBy_32 : decode cX12_passedBy 32 = .ok (.iload 5, 2) := by decide +kernel
theorem dX12_passedBy_34 : decode cX12_passedBy 34 = .ok (.iload_n 2, 1) := by decide +kernel
theorem dX12_passedBy_35 : decode cX12_passedBy 35 = .ok (.iconst (-1), 1) := by decide +kernel
theorem dX12_passedBy_36 : decode cX12_passedBy 36 = .ok (.ixor, 1) := by decide +kernel
theorem dX12_passedBy_37 : decode cX12_passedBy 37 = .ok (.iand, 1) := by decide +kernel
theorem dX12_passedBy_38 : decode cX12_passedBy 38 = .ok (.ifCond .ne 56, 3) := by decide +kernel
theorem dX12_passedBy_41 : decode cX12_passedBy 41 = .ok (.iload 4, 2) := by decide +kernel
theorem dX12_passedBy_43 : decode cX12_passedBy 43 = .ok (.iconst (-1), 1) := by decide +kernel
theorem dX12_passedBy_44 : decode cX12_passedBy 44 = .ok (.if_icmp .eq 19, 3) := by decide +kernel
theorem dX12_passedBy_47 : decode cX12_passedBy 47 = .ok (.iload 5, 2) := by decide +kernel
theorem dX12_passedBy_49 : decode cX12_passedBy 49 = .ok (.invokestatic 281, 3) := by decide +kernel
theorem dX12_passedBy_52 : decode cX12_passedBy 52 = .ok (.iload 4, 2) := by decide +kernel
theorem dX12_passedBy_54 : decode cX12_passedBy 54 = .ok (.invokestatic 281, 3) := by decide +kernel
theorem dX12_passedBy_57 : decode cX12_passedBy 57 = .ok (.if_icmp .lt 6, 3) := by decide +kernel
theorem dX12_passedBy_60 : decode cX12_passedBy 60 = .ok (.goto 34, 3) := by decide +kernel
theorem dX12_passedBy_63 : decode cX12_passedBy 63 = .ok (.aload_n 0, 1) := by decide +kernel
theorem dX12_passedBy_64 : decode cX12_passedBy 64 = .ok (.getfield 45, 3) := by decide +kernel
theorem dX12_passedBy_67 : decode cX12_passedBy 67 = .ok (.iload 6, 2) := by decide +kernel
theorem dX12_passedBy_69 : decode cX12_passedBy 69 = .ok (.iaload, 1) := by decide +kernel
theorem dX12_passedBy_70 : decode cX12_passedBy 70 = .ok (.ifCond .le 24, 3) := by decide +kernel
theorem dX12_passedBy_73 : decode cX12_passedBy 73 = .ok (.iconst 2, 1) := by decide +kernel
theorem dX12_passedBy_74 : decode cX12_passedBy 74 = .ok (.iload_n 3, 1) := by decide +kernel
theorem dX12_passedBy_75 : decode cX12_passedBy 75 = .ok (.iload 6, 2) := by decide +kernel
theorem dX12_passedBy_77 : decode cX12_passedBy 77 = .ok (.iand, 1) := by decide +kernel
theorem dX12_passedBy_78 : decode cX12_passedBy 78 = .ok (.invokestatic 281, 3) := by decide +kernel
theorem dX12_passedBy_81 : decode cX12_passedBy 81 = .ok (.imul, 1) := by decide +kernel
theorem dX12_passedBy_82 : decode cX12_passedBy 82 = .ok (.iload 6, 2) := by decide +kernel
theorem dX12_passedBy_84 : decode cX12_passedBy 84 = .ok (.invokestatic 281, 3) := by decide +kernel
theorem dX12_passedBy_87 : decode cX12_passedBy 87 = .ok (.if_icmp .le 7, 3) := by decide +kernel
theorem dX12_passedBy_90 : decode cX12_passedBy 90 = .ok (.iload 5, 2) := by decide +kernel
theorem dX12_passedBy_92 : decode cX12_passedBy 92 = .ok (.istore 4, 2) := by decide +kernel
theorem dX12_passedBy_94 : decode cX12_passedBy 94 = .ok (.iinc 5 1, 3) := by decide +kernel
theorem dX12_passedBy_97 : decode cX12_passedBy 97 = .ok (.goto (-79), 3) := by decide +kernel
theorem dX12_passedBy_100 : decode cX12_passedBy 100 = .ok (.iload 4, 2) := by decide +kernel
theorem dX12_passedBy_102 : decode cX12_passedBy 102 = .ok (.ireturn, 1) := by decide +kernel
theorem dX12_passes_0 : decode cX12_passes 0 = .ok (.aload_n 0, 1) := by decide +kernel
theorem dX12_passes_1 : decode cX12_passes 1 = .ok (.iconst 0, 1) := by decide +kernel
theorem dX12_passes_2 : decode cX12_passes 2 = .ok (.putfield 1, 3) := by decide +kernel
theorem dX12_passes_5 : decode cX12_passes 5 = .ok (.iload_n 1, 1) := by decide +kernel
theorem dX12_passes_6 : decode cX12_passes 6 = .ok (.invokestatic 393, 3) := by decide +kernel
theorem dX12_passes_9 : decode cX12_passes 9 = .ok (.ifCond .ne 6, 3) := by decide +kernel
theorem dX12_passes_12 : decode cX12_passes 12 = .ok (.bipush (-3), 2) := by decide +kernel
theorem dX12_passes_14 : decode cX12_passes 14 = .ok (.ireturn, 1) := by decide +kernel
theorem dX12_passes_15 : decode cX12_passes 15 = .ok (.aload_n 0, 1) := by decide +kernel
theorem dX12_passes_16 : decode cX12_passes 16 = .ok (.invokevirtual 346, 3) := by decide +kernel
theorem dX12_passes_19 : decode cX12_passes 19 = .ok (.aload_n 0, 1) := by decide +kernel
theorem dX12_passes_20 : decode cX12_passes 20 = .ok (.iload_n 1, 1) := by decide +kernel
theorem dX12_passes_21 : decode cX12_passes 21 = .ok (.invokevirtual 399, 3) := by decide +kernel
theorem dX12_passes_24 : decode cX12_passes 24 = .ok (.ifCond .ne 7, 3) := by decide +kernel
theorem dX12_passes_27 : decode cX12_passes 27 = .ok (.iconst 1, 1) := by decide +kernel
theorem dX12_passes_28 : decode cX12_passes 28 = .ok (.goto 4, 3) := by decide +kernel
theorem dX12_passes_31 : decode cX12_passes 31 = .ok (.iconst 0, 1) := by decide +kernel
theorem dX12_passes_32 : decode cX12_passes 32 = .ok (.ireturn, 1) := by decide +kernel
theorem dX12_perform_0 : decode cX12_perform 0 = .ok (.aload_n 0, 1) := by decide +kernel
theorem dX12_perform_1 : decode cX12_perform 1 = .ok (.iconst 0, 1) := by decide +kernel
theorem dX12_perform_2 : decode cX12_perform 2 = .ok (.putfield 1, 3) := by decide +kernel
theorem dX12_perform_5 : decode cX12_perform 5 = .ok (.aload_n 0, 1) := by decide +kernel
theorem dX12_perform_6 : decode cX12_perform 6 = .ok (.iload_n 1, 1) := by decide +kernel
theorem dX12_perform_7 : decode cX12_perform 7 = .ok (.invokevirtual 313, 3) := by decide +kernel
theorem dX12_perform_10 : decode cX12_perform 10 = .ok (.istore_n 2, 1) := by decide +kernel
theorem dX12_perform_11 : decode cX12_perform 11 = .ok (.iload_n 2, 1) := by decide +kernel
theorem dX12_perform_12 : decode cX12_perform 12 = .ok (.ifCond .eq 5, 3) := by decide +kernel
theorem dX12_perform_15 : decode cX12_perform 15 = .ok (.iload_n 2, 1) := by decide +kernel
theorem dX12_perform_16 : decode cX12_perform 16 = .ok (.ireturn, 1) := by decide +kernel
theorem dX12_perform_17 : decode cX12_perform 17 = .ok (.aload_n 0, 1) := by decide +kernel
theorem dX12_perform_18 : decode cX12_perform 18 = .ok (.invokevirtual 267, 3) := by decide +kernel
theorem dX12_perform_21 : decode cX12_perform 21 = .ok (.aload_n 0, 1) := by decide +kernel
theorem dX12_perform_22 : decode cX12_perform 22 = .ok (.iload_n 1, 1) := by decide +kernel
theorem dX12_perform_23 : decode cX12_perform 23 = .ok (.invokevirtual 316, 3) := by decide +kernel
theorem dX12_perform_26 : decode cX12_perform 26 = .ok (.istore_n 3, 1) := by decide +kernel
theorem dX12_perform_27 : decode cX12_perform 27 = .ok (.iload_n 3, 1) := by decide +kernel
theorem dX12_perform_28 : decode cX12_perform 28 = .ok (.ifCond .le 7, 3) := by decide +kernel
theorem dX12_perform_31 : decode cX12_perform 31 = .ok (.aload_n 0, 1) := by decide +kernel
theorem dX12_perform_32 : decode cX12_perform 32 = .ok (.invokevirtual 274, 3) := by decide +kernel
theorem dX12_perform_35 : decode cX12_perform 35 = .ok (.iload_n 3, 1) := by decide +kernel
theorem dX12_perform_36 : decode cX12_perform 36 = .ok (.ireturn, 1) := by decide +kernel
theorem dX12_person_0 : decode cX12_person 0 = .ok (.aload_n 0, 1) := by decide +kernel
theorem dX12_person_1 : decode cX12_person 1 = .ok (.iconst 0, 1) := by decide +kernel
theorem dX12_person_2 : decode cX12_person 2 = .ok (.putfield 1, 3) := by decide +kernel
theorem dX12_person_5 : decode cX12_person 5 = .ok (.aload_n 0, 1) := by decide +kernel
theorem dX12_person_6 : decode cX12_person 6 = .ok (.iload_n 1, 1) := by decide +kernel
theorem dX12_person_7 : decode cX12_person 7 = .ok (.i2l, 1) := by decide +kernel
theorem dX12_person_8 : decode cX12_person 8 = .ok (.invokevirtual 245, 3) := by decide +kernel
theorem dX12_person_11 : decode cX12_person 11 = .ok (.ifCond .ne 6, 3) := by decide +kernel
theorem dX12_person_14 : decode cX12_person 14 = .ok (.bipush (-2), 2) := by decide +kernel
theorem dX12_person_16 : decode cX12_person 16 = .ok (.ireturn, 1) := by decide +kernel
theorem dX12_person_17 : decode cX12_person 17 = .ok (.iload_n 2, 1) := by decide +kernel
theorem dX12_person_18 : decode cX12_person 18 = .ok (.i2l, 1) := by decide +kernel
theorem dX12_person_19 : decode cX12_person 19 = .ok (.lconst 0, 1) := by decide +kernel
theorem dX12_person_20 : decode cX12_person 20 = .ok (.ldc2_w 249, 3) := by decide +kernel
theorem dX12_person_23 : decode cX12_person 23 = .ok (.invokestatic 145, 3) := by decide +kernel
theorem dX12_person_26 : decode cX12_person 26 = .ok (.ifCond .eq 17, 3) := by decide +kernel
theorem dX12_person_29 : decode cX12_person 29 = .ok (.aload_n 0, 1) := by decide +kernel
theorem dX12_person_30 : decode cX12_person 30 = .ok (.getfield 13, 3) := by decide +kernel
theorem dX12_person_33 : decode cX12_person 33 = .ok (.bipush 54, 2) := by decide +kernel
theorem dX12_person_35 : decode cX12_person 35 = .ok (.iconst 3, 1) := by decide +kernel
theorem dX12_person_36 : decode cX12_person 36 = .ok (.iload_n 1, 1) := by decide +kernel
theorem dX12_person_37 : decode cX12_person 37 = .ok (.imul, 1) := by decide +kernel
theorem dX12_person_38 : decode cX12_person 38 = .ok (.iadd, 1) := by decide +kernel
theorem dX12_person_39 : decode cX12_person 39 = .ok (.iload_n 2, 1) := by decide +kernel
theorem dX12_person_40 : decode cX12_person 40 = .ok (.iadd, 1) := by decide +kernel
theorem dX12_person_41 : decode cX12_person 41 = .ok (.iaload, 1) := by decide +kernel
theorem dX12_person_42 : decode cX12_person 42 = .ok (.ireturn, 1) := by decide +kernel
theorem dX12_person_43 : decode cX12_person 43 = .ok (.iload_n 2, 1) := by decide +kernel
theorem dX12_person_44 : decode cX12_person 44 = .ok (.tableswitch 139 3 8 #[40, 50, 80, 90, 100, 121], 40) := by decide +kernel
theorem dX12_person_84 : decode cX12_person 84 = .ok (.aload_n 0, 1) := by decide +kernel
theorem dX12_person_85 : decode cX12_person 85 = .ok (.getfield 13, 3) := by decide +kernel
theorem dX12_person_88 : decode cX12_person 88 = .ok (.bipush 12, 2) := by decide +kernel
theorem dX12_person_90 : decode cX12_person 90 = .ok (.iload_n 1, 1) := by decide +kernel
theorem dX12_person_91 : decode cX12_person 91 = .ok (.iadd, 1) := by decide +kernel
theorem dX12_person_92 : decode cX12_person 92 = .ok (.iaload, 1) := by decide +kernel
theorem dX12_person_93 : decode cX12_person 93 = .ok (.ireturn, 1) := by decide +kernel
theorem dX12_person_94 : decode cX12_person 94 = .ok (.aload_n 0, 1) := by decide +kernel
theorem dX12_person_95 : decode cX12_person 95 = .ok (.getfield 13, 3) := by decide +kernel
theorem dX12_person_98 : decode cX12_person 98 = .ok (.bipush 22, 2) := by decide +kernel
theorem dX12_person_100 : decode cX12_person 100 = .ok (.iload_n 1, 1) := by decide +kernel
theorem dX12_person_101 : decode cX12_person 101 = .ok (.iadd, 1) := by decide +kernel
theorem dX12_person_102 : decode cX12_person 102 = .ok (.iaload, 1) := by decide +kernel
theorem dX12_person_103 : decode cX12_person 103 = .ok (.ldc 194, 2) := by decide +kernel
theorem dX12_person_105 : decode cX12_person 105 = .ok (.if_icmp .ne 9, 3) := by decide +kernel
theorem dX12_person_108 : decode cX12_person 108 = .ok (.sipush 999, 3) := by decide +kernel
theorem dX12_person_111 : decode cX12_person 111 = .ok (.goto 12, 3) := by decide +kernel
theorem dX12_person_114 : decode cX12_person 114 = .ok (.aload_n 0, 1) := by decide +kernel
theorem dX12_person_115 : decode cX12_person 115 = .ok (.getfield 13, 3) := by decide +kernel
theorem dX12_person_118 : decode cX12_person 118 = .ok (.bipush 22, 2) := by decide +kernel
theorem dX12_person_120 : decode cX12_person 120 = .ok (.iload_n 1, 1) := by decide +kernel
theorem dX12_person_121 : decode cX12_person 121 = .ok (.iadd, 1) := by decide +kernel
theorem dX12_person_122 : decode cX12_person 122 = .ok (.iaload, 1) := by decide +kernel
theorem dX12_person_123 : decode cX12_person 123 = .ok (.ireturn, 1) := by decide +kernel
theorem dX12_person_124 : decode cX12_person 124 = .ok (.aload_n 0, 1) := by decide +kernel
theorem dX12_person_125 : decode cX12_person 125 = .ok (.getfield 13, 3) := by decide +kernel
theorem dX12_person_128 : decode cX12_person 128 = .ok (.bipush 32, 2) := by decide +kernel
theorem dX12_person_130 : decode cX12_person 130 = .ok (.iload_n 1, 1) := by decide +kernel
theorem dX12_person_131 : decode cX12_person 131 = .ok (.iadd, 1) := by decide +kernel
theorem dX12_person_132 : decode cX12_person 132 = .ok (.iaload, 1) := by decide +kernel
theorem dX12_person_133 : decode cX12_person 133 = .ok (.ireturn, 1) := by decide +kernel
theorem dX12_person_134 : decode cX12_person 134 = .ok (.aload_n 0, 1) := by decide +kernel
theorem dX12_person_135 : decode cX12_person 135 = .ok (.getfield 13, 3) := by decide +kernel
theorem dX12_person_138 : decode cX12_person 138 = .ok (.bipush 42, 2) := by decide +kernel
theorem dX12_person_140 : decode cX12_person 140 = .ok (.iload_n 1, 1) := by decide +kernel
theorem dX12_person_141 : decode cX12_person 141 = .ok (.iadd, 1) := by decide +kernel
theorem dX12_person_142 : decode cX12_person 142 = .ok (.iaload, 1) := by decide +kernel
theorem dX12_person_143 : decode cX12_person 143 = .ok (.ireturn, 1) := by decide +kernel
theorem dX12_person_144 : decode cX12_person 144 = .ok (.aload_n 0, 1) := by decide +kernel
theorem dX12_person_145 : decode cX12_person 145 = .ok (.getfield 13, 3) := by decide +kernel
theorem dX12_person_148 : decode cX12_person 148 = .ok (.bipush 53, 2) := by decide +kernel
theorem dX12_person_150 : decode cX12_person 150 = .ok (.iaload, 1) := by decide +kernel
theorem dX12_person_151 : decode cX12_person 151 = .ok (.i2l, 1) := by decide +kernel
theorem dX12_person_152 : decode cX12_person 152 = .ok (.iload_n 1, 1) := by decide +kernel
theorem dX12_person_153 : decode cX12_person 153 = .ok (.invokestatic 251, 3) := by decide +kernel
theorem dX12_person_156 : decode cX12_person 156 = .ok (.ifCond .eq 7, 3) := by decide +kernel
theorem dX12_person_159 : decode cX12_person 159 = .ok (.iconst 1, 1) := by decide +kernel
theorem dX12_person_160 : decode cX12_person 160 = .ok (.goto 4, 3) := by decide +kernel
theorem dX12_person_163 : decode cX12_person 163 = .ok (.iconst 0, 1) := by decide +kernel
theorem dX12_person_164 : decode cX12_person 164 = .ok (.ireturn, 1) := by decide +kernel
theorem dX12_person_165 : decode cX12_person 165 = .ok (.aload_n 0, 1) := by decide +kernel
theorem dX12_person_166 : decode cX12_person 166 = .ok (.invokevirtual 255, 3) := by decide +kernel
theorem dX12_person_169 : decode cX12_person 169 = .ok (.i2l, 1) := by decide +kernel
theorem dX12_person_170 : decode cX12_person 170 = .ok (.iload_n 1, 1) := by decide +kernel
theorem dX12_person_171 : decode cX12_person 171 = .ok (.invokestatic 251, 3) := by decide +kernel
theorem dX12_person_174 : decode cX12_person 174 = .ok (.ifCond .eq 7, 3) := by decide +kernel
theorem dX12_person_177 : decode cX12_person 177 = .ok (.iconst 1, 1) := by decide +kernel
theorem dX12_person_178 : decode cX12_person 178 = .ok (.goto 4, 3) := by decide +kernel
theorem dX12_person_181 : decode cX12_person 181 = .ok (.iconst 0, 1) := by decide +kernel
theorem dX12_person_182 : decode cX12_person 182 = .ok (.ireturn, 1) := by decide +kernel
theorem dX12_person_183 : decode cX12_person 183 = .ok (.bipush (-2), 2) := by decide +kernel
theorem dX12_person_185 : decode cX12_person 185 = .ok (.ireturn, 1) := by decide +kernel
theorem dX12_pieces_0 : decode cX12_pieces 0 = .ok (.aload_n 0, 1) := by decide +kernel
theorem dX12_pieces_1 : decode cX12_pieces 1 = .ok (.iconst 0, 1) := by decide +kernel
theorem dX12_pieces_2 : decode cX12_pieces 2 = .ok (.putfield 1, 3) := by decide +kernel
theorem dX12_pieces_5 : decode cX12_pieces 5 = .ok (.aload_n 0, 1) := by decide +kernel
theorem dX12_pieces_6 : decode cX12_pieces 6 = .ok (.iload_n 1, 1) := by decide +kernel
theorem dX12_pieces_7 : decode cX12_pieces 7 = .ok (.invokevirtual 349, 3) := by decide +kernel
theorem dX12_pieces_10 : decode cX12_pieces 10 = .ok (.ifCond .ne 6, 3) := by decide +kernel
theorem dX12_pieces_13 : decode cX12_pieces 13 = .ok (.bipush (-3), 2) := by decide +kernel
theorem dX12_pieces_15 : decode cX12_pieces 15 = .ok (.ireturn, 1) := by decide +kernel
theorem dX12_pieces_16 : decode cX12_pieces 16 = .ok (.aload_n 0, 1) := by decide +kernel
theorem dX12_pieces_17 : decode cX12_pieces 17 = .ok (.aload_n 0, 1) := by decide +kernel
theorem dX12_pieces_18 : decode cX12_pieces 18 = .ok (.getfield 13, 3) := by decide +kernel
theorem dX12_pieces_21 : decode cX12_pieces 21 = .ok (.bipush 52, 2) := by decide +kernel
theorem dX12_pieces_23 : decode cX12_pieces 23 = .ok (.iaload, 1) := by decide +kernel
theorem dX12_pieces_24 : decode cX12_pieces 24 = .ok (.invokevirtual 340, 3) := by decide +kernel
theorem dX12_pieces_27 : decode cX12_pieces 27 = .ok (.aload_n 0, 1) := by decide +kernel
theorem dX12_pieces_28 : decode cX12_pieces 28 = .ok (.iload_n 1, 1) := by decide +kernel
theorem dX12_pieces_29 : decode cX12_pieces 29 = .ok (.iconst 0, 1) := by decide +kernel
theorem dX12_pieces_30 : decode cX12_pieces 30 = .ok (.invokevirtual 367, 3) := by decide +kernel
theorem dX12_pieces_33 : decode cX12_pieces 33 = .ok (.ireturn, 1) := by decide +kernel
theorem dX12_piecesOf_0 : decode cX12_piecesOf 0 = .ok (.iconst 0, 1) := by decide +kernel
theorem dX12_piecesOf_1 : decode cX12_piecesOf 1 = .ok (.istore_n 3, 1) := by decide +kernel
theorem dX12_piecesOf_2 : decode cX12_piecesOf 2 = .ok (.iload_n 1, 1) := by decide +kernel
theorem dX12_piecesOf_3 : decode cX12_piecesOf 3 = .ok (.istore 4, 2) := by decide +kernel
theorem dX12_piecesOf_5 : decode cX12_piecesOf 5 = .ok (.iload 4, 2) := by decide +kernel
theorem dX12_piecesOf_7 : decode cX12_piecesOf 7 = .ok (.ifCond .eq 45, 3) := by decide +kernel
theorem dX12_piecesOf_10 : decode cX12_piecesOf 10 = .ok (.aload_n 0, 1) := by decide +kernel
theorem dX12_piecesOf_11 : decode cX12_piecesOf 11 = .ok (.iload 4, 2) := by decide +kernel
theorem dX12_piecesOf_13 : decode cX12_piecesOf 13 = .ok (.invokestatic 337, 3) := by decide +kernel
theorem dX12_piecesOf_16 : decode cX12_piecesOf 16 = .ok (.iload_n 1, 1) := by decide +kernel
theorem dX12_piecesOf_17 : decode cX12_piecesOf 17 = .ok (.invokevirtual 364, 3) := by decide +kernel
theorem dX12_piecesOf_20 : decode cX12_piecesOf 20 = .ok (.istore 5, 2) := by decide +kernel
theorem dX12_piecesOf_22 : decode cX12_piecesOf 22 = .ok (.iload_n 3, 1) := by decide +kernel
theorem dX12_piecesOf_23 : decode cX12_piecesOf 23 = .ok (.iload_n 2, 1) := by decide +kernel
theorem dX12_piecesOf_24 : decode cX12_piecesOf 24 = .ok (.ifCond .eq 13, 3) := by decide +kernel
theorem dX12_piecesOf_27 : decode cX12_piecesOf 27 = .ok (.iload 5, 2) := by decide +kernel
theorem dX12_piecesOf_29 : decode cX12_piecesOf 29 = .ok (.invokestatic 281, 3) := by decide +kernel
theorem dX12_piecesOf_32 : decode cX12_piecesOf 32 = .ok (.iconst 2, 1) := by decide +kernel
theorem dX12_piecesOf_33 : decode cX12_piecesOf 33 = .ok (.irem, 1) := by decide +kernel
theorem dX12_piecesOf_34 : decode cX12_piecesOf 34 = .ok (.goto 4, 3) := by decide +kernel
theorem dX12_piecesOf_37 : decode cX12_piecesOf 37 = .ok (.iconst 1, 1) := by decide +kernel
theorem dX12_piecesOf_38 : decode cX12_piecesOf 38 = .ok (.iadd, 1) := by decide +kernel
theorem dX12_piecesOf_39 : decode cX12_piecesOf 39 = .ok (.istore_n 3, 1) := by decide +kernel
theorem dX12_piecesOf_40 : decode cX12_piecesOf 40 = .ok (.iload 4, 2) := by decide +kernel
theorem dX12_piecesOf_42 : decode cX12_piecesOf 42 = .ok (.iload 5, 2) := by decide +kernel
theorem dX12_piecesOf_44 : decode cX12_piecesOf 44 = .ok (.iconst (-1), 1) := by decide +kernel
theorem dX12_piecesOf_45 : decode cX12_piecesOf 45 = .ok (.ixor, 1) := by decide +kernel
theorem dX12_piecesOf_46 : decode cX12_piecesOf 46 = .ok (.iand, 1) := by decide +kernel
theorem dX12_piecesOf_47 : decode cX12_piecesOf 47 = .ok (.istore 4, 2) := by decide +kernel
theorem dX12_piecesOf_49 : decode cX12_piecesOf 49 = .ok (.goto (-44), 3) := by decide +kernel
theorem dX12_piecesOf_52 : decode cX12_piecesOf 52 = .ok (.iload_n 3, 1) := by decide +kernel
theorem dX12_piecesOf_53 : decode cX12_piecesOf 53 = .ok (.ireturn, 1) := by decide +kernel
theorem dX12_plain_0 : decode cX12_plain 0 = .ok (.iconst 0, 1) := by decide +kernel
theorem dX12_plain_1 : decode cX12_plain 1 = .ok (.istore_n 1, 1) := by decide +kernel
theorem dX12_plain_2 : decode cX12_plain 2 = .ok (.iload_n 1, 1) := by decide +kernel
theorem dX12_plain_3 : decode cX12_plain 3 = .ok (.sipush 1306, 3) := by decide +kernel
theorem dX12_plain_6 : decode cX12_plain 6 = .ok (.if_icmp .ge 13, 3) := by decide +kernel
theorem dX12_plain_9 : decode cX12_plain 9 = .ok (.aload_n 0, 1) := by decide +kernel
theorem dX12_plain_10 : decode cX12_plain 10 = .ok (.iload_n 1, 1) := by decide +kernel
theorem dX12_plain_11 : decode cX12_plain 11 = .ok (.iconst 0, 1) := by decide +kernel
theorem dX12_plain_12 : decode cX12_plain 12 = .ok (.iastore, 1) := by decide +kernel
theorem dX12_plain_13 : decode cX12_plain 13 = .ok (.iinc 1 1, 3) := by decide +kernel
theorem dX12_plain_16 : decode cX12_plain 16 = .ok (.goto (-14), 3) := by decide +kernel
theorem dX12_plain_19 : decode cX12_plain 19 = .ok (.aload_n 0, 1) := by decide +kernel
theorem dX12_plain_20 : decode cX12_plain 20 = .ok (.iconst 1, 1) := by decide +kernel
theorem dX12_plain_21 : decode cX12_plain 21 = .ok (.iconst 1, 1) := by decide +kernel
theorem dX12_plain_22 : decode cX12_plain 22 = .ok (.iastore, 1) := by decide +kernel
theorem dX12_plain_23 : decode cX12_plain 23 = .ok (.return_, 1) := by decide +kernel
theorem dX12_probe_0 : decode cX12_probe 0 = .ok (.aload_n 0, 1) := by decide +kernel
theorem dX12_probe_1 : decode cX12_probe 1 = .ok (.iconst 0, 1) := by decide +kernel
theorem dX12_probe_2 : decode cX12_probe 2 = .ok (.putfield 1, 3) := by decide +kernel
theorem dX12_probe_5 : decode cX12_probe 5 = .ok (.aload_n 0, 1) := by decide +kernel
theorem dX12_probe_6 : decode cX12_probe 6 = .ok (.iload_n 1, 1) := by decide +kernel
theorem dX12_probe_7 : decode cX12_probe 7 = .ok (.iload_n 2, 1) := by decide +kernel
theorem dX12_probe_8 : decode cX12_probe 8 = .ok (.invokevirtual 408, 3) := by decide +kernel
theorem dX12_probe_11 : decode cX12_probe 11 = .ok (.istore_n 3, 1) := by decide +kernel
theorem dX12_probe_12 : decode cX12_probe 12 = .ok (.iload_n 3, 1) := by decide +kernel
theorem dX12_probe_13 : decode cX12_probe 13 = .ok (.ifCond .eq 5, 3) := by decide +kernel
theorem dX12_probe_16 : decode cX12_probe 16 = .ok (.iload_n 3, 1) := by decide +kernel
theorem dX12_probe_17 : decode cX12_probe 17 = .ok (.ireturn, 1) := by decide +kernel
theorem dX12_probe_18 : decode cX12_probe 18 = .ok (.aload_n 0, 1) := by decide +kernel
theorem dX12_probe_19 : decode cX12_probe 19 = .ok (.iload_n 1, 1) := by decide +kernel
theorem dX12_probe_20 : decode cX12_probe 20 = .ok (.iload_n 2, 1) := by decide +kernel
theorem dX12_probe_21 : decode cX12_probe 21 = .ok (.invokevirtual 411, 3) := by decide +kernel
theorem dX12_probe_24 : decode cX12_probe 24 = .ok (.istore 4, 2) := by decide +kernel
theorem dX12_probe_26 : decode cX12_probe 26 = .ok (.aload_n 0, 1) := by decide +kernel
theorem dX12_probe_27 : decode cX12_probe 27 = .ok (.iload_n 1, 1) := by decide +kernel
theorem dX12_probe_28 : decode cX12_probe 28 = .ok (.invokevirtual 375, 3) := by decide +kernel
theorem dX12_probe_31 : decode cX12_probe 31 = .ok (.istore 5, 2) := by decide +kernel
theorem dX12_probe_33 : decode cX12_probe 33 = .ok (.iconst (-1), 1) := by decide +kernel
theorem dX12_probe_34 : decode cX12_probe 34 = .ok (.istore 6, 2) := by decide +kernel
theorem dX12_probe_36 : decode cX12_probe 36 = .ok (.iconst (-1), 1) := by decide +kernel
theorem dX12_probe_37 : decode cX12_probe 37 = .ok (.istore 7, 2) := by decide +kernel
theorem dX12_probe_39 : decode cX12_probe 39 = .ok (.iconst 0, 1) := by decide +kernel
theorem dX12_probe_40 : decode cX12_probe 40 = .ok (.istore 8, 2) := by decide +kernel
theorem dX12_probe_42 : decode cX12_probe 42 = .ok (.iload 8, 2) := by decide +kernel
theorem dX12_probe_44 : decode cX12_probe 44 = .ok (.aload_n 0, 1) := by decide +kernel
theorem dX12_probe_45 : decode cX12_probe 45 = .ok (.getfield 13, 3) := by decide +kernel
theorem dX12_probe_48 : decode cX12_probe 48 = .ok (.iconst 2, 1) := by decide +kernel
theorem dX12_probe_49 : decode cX12_probe 49 = .ok (.iaload, 1) := by decide +kernel
theorem dX12_probe_50 : decode cX12_probe 50 = .ok (.if_icmp .ge 134, 3) := by decide +kernel
theorem dX12_probe_53 : decode cX12_probe 53 = .ok (.iload 4, 2) := by decide +kernel
theorem dX12_probe_55 : decode cX12_probe 55 = .ok (.ifCond .le 129, 3) := by decide +kernel
theorem dX12_probe_58 : decode cX12_probe 58 = .ok (.iload 8, 2) := by decide +kernel
theorem dX12_probe_60 : decode cX12_probe 60 = .ok (.iload_n 1, 1) := by decide +kernel
theorem dX12_probe_61 : decode cX12_probe 61 = .ok (.if_icmp .eq 117, 3) := by decide +kernel
theorem dX12_probe_64 : decode cX12_probe 64 = .ok (.aload_n 0, 1) := by decide +kernel
theorem dX12_probe_65 : decode cX12_probe 65 = .ok (.invokevirtual 255, 3) := by decide +kernel
theorem dX12_probe_68 : decode cX12_probe 68 = .ok (.i2l, 1) := by decide +kernel
theorem dX12_probe_69 : decode cX12_probe 69 = .ok (.iload 8, 2) := by decide +kernel
theorem dX12_probe_71 : decode cX12_probe 71 = .ok (.invokestatic 251, 3) := by decide +kernel
theorem dX12_probe_74 : decode cX12_probe 74 = .ok (.ifCond .eq 6, 3) := by decide +kernel
theorem dX12_probe_77 : decode cX12_probe 77 = .ok (.goto 101, 3) := by decide +kernel
theorem dX12_probe_80 : decode cX12_probe 80 = .ok (.iconst 0, 1) := by decide +kernel
theorem dX12_probe_81 : decode cX12_probe 81 = .ok (.istore 9, 2) := by decide +kernel
theorem dX12_probe_83 : decode cX12_probe 83 = .ok (.iconst 0, 1) := by decide +kernel
theorem dX12_probe_84 : decode cX12_probe 84 = .ok (.istore 10, 2) := by decide +kernel
theorem dX12_probe_86 : decode cX12_probe 86 = .ok (.iload 10, 2) := by decide +kernel
theorem dX12_probe_88 : decode cX12_probe 88 = .ok (.iload 4, 2) := by decide +kernel
theorem dX12_probe_90 : decode cX12_probe 90 = .ok (.if_icmp .ge 48, 3) := by decide +kernel
theorem dX12_probe_93 : decode cX12_probe 93 = .ok (.aload_n 0, 1) := by decide +kernel
theorem dX12_probe_94 : decode cX12_probe 94 = .ok (.iload_n 1, 1) := by decide +kernel
theorem dX12_probe_95 : decode cX12_probe 95 = .ok (.aload_n 0, 1) := by decide +kernel
theorem dX12_probe_96 : decode cX12_probe 96 = .ok (.getfield 54, 3) := by decide +kernel
theorem dX12_probe_99 : decode cX12_probe 99 = .ok (.iload 10, 2) := by decide +kernel
theorem dX12_probe_101 : decode cX12_probe 101 = .ok (.iaload, 1) := by decide +kernel
theorem dX12_probe_102 : decode cX12_probe 102 = .ok (.invokevirtual 378, 3) := by decide +kernel
theorem dX12_probe_105 : decode cX12_probe 105 = .ok (.iload 9, 2) := by decide +kernel
theorem dX12_probe_107 : decode cX12_probe 107 = .ok (.aload_n 0, 1) := by decide +kernel
theorem dX12_probe_108 : decode cX12_probe 108 = .ok (.iload_n 1, 1) := by decide +kernel
theorem dX12_probe_109 : decode cX12_probe 109 = .ok (.iload 8, 2) := by decide +kernel
theorem dX12_probe_111 : decode cX12_probe 111 = .ok (.aload_n 0, 1) := by decide +kernel
theorem dX12_probe_112 : decode cX12_probe 112 = .ok (.getfield 13, 3) := by decide +kernel
theorem dX12_probe_115 : decode cX12_probe 115 = .ok (.bipush 52, 2) := by decide +kernel
theorem dX12_probe_117 : decode cX12_probe 117 = .ok (.iaload, 1) := by decide +kernel
theorem dX12_probe_118 : decode cX12_probe 118 = .ok (.invokevirtual 241, 3) := by decide +kernel
theorem dX12_probe_121 : decode cX12_probe 121 = .ok (.ifCond .eq 7, 3) := by decide +kernel
theorem dX12_probe_124 : decode cX12_probe 124 = .ok (.iconst 1, 1) := by decide +kernel
theorem dX12_probe_125 : decode cX12_probe 125 = .ok (.goto 4, 3) := by decide +kernel
theorem dX12_probe_128 : decode cX12_probe 128 = .ok (.iconst 0, 1) := by decide +kernel
theorem dX12_probe_129 : decode cX12_probe 129 = .ok (.iadd, 1) := by decide +kernel
theorem dX12_probe_130 : decode cX12_probe 130 = .ok (.istore 9, 2) := by decide +kernel
theorem dX12_probe_132 : decode cX12_probe 132 = .ok (.iinc 10 1, 3) := by decide +kernel
theorem dX12_probe_135 : decode cX12_probe 135 = .ok (.goto (-49), 3) := by decide +kernel
theorem dX12_probe_138 : decode cX12_probe 138 = .ok (.iload 9, 2) := by decide +kernel
theorem dX12_probe_140 : decode cX12_probe 140 = .ok (.iload 4, 2) := by decide +kernel
theorem dX12_probe_142 : decode cX12_probe 142 = .ok (.iload 9, 2) := by decide +kernel
theorem dX12_probe_144 : decode cX12_probe 144 = .ok (.isub, 1) := by decide +kernel
theorem dX12_probe_145 : decode cX12_probe 145 = .ok (.if_icmp .ge 8, 3) := by decide +kernel
theorem dX12_probe_148 : decode cX12_probe 148 = .ok (.iload 9, 2) := by decide +kernel
theorem dX12_probe_150 : decode cX12_probe 150 = .ok (.goto 8, 3) := by decide +kernel
theorem dX12_probe_153 : decode cX12_probe 153 = .ok (.iload 4, 2) := by decide +kernel
theorem dX12_probe_155 : decode cX12_probe 155 = .ok (.iload 9, 2) := by decide +kernel
theorem dX12_probe_157 : decode cX12_probe 157 = .ok (.isub, 1) := by decide +kernel
theorem dX12_probe_158 : decode cX12_probe 158 = .ok (.istore 10, 2) := by decide +kernel
theorem dX12_probe_160 : decode cX12_probe 160 = .ok (.iload 10, 2) := by decide +kernel
theorem dX12_probe_162 : decode cX12_probe 162 = .ok (.iload 7, 2) := by decide +kernel
theorem dX12_probe_164 : decode cX12_probe 164 = .ok (.if_icmp .gt 6, 3) := by decide +kernel
theorem dX12_probe_167 : decode cX12_probe 167 = .ok (.goto 11, 3) := by decide +kernel
theorem dX12_probe_170 : decode cX12_probe 170 = .ok (.iload 8, 2) := by decide +kernel
theorem dX12_probe_172 : decode cX12_probe 172 = .ok (.istore 6, 2) := by decide +kernel
theorem dX12_probe_174 : decode cX12_probe 174 = .ok (.iload 10, 2) := by decide +kernel
theorem dX12_probe_176 : decode cX12_probe 176 = .ok (.istore 7, 2) := by decide +kernel
theorem dX12_probe_178 : decode cX12_probe 178 = .ok (.iinc 8 1, 3) := by decide +kernel
theorem dX12_probe_181 : decode cX12_probe 181 = .ok (.goto (-139), 3) := by decide +kernel
theorem dX12_probe_184 : decode cX12_probe 184 = .ok (.aload_n 0, 1) := by decide +kernel
theorem dX12_probe_185 : decode cX12_probe 185 = .ok (.iload_n 1, 1) := by decide +kernel
theorem dX12_probe_186 : decode cX12_probe 186 = .ok (.iload 5, 2) := by decide +kernel
theorem dX12_probe_188 : decode cX12_probe 188 = .ok (.invokevirtual 378, 3) := by decide +kernel
theorem dX12_probe_191 : decode cX12_probe 191 = .ok (.iload 6, 2) := by decide +kernel
theorem dX12_probe_193 : decode cX12_probe 193 = .ok (.ireturn, 1) := by decide +kernel
theorem dX12_quorum_0 : decode cX12_quorum 0 = .ok (.aload_n 0, 1) := by decide +kernel
theorem dX12_quorum_1 : decode cX12_quorum 1 = .ok (.iconst 0, 1) := by decide +kernel
theorem dX12_quorum_2 : decode cX12_quorum 2 = .ok (.putfield 1, 3) := by decide +kernel
theorem dX12_quorum_5 : decode cX12_quorum 5 = .ok (.aload_n 0, 1) := by decide +kernel
theorem dX12_quorum_6 : decode cX12_quorum 6 = .ok (.invokevirtual 346, 3) := by decide +kernel
theorem dX12_quorum_9 : decode cX12_quorum 9 = .ok (.aload_n 0, 1) := by decide +kernel
theorem dX12_quorum_10 : decode cX12_quorum 10 = .ok (.invokevirtual 255, 3) := by decide +kernel
theorem dX12_quorum_13 : decode cX12_quorum 13 = .ok (.istore_n 1, 1) := by decide +kernel
theorem dX12_quorum_14 : decode cX12_quorum 14 = .ok (.iconst 0, 1) := by decide +kernel
theorem dX12_quorum_15 : decode cX12_quorum 15 = .ok (.istore_n 2, 1) := by decide +kernel
theorem dX12_quorum_16 : decode cX12_quorum 16 = .ok (.iconst 0, 1) := by decide +kernel
theorem dX12_quorum_17 : decode cX12_quorum 17 = .ok (.istore_n 3, 1) := by decide +kernel
theorem dX12_quorum_18 : decode cX12_quorum 18 = .ok (.iload_n 3, 1) := by decide +kernel
theorem dX12_quorum_19 : decode cX12_quorum 19 = .ok (.iload_n 1, 1) := by decide +kernel
theorem dX12_quorum_20 : decode cX12_quorum 20 = .ok (.if_icmp .gt 39, 3) := by decide +kernel
theorem dX12_quorum_23 : decode cX12_quorum 23 = .ok (.iload_n 3, 1) := by decide +kernel
theorem dX12_quorum_24 : decode cX12_quorum 24 = .ok (.iload_n 1, 1) := by decide +kernel
theorem dX12_quorum_25 : decode cX12_quorum 25 = .ok (.iconst (-1), 1) := by decide +kernel
theorem dX12_quorum_26 : decode cX12_quorum 26 = .ok (.ixor, 1) := by decide +kernel
theorem dX12_quorum_27 : decode cX12_quorum 27 = .ok (.iand, 1) := by decide +kernel
theorem dX12_quorum_28 : decode cX12_quorum 28 = .ok (.ifCond .ne 25, 3) := by decide +kernel
theorem dX12_quorum_31 : decode cX12_quorum 31 = .ok (.aload_n 0, 1) := by decide +kernel
theorem dX12_quorum_32 : decode cX12_quorum 32 = .ok (.getfield 45, 3) := by decide +kernel
theorem dX12_quorum_35 : decode cX12_quorum 35 = .ok (.iload_n 3, 1) := by decide +kernel
theorem dX12_quorum_36 : decode cX12_quorum 36 = .ok (.iaload, 1) := by decide +kernel
theorem dX12_quorum_37 : decode cX12_quorum 37 = .ok (.ifCond .le 16, 3) := by decide +kernel
theorem dX12_quorum_40 : decode cX12_quorum 40 = .ok (.iload_n 3, 1) := by decide +kernel
theorem dX12_quorum_41 : decode cX12_quorum 41 = .ok (.invokestatic 281, 3) := by decide +kernel
theorem dX12_quorum_44 : decode cX12_quorum 44 = .ok (.iload_n 2, 1) := by decide +kernel
theorem dX12_quorum_45 : decode cX12_quorum 45 = .ok (.invokestatic 281, 3) := by decide +kernel
theorem dX12_quorum_48 : decode cX12_quorum 48 = .ok (.if_icmp .le 5, 3) := by decide +kernel
theorem dX12_quorum_51 : decode cX12_quorum 51 = .ok (.iload_n 3, 1) := by decide +kernel
theorem dX12_quorum_52 : decode cX12_quorum 52 = .ok (.istore_n 2, 1) := by decide +kernel
theorem dX12_quorum_53 : decode cX12_quorum 53 = .ok (.iinc 3 1, 3) := by decide +kernel
theorem dX12_quorum_56 : decode cX12_quorum 56 = .ok (.goto (-38), 3) := by decide +kernel
theorem dX12_quorum_59 : decode cX12_quorum 59 = .ok (.iload_n 2, 1) := by decide +kernel
theorem dX12_quorum_60 : decode cX12_quorum 60 = .ok (.ireturn, 1) := by decide +kernel
theorem dX12_reserve_0 : decode cX12_reserve 0 = .ok (.aload_n 0, 1) := by decide +kernel
theorem dX12_reserve_1 : decode cX12_reserve 1 = .ok (.iconst 0, 1) := by decide +kernel
theorem dX12_reserve_2 : decode cX12_reserve 2 = .ok (.putfield 1, 3) := by decide +kernel
theorem dX12_reserve_5 : decode cX12_reserve 5 = .ok (.aload_n 0, 1) := by decide +kernel
theorem dX12_reserve_6 : decode cX12_reserve 6 = .ok (.iload_n 1, 1) := by decide +kernel
theorem dX12_reserve_7 : decode cX12_reserve 7 = .ok (.invokevirtual 349, 3) := by decide +kernel
theorem dX12_reserve_10 : decode cX12_reserve 10 = .ok (.ifCond .ne 6, 3) := by decide +kernel
theorem dX12_reserve_13 : decode cX12_reserve 13 = .ok (.bipush (-3), 2) := by decide +kernel
theorem dX12_reserve_15 : decode cX12_reserve 15 = .ok (.ireturn, 1) := by decide +kernel
theorem dX12_reserve_16 : decode cX12_reserve 16 = .ok (.aload_n 0, 1) := by decide +kernel
theorem dX12_reserve_17 : decode cX12_reserve 17 = .ok (.invokevirtual 346, 3) := by decide +kernel
theorem dX12_reserve_20 : decode cX12_reserve 20 = .ok (.aload_n 0, 1) := by decide +kernel
theorem dX12_reserve_21 : decode cX12_reserve 21 = .ok (.invokevirtual 255, 3) := by decide +kernel
theorem dX12_reserve_24 : decode cX12_reserve 24 = .ok (.iload_n 1, 1) := by decide +kernel
theorem dX12_reserve_25 : decode cX12_reserve 25 = .ok (.iconst (-1), 1) := by decide +kernel
theorem dX12_reserve_26 : decode cX12_reserve 26 = .ok (.ixor, 1) := by decide +kernel
theorem dX12_reserve_27 : decode cX12_reserve 27 = .ok (.iand, 1) := by decide +kernel
theorem dX12_reserve_28 : decode cX12_reserve 28 = .ok (.istore_n 2, 1) := by decide +kernel
theorem dX12_reserve_29 : decode cX12_reserve 29 = .ok (.iconst (-1), 1) := by decide +kernel
theorem dX12_reserve_30 : decode cX12_reserve 30 = .ok (.istore_n 3, 1) := by decide +kernel
theorem dX12_reserve_31 : decode cX12_reserve 31 = .ok (.ldc2_w 289, 3) := by decide +kernel
theorem dX12_reserve_34 : decode cX12_reserve 34 = .ok (.aload_n 0, 1) := by decide +kernel
theorem dX12_reserve_35 : decode cX12_reserve 35 = .ok (.iload_n 1, 1) := by decide +kernel
theorem dX12_reserve_36 : decode cX12_reserve 36 = .ok (.invokevirtual 422, 3) := by decide +kernel
theorem dX12_reserve_39 : decode cX12_reserve 39 = .ok (.lmul, 1) := by decide +kernel
theorem dX12_reserve_40 : decode cX12_reserve 40 = .ok (.lstore 4, 2) := by decide +kernel
theorem dX12_reserve_42 : decode cX12_reserve 42 = .ok (.iconst 0, 1) := by decide +kernel
theorem dX12_reserve_43 : decode cX12_reserve 43 = .ok (.istore 6, 2) := by decide +kernel
theorem dX12_reserve_45 : decode cX12_reserve 45 = .ok (.iload 6, 2) := by decide +kernel
theorem dX12_reserve_47 : decode cX12_reserve 47 = .ok (.aload_n 0, 1) := by decide +kernel
theorem dX12_reserve_48 : decode cX12_reserve 48 = .ok (.getfield 13, 3) := by decide +kernel
theorem dX12_reserve_51 : decode cX12_reserve 51 = .ok (.iconst 2, 1) := by decide +kernel
theorem dX12_reserve_52 : decode cX12_reserve 52 = .ok (.iaload, 1) := by decide +kernel
theorem dX12_reserve_53 : decode cX12_reserve 53 = .ok (.if_icmp .ge 55, 3) := by decide +kernel
theorem dX12_reserve_56 : decode cX12_reserve 56 = .ok (.iload_n 2, 1) := by decide +kernel
theorem dX12_reserve_57 : decode cX12_reserve 57 = .ok (.i2l, 1) := by decide +kernel
theorem dX12_reserve_58 : decode cX12_reserve 58 = .ok (.iload 6, 2) := by decide +kernel
theorem dX12_reserve_60 : decode cX12_reserve 60 = .ok (.invokestatic 251, 3) := by decide +kernel
theorem dX12_reserve_63 : decode cX12_reserve 63 = .ok (.ifCond .eq 16, 3) := by decide +kernel
theorem dX12_reserve_66 : decode cX12_reserve 66 = .ok (.aload_n 0, 1) := by decide +kernel
theorem dX12_reserve_67 : decode cX12_reserve 67 = .ok (.iload_n 1, 1) := by decide +kernel
theorem dX12_reserve_68 : decode cX12_reserve 68 = .ok (.iconst 1, 1) := by decide +kernel
theorem dX12_reserve_69 : decode cX12_reserve 69 = .ok (.iload 6, 2) := by decide +kernel
theorem dX12_reserve_71 : decode cX12_reserve 71 = .ok (.ishl, 1) := by decide +kernel
theorem dX12_reserve_72 : decode cX12_reserve 72 = .ok (.ior, 1) := by decide +kernel
theorem dX12_reserve_73 : decode cX12_reserve 73 = .ok (.invokevirtual 422, 3) := by decide +kernel
theorem dX12_reserve_76 : decode cX12_reserve 76 = .ok (.goto 6, 3) := by decide +kernel
theorem dX12_reserve_79 : decode cX12_reserve 79 = .ok (.ldc2_w 291, 3) := by decide +kernel
theorem dX12_reserve_82 : decode cX12_reserve 82 = .ok (.lstore 7, 2) := by decide +kernel
theorem dX12_reserve_84 : decode cX12_reserve 84 = .ok (.lload 7, 2) := by decide +kernel
theorem dX12_reserve_86 : decode cX12_reserve 86 = .ok (.lload 4, 2) := by decide +kernel
theorem dX12_reserve_88 : decode cX12_reserve 88 = .ok (.lcmp, 1) := by decide +kernel
theorem dX12_reserve_89 : decode cX12_reserve 89 = .ok (.ifCond .gt 6, 3) := by decide +kernel
theorem dX12_reserve_92 : decode cX12_reserve 92 = .ok (.goto 10, 3) := by decide +kernel
theorem dX12_reserve_95 : decode cX12_reserve 95 = .ok (.iload 6, 2) := by decide +kernel
theorem dX12_reserve_97 : decode cX12_reserve 97 = .ok (.istore_n 3, 1) := by decide +kernel
theorem dX12_reserve_98 : decode cX12_reserve 98 = .ok (.lload 7, 2) := by decide +kernel
theorem dX12_reserve_100 : decode cX12_reserve 100 = .ok (.lstore 4, 2) := by decide +kernel
theorem dX12_reserve_102 : decode cX12_reserve 102 = .ok (.iinc 6 1, 3) := by decide +kernel
theorem dX12_reserve_105 : decode cX12_reserve 105 = .ok (.goto (-60), 3) := by decide +kernel
theorem dX12_reserve_108 : decode cX12_reserve 108 = .ok (.iload_n 3, 1) := by decide +kernel
theorem dX12_reserve_109 : decode cX12_reserve 109 = .ok (.ireturn, 1) := by decide +kernel
theorem dX12_restore_0 : decode cX12_restore 0 = .ok (.aload_n 0, 1) := by decide +kernel
theorem dX12_restore_1 : decode cX12_restore 1 = .ok (.iconst 0, 1) := by decide +kernel
theorem dX12_restore_2 : decode cX12_restore 2 = .ok (.putfield 1, 3) := by decide +kernel
theorem dX12_restore_5 : decode cX12_restore 5 = .ok (.iload_n 1, 1) := by decide +kernel
theorem dX12_restore_6 : decode cX12_restore 6 = .ok (.i2l, 1) := by decide +kernel
theorem dX12_restore_7 : decode cX12_restore 7 = .ok (.lconst 0, 1) := by decide +kernel
theorem dX12_restore_8 : decode cX12_restore 8 = .ok (.lconst 1, 1) := by decide +kernel
theorem dX12_restore_9 : decode cX12_restore 9 = .ok (.invokestatic 145, 3) := by decide +kernel
theorem dX12_restore_12 : decode cX12_restore 12 = .ok (.ifCond .ne 6, 3) := by decide +kernel
theorem dX12_restore_15 : decode cX12_restore 15 = .ok (.bipush (-2), 2) := by decide +kernel
theorem dX12_restore_17 : decode cX12_restore 17 = .ok (.ireturn, 1) := by decide +kernel
theorem dX12_restore_18 : decode cX12_restore 18 = .ok (.aload_n 0, 1) := by decide +kernel
theorem dX12_restore_19 : decode cX12_restore 19 = .ok (.getfield 17, 3) := by decide +kernel
theorem dX12_restore_22 : decode cX12_restore 22 = .ok (.iload_n 1, 1) := by decide +kernel
theorem dX12_restore_23 : decode cX12_restore 23 = .ok (.baload, 1) := by decide +kernel
theorem dX12_restore_24 : decode cX12_restore 24 = .ok (.ifCond .ne 6, 3) := by decide +kernel
theorem dX12_restore_27 : decode cX12_restore 27 = .ok (.bipush (-5), 2) := by decide +kernel
theorem dX12_restore_29 : decode cX12_restore 29 = .ok (.ireturn, 1) := by decide +kernel
theorem dX12_restore_30 : decode cX12_restore 30 = .ok (.iconst 0, 1) := by decide +kernel
theorem dX12_restore_31 : decode cX12_restore 31 = .ok (.istore_n 2, 1) := by decide +kernel
theorem dX12_restore_32 : decode cX12_restore 32 = .ok (.iload_n 2, 1) := by decide +kernel
theorem dX12_restore_33 : decode cX12_restore 33 = .ok (.sipush 1306, 3) := by decide +kernel
theorem dX12_restore_36 : decode cX12_restore 36 = .ok (.if_icmp .ge 29, 3) := by decide +kernel
theorem dX12_restore_39 : decode cX12_restore 39 = .ok (.aload_n 0, 1) := by decide +kernel
theorem dX12_restore_40 : decode cX12_restore 40 = .ok (.getfield 13, 3) := by decide +kernel
theorem dX12_restore_43 : decode cX12_restore 43 = .ok (.iload_n 2, 1) := by decide +kernel
theorem dX12_restore_44 : decode cX12_restore 44 = .ok (.aload_n 0, 1) := by decide +kernel
theorem dX12_restore_45 : decode cX12_restore 45 = .ok (.getfield 13, 3) := by decide +kernel
theorem dX12_restore_48 : decode cX12_restore 48 = .ok (.sipush 1306, 3) := by decide +kernel
theorem dX12_restore_51 : decode cX12_restore 51 = .ok (.iload_n 1, 1) := by decide +kernel
theorem dX12_restore_52 : decode cX12_restore 52 = .ok (.iconst 1, 1) := by decide +kernel
theorem dX12_restore_53 : decode cX12_restore 53 = .ok (.iadd, 1) := by decide +kernel
theorem dX12_restore_54 : decode cX12_restore 54 = .ok (.imul, 1) := by decide +kernel
theorem dX12_restore_55 : decode cX12_restore 55 = .ok (.iload_n 2, 1) := by decide +kernel
theorem dX12_restore_56 : decode cX12_restore 56 = .ok (.iadd, 1) := by decide +kernel
theorem dX12_restore_57 : decode cX12_restore 57 = .ok (.iaload, 1) := by decide +kernel
theorem dX12_restore_58 : decode cX12_restore 58 = .ok (.iastore, 1) := by decide +kernel
theorem dX12_restore_59 : decode cX12_restore 59 = .ok (.iinc 2 1, 3) := by decide +kernel
theorem dX12_restore_62 : decode cX12_restore 62 = .ok (.goto (-30), 3) := by decide +kernel
theorem dX12_restore_65 : decode cX12_restore 65 = .ok (.aload_n 0, 1) := by decide +kernel
theorem dX12_restore_66 : decode cX12_restore 66 = .ok (.getfield 13, 3) := by decide +kernel
theorem dX12_restore_69 : decode cX12_restore 69 = .ok (.bipush 84, 2) := by decide +kernel
theorem dX12_restore_71 : decode cX12_restore 71 = .ok (.iconst 0, 1) := by decide +kernel
theorem dX12_restore_72 : decode cX12_restore 72 = .ok (.iastore, 1) := by decide +kernel
theorem dX12_restore_73 : decode cX12_restore 73 = .ok (.iconst 0, 1) := by decide +kernel
theorem dX12_restore_74 : decode cX12_restore 74 = .ok (.ireturn, 1) := by decide +kernel
theorem dX12_see_0 : decode cX12_see 0 = .ok (.iload_n 1, 1) := by decide +kernel
theorem dX12_see_1 : decode cX12_see 1 = .ok (.aload_n 0, 1) := by decide +kernel
theorem dX12_see_2 : decode cX12_see 2 = .ok (.getfield 86, 3) := by decide +kernel
theorem dX12_see_5 : decode cX12_see 5 = .ok (.if_icmp .ge 12, 3) := by decide +kernel
theorem dX12_see_8 : decode cX12_see 8 = .ok (.aload_n 0, 1) := by decide +kernel
theorem dX12_see_9 : decode cX12_see 9 = .ok (.getfield 21, 3) := by decide +kernel
theorem dX12_see_12 : decode cX12_see 12 = .ok (.iload_n 1, 1) := by decide +kernel
theorem dX12_see_13 : decode cX12_see 13 = .ok (.iaload, 1) := by decide +kernel
theorem dX12_see_14 : decode cX12_see 14 = .ok (.goto 4, 3) := by decide +kernel
theorem dX12_see_17 : decode cX12_see 17 = .ok (.iconst (-1), 1) := by decide +kernel
theorem dX12_see_18 : decode cX12_see 18 = .ok (.ireturn, 1) := by decide +kernel
theorem dX12_send_0 : decode cX12_send 0 = .ok (.aload_n 0, 1) := by decide +kernel
theorem dX12_send_1 : decode cX12_send 1 = .ok (.iconst 0, 1) := by decide +kernel
theorem dX12_send_2 : decode cX12_send 2 = .ok (.putfield 1, 3) := by decide +kernel
theorem dX12_send_5 : decode cX12_send 5 = .ok (.aload_n 0, 1) := by decide +kernel
theorem dX12_send_6 : decode cX12_send 6 = .ok (.iload_n 1, 1) := by decide +kernel
theorem dX12_send_7 : decode cX12_send 7 = .ok (.iconst 1, 1) := by decide +kernel
theorem dX12_send_8 : decode cX12_send 8 = .ok (.invokevirtual 284, 3) := by decide +kernel
theorem dX12_send_11 : decode cX12_send 11 = .ok (.ireturn, 1) := by decide +kernel
theorem dX12_sits_0 : decode cX12_sits 0 = .ok (.aload_n 0, 1) := by decide +kernel
theorem dX12_sits_1 : decode cX12_sits 1 = .ok (.iconst 0, 1) := by decide +kernel
theorem dX12_sits_2 : decode cX12_sits 2 = .ok (.putfield 1, 3) := by decide +kernel
theorem dX12_sits_5 : decode cX12_sits 5 = .ok (.aload_n 0, 1) := by decide +kernel
theorem dX12_sits_6 : decode cX12_sits 6 = .ok (.iload_n 1, 1) := by decide +kernel
theorem dX12_sits_7 : decode cX12_sits 7 = .ok (.invokevirtual 349, 3) := by decide +kernel
theorem dX12_sits_10 : decode cX12_sits 10 = .ok (.ifCond .ne 8, 3) := by decide +kernel
theorem dX12_sits_13 : decode cX12_sits 13 = .ok (.bipush (-3), 2) := by decide +kernel
theorem dX12_sits_15 : decode cX12_sits 15 = .ok (.goto 16, 3) := by decide +kernel
theorem dX12_sits_18 : decode cX12_sits 18 = .ok (.aload_n 0, 1) := by decide +kernel
theorem dX12_sits_19 : decode cX12_sits 19 = .ok (.iload_n 1, 1) := by decide +kernel
theorem dX12_sits_20 : decode cX12_sits 20 = .ok (.invokevirtual 319, 3) := by decide +kernel
theorem dX12_sits_23 : decode cX12_sits 23 = .ok (.ifCond .eq 7, 3) := by decide +kernel
theorem dX12_sits_26 : decode cX12_sits 26 = .ok (.iconst 1, 1) := by decide +kernel
theorem dX12_sits_27 : decode cX12_sits 27 = .ok (.goto 4, 3) := by decide +kernel
theorem dX12_sits_30 : decode cX12_sits 30 = .ok (.iconst 0, 1) := by decide +kernel
theorem dX12_sits_31 : decode cX12_sits 31 = .ok (.ireturn, 1) := by decide +kernel
theorem dX12_sitsNow_0 : decode cX12_sitsNow 0 = .ok (.aload_n 0, 1) := by decide +kernel
theorem dX12_sitsNow_1 : decode cX12_sitsNow 1 = .ok (.invokevirtual 346, 3) := by decide +kernel
theorem dX12_sitsNow_4 : decode cX12_sitsNow 4 = .ok (.aload_n 0, 1) := by decide +kernel
theorem dX12_sitsNow_5 : decode cX12_sitsNow 5 = .ok (.getfield 45, 3) := by decide +kernel
theorem dX12_sitsNow_8 : decode cX12_sitsNow 8 = .ok (.iload_n 1, 1) := by decide +kernel
theorem dX12_sitsNow_9 : decode cX12_sitsNow 9 = .ok (.iaload, 1) := by decide +kernel
theorem dX12_sitsNow_10 : decode cX12_sitsNow 10 = .ok (.ifCond .le 7, 3) := by decide +kernel
theorem dX12_sitsNow_13 : decode cX12_sitsNow 13 = .ok (.iconst 1, 1) := by decide +kernel
theorem dX12_sitsNow_14 : decode cX12_sitsNow 14 = .ok (.goto 4, 3) := by decide +kernel
theorem dX12_sitsNow_17 : decode cX12_sitsNow 17 = .ok (.iconst 0, 1) := by decide +kernel
theorem dX12_sitsNow_18 : decode cX12_sitsNow 18 = .ok (.ireturn, 1) := by decide +kernel
theorem dX12_takes_0 : decode cX12_takes 0 = .ok (.aload_n 0, 1) := by decide +kernel
theorem dX12_takes_1 : decode cX12_takes 1 = .ok (.bipush 25, 2) := by decide +kernel
theorem dX12_takes_3 : decode cX12_takes 3 = .ok (.invokevirtual 135, 3) := by decide +kernel
theorem dX12_takes_6 : decode cX12_takes 6 = .ok (.ifCond .ne 11, 3) := by decide +kernel
theorem dX12_takes_9 : decode cX12_takes 9 = .ok (.aload_n 0, 1) := by decide +kernel
theorem dX12_takes_10 : decode cX12_takes 10 = .ok (.iconst 2, 1) := by decide +kernel
theorem dX12_takes_11 : decode cX12_takes 11 = .ok (.invokevirtual 141, 3) := by decide +kernel
theorem dX12_takes_14 : decode cX12_takes 14 = .ok (.goto 23, 3) := by decide +kernel
theorem dX12_takes_17 : decode cX12_takes 17 = .ok (.aload_n 0, 1) := by decide +kernel
theorem dX12_takes_18 : decode cX12_takes 18 = .ok (.getfield 124, 3) := by decide +kernel
theorem dX12_takes_21 : decode cX12_takes 21 = .ok (.i2l, 1) := by decide +kernel
theorem dX12_takes_22 : decode cX12_takes 22 = .ok (.iload_n 1, 1) := by decide +kernel
theorem dX12_takes_23 : decode cX12_takes 23 = .ok (.i2l, 1) := by decide +kernel
theorem dX12_takes_24 : decode cX12_takes 24 = .ok (.iload_n 2, 1) := by decide +kernel
theorem dX12_takes_25 : decode cX12_takes 25 = .ok (.i2l, 1) := by decide +kernel
theorem dX12_takes_26 : decode cX12_takes 26 = .ok (.invokestatic 145, 3) := by decide +kernel
theorem dX12_takes_29 : decode cX12_takes 29 = .ok (.ifCond .ne 8, 3) := by decide +kernel
theorem dX12_takes_32 : decode cX12_takes 32 = .ok (.aload_n 0, 1) := by decide +kernel
theorem dX12_takes_33 : decode cX12_takes 33 = .ok (.iconst 3, 1) := by decide +kernel
theorem dX12_takes_34 : decode cX12_takes 34 = .ok (.invokevirtual 141, 3) := by decide +kernel
theorem dX12_takes_37 : decode cX12_takes 37 = .ok (.aload_n 0, 1) := by decide +kernel
theorem dX12_takes_38 : decode cX12_takes 38 = .ok (.getfield 124, 3) := by decide +kernel
theorem dX12_takes_41 : decode cX12_takes 41 = .ok (.istore_n 3, 1) := by decide +kernel
theorem dX12_takes_42 : decode cX12_takes 42 = .ok (.aload_n 0, 1) := by decide +kernel
theorem dX12_takes_43 : decode cX12_takes 43 = .ok (.getfield 129, 3) := by decide +kernel
theorem dX12_takes_46 : decode cX12_takes 46 = .ok (.ifCond .ne 7, 3) := by decide +kernel
theorem dX12_takes_49 : decode cX12_takes 49 = .ok (.aload_n 0, 1) := by decide +kernel
theorem dX12_takes_50 : decode cX12_takes 50 = .ok (.invokevirtual 138, 3) := by decide +kernel
theorem dX12_takes_53 : decode cX12_takes 53 = .ok (.iload_n 3, 1) := by decide +kernel
theorem dX12_takes_54 : decode cX12_takes 54 = .ok (.ireturn, 1) := by decide +kernel
theorem dX12_talk_0 : decode cX12_talk 0 = .ok (.aload_n 0, 1) := by decide +kernel
theorem dX12_talk_1 : decode cX12_talk 1 = .ok (.iconst 0, 1) := by decide +kernel
theorem dX12_talk_2 : decode cX12_talk 2 = .ok (.putfield 1, 3) := by decide +kernel
theorem dX12_talk_5 : decode cX12_talk 5 = .ok (.aload_n 0, 1) := by decide +kernel
theorem dX12_talk_6 : decode cX12_talk 6 = .ok (.iload_n 1, 1) := by decide +kernel
theorem dX12_talk_7 : decode cX12_talk 7 = .ok (.i2l, 1) := by decide +kernel
theorem dX12_talk_8 : decode cX12_talk 8 = .ok (.iload_n 2, 1) := by decide +kernel
theorem dX12_talk_9 : decode cX12_talk 9 = .ok (.i2l, 1) := by decide +kernel
theorem dX12_talk_10 : decode cX12_talk 10 = .ok (.invokevirtual 263, 3) := by decide +kernel
theorem dX12_talk_13 : decode cX12_talk 13 = .ok (.istore_n 3, 1) := by decide +kernel
theorem dX12_talk_14 : decode cX12_talk 14 = .ok (.iload_n 3, 1) := by decide +kernel
theorem dX12_talk_15 : decode cX12_talk 15 = .ok (.ifCond .eq 8, 3) := by decide +kernel
theorem dX12_talk_18 : decode cX12_talk 18 = .ok (.bipush (-10), 2) := by decide +kernel
theorem dX12_talk_20 : decode cX12_talk 20 = .ok (.iload_n 3, 1) := by decide +kernel
theorem dX12_talk_21 : decode cX12_talk 21 = .ok (.isub, 1) := by decide +kernel
theorem dX12_talk_22 : decode cX12_talk 22 = .ok (.ireturn, 1) := by decide +kernel
theorem dX12_talk_23 : decode cX12_talk 23 = .ok (.aload_n 0, 1) := by decide +kernel
theorem dX12_talk_24 : decode cX12_talk 24 = .ok (.invokevirtual 267, 3) := by decide +kernel
theorem dX12_talk_27 : decode cX12_talk 27 = .ok (.aload_n 0, 1) := by decide +kernel
theorem dX12_talk_28 : decode cX12_talk 28 = .ok (.iload_n 1, 1) := by decide +kernel
theorem dX12_talk_29 : decode cX12_talk 29 = .ok (.iload_n 2, 1) := by decide +kernel
theorem dX12_talk_30 : decode cX12_talk 30 = .ok (.invokevirtual 270, 3) := by decide +kernel
theorem dX12_talk_33 : decode cX12_talk 33 = .ok (.aload_n 0, 1) := by decide +kernel
theorem dX12_talk_34 : decode cX12_talk 34 = .ok (.invokevirtual 274, 3) := by decide +kernel
theorem dX12_talk_37 : decode cX12_talk 37 = .ok (.aload_n 0, 1) := by decide +kernel
theorem dX12_talk_38 : decode cX12_talk 38 = .ok (.iload_n 1, 1) := by decide +kernel
theorem dX12_talk_39 : decode cX12_talk 39 = .ok (.invokevirtual 260, 3) := by decide +kernel
theorem dX12_talk_42 : decode cX12_talk 42 = .ok (.ireturn, 1) := by decide +kernel
theorem dX12_talkBy_0 : decode cX12_talkBy 0 = .ok (.aload_n 0, 1) := by decide +kernel
theorem dX12_talkBy_1 : decode cX12_talkBy 1 = .ok (.iconst 0, 1) := by decide +kernel
theorem dX12_talkBy_2 : decode cX12_talkBy 2 = .ok (.putfield 1, 3) := by decide +kernel
theorem dX12_talkBy_5 : decode cX12_talkBy 5 = .ok (.aload_n 0, 1) := by decide +kernel
theorem dX12_talkBy_6 : decode cX12_talkBy 6 = .ok (.iload_n 1, 1) := by decide +kernel
theorem dX12_talkBy_7 : decode cX12_talkBy 7 = .ok (.iload_n 2, 1) := by decide +kernel
theorem dX12_talkBy_8 : decode cX12_talkBy 8 = .ok (.invokevirtual 384, 3) := by decide +kernel
theorem dX12_talkBy_11 : decode cX12_talkBy 11 = .ok (.ifCond .ne 6, 3) := by decide +kernel
theorem dX12_talkBy_14 : decode cX12_talkBy 14 = .ok (.bipush (-2), 2) := by decide +kernel
theorem dX12_talkBy_16 : decode cX12_talkBy 16 = .ok (.ireturn, 1) := by decide +kernel
theorem dX12_talkBy_17 : decode cX12_talkBy 17 = .ok (.iload_n 3, 1) := by decide +kernel
theorem dX12_talkBy_18 : decode cX12_talkBy 18 = .ok (.ifCond .ge 6, 3) := by decide +kernel
theorem dX12_talkBy_21 : decode cX12_talkBy 21 = .ok (.bipush (-3), 2) := by decide +kernel
theorem dX12_talkBy_23 : decode cX12_talkBy 23 = .ok (.ireturn, 1) := by decide +kernel
theorem dX12_talkBy_24 : decode cX12_talkBy 24 = .ok (.aload_n 0, 1) := by decide +kernel
theorem dX12_talkBy_25 : decode cX12_talkBy 25 = .ok (.iload_n 1, 1) := by decide +kernel
theorem dX12_talkBy_26 : decode cX12_talkBy 26 = .ok (.iload_n 2, 1) := by decide +kernel
theorem dX12_talkBy_27 : decode cX12_talkBy 27 = .ok (.invokevirtual 387, 3) := by decide +kernel
theorem dX12_talkBy_30 : decode cX12_talkBy 30 = .ok (.istore 4, 2) := by decide +kernel
theorem dX12_talkBy_32 : decode cX12_talkBy 32 = .ok (.iload_n 3, 1) := by decide +kernel
theorem dX12_talkBy_33 : decode cX12_talkBy 33 = .ok (.iload 4, 2) := by decide +kernel
theorem dX12_talkBy_35 : decode cX12_talkBy 35 = .ok (.if_icmp .ge 12, 3) := by decide +kernel
theorem dX12_talkBy_38 : decode cX12_talkBy 38 = .ok (.aload_n 0, 1) := by decide +kernel
theorem dX12_talkBy_39 : decode cX12_talkBy 39 = .ok (.getfield 63, 3) := by decide +kernel
theorem dX12_talkBy_42 : decode cX12_talkBy 42 = .ok (.iload_n 3, 1) := by decide +kernel
theorem dX12_talkBy_43 : decode cX12_talkBy 43 = .ok (.iaload, 1) := by decide +kernel
theorem dX12_talkBy_44 : decode cX12_talkBy 44 = .ok (.goto 4, 3) := by decide +kernel
theorem dX12_talkBy_47 : decode cX12_talkBy 47 = .ok (.iconst (-1), 1) := by decide +kernel
theorem dX12_talkBy_48 : decode cX12_talkBy 48 = .ok (.ireturn, 1) := by decide +kernel
theorem dX12_talks_0 : decode cX12_talks 0 = .ok (.aload_n 0, 1) := by decide +kernel
theorem dX12_talks_1 : decode cX12_talks 1 = .ok (.iconst 0, 1) := by decide +kernel
theorem dX12_talks_2 : decode cX12_talks 2 = .ok (.putfield 1, 3) := by decide +kernel
theorem dX12_talks_5 : decode cX12_talks 5 = .ok (.aload_n 0, 1) := by decide +kernel
theorem dX12_talks_6 : decode cX12_talks 6 = .ok (.iload_n 1, 1) := by decide +kernel
theorem dX12_talks_7 : decode cX12_talks 7 = .ok (.iload_n 2, 1) := by decide +kernel
theorem dX12_talks_8 : decode cX12_talks 8 = .ok (.invokevirtual 384, 3) := by decide +kernel
theorem dX12_talks_11 : decode cX12_talks 11 = .ok (.ifCond .eq 12, 3) := by decide +kernel
theorem dX12_talks_14 : decode cX12_talks 14 = .ok (.aload_n 0, 1) := by decide +kernel
theorem dX12_talks_15 : decode cX12_talks 15 = .ok (.iload_n 1, 1) := by decide +kernel
theorem dX12_talks_16 : decode cX12_talks 16 = .ok (.iload_n 2, 1) := by decide +kernel
theorem dX12_talks_17 : decode cX12_talks 17 = .ok (.invokevirtual 387, 3) := by decide +kernel
theorem dX12_talks_20 : decode cX12_talks 20 = .ok (.goto 5, 3) := by decide +kernel
theorem dX12_talks_23 : decode cX12_talks 23 = .ok (.bipush (-2), 2) := by decide +kernel
theorem dX12_talks_25 : decode cX12_talks 25 = .ok (.ireturn, 1) := by decide +kernel
theorem dX12_tens_0 : decode cX12_tens 0 = .ok (.lconst 1, 1) := by decide +kernel
theorem dX12_tens_1 : decode cX12_tens 1 = .ok (.lstore_n 1, 1) := by decide +kernel
theorem dX12_tens_2 : decode cX12_tens 2 = .ok (.iconst 0, 1) := by decide +kernel
theorem dX12_tens_3 : decode cX12_tens 3 = .ok (.istore_n 3, 1) := by decide +kernel
theorem dX12_tens_4 : decode cX12_tens 4 = .ok (.iload_n 3, 1) := by decide +kernel
theorem dX12_tens_5 : decode cX12_tens 5 = .ok (.iload_n 0, 1) := by decide +kernel
theorem dX12_tens_6 : decode cX12_tens 6 = .ok (.if_icmp .ge 15, 3) := by decide +kernel
theorem dX12_tens_9 : decode cX12_tens 9 = .ok (.lload_n 1, 1) := by decide +kernel
theorem dX12_tens_10 : decode cX12_tens 10 = .ok (.ldc2_w 289, 3) := by decide +kernel
theorem dX12_tens_13 : decode cX12_tens 13 = .ok (.lmul, 1) := by decide +kernel
theorem dX12_tens_14 : decode cX12_tens 14 = .ok (.lstore_n 1, 1) := by decide +kernel
theorem dX12_tens_15 : decode cX12_tens 15 = .ok (.iinc 3 1, 3) := by decide +kernel
theorem dX12_tens_18 : decode cX12_tens 18 = .ok (.goto (-14), 3) := by decide +kernel
theorem dX12_tens_21 : decode cX12_tens 21 = .ok (.lload_n 1, 1) := by decide +kernel
theorem dX12_tens_22 : decode cX12_tens 22 = .ok (.lreturn, 1) := by decide +kernel
theorem dX12_town_0 : decode cX12_town 0 = .ok (.aload_n 0, 1) := by decide +kernel
theorem dX12_town_1 : decode cX12_town 1 = .ok (.iconst 0, 1) := by decide +kernel
theorem dX12_town_2 : decode cX12_town 2 = .ok (.putfield 1, 3) := by decide +kernel
theorem dX12_town_5 : decode cX12_town 5 = .ok (.iload_n 1, 1) := by decide +kernel
theorem dX12_town_6 : decode cX12_town 6 = .ok (.i2l, 1) := by decide +kernel
theorem dX12_town_7 : decode cX12_town 7 = .ok (.lconst 0, 1) := by decide +kernel
theorem dX12_town_8 : decode cX12_town 8 = .ok (.ldc2_w 258, 3) := by decide +kernel
theorem dX12_town_11 : decode cX12_town 11 = .ok (.invokestatic 145, 3) := by decide +kernel
theorem dX12_town_14 : decode cX12_town 14 = .ok (.ifCond .eq 19, 3) := by decide +kernel
theorem dX12_town_17 : decode cX12_town 17 = .ok (.aload_n 0, 1) := by decide +kernel
theorem dX12_town_18 : decode cX12_town 18 = .ok (.aload_n 0, 1) := by decide +kernel
theorem dX12_town_19 : decode cX12_town 19 = .ok (.getfield 13, 3) := by decide +kernel
theorem dX12_town_22 : decode cX12_town 22 = .ok (.bipush 52, 2) := by decide +kernel
theorem dX12_town_24 : decode cX12_town 24 = .ok (.iaload, 1) := by decide +kernel
theorem dX12_town_25 : decode cX12_town 25 = .ok (.iload_n 1, 1) := by decide +kernel
theorem dX12_town_26 : decode cX12_town 26 = .ok (.iadd, 1) := by decide +kernel
theorem dX12_town_27 : decode cX12_town 27 = .ok (.invokevirtual 220, 3) := by decide +kernel
theorem dX12_town_30 : decode cX12_town 30 = .ok (.goto 5, 3) := by decide +kernel
theorem dX12_town_33 : decode cX12_town 33 = .ok (.bipush (-3), 2) := by decide +kernel
theorem dX12_town_35 : decode cX12_town 35 = .ok (.ireturn, 1) := by decide +kernel
theorem dX12_townNow_0 : decode cX12_townNow 0 = .ok (.aload_n 0, 1) := by decide +kernel
theorem dX12_townNow_1 : decode cX12_townNow 1 = .ok (.aload_n 0, 1) := by decide +kernel
theorem dX12_townNow_2 : decode cX12_townNow 2 = .ok (.getfield 13, 3) := by decide +kernel
theorem dX12_townNow_5 : decode cX12_townNow 5 = .ok (.bipush 52, 2) := by decide +kernel
theorem dX12_townNow_7 : decode cX12_townNow 7 = .ok (.iaload, 1) := by decide +kernel
theorem dX12_townNow_8 : decode cX12_townNow 8 = .ok (.invokevirtual 220, 3) := by decide +kernel
theorem dX12_townNow_11 : decode cX12_townNow 11 = .ok (.ireturn, 1) := by decide +kernel
theorem dX12_townOn_0 : decode cX12_townOn 0 = .ok (.iconst 0, 1) := by decide +kernel
theorem dX12_townOn_1 : decode cX12_townOn 1 = .ok (.istore_n 2, 1) := by decide +kernel
theorem dX12_townOn_2 : decode cX12_townOn 2 = .ok (.iconst 0, 1) := by decide +kernel
theorem dX12_townOn_3 : decode cX12_townOn 3 = .ok (.istore_n 3, 1) := by decide +kernel
theorem dX12_townOn_4 : decode cX12_townOn 4 = .ok (.iload_n 3, 1) := by decide +kernel
theorem dX12_townOn_5 : decode cX12_townOn 5 = .ok (.aload_n 0, 1) := by decide +kernel
theorem dX12_townOn_6 : decode cX12_townOn 6 = .ok (.getfield 13, 3) := by decide +kernel
theorem dX12_townOn_9 : decode cX12_townOn 9 = .ok (.iconst 2, 1) := by decide +kernel
theorem dX12_townOn_10 : decode cX12_townOn 10 = .ok (.iaload, 1) := by decide +kernel
theorem dX12_townOn_11 : decode cX12_townOn 11 = .ok (.if_icmp .ge 47, 3) := by decide +kernel
theorem dX12_townOn_14 : decode cX12_townOn 14 = .ok (.iload_n 2, 1) := by decide +kernel
theorem dX12_townOn_15 : decode cX12_townOn 15 = .ok (.iload_n 1, 1) := by decide +kernel
theorem dX12_townOn_16 : decode cX12_townOn 16 = .ok (.i2l, 1) := by decide +kernel
theorem dX12_townOn_17 : decode cX12_townOn 17 = .ok (.aload_n 0, 1) := by decide +kernel
theorem dX12_townOn_18 : decode cX12_townOn 18 = .ok (.getfield 13, 3) := by decide +kernel
theorem dX12_townOn_21 : decode cX12_townOn 21 = .ok (.bipush 12, 2) := by decide +kernel
theorem dX12_townOn_23 : decode cX12_townOn 23 = .ok (.iload_n 3, 1) := by decide +kernel
theorem dX12_townOn_24 : decode cX12_townOn 24 = .ok (.iadd, 1) := by decide +kernel
theorem dX12_townOn_25 : decode cX12_townOn 25 = .ok (.iaload, 1) := by decide +kernel
theorem dX12_townOn_26 : decode cX12_townOn 26 = .ok (.i2l, 1) := by decide +kernel
theorem dX12_townOn_27 : decode cX12_townOn 27 = .ok (.aload_n 0, 1) := by decide +kernel
theorem dX12_townOn_28 : decode cX12_townOn 28 = .ok (.getfield 13, 3) := by decide +kernel
theorem dX12_townOn_31 : decode cX12_townOn 31 = .ok (.bipush 22, 2) := by decide +kernel
theorem dX12_townOn_33 : decode cX12_townOn 33 = .ok (.iload_n 3, 1) := by decide +kernel
theorem dX12_townOn_34 : decode cX12_townOn 34 = .ok (.iadd, 1) := by decide +kernel
theorem dX12_townOn_35 : decode cX12_townOn 35 = .ok (.iaload, 1) := by decide +kernel
theorem dX12_townOn_36 : decode cX12_townOn 36 = .ok (.i2l, 1) := by decide +kernel
theorem dX12_townOn_37 : decode cX12_townOn 37 = .ok (.invokestatic 145, 3) := by decide +kernel
theorem dX12_townOn_40 : decode cX12_townOn 40 = .ok (.ifCond .eq 9, 3) := by decide +kernel
theorem dX12_townOn_43 : decode cX12_townOn 43 = .ok (.iconst 1, 1) := by decide +kernel
theorem dX12_townOn_44 : decode cX12_townOn 44 = .ok (.iload_n 3, 1) := by decide +kernel
theorem dX12_townOn_45 : decode cX12_townOn 45 = .ok (.ishl, 1) := by decide +kernel
theorem dX12_townOn_46 : decode cX12_townOn 46 = .ok (.goto 4, 3) := by decide +kernel
theorem dX12_townOn_49 : decode cX12_townOn 49 = .ok (.iconst 0, 1) := by decide +kernel
theorem dX12_townOn_50 : decode cX12_townOn 50 = .ok (.ior, 1) := by decide +kernel
theorem dX12_townOn_51 : decode cX12_townOn 51 = .ok (.istore_n 2, 1) := by decide +kernel
theorem dX12_townOn_52 : decode cX12_townOn 52 = .ok (.iinc 3 1, 3) := by decide +kernel
theorem dX12_townOn_55 : decode cX12_townOn 55 = .ok (.goto (-51), 3) := by decide +kernel
theorem dX12_townOn_58 : decode cX12_townOn 58 = .ok (.iload_n 2, 1) := by decide +kernel
theorem dX12_townOn_59 : decode cX12_townOn 59 = .ok (.aload_n 0, 1) := by decide +kernel
theorem dX12_townOn_60 : decode cX12_townOn 60 = .ok (.getfield 13, 3) := by decide +kernel
theorem dX12_townOn_63 : decode cX12_townOn 63 = .ok (.bipush 53, 2) := by decide +kernel
theorem dX12_townOn_65 : decode cX12_townOn 65 = .ok (.iaload, 1) := by decide +kernel
theorem dX12_townOn_66 : decode cX12_townOn 66 = .ok (.iconst (-1), 1) := by decide +kernel
theorem dX12_townOn_67 : decode cX12_townOn 67 = .ok (.ixor, 1) := by decide +kernel
theorem dX12_townOn_68 : decode cX12_townOn 68 = .ok (.iand, 1) := by decide +kernel
theorem dX12_townOn_69 : decode cX12_townOn 69 = .ok (.ireturn, 1) := by decide +kernel
theorem dX12_twosNow_0 : decode cX12_twosNow 0 = .ok (.aload_n 0, 1) := by decide +kernel
theorem dX12_twosNow_1 : decode cX12_twosNow 1 = .ok (.aload_n 0, 1) := by decide +kernel
theorem dX12_twosNow_2 : decode cX12_twosNow 2 = .ok (.getfield 13, 3) := by decide +kernel
theorem dX12_twosNow_5 : decode cX12_twosNow 5 = .ok (.bipush 52, 2) := by decide +kernel
theorem dX12_twosNow_7 : decode cX12_twosNow 7 = .ok (.iaload, 1) := by decide +kernel
theorem dX12_twosNow_8 : decode cX12_twosNow 8 = .ok (.invokevirtual 340, 3) := by decide +kernel
theorem dX12_twosNow_11 : decode cX12_twosNow 11 = .ok (.iconst 0, 1) := by decide +kernel
theorem dX12_twosNow_12 : decode cX12_twosNow 12 = .ok (.istore_n 1, 1) := by decide +kernel
theorem dX12_twosNow_13 : decode cX12_twosNow 13 = .ok (.iconst 0, 1) := by decide +kernel
theorem dX12_twosNow_14 : decode cX12_twosNow 14 = .ok (.istore_n 2, 1) := by decide +kernel
theorem dX12_twosNow_15 : decode cX12_twosNow 15 = .ok (.iload_n 2, 1) := by decide +kernel
theorem dX12_twosNow_16 : decode cX12_twosNow 16 = .ok (.aload_n 0, 1) := by decide +kernel
theorem dX12_twosNow_17 : decode cX12_twosNow 17 = .ok (.getfield 13, 3) := by decide +kernel
theorem dX12_twosNow_20 : decode cX12_twosNow 20 = .ok (.iconst 2, 1) := by decide +kernel
theorem dX12_twosNow_21 : decode cX12_twosNow 21 = .ok (.iaload, 1) := by decide +kernel
theorem dX12_twosNow_22 : decode cX12_twosNow 22 = .ok (.if_icmp .ge 21, 3) := by decide +kernel
theorem dX12_twosNow_25 : decode cX12_twosNow 25 = .ok (.iload_n 1, 1) := by decide +kernel
theorem dX12_twosNow_26 : decode cX12_twosNow 26 = .ok (.aload_n 0, 1) := by decide +kernel
theorem dX12_twosNow_27 : decode cX12_twosNow 27 = .ok (.getfield 39, 3) := by decide +kernel
theorem dX12_twosNow_30 : decode cX12_twosNow 30 = .ok (.iload_n 2, 1) := by decide +kernel
theorem dX12_twosNow_31 : decode cX12_twosNow 31 = .ok (.iaload, 1) := by decide +kernel
theorem dX12_twosNow_32 : decode cX12_twosNow 32 = .ok (.invokestatic 281, 3) := by decide +kernel
theorem dX12_twosNow_35 : decode cX12_twosNow 35 = .ok (.iadd, 1) := by decide +kernel
theorem dX12_twosNow_36 : decode cX12_twosNow 36 = .ok (.istore_n 1, 1) := by decide +kernel
theorem dX12_twosNow_37 : decode cX12_twosNow 37 = .ok (.iinc 2 1, 3) := by decide +kernel
theorem dX12_twosNow_40 : decode cX12_twosNow 40 = .ok (.goto (-25), 3) := by decide +kernel
theorem dX12_twosNow_43 : decode cX12_twosNow 43 = .ok (.iload_n 1, 1) := by decide +kernel
theorem dX12_twosNow_44 : decode cX12_twosNow 44 = .ok (.iconst 2, 1) := by decide +kernel
theorem dX12_twosNow_45 : decode cX12_twosNow 45 = .ok (.idiv, 1) := by decide +kernel
theorem dX12_twosNow_46 : decode cX12_twosNow 46 = .ok (.ireturn, 1) := by decide +kernel
theorem dX12_undo_0 : decode cX12_undo 0 = .ok (.aload_n 0, 1) := by decide +kernel
theorem dX12_undo_1 : decode cX12_undo 1 = .ok (.iconst 0, 1) := by decide +kernel
theorem dX12_undo_2 : decode cX12_undo 2 = .ok (.putfield 1, 3) := by decide +kernel
theorem dX12_undo_5 : decode cX12_undo 5 = .ok (.iload_n 1, 1) := by decide +kernel
theorem dX12_undo_6 : decode cX12_undo 6 = .ok (.i2l, 1) := by decide +kernel
theorem dX12_undo_7 : decode cX12_undo 7 = .ok (.lconst 1, 1) := by decide +kernel
theorem dX12_undo_8 : decode cX12_undo 8 = .ok (.ldc2_w 289, 3) := by decide +kernel
theorem dX12_undo_11 : decode cX12_undo 11 = .ok (.invokestatic 145, 3) := by decide +kernel
theorem dX12_undo_14 : decode cX12_undo 14 = .ok (.ifCond .eq 14, 3) := by decide +kernel
theorem dX12_undo_17 : decode cX12_undo 17 = .ok (.iload_n 1, 1) := by decide +kernel
theorem dX12_undo_18 : decode cX12_undo 18 = .ok (.aload_n 0, 1) := by decide +kernel
theorem dX12_undo_19 : decode cX12_undo 19 = .ok (.getfield 13, 3) := by decide +kernel
theorem dX12_undo_22 : decode cX12_undo 22 = .ok (.bipush 84, 2) := by decide +kernel
theorem dX12_undo_24 : decode cX12_undo 24 = .ok (.iaload, 1) := by decide +kernel
theorem dX12_undo_25 : decode cX12_undo 25 = .ok (.if_icmp .le 6, 3) := by decide +kernel
theorem dX12_undo_28 : decode cX12_undo 28 = .ok (.bipush (-3), 2) := by decide +kernel
theorem dX12_undo_30 : decode cX12_undo 30 = .ok (.ireturn, 1) := by decide +kernel
theorem dX12_undo_31 : decode cX12_undo 31 = .ok (.aload_n 0, 1) := by decide +kernel
theorem dX12_undo_32 : decode cX12_undo 32 = .ok (.getfield 13, 3) := by decide +kernel
theorem dX12_undo_35 : decode cX12_undo 35 = .ok (.bipush 84, 2) := by decide +kernel
theorem dX12_undo_37 : decode cX12_undo 37 = .ok (.dup2, 1) := by decide +kernel
theorem dX12_undo_38 : decode cX12_undo 38 = .ok (.iaload, 1) := by decide +kernel
theorem dX12_undo_39 : decode cX12_undo 39 = .ok (.iload_n 1, 1) := by decide +kernel
theorem dX12_undo_40 : decode cX12_undo 40 = .ok (.isub, 1) := by decide +kernel
theorem dX12_undo_41 : decode cX12_undo 41 = .ok (.iastore, 1) := by decide +kernel
theorem dX12_undo_42 : decode cX12_undo 42 = .ok (.iconst 0, 1) := by decide +kernel
theorem dX12_undo_43 : decode cX12_undo 43 = .ok (.istore_n 2, 1) := by decide +kernel
theorem dX12_undo_44 : decode cX12_undo 44 = .ok (.iload_n 2, 1) := by decide +kernel
theorem dX12_undo_45 : decode cX12_undo 45 = .ok (.bipush 32, 2) := by decide +kernel
theorem dX12_undo_47 : decode cX12_undo 47 = .ok (.if_icmp .ge 38, 3) := by decide +kernel
theorem dX12_undo_50 : decode cX12_undo 50 = .ok (.aload_n 0, 1) := by decide +kernel
theorem dX12_undo_51 : decode cX12_undo 51 = .ok (.getfield 13, 3) := by decide +kernel
theorem dX12_undo_54 : decode cX12_undo 54 = .ok (.bipush 52, 2) := by decide +kernel
theorem dX12_undo_56 : decode cX12_undo 56 = .ok (.iload_n 2, 1) := by decide +kernel
theorem dX12_undo_57 : decode cX12_undo 57 = .ok (.iadd, 1) := by decide +kernel
theorem dX12_undo_58 : decode cX12_undo 58 = .ok (.aload_n 0, 1) := by decide +kernel
theorem dX12_undo_59 : decode cX12_undo 59 = .ok (.getfield 13, 3) := by decide +kernel
theorem dX12_undo_62 : decode cX12_undo 62 = .ok (.bipush 85, 2) := by decide +kernel
theorem dX12_undo_64 : decode cX12_undo 64 = .ok (.bipush 32, 2) := by decide +kernel
theorem dX12_undo_66 : decode cX12_undo 66 = .ok (.aload_n 0, 1) := by decide +kernel
theorem dX12_undo_67 : decode cX12_undo 67 = .ok (.getfield 13, 3) := by decide +kernel
theorem dX12_undo_70 : decode cX12_undo 70 = .ok (.bipush 84, 2) := by decide +kernel
theorem dX12_undo_72 : decode cX12_undo 72 = .ok (.iaload, 1) := by decide +kernel
theorem dX12_undo_73 : decode cX12_undo 73 = .ok (.imul, 1) := by decide +kernel
theorem dX12_undo_74 : decode cX12_undo 74 = .ok (.iadd, 1) := by decide +kernel
theorem dX12_undo_75 : decode cX12_undo 75 = .ok (.iload_n 2, 1) := by decide +kernel
theorem dX12_undo_76 : decode cX12_undo 76 = .ok (.iadd, 1) := by decide +kernel
theorem dX12_undo_77 : decode cX12_undo 77 = .ok (.iaload, 1) := by decide +kernel
theorem dX12_undo_78 : decode cX12_undo 78 = .ok (.iastore, 1) := by decide +kernel
theorem dX12_undo_79 : decode cX12_undo 79 = .ok (.iinc 2 1, 3) := by decide +kernel
theorem dX12_undo_82 : decode cX12_undo 82 = .ok (.goto (-38), 3) := by decide +kernel
theorem dX12_undo_85 : decode cX12_undo 85 = .ok (.aload_n 0, 1) := by decide +kernel
theorem dX12_undo_86 : decode cX12_undo 86 = .ok (.getfield 13, 3) := by decide +kernel
theorem dX12_undo_89 : decode cX12_undo 89 = .ok (.bipush 84, 2) := by decide +kernel
theorem dX12_undo_91 : decode cX12_undo 91 = .ok (.iaload, 1) := by decide +kernel
theorem dX12_undo_92 : decode cX12_undo 92 = .ok (.ireturn, 1) := by decide +kernel
theorem dX12_ways_0 : decode cX12_ways 0 = .ok (.aload_n 0, 1) := by decide +kernel
theorem dX12_ways_1 : decode cX12_ways 1 = .ok (.iconst 0, 1) := by decide +kernel
theorem dX12_ways_2 : decode cX12_ways 2 = .ok (.putfield 1, 3) := by decide +kernel
theorem dX12_ways_5 : decode cX12_ways 5 = .ok (.aload_n 0, 1) := by decide +kernel
theorem dX12_ways_6 : decode cX12_ways 6 = .ok (.iload_n 1, 1) := by decide +kernel
theorem dX12_ways_7 : decode cX12_ways 7 = .ok (.invokevirtual 349, 3) := by decide +kernel
theorem dX12_ways_10 : decode cX12_ways 10 = .ok (.ifCond .ne 6, 3) := by decide +kernel
theorem dX12_ways_13 : decode cX12_ways 13 = .ok (.bipush (-3), 2) := by decide +kernel
theorem dX12_ways_15 : decode cX12_ways 15 = .ok (.ireturn, 1) := by decide +kernel
theorem dX12_ways_16 : decode cX12_ways 16 = .ok (.aload_n 0, 1) := by decide +kernel
theorem dX12_ways_17 : decode cX12_ways 17 = .ok (.invokevirtual 346, 3) := by decide +kernel
theorem dX12_ways_20 : decode cX12_ways 20 = .ok (.aload_n 0, 1) := by decide +kernel
theorem dX12_ways_21 : decode cX12_ways 21 = .ok (.getfield 45, 3) := by decide +kernel
theorem dX12_ways_24 : decode cX12_ways 24 = .ok (.iload_n 1, 1) := by decide +kernel
theorem dX12_ways_25 : decode cX12_ways 25 = .ok (.iaload, 1) := by decide +kernel
theorem dX12_ways_26 : decode cX12_ways 26 = .ok (.ireturn, 1) := by decide +kernel
theorem dX12_whyNot_0 : decode cX12_whyNot 0 = .ok (.lload_n 1, 1) := by decide +kernel
theorem dX12_whyNot_1 : decode cX12_whyNot 1 = .ok (.ldc2_w 291, 3) := by decide +kernel
theorem dX12_whyNot_4 : decode cX12_whyNot 4 = .ok (.lcmp, 1) := by decide +kernel
theorem dX12_whyNot_5 : decode cX12_whyNot 5 = .ok (.ifCond .ne 5, 3) := by decide +kernel
theorem dX12_whyNot_8 : decode cX12_whyNot 8 = .ok (.iconst 0, 1) := by decide +kernel
theorem dX12_whyNot_9 : decode cX12_whyNot 9 = .ok (.ireturn, 1) := by decide +kernel
theorem dX12_whyNot_10 : decode cX12_whyNot 10 = .ok (.lload_n 1, 1) := by decide +kernel
theorem dX12_whyNot_11 : decode cX12_whyNot 11 = .ok (.lconst 0, 1) := by decide +kernel
theorem dX12_whyNot_12 : decode cX12_whyNot 12 = .ok (.ldc2_w 287, 3) := by decide +kernel
theorem dX12_whyNot_15 : decode cX12_whyNot 15 = .ok (.invokestatic 145, 3) := by decide +kernel
theorem dX12_whyNot_18 : decode cX12_whyNot 18 = .ok (.ifCond .eq 18, 3) := by decide +kernel
theorem dX12_whyNot_21 : decode cX12_whyNot 21 = .ok (.aload_n 0, 1) := by decide +kernel
theorem dX12_whyNot_22 : decode cX12_whyNot 22 = .ok (.lload_n 1, 1) := by decide +kernel
theorem dX12_whyNot_23 : decode cX12_whyNot 23 = .ok (.ldc2_w 289, 3) := by decide +kernel
theorem dX12_whyNot_26 : decode cX12_whyNot 26 = .ok (.ldiv, 1) := by decide +kernel
theorem dX12_whyNot_27 : decode cX12_whyNot 27 = .ok (.lload_n 1, 1) := by decide +kernel
theorem dX12_whyNot_28 : decode cX12_whyNot 28 = .ok (.ldc2_w 289, 3) := by decide +kernel
theorem dX12_whyNot_31 : decode cX12_whyNot 31 = .ok (.lrem, 1) := by decide +kernel
theorem dX12_whyNot_32 : decode cX12_whyNot 32 = .ok (.invokevirtual 263, 3) := by decide +kernel
theorem dX12_whyNot_35 : decode cX12_whyNot 35 = .ok (.ireturn, 1) := by decide +kernel
theorem dX12_whyNot_36 : decode cX12_whyNot 36 = .ok (.lload_n 1, 1) := by decide +kernel
theorem dX12_whyNot_37 : decode cX12_whyNot 37 = .ok (.ldc2_w 293, 3) := by decide +kernel
theorem dX12_whyNot_40 : decode cX12_whyNot 40 = .ok (.ldc2_w 295, 3) := by decide +kernel
theorem dX12_whyNot_43 : decode cX12_whyNot 43 = .ok (.invokestatic 145, 3) := by decide +kernel
theorem dX12_whyNot_46 : decode cX12_whyNot 46 = .ok (.ifCond .eq 14, 3) := by decide +kernel
theorem dX12_whyNot_49 : decode cX12_whyNot 49 = .ok (.aload_n 0, 1) := by decide +kernel
theorem dX12_whyNot_50 : decode cX12_whyNot 50 = .ok (.lload_n 1, 1) := by decide +kernel
theorem dX12_whyNot_51 : decode cX12_whyNot 51 = .ok (.ldc2_w 293, 3) := by decide +kernel
theorem dX12_whyNot_54 : decode cX12_whyNot 54 = .ok (.lsub, 1) := by decide +kernel
theorem dX12_whyNot_55 : decode cX12_whyNot 55 = .ok (.iconst 1, 1) := by decide +kernel
theorem dX12_whyNot_56 : decode cX12_whyNot 56 = .ok (.invokevirtual 277, 3) := by decide +kernel
theorem dX12_whyNot_59 : decode cX12_whyNot 59 = .ok (.ireturn, 1) := by decide +kernel
theorem dX12_whyNot_60 : decode cX12_whyNot 60 = .ok (.lload_n 1, 1) := by decide +kernel
theorem dX12_whyNot_61 : decode cX12_whyNot 61 = .ok (.ldc2_w 297, 3) := by decide +kernel
theorem dX12_whyNot_64 : decode cX12_whyNot 64 = .ok (.ldc2_w 299, 3) := by decide +kernel
theorem dX12_whyNot_67 : decode cX12_whyNot 67 = .ok (.invokestatic 145, 3) := by decide +kernel
theorem dX12_whyNot_70 : decode cX12_whyNot 70 = .ok (.ifCond .eq 16, 3) := by decide +kernel
theorem dX12_whyNot_73 : decode cX12_whyNot 73 = .ok (.aload_n 0, 1) := by decide +kernel
theorem dX12_whyNot_74 : decode cX12_whyNot 74 = .ok (.lload_n 1, 1) := by decide +kernel
theorem dX12_whyNot_75 : decode cX12_whyNot 75 = .ok (.ldc2_w 297, 3) := by decide +kernel
theorem dX12_whyNot_78 : decode cX12_whyNot 78 = .ok (.lsub, 1) := by decide +kernel
theorem dX12_whyNot_79 : decode cX12_whyNot 79 = .ok (.iconst 0, 1) := by decide +kernel
theorem dX12_whyNot_80 : decode cX12_whyNot 80 = .ok (.invokevirtual 277, 3) := by decide +kernel
theorem dX12_whyNot_83 : decode cX12_whyNot 83 = .ok (.goto 4, 3) := by decide +kernel
theorem dX12_whyNot_86 : decode cX12_whyNot 86 = .ok (.iconst 1, 1) := by decide +kernel
theorem dX12_whyNot_87 : decode cX12_whyNot 87 = .ok (.ireturn, 1) := by decide +kernel
theorem dX12_whySend_0 : decode cX12_whySend 0 = .ok (.aload_n 0, 1) := by decide +kernel
theorem dX12_whySend_1 : decode cX12_whySend 1 = .ok (.lload_n 1, 1) := by decide +kernel
theorem dX12_whySend_2 : decode cX12_whySend 2 = .ok (.invokevirtual 245, 3) := by decide +kernel
theorem dX12_whySend_5 : decode cX12_whySend 5 = .ok (.ifCond .ne 7, 3) := by decide +kernel
theorem dX12_whySend_8 : decode cX12_whySend 8 = .ok (.iconst 1, 1) := by decide +kernel
theorem dX12_whySend_9 : decode cX12_whySend 9 = .ok (.goto 24, 3) := by decide +kernel
theorem dX12_whySend_12 : decode cX12_whySend 12 = .ok (.aload_n 0, 1) := by decide +kernel
theorem dX12_whySend_13 : decode cX12_whySend 13 = .ok (.getfield 13, 3) := by decide +kernel
theorem dX12_whySend_16 : decode cX12_whySend 16 = .ok (.bipush 53, 2) := by decide +kernel
theorem dX12_whySend_18 : decode cX12_whySend 18 = .ok (.iaload, 1) := by decide +kernel
theorem dX12_whySend_19 : decode cX12_whySend 19 = .ok (.lload_n 1, 1) := by decide +kernel
theorem dX12_whySend_20 : decode cX12_whySend 20 = .ok (.l2i, 1) := by decide +kernel
theorem dX12_whySend_21 : decode cX12_whySend 21 = .ok (.ishr, 1) := by decide +kernel
theorem dX12_whySend_22 : decode cX12_whySend 22 = .ok (.iconst 1, 1) := by decide +kernel
theorem dX12_whySend_23 : decode cX12_whySend 23 = .ok (.iand, 1) := by decide +kernel
theorem dX12_whySend_24 : decode cX12_whySend 24 = .ok (.iload_n 3, 1) := by decide +kernel
theorem dX12_whySend_25 : decode cX12_whySend 25 = .ok (.if_icmp .ne 7, 3) := by decide +kernel
theorem dX12_whySend_28 : decode cX12_whySend 28 = .ok (.iconst 2, 1) := by decide +kernel
theorem dX12_whySend_29 : decode cX12_whySend 29 = .ok (.goto 4, 3) := by decide +kernel
theorem dX12_whySend_32 : decode cX12_whySend 32 = .ok (.iconst 0, 1) := by decide +kernel
theorem dX12_whySend_33 : decode cX12_whySend 33 = .ok (.ireturn, 1) := by decide +kernel
theorem dX12_whyTalk_0 : decode cX12_whyTalk 0 = .ok (.aload_n 0, 1) := by decide +kernel
theorem dX12_whyTalk_1 : decode cX12_whyTalk 1 = .ok (.lload_n 1, 1) := by decide +kernel
theorem dX12_whyTalk_2 : decode cX12_whyTalk 2 = .ok (.invokevirtual 245, 3) := by decide +kernel
theorem dX12_whyTalk_5 : decode cX12_whyTalk 5 = .ok (.ifCond .eq 17, 3) := by decide +kernel
theorem dX12_whyTalk_8 : decode cX12_whyTalk 8 = .ok (.aload_n 0, 1) := by decide +kernel
theorem dX12_whyTalk_9 : decode cX12_whyTalk 9 = .ok (.lload_n 3, 1) := by decide +kernel
theorem dX12_whyTalk_10 : decode cX12_whyTalk 10 = .ok (.invokevirtual 245, 3) := by decide +kernel
theorem dX12_whyTalk_13 : decode cX12_whyTalk 13 = .ok (.ifCond .eq 9, 3) := by decide +kernel
theorem dX12_whyTalk_16 : decode cX12_whyTalk 16 = .ok (.lload_n 1, 1) := by decide +kernel
theorem dX12_whyTalk_17 : decode cX12_whyTalk 17 = .ok (.lload_n 3, 1) := by decide +kernel
theorem dX12_whyTalk_18 : decode cX12_whyTalk 18 = .ok (.lcmp, 1) := by decide +kernel
theorem dX12_whyTalk_19 : decode cX12_whyTalk 19 = .ok (.ifCond .ne 5, 3) := by decide +kernel
theorem dX12_whyTalk_22 : decode cX12_whyTalk 22 = .ok (.iconst 1, 1) := by decide +kernel
theorem dX12_whyTalk_23 : decode cX12_whyTalk 23 = .ok (.ireturn, 1) := by decide +kernel
theorem dX12_whyTalk_24 : decode cX12_whyTalk 24 = .ok (.aload_n 0, 1) := by decide +kernel
theorem dX12_whyTalk_25 : decode cX12_whyTalk 25 = .ok (.invokevirtual 255, 3) := by decide +kernel
theorem dX12_whyTalk_28 : decode cX12_whyTalk 28 = .ok (.i2l, 1) := by decide +kernel
theorem dX12_whyTalk_29 : decode cX12_whyTalk 29 = .ok (.lload_n 1, 1) := by decide +kernel
theorem dX12_whyTalk_30 : decode cX12_whyTalk 30 = .ok (.l2i, 1) := by decide +kernel
theorem dX12_whyTalk_31 : decode cX12_whyTalk 31 = .ok (.invokestatic 251, 3) := by decide +kernel
theorem dX12_whyTalk_34 : decode cX12_whyTalk 34 = .ok (.ifCond .eq 20, 3) := by decide +kernel
theorem dX12_whyTalk_37 : decode cX12_whyTalk 37 = .ok (.aload_n 0, 1) := by decide +kernel
theorem dX12_whyTalk_38 : decode cX12_whyTalk 38 = .ok (.invokevirtual 255, 3) := by decide +kernel
theorem dX12_whyTalk_41 : decode cX12_whyTalk 41 = .ok (.i2l, 1) := by decide +kernel
theorem dX12_whyTalk_42 : decode cX12_whyTalk 42 = .ok (.lload_n 3, 1) := by decide +kernel
theorem dX12_whyTalk_43 : decode cX12_whyTalk 43 = .ok (.l2i, 1) := by decide +kernel
theorem dX12_whyTalk_44 : decode cX12_whyTalk 44 = .ok (.invokestatic 251, 3) := by decide +kernel
theorem dX12_whyTalk_47 : decode cX12_whyTalk 47 = .ok (.ifCond .eq 7, 3) := by decide +kernel
theorem dX12_whyTalk_50 : decode cX12_whyTalk 50 = .ok (.iconst 0, 1) := by decide +kernel
theorem dX12_whyTalk_51 : decode cX12_whyTalk 51 = .ok (.goto 4, 3) := by decide +kernel
theorem dX12_whyTalk_54 : decode cX12_whyTalk 54 = .ok (.iconst 2, 1) := by decide +kernel
theorem dX12_whyTalk_55 : decode cX12_whyTalk 55 = .ok (.ireturn, 1) := by decide +kernel
theorem dX12_within_0 : decode cX12_within 0 = .ok (.lload_n 0, 1) := by decide +kernel
theorem dX12_within_1 : decode cX12_within 1 = .ok (.lload_n 2, 1) := by decide +kernel
theorem dX12_within_2 : decode cX12_within 2 = .ok (.lcmp, 1) := by decide +kernel
theorem dX12_within_3 : decode cX12_within 3 = .ok (.ifCond .lt 14, 3) := by decide +kernel
theorem dX12_within_6 : decode cX12_within 6 = .ok (.lload_n 0, 1) := by decide +kernel
theorem dX12_within_7 : decode cX12_within 7 = .ok (.lload 4, 2) := by decide +kernel
theorem dX12_within_9 : decode cX12_within 9 = .ok (.lcmp, 1) := by decide +kernel
theorem dX12_within_10 : decode cX12_within 10 = .ok (.ifCond .gt 7, 3) := by decide +kernel
theorem dX12_within_13 : decode cX12_within 13 = .ok (.iconst 1, 1) := by decide +kernel
theorem dX12_within_14 : decode cX12_within 14 = .ok (.goto 4, 3) := by decide +kernel
theorem dX12_within_17 : decode cX12_within 17 = .ok (.iconst 0, 1) := by decide +kernel
theorem dX12_within_18 : decode cX12_within 18 = .ok (.ireturn, 1) := by decide +kernel
theorem dX12_word_0 : decode cX12_word 0 = .ok (.aload_n 0, 1) := by decide +kernel
theorem dX12_word_1 : decode cX12_word 1 = .ok (.iconst 0, 1) := by decide +kernel
theorem dX12_word_2 : decode cX12_word 2 = .ok (.putfield 1, 3) := by decide +kernel
theorem dX12_word_5 : decode cX12_word 5 = .ok (.aload_n 0, 1) := by decide +kernel
theorem dX12_word_6 : decode cX12_word 6 = .ok (.aload_n 0, 1) := by decide +kernel
theorem dX12_word_7 : decode cX12_word 7 = .ok (.invokevirtual 255, 3) := by decide +kernel
theorem dX12_word_10 : decode cX12_word 10 = .ok (.invokevirtual 319, 3) := by decide +kernel
theorem dX12_word_13 : decode cX12_word 13 = .ok (.ifCond .eq 5, 3) := by decide +kernel
theorem dX12_word_16 : decode cX12_word 16 = .ok (.iconst (-1), 1) := by decide +kernel
theorem dX12_word_17 : decode cX12_word 17 = .ok (.ireturn, 1) := by decide +kernel
theorem dX12_word_18 : decode cX12_word 18 = .ok (.iconst 0, 1) := by decide +kernel
theorem dX12_word_19 : decode cX12_word 19 = .ok (.istore_n 1, 1) := by decide +kernel
theorem dX12_word_20 : decode cX12_word 20 = .ok (.iload_n 1, 1) := by decide +kernel
theorem dX12_word_21 : decode cX12_word 21 = .ok (.aload_n 0, 1) := by decide +kernel
theorem dX12_word_22 : decode cX12_word 22 = .ok (.getfield 13, 3) := by decide +kernel
theorem dX12_word_25 : decode cX12_word 25 = .ok (.iconst 2, 1) := by decide +kernel
theorem dX12_word_26 : decode cX12_word 26 = .ok (.iaload, 1) := by decide +kernel
theorem dX12_word_27 : decode cX12_word 27 = .ok (.if_icmp .ge 81, 3) := by decide +kernel
theorem dX12_word_30 : decode cX12_word 30 = .ok (.iconst 0, 1) := by decide +kernel
theorem dX12_word_31 : decode cX12_word 31 = .ok (.istore_n 2, 1) := by decide +kernel
theorem dX12_word_32 : decode cX12_word 32 = .ok (.iload_n 2, 1) := by decide +kernel
theorem dX12_word_33 : decode cX12_word 33 = .ok (.aload_n 0, 1) := by decide +kernel
theorem dX12_word_34 : decode cX12_word 34 = .ok (.getfield 13, 3) := by decide +kernel
theorem dX12_word_37 : decode cX12_word 37 = .ok (.iconst 2, 1) := by decide +kernel
theorem dX12_word_38 : decode cX12_word 38 = .ok (.iaload, 1) := by decide +kernel
theorem dX12_word_39 : decode cX12_word 39 = .ok (.if_icmp .ge 63, 3) := by decide +kernel
theorem dX12_word_42 : decode cX12_word 42 = .ok (.aload_n 0, 1) := by decide +kernel
theorem dX12_word_43 : decode cX12_word 43 = .ok (.iload_n 1, 1) := by decide +kernel
theorem dX12_word_44 : decode cX12_word 44 = .ok (.i2l, 1) := by decide +kernel
theorem dX12_word_45 : decode cX12_word 45 = .ok (.iload_n 2, 1) := by decide +kernel
theorem dX12_word_46 : decode cX12_word 46 = .ok (.i2l, 1) := by decide +kernel
theorem dX12_word_47 : decode cX12_word 47 = .ok (.invokevirtual 263, 3) := by decide +kernel
theorem dX12_word_50 : decode cX12_word 50 = .ok (.ifCond .eq 6, 3) := by decide +kernel
theorem dX12_word_53 : decode cX12_word 53 = .ok (.goto 43, 3) := by decide +kernel
theorem dX12_word_56 : decode cX12_word 56 = .ok (.aload_n 0, 1) := by decide +kernel
theorem dX12_word_57 : decode cX12_word 57 = .ok (.iload_n 1, 1) := by decide +kernel
theorem dX12_word_58 : decode cX12_word 58 = .ok (.invokevirtual 375, 3) := by decide +kernel
theorem dX12_word_61 : decode cX12_word 61 = .ok (.istore_n 3, 1) := by decide +kernel
theorem dX12_word_62 : decode cX12_word 62 = .ok (.aload_n 0, 1) := by decide +kernel
theorem dX12_word_63 : decode cX12_word 63 = .ok (.iload_n 1, 1) := by decide +kernel
theorem dX12_word_64 : decode cX12_word 64 = .ok (.iload_n 2, 1) := by decide +kernel
theorem dX12_word_65 : decode cX12_word 65 = .ok (.invokevirtual 270, 3) := by decide +kernel
theorem dX12_word_68 : decode cX12_word 68 = .ok (.aload_n 0, 1) := by decide +kernel
theorem dX12_word_69 : decode cX12_word 69 = .ok (.aload_n 0, 1) := by decide +kernel
theorem dX12_word_70 : decode cX12_word 70 = .ok (.invokevirtual 255, 3) := by decide +kernel
theorem dX12_word_73 : decode cX12_word 73 = .ok (.invokevirtual 319, 3) := by decide +kernel
theorem dX12_word_76 : decode cX12_word 76 = .ok (.istore 4, 2) := by decide +kernel
theorem dX12_word_78 : decode cX12_word 78 = .ok (.aload_n 0, 1) := by decide +kernel
theorem dX12_word_79 : decode cX12_word 79 = .ok (.iload_n 1, 1) := by decide +kernel
theorem dX12_word_80 : decode cX12_word 80 = .ok (.iload_n 3, 1) := by decide +kernel
theorem dX12_word_81 : decode cX12_word 81 = .ok (.invokevirtual 378, 3) := by decide +kernel
theorem dX12_word_84 : decode cX12_word 84 = .ok (.iload 4, 2) := by decide +kernel
theorem dX12_word_86 : decode cX12_word 86 = .ok (.ifCond .eq 10, 3) := by decide +kernel
theorem dX12_word_89 : decode cX12_word 89 = .ok (.bipush 10, 2) := by decide +kernel
theorem dX12_word_91 : decode cX12_word 91 = .ok (.iload_n 1, 1) := by decide +kernel
theorem dX12_word_92 : decode cX12_word 92 = .ok (.imul, 1) := by decide +kernel
theorem dX12_word_93 : decode cX12_word 93 = .ok (.iload_n 2, 1) := by decide +kernel
theorem dX12_word_94 : decode cX12_word 94 = .ok (.iadd, 1) := by decide +kernel
theorem dX12_word_95 : decode cX12_word 95 = .ok (.ireturn, 1) := by decide +kernel
theorem dX12_word_96 : decode cX12_word 96 = .ok (.iinc 2 1, 3) := by decide +kernel
theorem dX12_word_99 : decode cX12_word 99 = .ok (.goto (-67), 3) := by decide +kernel
theorem dX12_word_102 : decode cX12_word 102 = .ok (.iinc 1 1, 3) := by decide +kernel
theorem dX12_word_105 : decode cX12_word 105 = .ok (.goto (-85), 3) := by decide +kernel
theorem dX12_word_108 : decode cX12_word 108 = .ok (.iconst (-1), 1) := by decide +kernel
theorem dX12_word_109 : decode cX12_word 109 = .ok (.ireturn, 1) := by decide +kernel
theorem dX12_write_0 : decode cX12_write 0 = .ok (.aload_n 0, 1) := by decide +kernel
theorem dX12_write_1 : decode cX12_write 1 = .ok (.iconst 0, 1) := by decide +kernel
theorem dX12_write_2 : decode cX12_write 2 = .ok (.putfield 1, 3) := by decide +kernel
theorem dX12_write_5 : decode cX12_write 5 = .ok (.aload_n 0, 1) := by decide +kernel
theorem dX12_write_6 : decode cX12_write 6 = .ok (.iload_n 1, 1) := by decide +kernel
theorem dX12_write_7 : decode cX12_write 7 = .ok (.invokevirtual 313, 3) := by decide +kernel
theorem dX12_write_10 : decode cX12_write 10 = .ok (.istore 5, 2) := by decide +kernel
theorem dX12_write_12 : decode cX12_write 12 = .ok (.iload 5, 2) := by decide +kernel
theorem dX12_write_14 : decode cX12_write 14 = .ok (.ifCond .eq 7, 3) := by decide +kernel
theorem dX12_write_17 : decode cX12_write 17 = .ok (.iload 5, 2) := by decide +kernel
theorem dX12_write_19 : decode cX12_write 19 = .ok (.i2l, 1) := by decide +kernel
theorem dX12_write_20 : decode cX12_write 20 = .ok (.lreturn, 1) := by decide +kernel
theorem dX12_write_21 : decode cX12_write 21 = .ok (.iload_n 2, 1) := by decide +kernel
theorem dX12_write_22 : decode cX12_write 22 = .ok (.i2l, 1) := by decide +kernel
theorem dX12_write_23 : decode cX12_write 23 = .ok (.lconst 0, 1) := by decide +kernel
theorem dX12_write_24 : decode cX12_write 24 = .ok (.aload_n 0, 1) := by decide +kernel
theorem dX12_write_25 : decode cX12_write 25 = .ok (.getfield 72, 3) := by decide +kernel
theorem dX12_write_28 : decode cX12_write 28 = .ok (.iload_n 1, 1) := by decide +kernel
theorem dX12_write_29 : decode cX12_write 29 = .ok (.iaload, 1) := by decide +kernel
theorem dX12_write_30 : decode cX12_write 30 = .ok (.iconst 1, 1) := by decide +kernel
theorem dX12_write_31 : decode cX12_write 31 = .ok (.isub, 1) := by decide +kernel
theorem dX12_write_32 : decode cX12_write 32 = .ok (.i2l, 1) := by decide +kernel
theorem dX12_write_33 : decode cX12_write 33 = .ok (.invokestatic 145, 3) := by decide +kernel
theorem dX12_write_36 : decode cX12_write 36 = .ok (.ifCond .ne 7, 3) := by decide +kernel
theorem dX12_write_39 : decode cX12_write 39 = .ok (.ldc2_w 429, 3) := by decide +kernel
theorem dX12_write_42 : decode cX12_write 42 = .ok (.lreturn, 1) := by decide +kernel
theorem dX12_write_43 : decode cX12_write 43 = .ok (.aload_n 0, 1) := by decide +kernel
theorem dX12_write_44 : decode cX12_write 44 = .ok (.getfield 75, 3) := by decide +kernel
theorem dX12_write_47 : decode cX12_write 47 = .ok (.bipush 40, 2) := by decide +kernel
theorem dX12_write_49 : decode cX12_write 49 = .ok (.iload_n 1, 1) := by decide +kernel
theorem dX12_write_50 : decode cX12_write 50 = .ok (.imul, 1) := by decide +kernel
theorem dX12_write_51 : decode cX12_write 51 = .ok (.iload_n 2, 1) := by decide +kernel
theorem dX12_write_52 : decode cX12_write 52 = .ok (.iadd, 1) := by decide +kernel
theorem dX12_write_53 : decode cX12_write 53 = .ok (.lload_n 3, 1) := by decide +kernel
theorem dX12_write_54 : decode cX12_write 54 = .ok (.aload_n 0, 1) := by decide +kernel
theorem dX12_write_55 : decode cX12_write 55 = .ok (.getfield 69, 3) := by decide +kernel
theorem dX12_write_58 : decode cX12_write 58 = .ok (.iload_n 1, 1) := by decide +kernel
theorem dX12_write_59 : decode cX12_write 59 = .ok (.iaload, 1) := by decide +kernel
theorem dX12_write_60 : decode cX12_write 60 = .ok (.invokestatic 431, 3) := by decide +kernel
theorem dX12_write_63 : decode cX12_write 63 = .ok (.lastore, 1) := by decide +kernel
theorem dX12_write_64 : decode cX12_write 64 = .ok (.aload_n 0, 1) := by decide +kernel
theorem dX12_write_65 : decode cX12_write 65 = .ok (.getfield 75, 3) := by decide +kernel
theorem dX12_write_68 : decode cX12_write 68 = .ok (.bipush 40, 2) := by decide +kernel
theorem dX12_write_70 : decode cX12_write 70 = .ok (.iload_n 1, 1) := by decide +kernel
theorem dX12_write_71 : decode cX12_write 71 = .ok (.imul, 1) := by decide +kernel
theorem dX12_write_72 : decode cX12_write 72 = .ok (.iload_n 2, 1) := by decide +kernel
theorem dX12_write_73 : decode cX12_write 73 = .ok (.iadd, 1) := by decide +kernel
theorem dX12_write_74 : decode cX12_write 74 = .ok (.laload, 1) := by decide +kernel
theorem dX12_write_75 : decode cX12_write 75 = .ok (.lreturn, 1) := by decide +kernel
theorem dX12_year_0 : decode cX12_year 0 = .ok (.aload_n 0, 1) := by decide +kernel
theorem dX12_year_1 : decode cX12_year 1 = .ok (.iconst 0, 1) := by decide +kernel
theorem dX12_year_2 : decode cX12_year 2 = .ok (.putfield 1, 3) := by decide +kernel
theorem dX12_year_5 : decode cX12_year 5 = .ok (.iload_n 2, 1) := by decide +kernel
theorem dX12_year_6 : decode cX12_year 6 = .ok (.i2l, 1) := by decide +kernel
theorem dX12_year_7 : decode cX12_year 7 = .ok (.lconst 1, 1) := by decide +kernel
theorem dX12_year_8 : decode cX12_year 8 = .ok (.ldc2_w 332, 3) := by decide +kernel
theorem dX12_year_11 : decode cX12_year 11 = .ok (.invokestatic 145, 3) := by decide +kernel
theorem dX12_year_14 : decode cX12_year 14 = .ok (.ifCond .ne 6, 3) := by decide +kernel
theorem dX12_year_17 : decode cX12_year 17 = .ok (.bipush (-3), 2) := by decide +kernel
theorem dX12_year_19 : decode cX12_year 19 = .ok (.ireturn, 1) := by decide +kernel
theorem dX12_year_20 : decode cX12_year 20 = .ok (.aload_n 0, 1) := by decide +kernel
theorem dX12_year_21 : decode cX12_year 21 = .ok (.invokevirtual 267, 3) := by decide +kernel
theorem dX12_year_24 : decode cX12_year 24 = .ok (.aload_n 0, 1) := by decide +kernel
theorem dX12_year_25 : decode cX12_year 25 = .ok (.iload_n 1, 1) := by decide +kernel
theorem dX12_year_26 : decode cX12_year 26 = .ok (.putfield 326, 3) := by decide +kernel
theorem dX12_year_29 : decode cX12_year 29 = .ok (.iconst 0, 1) := by decide +kernel
theorem dX12_year_30 : decode cX12_year 30 = .ok (.istore_n 3, 1) := by decide +kernel
theorem dX12_year_31 : decode cX12_year 31 = .ok (.iconst 0, 1) := by decide +kernel
theorem dX12_year_32 : decode cX12_year 32 = .ok (.istore 4, 2) := by decide +kernel
theorem dX12_year_34 : decode cX12_year 34 = .ok (.iload 4, 2) := by decide +kernel
theorem dX12_year_36 : decode cX12_year 36 = .ok (.iload_n 2, 1) := by decide +kernel
theorem dX12_year_37 : decode cX12_year 37 = .ok (.if_icmp .ge 37, 3) := by decide +kernel
theorem dX12_year_40 : decode cX12_year 40 = .ok (.aload_n 0, 1) := by decide +kernel
theorem dX12_year_41 : decode cX12_year 41 = .ok (.invokevirtual 334, 3) := by decide +kernel
theorem dX12_year_44 : decode cX12_year 44 = .ok (.istore 5, 2) := by decide +kernel
theorem dX12_year_46 : decode cX12_year 46 = .ok (.aload_n 0, 1) := by decide +kernel
theorem dX12_year_47 : decode cX12_year 47 = .ok (.iload 5, 2) := by decide +kernel
theorem dX12_year_49 : decode cX12_year 49 = .ok (.i2l, 1) := by decide +kernel
theorem dX12_year_50 : decode cX12_year 50 = .ok (.invokevirtual 304, 3) := by decide +kernel
theorem dX12_year_53 : decode cX12_year 53 = .ok (.ifCond .eq 6, 3) := by decide +kernel
theorem dX12_year_56 : decode cX12_year 56 = .ok (.goto 12, 3) := by decide +kernel
theorem dX12_year_59 : decode cX12_year 59 = .ok (.aload_n 0, 1) := by decide +kernel
theorem dX12_year_60 : decode cX12_year 60 = .ok (.iload 5, 2) := by decide +kernel
theorem dX12_year_62 : decode cX12_year 62 = .ok (.invokevirtual 308, 3) := by decide +kernel
theorem dX12_year_65 : decode cX12_year 65 = .ok (.iinc 3 1, 3) := by decide +kernel
theorem dX12_year_68 : decode cX12_year 68 = .ok (.iinc 4 1, 3) := by decide +kernel
theorem dX12_year_71 : decode cX12_year 71 = .ok (.goto (-37), 3) := by decide +kernel
theorem dX12_year_74 : decode cX12_year 74 = .ok (.iload_n 3, 1) := by decide +kernel
theorem dX12_year_75 : decode cX12_year 75 = .ok (.ifCond .le 7, 3) := by decide +kernel
theorem dX12_year_78 : decode cX12_year 78 = .ok (.aload_n 0, 1) := by decide +kernel
theorem dX12_year_79 : decode cX12_year 79 = .ok (.invokevirtual 274, 3) := by decide +kernel
theorem dX12_year_82 : decode cX12_year 82 = .ok (.iload_n 3, 1) := by decide +kernel
theorem dX12_year_83 : decode cX12_year 83 = .ok (.ireturn, 1) := by decide +kernel
