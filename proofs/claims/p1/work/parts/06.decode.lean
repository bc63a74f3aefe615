theorem dX11_town_19 : decode cX11_town 19 = .ok (.getfield 83, 3) := by decide +kernel
theorem dX11_town_22 : decode cX11_town 22 = .ok (.getfield 165, 3) := by decide +kernel
theorem dX11_town_25 : decode cX11_town 25 = .ok (.iload_n 1, 1) := by decide +kernel
theorem dX11_town_26 : decode cX11_town 26 = .ok (.iadd, 1) := by decide +kernel
theorem dX11_town_27 : decode cX11_town 27 = .ok (.invokevirtual 168, 3) := by decide +kernel
theorem dX11_town_30 : decode cX11_town 30 = .ok (.ireturn, 1) := by decide +kernel
theorem dX11_townSits_0 : decode cX11_townSits 0 = .ok (.aload_n 0, 1) := by decide +kernel
theorem dX11_townSits_1 : decode cX11_townSits 1 = .ok (.getfield 56, 3) := by decide +kernel
theorem dX11_townSits_4 : decode cX11_townSits 4 = .ok (.aload_n 1, 1) := by decide +kernel
theorem dX11_townSits_5 : decode cX11_townSits 5 = .ok (.aload_n 1, 1) := by decide +kernel
theorem dX11_townSits_6 : decode cX11_townSits 6 = .ok (.getfield 165, 3) := by decide +kernel
theorem dX11_townSits_9 : decode cX11_townSits 9 = .ok (.aload_n 0, 1) := by decide +kernel
theorem dX11_townSits_10 : decode cX11_townSits 10 = .ok (.getfield 49, 3) := by decide +kernel
theorem dX11_townSits_13 : decode cX11_townSits 13 = .ok (.invokevirtual 243, 3) := by decide +kernel
theorem dX11_townSits_16 : decode cX11_townSits 16 = .ok (.aload_n 0, 1) := by decide +kernel
theorem dX11_townSits_17 : decode cX11_townSits 17 = .ok (.getfield 56, 3) := by decide +kernel
theorem dX11_townSits_20 : decode cX11_townSits 20 = .ok (.aload_n 1, 1) := by decide +kernel
theorem dX11_townSits_21 : decode cX11_townSits 21 = .ok (.invokevirtual 155, 3) := by decide +kernel
theorem dX11_townSits_24 : decode cX11_townSits 24 = .ok (.iconst 0, 1) := by decide +kernel
theorem dX11_townSits_25 : decode cX11_townSits 25 = .ok (.invokevirtual 247, 3) := by decide +kernel
theorem dX11_townSits_28 : decode cX11_townSits 28 = .ok (.ireturn, 1) := by decide +kernel
theorem dX11_undo_0 : decode cX11_undo 0 = .ok (.iload_n 1, 1) := by decide +kernel
theorem dX11_undo_1 : decode cX11_undo 1 = .ok (.iconst 1, 1) := by decide +kernel
theorem dX11_undo_2 : decode cX11_undo 2 = .ok (.if_icmp .lt 14, 3) := by decide +kernel
theorem dX11_undo_5 : decode cX11_undo 5 = .ok (.iload_n 1, 1) := by decide +kernel
theorem dX11_undo_6 : decode cX11_undo 6 = .ok (.aload_n 0, 1) := by decide +kernel
theorem dX11_undo_7 : decode cX11_undo 7 = .ok (.getfield 96, 3) := by decide +kernel
theorem dX11_undo_10 : decode cX11_undo 10 = .ok (.getfield 216, 3) := by decide +kernel
theorem dX11_undo_13 : decode cX11_undo 13 = .ok (.if_icmp .le 6, 3) := by decide +kernel
theorem dX11_undo_16 : decode cX11_undo 16 = .ok (.bipush (-3), 2) := by decide +kernel
theorem dX11_undo_18 : decode cX11_undo 18 = .ok (.ireturn, 1) := by decide +kernel
theorem dX11_ways_0 : decode cX11_ways 0 = .ok (.aload_n 0, 1) := by decide +kernel
theorem dX11_ways_1 : decode cX11_ways 1 = .ok (.iload_n 1, 1) := by decide +kernel
theorem dX11_ways_2 : decode cX11_ways 2 = .ok (.invokevirtual 257, 3) := by decide +kernel
theorem dX11_ways_5 : decode cX11_ways 5 = .ok (.ifCond .ne 6, 3) := by decide +kernel
theorem dX11_ways_8 : decode cX11_ways 8 = .ok (.bipush (-3), 2) := by decide +kernel
theorem dX11_ways_10 : decode cX11_ways 10 = .ok (.ireturn, 1) := by decide +kernel
theorem dX11_ways_11 : decode cX11_ways 11 = .ok (.aload_n 0, 1) := by decide +kernel
theorem dX11_ways_12 : decode cX11_ways 12 = .ok (.invokevirtual 260, 3) := by decide +kernel
theorem dX11_ways_15 : decode cX11_ways 15 = .ok (.aload_n 0, 1) := by decide +kernel
theorem dX11_ways_16 : decode cX11_ways 16 = .ok (.getfield 56, 3) := by decide +kernel
theorem dX11_ways_19 : decode cX11_ways 19 = .ok (.invokevirtual 277, 3) := by decide +kernel
theorem dX11_ways_22 : decode cX11_ways 22 = .ok (.aload_n 0, 1) := by decide +kernel
theorem dX11_ways_23 : decode cX11_ways 23 = .ok (.getfield 56, 3) := by decide +kernel
theorem dX11_ways_26 : decode cX11_ways 26 = .ok (.getfield 280, 3) := by decide +kernel
theorem dX11_ways_29 : decode cX11_ways 29 = .ok (.iload_n 1, 1) := by decide +kernel
theorem dX11_ways_30 : decode cX11_ways 30 = .ok (.iaload, 1) := by decide +kernel
theorem dX11_ways_31 : decode cX11_ways 31 = .ok (.ireturn, 1) := by decide +kernel
theorem dX11_word_0 : decode cX11_word 0 = .ok (.aload_n 0, 1) := by decide +kernel
theorem dX11_word_1 : decode cX11_word 1 = .ok (.getfield 83, 3) := by decide +kernel
theorem dX11_word_4 : decode cX11_word 4 = .ok (.invokevirtual 155, 3) := by decide +kernel
theorem dX11_word_7 : decode cX11_word 7 = .ok (.istore_n 1, 1) := by decide +kernel
theorem dX11_word_8 : decode cX11_word 8 = .ok (.aload_n 0, 1) := by decide +kernel
theorem dX11_word_9 : decode cX11_word 9 = .ok (.aload_n 0, 1) := by decide +kernel
theorem dX11_word_10 : decode cX11_word 10 = .ok (.getfield 83, 3) := by decide +kernel
theorem dX11_word_13 : decode cX11_word 13 = .ok (.invokevirtual 239, 3) := by decide +kernel
theorem dX11_word_16 : decode cX11_word 16 = .ok (.ifCond .eq 5, 3) := by decide +kernel
theorem dX11_word_19 : decode cX11_word 19 = .ok (.iconst (-1), 1) := by decide +kernel
theorem dX11_word_20 : decode cX11_word 20 = .ok (.ireturn, 1) := by decide +kernel
theorem dX11_write_0 : decode cX11_write 0 = .ok (.aload_n 0, 1) := by decide +kernel
theorem dX11_write_1 : decode cX11_write 1 = .ok (.iload_n 1, 1) := by decide +kernel
theorem dX11_write_2 : decode cX11_write 2 = .ok (.invokevirtual 223, 3) := by decide +kernel
theorem dX11_write_5 : decode cX11_write 5 = .ok (.ifCond .ne 7, 3) := by decide +kernel
theorem dX11_write_8 : decode cX11_write 8 = .ok (.ldc2_w 343, 3) := by decide +kernel
theorem dX11_write_11 : decode cX11_write 11 = .ok (.lreturn, 1) := by decide +kernel
theorem dX11_write_12 : decode cX11_write 12 = .ok (.aload_n 0, 1) := by decide +kernel
theorem dX11_write_13 : decode cX11_write 13 = .ok (.getfield 32, 3) := by decide +kernel
theorem dX11_write_16 : decode cX11_write 16 = .ok (.iload_n 1, 1) := by decide +kernel
theorem dX11_write_17 : decode cX11_write 17 = .ok (.aaload, 1) := by decide +kernel
theorem dX11_write_18 : decode cX11_write 18 = .ok (.astore 5, 2) := by decide +kernel
theorem dX11_write_20 : decode cX11_write 20 = .ok (.aload 5, 2) := by decide +kernel
theorem dX11_write_22 : decode cX11_write 22 = .ok (.invokevirtual 226, 3) := by decide +kernel
theorem dX11_write_25 : decode cX11_write 25 = .ok (.ifCond .eq 7, 3) := by decide +kernel
theorem dX11_write_28 : decode cX11_write 28 = .ok (.ldc2_w 360, 3) := by decide +kernel
theorem dX11_write_31 : decode cX11_write 31 = .ok (.lreturn, 1) := by decide +kernel
theorem dX12_areTwo_0 : decode cX12_areTwo 0 = .ok (.aload_n 0, 1) := by decide +kernel
theorem dX12_areTwo_1 : decode cX12_areTwo 1 = .ok (.iload_n 1, 1) := by decide +kernel
theorem dX12_areTwo_2 : decode cX12_areTwo 2 = .ok (.i2l, 1) := by decide +kernel
theorem dX12_areTwo_3 : decode cX12_areTwo 3 = .ok (.invokevirtual 245, 3) := by decide +kernel
theorem dX12_areTwo_6 : decode cX12_areTwo 6 = .ok (.ifCond .eq 21, 3) := by decide +kernel
theorem dX12_areTwo_27 : decode cX12_areTwo 27 = .ok (.iconst 0, 1) := by decide +kernel
theorem dX12_areTwo_28 : decode cX12_areTwo 28 = .ok (.ireturn, 1) := by decide +kernel
theorem dX12_ayes_0 : decode cX12_ayes 0 = .ok (.aload_n 0, 1) := by decide +kernel
theorem dX12_ayes_1 : decode cX12_ayes 1 = .ok (.iconst 0, 1) := by decide +kernel
theorem dX12_ayes_2 : decode cX12_ayes 2 = .ok (.putfield 1, 3) := by decide +kernel
theorem dX12_ayes_5 : decode cX12_ayes 5 = .ok (.iload_n 1, 1) := by decide +kernel
theorem dX12_ayes_6 : decode cX12_ayes 6 = .ok (.invokestatic 393, 3) := by decide +kernel
theorem dX12_ayes_9 : decode cX12_ayes 9 = .ok (.ifCond .eq 15, 3) := by decide +kernel
theorem dX12_ayes_12 : decode cX12_ayes 12 = .ok (.aload_n 0, 1) := by decide +kernel
theorem dX12_ayes_13 : decode cX12_ayes 13 = .ok (.aload_n 0, 1) := by decide +kernel
theorem dX12_ayes_14 : decode cX12_ayes 14 = .ok (.invokevirtual 255, 3) := by decide +kernel
theorem dX12_ayes_17 : decode cX12_ayes 17 = .ok (.iload_n 1, 1) := by decide +kernel
theorem dX12_ayes_18 : decode cX12_ayes 18 = .ok (.invokevirtual 396, 3) := by decide +kernel
theorem dX12_ayes_21 : decode cX12_ayes 21 = .ok (.goto 5, 3) := by decide +kernel
theorem dX12_ayes_24 : decode cX12_ayes 24 = .ok (.bipush (-3), 2) := by decide +kernel
theorem dX12_ayes_26 : decode cX12_ayes 26 = .ok (.ireturn, 1) := by decide +kernel
theorem dX12_ayesOf_0 : decode cX12_ayesOf 0 = .ok (.iconst 0, 1) := by decide +kernel
theorem dX12_ayesOf_1 : decode cX12_ayesOf 1 = .ok (.istore_n 3, 1) := by decide +kernel
theorem dX12_ayesOf_2 : decode cX12_ayesOf 2 = .ok (.iconst 0, 1) := by decide +kernel
theorem dX12_ayesOf_3 : decode cX12_ayesOf 3 = .ok (.istore 4, 2) := by decide +kernel
theorem dX12_ayesOf_5 : decode cX12_ayesOf 5 = .ok (.iload 4, 2) := by decide +kernel
theorem dX12_ayesOf_7 : decode cX12_ayesOf 7 = .ok (.aload_n 0, 1) := by decide +kernel
theorem dX12_ayesOf_8 : decode cX12_ayesOf 8 = .ok (.getfield 13, 3) := by decide +kernel
theorem dX12_ayesOf_11 : decode cX12_ayesOf 11 = .ok (.iconst 2, 1) := by decide +kernel
theorem dX12_ayesOf_12 : decode cX12_ayesOf 12 = .ok (.iaload, 1) := by decide +kernel
theorem dX12_ayesOf_13 : decode cX12_ayesOf 13 = .ok (.if_icmp .ge 40, 3) := by decide +kernel
theorem dX12_ayesOf_53 : decode cX12_ayesOf 53 = .ok (.iload_n 3, 1) := by decide +kernel
theorem dX12_ayesOf_54 : decode cX12_ayesOf 54 = .ok (.ireturn, 1) := by decide +kernel
theorem dX12_bar_0 : decode cX12_bar 0 = .ok (.aload_n 0, 1) := by decide +kernel
theorem dX12_bar_1 : decode cX12_bar 1 = .ok (.iconst 0, 1) := by decide +kernel
theorem dX12_bar_2 : decode cX12_bar 2 = .ok (.putfield 1, 3) := by decide +kernel
theorem dX12_bar_5 : decode cX12_bar 5 = .ok (.iload_n 2, 1) := by decide +kernel
theorem dX12_bar_6 : decode cX12_bar 6 = .ok (.i2l, 1) := by decide +kernel
theorem dX12_bar_7 : decode cX12_bar 7 = .ok (.lconst 0, 1) := by decide +kernel
theorem dX12_bar_8 : decode cX12_bar 8 = .ok (.lconst 1, 1) := by decide +kernel
theorem dX12_bar_9 : decode cX12_bar 9 = .ok (.invokestatic 145, 3) := by decide +kernel
theorem dX12_bar_12 : decode cX12_bar 12 = .ok (.ifCond .ne 6, 3) := by decide +kernel
theorem dX12_bar_15 : decode cX12_bar 15 = .ok (.bipush (-2), 2) := by decide +kernel
theorem dX12_bar_17 : decode cX12_bar 17 = .ok (.ireturn, 1) := by decide +kernel
theorem dX12_bar_18 : decode cX12_bar 18 = .ok (.aload_n 0, 1) := by decide +kernel
theorem dX12_bar_19 : decode cX12_bar 19 = .ok (.iload_n 1, 1) := by decide +kernel
theorem dX12_bar_20 : decode cX12_bar 20 = .ok (.invokevirtual 349, 3) := by decide +kernel
theorem dX12_bar_23 : decode cX12_bar 23 = .ok (.ifCond .ne 6, 3) := by decide +kernel
theorem dX12_bar_26 : decode cX12_bar 26 = .ok (.bipush (-3), 2) := by decide +kernel
theorem dX12_bar_28 : decode cX12_bar 28 = .ok (.ireturn, 1) := by decide +kernel
theorem dX12_bar_29 : decode cX12_bar 29 = .ok (.aload_n 0, 1) := by decide +kernel
theorem dX12_bar_30 : decode cX12_bar 30 = .ok (.aload_n 0, 1) := by decide +kernel
theorem dX12_bar_31 : decode cX12_bar 31 = .ok (.getfield 13, 3) := by decide +kernel
theorem dX12_bar_34 : decode cX12_bar 34 = .ok (.bipush 52, 2) := by decide +kernel
theorem dX12_bar_36 : decode cX12_bar 36 = .ok (.iaload, 1) := by decide +kernel
theorem dX12_bar_37 : decode cX12_bar 37 = .ok (.invokevirtual 340, 3) := by decide +kernel
theorem dX12_bar_40 : decode cX12_bar 40 = .ok (.aload_n 0, 1) := by decide +kernel
theorem dX12_bar_41 : decode cX12_bar 41 = .ok (.iload_n 1, 1) := by decide +kernel
theorem dX12_bar_42 : decode cX12_bar 42 = .ok (.invokevirtual 361, 3) := by decide +kernel
theorem dX12_bar_45 : decode cX12_bar 45 = .ok (.iload_n 1, 1) := by decide +kernel
theorem dX12_bar_46 : decode cX12_bar 46 = .ok (.invokestatic 281, 3) := by decide +kernel
theorem dX12_bar_49 : decode cX12_bar 49 = .ok (.iconst 2, 1) := by decide +kernel
theorem dX12_bar_50 : decode cX12_bar 50 = .ok (.aload_n 0, 1) := by decide +kernel
theorem dX12_bar_51 : decode cX12_bar 51 = .ok (.getfield 352, 3) := by decide +kernel
theorem dX12_bar_54 : decode cX12_bar 54 = .ok (.imul, 1) := by decide +kernel
theorem dX12_bar_55 : decode cX12_bar 55 = .ok (.isub, 1) := by decide +kernel
theorem dX12_bar_56 : decode cX12_bar 56 = .ok (.istore_n 3, 1) := by decide +kernel
theorem dX12_bar_57 : decode cX12_bar 57 = .ok (.iconst (-1), 1) := by decide +kernel
theorem dX12_bar_58 : decode cX12_bar 58 = .ok (.istore 4, 2) := by decide +kernel
theorem dX12_bar_60 : decode cX12_bar 60 = .ok (.iconst 0, 1) := by decide +kernel
theorem dX12_bar_61 : decode cX12_bar 61 = .ok (.istore 5, 2) := by decide +kernel
theorem dX12_bar_63 : decode cX12_bar 63 = .ok (.iload 5, 2) := by decide +kernel
theorem dX12_bar_65 : decode cX12_bar 65 = .ok (.iload_n 1, 1) := by decide +kernel
theorem dX12_bar_66 : decode cX12_bar 66 = .ok (.if_icmp .gt 65, 3) := by decide +kernel
theorem dX12_bar_69 : decode cX12_bar 69 = .ok (.iload 5, 2) := by decide +kernel
theorem dX12_bar_71 : decode cX12_bar 71 = .ok (.iload_n 1, 1) := by decide +kernel
theorem dX12_bar_72 : decode cX12_bar 72 = .ok (.iconst (-1), 1) := by decide +kernel
theorem dX12_bar_73 : decode cX12_bar 73 = .ok (.ixor, 1) := by decide +kernel
theorem dX12_bar_74 : decode cX12_bar 74 = .ok (.iand, 1) := by decide +kernel
theorem dX12_bar_75 : decode cX12_bar 75 = .ok (.ifCond .ne 50, 3) := by decide +kernel
theorem dX12_bar_78 : decode cX12_bar 78 = .ok (.iload 4, 2) := by decide +kernel
theorem dX12_bar_80 : decode cX12_bar 80 = .ok (.iconst (-1), 1) := by decide +kernel
theorem dX12_bar_81 : decode cX12_bar 81 = .ok (.if_icmp .eq 19, 3) := by decide +kernel
theorem dX12_bar_100 : decode cX12_bar 100 = .ok (.aload_n 0, 1) := by decide +kernel
theorem dX12_bar_101 : decode cX12_bar 101 = .ok (.iload_n 1, 1) := by decide +kernel
theorem dX12_bar_102 : decode cX12_bar 102 = .ok (.iload 5, 2) := by decide +kernel
theorem dX12_bar_104 : decode cX12_bar 104 = .ok (.iconst (-1), 1) := by decide +kernel
theorem dX12_bar_105 : decode cX12_bar 105 = .ok (.ixor, 1) := by decide +kernel
theorem dX12_bar_106 : decode cX12_bar 106 = .ok (.iand, 1) := by decide +kernel
theorem dX12_bar_107 : decode cX12_bar 107 = .ok (.iconst 1, 1) := by decide +kernel
theorem dX12_bar_108 : decode cX12_bar 108 = .ok (.invokevirtual 367, 3) := by decide +kernel
theorem dX12_bar_111 : decode cX12_bar 111 = .ok (.iload 5, 2) := by decide +kernel
theorem dX12_bar_113 : decode cX12_bar 113 = .ok (.invokestatic 281, 3) := by decide +kernel
theorem dX12_bar_116 : decode cX12_bar 116 = .ok (.isub, 1) := by decide +kernel
theorem dX12_bar_117 : decode cX12_bar 117 = .ok (.iload_n 3, 1) := by decide +kernel
theorem dX12_bar_118 : decode cX12_bar 118 = .ok (.if_icmp .ne 7, 3) := by decide +kernel
theorem dX12_bar_121 : decode cX12_bar 121 = .ok (.iload 5, 2) := by decide +kernel
theorem dX12_bar_123 : decode cX12_bar 123 = .ok (.istore 4, 2) := by decide +kernel
theorem dX12_bar_125 : decode cX12_bar 125 = .ok (.iinc 5 1, 3) := by decide +kernel
theorem dX12_bar_128 : decode cX12_bar 128 = .ok (.goto (-65), 3) := by decide +kernel
theorem dX12_bar_131 : decode cX12_bar 131 = .ok (.iload_n 2, 1) := by decide +kernel
theorem dX12_bar_132 : decode cX12_bar 132 = .ok (.ifCond .ne 11, 3) := by decide +kernel
theorem dX12_bar_135 : decode cX12_bar 135 = .ok (.iload 4, 2) := by decide +kernel
theorem dX12_bar_137 : decode cX12_bar 137 = .ok (.invokestatic 281, 3) := by decide +kernel
theorem dX12_bar_140 : decode cX12_bar 140 = .ok (.goto 5, 3) := by decide +kernel
theorem dX12_bar_143 : decode cX12_bar 143 = .ok (.iload 4, 2) := by decide +kernel
theorem dX12_bar_145 : decode cX12_bar 145 = .ok (.ireturn, 1) := by decide +kernel
theorem dX12_bestDay_0 : decode cX12_bestDay 0 = .ok (.aload_n 0, 1) := by decide +kernel
theorem dX12_bestDay_1 : decode cX12_bestDay 1 = .ok (.iconst 0, 1) := by decide +kernel
theorem dX12_bestDay_2 : decode cX12_bestDay 2 = .ok (.putfield 1, 3) := by decide +kernel
theorem dX12_bestDay_5 : decode cX12_bestDay 5 = .ok (.iconst 0, 1) := by decide +kernel
theorem dX12_bestDay_6 : decode cX12_bestDay 6 = .ok (.istore_n 1, 1) := by decide +kernel
theorem dX12_bestDay_7 : decode cX12_bestDay 7 = .ok (.iconst (-1), 1) := by decide +kernel
theorem dX12_bestDay_8 : decode cX12_bestDay 8 = .ok (.istore_n 2, 1) := by decide +kernel
theorem dX12_bestDay_9 : decode cX12_bestDay 9 = .ok (.iconst 0, 1) := by decide +kernel
theorem dX12_bestDay_10 : decode cX12_bestDay 10 = .ok (.istore_n 3, 1) := by decide +kernel
theorem dX12_bestDay_11 : decode cX12_bestDay 11 = .ok (.iload_n 3, 1) := by decide +kernel
theorem dX12_bestDay_12 : decode cX12_bestDay 12 = .ok (.bipush 99, 2) := by decide +kernel
theorem dX12_bestDay_14 : decode cX12_bestDay 14 = .ok (.if_icmp .gt 57, 3) := by decide +kernel
theorem dX12_bestDay_17 : decode cX12_bestDay 17 = .ok (.aload_n 0, 1) := by decide +kernel
theorem dX12_bestDay_18 : decode cX12_bestDay 18 = .ok (.aload_n 0, 1) := by decide +kernel
theorem dX12_bestDay_19 : decode cX12_bestDay 19 = .ok (.getfield 13, 3) := by decide +kernel
theorem dX12_bestDay_22 : decode cX12_bestDay 22 = .ok (.bipush 52, 2) := by decide +kernel
theorem dX12_bestDay_24 : decode cX12_bestDay 24 = .ok (.iaload, 1) := by decide +kernel
theorem dX12_bestDay_25 : decode cX12_bestDay 25 = .ok (.iload_n 3, 1) := by decide +kernel
theorem dX12_bestDay_26 : decode cX12_bestDay 26 = .ok (.iadd, 1) := by decide +kernel
theorem dX12_bestDay_27 : decode cX12_bestDay 27 = .ok (.invokevirtual 340, 3) := by decide +kernel
theorem dX12_bestDay_30 : decode cX12_bestDay 30 = .ok (.aload_n 0, 1) := by decide +kernel
theorem dX12_bestDay_31 : decode cX12_bestDay 31 = .ok (.aload_n 0, 1) := by decide +kernel
theorem dX12_bestDay_32 : decode cX12_bestDay 32 = .ok (.aload_n 0, 1) := by decide +kernel
theorem dX12_bestDay_33 : decode cX12_bestDay 33 = .ok (.getfield 13, 3) := by decide +kernel
theorem dX12_bestDay_36 : decode cX12_bestDay 36 = .ok (.bipush 52, 2) := by decide +kernel
theorem dX12_bestDay_38 : decode cX12_bestDay 38 = .ok (.iaload, 1) := by decide +kernel
theorem dX12_bestDay_39 : decode cX12_bestDay 39 = .ok (.iload_n 3, 1) := by decide +kernel
theorem dX12_bestDay_40 : decode cX12_bestDay 40 = .ok (.iadd, 1) := by decide +kernel
theorem dX12_bestDay_41 : decode cX12_bestDay 41 = .ok (.invokevirtual 220, 3) := by decide +kernel
theorem dX12_bestDay_44 : decode cX12_bestDay 44 = .ok (.invokevirtual 361, 3) := by decide +kernel
theorem dX12_bestDay_47 : decode cX12_bestDay 47 = .ok (.aload_n 0, 1) := by decide +kernel
theorem dX12_bestDay_48 : decode cX12_bestDay 48 = .ok (.getfield 352, 3) := by decide +kernel
theorem dX12_bestDay_51 : decode cX12_bestDay 51 = .ok (.iload_n 2, 1) := by decide +kernel
theorem dX12_bestDay_52 : decode cX12_bestDay 52 = .ok (.if_icmp .gt 6, 3) := by decide +kernel
theorem dX12_bestDay_55 : decode cX12_bestDay 55 = .ok (.goto 10, 3) := by decide +kernel
theorem dX12_bestDay_58 : decode cX12_bestDay 58 = .ok (.iload_n 3, 1) := by decide +kernel
theorem dX12_bestDay_59 : decode cX12_bestDay 59 = .ok (.istore_n 1, 1) := by decide +kernel
theorem dX12_bestDay_60 : decode cX12_bestDay 60 = .ok (.aload_n 0, 1) := by decide +kernel
theorem dX12_bestDay_61 : decode cX12_bestDay 61 = .ok (.getfield 352, 3) := by decide +kernel
theorem dX12_bestDay_64 : decode cX12_bestDay 64 = .ok (.istore_n 2, 1) := by decide +kernel
theorem dX12_bestDay_65 : decode cX12_bestDay 65 = .ok (.iinc 3 1, 3) := by decide +kernel
theorem dX12_bestDay_68 : decode cX12_bestDay 68 = .ok (.goto (-57), 3) := by decide +kernel
theorem dX12_bestDay_71 : decode cX12_bestDay 71 = .ok (.iload_n 1, 1) := by decide +kernel
theorem dX12_bestDay_72 : decode cX12_bestDay 72 = .ok (.ireturn, 1) := by decide +kernel
theorem dX12_bitsOf_0 : decode cX12_bitsOf 0 = .ok (.iconst 0, 1) := by decide +kernel
theorem dX12_bitsOf_1 : decode cX12_bitsOf 1 = .ok (.istore_n 1, 1) := by decide +kernel
theorem dX12_bitsOf_2 : decode cX12_bitsOf 2 = .ok (.iconst 0, 1) := by decide +kernel
theorem dX12_bitsOf_3 : decode cX12_bitsOf 3 = .ok (.istore_n 2, 1) := by decide +kernel
theorem dX12_bitsOf_4 : decode cX12_bitsOf 4 = .ok (.iload_n 2, 1) := by decide +kernel
theorem dX12_bitsOf_5 : decode cX12_bitsOf 5 = .ok (.bipush 10, 2) := by decide +kernel
theorem dX12_bitsOf_7 : decode cX12_bitsOf 7 = .ok (.if_icmp .ge 17, 3) := by decide +kernel
theorem dX12_bitsOf_10 : decode cX12_bitsOf 10 = .ok (.iload_n 1, 1) := by decide +kernel
theorem dX12_bitsOf_11 : decode cX12_bitsOf 11 = .ok (.iload_n 0, 1) := by decide +kernel
theorem dX12_bitsOf_12 : decode cX12_bitsOf 12 = .ok (.iload_n 2, 1) := by decide +kernel
theorem dX12_bitsOf_13 : decode cX12_bitsOf 13 = .ok (.ishr, 1) := by decide +kernel
theorem dX12_bitsOf_14 : decode cX12_bitsOf 14 = .ok (.iconst 1, 1) := by decide +kernel
theorem dX12_bitsOf_15 : decode cX12_bitsOf 15 = .ok (.iand, 1) := by decide +kernel
theorem dX12_bitsOf_16 : decode cX12_bitsOf 16 = .ok (.iadd, 1) := by decide +kernel
theorem dX12_bitsOf_17 : decode cX12_bitsOf 17 = .ok (.istore_n 1, 1) := by decide +kernel
theorem dX12_bitsOf_18 : decode cX12_bitsOf 18 = .ok (.iinc 2 1, 3) := by decide +kernel
theorem dX12_bitsOf_21 : decode cX12_bitsOf 21 = .ok (.goto (-17), 3) := by decide +kernel
theorem dX12_bitsOf_24 : decode cX12_bitsOf 24 = .ok (.iload_n 1, 1) := by decide +kernel
theorem dX12_bitsOf_25 : decode cX12_bitsOf 25 = .ok (.ireturn, 1) := by decide +kernel
theorem dX12_call_0 : decode cX12_call 0 = .ok (.aload_n 0, 1) := by decide +kernel
theorem dX12_call_1 : decode cX12_call 1 = .ok (.iconst 0, 1) := by decide +kernel
theorem dX12_call_2 : decode cX12_call 2 = .ok (.putfield 1, 3) := by decide +kernel
theorem dX12_call_5 : decode cX12_call 5 = .ok (.aload_n 0, 1) := by decide +kernel
theorem dX12_call_6 : decode cX12_call 6 = .ok (.iload_n 1, 1) := by decide +kernel
theorem dX12_call_7 : decode cX12_call 7 = .ok (.iconst 0, 1) := by decide +kernel
theorem dX12_call_8 : decode cX12_call 8 = .ok (.invokevirtual 284, 3) := by decide +kernel
theorem dX12_call_11 : decode cX12_call 11 = .ok (.ireturn, 1) := by decide +kernel
theorem dX12_chance_0 : decode cX12_chance 0 = .ok (.aload_n 0, 1) := by decide +kernel
theorem dX12_chance_1 : decode cX12_chance 1 = .ok (.iconst 0, 1) := by decide +kernel
theorem dX12_chance_2 : decode cX12_chance 2 = .ok (.putfield 1, 3) := by decide +kernel
theorem dX12_chance_5 : decode cX12_chance 5 = .ok (.iload_n 2, 1) := by decide +kernel
theorem dX12_chance_6 : decode cX12_chance 6 = .ok (.i2l, 1) := by decide +kernel
theorem dX12_chance_7 : decode cX12_chance 7 = .ok (.lconst 0, 1) := by decide +kernel
theorem dX12_chance_8 : decode cX12_chance 8 = .ok (.lconst 1, 1) := by decide +kernel
theorem dX12_chance_9 : decode cX12_chance 9 = .ok (.invokestatic 145, 3) := by decide +kernel
theorem dX12_chance_12 : decode cX12_chance 12 = .ok (.ifCond .ne 7, 3) := by decide +kernel
theorem dX12_chance_15 : decode cX12_chance 15 = .ok (.ldc2_w 418, 3) := by decide +kernel
theorem dX12_chance_18 : decode cX12_chance 18 = .ok (.lreturn, 1) := by decide +kernel
theorem dX12_chance_19 : decode cX12_chance 19 = .ok (.aload_n 0, 1) := by decide +kernel
theorem dX12_chance_20 : decode cX12_chance 20 = .ok (.iload_n 1, 1) := by decide +kernel
theorem dX12_chance_21 : decode cX12_chance 21 = .ok (.invokevirtual 349, 3) := by decide +kernel
theorem dX12_chance_24 : decode cX12_chance 24 = .ok (.ifCond .ne 7, 3) := by decide +kernel
theorem dX12_chance_27 : decode cX12_chance 27 = .ok (.ldc2_w 420, 3) := by decide +kernel
theorem dX12_chance_30 : decode cX12_chance 30 = .ok (.lreturn, 1) := by decide +kernel
theorem dX12_chance_31 : decode cX12_chance 31 = .ok (.aload_n 0, 1) := by decide +kernel
theorem dX12_chance_32 : decode cX12_chance 32 = .ok (.invokevirtual 346, 3) := by decide +kernel
theorem dX12_chance_35 : decode cX12_chance 35 = .ok (.aload_n 0, 1) := by decide +kernel
theorem dX12_chance_36 : decode cX12_chance 36 = .ok (.iload_n 1, 1) := by decide +kernel
theorem dX12_chance_37 : decode cX12_chance 37 = .ok (.invokevirtual 422, 3) := by decide +kernel
theorem dX12_chance_40 : decode cX12_chance 40 = .ok (.lstore_n 3, 1) := by decide +kernel
theorem dX12_chance_41 : decode cX12_chance 41 = .ok (.iload_n 1, 1) := by decide +kernel
theorem dX12_chance_42 : decode cX12_chance 42 = .ok (.invokestatic 281, 3) := by decide +kernel
theorem dX12_chance_45 : decode cX12_chance 45 = .ok (.invokestatic 426, 3) := by decide +kernel
theorem dX12_chance_48 : decode cX12_chance 48 = .ok (.lstore 5, 2) := by decide +kernel
theorem dX12_chance_50 : decode cX12_chance 50 = .ok (.lload_n 3, 1) := by decide +kernel
theorem dX12_chance_51 : decode cX12_chance 51 = .ok (.lload 5, 2) := by decide +kernel
theorem dX12_chance_53 : decode cX12_chance 53 = .ok (.invokestatic 414, 3) := by decide +kernel
theorem dX12_chance_56 : decode cX12_chance 56 = .ok (.lstore 7, 2) := by decide +kernel
theorem dX12_chance_58 : decode cX12_chance 58 = .ok (.iload_n 2, 1) := by decide +kernel
theorem dX12_chance_59 : decode cX12_chance 59 = .ok (.ifCond .ne 7, 3) := by decide +kernel
theorem dX12_chance_62 : decode cX12_chance 62 = .ok (.lload_n 3, 1) := by decide +kernel
theorem dX12_chance_63 : decode cX12_chance 63 = .ok (.goto 5, 3) := by decide +kernel
theorem dX12_chance_66 : decode cX12_chance 66 = .ok (.lload 5, 2) := by decide +kernel
theorem dX12_chance_68 : decode cX12_chance 68 = .ok (.lload 7, 2) := by decide +kernel
theorem dX12_chance_70 : decode cX12_chance 70 = .ok (.ldiv, 1) := by decide +kernel
theorem dX12_chance_71 : decode cX12_chance 71 = .ok (.lreturn, 1) := by decide +kernel
theorem dX12_chanceOf_0 : decode cX12_chanceOf 0 = .ok (.lconst 0, 1) := by decide +kernel
theorem dX12_chanceOf_1 : decode cX12_chanceOf 1 = .ok (.lstore_n 2, 1) := by decide +kernel
theorem dX12_chanceOf_2 : decode cX12_chanceOf 2 = .ok (.iconst 0, 1) := by decide +kernel
theorem dX12_chanceOf_3 : decode cX12_chanceOf 3 = .ok (.istore 4, 2) := by decide +kernel
theorem dX12_chanceOf_5 : decode cX12_chanceOf 5 = .ok (.iload 4, 2) := by decide +kernel
theorem dX12_chanceOf_7 : decode cX12_chanceOf 7 = .ok (.iload_n 1, 1) := by decide +kernel
theorem dX12_chanceOf_8 : decode cX12_chanceOf 8 = .ok (.if_icmp .gt 113, 3) := by decide +kernel
theorem dX12_chanceOf_11 : decode cX12_chanceOf 11 = .ok (.iload 4, 2) := by decide +kernel
theorem dX12_chanceOf_13 : decode cX12_chanceOf 13 = .ok (.iload_n 1, 1) := by decide +kernel
theorem dX12_chanceOf_14 : decode cX12_chanceOf 14 = .ok (.iconst (-1), 1) := by decide +kernel
theorem dX12_chanceOf_15 : decode cX12_chanceOf 15 = .ok (.ixor, 1) := by decide +kernel
theorem dX12_chanceOf_16 : decode cX12_chanceOf 16 = .ok (.iand, 1) := by decide +kernel
theorem dX12_chanceOf_17 : decode cX12_chanceOf 17 = .ok (.ifCond .ne 98, 3) := by decide +kernel
theorem dX12_chanceOf_20 : decode cX12_chanceOf 20 = .ok (.aload_n 0, 1) := by decide +kernel
theorem dX12_chanceOf_21 : decode cX12_chanceOf 21 = .ok (.getfield 45, 3) := by decide +kernel
theorem dX12_chanceOf_24 : decode cX12_chanceOf 24 = .ok (.iload 4, 2) := by decide +kernel
theorem dX12_chanceOf_26 : decode cX12_chanceOf 26 = .ok (.iaload, 1) := by decide +kernel
theorem dX12_chanceOf_27 : decode cX12_chanceOf 27 = .ok (.ifCond .ne 6, 3) := by decide +kernel
theorem dX12_chanceOf_33 : decode cX12_chanceOf 33 = .ok (.lconst 1, 1) := by decide +kernel
theorem dX12_chanceOf_34 : decode cX12_chanceOf 34 = .ok (.lstore 5, 2) := by decide +kernel
theorem dX12_chanceOf_36 : decode cX12_chanceOf 36 = .ok (.iconst 0, 1) := by decide +kernel
theorem dX12_chanceOf_37 : decode cX12_chanceOf 37 = .ok (.istore 7, 2) := by decide +kernel
theorem dX12_chanceOf_39 : decode cX12_chanceOf 39 = .ok (.iload 7, 2) := by decide +kernel
theorem dX12_chanceOf_41 : decode cX12_chanceOf 41 = .ok (.aload_n 0, 1) := by decide +kernel
theorem dX12_chanceOf_42 : decode cX12_chanceOf 42 = .ok (.getfield 13, 3) := by decide +kernel
theorem dX12_chanceOf_45 : decode cX12_chanceOf 45 = .ok (.iconst 2, 1) := by decide +kernel
theorem dX12_chanceOf_46 : decode cX12_chanceOf 46 = .ok (.iaload, 1) := by decide +kernel
theorem dX12_chanceOf_47 : decode cX12_chanceOf 47 = .ok (.if_icmp .ge 63, 3) := by decide +kernel
theorem dX12_chanceOf_110 : decode cX12_chanceOf 110 = .ok (.lload_n 2, 1) := by decide +kernel
theorem dX12_chanceOf_111 : decode cX12_chanceOf 111 = .ok (.lload 5, 2) := by decide +kernel
theorem dX12_chanceOf_113 : decode cX12_chanceOf 113 = .ok (.ladd, 1) := by decide +kernel
theorem dX12_chanceOf_114 : decode cX12_chanceOf 114 = .ok (.lstore_n 2, 1) := by decide +kernel
theorem dX12_chanceOf_115 : decode cX12_chanceOf 115 = .ok (.iinc 4 1, 3) := by decide +kernel
theorem dX12_chanceOf_118 : decode cX12_chanceOf 118 = .ok (.goto (-113), 3) := by decide +kernel
theorem dX12_chanceOf_121 : decode cX12_chanceOf 121 = .ok (.lload_n 2, 1) := by decide +kernel
theorem dX12_chanceOf_122 : decode cX12_chanceOf 122 = .ok (.lreturn, 1) := by decide +kernel
theorem dX12_common_0 : decode cX12_common 0 = .ok (.lload_n 2, 1) := by decide +kernel
theorem dX12_common_1 : decode cX12_common 1 = .ok (.lconst 0, 1) := by decide +kernel
theorem dX12_common_2 : decode cX12_common 2 = .ok (.lcmp, 1) := by decide +kernel
theorem dX12_common_3 : decode cX12_common 3 = .ok (.ifCond .ne 7, 3) := by decide +kernel
theorem dX12_common_6 : decode cX12_common 6 = .ok (.lload_n 0, 1) := by decide +kernel
theorem dX12_common_7 : decode cX12_common 7 = .ok (.goto 10, 3) := by decide +kernel
theorem dX12_common_10 : decode cX12_common 10 = .ok (.lload_n 2, 1) := by decide +kernel
theorem dX12_common_11 : decode cX12_common 11 = .ok (.lload_n 0, 1) := by decide +kernel
theorem dX12_common_12 : decode cX12_common 12 = .ok (.lload_n 2, 1) := by decide +kernel
theorem dX12_common_13 : decode cX12_common 13 = .ok (.lrem, 1) := by decide +kernel
theorem dX12_common_14 : decode cX12_common 14 = .ok (.invokestatic 414, 3) := by decide +kernel
theorem dX12_common_17 : decode cX12_common 17 = .ok (.lreturn, 1) := by decide +kernel
theorem dX12_count_0 : decode cX12_count 0 = .ok (.aload_n 0, 1) := by decide +kernel
theorem dX12_count_1 : decode cX12_count 1 = .ok (.iconst 0, 1) := by decide +kernel
theorem dX12_count_2 : decode cX12_count 2 = .ok (.putfield 1, 3) := by decide +kernel
theorem dX12_count_5 : decode cX12_count 5 = .ok (.iload_n 1, 1) := by decide +kernel
theorem dX12_count_6 : decode cX12_count 6 = .ok (.tableswitch 110 0 8 #[50, 57, 64, 69, 77, 85, 90, 98, 103], 50) := by decide +kernel
theorem dX12_count_56 : decode cX12_count 56 = .ok (.aload_n 0, 1) := by decide +kernel
theorem dX12_count_57 : decode cX12_count 57 = .ok (.getfield 13, 3) := by decide +kernel
theorem dX12_count_60 : decode cX12_count 60 = .ok (.iconst 1, 1) := by decide +kernel
theorem dX12_count_61 : decode cX12_count 61 = .ok (.iaload, 1) := by decide +kernel
theorem dX12_count_62 : decode cX12_count 62 = .ok (.ireturn, 1) := by decide +kernel
theorem dX12_count_63 : decode cX12_count 63 = .ok (.aload_n 0, 1) := by decide +kernel
theorem dX12_count_64 : decode cX12_count 64 = .ok (.getfield 13, 3) := by decide +kernel
theorem dX12_count_67 : decode cX12_count 67 = .ok (.iconst 2, 1) := by decide +kernel
theorem dX12_count_68 : decode cX12_count 68 = .ok (.iaload, 1) := by decide +kernel
theorem dX12_count_69 : decode cX12_count 69 = .ok (.ireturn, 1) := by decide +kernel
theorem dX12_count_70 : decode cX12_count 70 = .ok (.aload_n 0, 1) := by decide +kernel
theorem dX12_count_71 : decode cX12_count 71 = .ok (.invokevirtual 255, 3) := by decide +kernel
theorem dX12_count_74 : decode cX12_count 74 = .ok (.ireturn, 1) := by decide +kernel
theorem dX12_count_75 : decode cX12_count 75 = .ok (.aload_n 0, 1) := by decide +kernel
theorem dX12_count_76 : decode cX12_count 76 = .ok (.getfield 13, 3) := by decide +kernel
theorem dX12_count_79 : decode cX12_count 79 = .ok (.bipush 53, 2) := by decide +kernel
theorem dX12_count_81 : decode cX12_count 81 = .ok (.iaload, 1) := by decide +kernel
theorem dX12_count_82 : decode cX12_count 82 = .ok (.ireturn, 1) := by decide +kernel
theorem dX12_count_83 : decode cX12_count 83 = .ok (.aload_n 0, 1) := by decide +kernel
theorem dX12_count_84 : decode cX12_count 84 = .ok (.getfield 13, 3) := by decide +kernel
theorem dX12_count_87 : decode cX12_count 87 = .ok (.bipush 52, 2) := by decide +kernel
theorem dX12_count_89 : decode cX12_count 89 = .ok (.iaload, 1) := by decide +kernel
theorem dX12_count_90 : decode cX12_count 90 = .ok (.ireturn, 1) := by decide +kernel
theorem dX12_count_91 : decode cX12_count 91 = .ok (.aload_n 0, 1) := by decide +kernel
theorem dX12_count_92 : decode cX12_count 92 = .ok (.invokevirtual 435, 3) := by decide +kernel
theorem dX12_count_95 : decode cX12_count 95 = .ok (.ireturn, 1) := by decide +kernel
theorem dX12_count_96 : decode cX12_count 96 = .ok (.aload_n 0, 1) := by decide +kernel
theorem dX12_count_97 : decode cX12_count 97 = .ok (.getfield 13, 3) := by decide +kernel
theorem dX12_count_100 : decode cX12_count 100 = .ok (.bipush 84, 2) := by decide +kernel
theorem dX12_count_102 : decode cX12_count 102 = .ok (.iaload, 1) := by decide +kernel
theorem dX12_count_103 : decode cX12_count 103 = .ok (.ireturn, 1) := by decide +kernel
theorem dX12_count_104 : decode cX12_count 104 = .ok (.aload_n 0, 1) := by decide +kernel
theorem dX12_count_105 : decode cX12_count 105 = .ok (.getfield 83, 3) := by decide +kernel
theorem dX12_count_108 : decode cX12_count 108 = .ok (.ireturn, 1) := by decide +kernel
theorem dX12_count_109 : decode cX12_count 109 = .ok (.aload_n 0, 1) := by decide +kernel
theorem dX12_count_110 : decode cX12_count 110 = .ok (.getfield 13, 3) := by decide +kernel
theorem dX12_count_113 : decode cX12_count 113 = .ok (.iconst 0, 1) := by decide +kernel
theorem dX12_count_114 : decode cX12_count 114 = .ok (.iaload, 1) := by decide +kernel
theorem dX12_count_115 : decode cX12_count 115 = .ok (.ireturn, 1) := by decide +kernel
theorem dX12_count_116 : decode cX12_count 116 = .ok (.iconst (-1), 1) := by decide +kernel
theorem dX12_count_117 : decode cX12_count 117 = .ok (.ireturn, 1) := by decide +kernel
theorem dX12_cover_0 : decode cX12_cover 0 = .ok (.aload_n 0, 1) := by decide +kernel
theorem dX12_cover_1 : decode cX12_cover 1 = .ok (.iconst 0, 1) := by decide +kernel
theorem dX12_cover_2 : decode cX12_cover 2 = .ok (.putfield 1, 3) := by decide +kernel
theorem dX12_cover_5 : decode cX12_cover 5 = .ok (.iload_n 2, 1) := by decide +kernel
theorem dX12_cover_6 : decode cX12_cover 6 = .ok (.i2l, 1) := by decide +kernel
theorem dX12_cover_7 : decode cX12_cover 7 = .ok (.lconst 0, 1) := by decide +kernel
theorem dX12_cover_8 : decode cX12_cover 8 = .ok (.lconst 1, 1) := by decide +kernel
theorem dX12_cover_9 : decode cX12_cover 9 = .ok (.invokestatic 145, 3) := by decide +kernel
theorem dX12_cover_12 : decode cX12_cover 12 = .ok (.ifCond .ne 6, 3) := by decide +kernel
theorem dX12_cover_15 : decode cX12_cover 15 = .ok (.bipush (-2), 2) := by decide +kernel
theorem dX12_cover_17 : decode cX12_cover 17 = .ok (.ireturn, 1) := by decide +kernel
theorem dX12_cover_18 : decode cX12_cover 18 = .ok (.aload_n 0, 1) := by decide +kernel
theorem dX12_cover_19 : decode cX12_cover 19 = .ok (.iload_n 1, 1) := by decide +kernel
theorem dX12_cover_20 : decode cX12_cover 20 = .ok (.invokevirtual 349, 3) := by decide +kernel
theorem dX12_cover_23 : decode cX12_cover 23 = .ok (.ifCond .ne 6, 3) := by decide +kernel
theorem dX12_cover_26 : decode cX12_cover 26 = .ok (.bipush (-3), 2) := by decide +kernel
theorem dX12_cover_28 : decode cX12_cover 28 = .ok (.ireturn, 1) := by decide +kernel
theorem dX12_cover_29 : decode cX12_cover 29 = .ok (.aload_n 0, 1) := by decide +kernel
theorem dX12_cover_30 : decode cX12_cover 30 = .ok (.aload_n 0, 1) := by decide +kernel
theorem dX12_cover_31 : decode cX12_cover 31 = .ok (.getfield 13, 3) := by decide +kernel
theorem dX12_cover_34 : decode cX12_cover 34 = .ok (.bipush 52, 2) := by decide +kernel
theorem dX12_cover_36 : decode cX12_cover 36 = .ok (.iaload, 1) := by decide +kernel
theorem dX12_cover_37 : decode cX12_cover 37 = .ok (.invokevirtual 340, 3) := by decide +kernel
theorem dX12_cover_40 : decode cX12_cover 40 = .ok (.aload_n 0, 1) := by decide +kernel
theorem dX12_cover_41 : decode cX12_cover 41 = .ok (.invokevirtual 255, 3) := by decide +kernel
theorem dX12_cover_44 : decode cX12_cover 44 = .ok (.iload_n 1, 1) := by decide +kernel
theorem dX12_cover_45 : decode cX12_cover 45 = .ok (.iconst (-1), 1) := by decide +kernel
theorem dX12_cover_46 : decode cX12_cover 46 = .ok (.ixor, 1) := by decide +kernel
theorem dX12_cover_47 : decode cX12_cover 47 = .ok (.iand, 1) := by decide +kernel
theorem dX12_cover_48 : decode cX12_cover 48 = .ok (.istore_n 3, 1) := by decide +kernel
theorem dX12_cover_49 : decode cX12_cover 49 = .ok (.iconst (-1), 1) := by decide +kernel
theorem dX12_cover_50 : decode cX12_cover 50 = .ok (.istore 4, 2) := by decide +kernel
theorem dX12_cover_52 : decode cX12_cover 52 = .ok (.iconst 0, 1) := by decide +kernel
theorem dX12_cover_53 : decode cX12_cover 53 = .ok (.istore 5, 2) := by decide +kernel
theorem dX12_cover_55 : decode cX12_cover 55 = .ok (.iload 5, 2) := by decide +kernel
theorem dX12_cover_57 : decode cX12_cover 57 = .ok (.iload_n 3, 1) := by decide +kernel
theorem dX12_cover_58 : decode cX12_cover 58 = .ok (.if_icmp .gt 51, 3) := by decide +kernel
theorem dX12_cover_61 : decode cX12_cover 61 = .ok (.iload 5, 2) := by decide +kernel
theorem dX12_cover_63 : decode cX12_cover 63 = .ok (.iload_n 3, 1) := by decide +kernel
theorem dX12_cover_64 : decode cX12_cover 64 = .ok (.iconst (-1), 1) := by decide +kernel
theorem dX12_cover_65 : decode cX12_cover 65 = .ok (.ixor, 1) := by decide +kernel
theorem dX12_cover_66 : decode cX12_cover 66 = .ok (.iand, 1) := by decide +kernel
theorem dX12_cover_67 : decode cX12_cover 67 = .ok (.ifCond .ne 36, 3) := by decide +kernel
theorem dX12_cover_70 : decode cX12_cover 70 = .ok (.iload 4, 2) := by decide +kernel
theorem dX12_cover_72 : decode cX12_cover 72 = .ok (.iconst (-1), 1) := by decide +kernel
theorem dX12_cover_73 : decode cX12_cover 73 = .ok (.if_icmp .eq 16, 3) := by decide +kernel
theorem dX12_cover_89 : decode cX12_cover 89 = .ok (.aload_n 0, 1) := by decide +kernel
theorem dX12_cover_90 : decode cX12_cover 90 = .ok (.iload_n 1, 1) := by decide +kernel
theorem dX12_cover_91 : decode cX12_cover 91 = .ok (.iload 5, 2) := by decide +kernel
theorem dX12_cover_93 : decode cX12_cover 93 = .ok (.invokevirtual 371, 3) := by decide +kernel
theorem dX12_cover_96 : decode cX12_cover 96 = .ok (.ifCond .eq 7, 3) := by decide +kernel
theorem dX12_cover_99 : decode cX12_cover 99 = .ok (.iload 5, 2) := by decide +kernel
theorem dX12_cover_101 : decode cX12_cover 101 = .ok (.istore 4, 2) := by decide +kernel
theorem dX12_cover_103 : decode cX12_cover 103 = .ok (.iinc 5 1, 3) := by decide +kernel
theorem dX12_cover_106 : decode cX12_cover 106 = .ok (.goto (-51), 3) := by decide +kernel
theorem dX12_cover_109 : decode cX12_cover 109 = .ok (.iload 4, 2) := by decide +kernel
theorem dX12_cover_111 : decode cX12_cover 111 = .ok (.iconst (-1), 1) := by decide +kernel
theorem dX12_cover_112 : decode cX12_cover 112 = .ok (.if_icmp .eq 8, 3) := by decide +kernel
theorem dX12_cover_115 : decode cX12_cover 115 = .ok (.iload_n 2, 1) := by decide +kernel
theorem dX12_cover_116 : decode cX12_cover 116 = .ok (.iconst 1, 1) := by decide +kernel
theorem dX12_cover_117 : decode cX12_cover 117 = .ok (.if_icmp .ne 8, 3) := by decide +kernel
theorem dX12_cover_120 : decode cX12_cover 120 = .ok (.iload 4, 2) := by decide +kernel
theorem dX12_cover_122 : decode cX12_cover 122 = .ok (.goto 8, 3) := by decide +kernel
theorem dX12_cover_125 : decode cX12_cover 125 = .ok (.iload 4, 2) := by decide +kernel
theorem dX12_cover_127 : decode cX12_cover 127 = .ok (.invokestatic 281, 3) := by decide +kernel
theorem dX12_cover_130 : decode cX12_cover 130 = .ok (.ireturn, 1) := by decide +kernel
theorem dX12_days_0 : decode cX12_days 0 = .ok (.aload_n 0, 1) := by decide +kernel
theorem dX12_days_1 : decode cX12_days 1 = .ok (.iconst 0, 1) := by decide +kernel
theorem dX12_days_2 : decode cX12_days 2 = .ok (.putfield 1, 3) := by decide +kernel
theorem dX12_days_5 : decode cX12_days 5 = .ok (.iload_n 1, 1) := by decide +kernel
theorem dX12_days_6 : decode cX12_days 6 = .ok (.i2l, 1) := by decide +kernel
theorem dX12_days_7 : decode cX12_days 7 = .ok (.lconst 1, 1) := by decide +kernel
theorem dX12_days_8 : decode cX12_days 8 = .ok (.ldc2_w 287, 3) := by decide +kernel
theorem dX12_days_11 : decode cX12_days 11 = .ok (.invokestatic 145, 3) := by decide +kernel
theorem dX12_days_14 : decode cX12_days 14 = .ok (.ifCond .ne 6, 3) := by decide +kernel
theorem dX12_days_17 : decode cX12_days 17 = .ok (.bipush (-3), 2) := by decide +kernel
theorem dX12_days_19 : decode cX12_days 19 = .ok (.ireturn, 1) := by decide +kernel
theorem dX12_days_20 : decode cX12_days 20 = .ok (.aload_n 0, 1) := by decide +kernel
theorem dX12_days_21 : decode cX12_days 21 = .ok (.invokevirtual 267, 3) := by decide +kernel
theorem dX12_days_24 : decode cX12_days 24 = .ok (.aload_n 0, 1) := by decide +kernel
theorem dX12_days_25 : decode cX12_days 25 = .ok (.getfield 13, 3) := by decide +kernel
theorem dX12_days_28 : decode cX12_days 28 = .ok (.bipush 52, 2) := by decide +kernel
theorem dX12_days_30 : decode cX12_days 30 = .ok (.dup2, 1) := by decide +kernel
theorem dX12_days_31 : decode cX12_days 31 = .ok (.iaload, 1) := by decide +kernel
theorem dX12_days_32 : decode cX12_days 32 = .ok (.iload_n 1, 1) := by decide +kernel
theorem dX12_days_33 : decode cX12_days 33 = .ok (.iadd, 1) := by decide +kernel
theorem dX12_days_34 : decode cX12_days 34 = .ok (.iastore, 1) := by decide +kernel
theorem dX12_days_35 : decode cX12_days 35 = .ok (.aload_n 0, 1) := by decide +kernel
theorem dX12_days_36 : decode cX12_days 36 = .ok (.invokevirtual 274, 3) := by decide +kernel
theorem dX12_days_39 : decode cX12_days 39 = .ok (.aload_n 0, 1) := by decide +kernel
theorem dX12_days_40 : decode cX12_days 40 = .ok (.invokevirtual 255, 3) := by decide +kernel
theorem dX12_days_43 : decode cX12_days 43 = .ok (.ireturn, 1) := by decide +kernel
theorem dX12_easiest_0 : decode cX12_easiest 0 = .ok (.aload_n 0, 1) := by decide +kernel
theorem dX12_easiest_1 : decode cX12_easiest 1 = .ok (.iconst 0, 1) := by decide +kernel
theorem dX12_easiest_2 : decode cX12_easiest 2 = .ok (.putfield 1, 3) := by decide +kernel
theorem dX12_easiest_5 : decode cX12_easiest 5 = .ok (.aload_n 0, 1) := by decide +kernel
theorem dX12_easiest_6 : decode cX12_easiest 6 = .ok (.invokevirtual 346, 3) := by decide +kernel
theorem dX12_easiest_9 : decode cX12_easiest 9 = .ok (.iconst (-1), 1) := by decide +kernel
theorem dX12_easiest_10 : decode cX12_easiest 10 = .ok (.istore_n 1, 1) := by decide +kernel
theorem dX12_easiest_11 : decode cX12_easiest 11 = .ok (.bipush 11, 2) := by decide +kernel
theorem dX12_easiest_13 : decode cX12_easiest 13 = .ok (.istore_n 2, 1) := by decide +kernel
theorem dX12_easiest_14 : decode cX12_easiest 14 = .ok (.iconst 0, 1) := by decide +kernel
theorem dX12_easiest_15 : decode cX12_easiest 15 = .ok (.istore_n 3, 1) := by decide +kernel
theorem dX12_easiest_16 : decode cX12_easiest 16 = .ok (.iload_n 3, 1) := by decide +kernel
theorem dX12_easiest_17 : decode cX12_easiest 17 = .ok (.bipush 10, 2) := by decide +kernel
theorem dX12_easiest_19 : decode cX12_easiest 19 = .ok (.if_icmp .ge 42, 3) := by decide +kernel
theorem dX12_easiest_22 : decode cX12_easiest 22 = .ok (.aload_n 0, 1) := by decide +kernel
theorem dX12_easiest_23 : decode cX12_easiest 23 = .ok (.iload_n 3, 1) := by decide +kernel
theorem dX12_easiest_24 : decode cX12_easiest 24 = .ok (.invokevirtual 399, 3) := by decide +kernel
theorem dX12_easiest_27 : decode cX12_easiest 27 = .ok (.istore 4, 2) := by decide +kernel
theorem dX12_easiest_29 : decode cX12_easiest 29 = .ok (.iload 4, 2) := by decide +kernel
theorem dX12_easiest_31 : decode cX12_easiest 31 = .ok (.iconst (-1), 1) := by decide +kernel
theorem dX12_easiest_32 : decode cX12_easiest 32 = .ok (.if_icmp .eq 23, 3) := by decide +kernel
theorem dX12_easiest_55 : decode cX12_easiest 55 = .ok (.iinc 3 1, 3) := by decide +kernel
theorem dX12_easiest_58 : decode cX12_easiest 58 = .ok (.goto (-42), 3) := by decide +kernel
theorem dX12_easiest_61 : decode cX12_easiest 61 = .ok (.iload_n 1, 1) := by decide +kernel
theorem dX12_easiest_62 : decode cX12_easiest 62 = .ok (.ireturn, 1) := by decide +kernel
theorem dX12_eats_0 : decode cX12_eats 0 = .ok (.aload_n 0, 1) := by decide +kernel
theorem dX12_eats_1 : decode cX12_eats 1 = .ok (.iload_n 1, 1) := by decide +kernel
theorem dX12_eats_2 : decode cX12_eats 2 = .ok (.invokevirtual 135, 3) := by decide +kernel
theorem dX12_eats_5 : decode cX12_eats 5 = .ok (.ifCond .ne 5, 3) := by decide +kernel
theorem dX12_eats_8 : decode cX12_eats 8 = .ok (.iconst 0, 1) := by decide +kernel
theorem dX12_eats_9 : decode cX12_eats 9 = .ok (.ireturn, 1) := by decide +kernel
theorem dX12_ends_0 : decode cX12_ends 0 = .ok (.aload_n 0, 1) := by decide +kernel
theorem dX12_ends_1 : decode cX12_ends 1 = .ok (.bipush 30, 2) := by decide +kernel
theorem dX12_ends_3 : decode cX12_ends 3 = .ok (.invokevirtual 172, 3) := by decide +kernel
theorem dX12_ends_6 : decode cX12_ends 6 = .ok (.ifCond .ne 8, 3) := by decide +kernel
theorem dX12_ends_9 : decode cX12_ends 9 = .ok (.aload_n 0, 1) := by decide +kernel
theorem dX12_ends_10 : decode cX12_ends 10 = .ok (.iconst 2, 1) := by decide +kernel
theorem dX12_ends_11 : decode cX12_ends 11 = .ok (.invokevirtual 141, 3) := by decide +kernel
theorem dX12_ends_14 : decode cX12_ends 14 = .ok (.aload_n 0, 1) := by decide +kernel
theorem dX12_ends_15 : decode cX12_ends 15 = .ok (.getfield 24, 3) := by decide +kernel
theorem dX12_ends_18 : decode cX12_ends 18 = .ok (.iconst 0, 1) := by decide +kernel
theorem dX12_ends_19 : decode cX12_ends 19 = .ok (.dup2, 1) := by decide +kernel
theorem dX12_ends_20 : decode cX12_ends 20 = .ok (.iaload, 1) := by decide +kernel
theorem dX12_ends_21 : decode cX12_ends 21 = .ok (.iconst 1, 1) := by decide +kernel
theorem dX12_ends_22 : decode cX12_ends 22 = .ok (.iadd, 1) := by decide +kernel
theorem dX12_ends_23 : decode cX12_ends 23 = .ok (.iastore, 1) := by decide +kernel
theorem dX12_ends_24 : decode cX12_ends 24 = .ok (.return_, 1) := by decide +kernel
theorem dX12_everybody_0 : decode cX12_everybody 0 = .ok (.iconst 1, 1) := by decide +kernel
theorem dX12_everybody_1 : decode cX12_everybody 1 = .ok (.aload_n 0, 1) := by decide +kernel
theorem dX12_everybody_2 : decode cX12_everybody 2 = .ok (.getfield 13, 3) := by decide +kernel
theorem dX12_everybody_5 : decode cX12_everybody 5 = .ok (.iconst 2, 1) := by decide +kernel
theorem dX12_everybody_6 : decode cX12_everybody 6 = .ok (.iaload, 1) := by decide +kernel
theorem dX12_everybody_7 : decode cX12_everybody 7 = .ok (.ishl, 1) := by decide +kernel
theorem dX12_everybody_8 : decode cX12_everybody 8 = .ok (.iconst 1, 1) := by decide +kernel
theorem dX12_everybody_9 : decode cX12_everybody 9 = .ok (.isub, 1) := by decide +kernel
theorem dX12_everybody_10 : decode cX12_everybody 10 = .ok (.ireturn, 1) := by decide +kernel
theorem dX12_fails_0 : decode cX12_fails 0 = .ok (.aload_n 0, 1) := by decide +kernel
theorem dX12_fails_1 : decode cX12_fails 1 = .ok (.getfield 129, 3) := by decide +kernel
theorem dX12_fails_4 : decode cX12_fails 4 = .ok (.ifCond .eq 4, 3) := by decide +kernel
theorem dX12_fails_7 : decode cX12_fails 7 = .ok (.return_, 1) := by decide +kernel
theorem dX12_fails_8 : decode cX12_fails 8 = .ok (.aload_n 0, 1) := by decide +kernel
theorem dX12_fails_9 : decode cX12_fails 9 = .ok (.aload_n 0, 1) := by decide +kernel
theorem dX12_fails_10 : decode cX12_fails 10 = .ok (.getfield 111, 3) := by decide +kernel
theorem dX12_fails_13 : decode cX12_fails 13 = .ok (.bipush 27, 2) := by decide +kernel
theorem dX12_fails_15 : decode cX12_fails 15 = .ok (.if_icmp .ne 7, 3) := by decide +kernel
theorem dX12_fails_22 : decode cX12_fails 22 = .ok (.iload_n 1, 1) := by decide +kernel
theorem dX12_fails_23 : decode cX12_fails 23 = .ok (.putfield 129, 3) := by decide +kernel
theorem dX12_fails_26 : decode cX12_fails 26 = .ok (.aload_n 0, 1) := by decide +kernel
theorem dX12_fails_27 : decode cX12_fails 27 = .ok (.aload_n 0, 1) := by decide +kernel
theorem dX12_fails_28 : decode cX12_fails 28 = .ok (.getfield 101, 3) := by decide +kernel
theorem dX12_fails_31 : decode cX12_fails 31 = .ok (.putfield 132, 3) := by decide +kernel
theorem dX12_fails_34 : decode cX12_fails 34 = .ok (.return_, 1) := by decide +kernel
theorem dX12_fault_0 : decode cX12_fault 0 = .ok (.aload_n 0, 1) := by decide +kernel
theorem dX12_fault_1 : decode cX12_fault 1 = .ok (.iconst 0, 1) := by decide +kernel
theorem dX12_fault_2 : decode cX12_fault 2 = .ok (.putfield 1, 3) := by decide +kernel
theorem dX12_fault_5 : decode cX12_fault 5 = .ok (.iload_n 1, 1) := by decide +kernel
theorem dX12_fault_6 : decode cX12_fault 6 = .ok (.ifCond .ne 10, 3) := by decide +kernel
theorem dX12_fault_9 : decode cX12_fault 9 = .ok (.aload_n 0, 1) := by decide +kernel
theorem dX12_fault_10 : decode cX12_fault 10 = .ok (.getfield 214, 3) := by decide +kernel
theorem dX12_fault_13 : decode cX12_fault 13 = .ok (.goto 16, 3) := by decide +kernel
theorem dX12_fault_16 : decode cX12_fault 16 = .ok (.iload_n 1, 1) := by decide +kernel
theorem dX12_fault_17 : decode cX12_fault 17 = .ok (.iconst 1, 1) := by decide +kernel
theorem dX12_fault_18 : decode cX12_fault 18 = .ok (.if_icmp .ne 10, 3) := by decide +kernel
theorem dX12_fault_21 : decode cX12_fault 21 = .ok (.aload_n 0, 1) := by decide +kernel
theorem dX12_fault_22 : decode cX12_fault 22 = .ok (.getfield 27, 3) := by decide +kernel
theorem dX12_fault_25 : decode cX12_fault 25 = .ok (.goto 4, 3) := by decide +kernel
theorem dX12_fault_28 : decode cX12_fault 28 = .ok (.iconst (-1), 1) := by decide +kernel
theorem dX12_fault_29 : decode cX12_fault 29 = .ok (.ireturn, 1) := by decide +kernel
theorem dX12_feed_0 : decode cX12_feed 0 = .ok (.aload_n 0, 1) := by decide +kernel
theorem dX12_feed_1 : decode cX12_feed 1 = .ok (.iconst 0, 1) := by decide +kernel
theorem dX12_feed_2 : decode cX12_feed 2 = .ok (.putfield 1, 3) := by decide +kernel
theorem dX12_feed_5 : decode cX12_feed 5 = .ok (.aload_n 0, 1) := by decide +kernel
theorem dX12_feed_6 : decode cX12_feed 6 = .ok (.getfield 83, 3) := by decide +kernel
theorem dX12_feed_9 : decode cX12_feed 9 = .ok (.bipush 20, 2) := by decide +kernel
theorem dX12_feed_11 : decode cX12_feed 11 = .ok (.iadd, 1) := by decide +kernel
theorem dX12_feed_12 : decode cX12_feed 12 = .ok (.sipush 900, 3) := by decide +kernel
theorem dX12_feed_15 : decode cX12_feed 15 = .ok (.if_icmp .le 6, 3) := by decide +kernel
theorem dX12_feed_21 : decode cX12_feed 21 = .ok (.iconst 0, 1) := by decide +kernel
theorem dX12_feed_22 : decode cX12_feed 22 = .ok (.istore 6, 2) := by decide +kernel
theorem dX12_feed_24 : decode cX12_feed 24 = .ok (.iload 6, 2) := by decide +kernel
theorem dX12_feed_26 : decode cX12_feed 26 = .ok (.bipush 20, 2) := by decide +kernel
theorem dX12_feed_28 : decode cX12_feed 28 = .ok (.if_icmp .ge 93, 3) := by decide +kernel
theorem dX12_feed_31 : decode cX12_feed 31 = .ok (.iload 6, 2) := by decide +kernel
theorem dX12_feed_33 : decode cX12_feed 33 = .ok (.iconst 4, 1) := by decide +kernel
theorem dX12_feed_34 : decode cX12_feed 34 = .ok (.if_icmp .ge 7, 3) := by decide +kernel
theorem dX12_feed_37 : decode cX12_feed 37 = .ok (.iload_n 1, 1) := by decide +kernel
theorem dX12_feed_38 : decode cX12_feed 38 = .ok (.goto 39, 3) := by decide +kernel
theorem dX12_feed_41 : decode cX12_feed 41 = .ok (.iload 6, 2) := by decide +kernel
theorem dX12_feed_43 : decode cX12_feed 43 = .ok (.bipush 8, 2) := by decide +kernel
theorem dX12_feed_45 : decode cX12_feed 45 = .ok (.if_icmp .ge 7, 3) := by decide +kernel
theorem dX12_feed_48 : decode cX12_feed 48 = .ok (.iload_n 2, 1) := by decide +kernel
theorem dX12_feed_49 : decode cX12_feed 49 = .ok (.goto 28, 3) := by decide +kernel
theorem dX12_feed_52 : decode cX12_feed 52 = .ok (.iload 6, 2) := by decide +kernel
theorem dX12_feed_54 : decode cX12_feed 54 = .ok (.bipush 12, 2) := by decide +kernel
theorem dX12_feed_56 : decode cX12_feed 56 = .ok (.if_icmp .ge 7, 3) := by decide +kernel
theorem dX12_feed_59 : decode cX12_feed 59 = .ok (.iload_n 3, 1) := by decide +kernel
theorem dX12_feed_60 : decode cX12_feed 60 = .ok (.goto 17, 3) := by decide +kernel
theorem dX12_feed_63 : decode cX12_feed 63 = .ok (.iload 6, 2) := by decide +kernel
theorem dX12_feed_65 : decode cX12_feed 65 = .ok (.bipush 16, 2) := by decide +kernel
theorem dX12_feed_67 : decode cX12_feed 67 = .ok (.if_icmp .ge 8, 3) := by decide +kernel
theorem dX12_feed_70 : decode cX12_feed 70 = .ok (.iload 4, 2) := by decide +kernel
theorem dX12_feed_72 : decode cX12_feed 72 = .ok (.goto 5, 3) := by decide +kernel
theorem dX12_feed_75 : decode cX12_feed 75 = .ok (.iload 5, 2) := by decide +kernel
theorem dX12_feed_77 : decode cX12_feed 77 = .ok (.istore 7, 2) := by decide +kernel
theorem dX12_feed_79 : decode cX12_feed 79 = .ok (.aload_n 0, 1) := by decide +kernel
theorem dX12_feed_80 : decode cX12_feed 80 = .ok (.getfield 21, 3) := by decide +kernel
theorem dX12_feed_83 : decode cX12_feed 83 = .ok (.aload_n 0, 1) := by decide +kernel
theorem dX12_feed_84 : decode cX12_feed 84 = .ok (.getfield 83, 3) := by decide +kernel
theorem dX12_feed_87 : decode cX12_feed 87 = .ok (.iload 7, 2) := by decide +kernel
theorem dX12_feed_89 : decode cX12_feed 89 = .ok (.bipush 24, 2) := by decide +kernel
theorem dX12_feed_91 : decode cX12_feed 91 = .ok (.bipush 8, 2) := by decide +kernel
theorem dX12_feed_93 : decode cX12_feed 93 = .ok (.iload 6, 2) := by decide +kernel
theorem dX12_feed_95 : decode cX12_feed 95 = .ok (.iconst 4, 1) := by decide +kernel
theorem dX12_feed_96 : decode cX12_feed 96 = .ok (.irem, 1) := by decide +kernel
theorem dX12_feed_97 : decode cX12_feed 97 = .ok (.imul, 1) := by decide +kernel
theorem dX12_feed_98 : decode cX12_feed 98 = .ok (.isub, 1) := by decide +kernel
theorem dX12_feed_99 : decode cX12_feed 99 = .ok (.ishr, 1) := by decide +kernel
theorem dX12_feed_100 : decode cX12_feed 100 = .ok (.sipush 255, 3) := by decide +kernel
theorem dX12_feed_103 : decode cX12_feed 103 = .ok (.iand, 1) := by decide +kernel
theorem dX12_feed_104 : decode cX12_feed 104 = .ok (.iastore, 1) := by decide +kernel
theorem dX12_feed_105 : decode cX12_feed 105 = .ok (.aload_n 0, 1) := by decide +kernel
theorem dX12_feed_106 : decode cX12_feed 106 = .ok (.dup, 1) := by decide +kernel
theorem dX12_feed_107 : decode cX12_feed 107 = .ok (.getfield 83, 3) := by decide +kernel
theorem dX12_feed_110 : decode cX12_feed 110 = .ok (.iconst 1, 1) := by decide +kernel
theorem dX12_feed_111 : decode cX12_feed 111 = .ok (.iadd, 1) := by decide +kernel
theorem dX12_feed_112 : decode cX12_feed 112 = .ok (.putfield 83, 3) := by decide +kernel
theorem dX12_feed_115 : decode cX12_feed 115 = .ok (.iinc 6 1, 3) := by decide +kernel
theorem dX12_feed_118 : decode cX12_feed 118 = .ok (.goto (-94), 3) := by decide +kernel
theorem dX12_feed_121 : decode cX12_feed 121 = .ok (.aload_n 0, 1) := by decide +kernel
theorem dX12_feed_122 : decode cX12_feed 122 = .ok (.getfield 83, 3) := by decide +kernel
theorem dX12_feed_125 : decode cX12_feed 125 = .ok (.ireturn, 1) := by decide +kernel
theorem dX12_firstDay_0 : decode cX12_firstDay 0 = .ok (.aload_n 0, 1) := by decide +kernel
theorem dX12_firstDay_1 : decode cX12_firstDay 1 = .ok (.iconst 0, 1) := by decide +kernel
theorem dX12_firstDay_2 : decode cX12_firstDay 2 = .ok (.putfield 1, 3) := by decide +kernel
theorem dX12_firstDay_5 : decode cX12_firstDay 5 = .ok (.iconst 0, 1) := by decide +kernel
theorem dX12_firstDay_6 : decode cX12_firstDay 6 = .ok (.istore_n 1, 1) := by decide +kernel
theorem dX12_firstDay_7 : decode cX12_firstDay 7 = .ok (.iload_n 1, 1) := by decide +kernel
theorem dX12_firstDay_8 : decode cX12_firstDay 8 = .ok (.bipush 99, 2) := by decide +kernel
theorem dX12_firstDay_10 : decode cX12_firstDay 10 = .ok (.if_icmp .gt 62, 3) := by decide +kernel
theorem dX12_firstDay_13 : decode cX12_firstDay 13 = .ok (.aload_n 0, 1) := by decide +kernel
theorem dX12_firstDay_14 : decode cX12_firstDay 14 = .ok (.aload_n 0, 1) := by decide +kernel
theorem dX12_firstDay_15 : decode cX12_firstDay 15 = .ok (.getfield 13, 3) := by decide +kernel
theorem dX12_firstDay_18 : decode cX12_firstDay 18 = .ok (.bipush 52, 2) := by decide +kernel
theorem dX12_firstDay_20 : decode cX12_firstDay 20 = .ok (.iaload, 1) := by decide +kernel
theorem dX12_firstDay_21 : decode cX12_firstDay 21 = .ok (.iload_n 1, 1) := by decide +kernel
theorem dX12_firstDay_22 : decode cX12_firstDay 22 = .ok (.iadd, 1) := by decide +kernel
theorem dX12_firstDay_23 : decode cX12_firstDay 23 = .ok (.invokevirtual 220, 3) := by decide +kernel
theorem dX12_firstDay_26 : decode cX12_firstDay 26 = .ok (.istore_n 2, 1) := by decide +kernel
theorem dX12_firstDay_27 : decode cX12_firstDay 27 = .ok (.iload_n 2, 1) := by decide +kernel
theorem dX12_firstDay_28 : decode cX12_firstDay 28 = .ok (.invokestatic 281, 3) := by decide +kernel
theorem dX12_firstDay_31 : decode cX12_firstDay 31 = .ok (.iconst 2, 1) := by decide +kernel
theorem dX12_firstDay_32 : decode cX12_firstDay 32 = .ok (.if_icmp .ge 6, 3) := by decide +kernel
theorem dX12_firstDay_35 : decode cX12_firstDay 35 = .ok (.goto 31, 3) := by decide +kernel
theorem dX12_firstDay_66 : decode cX12_firstDay 66 = .ok (.iinc 1 1, 3) := by decide +kernel
theorem dX12_firstDay_69 : decode cX12_firstDay 69 = .ok (.goto (-62), 3) := by decide +kernel
theorem dX12_firstDay_72 : decode cX12_firstDay 72 = .ok (.iconst (-1), 1) := by decide +kernel
theorem dX12_firstDay_73 : decode cX12_firstDay 73 = .ok (.ireturn, 1) := by decide +kernel
theorem dX12_goes_0 : decode cX12_goes 0 = .ok (.aload_n 0, 1) := by decide +kernel
theorem dX12_goes_1 : decode cX12_goes 1 = .ok (.iload_n 1, 1) := by decide +kernel
theorem dX12_goes_2 : decode cX12_goes 2 = .ok (.i2l, 1) := by decide +kernel
theorem dX12_goes_3 : decode cX12_goes 3 = .ok (.iload_n 2, 1) := by decide +kernel
theorem dX12_goes_4 : decode cX12_goes 4 = .ok (.invokevirtual 277, 3) := by decide +kernel
theorem dX12_goes_7 : decode cX12_goes 7 = .ok (.istore_n 3, 1) := by decide +kernel
theorem dX12_goes_8 : decode cX12_goes 8 = .ok (.iload_n 3, 1) := by decide +kernel
theorem dX12_goes_9 : decode cX12_goes 9 = .ok (.ifCond .eq 8, 3) := by decide +kernel
theorem dX12_goes_12 : decode cX12_goes 12 = .ok (.bipush (-10), 2) := by decide +kernel
theorem dX12_goes_14 : decode cX12_goes 14 = .ok (.iload_n 3, 1) := by decide +kernel
theorem dX12_goes_15 : decode cX12_goes 15 = .ok (.isub, 1) := by decide +kernel
theorem dX12_goes_16 : decode cX12_goes 16 = .ok (.ireturn, 1) := by decide +kernel
theorem dX12_goesPairs_0 : decode cX12_goesPairs 0 = .ok (.iload_n 1, 1) := by decide +kernel
theorem dX12_goesPairs_1 : decode cX12_goesPairs 1 = .ok (.ifCond .ne 69, 3) := by decide +kernel
theorem dX12_goesPairs_4 : decode cX12_goesPairs 4 = .ok (.iload_n 2, 1) := by decide +kernel
theorem dX12_goesPairs_5 : decode cX12_goesPairs 5 = .ok (.aload_n 0, 1) := by decide +kernel
theorem dX12_goesPairs_6 : decode cX12_goesPairs 6 = .ok (.getfield 352, 3) := by decide +kernel
theorem dX12_goesPairs_9 : decode cX12_goesPairs 9 = .ok (.if_icmp .lt 19, 3) := by decide +kernel
theorem dX12_goesPairs_12 : decode cX12_goesPairs 12 = .ok (.iload_n 2, 1) := by decide +kernel
theorem dX12_goesPairs_13 : decode cX12_goesPairs 13 = .ok (.aload_n 0, 1) := by decide +kernel
theorem dX12_goesPairs_14 : decode cX12_goesPairs 14 = .ok (.getfield 352, 3) := by decide +kernel
theorem dX12_goesPairs_17 : decode cX12_goesPairs 17 = .ok (.if_icmp .ne 12, 3) := by decide +kernel
theorem dX12_goesPairs_29 : decode cX12_goesPairs 29 = .ok (.aload_n 0, 1) := by decide +kernel
theorem dX12_goesPairs_30 : decode cX12_goesPairs 30 = .ok (.iload_n 2, 1) := by decide +kernel
theorem dX12_goesPairs_31 : decode cX12_goesPairs 31 = .ok (.putfield 352, 3) := by decide +kernel
theorem dX12_goesPairs_34 : decode cX12_goesPairs 34 = .ok (.aload_n 0, 1) := by decide +kernel
theorem dX12_goesPairs_35 : decode cX12_goesPairs 35 = .ok (.iload_n 3, 1) := by decide +kernel
theorem dX12_goesPairs_36 : decode cX12_goesPairs 36 = .ok (.putfield 355, 3) := by decide +kernel
theorem dX12_goesPairs_39 : decode cX12_goesPairs 39 = .ok (.iconst 0, 1) := by decide +kernel
theorem dX12_goesPairs_40 : decode cX12_goesPairs 40 = .ok (.istore 4, 2) := by decide +kernel
theorem dX12_goesPairs_42 : decode cX12_goesPairs 42 = .ok (.iload 4, 2) := by decide +kernel
theorem dX12_goesPairs_44 : decode cX12_goesPairs 44 = .ok (.bipush 10, 2) := by decide +kernel
theorem dX12_goesPairs_46 : decode cX12_goesPairs 46 = .ok (.if_icmp .ge 23, 3) := by decide +kernel
theorem dX12_goesPairs_49 : decode cX12_goesPairs 49 = .ok (.aload_n 0, 1) := by decide +kernel
theorem dX12_goesPairs_50 : decode cX12_goesPairs 50 = .ok (.getfield 51, 3) := by decide +kernel
theorem dX12_goesPairs_53 : decode cX12_goesPairs 53 = .ok (.iload 4, 2) := by decide +kernel
theorem dX12_goesPairs_55 : decode cX12_goesPairs 55 = .ok (.aload_n 0, 1) := by decide +kernel
theorem dX12_goesPairs_56 : decode cX12_goesPairs 56 = .ok (.getfield 48, 3) := by decide +kernel
theorem dX12_goesPairs_59 : decode cX12_goesPairs 59 = .ok (.iload 4, 2) := by decide +kernel
theorem dX12_goesPairs_61 : decode cX12_goesPairs 61 = .ok (.iaload, 1) := by decide +kernel
theorem dX12_goesPairs_62 : decode cX12_goesPairs 62 = .ok (.iastore, 1) := by decide +kernel
theorem dX12_goesPairs_63 : decode cX12_goesPairs 63 = .ok (.iinc 4 1, 3) := by decide +kernel
theorem dX12_goesPairs_66 : decode cX12_goesPairs 66 = .ok (.goto (-24), 3) := by decide +kernel
theorem dX12_goesPairs_69 : decode cX12_goesPairs 69 = .ok (.return_, 1) := by decide +kernel
theorem dX12_hidden_0 : decode cX12_hidden 0 = .ok (.aload_n 0, 1) := by decide +kernel
theorem dX12_hidden_1 : decode cX12_hidden 1 = .ok (.iconst 0, 1) := by decide +kernel
theorem dX12_hidden_2 : decode cX12_hidden 2 = .ok (.putfield 1, 3) := by decide +kernel
theorem dX12_hidden_5 : decode cX12_hidden 5 = .ok (.aload_n 0, 1) := by decide +kernel
theorem dX12_hidden_6 : decode cX12_hidden 6 = .ok (.iload_n 1, 1) := by decide +kernel
theorem dX12_hidden_7 : decode cX12_hidden 7 = .ok (.iload_n 2, 1) := by decide +kernel
theorem dX12_hidden_8 : decode cX12_hidden 8 = .ok (.invokevirtual 408, 3) := by decide +kernel
theorem dX12_hidden_11 : decode cX12_hidden 11 = .ok (.istore_n 3, 1) := by decide +kernel
theorem dX12_hidden_12 : decode cX12_hidden 12 = .ok (.iload_n 3, 1) := by decide +kernel
theorem dX12_hidden_13 : decode cX12_hidden 13 = .ok (.ifCond .eq 7, 3) := by decide +kernel
theorem dX12_hidden_16 : decode cX12_hidden 16 = .ok (.iload_n 3, 1) := by decide +kernel
theorem dX12_hidden_17 : decode cX12_hidden 17 = .ok (.goto 9, 3) := by decide +kernel
theorem dX12_hidden_26 : decode cX12_hidden 26 = .ok (.ireturn, 1) := by decide +kernel
theorem dX12_hiddenAt_0 : decode cX12_hiddenAt 0 = .ok (.aload_n 0, 1) := by decide +kernel
theorem dX12_hiddenAt_1 : decode cX12_hiddenAt 1 = .ok (.iconst 0, 1) := by decide +kernel
theorem dX12_hiddenAt_2 : decode cX12_hiddenAt 2 = .ok (.putfield 1, 3) := by decide +kernel
theorem dX12_hiddenAt_5 : decode cX12_hiddenAt 5 = .ok (.aload_n 0, 1) := by decide +kernel
theorem dX12_hiddenAt_6 : decode cX12_hiddenAt 6 = .ok (.iload_n 1, 1) := by decide +kernel
theorem dX12_hiddenAt_7 : decode cX12_hiddenAt 7 = .ok (.iload_n 2, 1) := by decide +kernel
theorem dX12_hiddenAt_8 : decode cX12_hiddenAt 8 = .ok (.invokevirtual 408, 3) := by decide +kernel
theorem dX12_hiddenAt_11 : decode cX12_hiddenAt 11 = .ok (.istore 4, 2) := by decide +kernel
theorem dX12_hiddenAt_13 : decode cX12_hiddenAt 13 = .ok (.iload 4, 2) := by decide +kernel
theorem dX12_hiddenAt_15 : decode cX12_hiddenAt 15 = .ok (.ifCond .eq 6, 3) := by decide +kernel
theorem dX12_hiddenAt_18 : decode cX12_hiddenAt 18 = .ok (.iload 4, 2) := by decide +kernel
theorem dX12_hiddenAt_20 : decode cX12_hiddenAt 20 = .ok (.ireturn, 1) := by decide +kernel
theorem dX12_house_0 : decode cX12_house 0 = .ok (.aload_n 0, 1) := by decide +kernel
theorem dX12_house_1 : decode cX12_house 1 = .ok (.iconst 0, 1) := by decide +kernel
theorem dX12_house_2 : decode cX12_house 2 = .ok (.putfield 1, 3) := by decide +kernel
theorem dX12_house_5 : decode cX12_house 5 = .ok (.iload_n 1, 1) := by decide +kernel
theorem dX12_house_6 : decode cX12_house 6 = .ok (.i2l, 1) := by decide +kernel
theorem dX12_house_7 : decode cX12_house 7 = .ok (.lconst 0, 1) := by decide +kernel
theorem dX12_house_8 : decode cX12_house 8 = .ok (.aload_n 0, 1) := by decide +kernel
theorem dX12_house_9 : decode cX12_house 9 = .ok (.getfield 83, 3) := by decide +kernel
theorem dX12_house_12 : decode cX12_house 12 = .ok (.i2l, 1) := by decide +kernel
theorem dX12_house_13 : decode cX12_house 13 = .ok (.invokestatic 145, 3) := by decide +kernel
theorem dX12_house_16 : decode cX12_house 16 = .ok (.ifCond .ne 6, 3) := by decide +kernel
theorem dX12_house_19 : decode cX12_house 19 = .ok (.bipush (-3), 2) := by decide +kernel
theorem dX12_house_21 : decode cX12_house 21 = .ok (.ireturn, 1) := by decide +kernel
theorem dX12_house_22 : decode cX12_house 22 = .ok (.aload_n 0, 1) := by decide +kernel
theorem dX12_house_23 : decode cX12_house 23 = .ok (.iload_n 1, 1) := by decide +kernel
theorem dX12_house_24 : decode cX12_house 24 = .ok (.putfield 86, 3) := by decide +kernel
theorem dX12_house_27 : decode cX12_house 27 = .ok (.aload_n 0, 1) := by decide +kernel
theorem dX12_house_28 : decode cX12_house 28 = .ok (.iconst 0, 1) := by decide +kernel
theorem dX12_house_29 : decode cX12_house 29 = .ok (.putfield 83, 3) := by decide +kernel
theorem dX12_house_32 : decode cX12_house 32 = .ok (.aload_n 0, 1) := by decide +kernel
theorem dX12_house_33 : decode cX12_house 33 = .ok (.iconst 0, 1) := by decide +kernel
theorem dX12_house_34 : decode cX12_house 34 = .ok (.putfield 104, 3) := by decide +kernel
theorem dX12_house_37 : decode cX12_house 37 = .ok (.aload_n 0, 1) := by decide +kernel
theorem dX12_house_38 : decode cX12_house 38 = .ok (.iconst 0, 1) := by decide +kernel
theorem dX12_house_39 : decode cX12_house 39 = .ok (.putfield 129, 3) := by decide +kernel
theorem dX12_house_42 : decode cX12_house 42 = .ok (.aload_n 0, 1) := by decide +kernel
theorem dX12_house_43 : decode cX12_house 43 = .ok (.getfield 24, 3) := by decide +kernel
theorem dX12_house_46 : decode cX12_house 46 = .ok (.invokestatic 79, 3) := by decide +kernel
theorem dX12_house_49 : decode cX12_house 49 = .ok (.aload_n 0, 1) := by decide +kernel
theorem dX12_house_50 : decode cX12_house 50 = .ok (.invokevirtual 138, 3) := by decide +kernel
theorem dX12_house_53 : decode cX12_house 53 = .ok (.aload_n 0, 1) := by decide +kernel
theorem dX12_house_54 : decode cX12_house 54 = .ok (.iconst 0, 1) := by decide +kernel
theorem dX12_house_55 : decode cX12_house 55 = .ok (.invokevirtual 172, 3) := by decide +kernel
theorem dX12_house_58 : decode cX12_house 58 = .ok (.ifCond .ne 8, 3) := by decide +kernel
theorem dX12_house_61 : decode cX12_house 61 = .ok (.aload_n 0, 1) := by decide +kernel
theorem dX12_house_62 : decode cX12_house 62 = .ok (.iconst 2, 1) := by decide +kernel
theorem dX12_house_63 : decode cX12_house 63 = .ok (.invokevirtual 141, 3) := by decide +kernel
theorem dX12_house_66 : decode cX12_house 66 = .ok (.aload_n 0, 1) := by decide +kernel
theorem dX12_house_67 : decode cX12_house 67 = .ok (.iconst 1, 1) := by decide +kernel
theorem dX12_house_68 : decode cX12_house 68 = .ok (.invokevirtual 172, 3) := by decide +kernel
theorem dX12_house_71 : decode cX12_house 71 = .ok (.ifCond .ne 8, 3) := by decide +kernel
theorem dX12_house_74 : decode cX12_house 74 = .ok (.aload_n 0, 1) := by decide +kernel
theorem dX12_house_75 : decode cX12_house 75 = .ok (.iconst 2, 1) := by decide +kernel
theorem dX12_house_76 : decode cX12_house 76 = .ok (.invokevirtual 141, 3) := by decide +kernel
theorem dX12_house_79 : decode cX12_house 79 = .ok (.aload_n 0, 1) := by decide +kernel
theorem dX12_house_80 : decode cX12_house 80 = .ok (.getfield 24, 3) := by decide +kernel
theorem dX12_house_83 : decode cX12_house 83 = .ok (.iconst 1, 1) := by decide +kernel
theorem dX12_house_84 : decode cX12_house 84 = .ok (.aload_n 0, 1) := by decide +kernel
theorem dX12_house_85 : decode cX12_house 85 = .ok (.iconst 1, 1) := by decide +kernel
theorem dX12_house_86 : decode cX12_house 86 = .ok (.iconst 3, 1) := by decide +kernel
theorem dX12_house_87 : decode cX12_house 87 = .ok (.invokevirtual 190, 3) := by decide +kernel
theorem dX12_house_90 : decode cX12_house 90 = .ok (.iastore, 1) := by decide +kernel
theorem dX12_house_91 : decode cX12_house 91 = .ok (.aload_n 0, 1) := by decide +kernel
theorem dX12_house_92 : decode cX12_house 92 = .ok (.invokevirtual 208, 3) := by decide +kernel
theorem dX12_house_95 : decode cX12_house 95 = .ok (.aload_n 0, 1) := by decide +kernel
theorem dX12_house_96 : decode cX12_house 96 = .ok (.getfield 129, 3) := by decide +kernel
theorem dX12_house_99 : decode cX12_house 99 = .ok (.ifCond .ne 23, 3) := by decide +kernel
theorem dX12_house_122 : decode cX12_house 122 = .ok (.aload_n 0, 1) := by decide +kernel
theorem dX12_house_123 : decode cX12_house 123 = .ok (.aload_n 0, 1) := by decide +kernel
theorem dX12_house_124 : decode cX12_house 124 = .ok (.getfield 129, 3) := by decide +kernel
theorem dX12_house_127 : decode cX12_house 127 = .ok (.putfield 214, 3) := by decide +kernel
theorem dX12_house_130 : decode cX12_house 130 = .ok (.aload_n 0, 1) := by decide +kernel
theorem dX12_house_131 : decode cX12_house 131 = .ok (.aload_n 0, 1) := by decide +kernel
theorem dX12_house_132 : decode cX12_house 132 = .ok (.getfield 129, 3) := by decide +kernel
theorem dX12_house_135 : decode cX12_house 135 = .ok (.ifCond .ne 7, 3) := by decide +kernel
theorem dX12_house_142 : decode cX12_house 142 = .ok (.aload_n 0, 1) := by decide +kernel
theorem dX12_house_143 : decode cX12_house 143 = .ok (.getfield 132, 3) := by decide +kernel
theorem dX12_house_146 : decode cX12_house 146 = .ok (.putfield 27, 3) := by decide +kernel
theorem dX12_house_149 : decode cX12_house 149 = .ok (.aload_n 0, 1) := by decide +kernel
theorem dX12_house_150 : decode cX12_house 150 = .ok (.getfield 129, 3) := by decide +kernel
theorem dX12_house_153 : decode cX12_house 153 = .ok (.ifCond .eq 11, 3) := by decide +kernel
theorem dX12_house_156 : decode cX12_house 156 = .ok (.bipush (-30), 2) := by decide +kernel
theorem dX12_house_158 : decode cX12_house 158 = .ok (.aload_n 0, 1) := by decide +kernel
theorem dX12_house_159 : decode cX12_house 159 = .ok (.getfield 129, 3) := by decide +kernel
theorem dX12_house_162 : decode cX12_house 162 = .ok (.isub, 1) := by decide +kernel
theorem dX12_house_163 : decode cX12_house 163 = .ok (.ireturn, 1) := by decide +kernel
theorem dX12_image_0 : decode cX12_image 0 = .ok (.aload_n 0, 1) := by decide +kernel
theorem dX12_image_1 : decode cX12_image 1 = .ok (.iconst 0, 1) := by decide +kernel
theorem dX12_image_2 : decode cX12_image 2 = .ok (.putfield 1, 3) := by decide +kernel
theorem dX12_image_5 : decode cX12_image 5 = .ok (.iload_n 1, 1) := by decide +kernel
theorem dX12_image_6 : decode cX12_image 6 = .ok (.i2l, 1) := by decide +kernel
theorem dX12_image_7 : decode cX12_image 7 = .ok (.lconst 0, 1) := by decide +kernel
theorem dX12_image_8 : decode cX12_image 8 = .ok (.lconst 1, 1) := by decide +kernel
theorem dX12_image_9 : decode cX12_image 9 = .ok (.invokestatic 145, 3) := by decide +kernel
theorem dX12_image_12 : decode cX12_image 12 = .ok (.ifCond .ne 6, 3) := by decide +kernel
theorem dX12_image_15 : decode cX12_image 15 = .ok (.bipush (-2), 2) := by decide +kernel
theorem dX12_image_17 : decode cX12_image 17 = .ok (.ireturn, 1) := by decide +kernel
theorem dX12_image_18 : decode cX12_image 18 = .ok (.iconst 0, 1) := by decide +kernel
theorem dX12_image_19 : decode cX12_image 19 = .ok (.istore_n 2, 1) := by decide +kernel
theorem dX12_image_20 : decode cX12_image 20 = .ok (.iload_n 2, 1) := by decide +kernel
theorem dX12_image_21 : decode cX12_image 21 = .ok (.sipush 1306, 3) := by decide +kernel
theorem dX12_image_24 : decode cX12_image 24 = .ok (.if_icmp .ge 29, 3) := by decide +kernel
theorem dX12_image_27 : decode cX12_image 27 = .ok (.aload_n 0, 1) := by decide +kernel
theorem dX12_image_28 : decode cX12_image 28 = .ok (.getfield 13, 3) := by decide +kernel
theorem dX12_image_31 : decode cX12_image 31 = .ok (.sipush 1306, 3) := by decide +kernel
theorem dX12_image_34 : decode cX12_image 34 = .ok (.iload_n 1, 1) := by decide +kernel
theorem dX12_image_35 : decode cX12_image 35 = .ok (.iconst 1, 1) := by decide +kernel
theorem dX12_image_36 : decode cX12_image 36 = .ok (.iadd, 1) := by decide +kernel
theorem dX12_image_37 : decode cX12_image 37 = .ok (.imul, 1) := by decide +kernel
theorem dX12_image_38 : decode cX12_image 38 = .ok (.iload_n 2, 1) := by decide +kernel
theorem dX12_image_39 : decode cX12_image 39 = .ok (.iadd, 1) := by decide +kernel
theorem dX12_image_40 : decode cX12_image 40 = .ok (.aload_n 0, 1) := by decide +kernel
theorem dX12_image_41 : decode cX12_image 41 = .ok (.getfield 13, 3) := by decide +kernel
theorem dX12_image_44 : decode cX12_image 44 = .ok (.iload_n 2, 1) := by decide +kernel
theorem dX12_image_45 : decode cX12_image 45 = .ok (.iaload, 1) := by decide +kernel
theorem dX12_image_46 : decode cX12_image 46 = .ok (.iastore, 1) := by decide +kernel
theorem dX12_image_47 : decode cX12_image 47 = .ok (.iinc 2 1, 3) := by decide +kernel
theorem dX12_image_50 : decode cX12_image 50 = .ok (.goto (-30), 3) := by decide +kernel
theorem dX12_image_53 : decode cX12_image 53 = .ok (.aload_n 0, 1) := by decide +kernel
theorem dX12_image_54 : decode cX12_image 54 = .ok (.getfield 17, 3) := by decide +kernel
theorem dX12_image_57 : decode cX12_image 57 = .ok (.iload_n 1, 1) := by decide +kernel
theorem dX12_image_58 : decode cX12_image 58 = .ok (.iconst 1, 1) := by decide +kernel
theorem dX12_image_59 : decode cX12_image 59 = .ok (.bastore, 1) := by decide +kernel
theorem dX12_image_60 : decode cX12_image 60 = .ok (.iconst 0, 1) := by decide +kernel
theorem dX12_image_61 : decode cX12_image 61 = .ok (.ireturn, 1) := by decide +kernel
theorem dX12_init_0 : decode cX12_init 0 = .ok (.aload_n 0, 1) := by decide +kernel
theorem dX12_init_1 : decode cX12_init 1 = .ok (.invokespecial 7, 3) := by decide +kernel
theorem dX12_init_4 : decode cX12_init 4 = .ok (.aload_n 0, 1) := by decide +kernel
theorem dX12_init_5 : decode cX12_init 5 = .ok (.sipush 3918, 3) := by decide +kernel
theorem dX12_init_8 : decode cX12_init 8 = .ok (.newarray .int, 2) := by decide +kernel
theorem dX12_init_10 : decode cX12_init 10 = .ok (.putfield 13, 3) := by decide +kernel
theorem dX12_init_13 : decode cX12_init 13 = .ok (.aload_n 0, 1) := by decide +kernel
theorem dX12_init_14 : decode cX12_init 14 = .ok (.iconst 2, 1) := by decide +kernel
theorem dX12_init_15 : decode cX12_init 15 = .ok (.newarray .boolean, 2) := by decide +kernel
theorem dX12_init_17 : decode cX12_init 17 = .ok (.putfield 17, 3) := by decide +kernel
theorem dX12_init_20 : decode cX12_init 20 = .ok (.aload_n 0, 1) := by decide +kernel
theorem dX12_init_21 : decode cX12_init 21 = .ok (.sipush 900, 3) := by decide +kernel
theorem dX12_init_24 : decode cX12_init 24 = .ok (.newarray .int, 2) := by decide +kernel
theorem dX12_init_26 : decode cX12_init 26 = .ok (.putfield 21, 3) := by decide +kernel
theorem dX12_init_29 : decode cX12_init 29 = .ok (.aload_n 0, 1) := by decide +kernel
theorem dX12_init_30 : decode cX12_init 30 = .ok (.sipush 1306, 3) := by decide +kernel
theorem dX12_init_33 : decode cX12_init 33 = .ok (.newarray .int, 2) := by decide +kernel
theorem dX12_init_35 : decode cX12_init 35 = .ok (.putfield 24, 3) := by decide +kernel
theorem dX12_init_38 : decode cX12_init 38 = .ok (.aload_n 0, 1) := by decide +kernel
theorem dX12_init_39 : decode cX12_init 39 = .ok (.iconst (-1), 1) := by decide +kernel
theorem dX12_init_40 : decode cX12_init 40 = .ok (.putfield 27, 3) := by decide +kernel
theorem dX12_init_43 : decode cX12_init 43 = .ok (.aload_n 0, 1) := by decide +kernel
theorem dX12_init_44 : decode cX12_init 44 = .ok (.sipush 900, 3) := by decide +kernel
theorem dX12_init_47 : decode cX12_init 47 = .ok (.newarray .int, 2) := by decide +kernel
theorem dX12_init_49 : decode cX12_init 49 = .ok (.putfield 30, 3) := by decide +kernel
theorem dX12_init_52 : decode cX12_init 52 = .ok (.aload_n 0, 1) := by decide +kernel
theorem dX12_init_53 : decode cX12_init 53 = .ok (.bipush 11, 2) := by decide +kernel
theorem dX12_init_55 : decode cX12_init 55 = .ok (.newarray .int, 2) := by decide +kernel
theorem dX12_init_57 : decode cX12_init 57 = .ok (.putfield 33, 3) := by decide +kernel
theorem dX12_init_60 : decode cX12_init 60 = .ok (.aload_n 0, 1) := by decide +kernel
theorem dX12_init_61 : decode cX12_init 61 = .ok (.iconst 3, 1) := by decide +kernel
theorem dX12_init_62 : decode cX12_init 62 = .ok (.newarray .int, 2) := by decide +kernel
theorem dX12_init_64 : decode cX12_init 64 = .ok (.putfield 36, 3) := by decide +kernel
theorem dX12_init_67 : decode cX12_init 67 = .ok (.aload_n 0, 1) := by decide +kernel
theorem dX12_init_68 : decode cX12_init 68 = .ok (.bipush 10, 2) := by decide +kernel
theorem dX12_init_70 : decode cX12_init 70 = .ok (.newarray .int, 2) := by decide +kernel
theorem dX12_init_72 : decode cX12_init 72 = .ok (.putfield 39, 3) := by decide +kernel
theorem dX12_init_75 : decode cX12_init 75 = .ok (.aload_n 0, 1) := by decide +kernel
theorem dX12_init_76 : decode cX12_init 76 = .ok (.bipush 32, 2) := by decide +kernel
theorem dX12_init_78 : decode cX12_init 78 = .ok (.newarray .int, 2) := by decide +kernel
theorem dX12_init_80 : decode cX12_init 80 = .ok (.putfield 42, 3) := by decide +kernel
theorem dX12_init_83 : decode cX12_init 83 = .ok (.aload_n 0, 1) := by decide +kernel
theorem dX12_init_84 : decode cX12_init 84 = .ok (.sipush 1024, 3) := by decide +kernel
theorem dX12_init_87 : decode cX12_init 87 = .ok (.newarray .int, 2) := by decide +kernel
theorem dX12_init_89 : decode cX12_init 89 = .ok (.putfield 45, 3) := by decide +kernel
theorem dX12_init_92 : decode cX12_init 92 = .ok (.aload_n 0, 1) := by decide +kernel
theorem dX12_init_93 : decode cX12_init 93 = .ok (.bipush 10, 2) := by decide +kernel
theorem dX12_init_95 : decode cX12_init 95 = .ok (.newarray .int, 2) := by decide +kernel
theorem dX12_init_97 : decode cX12_init 97 = .ok (.putfield 48, 3) := by decide +kernel
theorem dX12_init_100 : decode cX12_init 100 = .ok (.aload_n 0, 1) := by decide +kernel
theorem dX12_init_101 : decode cX12_init 101 = .ok (.bipush 10, 2) := by decide +kernel
theorem dX12_init_103 : decode cX12_init 103 = .ok (.newarray .int, 2) := by decide +kernel
theorem dX12_init_105 : decode cX12_init 105 = .ok (.putfield 51, 3) := by decide +kernel
theorem dX12_init_108 : decode cX12_init 108 = .ok (.aload_n 0, 1) := by decide +kernel
theorem dX12_init_109 : decode cX12_init 109 = .ok (.sipush 1000, 3) := by decide +kernel
theorem dX12_init_112 : decode cX12_init 112 = .ok (.newarray .int, 2) := by decide +kernel
theorem dX12_init_114 : decode cX12_init 114 = .ok (.putfield 54, 3) := by decide +kernel
theorem dX12_init_117 : decode cX12_init 117 = .ok (.aload_n 0, 1) := by decide +kernel
theorem dX12_init_118 : decode cX12_init 118 = .ok (.sipush 1000, 3) := by decide +kernel
theorem dX12_init_121 : decode cX12_init 121 = .ok (.newarray .int, 2) := by decide +kernel
theorem dX12_init_123 : decode cX12_init 123 = .ok (.putfield 57, 3) := by decide +kernel
theorem dX12_init_126 : decode cX12_init 126 = .ok (.aload_n 0, 1) := by decide +kernel
theorem dX12_init_127 : decode cX12_init 127 = .ok (.sipush 1000, 3) := by decide +kernel
theorem dX12_init_130 : decode cX12_init 130 = .ok (.newarray .int, 2) := by decide +kernel
theorem dX12_init_132 : decode cX12_init 132 = .ok (.putfield 60, 3) := by decide +kernel
theorem dX12_init_135 : decode cX12_init 135 = .ok (.aload_n 0, 1) := by decide +kernel
theorem dX12_init_136 : decode cX12_init 136 = .ok (.sipush 1000, 3) := by decide +kernel
theorem dX12_init_139 : decode cX12_init 139 = .ok (.newarray .int, 2) := by decide +kernel
theorem dX12_init_141 : decode cX12_init 141 = .ok (.putfield 63, 3) := by decide +kernel
theorem dX12_init_144 : decode cX12_init 144 = .ok (.aload_n 0, 1) := by decide +kernel
theorem dX12_init_145 : decode cX12_init 145 = .ok (.sipush 1000, 3) := by decide +kernel
theorem dX12_init_148 : decode cX12_init 148 = .ok (.newarray .boolean, 2) := by decide +kernel
theorem dX12_init_150 : decode cX12_init 150 = .ok (.putfield 66, 3) := by decide +kernel
theorem dX12_init_153 : decode cX12_init 153 = .ok (.aload_n 0, 1) := by decide +kernel
theorem dX12_init_154 : decode cX12_init 154 = .ok (.iconst 4, 1) := by decide +kernel
theorem dX12_init_155 : decode cX12_init 155 = .ok (.newarray .int, 2) := by decide +kernel
theorem dX12_init_157 : decode cX12_init 157 = .ok (.dup, 1) := by decide +kernel
theorem dX12_init_158 : decode cX12_init 158 = .ok (.iconst 0, 1) := by decide +kernel
theorem dX12_init_159 : decode cX12_init 159 = .ok (.iconst (-1), 1) := by decide +kernel
theorem dX12_init_160 : decode cX12_init 160 = .ok (.iastore, 1) := by decide +kernel
theorem dX12_init_161 : decode cX12_init 161 = .ok (.dup, 1) := by decide +kernel
theorem dX12_init_162 : decode cX12_init 162 = .ok (.iconst 1, 1) := by decide +kernel
theorem dX12_init_163 : decode cX12_init 163 = .ok (.iconst (-1), 1) := by decide +kernel
theorem dX12_init_164 : decode cX12_init 164 = .ok (.iastore, 1) := by decide +kernel
theorem dX12_init_165 : decode cX12_init 165 = .ok (.dup, 1) := by decide +kernel
theorem dX12_init_166 : decode cX12_init 166 = .ok (.iconst 2, 1) := by decide +kernel
theorem dX12_init_167 : decode cX12_init 167 = .ok (.iconst (-1), 1) := by decide +kernel
theorem dX12_init_168 : decode cX12_init 168 = .ok (.iastore, 1) := by decide +kernel
theorem dX12_init_169 : decode cX12_init 169 = .ok (.dup, 1) := by decide +kernel
theorem dX12_init_170 : decode cX12_init 170 = .ok (.iconst 3, 1) := by decide +kernel
theorem dX12_init_171 : decode cX12_init 171 = .ok (.iconst (-1), 1) := by decide +kernel
theorem dX12_init_172 : decode cX12_init 172 = .ok (.iastore, 1) := by decide +kernel
theorem dX12_init_173 : decode cX12_init 173 = .ok (.putfield 69, 3) := by decide +kernel
theorem dX12_init_176 : decode cX12_init 176 = .ok (.aload_n 0, 1) := by decide +kernel
theorem dX12_init_177 : decode cX12_init 177 = .ok (.iconst 4, 1) := by decide +kernel
theorem dX12_init_178 : decode cX12_init 178 = .ok (.newarray .int, 2) := by decide +kernel
theorem dX12_init_180 : decode cX12_init 180 = .ok (.putfield 72, 3) := by decide +kernel
theorem dX12_init_183 : decode cX12_init 183 = .ok (.aload_n 0, 1) := by decide +kernel
theorem dX12_init_184 : decode cX12_init 184 = .ok (.sipush 160, 3) := by decide +kernel
theorem dX12_init_187 : decode cX12_init 187 = .ok (.newarray .long, 2) := by decide +kernel
theorem dX12_init_189 : decode cX12_init 189 = .ok (.putfield 75, 3) := by decide +kernel
theorem dX12_init_192 : decode cX12_init 192 = .ok (.aload_n 0, 1) := by decide +kernel
theorem dX12_init_193 : decode cX12_init 193 = .ok (.getfield 13, 3) := by decide +kernel
theorem dX12_init_196 : decode cX12_init 196 = .ok (.invokestatic 79, 3) := by decide +kernel
theorem dX12_init_199 : decode cX12_init 199 = .ok (.return_, 1) := by decide +kernel
theorem dX12_is_0 : decode cX12_is 0 = .ok (.aload_n 0, 1) := by decide +kernel
theorem dX12_is_1 : decode cX12_is 1 = .ok (.getfield 129, 3) := by decide +kernel
theorem dX12_is_4 : decode cX12_is 4 = .ok (.ifCond .ne 15, 3) := by decide +kernel
theorem dX12_is_7 : decode cX12_is 7 = .ok (.aload_n 0, 1) := by decide +kernel
theorem dX12_is_8 : decode cX12_is 8 = .ok (.getfield 111, 3) := by decide +kernel
theorem dX12_is_11 : decode cX12_is 11 = .ok (.iload_n 1, 1) := by decide +kernel
theorem dX12_is_12 : decode cX12_is 12 = .ok (.if_icmp .ne 7, 3) := by decide +kernel
theorem dX12_is_19 : decode cX12_is 19 = .ok (.iconst 0, 1) := by decide +kernel
theorem dX12_is_20 : decode cX12_is 20 = .ok (.ireturn, 1) := by decide +kernel
theorem dX12_isBill_0 : decode cX12_isBill 0 = .ok (.iload_n 0, 1) := by decide +kernel
theorem dX12_isBill_1 : decode cX12_isBill 1 = .ok (.i2l, 1) := by decide +kernel
theorem dX12_isBill_2 : decode cX12_isBill 2 = .ok (.lconst 0, 1) := by decide +kernel
theorem dX12_isBill_3 : decode cX12_isBill 3 = .ok (.ldc2_w 203, 3) := by decide +kernel
theorem dX12_isBill_6 : decode cX12_isBill 6 = .ok (.invokestatic 145, 3) := by decide +kernel
theorem dX12_isBill_9 : decode cX12_isBill 9 = .ok (.ireturn, 1) := by decide +kernel
theorem dX12_isCovered_0 : decode cX12_isCovered 0 = .ok (.iconst 0, 1) := by decide +kernel
theorem dX12_isCovered_1 : decode cX12_isCovered 1 = .ok (.istore_n 3, 1) := by decide +kernel
theorem dX12_isCovered_2 : decode cX12_isCovered 2 = .ok (.iload_n 3, 1) := by decide +kernel
theorem dX12_isCovered_3 : decode cX12_isCovered 3 = .ok (.aload_n 0, 1) := by decide +kernel
theorem dX12_isCovered_4 : decode cX12_isCovered 4 = .ok (.getfield 13, 3) := by decide +kernel
theorem dX12_isCovered_7 : decode cX12_isCovered 7 = .ok (.iconst 2, 1) := by decide +kernel
theorem dX12_isCovered_8 : decode cX12_isCovered 8 = .ok (.iaload, 1) := by decide +kernel
theorem dX12_isCovered_9 : decode cX12_isCovered 9 = .ok (.if_icmp .ge 31, 3) := by decide +kernel
theorem dX12_isCovered_40 : decode cX12_isCovered 40 = .ok (.iconst 1, 1) := by decide +kernel
theorem dX12_isCovered_41 : decode cX12_isCovered 41 = .ok (.ireturn, 1) := by decide +kernel
theorem dX12_isPerson_0 : decode cX12_isPerson 0 = .ok (.lload_n 1, 1) := by decide +kernel
theorem dX12_isPerson_1 : decode cX12_isPerson 1 = .ok (.lconst 0, 1) := by decide +kernel
theorem dX12_isPerson_2 : decode cX12_isPerson 2 = .ok (.aload_n 0, 1) := by decide +kernel
theorem dX12_isPerson_3 : decode cX12_isPerson 3 = .ok (.getfield 13, 3) := by decide +kernel
theorem dX12_isPerson_6 : decode cX12_isPerson 6 = .ok (.iconst 2, 1) := by decide +kernel
theorem dX12_isPerson_7 : decode cX12_isPerson 7 = .ok (.iaload, 1) := by decide +kernel
theorem dX12_isPerson_8 : decode cX12_isPerson 8 = .ok (.iconst 1, 1) := by decide +kernel
theorem dX12_isPerson_9 : decode cX12_isPerson 9 = .ok (.isub, 1) := by decide +kernel
theorem dX12_isPerson_10 : decode cX12_isPerson 10 = .ok (.i2l, 1) := by decide +kernel
theorem dX12_isPerson_11 : decode cX12_isPerson 11 = .ok (.invokestatic 145, 3) := by decide +kernel
theorem dX12_isPerson_14 : decode cX12_isPerson 14 = .ok (.ireturn, 1) := by decide +kernel
theorem dX12_isSet_0 : decode cX12_isSet 0 = .ok (.iload_n 1, 1) := by decide +kernel
theorem dX12_isSet_1 : decode cX12_isSet 1 = .ok (.aload_n 0, 1) := by decide +kernel
theorem dX12_isSet_2 : decode cX12_isSet 2 = .ok (.invokevirtual 217, 3) := by decide +kernel
theorem dX12_isSet_5 : decode cX12_isSet 5 = .ok (.iconst (-1), 1) := by decide +kernel
theorem dX12_isSet_6 : decode cX12_isSet 6 = .ok (.ixor, 1) := by decide +kernel
theorem dX12_isSet_7 : decode cX12_isSet 7 = .ok (.iand, 1) := by decide +kernel
theorem dX12_isSet_8 : decode cX12_isSet 8 = .ok (.ifCond .ne 7, 3) := by decide +kernel
theorem dX12_isSet_11 : decode cX12_isSet 11 = .ok (.iconst 1, 1) := by decide +kernel
theorem dX12_isSet_12 : decode cX12_isSet 12 = .ok (.goto 4, 3) := by decide +kernel
theorem dX12_isSet_15 : decode cX12_isSet 15 = .ok (.iconst 0, 1) := by decide +kernel
theorem dX12_isSet_16 : decode cX12_isSet 16 = .ok (.ireturn, 1) := by decide +kernel
theorem dX12_judge_0 : decode cX12_judge 0 = .ok (.aload_n 0, 1) := by decide +kernel
theorem dX12_judge_1 : decode cX12_judge 1 = .ok (.iconst 0, 1) := by decide +kernel
theorem dX12_judge_2 : decode cX12_judge 2 = .ok (.putfield 1, 3) := by decide +kernel
theorem dX12_judge_5 : decode cX12_judge 5 = .ok (.iload_n 2, 1) := by decide +kernel
theorem dX12_judge_6 : decode cX12_judge 6 = .ok (.i2l, 1) := by decide +kernel
theorem dX12_judge_7 : decode cX12_judge 7 = .ok (.lconst 0, 1) := by decide +kernel
theorem dX12_judge_8 : decode cX12_judge 8 = .ok (.ldc2_w 311, 3) := by decide +kernel
theorem dX12_judge_11 : decode cX12_judge 11 = .ok (.invokestatic 145, 3) := by decide +kernel
theorem dX12_judge_14 : decode cX12_judge 14 = .ok (.ifCond .ne 6, 3) := by decide +kernel
theorem dX12_judge_17 : decode cX12_judge 17 = .ok (.bipush (-2), 2) := by decide +kernel
theorem dX12_judge_19 : decode cX12_judge 19 = .ok (.ireturn, 1) := by decide +kernel
theorem dX12_judge_20 : decode cX12_judge 20 = .ok (.aload_n 0, 1) := by decide +kernel
theorem dX12_judge_21 : decode cX12_judge 21 = .ok (.iload_n 1, 1) := by decide +kernel
theorem dX12_judge_22 : decode cX12_judge 22 = .ok (.invokevirtual 313, 3) := by decide +kernel
theorem dX12_judge_25 : decode cX12_judge 25 = .ok (.istore_n 3, 1) := by decide +kernel
theorem dX12_judge_26 : decode cX12_judge 26 = .ok (.iload_n 3, 1) := by decide +kernel
theorem dX12_judge_27 : decode cX12_judge 27 = .ok (.ifCond .eq 5, 3) := by decide +kernel
theorem dX12_judge_30 : decode cX12_judge 30 = .ok (.iload_n 3, 1) := by decide +kernel
theorem dX12_judge_31 : decode cX12_judge 31 = .ok (.ireturn, 1) := by decide +kernel
theorem dX12_keeps_0 : decode cX12_keeps 0 = .ok (.iconst 0, 1) := by decide +kernel
theorem dX12_keeps_1 : decode cX12_keeps 1 = .ok (.istore_n 1, 1) := by decide +kernel
theorem dX12_keeps_2 : decode cX12_keeps 2 = .ok (.iload_n 1, 1) := by decide +kernel
theorem dX12_keeps_3 : decode cX12_keeps 3 = .ok (.bipush 32, 2) := by decide +kernel
theorem dX12_keeps_5 : decode cX12_keeps 5 = .ok (.if_icmp .ge 24, 3) := by decide +kernel
theorem dX12_keeps_8 : decode cX12_keeps 8 = .ok (.aload_n 0, 1) := by decide +kernel
theorem dX12_keeps_9 : decode cX12_keeps 9 = .ok (.getfield 42, 3) := by decide +kernel
theorem dX12_keeps_12 : decode cX12_keeps 12 = .ok (.iload_n 1, 1) := by decide +kernel
theorem dX12_keeps_13 : decode cX12_keeps 13 = .ok (.aload_n 0, 1) := by decide +kernel
theorem dX12_keeps_14 : decode cX12_keeps 14 = .ok (.getfield 13, 3) := by decide +kernel
theorem dX12_keeps_17 : decode cX12_keeps 17 = .ok (.bipush 52, 2) := by decide +kernel
theorem dX12_keeps_19 : decode cX12_keeps 19 = .ok (.iload_n 1, 1) := by decide +kernel
theorem dX12_keeps_20 : decode cX12_keeps 20 = .ok (.iadd, 1) := by decide +kernel
theorem dX12_keeps_21 : decode cX12_keeps 21 = .ok (.iaload, 1) := by decide +kernel
theorem dX12_keeps_22 : decode cX12_keeps 22 = .ok (.iastore, 1) := by decide +kernel
theorem dX12_keeps_23 : decode cX12_keeps 23 = .ok (.iinc 1 1, 3) := by decide +kernel
theorem dX12_keeps_26 : decode cX12_keeps 26 = .ok (.goto (-24), 3) := by decide +kernel
theorem dX12_keeps_29 : decode cX12_keeps 29 = .ok (.return_, 1) := by decide +kernel
theorem dX12_laundress_0 : decode cX12_laundress 0 = .ok (.aload_n 0, 1) := by decide +kernel
theorem dX12_laundress_1 : decode cX12_laundress 1 = .ok (.iconst 0, 1) := by decide +kernel
theorem dX12_laundress_2 : decode cX12_laundress 2 = .ok (.putfield 1, 3) := by decide +kernel
theorem dX12_laundress_5 : decode cX12_laundress 5 = .ok (.aload_n 0, 1) := by decide +kernel
theorem dX12_laundress_6 : decode cX12_laundress 6 = .ok (.iload_n 1, 1) := by decide +kernel
theorem dX12_laundress_7 : decode cX12_laundress 7 = .ok (.invokevirtual 349, 3) := by decide +kernel
theorem dX12_laundress_10 : decode cX12_laundress 10 = .ok (.ifCond .ne 6, 3) := by decide +kernel
theorem dX12_laundress_13 : decode cX12_laundress 13 = .ok (.bipush (-3), 2) := by decide +kernel
theorem dX12_laundress_15 : decode cX12_laundress 15 = .ok (.ireturn, 1) := by decide +kernel
theorem dX12_laundress_16 : decode cX12_laundress 16 = .ok (.aload_n 0, 1) := by decide +kernel
theorem dX12_laundress_17 : decode cX12_laundress 17 = .ok (.aload_n 0, 1) := by decide +kernel
theorem dX12_laundress_18 : decode cX12_laundress 18 = .ok (.getfield 13, 3) := by decide +kernel
theorem dX12_laundress_21 : decode cX12_laundress 21 = .ok (.bipush 52, 2) := by decide +kernel
theorem dX12_laundress_23 : decode cX12_laundress 23 = .ok (.iaload, 1) := by decide +kernel
theorem dX12_laundress_24 : decode cX12_laundress 24 = .ok (.invokevirtual 340, 3) := by decide +kernel
theorem dX12_laundress_27 : decode cX12_laundress 27 = .ok (.aload_n 0, 1) := by decide +kernel
theorem dX12_laundress_28 : decode cX12_laundress 28 = .ok (.invokevirtual 255, 3) := by decide +kernel
theorem dX12_laundress_31 : decode cX12_laundress 31 = .ok (.iload_n 1, 1) := by decide +kernel
theorem dX12_laundress_32 : decode cX12_laundress 32 = .ok (.iconst (-1), 1) := by decide +kernel
theorem dX12_laundress_33 : decode cX12_laundress 33 = .ok (.ixor, 1) := by decide +kernel
theorem dX12_laundress_34 : decode cX12_laundress 34 = .ok (.iand, 1) := by decide +kernel
theorem dX12_laundress_35 : decode cX12_laundress 35 = .ok (.istore_n 2, 1) := by decide +kernel
theorem dX12_laundress_36 : decode cX12_laundress 36 = .ok (.iconst (-1), 1) := by decide +kernel
theorem dX12_laundress_37 : decode cX12_laundress 37 = .ok (.istore_n 3, 1) := by decide +kernel
theorem dX12_laundress_38 : decode cX12_laundress 38 = .ok (.iconst 0, 1) := by decide +kernel
theorem dX12_laundress_39 : decode cX12_laundress 39 = .ok (.istore 4, 2) := by decide +kernel
theorem dX12_laundress_41 : decode cX12_laundress 41 = .ok (.iload 4, 2) := by decide +kernel
theorem dX12_laundress_43 : decode cX12_laundress 43 = .ok (.aload_n 0, 1) := by decide +kernel
theorem dX12_laundress_44 : decode cX12_laundress 44 = .ok (.getfield 13, 3) := by decide +kernel
theorem dX12_laundress_47 : decode cX12_laundress 47 = .ok (.iconst 2, 1) := by decide +kernel
theorem dX12_laundress_48 : decode cX12_laundress 48 = .ok (.iaload, 1) := by decide +kernel
theorem dX12_laundress_49 : decode cX12_laundress 49 = .ok (.if_icmp .ge 53, 3) := by decide +kernel
theorem dX12_laundress_102 : decode cX12_laundress 102 = .ok (.iload_n 3, 1) := by decide +kernel
theorem dX12_laundress_103 : decode cX12_laundress 103 = .ok (.ireturn, 1) := by decide +kernel
theorem dX12_laysNow_0 : decode cX12_laysNow 0 = .ok (.aload_n 0, 1) := by decide +kernel
theorem dX12_laysNow_1 : decode cX12_laysNow 1 = .ok (.aload_n 0, 1) := by decide +kernel
theorem dX12_laysNow_2 : decode cX12_laysNow 2 = .ok (.getfield 13, 3) := by decide +kernel
theorem dX12_laysNow_5 : decode cX12_laysNow 5 = .ok (.bipush 52, 2) := by decide +kernel
theorem dX12_laysNow_7 : decode cX12_laysNow 7 = .ok (.iaload, 1) := by decide +kernel
theorem dX12_laysNow_8 : decode cX12_laysNow 8 = .ok (.invokevirtual 340, 3) := by decide +kernel
theorem dX12_laysNow_11 : decode cX12_laysNow 11 = .ok (.aload_n 0, 1) := by decide +kernel
theorem dX12_laysNow_12 : decode cX12_laysNow 12 = .ok (.invokevirtual 343, 3) := by decide +kernel
theorem dX12_laysNow_15 : decode cX12_laysNow 15 = .ok (.return_, 1) := by decide +kernel
theorem dX12_laysOpposed_0 : decode cX12_laysOpposed 0 = .ok (.iconst 0, 1) := by decide +kernel
theorem dX12_laysOpposed_1 : decode cX12_laysOpposed 1 = .ok (.istore_n 2, 1) := by decide +kernel
theorem dX12_laysOpposed_2 : decode cX12_laysOpposed 2 = .ok (.iload_n 2, 1) := by decide +kernel
theorem dX12_laysOpposed_3 : decode cX12_laysOpposed 3 = .ok (.aload_n 0, 1) := by decide +kernel
theorem dX12_laysOpposed_4 : decode cX12_laysOpposed 4 = .ok (.getfield 13, 3) := by decide +kernel
theorem dX12_laysOpposed_7 : decode cX12_laysOpposed 7 = .ok (.iconst 2, 1) := by decide +kernel
theorem dX12_laysOpposed_8 : decode cX12_laysOpposed 8 = .ok (.iaload, 1) := by decide +kernel
theorem dX12_laysOpposed_9 : decode cX12_laysOpposed 9 = .ok (.if_icmp .ge 16, 3) := by decide +kernel
theorem dX12_laysOpposed_25 : decode cX12_laysOpposed 25 = .ok (.iconst 0, 1) := by decide +kernel
theorem dX12_laysOpposed_26 : decode cX12_laysOpposed 26 = .ok (.istore_n 2, 1) := by decide +kernel
theorem dX12_laysOpposed_27 : decode cX12_laysOpposed 27 = .ok (.iload_n 2, 1) := by decide +kernel
theorem dX12_laysOpposed_28 : decode cX12_laysOpposed 28 = .ok (.aload_n 0, 1) := by decide +kernel
theorem dX12_laysOpposed_29 : decode cX12_laysOpposed 29 = .ok (.getfield 13, 3) := by decide +kernel
theorem dX12_laysOpposed_32 : decode cX12_laysOpposed 32 = .ok (.iconst 2, 1) := by decide +kernel
theorem dX12_laysOpposed_33 : decode cX12_laysOpposed 33 = .ok (.iaload, 1) := by decide +kernel
theorem dX12_laysOpposed_34 : decode cX12_laysOpposed 34 = .ok (.if_icmp .ge 59, 3) := by decide +kernel
theorem dX12_laysOpposed_93 : decode cX12_laysOpposed 93 = .ok (.return_, 1) := by decide +kernel
theorem dX12_laysPairs_0 : decode cX12_laysPairs 0 = .ok (.aload_n 0, 1) := by decide +kernel
theorem dX12_laysPairs_1 : decode cX12_laysPairs 1 = .ok (.iconst (-1), 1) := by decide +kernel
theorem dX12_laysPairs_2 : decode cX12_laysPairs 2 = .ok (.putfield 352, 3) := by decide +kernel
theorem dX12_laysPairs_5 : decode cX12_laysPairs 5 = .ok (.aload_n 0, 1) := by decide +kernel
theorem dX12_laysPairs_6 : decode cX12_laysPairs 6 = .ok (.iconst (-1), 1) := by decide +kernel
theorem dX12_laysPairs_7 : decode cX12_laysPairs 7 = .ok (.putfield 355, 3) := by decide +kernel
theorem dX12_laysPairs_10 : decode cX12_laysPairs 10 = .ok (.iconst 0, 1) := by decide +kernel
theorem dX12_laysPairs_11 : decode cX12_laysPairs 11 = .ok (.istore_n 2, 1) := by decide +kernel
theorem dX12_laysPairs_12 : decode cX12_laysPairs 12 = .ok (.iload_n 2, 1) := by decide +kernel
theorem dX12_laysPairs_13 : decode cX12_laysPairs 13 = .ok (.bipush 10, 2) := by decide +kernel
theorem dX12_laysPairs_15 : decode cX12_laysPairs 15 = .ok (.if_icmp .ge 16, 3) := by decide +kernel
theorem dX12_laysPairs_18 : decode cX12_laysPairs 18 = .ok (.aload_n 0, 1) := by decide +kernel
theorem dX12_laysPairs_19 : decode cX12_laysPairs 19 = .ok (.getfield 48, 3) := by decide +kernel
theorem dX12_laysPairs_22 : decode cX12_laysPairs 22 = .ok (.iload_n 2, 1) := by decide +kernel
theorem dX12_laysPairs_23 : decode cX12_laysPairs 23 = .ok (.iconst (-1), 1) := by decide +kernel
theorem dX12_laysPairs_24 : decode cX12_laysPairs 24 = .ok (.iastore, 1) := by decide +kernel
theorem dX12_laysPairs_25 : decode cX12_laysPairs 25 = .ok (.iinc 2 1, 3) := by decide +kernel
theorem dX12_laysPairs_28 : decode cX12_laysPairs 28 = .ok (.goto (-16), 3) := by decide +kernel
theorem dX12_laysPairs_31 : decode cX12_laysPairs 31 = .ok (.aload_n 0, 1) := by decide +kernel
theorem dX12_laysPairs_32 : decode cX12_laysPairs 32 = .ok (.iload_n 1, 1) := by decide +kernel
theorem dX12_laysPairs_33 : decode cX12_laysPairs 33 = .ok (.iconst 0, 1) := by decide +kernel
theorem dX12_laysPairs_34 : decode cX12_laysPairs 34 = .ok (.iconst 0, 1) := by decide +kernel
theorem dX12_laysPairs_35 : decode cX12_laysPairs 35 = .ok (.invokevirtual 358, 3) := by decide +kernel
theorem dX12_laysPairs_38 : decode cX12_laysPairs 38 = .ok (.return_, 1) := by decide +kernel
theorem dX12_laysParted_0 : decode cX12_laysParted 0 = .ok (.aload_n 0, 1) := by decide +kernel
theorem dX12_laysParted_1 : decode cX12_laysParted 1 = .ok (.getfield 45, 3) := by decide +kernel
theorem dX12_laysParted_4 : decode cX12_laysParted 4 = .ok (.iconst 0, 1) := by decide +kernel
theorem dX12_laysParted_5 : decode cX12_laysParted 5 = .ok (.iconst 1, 1) := by decide +kernel
theorem dX12_laysParted_6 : decode cX12_laysParted 6 = .ok (.iastore, 1) := by decide +kernel
theorem dX12_laysParted_7 : decode cX12_laysParted 7 = .ok (.iconst 1, 1) := by decide +kernel
theorem dX12_laysParted_8 : decode cX12_laysParted 8 = .ok (.istore_n 1, 1) := by decide +kernel
theorem dX12_laysParted_9 : decode cX12_laysParted 9 = .ok (.iload_n 1, 1) := by decide +kernel
theorem dX12_laysParted_10 : decode cX12_laysParted 10 = .ok (.iconst 1, 1) := by decide +kernel
theorem dX12_laysParted_11 : decode cX12_laysParted 11 = .ok (.aload_n 0, 1) := by decide +kernel
theorem dX12_laysParted_12 : decode cX12_laysParted 12 = .ok (.getfield 13, 3) := by decide +kernel
theorem dX12_laysParted_15 : decode cX12_laysParted 15 = .ok (.iconst 2, 1) := by decide +kernel
theorem dX12_laysParted_16 : decode cX12_laysParted 16 = .ok (.iaload, 1) := by decide +kernel
theorem dX12_laysParted_17 : decode cX12_laysParted 17 = .ok (.ishl, 1) := by decide +kernel
theorem dX12_laysParted_18 : decode cX12_laysParted 18 = .ok (.if_icmp .ge 84, 3) := by decide +kernel
theorem dX12_laysParted_102 : decode cX12_laysParted 102 = .ok (.return_, 1) := by decide +kernel
theorem dX12_lists_0 : decode cX12_lists 0 = .ok (.aload_n 0, 1) := by decide +kernel
theorem dX12_lists_1 : decode cX12_lists 1 = .ok (.iconst 0, 1) := by decide +kernel
theorem dX12_lists_2 : decode cX12_lists 2 = .ok (.putfield 1, 3) := by decide +kernel
theorem dX12_lists_5 : decode cX12_lists 5 = .ok (.iload_n 1, 1) := by decide +kernel
theorem dX12_lists_6 : decode cX12_lists 6 = .ok (.i2l, 1) := by decide +kernel
theorem dX12_lists_7 : decode cX12_lists 7 = .ok (.lconst 0, 1) := by decide +kernel
theorem dX12_lists_8 : decode cX12_lists 8 = .ok (.ldc2_w 311, 3) := by decide +kernel
theorem dX12_lists_11 : decode cX12_lists 11 = .ok (.invokestatic 145, 3) := by decide +kernel
theorem dX12_lists_14 : decode cX12_lists 14 = .ok (.ifCond .eq 12, 3) := by decide +kernel
theorem dX12_lists_17 : decode cX12_lists 17 = .ok (.aload_n 0, 1) := by decide +kernel
theorem dX12_lists_18 : decode cX12_lists 18 = .ok (.iload_n 2, 1) := by decide +kernel
theorem dX12_lists_19 : decode cX12_lists 19 = .ok (.iload_n 3, 1) := by decide +kernel
theorem dX12_lists_20 : decode cX12_lists 20 = .ok (.invokevirtual 384, 3) := by decide +kernel
theorem dX12_lists_23 : decode cX12_lists 23 = .ok (.ifCond .ne 6, 3) := by decide +kernel
theorem dX12_lists_26 : decode cX12_lists 26 = .ok (.bipush (-2), 2) := by decide +kernel
theorem dX12_lists_28 : decode cX12_lists 28 = .ok (.ireturn, 1) := by decide +kernel
theorem dX12_next_0 : decode cX12_next 0 = .ok (.aload_n 0, 1) := by decide +kernel
theorem dX12_next_1 : decode cX12_next 1 = .ok (.aload_n 0, 1) := by decide +kernel
theorem dX12_next_2 : decode cX12_next 2 = .ok (.getfield 104, 3) := by decide +kernel
theorem dX12_next_5 : decode cX12_next 5 = .ok (.putfield 101, 3) := by decide +kernel
theorem dX12_next_8 : decode cX12_next 8 = .ok (.aload_n 0, 1) := by decide +kernel
theorem dX12_next_9 : decode cX12_next 9 = .ok (.aload_n 0, 1) := by decide +kernel
theorem dX12_next_10 : decode cX12_next 10 = .ok (.getfield 101, 3) := by decide +kernel
theorem dX12_next_13 : decode cX12_next 13 = .ok (.invokevirtual 107, 3) := by decide +kernel
theorem dX12_next_16 : decode cX12_next 16 = .ok (.bipush 10, 2) := by decide +kernel
theorem dX12_next_18 : decode cX12_next 18 = .ok (.if_icmp .eq 16, 3) := by decide +kernel
theorem dX12_next_21 : decode cX12_next 21 = .ok (.aload_n 0, 1) := by decide +kernel
theorem dX12_next_22 : decode cX12_next 22 = .ok (.aload_n 0, 1) := by decide +kernel
theorem dX12_next_23 : decode cX12_next 23 = .ok (.getfield 101, 3) := by decide +kernel
theorem dX12_next_26 : decode cX12_next 26 = .ok (.invokevirtual 107, 3) := by decide +kernel
theorem dX12_next_29 : decode cX12_next 29 = .ok (.bipush 32, 2) := by decide +kernel
theorem dX12_next_31 : decode cX12_next 31 = .ok (.if_icmp .ne 16, 3) := by decide +kernel
theorem dX12_next_47 : decode cX12_next 47 = .ok (.aload_n 0, 1) := by decide +kernel
theorem dX12_next_48 : decode cX12_next 48 = .ok (.aload_n 0, 1) := by decide +kernel
theorem dX12_next_49 : decode cX12_next 49 = .ok (.getfield 101, 3) := by decide +kernel
theorem dX12_next_52 : decode cX12_next 52 = .ok (.putfield 104, 3) := by decide +kernel
theorem dX12_next_55 : decode cX12_next 55 = .ok (.aload_n 0, 1) := by decide +kernel
theorem dX12_next_56 : decode cX12_next 56 = .ok (.getfield 101, 3) := by decide +kernel
theorem dX12_next_59 : decode cX12_next 59 = .ok (.aload_n 0, 1) := by decide +kernel
theorem dX12_next_60 : decode cX12_next 60 = .ok (.getfield 86, 3) := by decide +kernel
theorem dX12_next_63 : decode cX12_next 63 = .ok (.if_icmp .lt 12, 3) := by decide +kernel
theorem dX12_next_66 : decode cX12_next 66 = .ok (.aload_n 0, 1) := by decide +kernel
theorem dX12_next_67 : decode cX12_next 67 = .ok (.bipush 26, 2) := by decide +kernel
theorem dX12_next_69 : decode cX12_next 69 = .ok (.putfield 111, 3) := by decide +kernel
theorem dX12_next_72 : decode cX12_next 72 = .ok (.goto 222, 3) := by decide +kernel
theorem dX12_next_294 : decode cX12_next 294 = .ok (.return_, 1) := by decide +kernel
theorem dX12_noHidden_0 : decode cX12_noHidden 0 = .ok (.aload_n 0, 1) := by decide +kernel
theorem dX12_noHidden_1 : decode cX12_noHidden 1 = .ok (.iload_n 1, 1) := by decide +kernel
theorem dX12_noHidden_2 : decode cX12_noHidden 2 = .ok (.i2l, 1) := by decide +kernel
theorem dX12_noHidden_3 : decode cX12_noHidden 3 = .ok (.invokevirtual 245, 3) := by decide +kernel
theorem dX12_noHidden_6 : decode cX12_noHidden 6 = .ok (.ifCond .ne 8, 3) := by decide +kernel
theorem dX12_noHidden_9 : decode cX12_noHidden 9 = .ok (.bipush (-2), 2) := by decide +kernel
theorem dX12_noHidden_11 : decode cX12_noHidden 11 = .ok (.goto 26, 3) := by decide +kernel
theorem dX12_noHidden_37 : decode cX12_noHidden 37 = .ok (.ireturn, 1) := by decide +kernel
theorem dX12_noTray_0 : decode cX12_noTray 0 = .ok (.iload_n 1, 1) := by decide +kernel
theorem dX12_noTray_1 : decode cX12_noTray 1 = .ok (.i2l, 1) := by decide +kernel
theorem dX12_noTray_2 : decode cX12_noTray 2 = .ok (.lconst 0, 1) := by decide +kernel
theorem dX12_noTray_3 : decode cX12_noTray 3 = .ok (.ldc2_w 311, 3) := by decide +kernel
theorem dX12_noTray_6 : decode cX12_noTray 6 = .ok (.invokestatic 145, 3) := by decide +kernel
theorem dX12_noTray_9 : decode cX12_noTray 9 = .ok (.ifCond .ne 8, 3) := by decide +kernel
theorem dX12_noTray_12 : decode cX12_noTray 12 = .ok (.bipush (-2), 2) := by decide +kernel
theorem dX12_noTray_14 : decode cX12_noTray 14 = .ok (.goto 19, 3) := by decide +kernel
theorem dX12_noTray_17 : decode cX12_noTray 17 = .ok (.aload_n 0, 1) := by decide +kernel
theorem dX12_noTray_18 : decode cX12_noTray 18 = .ok (.getfield 69, 3) := by decide +kernel
theorem dX12_noTray_21 : decode cX12_noTray 21 = .ok (.iload_n 1, 1) := by decide +kernel
theorem dX12_noTray_22 : decode cX12_noTray 22 = .ok (.iaload, 1) := by decide +kernel
theorem dX12_noTray_23 : decode cX12_noTray 23 = .ok (.iconst (-1), 1) := by decide +kernel
theorem dX12_noTray_24 : decode cX12_noTray 24 = .ok (.if_icmp .ne 8, 3) := by decide +kernel
theorem dX12_noTray_27 : decode cX12_noTray 27 = .ok (.bipush (-6), 2) := by decide +kernel
theorem dX12_noTray_29 : decode cX12_noTray 29 = .ok (.goto 4, 3) := by decide +kernel
theorem dX12_noTray_33 : decode cX12_noTray 33 = .ok (.ireturn, 1) := by decide +kernel
theorem dX12_notes_0 : decode cX12_notes 0 = .ok (.aload_n 0, 1) := by decide +kernel
theorem dX12_notes_1 : decode cX12_notes 1 = .ok (.getfield 13, 3) := by decide +kernel
theorem dX12_notes_4 : decode cX12_notes 4 = .ok (.bipush 84, 2) := by decide +kernel
theorem dX12_notes_6 : decode cX12_notes 6 = .ok (.iaload, 1) := by decide +kernel
theorem dX12_notes_7 : decode cX12_notes 7 = .ok (.bipush 10, 2) := by decide +kernel
theorem dX12_notes_9 : decode cX12_notes 9 = .ok (.if_icmp .ne 47, 3) := by decide +kernel
theorem dX12_notes_56 : decode cX12_notes 56 = .ok (.iconst 0, 1) := by decide +kernel
theorem dX12_notes_57 : decode cX12_notes 57 = .ok (.istore_n 1, 1) := by decide +kernel
theorem dX12_notes_58 : decode cX12_notes 58 = .ok (.iload_n 1, 1) := by decide +kernel
theorem dX12_notes_59 : decode cX12_notes 59 = .ok (.bipush 32, 2) := by decide +kernel
theorem dX12_notes_61 : decode cX12_notes 61 = .ok (.if_icmp .ge 35, 3) := by decide +kernel
theorem dX12_notes_64 : decode cX12_notes 64 = .ok (.aload_n 0, 1) := by decide +kernel
theorem dX12_notes_65 : decode cX12_notes 65 = .ok (.getfield 13, 3) := by decide +kernel
theorem dX12_notes_68 : decode cX12_notes 68 = .ok (.bipush 85, 2) := by decide +kernel
theorem dX12_notes_70 : decode cX12_notes 70 = .ok (.bipush 32, 2) := by decide +kernel
theorem dX12_notes_72 : decode cX12_notes 72 = .ok (.aload_n 0, 1) := by decide +kernel
theorem dX12_notes_73 : decode cX12_notes 73 = .ok (.getfield 13, 3) := by decide +kernel
theorem dX12_notes_76 : decode cX12_notes 76 = .ok (.bipush 84, 2) := by decide +kernel
theorem dX12_notes_78 : decode cX12_notes 78 = .ok (.iaload, 1) := by decide +kernel
theorem dX12_notes_79 : decode cX12_notes 79 = .ok (.imul, 1) := by decide +kernel
theorem dX12_notes_80 : decode cX12_notes 80 = .ok (.iadd, 1) := by decide +kernel
theorem dX12_notes_81 : decode cX12_notes 81 = .ok (.iload_n 1, 1) := by decide +kernel
theorem dX12_notes_82 : decode cX12_notes 82 = .ok (.iadd, 1) := by decide +kernel
theorem dX12_notes_83 : decode cX12_notes 83 = .ok (.aload_n 0, 1) := by decide +kernel
theorem dX12_notes_84 : decode cX12_notes 84 = .ok (.getfield 42, 3) := by decide +kernel
theorem dX12_notes_87 : decode cX12_notes 87 = .ok (.iload_n 1, 1) := by decide +kernel
theorem dX12_notes_88 : decode cX12_notes 88 = .ok (.iaload, 1) := by decide +kernel
theorem dX12_notes_89 : decode cX12_notes 89 = .ok (.iastore, 1) := by decide +kernel
theorem dX12_notes_90 : decode cX12_notes 90 = .ok (.iinc 1 1, 3) := by decide +kernel
theorem dX12_notes_93 : decode cX12_notes 93 = .ok (.goto (-35), 3) := by decide +kernel
theorem dX12_notes_96 : decode cX12_notes 96 = .ok (.aload_n 0, 1) := by decide +kernel
theorem dX12_notes_97 : decode cX12_notes 97 = .ok (.getfield 13, 3) := by decide +kernel
theorem dX12_notes_100 : decode cX12_notes 100 = .ok (.bipush 84, 2) := by decide +kernel
theorem dX12_notes_102 : decode cX12_notes 102 = .ok (.dup2, 1) := by decide +kernel
theorem dX12_notes_103 : decode cX12_notes 103 = .ok (.iaload, 1) := by decide +kernel
theorem dX12_notes_104 : decode cX12_notes 104 = .ok (.iconst 1, 1) := by decide +kernel
theorem dX12_notes_105 : decode cX12_notes 105 = .ok (.iadd, 1) := by decide +kernel
theorem dX12_notes_106 : decode cX12_notes 106 = .ok (.iastore, 1) := by decide +kernel
theorem dX12_notes_107 : decode cX12_notes 107 = .ok (.return_, 1) := by decide +kernel
theorem dX12_numbers_0 : decode cX12_numbers 0 = .ok (.aload_n 0, 1) := by decide +kernel
theorem dX12_numbers_1 : decode cX12_numbers 1 = .ok (.iconst 0, 1) := by decide +kernel
theorem dX12_numbers_2 : decode cX12_numbers 2 = .ok (.putfield 1, 3) := by decide +kernel
theorem dX12_numbers_5 : decode cX12_numbers 5 = .ok (.iload_n 1, 1) := by decide +kernel
theorem dX12_numbers_6 : decode cX12_numbers 6 = .ok (.i2l, 1) := by decide +kernel
theorem dX12_numbers_7 : decode cX12_numbers 7 = .ok (.lconst 0, 1) := by decide +kernel
theorem dX12_numbers_8 : decode cX12_numbers 8 = .ok (.ldc2_w 311, 3) := by decide +kernel
theorem dX12_numbers_11 : decode cX12_numbers 11 = .ok (.invokestatic 145, 3) := by decide +kernel
theorem dX12_numbers_14 : decode cX12_numbers 14 = .ok (.ifCond .eq 15, 3) := by decide +kernel
theorem dX12_numbers_17 : decode cX12_numbers 17 = .ok (.iload_n 2, 1) := by decide +kernel
theorem dX12_numbers_18 : decode cX12_numbers 18 = .ok (.i2l, 1) := by decide +kernel
theorem dX12_numbers_19 : decode cX12_numbers 19 = .ok (.lconst 0, 1) := by decide +kernel
theorem dX12_numbers_20 : decode cX12_numbers 20 = .ok (.ldc2_w 311, 3) := by decide +kernel
theorem dX12_numbers_23 : decode cX12_numbers 23 = .ok (.invokestatic 145, 3) := by decide +kernel
theorem dX12_numbers_26 : decode cX12_numbers 26 = .ok (.ifCond .ne 6, 3) := by decide +kernel
theorem dX12_numbers_29 : decode cX12_numbers 29 = .ok (.bipush (-2), 2) := by decide +kernel
theorem dX12_numbers_31 : decode cX12_numbers 31 = .ok (.ireturn, 1) := by decide +kernel
theorem dX12_numbers_32 : decode cX12_numbers 32 = .ok (.iload_n 3, 1) := by decide +kernel
theorem dX12_numbers_33 : decode cX12_numbers 33 = .ok (.i2l, 1) := by decide +kernel
theorem dX12_numbers_34 : decode cX12_numbers 34 = .ok (.lconst 0, 1) := by decide +kernel
theorem dX12_numbers_35 : decode cX12_numbers 35 = .ok (.ldc2_w 332, 3) := by decide +kernel
theorem dX12_numbers_38 : decode cX12_numbers 38 = .ok (.invokestatic 145, 3) := by decide +kernel
theorem dX12_numbers_41 : decode cX12_numbers 41 = .ok (.ifCond .ne 6, 3) := by decide +kernel
theorem dX12_numbers_44 : decode cX12_numbers 44 = .ok (.bipush (-3), 2) := by decide +kernel
theorem dX12_numbers_46 : decode cX12_numbers 46 = .ok (.ireturn, 1) := by decide +kernel
theorem dX12_numbers_47 : decode cX12_numbers 47 = .ok (.aload_n 0, 1) := by decide +kernel
theorem dX12_numbers_48 : decode cX12_numbers 48 = .ok (.getfield 69, 3) := by decide +kernel
theorem dX12_numbers_51 : decode cX12_numbers 51 = .ok (.iload_n 1, 1) := by decide +kernel
theorem dX12_numbers_52 : decode cX12_numbers 52 = .ok (.iload_n 2, 1) := by decide +kernel
theorem dX12_numbers_53 : decode cX12_numbers 53 = .ok (.iastore, 1) := by decide +kernel
theorem dX12_numbers_54 : decode cX12_numbers 54 = .ok (.aload_n 0, 1) := by decide +kernel
theorem dX12_numbers_55 : decode cX12_numbers 55 = .ok (.getfield 72, 3) := by decide +kernel
theorem dX12_numbers_58 : decode cX12_numbers 58 = .ok (.iload_n 1, 1) := by decide +kernel
theorem dX12_numbers_59 : decode cX12_numbers 59 = .ok (.iload_n 3, 1) := by decide +kernel
theorem dX12_numbers_60 : decode cX12_numbers 60 = .ok (.iastore, 1) := by decide +kernel
theorem dX12_numbers_61 : decode cX12_numbers 61 = .ok (.iconst 0, 1) := by decide +kernel
theorem dX12_numbers_62 : decode cX12_numbers 62 = .ok (.istore 4, 2) := by decide +kernel
theorem dX12_numbers_64 : decode cX12_numbers 64 = .ok (.iload 4, 2) := by decide +kernel
theorem dX12_numbers_66 : decode cX12_numbers 66 = .ok (.iload_n 3, 1) := by decide +kernel
theorem dX12_numbers_67 : decode cX12_numbers 67 = .ok (.if_icmp .ge 22, 3) := by decide +kernel
theorem dX12_numbers_70 : decode cX12_numbers 70 = .ok (.aload_n 0, 1) := by decide +kernel
theorem dX12_numbers_71 : decode cX12_numbers 71 = .ok (.getfield 75, 3) := by decide +kernel
theorem dX12_numbers_74 : decode cX12_numbers 74 = .ok (.bipush 40, 2) := by decide +kernel
theorem dX12_numbers_76 : decode cX12_numbers 76 = .ok (.iload_n 1, 1) := by decide +kernel
theorem dX12_numbers_77 : decode cX12_numbers 77 = .ok (.imul, 1) := by decide +kernel
theorem dX12_numbers_78 : decode cX12_numbers 78 = .ok (.iload 4, 2) := by decide +kernel
theorem dX12_numbers_80 : decode cX12_numbers 80 = .ok (.iadd, 1) := by decide +kernel
theorem dX12_numbers_81 : decode cX12_numbers 81 = .ok (.lconst 0, 1) := by decide +kernel
theorem dX12_numbers_82 : decode cX12_numbers 82 = .ok (.lastore, 1) := by decide +kernel
theorem dX12_numbers_83 : decode cX12_numbers 83 = .ok (.iinc 4 1, 3) := by decide +kernel
theorem dX12_numbers_86 : decode cX12_numbers 86 = .ok (.goto (-22), 3) := by decide +kernel
theorem dX12_numbers_89 : decode cX12_numbers 89 = .ok (.iconst 0, 1) := by decide +kernel
theorem dX12_numbers_90 : decode cX12_numbers 90 = .ok (.ireturn, 1) := by decide +kernel
theorem dX12_opposed_0 : decode cX12_opposed 0 = .ok (.aload_n 0, 1) := by decide +kernel
theorem dX12_opposed_1 : decode cX12_opposed 1 = .ok (.iconst 0, 1) := by decide +kernel
theorem dX12_opposed_2 : decode cX12_opposed 2 = .ok (.putfield 1, 3) := by decide +kernel
theorem dX12_opposed_5 : decode cX12_opposed 5 = .ok (.aload_n 0, 1) := by decide +kernel
theorem dX12_opposed_6 : decode cX12_opposed 6 = .ok (.iload_n 1, 1) := by decide +kernel
theorem dX12_opposed_7 : decode cX12_opposed 7 = .ok (.i2l, 1) := by decide +kernel
theorem dX12_opposed_8 : decode cX12_opposed 8 = .ok (.invokevirtual 245, 3) := by decide +kernel
theorem dX12_opposed_11 : decode cX12_opposed 11 = .ok (.ifCond .eq 36, 3) := by decide +kernel
theorem dX12_opposed_47 : decode cX12_opposed 47 = .ok (.bipush (-2), 2) := by decide +kernel
theorem dX12_opposed_49 : decode cX12_opposed 49 = .ok (.ireturn, 1) := by decide +kernel
theorem dX12_opposites_0 : decode cX12_opposites 0 = .ok (.aload_n 0, 1) := by decide +kernel
theorem dX12_opposites_1 : decode cX12_opposites 1 = .ok (.iconst 0, 1) := by decide +kernel
theorem dX12_opposites_2 : decode cX12_opposites 2 = .ok (.putfield 1, 3) := by decide +kernel
theorem dX12_opposites_5 : decode cX12_opposites 5 = .ok (.aload_n 0, 1) := by decide +kernel
theorem dX12_opposites_6 : decode cX12_opposites 6 = .ok (.iload_n 1, 1) := by decide +kernel
theorem dX12_opposites_7 : decode cX12_opposites 7 = .ok (.i2l, 1) := by decide +kernel
theorem dX12_opposites_8 : decode cX12_opposites 8 = .ok (.invokevirtual 245, 3) := by decide +kernel
theorem dX12_opposites_11 : decode cX12_opposites 11 = .ok (.ifCond .eq 11, 3) := by decide +kernel
theorem dX12_opposites_22 : decode cX12_opposites 22 = .ok (.bipush (-2), 2) := by decide +kernel
theorem dX12_opposites_24 : decode cX12_opposites 24 = .ok (.ireturn, 1) := by decide +kernel
theorem dX12_pairs_0 : decode cX12_pairs 0 = .ok (.aload_n 0, 1) := by decide +kernel
theorem dX12_pairs_1 : decode cX12_pairs 1 = .ok (.iconst 0, 1) := by decide +kernel
theorem dX12_pairs_2 : decode cX12_pairs 2 = .ok (.putfield 1, 3) := by decide +kernel
theorem dX12_pairs_5 : decode cX12_pairs 5 = .ok (.iload_n 2, 1) := by decide +kernel
theorem dX12_pairs_6 : decode cX12_pairs 6 = .ok (.i2l, 1) := by decide +kernel
theorem dX12_pairs_7 : decode cX12_pairs 7 = .ok (.lconst 0, 1) := by decide +kernel
theorem dX12_pairs_8 : decode cX12_pairs 8 = .ok (.lconst 1, 1) := by decide +kernel
theorem dX12_pairs_9 : decode cX12_pairs 9 = .ok (.invokestatic 145, 3) := by decide +kernel
theorem dX12_pairs_12 : decode cX12_pairs 12 = .ok (.ifCond .ne 24, 3) := by decide +kernel
theorem dX12_pairs_15 : decode cX12_pairs 15 = .ok (.iload_n 2, 1) := by decide +kernel
theorem dX12_pairs_16 : decode cX12_pairs 16 = .ok (.bipush 10, 2) := by decide +kernel
theorem dX12_pairs_18 : decode cX12_pairs 18 = .ok (.if_icmp .lt 15, 3) := by decide +kernel
theorem dX12_pairs_21 : decode cX12_pairs 21 = .ok (.aload_n 0, 1) := by decide +kernel
theorem dX12_pairs_22 : decode cX12_pairs 22 = .ok (.iload_n 2, 1) := by decide +kernel
theorem dX12_pairs_23 : decode cX12_pairs 23 = .ok (.bipush 10, 2) := by decide +kernel
theorem dX12_pairs_25 : decode cX12_pairs 25 = .ok (.isub, 1) := by decide +kernel
theorem dX12_pairs_26 : decode cX12_pairs 26 = .ok (.i2l, 1) := by decide +kernel
theorem dX12_pairs_27 : decode cX12_pairs 27 = .ok (.invokevirtual 245, 3) := by decide +kernel
theorem dX12_pairs_30 : decode cX12_pairs 30 = .ok (.ifCond .ne 6, 3) := by decide +kernel
theorem dX12_pairs_33 : decode cX12_pairs 33 = .ok (.bipush (-2), 2) := by decide +kernel
theorem dX12_pairs_35 : decode cX12_pairs 35 = .ok (.ireturn, 1) := by decide +kernel
theorem dX12_pairs_36 : decode cX12_pairs 36 = .ok (.aload_n 0, 1) := by decide +kernel
theorem dX12_pairs_37 : decode cX12_pairs 37 = .ok (.iload_n 1, 1) := by decide +kernel
theorem dX12_pairs_38 : decode cX12_pairs 38 = .ok (.invokevirtual 349, 3) := by decide +kernel
theorem dX12_pairs_41 : decode cX12_pairs 41 = .ok (.ifCond .ne 6, 3) := by decide +kernel
theorem dX12_pairs_44 : decode cX12_pairs 44 = .ok (.bipush (-3), 2) := by decide +kernel
theorem dX12_pairs_46 : decode cX12_pairs 46 = .ok (.ireturn, 1) := by decide +kernel
theorem dX12_pairs_47 : decode cX12_pairs 47 = .ok (.aload_n 0, 1) := by decide +kernel
theorem dX12_pairs_48 : decode cX12_pairs 48 = .ok (.aload_n 0, 1) := by decide +kernel
theorem dX12_pairs_49 : decode cX12_pairs 49 = .ok (.getfield 13, 3) := by decide +kernel
theorem dX12_pairs_52 : decode cX12_pairs 52 = .ok (.bipush 52, 2) := by decide +kernel
theorem dX12_pairs_54 : decode cX12_pairs 54 = .ok (.iaload, 1) := by decide +kernel
theorem dX12_pairs_55 : decode cX12_pairs 55 = .ok (.invokevirtual 340, 3) := by decide +kernel
theorem dX12_pairs_58 : decode cX12_pairs 58 = .ok (.aload_n 0, 1) := by decide +kernel
theorem dX12_pairs_59 : decode cX12_pairs 59 = .ok (.iload_n 1, 1) := by decide +kernel
theorem dX12_pairs_60 : decode cX12_pairs 60 = .ok (.invokevirtual 361, 3) := by decide +kernel
theorem dX12_pairs_63 : decode cX12_pairs 63 = .ok (.iload_n 2, 1) := by decide +kernel
theorem dX12_pairs_64 : decode cX12_pairs 64 = .ok (.ifCond .ne 10, 3) := by decide +kernel
theorem dX12_pairs_67 : decode cX12_pairs 67 = .ok (.aload_n 0, 1) := by decide +kernel
theorem dX12_pairs_68 : decode cX12_pairs 68 = .ok (.getfield 352, 3) := by decide +kernel
theorem dX12_pairs_71 : decode cX12_pairs 71 = .ok (.goto 24, 3) := by decide +kernel
theorem dX12_pairs_74 : decode cX12_pairs 74 = .ok (.iload_n 2, 1) := by decide +kernel
theorem dX12_pairs_75 : decode cX12_pairs 75 = .ok (.iconst 1, 1) := by decide +kernel
theorem dX12_pairs_76 : decode cX12_pairs 76 = .ok (.if_icmp .ne 10, 3) := by decide +kernel
theorem dX12_pairs_79 : decode cX12_pairs 79 = .ok (.aload_n 0, 1) := by decide +kernel
theorem dX12_pairs_80 : decode cX12_pairs 80 = .ok (.getfield 355, 3) := by decide +kernel
theorem dX12_pairs_83 : decode cX12_pairs 83 = .ok (.goto 12, 3) := by decide +kernel
theorem dX12_pairs_95 : decode cX12_pairs 95 = .ok (.ireturn, 1) := by decide +kernel
theorem dX12_passed_0 : decode cX12_passed 0 = .ok (.aload_n 0, 1) := by decide +kernel
theorem dX12_passed_1 : decode cX12_passed 1 = .ok (.iconst 0, 1) := by decide +kernel
theorem dX12_passed_2 : decode cX12_passed 2 = .ok (.putfield 1, 3) := by decide +kernel
theorem dX12_passed_5 : decode cX12_passed 5 = .ok (.iload_n 2, 1) := by decide +kernel
theorem dX12_passed_6 : decode cX12_passed 6 = .ok (.i2l, 1) := by decide +kernel
theorem dX12_passed_7 : decode cX12_passed 7 = .ok (.lconst 0, 1) := by decide +kernel
theorem dX12_passed_8 : decode cX12_passed 8 = .ok (.lconst 1, 1) := by decide +kernel
theorem dX12_passed_9 : decode cX12_passed 9 = .ok (.invokestatic 145, 3) := by decide +kernel
theorem dX12_passed_12 : decode cX12_passed 12 = .ok (.ifCond .ne 6, 3) := by decide +kernel
theorem dX12_passed_15 : decode cX12_passed 15 = .ok (.bipush (-2), 2) := by decide +kernel
theorem dX12_passed_17 : decode cX12_passed 17 = .ok (.ireturn, 1) := by decide +kernel
theorem dX12_passed_18 : decode cX12_passed 18 = .ok (.iload_n 1, 1) := by decide +kernel
theorem dX12_passed_19 : decode cX12_passed 19 = .ok (.invokestatic 393, 3) := by decide +kernel
theorem dX12_passed_22 : decode cX12_passed 22 = .ok (.ifCond .ne 6, 3) := by decide +kernel
theorem dX12_passed_25 : decode cX12_passed 25 = .ok (.bipush (-3), 2) := by decide +kernel
theorem dX12_passed_27 : decode cX12_passed 27 = .ok (.ireturn, 1) := by decide +kernel
theorem dX12_passed_28 : decode cX12_passed 28 = .ok (.aload_n 0, 1) := by decide +kernel
theorem dX12_passed_29 : decode cX12_passed 29 = .ok (.invokevirtual 346, 3) := by decide +kernel
theorem dX12_passed_32 : decode cX12_passed 32 = .ok (.aload_n 0, 1) := by decide +kernel
theorem dX12_passed_33 : decode cX12_passed 33 = .ok (.iload_n 1, 1) := by decide +kernel
theorem dX12_passed_34 : decode cX12_passed 34 = .ok (.invokevirtual 399, 3) := by decide +kernel
theorem dX12_passed_37 : decode cX12_passed 37 = .ok (.istore_n 3, 1) := by decide +kernel
theorem dX12_passed_38 : decode cX12_passed 38 = .ok (.iload_n 3, 1) := by decide +kernel
theorem dX12_passed_39 : decode cX12_passed 39 = .ok (.iconst (-1), 1) := by decide +kernel
theorem dX12_passed_40 : decode cX12_passed 40 = .ok (.if_icmp .eq 8, 3) := by decide +kernel
theorem dX12_passed_48 : decode cX12_passed 48 = .ok (.iload_n 3, 1) := by decide +kernel
theorem dX12_passed_49 : decode cX12_passed 49 = .ok (.goto 7, 3) := by decide +kernel
theorem dX12_passed_56 : decode cX12_passed 56 = .ok (.ireturn, 1) := by decide +kernel
theorem dX12_passedBy_0 : decode cX12_passedBy 0 = .ok (.aload_n 0, 1) := by decide +kernel
theorem dX12_passedBy_1 : decode cX12_passedBy 1 = .ok (.invokevirtual 255, 3) := by decide +kernel
theorem dX12_passedBy_4 : decode cX12_passedBy 4 = .ok (.istore_n 2, 1) := by decide +kernel
theorem dX12_passedBy_5 : decode cX12_passedBy 5 = .ok (.aload_n 0, 1) := by decide +kernel
theorem dX12_passedBy_6 : decode cX12_passedBy 6 = .ok (.iload_n 2, 1) := by decide +kernel
theorem dX12_passedBy_7 : decode cX12_passedBy 7 = .ok (.iload_n 1, 1) := by decide +kernel
theorem dX12_passedBy_8 : decode cX12_passedBy 8 = .ok (.invokevirtual 396, 3) := by decide +kernel
theorem dX12_passedBy_11 : decode cX12_passedBy 11 = .ok (.istore_n 3, 1) := by decide +kernel
theorem dX12_passedBy_12 : decode cX12_passedBy 12 = .ok (.iconst (-1), 1) := by decide +kernel
theorem dX12_passedBy_13 : decode cX12_passedBy 13 = .ok (.istore 4, 2) := by decide +kernel
theorem dX12_passedBy_15 : decode cX12_passedBy 15 = .ok (.iconst 0, 1) := by decide +kernel
theorem dX12_passedBy_16 : decode cX12_passedBy 16 = .ok (.istore 5, 2) := by decide +kernel
theorem dX12_passedBy_18 : decode cX12_passedBy 18 = .ok (.iload 5, 2) := by decide +kernel
theorem dX12_passedBy_20 : decode cX12_passedBy 20 = .ok (.iload_n 2, 1) := by decide +kernel
theorem dX12_passedBy_21 : decode cX12_passedBy 21 = .ok (.if_icmp .gt 79, 3) := by decide +kernel
theorem dX12_passedBy_24 : decode cX12_passedBy 24 = .ok (.iload_n 2, 1) := by decide +kernel
theorem dX12_passedBy_25 : decode cX12_passedBy 25 = .ok (.iload 5, 2) := by decide +kernel
theorem dX12_passedBy_27 : decode cX12_passedBy 27 = .ok (.iconst (-1), 1) := by decide +kernel
theorem dX12_passedBy_28 : decode cX12_passedBy 28 = .ok (.ixor, 1) := by decide +kernel
theorem dX12_passedBy_29 : decode cX12_passedBy 29 = .ok (.iand, 1) := by decide +kernel
theorem dX12_passedBy_30 : decode cX12_passedBy 30 = .ok (.istore 6, 2) := by decide +kernel
theorem dX12_passedBy_32 : decode cX12_passedBy 32 = .ok (.iload 5, 2) := by decide +kernel
theorem dX12_passedBy_34 : decode cX12_passedBy 34 = .ok (.iload_n 2, 1) := by decide +kernel
theorem dX12_passedBy_35 : decode cX12_passedBy 35 = .ok (.iconst (-1), 1) := by decide +kernel
theorem dX12_passedBy_36 : decode cX12_passedBy 36 = .ok (.ixor, 1) := by decide +kernel
theorem dX12_passedBy_37 : decode cX12_passedBy 37 = .ok (.iand, 1) := by decide +kernel
theorem dX12_passedBy_38 : decode cX12_passedBy 38 = .ok (.ifCond .ne 56, 3) := by decide +kernel
theorem dX12_passedBy_41 : decode cX12_passedBy 41 = .ok (.iload 4, 2) := by decide +kernel
theorem dX12_passedBy_43 : decode cX12_passedBy 43 = .ok (.iconst (-1), 1) := by decide +kernel
theorem dX12_passedBy_44 : decode cX12_passedBy 44 = .ok (.if_icmp .eq 19, 3) := by decide +kernel
theorem dX12_passedBy_63 : decode cX12_passedBy 63 = .ok (.aload_n 0, 1) := by decide +kernel
theorem dX12_passedBy_64 : decode cX12_passedBy 64 = .ok (.getfield 45, 3) := by decide +kernel
theorem dX12_passedBy_67 : decode cX12_passedBy 67 = .ok (.iload 6, 2) := by decide +kernel
theorem dX12_passedBy_69 : decode cX12_passedBy 69 = .ok (.iaload, 1) := by decide +kernel
theorem dX12_passedBy_70 : decode cX12_passedBy 70 = .ok (.ifCond .le 24, 3) := by decide +kernel
theorem dX12_passedBy_73 : decode cX12_passedBy 73 = .ok (.iconst 2, 1) := by decide +kernel
theorem dX12_passedBy_74 : decode cX12_passedBy 74 = .ok (.iload_n 3, 1) := by decide +kernel
theorem dX12_passedBy_75 : decode cX12_passedBy 75 = .ok (.iload 6, 2) := by decide +kernel
theorem dX12_passedBy_77 : decode cX12_passedBy 77 = .ok (.iand, 1) := by decide +kernel
theorem dX12_passedBy_78 : decode cX12_passedBy 78 = .ok (.invokestatic 281, 3) := by decide +kernel
theorem dX12_passedBy_81 : decode cX12_passedBy 81 = .ok (.imul, 1) := by decide +kernel
theorem dX12_passedBy_82 : decode cX12_passedBy 82 = .ok (.iload 6, 2) := by decide +kernel
theorem dX12_passedBy_84 : decode cX12_passedBy 84 = .ok (.invokestatic 281, 3) := by decide +kernel
theorem dX12_passedBy_87 : decode cX12_passedBy 87 = .ok (.if_icmp .le 7, 3) := by decide +kernel
theorem dX12_passedBy_94 : decode cX12_passedBy 94 = .ok (.iinc 5 1, 3) := by decide +kernel
theorem dX12_passedBy_97 : decode cX12_passedBy 97 = .ok (.goto (-79), 3) := by decide +kernel
theorem dX12_passedBy_100 : decode cX12_passedBy 100 = .ok (.iload 4, 2) := by decide +kernel
theorem dX12_passedBy_102 : decode cX12_passedBy 102 = .ok (.ireturn, 1) := by decide +kernel
theorem dX12_passes_0 : decode cX12_passes 0 = .ok (.aload_n 0, 1) := by decide +kernel
theorem dX12_passes_1 : decode cX12_passes 1 = .ok (.iconst 0, 1) := by decide +kernel
theorem dX12_passes_2 : decode cX12_passes 2 = .ok (.putfield 1, 3) := by decide +kernel
theorem dX12_passes_5 : decode cX12_passes 5 = .ok (.iload_n 1, 1) := by decide +kernel
theorem dX12_passes_6 : decode cX12_passes 6 = .ok (.invokestatic 393, 3) := by decide +kernel
theorem dX12_passes_9 : decode cX12_passes 9 = .ok (.ifCond .ne 6, 3) := by decide +kernel
theorem dX12_passes_12 : decode cX12_passes 12 = .ok (.bipush (-3), 2) := by decide +kernel
theorem dX12_passes_14 : decode cX12_passes 14 = .ok (.ireturn, 1) := by decide +kernel
theorem dX12_passes_15 : decode cX12_passes 15 = .ok (.aload_n 0, 1) := by decide +kernel
theorem dX12_passes_16 : decode cX12_passes 16 = .ok (.invokevirtual 346, 3) := by decide +kernel
theorem dX12_passes_19 : decode cX12_passes 19 = .ok (.aload_n 0, 1) := by decide +kernel
theorem dX12_passes_20 : decode cX12_passes 20 = .ok (.iload_n 1, 1) := by decide +kernel
theorem dX12_passes_21 : decode cX12_passes 21 = .ok (.invokevirtual 399, 3) := by decide +kernel
theorem dX12_passes_24 : decode cX12_passes 24 = .ok (.ifCond .ne 7, 3) := by decide +kernel
theorem dX12_passes_31 : decode cX12_passes 31 = .ok (.iconst 0, 1) := by decide +kernel
theorem dX12_passes_32 : decode cX12_passes 32 = .ok (.ireturn, 1) := by decide +kernel
theorem dX12_perform_0 : decode cX12_perform 0 = .ok (.aload_n 0, 1) := by decide +kernel
theorem dX12_perform_1 : decode cX12_perform 1 = .ok (.iconst 0, 1) := by decide +kernel
theorem dX12_perform_2 : decode cX12_perform 2 = .ok (.putfield 1, 3) := by decide +kernel
theorem dX12_perform_5 : decode cX12_perform 5 = .ok (.aload_n 0, 1) := by decide +kernel
theorem dX12_perform_6 : decode cX12_perform 6 = .ok (.iload_n 1, 1) := by decide +kernel
theorem dX12_perform_7 : decode cX12_perform 7 = .ok (.invokevirtual 313, 3) := by decide +kernel
theorem dX12_perform_10 : decode cX12_perform 10 = .ok (.istore_n 2, 1) := by decide +kernel
theorem dX12_perform_11 : decode cX12_perform 11 = .ok (.iload_n 2, 1) := by decide +kernel
theorem dX12_perform_12 : decode cX12_perform 12 = .ok (.ifCond .eq 5, 3) := by decide +kernel
theorem dX12_perform_15 : decode cX12_perform 15 = .ok (.iload_n 2, 1) := by decide +kernel
theorem dX12_perform_16 : decode cX12_perform 16 = .ok (.ireturn, 1) := by decide +kernel
theorem dX12_person_0 : decode cX12_person 0 = .ok (.aload_n 0, 1) := by decide +kernel
theorem dX12_person_1 : decode cX12_person 1 = .ok (.iconst 0, 1) := by decide +kernel
theorem dX12_person_2 : decode cX12_person 2 = .ok (.putfield 1, 3) := by decide +kernel
theorem dX12_person_5 : decode cX12_person 5 = .ok (.aload_n 0, 1) := by decide +kernel
theorem dX12_person_6 : decode cX12_person 6 = .ok (.iload_n 1, 1) := by decide +kernel
theorem dX12_person_7 : decode cX12_person 7 = .ok (.i2l, 1) := by decide +kernel
theorem dX12_person_8 : decode cX12_person 8 = .ok (.invokevirtual 245, 3) := by decide +kernel
theorem dX12_person_11 : decode cX12_person 11 = .ok (.ifCond .ne 6, 3) := by decide +kernel
theorem dX12_person_14 : decode cX12_person 14 = .ok (.bipush (-2), 2) := by decide +kernel
theorem dX12_person_16 : decode cX12_person 16 = .ok (.ireturn, 1) := by decide +kernel
theorem dX12_pieces_0 : decode cX12_pieces 0 = .ok (.aload_n 0, 1) := by decide +kernel
theorem dX12_pieces_1 : decode cX12_pieces 1 = .ok (.iconst 0, 1) := by decide +kernel
theorem dX12_pieces_2 : decode cX12_pieces 2 = .ok (.putfield 1, 3) := by decide +kernel
theorem dX12_pieces_5 : decode cX12_pieces 5 = .ok (.aload_n 0, 1) := by decide +kernel
theorem dX12_pieces_6 : decode cX12_pieces 6 = .ok (.iload_n 1, 1) := by decide +kernel
theorem dX12_pieces_7 : decode cX12_pieces 7 = .ok (.invokevirtual 349, 3) := by decide +kernel
theorem dX12_pieces_10 : decode cX12_pieces 10 = .ok (.ifCond .ne 6, 3) := by decide +kernel
theorem dX12_pieces_13 : decode cX12_pieces 13 = .ok (.bipush (-3), 2) := by decide +kernel
theorem dX12_pieces_15 : decode cX12_pieces 15 = .ok (.ireturn, 1) := by decide +kernel
theorem dX12_pieces_16 : decode cX12_pieces 16 = .ok (.aload_n 0, 1) := by decide +kernel
theorem dX12_pieces_17 : decode cX12_pieces 17 = .ok (.aload_n 0, 1) := by decide +kernel
theorem dX12_pieces_18 : decode cX12_pieces 18 = .ok (.getfield 13, 3) := by decide +kernel
theorem dX12_pieces_21 : decode cX12_pieces 21 = .ok (.bipush 52, 2) := by decide +kernel
theorem dX12_pieces_23 : decode cX12_pieces 23 = .ok (.iaload, 1) := by decide +kernel
theorem dX12_pieces_24 : decode cX12_pieces 24 = .ok (.invokevirtual 340, 3) := by decide +kernel
theorem dX12_pieces_27 : decode cX12_pieces 27 = .ok (.aload_n 0, 1) := by decide +kernel
theorem dX12_pieces_28 : decode cX12_pieces 28 = .ok (.iload_n 1, 1) := by decide +kernel
theorem dX12_pieces_29 : decode cX12_pieces 29 = .ok (.iconst 0, 1) := by decide +kernel
theorem dX12_pieces_30 : decode cX12_pieces 30 = .ok (.invokevirtual 367, 3) := by decide +kernel
theorem dX12_pieces_33 : decode cX12_pieces 33 = .ok (.ireturn, 1) := by decide +kernel
theorem dX12_piecesOf_0 : decode cX12_piecesOf 0 = .ok (.iconst 0, 1) := by decide +kernel
theorem dX12_piecesOf_1 : decode cX12_piecesOf 1 = .ok (.istore_n 3, 1) := by decide +kernel
theorem dX12_piecesOf_2 : decode cX12_piecesOf 2 = .ok (.iload_n 1, 1) := by decide +kernel
theorem dX12_piecesOf_3 : decode cX12_piecesOf 3 = .ok (.istore 4, 2) := by decide +kernel
theorem dX12_piecesOf_5 : decode cX12_piecesOf 5 = .ok (.iload 4, 2) := by decide +kernel
theorem dX12_piecesOf_7 : decode cX12_piecesOf 7 = .ok (.ifCond .eq 45, 3) := by decide +kernel
theorem dX12_piecesOf_52 : decode cX12_piecesOf 52 = .ok (.iload_n 3, 1) := by decide +kernel
theorem dX12_piecesOf_53 : decode cX12_piecesOf 53 = .ok (.ireturn, 1) := by decide +kernel
theorem dX12_plain_0 : decode cX12_plain 0 = .ok (.iconst 0, 1) := by decide +kernel
theorem dX12_plain_1 : decode cX12_plain 1 = .ok (.istore_n 1, 1) := by decide +kernel
theorem dX12_plain_2 : decode cX12_plain 2 = .ok (.iload_n 1, 1) := by decide +kernel
theorem dX12_plain_3 : decode cX12_plain 3 = .ok (.sipush 1306, 3) := by decide +kernel
theorem dX12_plain_6 : decode cX12_plain 6 = .ok (.if_icmp .ge 13, 3) := by decide +kernel
theorem dX12_plain_9 : decode cX12_plain 9 = .ok (.aload_n 0, 1) := by decide +kernel
theorem dX12_plain_10 : decode cX12_plain 10 = .ok (.iload_n 1, 1) := by decide +kernel
theorem dX12_plain_11 : decode cX12_plain 11 = .ok (.iconst 0, 1) := by decide +kernel
theorem dX12_plain_12 : decode cX12_plain 12 = .ok (.iastore, 1) := by decide +kernel
theorem dX12_plain_13 : decode cX12_plain 13 = .ok (.iinc 1 1, 3) := by decide +kernel
theorem dX12_plain_16 : decode cX12_plain 16 = .ok (.goto (-14), 3) := by decide +kernel
theorem dX12_plain_19 : decode cX12_plain 19 = .ok (.aload_n 0, 1) := by decide +kernel
theorem dX12_plain_20 : decode cX12_plain 20 = .ok (.iconst 1, 1) := by decide +kernel
theorem dX12_plain_21 : decode cX12_plain 21 = .ok (.iconst 1, 1) := by decide +kernel
theorem dX12_plain_22 : decode cX12_plain 22 = .ok (.iastore, 1) := by decide +kernel
theorem dX12_plain_23 : decode cX12_plain 23 = .ok (.return_, 1) := by decide +kernel
theorem dX12_probe_0 : decode cX12_probe 0 = .ok (.aload_n 0, 1) := by decide +kernel
theorem dX12_probe_1 : decode cX12_probe 1 = .ok (.iconst 0, 1) := by decide +kernel
theorem dX12_probe_2 : decode cX12_probe 2 = .ok (.putfield 1, 3) := by decide +kernel
theorem dX12_probe_5 : decode cX12_probe 5 = .ok (.aload_n 0, 1) := by decide +kernel
theorem dX12_probe_6 : decode cX12_probe 6 = .ok (.iload_n 1, 1) := by decide +kernel
theorem dX12_probe_7 : decode cX12_probe 7 = .ok (.iload_n 2, 1) := by decide +kernel
theorem dX12_probe_8 : decode cX12_probe 8 = .ok (.invokevirtual 408, 3) := by decide +kernel
theorem dX12_probe_11 : decode cX12_probe 11 = .ok (.istore_n 3, 1) := by decide +kernel
theorem dX12_probe_12 : decode cX12_probe 12 = .ok (.iload_n 3, 1) := by decide +kernel
theorem dX12_probe_13 : decode cX12_probe 13 = .ok (.ifCond .eq 5, 3) := by decide +kernel
theorem dX12_probe_16 : decode cX12_probe 16 = .ok (.iload_n 3, 1) := by decide +kernel
theorem dX12_probe_17 : decode cX12_probe 17 = .ok (.ireturn, 1) := by decide +kernel
theorem dX12_quorum_0 : decode cX12_quorum 0 = .ok (.aload_n 0, 1) := by decide +kernel
theorem dX12_quorum_1 : decode cX12_quorum 1 = .ok (.iconst 0, 1) := by decide +kernel
theorem dX12_quorum_2 : decode cX12_quorum 2 = .ok (.putfield 1, 3) := by decide +kernel
theorem dX12_quorum_5 : decode cX12_quorum 5 = .ok (.aload_n 0, 1) := by decide +kernel
theorem dX12_quorum_6 : decode cX12_quorum 6 = .ok (.invokevirtual 346, 3) := by decide +kernel
theorem dX12_quorum_9 : decode cX12_quorum 9 = .ok (.aload_n 0, 1) := by decide +kernel
theorem dX12_quorum_10 : decode cX12_quorum 10 = .ok (.invokevirtual 255, 3) := by decide +kernel
theorem dX12_quorum_13 : decode cX12_quorum 13 = .ok (.istore_n 1, 1) := by decide +kernel
theorem dX12_quorum_14 : decode cX12_quorum 14 = .ok (.iconst 0, 1) := by decide +kernel
theorem dX12_quorum_15 : decode cX12_quorum 15 = .ok (.istore_n 2, 1) := by decide +kernel
theorem dX12_quorum_16 : decode cX12_quorum 16 = .ok (.iconst 0, 1) := by decide +kernel
theorem dX12_quorum_17 : decode cX12_quorum 17 = .ok (.istore_n 3, 1) := by decide +kernel
theorem dX12_quorum_18 : decode cX12_quorum 18 = .ok (.iload_n 3, 1) := by decide +kernel
theorem dX12_quorum_19 : decode cX12_quorum 19 = .ok (.iload_n 1, 1) := by decide +kernel
theorem dX12_quorum_20 : decode cX12_quorum 20 = .ok (.if_icmp .gt 39, 3) := by decide +kernel
theorem dX12_quorum_23 : decode cX12_quorum 23 = .ok (.iload_n 3, 1) := by decide +kernel
theorem dX12_quorum_24 : decode cX12_quorum 24 = .ok (.iload_n 1, 1) := by decide +kernel
theorem dX12_quorum_25 : decode cX12_quorum 25 = .ok (.iconst (-1), 1) := by decide +kernel
theorem dX12_quorum_26 : decode cX12_quorum 26 = .ok (.ixor, 1) := by decide +kernel
theorem dX12_quorum_27 : decode cX12_quorum 27 = .ok (.iand, 1) := by decide +kernel
theorem dX12_quorum_28 : decode cX12_quorum 28 = .ok (.ifCond .ne 25, 3) := by decide +kernel
theorem dX12_quorum_31 : decode cX12_quorum 31 = .ok (.aload_n 0, 1) := by decide +kernel
theorem dX12_quorum_32 : decode cX12_quorum 32 = .ok (.getfield 45, 3) := by decide +kernel
theorem dX12_quorum_35 : decode cX12_quorum 35 = .ok (.iload_n 3, 1) := by decide +kernel
theorem dX12_quorum_36 : decode cX12_quorum 36 = .ok (.iaload, 1) := by decide +kernel
theorem dX12_quorum_37 : decode cX12_quorum 37 = .ok (.ifCond .le 16, 3) := by decide +kernel
theorem dX12_quorum_40 : decode cX12_quorum 40 = .ok (.iload_n 3, 1) := by decide +kernel
theorem dX12_quorum_41 : decode cX12_quorum 41 = .ok (.invokestatic 281, 3) := by decide +kernel
theorem dX12_quorum_44 : decode cX12_quorum 44 = .ok (.iload_n 2, 1) := by decide +kernel
theorem dX12_quorum_45 : decode cX12_quorum 45 = .ok (.invokestatic 281, 3) := by decide +kernel
theorem dX12_quorum_48 : decode cX12_quorum 48 = .ok (.if_icmp .le 5, 3) := by decide +kernel
theorem dX12_quorum_53 : decode cX12_quorum 53 = .ok (.iinc 3 1, 3) := by decide +kernel
theorem dX12_quorum_56 : decode cX12_quorum 56 = .ok (.goto (-38), 3) := by decide +kernel
theorem dX12_quorum_59 : decode cX12_quorum 59 = .ok (.iload_n 2, 1) := by decide +kernel
theorem dX12_quorum_60 : decode cX12_quorum 60 = .ok (.ireturn, 1) := by decide +kernel
theorem dX12_reserve_0 : decode cX12_reserve 0 = .ok (.aload_n 0, 1) := by decide +kernel
theorem dX12_reserve_1 : decode cX12_reserve 1 = .ok (.iconst 0, 1) := by decide +kernel
theorem dX12_reserve_2 : decode cX12_reserve 2 = .ok (.putfield 1, 3) := by decide +kernel
theorem dX12_reserve_5 : decode cX12_reserve 5 = .ok (.aload_n 0, 1) := by decide +kernel
theorem dX12_reserve_6 : decode cX12_reserve 6 = .ok (.iload_n 1, 1) := by decide +kernel
theorem dX12_reserve_7 : decode cX12_reserve 7 = .ok (.invokevirtual 349, 3) := by decide +kernel
theorem dX12_reserve_10 : decode cX12_reserve 10 = .ok (.ifCond .ne 6, 3) := by decide +kernel
theorem dX12_reserve_13 : decode cX12_reserve 13 = .ok (.bipush (-3), 2) := by decide +kernel
theorem dX12_reserve_15 : decode cX12_reserve 15 = .ok (.ireturn, 1) := by decide +kernel
theorem dX12_reserve_16 : decode cX12_reserve 16 = .ok (.aload_n 0, 1) := by decide +kernel
theorem dX12_reserve_17 : decode cX12_reserve 17 = .ok (.invokevirtual 346, 3) := by decide +kernel
theorem dX12_reserve_20 : decode cX12_reserve 20 = .ok (.aload_n 0, 1) := by decide +kernel
theorem dX12_reserve_21 : decode cX12_reserve 21 = .ok (.invokevirtual 255, 3) := by decide +kernel
theorem dX12_reserve_24 : decode cX12_reserve 24 = .ok (.iload_n 1, 1) := by decide +kernel
theorem dX12_reserve_25 : decode cX12_reserve 25 = .ok (.iconst (-1), 1) := by decide +kernel
theorem dX12_reserve_26 : decode cX12_reserve 26 = .ok (.ixor, 1) := by decide +kernel
theorem dX12_reserve_27 : decode cX12_reserve 27 = .ok (.iand, 1) := by decide +kernel
theorem dX12_reserve_28 : decode cX12_reserve 28 = .ok (.istore_n 2, 1) := by decide +kernel
theorem dX12_reserve_29 : decode cX12_reserve 29 = .ok (.iconst (-1), 1) := by decide +kernel
theorem dX12_reserve_30 : decode cX12_reserve 30 = .ok (.istore_n 3, 1) := by decide +kernel
theorem dX12_reserve_31 : decode cX12_reserve 31 = .ok (.ldc2_w 289, 3) := by decide +kernel
theorem dX12_reserve_34 : decode cX12_reserve 34 = .ok (.aload_n 0, 1) := by decide +kernel
theorem dX12_reserve_35 : decode cX12_reserve 35 = .ok (.iload_n 1, 1) := by decide +kernel
theorem dX12_reserve_36 : decode cX12_reserve 36 = .ok (.invokevirtual 422, 3) := by decide +kernel
theorem dX12_reserve_39 : decode cX12_reserve 39 = .ok (.lmul, 1) := by decide +kernel
theorem dX12_reserve_40 : decode cX12_reserve 40 = .ok (.lstore 4, 2) := by decide +kernel
theorem dX12_reserve_42 : decode cX12_reserve 42 = .ok (.iconst 0, 1) := by decide +kernel
theorem dX12_reserve_43 : decode cX12_reserve 43 = .ok (.istore 6, 2) := by decide +kernel
theorem dX12_reserve_45 : decode cX12_reserve 45 = .ok (.iload 6, 2) := by decide +kernel
theorem dX12_reserve_47 : decode cX12_reserve 47 = .ok (.aload_n 0, 1) := by decide +kernel
theorem dX12_reserve_48 : decode cX12_reserve 48 = .ok (.getfield 13, 3) := by decide +kernel
theorem dX12_reserve_51 : decode cX12_reserve 51 = .ok (.iconst 2, 1) := by decide +kernel
theorem dX12_reserve_52 : decode cX12_reserve 52 = .ok (.iaload, 1) := by decide +kernel
theorem dX12_reserve_53 : decode cX12_reserve 53 = .ok (.if_icmp .ge 55, 3) := by decide +kernel
theorem dX12_reserve_108 : decode cX12_reserve 108 = .ok (.iload_n 3, 1) := by decide +kernel
theorem dX12_reserve_109 : decode cX12_reserve 109 = .ok (.ireturn, 1) := by decide +kernel
theorem dX12_restore_0 : decode cX12_restore 0 = .ok (.aload_n 0, 1) := by decide +kernel
theorem dX12_restore_1 : decode cX12_restore 1 = .ok (.iconst 0, 1) := by decide +kernel
theorem dX12_restore_2 : decode cX12_restore 2 = .ok (.putfield 1, 3) := by decide +kernel
theorem dX12_restore_5 : decode cX12_restore 5 = .ok (.iload_n 1, 1) := by decide +kernel
theorem dX12_restore_6 : decode cX12_restore 6 = .ok (.i2l, 1) := by decide +kernel
theorem dX12_restore_7 : decode cX12_restore 7 = .ok (.lconst 0, 1) := by decide +kernel
theorem dX12_restore_8 : decode cX12_restore 8 = .ok (.lconst 1, 1) := by decide +kernel
theorem dX12_restore_9 : decode cX12_restore 9 = .ok (.invokestatic 145, 3) := by decide +kernel
theorem dX12_restore_12 : decode cX12_restore 12 = .ok (.ifCond .ne 6, 3) := by decide +kernel
theorem dX12_restore_15 : decode cX12_restore 15 = .ok (.bipush (-2), 2) := by decide +kernel
theorem dX12_restore_17 : decode cX12_restore 17 = .ok (.ireturn, 1) := by decide +kernel
theorem dX12_restore_18 : decode cX12_restore 18 = .ok (.aload_n 0, 1) := by decide +kernel
theorem dX12_restore_19 : decode cX12_restore 19 = .ok (.getfield 17, 3) := by decide +kernel
theorem dX12_restore_22 : decode cX12_restore 22 = .ok (.iload_n 1, 1) := by decide +kernel
theorem dX12_restore_23 : decode cX12_restore 23 = .ok (.baload, 1) := by decide +kernel
theorem dX12_restore_24 : decode cX12_restore 24 = .ok (.ifCond .ne 6, 3) := by decide +kernel
theorem dX12_restore_27 : decode cX12_restore 27 = .ok (.bipush (-5), 2) := by decide +kernel
theorem dX12_restore_29 : decode cX12_restore 29 = .ok (.ireturn, 1) := by decide +kernel
theorem dX12_see_0 : decode cX12_see 0 = .ok (.iload_n 1, 1) := by decide +kernel
theorem dX12_see_1 : decode cX12_see 1 = .ok (.aload_n 0, 1) := by decide +kernel
theorem dX12_see_2 : decode cX12_see 2 = .ok (.getfield 86, 3) := by decide +kernel
theorem dX12_see_5 : decode cX12_see 5 = .ok (.if_icmp .ge 12, 3) := by decide +kernel
theorem dX12_see_17 : decode cX12_see 17 = .ok (.iconst (-1), 1) := by decide +kernel
theorem dX12_see_18 : decode cX12_see 18 = .ok (.ireturn, 1) := by decide +kernel
theorem dX12_send_0 : decode cX12_send 0 = .ok (.aload_n 0, 1) := by decide +kernel
theorem dX12_send_1 : decode cX12_send 1 = .ok (.iconst 0, 1) := by decide +kernel
theorem dX12_send_2 : decode cX12_send 2 = .ok (.putfield 1, 3) := by decide +kernel
theorem dX12_send_5 : decode cX12_send 5 = .ok (.aload_n 0, 1) := by decide +kernel
theorem dX12_send_6 : decode cX12_send 6 = .ok (.iload_n 1, 1) := by decide +kernel
theorem dX12_send_7 : decode cX12_send 7 = .ok (.iconst 1, 1) := by decide +kernel
theorem dX12_send_8 : decode cX12_send 8 = .ok (.invokevirtual 284, 3) := by decide +kernel
theorem dX12_send_11 : decode cX12_send 11 = .ok (.ireturn, 1) := by decide +kernel
theorem dX12_sits_0 : decode cX12_sits 0 = .ok (.aload_n 0, 1) := by decide +kernel
theorem dX12_sits_1 : decode cX12_sits 1 = .ok (.iconst 0, 1) := by decide +kernel
theorem dX12_sits_2 : decode cX12_sits 2 = .ok (.putfield 1, 3) := by decide +kernel
theorem dX12_sits_5 : decode cX12_sits 5 = .ok (.aload_n 0, 1) := by decide +kernel
theorem dX12_sits_6 : decode cX12_sits 6 = .ok (.iload_n 1, 1) := by decide +kernel
theorem dX12_sits_7 : decode cX12_sits 7 = .ok (.invokevirtual 349, 3) := by decide +kernel
theorem dX12_sits_10 : decode cX12_sits 10 = .ok (.ifCond .ne 8, 3) := by decide +kernel
theorem dX12_sits_13 : decode cX12_sits 13 = .ok (.bipush (-3), 2) := by decide +kernel
theorem dX12_sits_15 : decode cX12_sits 15 = .ok (.goto 16, 3) := by decide +kernel
theorem dX12_sits_18 : decode cX12_sits 18 = .ok (.aload_n 0, 1) := by decide +kernel
theorem dX12_sits_19 : decode cX12_sits 19 = .ok (.iload_n 1, 1) := by decide +kernel
theorem dX12_sits_20 : decode cX12_sits 20 = .ok (.invokevirtual 319, 3) := by decide +kernel
theorem dX12_sits_23 : decode cX12_sits 23 = .ok (.ifCond .eq 7, 3) := by decide +kernel
theorem dX12_sits_26 : decode cX12_sits 26 = .ok (.iconst 1, 1) := by decide +kernel
theorem dX12_sits_27 : decode cX12_sits 27 = .ok (.goto 4, 3) := by decide +kernel
theorem dX12_sits_31 : decode cX12_sits 31 = .ok (.ireturn, 1) := by decide +kernel
theorem dX12_sitsNow_0 : decode cX12_sitsNow 0 = .ok (.aload_n 0, 1) := by decide +kernel
theorem dX12_sitsNow_1 : decode cX12_sitsNow 1 = .ok (.invokevirtual 346, 3) := by decide +kernel
theorem dX12_sitsNow_4 : decode cX12_sitsNow 4 = .ok (.aload_n 0, 1) := by decide +kernel
theorem dX12_sitsNow_5 : decode cX12_sitsNow 5 = .ok (.getfield 45, 3) := by decide +kernel
theorem dX12_sitsNow_8 : decode cX12_sitsNow 8 = .ok (.iload_n 1, 1) := by decide +kernel
theorem dX12_sitsNow_9 : decode cX12_sitsNow 9 = .ok (.iaload, 1) := by decide +kernel
theorem dX12_sitsNow_10 : decode cX12_sitsNow 10 = .ok (.ifCond .le 7, 3) := by decide +kernel
theorem dX12_sitsNow_13 : decode cX12_sitsNow 13 = .ok (.iconst 1, 1) := by decide +kernel
theorem dX12_sitsNow_14 : decode cX12_sitsNow 14 = .ok (.goto 4, 3) := by decide +kernel
theorem dX12_sitsNow_18 : decode cX12_sitsNow 18 = .ok (.ireturn, 1) := by decide +kernel
theorem dX12_takes_0 : decode cX12_takes 0 = .ok (.aload_n 0, 1) := by decide +kernel
theorem dX12_takes_1 : decode cX12_takes 1 = .ok (.bipush 25, 2) := by decide +kernel
theorem dX12_takes_3 : decode cX12_takes 3 = .ok (.invokevirtual 135, 3) := by decide +kernel
theorem dX12_takes_6 : decode cX12_takes 6 = .ok (.ifCond .ne 11, 3) := by decide +kernel
theorem dX12_takes_9 : decode cX12_takes 9 = .ok (.aload_n 0, 1) := by decide +kernel
theorem dX12_takes_10 : decode cX12_takes 10 = .ok (.iconst 2, 1) := by decide +kernel
theorem dX12_takes_11 : decode cX12_takes 11 = .ok (.invokevirtual 141, 3) := by decide +kernel
theorem dX12_takes_14 : decode cX12_takes 14 = .ok (.goto 23, 3) := by decide +kernel
theorem dX12_takes_37 : decode cX12_takes 37 = .ok (.aload_n 0, 1) := by decide +kernel
theorem dX12_takes_38 : decode cX12_takes 38 = .ok (.getfield 124, 3) := by decide +kernel
theorem dX12_takes_41 : decode cX12_takes 41 = .ok (.istore_n 3, 1) := by decide +kernel
theorem dX12_takes_42 : decode cX12_takes 42 = .ok (.aload_n 0, 1) := by decide +kernel
theorem dX12_takes_43 : decode cX12_takes 43 = .ok (.getfield 129, 3) := by decide +kernel
theorem dX12_takes_46 : decode cX12_takes 46 = .ok (.ifCond .ne 7, 3) := by decide +kernel
theorem dX12_takes_53 : decode cX12_takes 53 = .ok (.iload_n 3, 1) := by decide +kernel
theorem dX12_takes_54 : decode cX12_takes 54 = .ok (.ireturn, 1) := by decide +kernel
theorem dX12_talk_0 : decode cX12_talk 0 = .ok (.aload_n 0, 1) := by decide +kernel
theorem dX12_talk_1 : decode cX12_talk 1 = .ok (.iconst 0, 1) := by decide +kernel
theorem dX12_talk_2 : decode cX12_talk 2 = .ok (.putfield 1, 3) := by decide +kernel
theorem dX12_talk_5 : decode cX12_talk 5 = .ok (.aload_n 0, 1) := by decide +kernel
theorem dX12_talk_6 : decode cX12_talk 6 = .ok (.iload_n 1, 1) := by decide +kernel
theorem dX12_talk_7 : decode cX12_talk 7 = .ok (.i2l, 1) := by decide +kernel
theorem dX12_talk_8 : decode cX12_talk 8 = .ok (.iload_n 2, 1) := by decide +kernel
theorem dX12_talk_9 : decode cX12_talk 9 = .ok (.i2l, 1) := by decide +kernel
theorem dX12_talk_10 : decode cX12_talk 10 = .ok (.invokevirtual 263, 3) := by decide +kernel
theorem dX12_talk_13 : decode cX12_talk 13 = .ok (.istore_n 3, 1) := by decide +kernel
theorem dX12_talk_14 : decode cX12_talk 14 = .ok (.iload_n 3, 1) := by decide +kernel
theorem dX12_talk_15 : decode cX12_talk 15 = .ok (.ifCond .eq 8, 3) := by decide +kernel
theorem dX12_talk_18 : decode cX12_talk 18 = .ok (.bipush (-10), 2) := by decide +kernel
theorem dX12_talk_20 : decode cX12_talk 20 = .ok (.iload_n 3, 1) := by decide +kernel
theorem dX12_talk_21 : decode cX12_talk 21 = .ok (.isub, 1) := by decide +kernel
theorem dX12_talk_22 : decode cX12_talk 22 = .ok (.ireturn, 1) := by decide +kernel
theorem dX12_talkBy_0 : decode cX12_talkBy 0 = .ok (.aload_n 0, 1) := by decide +kernel
theorem dX12_talkBy_1 : decode cX12_talkBy 1 = .ok (.iconst 0, 1) := by decide +kernel
theorem dX12_talkBy_2 : decode cX12_talkBy 2 = .ok (.putfield 1, 3) := by decide +kernel
theorem dX12_talkBy_5 : decode cX12_talkBy 5 = .ok (.aload_n 0, 1) := by decide +kernel
theorem dX12_talkBy_6 : decode cX12_talkBy 6 = .ok (.iload_n 1, 1) := by decide +kernel
theorem dX12_talkBy_7 : decode cX12_talkBy 7 = .ok (.iload_n 2, 1) := by decide +kernel
theorem dX12_talkBy_8 : decode cX12_talkBy 8 = .ok (.invokevirtual 384, 3) := by decide +kernel
theorem dX12_talkBy_11 : decode cX12_talkBy 11 = .ok (.ifCond .ne 6, 3) := by decide +kernel
theorem dX12_talkBy_14 : decode cX12_talkBy 14 = .ok (.bipush (-2), 2) := by decide +kernel
theorem dX12_talkBy_16 : decode cX12_talkBy 16 = .ok (.ireturn, 1) := by decide +kernel
theorem dX12_talks_0 : decode cX12_talks 0 = .ok (.aload_n 0, 1) := by decide +kernel
theorem dX12_talks_1 : decode cX12_talks 1 = .ok (.iconst 0, 1) := by decide +kernel
theorem dX12_talks_2 : decode cX12_talks 2 = .ok (.putfield 1, 3) := by decide +kernel
theorem dX12_talks_5 : decode cX12_talks 5 = .ok (.aload_n 0, 1) := by decide +kernel
theorem dX12_talks_6 : decode cX12_talks 6 = .ok (.iload_n 1, 1) := by decide +kernel
theorem dX12_talks_7 : decode cX12_talks 7 = .ok (.iload_n 2, 1) := by decide +kernel
theorem dX12_talks_8 : decode cX12_talks 8 = .ok (.invokevirtual 384, 3) := by decide +kernel
theorem dX12_talks_11 : decode cX12_talks 11 = .ok (.ifCond .eq 12, 3) := by decide +kernel
theorem dX12_talks_23 : decode cX12_talks 23 = .ok (.bipush (-2), 2) := by decide +kernel
theorem dX12_talks_25 : decode cX12_talks 25 = .ok (.ireturn, 1) := by decide +kernel
theorem dX12_tens_0 : decode cX12_tens 0 = .ok (.lconst 1, 1) := by decide +kernel
theorem dX12_tens_1 : decode cX12_tens 1 = .ok (.lstore_n 1, 1) := by decide +kernel
theorem dX12_tens_2 : decode cX12_tens 2 = .ok (.iconst 0, 1) := by decide +kernel
theorem dX12_tens_3 : decode cX12_tens 3 = .ok (.istore_n 3, 1) := by decide +kernel
theorem dX12_tens_4 : decode cX12_tens 4 = .ok (.iload_n 3, 1) := by decide +kernel
theorem dX12_tens_5 : decode cX12_tens 5 = .ok (.iload_n 0, 1) := by decide +kernel
theorem dX12_tens_6 : decode cX12_tens 6 = .ok (.if_icmp .ge 15, 3) := by decide +kernel
theorem dX12_tens_21 : decode cX12_tens 21 = .ok (.lload_n 1, 1) := by decide +kernel
theorem dX12_tens_22 : decode cX12_tens 22 = .ok (.lreturn, 1) := by decide +kernel
theorem dX12_town_0 : decode cX12_town 0 = .ok (.aload_n 0, 1) := by decide +kernel
theorem dX12_town_1 : decode cX12_town 1 = .ok (.iconst 0, 1) := by decide +kernel
theorem dX12_town_2 : decode cX12_town 2 = .ok (.putfield 1, 3) := by decide +kernel
theorem dX12_town_5 : decode cX12_town 5 = .ok (.iload_n 1, 1) := by decide +kernel
theorem dX12_town_6 : decode cX12_town 6 = .ok (.i2l, 1) := by decide +kernel
theorem dX12_town_7 : decode cX12_town 7 = .ok (.lconst 0, 1) := by decide +kernel
theorem dX12_town_8 : decode cX12_town 8 = .ok (.ldc2_w 258, 3) := by decide +kernel
theorem dX12_town_11 : decode cX12_town 11 = .ok (.invokestatic 145, 3) := by decide +kernel
theorem dX12_town_14 : decode cX12_town 14 = .ok (.ifCond .eq 19, 3) := by decide +kernel
theorem dX12_town_17 : decode cX12_town 17 = .ok (.aload_n 0, 1) := by decide +kernel
theorem dX12_town_18 : decode cX12_town 18 = .ok (.aload_n 0, 1) := by decide +kernel
theorem dX12_town_19 : decode cX12_town 19 = .ok (.getfield 13, 3) := by decide +kernel
theorem dX12_town_22 : decode cX12_town 22 = .ok (.bipush 52, 2) := by decide +kernel
theorem dX12_town_24 : decode cX12_town 24 = .ok (.iaload, 1) := by decide +kernel
theorem dX12_town_25 : decode cX12_town 25 = .ok (.iload_n 1, 1) := by decide +kernel
theorem dX12_town_26 : decode cX12_town 26 = .ok (.iadd, 1) := by decide +kernel
theorem dX12_town_27 : decode cX12_town 27 = .ok (.invokevirtual 220, 3) := by decide +kernel
theorem dX12_town_30 : decode cX12_town 30 = .ok (.goto 5, 3) := by decide +kernel
theorem dX12_town_33 : decode cX12_town 33 = .ok (.bipush (-3), 2) := by decide +kernel
theorem dX12_town_35 : decode cX12_town 35 = .ok (.ireturn, 1) := by decide +kernel
theorem dX12_townNow_0 : decode cX12_townNow 0 = .ok (.aload_n 0, 1) := by decide +kernel
theorem dX12_townNow_1 : decode cX12_townNow 1 = .ok (.aload_n 0, 1) := by decide +kernel
theorem dX12_townNow_2 : decode cX12_townNow 2 = .ok (.getfield 13, 3) := by decide +kernel
theorem dX12_townNow_5 : decode cX12_townNow 5 = .ok (.bipush 52, 2) := by decide +kernel
theorem dX12_townNow_7 : decode cX12_townNow 7 = .ok (.iaload, 1) := by decide +kernel
theorem dX12_townNow_8 : decode cX12_townNow 8 = .ok (.invokevirtual 220, 3) := by decide +kernel
theorem dX12_townNow_11 : decode cX12_townNow 11 = .ok (.ireturn, 1) := by decide +kernel
theorem dX12_townOn_0 : decode cX12_townOn 0 = .ok (.iconst 0, 1) := by decide +kernel
theorem dX12_townOn_1 : decode cX12_townOn 1 = .ok (.istore_n 2, 1) := by decide +kernel
theorem dX12_townOn_2 : decode cX12_townOn 2 = .ok (.iconst 0, 1) := by decide +kernel
theorem dX12_townOn_3 : decode cX12_townOn 3 = .ok (.istore_n 3, 1) := by decide +kernel
theorem dX12_townOn_4 : decode cX12_townOn 4 = .ok (.iload_n 3, 1) := by decide +kernel
theorem dX12_townOn_5 : decode cX12_townOn 5 = .ok (.aload_n 0, 1) := by decide +kernel
theorem dX12_townOn_6 : decode cX12_townOn 6 = .ok (.getfield 13, 3) := by decide +kernel
theorem dX12_townOn_9 : decode cX12_townOn 9 = .ok (.iconst 2, 1) := by decide +kernel
theorem dX12_townOn_10 : decode cX12_townOn 10 = .ok (.iaload, 1) := by decide +kernel
theorem dX12_townOn_11 : decode cX12_townOn 11 = .ok (.if_icmp .ge 47, 3) := by decide +kernel
theorem dX12_townOn_58 : decode cX12_townOn 58 = .ok (.iload_n 2, 1) := by decide +kernel
theorem dX12_townOn_59 : decode cX12_townOn 59 = .ok (.aload_n 0, 1) := by decide +kernel
theorem dX12_townOn_60 : decode cX12_townOn 60 = .ok (.getfield 13, 3) := by decide +kernel
theorem dX12_townOn_63 : decode cX12_townOn 63 = .ok (.bipush 53, 2) := by decide +kernel
theorem dX12_townOn_65 : decode cX12_townOn 65 = .ok (.iaload, 1) := by decide +kernel
theorem dX12_townOn_66 : decode cX12_townOn 66 = .ok (.iconst (-1), 1) := by decide +kernel
theorem dX12_townOn_67 : decode cX12_townOn 67 = .ok (.ixor, 1) := by decide +kernel
theorem dX12_townOn_68 : decode cX12_townOn 68 = .ok (.iand, 1) := by decide +kernel
theorem dX12_townOn_69 : decode cX12_townOn 69 = .ok (.ireturn, 1) := by decide +kernel
theorem dX12_twosNow_0 : decode cX12_twosNow 0 = .ok (.aload_n 0, 1) := by decide +kernel
theorem dX12_twosNow_1 : decode cX12_twosNow 1 = .ok (.aload_n 0, 1) := by decide +kernel
theorem dX12_twosNow_2 : decode cX12_twosNow 2 = .ok (.getfield 13, 3) := by decide +kernel
theorem dX12_twosNow_5 : decode cX12_twosNow 5 = .ok (.bipush 52, 2) := by decide +kernel
theorem dX12_twosNow_7 : decode cX12_twosNow 7 = .ok (.iaload, 1) := by decide +kernel
theorem dX12_twosNow_8 : decode cX12_twosNow 8 = .ok (.invokevirtual 340, 3) := by decide +kernel
theorem dX12_twosNow_11 : decode cX12_twosNow 11 = .ok (.iconst 0, 1) := by decide +kernel
theorem dX12_twosNow_12 : decode cX12_twosNow 12 = .ok (.istore_n 1, 1) := by decide +kernel
theorem dX12_twosNow_13 : decode cX12_twosNow 13 = .ok (.iconst 0, 1) := by decide +kernel
theorem dX12_twosNow_14 : decode cX12_twosNow 14 = .ok (.istore_n 2, 1) := by decide +kernel
theorem dX12_twosNow_15 : decode cX12_twosNow 15 = .ok (.iload_n 2, 1) := by decide +kernel
theorem dX12_twosNow_16 : decode cX12_twosNow 16 = .ok (.aload_n 0, 1) := by decide +kernel
theorem dX12_twosNow_17 : decode cX12_twosNow 17 = .ok (.getfield 13, 3) := by decide +kernel
theorem dX12_twosNow_20 : decode cX12_twosNow 20 = .ok (.iconst 2, 1) := by decide +kernel
theorem dX12_twosNow_21 : decode cX12_twosNow 21 = .ok (.iaload, 1) := by decide +kernel
theorem dX12_twosNow_22 : decode cX12_twosNow 22 = .ok (.if_icmp .ge 21, 3) := by decide +kernel
theorem dX12_twosNow_43 : decode cX12_twosNow 43 = .ok (.iload_n 1, 1) := by decide +kernel
theorem dX12_twosNow_44 : decode cX12_twosNow 44 = .ok (.iconst 2, 1) := by decide +kernel
theorem dX12_twosNow_45 : decode cX12_twosNow 45 = .ok (.idiv, 1) := by decide +kernel
theorem dX12_twosNow_46 : decode cX12_twosNow 46 = .ok (.ireturn, 1) := by decide +kernel
theorem dX12_undo_0 : decode cX12_undo 0 = .ok (.aload_n 0, 1) := by decide +kernel
theorem dX12_undo_1 : decode cX12_undo 1 = .ok (.iconst 0, 1) := by decide +kernel
theorem dX12_undo_2 : decode cX12_undo 2 = .ok (.putfield 1, 3) := by decide +kernel
theorem dX12_undo_5 : decode cX12_undo 5 = .ok (.iload_n 1, 1) := by decide +kernel
theorem dX12_undo_6 : decode cX12_undo 6 = .ok (.i2l, 1) := by decide +kernel
theorem dX12_undo_7 : decode cX12_undo 7 = .ok (.lconst 1, 1) := by decide +kernel
theorem dX12_undo_8 : decode cX12_undo 8 = .ok (.ldc2_w 289, 3) := by decide +kernel
theorem dX12_undo_11 : decode cX12_undo 11 = .ok (.invokestatic 145, 3) := by decide +kernel
theorem dX12_undo_14 : decode cX12_undo 14 = .ok (.ifCond .eq 14, 3) := by decide +kernel
theorem dX12_undo_17 : decode cX12_undo 17 = .ok (.iload_n 1, 1) := by decide +kernel
theorem dX12_undo_18 : decode cX12_undo 18 = .ok (.aload_n 0, 1) := by decide +kernel
theorem dX12_undo_19 : decode cX12_undo 19 = .ok (.getfield 13, 3) := by decide +kernel
theorem dX12_undo_22 : decode cX12_undo 22 = .ok (.bipush 84, 2) := by decide +kernel
theorem dX12_undo_24 : decode cX12_undo 24 = .ok (.iaload, 1) := by decide +kernel
theorem dX12_undo_25 : decode cX12_undo 25 = .ok (.if_icmp .le 6, 3) := by decide +kernel
theorem dX12_undo_28 : decode cX12_undo 28 = .ok (.bipush (-3), 2) := by decide +kernel
theorem dX12_undo_30 : decode cX12_undo 30 = .ok (.ireturn, 1) := by decide +kernel
theorem dX12_ways_0 : decode cX12_ways 0 = .ok (.aload_n 0, 1) := by decide +kernel
theorem dX12_ways_1 : decode cX12_ways 1 = .ok (.iconst 0, 1) := by decide +kernel
theorem dX12_ways_2 : decode cX12_ways 2 = .ok (.putfield 1, 3) := by decide +kernel
theorem dX12_ways_5 : decode cX12_ways 5 = .ok (.aload_n 0, 1) := by decide +kernel
theorem dX12_ways_6 : decode cX12_ways 6 = .ok (.iload_n 1, 1) := by decide +kernel
theorem dX12_ways_7 : decode cX12_ways 7 = .ok (.invokevirtual 349, 3) := by decide +kernel
theorem dX12_ways_10 : decode cX12_ways 10 = .ok (.ifCond .ne 6, 3) := by decide +kernel
theorem dX12_ways_13 : decode cX12_ways 13 = .ok (.bipush (-3), 2) := by decide +kernel
theorem dX12_ways_15 : decode cX12_ways 15 = .ok (.ireturn, 1) := by decide +kernel
theorem dX12_ways_16 : decode cX12_ways 16 = .ok (.aload_n 0, 1) := by decide +kernel
theorem dX12_ways_17 : decode cX12_ways 17 = .ok (.invokevirtual 346, 3) := by decide +kernel
theorem dX12_ways_20 : decode cX12_ways 20 = .ok (.aload_n 0, 1) := by decide +kernel
theorem dX12_ways_21 : decode cX12_ways 21 = .ok (.getfield 45, 3) := by decide +kernel
theorem dX12_ways_24 : decode cX12_ways 24 = .ok (.iload_n 1, 1) := by decide +kernel
theorem dX12_ways_25 : decode cX12_ways 25 = .ok (.iaload, 1) := by decide +kernel
theorem dX12_ways_26 : decode cX12_ways 26 = .ok (.ireturn, 1) := by decide +kernel
theorem dX12_whySend_0 : decode cX12_whySend 0 = .ok (.aload_n 0, 1) := by decide +kernel
theorem dX12_whySend_1 : decode cX12_whySend 1 = .ok (.lload_n 1, 1) := by decide +kernel
theorem dX12_whySend_2 : decode cX12_whySend 2 = .ok (.invokevirtual 245, 3) := by decide +kernel
theorem dX12_whySend_5 : decode cX12_whySend 5 = .ok (.ifCond .ne 7, 3) := by decide +kernel
theorem dX12_whySend_8 : decode cX12_whySend 8 = .ok (.iconst 1, 1) := by decide +kernel
theorem dX12_whySend_9 : decode cX12_whySend 9 = .ok (.goto 24, 3) := by decide +kernel
theorem dX12_whySend_33 : decode cX12_whySend 33 = .ok (.ireturn, 1) := by decide +kernel
theorem dX12_whyTalk_0 : decode cX12_whyTalk 0 = .ok (.aload_n 0, 1) := by decide +kernel
theorem dX12_whyTalk_1 : decode cX12_whyTalk 1 = .ok (.lload_n 1, 1) := by decide +kernel
theorem dX12_whyTalk_2 : decode cX12_whyTalk 2 = .ok (.invokevirtual 245, 3) := by decide +kernel
theorem dX12_whyTalk_5 : decode cX12_whyTalk 5 = .ok (.ifCond .eq 17, 3) := by decide +kernel
theorem dX12_whyTalk_22 : decode cX12_whyTalk 22 = .ok (.iconst 1, 1) := by decide +kernel
theorem dX12_whyTalk_23 : decode cX12_whyTalk 23 = .ok (.ireturn, 1) := by decide +kernel
theorem dX12_within_0 : decode cX12_within 0 = .ok (.lload_n 0, 1) := by decide +kernel
theorem dX12_within_1 : decode cX12_within 1 = .ok (.lload_n 2, 1) := by decide +kernel
theorem dX12_within_2 : decode cX12_within 2 = .ok (.lcmp, 1) := by decide +kernel
theorem dX12_within_3 : decode cX12_within 3 = .ok (.ifCond .lt 14, 3) := by decide +kernel
theorem dX12_within_6 : decode cX12_within 6 = .ok (.lload_n 0, 1) := by decide +kernel
theorem dX12_within_7 : decode cX12_within 7 = .ok (.lload 4, 2) := by decide +kernel
theorem dX12_within_9 : decode cX12_within 9 = .ok (.lcmp, 1) := by decide +kernel
theorem dX12_within_10 : decode cX12_within 10 = .ok (.ifCond .gt 7, 3) := by decide +kernel
theorem dX12_within_13 : decode cX12_within 13 = .ok (.iconst 1, 1) := by decide +kernel
theorem dX12_within_14 : decode cX12_within 14 = .ok (.goto 4, 3) := by decide +kernel
theorem dX12_within_17 : decode cX12_within 17 = .ok (.iconst 0, 1) := by decide +kernel
theorem dX12_within_18 : decode cX12_within 18 = .ok (.ireturn, 1) := by decide +kernel
theorem dX12_word_0 : decode cX12_word 0 = .ok (.aload_n 0, 1) := by decide +kernel
theorem dX12_word_1 : decode cX12_word 1 = .ok (.iconst 0, 1) := by decide +kernel
theorem dX12_word_2 : decode cX12_word 2 = .ok (.putfield 1, 3) := by decide +kernel
theorem dX12_word_5 : decode cX12_word 5 = .ok (.aload_n 0, 1) := by decide +kernel
theorem dX12_word_6 : decode cX12_word 6 = .ok (.aload_n 0, 1) := by decide +kernel
theorem dX12_word_7 : decode cX12_word 7 = .ok (.invokevirtual 255, 3) := by decide +kernel
theorem dX12_word_10 : decode cX12_word 10 = .ok (.invokevirtual 319, 3) := by decide +kernel
theorem dX12_word_13 : decode cX12_word 13 = .ok (.ifCond .eq 5, 3) := by decide +kernel
theorem dX12_word_16 : decode cX12_word 16 = .ok (.iconst (-1), 1) := by decide +kernel
theorem dX12_word_17 : decode cX12_word 17 = .ok (.ireturn, 1) := by decide +kernel
theorem dX12_write_0 : decode cX12_write 0 = .ok (.aload_n 0, 1) := by decide +kernel
theorem dX12_write_1 : decode cX12_write 1 = .ok (.iconst 0, 1) := by decide +kernel
theorem dX12_write_2 : decode cX12_write 2 = .ok (.putfield 1, 3) := by decide +kernel
theorem dX12_write_5 : decode cX12_write 5 = .ok (.aload_n 0, 1) := by decide +kernel
theorem dX12_write_6 : decode cX12_write 6 = .ok (.iload_n 1, 1) := by decide +kernel
theorem dX12_write_7 : decode cX12_write 7 = .ok (.invokevirtual 313, 3) := by decide +kernel
theorem dX12_write_10 : decode cX12_write 10 = .ok (.istore 5, 2) := by decide +kernel
theorem dX12_write_12 : decode cX12_write 12 = .ok (.iload 5, 2) := by decide +kernel
theorem dX12_write_14 : decode cX12_write 14 = .ok (.ifCond .eq 7, 3) := by decide +kernel
theorem dX12_write_17 : decode cX12_write 17 = .ok (.iload 5, 2) := by decide +kernel
theorem dX12_write_19 : decode cX12_write 19 = .ok (.i2l, 1) := by decide +kernel
theorem dX12_write_20 : decode cX12_write 20 = .ok (.lreturn, 1) := by decide +kernel
theorem dX1_init_0 : decode cX1_init 0 = .ok (.aload_n 0, 1) := by decide +kernel
theorem dX1_init_1 : decode cX1_init 1 = .ok (.invokespecial 3, 3) := by decide +kernel
theorem dX1_init_4 : decode cX1_init 4 = .ok (.aload_n 0, 1) := by decide +kernel
theorem dX1_init_5 : decode cX1_init 5 = .ok (.iconst (-1), 1) := by decide +kernel
theorem dX1_init_6 : decode cX1_init 6 = .ok (.putfield 9, 3) := by decide +kernel
theorem dX1_init_9 : decode cX1_init 9 = .ok (.aload_n 0, 1) := by decide +kernel
theorem dX1_init_10 : decode cX1_init 10 = .ok (.iconst (-1), 1) := by decide +kernel
theorem dX1_init_11 : decode cX1_init 11 = .ok (.putfield 15, 3) := by decide +kernel
theorem dX1_init_14 : decode cX1_init 14 = .ok (.aload_n 0, 1) := by decide +kernel
theorem dX1_init_15 : decode cX1_init 15 = .ok (.iconst (-1), 1) := by decide +kernel
theorem dX1_init_16 : decode cX1_init 16 = .ok (.putfield 18, 3) := by decide +kernel
theorem dX1_init_19 : decode cX1_init 19 = .ok (.aload_n 0, 1) := by decide +kernel
theorem dX1_init_20 : decode cX1_init 20 = .ok (.iconst 0, 1) := by decide +kernel
theorem dX1_init_21 : decode cX1_init 21 = .ok (.putfield 21, 3) := by decide +kernel
theorem dX1_init_24 : decode cX1_init 24 = .ok (.aload_n 0, 1) := by decide +kernel
theorem dX1_init_25 : decode cX1_init 25 = .ok (.sipush 1000, 3) := by decide +kernel
theorem dX1_init_28 : decode cX1_init 28 = .ok (.newarray .int, 2) := by decide +kernel
theorem dX1_init_30 : decode cX1_init 30 = .ok (.putfield 24, 3) := by decide +kernel
theorem dX1_init_33 : decode cX1_init 33 = .ok (.return_, 1) := by decide +kernel
theorem dX2_add_0 : decode cX2_add 0 = .ok (.aload_n 0, 1) := by decide +kernel
theorem dX2_add_1 : decode cX2_add 1 = .ok (.getfield 9, 3) := by decide +kernel
theorem dX2_add_4 : decode cX2_add 4 = .ok (.bipush 10, 2) := by decide +kernel
theorem dX2_add_6 : decode cX2_add 6 = .ok (.if_icmp .lt 54, 3) := by decide +kernel
theorem dX2_add_60 : decode cX2_add 60 = .ok (.aload_n 0, 1) := by decide +kernel
theorem dX2_add_61 : decode cX2_add 61 = .ok (.getfield 17, 3) := by decide +kernel
theorem dX2_add_64 : decode cX2_add 64 = .ok (.aload_n 0, 1) := by decide +kernel
theorem dX2_add_65 : decode cX2_add 65 = .ok (.getfield 9, 3) := by decide +kernel
theorem dX2_add_68 : decode cX2_add 68 = .ok (.aaload, 1) := by decide +kernel
theorem dX2_add_69 : decode cX2_add 69 = .ok (.aload_n 1, 1) := by decide +kernel
theorem dX2_add_70 : decode cX2_add 70 = .ok (.invokevirtual 24, 3) := by decide +kernel
theorem dX2_add_73 : decode cX2_add 73 = .ok (.aload_n 0, 1) := by decide +kernel
theorem dX2_add_74 : decode cX2_add 74 = .ok (.dup, 1) := by decide +kernel
theorem dX2_add_75 : decode cX2_add 75 = .ok (.getfield 9, 3) := by decide +kernel
theorem dX2_add_78 : decode cX2_add 78 = .ok (.iconst 1, 1) := by decide +kernel
theorem dX2_add_79 : decode cX2_add 79 = .ok (.iadd, 1) := by decide +kernel
theorem dX2_add_80 : decode cX2_add 80 = .ok (.putfield 9, 3) := by decide +kernel
theorem dX2_add_83 : decode cX2_add 83 = .ok (.return_, 1) := by decide +kernel
theorem dX2_init_0 : decode cX2_init 0 = .ok (.aload_n 0, 1) := by decide +kernel
theorem dX2_init_1 : decode cX2_init 1 = .ok (.invokespecial 3, 3) := by decide +kernel
theorem dX2_init_4 : decode cX2_init 4 = .ok (.aload_n 0, 1) := by decide +kernel
theorem dX2_init_5 : decode cX2_init 5 = .ok (.iconst 0, 1) := by decide +kernel
theorem dX2_init_6 : decode cX2_init 6 = .ok (.putfield 9, 3) := by decide +kernel
theorem dX2_init_9 : decode cX2_init 9 = .ok (.aload_n 0, 1) := by decide +kernel
theorem dX2_init_10 : decode cX2_init 10 = .ok (.bipush 10, 2) := by decide +kernel
theorem dX2_init_12 : decode cX2_init 12 = .ok (.anewarray 15, 3) := by decide +kernel
theorem dX2_init_15 : decode cX2_init 15 = .ok (.putfield 17, 3) := by decide +kernel
theorem dX2_init_18 : decode cX2_init 18 = .ok (.iconst 0, 1) := by decide +kernel
theorem dX2_init_19 : decode cX2_init 19 = .ok (.istore_n 2, 1) := by decide +kernel
theorem dX2_init_20 : decode cX2_init 20 = .ok (.iload_n 2, 1) := by decide +kernel
theorem dX2_init_21 : decode cX2_init 21 = .ok (.bipush 10, 2) := by decide +kernel
theorem dX2_init_23 : decode cX2_init 23 = .ok (.if_icmp .ge 23, 3) := by decide +kernel
theorem dX2_init_26 : decode cX2_init 26 = .ok (.aload_n 0, 1) := by decide +kernel
theorem dX2_init_27 : decode cX2_init 27 = .ok (.getfield 17, 3) := by decide +kernel
theorem dX2_init_30 : decode cX2_init 30 = .ok (.iload_n 2, 1) := by decide +kernel
theorem dX2_init_31 : decode cX2_init 31 = .ok (.new 15, 3) := by decide +kernel
theorem dX2_init_34 : decode cX2_init 34 = .ok (.dup, 1) := by decide +kernel
theorem dX2_init_35 : decode cX2_init 35 = .ok (.aload_n 1, 1) := by decide +kernel
theorem dX2_init_36 : decode cX2_init 36 = .ok (.invokespecial 21, 3) := by decide +kernel
theorem dX2_init_39 : decode cX2_init 39 = .ok (.aastore, 1) := by decide +kernel
theorem dX2_init_40 : decode cX2_init 40 = .ok (.iinc 2 1, 3) := by decide +kernel
theorem dX2_init_43 : decode cX2_init 43 = .ok (.goto (-23), 3) := by decide +kernel
theorem dX2_init_46 : decode cX2_init 46 = .ok (.return_, 1) := by decide +kernel
theorem dX3_init_0 : decode cX3_init 0 = .ok (.aload_n 0, 1) := by decide +kernel
theorem dX3_init_1 : decode cX3_init 1 = .ok (.invokespecial 3, 3) := by decide +kernel
theorem dX3_init_4 : decode cX3_init 4 = .ok (.aload_n 0, 1) := by decide +kernel
theorem dX3_init_5 : decode cX3_init 5 = .ok (.iconst 1, 1) := by decide +kernel
theorem dX3_init_6 : decode cX3_init 6 = .ok (.putfield 9, 3) := by decide +kernel
theorem dX3_init_9 : decode cX3_init 9 = .ok (.aload_n 0, 1) := by decide +kernel
theorem dX3_init_10 : decode cX3_init 10 = .ok (.iconst 0, 1) := by decide +kernel
theorem dX3_init_11 : decode cX3_init 11 = .ok (.putfield 15, 3) := by decide +kernel
theorem dX3_init_14 : decode cX3_init 14 = .ok (.aload_n 0, 1) := by decide +kernel
theorem dX3_init_15 : decode cX3_init 15 = .ok (.iconst 0, 1) := by decide +kernel
theorem dX3_init_16 : decode cX3_init 16 = .ok (.putfield 18, 3) := by decide +kernel
theorem dX3_init_19 : decode cX3_init 19 = .ok (.aload_n 0, 1) := by decide +kernel
theorem dX3_init_20 : decode cX3_init 20 = .ok (.iconst 0, 1) := by decide +kernel
theorem dX3_init_21 : decode cX3_init 21 = .ok (.putfield 21, 3) := by decide +kernel
theorem dX3_init_24 : decode cX3_init 24 = .ok (.aload_n 0, 1) := by decide +kernel
theorem dX3_init_25 : decode cX3_init 25 = .ok (.aconst_null, 1) := by decide +kernel
theorem dX3_init_26 : decode cX3_init 26 = .ok (.putfield 24, 3) := by decide +kernel
theorem dX3_init_29 : decode cX3_init 29 = .ok (.aload_n 0, 1) := by decide +kernel
theorem dX3_init_30 : decode cX3_init 30 = .ok (.aconst_null, 1) := by decide +kernel
theorem dX3_init_31 : decode cX3_init 31 = .ok (.putfield 28, 3) := by decide +kernel
theorem dX3_init_34 : decode cX3_init 34 = .ok (.aload_n 0, 1) := by decide +kernel
theorem dX3_init_35 : decode cX3_init 35 = .ok (.aconst_null, 1) := by decide +kernel
theorem dX3_init_36 : decode cX3_init 36 = .ok (.putfield 31, 3) := by decide +kernel
theorem dX3_init_39 : decode cX3_init 39 = .ok (.aload_n 0, 1) := by decide +kernel
theorem dX3_init_40 : decode cX3_init 40 = .ok (.bipush 10, 2) := by decide +kernel
theorem dX3_init_42 : decode cX3_init 42 = .ok (.newarray .int, 2) := by decide +kernel
theorem dX3_init_44 : decode cX3_init 44 = .ok (.putfield 34, 3) := by decide +kernel
theorem dX3_init_47 : decode cX3_init 47 = .ok (.aload_n 0, 1) := by decide +kernel
theorem dX3_init_48 : decode cX3_init 48 = .ok (.bipush 10, 2) := by decide +kernel
theorem dX3_init_50 : decode cX3_init 50 = .ok (.newarray .int, 2) := by decide +kernel
theorem dX3_init_52 : decode cX3_init 52 = .ok (.putfield 38, 3) := by decide +kernel
theorem dX3_init_55 : decode cX3_init 55 = .ok (.aload_n 0, 1) := by decide +kernel
theorem dX3_init_56 : decode cX3_init 56 = .ok (.bipush 10, 2) := by decide +kernel
theorem dX3_init_58 : decode cX3_init 58 = .ok (.newarray .int, 2) := by decide +kernel
theorem dX3_init_60 : decode cX3_init 60 = .ok (.putfield 41, 3) := by decide +kernel
theorem dX3_init_63 : decode cX3_init 63 = .ok (.aload_n 0, 1) := by decide +kernel
theorem dX3_init_64 : decode cX3_init 64 = .ok (.bipush 10, 2) := by decide +kernel
theorem dX3_init_66 : decode cX3_init 66 = .ok (.newarray .int, 2) := by decide +kernel
theorem dX3_init_68 : decode cX3_init 68 = .ok (.putfield 44, 3) := by decide +kernel
theorem dX3_init_71 : decode cX3_init 71 = .ok (.aload_n 0, 1) := by decide +kernel
theorem dX3_init_72 : decode cX3_init 72 = .ok (.bipush 10, 2) := by decide +kernel
theorem dX3_init_74 : decode cX3_init 74 = .ok (.newarray .int, 2) := by decide +kernel
theorem dX3_init_76 : decode cX3_init 76 = .ok (.putfield 47, 3) := by decide +kernel
theorem dX3_init_79 : decode cX3_init 79 = .ok (.return_, 1) := by decide +kernel
theorem dX5_advance_0 : decode cX5_advance 0 = .ok (.aload_n 0, 1) := by decide +kernel
theorem dX5_advance_1 : decode cX5_advance 1 = .ok (.getfield 25, 3) := by decide +kernel
theorem dX5_advance_4 : decode cX5_advance 4 = .ok (.ifCond .ne 19, 3) := by decide +kernel
theorem dX5_advance_7 : decode cX5_advance 7 = .ok (.aload_n 0, 1) := by decide +kernel
theorem dX5_advance_8 : decode cX5_advance 8 = .ok (.getfield 18, 3) := by decide +kernel
theorem dX5_advance_11 : decode cX5_advance 11 = .ok (.iconst 1, 1) := by decide +kernel
theorem dX5_advance_12 : decode cX5_advance 12 = .ok (.iadd, 1) := by decide +kernel
theorem dX5_advance_13 : decode cX5_advance 13 = .ok (.aload_n 0, 1) := by decide +kernel
theorem dX5_advance_14 : decode cX5_advance 14 = .ok (.getfield 12, 3) := by decide +kernel
theorem dX5_advance_17 : decode cX5_advance 17 = .ok (.getfield 69, 3) := by decide +kernel
theorem dX5_advance_20 : decode cX5_advance 20 = .ok (.if_icmp .lt 4, 3) := by decide +kernel
theorem dX5_advance_24 : decode cX5_advance 24 = .ok (.aload_n 0, 1) := by decide +kernel
theorem dX5_advance_25 : decode cX5_advance 25 = .ok (.dup, 1) := by decide +kernel
theorem dX5_advance_26 : decode cX5_advance 26 = .ok (.getfield 18, 3) := by decide +kernel
theorem dX5_advance_29 : decode cX5_advance 29 = .ok (.iconst 1, 1) := by decide +kernel
theorem dX5_advance_30 : decode cX5_advance 30 = .ok (.iadd, 1) := by decide +kernel
theorem dX5_advance_31 : decode cX5_advance 31 = .ok (.putfield 18, 3) := by decide +kernel
theorem dX5_advance_34 : decode cX5_advance 34 = .ok (.aload_n 0, 1) := by decide +kernel
theorem dX5_advance_35 : decode cX5_advance 35 = .ok (.aload_n 0, 1) := by decide +kernel
theorem dX5_advance_36 : decode cX5_advance 36 = .ok (.getfield 12, 3) := by decide +kernel
theorem dX5_advance_39 : decode cX5_advance 39 = .ok (.getfield 78, 3) := by decide +kernel
theorem dX5_advance_42 : decode cX5_advance 42 = .ok (.aload_n 0, 1) := by decide +kernel
theorem dX5_advance_43 : decode cX5_advance 43 = .ok (.getfield 18, 3) := by decide +kernel
theorem dX5_advance_46 : decode cX5_advance 46 = .ok (.iaload, 1) := by decide +kernel
theorem dX5_advance_47 : decode cX5_advance 47 = .ok (.putfield 22, 3) := by decide +kernel
theorem dX5_advance_50 : decode cX5_advance 50 = .ok (.aload_n 0, 1) := by decide +kernel
theorem dX5_advance_51 : decode cX5_advance 51 = .ok (.getfield 22, 3) := by decide +kernel
theorem dX5_advance_54 : decode cX5_advance 54 = .ok (.bipush 27, 2) := by decide +kernel
theorem dX5_advance_56 : decode cX5_advance 56 = .ok (.if_icmp .ne 24, 3) := by decide +kernel
theorem dX5_advance_80 : decode cX5_advance 80 = .ok (.return_, 1) := by decide +kernel
theorem dX5_init_0 : decode cX5_init 0 = .ok (.aload_n 0, 1) := by decide +kernel
theorem dX5_init_1 : decode cX5_init 1 = .ok (.invokespecial 3, 3) := by decide +kernel
theorem dX5_init_4 : decode cX5_init 4 = .ok (.aload_n 0, 1) := by decide +kernel
theorem dX5_init_5 : decode cX5_init 5 = .ok (.new 9, 3) := by decide +kernel
theorem dX5_init_8 : decode cX5_init 8 = .ok (.dup, 1) := by decide +kernel
theorem dX5_init_9 : decode cX5_init 9 = .ok (.invokespecial 11, 3) := by decide +kernel
theorem dX5_init_12 : decode cX5_init 12 = .ok (.putfield 12, 3) := by decide +kernel
theorem dX5_init_15 : decode cX5_init 15 = .ok (.aload_n 0, 1) := by decide +kernel
theorem dX5_init_16 : decode cX5_init 16 = .ok (.iconst 0, 1) := by decide +kernel
theorem dX5_init_17 : decode cX5_init 17 = .ok (.putfield 18, 3) := by decide +kernel
theorem dX5_init_20 : decode cX5_init 20 = .ok (.aload_n 0, 1) := by decide +kernel
theorem dX5_init_21 : decode cX5_init 21 = .ok (.bipush 26, 2) := by decide +kernel
theorem dX5_init_23 : decode cX5_init 23 = .ok (.putfield 22, 3) := by decide +kernel
theorem dX5_init_26 : decode cX5_init 26 = .ok (.aload_n 0, 1) := by decide +kernel
theorem dX5_init_27 : decode cX5_init 27 = .ok (.iconst 0, 1) := by decide +kernel
theorem dX5_init_28 : decode cX5_init 28 = .ok (.putfield 25, 3) := by decide +kernel
theorem dX5_init_31 : decode cX5_init 31 = .ok (.aload_n 0, 1) := by decide +kernel
theorem dX5_init_32 : decode cX5_init 32 = .ok (.iconst (-1), 1) := by decide +kernel
theorem dX5_init_33 : decode cX5_init 33 = .ok (.putfield 28, 3) := by decide +kernel
theorem dX5_init_36 : decode cX5_init 36 = .ok (.aload_n 0, 1) := by decide +kernel
theorem dX5_init_37 : decode cX5_init 37 = .ok (.new 31, 3) := by decide +kernel
theorem dX5_init_40 : decode cX5_init 40 = .ok (.dup, 1) := by decide +kernel
theorem dX5_init_41 : decode cX5_init 41 = .ok (.invokespecial 33, 3) := by decide +kernel
theorem dX5_init_44 : decode cX5_init 44 = .ok (.putfield 34, 3) := by decide +kernel
theorem dX5_init_47 : decode cX5_init 47 = .ok (.aload_n 0, 1) := by decide +kernel
theorem dX5_init_48 : decode cX5_init 48 = .ok (.sipush 900, 3) := by decide +kernel
theorem dX5_init_51 : decode cX5_init 51 = .ok (.newarray .int, 2) := by decide +kernel
theorem dX5_init_53 : decode cX5_init 53 = .ok (.putfield 38, 3) := by decide +kernel
theorem dX5_init_56 : decode cX5_init 56 = .ok (.aload_n 0, 1) := by decide +kernel
theorem dX5_init_57 : decode cX5_init 57 = .ok (.iconst 0, 1) := by decide +kernel
theorem dX5_init_58 : decode cX5_init 58 = .ok (.putfield 42, 3) := by decide +kernel
theorem dX5_init_61 : decode cX5_init 61 = .ok (.aload_n 0, 1) := by decide +kernel
theorem dX5_init_62 : decode cX5_init 62 = .ok (.iconst 0, 1) := by decide +kernel
theorem dX5_init_63 : decode cX5_init 63 = .ok (.putfield 45, 3) := by decide +kernel
theorem dX5_init_66 : decode cX5_init 66 = .ok (.return_, 1) := by decide +kernel
theorem dX5_read_0 : decode cX5_read 0 = .ok (.aload_n 0, 1) := by decide +kernel
theorem dX5_read_1 : decode cX5_read 1 = .ok (.getfield 12, 3) := by decide +kernel
theorem dX5_read_4 : decode cX5_read 4 = .ok (.aload_n 1, 1) := by decide +kernel
theorem dX5_read_5 : decode cX5_read 5 = .ok (.iload_n 2, 1) := by decide +kernel
theorem dX5_read_6 : decode cX5_read 6 = .ok (.invokevirtual 48, 3) := by decide +kernel
theorem dX5_read_9 : decode cX5_read 9 = .ok (.aload_n 0, 1) := by decide +kernel
theorem dX5_read_10 : decode cX5_read 10 = .ok (.iconst (-1), 1) := by decide +kernel
theorem dX5_read_11 : decode cX5_read 11 = .ok (.putfield 18, 3) := by decide +kernel
theorem dX5_read_14 : decode cX5_read 14 = .ok (.aload_n 0, 1) := by decide +kernel
theorem dX5_read_15 : decode cX5_read 15 = .ok (.iconst 0, 1) := by decide +kernel
theorem dX5_read_16 : decode cX5_read 16 = .ok (.putfield 25, 3) := by decide +kernel
theorem dX5_read_19 : decode cX5_read 19 = .ok (.aload_n 0, 1) := by decide +kernel
theorem dX5_read_20 : decode cX5_read 20 = .ok (.iconst (-1), 1) := by decide +kernel
theorem dX5_read_21 : decode cX5_read 21 = .ok (.putfield 28, 3) := by decide +kernel
theorem dX5_read_24 : decode cX5_read 24 = .ok (.aload_n 0, 1) := by decide +kernel
theorem dX5_read_25 : decode cX5_read 25 = .ok (.new 31, 3) := by decide +kernel
theorem dX5_read_28 : decode cX5_read 28 = .ok (.dup, 1) := by decide +kernel
theorem dX5_read_29 : decode cX5_read 29 = .ok (.invokespecial 33, 3) := by decide +kernel
theorem dX5_read_32 : decode cX5_read 32 = .ok (.putfield 34, 3) := by decide +kernel
theorem dX5_read_35 : decode cX5_read 35 = .ok (.aload_n 0, 1) := by decide +kernel
theorem dX5_read_36 : decode cX5_read 36 = .ok (.invokevirtual 52, 3) := by decide +kernel
theorem dX5_read_39 : decode cX5_read 39 = .ok (.aload_n 0, 1) := by decide +kernel
theorem dX5_read_40 : decode cX5_read 40 = .ok (.bipush 11, 2) := by decide +kernel
theorem dX5_read_42 : decode cX5_read 42 = .ok (.invokevirtual 55, 3) := by decide +kernel
theorem dX5_read_45 : decode cX5_read 45 = .ok (.aload_n 0, 1) := by decide +kernel
theorem dX5_read_46 : decode cX5_read 46 = .ok (.bipush 12, 2) := by decide +kernel
theorem dX5_read_48 : decode cX5_read 48 = .ok (.invokevirtual 55, 3) := by decide +kernel
theorem dX5_read_51 : decode cX5_read 51 = .ok (.aload_n 0, 1) := by decide +kernel
theorem dX5_read_52 : decode cX5_read 52 = .ok (.getfield 34, 3) := by decide +kernel
theorem dX5_read_55 : decode cX5_read 55 = .ok (.aload_n 0, 1) := by decide +kernel
theorem dX5_read_56 : decode cX5_read 56 = .ok (.iconst 1, 1) := by decide +kernel
theorem dX5_read_57 : decode cX5_read 57 = .ok (.iconst 3, 1) := by decide +kernel
theorem dX5_read_58 : decode cX5_read 58 = .ok (.invokevirtual 59, 3) := by decide +kernel
theorem dX5_read_61 : decode cX5_read 61 = .ok (.putfield 63, 3) := by decide +kernel
theorem dX5_read_64 : decode cX5_read 64 = .ok (.aload_n 0, 1) := by decide +kernel
theorem dX5_read_65 : decode cX5_read 65 = .ok (.bipush 59, 2) := by decide +kernel
theorem dX5_read_67 : decode cX5_read 67 = .ok (.invokevirtual 55, 3) := by decide +kernel
theorem dX5_read_70 : decode cX5_read 70 = .ok (.aload_n 0, 1) := by decide +kernel
theorem dX5_read_71 : decode cX5_read 71 = .ok (.getfield 34, 3) := by decide +kernel
theorem dX5_read_74 : decode cX5_read 74 = .ok (.iconst 1, 1) := by decide +kernel
theorem dX5_read_75 : decode cX5_read 75 = .ok (.putfield 66, 3) := by decide +kernel
theorem dX5_read_78 : decode cX5_read 78 = .ok (.iconst 0, 1) := by decide +kernel
theorem dX5_read_79 : decode cX5_read 79 = .ok (.istore_n 3, 1) := by decide +kernel
theorem dX5_read_80 : decode cX5_read 80 = .ok (.iload_n 3, 1) := by decide +kernel
theorem dX5_read_81 : decode cX5_read 81 = .ok (.aload_n 0, 1) := by decide +kernel
theorem dX5_read_82 : decode cX5_read 82 = .ok (.getfield 12, 3) := by decide +kernel
theorem dX5_read_85 : decode cX5_read 85 = .ok (.getfield 69, 3) := by decide +kernel
theorem dX5_read_88 : decode cX5_read 88 = .ok (.if_icmp .ge 50, 3) := by decide +kernel
theorem dX5_read_91 : decode cX5_read 91 = .ok (.aload_n 0, 1) := by decide +kernel
theorem dX5_read_92 : decode cX5_read 92 = .ok (.getfield 22, 3) := by decide +kernel
theorem dX5_read_95 : decode cX5_read 95 = .ok (.bipush 26, 2) := by decide +kernel
theorem dX5_read_97 : decode cX5_read 97 = .ok (.if_icmp .eq 41, 3) := by decide +kernel
theorem dX5_read_100 : decode cX5_read 100 = .ok (.aload_n 0, 1) := by decide +kernel
theorem dX5_read_101 : decode cX5_read 101 = .ok (.getfield 22, 3) := by decide +kernel
theorem dX5_read_104 : decode cX5_read 104 = .ok (.bipush 27, 2) := by decide +kernel
theorem dX5_read_106 : decode cX5_read 106 = .ok (.if_icmp .eq 32, 3) := by decide +kernel
theorem dX5_read_138 : decode cX5_read 138 = .ok (.aload_n 0, 1) := by decide +kernel
theorem dX5_read_139 : decode cX5_read 139 = .ok (.getfield 34, 3) := by decide +kernel
theorem dX5_read_142 : decode cX5_read 142 = .ok (.areturn, 1) := by decide +kernel
theorem dX5_refuse_0 : decode cX5_refuse 0 = .ok (.aload_n 0, 1) := by decide +kernel
theorem dX5_refuse_1 : decode cX5_refuse 1 = .ok (.getfield 25, 3) := by decide +kernel
theorem dX5_refuse_4 : decode cX5_refuse 4 = .ok (.ifCond .ne 30, 3) := by decide +kernel
theorem dX5_refuse_7 : decode cX5_refuse 7 = .ok (.aload_n 0, 1) := by decide +kernel
theorem dX5_refuse_8 : decode cX5_refuse 8 = .ok (.iload_n 1, 1) := by decide +kernel
theorem dX5_refuse_9 : decode cX5_refuse 9 = .ok (.putfield 25, 3) := by decide +kernel
theorem dX5_refuse_12 : decode cX5_refuse 12 = .ok (.aload_n 0, 1) := by decide +kernel
theorem dX5_refuse_13 : decode cX5_refuse 13 = .ok (.aload_n 0, 1) := by decide +kernel
theorem dX5_refuse_14 : decode cX5_refuse 14 = .ok (.getfield 12, 3) := by decide +kernel
theorem dX5_refuse_17 : decode cX5_refuse 17 = .ok (.getfield 75, 3) := by decide +kernel
theorem dX5_refuse_20 : decode cX5_refuse 20 = .ok (.aload_n 0, 1) := by decide +kernel
theorem dX5_refuse_21 : decode cX5_refuse 21 = .ok (.getfield 18, 3) := by decide +kernel
theorem dX5_refuse_24 : decode cX5_refuse 24 = .ok (.iaload, 1) := by decide +kernel
theorem dX5_refuse_25 : decode cX5_refuse 25 = .ok (.putfield 28, 3) := by decide +kernel
theorem dX5_refuse_28 : decode cX5_refuse 28 = .ok (.aload_n 0, 1) := by decide +kernel
theorem dX5_refuse_29 : decode cX5_refuse 29 = .ok (.bipush 27, 2) := by decide +kernel
theorem dX5_refuse_31 : decode cX5_refuse 31 = .ok (.putfield 22, 3) := by decide +kernel
theorem dX5_refuse_34 : decode cX5_refuse 34 = .ok (.return_, 1) := by decide +kernel
theorem dX5_take_0 : decode cX5_take 0 = .ok (.aload_n 0, 1) := by decide +kernel
theorem dX5_take_1 : decode cX5_take 1 = .ok (.getfield 22, 3) := by decide +kernel
theorem dX5_take_4 : decode cX5_take 4 = .ok (.iload_n 1, 1) := by decide +kernel
theorem dX5_take_5 : decode cX5_take 5 = .ok (.if_icmp .ne 10, 3) := by decide +kernel
theorem dX5_take_15 : decode cX5_take 15 = .ok (.aload_n 0, 1) := by decide +kernel
theorem dX5_take_16 : decode cX5_take 16 = .ok (.iconst 2, 1) := by decide +kernel
theorem dX5_take_17 : decode cX5_take 17 = .ok (.invokevirtual 81, 3) := by decide +kernel
theorem dX5_take_20 : decode cX5_take 20 = .ok (.return_, 1) := by decide +kernel
theorem dX5_takeNumber_0 : decode cX5_takeNumber 0 = .ok (.aload_n 0, 1) := by decide +kernel
theorem dX5_takeNumber_1 : decode cX5_takeNumber 1 = .ok (.getfield 22, 3) := by decide +kernel
theorem dX5_takeNumber_4 : decode cX5_takeNumber 4 = .ok (.bipush 25, 2) := by decide +kernel
theorem dX5_takeNumber_6 : decode cX5_takeNumber 6 = .ok (.if_icmp .eq 10, 3) := by decide +kernel
theorem dX5_takeNumber_9 : decode cX5_takeNumber 9 = .ok (.aload_n 0, 1) := by decide +kernel
theorem dX5_takeNumber_10 : decode cX5_takeNumber 10 = .ok (.iconst 2, 1) := by decide +kernel
theorem dX5_takeNumber_11 : decode cX5_takeNumber 11 = .ok (.invokevirtual 81, 3) := by decide +kernel
theorem dX5_takeNumber_14 : decode cX5_takeNumber 14 = .ok (.iload_n 1, 1) := by decide +kernel
theorem dX5_takeNumber_15 : decode cX5_takeNumber 15 = .ok (.ireturn, 1) := by decide +kernel
theorem dX6_init_0 : decode cX6_init 0 = .ok (.aload_n 0, 1) := by decide +kernel
theorem dX6_init_1 : decode cX6_init 1 = .ok (.invokespecial 3, 3) := by decide +kernel
theorem dX6_init_4 : decode cX6_init 4 = .ok (.aload_n 0, 1) := by decide +kernel
theorem dX6_init_5 : decode cX6_init 5 = .ok (.bipush 11, 2) := by decide +kernel
theorem dX6_init_7 : decode cX6_init 7 = .ok (.newarray .int, 2) := by decide +kernel
theorem dX6_init_9 : decode cX6_init 9 = .ok (.putfield 9, 3) := by decide +kernel
theorem dX6_init_12 : decode cX6_init 12 = .ok (.aload_n 0, 1) := by decide +kernel
theorem dX6_init_13 : decode cX6_init 13 = .ok (.bipush 64, 2) := by decide +kernel
theorem dX6_init_15 : decode cX6_init 15 = .ok (.newarray .int, 2) := by decide +kernel
theorem dX6_init_17 : decode cX6_init 17 = .ok (.putfield 15, 3) := by decide +kernel
theorem dX6_init_20 : decode cX6_init 20 = .ok (.return_, 1) := by decide +kernel
theorem dX7_inTown_0 : decode cX7_inTown 0 = .ok (.aload_n 0, 1) := by decide +kernel
theorem dX7_inTown_1 : decode cX7_inTown 1 = .ok (.aload_n 0, 1) := by decide +kernel
theorem dX7_inTown_2 : decode cX7_inTown 2 = .ok (.getfield 9, 3) := by decide +kernel
theorem dX7_inTown_5 : decode cX7_inTown 5 = .ok (.invokevirtual 38, 3) := by decide +kernel
theorem dX7_inTown_8 : decode cX7_inTown 8 = .ok (.ireturn, 1) := by decide +kernel
theorem dX7_inTownOn_0 : decode cX7_inTownOn 0 = .ok (.iconst 0, 1) := by decide +kernel
theorem dX7_inTownOn_1 : decode cX7_inTownOn 1 = .ok (.istore_n 2, 1) := by decide +kernel
theorem dX7_inTownOn_2 : decode cX7_inTownOn 2 = .ok (.iconst 0, 1) := by decide +kernel
theorem dX7_inTownOn_3 : decode cX7_inTownOn 3 = .ok (.istore_n 3, 1) := by decide +kernel
theorem dX7_inTownOn_4 : decode cX7_inTownOn 4 = .ok (.iload_n 3, 1) := by decide +kernel
theorem dX7_inTownOn_5 : decode cX7_inTownOn 5 = .ok (.aload_n 0, 1) := by decide +kernel
theorem dX7_inTownOn_6 : decode cX7_inTownOn 6 = .ok (.getfield 22, 3) := by decide +kernel
theorem dX7_inTownOn_9 : decode cX7_inTownOn 9 = .ok (.getfield 42, 3) := by decide +kernel
theorem dX7_inTownOn_12 : decode cX7_inTownOn 12 = .ok (.if_icmp .ge 41, 3) := by decide +kernel
theorem dX7_inTownOn_53 : decode cX7_inTownOn 53 = .ok (.iload_n 2, 1) := by decide +kernel
theorem dX7_inTownOn_54 : decode cX7_inTownOn 54 = .ok (.aload_n 0, 1) := by decide +kernel
theorem dX7_inTownOn_55 : decode cX7_inTownOn 55 = .ok (.getfield 15, 3) := by decide +kernel
theorem dX7_inTownOn_58 : decode cX7_inTownOn 58 = .ok (.iconst (-1), 1) := by decide +kernel
theorem dX7_inTownOn_59 : decode cX7_inTownOn 59 = .ok (.ixor, 1) := by decide +kernel
theorem dX7_inTownOn_60 : decode cX7_inTownOn 60 = .ok (.iand, 1) := by decide +kernel
theorem dX7_inTownOn_61 : decode cX7_inTownOn 61 = .ok (.ireturn, 1) := by decide +kernel
theorem dX7_init_0 : decode cX7_init 0 = .ok (.aload_n 0, 1) := by decide +kernel
theorem dX7_init_1 : decode cX7_init 1 = .ok (.invokespecial 3, 3) := by decide +kernel
theorem dX7_init_4 : decode cX7_init 4 = .ok (.aload_n 0, 1) := by decide +kernel
theorem dX7_init_5 : decode cX7_init 5 = .ok (.iconst 0, 1) := by decide +kernel
theorem dX7_init_6 : decode cX7_init 6 = .ok (.putfield 9, 3) := by decide +kernel
theorem dX7_init_9 : decode cX7_init 9 = .ok (.aload_n 0, 1) := by decide +kernel
theorem dX7_init_10 : decode cX7_init 10 = .ok (.iconst 0, 1) := by decide +kernel
theorem dX7_init_11 : decode cX7_init 11 = .ok (.putfield 15, 3) := by decide +kernel
theorem dX7_init_14 : decode cX7_init 14 = .ok (.aload_n 0, 1) := by decide +kernel
theorem dX7_init_15 : decode cX7_init 15 = .ok (.bipush 10, 2) := by decide +kernel
theorem dX7_init_17 : decode cX7_init 17 = .ok (.newarray .int, 2) := by decide +kernel
theorem dX7_init_19 : decode cX7_init 19 = .ok (.putfield 18, 3) := by decide +kernel
theorem dX7_init_22 : decode cX7_init 22 = .ok (.aload_n 0, 1) := by decide +kernel
theorem dX7_init_23 : decode cX7_init 23 = .ok (.aload_n 1, 1) := by decide +kernel
theorem dX7_init_24 : decode cX7_init 24 = .ok (.putfield 22, 3) := by decide +kernel
theorem dX7_init_27 : decode cX7_init 27 = .ok (.return_, 1) := by decide +kernel
theorem dX7_takeFrom_0 : decode cX7_takeFrom 0 = .ok (.aload_n 0, 1) := by decide +kernel
theorem dX7_takeFrom_1 : decode cX7_takeFrom 1 = .ok (.aload_n 1, 1) := by decide +kernel
theorem dX7_takeFrom_2 : decode cX7_takeFrom 2 = .ok (.getfield 22, 3) := by decide +kernel
theorem dX7_takeFrom_5 : decode cX7_takeFrom 5 = .ok (.putfield 22, 3) := by decide +kernel
theorem dX7_takeFrom_8 : decode cX7_takeFrom 8 = .ok (.aload_n 0, 1) := by decide +kernel
theorem dX7_takeFrom_9 : decode cX7_takeFrom 9 = .ok (.aload_n 1, 1) := by decide +kernel
theorem dX7_takeFrom_10 : decode cX7_takeFrom 10 = .ok (.getfield 9, 3) := by decide +kernel
theorem dX7_takeFrom_13 : decode cX7_takeFrom 13 = .ok (.putfield 9, 3) := by decide +kernel
theorem dX7_takeFrom_16 : decode cX7_takeFrom 16 = .ok (.aload_n 0, 1) := by decide +kernel
theorem dX7_takeFrom_17 : decode cX7_takeFrom 17 = .ok (.aload_n 1, 1) := by decide +kernel
theorem dX7_takeFrom_18 : decode cX7_takeFrom 18 = .ok (.getfield 15, 3) := by decide +kernel
theorem dX7_takeFrom_21 : decode cX7_takeFrom 21 = .ok (.putfield 15, 3) := by decide +kernel
theorem dX7_takeFrom_24 : decode cX7_takeFrom 24 = .ok (.aload_n 1, 1) := by decide +kernel
theorem dX7_takeFrom_25 : decode cX7_takeFrom 25 = .ok (.getfield 18, 3) := by decide +kernel
theorem dX7_takeFrom_28 : decode cX7_takeFrom 28 = .ok (.iconst 0, 1) := by decide +kernel
theorem dX7_takeFrom_29 : decode cX7_takeFrom 29 = .ok (.aload_n 0, 1) := by decide +kernel
theorem dX7_takeFrom_30 : decode cX7_takeFrom 30 = .ok (.getfield 18, 3) := by decide +kernel
theorem dX7_takeFrom_33 : decode cX7_takeFrom 33 = .ok (.iconst 0, 1) := by decide +kernel
theorem dX7_takeFrom_34 : decode cX7_takeFrom 34 = .ok (.bipush 10, 2) := by decide +kernel
theorem dX7_takeFrom_36 : decode cX7_takeFrom 36 = .ok (.invokestatic 32, 3) := by decide +kernel
theorem dX7_takeFrom_39 : decode cX7_takeFrom 39 = .ok (.return_, 1) := by decide +kernel
theorem dX8_cut_0 : decode cX8_cut 0 = .ok (.aload_n 0, 1) := by decide +kernel
theorem dX8_cut_1 : decode cX8_cut 1 = .ok (.aload_n 1, 1) := by decide +kernel
theorem dX8_cut_2 : decode cX8_cut 2 = .ok (.putfield 9, 3) := by decide +kernel
theorem dX8_cut_5 : decode cX8_cut 5 = .ok (.aload_n 0, 1) := by decide +kernel
theorem dX8_cut_6 : decode cX8_cut 6 = .ok (.iload_n 2, 1) := by decide +kernel
theorem dX8_cut_7 : decode cX8_cut 7 = .ok (.aload_n 1, 1) := by decide +kernel
theorem dX8_cut_8 : decode cX8_cut 8 = .ok (.arraylength, 1) := by decide +kernel
theorem dX8_cut_9 : decode cX8_cut 9 = .ok (.invokestatic 32, 3) := by decide +kernel
theorem dX8_cut_12 : decode cX8_cut 12 = .ok (.sipush 900, 3) := by decide +kernel
theorem dX8_cut_15 : decode cX8_cut 15 = .ok (.invokestatic 32, 3) := by decide +kernel
theorem dX8_cut_18 : decode cX8_cut 18 = .ok (.putfield 15, 3) := by decide +kernel
theorem dX8_cut_21 : decode cX8_cut 21 = .ok (.aload_n 0, 1) := by decide +kernel
theorem dX8_cut_22 : decode cX8_cut 22 = .ok (.iconst 0, 1) := by decide +kernel
theorem dX8_cut_23 : decode cX8_cut 23 = .ok (.putfield 19, 3) := by decide +kernel
theorem dX8_cut_26 : decode cX8_cut 26 = .ok (.iconst 0, 1) := by decide +kernel
theorem dX8_cut_27 : decode cX8_cut 27 = .ok (.istore_n 3, 1) := by decide +kernel
theorem dX8_cut_28 : decode cX8_cut 28 = .ok (.iconst 1, 1) := by decide +kernel
theorem dX8_cut_29 : decode cX8_cut 29 = .ok (.istore 4, 2) := by decide +kernel
theorem dX8_cut_31 : decode cX8_cut 31 = .ok (.iconst 0, 1) := by decide +kernel
theorem dX8_cut_32 : decode cX8_cut 32 = .ok (.istore 5, 2) := by decide +kernel
theorem dX8_cut_34 : decode cX8_cut 34 = .ok (.iload 5, 2) := by decide +kernel
theorem dX8_cut_36 : decode cX8_cut 36 = .ok (.aload_n 0, 1) := by decide +kernel
theorem dX8_cut_37 : decode cX8_cut 37 = .ok (.getfield 15, 3) := by decide +kernel
theorem dX8_cut_40 : decode cX8_cut 40 = .ok (.if_icmp .gt 151, 3) := by decide +kernel
theorem dX8_cut_43 : decode cX8_cut 43 = .ok (.iload 4, 2) := by decide +kernel
theorem dX8_cut_45 : decode cX8_cut 45 = .ok (.ifCond .eq 146, 3) := by decide +kernel
theorem dX8_cut_48 : decode cX8_cut 48 = .ok (.iload_n 3, 1) := by decide +kernel
theorem dX8_cut_49 : decode cX8_cut 49 = .ok (.aload_n 0, 1) := by decide +kernel
theorem dX8_cut_50 : decode cX8_cut 50 = .ok (.getfield 15, 3) := by decide +kernel
theorem dX8_cut_53 : decode cX8_cut 53 = .ok (.if_icmp .ge 31, 3) := by decide +kernel
theorem dX8_cut_84 : decode cX8_cut 84 = .ok (.aload_n 0, 1) := by decide +kernel
theorem dX8_cut_85 : decode cX8_cut 85 = .ok (.iload_n 3, 1) := by decide +kernel
theorem dX8_cut_86 : decode cX8_cut 86 = .ok (.invokevirtual 38, 3) := by decide +kernel
theorem dX8_cut_89 : decode cX8_cut 89 = .ok (.istore 6, 2) := by decide +kernel
theorem dX8_cut_91 : decode cX8_cut 91 = .ok (.aload_n 0, 1) := by decide +kernel
theorem dX8_cut_92 : decode cX8_cut 92 = .ok (.getfield 22, 3) := by decide +kernel
theorem dX8_cut_95 : decode cX8_cut 95 = .ok (.iload 5, 2) := by decide +kernel
theorem dX8_cut_97 : decode cX8_cut 97 = .ok (.aload_n 0, 1) := by decide +kernel
theorem dX8_cut_98 : decode cX8_cut 98 = .ok (.iload_n 3, 1) := by decide +kernel
theorem dX8_cut_99 : decode cX8_cut 99 = .ok (.iload 6, 2) := by decide +kernel
theorem dX8_cut_101 : decode cX8_cut 101 = .ok (.invokevirtual 42, 3) := by decide +kernel
theorem dX8_cut_104 : decode cX8_cut 104 = .ok (.iastore, 1) := by decide +kernel
theorem dX8_cut_105 : decode cX8_cut 105 = .ok (.aload_n 0, 1) := by decide +kernel
theorem dX8_cut_106 : decode cX8_cut 106 = .ok (.getfield 26, 3) := by decide +kernel
theorem dX8_cut_109 : decode cX8_cut 109 = .ok (.iload 5, 2) := by decide +kernel
theorem dX8_cut_111 : decode cX8_cut 111 = .ok (.iload_n 3, 1) := by decide +kernel
theorem dX8_cut_112 : decode cX8_cut 112 = .ok (.iastore, 1) := by decide +kernel
theorem dX8_cut_113 : decode cX8_cut 113 = .ok (.aload_n 0, 1) := by decide +kernel
theorem dX8_cut_114 : decode cX8_cut 114 = .ok (.getfield 29, 3) := by decide +kernel
theorem dX8_cut_117 : decode cX8_cut 117 = .ok (.iload 5, 2) := by decide +kernel
theorem dX8_cut_119 : decode cX8_cut 119 = .ok (.aload_n 0, 1) := by decide +kernel
theorem dX8_cut_120 : decode cX8_cut 120 = .ok (.getfield 22, 3) := by decide +kernel
theorem dX8_cut_123 : decode cX8_cut 123 = .ok (.iload 5, 2) := by decide +kernel
theorem dX8_cut_125 : decode cX8_cut 125 = .ok (.iaload, 1) := by decide +kernel
theorem dX8_cut_126 : decode cX8_cut 126 = .ok (.bipush 25, 2) := by decide +kernel
theorem dX8_cut_128 : decode cX8_cut 128 = .ok (.if_icmp .ne 13, 3) := by decide +kernel
theorem dX8_cut_141 : decode cX8_cut 141 = .ok (.iconst 0, 1) := by decide +kernel
theorem dX8_cut_142 : decode cX8_cut 142 = .ok (.iastore, 1) := by decide +kernel
theorem dX8_cut_143 : decode cX8_cut 143 = .ok (.aload_n 0, 1) := by decide +kernel
theorem dX8_cut_144 : decode cX8_cut 144 = .ok (.iload 5, 2) := by decide +kernel
theorem dX8_cut_146 : decode cX8_cut 146 = .ok (.iconst 1, 1) := by decide +kernel
theorem dX8_cut_147 : decode cX8_cut 147 = .ok (.iadd, 1) := by decide +kernel
theorem dX8_cut_148 : decode cX8_cut 148 = .ok (.putfield 19, 3) := by decide +kernel
theorem dX8_cut_151 : decode cX8_cut 151 = .ok (.iload 6, 2) := by decide +kernel
theorem dX8_cut_153 : decode cX8_cut 153 = .ok (.istore_n 3, 1) := by decide +kernel
theorem dX8_cut_154 : decode cX8_cut 154 = .ok (.aload_n 0, 1) := by decide +kernel
theorem dX8_cut_155 : decode cX8_cut 155 = .ok (.getfield 22, 3) := by decide +kernel
theorem dX8_cut_158 : decode cX8_cut 158 = .ok (.iload 5, 2) := by decide +kernel
theorem dX8_cut_160 : decode cX8_cut 160 = .ok (.iaload, 1) := by decide +kernel
theorem dX8_cut_161 : decode cX8_cut 161 = .ok (.bipush 26, 2) := by decide +kernel
theorem dX8_cut_163 : decode cX8_cut 163 = .ok (.if_icmp .eq 19, 3) := by decide +kernel
theorem dX8_cut_182 : decode cX8_cut 182 = .ok (.iconst 0, 1) := by decide +kernel
theorem dX8_cut_183 : decode cX8_cut 183 = .ok (.istore 4, 2) := by decide +kernel
theorem dX8_cut_185 : decode cX8_cut 185 = .ok (.iinc 5 1, 3) := by decide +kernel
theorem dX8_cut_188 : decode cX8_cut 188 = .ok (.goto (-154), 3) := by decide +kernel
theorem dX8_cut_191 : decode cX8_cut 191 = .ok (.return_, 1) := by decide +kernel
theorem dX8_endOf_0 : decode cX8_endOf 0 = .ok (.iload_n 1, 1) := by decide +kernel
theorem dX8_endOf_1 : decode cX8_endOf 1 = .ok (.istore_n 2, 1) := by decide +kernel
theorem dX8_endOf_2 : decode cX8_endOf 2 = .ok (.aload_n 0, 1) := by decide +kernel
theorem dX8_endOf_3 : decode cX8_endOf 3 = .ok (.iload_n 1, 1) := by decide +kernel
theorem dX8_endOf_4 : decode cX8_endOf 4 = .ok (.invokevirtual 48, 3) := by decide +kernel
theorem dX8_endOf_7 : decode cX8_endOf 7 = .ok (.ifCond .eq 25, 3) := by decide +kernel
theorem dX8_endOf_32 : decode cX8_endOf 32 = .ok (.aload_n 0, 1) := by decide +kernel
theorem dX8_endOf_33 : decode cX8_endOf 33 = .ok (.iload_n 1, 1) := by decide +kernel
theorem dX8_endOf_34 : decode cX8_endOf 34 = .ok (.invokevirtual 52, 3) := by decide +kernel
theorem dX8_endOf_37 : decode cX8_endOf 37 = .ok (.ifCond .eq 25, 3) := by decide +kernel
theorem dX8_endOf_62 : decode cX8_endOf 62 = .ok (.iload_n 1, 1) := by decide +kernel
theorem dX8_endOf_63 : decode cX8_endOf 63 = .ok (.aload_n 0, 1) := by decide +kernel
theorem dX8_endOf_64 : decode cX8_endOf 64 = .ok (.getfield 15, 3) := by decide +kernel
theorem dX8_endOf_67 : decode cX8_endOf 67 = .ok (.if_icmp .ge 6, 3) := by decide +kernel
theorem dX8_endOf_73 : decode cX8_endOf 73 = .ok (.iload_n 2, 1) := by decide +kernel
theorem dX8_endOf_74 : decode cX8_endOf 74 = .ok (.ireturn, 1) := by decide +kernel
theorem dX8_init_0 : decode cX8_init 0 = .ok (.aload_n 0, 1) := by decide +kernel
theorem dX8_init_1 : decode cX8_init 1 = .ok (.invokespecial 3, 3) := by decide +kernel
theorem dX8_init_4 : decode cX8_init 4 = .ok (.aload_n 0, 1) := by decide +kernel
theorem dX8_init_5 : decode cX8_init 5 = .ok (.iconst 0, 1) := by decide +kernel
theorem dX8_init_6 : decode cX8_init 6 = .ok (.newarray .byte, 2) := by decide +kernel
theorem dX8_init_8 : decode cX8_init 8 = .ok (.putfield 9, 3) := by decide +kernel
theorem dX8_init_11 : decode cX8_init 11 = .ok (.aload_n 0, 1) := by decide +kernel
theorem dX8_init_12 : decode cX8_init 12 = .ok (.iconst 0, 1) := by decide +kernel
theorem dX8_init_13 : decode cX8_init 13 = .ok (.putfield 15, 3) := by decide +kernel
theorem dX8_init_16 : decode cX8_init 16 = .ok (.aload_n 0, 1) := by decide +kernel
theorem dX8_init_17 : decode cX8_init 17 = .ok (.iconst 0, 1) := by decide +kernel
theorem dX8_init_18 : decode cX8_init 18 = .ok (.putfield 19, 3) := by decide +kernel
theorem dX8_init_21 : decode cX8_init 21 = .ok (.aload_n 0, 1) := by decide +kernel
theorem dX8_init_22 : decode cX8_init 22 = .ok (.sipush 901, 3) := by decide +kernel
theorem dX8_init_25 : decode cX8_init 25 = .ok (.newarray .int, 2) := by decide +kernel
theorem dX8_init_27 : decode cX8_init 27 = .ok (.putfield 22, 3) := by decide +kernel
theorem dX8_init_30 : decode cX8_init 30 = .ok (.aload_n 0, 1) := by decide +kernel
theorem dX8_init_31 : decode cX8_init 31 = .ok (.sipush 901, 3) := by decide +kernel
theorem dX8_init_34 : decode cX8_init 34 = .ok (.newarray .int, 2) := by decide +kernel
theorem dX8_init_36 : decode cX8_init 36 = .ok (.putfield 26, 3) := by decide +kernel
theorem dX8_init_39 : decode cX8_init 39 = .ok (.aload_n 0, 1) := by decide +kernel
theorem dX8_init_40 : decode cX8_init 40 = .ok (.sipush 901, 3) := by decide +kernel
theorem dX8_init_43 : decode cX8_init 43 = .ok (.newarray .int, 2) := by decide +kernel
theorem dX8_init_45 : decode cX8_init 45 = .ok (.putfield 29, 3) := by decide +kernel
theorem dX8_init_48 : decode cX8_init 48 = .ok (.return_, 1) := by decide +kernel
theorem dX8_isDigit_0 : decode cX8_isDigit 0 = .ok (.iload_n 1, 1) := by decide +kernel
theorem dX8_isDigit_1 : decode cX8_isDigit 1 = .ok (.aload_n 0, 1) := by decide +kernel
theorem dX8_isDigit_2 : decode cX8_isDigit 2 = .ok (.getfield 15, 3) := by decide +kernel
theorem dX8_isDigit_5 : decode cX8_isDigit 5 = .ok (.if_icmp .ge 29, 3) := by decide +kernel
theorem dX8_isDigit_34 : decode cX8_isDigit 34 = .ok (.iconst 0, 1) := by decide +kernel
theorem dX8_isDigit_35 : decode cX8_isDigit 35 = .ok (.ireturn, 1) := by decide +kernel
theorem dX8_isLetter_0 : decode cX8_isLetter 0 = .ok (.iload_n 1, 1) := by decide +kernel
theorem dX8_isLetter_1 : decode cX8_isLetter 1 = .ok (.aload_n 0, 1) := by decide +kernel
theorem dX8_isLetter_2 : decode cX8_isLetter 2 = .ok (.getfield 15, 3) := by decide +kernel
theorem dX8_isLetter_5 : decode cX8_isLetter 5 = .ok (.if_icmp .ge 29, 3) := by decide +kernel
theorem dX8_isLetter_34 : decode cX8_isLetter 34 = .ok (.iconst 0, 1) := by decide +kernel
theorem dX8_isLetter_35 : decode cX8_isLetter 35 = .ok (.ireturn, 1) := by decide +kernel
theorem dX8_kindOf_0 : decode cX8_kindOf 0 = .ok (.iload_n 1, 1) := by decide +kernel
theorem dX8_kindOf_1 : decode cX8_kindOf 1 = .ok (.aload_n 0, 1) := by decide +kernel
theorem dX8_kindOf_2 : decode cX8_kindOf 2 = .ok (.getfield 15, 3) := by decide +kernel
theorem dX8_kindOf_5 : decode cX8_kindOf 5 = .ok (.if_icmp .lt 6, 3) := by decide +kernel
theorem dX8_kindOf_8 : decode cX8_kindOf 8 = .ok (.bipush 26, 2) := by decide +kernel
theorem dX8_kindOf_10 : decode cX8_kindOf 10 = .ok (.ireturn, 1) := by decide +kernel
theorem dX9_init_0 : decode cX9_init 0 = .ok (.aload_n 0, 1) := by decide +kernel
theorem dX9_init_1 : decode cX9_init 1 = .ok (.invokespecial 3, 3) := by decide +kernel
theorem dX9_init_4 : decode cX9_init 4 = .ok (.aload_n 0, 1) := by decide +kernel
theorem dX9_init_5 : decode cX9_init 5 = .ok (.iconst (-1), 1) := by decide +kernel
theorem dX9_init_6 : decode cX9_init 6 = .ok (.putfield 9, 3) := by decide +kernel
theorem dX9_init_9 : decode cX9_init 9 = .ok (.aload_n 0, 1) := by decide +kernel
theorem dX9_init_10 : decode cX9_init 10 = .ok (.iconst 0, 1) := by decide +kernel
theorem dX9_init_11 : decode cX9_init 11 = .ok (.putfield 15, 3) := by decide +kernel
theorem dX9_init_14 : decode cX9_init 14 = .ok (.aload_n 0, 1) := by decide +kernel
theorem dX9_init_15 : decode cX9_init 15 = .ok (.bipush 40, 2) := by decide +kernel
theorem dX9_init_17 : decode cX9_init 17 = .ok (.newarray .long, 2) := by decide +kernel
theorem dX9_init_19 : decode cX9_init 19 = .ok (.putfield 18, 3) := by decide +kernel
theorem dX9_init_22 : decode cX9_init 22 = .ok (.return_, 1) := by decide +kernel
theorem dX9_isMissing_0 : decode cX9_isMissing 0 = .ok (.aload_n 0, 1) := by decide +kernel
theorem dX9_isMissing_1 : decode cX9_isMissing 1 = .ok (.getfield 9, 3) := by decide +kernel
theorem dX9_isMissing_4 : decode cX9_isMissing 4 = .ok (.iconst (-1), 1) := by decide +kernel
theorem dX9_isMissing_5 : decode cX9_isMissing 5 = .ok (.if_icmp .ne 7, 3) := by decide +kernel
theorem dX9_isMissing_8 : decode cX9_isMissing 8 = .ok (.iconst 1, 1) := by decide +kernel
theorem dX9_isMissing_9 : decode cX9_isMissing 9 = .ok (.goto 4, 3) := by decide +kernel
theorem dX9_isMissing_13 : decode cX9_isMissing 13 = .ok (.ireturn, 1) := by decide +kernel
theorem dX9_lay_0 : decode cX9_lay 0 = .ok (.aload_n 0, 1) := by decide +kernel
theorem dX9_lay_1 : decode cX9_lay 1 = .ok (.iload_n 1, 1) := by decide +kernel
theorem dX9_lay_2 : decode cX9_lay 2 = .ok (.putfield 9, 3) := by decide +kernel
theorem dX9_lay_5 : decode cX9_lay 5 = .ok (.aload_n 0, 1) := by decide +kernel
theorem dX9_lay_6 : decode cX9_lay 6 = .ok (.iload_n 2, 1) := by decide +kernel
theorem dX9_lay_7 : decode cX9_lay 7 = .ok (.putfield 15, 3) := by decide +kernel
theorem dX9_lay_10 : decode cX9_lay 10 = .ok (.aload_n 0, 1) := by decide +kernel
theorem dX9_lay_11 : decode cX9_lay 11 = .ok (.getfield 18, 3) := by decide +kernel
theorem dX9_lay_14 : decode cX9_lay 14 = .ok (.lconst 0, 1) := by decide +kernel
theorem dX9_lay_15 : decode cX9_lay 15 = .ok (.invokestatic 22, 3) := by decide +kernel
theorem dX9_lay_18 : decode cX9_lay 18 = .ok (.return_, 1) := by decide +kernel
