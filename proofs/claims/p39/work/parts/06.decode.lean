theorem dJ7_fill_53178_0 : decode cJ7_fill_53178 0 = .ok (.iconst 0, 1) := by decide +kernel
theorem dJ7_fill_53178_1 : decode cJ7_fill_53178 1 = .ok (.istore_n 2, 1) := by decide +kernel
theorem dJ7_fill_53178_2 : decode cJ7_fill_53178 2 = .ok (.aload_n 0, 1) := by decide +kernel
theorem dJ7_fill_53178_3 : decode cJ7_fill_53178 3 = .ok (.arraylength, 1) := by decide +kernel
theorem dJ7_fill_53178_4 : decode cJ7_fill_53178 4 = .ok (.istore_n 3, 1) := by decide +kernel
theorem dJ7_fill_53178_5 : decode cJ7_fill_53178 5 = .ok (.iload_n 2, 1) := by decide +kernel
theorem dJ7_fill_53178_6 : decode cJ7_fill_53178 6 = .ok (.iload_n 3, 1) := by decide +kernel
theorem dJ7_fill_53178_7 : decode cJ7_fill_53178 7 = .ok (.if_icmp .ge 13, 3) := by decide +kernel
theorem dJ7_fill_53178_10 : decode cJ7_fill_53178 10 = .ok (.aload_n 0, 1) := by decide +kernel
theorem dJ7_fill_53178_11 : decode cJ7_fill_53178 11 = .ok (.iload_n 2, 1) := by decide +kernel
theorem dJ7_fill_53178_12 : decode cJ7_fill_53178 12 = .ok (.iload_n 1, 1) := by decide +kernel
theorem dJ7_fill_53178_13 : decode cJ7_fill_53178 13 = .ok (.iastore, 1) := by decide +kernel
theorem dJ7_fill_53178_14 : decode cJ7_fill_53178 14 = .ok (.iinc 2 1, 3) := by decide +kernel
theorem dJ7_fill_53178_17 : decode cJ7_fill_53178 17 = .ok (.goto (-12), 3) := by decide +kernel
theorem dJ7_fill_53178_20 : decode cJ7_fill_53178 20 = .ok (.return_, 1) := by decide +kernel
theorem dX0_draw_0 : decode cX0_draw 0 = .ok (.aload_n 0, 1) := by decide +kernel
theorem dX0_draw_1 : decode cX0_draw 1 = .ok (.aload_n 1, 1) := by decide +kernel
theorem dX0_draw_2 : decode cX0_draw 2 = .ok (.getfield 25, 3) := by decide +kernel
theorem dX0_draw_5 : decode cX0_draw 5 = .ok (.getfield 31, 3) := by decide +kernel
theorem dX0_draw_8 : decode cX0_draw 8 = .ok (.putfield 9, 3) := by decide +kernel
theorem dX0_draw_11 : decode cX0_draw 11 = .ok (.aload_n 0, 1) := by decide +kernel
theorem dX0_draw_12 : decode cX0_draw 12 = .ok (.getfield 15, 3) := by decide +kernel
theorem dX0_draw_15 : decode cX0_draw 15 = .ok (.iconst 0, 1) := by decide +kernel
theorem dX0_draw_16 : decode cX0_draw 16 = .ok (.invokestatic 34, 3) := by decide +kernel
theorem dX0_draw_19 : decode cX0_draw 19 = .ok (.iconst 0, 1) := by decide +kernel
theorem dX0_draw_20 : decode cX0_draw 20 = .ok (.istore 4, 2) := by decide +kernel
theorem dX0_draw_22 : decode cX0_draw 22 = .ok (.iload 4, 2) := by decide +kernel
theorem dX0_draw_24 : decode cX0_draw 24 = .ok (.aload_n 0, 1) := by decide +kernel
theorem dX0_draw_25 : decode cX0_draw 25 = .ok (.getfield 9, 3) := by decide +kernel
theorem dX0_draw_28 : decode cX0_draw 28 = .ok (.if_icmp .ge 78, 3) := by decide +kernel
theorem dX0_draw_31 : decode cX0_draw 31 = .ok (.iload 4, 2) := by decide +kernel
theorem dX0_draw_33 : decode cX0_draw 33 = .ok (.iconst 1, 1) := by decide +kernel
theorem dX0_draw_34 : decode cX0_draw 34 = .ok (.iadd, 1) := by decide +kernel
theorem dX0_draw_35 : decode cX0_draw 35 = .ok (.istore 5, 2) := by decide +kernel
theorem dX0_draw_37 : decode cX0_draw 37 = .ok (.iload 5, 2) := by decide +kernel
theorem dX0_draw_39 : decode cX0_draw 39 = .ok (.aload_n 0, 1) := by decide +kernel
theorem dX0_draw_40 : decode cX0_draw 40 = .ok (.getfield 9, 3) := by decide +kernel
theorem dX0_draw_43 : decode cX0_draw 43 = .ok (.if_icmp .ge 57, 3) := by decide +kernel
theorem dX0_draw_46 : decode cX0_draw 46 = .ok (.aload_n 3, 1) := by decide +kernel
theorem dX0_draw_47 : decode cX0_draw 47 = .ok (.aload_n 1, 1) := by decide +kernel
theorem dX0_draw_48 : decode cX0_draw 48 = .ok (.iload 4, 2) := by decide +kernel
theorem dX0_draw_50 : decode cX0_draw 50 = .ok (.aload_n 1, 1) := by decide +kernel
theorem dX0_draw_51 : decode cX0_draw 51 = .ok (.getfield 40, 3) := by decide +kernel
theorem dX0_draw_54 : decode cX0_draw 54 = .ok (.iload 4, 2) := by decide +kernel
theorem dX0_draw_56 : decode cX0_draw 56 = .ok (.iaload, 1) := by decide +kernel
theorem dX0_draw_57 : decode cX0_draw 57 = .ok (.iload 5, 2) := by decide +kernel
theorem dX0_draw_59 : decode cX0_draw 59 = .ok (.iload_n 2, 1) := by decide +kernel
theorem dX0_draw_60 : decode cX0_draw 60 = .ok (.invokevirtual 43, 3) := by decide +kernel
theorem dX0_draw_63 : decode cX0_draw 63 = .ok (.ifCond .eq 31, 3) := by decide +kernel
theorem dX0_draw_66 : decode cX0_draw 66 = .ok (.aload_n 0, 1) := by decide +kernel
theorem dX0_draw_67 : decode cX0_draw 67 = .ok (.getfield 15, 3) := by decide +kernel
theorem dX0_draw_70 : decode cX0_draw 70 = .ok (.iload 4, 2) := by decide +kernel
theorem dX0_draw_72 : decode cX0_draw 72 = .ok (.dup2, 1) := by decide +kernel
theorem dX0_draw_73 : decode cX0_draw 73 = .ok (.iaload, 1) := by decide +kernel
theorem dX0_draw_74 : decode cX0_draw 74 = .ok (.iconst 1, 1) := by decide +kernel
theorem dX0_draw_75 : decode cX0_draw 75 = .ok (.iload 5, 2) := by decide +kernel
theorem dX0_draw_77 : decode cX0_draw 77 = .ok (.ishl, 1) := by decide +kernel
theorem dX0_draw_78 : decode cX0_draw 78 = .ok (.ior, 1) := by decide +kernel
theorem dX0_draw_79 : decode cX0_draw 79 = .ok (.iastore, 1) := by decide +kernel
theorem dX0_draw_80 : decode cX0_draw 80 = .ok (.aload_n 0, 1) := by decide +kernel
theorem dX0_draw_81 : decode cX0_draw 81 = .ok (.getfield 15, 3) := by decide +kernel
theorem dX0_draw_84 : decode cX0_draw 84 = .ok (.iload 5, 2) := by decide +kernel
theorem dX0_draw_86 : decode cX0_draw 86 = .ok (.dup2, 1) := by decide +kernel
theorem dX0_draw_87 : decode cX0_draw 87 = .ok (.iaload, 1) := by decide +kernel
theorem dX0_draw_88 : decode cX0_draw 88 = .ok (.iconst 1, 1) := by decide +kernel
theorem dX0_draw_89 : decode cX0_draw 89 = .ok (.iload 4, 2) := by decide +kernel
theorem dX0_draw_91 : decode cX0_draw 91 = .ok (.ishl, 1) := by decide +kernel
theorem dX0_draw_92 : decode cX0_draw 92 = .ok (.ior, 1) := by decide +kernel
theorem dX0_draw_93 : decode cX0_draw 93 = .ok (.iastore, 1) := by decide +kernel
theorem dX0_draw_94 : decode cX0_draw 94 = .ok (.iinc 5 1, 3) := by decide +kernel
theorem dX0_draw_97 : decode cX0_draw 97 = .ok (.goto (-60), 3) := by decide +kernel
theorem dX0_draw_100 : decode cX0_draw 100 = .ok (.iinc 4 1, 3) := by decide +kernel
theorem dX0_draw_103 : decode cX0_draw 103 = .ok (.goto (-81), 3) := by decide +kernel
theorem dX0_draw_106 : decode cX0_draw 106 = .ok (.return_, 1) := by decide +kernel
theorem dX0_redraw_0 : decode cX0_redraw 0 = .ok (.aload_n 0, 1) := by decide +kernel
theorem dX0_redraw_1 : decode cX0_redraw 1 = .ok (.getfield 15, 3) := by decide +kernel
theorem dX0_redraw_4 : decode cX0_redraw 4 = .ok (.iload_n 1, 1) := by decide +kernel
theorem dX0_redraw_5 : decode cX0_redraw 5 = .ok (.iload_n 2, 1) := by decide +kernel
theorem dX0_redraw_6 : decode cX0_redraw 6 = .ok (.iastore, 1) := by decide +kernel
theorem dX0_redraw_7 : decode cX0_redraw 7 = .ok (.iconst 0, 1) := by decide +kernel
theorem dX0_redraw_8 : decode cX0_redraw 8 = .ok (.istore_n 3, 1) := by decide +kernel
theorem dX0_redraw_9 : decode cX0_redraw 9 = .ok (.iload_n 3, 1) := by decide +kernel
theorem dX0_redraw_10 : decode cX0_redraw 10 = .ok (.aload_n 0, 1) := by decide +kernel
theorem dX0_redraw_11 : decode cX0_redraw 11 = .ok (.getfield 9, 3) := by decide +kernel
theorem dX0_redraw_14 : decode cX0_redraw 14 = .ok (.if_icmp .ge 40, 3) := by decide +kernel
theorem dX0_redraw_17 : decode cX0_redraw 17 = .ok (.iload_n 3, 1) := by decide +kernel
theorem dX0_redraw_18 : decode cX0_redraw 18 = .ok (.iload_n 1, 1) := by decide +kernel
theorem dX0_redraw_19 : decode cX0_redraw 19 = .ok (.if_icmp .eq 29, 3) := by decide +kernel
theorem dX0_redraw_22 : decode cX0_redraw 22 = .ok (.aload_n 0, 1) := by decide +kernel
theorem dX0_redraw_23 : decode cX0_redraw 23 = .ok (.getfield 15, 3) := by decide +kernel
theorem dX0_redraw_26 : decode cX0_redraw 26 = .ok (.iload_n 3, 1) := by decide +kernel
theorem dX0_redraw_27 : decode cX0_redraw 27 = .ok (.aload_n 0, 1) := by decide +kernel
theorem dX0_redraw_28 : decode cX0_redraw 28 = .ok (.getfield 15, 3) := by decide +kernel
theorem dX0_redraw_31 : decode cX0_redraw 31 = .ok (.iload_n 3, 1) := by decide +kernel
theorem dX0_redraw_32 : decode cX0_redraw 32 = .ok (.iaload, 1) := by decide +kernel
theorem dX0_redraw_33 : decode cX0_redraw 33 = .ok (.iconst 1, 1) := by decide +kernel
theorem dX0_redraw_34 : decode cX0_redraw 34 = .ok (.iload_n 1, 1) := by decide +kernel
theorem dX0_redraw_35 : decode cX0_redraw 35 = .ok (.ishl, 1) := by decide +kernel
theorem dX0_redraw_36 : decode cX0_redraw 36 = .ok (.iconst (-1), 1) := by decide +kernel
theorem dX0_redraw_37 : decode cX0_redraw 37 = .ok (.ixor, 1) := by decide +kernel
theorem dX0_redraw_38 : decode cX0_redraw 38 = .ok (.iand, 1) := by decide +kernel
theorem dX0_redraw_39 : decode cX0_redraw 39 = .ok (.iload_n 2, 1) := by decide +kernel
theorem dX0_redraw_40 : decode cX0_redraw 40 = .ok (.iload_n 3, 1) := by decide +kernel
theorem dX0_redraw_41 : decode cX0_redraw 41 = .ok (.ishr, 1) := by decide +kernel
theorem dX0_redraw_42 : decode cX0_redraw 42 = .ok (.iconst 1, 1) := by decide +kernel
theorem dX0_redraw_43 : decode cX0_redraw 43 = .ok (.iand, 1) := by decide +kernel
theorem dX0_redraw_44 : decode cX0_redraw 44 = .ok (.iload_n 1, 1) := by decide +kernel
theorem dX0_redraw_45 : decode cX0_redraw 45 = .ok (.ishl, 1) := by decide +kernel
theorem dX0_redraw_46 : decode cX0_redraw 46 = .ok (.ior, 1) := by decide +kernel
theorem dX0_redraw_47 : decode cX0_redraw 47 = .ok (.iastore, 1) := by decide +kernel
theorem dX0_redraw_48 : decode cX0_redraw 48 = .ok (.iinc 3 1, 3) := by decide +kernel
theorem dX0_redraw_51 : decode cX0_redraw 51 = .ok (.goto (-42), 3) := by decide +kernel
theorem dX0_redraw_54 : decode cX0_redraw 54 = .ok (.return_, 1) := by decide +kernel
theorem dX0_twosOf_0 : decode cX0_twosOf 0 = .ok (.aload_n 0, 1) := by decide +kernel
theorem dX0_twosOf_1 : decode cX0_twosOf 1 = .ok (.getfield 22, 3) := by decide +kernel
theorem dX0_twosOf_4 : decode cX0_twosOf 4 = .ok (.iload_n 1, 1) := by decide +kernel
theorem dX0_twosOf_5 : decode cX0_twosOf 5 = .ok (.iaload, 1) := by decide +kernel
theorem dX0_twosOf_6 : decode cX0_twosOf 6 = .ok (.sipush 1000, 3) := by decide +kernel
theorem dX0_twosOf_9 : decode cX0_twosOf 9 = .ok (.idiv, 1) := by decide +kernel
theorem dX0_twosOf_10 : decode cX0_twosOf 10 = .ok (.ireturn, 1) := by decide +kernel
theorem dX4_joined_0 : decode cX4_joined 0 = .ok (.iload_n 0, 1) := by decide +kernel
theorem dX4_joined_1 : decode cX4_joined 1 = .ok (.lookupswitch 144 #[(22, 136), (42, 85), (43, 67), (45, 76), (60, 108), (61, 94), (62, 122)], 67) := by decide +kernel
theorem dX4_joined_68 : decode cX4_joined 68 = .ok (.iload_n 1, 1) := by decide +kernel
theorem dX4_joined_69 : decode cX4_joined 69 = .ok (.i2l, 1) := by decide +kernel
theorem dX4_joined_70 : decode cX4_joined 70 = .ok (.iload_n 2, 1) := by decide +kernel
theorem dX4_joined_71 : decode cX4_joined 71 = .ok (.i2l, 1) := by decide +kernel
theorem dX4_joined_72 : decode cX4_joined 72 = .ok (.ladd, 1) := by decide +kernel
theorem dX4_joined_73 : decode cX4_joined 73 = .ok (.lstore_n 3, 1) := by decide +kernel
theorem dX4_joined_74 : decode cX4_joined 74 = .ok (.goto 76, 3) := by decide +kernel
theorem dX4_joined_77 : decode cX4_joined 77 = .ok (.iload_n 1, 1) := by decide +kernel
theorem dX4_joined_78 : decode cX4_joined 78 = .ok (.i2l, 1) := by decide +kernel
theorem dX4_joined_79 : decode cX4_joined 79 = .ok (.iload_n 2, 1) := by decide +kernel
theorem dX4_joined_80 : decode cX4_joined 80 = .ok (.i2l, 1) := by decide +kernel
theorem dX4_joined_81 : decode cX4_joined 81 = .ok (.lsub, 1) := by decide +kernel
theorem dX4_joined_82 : decode cX4_joined 82 = .ok (.lstore_n 3, 1) := by decide +kernel
theorem dX4_joined_83 : decode cX4_joined 83 = .ok (.goto 67, 3) := by decide +kernel
theorem dX4_joined_86 : decode cX4_joined 86 = .ok (.iload_n 1, 1) := by decide +kernel
theorem dX4_joined_87 : decode cX4_joined 87 = .ok (.i2l, 1) := by decide +kernel
theorem dX4_joined_88 : decode cX4_joined 88 = .ok (.iload_n 2, 1) := by decide +kernel
theorem dX4_joined_89 : decode cX4_joined 89 = .ok (.i2l, 1) := by decide +kernel
theorem dX4_joined_90 : decode cX4_joined 90 = .ok (.lmul, 1) := by decide +kernel
theorem dX4_joined_91 : decode cX4_joined 91 = .ok (.lstore_n 3, 1) := by decide +kernel
theorem dX4_joined_92 : decode cX4_joined 92 = .ok (.goto 58, 3) := by decide +kernel
theorem dX4_joined_95 : decode cX4_joined 95 = .ok (.iload_n 1, 1) := by decide +kernel
theorem dX4_joined_96 : decode cX4_joined 96 = .ok (.iload_n 2, 1) := by decide +kernel
theorem dX4_joined_97 : decode cX4_joined 97 = .ok (.if_icmp .ne 7, 3) := by decide +kernel
theorem dX4_joined_100 : decode cX4_joined 100 = .ok (.lconst 1, 1) := by decide +kernel
theorem dX4_joined_101 : decode cX4_joined 101 = .ok (.goto 4, 3) := by decide +kernel
theorem dX4_joined_104 : decode cX4_joined 104 = .ok (.lconst 0, 1) := by decide +kernel
theorem dX4_joined_105 : decode cX4_joined 105 = .ok (.lstore_n 3, 1) := by decide +kernel
theorem dX4_joined_106 : decode cX4_joined 106 = .ok (.goto 44, 3) := by decide +kernel
theorem dX4_joined_109 : decode cX4_joined 109 = .ok (.iload_n 1, 1) := by decide +kernel
theorem dX4_joined_110 : decode cX4_joined 110 = .ok (.iload_n 2, 1) := by decide +kernel
theorem dX4_joined_111 : decode cX4_joined 111 = .ok (.if_icmp .ge 7, 3) := by decide +kernel
theorem dX4_joined_114 : decode cX4_joined 114 = .ok (.lconst 1, 1) := by decide +kernel
theorem dX4_joined_115 : decode cX4_joined 115 = .ok (.goto 4, 3) := by decide +kernel
theorem dX4_joined_118 : decode cX4_joined 118 = .ok (.lconst 0, 1) := by decide +kernel
theorem dX4_joined_119 : decode cX4_joined 119 = .ok (.lstore_n 3, 1) := by decide +kernel
theorem dX4_joined_120 : decode cX4_joined 120 = .ok (.goto 30, 3) := by decide +kernel
theorem dX4_joined_123 : decode cX4_joined 123 = .ok (.iload_n 1, 1) := by decide +kernel
theorem dX4_joined_124 : decode cX4_joined 124 = .ok (.iload_n 2, 1) := by decide +kernel
theorem dX4_joined_125 : decode cX4_joined 125 = .ok (.if_icmp .le 7, 3) := by decide +kernel
theorem dX4_joined_128 : decode cX4_joined 128 = .ok (.lconst 1, 1) := by decide +kernel
theorem dX4_joined_129 : decode cX4_joined 129 = .ok (.goto 4, 3) := by decide +kernel
theorem dX4_joined_132 : decode cX4_joined 132 = .ok (.lconst 0, 1) := by decide +kernel
theorem dX4_joined_133 : decode cX4_joined 133 = .ok (.lstore_n 3, 1) := by decide +kernel
theorem dX4_joined_134 : decode cX4_joined 134 = .ok (.goto 16, 3) := by decide +kernel
theorem dX4_joined_137 : decode cX4_joined 137 = .ok (.iload_n 1, 1) := by decide +kernel
theorem dX4_joined_138 : decode cX4_joined 138 = .ok (.iload_n 2, 1) := by decide +kernel
theorem dX4_joined_139 : decode cX4_joined 139 = .ok (.iand, 1) := by decide +kernel
theorem dX4_joined_140 : decode cX4_joined 140 = .ok (.i2l, 1) := by decide +kernel
theorem dX4_joined_141 : decode cX4_joined 141 = .ok (.lstore_n 3, 1) := by decide +kernel
theorem dX4_joined_142 : decode cX4_joined 142 = .ok (.goto 8, 3) := by decide +kernel
theorem dX4_joined_145 : decode cX4_joined 145 = .ok (.iload_n 1, 1) := by decide +kernel
theorem dX4_joined_146 : decode cX4_joined 146 = .ok (.iload_n 2, 1) := by decide +kernel
theorem dX4_joined_147 : decode cX4_joined 147 = .ok (.ior, 1) := by decide +kernel
theorem dX4_joined_148 : decode cX4_joined 148 = .ok (.i2l, 1) := by decide +kernel
theorem dX4_joined_149 : decode cX4_joined 149 = .ok (.lstore_n 3, 1) := by decide +kernel
theorem dX4_joined_150 : decode cX4_joined 150 = .ok (.ldc2_w 25, 3) := by decide +kernel
theorem dX4_joined_153 : decode cX4_joined 153 = .ok (.ldc2_w 27, 3) := by decide +kernel
theorem dX4_joined_156 : decode cX4_joined 156 = .ok (.lload_n 3, 1) := by decide +kernel
theorem dX4_joined_157 : decode cX4_joined 157 = .ok (.invokestatic 29, 3) := by decide +kernel
theorem dX4_joined_160 : decode cX4_joined 160 = .ok (.invokestatic 35, 3) := by decide +kernel
theorem dX4_joined_163 : decode cX4_joined 163 = .ok (.l2i, 1) := by decide +kernel
theorem dX4_joined_164 : decode cX4_joined 164 = .ok (.ireturn, 1) := by decide +kernel
theorem dX4_valueFor_0 : decode cX4_valueFor 0 = .ok (.iconst 0, 1) := by decide +kernel
theorem dX4_valueFor_1 : decode cX4_valueFor 1 = .ok (.istore_n 3, 1) := by decide +kernel
theorem dX4_valueFor_2 : decode cX4_valueFor 2 = .ok (.iconst 0, 1) := by decide +kernel
theorem dX4_valueFor_3 : decode cX4_valueFor 3 = .ok (.istore 4, 2) := by decide +kernel
theorem dX4_valueFor_5 : decode cX4_valueFor 5 = .ok (.iload 4, 2) := by decide +kernel
theorem dX4_valueFor_7 : decode cX4_valueFor 7 = .ok (.aload_n 0, 1) := by decide +kernel
theorem dX4_valueFor_8 : decode cX4_valueFor 8 = .ok (.getfield 15, 3) := by decide +kernel
theorem dX4_valueFor_11 : decode cX4_valueFor 11 = .ok (.arraylength, 1) := by decide +kernel
theorem dX4_valueFor_12 : decode cX4_valueFor 12 = .ok (.if_icmp .ge 127, 3) := by decide +kernel
theorem dX4_valueFor_15 : decode cX4_valueFor 15 = .ok (.aload_n 0, 1) := by decide +kernel
theorem dX4_valueFor_16 : decode cX4_valueFor 16 = .ok (.getfield 15, 3) := by decide +kernel
theorem dX4_valueFor_19 : decode cX4_valueFor 19 = .ok (.iload 4, 2) := by decide +kernel
theorem dX4_valueFor_21 : decode cX4_valueFor 21 = .ok (.iaload, 1) := by decide +kernel
theorem dX4_valueFor_22 : decode cX4_valueFor 22 = .ok (.istore 5, 2) := by decide +kernel
theorem dX4_valueFor_24 : decode cX4_valueFor 24 = .ok (.iload 5, 2) := by decide +kernel
theorem dX4_valueFor_26 : decode cX4_valueFor 26 = .ok (.sipush 2000, 3) := by decide +kernel
theorem dX4_valueFor_29 : decode cX4_valueFor 29 = .ok (.if_icmp .ge 47, 3) := by decide +kernel
theorem dX4_valueFor_32 : decode cX4_valueFor 32 = .ok (.iload 5, 2) := by decide +kernel
theorem dX4_valueFor_34 : decode cX4_valueFor 34 = .ok (.sipush 1000, 3) := by decide +kernel
theorem dX4_valueFor_37 : decode cX4_valueFor 37 = .ok (.isub, 1) := by decide +kernel
theorem dX4_valueFor_38 : decode cX4_valueFor 38 = .ok (.istore 6, 2) := by decide +kernel
theorem dX4_valueFor_40 : decode cX4_valueFor 40 = .ok (.iload_n 3, 1) := by decide +kernel
theorem dX4_valueFor_41 : decode cX4_valueFor 41 = .ok (.aload_n 2, 1) := by decide +kernel
theorem dX4_valueFor_42 : decode cX4_valueFor 42 = .ok (.arraylength, 1) := by decide +kernel
theorem dX4_valueFor_43 : decode cX4_valueFor 43 = .ok (.if_icmp .ge 30, 3) := by decide +kernel
theorem dX4_valueFor_46 : decode cX4_valueFor 46 = .ok (.iload 6, 2) := by decide +kernel
theorem dX4_valueFor_48 : decode cX4_valueFor 48 = .ok (.aload_n 1, 1) := by decide +kernel
theorem dX4_valueFor_49 : decode cX4_valueFor 49 = .ok (.arraylength, 1) := by decide +kernel
theorem dX4_valueFor_50 : decode cX4_valueFor 50 = .ok (.if_icmp .ge 23, 3) := by decide +kernel
theorem dX4_valueFor_53 : decode cX4_valueFor 53 = .ok (.aload_n 2, 1) := by decide +kernel
theorem dX4_valueFor_54 : decode cX4_valueFor 54 = .ok (.iload_n 3, 1) := by decide +kernel
theorem dX4_valueFor_55 : decode cX4_valueFor 55 = .ok (.iload 6, 2) := by decide +kernel
theorem dX4_valueFor_57 : decode cX4_valueFor 57 = .ok (.ifCond .ge 8, 3) := by decide +kernel
theorem dX4_valueFor_60 : decode cX4_valueFor 60 = .ok (.iload 5, 2) := by decide +kernel
theorem dX4_valueFor_62 : decode cX4_valueFor 62 = .ok (.goto 7, 3) := by decide +kernel
theorem dX4_valueFor_65 : decode cX4_valueFor 65 = .ok (.aload_n 1, 1) := by decide +kernel
theorem dX4_valueFor_66 : decode cX4_valueFor 66 = .ok (.iload 6, 2) := by decide +kernel
theorem dX4_valueFor_68 : decode cX4_valueFor 68 = .ok (.iaload, 1) := by decide +kernel
theorem dX4_valueFor_69 : decode cX4_valueFor 69 = .ok (.iastore, 1) := by decide +kernel
theorem dX4_valueFor_70 : decode cX4_valueFor 70 = .ok (.iinc 3 1, 3) := by decide +kernel
theorem dX4_valueFor_73 : decode cX4_valueFor 73 = .ok (.goto 60, 3) := by decide +kernel
theorem dX4_valueFor_76 : decode cX4_valueFor 76 = .ok (.iload 5, 2) := by decide +kernel
theorem dX4_valueFor_78 : decode cX4_valueFor 78 = .ok (.sipush 2023, 3) := by decide +kernel
theorem dX4_valueFor_81 : decode cX4_valueFor 81 = .ok (.if_icmp .ne 22, 3) := by decide +kernel
theorem dX4_valueFor_84 : decode cX4_valueFor 84 = .ok (.iload_n 3, 1) := by decide +kernel
theorem dX4_valueFor_85 : decode cX4_valueFor 85 = .ok (.ifCond .le 48, 3) := by decide +kernel
theorem dX4_valueFor_88 : decode cX4_valueFor 88 = .ok (.aload_n 2, 1) := by decide +kernel
theorem dX4_valueFor_89 : decode cX4_valueFor 89 = .ok (.iload_n 3, 1) := by decide +kernel
theorem dX4_valueFor_90 : decode cX4_valueFor 90 = .ok (.iconst 1, 1) := by decide +kernel
theorem dX4_valueFor_91 : decode cX4_valueFor 91 = .ok (.isub, 1) := by decide +kernel
theorem dX4_valueFor_92 : decode cX4_valueFor 92 = .ok (.iconst 1, 1) := by decide +kernel
theorem dX4_valueFor_93 : decode cX4_valueFor 93 = .ok (.aload_n 2, 1) := by decide +kernel
theorem dX4_valueFor_94 : decode cX4_valueFor 94 = .ok (.iload_n 3, 1) := by decide +kernel
theorem dX4_valueFor_95 : decode cX4_valueFor 95 = .ok (.iconst 1, 1) := by decide +kernel
theorem dX4_valueFor_96 : decode cX4_valueFor 96 = .ok (.isub, 1) := by decide +kernel
theorem dX4_valueFor_97 : decode cX4_valueFor 97 = .ok (.iaload, 1) := by decide +kernel
theorem dX4_valueFor_98 : decode cX4_valueFor 98 = .ok (.isub, 1) := by decide +kernel
theorem dX4_valueFor_99 : decode cX4_valueFor 99 = .ok (.iastore, 1) := by decide +kernel
theorem dX4_valueFor_100 : decode cX4_valueFor 100 = .ok (.goto 33, 3) := by decide +kernel
theorem dX4_valueFor_103 : decode cX4_valueFor 103 = .ok (.iload_n 3, 1) := by decide +kernel
theorem dX4_valueFor_104 : decode cX4_valueFor 104 = .ok (.iconst 1, 1) := by decide +kernel
theorem dX4_valueFor_105 : decode cX4_valueFor 105 = .ok (.if_icmp .le 28, 3) := by decide +kernel
theorem dX4_valueFor_108 : decode cX4_valueFor 108 = .ok (.iinc 3 (-1), 3) := by decide +kernel
theorem dX4_valueFor_111 : decode cX4_valueFor 111 = .ok (.aload_n 2, 1) := by decide +kernel
theorem dX4_valueFor_112 : decode cX4_valueFor 112 = .ok (.iload_n 3, 1) := by decide +kernel
theorem dX4_valueFor_113 : decode cX4_valueFor 113 = .ok (.iconst 1, 1) := by decide +kernel
theorem dX4_valueFor_114 : decode cX4_valueFor 114 = .ok (.isub, 1) := by decide +kernel
theorem dX4_valueFor_115 : decode cX4_valueFor 115 = .ok (.iload 5, 2) := by decide +kernel
theorem dX4_valueFor_117 : decode cX4_valueFor 117 = .ok (.sipush 2000, 3) := by decide +kernel
theorem dX4_valueFor_120 : decode cX4_valueFor 120 = .ok (.isub, 1) := by decide +kernel
theorem dX4_valueFor_121 : decode cX4_valueFor 121 = .ok (.aload_n 2, 1) := by decide +kernel
theorem dX4_valueFor_122 : decode cX4_valueFor 122 = .ok (.iload_n 3, 1) := by decide +kernel
theorem dX4_valueFor_123 : decode cX4_valueFor 123 = .ok (.iconst 1, 1) := by decide +kernel
theorem dX4_valueFor_124 : decode cX4_valueFor 124 = .ok (.isub, 1) := by decide +kernel
theorem dX4_valueFor_125 : decode cX4_valueFor 125 = .ok (.iaload, 1) := by decide +kernel
theorem dX4_valueFor_126 : decode cX4_valueFor 126 = .ok (.aload_n 2, 1) := by decide +kernel
theorem dX4_valueFor_127 : decode cX4_valueFor 127 = .ok (.iload_n 3, 1) := by decide +kernel
theorem dX4_valueFor_128 : decode cX4_valueFor 128 = .ok (.iaload, 1) := by decide +kernel
theorem dX4_valueFor_129 : decode cX4_valueFor 129 = .ok (.invokestatic 21, 3) := by decide +kernel
theorem dX4_valueFor_132 : decode cX4_valueFor 132 = .ok (.iastore, 1) := by decide +kernel
theorem dX4_valueFor_133 : decode cX4_valueFor 133 = .ok (.iinc 4 1, 3) := by decide +kernel
theorem dX4_valueFor_136 : decode cX4_valueFor 136 = .ok (.goto (-131), 3) := by decide +kernel
theorem dX4_valueFor_139 : decode cX4_valueFor 139 = .ok (.iload_n 3, 1) := by decide +kernel
theorem dX4_valueFor_140 : decode cX4_valueFor 140 = .ok (.ifCond .le 9, 3) := by decide +kernel
theorem dX4_valueFor_143 : decode cX4_valueFor 143 = .ok (.aload_n 2, 1) := by decide +kernel
theorem dX4_valueFor_144 : decode cX4_valueFor 144 = .ok (.iconst 0, 1) := by decide +kernel
theorem dX4_valueFor_145 : decode cX4_valueFor 145 = .ok (.iaload, 1) := by decide +kernel
theorem dX4_valueFor_146 : decode cX4_valueFor 146 = .ok (.goto 4, 3) := by decide +kernel
theorem dX4_valueFor_149 : decode cX4_valueFor 149 = .ok (.iconst 0, 1) := by decide +kernel
theorem dX4_valueFor_150 : decode cX4_valueFor 150 = .ok (.ireturn, 1) := by decide +kernel
theorem dX6_areOpposites_0 : decode cX6_areOpposites 0 = .ok (.aload_n 1, 1) := by decide +kernel
theorem dX6_areOpposites_1 : decode cX6_areOpposites 1 = .ok (.getfield 28, 3) := by decide +kernel
theorem dX6_areOpposites_4 : decode cX6_areOpposites 4 = .ok (.getfield 34, 3) := by decide +kernel
theorem dX6_areOpposites_7 : decode cX6_areOpposites 7 = .ok (.astore 6, 2) := by decide +kernel
theorem dX6_areOpposites_9 : decode cX6_areOpposites 9 = .ok (.aload_n 1, 1) := by decide +kernel
theorem dX6_areOpposites_10 : decode cX6_areOpposites 10 = .ok (.getfield 40, 3) := by decide +kernel
theorem dX6_areOpposites_13 : decode cX6_areOpposites 13 = .ok (.iload 4, 2) := by decide +kernel
theorem dX6_areOpposites_15 : decode cX6_areOpposites 15 = .ok (.iaload, 1) := by decide +kernel
theorem dX6_areOpposites_16 : decode cX6_areOpposites 16 = .ok (.istore 7, 2) := by decide +kernel
theorem dX6_areOpposites_18 : decode cX6_areOpposites 18 = .ok (.aload 6, 2) := by decide +kernel
theorem dX6_areOpposites_20 : decode cX6_areOpposites 20 = .ok (.ifnonnull 24, 3) := by decide +kernel
theorem dX6_areOpposites_23 : decode cX6_areOpposites 23 = .ok (.iload_n 3, 1) := by decide +kernel
theorem dX6_areOpposites_24 : decode cX6_areOpposites 24 = .ok (.bipush 100, 2) := by decide +kernel
theorem dX6_areOpposites_26 : decode cX6_areOpposites 26 = .ok (.idiv, 1) := by decide +kernel
theorem dX6_areOpposites_27 : decode cX6_areOpposites 27 = .ok (.iload 7, 2) := by decide +kernel
theorem dX6_areOpposites_29 : decode cX6_areOpposites 29 = .ok (.bipush 100, 2) := by decide +kernel
theorem dX6_areOpposites_31 : decode cX6_areOpposites 31 = .ok (.idiv, 1) := by decide +kernel
theorem dX6_areOpposites_32 : decode cX6_areOpposites 32 = .ok (.iadd, 1) := by decide +kernel
theorem dX6_areOpposites_33 : decode cX6_areOpposites 33 = .ok (.bipush 9, 2) := by decide +kernel
theorem dX6_areOpposites_35 : decode cX6_areOpposites 35 = .ok (.if_icmp .ne 7, 3) := by decide +kernel
theorem dX6_areOpposites_38 : decode cX6_areOpposites 38 = .ok (.iconst 1, 1) := by decide +kernel
theorem dX6_areOpposites_39 : decode cX6_areOpposites 39 = .ok (.goto 4, 3) := by decide +kernel
theorem dX6_areOpposites_42 : decode cX6_areOpposites 42 = .ok (.iconst 0, 1) := by decide +kernel
theorem dX6_areOpposites_43 : decode cX6_areOpposites 43 = .ok (.ireturn, 1) := by decide +kernel
theorem dX6_areOpposites_44 : decode cX6_areOpposites 44 = .ok (.aload_n 0, 1) := by decide +kernel
theorem dX6_areOpposites_45 : decode cX6_areOpposites 45 = .ok (.getfield 9, 3) := by decide +kernel
theorem dX6_areOpposites_48 : decode cX6_areOpposites 48 = .ok (.bipush 8, 2) := by decide +kernel
theorem dX6_areOpposites_50 : decode cX6_areOpposites 50 = .ok (.iload 5, 2) := by decide +kernel
theorem dX6_areOpposites_52 : decode cX6_areOpposites 52 = .ok (.bipush 7, 2) := by decide +kernel
theorem dX6_areOpposites_54 : decode cX6_areOpposites 54 = .ok (.irem, 1) := by decide +kernel
theorem dX6_areOpposites_55 : decode cX6_areOpposites 55 = .ok (.iastore, 1) := by decide +kernel
theorem dX6_areOpposites_56 : decode cX6_areOpposites 56 = .ok (.aload_n 0, 1) := by decide +kernel
theorem dX6_areOpposites_57 : decode cX6_areOpposites 57 = .ok (.aload 6, 2) := by decide +kernel
theorem dX6_areOpposites_59 : decode cX6_areOpposites 59 = .ok (.iload_n 2, 1) := by decide +kernel
theorem dX6_areOpposites_60 : decode cX6_areOpposites 60 = .ok (.iload_n 3, 1) := by decide +kernel
theorem dX6_areOpposites_61 : decode cX6_areOpposites 61 = .ok (.iload 4, 2) := by decide +kernel
theorem dX6_areOpposites_63 : decode cX6_areOpposites 63 = .ok (.iload 7, 2) := by decide +kernel
theorem dX6_areOpposites_65 : decode cX6_areOpposites 65 = .ok (.invokevirtual 43, 3) := by decide +kernel
theorem dX6_areOpposites_68 : decode cX6_areOpposites 68 = .ok (.ifCond .ne 18, 3) := by decide +kernel
theorem dX6_areOpposites_71 : decode cX6_areOpposites 71 = .ok (.aload_n 0, 1) := by decide +kernel
theorem dX6_areOpposites_72 : decode cX6_areOpposites 72 = .ok (.aload 6, 2) := by decide +kernel
theorem dX6_areOpposites_74 : decode cX6_areOpposites 74 = .ok (.iload 4, 2) := by decide +kernel
theorem dX6_areOpposites_76 : decode cX6_areOpposites 76 = .ok (.iload 7, 2) := by decide +kernel
theorem dX6_areOpposites_78 : decode cX6_areOpposites 78 = .ok (.iload_n 2, 1) := by decide +kernel
theorem dX6_areOpposites_79 : decode cX6_areOpposites 79 = .ok (.iload_n 3, 1) := by decide +kernel
theorem dX6_areOpposites_80 : decode cX6_areOpposites 80 = .ok (.invokevirtual 43, 3) := by decide +kernel
theorem dX6_areOpposites_83 : decode cX6_areOpposites 83 = .ok (.ifCond .eq 7, 3) := by decide +kernel
theorem dX6_areOpposites_86 : decode cX6_areOpposites 86 = .ok (.iconst 1, 1) := by decide +kernel
theorem dX6_areOpposites_87 : decode cX6_areOpposites 87 = .ok (.goto 4, 3) := by decide +kernel
theorem dX6_areOpposites_90 : decode cX6_areOpposites 90 = .ok (.iconst 0, 1) := by decide +kernel
theorem dX6_areOpposites_91 : decode cX6_areOpposites 91 = .ok (.ireturn, 1) := by decide +kernel
theorem dX6_opposesOneWay_0 : decode cX6_opposesOneWay 0 = .ok (.aload_n 0, 1) := by decide +kernel
theorem dX6_opposesOneWay_1 : decode cX6_opposesOneWay 1 = .ok (.iconst 0, 1) := by decide +kernel
theorem dX6_opposesOneWay_2 : decode cX6_opposesOneWay 2 = .ok (.iload_n 3, 1) := by decide +kernel
theorem dX6_opposesOneWay_3 : decode cX6_opposesOneWay 3 = .ok (.iload_n 2, 1) := by decide +kernel
theorem dX6_opposesOneWay_4 : decode cX6_opposesOneWay 4 = .ok (.invokevirtual 18, 3) := by decide +kernel
theorem dX6_opposesOneWay_7 : decode cX6_opposesOneWay 7 = .ok (.aload_n 0, 1) := by decide +kernel
theorem dX6_opposesOneWay_8 : decode cX6_opposesOneWay 8 = .ok (.iconst 4, 1) := by decide +kernel
theorem dX6_opposesOneWay_9 : decode cX6_opposesOneWay 9 = .ok (.iload 5, 2) := by decide +kernel
theorem dX6_opposesOneWay_11 : decode cX6_opposesOneWay 11 = .ok (.iload 4, 2) := by decide +kernel
theorem dX6_opposesOneWay_13 : decode cX6_opposesOneWay 13 = .ok (.invokevirtual 18, 3) := by decide +kernel
theorem dX6_opposesOneWay_16 : decode cX6_opposesOneWay 16 = .ok (.aload_n 1, 1) := by decide +kernel
theorem dX6_opposesOneWay_17 : decode cX6_opposesOneWay 17 = .ok (.aload_n 0, 1) := by decide +kernel
theorem dX6_opposesOneWay_18 : decode cX6_opposesOneWay 18 = .ok (.getfield 9, 3) := by decide +kernel
theorem dX6_opposesOneWay_21 : decode cX6_opposesOneWay 21 = .ok (.aload_n 0, 1) := by decide +kernel
theorem dX6_opposesOneWay_22 : decode cX6_opposesOneWay 22 = .ok (.getfield 15, 3) := by decide +kernel
theorem dX6_opposesOneWay_25 : decode cX6_opposesOneWay 25 = .ok (.invokevirtual 22, 3) := by decide +kernel
theorem dX6_opposesOneWay_28 : decode cX6_opposesOneWay 28 = .ok (.ifCond .eq 7, 3) := by decide +kernel
theorem dX6_opposesOneWay_31 : decode cX6_opposesOneWay 31 = .ok (.iconst 1, 1) := by decide +kernel
theorem dX6_opposesOneWay_32 : decode cX6_opposesOneWay 32 = .ok (.goto 4, 3) := by decide +kernel
theorem dX6_opposesOneWay_35 : decode cX6_opposesOneWay 35 = .ok (.iconst 0, 1) := by decide +kernel
theorem dX6_opposesOneWay_36 : decode cX6_opposesOneWay 36 = .ok (.ireturn, 1) := by decide +kernel
theorem dX6_put_0 : decode cX6_put 0 = .ok (.aload_n 0, 1) := by decide +kernel
theorem dX6_put_1 : decode cX6_put 1 = .ok (.getfield 9, 3) := by decide +kernel
theorem dX6_put_4 : decode cX6_put 4 = .ok (.iload_n 1, 1) := by decide +kernel
theorem dX6_put_5 : decode cX6_put 5 = .ok (.iload_n 2, 1) := by decide +kernel
theorem dX6_put_6 : decode cX6_put 6 = .ok (.bipush 100, 2) := by decide +kernel
theorem dX6_put_8 : decode cX6_put 8 = .ok (.idiv, 1) := by decide +kernel
theorem dX6_put_9 : decode cX6_put 9 = .ok (.iastore, 1) := by decide +kernel
theorem dX6_put_10 : decode cX6_put 10 = .ok (.aload_n 0, 1) := by decide +kernel
theorem dX6_put_11 : decode cX6_put 11 = .ok (.getfield 9, 3) := by decide +kernel
theorem dX6_put_14 : decode cX6_put 14 = .ok (.iload_n 1, 1) := by decide +kernel
theorem dX6_put_15 : decode cX6_put 15 = .ok (.iconst 1, 1) := by decide +kernel
theorem dX6_put_16 : decode cX6_put 16 = .ok (.iadd, 1) := by decide +kernel
theorem dX6_put_17 : decode cX6_put 17 = .ok (.iload_n 2, 1) := by decide +kernel
theorem dX6_put_18 : decode cX6_put 18 = .ok (.bipush 10, 2) := by decide +kernel
theorem dX6_put_20 : decode cX6_put 20 = .ok (.idiv, 1) := by decide +kernel
theorem dX6_put_21 : decode cX6_put 21 = .ok (.bipush 10, 2) := by decide +kernel
theorem dX6_put_23 : decode cX6_put 23 = .ok (.irem, 1) := by decide +kernel
theorem dX6_put_24 : decode cX6_put 24 = .ok (.iastore, 1) := by decide +kernel
theorem dX6_put_25 : decode cX6_put 25 = .ok (.aload_n 0, 1) := by decide +kernel
theorem dX6_put_26 : decode cX6_put 26 = .ok (.getfield 9, 3) := by decide +kernel
theorem dX6_put_29 : decode cX6_put 29 = .ok (.iload_n 1, 1) := by decide +kernel
theorem dX6_put_30 : decode cX6_put 30 = .ok (.iconst 2, 1) := by decide +kernel
theorem dX6_put_31 : decode cX6_put 31 = .ok (.iadd, 1) := by decide +kernel
theorem dX6_put_32 : decode cX6_put 32 = .ok (.iload_n 2, 1) := by decide +kernel
theorem dX6_put_33 : decode cX6_put 33 = .ok (.bipush 10, 2) := by decide +kernel
theorem dX6_put_35 : decode cX6_put 35 = .ok (.irem, 1) := by decide +kernel
theorem dX6_put_36 : decode cX6_put 36 = .ok (.iastore, 1) := by decide +kernel
theorem dX6_put_37 : decode cX6_put 37 = .ok (.aload_n 0, 1) := by decide +kernel
theorem dX6_put_38 : decode cX6_put 38 = .ok (.getfield 9, 3) := by decide +kernel
theorem dX6_put_41 : decode cX6_put 41 = .ok (.iload_n 1, 1) := by decide +kernel
theorem dX6_put_42 : decode cX6_put 42 = .ok (.iconst 3, 1) := by decide +kernel
theorem dX6_put_43 : decode cX6_put 43 = .ok (.iadd, 1) := by decide +kernel
theorem dX6_put_44 : decode cX6_put 44 = .ok (.iload_n 3, 1) := by decide +kernel
theorem dX6_put_45 : decode cX6_put 45 = .ok (.iastore, 1) := by decide +kernel
theorem dX6_put_46 : decode cX6_put 46 = .ok (.return_, 1) := by decide +kernel
theorem dX6_rowOf_0 : decode cX6_rowOf 0 = .ok (.iconst 0, 1) := by decide +kernel
theorem dX6_rowOf_1 : decode cX6_rowOf 1 = .ok (.istore 5, 2) := by decide +kernel
theorem dX6_rowOf_3 : decode cX6_rowOf 3 = .ok (.iconst 0, 1) := by decide +kernel
theorem dX6_rowOf_4 : decode cX6_rowOf 4 = .ok (.istore 6, 2) := by decide +kernel
theorem dX6_rowOf_6 : decode cX6_rowOf 6 = .ok (.iload 6, 2) := by decide +kernel
theorem dX6_rowOf_8 : decode cX6_rowOf 8 = .ok (.aload_n 1, 1) := by decide +kernel
theorem dX6_rowOf_9 : decode cX6_rowOf 9 = .ok (.getfield 28, 3) := by decide +kernel
theorem dX6_rowOf_12 : decode cX6_rowOf 12 = .ok (.getfield 47, 3) := by decide +kernel
theorem dX6_rowOf_15 : decode cX6_rowOf 15 = .ok (.if_icmp .ge 38, 3) := by decide +kernel
theorem dX6_rowOf_18 : decode cX6_rowOf 18 = .ok (.iload 6, 2) := by decide +kernel
theorem dX6_rowOf_20 : decode cX6_rowOf 20 = .ok (.iload_n 2, 1) := by decide +kernel
theorem dX6_rowOf_21 : decode cX6_rowOf 21 = .ok (.if_icmp .eq 26, 3) := by decide +kernel
theorem dX6_rowOf_24 : decode cX6_rowOf 24 = .ok (.aload_n 0, 1) := by decide +kernel
theorem dX6_rowOf_25 : decode cX6_rowOf 25 = .ok (.aload_n 1, 1) := by decide +kernel
theorem dX6_rowOf_26 : decode cX6_rowOf 26 = .ok (.iload_n 2, 1) := by decide +kernel
theorem dX6_rowOf_27 : decode cX6_rowOf 27 = .ok (.iload_n 3, 1) := by decide +kernel
theorem dX6_rowOf_28 : decode cX6_rowOf 28 = .ok (.iload 6, 2) := by decide +kernel
theorem dX6_rowOf_30 : decode cX6_rowOf 30 = .ok (.iload 4, 2) := by decide +kernel
theorem dX6_rowOf_32 : decode cX6_rowOf 32 = .ok (.invokevirtual 51, 3) := by decide +kernel
theorem dX6_rowOf_35 : decode cX6_rowOf 35 = .ok (.ifCond .eq 12, 3) := by decide +kernel
theorem dX6_rowOf_38 : decode cX6_rowOf 38 = .ok (.iload 5, 2) := by decide +kernel
theorem dX6_rowOf_40 : decode cX6_rowOf 40 = .ok (.iconst 1, 1) := by decide +kernel
theorem dX6_rowOf_41 : decode cX6_rowOf 41 = .ok (.iload 6, 2) := by decide +kernel
theorem dX6_rowOf_43 : decode cX6_rowOf 43 = .ok (.ishl, 1) := by decide +kernel
theorem dX6_rowOf_44 : decode cX6_rowOf 44 = .ok (.ior, 1) := by decide +kernel
theorem dX6_rowOf_45 : decode cX6_rowOf 45 = .ok (.istore 5, 2) := by decide +kernel
theorem dX6_rowOf_47 : decode cX6_rowOf 47 = .ok (.iinc 6 1, 3) := by decide +kernel
theorem dX6_rowOf_50 : decode cX6_rowOf 50 = .ok (.goto (-44), 3) := by decide +kernel
theorem dX6_rowOf_53 : decode cX6_rowOf 53 = .ok (.iload 5, 2) := by decide +kernel
theorem dX6_rowOf_55 : decode cX6_rowOf 55 = .ok (.ireturn, 1) := by decide +kernel
theorem dX7_inTown_0 : decode cX7_inTown 0 = .ok (.aload_n 0, 1) := by decide +kernel
theorem dX7_inTown_1 : decode cX7_inTown 1 = .ok (.aload_n 0, 1) := by decide +kernel
theorem dX7_inTown_2 : decode cX7_inTown 2 = .ok (.getfield 9, 3) := by decide +kernel
theorem dX7_inTown_5 : decode cX7_inTown 5 = .ok (.invokevirtual 38, 3) := by decide +kernel
theorem dX7_inTown_8 : decode cX7_inTown 8 = .ok (.ireturn, 1) := by decide +kernel
theorem dX7_inTownOn_0 : decode cX7_inTownOn 0 = .ok (.iconst 0, 1) := by decide +kernel
theorem dX7_inTownOn_1 : decode cX7_inTownOn 1 = .ok (.istore_n 2, 1) := by decide +kernel
theorem dX7_inTownOn_2 : decode cX7_inTownOn 2 = .ok (.iconst 0, 1) := by decide +kernel
theorem dX7_inTownOn_3 : decode cX7_inTownOn 3 = .ok (.istore_n 3, 1) := by decide +kernel
theorem dX7_inTownOn_4 : decode cX7_inTownOn 4 = .ok (.iload_n 3, 1) := by decide +kernel
theorem dX7_inTownOn_5 : decode cX7_inTownOn 5 = .ok (.aload_n 0, 1) := by decide +kernel
theorem dX7_inTownOn_6 : decode cX7_inTownOn 6 = .ok (.getfield 22, 3) := by decide +kernel
theorem dX7_inTownOn_9 : decode cX7_inTownOn 9 = .ok (.getfield 42, 3) := by decide +kernel
theorem dX7_inTownOn_12 : decode cX7_inTownOn 12 = .ok (.if_icmp .ge 41, 3) := by decide +kernel
theorem dX7_inTownOn_15 : decode cX7_inTownOn 15 = .ok (.aload_n 0, 1) := by decide +kernel
theorem dX7_inTownOn_16 : decode cX7_inTownOn 16 = .ok (.getfield 22, 3) := by decide +kernel
theorem dX7_inTownOn_19 : decode cX7_inTownOn 19 = .ok (.getfield 45, 3) := by decide +kernel
theorem dX7_inTownOn_22 : decode cX7_inTownOn 22 = .ok (.iload_n 3, 1) := by decide +kernel
theorem dX7_inTownOn_23 : decode cX7_inTownOn 23 = .ok (.iaload, 1) := by decide +kernel
theorem dX7_inTownOn_24 : decode cX7_inTownOn 24 = .ok (.iload_n 1, 1) := by decide +kernel
theorem dX7_inTownOn_25 : decode cX7_inTownOn 25 = .ok (.if_icmp .gt 22, 3) := by decide +kernel
theorem dX7_inTownOn_28 : decode cX7_inTownOn 28 = .ok (.iload_n 1, 1) := by decide +kernel
theorem dX7_inTownOn_29 : decode cX7_inTownOn 29 = .ok (.aload_n 0, 1) := by decide +kernel
theorem dX7_inTownOn_30 : decode cX7_inTownOn 30 = .ok (.getfield 22, 3) := by decide +kernel
theorem dX7_inTownOn_33 : decode cX7_inTownOn 33 = .ok (.getfield 48, 3) := by decide +kernel
theorem dX7_inTownOn_36 : decode cX7_inTownOn 36 = .ok (.iload_n 3, 1) := by decide +kernel
theorem dX7_inTownOn_37 : decode cX7_inTownOn 37 = .ok (.iaload, 1) := by decide +kernel
theorem dX7_inTownOn_38 : decode cX7_inTownOn 38 = .ok (.if_icmp .gt 9, 3) := by decide +kernel
theorem dX7_inTownOn_41 : decode cX7_inTownOn 41 = .ok (.iload_n 2, 1) := by decide +kernel
theorem dX7_inTownOn_42 : decode cX7_inTownOn 42 = .ok (.iconst 1, 1) := by decide +kernel
theorem dX7_inTownOn_43 : decode cX7_inTownOn 43 = .ok (.iload_n 3, 1) := by decide +kernel
theorem dX7_inTownOn_44 : decode cX7_inTownOn 44 = .ok (.ishl, 1) := by decide +kernel
theorem dX7_inTownOn_45 : decode cX7_inTownOn 45 = .ok (.ior, 1) := by decide +kernel
theorem dX7_inTownOn_46 : decode cX7_inTownOn 46 = .ok (.istore_n 2, 1) := by decide +kernel
theorem dX7_inTownOn_47 : decode cX7_inTownOn 47 = .ok (.iinc 3 1, 3) := by decide +kernel
theorem dX7_inTownOn_50 : decode cX7_inTownOn 50 = .ok (.goto (-46), 3) := by decide +kernel
theorem dX7_inTownOn_53 : decode cX7_inTownOn 53 = .ok (.iload_n 2, 1) := by decide +kernel
theorem dX7_inTownOn_54 : decode cX7_inTownOn 54 = .ok (.aload_n 0, 1) := by decide +kernel
theorem dX7_inTownOn_55 : decode cX7_inTownOn 55 = .ok (.getfield 15, 3) := by decide +kernel
theorem dX7_inTownOn_58 : decode cX7_inTownOn 58 = .ok (.iconst (-1), 1) := by decide +kernel
theorem dX7_inTownOn_59 : decode cX7_inTownOn 59 = .ok (.ixor, 1) := by decide +kernel
theorem dX7_inTownOn_60 : decode cX7_inTownOn 60 = .ok (.iand, 1) := by decide +kernel
theorem dX7_inTownOn_61 : decode cX7_inTownOn 61 = .ok (.ireturn, 1) := by decide +kernel
theorem dX7_takeFrom_0 : decode cX7_takeFrom 0 = .ok (.aload_n 0, 1) := by decide +kernel
theorem dX7_takeFrom_1 : decode cX7_takeFrom 1 = .ok (.aload_n 1, 1) := by decide +kernel
theorem dX7_takeFrom_2 : decode cX7_takeFrom 2 = .ok (.getfield 22, 3) := by decide +kernel
theorem dX7_takeFrom_5 : decode cX7_takeFrom 5 = .ok (.putfield 22, 3) := by decide +kernel
theorem dX7_takeFrom_8 : decode cX7_takeFrom 8 = .ok (.aload_n 0, 1) := by decide +kernel
theorem dX7_takeFrom_9 : decode cX7_takeFrom 9 = .ok (.aload_n 1, 1) := by decide +kernel
theorem dX7_takeFrom_10 : decode cX7_takeFrom 10 = .ok (.getfield 9, 3) := by decide +kernel
theorem dX7_takeFrom_13 : decode cX7_takeFrom 13 = .ok (.putfield 9, 3) := by decide +kernel
theorem dX7_takeFrom_16 : decode cX7_takeFrom 16 = .ok (.aload_n 0, 1) := by decide +kernel
theorem dX7_takeFrom_17 : decode cX7_takeFrom 17 = .ok (.aload_n 1, 1) := by decide +kernel
theorem dX7_takeFrom_18 : decode cX7_takeFrom 18 = .ok (.getfield 15, 3) := by decide +kernel
theorem dX7_takeFrom_21 : decode cX7_takeFrom 21 = .ok (.putfield 15, 3) := by decide +kernel
theorem dX7_takeFrom_24 : decode cX7_takeFrom 24 = .ok (.aload_n 1, 1) := by decide +kernel
theorem dX7_takeFrom_25 : decode cX7_takeFrom 25 = .ok (.getfield 18, 3) := by decide +kernel
theorem dX7_takeFrom_28 : decode cX7_takeFrom 28 = .ok (.iconst 0, 1) := by decide +kernel
theorem dX7_takeFrom_29 : decode cX7_takeFrom 29 = .ok (.aload_n 0, 1) := by decide +kernel
theorem dX7_takeFrom_30 : decode cX7_takeFrom 30 = .ok (.getfield 18, 3) := by decide +kernel
theorem dX7_takeFrom_33 : decode cX7_takeFrom 33 = .ok (.iconst 0, 1) := by decide +kernel
theorem dX7_takeFrom_34 : decode cX7_takeFrom 34 = .ok (.bipush 10, 2) := by decide +kernel
theorem dX7_takeFrom_36 : decode cX7_takeFrom 36 = .ok (.invokestatic 32, 3) := by decide +kernel
theorem dX7_takeFrom_39 : decode cX7_takeFrom 39 = .ok (.return_, 1) := by decide +kernel
