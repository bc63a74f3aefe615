def wk_1ed1fcc35 (cy : Nat → ClassId) (a0 : Nat) (a1 : Nat → Int32) (a2 : Nat) (a3 : Nat → Int32) (a4 : Nat) (a5 : Nat → Int32) (a6 : Nat) (a7 : Nat → Int32) : va_W := [(a0, .inl (cy 1, 900, .inl a1)), (a2, .inl (cy 1, 11, .inl a3)), (a4, .inl (cy 1, 10, .inl a5)), (a6, .inl (cy 1, 1024, .inl a7))]
def wk_143caa1ee (cy : Nat → ClassId) (a0 : Nat) (a1 : Nat → Int32) (a2 : Nat) (a3 : Nat → Int32) (a4 : Nat) (a5 : Nat → Int32) (a6 : Nat) (a7 : Nat → Int32) (a8 : Nat) (a9 : Int32) (a10 : Nat) (a11 a12 a13 : Value) (a14 a15 a16 a17 a18 a19 a20 a21 a22 a23 a24 : Int32) (a25 a26 : Nat) (a27 : Value) (a28 : Nat) (a29 : Value) (a30 a31 : Int32) (a32 : Nat) (a33 a34 : Value) (a35 a36 : Int32) (a37 a38 a39 a40 a41 : Value) (a42 : Int32) (a43 a44 a45 : Value) (a46 : Nat) (a47 : Nat → Int32) : va_W := [(a0, .inl (cy 1, 900, .inl a1)), (a2, .inl (cy 1, 11, .inl a3)), (a4, .inl (cy 1, 10, .inl a5)), (a6, .inl (cy 1, 1024, .inl a7)), (a8, .inr (12, [.int a9, .ref a10, a11, a12, a13, .int a14, .int a15, .int a16, .int a17, .int a18, .int a19, .int a20, .int a21, .int a22, .int a23, .int a24, .ref a25, .ref a26, a27, .ref a28, a29, .int a30, .int a31, .ref a32, a33, a34, .int a35, .int a36, a37, a38, a39, a40, a41, .int a42, a43, a44, a45])), (a46, .inl (cy 1, 3918, .inl a47))]
def wk_c2316df04 (cy : Nat → ClassId) (a0 : Nat) (a1 : Int32) (a2 a3 a4 a5 : Value) (a6 a7 a8 a9 a10 a11 a12 a13 a14 a15 a16 : Int32) (a17 a18 a19 a20 a21 : Value) (a22 a23 : Int32) (a24 : Value) (a25 a26 : Nat) (a27 a28 : Int32) (a29 a30 a31 a32 a33 : Value) (a34 : Int32) (a35 a36 a37 : Value) (a38 : Nat) (a39 : Nat → Int32) (a40 : Nat) (a41 : Nat → Int32) : va_W := [(a0, .inr (12, [.int a1, a2, a3, a4, a5, .int a6, .int a7, .int a8, .int a9, .int a10, .int a11, .int a12, .int a13, .int a14, .int a15, .int a16, a17, a18, a19, a20, a21, .int a22, .int a23, a24, .ref a25, .ref a26, .int a27, .int a28, a29, a30, a31, a32, a33, .int a34, a35, a36, a37])), (a38, .inl (cy 1, 10, .inl a39)), (a40, .inl (cy 1, 10, .inl a41))]
def wk_f147cc4b8 (cy : Nat → ClassId) (a0 : Nat) (a1 : Int32) (a2 : Nat) (a3 a4 a5 : Value) (a6 a7 a8 a9 a10 a11 a12 a13 a14 a15 a16 : Int32) (a17 a18 a19 : Value) (a20 : Nat) (a21 : Value) (a22 a23 : Int32) (a24 : Value) (a25 a26 : Nat) (a27 a28 : Int32) (a29 a30 a31 a32 a33 : Value) (a34 : Int32) (a35 a36 a37 : Value) (a38 : Nat) (a39 : Nat → Int32) (a40 : Nat) (a41 : Nat → Int32) (a42 : Nat) (a43 : Nat → Int32) (a44 : Nat) (a45 : Nat → Int32) : va_W := [(a0, .inr (12, [.int a1, .ref a2, a3, a4, a5, .int a6, .int a7, .int a8, .int a9, .int a10, .int a11, .int a12, .int a13, .int a14, .int a15, .int a16, a17, a18, a19, .ref a20, a21, .int a22, .int a23, a24, .ref a25, .ref a26, .int a27, .int a28, a29, a30, a31, a32, a33, .int a34, a35, a36, a37])), (a38, .inl (cy 1, 3918, .inl a39)), (a40, .inl (cy 1, 10, .inl a41)), (a42, .inl (cy 1, 10, .inl a43)), (a44, .inl (cy 1, 10, .inl a45))]
def wk_d2b1692f1 (cy : Nat → ClassId) (a0 : Nat) (a1 : Nat → Int32) (a2 : Nat) (a3 : Nat → Int32) : va_W := [(a0, .inl (cy 1, 3918, .inl a1)), (a2, .inl (cy 1, 10, .inl a3))]
def wk_5e3f1f655 (cy : Nat → ClassId) (a0 : Nat) (a1 : Nat → Int32) (a2 : Nat) (a3 : Nat → Int32) (a4 : Nat) (a5 : Int32) (a6 : Nat) (a7 a8 a9 : Value) (a10 a11 a12 a13 a14 a15 a16 a17 a18 a19 a20 : Int32) (a21 a22 a23 : Value) (a24 : Nat) (a25 : Value) (a26 a27 : Int32) (a28 : Value) (a29 a30 : Nat) (a31 a32 : Int32) (a33 a34 a35 a36 a37 : Value) (a38 : Int32) (a39 a40 a41 : Value) (a42 : Nat) (a43 : Nat → Int32) (a44 : Nat) (a45 : Nat → Int32) : va_W := [(a0, .inl (cy 1, 3918, .inl a1)), (a2, .inl (cy 1, 10, .inl a3)), (a4, .inr (12, [.int a5, .ref a6, a7, a8, a9, .int a10, .int a11, .int a12, .int a13, .int a14, .int a15, .int a16, .int a17, .int a18, .int a19, .int a20, a21, a22, a23, .ref a24, a25, .int a26, .int a27, a28, .ref a29, .ref a30, .int a31, .int a32, a33, a34, a35, a36, a37, .int a38, a39, a40, a41])), (a42, .inl (cy 1, 10, .inl a43)), (a44, .inl (cy 1, 10, .inl a45))]
theorem wm_7_96 : Cond.methodLink RX12 349 yX12_isSet ∈ WG := wg_t7 (List.mem_of_getElem? (i := 96) rfl) rfl
theorem wm_7_99 : Cond.code yX12_isSet cX12_isSet 2 (some .boolean) ∈ WG := wg_t7 (List.mem_of_getElem? (i := 99) rfl) rfl
theorem wm_7_98 : Cond.instanceMethod yX12_isSet ∈ WG := wg_t7 (List.mem_of_getElem? (i := 98) rfl) rfl
theorem wp_7_1 : Cond.selects RX12 yX12_isSet yX12_isSet ∈ WG := wg_p (q := (yX12_isSet, 37)) (wg_p7 (List.mem_of_getElem? (i := 1) rfl)) rfl
theorem wm_5_196 : Cond.fieldLink RX12 352 "OppositeHouseModel" "bestTwos" "I" ∈ WG := wg_t5 (List.mem_of_getElem? (i := 196) rfl) rfl
theorem wm_5_197 : Cond.fieldLink RX12 355 "OppositeHouseModel" "bestWeight" "I" ∈ WG := wg_t5 (List.mem_of_getElem? (i := 197) rfl) rfl
theorem wm_5_194 : Cond.fieldLink RX12 48 "OppositeHouseModel" "with" "[I" ∈ WG := wg_t5 (List.mem_of_getElem? (i := 194) rfl) rfl
theorem wm_5_195 : Cond.fieldLink RX12 51 "OppositeHouseModel" "bestWith" "[I" ∈ WG := wg_t5 (List.mem_of_getElem? (i := 195) rfl) rfl
theorem wm_7_116 : Cond.methodLink RX12 358 yX12_goesPairs ∈ WG := wg_t7 (List.mem_of_getElem? (i := 116) rfl) rfl
theorem wm_7_119 : Cond.code yX12_goesPairs cX12_goesPairs 7 none ∈ WG := wg_t7 (List.mem_of_getElem? (i := 119) rfl) rfl
theorem wm_7_118 : Cond.instanceMethod yX12_goesPairs ∈ WG := wg_t7 (List.mem_of_getElem? (i := 118) rfl) rfl
theorem wp_7_4 : Cond.selects RX12 yX12_goesPairs yX12_goesPairs ∈ WG := wg_p (q := (yX12_goesPairs, 37)) (wg_p7 (List.mem_of_getElem? (i := 4) rfl)) rfl
theorem hd_X12_isSet : yX12_isSet.cls ≠ "java/lang/invoke/MethodHandle" ∧ yX12_isSet.cls ≠ "java/lang/invoke/VarHandle" ∧ (parseMethodDescriptor yX12_isSet.desc).map (fun d => d.parameters.length) = some 1 := by decide +kernel
theorem hd_X12_goesPairs : yX12_goesPairs.cls ≠ "java/lang/invoke/MethodHandle" ∧ yX12_goesPairs.cls ≠ "java/lang/invoke/VarHandle" ∧ (parseMethodDescriptor yX12_goesPairs.desc).map (fun d => d.parameters.length) = some 3 := by decide +kernel
theorem dX12_goesPairs_0 : decode cX12_goesPairs 0 = .ok (.iload_n 1, 1) := by decide +kernel
theorem dX12_goesPairs_1 : decode cX12_goesPairs 1 = .ok (.ifCond .ne 69, 3) := by decide +kernel
theorem dX12_goesPairs_4 : decode cX12_goesPairs 4 = .ok (.iload_n 2, 1) := by decide +kernel
theorem dX12_goesPairs_5 : decode cX12_goesPairs 5 = .ok (.aload_n 0, 1) := by decide +kernel
theorem dX12_goesPairs_6 : decode cX12_goesPairs 6 = .ok (.getfield 352, 3) := by decide +kernel
theorem dX12_goesPairs_9 : decode cX12_goesPairs 9 = .ok (.if_icmp .lt 19, 3) := by decide +kernel
theorem dX12_goesPairs_12 : decode cX12_goesPairs 12 = .ok (.iload_n 2, 1) := by decide +kernel
theorem dX12_goesPairs_13 : decode cX12_goesPairs 13 = .ok (.aload_n 0, 1) := by decide +kernel
theorem dX12_goesPairs_14 : decode cX12_goesPairs 14 = .ok (.getfield 352, 3) := by decide +kernel
theorem dX12_goesPairs_17 : decode cX12_goesPairs 17 = .ok (.if_icmp .ne 12, 3) := by decide +kernel
theorem dX12_goesPairs_20 : decode cX12_goesPairs 20 = .ok (.iload_n 3, 1) := by decide +kernel
theorem dX12_goesPairs_21 : decode cX12_goesPairs 21 = .ok (.aload_n 0, 1) := by decide +kernel
theorem dX12_goesPairs_22 : decode cX12_goesPairs 22 = .ok (.getfield 355, 3) := by decide +kernel
theorem dX12_goesPairs_25 : decode cX12_goesPairs 25 = .ok (.if_icmp .gt 4, 3) := by decide +kernel
theorem dX12_goesPairs_28 : decode cX12_goesPairs 28 = .ok (.return_, 1) := by decide +kernel
theorem dX12_goesPairs_29 : decode cX12_goesPairs 29 = .ok (.aload_n 0, 1) := by decide +kernel
theorem dX12_goesPairs_30 : decode cX12_goesPairs 30 = .ok (.iload_n 2, 1) := by decide +kernel
theorem dX12_goesPairs_31 : decode cX12_goesPairs 31 = .ok (.putfield 352, 3) := by decide +kernel
theorem dX12_goesPairs_34 : decode cX12_goesPairs 34 = .ok (.aload_n 0, 1) := by decide +kernel
theorem dX12_goesPairs_35 : decode cX12_goesPairs 35 = .ok (.iload_n 3, 1) := by decide +kernel
theorem dX12_goesPairs_36 : decode cX12_goesPairs 36 = .ok (.putfield 355, 3) := by decide +kernel
theorem dX12_goesPairs_39 : decode cX12_goesPairs 39 = .ok (.iconst 0, 1) := by decide +kernel
theorem dX12_goesPairs_40 : decode cX12_goesPairs 40 = .ok (.istore 4, 2) := by decide +kernel
theorem dX12_goesPairs_42 : decode cX12_goesPairs 42 = .ok (.iload 4, 2) := by decide +kernel
theorem dX12_goesPairs_44 : decode cX12_goesPairs 44 = .ok (.bipush 10, 2) := by decide +kernel
theorem dX12_goesPairs_46 : decode cX12_goesPairs 46 = .ok (.if_icmp .ge 23, 3) := by decide +kernel
theorem dX12_goesPairs_49 : decode cX12_goesPairs 49 = .ok (.aload_n 0, 1) := by decide +kernel
theorem dX12_goesPairs_50 : decode cX12_goesPairs 50 = .ok (.getfield 51, 3) := by decide +kernel
theorem dX12_goesPairs_53 : decode cX12_goesPairs 53 = .ok (.iload 4, 2) := by decide +kernel
theorem dX12_goesPairs_55 : decode cX12_goesPairs 55 = .ok (.aload_n 0, 1) := by decide +kernel
theorem dX12_goesPairs_56 : decode cX12_goesPairs 56 = .ok (.getfield 48, 3) := by decide +kernel
theorem dX12_goesPairs_59 : decode cX12_goesPairs 59 = .ok (.iload 4, 2) := by decide +kernel
theorem dX12_goesPairs_61 : decode cX12_goesPairs 61 = .ok (.iaload, 1) := by decide +kernel
theorem dX12_goesPairs_62 : decode cX12_goesPairs 62 = .ok (.iastore, 1) := by decide +kernel
theorem dX12_goesPairs_63 : decode cX12_goesPairs 63 = .ok (.iinc 4 1, 3) := by decide +kernel
theorem dX12_goesPairs_66 : decode cX12_goesPairs 66 = .ok (.goto (-24), 3) := by decide +kernel
theorem dX12_goesPairs_69 : decode cX12_goesPairs 69 = .ok (.return_, 1) := by decide +kernel
theorem dX12_goesPairs_70 : decode cX12_goesPairs 70 = .ok (.iload_n 1, 1) := by decide +kernel
theorem dX12_goesPairs_71 : decode cX12_goesPairs 71 = .ok (.invokestatic 337, 3) := by decide +kernel
theorem dX12_goesPairs_74 : decode cX12_goesPairs 74 = .ok (.istore 4, 2) := by decide +kernel
theorem dX12_goesPairs_76 : decode cX12_goesPairs 76 = .ok (.iload_n 1, 1) := by decide +kernel
theorem dX12_goesPairs_77 : decode cX12_goesPairs 77 = .ok (.iconst 1, 1) := by decide +kernel
theorem dX12_goesPairs_78 : decode cX12_goesPairs 78 = .ok (.iload 4, 2) := by decide +kernel
theorem dX12_goesPairs_80 : decode cX12_goesPairs 80 = .ok (.ishl, 1) := by decide +kernel
theorem dX12_goesPairs_81 : decode cX12_goesPairs 81 = .ok (.iconst (-1), 1) := by decide +kernel
theorem dX12_goesPairs_82 : decode cX12_goesPairs 82 = .ok (.ixor, 1) := by decide +kernel
theorem dX12_goesPairs_83 : decode cX12_goesPairs 83 = .ok (.iand, 1) := by decide +kernel
theorem dX12_goesPairs_84 : decode cX12_goesPairs 84 = .ok (.istore 5, 2) := by decide +kernel
theorem dX12_goesPairs_86 : decode cX12_goesPairs 86 = .ok (.iload 4, 2) := by decide +kernel
theorem dX12_goesPairs_88 : decode cX12_goesPairs 88 = .ok (.iconst 1, 1) := by decide +kernel
theorem dX12_goesPairs_89 : decode cX12_goesPairs 89 = .ok (.iadd, 1) := by decide +kernel
theorem dX12_goesPairs_90 : decode cX12_goesPairs 90 = .ok (.istore 6, 2) := by decide +kernel
theorem dX12_goesPairs_92 : decode cX12_goesPairs 92 = .ok (.iload 6, 2) := by decide +kernel
theorem dX12_goesPairs_94 : decode cX12_goesPairs 94 = .ok (.aload_n 0, 1) := by decide +kernel
theorem dX12_goesPairs_95 : decode cX12_goesPairs 95 = .ok (.getfield 13, 3) := by decide +kernel
theorem dX12_goesPairs_98 : decode cX12_goesPairs 98 = .ok (.iconst 2, 1) := by decide +kernel
theorem dX12_goesPairs_99 : decode cX12_goesPairs 99 = .ok (.iaload, 1) := by decide +kernel
theorem dX12_goesPairs_100 : decode cX12_goesPairs 100 = .ok (.if_icmp .ge 96, 3) := by decide +kernel
theorem dX12_goesPairs_103 : decode cX12_goesPairs 103 = .ok (.iload 5, 2) := by decide +kernel
theorem dX12_goesPairs_105 : decode cX12_goesPairs 105 = .ok (.aload_n 0, 1) := by decide +kernel
theorem dX12_goesPairs_106 : decode cX12_goesPairs 106 = .ok (.getfield 39, 3) := by decide +kernel
theorem dX12_goesPairs_109 : decode cX12_goesPairs 109 = .ok (.iload 4, 2) := by decide +kernel
theorem dX12_goesPairs_111 : decode cX12_goesPairs 111 = .ok (.iaload, 1) := by decide +kernel
theorem dX12_goesPairs_112 : decode cX12_goesPairs 112 = .ok (.iand, 1) := by decide +kernel
theorem dX12_goesPairs_113 : decode cX12_goesPairs 113 = .ok (.i2l, 1) := by decide +kernel
theorem dX12_goesPairs_114 : decode cX12_goesPairs 114 = .ok (.iload 6, 2) := by decide +kernel
theorem dX12_goesPairs_116 : decode cX12_goesPairs 116 = .ok (.invokestatic 251, 3) := by decide +kernel
theorem dX12_goesPairs_119 : decode cX12_goesPairs 119 = .ok (.ifCond .ne 6, 3) := by decide +kernel
theorem dX12_goesPairs_122 : decode cX12_goesPairs 122 = .ok (.goto 68, 3) := by decide +kernel
theorem dX12_goesPairs_125 : decode cX12_goesPairs 125 = .ok (.aload_n 0, 1) := by decide +kernel
theorem dX12_goesPairs_126 : decode cX12_goesPairs 126 = .ok (.getfield 48, 3) := by decide +kernel
theorem dX12_goesPairs_129 : decode cX12_goesPairs 129 = .ok (.iload 4, 2) := by decide +kernel
theorem dX12_goesPairs_131 : decode cX12_goesPairs 131 = .ok (.iload 6, 2) := by decide +kernel
theorem dX12_goesPairs_133 : decode cX12_goesPairs 133 = .ok (.iastore, 1) := by decide +kernel
theorem dX12_goesPairs_134 : decode cX12_goesPairs 134 = .ok (.aload_n 0, 1) := by decide +kernel
theorem dX12_goesPairs_135 : decode cX12_goesPairs 135 = .ok (.getfield 48, 3) := by decide +kernel
theorem dX12_goesPairs_138 : decode cX12_goesPairs 138 = .ok (.iload 6, 2) := by decide +kernel
theorem dX12_goesPairs_140 : decode cX12_goesPairs 140 = .ok (.iload 4, 2) := by decide +kernel
theorem dX12_goesPairs_142 : decode cX12_goesPairs 142 = .ok (.iastore, 1) := by decide +kernel
theorem dX12_goesPairs_143 : decode cX12_goesPairs 143 = .ok (.aload_n 0, 1) := by decide +kernel
theorem dX12_goesPairs_144 : decode cX12_goesPairs 144 = .ok (.iload 5, 2) := by decide +kernel
theorem dX12_goesPairs_146 : decode cX12_goesPairs 146 = .ok (.iconst 1, 1) := by decide +kernel
theorem dX12_goesPairs_147 : decode cX12_goesPairs 147 = .ok (.iload 6, 2) := by decide +kernel
theorem dX12_goesPairs_149 : decode cX12_goesPairs 149 = .ok (.ishl, 1) := by decide +kernel
theorem dX12_goesPairs_150 : decode cX12_goesPairs 150 = .ok (.iconst (-1), 1) := by decide +kernel
theorem dX12_goesPairs_151 : decode cX12_goesPairs 151 = .ok (.ixor, 1) := by decide +kernel
theorem dX12_goesPairs_152 : decode cX12_goesPairs 152 = .ok (.iand, 1) := by decide +kernel
theorem dX12_goesPairs_153 : decode cX12_goesPairs 153 = .ok (.iload_n 2, 1) := by decide +kernel
theorem dX12_goesPairs_154 : decode cX12_goesPairs 154 = .ok (.iconst 1, 1) := by decide +kernel
theorem dX12_goesPairs_155 : decode cX12_goesPairs 155 = .ok (.iadd, 1) := by decide +kernel
theorem dX12_goesPairs_156 : decode cX12_goesPairs 156 = .ok (.iload_n 3, 1) := by decide +kernel
theorem dX12_goesPairs_157 : decode cX12_goesPairs 157 = .ok (.aload_n 0, 1) := by decide +kernel
theorem dX12_goesPairs_158 : decode cX12_goesPairs 158 = .ok (.getfield 13, 3) := by decide +kernel
theorem dX12_goesPairs_161 : decode cX12_goesPairs 161 = .ok (.bipush 42, 2) := by decide +kernel
theorem dX12_goesPairs_163 : decode cX12_goesPairs 163 = .ok (.iload 4, 2) := by decide +kernel
theorem dX12_goesPairs_165 : decode cX12_goesPairs 165 = .ok (.iadd, 1) := by decide +kernel
theorem dX12_goesPairs_166 : decode cX12_goesPairs 166 = .ok (.iaload, 1) := by decide +kernel
theorem dX12_goesPairs_167 : decode cX12_goesPairs 167 = .ok (.iadd, 1) := by decide +kernel
theorem dX12_goesPairs_168 : decode cX12_goesPairs 168 = .ok (.aload_n 0, 1) := by decide +kernel
theorem dX12_goesPairs_169 : decode cX12_goesPairs 169 = .ok (.getfield 13, 3) := by decide +kernel
theorem dX12_goesPairs_172 : decode cX12_goesPairs 172 = .ok (.bipush 42, 2) := by decide +kernel
theorem dX12_goesPairs_174 : decode cX12_goesPairs 174 = .ok (.iload 6, 2) := by decide +kernel
theorem dX12_goesPairs_176 : decode cX12_goesPairs 176 = .ok (.iadd, 1) := by decide +kernel
theorem dX12_goesPairs_177 : decode cX12_goesPairs 177 = .ok (.iaload, 1) := by decide +kernel
theorem dX12_goesPairs_178 : decode cX12_goesPairs 178 = .ok (.iadd, 1) := by decide +kernel
theorem dX12_goesPairs_179 : decode cX12_goesPairs 179 = .ok (.invokevirtual 358, 3) := by decide +kernel
theorem dX12_goesPairs_182 : decode cX12_goesPairs 182 = .ok (.aload_n 0, 1) := by decide +kernel
theorem dX12_goesPairs_183 : decode cX12_goesPairs 183 = .ok (.getfield 48, 3) := by decide +kernel
theorem dX12_goesPairs_186 : decode cX12_goesPairs 186 = .ok (.iload 6, 2) := by decide +kernel
theorem dX12_goesPairs_188 : decode cX12_goesPairs 188 = .ok (.iconst (-1), 1) := by decide +kernel
theorem dX12_goesPairs_189 : decode cX12_goesPairs 189 = .ok (.iastore, 1) := by decide +kernel
theorem dX12_goesPairs_190 : decode cX12_goesPairs 190 = .ok (.iinc 6 1, 3) := by decide +kernel
theorem dX12_goesPairs_193 : decode cX12_goesPairs 193 = .ok (.goto (-101), 3) := by decide +kernel
theorem dX12_goesPairs_196 : decode cX12_goesPairs 196 = .ok (.aload_n 0, 1) := by decide +kernel
theorem dX12_goesPairs_197 : decode cX12_goesPairs 197 = .ok (.getfield 48, 3) := by decide +kernel
theorem dX12_goesPairs_200 : decode cX12_goesPairs 200 = .ok (.iload 4, 2) := by decide +kernel
theorem dX12_goesPairs_202 : decode cX12_goesPairs 202 = .ok (.iconst (-1), 1) := by decide +kernel
theorem dX12_goesPairs_203 : decode cX12_goesPairs 203 = .ok (.iastore, 1) := by decide +kernel
theorem dX12_goesPairs_204 : decode cX12_goesPairs 204 = .ok (.aload_n 0, 1) := by decide +kernel
theorem dX12_goesPairs_205 : decode cX12_goesPairs 205 = .ok (.iload 5, 2) := by decide +kernel
theorem dX12_goesPairs_207 : decode cX12_goesPairs 207 = .ok (.iload_n 2, 1) := by decide +kernel
theorem dX12_goesPairs_208 : decode cX12_goesPairs 208 = .ok (.iload_n 3, 1) := by decide +kernel
theorem dX12_goesPairs_209 : decode cX12_goesPairs 209 = .ok (.invokevirtual 358, 3) := by decide +kernel
theorem dX12_goesPairs_212 : decode cX12_goesPairs 212 = .ok (.return_, 1) := by decide +kernel
theorem dX12_laysPairs_0 : decode cX12_laysPairs 0 = .ok (.aload_n 0, 1) := by decide +kernel
theorem dX12_laysPairs_1 : decode cX12_laysPairs 1 = .ok (.iconst (-1), 1) := by decide +kernel
theorem dX12_laysPairs_2 : decode cX12_laysPairs 2 = .ok (.putfield 352, 3) := by decide +kernel
theorem dX12_laysPairs_5 : decode cX12_laysPairs 5 = .ok (.aload_n 0, 1) := by decide +kernel
theorem dX12_laysPairs_6 : decode cX12_laysPairs 6 = .ok (.iconst (-1), 1) := by decide +kernel
theorem dX12_laysPairs_7 : decode cX12_laysPairs 7 = .ok (.putfield 355, 3) := by decide +kernel
theorem dX12_laysPairs_10 : decode cX12_laysPairs 10 = .ok (.iconst 0, 1) := by decide +kernel
theorem dX12_laysPairs_11 : decode cX12_laysPairs 11 = .ok (.istore_n 2, 1) := by decide +kernel
theorem dX12_laysPairs_12 : decode cX12_laysPairs 12 = .ok (.iload_n 2, 1) := by decide +kernel
theorem dX12_laysPairs_13 : decode cX12_laysPairs 13 = .ok (.bipush 10, 2) := by decide +kernel
theorem dX12_laysPairs_15 : decode cX12_laysPairs 15 = .ok (.if_icmp .ge 16, 3) := by decide +kernel
theorem dX12_laysPairs_18 : decode cX12_laysPairs 18 = .ok (.aload_n 0, 1) := by decide +kernel
theorem dX12_laysPairs_19 : decode cX12_laysPairs 19 = .ok (.getfield 48, 3) := by decide +kernel
theorem dX12_laysPairs_22 : decode cX12_laysPairs 22 = .ok (.iload_n 2, 1) := by decide +kernel
theorem dX12_laysPairs_23 : decode cX12_laysPairs 23 = .ok (.iconst (-1), 1) := by decide +kernel
theorem dX12_laysPairs_24 : decode cX12_laysPairs 24 = .ok (.iastore, 1) := by decide +kernel
theorem dX12_laysPairs_25 : decode cX12_laysPairs 25 = .ok (.iinc 2 1, 3) := by decide +kernel
theorem dX12_laysPairs_28 : decode cX12_laysPairs 28 = .ok (.goto (-16), 3) := by decide +kernel
theorem dX12_laysPairs_31 : decode cX12_laysPairs 31 = .ok (.aload_n 0, 1) := by decide +kernel
theorem dX12_laysPairs_32 : decode cX12_laysPairs 32 = .ok (.iload_n 1, 1) := by decide +kernel
theorem dX12_laysPairs_33 : decode cX12_laysPairs 33 = .ok (.iconst 0, 1) := by decide +kernel
theorem dX12_laysPairs_34 : decode cX12_laysPairs 34 = .ok (.iconst 0, 1) := by decide +kernel
theorem dX12_laysPairs_35 : decode cX12_laysPairs 35 = .ok (.invokevirtual 358, 3) := by decide +kernel
theorem dX12_laysPairs_38 : decode cX12_laysPairs 38 = .ok (.return_, 1) := by decide +kernel
theorem dX12_sits_0 : decode cX12_sits 0 = .ok (.aload_n 0, 1) := by decide +kernel
theorem dX12_sits_1 : decode cX12_sits 1 = .ok (.iconst 0, 1) := by decide +kernel
theorem dX12_sits_2 : decode cX12_sits 2 = .ok (.putfield 1, 3) := by decide +kernel
theorem dX12_sits_5 : decode cX12_sits 5 = .ok (.aload_n 0, 1) := by decide +kernel
theorem dX12_sits_6 : decode cX12_sits 6 = .ok (.iload_n 1, 1) := by decide +kernel
theorem dX12_sits_7 : decode cX12_sits 7 = .ok (.invokevirtual 349, 3) := by decide +kernel
theorem dX12_sits_10 : decode cX12_sits 10 = .ok (.ifCond .ne 8, 3) := by decide +kernel
theorem dX12_sits_13 : decode cX12_sits 13 = .ok (.bipush (-3), 2) := by decide +kernel
theorem dX12_sits_15 : decode cX12_sits 15 = .ok (.goto 16, 3) := by decide +kernel
theorem dX12_sits_18 : decode cX12_sits 18 = .ok (.aload_n 0, 1) := by decide +kernel
theorem dX12_sits_19 : decode cX12_sits 19 = .ok (.iload_n 1, 1) := by decide +kernel
theorem dX12_sits_20 : decode cX12_sits 20 = .ok (.invokevirtual 319, 3) := by decide +kernel
theorem dX12_sits_23 : decode cX12_sits 23 = .ok (.ifCond .eq 7, 3) := by decide +kernel
theorem dX12_sits_26 : decode cX12_sits 26 = .ok (.iconst 1, 1) := by decide +kernel
theorem dX12_sits_27 : decode cX12_sits 27 = .ok (.goto 4, 3) := by decide +kernel
theorem dX12_sits_30 : decode cX12_sits 30 = .ok (.iconst 0, 1) := by decide +kernel
theorem dX12_sits_31 : decode cX12_sits 31 = .ok (.ireturn, 1) := by decide +kernel
set_option maxHeartbeats 4000000 in
set_option maxRecDepth 100000 in
theorem gX12_sits_31fe8a1 (l : Launch) (D : va_G) (cy : Nat → ClassId) (h0 : Nat) (h1 : Nat) (h2 : Nat) (h3 : Nat) (h4 : Nat) (h5 : Nat) (p0 : Int32) (p1 : Int32) (w0 : Value) (w1 : Value) (w2 : Value) (p2 : Int32) (p3 : Int32) (p4 : Int32) (p5 : Int32) (p6 : Int32) (p7 : Int32) (p8 : Int32) (p9 : Int32) (p10 : Int32) (p11 : Int32) (p12 : Int32) (w3 : Value) (w4 : Value) (p13 : Int32) (p14 : Int32) (w5 : Value) (w6 : Value) (p15 : Int32) (p16 : Int32) (w7 : Value) (w8 : Value) (w9 : Value) (w10 : Value) (w11 : Value) (p17 : Int32) (w12 : Value) (w13 : Value) (w14 : Value) (f0 : Nat → Int32) (p18 : Int32) (f1 : Nat → Int32) (f2 : Nat → Int32) (f3 : Nat → Int32) (f4 : Nat → Int32) (hp0 : (-2147483648) ≤ (p0).toInt ∧ (p0).toInt ≤ 2147483647) (hp1 : (-2147483648) ≤ (p1).toInt ∧ (p1).toInt ≤ 2147483647) (hp2 : 0 ≤ (p2).toInt ∧ (p2).toInt ≤ 900) (hp3 : 0 ≤ (p3).toInt ∧ (p3).toInt ≤ 900) (hp4 : 0 ≤ (p4).toInt ∧ (p4).toInt ≤ 900) (hp5 : 0 ≤ (p5).toInt ∧ (p5).toInt ≤ 900) (hp6 : (-2147483648) ≤ (p6).toInt ∧ (p6).toInt ≤ 2147483647) (hp7 : 0 ≤ (p7).toInt ∧ (p7).toInt ≤ 999) (hp8 : (-2147483648) ≤ (p8).toInt ∧ (p8).toInt ≤ 2147483647) (hp9 : (-2147483648) ≤ (p9).toInt ∧ (p9).toInt ≤ 2147483647) (hp10 : (-2147483648) ≤ (p10).toInt ∧ (p10).toInt ≤ 2147483647) (hp11 : (-2147483648) ≤ (p11).toInt ∧ (p11).toInt ≤ 2147483647) (hp12 : (-2147483648) ≤ (p12).toInt ∧ (p12).toInt ≤ 2147483647) (hp13 : (-2147483648) ≤ (p13).toInt ∧ (p13).toInt ≤ 2147483647) (hp14 : (-2147483648) ≤ (p14).toInt ∧ (p14).toInt ≤ 2147483647) (hp15 : (-2147483648) ≤ (p15).toInt ∧ (p15).toInt ≤ 2147483647) (hp16 : (-2147483648) ≤ (p16).toInt ∧ (p16).toInt ≤ 2147483647) (hp17 : (-2147483648) ≤ (p17).toInt ∧ (p17).toInt ≤ 2147483647) (hp18 : 0 ≤ (p18).toInt ∧ (p18).toInt ≤ 10) (htf0_84 : f0 84 = p18) (rf0 : AL f0) (rf3 : RG f3 10 0 1023) (sz : Nat) : MI l yX12_sits cX12_sits 2 .int { frames := 6, cells := 0, slots := 0, locals := 135 } [.ref h0, .int p0] D cy (wk_eecab3214 cy h0 p1 h1 w0 w1 w2 p2 p3 p4 p5 p6 p7 p8 p9 p10 p11 p12 h2 h3 w3 h4 w4 p13 p14 h5 w5 w6 p15 p16 w7 w8 w9 w10 w11 p17 w12 w13 w14 h1 f0 h2 f1 h3 f2 h4 f3 h5 f4) sz (fun r u => ((-3) ≤ r.toInt ∧ r.toInt ≤ 1) ∧ RG (u.2.1 2) 10 0 1023 ∧ (0 ≤ (u.2.1 4 0).toInt ∧ (u.2.1 4 0).toInt ≤ 0) ∧ True) (fun u => (wk_eecab3214 cy h0 (u.2.1 4 0) h1 w0 w1 w2 p2 p3 p4 p5 p6 p7 p8 p9 p10 p11 p12 h2 h3 w3 h4 w4 p13 p14 h5 w5 w6 p15 p16 w7 w8 w9 w10 w11 p17 w12 w13 w14 h1 f0 h2 (u.2.1 0) h3 (u.2.1 1) h4 (u.2.1 2) h5 (u.2.1 3))) 0 0 := by
  refine q_ent (own := RX12) (by decide) rfl (Nat.le_of_ble_eq_true rfl) (fun p e s m below meth c ls X hr hlk hnm hK hT h hA hl => ?_)
  obtain ⟨hx, hb, hml, hown, ht⟩ := id X
  replace hl : lv_has ls 2 [(0, .ref h0), (1, .int p0)] := hl
  refine lv_aload_n hx hb dX12_sits_0 rfl (lv_at hl 0 rfl) ?_
  refine lv_iconst (v := 0) hx hb dX12_sits_1 (by decide) ?_
  refine q_put (v := .int 0) X hK h 0 rfl rfl wf_12 tyX12 tyX12_ok nmX12 0 (by decide) wm_5_170 rfl rfl rfl (Nat.le_of_ble_eq_true rfl) dX12_sits_2 (fun H locs h_1 => ?_)
  clear h
  replace h_1 : qW D _ _ (wk_eecab3214 cy h0 0 h1 w0 w1 w2 p2 p3 p4 p5 p6 p7 p8 p9 p10 p11 p12 h2 h3 w3 h4 w4 p13 p14 h5 w5 w6 p15 p16 w7 w8 w9 w10 w11 p17 w12 w13 w14 h1 f0 h2 f1 h3 f2 h4 f3 h5 f4) _ _ := h_1
  refine lv_aload_n hx hb dX12_sits_5 rfl (lv_at hl 0 rfl) ?_
  refine lv_iload_n hx hb dX12_sits_6 rfl (lv_at hl 1 rfl) ?_
  refine q_callVi (rest := []) (wr := (wk_1ed1fcc35 cy h2 f1 h3 f2 h4 f3 h5 f4)) X hK hT hA h_1 (fun sz => gX12_isSet_9166d70 l D cy h0 h1 p0 (0 : Int32) w0 w1 w2 p2 p3 p4 p5 p6 p7 p8 p9 p10 p11 p12 (.ref h2) (.ref h3) w3 (.ref h4) w4 p13 p14 (.ref h5) w5 w6 p15 p16 w7 w8 w9 w10 w11 p17 w12 w13 w14 f0 p18 (i_rng _) ⟨by decide +kernel, by decide +kernel⟩ hp2 hp3 hp4 hp5 (i_rng _) hp7 (i_rng _) (i_rng _) (i_rng _) (i_rng _) (i_rng _) (i_rng _) (i_rng _) (i_rng _) (i_rng _) (i_rng _) hp18 htf0_84 rf0 sz) wm_7_96 wm_7_99 wm_1_12 hd_X12_isSet wm_7_98 wp_7_1 (ci := 12) (q0 := 0) rfl rfl ⟨Nat.le_of_ble_eq_true rfl, Nat.le_of_ble_eq_true rfl⟩ hl.1 rfl (Nat.le_of_ble_eq_true rfl) dX12_sits_7 ⟨Nat.le_of_ble_eq_true rfl, Nat.le_of_ble_eq_true rfl⟩ [0, 1] [2, 3, 4, 5] rfl rfl (by decide) rfl rfl (fun r_2 u_2 H locs w_2 h_2 => ?_)
  clear h_1
  obtain ⟨wr_2, y2_0, _⟩ := w_2
  replace h_2 : qW D _ _ (wk_143caa1ee cy h2 f1 h3 f2 h4 f3 h5 f4 h0 0 h1 w0 w1 w2 p2 p3 p4 p5 p6 p7 p8 p9 p10 p11 p12 h2 h3 w3 h4 w4 p13 p14 h5 w5 w6 p15 p16 w7 w8 w9 w10 w11 p17 w12 w13 w14 h1 f0) _ _ := h_2
  refine q_jn (pc2 := 31) (fun H locs ls st => ∃ v31_3_4 : Int32, ∃ v31_3_0 : Nat → Int32, ∃ v31_3_1 : Nat → Int32, ∃ v31_3_2 : Nat → Int32, ∃ v31_3_3 : Nat → Int32, ((-3) ≤ (v31_3_4).toInt ∧ (v31_3_4).toInt ≤ 1) ∧ RG v31_3_2 10 0 1023 ∧ st = [.int v31_3_4] ∧ qW D (va_A (wk_eecab3214 cy h0 p1 h1 w0 w1 w2 p2 p3 p4 p5 p6 p7 p8 p9 p10 p11 p12 h2 h3 w3 h4 w4 p13 p14 h5 w5 w6 p15 p16 w7 w8 w9 w10 w11 p17 w12 w13 w14 h1 f0 h2 f1 h3 f2 h4 f3 h5 f4) sz) s.heap (wk_143caa1ee cy h2 v31_3_0 h3 v31_3_1 h4 v31_3_2 h5 v31_3_3 h0 0 h1 w0 w1 w2 p2 p3 p4 p5 p6 p7 p8 p9 p10 p11 p12 h2 h3 w3 h4 w4 p13 p14 h5 w5 w6 p15 p16 w7 w8 w9 w10 w11 p17 w12 w13 w14 h1 f0) H locs ∧ lv_has ls 2 [(0, .ref h0), (1, .int p0)]) (fun H locs ls st hP => ?_) (fun J_31 => ?_)
  · obtain ⟨v31_3_4, v31_3_0, v31_3_1, v31_3_2, v31_3_3, hv31_3_4, rv31_3_2, rfl, h, hl⟩ := hP
    exact q_iret X hr hlk hK h rfl (fun _ => 0, (vcons v31_3_0 (vcons v31_3_1 (vcons v31_3_2 (vcons v31_3_3 (vcons (fun _ => 0) (fun _ => (fun _ => 0))))))), fun _ _ => 0) ⟨hv31_3_4, (rg_wide rv31_3_2 (by decide) (by decide)), (⟨by decide +kernel, by decide +kernel⟩ : 0 ≤ (0 : Int32).toInt ∧ (0 : Int32).toInt ≤ 0), trivial⟩ [4, 5, 0, 1, 2, 3] rfl rfl dX12_sits_31 (Nat.le_of_ble_eq_true rfl) (Nat.le_of_ble_eq_true rfl)
  · skip
    refine lv_if_ne (tgt := 18) hx hb dX12_sits_10 (by decide) (fun c_4 => ?_) (fun c_4 => ?_)
    · replace c_4 := i_ne (x := r_2) (y := 0) rfl (show (0 : Int32).toInt = 0 by decide) c_4
      refine lv_aload_n hx hb dX12_sits_18 rfl (lv_at hl 0 rfl) ?_
      refine lv_iload_n hx hb dX12_sits_19 rfl (lv_at hl 1 rfl) ?_
      refine q_callVi (rest := []) (wr := []) X hK hT hA h_2 (fun sz => gX12_sitsNow_472ffcf l D cy h0 h1 h2 h3 h4 h5 p0 (0 : Int32) w0 w1 w2 p2 p3 p4 p5 p6 p7 p8 p9 p10 p11 p12 w3 w4 p13 p14 w5 w6 p15 p16 w7 w8 w9 w10 w11 p17 w12 w13 w14 f0 p18 f1 f2 f3 f4 ⟨by omega, by omega⟩ ⟨by decide +kernel, by decide +kernel⟩ hp2 hp3 hp4 hp5 (i_rng _) hp7 (i_rng _) (i_rng _) (i_rng _) (i_rng _) (i_rng _) (i_rng _) (i_rng _) (i_rng _) (i_rng _) (i_rng _) hp18 htf0_84 rf0 (rg_wide rf3 (by decide) (by decide)) sz) wm_7_51 wm_7_54 wm_1_12 hd_X12_sitsNow wm_7_53 wp_6_10 (ci := 12) (q0 := 0) rfl rfl ⟨Nat.le_of_ble_eq_true rfl, Nat.le_of_ble_eq_true rfl⟩ hl.1 rfl (Nat.le_of_ble_eq_true rfl) dX12_sits_20 ⟨Nat.le_of_ble_eq_true rfl, Nat.le_of_ble_eq_true rfl⟩ [4, 5, 0, 1, 2, 3] [] rfl rfl (by decide) rfl rfl (fun r_5 u_5 H locs w_5 h_5 => ?_)
      clear h_2
      obtain ⟨wr_5, w5_0, _⟩ := w_5
      replace h_5 : qW D _ _ (wk_eecab3214 cy h0 0 h1 w0 w1 w2 p2 p3 p4 p5 p6 p7 p8 p9 p10 p11 p12 h2 h3 w3 h4 w4 p13 p14 h5 w5 w6 p15 p16 w7 w8 w9 w10 w11 p17 w12 w13 w14 h1 f0 h2 (u_5.2.1 0) h3 (u_5.2.1 1) h4 (u_5.2.1 2) h5 (u_5.2.1 3)) _ _ := h_5
      refine lv_if_eq (tgt := 30) hx hb dX12_sits_23 (by decide) (fun c_6 => ?_) (fun c_6 => ?_)
      · replace c_6 := i_eq (x := r_5) (y := 0) rfl (show (0 : Int32).toInt = 0 by decide) c_6
        refine lv_iconst (v := 0) hx hb dX12_sits_30 (by decide) ?_
        exact J_31 _ _ _ _ ⟨0, (u_5.2.1 0), (u_5.2.1 1), (u_5.2.1 2), (u_5.2.1 3), ⟨by decide +kernel, by decide +kernel⟩, (rg_wide w5_0 (by decide) (by decide)), rfl, (q_re h_5 [2, 3, 4, 5, 0, 1] rfl rfl), (lv_sub hl [0, 1] rfl)⟩
      · replace c_6 := i_ne (x := r_5) (y := 0) rfl (show (0 : Int32).toInt = 0 by decide) c_6
        refine lv_iconst (v := 1) hx hb dX12_sits_26 (by decide) ?_
        refine lv_goto (tgt := 31) hx hb dX12_sits_27 (by decide) ?_
        exact J_31 _ _ _ _ ⟨1, (u_5.2.1 0), (u_5.2.1 1), (u_5.2.1 2), (u_5.2.1 3), ⟨by decide +kernel, by decide +kernel⟩, (rg_wide w5_0 (by decide) (by decide)), rfl, (q_re h_5 [2, 3, 4, 5, 0, 1] rfl rfl), (lv_sub hl [0, 1] rfl)⟩
    · replace c_4 := i_eq (x := r_2) (y := 0) rfl (show (0 : Int32).toInt = 0 by decide) c_4
      refine lv_bipush (v := (-3)) hx hb dX12_sits_13 (by decide) ?_
      refine lv_goto (tgt := 31) hx hb dX12_sits_15 (by decide) ?_
      exact J_31 _ _ _ _ ⟨(-3), f1, f2, f3, f4, ⟨by decide +kernel, by decide +kernel⟩, (rg_wide rf3 (by decide) (by decide)), rfl, h_2, (lv_sub hl [0, 1] rfl)⟩
set_option maxHeartbeats 4000000 in
set_option maxRecDepth 100000 in
theorem gX12_goesPairs_aec2824 (l : Launch) (D : va_G) (cy : Nat → ClassId) (h0 : Nat) (h1 : Nat) (h2 : Nat) (p0 : Int32) (p1 : Int32) (p2 : Int32) (p3 : Int32) (w0 : Value) (w1 : Value) (w2 : Value) (w3 : Value) (p4 : Int32) (p5 : Int32) (p6 : Int32) (p7 : Int32) (p8 : Int32) (p9 : Int32) (p10 : Int32) (p11 : Int32) (p12 : Int32) (p13 : Int32) (p14 : Int32) (w4 : Value) (w5 : Value) (w6 : Value) (w7 : Value) (w8 : Value) (p15 : Int32) (p16 : Int32) (w9 : Value) (p17 : Int32) (p18 : Int32) (w10 : Value) (w11 : Value) (w12 : Value) (w13 : Value) (w14 : Value) (p19 : Int32) (w15 : Value) (w16 : Value) (w17 : Value) (f0 : Nat → Int32) (f1 : Nat → Int32) (hp0 : 0 ≤ (p0).toInt ∧ (p0).toInt ≤ 1023) (hp1 : 0 ≤ (p1).toInt ∧ (p1).toInt ≤ 10) (hp2 : (-2147483648) ≤ (p2).toInt ∧ (p2).toInt ≤ 2147483647) (hp3 : 0 ≤ (p3).toInt ∧ (p3).toInt ≤ 0) (hp4 : 0 ≤ (p4).toInt ∧ (p4).toInt ≤ 900) (hp5 : 0 ≤ (p5).toInt ∧ (p5).toInt ≤ 900) (hp6 : 0 ≤ (p6).toInt ∧ (p6).toInt ≤ 900) (hp7 : 0 ≤ (p7).toInt ∧ (p7).toInt ≤ 900) (hp8 : (-2147483648) ≤ (p8).toInt ∧ (p8).toInt ≤ 2147483647) (hp9 : 0 ≤ (p9).toInt ∧ (p9).toInt ≤ 999) (hp10 : (-2147483648) ≤ (p10).toInt ∧ (p10).toInt ≤ 2147483647) (hp11 : (-2147483648) ≤ (p11).toInt ∧ (p11).toInt ≤ 2147483647) (hp12 : (-2147483648) ≤ (p12).toInt ∧ (p12).toInt ≤ 2147483647) (hp13 : (-2147483648) ≤ (p13).toInt ∧ (p13).toInt ≤ 2147483647) (hp14 : (-2147483648) ≤ (p14).toInt ∧ (p14).toInt ≤ 2147483647) (hp15 : (-2147483648) ≤ (p15).toInt ∧ (p15).toInt ≤ 2147483647) (hp16 : (-2147483648) ≤ (p16).toInt ∧ (p16).toInt ≤ 2147483647) (hp17 : (-1) ≤ (p17).toInt ∧ (p17).toInt ≤ 10) (hp18 : (-2147483648) ≤ (p18).toInt ∧ (p18).toInt ≤ 2147483647) (hp19 : (-2147483648) ≤ (p19).toInt ∧ (p19).toInt ≤ 2147483647) (hpre0 : (p0 : Int32).toInt % 1024 = 0) (sz : Nat) : MV l yX12_goesPairs cX12_goesPairs 7 { frames := 0, cells := 0, slots := 0, locals := 0 } [.ref h0, .int p0, .int p1, .int p2] D cy (wk_c2316df04 cy h0 p3 w0 w1 w2 w3 p4 p5 p6 p7 p8 p9 p10 p11 p12 p13 p14 w4 w5 w6 w7 w8 p15 p16 w9 h1 h2 p17 p18 w10 w11 w12 w13 w14 p19 w15 w16 w17 h1 f0 h2 f1) sz (fun u => ((-1) ≤ (u.2.1 0 0).toInt ∧ (u.2.1 0 0).toInt ≤ 10) ∧ ((-2147483648) ≤ (u.2.1 1 0).toInt ∧ (u.2.1 1 0).toInt ≤ 2147483647) ∧ True) (fun u => (wk_c2316df04 cy h0 p3 w0 w1 w2 w3 p4 p5 p6 p7 p8 p9 p10 p11 p12 p13 p14 w4 w5 w6 w7 w8 p15 p16 w9 h1 h2 (u.2.1 0 0) (u.2.1 1 0) w10 w11 w12 w13 w14 p19 w15 w16 w17 h1 f0 h2 (u.2.1 2))) 0 0 := by
  refine q_ent (own := RX12) (by decide) rfl (Nat.le_of_ble_eq_true rfl) (fun p e s m below meth c ls X hr hlk hnm hK hT h hA hl => ?_)
  obtain ⟨hx, hb, hml, hown, ht⟩ := id X
  replace hl : lv_has ls 7 [(0, .ref h0), (1, .int p0), (2, .int p1), (3, .int p2)] := hl
  refine lv_iload_n hx hb dX12_goesPairs_0 rfl (lv_at hl 1 rfl) ?_
  refine lv_if_ne (tgt := 70) hx hb dX12_goesPairs_1 (by decide) (fun c_1 => ?_) (fun c_1 => ?_)
  · replace c_1 := i_ne (x := p0) (y := 0) rfl (show (0 : Int32).toInt = 0 by decide) c_1
    exfalso
    omega
  · replace c_1 := i_eq (x := p0) (y := 0) rfl (show (0 : Int32).toInt = 0 by decide) c_1
    refine lv_iload_n hx hb dX12_goesPairs_4 rfl (lv_at hl 2 rfl) ?_
    refine lv_aload_n hx hb dX12_goesPairs_5 rfl (lv_at hl 0 rfl) ?_
    refine q_get X hK h 0 rfl rfl wf_12 26 (by decide) rfl wm_5_196 dX12_goesPairs_6 ?_
    refine q_jn (pc2 := 28) (fun H locs ls st => st = [] ∧ qW D (va_A (wk_c2316df04 cy h0 p3 w0 w1 w2 w3 p4 p5 p6 p7 p8 p9 p10 p11 p12 p13 p14 w4 w5 w6 w7 w8 p15 p16 w9 h1 h2 p17 p18 w10 w11 w12 w13 w14 p19 w15 w16 w17 h1 f0 h2 f1) sz) s.heap (wk_c2316df04 cy h0 p3 w0 w1 w2 w3 p4 p5 p6 p7 p8 p9 p10 p11 p12 p13 p14 w4 w5 w6 w7 w8 p15 p16 w9 h1 h2 p17 p18 w10 w11 w12 w13 w14 p19 w15 w16 w17 h1 f0 h2 f1) H locs ∧ lv_has ls 7 [(0, .ref h0), (1, .int p0), (2, .int p1), (3, .int p2)]) (fun H locs ls st hP => ?_) (fun J_28 => ?_)
    · obtain ⟨rfl, h, hl⟩ := hP
      exact q_vret X hr hlk hK h (fun _ => 0, (vcons (fun _ => p17) (vcons (fun _ => p18) (vcons f1 (fun _ => (fun _ => 0))))), fun _ _ => 0) ⟨hp17, hp18, trivial⟩ [0, 1, 2] rfl rfl dX12_goesPairs_28 (Nat.le_of_ble_eq_true rfl) (Nat.le_of_ble_eq_true rfl)
    · skip
      refine lv_icmp_lt (tgt := 28) hx hb dX12_goesPairs_9 (by decide) (fun c_3 => ?_) (fun c_3 => ?_)
      · replace c_3 := i_lt (x := p1) (y := p17) rfl rfl c_3
        exact J_28 _ _ _ _ ⟨rfl, h, (lv_sub hl [0, 1, 2, 3] rfl)⟩
      · replace c_3 := i_nlt (x := p1) (y := p17) rfl rfl c_3
        refine lv_iload_n hx hb dX12_goesPairs_12 rfl (lv_at hl 2 rfl) ?_
        refine lv_aload_n hx hb dX12_goesPairs_13 rfl (lv_at hl 0 rfl) ?_
        refine q_get X hK h 0 rfl rfl wf_12 26 (by decide) rfl wm_5_196 dX12_goesPairs_14 ?_
        refine q_jn (pc2 := 29) (fun H locs ls st => st = [] ∧ qW D (va_A (wk_c2316df04 cy h0 p3 w0 w1 w2 w3 p4 p5 p6 p7 p8 p9 p10 p11 p12 p13 p14 w4 w5 w6 w7 w8 p15 p16 w9 h1 h2 p17 p18 w10 w11 w12 w13 w14 p19 w15 w16 w17 h1 f0 h2 f1) sz) s.heap (wk_c2316df04 cy h0 p3 w0 w1 w2 w3 p4 p5 p6 p7 p8 p9 p10 p11 p12 p13 p14 w4 w5 w6 w7 w8 p15 p16 w9 h1 h2 p17 p18 w10 w11 w12 w13 w14 p19 w15 w16 w17 h1 f0 h2 f1) H locs ∧ lv_has ls 7 [(0, .ref h0), (1, .int p0), (2, .int p1), (3, .int p2)]) (fun H locs ls st hP => ?_) (fun J_29 => ?_)
        · obtain ⟨rfl, h, hl⟩ := hP
          refine lv_aload_n hx hb dX12_goesPairs_29 rfl (lv_at hl 0 rfl) ?_
          refine lv_iload_n hx hb dX12_goesPairs_30 rfl (lv_at hl 2 rfl) ?_
          refine q_put (v := .int p1) X hK h 0 rfl rfl wf_12 tyX12 tyX12_ok nmX12 26 (by decide) wm_5_196 rfl rfl rfl (Nat.le_of_ble_eq_true rfl) dX12_goesPairs_31 (fun H locs h_5 => ?_)
          clear h
          replace h_5 : qW D _ _ (wk_c2316df04 cy h0 p3 w0 w1 w2 w3 p4 p5 p6 p7 p8 p9 p10 p11 p12 p13 p14 w4 w5 w6 w7 w8 p15 p16 w9 h1 h2 p1 p18 w10 w11 w12 w13 w14 p19 w15 w16 w17 h1 f0 h2 f1) _ _ := h_5
          refine lv_aload_n hx hb dX12_goesPairs_34 rfl (lv_at hl 0 rfl) ?_
          refine lv_iload_n hx hb dX12_goesPairs_35 rfl (lv_at hl 3 rfl) ?_
          refine q_put (v := .int p2) X hK h_5 0 rfl rfl wf_12 tyX12 tyX12_ok nmX12 27 (by decide) wm_5_197 rfl rfl rfl (Nat.le_of_ble_eq_true rfl) dX12_goesPairs_36 (fun H locs h_6 => ?_)
          clear h_5
          replace h_6 : qW D _ _ (wk_c2316df04 cy h0 p3 w0 w1 w2 w3 p4 p5 p6 p7 p8 p9 p10 p11 p12 p13 p14 w4 w5 w6 w7 w8 p15 p16 w9 h1 h2 p1 p2 w10 w11 w12 w13 w14 p19 w15 w16 w17 h1 f0 h2 f1) _ _ := h_6
          refine lv_iconst (v := 0) hx hb dX12_goesPairs_39 (by decide) ?_
          refine lv_istore (lv' := [(4, .int 0), (0, .ref h0), (1, .int p0), (2, .int p1), (3, .int p2)]) hx hb dX12_goesPairs_40 hl (by decide) rfl (fun ls_7 hl_7 => ?_)
          clear hl
          refine q_wl (fun (v42_8_0 : Int32) H locs ls => ∃ v42_8_1 : Nat → Int32, (0 ≤ (v42_8_0).toInt ∧ (v42_8_0).toInt ≤ 10) ∧ qW D (va_A (wk_c2316df04 cy h0 p3 w0 w1 w2 w3 p4 p5 p6 p7 p8 p9 p10 p11 p12 p13 p14 w4 w5 w6 w7 w8 p15 p16 w9 h1 h2 p17 p18 w10 w11 w12 w13 w14 p19 w15 w16 w17 h1 f0 h2 f1) sz) s.heap (wk_c2316df04 cy h0 p3 w0 w1 w2 w3 p4 p5 p6 p7 p8 p9 p10 p11 p12 p13 p14 w4 w5 w6 w7 w8 p15 p16 w9 h1 h2 p1 p2 w10 w11 w12 w13 w14 p19 w15 w16 w17 h1 f0 h2 v42_8_1) H locs ∧ lv_has ls 7 [(0, .ref h0), (1, .int p0), (2, .int p1), (3, .int p2), (4, .int v42_8_0)]) (fun (v42_8_0 : Int32) => (11 - (v42_8_0).toInt).toNat) (fun q_42 ih_42 H locs ls hP => ?_) 0 ⟨f1, ⟨by decide +kernel, by decide +kernel⟩, h_6, (lv_sub hl_7 [1, 2, 3, 4, 0] rfl)⟩
          obtain ⟨v42_8_0, rfl⟩ : ∃ z, z = q_42 := ⟨_, rfl⟩
          obtain ⟨v42_8_1, hv42_8_0, h, hl⟩ := hP
          refine lv_iload hx hb dX12_goesPairs_42 (lv_at hl 4 rfl) ?_
          refine lv_bipush (v := 10) hx hb dX12_goesPairs_44 (by decide) ?_
          refine lv_icmp_ge (tgt := 69) hx hb dX12_goesPairs_46 (by decide) (fun c_9 => ?_) (fun c_9 => ?_)
          · replace c_9 := i_le (x := 10) (y := v42_8_0) (show (10 : Int32).toInt = 10 by decide) rfl c_9
            exact q_vret X hr hlk hK h (fun _ => 0, (vcons (fun _ => p1) (vcons (fun _ => p2) (vcons v42_8_1 (fun _ => (fun _ => 0))))), fun _ _ => 0) ⟨(bw hp1 (by decide) (by decide)), hp2, trivial⟩ [0, 1, 2] rfl rfl dX12_goesPairs_69 (Nat.le_of_ble_eq_true rfl) (Nat.le_of_ble_eq_true rfl)
          · replace c_9 := i_nle (x := 10) (y := v42_8_0) (show (10 : Int32).toInt = 10 by decide) rfl c_9
            refine lv_aload_n hx hb dX12_goesPairs_49 rfl (lv_at hl 0 rfl) ?_
            refine q_get X hK h 0 rfl rfl wf_12 25 (by decide) rfl wm_5_195 dX12_goesPairs_50 ?_
            refine lv_iload hx hb dX12_goesPairs_53 (lv_at hl 4 rfl) ?_
            refine lv_aload_n hx hb dX12_goesPairs_55 rfl (lv_at hl 0 rfl) ?_
            refine q_get X hK h 0 rfl rfl wf_12 24 (by decide) rfl wm_5_194 dX12_goesPairs_56 ?_
            refine lv_iload hx hb dX12_goesPairs_59 (lv_at hl 4 rfl) ?_
            refine q_iald X hK h 1 rfl (i_in rfl (by omega) (by omega)) dX12_goesPairs_61 ?_
            refine q_any (fun z_10 hz_10 => ?_)
            refine q_iast X hK h 2 rfl (i_in rfl (by omega) (by omega)) dX12_goesPairs_62 (fun H locs h_12 => ?_)
            clear h
            replace h_12 : qW D _ _ (wk_c2316df04 cy h0 p3 w0 w1 w2 w3 p4 p5 p6 p7 p8 p9 p10 p11 p12 p13 p14 w4 w5 w6 w7 w8 p15 p16 w9 h1 h2 p1 p2 w10 w11 w12 w13 w14 p19 w15 w16 w17 h1 f0 h2 (upd v42_8_1 (Int32.toNatClampNeg v42_8_0) z_10)) _ _ := h_12
            obtain ⟨F_11, eF_11⟩ : ∃ z, (upd v42_8_1 (Int32.toNatClampNeg v42_8_0) z_10) = z := ⟨_, rfl⟩
            rw [eF_11] at h_12
            clear eF_11
            obtain ⟨z_13, ez_13, hz_13⟩ := e_add (x := v42_8_0) (y := Int32.ofInt 1) rfl (b := 1) (by decide) (by omega) (by omega)
            refine lv_iinc (v := z_13) (lv' := [(4, .int z_13), (0, .ref h0), (1, .int p0), (2, .int p1), (3, .int p2)]) hx hb dX12_goesPairs_63 hl (k := 4) rfl ez_13 (by decide) rfl (fun ls_13 hl_13 => ?_)
            clear hl
            refine lv_goto (tgt := 42) hx hb dX12_goesPairs_66 (by decide) ?_
            exact ih_42 z_13 (by show (11 - (z_13).toInt).toNat < (11 - (v42_8_0).toInt).toNat; omega) _ _ _ ⟨F_11, ⟨by omega, by omega⟩, h_12, (lv_sub hl_13 [1, 2, 3, 4, 0] rfl)⟩
        · skip
          refine lv_icmp_ne (tgt := 29) hx hb dX12_goesPairs_17 (by decide) (fun c_14 => ?_) (fun c_14 => ?_)
          · replace c_14 := i_ne (x := p1) (y := p17) rfl rfl c_14
            exact J_29 _ _ _ _ ⟨rfl, h, (lv_sub hl [0, 1, 2, 3] rfl)⟩
          · replace c_14 := i_eq (x := p1) (y := p17) rfl rfl c_14
            refine lv_iload_n hx hb dX12_goesPairs_20 rfl (lv_at hl 3 rfl) ?_
            refine lv_aload_n hx hb dX12_goesPairs_21 rfl (lv_at hl 0 rfl) ?_
            refine q_get X hK h 0 rfl rfl wf_12 27 (by decide) rfl wm_5_197 dX12_goesPairs_22 ?_
            refine lv_icmp_gt (tgt := 29) hx hb dX12_goesPairs_25 (by decide) (fun c_15 => ?_) (fun c_15 => ?_)
            · replace c_15 := i_lt (x := p18) (y := p2) rfl rfl c_15
              exact J_29 _ _ _ _ ⟨rfl, h, (lv_sub hl [0, 1, 2, 3] rfl)⟩
            · replace c_15 := i_nlt (x := p18) (y := p2) rfl rfl c_15
              exact J_28 _ _ _ _ ⟨rfl, h, (lv_sub hl [0, 1, 2, 3] rfl)⟩
set_option maxHeartbeats 4000000 in
set_option maxRecDepth 100000 in
theorem gX12_goesPairs_b37398b (l : Launch) (D : va_G) (cy : Nat → ClassId) (h0 : Nat) (h1 : Nat) (h2 : Nat) (h3 : Nat) (h4 : Nat) (p0 : Int32) (p1 : Int32) (p2 : Int32) (p3 : Int32) (w0 : Value) (w1 : Value) (w2 : Value) (p4 : Int32) (p5 : Int32) (p6 : Int32) (p7 : Int32) (p8 : Int32) (p9 : Int32) (p10 : Int32) (p11 : Int32) (p12 : Int32) (p13 : Int32) (p14 : Int32) (w3 : Value) (w4 : Value) (w5 : Value) (w6 : Value) (p15 : Int32) (p16 : Int32) (w7 : Value) (p17 : Int32) (p18 : Int32) (w8 : Value) (w9 : Value) (w10 : Value) (w11 : Value) (w12 : Value) (p19 : Int32) (w13 : Value) (w14 : Value) (w15 : Value) (f0 : Nat → Int32) (p20 : Int32) (f1 : Nat → Int32) (f2 : Nat → Int32) (f3 : Nat → Int32) (hp0 : 0 ≤ (p0).toInt ∧ (p0).toInt ≤ 1023) (hp1 : 0 ≤ (p1).toInt ∧ (p1).toInt ≤ 9) (hp2 : (-2147483648) ≤ (p2).toInt ∧ (p2).toInt ≤ 2147483647) (hp3 : 0 ≤ (p3).toInt ∧ (p3).toInt ≤ 0) (hp4 : 0 ≤ (p4).toInt ∧ (p4).toInt ≤ 900) (hp5 : 0 ≤ (p5).toInt ∧ (p5).toInt ≤ 900) (hp6 : 0 ≤ (p6).toInt ∧ (p6).toInt ≤ 900) (hp7 : 0 ≤ (p7).toInt ∧ (p7).toInt ≤ 900) (hp8 : (-2147483648) ≤ (p8).toInt ∧ (p8).toInt ≤ 2147483647) (hp9 : 0 ≤ (p9).toInt ∧ (p9).toInt ≤ 999) (hp10 : (-2147483648) ≤ (p10).toInt ∧ (p10).toInt ≤ 2147483647) (hp11 : (-2147483648) ≤ (p11).toInt ∧ (p11).toInt ≤ 2147483647) (hp12 : (-2147483648) ≤ (p12).toInt ∧ (p12).toInt ≤ 2147483647) (hp13 : (-2147483648) ≤ (p13).toInt ∧ (p13).toInt ≤ 2147483647) (hp14 : (-2147483648) ≤ (p14).toInt ∧ (p14).toInt ≤ 2147483647) (hp15 : (-2147483648) ≤ (p15).toInt ∧ (p15).toInt ≤ 2147483647) (hp16 : (-2147483648) ≤ (p16).toInt ∧ (p16).toInt ≤ 2147483647) (hp17 : (-1) ≤ (p17).toInt ∧ (p17).toInt ≤ 10) (hp18 : (-2147483648) ≤ (p18).toInt ∧ (p18).toInt ≤ 2147483647) (hp19 : (-2147483648) ≤ (p19).toInt ∧ (p19).toInt ≤ 2147483647) (hp20 : 0 ≤ (p20).toInt ∧ (p20).toInt ≤ 10) (htf0_84 : f0 84 = p20) (rf0 : AL f0) (rf1 : RG f1 10 0 1023) (hpre0 : (p0 : Int32).toInt % 512 = 0) (sz : Nat) : MV l yX12_goesPairs cX12_goesPairs 7 { frames := 2, cells := 0, slots := 0, locals := 43 } [.ref h0, .int p0, .int p1, .int p2] D cy (wk_f147cc4b8 cy h0 p3 h1 w0 w1 w2 p4 p5 p6 p7 p8 p9 p10 p11 p12 p13 p14 w3 w4 w5 h2 w6 p15 p16 w7 h3 h4 p17 p18 w8 w9 w10 w11 w12 p19 w13 w14 w15 h1 f0 h2 f1 h3 f2 h4 f3) sz (fun u => ((-1) ≤ (u.2.1 0 0).toInt ∧ (u.2.1 0 0).toInt ≤ 10) ∧ ((-2147483648) ≤ (u.2.1 1 0).toInt ∧ (u.2.1 1 0).toInt ≤ 2147483647) ∧ True) (fun u => (wk_f147cc4b8 cy h0 p3 h1 w0 w1 w2 p4 p5 p6 p7 p8 p9 p10 p11 p12 p13 p14 w3 w4 w5 h2 w6 p15 p16 w7 h3 h4 (u.2.1 0 0) (u.2.1 1 0) w8 w9 w10 w11 w12 p19 w13 w14 w15 h1 f0 h2 f1 h3 (u.2.1 2) h4 (u.2.1 3))) 0 0 := by
  refine q_ent (own := RX12) (by decide) rfl (Nat.le_of_ble_eq_true rfl) (fun p e s m below meth c ls X hr hlk hnm hK hT h hA hl => ?_)
  obtain ⟨hx, hb, hml, hown, ht⟩ := id X
  replace hl : lv_has ls 7 [(0, .ref h0), (1, .int p0), (2, .int p1), (3, .int p2)] := hl
  refine lv_iload_n hx hb dX12_goesPairs_0 rfl (lv_at hl 1 rfl) ?_
  refine lv_if_ne (tgt := 70) hx hb dX12_goesPairs_1 (by decide) (fun c_1 => ?_) (fun c_1 => ?_)
  · replace c_1 := i_ne (x := p0) (y := 0) rfl (show (0 : Int32).toInt = 0 by decide) c_1
    refine lv_iload_n hx hb dX12_goesPairs_70 rfl (lv_at hl 1 rfl) ?_
    refine q_callSi (rest := []) (wr := (wk_f147cc4b8 cy h0 p3 h1 w0 w1 w2 p4 p5 p6 p7 p8 p9 p10 p11 p12 p13 p14 w3 w4 w5 h2 w6 p15 p16 w7 h3 h4 p17 p18 w8 w9 w10 w11 w12 p19 w13 w14 w15 h1 f0 h2 f1 h3 f2 h4 f3)) X hK hT hA h (fun sz => gX12_lowest_51df8cb l D cy p0 ⟨by omega, by omega⟩ sz) wm_7_67 wm_7_69 wm_1_12 hd_X12_lowest wm_7_68 ⟨Nat.le_of_ble_eq_true rfl, Nat.le_of_ble_eq_true rfl⟩ hl.1 rfl (Nat.le_of_ble_eq_true rfl) dX12_goesPairs_71 ⟨Nat.le_of_ble_eq_true rfl, Nat.le_of_ble_eq_true rfl⟩ [] [0, 1, 2, 3, 4] rfl rfl (by decide) rfl rfl (fun r_2 u_2 H locs w_2 h_2 => ?_)
    clear h
    obtain ⟨wr_2, y2_0, _⟩ := w_2
    replace h_2 : qW D _ _ (wk_f147cc4b8 cy h0 p3 h1 w0 w1 w2 p4 p5 p6 p7 p8 p9 p10 p11 p12 p13 p14 w3 w4 w5 h2 w6 p15 p16 w7 h3 h4 p17 p18 w8 w9 w10 w11 w12 p19 w13 w14 w15 h1 f0 h2 f1 h3 f2 h4 f3) _ _ := h_2
    refine lv_istore (lv' := [(4, .int r_2), (0, .ref h0), (1, .int p0), (2, .int p1), (3, .int p2)]) hx hb dX12_goesPairs_74 hl (by decide) rfl (fun ls_3 hl_3 => ?_)
    clear hl
    refine lv_iload_n hx hb dX12_goesPairs_76 rfl (lv_at hl_3 2 rfl) ?_
    refine lv_iconst (v := 1) hx hb dX12_goesPairs_77 (by decide) ?_
    refine lv_iload hx hb dX12_goesPairs_78 (lv_at hl_3 0 rfl) ?_
    refine lv_ishl hx hb dX12_goesPairs_80 ?_
    obtain ⟨z_4, ez_4, hz_4⟩ := e_shlk (p := r_2) 9 (by decide) rfl (by omega) (by omega)
    refine q_c z_4 ez_4 ?_
    refine lv_iconst (v := (-1)) hx hb dX12_goesPairs_81 (by decide) ?_
    refine lv_ixor hx hb dX12_goesPairs_82 ?_
    obtain ⟨z_5, ez_5, hz_5⟩ := e_any (z_4 ^^^ (-1))
    refine q_c z_5 ez_5 ?_
    refine lv_iand hx hb dX12_goesPairs_83 ?_
    obtain ⟨z_6, ez_6, hz_6⟩ := e_and1 (x := p0) (y := z_5) rfl (by omega)
    refine q_c z_6 ez_6 ?_
    have rs_7 := rest_low 9 (by omega) y2_0 (by omega) ez_4 ez_5 ez_6
    refine lv_istore (lv' := [(5, .int z_6), (4, .int r_2), (0, .ref h0), (1, .int p0), (2, .int p1), (3, .int p2)]) hx hb dX12_goesPairs_84 hl_3 (by decide) rfl (fun ls_8 hl_8 => ?_)
    clear hl_3
    refine lv_iload hx hb dX12_goesPairs_86 (lv_at hl_8 1 rfl) ?_
    refine lv_iconst (v := 1) hx hb dX12_goesPairs_88 (by decide) ?_
    refine lv_iadd hx hb dX12_goesPairs_89 ?_
    obtain ⟨z_9, ez_9, hz_9⟩ := e_add (x := r_2) (y := 1) rfl (show (1 : Int32).toInt = 1 by decide) (by omega) (by omega)
    refine q_c z_9 ez_9 ?_
    clear ez_9
    refine lv_istore (lv' := [(6, .int z_9), (5, .int z_6), (4, .int r_2), (0, .ref h0), (1, .int p0), (2, .int p1), (3, .int p2)]) hx hb dX12_goesPairs_90 hl_8 (by decide) rfl (fun ls_10 hl_10 => ?_)
    clear hl_8
    refine q_wl (fun (q : Int32 × Int32 × Int32) H locs ls => match q with | (v92_11_0, v92_11_1, v92_11_2) => ∃ v92_11_3 : Nat → Int32, ∃ v92_11_4 : Nat → Int32, (1 ≤ (v92_11_0).toInt ∧ (v92_11_0).toInt ≤ 10) ∧ ((-1) ≤ (v92_11_1).toInt ∧ (v92_11_1).toInt ≤ 10) ∧ ((-2147483648) ≤ (v92_11_2).toInt ∧ (v92_11_2).toInt ≤ 2147483647) ∧ qW D (va_A (wk_f147cc4b8 cy h0 p3 h1 w0 w1 w2 p4 p5 p6 p7 p8 p9 p10 p11 p12 p13 p14 w3 w4 w5 h2 w6 p15 p16 w7 h3 h4 p17 p18 w8 w9 w10 w11 w12 p19 w13 w14 w15 h1 f0 h2 f1 h3 f2 h4 f3) sz) s.heap (wk_f147cc4b8 cy h0 p3 h1 w0 w1 w2 p4 p5 p6 p7 p8 p9 p10 p11 p12 p13 p14 w3 w4 w5 h2 w6 p15 p16 w7 h3 h4 v92_11_1 v92_11_2 w8 w9 w10 w11 w12 p19 w13 w14 w15 h1 f0 h2 f1 h3 v92_11_3 h4 v92_11_4) H locs ∧ lv_has ls 7 [(0, .ref h0), (1, .int p0), (2, .int p1), (3, .int p2), (4, .int r_2), (5, .int z_6), (6, .int v92_11_0)]) (fun (q : Int32 × Int32 × Int32) => match q with | (v92_11_0, v92_11_1, v92_11_2) => (11 - (v92_11_0).toInt).toNat) (fun q_92 ih_92 H locs ls hP => ?_) (z_9, p17, p18) ⟨f2, f3, ⟨by omega, by omega⟩, hp17, hp18, h_2, (lv_sub hl_10 [3, 4, 5, 6, 2, 1, 0] rfl)⟩
    obtain ⟨v92_11_0, v92_11_1, v92_11_2⟩ := q_92
    obtain ⟨v92_11_3, v92_11_4, hv92_11_0, hv92_11_1, hv92_11_2, h, hl⟩ := hP
    refine lv_iload hx hb dX12_goesPairs_92 (lv_at hl 6 rfl) ?_
    refine lv_aload_n hx hb dX12_goesPairs_94 rfl (lv_at hl 0 rfl) ?_
    refine q_get X hK h 0 rfl rfl wf_12 1 (by decide) rfl wm_5_171 dX12_goesPairs_95 ?_
    refine lv_iconst (v := 2) hx hb dX12_goesPairs_98 (by decide) ?_
    refine q_iald X hK h 1 rfl (q_in (by decide +kernel)) dX12_goesPairs_99 ?_
    obtain ⟨z_12, ez_12, hz_12⟩ := al_P rf0 (x := 2) (show (2 : Int32).toInt = 2 by decide) (by omega) (by omega)
    refine q_c z_12 ez_12 ?_
    clear ez_12
    refine lv_icmp_ge (tgt := 196) hx hb dX12_goesPairs_100 (by decide) (fun c_13 => ?_) (fun c_13 => ?_)
    · replace c_13 := i_le (x := z_12) (y := v92_11_0) rfl rfl c_13
      refine lv_aload_n hx hb dX12_goesPairs_196 rfl (lv_at hl 0 rfl) ?_
      refine q_get X hK h 0 rfl rfl wf_12 24 (by decide) rfl wm_5_194 dX12_goesPairs_197 ?_
      refine lv_iload hx hb dX12_goesPairs_200 (lv_at hl 4 rfl) ?_
      refine lv_iconst (v := (-1)) hx hb dX12_goesPairs_202 (by decide) ?_
      refine q_iast X hK h 3 rfl (i_in rfl (by omega) (by omega)) dX12_goesPairs_203 (fun H locs h_15 => ?_)
      clear h
      replace h_15 : qW D _ _ (wk_f147cc4b8 cy h0 p3 h1 w0 w1 w2 p4 p5 p6 p7 p8 p9 p10 p11 p12 p13 p14 w3 w4 w5 h2 w6 p15 p16 w7 h3 h4 v92_11_1 v92_11_2 w8 w9 w10 w11 w12 p19 w13 w14 w15 h1 f0 h2 f1 h3 (upd v92_11_3 (Int32.toNatClampNeg r_2) (-1)) h4 v92_11_4) _ _ := h_15
      obtain ⟨F_14, eF_14⟩ : ∃ z, (upd v92_11_3 (Int32.toNatClampNeg r_2) (-1)) = z := ⟨_, rfl⟩
      rw [eF_14] at h_15
      clear eF_14
      refine lv_aload_n hx hb dX12_goesPairs_204 rfl (lv_at hl 0 rfl) ?_
      refine lv_iload hx hb dX12_goesPairs_205 (lv_at hl 5 rfl) ?_
      refine lv_iload_n hx hb dX12_goesPairs_207 rfl (lv_at hl 2 rfl) ?_
      refine lv_iload_n hx hb dX12_goesPairs_208 rfl (lv_at hl 3 rfl) ?_
      refine q_callVv (rest := []) (wr := (wk_d2b1692f1 cy h1 f0 h2 f1)) X hK hT hA h_15 (fun sz => gX12_goesPairs_aec2824 l D cy h0 h3 h4 z_6 p1 p2 p3 (.ref h1) w0 w1 w2 p4 p5 p6 p7 p8 p9 p10 p11 p12 p13 p14 w3 w4 w5 (.ref h2) w6 p15 p16 w7 v92_11_1 v92_11_2 w8 w9 w10 w11 w12 p19 w13 w14 w15 F_14 v92_11_4 ⟨by omega, by omega⟩ (bw hp1 (by decide) (by decide)) (i_rng _) hp3 hp4 hp5 hp6 hp7 (i_rng _) hp9 (i_rng _) (i_rng _) (i_rng _) (i_rng _) (i_rng _) (i_rng _) (i_rng _) hv92_11_1 (i_rng _) (i_rng _) ((show _ % 1024 = 0 from rs_7.1)) sz) wm_7_116 wm_7_119 wm_1_12 hd_X12_goesPairs wm_7_118 wp_7_4 (ci := 12) (q0 := 0) rfl rfl ⟨Nat.le_of_ble_eq_true rfl, Nat.le_of_ble_eq_true rfl⟩ hl.1 rfl (Nat.le_of_ble_eq_true rfl) dX12_goesPairs_209 ⟨Nat.le_of_ble_eq_true rfl, Nat.le_of_ble_eq_true rfl⟩ [0, 3, 4] [1, 2] rfl rfl (by decide) rfl rfl (fun u_16 H locs w_16 h_16 => ?_)
      clear h_15
      obtain ⟨w16_0, w16_1, _⟩ := w_16
      replace h_16 : qW D _ _ (wk_5e3f1f655 cy h1 f0 h2 f1 h0 p3 h1 w0 w1 w2 p4 p5 p6 p7 p8 p9 p10 p11 p12 p13 p14 w3 w4 w5 h2 w6 p15 p16 w7 h3 h4 (u_16.2.1 0 0) (u_16.2.1 1 0) w8 w9 w10 w11 w12 p19 w13 w14 w15 h3 F_14 h4 (u_16.2.1 2)) _ _ := h_16
      exact q_vret X hr hlk hK h_16 (fun _ => 0, (vcons (fun _ => (u_16.2.1 0 0)) (vcons (fun _ => (u_16.2.1 1 0)) (vcons F_14 (vcons (u_16.2.1 2) (fun _ => (fun _ => 0)))))), fun _ _ => 0) ⟨w16_0, w16_1, trivial⟩ [2, 0, 1, 3, 4] rfl rfl dX12_goesPairs_212 (Nat.le_of_ble_eq_true rfl) (Nat.le_of_ble_eq_true rfl)
    · replace c_13 := i_nle (x := z_12) (y := v92_11_0) rfl rfl c_13
      refine lv_iload hx hb dX12_goesPairs_103 (lv_at hl 5 rfl) ?_
      refine lv_aload_n hx hb dX12_goesPairs_105 rfl (lv_at hl 0 rfl) ?_
      refine q_get X hK h 0 rfl rfl wf_12 19 (by decide) rfl wm_5_189 dX12_goesPairs_106 ?_
      refine lv_iload hx hb dX12_goesPairs_109 (lv_at hl 4 rfl) ?_
      refine q_iald X hK h 2 rfl (i_in rfl (by omega) (by omega)) dX12_goesPairs_111 ?_
      obtain ⟨z_17, ez_17, hz_17⟩ := rg_get rf1 (x := r_2) rfl (by omega) (by omega)
      refine q_c z_17 ez_17 ?_
      clear ez_17
      refine lv_iand hx hb dX12_goesPairs_112 ?_
      obtain ⟨z_18, ez_18, hz_18⟩ := e_and2 (x := z_6) (y := z_17) rfl (by omega)
      refine q_c z_18 ez_18 ?_
      clear ez_18
      refine lv_i2l hx hb dX12_goesPairs_113 rfl ?_
      obtain ⟨z_19, ez_19, hz_19⟩ := e_i2l (x := z_18) rfl
      refine q_cl z_19 ez_19 ?_
      clear ez_19
      refine lv_iload hx hb dX12_goesPairs_114 (lv_at hl 6 rfl) ?_
      refine q_callSi (rest := []) (wr := (wk_f147cc4b8 cy h0 p3 h1 w0 w1 w2 p4 p5 p6 p7 p8 p9 p10 p11 p12 p13 p14 w3 w4 w5 h2 w6 p15 p16 w7 h3 h4 v92_11_1 v92_11_2 w8 w9 w10 w11 w12 p19 w13 w14 w15 h1 f0 h2 f1 h3 v92_11_3 h4 v92_11_4)) X hK hT hA h (fun sz => gX12_isIn_b0455a8 l D cy z_19 v92_11_0 ⟨by omega, by omega⟩ ⟨by omega, by omega⟩ sz) wm_6_167 wm_6_169 wm_1_12 hd_X12_isIn wm_6_168 ⟨Nat.le_of_ble_eq_true rfl, Nat.le_of_ble_eq_true rfl⟩ hl.1 rfl (Nat.le_of_ble_eq_true rfl) dX12_goesPairs_116 ⟨Nat.le_of_ble_eq_true rfl, Nat.le_of_ble_eq_true rfl⟩ [] [0, 1, 2, 3, 4] rfl rfl (by decide) rfl rfl (fun r_20 u_20 H locs w_20 h_20 => ?_)
      clear h
      obtain ⟨wr_20, _⟩ := w_20
      replace h_20 : qW D _ _ (wk_f147cc4b8 cy h0 p3 h1 w0 w1 w2 p4 p5 p6 p7 p8 p9 p10 p11 p12 p13 p14 w3 w4 w5 h2 w6 p15 p16 w7 h3 h4 v92_11_1 v92_11_2 w8 w9 w10 w11 w12 p19 w13 w14 w15 h1 f0 h2 f1 h3 v92_11_3 h4 v92_11_4) _ _ := h_20
      refine q_jn (pc2 := 190) (fun H locs ls st => ∃ v190_21_0 : Int32, ∃ v190_21_1 : Int32, ∃ v190_21_2 : Nat → Int32, ∃ v190_21_3 : Nat → Int32, ((-1) ≤ (v190_21_0).toInt ∧ (v190_21_0).toInt ≤ 10) ∧ ((-2147483648) ≤ (v190_21_1).toInt ∧ (v190_21_1).toInt ≤ 2147483647) ∧ st = [] ∧ qW D (va_A (wk_f147cc4b8 cy h0 p3 h1 w0 w1 w2 p4 p5 p6 p7 p8 p9 p10 p11 p12 p13 p14 w3 w4 w5 h2 w6 p15 p16 w7 h3 h4 p17 p18 w8 w9 w10 w11 w12 p19 w13 w14 w15 h1 f0 h2 f1 h3 f2 h4 f3) sz) s.heap (wk_f147cc4b8 cy h0 p3 h1 w0 w1 w2 p4 p5 p6 p7 p8 p9 p10 p11 p12 p13 p14 w3 w4 w5 h2 w6 p15 p16 w7 h3 h4 v190_21_0 v190_21_1 w8 w9 w10 w11 w12 p19 w13 w14 w15 h1 f0 h2 f1 h3 v190_21_2 h4 v190_21_3) H locs ∧ lv_has ls 7 [(0, .ref h0), (1, .int p0), (2, .int p1), (3, .int p2), (4, .int r_2), (5, .int z_6), (6, .int v92_11_0)]) (fun H locs ls st hP => ?_) (fun J_190 => ?_)
      · obtain ⟨v190_21_0, v190_21_1, v190_21_2, v190_21_3, hv190_21_0, hv190_21_1, rfl, h, hl⟩ := hP
        obtain ⟨z_22, ez_22, hz_22⟩ := e_add (x := v92_11_0) (y := Int32.ofInt 1) rfl (b := 1) (by decide) (by omega) (by omega)
        refine lv_iinc (v := z_22) (lv' := [(6, .int z_22), (0, .ref h0), (1, .int p0), (2, .int p1), (3, .int p2), (4, .int r_2), (5, .int z_6)]) hx hb dX12_goesPairs_190 hl (k := 6) rfl ez_22 (by decide) rfl (fun ls_22 hl_22 => ?_)
        clear hl
        refine lv_goto (tgt := 92) hx hb dX12_goesPairs_193 (by decide) ?_
        exact ih_92 (z_22, v190_21_0, v190_21_1) (by show (11 - (z_22).toInt).toNat < (11 - (v92_11_0).toInt).toNat; omega) _ _ _ ⟨v190_21_2, v190_21_3, ⟨by omega, by omega⟩, hv190_21_0, hv190_21_1, h, (lv_sub hl_22 [1, 2, 3, 4, 5, 6, 0] rfl)⟩
      · skip
        refine lv_if_ne (tgt := 125) hx hb dX12_goesPairs_119 (by decide) (fun c_23 => ?_) (fun c_23 => ?_)
        · replace c_23 := i_ne (x := r_20) (y := 0) rfl (show (0 : Int32).toInt = 0 by decide) c_23
          refine lv_aload_n hx hb dX12_goesPairs_125 rfl (lv_at hl 0 rfl) ?_
          refine q_get X hK h_20 0 rfl rfl wf_12 24 (by decide) rfl wm_5_194 dX12_goesPairs_126 ?_
          refine lv_iload hx hb dX12_goesPairs_129 (lv_at hl 4 rfl) ?_
          refine lv_iload hx hb dX12_goesPairs_131 (lv_at hl 6 rfl) ?_
          refine q_iast X hK h_20 3 rfl (i_in rfl (by omega) (by omega)) dX12_goesPairs_133 (fun H locs h_25 => ?_)
          clear h_20
          replace h_25 : qW D _ _ (wk_f147cc4b8 cy h0 p3 h1 w0 w1 w2 p4 p5 p6 p7 p8 p9 p10 p11 p12 p13 p14 w3 w4 w5 h2 w6 p15 p16 w7 h3 h4 v92_11_1 v92_11_2 w8 w9 w10 w11 w12 p19 w13 w14 w15 h1 f0 h2 f1 h3 (upd v92_11_3 (Int32.toNatClampNeg r_2) v92_11_0) h4 v92_11_4) _ _ := h_25
          obtain ⟨F_24, eF_24⟩ : ∃ z, (upd v92_11_3 (Int32.toNatClampNeg r_2) v92_11_0) = z := ⟨_, rfl⟩
          rw [eF_24] at h_25
          clear eF_24
          refine lv_aload_n hx hb dX12_goesPairs_134 rfl (lv_at hl 0 rfl) ?_
          refine q_get X hK h_25 0 rfl rfl wf_12 24 (by decide) rfl wm_5_194 dX12_goesPairs_135 ?_
          refine lv_iload hx hb dX12_goesPairs_138 (lv_at hl 6 rfl) ?_
          refine lv_iload hx hb dX12_goesPairs_140 (lv_at hl 4 rfl) ?_
          refine q_iast X hK h_25 3 rfl (i_in rfl (by omega) (by omega)) dX12_goesPairs_142 (fun H locs h_27 => ?_)
          clear h_25
          replace h_27 : qW D _ _ (wk_f147cc4b8 cy h0 p3 h1 w0 w1 w2 p4 p5 p6 p7 p8 p9 p10 p11 p12 p13 p14 w3 w4 w5 h2 w6 p15 p16 w7 h3 h4 v92_11_1 v92_11_2 w8 w9 w10 w11 w12 p19 w13 w14 w15 h1 f0 h2 f1 h3 (upd F_24 (Int32.toNatClampNeg v92_11_0) r_2) h4 v92_11_4) _ _ := h_27
          obtain ⟨F_26, eF_26⟩ : ∃ z, (upd F_24 (Int32.toNatClampNeg v92_11_0) r_2) = z := ⟨_, rfl⟩
          rw [eF_26] at h_27
          clear eF_26
          refine lv_aload_n hx hb dX12_goesPairs_143 rfl (lv_at hl 0 rfl) ?_
          refine lv_iload hx hb dX12_goesPairs_144 (lv_at hl 5 rfl) ?_
          refine lv_iconst (v := 1) hx hb dX12_goesPairs_146 (by decide) ?_
          refine lv_iload hx hb dX12_goesPairs_147 (lv_at hl 6 rfl) ?_
          refine lv_ishl hx hb dX12_goesPairs_149 ?_
          obtain ⟨z_28, ez_28, hz_28⟩ := e_shlk (p := v92_11_0) 9 (by decide) rfl (by omega) (by omega)
          refine q_c z_28 ez_28 ?_
          clear ez_28
          refine lv_iconst (v := (-1)) hx hb dX12_goesPairs_150 (by decide) ?_
          refine lv_ixor hx hb dX12_goesPairs_151 ?_
          refine q_any (fun z_29 hz_29 => ?_)
          refine lv_iand hx hb dX12_goesPairs_152 ?_
          obtain ⟨z_30, ez_30, hz_30⟩ := e_and1 (x := z_6) (y := z_29) rfl (by omega)
          refine q_c z_30 ez_30 ?_
          have ad_31 := and_div 10 (by omega) rs_7.1 ez_30
          refine lv_iload_n hx hb dX12_goesPairs_153 rfl (lv_at hl 2 rfl) ?_
          refine lv_iconst (v := 1) hx hb dX12_goesPairs_154 (by decide) ?_
          refine lv_iadd hx hb dX12_goesPairs_155 ?_
          obtain ⟨z_32, ez_32, hz_32⟩ := e_add (x := p1) (y := 1) rfl (show (1 : Int32).toInt = 1 by decide) (by omega) (by omega)
          refine q_c z_32 ez_32 ?_
          clear ez_32
          refine lv_iload_n hx hb dX12_goesPairs_156 rfl (lv_at hl 3 rfl) ?_
          refine lv_aload_n hx hb dX12_goesPairs_157 rfl (lv_at hl 0 rfl) ?_
          refine q_get X hK h_27 0 rfl rfl wf_12 1 (by decide) rfl wm_5_171 dX12_goesPairs_158 ?_
          refine lv_bipush (v := 42) hx hb dX12_goesPairs_161 (by decide) ?_
          refine lv_iload hx hb dX12_goesPairs_163 (lv_at hl 4 rfl) ?_
          refine lv_iadd hx hb dX12_goesPairs_165 ?_
          obtain ⟨z_33, ez_33, hz_33⟩ := e_add (x := 42) (y := r_2) (show (42 : Int32).toInt = 42 by decide) rfl (by omega) (by omega)
          refine q_c z_33 ez_33 ?_
          clear ez_33
          refine q_iald X hK h_27 1 rfl (i_in rfl (by omega) (by omega)) dX12_goesPairs_166 ?_
          refine q_any (fun z_34 hz_34 => ?_)
          refine lv_iadd hx hb dX12_goesPairs_167 ?_
          refine q_any (fun z_35 hz_35 => ?_)
          refine lv_aload_n hx hb dX12_goesPairs_168 rfl (lv_at hl 0 rfl) ?_
          refine q_get X hK h_27 0 rfl rfl wf_12 1 (by decide) rfl wm_5_171 dX12_goesPairs_169 ?_
          refine lv_bipush (v := 42) hx hb dX12_goesPairs_172 (by decide) ?_
          refine lv_iload hx hb dX12_goesPairs_174 (lv_at hl 6 rfl) ?_
          refine lv_iadd hx hb dX12_goesPairs_176 ?_
          obtain ⟨z_36, ez_36, hz_36⟩ := e_add (x := 42) (y := v92_11_0) (show (42 : Int32).toInt = 42 by decide) rfl (by omega) (by omega)
          refine q_c z_36 ez_36 ?_
          clear ez_36
          refine q_iald X hK h_27 1 rfl (i_in rfl (by omega) (by omega)) dX12_goesPairs_177 ?_
          refine q_any (fun z_37 hz_37 => ?_)
          refine lv_iadd hx hb dX12_goesPairs_178 ?_
          refine q_any (fun z_38 hz_38 => ?_)
          refine q_callVv (rest := []) (wr := (wk_d2b1692f1 cy h1 f0 h2 f1)) X hK hT hA h_27 (fun sz => gX12_goesPairs_aec2824 l D cy h0 h3 h4 z_30 z_32 z_38 p3 (.ref h1) w0 w1 w2 p4 p5 p6 p7 p8 p9 p10 p11 p12 p13 p14 w3 w4 w5 (.ref h2) w6 p15 p16 w7 v92_11_1 v92_11_2 w8 w9 w10 w11 w12 p19 w13 w14 w15 F_26 v92_11_4 ⟨by omega, by omega⟩ ⟨by omega, by omega⟩ (i_rng _) hp3 hp4 hp5 hp6 hp7 (i_rng _) hp9 (i_rng _) (i_rng _) (i_rng _) (i_rng _) (i_rng _) (i_rng _) (i_rng _) hv92_11_1 (i_rng _) (i_rng _) ((show _ % 1024 = 0 from ad_31)) sz) wm_7_116 wm_7_119 wm_1_12 hd_X12_goesPairs wm_7_118 wp_7_4 (ci := 12) (q0 := 0) rfl rfl ⟨Nat.le_of_ble_eq_true rfl, Nat.le_of_ble_eq_true rfl⟩ hl.1 rfl (Nat.le_of_ble_eq_true rfl) dX12_goesPairs_179 ⟨Nat.le_of_ble_eq_true rfl, Nat.le_of_ble_eq_true rfl⟩ [0, 3, 4] [1, 2] rfl rfl (by decide) rfl rfl (fun u_39 H locs w_39 h_39 => ?_)
          clear h_27
          obtain ⟨w39_0, w39_1, _⟩ := w_39
          replace h_39 : qW D _ _ (wk_5e3f1f655 cy h1 f0 h2 f1 h0 p3 h1 w0 w1 w2 p4 p5 p6 p7 p8 p9 p10 p11 p12 p13 p14 w3 w4 w5 h2 w6 p15 p16 w7 h3 h4 (u_39.2.1 0 0) (u_39.2.1 1 0) w8 w9 w10 w11 w12 p19 w13 w14 w15 h3 F_26 h4 (u_39.2.1 2)) _ _ := h_39
          refine lv_aload_n hx hb dX12_goesPairs_182 rfl (lv_at hl 0 rfl) ?_
          refine q_get X hK h_39 2 rfl rfl wf_12 24 (by decide) rfl wm_5_194 dX12_goesPairs_183 ?_
          refine lv_iload hx hb dX12_goesPairs_186 (lv_at hl 6 rfl) ?_
          refine lv_iconst (v := (-1)) hx hb dX12_goesPairs_188 (by decide) ?_
          refine q_iast X hK h_39 3 rfl (i_in rfl (by omega) (by omega)) dX12_goesPairs_189 (fun H locs h_41 => ?_)
          clear h_39
          replace h_41 : qW D _ _ (wk_5e3f1f655 cy h1 f0 h2 f1 h0 p3 h1 w0 w1 w2 p4 p5 p6 p7 p8 p9 p10 p11 p12 p13 p14 w3 w4 w5 h2 w6 p15 p16 w7 h3 h4 (u_39.2.1 0 0) (u_39.2.1 1 0) w8 w9 w10 w11 w12 p19 w13 w14 w15 h3 (upd F_26 (Int32.toNatClampNeg v92_11_0) (-1)) h4 (u_39.2.1 2)) _ _ := h_41
          obtain ⟨F_40, eF_40⟩ : ∃ z, (upd F_26 (Int32.toNatClampNeg v92_11_0) (-1)) = z := ⟨_, rfl⟩
          rw [eF_40] at h_41
          clear eF_40
          exact J_190 _ _ _ _ ⟨(u_39.2.1 0 0), (u_39.2.1 1 0), F_40, (u_39.2.1 2), w39_0, w39_1, rfl, (q_re h_41 [2, 0, 1, 3, 4] rfl rfl), (lv_sub hl [0, 1, 2, 3, 4, 5, 6] rfl)⟩
        · replace c_23 := i_eq (x := r_20) (y := 0) rfl (show (0 : Int32).toInt = 0 by decide) c_23
          refine lv_goto (tgt := 190) hx hb dX12_goesPairs_122 (by decide) ?_
          exact J_190 _ _ _ _ ⟨v92_11_1, v92_11_2, v92_11_3, v92_11_4, hv92_11_1, hv92_11_2, rfl, h_20, (lv_sub hl [0, 1, 2, 3, 4, 5, 6] rfl)⟩
  · replace c_1 := i_eq (x := p0) (y := 0) rfl (show (0 : Int32).toInt = 0 by decide) c_1
    refine lv_iload_n hx hb dX12_goesPairs_4 rfl (lv_at hl 2 rfl) ?_
    refine lv_aload_n hx hb dX12_goesPairs_5 rfl (lv_at hl 0 rfl) ?_
    refine q_get X hK h 0 rfl rfl wf_12 26 (by decide) rfl wm_5_196 dX12_goesPairs_6 ?_
    refine q_jn (pc2 := 28) (fun H locs ls st => st = [] ∧ qW D (va_A (wk_f147cc4b8 cy h0 p3 h1 w0 w1 w2 p4 p5 p6 p7 p8 p9 p10 p11 p12 p13 p14 w3 w4 w5 h2 w6 p15 p16 w7 h3 h4 p17 p18 w8 w9 w10 w11 w12 p19 w13 w14 w15 h1 f0 h2 f1 h3 f2 h4 f3) sz) s.heap (wk_f147cc4b8 cy h0 p3 h1 w0 w1 w2 p4 p5 p6 p7 p8 p9 p10 p11 p12 p13 p14 w3 w4 w5 h2 w6 p15 p16 w7 h3 h4 p17 p18 w8 w9 w10 w11 w12 p19 w13 w14 w15 h1 f0 h2 f1 h3 f2 h4 f3) H locs ∧ lv_has ls 7 [(0, .ref h0), (1, .int p0), (2, .int p1), (3, .int p2)]) (fun H locs ls st hP => ?_) (fun J_28 => ?_)
    · obtain ⟨rfl, h, hl⟩ := hP
      exact q_vret X hr hlk hK h (fun _ => 0, (vcons (fun _ => p17) (vcons (fun _ => p18) (vcons f2 (vcons f3 (fun _ => (fun _ => 0)))))), fun _ _ => 0) ⟨hp17, hp18, trivial⟩ [0, 1, 2, 3, 4] rfl rfl dX12_goesPairs_28 (Nat.le_of_ble_eq_true rfl) (Nat.le_of_ble_eq_true rfl)
    · skip
      refine lv_icmp_lt (tgt := 28) hx hb dX12_goesPairs_9 (by decide) (fun c_43 => ?_) (fun c_43 => ?_)
      · replace c_43 := i_lt (x := p1) (y := p17) rfl rfl c_43
        exact J_28 _ _ _ _ ⟨rfl, h, (lv_sub hl [0, 1, 2, 3] rfl)⟩
      · replace c_43 := i_nlt (x := p1) (y := p17) rfl rfl c_43
        refine lv_iload_n hx hb dX12_goesPairs_12 rfl (lv_at hl 2 rfl) ?_
        refine lv_aload_n hx hb dX12_goesPairs_13 rfl (lv_at hl 0 rfl) ?_
        refine q_get X hK h 0 rfl rfl wf_12 26 (by decide) rfl wm_5_196 dX12_goesPairs_14 ?_
        refine q_jn (pc2 := 29) (fun H locs ls st => st = [] ∧ qW D (va_A (wk_f147cc4b8 cy h0 p3 h1 w0 w1 w2 p4 p5 p6 p7 p8 p9 p10 p11 p12 p13 p14 w3 w4 w5 h2 w6 p15 p16 w7 h3 h4 p17 p18 w8 w9 w10 w11 w12 p19 w13 w14 w15 h1 f0 h2 f1 h3 f2 h4 f3) sz) s.heap (wk_f147cc4b8 cy h0 p3 h1 w0 w1 w2 p4 p5 p6 p7 p8 p9 p10 p11 p12 p13 p14 w3 w4 w5 h2 w6 p15 p16 w7 h3 h4 p17 p18 w8 w9 w10 w11 w12 p19 w13 w14 w15 h1 f0 h2 f1 h3 f2 h4 f3) H locs ∧ lv_has ls 7 [(0, .ref h0), (1, .int p0), (2, .int p1), (3, .int p2)]) (fun H locs ls st hP => ?_) (fun J_29 => ?_)
        · obtain ⟨rfl, h, hl⟩ := hP
          refine lv_aload_n hx hb dX12_goesPairs_29 rfl (lv_at hl 0 rfl) ?_
          refine lv_iload_n hx hb dX12_goesPairs_30 rfl (lv_at hl 2 rfl) ?_
          refine q_put (v := .int p1) X hK h 0 rfl rfl wf_12 tyX12 tyX12_ok nmX12 26 (by decide) wm_5_196 rfl rfl rfl (Nat.le_of_ble_eq_true rfl) dX12_goesPairs_31 (fun H locs h_45 => ?_)
          clear h
          replace h_45 : qW D _ _ (wk_f147cc4b8 cy h0 p3 h1 w0 w1 w2 p4 p5 p6 p7 p8 p9 p10 p11 p12 p13 p14 w3 w4 w5 h2 w6 p15 p16 w7 h3 h4 p1 p18 w8 w9 w10 w11 w12 p19 w13 w14 w15 h1 f0 h2 f1 h3 f2 h4 f3) _ _ := h_45
          refine lv_aload_n hx hb dX12_goesPairs_34 rfl (lv_at hl 0 rfl) ?_
          refine lv_iload_n hx hb dX12_goesPairs_35 rfl (lv_at hl 3 rfl) ?_
          refine q_put (v := .int p2) X hK h_45 0 rfl rfl wf_12 tyX12 tyX12_ok nmX12 27 (by decide) wm_5_197 rfl rfl rfl (Nat.le_of_ble_eq_true rfl) dX12_goesPairs_36 (fun H locs h_46 => ?_)
          clear h_45
          replace h_46 : qW D _ _ (wk_f147cc4b8 cy h0 p3 h1 w0 w1 w2 p4 p5 p6 p7 p8 p9 p10 p11 p12 p13 p14 w3 w4 w5 h2 w6 p15 p16 w7 h3 h4 p1 p2 w8 w9 w10 w11 w12 p19 w13 w14 w15 h1 f0 h2 f1 h3 f2 h4 f3) _ _ := h_46
          refine lv_iconst (v := 0) hx hb dX12_goesPairs_39 (by decide) ?_
          refine lv_istore (lv' := [(4, .int 0), (0, .ref h0), (1, .int p0), (2, .int p1), (3, .int p2)]) hx hb dX12_goesPairs_40 hl (by decide) rfl (fun ls_47 hl_47 => ?_)
          clear hl
          refine q_wl (fun (v42_48_0 : Int32) H locs ls => ∃ v42_48_1 : Nat → Int32, (0 ≤ (v42_48_0).toInt ∧ (v42_48_0).toInt ≤ 10) ∧ qW D (va_A (wk_f147cc4b8 cy h0 p3 h1 w0 w1 w2 p4 p5 p6 p7 p8 p9 p10 p11 p12 p13 p14 w3 w4 w5 h2 w6 p15 p16 w7 h3 h4 p17 p18 w8 w9 w10 w11 w12 p19 w13 w14 w15 h1 f0 h2 f1 h3 f2 h4 f3) sz) s.heap (wk_f147cc4b8 cy h0 p3 h1 w0 w1 w2 p4 p5 p6 p7 p8 p9 p10 p11 p12 p13 p14 w3 w4 w5 h2 w6 p15 p16 w7 h3 h4 p1 p2 w8 w9 w10 w11 w12 p19 w13 w14 w15 h1 f0 h2 f1 h3 f2 h4 v42_48_1) H locs ∧ lv_has ls 7 [(0, .ref h0), (1, .int p0), (2, .int p1), (3, .int p2), (4, .int v42_48_0)]) (fun (v42_48_0 : Int32) => (11 - (v42_48_0).toInt).toNat) (fun q_42 ih_42 H locs ls hP => ?_) 0 ⟨f3, ⟨by decide +kernel, by decide +kernel⟩, h_46, (lv_sub hl_47 [1, 2, 3, 4, 0] rfl)⟩
          obtain ⟨v42_48_0, rfl⟩ : ∃ z, z = q_42 := ⟨_, rfl⟩
          obtain ⟨v42_48_1, hv42_48_0, h, hl⟩ := hP
          refine lv_iload hx hb dX12_goesPairs_42 (lv_at hl 4 rfl) ?_
          refine lv_bipush (v := 10) hx hb dX12_goesPairs_44 (by decide) ?_
          refine lv_icmp_ge (tgt := 69) hx hb dX12_goesPairs_46 (by decide) (fun c_49 => ?_) (fun c_49 => ?_)
          · replace c_49 := i_le (x := 10) (y := v42_48_0) (show (10 : Int32).toInt = 10 by decide) rfl c_49
            exact q_vret X hr hlk hK h (fun _ => 0, (vcons (fun _ => p1) (vcons (fun _ => p2) (vcons f2 (vcons v42_48_1 (fun _ => (fun _ => 0)))))), fun _ _ => 0) ⟨(bw hp1 (by decide) (by decide)), hp2, trivial⟩ [0, 1, 2, 3, 4] rfl rfl dX12_goesPairs_69 (Nat.le_of_ble_eq_true rfl) (Nat.le_of_ble_eq_true rfl)
          · replace c_49 := i_nle (x := 10) (y := v42_48_0) (show (10 : Int32).toInt = 10 by decide) rfl c_49
            refine lv_aload_n hx hb dX12_goesPairs_49 rfl (lv_at hl 0 rfl) ?_
            refine q_get X hK h 0 rfl rfl wf_12 25 (by decide) rfl wm_5_195 dX12_goesPairs_50 ?_
            refine lv_iload hx hb dX12_goesPairs_53 (lv_at hl 4 rfl) ?_
            refine lv_aload_n hx hb dX12_goesPairs_55 rfl (lv_at hl 0 rfl) ?_
            refine q_get X hK h 0 rfl rfl wf_12 24 (by decide) rfl wm_5_194 dX12_goesPairs_56 ?_
            refine lv_iload hx hb dX12_goesPairs_59 (lv_at hl 4 rfl) ?_
            refine q_iald X hK h 3 rfl (i_in rfl (by omega) (by omega)) dX12_goesPairs_61 ?_
            refine q_any (fun z_50 hz_50 => ?_)
            refine q_iast X hK h 4 rfl (i_in rfl (by omega) (by omega)) dX12_goesPairs_62 (fun H locs h_52 => ?_)
            clear h
            replace h_52 : qW D _ _ (wk_f147cc4b8 cy h0 p3 h1 w0 w1 w2 p4 p5 p6 p7 p8 p9 p10 p11 p12 p13 p14 w3 w4 w5 h2 w6 p15 p16 w7 h3 h4 p1 p2 w8 w9 w10 w11 w12 p19 w13 w14 w15 h1 f0 h2 f1 h3 f2 h4 (upd v42_48_1 (Int32.toNatClampNeg v42_48_0) z_50)) _ _ := h_52
            obtain ⟨F_51, eF_51⟩ : ∃ z, (upd v42_48_1 (Int32.toNatClampNeg v42_48_0) z_50) = z := ⟨_, rfl⟩
            rw [eF_51] at h_52
            clear eF_51
            obtain ⟨z_53, ez_53, hz_53⟩ := e_add (x := v42_48_0) (y := Int32.ofInt 1) rfl (b := 1) (by decide) (by omega) (by omega)
            refine lv_iinc (v := z_53) (lv' := [(4, .int z_53), (0, .ref h0), (1, .int p0), (2, .int p1), (3, .int p2)]) hx hb dX12_goesPairs_63 hl (k := 4) rfl ez_53 (by decide) rfl (fun ls_53 hl_53 => ?_)
            clear hl
            refine lv_goto (tgt := 42) hx hb dX12_goesPairs_66 (by decide) ?_
            exact ih_42 z_53 (by show (11 - (z_53).toInt).toNat < (11 - (v42_48_0).toInt).toNat; omega) _ _ _ ⟨F_51, ⟨by omega, by omega⟩, h_52, (lv_sub hl_53 [1, 2, 3, 4, 0] rfl)⟩
        · skip
          refine lv_icmp_ne (tgt := 29) hx hb dX12_goesPairs_17 (by decide) (fun c_54 => ?_) (fun c_54 => ?_)
          · replace c_54 := i_ne (x := p1) (y := p17) rfl rfl c_54
            exact J_29 _ _ _ _ ⟨rfl, h, (lv_sub hl [0, 1, 2, 3] rfl)⟩
          · replace c_54 := i_eq (x := p1) (y := p17) rfl rfl c_54
            refine lv_iload_n hx hb dX12_goesPairs_20 rfl (lv_at hl 3 rfl) ?_
            refine lv_aload_n hx hb dX12_goesPairs_21 rfl (lv_at hl 0 rfl) ?_
            refine q_get X hK h 0 rfl rfl wf_12 27 (by decide) rfl wm_5_197 dX12_goesPairs_22 ?_
            refine lv_icmp_gt (tgt := 29) hx hb dX12_goesPairs_25 (by decide) (fun c_55 => ?_) (fun c_55 => ?_)
            · replace c_55 := i_lt (x := p18) (y := p2) rfl rfl c_55
              exact J_29 _ _ _ _ ⟨rfl, h, (lv_sub hl [0, 1, 2, 3] rfl)⟩
            · replace c_55 := i_nlt (x := p18) (y := p2) rfl rfl c_55
              exact J_28 _ _ _ _ ⟨rfl, h, (lv_sub hl [0, 1, 2, 3] rfl)⟩
set_option maxHeartbeats 4000000 in
set_option maxRecDepth 100000 in
theorem gX12_goesPairs_cec3488 (l : Launch) (D : va_G) (cy : Nat → ClassId) (h0 : Nat) (h1 : Nat) (h2 : Nat) (h3 : Nat) (h4 : Nat) (p0 : Int32) (p1 : Int32) (p2 : Int32) (p3 : Int32) (w0 : Value) (w1 : Value) (w2 : Value) (p4 : Int32) (p5 : Int32) (p6 : Int32) (p7 : Int32) (p8 : Int32) (p9 : Int32) (p10 : Int32) (p11 : Int32) (p12 : Int32) (p13 : Int32) (p14 : Int32) (w3 : Value) (w4 : Value) (w5 : Value) (w6 : Value) (p15 : Int32) (p16 : Int32) (w7 : Value) (p17 : Int32) (p18 : Int32) (w8 : Value) (w9 : Value) (w10 : Value) (w11 : Value) (w12 : Value) (p19 : Int32) (w13 : Value) (w14 : Value) (w15 : Value) (f0 : Nat → Int32) (p20 : Int32) (f1 : Nat → Int32) (f2 : Nat → Int32) (f3 : Nat → Int32) (hp0 : 0 ≤ (p0).toInt ∧ (p0).toInt ≤ 1023) (hp1 : 0 ≤ (p1).toInt ∧ (p1).toInt ≤ 8) (hp2 : (-2147483648) ≤ (p2).toInt ∧ (p2).toInt ≤ 2147483647) (hp3 : 0 ≤ (p3).toInt ∧ (p3).toInt ≤ 0) (hp4 : 0 ≤ (p4).toInt ∧ (p4).toInt ≤ 900) (hp5 : 0 ≤ (p5).toInt ∧ (p5).toInt ≤ 900) (hp6 : 0 ≤ (p6).toInt ∧ (p6).toInt ≤ 900) (hp7 : 0 ≤ (p7).toInt ∧ (p7).toInt ≤ 900) (hp8 : (-2147483648) ≤ (p8).toInt ∧ (p8).toInt ≤ 2147483647) (hp9 : 0 ≤ (p9).toInt ∧ (p9).toInt ≤ 999) (hp10 : (-2147483648) ≤ (p10).toInt ∧ (p10).toInt ≤ 2147483647) (hp11 : (-2147483648) ≤ (p11).toInt ∧ (p11).toInt ≤ 2147483647) (hp12 : (-2147483648) ≤ (p12).toInt ∧ (p12).toInt ≤ 2147483647) (hp13 : (-2147483648) ≤ (p13).toInt ∧ (p13).toInt ≤ 2147483647) (hp14 : (-2147483648) ≤ (p14).toInt ∧ (p14).toInt ≤ 2147483647) (hp15 : (-2147483648) ≤ (p15).toInt ∧ (p15).toInt ≤ 2147483647) (hp16 : (-2147483648) ≤ (p16).toInt ∧ (p16).toInt ≤ 2147483647) (hp17 : (-1) ≤ (p17).toInt ∧ (p17).toInt ≤ 10) (hp18 : (-2147483648) ≤ (p18).toInt ∧ (p18).toInt ≤ 2147483647) (hp19 : (-2147483648) ≤ (p19).toInt ∧ (p19).toInt ≤ 2147483647) (hp20 : 0 ≤ (p20).toInt ∧ (p20).toInt ≤ 10) (htf0_84 : f0 84 = p20) (rf0 : AL f0) (rf1 : RG f1 10 0 1023) (hpre0 : (p0 : Int32).toInt % 256 = 0) (sz : Nat) : MV l yX12_goesPairs cX12_goesPairs 7 { frames := 3, cells := 0, slots := 0, locals := 69 } [.ref h0, .int p0, .int p1, .int p2] D cy (wk_f147cc4b8 cy h0 p3 h1 w0 w1 w2 p4 p5 p6 p7 p8 p9 p10 p11 p12 p13 p14 w3 w4 w5 h2 w6 p15 p16 w7 h3 h4 p17 p18 w8 w9 w10 w11 w12 p19 w13 w14 w15 h1 f0 h2 f1 h3 f2 h4 f3) sz (fun u => ((-1) ≤ (u.2.1 0 0).toInt ∧ (u.2.1 0 0).toInt ≤ 10) ∧ ((-2147483648) ≤ (u.2.1 1 0).toInt ∧ (u.2.1 1 0).toInt ≤ 2147483647) ∧ True) (fun u => (wk_f147cc4b8 cy h0 p3 h1 w0 w1 w2 p4 p5 p6 p7 p8 p9 p10 p11 p12 p13 p14 w3 w4 w5 h2 w6 p15 p16 w7 h3 h4 (u.2.1 0 0) (u.2.1 1 0) w8 w9 w10 w11 w12 p19 w13 w14 w15 h1 f0 h2 f1 h3 (u.2.1 2) h4 (u.2.1 3))) 0 0 := by
  refine q_ent (own := RX12) (by decide) rfl (Nat.le_of_ble_eq_true rfl) (fun p e s m below meth c ls X hr hlk hnm hK hT h hA hl => ?_)
  obtain ⟨hx, hb, hml, hown, ht⟩ := id X
  replace hl : lv_has ls 7 [(0, .ref h0), (1, .int p0), (2, .int p1), (3, .int p2)] := hl
  refine lv_iload_n hx hb dX12_goesPairs_0 rfl (lv_at hl 1 rfl) ?_
  refine lv_if_ne (tgt := 70) hx hb dX12_goesPairs_1 (by decide) (fun c_1 => ?_) (fun c_1 => ?_)
  · replace c_1 := i_ne (x := p0) (y := 0) rfl (show (0 : Int32).toInt = 0 by decide) c_1
    refine lv_iload_n hx hb dX12_goesPairs_70 rfl (lv_at hl 1 rfl) ?_
    refine q_callSi (rest := []) (wr := (wk_f147cc4b8 cy h0 p3 h1 w0 w1 w2 p4 p5 p6 p7 p8 p9 p10 p11 p12 p13 p14 w3 w4 w5 h2 w6 p15 p16 w7 h3 h4 p17 p18 w8 w9 w10 w11 w12 p19 w13 w14 w15 h1 f0 h2 f1 h3 f2 h4 f3)) X hK hT hA h (fun sz => gX12_lowest_51df8cb l D cy p0 ⟨by omega, by omega⟩ sz) wm_7_67 wm_7_69 wm_1_12 hd_X12_lowest wm_7_68 ⟨Nat.le_of_ble_eq_true rfl, Nat.le_of_ble_eq_true rfl⟩ hl.1 rfl (Nat.le_of_ble_eq_true rfl) dX12_goesPairs_71 ⟨Nat.le_of_ble_eq_true rfl, Nat.le_of_ble_eq_true rfl⟩ [] [0, 1, 2, 3, 4] rfl rfl (by decide) rfl rfl (fun r_2 u_2 H locs w_2 h_2 => ?_)
    clear h
    obtain ⟨wr_2, y2_0, _⟩ := w_2
    replace h_2 : qW D _ _ (wk_f147cc4b8 cy h0 p3 h1 w0 w1 w2 p4 p5 p6 p7 p8 p9 p10 p11 p12 p13 p14 w3 w4 w5 h2 w6 p15 p16 w7 h3 h4 p17 p18 w8 w9 w10 w11 w12 p19 w13 w14 w15 h1 f0 h2 f1 h3 f2 h4 f3) _ _ := h_2
    refine lv_istore (lv' := [(4, .int r_2), (0, .ref h0), (1, .int p0), (2, .int p1), (3, .int p2)]) hx hb dX12_goesPairs_74 hl (by decide) rfl (fun ls_3 hl_3 => ?_)
    clear hl
    refine lv_iload_n hx hb dX12_goesPairs_76 rfl (lv_at hl_3 2 rfl) ?_
    refine lv_iconst (v := 1) hx hb dX12_goesPairs_77 (by decide) ?_
    refine lv_iload hx hb dX12_goesPairs_78 (lv_at hl_3 0 rfl) ?_
    refine lv_ishl hx hb dX12_goesPairs_80 ?_
    obtain ⟨z_4, ez_4, hz_4⟩ := e_shlk (p := r_2) 9 (by decide) rfl (by omega) (by omega)
    refine q_c z_4 ez_4 ?_
    refine lv_iconst (v := (-1)) hx hb dX12_goesPairs_81 (by decide) ?_
    refine lv_ixor hx hb dX12_goesPairs_82 ?_
    obtain ⟨z_5, ez_5, hz_5⟩ := e_any (z_4 ^^^ (-1))
    refine q_c z_5 ez_5 ?_
    refine lv_iand hx hb dX12_goesPairs_83 ?_
    obtain ⟨z_6, ez_6, hz_6⟩ := e_and1 (x := p0) (y := z_5) rfl (by omega)
    refine q_c z_6 ez_6 ?_
    have rs_7 := rest_low 8 (by omega) y2_0 (by omega) ez_4 ez_5 ez_6
    refine lv_istore (lv' := [(5, .int z_6), (4, .int r_2), (0, .ref h0), (1, .int p0), (2, .int p1), (3, .int p2)]) hx hb dX12_goesPairs_84 hl_3 (by decide) rfl (fun ls_8 hl_8 => ?_)
    clear hl_3
    refine lv_iload hx hb dX12_goesPairs_86 (lv_at hl_8 1 rfl) ?_
    refine lv_iconst (v := 1) hx hb dX12_goesPairs_88 (by decide) ?_
    refine lv_iadd hx hb dX12_goesPairs_89 ?_
    obtain ⟨z_9, ez_9, hz_9⟩ := e_add (x := r_2) (y := 1) rfl (show (1 : Int32).toInt = 1 by decide) (by omega) (by omega)
    refine q_c z_9 ez_9 ?_
    clear ez_9
    refine lv_istore (lv' := [(6, .int z_9), (5, .int z_6), (4, .int r_2), (0, .ref h0), (1, .int p0), (2, .int p1), (3, .int p2)]) hx hb dX12_goesPairs_90 hl_8 (by decide) rfl (fun ls_10 hl_10 => ?_)
    clear hl_8
    refine q_wl (fun (q : Int32 × Int32 × Int32) H locs ls => match q with | (v92_11_0, v92_11_1, v92_11_2) => ∃ v92_11_3 : Nat → Int32, ∃ v92_11_4 : Nat → Int32, (1 ≤ (v92_11_0).toInt ∧ (v92_11_0).toInt ≤ 10) ∧ ((-1) ≤ (v92_11_1).toInt ∧ (v92_11_1).toInt ≤ 10) ∧ ((-2147483648) ≤ (v92_11_2).toInt ∧ (v92_11_2).toInt ≤ 2147483647) ∧ qW D (va_A (wk_f147cc4b8 cy h0 p3 h1 w0 w1 w2 p4 p5 p6 p7 p8 p9 p10 p11 p12 p13 p14 w3 w4 w5 h2 w6 p15 p16 w7 h3 h4 p17 p18 w8 w9 w10 w11 w12 p19 w13 w14 w15 h1 f0 h2 f1 h3 f2 h4 f3) sz) s.heap (wk_f147cc4b8 cy h0 p3 h1 w0 w1 w2 p4 p5 p6 p7 p8 p9 p10 p11 p12 p13 p14 w3 w4 w5 h2 w6 p15 p16 w7 h3 h4 v92_11_1 v92_11_2 w8 w9 w10 w11 w12 p19 w13 w14 w15 h1 f0 h2 f1 h3 v92_11_3 h4 v92_11_4) H locs ∧ lv_has ls 7 [(0, .ref h0), (1, .int p0), (2, .int p1), (3, .int p2), (4, .int r_2), (5, .int z_6), (6, .int v92_11_0)]) (fun (q : Int32 × Int32 × Int32) => match q with | (v92_11_0, v92_11_1, v92_11_2) => (11 - (v92_11_0).toInt).toNat) (fun q_92 ih_92 H locs ls hP => ?_) (z_9, p17, p18) ⟨f2, f3, ⟨by omega, by omega⟩, hp17, hp18, h_2, (lv_sub hl_10 [3, 4, 5, 6, 2, 1, 0] rfl)⟩
    obtain ⟨v92_11_0, v92_11_1, v92_11_2⟩ := q_92
    obtain ⟨v92_11_3, v92_11_4, hv92_11_0, hv92_11_1, hv92_11_2, h, hl⟩ := hP
    refine lv_iload hx hb dX12_goesPairs_92 (lv_at hl 6 rfl) ?_
    refine lv_aload_n hx hb dX12_goesPairs_94 rfl (lv_at hl 0 rfl) ?_
    refine q_get X hK h 0 rfl rfl wf_12 1 (by decide) rfl wm_5_171 dX12_goesPairs_95 ?_
    refine lv_iconst (v := 2) hx hb dX12_goesPairs_98 (by decide) ?_
    refine q_iald X hK h 1 rfl (q_in (by decide +kernel)) dX12_goesPairs_99 ?_
    obtain ⟨z_12, ez_12, hz_12⟩ := al_P rf0 (x := 2) (show (2 : Int32).toInt = 2 by decide) (by omega) (by omega)
    refine q_c z_12 ez_12 ?_
    clear ez_12
    refine lv_icmp_ge (tgt := 196) hx hb dX12_goesPairs_100 (by decide) (fun c_13 => ?_) (fun c_13 => ?_)
    · replace c_13 := i_le (x := z_12) (y := v92_11_0) rfl rfl c_13
      refine lv_aload_n hx hb dX12_goesPairs_196 rfl (lv_at hl 0 rfl) ?_
      refine q_get X hK h 0 rfl rfl wf_12 24 (by decide) rfl wm_5_194 dX12_goesPairs_197 ?_
      refine lv_iload hx hb dX12_goesPairs_200 (lv_at hl 4 rfl) ?_
      refine lv_iconst (v := (-1)) hx hb dX12_goesPairs_202 (by decide) ?_
      refine q_iast X hK h 3 rfl (i_in rfl (by omega) (by omega)) dX12_goesPairs_203 (fun H locs h_15 => ?_)
      clear h
      replace h_15 : qW D _ _ (wk_f147cc4b8 cy h0 p3 h1 w0 w1 w2 p4 p5 p6 p7 p8 p9 p10 p11 p12 p13 p14 w3 w4 w5 h2 w6 p15 p16 w7 h3 h4 v92_11_1 v92_11_2 w8 w9 w10 w11 w12 p19 w13 w14 w15 h1 f0 h2 f1 h3 (upd v92_11_3 (Int32.toNatClampNeg r_2) (-1)) h4 v92_11_4) _ _ := h_15
      obtain ⟨F_14, eF_14⟩ : ∃ z, (upd v92_11_3 (Int32.toNatClampNeg r_2) (-1)) = z := ⟨_, rfl⟩
      rw [eF_14] at h_15
      clear eF_14
      refine lv_aload_n hx hb dX12_goesPairs_204 rfl (lv_at hl 0 rfl) ?_
      refine lv_iload hx hb dX12_goesPairs_205 (lv_at hl 5 rfl) ?_
      refine lv_iload_n hx hb dX12_goesPairs_207 rfl (lv_at hl 2 rfl) ?_
      refine lv_iload_n hx hb dX12_goesPairs_208 rfl (lv_at hl 3 rfl) ?_
      refine q_callVv (rest := []) (wr := []) X hK hT hA h_15 (fun sz => gX12_goesPairs_b37398b l D cy h0 h1 h2 h3 h4 z_6 p1 p2 p3 w0 w1 w2 p4 p5 p6 p7 p8 p9 p10 p11 p12 p13 p14 w3 w4 w5 w6 p15 p16 w7 v92_11_1 v92_11_2 w8 w9 w10 w11 w12 p19 w13 w14 w15 f0 p20 f1 F_14 v92_11_4 ⟨by omega, by omega⟩ (bw hp1 (by decide) (by decide)) (i_rng _) hp3 hp4 hp5 hp6 hp7 (i_rng _) hp9 (i_rng _) (i_rng _) (i_rng _) (i_rng _) (i_rng _) (i_rng _) (i_rng _) hv92_11_1 (i_rng _) (i_rng _) hp20 htf0_84 rf0 (rg_wide rf1 (by decide) (by decide)) ((show _ % 512 = 0 from rs_7.1)) sz) wm_7_116 wm_7_119 wm_1_12 hd_X12_goesPairs wm_7_118 wp_7_4 (ci := 12) (q0 := 0) rfl rfl ⟨Nat.le_of_ble_eq_true rfl, Nat.le_of_ble_eq_true rfl⟩ hl.1 rfl (Nat.le_of_ble_eq_true rfl) dX12_goesPairs_209 ⟨Nat.le_of_ble_eq_true rfl, Nat.le_of_ble_eq_true rfl⟩ [0, 1, 2, 3, 4] [] rfl rfl (by decide) rfl rfl (fun u_16 H locs w_16 h_16 => ?_)
      clear h_15
      obtain ⟨w16_0, w16_1, _⟩ := w_16
      replace h_16 : qW D _ _ (wk_f147cc4b8 cy h0 p3 h1 w0 w1 w2 p4 p5 p6 p7 p8 p9 p10 p11 p12 p13 p14 w3 w4 w5 h2 w6 p15 p16 w7 h3 h4 (u_16.2.1 0 0) (u_16.2.1 1 0) w8 w9 w10 w11 w12 p19 w13 w14 w15 h1 f0 h2 f1 h3 (u_16.2.1 2) h4 (u_16.2.1 3)) _ _ := h_16
      exact q_vret X hr hlk hK h_16 (fun _ => 0, (vcons (fun _ => (u_16.2.1 0 0)) (vcons (fun _ => (u_16.2.1 1 0)) (vcons (u_16.2.1 2) (vcons (u_16.2.1 3) (fun _ => (fun _ => 0)))))), fun _ _ => 0) ⟨w16_0, w16_1, trivial⟩ [0, 1, 2, 3, 4] rfl rfl dX12_goesPairs_212 (Nat.le_of_ble_eq_true rfl) (Nat.le_of_ble_eq_true rfl)
    · replace c_13 := i_nle (x := z_12) (y := v92_11_0) rfl rfl c_13
      refine lv_iload hx hb dX12_goesPairs_103 (lv_at hl 5 rfl) ?_
      refine lv_aload_n hx hb dX12_goesPairs_105 rfl (lv_at hl 0 rfl) ?_
      refine q_get X hK h 0 rfl rfl wf_12 19 (by decide) rfl wm_5_189 dX12_goesPairs_106 ?_
      refine lv_iload hx hb dX12_goesPairs_109 (lv_at hl 4 rfl) ?_
      refine q_iald X hK h 2 rfl (i_in rfl (by omega) (by omega)) dX12_goesPairs_111 ?_
      obtain ⟨z_17, ez_17, hz_17⟩ := rg_get rf1 (x := r_2) rfl (by omega) (by omega)
      refine q_c z_17 ez_17 ?_
      clear ez_17
      refine lv_iand hx hb dX12_goesPairs_112 ?_
      obtain ⟨z_18, ez_18, hz_18⟩ := e_and2 (x := z_6) (y := z_17) rfl (by omega)
      refine q_c z_18 ez_18 ?_
      clear ez_18
      refine lv_i2l hx hb dX12_goesPairs_113 rfl ?_
      obtain ⟨z_19, ez_19, hz_19⟩ := e_i2l (x := z_18) rfl
      refine q_cl z_19 ez_19 ?_
      clear ez_19
      refine lv_iload hx hb dX12_goesPairs_114 (lv_at hl 6 rfl) ?_
      refine q_callSi (rest := []) (wr := (wk_f147cc4b8 cy h0 p3 h1 w0 w1 w2 p4 p5 p6 p7 p8 p9 p10 p11 p12 p13 p14 w3 w4 w5 h2 w6 p15 p16 w7 h3 h4 v92_11_1 v92_11_2 w8 w9 w10 w11 w12 p19 w13 w14 w15 h1 f0 h2 f1 h3 v92_11_3 h4 v92_11_4)) X hK hT hA h (fun sz => gX12_isIn_b0455a8 l D cy z_19 v92_11_0 ⟨by omega, by omega⟩ ⟨by omega, by omega⟩ sz) wm_6_167 wm_6_169 wm_1_12 hd_X12_isIn wm_6_168 ⟨Nat.le_of_ble_eq_true rfl, Nat.le_of_ble_eq_true rfl⟩ hl.1 rfl (Nat.le_of_ble_eq_true rfl) dX12_goesPairs_116 ⟨Nat.le_of_ble_eq_true rfl, Nat.le_of_ble_eq_true rfl⟩ [] [0, 1, 2, 3, 4] rfl rfl (by decide) rfl rfl (fun r_20 u_20 H locs w_20 h_20 => ?_)
      clear h
      obtain ⟨wr_20, _⟩ := w_20
      replace h_20 : qW D _ _ (wk_f147cc4b8 cy h0 p3 h1 w0 w1 w2 p4 p5 p6 p7 p8 p9 p10 p11 p12 p13 p14 w3 w4 w5 h2 w6 p15 p16 w7 h3 h4 v92_11_1 v92_11_2 w8 w9 w10 w11 w12 p19 w13 w14 w15 h1 f0 h2 f1 h3 v92_11_3 h4 v92_11_4) _ _ := h_20
      refine q_jn (pc2 := 190) (fun H locs ls st => ∃ v190_21_0 : Int32, ∃ v190_21_1 : Int32, ∃ v190_21_2 : Nat → Int32, ∃ v190_21_3 : Nat → Int32, ((-1) ≤ (v190_21_0).toInt ∧ (v190_21_0).toInt ≤ 10) ∧ ((-2147483648) ≤ (v190_21_1).toInt ∧ (v190_21_1).toInt ≤ 2147483647) ∧ st = [] ∧ qW D (va_A (wk_f147cc4b8 cy h0 p3 h1 w0 w1 w2 p4 p5 p6 p7 p8 p9 p10 p11 p12 p13 p14 w3 w4 w5 h2 w6 p15 p16 w7 h3 h4 p17 p18 w8 w9 w10 w11 w12 p19 w13 w14 w15 h1 f0 h2 f1 h3 f2 h4 f3) sz) s.heap (wk_f147cc4b8 cy h0 p3 h1 w0 w1 w2 p4 p5 p6 p7 p8 p9 p10 p11 p12 p13 p14 w3 w4 w5 h2 w6 p15 p16 w7 h3 h4 v190_21_0 v190_21_1 w8 w9 w10 w11 w12 p19 w13 w14 w15 h1 f0 h2 f1 h3 v190_21_2 h4 v190_21_3) H locs ∧ lv_has ls 7 [(0, .ref h0), (1, .int p0), (2, .int p1), (3, .int p2), (4, .int r_2), (5, .int z_6), (6, .int v92_11_0)]) (fun H locs ls st hP => ?_) (fun J_190 => ?_)
      · obtain ⟨v190_21_0, v190_21_1, v190_21_2, v190_21_3, hv190_21_0, hv190_21_1, rfl, h, hl⟩ := hP
        obtain ⟨z_22, ez_22, hz_22⟩ := e_add (x := v92_11_0) (y := Int32.ofInt 1) rfl (b := 1) (by decide) (by omega) (by omega)
        refine lv_iinc (v := z_22) (lv' := [(6, .int z_22), (0, .ref h0), (1, .int p0), (2, .int p1), (3, .int p2), (4, .int r_2), (5, .int z_6)]) hx hb dX12_goesPairs_190 hl (k := 6) rfl ez_22 (by decide) rfl (fun ls_22 hl_22 => ?_)
        clear hl
        refine lv_goto (tgt := 92) hx hb dX12_goesPairs_193 (by decide) ?_
        exact ih_92 (z_22, v190_21_0, v190_21_1) (by show (11 - (z_22).toInt).toNat < (11 - (v92_11_0).toInt).toNat; omega) _ _ _ ⟨v190_21_2, v190_21_3, ⟨by omega, by omega⟩, hv190_21_0, hv190_21_1, h, (lv_sub hl_22 [1, 2, 3, 4, 5, 6, 0] rfl)⟩
      · skip
        refine lv_if_ne (tgt := 125) hx hb dX12_goesPairs_119 (by decide) (fun c_23 => ?_) (fun c_23 => ?_)
        · replace c_23 := i_ne (x := r_20) (y := 0) rfl (show (0 : Int32).toInt = 0 by decide) c_23
          refine lv_aload_n hx hb dX12_goesPairs_125 rfl (lv_at hl 0 rfl) ?_
          refine q_get X hK h_20 0 rfl rfl wf_12 24 (by decide) rfl wm_5_194 dX12_goesPairs_126 ?_
          refine lv_iload hx hb dX12_goesPairs_129 (lv_at hl 4 rfl) ?_
          refine lv_iload hx hb dX12_goesPairs_131 (lv_at hl 6 rfl) ?_
          refine q_iast X hK h_20 3 rfl (i_in rfl (by omega) (by omega)) dX12_goesPairs_133 (fun H locs h_25 => ?_)
          clear h_20
          replace h_25 : qW D _ _ (wk_f147cc4b8 cy h0 p3 h1 w0 w1 w2 p4 p5 p6 p7 p8 p9 p10 p11 p12 p13 p14 w3 w4 w5 h2 w6 p15 p16 w7 h3 h4 v92_11_1 v92_11_2 w8 w9 w10 w11 w12 p19 w13 w14 w15 h1 f0 h2 f1 h3 (upd v92_11_3 (Int32.toNatClampNeg r_2) v92_11_0) h4 v92_11_4) _ _ := h_25
          obtain ⟨F_24, eF_24⟩ : ∃ z, (upd v92_11_3 (Int32.toNatClampNeg r_2) v92_11_0) = z := ⟨_, rfl⟩
          rw [eF_24] at h_25
          clear eF_24
          refine lv_aload_n hx hb dX12_goesPairs_134 rfl (lv_at hl 0 rfl) ?_
          refine q_get X hK h_25 0 rfl rfl wf_12 24 (by decide) rfl wm_5_194 dX12_goesPairs_135 ?_
          refine lv_iload hx hb dX12_goesPairs_138 (lv_at hl 6 rfl) ?_
          refine lv_iload hx hb dX12_goesPairs_140 (lv_at hl 4 rfl) ?_
          refine q_iast X hK h_25 3 rfl (i_in rfl (by omega) (by omega)) dX12_goesPairs_142 (fun H locs h_27 => ?_)
          clear h_25
          replace h_27 : qW D _ _ (wk_f147cc4b8 cy h0 p3 h1 w0 w1 w2 p4 p5 p6 p7 p8 p9 p10 p11 p12 p13 p14 w3 w4 w5 h2 w6 p15 p16 w7 h3 h4 v92_11_1 v92_11_2 w8 w9 w10 w11 w12 p19 w13 w14 w15 h1 f0 h2 f1 h3 (upd F_24 (Int32.toNatClampNeg v92_11_0) r_2) h4 v92_11_4) _ _ := h_27
          obtain ⟨F_26, eF_26⟩ : ∃ z, (upd F_24 (Int32.toNatClampNeg v92_11_0) r_2) = z := ⟨_, rfl⟩
          rw [eF_26] at h_27
          clear eF_26
          refine lv_aload_n hx hb dX12_goesPairs_143 rfl (lv_at hl 0 rfl) ?_
          refine lv_iload hx hb dX12_goesPairs_144 (lv_at hl 5 rfl) ?_
          refine lv_iconst (v := 1) hx hb dX12_goesPairs_146 (by decide) ?_
          refine lv_iload hx hb dX12_goesPairs_147 (lv_at hl 6 rfl) ?_
          refine lv_ishl hx hb dX12_goesPairs_149 ?_
          obtain ⟨z_28, ez_28, hz_28⟩ := e_shlk (p := v92_11_0) 9 (by decide) rfl (by omega) (by omega)
          refine q_c z_28 ez_28 ?_
          clear ez_28
          refine lv_iconst (v := (-1)) hx hb dX12_goesPairs_150 (by decide) ?_
          refine lv_ixor hx hb dX12_goesPairs_151 ?_
          refine q_any (fun z_29 hz_29 => ?_)
          refine lv_iand hx hb dX12_goesPairs_152 ?_
          obtain ⟨z_30, ez_30, hz_30⟩ := e_and1 (x := z_6) (y := z_29) rfl (by omega)
          refine q_c z_30 ez_30 ?_
          have ad_31 := and_div 9 (by omega) rs_7.1 ez_30
          refine lv_iload_n hx hb dX12_goesPairs_153 rfl (lv_at hl 2 rfl) ?_
          refine lv_iconst (v := 1) hx hb dX12_goesPairs_154 (by decide) ?_
          refine lv_iadd hx hb dX12_goesPairs_155 ?_
          obtain ⟨z_32, ez_32, hz_32⟩ := e_add (x := p1) (y := 1) rfl (show (1 : Int32).toInt = 1 by decide) (by omega) (by omega)
          refine q_c z_32 ez_32 ?_
          clear ez_32
          refine lv_iload_n hx hb dX12_goesPairs_156 rfl (lv_at hl 3 rfl) ?_
          refine lv_aload_n hx hb dX12_goesPairs_157 rfl (lv_at hl 0 rfl) ?_
          refine q_get X hK h_27 0 rfl rfl wf_12 1 (by decide) rfl wm_5_171 dX12_goesPairs_158 ?_
          refine lv_bipush (v := 42) hx hb dX12_goesPairs_161 (by decide) ?_
          refine lv_iload hx hb dX12_goesPairs_163 (lv_at hl 4 rfl) ?_
          refine lv_iadd hx hb dX12_goesPairs_165 ?_
          obtain ⟨z_33, ez_33, hz_33⟩ := e_add (x := 42) (y := r_2) (show (42 : Int32).toInt = 42 by decide) rfl (by omega) (by omega)
          refine q_c z_33 ez_33 ?_
          clear ez_33
          refine q_iald X hK h_27 1 rfl (i_in rfl (by omega) (by omega)) dX12_goesPairs_166 ?_
          refine q_any (fun z_34 hz_34 => ?_)
          refine lv_iadd hx hb dX12_goesPairs_167 ?_
          refine q_any (fun z_35 hz_35 => ?_)
          refine lv_aload_n hx hb dX12_goesPairs_168 rfl (lv_at hl 0 rfl) ?_
          refine q_get X hK h_27 0 rfl rfl wf_12 1 (by decide) rfl wm_5_171 dX12_goesPairs_169 ?_
          refine lv_bipush (v := 42) hx hb dX12_goesPairs_172 (by decide) ?_
          refine lv_iload hx hb dX12_goesPairs_174 (lv_at hl 6 rfl) ?_
          refine lv_iadd hx hb dX12_goesPairs_176 ?_
          obtain ⟨z_36, ez_36, hz_36⟩ := e_add (x := 42) (y := v92_11_0) (show (42 : Int32).toInt = 42 by decide) rfl (by omega) (by omega)
          refine q_c z_36 ez_36 ?_
          clear ez_36
          refine q_iald X hK h_27 1 rfl (i_in rfl (by omega) (by omega)) dX12_goesPairs_177 ?_
          refine q_any (fun z_37 hz_37 => ?_)
          refine lv_iadd hx hb dX12_goesPairs_178 ?_
          refine q_any (fun z_38 hz_38 => ?_)
          refine q_callVv (rest := []) (wr := []) X hK hT hA h_27 (fun sz => gX12_goesPairs_b37398b l D cy h0 h1 h2 h3 h4 z_30 z_32 z_38 p3 w0 w1 w2 p4 p5 p6 p7 p8 p9 p10 p11 p12 p13 p14 w3 w4 w5 w6 p15 p16 w7 v92_11_1 v92_11_2 w8 w9 w10 w11 w12 p19 w13 w14 w15 f0 p20 f1 F_26 v92_11_4 ⟨by omega, by omega⟩ ⟨by omega, by omega⟩ (i_rng _) hp3 hp4 hp5 hp6 hp7 (i_rng _) hp9 (i_rng _) (i_rng _) (i_rng _) (i_rng _) (i_rng _) (i_rng _) (i_rng _) hv92_11_1 (i_rng _) (i_rng _) hp20 htf0_84 rf0 (rg_wide rf1 (by decide) (by decide)) ((show _ % 512 = 0 from ad_31)) sz) wm_7_116 wm_7_119 wm_1_12 hd_X12_goesPairs wm_7_118 wp_7_4 (ci := 12) (q0 := 0) rfl rfl ⟨Nat.le_of_ble_eq_true rfl, Nat.le_of_ble_eq_true rfl⟩ hl.1 rfl (Nat.le_of_ble_eq_true rfl) dX12_goesPairs_179 ⟨Nat.le_of_ble_eq_true rfl, Nat.le_of_ble_eq_true rfl⟩ [0, 1, 2, 3, 4] [] rfl rfl (by decide) rfl rfl (fun u_39 H locs w_39 h_39 => ?_)
          clear h_27
          obtain ⟨w39_0, w39_1, _⟩ := w_39
          replace h_39 : qW D _ _ (wk_f147cc4b8 cy h0 p3 h1 w0 w1 w2 p4 p5 p6 p7 p8 p9 p10 p11 p12 p13 p14 w3 w4 w5 h2 w6 p15 p16 w7 h3 h4 (u_39.2.1 0 0) (u_39.2.1 1 0) w8 w9 w10 w11 w12 p19 w13 w14 w15 h1 f0 h2 f1 h3 (u_39.2.1 2) h4 (u_39.2.1 3)) _ _ := h_39
          refine lv_aload_n hx hb dX12_goesPairs_182 rfl (lv_at hl 0 rfl) ?_
          refine q_get X hK h_39 0 rfl rfl wf_12 24 (by decide) rfl wm_5_194 dX12_goesPairs_183 ?_
          refine lv_iload hx hb dX12_goesPairs_186 (lv_at hl 6 rfl) ?_
          refine lv_iconst (v := (-1)) hx hb dX12_goesPairs_188 (by decide) ?_
          refine q_iast X hK h_39 3 rfl (i_in rfl (by omega) (by omega)) dX12_goesPairs_189 (fun H locs h_41 => ?_)
          clear h_39
          replace h_41 : qW D _ _ (wk_f147cc4b8 cy h0 p3 h1 w0 w1 w2 p4 p5 p6 p7 p8 p9 p10 p11 p12 p13 p14 w3 w4 w5 h2 w6 p15 p16 w7 h3 h4 (u_39.2.1 0 0) (u_39.2.1 1 0) w8 w9 w10 w11 w12 p19 w13 w14 w15 h1 f0 h2 f1 h3 (upd (u_39.2.1 2) (Int32.toNatClampNeg v92_11_0) (-1)) h4 (u_39.2.1 3)) _ _ := h_41
          obtain ⟨F_40, eF_40⟩ : ∃ z, (upd (u_39.2.1 2) (Int32.toNatClampNeg v92_11_0) (-1)) = z := ⟨_, rfl⟩
          rw [eF_40] at h_41
          clear eF_40
          exact J_190 _ _ _ _ ⟨(u_39.2.1 0 0), (u_39.2.1 1 0), F_40, (u_39.2.1 3), w39_0, w39_1, rfl, h_41, (lv_sub hl [0, 1, 2, 3, 4, 5, 6] rfl)⟩
        · replace c_23 := i_eq (x := r_20) (y := 0) rfl (show (0 : Int32).toInt = 0 by decide) c_23
          refine lv_goto (tgt := 190) hx hb dX12_goesPairs_122 (by decide) ?_
          exact J_190 _ _ _ _ ⟨v92_11_1, v92_11_2, v92_11_3, v92_11_4, hv92_11_1, hv92_11_2, rfl, h_20, (lv_sub hl [0, 1, 2, 3, 4, 5, 6] rfl)⟩
  · replace c_1 := i_eq (x := p0) (y := 0) rfl (show (0 : Int32).toInt = 0 by decide) c_1
    refine lv_iload_n hx hb dX12_goesPairs_4 rfl (lv_at hl 2 rfl) ?_
    refine lv_aload_n hx hb dX12_goesPairs_5 rfl (lv_at hl 0 rfl) ?_
    refine q_get X hK h 0 rfl rfl wf_12 26 (by decide) rfl wm_5_196 dX12_goesPairs_6 ?_
    refine q_jn (pc2 := 28) (fun H locs ls st => st = [] ∧ qW D (va_A (wk_f147cc4b8 cy h0 p3 h1 w0 w1 w2 p4 p5 p6 p7 p8 p9 p10 p11 p12 p13 p14 w3 w4 w5 h2 w6 p15 p16 w7 h3 h4 p17 p18 w8 w9 w10 w11 w12 p19 w13 w14 w15 h1 f0 h2 f1 h3 f2 h4 f3) sz) s.heap (wk_f147cc4b8 cy h0 p3 h1 w0 w1 w2 p4 p5 p6 p7 p8 p9 p10 p11 p12 p13 p14 w3 w4 w5 h2 w6 p15 p16 w7 h3 h4 p17 p18 w8 w9 w10 w11 w12 p19 w13 w14 w15 h1 f0 h2 f1 h3 f2 h4 f3) H locs ∧ lv_has ls 7 [(0, .ref h0), (1, .int p0), (2, .int p1), (3, .int p2)]) (fun H locs ls st hP => ?_) (fun J_28 => ?_)
    · obtain ⟨rfl, h, hl⟩ := hP
      exact q_vret X hr hlk hK h (fun _ => 0, (vcons (fun _ => p17) (vcons (fun _ => p18) (vcons f2 (vcons f3 (fun _ => (fun _ => 0)))))), fun _ _ => 0) ⟨hp17, hp18, trivial⟩ [0, 1, 2, 3, 4] rfl rfl dX12_goesPairs_28 (Nat.le_of_ble_eq_true rfl) (Nat.le_of_ble_eq_true rfl)
    · skip
      refine lv_icmp_lt (tgt := 28) hx hb dX12_goesPairs_9 (by decide) (fun c_43 => ?_) (fun c_43 => ?_)
      · replace c_43 := i_lt (x := p1) (y := p17) rfl rfl c_43
        exact J_28 _ _ _ _ ⟨rfl, h, (lv_sub hl [0, 1, 2, 3] rfl)⟩
      · replace c_43 := i_nlt (x := p1) (y := p17) rfl rfl c_43
        refine lv_iload_n hx hb dX12_goesPairs_12 rfl (lv_at hl 2 rfl) ?_
        refine lv_aload_n hx hb dX12_goesPairs_13 rfl (lv_at hl 0 rfl) ?_
        refine q_get X hK h 0 rfl rfl wf_12 26 (by decide) rfl wm_5_196 dX12_goesPairs_14 ?_
        refine q_jn (pc2 := 29) (fun H locs ls st => st = [] ∧ qW D (va_A (wk_f147cc4b8 cy h0 p3 h1 w0 w1 w2 p4 p5 p6 p7 p8 p9 p10 p11 p12 p13 p14 w3 w4 w5 h2 w6 p15 p16 w7 h3 h4 p17 p18 w8 w9 w10 w11 w12 p19 w13 w14 w15 h1 f0 h2 f1 h3 f2 h4 f3) sz) s.heap (wk_f147cc4b8 cy h0 p3 h1 w0 w1 w2 p4 p5 p6 p7 p8 p9 p10 p11 p12 p13 p14 w3 w4 w5 h2 w6 p15 p16 w7 h3 h4 p17 p18 w8 w9 w10 w11 w12 p19 w13 w14 w15 h1 f0 h2 f1 h3 f2 h4 f3) H locs ∧ lv_has ls 7 [(0, .ref h0), (1, .int p0), (2, .int p1), (3, .int p2)]) (fun H locs ls st hP => ?_) (fun J_29 => ?_)
        · obtain ⟨rfl, h, hl⟩ := hP
          refine lv_aload_n hx hb dX12_goesPairs_29 rfl (lv_at hl 0 rfl) ?_
          refine lv_iload_n hx hb dX12_goesPairs_30 rfl (lv_at hl 2 rfl) ?_
          refine q_put (v := .int p1) X hK h 0 rfl rfl wf_12 tyX12 tyX12_ok nmX12 26 (by decide) wm_5_196 rfl rfl rfl (Nat.le_of_ble_eq_true rfl) dX12_goesPairs_31 (fun H locs h_45 => ?_)
          clear h
          replace h_45 : qW D _ _ (wk_f147cc4b8 cy h0 p3 h1 w0 w1 w2 p4 p5 p6 p7 p8 p9 p10 p11 p12 p13 p14 w3 w4 w5 h2 w6 p15 p16 w7 h3 h4 p1 p18 w8 w9 w10 w11 w12 p19 w13 w14 w15 h1 f0 h2 f1 h3 f2 h4 f3) _ _ := h_45
          refine lv_aload_n hx hb dX12_goesPairs_34 rfl (lv_at hl 0 rfl) ?_
          refine lv_iload_n hx hb dX12_goesPairs_35 rfl (lv_at hl 3 rfl) ?_
          refine q_put (v := .int p2) X hK h_45 0 rfl rfl wf_12 tyX12 tyX12_ok nmX12 27 (by decide) wm_5_197 rfl rfl rfl (Nat.le_of_ble_eq_true rfl) dX12_goesPairs_36 (fun H locs h_46 => ?_)
          clear h_45
          replace h_46 : qW D _ _ (wk_f147cc4b8 cy h0 p3 h1 w0 w1 w2 p4 p5 p6 p7 p8 p9 p10 p11 p12 p13 p14 w3 w4 w5 h2 w6 p15 p16 w7 h3 h4 p1 p2 w8 w9 w10 w11 w12 p19 w13 w14 w15 h1 f0 h2 f1 h3 f2 h4 f3) _ _ := h_46
          refine lv_iconst (v := 0) hx hb dX12_goesPairs_39 (by decide) ?_
          refine lv_istore (lv' := [(4, .int 0), (0, .ref h0), (1, .int p0), (2, .int p1), (3, .int p2)]) hx hb dX12_goesPairs_40 hl (by decide) rfl (fun ls_47 hl_47 => ?_)
          clear hl
          refine q_wl (fun (v42_48_0 : Int32) H locs ls => ∃ v42_48_1 : Nat → Int32, (0 ≤ (v42_48_0).toInt ∧ (v42_48_0).toInt ≤ 10) ∧ qW D (va_A (wk_f147cc4b8 cy h0 p3 h1 w0 w1 w2 p4 p5 p6 p7 p8 p9 p10 p11 p12 p13 p14 w3 w4 w5 h2 w6 p15 p16 w7 h3 h4 p17 p18 w8 w9 w10 w11 w12 p19 w13 w14 w15 h1 f0 h2 f1 h3 f2 h4 f3) sz) s.heap (wk_f147cc4b8 cy h0 p3 h1 w0 w1 w2 p4 p5 p6 p7 p8 p9 p10 p11 p12 p13 p14 w3 w4 w5 h2 w6 p15 p16 w7 h3 h4 p1 p2 w8 w9 w10 w11 w12 p19 w13 w14 w15 h1 f0 h2 f1 h3 f2 h4 v42_48_1) H locs ∧ lv_has ls 7 [(0, .ref h0), (1, .int p0), (2, .int p1), (3, .int p2), (4, .int v42_48_0)]) (fun (v42_48_0 : Int32) => (11 - (v42_48_0).toInt).toNat) (fun q_42 ih_42 H locs ls hP => ?_) 0 ⟨f3, ⟨by decide +kernel, by decide +kernel⟩, h_46, (lv_sub hl_47 [1, 2, 3, 4, 0] rfl)⟩
          obtain ⟨v42_48_0, rfl⟩ : ∃ z, z = q_42 := ⟨_, rfl⟩
          obtain ⟨v42_48_1, hv42_48_0, h, hl⟩ := hP
          refine lv_iload hx hb dX12_goesPairs_42 (lv_at hl 4 rfl) ?_
          refine lv_bipush (v := 10) hx hb dX12_goesPairs_44 (by decide) ?_
          refine lv_icmp_ge (tgt := 69) hx hb dX12_goesPairs_46 (by decide) (fun c_49 => ?_) (fun c_49 => ?_)
          · replace c_49 := i_le (x := 10) (y := v42_48_0) (show (10 : Int32).toInt = 10 by decide) rfl c_49
            exact q_vret X hr hlk hK h (fun _ => 0, (vcons (fun _ => p1) (vcons (fun _ => p2) (vcons f2 (vcons v42_48_1 (fun _ => (fun _ => 0)))))), fun _ _ => 0) ⟨(bw hp1 (by decide) (by decide)), hp2, trivial⟩ [0, 1, 2, 3, 4] rfl rfl dX12_goesPairs_69 (Nat.le_of_ble_eq_true rfl) (Nat.le_of_ble_eq_true rfl)
          · replace c_49 := i_nle (x := 10) (y := v42_48_0) (show (10 : Int32).toInt = 10 by decide) rfl c_49
            refine lv_aload_n hx hb dX12_goesPairs_49 rfl (lv_at hl 0 rfl) ?_
            refine q_get X hK h 0 rfl rfl wf_12 25 (by decide) rfl wm_5_195 dX12_goesPairs_50 ?_
            refine lv_iload hx hb dX12_goesPairs_53 (lv_at hl 4 rfl) ?_
            refine lv_aload_n hx hb dX12_goesPairs_55 rfl (lv_at hl 0 rfl) ?_
            refine q_get X hK h 0 rfl rfl wf_12 24 (by decide) rfl wm_5_194 dX12_goesPairs_56 ?_
            refine lv_iload hx hb dX12_goesPairs_59 (lv_at hl 4 rfl) ?_
            refine q_iald X hK h 3 rfl (i_in rfl (by omega) (by omega)) dX12_goesPairs_61 ?_
            refine q_any (fun z_50 hz_50 => ?_)
            refine q_iast X hK h 4 rfl (i_in rfl (by omega) (by omega)) dX12_goesPairs_62 (fun H locs h_52 => ?_)
            clear h
            replace h_52 : qW D _ _ (wk_f147cc4b8 cy h0 p3 h1 w0 w1 w2 p4 p5 p6 p7 p8 p9 p10 p11 p12 p13 p14 w3 w4 w5 h2 w6 p15 p16 w7 h3 h4 p1 p2 w8 w9 w10 w11 w12 p19 w13 w14 w15 h1 f0 h2 f1 h3 f2 h4 (upd v42_48_1 (Int32.toNatClampNeg v42_48_0) z_50)) _ _ := h_52
            obtain ⟨F_51, eF_51⟩ : ∃ z, (upd v42_48_1 (Int32.toNatClampNeg v42_48_0) z_50) = z := ⟨_, rfl⟩
            rw [eF_51] at h_52
            clear eF_51
            obtain ⟨z_53, ez_53, hz_53⟩ := e_add (x := v42_48_0) (y := Int32.ofInt 1) rfl (b := 1) (by decide) (by omega) (by omega)
            refine lv_iinc (v := z_53) (lv' := [(4, .int z_53), (0, .ref h0), (1, .int p0), (2, .int p1), (3, .int p2)]) hx hb dX12_goesPairs_63 hl (k := 4) rfl ez_53 (by decide) rfl (fun ls_53 hl_53 => ?_)
            clear hl
            refine lv_goto (tgt := 42) hx hb dX12_goesPairs_66 (by decide) ?_
            exact ih_42 z_53 (by show (11 - (z_53).toInt).toNat < (11 - (v42_48_0).toInt).toNat; omega) _ _ _ ⟨F_51, ⟨by omega, by omega⟩, h_52, (lv_sub hl_53 [1, 2, 3, 4, 0] rfl)⟩
        · skip
          refine lv_icmp_ne (tgt := 29) hx hb dX12_goesPairs_17 (by decide) (fun c_54 => ?_) (fun c_54 => ?_)
          · replace c_54 := i_ne (x := p1) (y := p17) rfl rfl c_54
            exact J_29 _ _ _ _ ⟨rfl, h, (lv_sub hl [0, 1, 2, 3] rfl)⟩
          · replace c_54 := i_eq (x := p1) (y := p17) rfl rfl c_54
            refine lv_iload_n hx hb dX12_goesPairs_20 rfl (lv_at hl 3 rfl) ?_
            refine lv_aload_n hx hb dX12_goesPairs_21 rfl (lv_at hl 0 rfl) ?_
            refine q_get X hK h 0 rfl rfl wf_12 27 (by decide) rfl wm_5_197 dX12_goesPairs_22 ?_
            refine lv_icmp_gt (tgt := 29) hx hb dX12_goesPairs_25 (by decide) (fun c_55 => ?_) (fun c_55 => ?_)
            · replace c_55 := i_lt (x := p18) (y := p2) rfl rfl c_55
              exact J_29 _ _ _ _ ⟨rfl, h, (lv_sub hl [0, 1, 2, 3] rfl)⟩
            · replace c_55 := i_nlt (x := p18) (y := p2) rfl rfl c_55
              exact J_28 _ _ _ _ ⟨rfl, h, (lv_sub hl [0, 1, 2, 3] rfl)⟩
set_option maxHeartbeats 4000000 in
set_option maxRecDepth 100000 in
theorem gX12_goesPairs_c3c2d4b (l : Launch) (D : va_G) (cy : Nat → ClassId) (h0 : Nat) (h1 : Nat) (h2 : Nat) (h3 : Nat) (h4 : Nat) (p0 : Int32) (p1 : Int32) (p2 : Int32) (p3 : Int32) (w0 : Value) (w1 : Value) (w2 : Value) (p4 : Int32) (p5 : Int32) (p6 : Int32) (p7 : Int32) (p8 : Int32) (p9 : Int32) (p10 : Int32) (p11 : Int32) (p12 : Int32) (p13 : Int32) (p14 : Int32) (w3 : Value) (w4 : Value) (w5 : Value) (w6 : Value) (p15 : Int32) (p16 : Int32) (w7 : Value) (p17 : Int32) (p18 : Int32) (w8 : Value) (w9 : Value) (w10 : Value) (w11 : Value) (w12 : Value) (p19 : Int32) (w13 : Value) (w14 : Value) (w15 : Value) (f0 : Nat → Int32) (p20 : Int32) (f1 : Nat → Int32) (f2 : Nat → Int32) (f3 : Nat → Int32) (hp0 : 0 ≤ (p0).toInt ∧ (p0).toInt ≤ 1023) (hp1 : 0 ≤ (p1).toInt ∧ (p1).toInt ≤ 7) (hp2 : (-2147483648) ≤ (p2).toInt ∧ (p2).toInt ≤ 2147483647) (hp3 : 0 ≤ (p3).toInt ∧ (p3).toInt ≤ 0) (hp4 : 0 ≤ (p4).toInt ∧ (p4).toInt ≤ 900) (hp5 : 0 ≤ (p5).toInt ∧ (p5).toInt ≤ 900) (hp6 : 0 ≤ (p6).toInt ∧ (p6).toInt ≤ 900) (hp7 : 0 ≤ (p7).toInt ∧ (p7).toInt ≤ 900) (hp8 : (-2147483648) ≤ (p8).toInt ∧ (p8).toInt ≤ 2147483647) (hp9 : 0 ≤ (p9).toInt ∧ (p9).toInt ≤ 999) (hp10 : (-2147483648) ≤ (p10).toInt ∧ (p10).toInt ≤ 2147483647) (hp11 : (-2147483648) ≤ (p11).toInt ∧ (p11).toInt ≤ 2147483647) (hp12 : (-2147483648) ≤ (p12).toInt ∧ (p12).toInt ≤ 2147483647) (hp13 : (-2147483648) ≤ (p13).toInt ∧ (p13).toInt ≤ 2147483647) (hp14 : (-2147483648) ≤ (p14).toInt ∧ (p14).toInt ≤ 2147483647) (hp15 : (-2147483648) ≤ (p15).toInt ∧ (p15).toInt ≤ 2147483647) (hp16 : (-2147483648) ≤ (p16).toInt ∧ (p16).toInt ≤ 2147483647) (hp17 : (-1) ≤ (p17).toInt ∧ (p17).toInt ≤ 10) (hp18 : (-2147483648) ≤ (p18).toInt ∧ (p18).toInt ≤ 2147483647) (hp19 : (-2147483648) ≤ (p19).toInt ∧ (p19).toInt ≤ 2147483647) (hp20 : 0 ≤ (p20).toInt ∧ (p20).toInt ≤ 10) (htf0_84 : f0 84 = p20) (rf0 : AL f0) (rf1 : RG f1 10 0 1023) (hpre0 : (p0 : Int32).toInt % 128 = 0) (sz : Nat) : MV l yX12_goesPairs cX12_goesPairs 7 { frames := 4, cells := 0, slots := 0, locals := 95 } [.ref h0, .int p0, .int p1, .int p2] D cy (wk_f147cc4b8 cy h0 p3 h1 w0 w1 w2 p4 p5 p6 p7 p8 p9 p10 p11 p12 p13 p14 w3 w4 w5 h2 w6 p15 p16 w7 h3 h4 p17 p18 w8 w9 w10 w11 w12 p19 w13 w14 w15 h1 f0 h2 f1 h3 f2 h4 f3) sz (fun u => ((-1) ≤ (u.2.1 0 0).toInt ∧ (u.2.1 0 0).toInt ≤ 10) ∧ ((-2147483648) ≤ (u.2.1 1 0).toInt ∧ (u.2.1 1 0).toInt ≤ 2147483647) ∧ True) (fun u => (wk_f147cc4b8 cy h0 p3 h1 w0 w1 w2 p4 p5 p6 p7 p8 p9 p10 p11 p12 p13 p14 w3 w4 w5 h2 w6 p15 p16 w7 h3 h4 (u.2.1 0 0) (u.2.1 1 0) w8 w9 w10 w11 w12 p19 w13 w14 w15 h1 f0 h2 f1 h3 (u.2.1 2) h4 (u.2.1 3))) 0 0 := by
  refine q_ent (own := RX12) (by decide) rfl (Nat.le_of_ble_eq_true rfl) (fun p e s m below meth c ls X hr hlk hnm hK hT h hA hl => ?_)
  obtain ⟨hx, hb, hml, hown, ht⟩ := id X
  replace hl : lv_has ls 7 [(0, .ref h0), (1, .int p0), (2, .int p1), (3, .int p2)] := hl
  refine lv_iload_n hx hb dX12_goesPairs_0 rfl (lv_at hl 1 rfl) ?_
  refine lv_if_ne (tgt := 70) hx hb dX12_goesPairs_1 (by decide) (fun c_1 => ?_) (fun c_1 => ?_)
  · replace c_1 := i_ne (x := p0) (y := 0) rfl (show (0 : Int32).toInt = 0 by decide) c_1
    refine lv_iload_n hx hb dX12_goesPairs_70 rfl (lv_at hl 1 rfl) ?_
    refine q_callSi (rest := []) (wr := (wk_f147cc4b8 cy h0 p3 h1 w0 w1 w2 p4 p5 p6 p7 p8 p9 p10 p11 p12 p13 p14 w3 w4 w5 h2 w6 p15 p16 w7 h3 h4 p17 p18 w8 w9 w10 w11 w12 p19 w13 w14 w15 h1 f0 h2 f1 h3 f2 h4 f3)) X hK hT hA h (fun sz => gX12_lowest_51df8cb l D cy p0 ⟨by omega, by omega⟩ sz) wm_7_67 wm_7_69 wm_1_12 hd_X12_lowest wm_7_68 ⟨Nat.le_of_ble_eq_true rfl, Nat.le_of_ble_eq_true rfl⟩ hl.1 rfl (Nat.le_of_ble_eq_true rfl) dX12_goesPairs_71 ⟨Nat.le_of_ble_eq_true rfl, Nat.le_of_ble_eq_true rfl⟩ [] [0, 1, 2, 3, 4] rfl rfl (by decide) rfl rfl (fun r_2 u_2 H locs w_2 h_2 => ?_)
    clear h
    obtain ⟨wr_2, y2_0, _⟩ := w_2
    replace h_2 : qW D _ _ (wk_f147cc4b8 cy h0 p3 h1 w0 w1 w2 p4 p5 p6 p7 p8 p9 p10 p11 p12 p13 p14 w3 w4 w5 h2 w6 p15 p16 w7 h3 h4 p17 p18 w8 w9 w10 w11 w12 p19 w13 w14 w15 h1 f0 h2 f1 h3 f2 h4 f3) _ _ := h_2
    refine lv_istore (lv' := [(4, .int r_2), (0, .ref h0), (1, .int p0), (2, .int p1), (3, .int p2)]) hx hb dX12_goesPairs_74 hl (by decide) rfl (fun ls_3 hl_3 => ?_)
    clear hl
    refine lv_iload_n hx hb dX12_goesPairs_76 rfl (lv_at hl_3 2 rfl) ?_
    refine lv_iconst (v := 1) hx hb dX12_goesPairs_77 (by decide) ?_
    refine lv_iload hx hb dX12_goesPairs_78 (lv_at hl_3 0 rfl) ?_
    refine lv_ishl hx hb dX12_goesPairs_80 ?_
    obtain ⟨z_4, ez_4, hz_4⟩ := e_shlk (p := r_2) 9 (by decide) rfl (by omega) (by omega)
    refine q_c z_4 ez_4 ?_
    refine lv_iconst (v := (-1)) hx hb dX12_goesPairs_81 (by decide) ?_
    refine lv_ixor hx hb dX12_goesPairs_82 ?_
    obtain ⟨z_5, ez_5, hz_5⟩ := e_any (z_4 ^^^ (-1))
    refine q_c z_5 ez_5 ?_
    refine lv_iand hx hb dX12_goesPairs_83 ?_
    obtain ⟨z_6, ez_6, hz_6⟩ := e_and1 (x := p0) (y := z_5) rfl (by omega)
    refine q_c z_6 ez_6 ?_
    have rs_7 := rest_low 7 (by omega) y2_0 (by omega) ez_4 ez_5 ez_6
    refine lv_istore (lv' := [(5, .int z_6), (4, .int r_2), (0, .ref h0), (1, .int p0), (2, .int p1), (3, .int p2)]) hx hb dX12_goesPairs_84 hl_3 (by decide) rfl (fun ls_8 hl_8 => ?_)
    clear hl_3
    refine lv_iload hx hb dX12_goesPairs_86 (lv_at hl_8 1 rfl) ?_
    refine lv_iconst (v := 1) hx hb dX12_goesPairs_88 (by decide) ?_
    refine lv_iadd hx hb dX12_goesPairs_89 ?_
    obtain ⟨z_9, ez_9, hz_9⟩ := e_add (x := r_2) (y := 1) rfl (show (1 : Int32).toInt = 1 by decide) (by omega) (by omega)
    refine q_c z_9 ez_9 ?_
    clear ez_9
    refine lv_istore (lv' := [(6, .int z_9), (5, .int z_6), (4, .int r_2), (0, .ref h0), (1, .int p0), (2, .int p1), (3, .int p2)]) hx hb dX12_goesPairs_90 hl_8 (by decide) rfl (fun ls_10 hl_10 => ?_)
    clear hl_8
    refine q_wl (fun (q : Int32 × Int32 × Int32) H locs ls => match q with | (v92_11_0, v92_11_1, v92_11_2) => ∃ v92_11_3 : Nat → Int32, ∃ v92_11_4 : Nat → Int32, (1 ≤ (v92_11_0).toInt ∧ (v92_11_0).toInt ≤ 10) ∧ ((-1) ≤ (v92_11_1).toInt ∧ (v92_11_1).toInt ≤ 10) ∧ ((-2147483648) ≤ (v92_11_2).toInt ∧ (v92_11_2).toInt ≤ 2147483647) ∧ qW D (va_A (wk_f147cc4b8 cy h0 p3 h1 w0 w1 w2 p4 p5 p6 p7 p8 p9 p10 p11 p12 p13 p14 w3 w4 w5 h2 w6 p15 p16 w7 h3 h4 p17 p18 w8 w9 w10 w11 w12 p19 w13 w14 w15 h1 f0 h2 f1 h3 f2 h4 f3) sz) s.heap (wk_f147cc4b8 cy h0 p3 h1 w0 w1 w2 p4 p5 p6 p7 p8 p9 p10 p11 p12 p13 p14 w3 w4 w5 h2 w6 p15 p16 w7 h3 h4 v92_11_1 v92_11_2 w8 w9 w10 w11 w12 p19 w13 w14 w15 h1 f0 h2 f1 h3 v92_11_3 h4 v92_11_4) H locs ∧ lv_has ls 7 [(0, .ref h0), (1, .int p0), (2, .int p1), (3, .int p2), (4, .int r_2), (5, .int z_6), (6, .int v92_11_0)]) (fun (q : Int32 × Int32 × Int32) => match q with | (v92_11_0, v92_11_1, v92_11_2) => (11 - (v92_11_0).toInt).toNat) (fun q_92 ih_92 H locs ls hP => ?_) (z_9, p17, p18) ⟨f2, f3, ⟨by omega, by omega⟩, hp17, hp18, h_2, (lv_sub hl_10 [3, 4, 5, 6, 2, 1, 0] rfl)⟩
    obtain ⟨v92_11_0, v92_11_1, v92_11_2⟩ := q_92
    obtain ⟨v92_11_3, v92_11_4, hv92_11_0, hv92_11_1, hv92_11_2, h, hl⟩ := hP
    refine lv_iload hx hb dX12_goesPairs_92 (lv_at hl 6 rfl) ?_
    refine lv_aload_n hx hb dX12_goesPairs_94 rfl (lv_at hl 0 rfl) ?_
    refine q_get X hK h 0 rfl rfl wf_12 1 (by decide) rfl wm_5_171 dX12_goesPairs_95 ?_
    refine lv_iconst (v := 2) hx hb dX12_goesPairs_98 (by decide) ?_
    refine q_iald X hK h 1 rfl (q_in (by decide +kernel)) dX12_goesPairs_99 ?_
    obtain ⟨z_12, ez_12, hz_12⟩ := al_P rf0 (x := 2) (show (2 : Int32).toInt = 2 by decide) (by omega) (by omega)
    refine q_c z_12 ez_12 ?_
    clear ez_12
    refine lv_icmp_ge (tgt := 196) hx hb dX12_goesPairs_100 (by decide) (fun c_13 => ?_) (fun c_13 => ?_)
    · replace c_13 := i_le (x := z_12) (y := v92_11_0) rfl rfl c_13
      refine lv_aload_n hx hb dX12_goesPairs_196 rfl (lv_at hl 0 rfl) ?_
      refine q_get X hK h 0 rfl rfl wf_12 24 (by decide) rfl wm_5_194 dX12_goesPairs_197 ?_
      refine lv_iload hx hb dX12_goesPairs_200 (lv_at hl 4 rfl) ?_
      refine lv_iconst (v := (-1)) hx hb dX12_goesPairs_202 (by decide) ?_
      refine q_iast X hK h 3 rfl (i_in rfl (by omega) (by omega)) dX12_goesPairs_203 (fun H locs h_15 => ?_)
      clear h
      replace h_15 : qW D _ _ (wk_f147cc4b8 cy h0 p3 h1 w0 w1 w2 p4 p5 p6 p7 p8 p9 p10 p11 p12 p13 p14 w3 w4 w5 h2 w6 p15 p16 w7 h3 h4 v92_11_1 v92_11_2 w8 w9 w10 w11 w12 p19 w13 w14 w15 h1 f0 h2 f1 h3 (upd v92_11_3 (Int32.toNatClampNeg r_2) (-1)) h4 v92_11_4) _ _ := h_15
      obtain ⟨F_14, eF_14⟩ : ∃ z, (upd v92_11_3 (Int32.toNatClampNeg r_2) (-1)) = z := ⟨_, rfl⟩
      rw [eF_14] at h_15
      clear eF_14
      refine lv_aload_n hx hb dX12_goesPairs_204 rfl (lv_at hl 0 rfl) ?_
      refine lv_iload hx hb dX12_goesPairs_205 (lv_at hl 5 rfl) ?_
      refine lv_iload_n hx hb dX12_goesPairs_207 rfl (lv_at hl 2 rfl) ?_
      refine lv_iload_n hx hb dX12_goesPairs_208 rfl (lv_at hl 3 rfl) ?_
      refine q_callVv (rest := []) (wr := []) X hK hT hA h_15 (fun sz => gX12_goesPairs_cec3488 l D cy h0 h1 h2 h3 h4 z_6 p1 p2 p3 w0 w1 w2 p4 p5 p6 p7 p8 p9 p10 p11 p12 p13 p14 w3 w4 w5 w6 p15 p16 w7 v92_11_1 v92_11_2 w8 w9 w10 w11 w12 p19 w13 w14 w15 f0 p20 f1 F_14 v92_11_4 ⟨by omega, by omega⟩ (bw hp1 (by decide) (by decide)) (i_rng _) hp3 hp4 hp5 hp6 hp7 (i_rng _) hp9 (i_rng _) (i_rng _) (i_rng _) (i_rng _) (i_rng _) (i_rng _) (i_rng _) hv92_11_1 (i_rng _) (i_rng _) hp20 htf0_84 rf0 (rg_wide rf1 (by decide) (by decide)) ((show _ % 256 = 0 from rs_7.1)) sz) wm_7_116 wm_7_119 wm_1_12 hd_X12_goesPairs wm_7_118 wp_7_4 (ci := 12) (q0 := 0) rfl rfl ⟨Nat.le_of_ble_eq_true rfl, Nat.le_of_ble_eq_true rfl⟩ hl.1 rfl (Nat.le_of_ble_eq_true rfl) dX12_goesPairs_209 ⟨Nat.le_of_ble_eq_true rfl, Nat.le_of_ble_eq_true rfl⟩ [0, 1, 2, 3, 4] [] rfl rfl (by decide) rfl rfl (fun u_16 H locs w_16 h_16 => ?_)
      clear h_15
      obtain ⟨w16_0, w16_1, _⟩ := w_16
      replace h_16 : qW D _ _ (wk_f147cc4b8 cy h0 p3 h1 w0 w1 w2 p4 p5 p6 p7 p8 p9 p10 p11 p12 p13 p14 w3 w4 w5 h2 w6 p15 p16 w7 h3 h4 (u_16.2.1 0 0) (u_16.2.1 1 0) w8 w9 w10 w11 w12 p19 w13 w14 w15 h1 f0 h2 f1 h3 (u_16.2.1 2) h4 (u_16.2.1 3)) _ _ := h_16
      exact q_vret X hr hlk hK h_16 (fun _ => 0, (vcons (fun _ => (u_16.2.1 0 0)) (vcons (fun _ => (u_16.2.1 1 0)) (vcons (u_16.2.1 2) (vcons (u_16.2.1 3) (fun _ => (fun _ => 0)))))), fun _ _ => 0) ⟨w16_0, w16_1, trivial⟩ [0, 1, 2, 3, 4] rfl rfl dX12_goesPairs_212 (Nat.le_of_ble_eq_true rfl) (Nat.le_of_ble_eq_true rfl)
    · replace c_13 := i_nle (x := z_12) (y := v92_11_0) rfl rfl c_13
      refine lv_iload hx hb dX12_goesPairs_103 (lv_at hl 5 rfl) ?_
      refine lv_aload_n hx hb dX12_goesPairs_105 rfl (lv_at hl 0 rfl) ?_
      refine q_get X hK h 0 rfl rfl wf_12 19 (by decide) rfl wm_5_189 dX12_goesPairs_106 ?_
      refine lv_iload hx hb dX12_goesPairs_109 (lv_at hl 4 rfl) ?_
      refine q_iald X hK h 2 rfl (i_in rfl (by omega) (by omega)) dX12_goesPairs_111 ?_
      obtain ⟨z_17, ez_17, hz_17⟩ := rg_get rf1 (x := r_2) rfl (by omega) (by omega)
      refine q_c z_17 ez_17 ?_
      clear ez_17
      refine lv_iand hx hb dX12_goesPairs_112 ?_
      obtain ⟨z_18, ez_18, hz_18⟩ := e_and2 (x := z_6) (y := z_17) rfl (by omega)
      refine q_c z_18 ez_18 ?_
      clear ez_18
      refine lv_i2l hx hb dX12_goesPairs_113 rfl ?_
      obtain ⟨z_19, ez_19, hz_19⟩ := e_i2l (x := z_18) rfl
      refine q_cl z_19 ez_19 ?_
      clear ez_19
      refine lv_iload hx hb dX12_goesPairs_114 (lv_at hl 6 rfl) ?_
      refine q_callSi (rest := []) (wr := (wk_f147cc4b8 cy h0 p3 h1 w0 w1 w2 p4 p5 p6 p7 p8 p9 p10 p11 p12 p13 p14 w3 w4 w5 h2 w6 p15 p16 w7 h3 h4 v92_11_1 v92_11_2 w8 w9 w10 w11 w12 p19 w13 w14 w15 h1 f0 h2 f1 h3 v92_11_3 h4 v92_11_4)) X hK hT hA h (fun sz => gX12_isIn_b0455a8 l D cy z_19 v92_11_0 ⟨by omega, by omega⟩ ⟨by omega, by omega⟩ sz) wm_6_167 wm_6_169 wm_1_12 hd_X12_isIn wm_6_168 ⟨Nat.le_of_ble_eq_true rfl, Nat.le_of_ble_eq_true rfl⟩ hl.1 rfl (Nat.le_of_ble_eq_true rfl) dX12_goesPairs_116 ⟨Nat.le_of_ble_eq_true rfl, Nat.le_of_ble_eq_true rfl⟩ [] [0, 1, 2, 3, 4] rfl rfl (by decide) rfl rfl (fun r_20 u_20 H locs w_20 h_20 => ?_)
      clear h
      obtain ⟨wr_20, _⟩ := w_20
      replace h_20 : qW D _ _ (wk_f147cc4b8 cy h0 p3 h1 w0 w1 w2 p4 p5 p6 p7 p8 p9 p10 p11 p12 p13 p14 w3 w4 w5 h2 w6 p15 p16 w7 h3 h4 v92_11_1 v92_11_2 w8 w9 w10 w11 w12 p19 w13 w14 w15 h1 f0 h2 f1 h3 v92_11_3 h4 v92_11_4) _ _ := h_20
      refine q_jn (pc2 := 190) (fun H locs ls st => ∃ v190_21_0 : Int32, ∃ v190_21_1 : Int32, ∃ v190_21_2 : Nat → Int32, ∃ v190_21_3 : Nat → Int32, ((-1) ≤ (v190_21_0).toInt ∧ (v190_21_0).toInt ≤ 10) ∧ ((-2147483648) ≤ (v190_21_1).toInt ∧ (v190_21_1).toInt ≤ 2147483647) ∧ st = [] ∧ qW D (va_A (wk_f147cc4b8 cy h0 p3 h1 w0 w1 w2 p4 p5 p6 p7 p8 p9 p10 p11 p12 p13 p14 w3 w4 w5 h2 w6 p15 p16 w7 h3 h4 p17 p18 w8 w9 w10 w11 w12 p19 w13 w14 w15 h1 f0 h2 f1 h3 f2 h4 f3) sz) s.heap (wk_f147cc4b8 cy h0 p3 h1 w0 w1 w2 p4 p5 p6 p7 p8 p9 p10 p11 p12 p13 p14 w3 w4 w5 h2 w6 p15 p16 w7 h3 h4 v190_21_0 v190_21_1 w8 w9 w10 w11 w12 p19 w13 w14 w15 h1 f0 h2 f1 h3 v190_21_2 h4 v190_21_3) H locs ∧ lv_has ls 7 [(0, .ref h0), (1, .int p0), (2, .int p1), (3, .int p2), (4, .int r_2), (5, .int z_6), (6, .int v92_11_0)]) (fun H locs ls st hP => ?_) (fun J_190 => ?_)
      · obtain ⟨v190_21_0, v190_21_1, v190_21_2, v190_21_3, hv190_21_0, hv190_21_1, rfl, h, hl⟩ := hP
        obtain ⟨z_22, ez_22, hz_22⟩ := e_add (x := v92_11_0) (y := Int32.ofInt 1) rfl (b := 1) (by decide) (by omega) (by omega)
        refine lv_iinc (v := z_22) (lv' := [(6, .int z_22), (0, .ref h0), (1, .int p0), (2, .int p1), (3, .int p2), (4, .int r_2), (5, .int z_6)]) hx hb dX12_goesPairs_190 hl (k := 6) rfl ez_22 (by decide) rfl (fun ls_22 hl_22 => ?_)
        clear hl
        refine lv_goto (tgt := 92) hx hb dX12_goesPairs_193 (by decide) ?_
        exact ih_92 (z_22, v190_21_0, v190_21_1) (by show (11 - (z_22).toInt).toNat < (11 - (v92_11_0).toInt).toNat; omega) _ _ _ ⟨v190_21_2, v190_21_3, ⟨by omega, by omega⟩, hv190_21_0, hv190_21_1, h, (lv_sub hl_22 [1, 2, 3, 4, 5, 6, 0] rfl)⟩
      · skip
        refine lv_if_ne (tgt := 125) hx hb dX12_goesPairs_119 (by decide) (fun c_23 => ?_) (fun c_23 => ?_)
        · replace c_23 := i_ne (x := r_20) (y := 0) rfl (show (0 : Int32).toInt = 0 by decide) c_23
          refine lv_aload_n hx hb dX12_goesPairs_125 rfl (lv_at hl 0 rfl) ?_
          refine q_get X hK h_20 0 rfl rfl wf_12 24 (by decide) rfl wm_5_194 dX12_goesPairs_126 ?_
          refine lv_iload hx hb dX12_goesPairs_129 (lv_at hl 4 rfl) ?_
          refine lv_iload hx hb dX12_goesPairs_131 (lv_at hl 6 rfl) ?_
          refine q_iast X hK h_20 3 rfl (i_in rfl (by omega) (by omega)) dX12_goesPairs_133 (fun H locs h_25 => ?_)
          clear h_20
          replace h_25 : qW D _ _ (wk_f147cc4b8 cy h0 p3 h1 w0 w1 w2 p4 p5 p6 p7 p8 p9 p10 p11 p12 p13 p14 w3 w4 w5 h2 w6 p15 p16 w7 h3 h4 v92_11_1 v92_11_2 w8 w9 w10 w11 w12 p19 w13 w14 w15 h1 f0 h2 f1 h3 (upd v92_11_3 (Int32.toNatClampNeg r_2) v92_11_0) h4 v92_11_4) _ _ := h_25
          obtain ⟨F_24, eF_24⟩ : ∃ z, (upd v92_11_3 (Int32.toNatClampNeg r_2) v92_11_0) = z := ⟨_, rfl⟩
          rw [eF_24] at h_25
          clear eF_24
          refine lv_aload_n hx hb dX12_goesPairs_134 rfl (lv_at hl 0 rfl) ?_
          refine q_get X hK h_25 0 rfl rfl wf_12 24 (by decide) rfl wm_5_194 dX12_goesPairs_135 ?_
          refine lv_iload hx hb dX12_goesPairs_138 (lv_at hl 6 rfl) ?_
          refine lv_iload hx hb dX12_goesPairs_140 (lv_at hl 4 rfl) ?_
          refine q_iast X hK h_25 3 rfl (i_in rfl (by omega) (by omega)) dX12_goesPairs_142 (fun H locs h_27 => ?_)
          clear h_25
          replace h_27 : qW D _ _ (wk_f147cc4b8 cy h0 p3 h1 w0 w1 w2 p4 p5 p6 p7 p8 p9 p10 p11 p12 p13 p14 w3 w4 w5 h2 w6 p15 p16 w7 h3 h4 v92_11_1 v92_11_2 w8 w9 w10 w11 w12 p19 w13 w14 w15 h1 f0 h2 f1 h3 (upd F_24 (Int32.toNatClampNeg v92_11_0) r_2) h4 v92_11_4) _ _ := h_27
          obtain ⟨F_26, eF_26⟩ : ∃ z, (upd F_24 (Int32.toNatClampNeg v92_11_0) r_2) = z := ⟨_, rfl⟩
          rw [eF_26] at h_27
          clear eF_26
          refine lv_aload_n hx hb dX12_goesPairs_143 rfl (lv_at hl 0 rfl) ?_
          refine lv_iload hx hb dX12_goesPairs_144 (lv_at hl 5 rfl) ?_
          refine lv_iconst (v := 1) hx hb dX12_goesPairs_146 (by decide) ?_
          refine lv_iload hx hb dX12_goesPairs_147 (lv_at hl 6 rfl) ?_
          refine lv_ishl hx hb dX12_goesPairs_149 ?_
          obtain ⟨z_28, ez_28, hz_28⟩ := e_shlk (p := v92_11_0) 9 (by decide) rfl (by omega) (by omega)
          refine q_c z_28 ez_28 ?_
          clear ez_28
          refine lv_iconst (v := (-1)) hx hb dX12_goesPairs_150 (by decide) ?_
          refine lv_ixor hx hb dX12_goesPairs_151 ?_
          refine q_any (fun z_29 hz_29 => ?_)
          refine lv_iand hx hb dX12_goesPairs_152 ?_
          obtain ⟨z_30, ez_30, hz_30⟩ := e_and1 (x := z_6) (y := z_29) rfl (by omega)
          refine q_c z_30 ez_30 ?_
          have ad_31 := and_div 8 (by omega) rs_7.1 ez_30
          refine lv_iload_n hx hb dX12_goesPairs_153 rfl (lv_at hl 2 rfl) ?_
          refine lv_iconst (v := 1) hx hb dX12_goesPairs_154 (by decide) ?_
          refine lv_iadd hx hb dX12_goesPairs_155 ?_
          obtain ⟨z_32, ez_32, hz_32⟩ := e_add (x := p1) (y := 1) rfl (show (1 : Int32).toInt = 1 by decide) (by omega) (by omega)
          refine q_c z_32 ez_32 ?_
          clear ez_32
          refine lv_iload_n hx hb dX12_goesPairs_156 rfl (lv_at hl 3 rfl) ?_
          refine lv_aload_n hx hb dX12_goesPairs_157 rfl (lv_at hl 0 rfl) ?_
          refine q_get X hK h_27 0 rfl rfl wf_12 1 (by decide) rfl wm_5_171 dX12_goesPairs_158 ?_
          refine lv_bipush (v := 42) hx hb dX12_goesPairs_161 (by decide) ?_
          refine lv_iload hx hb dX12_goesPairs_163 (lv_at hl 4 rfl) ?_
          refine lv_iadd hx hb dX12_goesPairs_165 ?_
          obtain ⟨z_33, ez_33, hz_33⟩ := e_add (x := 42) (y := r_2) (show (42 : Int32).toInt = 42 by decide) rfl (by omega) (by omega)
          refine q_c z_33 ez_33 ?_
          clear ez_33
          refine q_iald X hK h_27 1 rfl (i_in rfl (by omega) (by omega)) dX12_goesPairs_166 ?_
          refine q_any (fun z_34 hz_34 => ?_)
          refine lv_iadd hx hb dX12_goesPairs_167 ?_
          refine q_any (fun z_35 hz_35 => ?_)
          refine lv_aload_n hx hb dX12_goesPairs_168 rfl (lv_at hl 0 rfl) ?_
          refine q_get X hK h_27 0 rfl rfl wf_12 1 (by decide) rfl wm_5_171 dX12_goesPairs_169 ?_
          refine lv_bipush (v := 42) hx hb dX12_goesPairs_172 (by decide) ?_
          refine lv_iload hx hb dX12_goesPairs_174 (lv_at hl 6 rfl) ?_
          refine lv_iadd hx hb dX12_goesPairs_176 ?_
          obtain ⟨z_36, ez_36, hz_36⟩ := e_add (x := 42) (y := v92_11_0) (show (42 : Int32).toInt = 42 by decide) rfl (by omega) (by omega)
          refine q_c z_36 ez_36 ?_
          clear ez_36
          refine q_iald X hK h_27 1 rfl (i_in rfl (by omega) (by omega)) dX12_goesPairs_177 ?_
          refine q_any (fun z_37 hz_37 => ?_)
          refine lv_iadd hx hb dX12_goesPairs_178 ?_
          refine q_any (fun z_38 hz_38 => ?_)
          refine q_callVv (rest := []) (wr := []) X hK hT hA h_27 (fun sz => gX12_goesPairs_cec3488 l D cy h0 h1 h2 h3 h4 z_30 z_32 z_38 p3 w0 w1 w2 p4 p5 p6 p7 p8 p9 p10 p11 p12 p13 p14 w3 w4 w5 w6 p15 p16 w7 v92_11_1 v92_11_2 w8 w9 w10 w11 w12 p19 w13 w14 w15 f0 p20 f1 F_26 v92_11_4 ⟨by omega, by omega⟩ ⟨by omega, by omega⟩ (i_rng _) hp3 hp4 hp5 hp6 hp7 (i_rng _) hp9 (i_rng _) (i_rng _) (i_rng _) (i_rng _) (i_rng _) (i_rng _) (i_rng _) hv92_11_1 (i_rng _) (i_rng _) hp20 htf0_84 rf0 (rg_wide rf1 (by decide) (by decide)) ((show _ % 256 = 0 from ad_31)) sz) wm_7_116 wm_7_119 wm_1_12 hd_X12_goesPairs wm_7_118 wp_7_4 (ci := 12) (q0 := 0) rfl rfl ⟨Nat.le_of_ble_eq_true rfl, Nat.le_of_ble_eq_true rfl⟩ hl.1 rfl (Nat.le_of_ble_eq_true rfl) dX12_goesPairs_179 ⟨Nat.le_of_ble_eq_true rfl, Nat.le_of_ble_eq_true rfl⟩ [0, 1, 2, 3, 4] [] rfl rfl (by decide) rfl rfl (fun u_39 H locs w_39 h_39 => ?_)
          clear h_27
          obtain ⟨w39_0, w39_1, _⟩ := w_39
          replace h_39 : qW D _ _ (wk_f147cc4b8 cy h0 p3 h1 w0 w1 w2 p4 p5 p6 p7 p8 p9 p10 p11 p12 p13 p14 w3 w4 w5 h2 w6 p15 p16 w7 h3 h4 (u_39.2.1 0 0) (u_39.2.1 1 0) w8 w9 w10 w11 w12 p19 w13 w14 w15 h1 f0 h2 f1 h3 (u_39.2.1 2) h4 (u_39.2.1 3)) _ _ := h_39
          refine lv_aload_n hx hb dX12_goesPairs_182 rfl (lv_at hl 0 rfl) ?_
          refine q_get X hK h_39 0 rfl rfl wf_12 24 (by decide) rfl wm_5_194 dX12_goesPairs_183 ?_
          refine lv_iload hx hb dX12_goesPairs_186 (lv_at hl 6 rfl) ?_
          refine lv_iconst (v := (-1)) hx hb dX12_goesPairs_188 (by decide) ?_
          refine q_iast X hK h_39 3 rfl (i_in rfl (by omega) (by omega)) dX12_goesPairs_189 (fun H locs h_41 => ?_)
          clear h_39
          replace h_41 : qW D _ _ (wk_f147cc4b8 cy h0 p3 h1 w0 w1 w2 p4 p5 p6 p7 p8 p9 p10 p11 p12 p13 p14 w3 w4 w5 h2 w6 p15 p16 w7 h3 h4 (u_39.2.1 0 0) (u_39.2.1 1 0) w8 w9 w10 w11 w12 p19 w13 w14 w15 h1 f0 h2 f1 h3 (upd (u_39.2.1 2) (Int32.toNatClampNeg v92_11_0) (-1)) h4 (u_39.2.1 3)) _ _ := h_41
          obtain ⟨F_40, eF_40⟩ : ∃ z, (upd (u_39.2.1 2) (Int32.toNatClampNeg v92_11_0) (-1)) = z := ⟨_, rfl⟩
          rw [eF_40] at h_41
          clear eF_40
          exact J_190 _ _ _ _ ⟨(u_39.2.1 0 0), (u_39.2.1 1 0), F_40, (u_39.2.1 3), w39_0, w39_1, rfl, h_41, (lv_sub hl [0, 1, 2, 3, 4, 5, 6] rfl)⟩
        · replace c_23 := i_eq (x := r_20) (y := 0) rfl (show (0 : Int32).toInt = 0 by decide) c_23
          refine lv_goto (tgt := 190) hx hb dX12_goesPairs_122 (by decide) ?_
          exact J_190 _ _ _ _ ⟨v92_11_1, v92_11_2, v92_11_3, v92_11_4, hv92_11_1, hv92_11_2, rfl, h_20, (lv_sub hl [0, 1, 2, 3, 4, 5, 6] rfl)⟩
  · replace c_1 := i_eq (x := p0) (y := 0) rfl (show (0 : Int32).toInt = 0 by decide) c_1
    refine lv_iload_n hx hb dX12_goesPairs_4 rfl (lv_at hl 2 rfl) ?_
    refine lv_aload_n hx hb dX12_goesPairs_5 rfl (lv_at hl 0 rfl) ?_
    refine q_get X hK h 0 rfl rfl wf_12 26 (by decide) rfl wm_5_196 dX12_goesPairs_6 ?_
    refine q_jn (pc2 := 28) (fun H locs ls st => st = [] ∧ qW D (va_A (wk_f147cc4b8 cy h0 p3 h1 w0 w1 w2 p4 p5 p6 p7 p8 p9 p10 p11 p12 p13 p14 w3 w4 w5 h2 w6 p15 p16 w7 h3 h4 p17 p18 w8 w9 w10 w11 w12 p19 w13 w14 w15 h1 f0 h2 f1 h3 f2 h4 f3) sz) s.heap (wk_f147cc4b8 cy h0 p3 h1 w0 w1 w2 p4 p5 p6 p7 p8 p9 p10 p11 p12 p13 p14 w3 w4 w5 h2 w6 p15 p16 w7 h3 h4 p17 p18 w8 w9 w10 w11 w12 p19 w13 w14 w15 h1 f0 h2 f1 h3 f2 h4 f3) H locs ∧ lv_has ls 7 [(0, .ref h0), (1, .int p0), (2, .int p1), (3, .int p2)]) (fun H locs ls st hP => ?_) (fun J_28 => ?_)
    · obtain ⟨rfl, h, hl⟩ := hP
      exact q_vret X hr hlk hK h (fun _ => 0, (vcons (fun _ => p17) (vcons (fun _ => p18) (vcons f2 (vcons f3 (fun _ => (fun _ => 0)))))), fun _ _ => 0) ⟨hp17, hp18, trivial⟩ [0, 1, 2, 3, 4] rfl rfl dX12_goesPairs_28 (Nat.le_of_ble_eq_true rfl) (Nat.le_of_ble_eq_true rfl)
    · skip
      refine lv_icmp_lt (tgt := 28) hx hb dX12_goesPairs_9 (by decide) (fun c_43 => ?_) (fun c_43 => ?_)
      · replace c_43 := i_lt (x := p1) (y := p17) rfl rfl c_43
        exact J_28 _ _ _ _ ⟨rfl, h, (lv_sub hl [0, 1, 2, 3] rfl)⟩
      · replace c_43 := i_nlt (x := p1) (y := p17) rfl rfl c_43
        refine lv_iload_n hx hb dX12_goesPairs_12 rfl (lv_at hl 2 rfl) ?_
        refine lv_aload_n hx hb dX12_goesPairs_13 rfl (lv_at hl 0 rfl) ?_
        refine q_get X hK h 0 rfl rfl wf_12 26 (by decide) rfl wm_5_196 dX12_goesPairs_14 ?_
        refine q_jn (pc2 := 29) (fun H locs ls st => st = [] ∧ qW D (va_A (wk_f147cc4b8 cy h0 p3 h1 w0 w1 w2 p4 p5 p6 p7 p8 p9 p10 p11 p12 p13 p14 w3 w4 w5 h2 w6 p15 p16 w7 h3 h4 p17 p18 w8 w9 w10 w11 w12 p19 w13 w14 w15 h1 f0 h2 f1 h3 f2 h4 f3) sz) s.heap (wk_f147cc4b8 cy h0 p3 h1 w0 w1 w2 p4 p5 p6 p7 p8 p9 p10 p11 p12 p13 p14 w3 w4 w5 h2 w6 p15 p16 w7 h3 h4 p17 p18 w8 w9 w10 w11 w12 p19 w13 w14 w15 h1 f0 h2 f1 h3 f2 h4 f3) H locs ∧ lv_has ls 7 [(0, .ref h0), (1, .int p0), (2, .int p1), (3, .int p2)]) (fun H locs ls st hP => ?_) (fun J_29 => ?_)
        · obtain ⟨rfl, h, hl⟩ := hP
          refine lv_aload_n hx hb dX12_goesPairs_29 rfl (lv_at hl 0 rfl) ?_
          refine lv_iload_n hx hb dX12_goesPairs_30 rfl (lv_at hl 2 rfl) ?_
          refine q_put (v := .int p1) X hK h 0 rfl rfl wf_12 tyX12 tyX12_ok nmX12 26 (by decide) wm_5_196 rfl rfl rfl (Nat.le_of_ble_eq_true rfl) dX12_goesPairs_31 (fun H locs h_45 => ?_)
          clear h
          replace h_45 : qW D _ _ (wk_f147cc4b8 cy h0 p3 h1 w0 w1 w2 p4 p5 p6 p7 p8 p9 p10 p11 p12 p13 p14 w3 w4 w5 h2 w6 p15 p16 w7 h3 h4 p1 p18 w8 w9 w10 w11 w12 p19 w13 w14 w15 h1 f0 h2 f1 h3 f2 h4 f3) _ _ := h_45
          refine lv_aload_n hx hb dX12_goesPairs_34 rfl (lv_at hl 0 rfl) ?_
          refine lv_iload_n hx hb dX12_goesPairs_35 rfl (lv_at hl 3 rfl) ?_
          refine q_put (v := .int p2) X hK h_45 0 rfl rfl wf_12 tyX12 tyX12_ok nmX12 27 (by decide) wm_5_197 rfl rfl rfl (Nat.le_of_ble_eq_true rfl) dX12_goesPairs_36 (fun H locs h_46 => ?_)
          clear h_45
          replace h_46 : qW D _ _ (wk_f147cc4b8 cy h0 p3 h1 w0 w1 w2 p4 p5 p6 p7 p8 p9 p10 p11 p12 p13 p14 w3 w4 w5 h2 w6 p15 p16 w7 h3 h4 p1 p2 w8 w9 w10 w11 w12 p19 w13 w14 w15 h1 f0 h2 f1 h3 f2 h4 f3) _ _ := h_46
          refine lv_iconst (v := 0) hx hb dX12_goesPairs_39 (by decide) ?_
          refine lv_istore (lv' := [(4, .int 0), (0, .ref h0), (1, .int p0), (2, .int p1), (3, .int p2)]) hx hb dX12_goesPairs_40 hl (by decide) rfl (fun ls_47 hl_47 => ?_)
          clear hl
          refine q_wl (fun (v42_48_0 : Int32) H locs ls => ∃ v42_48_1 : Nat → Int32, (0 ≤ (v42_48_0).toInt ∧ (v42_48_0).toInt ≤ 10) ∧ qW D (va_A (wk_f147cc4b8 cy h0 p3 h1 w0 w1 w2 p4 p5 p6 p7 p8 p9 p10 p11 p12 p13 p14 w3 w4 w5 h2 w6 p15 p16 w7 h3 h4 p17 p18 w8 w9 w10 w11 w12 p19 w13 w14 w15 h1 f0 h2 f1 h3 f2 h4 f3) sz) s.heap (wk_f147cc4b8 cy h0 p3 h1 w0 w1 w2 p4 p5 p6 p7 p8 p9 p10 p11 p12 p13 p14 w3 w4 w5 h2 w6 p15 p16 w7 h3 h4 p1 p2 w8 w9 w10 w11 w12 p19 w13 w14 w15 h1 f0 h2 f1 h3 f2 h4 v42_48_1) H locs ∧ lv_has ls 7 [(0, .ref h0), (1, .int p0), (2, .int p1), (3, .int p2), (4, .int v42_48_0)]) (fun (v42_48_0 : Int32) => (11 - (v42_48_0).toInt).toNat) (fun q_42 ih_42 H locs ls hP => ?_) 0 ⟨f3, ⟨by decide +kernel, by decide +kernel⟩, h_46, (lv_sub hl_47 [1, 2, 3, 4, 0] rfl)⟩
          obtain ⟨v42_48_0, rfl⟩ : ∃ z, z = q_42 := ⟨_, rfl⟩
          obtain ⟨v42_48_1, hv42_48_0, h, hl⟩ := hP
          refine lv_iload hx hb dX12_goesPairs_42 (lv_at hl 4 rfl) ?_
          refine lv_bipush (v := 10) hx hb dX12_goesPairs_44 (by decide) ?_
          refine lv_icmp_ge (tgt := 69) hx hb dX12_goesPairs_46 (by decide) (fun c_49 => ?_) (fun c_49 => ?_)
          · replace c_49 := i_le (x := 10) (y := v42_48_0) (show (10 : Int32).toInt = 10 by decide) rfl c_49
            exact q_vret X hr hlk hK h (fun _ => 0, (vcons (fun _ => p1) (vcons (fun _ => p2) (vcons f2 (vcons v42_48_1 (fun _ => (fun _ => 0)))))), fun _ _ => 0) ⟨(bw hp1 (by decide) (by decide)), hp2, trivial⟩ [0, 1, 2, 3, 4] rfl rfl dX12_goesPairs_69 (Nat.le_of_ble_eq_true rfl) (Nat.le_of_ble_eq_true rfl)
          · replace c_49 := i_nle (x := 10) (y := v42_48_0) (show (10 : Int32).toInt = 10 by decide) rfl c_49
            refine lv_aload_n hx hb dX12_goesPairs_49 rfl (lv_at hl 0 rfl) ?_
            refine q_get X hK h 0 rfl rfl wf_12 25 (by decide) rfl wm_5_195 dX12_goesPairs_50 ?_
            refine lv_iload hx hb dX12_goesPairs_53 (lv_at hl 4 rfl) ?_
            refine lv_aload_n hx hb dX12_goesPairs_55 rfl (lv_at hl 0 rfl) ?_
            refine q_get X hK h 0 rfl rfl wf_12 24 (by decide) rfl wm_5_194 dX12_goesPairs_56 ?_
            refine lv_iload hx hb dX12_goesPairs_59 (lv_at hl 4 rfl) ?_
            refine q_iald X hK h 3 rfl (i_in rfl (by omega) (by omega)) dX12_goesPairs_61 ?_
            refine q_any (fun z_50 hz_50 => ?_)
            refine q_iast X hK h 4 rfl (i_in rfl (by omega) (by omega)) dX12_goesPairs_62 (fun H locs h_52 => ?_)
            clear h
            replace h_52 : qW D _ _ (wk_f147cc4b8 cy h0 p3 h1 w0 w1 w2 p4 p5 p6 p7 p8 p9 p10 p11 p12 p13 p14 w3 w4 w5 h2 w6 p15 p16 w7 h3 h4 p1 p2 w8 w9 w10 w11 w12 p19 w13 w14 w15 h1 f0 h2 f1 h3 f2 h4 (upd v42_48_1 (Int32.toNatClampNeg v42_48_0) z_50)) _ _ := h_52
            obtain ⟨F_51, eF_51⟩ : ∃ z, (upd v42_48_1 (Int32.toNatClampNeg v42_48_0) z_50) = z := ⟨_, rfl⟩
            rw [eF_51] at h_52
            clear eF_51
            obtain ⟨z_53, ez_53, hz_53⟩ := e_add (x := v42_48_0) (y := Int32.ofInt 1) rfl (b := 1) (by decide) (by omega) (by omega)
            refine lv_iinc (v := z_53) (lv' := [(4, .int z_53), (0, .ref h0), (1, .int p0), (2, .int p1), (3, .int p2)]) hx hb dX12_goesPairs_63 hl (k := 4) rfl ez_53 (by decide) rfl (fun ls_53 hl_53 => ?_)
            clear hl
            refine lv_goto (tgt := 42) hx hb dX12_goesPairs_66 (by decide) ?_
            exact ih_42 z_53 (by show (11 - (z_53).toInt).toNat < (11 - (v42_48_0).toInt).toNat; omega) _ _ _ ⟨F_51, ⟨by omega, by omega⟩, h_52, (lv_sub hl_53 [1, 2, 3, 4, 0] rfl)⟩
        · skip
          refine lv_icmp_ne (tgt := 29) hx hb dX12_goesPairs_17 (by decide) (fun c_54 => ?_) (fun c_54 => ?_)
          · replace c_54 := i_ne (x := p1) (y := p17) rfl rfl c_54
            exact J_29 _ _ _ _ ⟨rfl, h, (lv_sub hl [0, 1, 2, 3] rfl)⟩
          · replace c_54 := i_eq (x := p1) (y := p17) rfl rfl c_54
            refine lv_iload_n hx hb dX12_goesPairs_20 rfl (lv_at hl 3 rfl) ?_
            refine lv_aload_n hx hb dX12_goesPairs_21 rfl (lv_at hl 0 rfl) ?_
            refine q_get X hK h 0 rfl rfl wf_12 27 (by decide) rfl wm_5_197 dX12_goesPairs_22 ?_
            refine lv_icmp_gt (tgt := 29) hx hb dX12_goesPairs_25 (by decide) (fun c_55 => ?_) (fun c_55 => ?_)
            · replace c_55 := i_lt (x := p18) (y := p2) rfl rfl c_55
              exact J_29 _ _ _ _ ⟨rfl, h, (lv_sub hl [0, 1, 2, 3] rfl)⟩
            · replace c_55 := i_nlt (x := p18) (y := p2) rfl rfl c_55
              exact J_28 _ _ _ _ ⟨rfl, h, (lv_sub hl [0, 1, 2, 3] rfl)⟩
set_option maxHeartbeats 4000000 in
set_option maxRecDepth 100000 in
theorem gX12_goesPairs_71e4c98 (l : Launch) (D : va_G) (cy : Nat → ClassId) (h0 : Nat) (h1 : Nat) (h2 : Nat) (h3 : Nat) (h4 : Nat) (p0 : Int32) (p1 : Int32) (p2 : Int32) (p3 : Int32) (w0 : Value) (w1 : Value) (w2 : Value) (p4 : Int32) (p5 : Int32) (p6 : Int32) (p7 : Int32) (p8 : Int32) (p9 : Int32) (p10 : Int32) (p11 : Int32) (p12 : Int32) (p13 : Int32) (p14 : Int32) (w3 : Value) (w4 : Value) (w5 : Value) (w6 : Value) (p15 : Int32) (p16 : Int32) (w7 : Value) (p17 : Int32) (p18 : Int32) (w8 : Value) (w9 : Value) (w10 : Value) (w11 : Value) (w12 : Value) (p19 : Int32) (w13 : Value) (w14 : Value) (w15 : Value) (f0 : Nat → Int32) (p20 : Int32) (f1 : Nat → Int32) (f2 : Nat → Int32) (f3 : Nat → Int32) (hp0 : 0 ≤ (p0).toInt ∧ (p0).toInt ≤ 1023) (hp1 : 0 ≤ (p1).toInt ∧ (p1).toInt ≤ 6) (hp2 : (-2147483648) ≤ (p2).toInt ∧ (p2).toInt ≤ 2147483647) (hp3 : 0 ≤ (p3).toInt ∧ (p3).toInt ≤ 0) (hp4 : 0 ≤ (p4).toInt ∧ (p4).toInt ≤ 900) (hp5 : 0 ≤ (p5).toInt ∧ (p5).toInt ≤ 900) (hp6 : 0 ≤ (p6).toInt ∧ (p6).toInt ≤ 900) (hp7 : 0 ≤ (p7).toInt ∧ (p7).toInt ≤ 900) (hp8 : (-2147483648) ≤ (p8).toInt ∧ (p8).toInt ≤ 2147483647) (hp9 : 0 ≤ (p9).toInt ∧ (p9).toInt ≤ 999) (hp10 : (-2147483648) ≤ (p10).toInt ∧ (p10).toInt ≤ 2147483647) (hp11 : (-2147483648) ≤ (p11).toInt ∧ (p11).toInt ≤ 2147483647) (hp12 : (-2147483648) ≤ (p12).toInt ∧ (p12).toInt ≤ 2147483647) (hp13 : (-2147483648) ≤ (p13).toInt ∧ (p13).toInt ≤ 2147483647) (hp14 : (-2147483648) ≤ (p14).toInt ∧ (p14).toInt ≤ 2147483647) (hp15 : (-2147483648) ≤ (p15).toInt ∧ (p15).toInt ≤ 2147483647) (hp16 : (-2147483648) ≤ (p16).toInt ∧ (p16).toInt ≤ 2147483647) (hp17 : (-1) ≤ (p17).toInt ∧ (p17).toInt ≤ 10) (hp18 : (-2147483648) ≤ (p18).toInt ∧ (p18).toInt ≤ 2147483647) (hp19 : (-2147483648) ≤ (p19).toInt ∧ (p19).toInt ≤ 2147483647) (hp20 : 0 ≤ (p20).toInt ∧ (p20).toInt ≤ 10) (htf0_84 : f0 84 = p20) (rf0 : AL f0) (rf1 : RG f1 10 0 1023) (hpre0 : (p0 : Int32).toInt % 64 = 0) (sz : Nat) : MV l yX12_goesPairs cX12_goesPairs 7 { frames := 5, cells := 0, slots := 0, locals := 121 } [.ref h0, .int p0, .int p1, .int p2] D cy (wk_f147cc4b8 cy h0 p3 h1 w0 w1 w2 p4 p5 p6 p7 p8 p9 p10 p11 p12 p13 p14 w3 w4 w5 h2 w6 p15 p16 w7 h3 h4 p17 p18 w8 w9 w10 w11 w12 p19 w13 w14 w15 h1 f0 h2 f1 h3 f2 h4 f3) sz (fun u => ((-1) ≤ (u.2.1 0 0).toInt ∧ (u.2.1 0 0).toInt ≤ 10) ∧ ((-2147483648) ≤ (u.2.1 1 0).toInt ∧ (u.2.1 1 0).toInt ≤ 2147483647) ∧ True) (fun u => (wk_f147cc4b8 cy h0 p3 h1 w0 w1 w2 p4 p5 p6 p7 p8 p9 p10 p11 p12 p13 p14 w3 w4 w5 h2 w6 p15 p16 w7 h3 h4 (u.2.1 0 0) (u.2.1 1 0) w8 w9 w10 w11 w12 p19 w13 w14 w15 h1 f0 h2 f1 h3 (u.2.1 2) h4 (u.2.1 3))) 0 0 := by
  refine q_ent (own := RX12) (by decide) rfl (Nat.le_of_ble_eq_true rfl) (fun p e s m below meth c ls X hr hlk hnm hK hT h hA hl => ?_)
  obtain ⟨hx, hb, hml, hown, ht⟩ := id X
  replace hl : lv_has ls 7 [(0, .ref h0), (1, .int p0), (2, .int p1), (3, .int p2)] := hl
  refine lv_iload_n hx hb dX12_goesPairs_0 rfl (lv_at hl 1 rfl) ?_
  refine lv_if_ne (tgt := 70) hx hb dX12_goesPairs_1 (by decide) (fun c_1 => ?_) (fun c_1 => ?_)
  · replace c_1 := i_ne (x := p0) (y := 0) rfl (show (0 : Int32).toInt = 0 by decide) c_1
    refine lv_iload_n hx hb dX12_goesPairs_70 rfl (lv_at hl 1 rfl) ?_
    refine q_callSi (rest := []) (wr := (wk_f147cc4b8 cy h0 p3 h1 w0 w1 w2 p4 p5 p6 p7 p8 p9 p10 p11 p12 p13 p14 w3 w4 w5 h2 w6 p15 p16 w7 h3 h4 p17 p18 w8 w9 w10 w11 w12 p19 w13 w14 w15 h1 f0 h2 f1 h3 f2 h4 f3)) X hK hT hA h (fun sz => gX12_lowest_51df8cb l D cy p0 ⟨by omega, by omega⟩ sz) wm_7_67 wm_7_69 wm_1_12 hd_X12_lowest wm_7_68 ⟨Nat.le_of_ble_eq_true rfl, Nat.le_of_ble_eq_true rfl⟩ hl.1 rfl (Nat.le_of_ble_eq_true rfl) dX12_goesPairs_71 ⟨Nat.le_of_ble_eq_true rfl, Nat.le_of_ble_eq_true rfl⟩ [] [0, 1, 2, 3, 4] rfl rfl (by decide) rfl rfl (fun r_2 u_2 H locs w_2 h_2 => ?_)
    clear h
    obtain ⟨wr_2, y2_0, _⟩ := w_2
    replace h_2 : qW D _ _ (wk_f147cc4b8 cy h0 p3 h1 w0 w1 w2 p4 p5 p6 p7 p8 p9 p10 p11 p12 p13 p14 w3 w4 w5 h2 w6 p15 p16 w7 h3 h4 p17 p18 w8 w9 w10 w11 w12 p19 w13 w14 w15 h1 f0 h2 f1 h3 f2 h4 f3) _ _ := h_2
    refine lv_istore (lv' := [(4, .int r_2), (0, .ref h0), (1, .int p0), (2, .int p1), (3, .int p2)]) hx hb dX12_goesPairs_74 hl (by decide) rfl (fun ls_3 hl_3 => ?_)
    clear hl
    refine lv_iload_n hx hb dX12_goesPairs_76 rfl (lv_at hl_3 2 rfl) ?_
    refine lv_iconst (v := 1) hx hb dX12_goesPairs_77 (by decide) ?_
    refine lv_iload hx hb dX12_goesPairs_78 (lv_at hl_3 0 rfl) ?_
    refine lv_ishl hx hb dX12_goesPairs_80 ?_
    obtain ⟨z_4, ez_4, hz_4⟩ := e_shlk (p := r_2) 9 (by decide) rfl (by omega) (by omega)
    refine q_c z_4 ez_4 ?_
    refine lv_iconst (v := (-1)) hx hb dX12_goesPairs_81 (by decide) ?_
    refine lv_ixor hx hb dX12_goesPairs_82 ?_
    obtain ⟨z_5, ez_5, hz_5⟩ := e_any (z_4 ^^^ (-1))
    refine q_c z_5 ez_5 ?_
    refine lv_iand hx hb dX12_goesPairs_83 ?_
    obtain ⟨z_6, ez_6, hz_6⟩ := e_and1 (x := p0) (y := z_5) rfl (by omega)
    refine q_c z_6 ez_6 ?_
    have rs_7 := rest_low 6 (by omega) y2_0 (by omega) ez_4 ez_5 ez_6
    refine lv_istore (lv' := [(5, .int z_6), (4, .int r_2), (0, .ref h0), (1, .int p0), (2, .int p1), (3, .int p2)]) hx hb dX12_goesPairs_84 hl_3 (by decide) rfl (fun ls_8 hl_8 => ?_)
    clear hl_3
    refine lv_iload hx hb dX12_goesPairs_86 (lv_at hl_8 1 rfl) ?_
    refine lv_iconst (v := 1) hx hb dX12_goesPairs_88 (by decide) ?_
    refine lv_iadd hx hb dX12_goesPairs_89 ?_
    obtain ⟨z_9, ez_9, hz_9⟩ := e_add (x := r_2) (y := 1) rfl (show (1 : Int32).toInt = 1 by decide) (by omega) (by omega)
    refine q_c z_9 ez_9 ?_
    clear ez_9
    refine lv_istore (lv' := [(6, .int z_9), (5, .int z_6), (4, .int r_2), (0, .ref h0), (1, .int p0), (2, .int p1), (3, .int p2)]) hx hb dX12_goesPairs_90 hl_8 (by decide) rfl (fun ls_10 hl_10 => ?_)
    clear hl_8
    refine q_wl (fun (q : Int32 × Int32 × Int32) H locs ls => match q with | (v92_11_0, v92_11_1, v92_11_2) => ∃ v92_11_3 : Nat → Int32, ∃ v92_11_4 : Nat → Int32, (1 ≤ (v92_11_0).toInt ∧ (v92_11_0).toInt ≤ 10) ∧ ((-1) ≤ (v92_11_1).toInt ∧ (v92_11_1).toInt ≤ 10) ∧ ((-2147483648) ≤ (v92_11_2).toInt ∧ (v92_11_2).toInt ≤ 2147483647) ∧ qW D (va_A (wk_f147cc4b8 cy h0 p3 h1 w0 w1 w2 p4 p5 p6 p7 p8 p9 p10 p11 p12 p13 p14 w3 w4 w5 h2 w6 p15 p16 w7 h3 h4 p17 p18 w8 w9 w10 w11 w12 p19 w13 w14 w15 h1 f0 h2 f1 h3 f2 h4 f3) sz) s.heap (wk_f147cc4b8 cy h0 p3 h1 w0 w1 w2 p4 p5 p6 p7 p8 p9 p10 p11 p12 p13 p14 w3 w4 w5 h2 w6 p15 p16 w7 h3 h4 v92_11_1 v92_11_2 w8 w9 w10 w11 w12 p19 w13 w14 w15 h1 f0 h2 f1 h3 v92_11_3 h4 v92_11_4) H locs ∧ lv_has ls 7 [(0, .ref h0), (1, .int p0), (2, .int p1), (3, .int p2), (4, .int r_2), (5, .int z_6), (6, .int v92_11_0)]) (fun (q : Int32 × Int32 × Int32) => match q with | (v92_11_0, v92_11_1, v92_11_2) => (11 - (v92_11_0).toInt).toNat) (fun q_92 ih_92 H locs ls hP => ?_) (z_9, p17, p18) ⟨f2, f3, ⟨by omega, by omega⟩, hp17, hp18, h_2, (lv_sub hl_10 [3, 4, 5, 6, 2, 1, 0] rfl)⟩
    obtain ⟨v92_11_0, v92_11_1, v92_11_2⟩ := q_92
    obtain ⟨v92_11_3, v92_11_4, hv92_11_0, hv92_11_1, hv92_11_2, h, hl⟩ := hP
    refine lv_iload hx hb dX12_goesPairs_92 (lv_at hl 6 rfl) ?_
    refine lv_aload_n hx hb dX12_goesPairs_94 rfl (lv_at hl 0 rfl) ?_
    refine q_get X hK h 0 rfl rfl wf_12 1 (by decide) rfl wm_5_171 dX12_goesPairs_95 ?_
    refine lv_iconst (v := 2) hx hb dX12_goesPairs_98 (by decide) ?_
    refine q_iald X hK h 1 rfl (q_in (by decide +kernel)) dX12_goesPairs_99 ?_
    obtain ⟨z_12, ez_12, hz_12⟩ := al_P rf0 (x := 2) (show (2 : Int32).toInt = 2 by decide) (by omega) (by omega)
    refine q_c z_12 ez_12 ?_
    clear ez_12
    refine lv_icmp_ge (tgt := 196) hx hb dX12_goesPairs_100 (by decide) (fun c_13 => ?_) (fun c_13 => ?_)
    · replace c_13 := i_le (x := z_12) (y := v92_11_0) rfl rfl c_13
      refine lv_aload_n hx hb dX12_goesPairs_196 rfl (lv_at hl 0 rfl) ?_
      refine q_get X hK h 0 rfl rfl wf_12 24 (by decide) rfl wm_5_194 dX12_goesPairs_197 ?_
      refine lv_iload hx hb dX12_goesPairs_200 (lv_at hl 4 rfl) ?_
      refine lv_iconst (v := (-1)) hx hb dX12_goesPairs_202 (by decide) ?_
      refine q_iast X hK h 3 rfl (i_in rfl (by omega) (by omega)) dX12_goesPairs_203 (fun H locs h_15 => ?_)
      clear h
      replace h_15 : qW D _ _ (wk_f147cc4b8 cy h0 p3 h1 w0 w1 w2 p4 p5 p6 p7 p8 p9 p10 p11 p12 p13 p14 w3 w4 w5 h2 w6 p15 p16 w7 h3 h4 v92_11_1 v92_11_2 w8 w9 w10 w11 w12 p19 w13 w14 w15 h1 f0 h2 f1 h3 (upd v92_11_3 (Int32.toNatClampNeg r_2) (-1)) h4 v92_11_4) _ _ := h_15
      obtain ⟨F_14, eF_14⟩ : ∃ z, (upd v92_11_3 (Int32.toNatClampNeg r_2) (-1)) = z := ⟨_, rfl⟩
      rw [eF_14] at h_15
      clear eF_14
      refine lv_aload_n hx hb dX12_goesPairs_204 rfl (lv_at hl 0 rfl) ?_
      refine lv_iload hx hb dX12_goesPairs_205 (lv_at hl 5 rfl) ?_
      refine lv_iload_n hx hb dX12_goesPairs_207 rfl (lv_at hl 2 rfl) ?_
      refine lv_iload_n hx hb dX12_goesPairs_208 rfl (lv_at hl 3 rfl) ?_
      refine q_callVv (rest := []) (wr := []) X hK hT hA h_15 (fun sz => gX12_goesPairs_c3c2d4b l D cy h0 h1 h2 h3 h4 z_6 p1 p2 p3 w0 w1 w2 p4 p5 p6 p7 p8 p9 p10 p11 p12 p13 p14 w3 w4 w5 w6 p15 p16 w7 v92_11_1 v92_11_2 w8 w9 w10 w11 w12 p19 w13 w14 w15 f0 p20 f1 F_14 v92_11_4 ⟨by omega, by omega⟩ (bw hp1 (by decide) (by decide)) (i_rng _) hp3 hp4 hp5 hp6 hp7 (i_rng _) hp9 (i_rng _) (i_rng _) (i_rng _) (i_rng _) (i_rng _) (i_rng _) (i_rng _) hv92_11_1 (i_rng _) (i_rng _) hp20 htf0_84 rf0 (rg_wide rf1 (by decide) (by decide)) ((show _ % 128 = 0 from rs_7.1)) sz) wm_7_116 wm_7_119 wm_1_12 hd_X12_goesPairs wm_7_118 wp_7_4 (ci := 12) (q0 := 0) rfl rfl ⟨Nat.le_of_ble_eq_true rfl, Nat.le_of_ble_eq_true rfl⟩ hl.1 rfl (Nat.le_of_ble_eq_true rfl) dX12_goesPairs_209 ⟨Nat.le_of_ble_eq_true rfl, Nat.le_of_ble_eq_true rfl⟩ [0, 1, 2, 3, 4] [] rfl rfl (by decide) rfl rfl (fun u_16 H locs w_16 h_16 => ?_)
      clear h_15
      obtain ⟨w16_0, w16_1, _⟩ := w_16
      replace h_16 : qW D _ _ (wk_f147cc4b8 cy h0 p3 h1 w0 w1 w2 p4 p5 p6 p7 p8 p9 p10 p11 p12 p13 p14 w3 w4 w5 h2 w6 p15 p16 w7 h3 h4 (u_16.2.1 0 0) (u_16.2.1 1 0) w8 w9 w10 w11 w12 p19 w13 w14 w15 h1 f0 h2 f1 h3 (u_16.2.1 2) h4 (u_16.2.1 3)) _ _ := h_16
      exact q_vret X hr hlk hK h_16 (fun _ => 0, (vcons (fun _ => (u_16.2.1 0 0)) (vcons (fun _ => (u_16.2.1 1 0)) (vcons (u_16.2.1 2) (vcons (u_16.2.1 3) (fun _ => (fun _ => 0)))))), fun _ _ => 0) ⟨w16_0, w16_1, trivial⟩ [0, 1, 2, 3, 4] rfl rfl dX12_goesPairs_212 (Nat.le_of_ble_eq_true rfl) (Nat.le_of_ble_eq_true rfl)
    · replace c_13 := i_nle (x := z_12) (y := v92_11_0) rfl rfl c_13
      refine lv_iload hx hb dX12_goesPairs_103 (lv_at hl 5 rfl) ?_
      refine lv_aload_n hx hb dX12_goesPairs_105 rfl (lv_at hl 0 rfl) ?_
      refine q_get X hK h 0 rfl rfl wf_12 19 (by decide) rfl wm_5_189 dX12_goesPairs_106 ?_
      refine lv_iload hx hb dX12_goesPairs_109 (lv_at hl 4 rfl) ?_
      refine q_iald X hK h 2 rfl (i_in rfl (by omega) (by omega)) dX12_goesPairs_111 ?_
      obtain ⟨z_17, ez_17, hz_17⟩ := rg_get rf1 (x := r_2) rfl (by omega) (by omega)
      refine q_c z_17 ez_17 ?_
      clear ez_17
      refine lv_iand hx hb dX12_goesPairs_112 ?_
      obtain ⟨z_18, ez_18, hz_18⟩ := e_and2 (x := z_6) (y := z_17) rfl (by omega)
      refine q_c z_18 ez_18 ?_
      clear ez_18
      refine lv_i2l hx hb dX12_goesPairs_113 rfl ?_
      obtain ⟨z_19, ez_19, hz_19⟩ := e_i2l (x := z_18) rfl
      refine q_cl z_19 ez_19 ?_
      clear ez_19
      refine lv_iload hx hb dX12_goesPairs_114 (lv_at hl 6 rfl) ?_
      refine q_callSi (rest := []) (wr := (wk_f147cc4b8 cy h0 p3 h1 w0 w1 w2 p4 p5 p6 p7 p8 p9 p10 p11 p12 p13 p14 w3 w4 w5 h2 w6 p15 p16 w7 h3 h4 v92_11_1 v92_11_2 w8 w9 w10 w11 w12 p19 w13 w14 w15 h1 f0 h2 f1 h3 v92_11_3 h4 v92_11_4)) X hK hT hA h (fun sz => gX12_isIn_b0455a8 l D cy z_19 v92_11_0 ⟨by omega, by omega⟩ ⟨by omega, by omega⟩ sz) wm_6_167 wm_6_169 wm_1_12 hd_X12_isIn wm_6_168 ⟨Nat.le_of_ble_eq_true rfl, Nat.le_of_ble_eq_true rfl⟩ hl.1 rfl (Nat.le_of_ble_eq_true rfl) dX12_goesPairs_116 ⟨Nat.le_of_ble_eq_true rfl, Nat.le_of_ble_eq_true rfl⟩ [] [0, 1, 2, 3, 4] rfl rfl (by decide) rfl rfl (fun r_20 u_20 H locs w_20 h_20 => ?_)
      clear h
      obtain ⟨wr_20, _⟩ := w_20
      replace h_20 : qW D _ _ (wk_f147cc4b8 cy h0 p3 h1 w0 w1 w2 p4 p5 p6 p7 p8 p9 p10 p11 p12 p13 p14 w3 w4 w5 h2 w6 p15 p16 w7 h3 h4 v92_11_1 v92_11_2 w8 w9 w10 w11 w12 p19 w13 w14 w15 h1 f0 h2 f1 h3 v92_11_3 h4 v92_11_4) _ _ := h_20
      refine q_jn (pc2 := 190) (fun H locs ls st => ∃ v190_21_0 : Int32, ∃ v190_21_1 : Int32, ∃ v190_21_2 : Nat → Int32, ∃ v190_21_3 : Nat → Int32, ((-1) ≤ (v190_21_0).toInt ∧ (v190_21_0).toInt ≤ 10) ∧ ((-2147483648) ≤ (v190_21_1).toInt ∧ (v190_21_1).toInt ≤ 2147483647) ∧ st = [] ∧ qW D (va_A (wk_f147cc4b8 cy h0 p3 h1 w0 w1 w2 p4 p5 p6 p7 p8 p9 p10 p11 p12 p13 p14 w3 w4 w5 h2 w6 p15 p16 w7 h3 h4 p17 p18 w8 w9 w10 w11 w12 p19 w13 w14 w15 h1 f0 h2 f1 h3 f2 h4 f3) sz) s.heap (wk_f147cc4b8 cy h0 p3 h1 w0 w1 w2 p4 p5 p6 p7 p8 p9 p10 p11 p12 p13 p14 w3 w4 w5 h2 w6 p15 p16 w7 h3 h4 v190_21_0 v190_21_1 w8 w9 w10 w11 w12 p19 w13 w14 w15 h1 f0 h2 f1 h3 v190_21_2 h4 v190_21_3) H locs ∧ lv_has ls 7 [(0, .ref h0), (1, .int p0), (2, .int p1), (3, .int p2), (4, .int r_2), (5, .int z_6), (6, .int v92_11_0)]) (fun H locs ls st hP => ?_) (fun J_190 => ?_)
      · obtain ⟨v190_21_0, v190_21_1, v190_21_2, v190_21_3, hv190_21_0, hv190_21_1, rfl, h, hl⟩ := hP
        obtain ⟨z_22, ez_22, hz_22⟩ := e_add (x := v92_11_0) (y := Int32.ofInt 1) rfl (b := 1) (by decide) (by omega) (by omega)
        refine lv_iinc (v := z_22) (lv' := [(6, .int z_22), (0, .ref h0), (1, .int p0), (2, .int p1), (3, .int p2), (4, .int r_2), (5, .int z_6)]) hx hb dX12_goesPairs_190 hl (k := 6) rfl ez_22 (by decide) rfl (fun ls_22 hl_22 => ?_)
        clear hl
        refine lv_goto (tgt := 92) hx hb dX12_goesPairs_193 (by decide) ?_
        exact ih_92 (z_22, v190_21_0, v190_21_1) (by show (11 - (z_22).toInt).toNat < (11 - (v92_11_0).toInt).toNat; omega) _ _ _ ⟨v190_21_2, v190_21_3, ⟨by omega, by omega⟩, hv190_21_0, hv190_21_1, h, (lv_sub hl_22 [1, 2, 3, 4, 5, 6, 0] rfl)⟩
      · skip
        refine lv_if_ne (tgt := 125) hx hb dX12_goesPairs_119 (by decide) (fun c_23 => ?_) (fun c_23 => ?_)
        · replace c_23 := i_ne (x := r_20) (y := 0) rfl (show (0 : Int32).toInt = 0 by decide) c_23
          refine lv_aload_n hx hb dX12_goesPairs_125 rfl (lv_at hl 0 rfl) ?_
          refine q_get X hK h_20 0 rfl rfl wf_12 24 (by decide) rfl wm_5_194 dX12_goesPairs_126 ?_
          refine lv_iload hx hb dX12_goesPairs_129 (lv_at hl 4 rfl) ?_
          refine lv_iload hx hb dX12_goesPairs_131 (lv_at hl 6 rfl) ?_
          refine q_iast X hK h_20 3 rfl (i_in rfl (by omega) (by omega)) dX12_goesPairs_133 (fun H locs h_25 => ?_)
          clear h_20
          replace h_25 : qW D _ _ (wk_f147cc4b8 cy h0 p3 h1 w0 w1 w2 p4 p5 p6 p7 p8 p9 p10 p11 p12 p13 p14 w3 w4 w5 h2 w6 p15 p16 w7 h3 h4 v92_11_1 v92_11_2 w8 w9 w10 w11 w12 p19 w13 w14 w15 h1 f0 h2 f1 h3 (upd v92_11_3 (Int32.toNatClampNeg r_2) v92_11_0) h4 v92_11_4) _ _ := h_25
          obtain ⟨F_24, eF_24⟩ : ∃ z, (upd v92_11_3 (Int32.toNatClampNeg r_2) v92_11_0) = z := ⟨_, rfl⟩
          rw [eF_24] at h_25
          clear eF_24
          refine lv_aload_n hx hb dX12_goesPairs_134 rfl (lv_at hl 0 rfl) ?_
          refine q_get X hK h_25 0 rfl rfl wf_12 24 (by decide) rfl wm_5_194 dX12_goesPairs_135 ?_
          refine lv_iload hx hb dX12_goesPairs_138 (lv_at hl 6 rfl) ?_
          refine lv_iload hx hb dX12_goesPairs_140 (lv_at hl 4 rfl) ?_
          refine q_iast X hK h_25 3 rfl (i_in rfl (by omega) (by omega)) dX12_goesPairs_142 (fun H locs h_27 => ?_)
          clear h_25
          replace h_27 : qW D _ _ (wk_f147cc4b8 cy h0 p3 h1 w0 w1 w2 p4 p5 p6 p7 p8 p9 p10 p11 p12 p13 p14 w3 w4 w5 h2 w6 p15 p16 w7 h3 h4 v92_11_1 v92_11_2 w8 w9 w10 w11 w12 p19 w13 w14 w15 h1 f0 h2 f1 h3 (upd F_24 (Int32.toNatClampNeg v92_11_0) r_2) h4 v92_11_4) _ _ := h_27
          obtain ⟨F_26, eF_26⟩ : ∃ z, (upd F_24 (Int32.toNatClampNeg v92_11_0) r_2) = z := ⟨_, rfl⟩
          rw [eF_26] at h_27
          clear eF_26
          refine lv_aload_n hx hb dX12_goesPairs_143 rfl (lv_at hl 0 rfl) ?_
          refine lv_iload hx hb dX12_goesPairs_144 (lv_at hl 5 rfl) ?_
          refine lv_iconst (v := 1) hx hb dX12_goesPairs_146 (by decide) ?_
          refine lv_iload hx hb dX12_goesPairs_147 (lv_at hl 6 rfl) ?_
          refine lv_ishl hx hb dX12_goesPairs_149 ?_
          obtain ⟨z_28, ez_28, hz_28⟩ := e_shlk (p := v92_11_0) 9 (by decide) rfl (by omega) (by omega)
          refine q_c z_28 ez_28 ?_
          clear ez_28
          refine lv_iconst (v := (-1)) hx hb dX12_goesPairs_150 (by decide) ?_
          refine lv_ixor hx hb dX12_goesPairs_151 ?_
          refine q_any (fun z_29 hz_29 => ?_)
          refine lv_iand hx hb dX12_goesPairs_152 ?_
          obtain ⟨z_30, ez_30, hz_30⟩ := e_and1 (x := z_6) (y := z_29) rfl (by omega)
          refine q_c z_30 ez_30 ?_
          have ad_31 := and_div 7 (by omega) rs_7.1 ez_30
          refine lv_iload_n hx hb dX12_goesPairs_153 rfl (lv_at hl 2 rfl) ?_
          refine lv_iconst (v := 1) hx hb dX12_goesPairs_154 (by decide) ?_
          refine lv_iadd hx hb dX12_goesPairs_155 ?_
          obtain ⟨z_32, ez_32, hz_32⟩ := e_add (x := p1) (y := 1) rfl (show (1 : Int32).toInt = 1 by decide) (by omega) (by omega)
          refine q_c z_32 ez_32 ?_
          clear ez_32
          refine lv_iload_n hx hb dX12_goesPairs_156 rfl (lv_at hl 3 rfl) ?_
          refine lv_aload_n hx hb dX12_goesPairs_157 rfl (lv_at hl 0 rfl) ?_
          refine q_get X hK h_27 0 rfl rfl wf_12 1 (by decide) rfl wm_5_171 dX12_goesPairs_158 ?_
          refine lv_bipush (v := 42) hx hb dX12_goesPairs_161 (by decide) ?_
          refine lv_iload hx hb dX12_goesPairs_163 (lv_at hl 4 rfl) ?_
          refine lv_iadd hx hb dX12_goesPairs_165 ?_
          obtain ⟨z_33, ez_33, hz_33⟩ := e_add (x := 42) (y := r_2) (show (42 : Int32).toInt = 42 by decide) rfl (by omega) (by omega)
          refine q_c z_33 ez_33 ?_
          clear ez_33
          refine q_iald X hK h_27 1 rfl (i_in rfl (by omega) (by omega)) dX12_goesPairs_166 ?_
          refine q_any (fun z_34 hz_34 => ?_)
          refine lv_iadd hx hb dX12_goesPairs_167 ?_
          refine q_any (fun z_35 hz_35 => ?_)
          refine lv_aload_n hx hb dX12_goesPairs_168 rfl (lv_at hl 0 rfl) ?_
          refine q_get X hK h_27 0 rfl rfl wf_12 1 (by decide) rfl wm_5_171 dX12_goesPairs_169 ?_
          refine lv_bipush (v := 42) hx hb dX12_goesPairs_172 (by decide) ?_
          refine lv_iload hx hb dX12_goesPairs_174 (lv_at hl 6 rfl) ?_
          refine lv_iadd hx hb dX12_goesPairs_176 ?_
          obtain ⟨z_36, ez_36, hz_36⟩ := e_add (x := 42) (y := v92_11_0) (show (42 : Int32).toInt = 42 by decide) rfl (by omega) (by omega)
          refine q_c z_36 ez_36 ?_
          clear ez_36
          refine q_iald X hK h_27 1 rfl (i_in rfl (by omega) (by omega)) dX12_goesPairs_177 ?_
          refine q_any (fun z_37 hz_37 => ?_)
          refine lv_iadd hx hb dX12_goesPairs_178 ?_
          refine q_any (fun z_38 hz_38 => ?_)
          refine q_callVv (rest := []) (wr := []) X hK hT hA h_27 (fun sz => gX12_goesPairs_c3c2d4b l D cy h0 h1 h2 h3 h4 z_30 z_32 z_38 p3 w0 w1 w2 p4 p5 p6 p7 p8 p9 p10 p11 p12 p13 p14 w3 w4 w5 w6 p15 p16 w7 v92_11_1 v92_11_2 w8 w9 w10 w11 w12 p19 w13 w14 w15 f0 p20 f1 F_26 v92_11_4 ⟨by omega, by omega⟩ ⟨by omega, by omega⟩ (i_rng _) hp3 hp4 hp5 hp6 hp7 (i_rng _) hp9 (i_rng _) (i_rng _) (i_rng _) (i_rng _) (i_rng _) (i_rng _) (i_rng _) hv92_11_1 (i_rng _) (i_rng _) hp20 htf0_84 rf0 (rg_wide rf1 (by decide) (by decide)) ((show _ % 128 = 0 from ad_31)) sz) wm_7_116 wm_7_119 wm_1_12 hd_X12_goesPairs wm_7_118 wp_7_4 (ci := 12) (q0 := 0) rfl rfl ⟨Nat.le_of_ble_eq_true rfl, Nat.le_of_ble_eq_true rfl⟩ hl.1 rfl (Nat.le_of_ble_eq_true rfl) dX12_goesPairs_179 ⟨Nat.le_of_ble_eq_true rfl, Nat.le_of_ble_eq_true rfl⟩ [0, 1, 2, 3, 4] [] rfl rfl (by decide) rfl rfl (fun u_39 H locs w_39 h_39 => ?_)
          clear h_27
          obtain ⟨w39_0, w39_1, _⟩ := w_39
          replace h_39 : qW D _ _ (wk_f147cc4b8 cy h0 p3 h1 w0 w1 w2 p4 p5 p6 p7 p8 p9 p10 p11 p12 p13 p14 w3 w4 w5 h2 w6 p15 p16 w7 h3 h4 (u_39.2.1 0 0) (u_39.2.1 1 0) w8 w9 w10 w11 w12 p19 w13 w14 w15 h1 f0 h2 f1 h3 (u_39.2.1 2) h4 (u_39.2.1 3)) _ _ := h_39
          refine lv_aload_n hx hb dX12_goesPairs_182 rfl (lv_at hl 0 rfl) ?_
          refine q_get X hK h_39 0 rfl rfl wf_12 24 (by decide) rfl wm_5_194 dX12_goesPairs_183 ?_
          refine lv_iload hx hb dX12_goesPairs_186 (lv_at hl 6 rfl) ?_
          refine lv_iconst (v := (-1)) hx hb dX12_goesPairs_188 (by decide) ?_
          refine q_iast X hK h_39 3 rfl (i_in rfl (by omega) (by omega)) dX12_goesPairs_189 (fun H locs h_41 => ?_)
          clear h_39
          replace h_41 : qW D _ _ (wk_f147cc4b8 cy h0 p3 h1 w0 w1 w2 p4 p5 p6 p7 p8 p9 p10 p11 p12 p13 p14 w3 w4 w5 h2 w6 p15 p16 w7 h3 h4 (u_39.2.1 0 0) (u_39.2.1 1 0) w8 w9 w10 w11 w12 p19 w13 w14 w15 h1 f0 h2 f1 h3 (upd (u_39.2.1 2) (Int32.toNatClampNeg v92_11_0) (-1)) h4 (u_39.2.1 3)) _ _ := h_41
          obtain ⟨F_40, eF_40⟩ : ∃ z, (upd (u_39.2.1 2) (Int32.toNatClampNeg v92_11_0) (-1)) = z := ⟨_, rfl⟩
          rw [eF_40] at h_41
          clear eF_40
          exact J_190 _ _ _ _ ⟨(u_39.2.1 0 0), (u_39.2.1 1 0), F_40, (u_39.2.1 3), w39_0, w39_1, rfl, h_41, (lv_sub hl [0, 1, 2, 3, 4, 5, 6] rfl)⟩
        · replace c_23 := i_eq (x := r_20) (y := 0) rfl (show (0 : Int32).toInt = 0 by decide) c_23
          refine lv_goto (tgt := 190) hx hb dX12_goesPairs_122 (by decide) ?_
          exact J_190 _ _ _ _ ⟨v92_11_1, v92_11_2, v92_11_3, v92_11_4, hv92_11_1, hv92_11_2, rfl, h_20, (lv_sub hl [0, 1, 2, 3, 4, 5, 6] rfl)⟩
  · replace c_1 := i_eq (x := p0) (y := 0) rfl (show (0 : Int32).toInt = 0 by decide) c_1
    refine lv_iload_n hx hb dX12_goesPairs_4 rfl (lv_at hl 2 rfl) ?_
    refine lv_aload_n hx hb dX12_goesPairs_5 rfl (lv_at hl 0 rfl) ?_
    refine q_get X hK h 0 rfl rfl wf_12 26 (by decide) rfl wm_5_196 dX12_goesPairs_6 ?_
    refine q_jn (pc2 := 28) (fun H locs ls st => st = [] ∧ qW D (va_A (wk_f147cc4b8 cy h0 p3 h1 w0 w1 w2 p4 p5 p6 p7 p8 p9 p10 p11 p12 p13 p14 w3 w4 w5 h2 w6 p15 p16 w7 h3 h4 p17 p18 w8 w9 w10 w11 w12 p19 w13 w14 w15 h1 f0 h2 f1 h3 f2 h4 f3) sz) s.heap (wk_f147cc4b8 cy h0 p3 h1 w0 w1 w2 p4 p5 p6 p7 p8 p9 p10 p11 p12 p13 p14 w3 w4 w5 h2 w6 p15 p16 w7 h3 h4 p17 p18 w8 w9 w10 w11 w12 p19 w13 w14 w15 h1 f0 h2 f1 h3 f2 h4 f3) H locs ∧ lv_has ls 7 [(0, .ref h0), (1, .int p0), (2, .int p1), (3, .int p2)]) (fun H locs ls st hP => ?_) (fun J_28 => ?_)
    · obtain ⟨rfl, h, hl⟩ := hP
      exact q_vret X hr hlk hK h (fun _ => 0, (vcons (fun _ => p17) (vcons (fun _ => p18) (vcons f2 (vcons f3 (fun _ => (fun _ => 0)))))), fun _ _ => 0) ⟨hp17, hp18, trivial⟩ [0, 1, 2, 3, 4] rfl rfl dX12_goesPairs_28 (Nat.le_of_ble_eq_true rfl) (Nat.le_of_ble_eq_true rfl)
    · skip
      refine lv_icmp_lt (tgt := 28) hx hb dX12_goesPairs_9 (by decide) (fun c_43 => ?_) (fun c_43 => ?_)
      · replace c_43 := i_lt (x := p1) (y := p17) rfl rfl c_43
        exact J_28 _ _ _ _ ⟨rfl, h, (lv_sub hl [0, 1, 2, 3] rfl)⟩
      · replace c_43 := i_nlt (x := p1) (y := p17) rfl rfl c_43
        refine lv_iload_n hx hb dX12_goesPairs_12 rfl (lv_at hl 2 rfl) ?_
        refine lv_aload_n hx hb dX12_goesPairs_13 rfl (lv_at hl 0 rfl) ?_
        refine q_get X hK h 0 rfl rfl wf_12 26 (by decide) rfl wm_5_196 dX12_goesPairs_14 ?_
        refine q_jn (pc2 := 29) (fun H locs ls st => st = [] ∧ qW D (va_A (wk_f147cc4b8 cy h0 p3 h1 w0 w1 w2 p4 p5 p6 p7 p8 p9 p10 p11 p12 p13 p14 w3 w4 w5 h2 w6 p15 p16 w7 h3 h4 p17 p18 w8 w9 w10 w11 w12 p19 w13 w14 w15 h1 f0 h2 f1 h3 f2 h4 f3) sz) s.heap (wk_f147cc4b8 cy h0 p3 h1 w0 w1 w2 p4 p5 p6 p7 p8 p9 p10 p11 p12 p13 p14 w3 w4 w5 h2 w6 p15 p16 w7 h3 h4 p17 p18 w8 w9 w10 w11 w12 p19 w13 w14 w15 h1 f0 h2 f1 h3 f2 h4 f3) H locs ∧ lv_has ls 7 [(0, .ref h0), (1, .int p0), (2, .int p1), (3, .int p2)]) (fun H locs ls st hP => ?_) (fun J_29 => ?_)
        · obtain ⟨rfl, h, hl⟩ := hP
          refine lv_aload_n hx hb dX12_goesPairs_29 rfl (lv_at hl 0 rfl) ?_
          refine lv_iload_n hx hb dX12_goesPairs_30 rfl (lv_at hl 2 rfl) ?_
          refine q_put (v := .int p1) X hK h 0 rfl rfl wf_12 tyX12 tyX12_ok nmX12 26 (by decide) wm_5_196 rfl rfl rfl (Nat.le_of_ble_eq_true rfl) dX12_goesPairs_31 (fun H locs h_45 => ?_)
          clear h
          replace h_45 : qW D _ _ (wk_f147cc4b8 cy h0 p3 h1 w0 w1 w2 p4 p5 p6 p7 p8 p9 p10 p11 p12 p13 p14 w3 w4 w5 h2 w6 p15 p16 w7 h3 h4 p1 p18 w8 w9 w10 w11 w12 p19 w13 w14 w15 h1 f0 h2 f1 h3 f2 h4 f3) _ _ := h_45
          refine lv_aload_n hx hb dX12_goesPairs_34 rfl (lv_at hl 0 rfl) ?_
          refine lv_iload_n hx hb dX12_goesPairs_35 rfl (lv_at hl 3 rfl) ?_
          refine q_put (v := .int p2) X hK h_45 0 rfl rfl wf_12 tyX12 tyX12_ok nmX12 27 (by decide) wm_5_197 rfl rfl rfl (Nat.le_of_ble_eq_true rfl) dX12_goesPairs_36 (fun H locs h_46 => ?_)
          clear h_45
          replace h_46 : qW D _ _ (wk_f147cc4b8 cy h0 p3 h1 w0 w1 w2 p4 p5 p6 p7 p8 p9 p10 p11 p12 p13 p14 w3 w4 w5 h2 w6 p15 p16 w7 h3 h4 p1 p2 w8 w9 w10 w11 w12 p19 w13 w14 w15 h1 f0 h2 f1 h3 f2 h4 f3) _ _ := h_46
          refine lv_iconst (v := 0) hx hb dX12_goesPairs_39 (by decide) ?_
          refine lv_istore (lv' := [(4, .int 0), (0, .ref h0), (1, .int p0), (2, .int p1), (3, .int p2)]) hx hb dX12_goesPairs_40 hl (by decide) rfl (fun ls_47 hl_47 => ?_)
          clear hl
          refine q_wl (fun (v42_48_0 : Int32) H locs ls => ∃ v42_48_1 : Nat → Int32, (0 ≤ (v42_48_0).toInt ∧ (v42_48_0).toInt ≤ 10) ∧ qW D (va_A (wk_f147cc4b8 cy h0 p3 h1 w0 w1 w2 p4 p5 p6 p7 p8 p9 p10 p11 p12 p13 p14 w3 w4 w5 h2 w6 p15 p16 w7 h3 h4 p17 p18 w8 w9 w10 w11 w12 p19 w13 w14 w15 h1 f0 h2 f1 h3 f2 h4 f3) sz) s.heap (wk_f147cc4b8 cy h0 p3 h1 w0 w1 w2 p4 p5 p6 p7 p8 p9 p10 p11 p12 p13 p14 w3 w4 w5 h2 w6 p15 p16 w7 h3 h4 p1 p2 w8 w9 w10 w11 w12 p19 w13 w14 w15 h1 f0 h2 f1 h3 f2 h4 v42_48_1) H locs ∧ lv_has ls 7 [(0, .ref h0), (1, .int p0), (2, .int p1), (3, .int p2), (4, .int v42_48_0)]) (fun (v42_48_0 : Int32) => (11 - (v42_48_0).toInt).toNat) (fun q_42 ih_42 H locs ls hP => ?_) 0 ⟨f3, ⟨by decide +kernel, by decide +kernel⟩, h_46, (lv_sub hl_47 [1, 2, 3, 4, 0] rfl)⟩
          obtain ⟨v42_48_0, rfl⟩ : ∃ z, z = q_42 := ⟨_, rfl⟩
          obtain ⟨v42_48_1, hv42_48_0, h, hl⟩ := hP
          refine lv_iload hx hb dX12_goesPairs_42 (lv_at hl 4 rfl) ?_
          refine lv_bipush (v := 10) hx hb dX12_goesPairs_44 (by decide) ?_
          refine lv_icmp_ge (tgt := 69) hx hb dX12_goesPairs_46 (by decide) (fun c_49 => ?_) (fun c_49 => ?_)
          · replace c_49 := i_le (x := 10) (y := v42_48_0) (show (10 : Int32).toInt = 10 by decide) rfl c_49
            exact q_vret X hr hlk hK h (fun _ => 0, (vcons (fun _ => p1) (vcons (fun _ => p2) (vcons f2 (vcons v42_48_1 (fun _ => (fun _ => 0)))))), fun _ _ => 0) ⟨(bw hp1 (by decide) (by decide)), hp2, trivial⟩ [0, 1, 2, 3, 4] rfl rfl dX12_goesPairs_69 (Nat.le_of_ble_eq_true rfl) (Nat.le_of_ble_eq_true rfl)
          · replace c_49 := i_nle (x := 10) (y := v42_48_0) (show (10 : Int32).toInt = 10 by decide) rfl c_49
            refine lv_aload_n hx hb dX12_goesPairs_49 rfl (lv_at hl 0 rfl) ?_
            refine q_get X hK h 0 rfl rfl wf_12 25 (by decide) rfl wm_5_195 dX12_goesPairs_50 ?_
            refine lv_iload hx hb dX12_goesPairs_53 (lv_at hl 4 rfl) ?_
            refine lv_aload_n hx hb dX12_goesPairs_55 rfl (lv_at hl 0 rfl) ?_
            refine q_get X hK h 0 rfl rfl wf_12 24 (by decide) rfl wm_5_194 dX12_goesPairs_56 ?_
            refine lv_iload hx hb dX12_goesPairs_59 (lv_at hl 4 rfl) ?_
            refine q_iald X hK h 3 rfl (i_in rfl (by omega) (by omega)) dX12_goesPairs_61 ?_
            refine q_any (fun z_50 hz_50 => ?_)
            refine q_iast X hK h 4 rfl (i_in rfl (by omega) (by omega)) dX12_goesPairs_62 (fun H locs h_52 => ?_)
            clear h
            replace h_52 : qW D _ _ (wk_f147cc4b8 cy h0 p3 h1 w0 w1 w2 p4 p5 p6 p7 p8 p9 p10 p11 p12 p13 p14 w3 w4 w5 h2 w6 p15 p16 w7 h3 h4 p1 p2 w8 w9 w10 w11 w12 p19 w13 w14 w15 h1 f0 h2 f1 h3 f2 h4 (upd v42_48_1 (Int32.toNatClampNeg v42_48_0) z_50)) _ _ := h_52
            obtain ⟨F_51, eF_51⟩ : ∃ z, (upd v42_48_1 (Int32.toNatClampNeg v42_48_0) z_50) = z := ⟨_, rfl⟩
            rw [eF_51] at h_52
            clear eF_51
            obtain ⟨z_53, ez_53, hz_53⟩ := e_add (x := v42_48_0) (y := Int32.ofInt 1) rfl (b := 1) (by decide) (by omega) (by omega)
            refine lv_iinc (v := z_53) (lv' := [(4, .int z_53), (0, .ref h0), (1, .int p0), (2, .int p1), (3, .int p2)]) hx hb dX12_goesPairs_63 hl (k := 4) rfl ez_53 (by decide) rfl (fun ls_53 hl_53 => ?_)
            clear hl
            refine lv_goto (tgt := 42) hx hb dX12_goesPairs_66 (by decide) ?_
            exact ih_42 z_53 (by show (11 - (z_53).toInt).toNat < (11 - (v42_48_0).toInt).toNat; omega) _ _ _ ⟨F_51, ⟨by omega, by omega⟩, h_52, (lv_sub hl_53 [1, 2, 3, 4, 0] rfl)⟩
        · skip
          refine lv_icmp_ne (tgt := 29) hx hb dX12_goesPairs_17 (by decide) (fun c_54 => ?_) (fun c_54 => ?_)
          · replace c_54 := i_ne (x := p1) (y := p17) rfl rfl c_54
            exact J_29 _ _ _ _ ⟨rfl, h, (lv_sub hl [0, 1, 2, 3] rfl)⟩
          · replace c_54 := i_eq (x := p1) (y := p17) rfl rfl c_54
            refine lv_iload_n hx hb dX12_goesPairs_20 rfl (lv_at hl 3 rfl) ?_
            refine lv_aload_n hx hb dX12_goesPairs_21 rfl (lv_at hl 0 rfl) ?_
            refine q_get X hK h 0 rfl rfl wf_12 27 (by decide) rfl wm_5_197 dX12_goesPairs_22 ?_
            refine lv_icmp_gt (tgt := 29) hx hb dX12_goesPairs_25 (by decide) (fun c_55 => ?_) (fun c_55 => ?_)
            · replace c_55 := i_lt (x := p18) (y := p2) rfl rfl c_55
              exact J_29 _ _ _ _ ⟨rfl, h, (lv_sub hl [0, 1, 2, 3] rfl)⟩
            · replace c_55 := i_nlt (x := p18) (y := p2) rfl rfl c_55
              exact J_28 _ _ _ _ ⟨rfl, h, (lv_sub hl [0, 1, 2, 3] rfl)⟩
set_option maxHeartbeats 4000000 in
set_option maxRecDepth 100000 in
theorem gX12_goesPairs_0def14e (l : Launch) (D : va_G) (cy : Nat → ClassId) (h0 : Nat) (h1 : Nat) (h2 : Nat) (h3 : Nat) (h4 : Nat) (p0 : Int32) (p1 : Int32) (p2 : Int32) (p3 : Int32) (w0 : Value) (w1 : Value) (w2 : Value) (p4 : Int32) (p5 : Int32) (p6 : Int32) (p7 : Int32) (p8 : Int32) (p9 : Int32) (p10 : Int32) (p11 : Int32) (p12 : Int32) (p13 : Int32) (p14 : Int32) (w3 : Value) (w4 : Value) (w5 : Value) (w6 : Value) (p15 : Int32) (p16 : Int32) (w7 : Value) (p17 : Int32) (p18 : Int32) (w8 : Value) (w9 : Value) (w10 : Value) (w11 : Value) (w12 : Value) (p19 : Int32) (w13 : Value) (w14 : Value) (w15 : Value) (f0 : Nat → Int32) (p20 : Int32) (f1 : Nat → Int32) (f2 : Nat → Int32) (f3 : Nat → Int32) (hp0 : 0 ≤ (p0).toInt ∧ (p0).toInt ≤ 1023) (hp1 : 0 ≤ (p1).toInt ∧ (p1).toInt ≤ 5) (hp2 : (-2147483648) ≤ (p2).toInt ∧ (p2).toInt ≤ 2147483647) (hp3 : 0 ≤ (p3).toInt ∧ (p3).toInt ≤ 0) (hp4 : 0 ≤ (p4).toInt ∧ (p4).toInt ≤ 900) (hp5 : 0 ≤ (p5).toInt ∧ (p5).toInt ≤ 900) (hp6 : 0 ≤ (p6).toInt ∧ (p6).toInt ≤ 900) (hp7 : 0 ≤ (p7).toInt ∧ (p7).toInt ≤ 900) (hp8 : (-2147483648) ≤ (p8).toInt ∧ (p8).toInt ≤ 2147483647) (hp9 : 0 ≤ (p9).toInt ∧ (p9).toInt ≤ 999) (hp10 : (-2147483648) ≤ (p10).toInt ∧ (p10).toInt ≤ 2147483647) (hp11 : (-2147483648) ≤ (p11).toInt ∧ (p11).toInt ≤ 2147483647) (hp12 : (-2147483648) ≤ (p12).toInt ∧ (p12).toInt ≤ 2147483647) (hp13 : (-2147483648) ≤ (p13).toInt ∧ (p13).toInt ≤ 2147483647) (hp14 : (-2147483648) ≤ (p14).toInt ∧ (p14).toInt ≤ 2147483647) (hp15 : (-2147483648) ≤ (p15).toInt ∧ (p15).toInt ≤ 2147483647) (hp16 : (-2147483648) ≤ (p16).toInt ∧ (p16).toInt ≤ 2147483647) (hp17 : (-1) ≤ (p17).toInt ∧ (p17).toInt ≤ 10) (hp18 : (-2147483648) ≤ (p18).toInt ∧ (p18).toInt ≤ 2147483647) (hp19 : (-2147483648) ≤ (p19).toInt ∧ (p19).toInt ≤ 2147483647) (hp20 : 0 ≤ (p20).toInt ∧ (p20).toInt ≤ 10) (htf0_84 : f0 84 = p20) (rf0 : AL f0) (rf1 : RG f1 10 0 1023) (hpre0 : (p0 : Int32).toInt % 32 = 0) (sz : Nat) : MV l yX12_goesPairs cX12_goesPairs 7 { frames := 6, cells := 0, slots := 0, locals := 147 } [.ref h0, .int p0, .int p1, .int p2] D cy (wk_f147cc4b8 cy h0 p3 h1 w0 w1 w2 p4 p5 p6 p7 p8 p9 p10 p11 p12 p13 p14 w3 w4 w5 h2 w6 p15 p16 w7 h3 h4 p17 p18 w8 w9 w10 w11 w12 p19 w13 w14 w15 h1 f0 h2 f1 h3 f2 h4 f3) sz (fun u => ((-1) ≤ (u.2.1 0 0).toInt ∧ (u.2.1 0 0).toInt ≤ 10) ∧ ((-2147483648) ≤ (u.2.1 1 0).toInt ∧ (u.2.1 1 0).toInt ≤ 2147483647) ∧ True) (fun u => (wk_f147cc4b8 cy h0 p3 h1 w0 w1 w2 p4 p5 p6 p7 p8 p9 p10 p11 p12 p13 p14 w3 w4 w5 h2 w6 p15 p16 w7 h3 h4 (u.2.1 0 0) (u.2.1 1 0) w8 w9 w10 w11 w12 p19 w13 w14 w15 h1 f0 h2 f1 h3 (u.2.1 2) h4 (u.2.1 3))) 0 0 := by
  refine q_ent (own := RX12) (by decide) rfl (Nat.le_of_ble_eq_true rfl) (fun p e s m below meth c ls X hr hlk hnm hK hT h hA hl => ?_)
  obtain ⟨hx, hb, hml, hown, ht⟩ := id X
  replace hl : lv_has ls 7 [(0, .ref h0), (1, .int p0), (2, .int p1), (3, .int p2)] := hl
  refine lv_iload_n hx hb dX12_goesPairs_0 rfl (lv_at hl 1 rfl) ?_
  refine lv_if_ne (tgt := 70) hx hb dX12_goesPairs_1 (by decide) (fun c_1 => ?_) (fun c_1 => ?_)
  · replace c_1 := i_ne (x := p0) (y := 0) rfl (show (0 : Int32).toInt = 0 by decide) c_1
    refine lv_iload_n hx hb dX12_goesPairs_70 rfl (lv_at hl 1 rfl) ?_
    refine q_callSi (rest := []) (wr := (wk_f147cc4b8 cy h0 p3 h1 w0 w1 w2 p4 p5 p6 p7 p8 p9 p10 p11 p12 p13 p14 w3 w4 w5 h2 w6 p15 p16 w7 h3 h4 p17 p18 w8 w9 w10 w11 w12 p19 w13 w14 w15 h1 f0 h2 f1 h3 f2 h4 f3)) X hK hT hA h (fun sz => gX12_lowest_51df8cb l D cy p0 ⟨by omega, by omega⟩ sz) wm_7_67 wm_7_69 wm_1_12 hd_X12_lowest wm_7_68 ⟨Nat.le_of_ble_eq_true rfl, Nat.le_of_ble_eq_true rfl⟩ hl.1 rfl (Nat.le_of_ble_eq_true rfl) dX12_goesPairs_71 ⟨Nat.le_of_ble_eq_true rfl, Nat.le_of_ble_eq_true rfl⟩ [] [0, 1, 2, 3, 4] rfl rfl (by decide) rfl rfl (fun r_2 u_2 H locs w_2 h_2 => ?_)
    clear h
    obtain ⟨wr_2, y2_0, _⟩ := w_2
    replace h_2 : qW D _ _ (wk_f147cc4b8 cy h0 p3 h1 w0 w1 w2 p4 p5 p6 p7 p8 p9 p10 p11 p12 p13 p14 w3 w4 w5 h2 w6 p15 p16 w7 h3 h4 p17 p18 w8 w9 w10 w11 w12 p19 w13 w14 w15 h1 f0 h2 f1 h3 f2 h4 f3) _ _ := h_2
    refine lv_istore (lv' := [(4, .int r_2), (0, .ref h0), (1, .int p0), (2, .int p1), (3, .int p2)]) hx hb dX12_goesPairs_74 hl (by decide) rfl (fun ls_3 hl_3 => ?_)
    clear hl
    refine lv_iload_n hx hb dX12_goesPairs_76 rfl (lv_at hl_3 2 rfl) ?_
    refine lv_iconst (v := 1) hx hb dX12_goesPairs_77 (by decide) ?_
    refine lv_iload hx hb dX12_goesPairs_78 (lv_at hl_3 0 rfl) ?_
    refine lv_ishl hx hb dX12_goesPairs_80 ?_
    obtain ⟨z_4, ez_4, hz_4⟩ := e_shlk (p := r_2) 9 (by decide) rfl (by omega) (by omega)
    refine q_c z_4 ez_4 ?_
    refine lv_iconst (v := (-1)) hx hb dX12_goesPairs_81 (by decide) ?_
    refine lv_ixor hx hb dX12_goesPairs_82 ?_
    obtain ⟨z_5, ez_5, hz_5⟩ := e_any (z_4 ^^^ (-1))
    refine q_c z_5 ez_5 ?_
    refine lv_iand hx hb dX12_goesPairs_83 ?_
    obtain ⟨z_6, ez_6, hz_6⟩ := e_and1 (x := p0) (y := z_5) rfl (by omega)
    refine q_c z_6 ez_6 ?_
    have rs_7 := rest_low 5 (by omega) y2_0 (by omega) ez_4 ez_5 ez_6
    refine lv_istore (lv' := [(5, .int z_6), (4, .int r_2), (0, .ref h0), (1, .int p0), (2, .int p1), (3, .int p2)]) hx hb dX12_goesPairs_84 hl_3 (by decide) rfl (fun ls_8 hl_8 => ?_)
    clear hl_3
    refine lv_iload hx hb dX12_goesPairs_86 (lv_at hl_8 1 rfl) ?_
    refine lv_iconst (v := 1) hx hb dX12_goesPairs_88 (by decide) ?_
    refine lv_iadd hx hb dX12_goesPairs_89 ?_
    obtain ⟨z_9, ez_9, hz_9⟩ := e_add (x := r_2) (y := 1) rfl (show (1 : Int32).toInt = 1 by decide) (by omega) (by omega)
    refine q_c z_9 ez_9 ?_
    clear ez_9
    refine lv_istore (lv' := [(6, .int z_9), (5, .int z_6), (4, .int r_2), (0, .ref h0), (1, .int p0), (2, .int p1), (3, .int p2)]) hx hb dX12_goesPairs_90 hl_8 (by decide) rfl (fun ls_10 hl_10 => ?_)
    clear hl_8
    refine q_wl (fun (q : Int32 × Int32 × Int32) H locs ls => match q with | (v92_11_0, v92_11_1, v92_11_2) => ∃ v92_11_3 : Nat → Int32, ∃ v92_11_4 : Nat → Int32, (1 ≤ (v92_11_0).toInt ∧ (v92_11_0).toInt ≤ 10) ∧ ((-1) ≤ (v92_11_1).toInt ∧ (v92_11_1).toInt ≤ 10) ∧ ((-2147483648) ≤ (v92_11_2).toInt ∧ (v92_11_2).toInt ≤ 2147483647) ∧ qW D (va_A (wk_f147cc4b8 cy h0 p3 h1 w0 w1 w2 p4 p5 p6 p7 p8 p9 p10 p11 p12 p13 p14 w3 w4 w5 h2 w6 p15 p16 w7 h3 h4 p17 p18 w8 w9 w10 w11 w12 p19 w13 w14 w15 h1 f0 h2 f1 h3 f2 h4 f3) sz) s.heap (wk_f147cc4b8 cy h0 p3 h1 w0 w1 w2 p4 p5 p6 p7 p8 p9 p10 p11 p12 p13 p14 w3 w4 w5 h2 w6 p15 p16 w7 h3 h4 v92_11_1 v92_11_2 w8 w9 w10 w11 w12 p19 w13 w14 w15 h1 f0 h2 f1 h3 v92_11_3 h4 v92_11_4) H locs ∧ lv_has ls 7 [(0, .ref h0), (1, .int p0), (2, .int p1), (3, .int p2), (4, .int r_2), (5, .int z_6), (6, .int v92_11_0)]) (fun (q : Int32 × Int32 × Int32) => match q with | (v92_11_0, v92_11_1, v92_11_2) => (11 - (v92_11_0).toInt).toNat) (fun q_92 ih_92 H locs ls hP => ?_) (z_9, p17, p18) ⟨f2, f3, ⟨by omega, by omega⟩, hp17, hp18, h_2, (lv_sub hl_10 [3, 4, 5, 6, 2, 1, 0] rfl)⟩
    obtain ⟨v92_11_0, v92_11_1, v92_11_2⟩ := q_92
    obtain ⟨v92_11_3, v92_11_4, hv92_11_0, hv92_11_1, hv92_11_2, h, hl⟩ := hP
    refine lv_iload hx hb dX12_goesPairs_92 (lv_at hl 6 rfl) ?_
    refine lv_aload_n hx hb dX12_goesPairs_94 rfl (lv_at hl 0 rfl) ?_
    refine q_get X hK h 0 rfl rfl wf_12 1 (by decide) rfl wm_5_171 dX12_goesPairs_95 ?_
    refine lv_iconst (v := 2) hx hb dX12_goesPairs_98 (by decide) ?_
    refine q_iald X hK h 1 rfl (q_in (by decide +kernel)) dX12_goesPairs_99 ?_
    obtain ⟨z_12, ez_12, hz_12⟩ := al_P rf0 (x := 2) (show (2 : Int32).toInt = 2 by decide) (by omega) (by omega)
    refine q_c z_12 ez_12 ?_
    clear ez_12
    refine lv_icmp_ge (tgt := 196) hx hb dX12_goesPairs_100 (by decide) (fun c_13 => ?_) (fun c_13 => ?_)
    · replace c_13 := i_le (x := z_12) (y := v92_11_0) rfl rfl c_13
      refine lv_aload_n hx hb dX12_goesPairs_196 rfl (lv_at hl 0 rfl) ?_
      refine q_get X hK h 0 rfl rfl wf_12 24 (by decide) rfl wm_5_194 dX12_goesPairs_197 ?_
      refine lv_iload hx hb dX12_goesPairs_200 (lv_at hl 4 rfl) ?_
      refine lv_iconst (v := (-1)) hx hb dX12_goesPairs_202 (by decide) ?_
      refine q_iast X hK h 3 rfl (i_in rfl (by omega) (by omega)) dX12_goesPairs_203 (fun H locs h_15 => ?_)
      clear h
      replace h_15 : qW D _ _ (wk_f147cc4b8 cy h0 p3 h1 w0 w1 w2 p4 p5 p6 p7 p8 p9 p10 p11 p12 p13 p14 w3 w4 w5 h2 w6 p15 p16 w7 h3 h4 v92_11_1 v92_11_2 w8 w9 w10 w11 w12 p19 w13 w14 w15 h1 f0 h2 f1 h3 (upd v92_11_3 (Int32.toNatClampNeg r_2) (-1)) h4 v92_11_4) _ _ := h_15
      obtain ⟨F_14, eF_14⟩ : ∃ z, (upd v92_11_3 (Int32.toNatClampNeg r_2) (-1)) = z := ⟨_, rfl⟩
      rw [eF_14] at h_15
      clear eF_14
      refine lv_aload_n hx hb dX12_goesPairs_204 rfl (lv_at hl 0 rfl) ?_
      refine lv_iload hx hb dX12_goesPairs_205 (lv_at hl 5 rfl) ?_
      refine lv_iload_n hx hb dX12_goesPairs_207 rfl (lv_at hl 2 rfl) ?_
      refine lv_iload_n hx hb dX12_goesPairs_208 rfl (lv_at hl 3 rfl) ?_
      refine q_callVv (rest := []) (wr := []) X hK hT hA h_15 (fun sz => gX12_goesPairs_71e4c98 l D cy h0 h1 h2 h3 h4 z_6 p1 p2 p3 w0 w1 w2 p4 p5 p6 p7 p8 p9 p10 p11 p12 p13 p14 w3 w4 w5 w6 p15 p16 w7 v92_11_1 v92_11_2 w8 w9 w10 w11 w12 p19 w13 w14 w15 f0 p20 f1 F_14 v92_11_4 ⟨by omega, by omega⟩ (bw hp1 (by decide) (by decide)) (i_rng _) hp3 hp4 hp5 hp6 hp7 (i_rng _) hp9 (i_rng _) (i_rng _) (i_rng _) (i_rng _) (i_rng _) (i_rng _) (i_rng _) hv92_11_1 (i_rng _) (i_rng _) hp20 htf0_84 rf0 (rg_wide rf1 (by decide) (by decide)) ((show _ % 64 = 0 from rs_7.1)) sz) wm_7_116 wm_7_119 wm_1_12 hd_X12_goesPairs wm_7_118 wp_7_4 (ci := 12) (q0 := 0) rfl rfl ⟨Nat.le_of_ble_eq_true rfl, Nat.le_of_ble_eq_true rfl⟩ hl.1 rfl (Nat.le_of_ble_eq_true rfl) dX12_goesPairs_209 ⟨Nat.le_of_ble_eq_true rfl, Nat.le_of_ble_eq_true rfl⟩ [0, 1, 2, 3, 4] [] rfl rfl (by decide) rfl rfl (fun u_16 H locs w_16 h_16 => ?_)
      clear h_15
      obtain ⟨w16_0, w16_1, _⟩ := w_16
      replace h_16 : qW D _ _ (wk_f147cc4b8 cy h0 p3 h1 w0 w1 w2 p4 p5 p6 p7 p8 p9 p10 p11 p12 p13 p14 w3 w4 w5 h2 w6 p15 p16 w7 h3 h4 (u_16.2.1 0 0) (u_16.2.1 1 0) w8 w9 w10 w11 w12 p19 w13 w14 w15 h1 f0 h2 f1 h3 (u_16.2.1 2) h4 (u_16.2.1 3)) _ _ := h_16
      exact q_vret X hr hlk hK h_16 (fun _ => 0, (vcons (fun _ => (u_16.2.1 0 0)) (vcons (fun _ => (u_16.2.1 1 0)) (vcons (u_16.2.1 2) (vcons (u_16.2.1 3) (fun _ => (fun _ => 0)))))), fun _ _ => 0) ⟨w16_0, w16_1, trivial⟩ [0, 1, 2, 3, 4] rfl rfl dX12_goesPairs_212 (Nat.le_of_ble_eq_true rfl) (Nat.le_of_ble_eq_true rfl)
    · replace c_13 := i_nle (x := z_12) (y := v92_11_0) rfl rfl c_13
      refine lv_iload hx hb dX12_goesPairs_103 (lv_at hl 5 rfl) ?_
      refine lv_aload_n hx hb dX12_goesPairs_105 rfl (lv_at hl 0 rfl) ?_
      refine q_get X hK h 0 rfl rfl wf_12 19 (by decide) rfl wm_5_189 dX12_goesPairs_106 ?_
      refine lv_iload hx hb dX12_goesPairs_109 (lv_at hl 4 rfl) ?_
      refine q_iald X hK h 2 rfl (i_in rfl (by omega) (by omega)) dX12_goesPairs_111 ?_
      obtain ⟨z_17, ez_17, hz_17⟩ := rg_get rf1 (x := r_2) rfl (by omega) (by omega)
      refine q_c z_17 ez_17 ?_
      clear ez_17
      refine lv_iand hx hb dX12_goesPairs_112 ?_
      obtain ⟨z_18, ez_18, hz_18⟩ := e_and2 (x := z_6) (y := z_17) rfl (by omega)
      refine q_c z_18 ez_18 ?_
      clear ez_18
      refine lv_i2l hx hb dX12_goesPairs_113 rfl ?_
      obtain ⟨z_19, ez_19, hz_19⟩ := e_i2l (x := z_18) rfl
      refine q_cl z_19 ez_19 ?_
      clear ez_19
      refine lv_iload hx hb dX12_goesPairs_114 (lv_at hl 6 rfl) ?_
      refine q_callSi (rest := []) (wr := (wk_f147cc4b8 cy h0 p3 h1 w0 w1 w2 p4 p5 p6 p7 p8 p9 p10 p11 p12 p13 p14 w3 w4 w5 h2 w6 p15 p16 w7 h3 h4 v92_11_1 v92_11_2 w8 w9 w10 w11 w12 p19 w13 w14 w15 h1 f0 h2 f1 h3 v92_11_3 h4 v92_11_4)) X hK hT hA h (fun sz => gX12_isIn_b0455a8 l D cy z_19 v92_11_0 ⟨by omega, by omega⟩ ⟨by omega, by omega⟩ sz) wm_6_167 wm_6_169 wm_1_12 hd_X12_isIn wm_6_168 ⟨Nat.le_of_ble_eq_true rfl, Nat.le_of_ble_eq_true rfl⟩ hl.1 rfl (Nat.le_of_ble_eq_true rfl) dX12_goesPairs_116 ⟨Nat.le_of_ble_eq_true rfl, Nat.le_of_ble_eq_true rfl⟩ [] [0, 1, 2, 3, 4] rfl rfl (by decide) rfl rfl (fun r_20 u_20 H locs w_20 h_20 => ?_)
      clear h
      obtain ⟨wr_20, _⟩ := w_20
      replace h_20 : qW D _ _ (wk_f147cc4b8 cy h0 p3 h1 w0 w1 w2 p4 p5 p6 p7 p8 p9 p10 p11 p12 p13 p14 w3 w4 w5 h2 w6 p15 p16 w7 h3 h4 v92_11_1 v92_11_2 w8 w9 w10 w11 w12 p19 w13 w14 w15 h1 f0 h2 f1 h3 v92_11_3 h4 v92_11_4) _ _ := h_20
      refine q_jn (pc2 := 190) (fun H locs ls st => ∃ v190_21_0 : Int32, ∃ v190_21_1 : Int32, ∃ v190_21_2 : Nat → Int32, ∃ v190_21_3 : Nat → Int32, ((-1) ≤ (v190_21_0).toInt ∧ (v190_21_0).toInt ≤ 10) ∧ ((-2147483648) ≤ (v190_21_1).toInt ∧ (v190_21_1).toInt ≤ 2147483647) ∧ st = [] ∧ qW D (va_A (wk_f147cc4b8 cy h0 p3 h1 w0 w1 w2 p4 p5 p6 p7 p8 p9 p10 p11 p12 p13 p14 w3 w4 w5 h2 w6 p15 p16 w7 h3 h4 p17 p18 w8 w9 w10 w11 w12 p19 w13 w14 w15 h1 f0 h2 f1 h3 f2 h4 f3) sz) s.heap (wk_f147cc4b8 cy h0 p3 h1 w0 w1 w2 p4 p5 p6 p7 p8 p9 p10 p11 p12 p13 p14 w3 w4 w5 h2 w6 p15 p16 w7 h3 h4 v190_21_0 v190_21_1 w8 w9 w10 w11 w12 p19 w13 w14 w15 h1 f0 h2 f1 h3 v190_21_2 h4 v190_21_3) H locs ∧ lv_has ls 7 [(0, .ref h0), (1, .int p0), (2, .int p1), (3, .int p2), (4, .int r_2), (5, .int z_6), (6, .int v92_11_0)]) (fun H locs ls st hP => ?_) (fun J_190 => ?_)
      · obtain ⟨v190_21_0, v190_21_1, v190_21_2, v190_21_3, hv190_21_0, hv190_21_1, rfl, h, hl⟩ := hP
        obtain ⟨z_22, ez_22, hz_22⟩ := e_add (x := v92_11_0) (y := Int32.ofInt 1) rfl (b := 1) (by decide) (by omega) (by omega)
        refine lv_iinc (v := z_22) (lv' := [(6, .int z_22), (0, .ref h0), (1, .int p0), (2, .int p1), (3, .int p2), (4, .int r_2), (5, .int z_6)]) hx hb dX12_goesPairs_190 hl (k := 6) rfl ez_22 (by decide) rfl (fun ls_22 hl_22 => ?_)
        clear hl
        refine lv_goto (tgt := 92) hx hb dX12_goesPairs_193 (by decide) ?_
        exact ih_92 (z_22, v190_21_0, v190_21_1) (by show (11 - (z_22).toInt).toNat < (11 - (v92_11_0).toInt).toNat; omega) _ _ _ ⟨v190_21_2, v190_21_3, ⟨by omega, by omega⟩, hv190_21_0, hv190_21_1, h, (lv_sub hl_22 [1, 2, 3, 4, 5, 6, 0] rfl)⟩
      · skip
        refine lv_if_ne (tgt := 125) hx hb dX12_goesPairs_119 (by decide) (fun c_23 => ?_) (fun c_23 => ?_)
        · replace c_23 := i_ne (x := r_20) (y := 0) rfl (show (0 : Int32).toInt = 0 by decide) c_23
          refine lv_aload_n hx hb dX12_goesPairs_125 rfl (lv_at hl 0 rfl) ?_
          refine q_get X hK h_20 0 rfl rfl wf_12 24 (by decide) rfl wm_5_194 dX12_goesPairs_126 ?_
          refine lv_iload hx hb dX12_goesPairs_129 (lv_at hl 4 rfl) ?_
          refine lv_iload hx hb dX12_goesPairs_131 (lv_at hl 6 rfl) ?_
          refine q_iast X hK h_20 3 rfl (i_in rfl (by omega) (by omega)) dX12_goesPairs_133 (fun H locs h_25 => ?_)
          clear h_20
          replace h_25 : qW D _ _ (wk_f147cc4b8 cy h0 p3 h1 w0 w1 w2 p4 p5 p6 p7 p8 p9 p10 p11 p12 p13 p14 w3 w4 w5 h2 w6 p15 p16 w7 h3 h4 v92_11_1 v92_11_2 w8 w9 w10 w11 w12 p19 w13 w14 w15 h1 f0 h2 f1 h3 (upd v92_11_3 (Int32.toNatClampNeg r_2) v92_11_0) h4 v92_11_4) _ _ := h_25
          obtain ⟨F_24, eF_24⟩ : ∃ z, (upd v92_11_3 (Int32.toNatClampNeg r_2) v92_11_0) = z := ⟨_, rfl⟩
          rw [eF_24] at h_25
          clear eF_24
          refine lv_aload_n hx hb dX12_goesPairs_134 rfl (lv_at hl 0 rfl) ?_
          refine q_get X hK h_25 0 rfl rfl wf_12 24 (by decide) rfl wm_5_194 dX12_goesPairs_135 ?_
          refine lv_iload hx hb dX12_goesPairs_138 (lv_at hl 6 rfl) ?_
          refine lv_iload hx hb dX12_goesPairs_140 (lv_at hl 4 rfl) ?_
          refine q_iast X hK h_25 3 rfl (i_in rfl (by omega) (by omega)) dX12_goesPairs_142 (fun H locs h_27 => ?_)
          clear h_25
          replace h_27 : qW D _ _ (wk_f147cc4b8 cy h0 p3 h1 w0 w1 w2 p4 p5 p6 p7 p8 p9 p10 p11 p12 p13 p14 w3 w4 w5 h2 w6 p15 p16 w7 h3 h4 v92_11_1 v92_11_2 w8 w9 w10 w11 w12 p19 w13 w14 w15 h1 f0 h2 f1 h3 (upd F_24 (Int32.toNatClampNeg v92_11_0) r_2) h4 v92_11_4) _ _ := h_27
          obtain ⟨F_26, eF_26⟩ : ∃ z, (upd F_24 (Int32.toNatClampNeg v92_11_0) r_2) = z := ⟨_, rfl⟩
          rw [eF_26] at h_27
          clear eF_26
          refine lv_aload_n hx hb dX12_goesPairs_143 rfl (lv_at hl 0 rfl) ?_
          refine lv_iload hx hb dX12_goesPairs_144 (lv_at hl 5 rfl) ?_
          refine lv_iconst (v := 1) hx hb dX12_goesPairs_146 (by decide) ?_
          refine lv_iload hx hb dX12_goesPairs_147 (lv_at hl 6 rfl) ?_
          refine lv_ishl hx hb dX12_goesPairs_149 ?_
          obtain ⟨z_28, ez_28, hz_28⟩ := e_shlk (p := v92_11_0) 9 (by decide) rfl (by omega) (by omega)
          refine q_c z_28 ez_28 ?_
          clear ez_28
          refine lv_iconst (v := (-1)) hx hb dX12_goesPairs_150 (by decide) ?_
          refine lv_ixor hx hb dX12_goesPairs_151 ?_
          refine q_any (fun z_29 hz_29 => ?_)
          refine lv_iand hx hb dX12_goesPairs_152 ?_
          obtain ⟨z_30, ez_30, hz_30⟩ := e_and1 (x := z_6) (y := z_29) rfl (by omega)
          refine q_c z_30 ez_30 ?_
          have ad_31 := and_div 6 (by omega) rs_7.1 ez_30
          refine lv_iload_n hx hb dX12_goesPairs_153 rfl (lv_at hl 2 rfl) ?_
          refine lv_iconst (v := 1) hx hb dX12_goesPairs_154 (by decide) ?_
          refine lv_iadd hx hb dX12_goesPairs_155 ?_
          obtain ⟨z_32, ez_32, hz_32⟩ := e_add (x := p1) (y := 1) rfl (show (1 : Int32).toInt = 1 by decide) (by omega) (by omega)
          refine q_c z_32 ez_32 ?_
          clear ez_32
          refine lv_iload_n hx hb dX12_goesPairs_156 rfl (lv_at hl 3 rfl) ?_
          refine lv_aload_n hx hb dX12_goesPairs_157 rfl (lv_at hl 0 rfl) ?_
          refine q_get X hK h_27 0 rfl rfl wf_12 1 (by decide) rfl wm_5_171 dX12_goesPairs_158 ?_
          refine lv_bipush (v := 42) hx hb dX12_goesPairs_161 (by decide) ?_
          refine lv_iload hx hb dX12_goesPairs_163 (lv_at hl 4 rfl) ?_
          refine lv_iadd hx hb dX12_goesPairs_165 ?_
          obtain ⟨z_33, ez_33, hz_33⟩ := e_add (x := 42) (y := r_2) (show (42 : Int32).toInt = 42 by decide) rfl (by omega) (by omega)
          refine q_c z_33 ez_33 ?_
          clear ez_33
          refine q_iald X hK h_27 1 rfl (i_in rfl (by omega) (by omega)) dX12_goesPairs_166 ?_
          refine q_any (fun z_34 hz_34 => ?_)
          refine lv_iadd hx hb dX12_goesPairs_167 ?_
          refine q_any (fun z_35 hz_35 => ?_)
          refine lv_aload_n hx hb dX12_goesPairs_168 rfl (lv_at hl 0 rfl) ?_
          refine q_get X hK h_27 0 rfl rfl wf_12 1 (by decide) rfl wm_5_171 dX12_goesPairs_169 ?_
          refine lv_bipush (v := 42) hx hb dX12_goesPairs_172 (by decide) ?_
          refine lv_iload hx hb dX12_goesPairs_174 (lv_at hl 6 rfl) ?_
          refine lv_iadd hx hb dX12_goesPairs_176 ?_
          obtain ⟨z_36, ez_36, hz_36⟩ := e_add (x := 42) (y := v92_11_0) (show (42 : Int32).toInt = 42 by decide) rfl (by omega) (by omega)
          refine q_c z_36 ez_36 ?_
          clear ez_36
          refine q_iald X hK h_27 1 rfl (i_in rfl (by omega) (by omega)) dX12_goesPairs_177 ?_
          refine q_any (fun z_37 hz_37 => ?_)
          refine lv_iadd hx hb dX12_goesPairs_178 ?_
          refine q_any (fun z_38 hz_38 => ?_)
          refine q_callVv (rest := []) (wr := []) X hK hT hA h_27 (fun sz => gX12_goesPairs_71e4c98 l D cy h0 h1 h2 h3 h4 z_30 z_32 z_38 p3 w0 w1 w2 p4 p5 p6 p7 p8 p9 p10 p11 p12 p13 p14 w3 w4 w5 w6 p15 p16 w7 v92_11_1 v92_11_2 w8 w9 w10 w11 w12 p19 w13 w14 w15 f0 p20 f1 F_26 v92_11_4 ⟨by omega, by omega⟩ ⟨by omega, by omega⟩ (i_rng _) hp3 hp4 hp5 hp6 hp7 (i_rng _) hp9 (i_rng _) (i_rng _) (i_rng _) (i_rng _) (i_rng _) (i_rng _) (i_rng _) hv92_11_1 (i_rng _) (i_rng _) hp20 htf0_84 rf0 (rg_wide rf1 (by decide) (by decide)) ((show _ % 64 = 0 from ad_31)) sz) wm_7_116 wm_7_119 wm_1_12 hd_X12_goesPairs wm_7_118 wp_7_4 (ci := 12) (q0 := 0) rfl rfl ⟨Nat.le_of_ble_eq_true rfl, Nat.le_of_ble_eq_true rfl⟩ hl.1 rfl (Nat.le_of_ble_eq_true rfl) dX12_goesPairs_179 ⟨Nat.le_of_ble_eq_true rfl, Nat.le_of_ble_eq_true rfl⟩ [0, 1, 2, 3, 4] [] rfl rfl (by decide) rfl rfl (fun u_39 H locs w_39 h_39 => ?_)
          clear h_27
          obtain ⟨w39_0, w39_1, _⟩ := w_39
          replace h_39 : qW D _ _ (wk_f147cc4b8 cy h0 p3 h1 w0 w1 w2 p4 p5 p6 p7 p8 p9 p10 p11 p12 p13 p14 w3 w4 w5 h2 w6 p15 p16 w7 h3 h4 (u_39.2.1 0 0) (u_39.2.1 1 0) w8 w9 w10 w11 w12 p19 w13 w14 w15 h1 f0 h2 f1 h3 (u_39.2.1 2) h4 (u_39.2.1 3)) _ _ := h_39
          refine lv_aload_n hx hb dX12_goesPairs_182 rfl (lv_at hl 0 rfl) ?_
          refine q_get X hK h_39 0 rfl rfl wf_12 24 (by decide) rfl wm_5_194 dX12_goesPairs_183 ?_
          refine lv_iload hx hb dX12_goesPairs_186 (lv_at hl 6 rfl) ?_
          refine lv_iconst (v := (-1)) hx hb dX12_goesPairs_188 (by decide) ?_
          refine q_iast X hK h_39 3 rfl (i_in rfl (by omega) (by omega)) dX12_goesPairs_189 (fun H locs h_41 => ?_)
          clear h_39
          replace h_41 : qW D _ _ (wk_f147cc4b8 cy h0 p3 h1 w0 w1 w2 p4 p5 p6 p7 p8 p9 p10 p11 p12 p13 p14 w3 w4 w5 h2 w6 p15 p16 w7 h3 h4 (u_39.2.1 0 0) (u_39.2.1 1 0) w8 w9 w10 w11 w12 p19 w13 w14 w15 h1 f0 h2 f1 h3 (upd (u_39.2.1 2) (Int32.toNatClampNeg v92_11_0) (-1)) h4 (u_39.2.1 3)) _ _ := h_41
          obtain ⟨F_40, eF_40⟩ : ∃ z, (upd (u_39.2.1 2) (Int32.toNatClampNeg v92_11_0) (-1)) = z := ⟨_, rfl⟩
          rw [eF_40] at h_41
          clear eF_40
          exact J_190 _ _ _ _ ⟨(u_39.2.1 0 0), (u_39.2.1 1 0), F_40, (u_39.2.1 3), w39_0, w39_1, rfl, h_41, (lv_sub hl [0, 1, 2, 3, 4, 5, 6] rfl)⟩
        · replace c_23 := i_eq (x := r_20) (y := 0) rfl (show (0 : Int32).toInt = 0 by decide) c_23
          refine lv_goto (tgt := 190) hx hb dX12_goesPairs_122 (by decide) ?_
          exact J_190 _ _ _ _ ⟨v92_11_1, v92_11_2, v92_11_3, v92_11_4, hv92_11_1, hv92_11_2, rfl, h_20, (lv_sub hl [0, 1, 2, 3, 4, 5, 6] rfl)⟩
  · replace c_1 := i_eq (x := p0) (y := 0) rfl (show (0 : Int32).toInt = 0 by decide) c_1
    refine lv_iload_n hx hb dX12_goesPairs_4 rfl (lv_at hl 2 rfl) ?_
    refine lv_aload_n hx hb dX12_goesPairs_5 rfl (lv_at hl 0 rfl) ?_
    refine q_get X hK h 0 rfl rfl wf_12 26 (by decide) rfl wm_5_196 dX12_goesPairs_6 ?_
    refine q_jn (pc2 := 28) (fun H locs ls st => st = [] ∧ qW D (va_A (wk_f147cc4b8 cy h0 p3 h1 w0 w1 w2 p4 p5 p6 p7 p8 p9 p10 p11 p12 p13 p14 w3 w4 w5 h2 w6 p15 p16 w7 h3 h4 p17 p18 w8 w9 w10 w11 w12 p19 w13 w14 w15 h1 f0 h2 f1 h3 f2 h4 f3) sz) s.heap (wk_f147cc4b8 cy h0 p3 h1 w0 w1 w2 p4 p5 p6 p7 p8 p9 p10 p11 p12 p13 p14 w3 w4 w5 h2 w6 p15 p16 w7 h3 h4 p17 p18 w8 w9 w10 w11 w12 p19 w13 w14 w15 h1 f0 h2 f1 h3 f2 h4 f3) H locs ∧ lv_has ls 7 [(0, .ref h0), (1, .int p0), (2, .int p1), (3, .int p2)]) (fun H locs ls st hP => ?_) (fun J_28 => ?_)
    · obtain ⟨rfl, h, hl⟩ := hP
      exact q_vret X hr hlk hK h (fun _ => 0, (vcons (fun _ => p17) (vcons (fun _ => p18) (vcons f2 (vcons f3 (fun _ => (fun _ => 0)))))), fun _ _ => 0) ⟨hp17, hp18, trivial⟩ [0, 1, 2, 3, 4] rfl rfl dX12_goesPairs_28 (Nat.le_of_ble_eq_true rfl) (Nat.le_of_ble_eq_true rfl)
    · skip
      refine lv_icmp_lt (tgt := 28) hx hb dX12_goesPairs_9 (by decide) (fun c_43 => ?_) (fun c_43 => ?_)
      · replace c_43 := i_lt (x := p1) (y := p17) rfl rfl c_43
        exact J_28 _ _ _ _ ⟨rfl, h, (lv_sub hl [0, 1, 2, 3] rfl)⟩
      · replace c_43 := i_nlt (x := p1) (y := p17) rfl rfl c_43
        refine lv_iload_n hx hb dX12_goesPairs_12 rfl (lv_at hl 2 rfl) ?_
        refine lv_aload_n hx hb dX12_goesPairs_13 rfl (lv_at hl 0 rfl) ?_
        refine q_get X hK h 0 rfl rfl wf_12 26 (by decide) rfl wm_5_196 dX12_goesPairs_14 ?_
        refine q_jn (pc2 := 29) (fun H locs ls st => st = [] ∧ qW D (va_A (wk_f147cc4b8 cy h0 p3 h1 w0 w1 w2 p4 p5 p6 p7 p8 p9 p10 p11 p12 p13 p14 w3 w4 w5 h2 w6 p15 p16 w7 h3 h4 p17 p18 w8 w9 w10 w11 w12 p19 w13 w14 w15 h1 f0 h2 f1 h3 f2 h4 f3) sz) s.heap (wk_f147cc4b8 cy h0 p3 h1 w0 w1 w2 p4 p5 p6 p7 p8 p9 p10 p11 p12 p13 p14 w3 w4 w5 h2 w6 p15 p16 w7 h3 h4 p17 p18 w8 w9 w10 w11 w12 p19 w13 w14 w15 h1 f0 h2 f1 h3 f2 h4 f3) H locs ∧ lv_has ls 7 [(0, .ref h0), (1, .int p0), (2, .int p1), (3, .int p2)]) (fun H locs ls st hP => ?_) (fun J_29 => ?_)
        · obtain ⟨rfl, h, hl⟩ := hP
          refine lv_aload_n hx hb dX12_goesPairs_29 rfl (lv_at hl 0 rfl) ?_
          refine lv_iload_n hx hb dX12_goesPairs_30 rfl (lv_at hl 2 rfl) ?_
          refine q_put (v := .int p1) X hK h 0 rfl rfl wf_12 tyX12 tyX12_ok nmX12 26 (by decide) wm_5_196 rfl rfl rfl (Nat.le_of_ble_eq_true rfl) dX12_goesPairs_31 (fun H locs h_45 => ?_)
          clear h
          replace h_45 : qW D _ _ (wk_f147cc4b8 cy h0 p3 h1 w0 w1 w2 p4 p5 p6 p7 p8 p9 p10 p11 p12 p13 p14 w3 w4 w5 h2 w6 p15 p16 w7 h3 h4 p1 p18 w8 w9 w10 w11 w12 p19 w13 w14 w15 h1 f0 h2 f1 h3 f2 h4 f3) _ _ := h_45
          refine lv_aload_n hx hb dX12_goesPairs_34 rfl (lv_at hl 0 rfl) ?_
          refine lv_iload_n hx hb dX12_goesPairs_35 rfl (lv_at hl 3 rfl) ?_
          refine q_put (v := .int p2) X hK h_45 0 rfl rfl wf_12 tyX12 tyX12_ok nmX12 27 (by decide) wm_5_197 rfl rfl rfl (Nat.le_of_ble_eq_true rfl) dX12_goesPairs_36 (fun H locs h_46 => ?_)
          clear h_45
          replace h_46 : qW D _ _ (wk_f147cc4b8 cy h0 p3 h1 w0 w1 w2 p4 p5 p6 p7 p8 p9 p10 p11 p12 p13 p14 w3 w4 w5 h2 w6 p15 p16 w7 h3 h4 p1 p2 w8 w9 w10 w11 w12 p19 w13 w14 w15 h1 f0 h2 f1 h3 f2 h4 f3) _ _ := h_46
          refine lv_iconst (v := 0) hx hb dX12_goesPairs_39 (by decide) ?_
          refine lv_istore (lv' := [(4, .int 0), (0, .ref h0), (1, .int p0), (2, .int p1), (3, .int p2)]) hx hb dX12_goesPairs_40 hl (by decide) rfl (fun ls_47 hl_47 => ?_)
          clear hl
          refine q_wl (fun (v42_48_0 : Int32) H locs ls => ∃ v42_48_1 : Nat → Int32, (0 ≤ (v42_48_0).toInt ∧ (v42_48_0).toInt ≤ 10) ∧ qW D (va_A (wk_f147cc4b8 cy h0 p3 h1 w0 w1 w2 p4 p5 p6 p7 p8 p9 p10 p11 p12 p13 p14 w3 w4 w5 h2 w6 p15 p16 w7 h3 h4 p17 p18 w8 w9 w10 w11 w12 p19 w13 w14 w15 h1 f0 h2 f1 h3 f2 h4 f3) sz) s.heap (wk_f147cc4b8 cy h0 p3 h1 w0 w1 w2 p4 p5 p6 p7 p8 p9 p10 p11 p12 p13 p14 w3 w4 w5 h2 w6 p15 p16 w7 h3 h4 p1 p2 w8 w9 w10 w11 w12 p19 w13 w14 w15 h1 f0 h2 f1 h3 f2 h4 v42_48_1) H locs ∧ lv_has ls 7 [(0, .ref h0), (1, .int p0), (2, .int p1), (3, .int p2), (4, .int v42_48_0)]) (fun (v42_48_0 : Int32) => (11 - (v42_48_0).toInt).toNat) (fun q_42 ih_42 H locs ls hP => ?_) 0 ⟨f3, ⟨by decide +kernel, by decide +kernel⟩, h_46, (lv_sub hl_47 [1, 2, 3, 4, 0] rfl)⟩
          obtain ⟨v42_48_0, rfl⟩ : ∃ z, z = q_42 := ⟨_, rfl⟩
          obtain ⟨v42_48_1, hv42_48_0, h, hl⟩ := hP
          refine lv_iload hx hb dX12_goesPairs_42 (lv_at hl 4 rfl) ?_
          refine lv_bipush (v := 10) hx hb dX12_goesPairs_44 (by decide) ?_
          refine lv_icmp_ge (tgt := 69) hx hb dX12_goesPairs_46 (by decide) (fun c_49 => ?_) (fun c_49 => ?_)
          · replace c_49 := i_le (x := 10) (y := v42_48_0) (show (10 : Int32).toInt = 10 by decide) rfl c_49
            exact q_vret X hr hlk hK h (fun _ => 0, (vcons (fun _ => p1) (vcons (fun _ => p2) (vcons f2 (vcons v42_48_1 (fun _ => (fun _ => 0)))))), fun _ _ => 0) ⟨(bw hp1 (by decide) (by decide)), hp2, trivial⟩ [0, 1, 2, 3, 4] rfl rfl dX12_goesPairs_69 (Nat.le_of_ble_eq_true rfl) (Nat.le_of_ble_eq_true rfl)
          · replace c_49 := i_nle (x := 10) (y := v42_48_0) (show (10 : Int32).toInt = 10 by decide) rfl c_49
            refine lv_aload_n hx hb dX12_goesPairs_49 rfl (lv_at hl 0 rfl) ?_
            refine q_get X hK h 0 rfl rfl wf_12 25 (by decide) rfl wm_5_195 dX12_goesPairs_50 ?_
            refine lv_iload hx hb dX12_goesPairs_53 (lv_at hl 4 rfl) ?_
            refine lv_aload_n hx hb dX12_goesPairs_55 rfl (lv_at hl 0 rfl) ?_
            refine q_get X hK h 0 rfl rfl wf_12 24 (by decide) rfl wm_5_194 dX12_goesPairs_56 ?_
            refine lv_iload hx hb dX12_goesPairs_59 (lv_at hl 4 rfl) ?_
            refine q_iald X hK h 3 rfl (i_in rfl (by omega) (by omega)) dX12_goesPairs_61 ?_
            refine q_any (fun z_50 hz_50 => ?_)
            refine q_iast X hK h 4 rfl (i_in rfl (by omega) (by omega)) dX12_goesPairs_62 (fun H locs h_52 => ?_)
            clear h
            replace h_52 : qW D _ _ (wk_f147cc4b8 cy h0 p3 h1 w0 w1 w2 p4 p5 p6 p7 p8 p9 p10 p11 p12 p13 p14 w3 w4 w5 h2 w6 p15 p16 w7 h3 h4 p1 p2 w8 w9 w10 w11 w12 p19 w13 w14 w15 h1 f0 h2 f1 h3 f2 h4 (upd v42_48_1 (Int32.toNatClampNeg v42_48_0) z_50)) _ _ := h_52
            obtain ⟨F_51, eF_51⟩ : ∃ z, (upd v42_48_1 (Int32.toNatClampNeg v42_48_0) z_50) = z := ⟨_, rfl⟩
            rw [eF_51] at h_52
            clear eF_51
            obtain ⟨z_53, ez_53, hz_53⟩ := e_add (x := v42_48_0) (y := Int32.ofInt 1) rfl (b := 1) (by decide) (by omega) (by omega)
            refine lv_iinc (v := z_53) (lv' := [(4, .int z_53), (0, .ref h0), (1, .int p0), (2, .int p1), (3, .int p2)]) hx hb dX12_goesPairs_63 hl (k := 4) rfl ez_53 (by decide) rfl (fun ls_53 hl_53 => ?_)
            clear hl
            refine lv_goto (tgt := 42) hx hb dX12_goesPairs_66 (by decide) ?_
            exact ih_42 z_53 (by show (11 - (z_53).toInt).toNat < (11 - (v42_48_0).toInt).toNat; omega) _ _ _ ⟨F_51, ⟨by omega, by omega⟩, h_52, (lv_sub hl_53 [1, 2, 3, 4, 0] rfl)⟩
        · skip
          refine lv_icmp_ne (tgt := 29) hx hb dX12_goesPairs_17 (by decide) (fun c_54 => ?_) (fun c_54 => ?_)
          · replace c_54 := i_ne (x := p1) (y := p17) rfl rfl c_54
            exact J_29 _ _ _ _ ⟨rfl, h, (lv_sub hl [0, 1, 2, 3] rfl)⟩
          · replace c_54 := i_eq (x := p1) (y := p17) rfl rfl c_54
            refine lv_iload_n hx hb dX12_goesPairs_20 rfl (lv_at hl 3 rfl) ?_
            refine lv_aload_n hx hb dX12_goesPairs_21 rfl (lv_at hl 0 rfl) ?_
            refine q_get X hK h 0 rfl rfl wf_12 27 (by decide) rfl wm_5_197 dX12_goesPairs_22 ?_
            refine lv_icmp_gt (tgt := 29) hx hb dX12_goesPairs_25 (by decide) (fun c_55 => ?_) (fun c_55 => ?_)
            · replace c_55 := i_lt (x := p18) (y := p2) rfl rfl c_55
              exact J_29 _ _ _ _ ⟨rfl, h, (lv_sub hl [0, 1, 2, 3] rfl)⟩
            · replace c_55 := i_nlt (x := p18) (y := p2) rfl rfl c_55
              exact J_28 _ _ _ _ ⟨rfl, h, (lv_sub hl [0, 1, 2, 3] rfl)⟩
set_option maxHeartbeats 4000000 in
set_option maxRecDepth 100000 in
theorem gX12_goesPairs_8901492 (l : Launch) (D : va_G) (cy : Nat → ClassId) (h0 : Nat) (h1 : Nat) (h2 : Nat) (h3 : Nat) (h4 : Nat) (p0 : Int32) (p1 : Int32) (p2 : Int32) (p3 : Int32) (w0 : Value) (w1 : Value) (w2 : Value) (p4 : Int32) (p5 : Int32) (p6 : Int32) (p7 : Int32) (p8 : Int32) (p9 : Int32) (p10 : Int32) (p11 : Int32) (p12 : Int32) (p13 : Int32) (p14 : Int32) (w3 : Value) (w4 : Value) (w5 : Value) (w6 : Value) (p15 : Int32) (p16 : Int32) (w7 : Value) (p17 : Int32) (p18 : Int32) (w8 : Value) (w9 : Value) (w10 : Value) (w11 : Value) (w12 : Value) (p19 : Int32) (w13 : Value) (w14 : Value) (w15 : Value) (f0 : Nat → Int32) (p20 : Int32) (f1 : Nat → Int32) (f2 : Nat → Int32) (f3 : Nat → Int32) (hp0 : 0 ≤ (p0).toInt ∧ (p0).toInt ≤ 1023) (hp1 : 0 ≤ (p1).toInt ∧ (p1).toInt ≤ 4) (hp2 : (-2147483648) ≤ (p2).toInt ∧ (p2).toInt ≤ 2147483647) (hp3 : 0 ≤ (p3).toInt ∧ (p3).toInt ≤ 0) (hp4 : 0 ≤ (p4).toInt ∧ (p4).toInt ≤ 900) (hp5 : 0 ≤ (p5).toInt ∧ (p5).toInt ≤ 900) (hp6 : 0 ≤ (p6).toInt ∧ (p6).toInt ≤ 900) (hp7 : 0 ≤ (p7).toInt ∧ (p7).toInt ≤ 900) (hp8 : (-2147483648) ≤ (p8).toInt ∧ (p8).toInt ≤ 2147483647) (hp9 : 0 ≤ (p9).toInt ∧ (p9).toInt ≤ 999) (hp10 : (-2147483648) ≤ (p10).toInt ∧ (p10).toInt ≤ 2147483647) (hp11 : (-2147483648) ≤ (p11).toInt ∧ (p11).toInt ≤ 2147483647) (hp12 : (-2147483648) ≤ (p12).toInt ∧ (p12).toInt ≤ 2147483647) (hp13 : (-2147483648) ≤ (p13).toInt ∧ (p13).toInt ≤ 2147483647) (hp14 : (-2147483648) ≤ (p14).toInt ∧ (p14).toInt ≤ 2147483647) (hp15 : (-2147483648) ≤ (p15).toInt ∧ (p15).toInt ≤ 2147483647) (hp16 : (-2147483648) ≤ (p16).toInt ∧ (p16).toInt ≤ 2147483647) (hp17 : (-1) ≤ (p17).toInt ∧ (p17).toInt ≤ 10) (hp18 : (-2147483648) ≤ (p18).toInt ∧ (p18).toInt ≤ 2147483647) (hp19 : (-2147483648) ≤ (p19).toInt ∧ (p19).toInt ≤ 2147483647) (hp20 : 0 ≤ (p20).toInt ∧ (p20).toInt ≤ 10) (htf0_84 : f0 84 = p20) (rf0 : AL f0) (rf1 : RG f1 10 0 1023) (hpre0 : (p0 : Int32).toInt % 16 = 0) (sz : Nat) : MV l yX12_goesPairs cX12_goesPairs 7 { frames := 7, cells := 0, slots := 0, locals := 173 } [.ref h0, .int p0, .int p1, .int p2] D cy (wk_f147cc4b8 cy h0 p3 h1 w0 w1 w2 p4 p5 p6 p7 p8 p9 p10 p11 p12 p13 p14 w3 w4 w5 h2 w6 p15 p16 w7 h3 h4 p17 p18 w8 w9 w10 w11 w12 p19 w13 w14 w15 h1 f0 h2 f1 h3 f2 h4 f3) sz (fun u => ((-1) ≤ (u.2.1 0 0).toInt ∧ (u.2.1 0 0).toInt ≤ 10) ∧ ((-2147483648) ≤ (u.2.1 1 0).toInt ∧ (u.2.1 1 0).toInt ≤ 2147483647) ∧ True) (fun u => (wk_f147cc4b8 cy h0 p3 h1 w0 w1 w2 p4 p5 p6 p7 p8 p9 p10 p11 p12 p13 p14 w3 w4 w5 h2 w6 p15 p16 w7 h3 h4 (u.2.1 0 0) (u.2.1 1 0) w8 w9 w10 w11 w12 p19 w13 w14 w15 h1 f0 h2 f1 h3 (u.2.1 2) h4 (u.2.1 3))) 0 0 := by
  refine q_ent (own := RX12) (by decide) rfl (Nat.le_of_ble_eq_true rfl) (fun p e s m below meth c ls X hr hlk hnm hK hT h hA hl => ?_)
  obtain ⟨hx, hb, hml, hown, ht⟩ := id X
  replace hl : lv_has ls 7 [(0, .ref h0), (1, .int p0), (2, .int p1), (3, .int p2)] := hl
  refine lv_iload_n hx hb dX12_goesPairs_0 rfl (lv_at hl 1 rfl) ?_
  refine lv_if_ne (tgt := 70) hx hb dX12_goesPairs_1 (by decide) (fun c_1 => ?_) (fun c_1 => ?_)
  · replace c_1 := i_ne (x := p0) (y := 0) rfl (show (0 : Int32).toInt = 0 by decide) c_1
    refine lv_iload_n hx hb dX12_goesPairs_70 rfl (lv_at hl 1 rfl) ?_
    refine q_callSi (rest := []) (wr := (wk_f147cc4b8 cy h0 p3 h1 w0 w1 w2 p4 p5 p6 p7 p8 p9 p10 p11 p12 p13 p14 w3 w4 w5 h2 w6 p15 p16 w7 h3 h4 p17 p18 w8 w9 w10 w11 w12 p19 w13 w14 w15 h1 f0 h2 f1 h3 f2 h4 f3)) X hK hT hA h (fun sz => gX12_lowest_51df8cb l D cy p0 ⟨by omega, by omega⟩ sz) wm_7_67 wm_7_69 wm_1_12 hd_X12_lowest wm_7_68 ⟨Nat.le_of_ble_eq_true rfl, Nat.le_of_ble_eq_true rfl⟩ hl.1 rfl (Nat.le_of_ble_eq_true rfl) dX12_goesPairs_71 ⟨Nat.le_of_ble_eq_true rfl, Nat.le_of_ble_eq_true rfl⟩ [] [0, 1, 2, 3, 4] rfl rfl (by decide) rfl rfl (fun r_2 u_2 H locs w_2 h_2 => ?_)
    clear h
    obtain ⟨wr_2, y2_0, _⟩ := w_2
    replace h_2 : qW D _ _ (wk_f147cc4b8 cy h0 p3 h1 w0 w1 w2 p4 p5 p6 p7 p8 p9 p10 p11 p12 p13 p14 w3 w4 w5 h2 w6 p15 p16 w7 h3 h4 p17 p18 w8 w9 w10 w11 w12 p19 w13 w14 w15 h1 f0 h2 f1 h3 f2 h4 f3) _ _ := h_2
    refine lv_istore (lv' := [(4, .int r_2), (0, .ref h0), (1, .int p0), (2, .int p1), (3, .int p2)]) hx hb dX12_goesPairs_74 hl (by decide) rfl (fun ls_3 hl_3 => ?_)
    clear hl
    refine lv_iload_n hx hb dX12_goesPairs_76 rfl (lv_at hl_3 2 rfl) ?_
    refine lv_iconst (v := 1) hx hb dX12_goesPairs_77 (by decide) ?_
    refine lv_iload hx hb dX12_goesPairs_78 (lv_at hl_3 0 rfl) ?_
    refine lv_ishl hx hb dX12_goesPairs_80 ?_
    obtain ⟨z_4, ez_4, hz_4⟩ := e_shlk (p := r_2) 9 (by decide) rfl (by omega) (by omega)
    refine q_c z_4 ez_4 ?_
    refine lv_iconst (v := (-1)) hx hb dX12_goesPairs_81 (by decide) ?_
    refine lv_ixor hx hb dX12_goesPairs_82 ?_
    obtain ⟨z_5, ez_5, hz_5⟩ := e_any (z_4 ^^^ (-1))
    refine q_c z_5 ez_5 ?_
    refine lv_iand hx hb dX12_goesPairs_83 ?_
    obtain ⟨z_6, ez_6, hz_6⟩ := e_and1 (x := p0) (y := z_5) rfl (by omega)
    refine q_c z_6 ez_6 ?_
    have rs_7 := rest_low 4 (by omega) y2_0 (by omega) ez_4 ez_5 ez_6
    refine lv_istore (lv' := [(5, .int z_6), (4, .int r_2), (0, .ref h0), (1, .int p0), (2, .int p1), (3, .int p2)]) hx hb dX12_goesPairs_84 hl_3 (by decide) rfl (fun ls_8 hl_8 => ?_)
    clear hl_3
    refine lv_iload hx hb dX12_goesPairs_86 (lv_at hl_8 1 rfl) ?_
    refine lv_iconst (v := 1) hx hb dX12_goesPairs_88 (by decide) ?_
    refine lv_iadd hx hb dX12_goesPairs_89 ?_
    obtain ⟨z_9, ez_9, hz_9⟩ := e_add (x := r_2) (y := 1) rfl (show (1 : Int32).toInt = 1 by decide) (by omega) (by omega)
    refine q_c z_9 ez_9 ?_
    clear ez_9
    refine lv_istore (lv' := [(6, .int z_9), (5, .int z_6), (4, .int r_2), (0, .ref h0), (1, .int p0), (2, .int p1), (3, .int p2)]) hx hb dX12_goesPairs_90 hl_8 (by decide) rfl (fun ls_10 hl_10 => ?_)
    clear hl_8
    refine q_wl (fun (q : Int32 × Int32 × Int32) H locs ls => match q with | (v92_11_0, v92_11_1, v92_11_2) => ∃ v92_11_3 : Nat → Int32, ∃ v92_11_4 : Nat → Int32, (1 ≤ (v92_11_0).toInt ∧ (v92_11_0).toInt ≤ 10) ∧ ((-1) ≤ (v92_11_1).toInt ∧ (v92_11_1).toInt ≤ 10) ∧ ((-2147483648) ≤ (v92_11_2).toInt ∧ (v92_11_2).toInt ≤ 2147483647) ∧ qW D (va_A (wk_f147cc4b8 cy h0 p3 h1 w0 w1 w2 p4 p5 p6 p7 p8 p9 p10 p11 p12 p13 p14 w3 w4 w5 h2 w6 p15 p16 w7 h3 h4 p17 p18 w8 w9 w10 w11 w12 p19 w13 w14 w15 h1 f0 h2 f1 h3 f2 h4 f3) sz) s.heap (wk_f147cc4b8 cy h0 p3 h1 w0 w1 w2 p4 p5 p6 p7 p8 p9 p10 p11 p12 p13 p14 w3 w4 w5 h2 w6 p15 p16 w7 h3 h4 v92_11_1 v92_11_2 w8 w9 w10 w11 w12 p19 w13 w14 w15 h1 f0 h2 f1 h3 v92_11_3 h4 v92_11_4) H locs ∧ lv_has ls 7 [(0, .ref h0), (1, .int p0), (2, .int p1), (3, .int p2), (4, .int r_2), (5, .int z_6), (6, .int v92_11_0)]) (fun (q : Int32 × Int32 × Int32) => match q with | (v92_11_0, v92_11_1, v92_11_2) => (11 - (v92_11_0).toInt).toNat) (fun q_92 ih_92 H locs ls hP => ?_) (z_9, p17, p18) ⟨f2, f3, ⟨by omega, by omega⟩, hp17, hp18, h_2, (lv_sub hl_10 [3, 4, 5, 6, 2, 1, 0] rfl)⟩
    obtain ⟨v92_11_0, v92_11_1, v92_11_2⟩ := q_92
    obtain ⟨v92_11_3, v92_11_4, hv92_11_0, hv92_11_1, hv92_11_2, h, hl⟩ := hP
    refine lv_iload hx hb dX12_goesPairs_92 (lv_at hl 6 rfl) ?_
    refine lv_aload_n hx hb dX12_goesPairs_94 rfl (lv_at hl 0 rfl) ?_
    refine q_get X hK h 0 rfl rfl wf_12 1 (by decide) rfl wm_5_171 dX12_goesPairs_95 ?_
    refine lv_iconst (v := 2) hx hb dX12_goesPairs_98 (by decide) ?_
    refine q_iald X hK h 1 rfl (q_in (by decide +kernel)) dX12_goesPairs_99 ?_
    obtain ⟨z_12, ez_12, hz_12⟩ := al_P rf0 (x := 2) (show (2 : Int32).toInt = 2 by decide) (by omega) (by omega)
    refine q_c z_12 ez_12 ?_
    clear ez_12
    refine lv_icmp_ge (tgt := 196) hx hb dX12_goesPairs_100 (by decide) (fun c_13 => ?_) (fun c_13 => ?_)
    · replace c_13 := i_le (x := z_12) (y := v92_11_0) rfl rfl c_13
      refine lv_aload_n hx hb dX12_goesPairs_196 rfl (lv_at hl 0 rfl) ?_
      refine q_get X hK h 0 rfl rfl wf_12 24 (by decide) rfl wm_5_194 dX12_goesPairs_197 ?_
      refine lv_iload hx hb dX12_goesPairs_200 (lv_at hl 4 rfl) ?_
      refine lv_iconst (v := (-1)) hx hb dX12_goesPairs_202 (by decide) ?_
      refine q_iast X hK h 3 rfl (i_in rfl (by omega) (by omega)) dX12_goesPairs_203 (fun H locs h_15 => ?_)
      clear h
      replace h_15 : qW D _ _ (wk_f147cc4b8 cy h0 p3 h1 w0 w1 w2 p4 p5 p6 p7 p8 p9 p10 p11 p12 p13 p14 w3 w4 w5 h2 w6 p15 p16 w7 h3 h4 v92_11_1 v92_11_2 w8 w9 w10 w11 w12 p19 w13 w14 w15 h1 f0 h2 f1 h3 (upd v92_11_3 (Int32.toNatClampNeg r_2) (-1)) h4 v92_11_4) _ _ := h_15
      obtain ⟨F_14, eF_14⟩ : ∃ z, (upd v92_11_3 (Int32.toNatClampNeg r_2) (-1)) = z := ⟨_, rfl⟩
      rw [eF_14] at h_15
      clear eF_14
      refine lv_aload_n hx hb dX12_goesPairs_204 rfl (lv_at hl 0 rfl) ?_
      refine lv_iload hx hb dX12_goesPairs_205 (lv_at hl 5 rfl) ?_
      refine lv_iload_n hx hb dX12_goesPairs_207 rfl (lv_at hl 2 rfl) ?_
      refine lv_iload_n hx hb dX12_goesPairs_208 rfl (lv_at hl 3 rfl) ?_
      refine q_callVv (rest := []) (wr := []) X hK hT hA h_15 (fun sz => gX12_goesPairs_0def14e l D cy h0 h1 h2 h3 h4 z_6 p1 p2 p3 w0 w1 w2 p4 p5 p6 p7 p8 p9 p10 p11 p12 p13 p14 w3 w4 w5 w6 p15 p16 w7 v92_11_1 v92_11_2 w8 w9 w10 w11 w12 p19 w13 w14 w15 f0 p20 f1 F_14 v92_11_4 ⟨by omega, by omega⟩ (bw hp1 (by decide) (by decide)) (i_rng _) hp3 hp4 hp5 hp6 hp7 (i_rng _) hp9 (i_rng _) (i_rng _) (i_rng _) (i_rng _) (i_rng _) (i_rng _) (i_rng _) hv92_11_1 (i_rng _) (i_rng _) hp20 htf0_84 rf0 (rg_wide rf1 (by decide) (by decide)) ((show _ % 32 = 0 from rs_7.1)) sz) wm_7_116 wm_7_119 wm_1_12 hd_X12_goesPairs wm_7_118 wp_7_4 (ci := 12) (q0 := 0) rfl rfl ⟨Nat.le_of_ble_eq_true rfl, Nat.le_of_ble_eq_true rfl⟩ hl.1 rfl (Nat.le_of_ble_eq_true rfl) dX12_goesPairs_209 ⟨Nat.le_of_ble_eq_true rfl, Nat.le_of_ble_eq_true rfl⟩ [0, 1, 2, 3, 4] [] rfl rfl (by decide) rfl rfl (fun u_16 H locs w_16 h_16 => ?_)
      clear h_15
      obtain ⟨w16_0, w16_1, _⟩ := w_16
      replace h_16 : qW D _ _ (wk_f147cc4b8 cy h0 p3 h1 w0 w1 w2 p4 p5 p6 p7 p8 p9 p10 p11 p12 p13 p14 w3 w4 w5 h2 w6 p15 p16 w7 h3 h4 (u_16.2.1 0 0) (u_16.2.1 1 0) w8 w9 w10 w11 w12 p19 w13 w14 w15 h1 f0 h2 f1 h3 (u_16.2.1 2) h4 (u_16.2.1 3)) _ _ := h_16
      exact q_vret X hr hlk hK h_16 (fun _ => 0, (vcons (fun _ => (u_16.2.1 0 0)) (vcons (fun _ => (u_16.2.1 1 0)) (vcons (u_16.2.1 2) (vcons (u_16.2.1 3) (fun _ => (fun _ => 0)))))), fun _ _ => 0) ⟨w16_0, w16_1, trivial⟩ [0, 1, 2, 3, 4] rfl rfl dX12_goesPairs_212 (Nat.le_of_ble_eq_true rfl) (Nat.le_of_ble_eq_true rfl)
    · replace c_13 := i_nle (x := z_12) (y := v92_11_0) rfl rfl c_13
      refine lv_iload hx hb dX12_goesPairs_103 (lv_at hl 5 rfl) ?_
      refine lv_aload_n hx hb dX12_goesPairs_105 rfl (lv_at hl 0 rfl) ?_
      refine q_get X hK h 0 rfl rfl wf_12 19 (by decide) rfl wm_5_189 dX12_goesPairs_106 ?_
      refine lv_iload hx hb dX12_goesPairs_109 (lv_at hl 4 rfl) ?_
      refine q_iald X hK h 2 rfl (i_in rfl (by omega) (by omega)) dX12_goesPairs_111 ?_
      obtain ⟨z_17, ez_17, hz_17⟩ := rg_get rf1 (x := r_2) rfl (by omega) (by omega)
      refine q_c z_17 ez_17 ?_
      clear ez_17
      refine lv_iand hx hb dX12_goesPairs_112 ?_
      obtain ⟨z_18, ez_18, hz_18⟩ := e_and2 (x := z_6) (y := z_17) rfl (by omega)
      refine q_c z_18 ez_18 ?_
      clear ez_18
      refine lv_i2l hx hb dX12_goesPairs_113 rfl ?_
      obtain ⟨z_19, ez_19, hz_19⟩ := e_i2l (x := z_18) rfl
      refine q_cl z_19 ez_19 ?_
      clear ez_19
      refine lv_iload hx hb dX12_goesPairs_114 (lv_at hl 6 rfl) ?_
      refine q_callSi (rest := []) (wr := (wk_f147cc4b8 cy h0 p3 h1 w0 w1 w2 p4 p5 p6 p7 p8 p9 p10 p11 p12 p13 p14 w3 w4 w5 h2 w6 p15 p16 w7 h3 h4 v92_11_1 v92_11_2 w8 w9 w10 w11 w12 p19 w13 w14 w15 h1 f0 h2 f1 h3 v92_11_3 h4 v92_11_4)) X hK hT hA h (fun sz => gX12_isIn_b0455a8 l D cy z_19 v92_11_0 ⟨by omega, by omega⟩ ⟨by omega, by omega⟩ sz) wm_6_167 wm_6_169 wm_1_12 hd_X12_isIn wm_6_168 ⟨Nat.le_of_ble_eq_true rfl, Nat.le_of_ble_eq_true rfl⟩ hl.1 rfl (Nat.le_of_ble_eq_true rfl) dX12_goesPairs_116 ⟨Nat.le_of_ble_eq_true rfl, Nat.le_of_ble_eq_true rfl⟩ [] [0, 1, 2, 3, 4] rfl rfl (by decide) rfl rfl (fun r_20 u_20 H locs w_20 h_20 => ?_)
      clear h
      obtain ⟨wr_20, _⟩ := w_20
      replace h_20 : qW D _ _ (wk_f147cc4b8 cy h0 p3 h1 w0 w1 w2 p4 p5 p6 p7 p8 p9 p10 p11 p12 p13 p14 w3 w4 w5 h2 w6 p15 p16 w7 h3 h4 v92_11_1 v92_11_2 w8 w9 w10 w11 w12 p19 w13 w14 w15 h1 f0 h2 f1 h3 v92_11_3 h4 v92_11_4) _ _ := h_20
      refine q_jn (pc2 := 190) (fun H locs ls st => ∃ v190_21_0 : Int32, ∃ v190_21_1 : Int32, ∃ v190_21_2 : Nat → Int32, ∃ v190_21_3 : Nat → Int32, ((-1) ≤ (v190_21_0).toInt ∧ (v190_21_0).toInt ≤ 10) ∧ ((-2147483648) ≤ (v190_21_1).toInt ∧ (v190_21_1).toInt ≤ 2147483647) ∧ st = [] ∧ qW D (va_A (wk_f147cc4b8 cy h0 p3 h1 w0 w1 w2 p4 p5 p6 p7 p8 p9 p10 p11 p12 p13 p14 w3 w4 w5 h2 w6 p15 p16 w7 h3 h4 p17 p18 w8 w9 w10 w11 w12 p19 w13 w14 w15 h1 f0 h2 f1 h3 f2 h4 f3) sz) s.heap (wk_f147cc4b8 cy h0 p3 h1 w0 w1 w2 p4 p5 p6 p7 p8 p9 p10 p11 p12 p13 p14 w3 w4 w5 h2 w6 p15 p16 w7 h3 h4 v190_21_0 v190_21_1 w8 w9 w10 w11 w12 p19 w13 w14 w15 h1 f0 h2 f1 h3 v190_21_2 h4 v190_21_3) H locs ∧ lv_has ls 7 [(0, .ref h0), (1, .int p0), (2, .int p1), (3, .int p2), (4, .int r_2), (5, .int z_6), (6, .int v92_11_0)]) (fun H locs ls st hP => ?_) (fun J_190 => ?_)
      · obtain ⟨v190_21_0, v190_21_1, v190_21_2, v190_21_3, hv190_21_0, hv190_21_1, rfl, h, hl⟩ := hP
        obtain ⟨z_22, ez_22, hz_22⟩ := e_add (x := v92_11_0) (y := Int32.ofInt 1) rfl (b := 1) (by decide) (by omega) (by omega)
        refine lv_iinc (v := z_22) (lv' := [(6, .int z_22), (0, .ref h0), (1, .int p0), (2, .int p1), (3, .int p2), (4, .int r_2), (5, .int z_6)]) hx hb dX12_goesPairs_190 hl (k := 6) rfl ez_22 (by decide) rfl (fun ls_22 hl_22 => ?_)
        clear hl
        refine lv_goto (tgt := 92) hx hb dX12_goesPairs_193 (by decide) ?_
        exact ih_92 (z_22, v190_21_0, v190_21_1) (by show (11 - (z_22).toInt).toNat < (11 - (v92_11_0).toInt).toNat; omega) _ _ _ ⟨v190_21_2, v190_21_3, ⟨by omega, by omega⟩, hv190_21_0, hv190_21_1, h, (lv_sub hl_22 [1, 2, 3, 4, 5, 6, 0] rfl)⟩
      · skip
        refine lv_if_ne (tgt := 125) hx hb dX12_goesPairs_119 (by decide) (fun c_23 => ?_) (fun c_23 => ?_)
        · replace c_23 := i_ne (x := r_20) (y := 0) rfl (show (0 : Int32).toInt = 0 by decide) c_23
          refine lv_aload_n hx hb dX12_goesPairs_125 rfl (lv_at hl 0 rfl) ?_
          refine q_get X hK h_20 0 rfl rfl wf_12 24 (by decide) rfl wm_5_194 dX12_goesPairs_126 ?_
          refine lv_iload hx hb dX12_goesPairs_129 (lv_at hl 4 rfl) ?_
          refine lv_iload hx hb dX12_goesPairs_131 (lv_at hl 6 rfl) ?_
          refine q_iast X hK h_20 3 rfl (i_in rfl (by omega) (by omega)) dX12_goesPairs_133 (fun H locs h_25 => ?_)
          clear h_20
          replace h_25 : qW D _ _ (wk_f147cc4b8 cy h0 p3 h1 w0 w1 w2 p4 p5 p6 p7 p8 p9 p10 p11 p12 p13 p14 w3 w4 w5 h2 w6 p15 p16 w7 h3 h4 v92_11_1 v92_11_2 w8 w9 w10 w11 w12 p19 w13 w14 w15 h1 f0 h2 f1 h3 (upd v92_11_3 (Int32.toNatClampNeg r_2) v92_11_0) h4 v92_11_4) _ _ := h_25
          obtain ⟨F_24, eF_24⟩ : ∃ z, (upd v92_11_3 (Int32.toNatClampNeg r_2) v92_11_0) = z := ⟨_, rfl⟩
          rw [eF_24] at h_25
          clear eF_24
          refine lv_aload_n hx hb dX12_goesPairs_134 rfl (lv_at hl 0 rfl) ?_
          refine q_get X hK h_25 0 rfl rfl wf_12 24 (by decide) rfl wm_5_194 dX12_goesPairs_135 ?_
          refine lv_iload hx hb dX12_goesPairs_138 (lv_at hl 6 rfl) ?_
          refine lv_iload hx hb dX12_goesPairs_140 (lv_at hl 4 rfl) ?_
          refine q_iast X hK h_25 3 rfl (i_in rfl (by omega) (by omega)) dX12_goesPairs_142 (fun H locs h_27 => ?_)
          clear h_25
          replace h_27 : qW D _ _ (wk_f147cc4b8 cy h0 p3 h1 w0 w1 w2 p4 p5 p6 p7 p8 p9 p10 p11 p12 p13 p14 w3 w4 w5 h2 w6 p15 p16 w7 h3 h4 v92_11_1 v92_11_2 w8 w9 w10 w11 w12 p19 w13 w14 w15 h1 f0 h2 f1 h3 (upd F_24 (Int32.toNatClampNeg v92_11_0) r_2) h4 v92_11_4) _ _ := h_27
          obtain ⟨F_26, eF_26⟩ : ∃ z, (upd F_24 (Int32.toNatClampNeg v92_11_0) r_2) = z := ⟨_, rfl⟩
          rw [eF_26] at h_27
          clear eF_26
          refine lv_aload_n hx hb dX12_goesPairs_143 rfl (lv_at hl 0 rfl) ?_
          refine lv_iload hx hb dX12_goesPairs_144 (lv_at hl 5 rfl) ?_
          refine lv_iconst (v := 1) hx hb dX12_goesPairs_146 (by decide) ?_
          refine lv_iload hx hb dX12_goesPairs_147 (lv_at hl 6 rfl) ?_
          refine lv_ishl hx hb dX12_goesPairs_149 ?_
          obtain ⟨z_28, ez_28, hz_28⟩ := e_shlk (p := v92_11_0) 9 (by decide) rfl (by omega) (by omega)
          refine q_c z_28 ez_28 ?_
          clear ez_28
          refine lv_iconst (v := (-1)) hx hb dX12_goesPairs_150 (by decide) ?_
          refine lv_ixor hx hb dX12_goesPairs_151 ?_
          refine q_any (fun z_29 hz_29 => ?_)
          refine lv_iand hx hb dX12_goesPairs_152 ?_
          obtain ⟨z_30, ez_30, hz_30⟩ := e_and1 (x := z_6) (y := z_29) rfl (by omega)
          refine q_c z_30 ez_30 ?_
          have ad_31 := and_div 5 (by omega) rs_7.1 ez_30
          refine lv_iload_n hx hb dX12_goesPairs_153 rfl (lv_at hl 2 rfl) ?_
          refine lv_iconst (v := 1) hx hb dX12_goesPairs_154 (by decide) ?_
          refine lv_iadd hx hb dX12_goesPairs_155 ?_
          obtain ⟨z_32, ez_32, hz_32⟩ := e_add (x := p1) (y := 1) rfl (show (1 : Int32).toInt = 1 by decide) (by omega) (by omega)
          refine q_c z_32 ez_32 ?_
          clear ez_32
          refine lv_iload_n hx hb dX12_goesPairs_156 rfl (lv_at hl 3 rfl) ?_
          refine lv_aload_n hx hb dX12_goesPairs_157 rfl (lv_at hl 0 rfl) ?_
          refine q_get X hK h_27 0 rfl rfl wf_12 1 (by decide) rfl wm_5_171 dX12_goesPairs_158 ?_
          refine lv_bipush (v := 42) hx hb dX12_goesPairs_161 (by decide) ?_
          refine lv_iload hx hb dX12_goesPairs_163 (lv_at hl 4 rfl) ?_
          refine lv_iadd hx hb dX12_goesPairs_165 ?_
          obtain ⟨z_33, ez_33, hz_33⟩ := e_add (x := 42) (y := r_2) (show (42 : Int32).toInt = 42 by decide) rfl (by omega) (by omega)
          refine q_c z_33 ez_33 ?_
          clear ez_33
          refine q_iald X hK h_27 1 rfl (i_in rfl (by omega) (by omega)) dX12_goesPairs_166 ?_
          refine q_any (fun z_34 hz_34 => ?_)
          refine lv_iadd hx hb dX12_goesPairs_167 ?_
          refine q_any (fun z_35 hz_35 => ?_)
          refine lv_aload_n hx hb dX12_goesPairs_168 rfl (lv_at hl 0 rfl) ?_
          refine q_get X hK h_27 0 rfl rfl wf_12 1 (by decide) rfl wm_5_171 dX12_goesPairs_169 ?_
          refine lv_bipush (v := 42) hx hb dX12_goesPairs_172 (by decide) ?_
          refine lv_iload hx hb dX12_goesPairs_174 (lv_at hl 6 rfl) ?_
          refine lv_iadd hx hb dX12_goesPairs_176 ?_
          obtain ⟨z_36, ez_36, hz_36⟩ := e_add (x := 42) (y := v92_11_0) (show (42 : Int32).toInt = 42 by decide) rfl (by omega) (by omega)
          refine q_c z_36 ez_36 ?_
          clear ez_36
          refine q_iald X hK h_27 1 rfl (i_in rfl (by omega) (by omega)) dX12_goesPairs_177 ?_
          refine q_any (fun z_37 hz_37 => ?_)
          refine lv_iadd hx hb dX12_goesPairs_178 ?_
          refine q_any (fun z_38 hz_38 => ?_)
          refine q_callVv (rest := []) (wr := []) X hK hT hA h_27 (fun sz => gX12_goesPairs_0def14e l D cy h0 h1 h2 h3 h4 z_30 z_32 z_38 p3 w0 w1 w2 p4 p5 p6 p7 p8 p9 p10 p11 p12 p13 p14 w3 w4 w5 w6 p15 p16 w7 v92_11_1 v92_11_2 w8 w9 w10 w11 w12 p19 w13 w14 w15 f0 p20 f1 F_26 v92_11_4 ⟨by omega, by omega⟩ ⟨by omega, by omega⟩ (i_rng _) hp3 hp4 hp5 hp6 hp7 (i_rng _) hp9 (i_rng _) (i_rng _) (i_rng _) (i_rng _) (i_rng _) (i_rng _) (i_rng _) hv92_11_1 (i_rng _) (i_rng _) hp20 htf0_84 rf0 (rg_wide rf1 (by decide) (by decide)) ((show _ % 32 = 0 from ad_31)) sz) wm_7_116 wm_7_119 wm_1_12 hd_X12_goesPairs wm_7_118 wp_7_4 (ci := 12) (q0 := 0) rfl rfl ⟨Nat.le_of_ble_eq_true rfl, Nat.le_of_ble_eq_true rfl⟩ hl.1 rfl (Nat.le_of_ble_eq_true rfl) dX12_goesPairs_179 ⟨Nat.le_of_ble_eq_true rfl, Nat.le_of_ble_eq_true rfl⟩ [0, 1, 2, 3, 4] [] rfl rfl (by decide) rfl rfl (fun u_39 H locs w_39 h_39 => ?_)
          clear h_27
          obtain ⟨w39_0, w39_1, _⟩ := w_39
          replace h_39 : qW D _ _ (wk_f147cc4b8 cy h0 p3 h1 w0 w1 w2 p4 p5 p6 p7 p8 p9 p10 p11 p12 p13 p14 w3 w4 w5 h2 w6 p15 p16 w7 h3 h4 (u_39.2.1 0 0) (u_39.2.1 1 0) w8 w9 w10 w11 w12 p19 w13 w14 w15 h1 f0 h2 f1 h3 (u_39.2.1 2) h4 (u_39.2.1 3)) _ _ := h_39
          refine lv_aload_n hx hb dX12_goesPairs_182 rfl (lv_at hl 0 rfl) ?_
          refine q_get X hK h_39 0 rfl rfl wf_12 24 (by decide) rfl wm_5_194 dX12_goesPairs_183 ?_
          refine lv_iload hx hb dX12_goesPairs_186 (lv_at hl 6 rfl) ?_
          refine lv_iconst (v := (-1)) hx hb dX12_goesPairs_188 (by decide) ?_
          refine q_iast X hK h_39 3 rfl (i_in rfl (by omega) (by omega)) dX12_goesPairs_189 (fun H locs h_41 => ?_)
          clear h_39
          replace h_41 : qW D _ _ (wk_f147cc4b8 cy h0 p3 h1 w0 w1 w2 p4 p5 p6 p7 p8 p9 p10 p11 p12 p13 p14 w3 w4 w5 h2 w6 p15 p16 w7 h3 h4 (u_39.2.1 0 0) (u_39.2.1 1 0) w8 w9 w10 w11 w12 p19 w13 w14 w15 h1 f0 h2 f1 h3 (upd (u_39.2.1 2) (Int32.toNatClampNeg v92_11_0) (-1)) h4 (u_39.2.1 3)) _ _ := h_41
          obtain ⟨F_40, eF_40⟩ : ∃ z, (upd (u_39.2.1 2) (Int32.toNatClampNeg v92_11_0) (-1)) = z := ⟨_, rfl⟩
          rw [eF_40] at h_41
          clear eF_40
          exact J_190 _ _ _ _ ⟨(u_39.2.1 0 0), (u_39.2.1 1 0), F_40, (u_39.2.1 3), w39_0, w39_1, rfl, h_41, (lv_sub hl [0, 1, 2, 3, 4, 5, 6] rfl)⟩
        · replace c_23 := i_eq (x := r_20) (y := 0) rfl (show (0 : Int32).toInt = 0 by decide) c_23
          refine lv_goto (tgt := 190) hx hb dX12_goesPairs_122 (by decide) ?_
          exact J_190 _ _ _ _ ⟨v92_11_1, v92_11_2, v92_11_3, v92_11_4, hv92_11_1, hv92_11_2, rfl, h_20, (lv_sub hl [0, 1, 2, 3, 4, 5, 6] rfl)⟩
  · replace c_1 := i_eq (x := p0) (y := 0) rfl (show (0 : Int32).toInt = 0 by decide) c_1
    refine lv_iload_n hx hb dX12_goesPairs_4 rfl (lv_at hl 2 rfl) ?_
    refine lv_aload_n hx hb dX12_goesPairs_5 rfl (lv_at hl 0 rfl) ?_
    refine q_get X hK h 0 rfl rfl wf_12 26 (by decide) rfl wm_5_196 dX12_goesPairs_6 ?_
    refine q_jn (pc2 := 28) (fun H locs ls st => st = [] ∧ qW D (va_A (wk_f147cc4b8 cy h0 p3 h1 w0 w1 w2 p4 p5 p6 p7 p8 p9 p10 p11 p12 p13 p14 w3 w4 w5 h2 w6 p15 p16 w7 h3 h4 p17 p18 w8 w9 w10 w11 w12 p19 w13 w14 w15 h1 f0 h2 f1 h3 f2 h4 f3) sz) s.heap (wk_f147cc4b8 cy h0 p3 h1 w0 w1 w2 p4 p5 p6 p7 p8 p9 p10 p11 p12 p13 p14 w3 w4 w5 h2 w6 p15 p16 w7 h3 h4 p17 p18 w8 w9 w10 w11 w12 p19 w13 w14 w15 h1 f0 h2 f1 h3 f2 h4 f3) H locs ∧ lv_has ls 7 [(0, .ref h0), (1, .int p0), (2, .int p1), (3, .int p2)]) (fun H locs ls st hP => ?_) (fun J_28 => ?_)
    · obtain ⟨rfl, h, hl⟩ := hP
      exact q_vret X hr hlk hK h (fun _ => 0, (vcons (fun _ => p17) (vcons (fun _ => p18) (vcons f2 (vcons f3 (fun _ => (fun _ => 0)))))), fun _ _ => 0) ⟨hp17, hp18, trivial⟩ [0, 1, 2, 3, 4] rfl rfl dX12_goesPairs_28 (Nat.le_of_ble_eq_true rfl) (Nat.le_of_ble_eq_true rfl)
    · skip
      refine lv_icmp_lt (tgt := 28) hx hb dX12_goesPairs_9 (by decide) (fun c_43 => ?_) (fun c_43 => ?_)
      · replace c_43 := i_lt (x := p1) (y := p17) rfl rfl c_43
        exact J_28 _ _ _ _ ⟨rfl, h, (lv_sub hl [0, 1, 2, 3] rfl)⟩
      · replace c_43 := i_nlt (x := p1) (y := p17) rfl rfl c_43
        refine lv_iload_n hx hb dX12_goesPairs_12 rfl (lv_at hl 2 rfl) ?_
        refine lv_aload_n hx hb dX12_goesPairs_13 rfl (lv_at hl 0 rfl) ?_
        refine q_get X hK h 0 rfl rfl wf_12 26 (by decide) rfl wm_5_196 dX12_goesPairs_14 ?_
        refine q_jn (pc2 := 29) (fun H locs ls st => st = [] ∧ qW D (va_A (wk_f147cc4b8 cy h0 p3 h1 w0 w1 w2 p4 p5 p6 p7 p8 p9 p10 p11 p12 p13 p14 w3 w4 w5 h2 w6 p15 p16 w7 h3 h4 p17 p18 w8 w9 w10 w11 w12 p19 w13 w14 w15 h1 f0 h2 f1 h3 f2 h4 f3) sz) s.heap (wk_f147cc4b8 cy h0 p3 h1 w0 w1 w2 p4 p5 p6 p7 p8 p9 p10 p11 p12 p13 p14 w3 w4 w5 h2 w6 p15 p16 w7 h3 h4 p17 p18 w8 w9 w10 w11 w12 p19 w13 w14 w15 h1 f0 h2 f1 h3 f2 h4 f3) H locs ∧ lv_has ls 7 [(0, .ref h0), (1, .int p0), (2, .int p1), (3, .int p2)]) (fun H locs ls st hP => ?_) (fun J_29 => ?_)
        · obtain ⟨rfl, h, hl⟩ := hP
          refine lv_aload_n hx hb dX12_goesPairs_29 rfl (lv_at hl 0 rfl) ?_
          refine lv_iload_n hx hb dX12_goesPairs_30 rfl (lv_at hl 2 rfl) ?_
          refine q_put (v := .int p1) X hK h 0 rfl rfl wf_12 tyX12 tyX12_ok nmX12 26 (by decide) wm_5_196 rfl rfl rfl (Nat.le_of_ble_eq_true rfl) dX12_goesPairs_31 (fun H locs h_45 => ?_)
          clear h
          replace h_45 : qW D _ _ (wk_f147cc4b8 cy h0 p3 h1 w0 w1 w2 p4 p5 p6 p7 p8 p9 p10 p11 p12 p13 p14 w3 w4 w5 h2 w6 p15 p16 w7 h3 h4 p1 p18 w8 w9 w10 w11 w12 p19 w13 w14 w15 h1 f0 h2 f1 h3 f2 h4 f3) _ _ := h_45
          refine lv_aload_n hx hb dX12_goesPairs_34 rfl (lv_at hl 0 rfl) ?_
          refine lv_iload_n hx hb dX12_goesPairs_35 rfl (lv_at hl 3 rfl) ?_
          refine q_put (v := .int p2) X hK h_45 0 rfl rfl wf_12 tyX12 tyX12_ok nmX12 27 (by decide) wm_5_197 rfl rfl rfl (Nat.le_of_ble_eq_true rfl) dX12_goesPairs_36 (fun H locs h_46 => ?_)
          clear h_45
          replace h_46 : qW D _ _ (wk_f147cc4b8 cy h0 p3 h1 w0 w1 w2 p4 p5 p6 p7 p8 p9 p10 p11 p12 p13 p14 w3 w4 w5 h2 w6 p15 p16 w7 h3 h4 p1 p2 w8 w9 w10 w11 w12 p19 w13 w14 w15 h1 f0 h2 f1 h3 f2 h4 f3) _ _ := h_46
          refine lv_iconst (v := 0) hx hb dX12_goesPairs_39 (by decide) ?_
          refine lv_istore (lv' := [(4, .int 0), (0, .ref h0), (1, .int p0), (2, .int p1), (3, .int p2)]) hx hb dX12_goesPairs_40 hl (by decide) rfl (fun ls_47 hl_47 => ?_)
          clear hl
          refine q_wl (fun (v42_48_0 : Int32) H locs ls => ∃ v42_48_1 : Nat → Int32, (0 ≤ (v42_48_0).toInt ∧ (v42_48_0).toInt ≤ 10) ∧ qW D (va_A (wk_f147cc4b8 cy h0 p3 h1 w0 w1 w2 p4 p5 p6 p7 p8 p9 p10 p11 p12 p13 p14 w3 w4 w5 h2 w6 p15 p16 w7 h3 h4 p17 p18 w8 w9 w10 w11 w12 p19 w13 w14 w15 h1 f0 h2 f1 h3 f2 h4 f3) sz) s.heap (wk_f147cc4b8 cy h0 p3 h1 w0 w1 w2 p4 p5 p6 p7 p8 p9 p10 p11 p12 p13 p14 w3 w4 w5 h2 w6 p15 p16 w7 h3 h4 p1 p2 w8 w9 w10 w11 w12 p19 w13 w14 w15 h1 f0 h2 f1 h3 f2 h4 v42_48_1) H locs ∧ lv_has ls 7 [(0, .ref h0), (1, .int p0), (2, .int p1), (3, .int p2), (4, .int v42_48_0)]) (fun (v42_48_0 : Int32) => (11 - (v42_48_0).toInt).toNat) (fun q_42 ih_42 H locs ls hP => ?_) 0 ⟨f3, ⟨by decide +kernel, by decide +kernel⟩, h_46, (lv_sub hl_47 [1, 2, 3, 4, 0] rfl)⟩
          obtain ⟨v42_48_0, rfl⟩ : ∃ z, z = q_42 := ⟨_, rfl⟩
          obtain ⟨v42_48_1, hv42_48_0, h, hl⟩ := hP
          refine lv_iload hx hb dX12_goesPairs_42 (lv_at hl 4 rfl) ?_
          refine lv_bipush (v := 10) hx hb dX12_goesPairs_44 (by decide) ?_
          refine lv_icmp_ge (tgt := 69) hx hb dX12_goesPairs_46 (by decide) (fun c_49 => ?_) (fun c_49 => ?_)
          · replace c_49 := i_le (x := 10) (y := v42_48_0) (show (10 : Int32).toInt = 10 by decide) rfl c_49
            exact q_vret X hr hlk hK h (fun _ => 0, (vcons (fun _ => p1) (vcons (fun _ => p2) (vcons f2 (vcons v42_48_1 (fun _ => (fun _ => 0)))))), fun _ _ => 0) ⟨(bw hp1 (by decide) (by decide)), hp2, trivial⟩ [0, 1, 2, 3, 4] rfl rfl dX12_goesPairs_69 (Nat.le_of_ble_eq_true rfl) (Nat.le_of_ble_eq_true rfl)
          · replace c_49 := i_nle (x := 10) (y := v42_48_0) (show (10 : Int32).toInt = 10 by decide) rfl c_49
            refine lv_aload_n hx hb dX12_goesPairs_49 rfl (lv_at hl 0 rfl) ?_
            refine q_get X hK h 0 rfl rfl wf_12 25 (by decide) rfl wm_5_195 dX12_goesPairs_50 ?_
            refine lv_iload hx hb dX12_goesPairs_53 (lv_at hl 4 rfl) ?_
            refine lv_aload_n hx hb dX12_goesPairs_55 rfl (lv_at hl 0 rfl) ?_
            refine q_get X hK h 0 rfl rfl wf_12 24 (by decide) rfl wm_5_194 dX12_goesPairs_56 ?_
            refine lv_iload hx hb dX12_goesPairs_59 (lv_at hl 4 rfl) ?_
            refine q_iald X hK h 3 rfl (i_in rfl (by omega) (by omega)) dX12_goesPairs_61 ?_
            refine q_any (fun z_50 hz_50 => ?_)
            refine q_iast X hK h 4 rfl (i_in rfl (by omega) (by omega)) dX12_goesPairs_62 (fun H locs h_52 => ?_)
            clear h
            replace h_52 : qW D _ _ (wk_f147cc4b8 cy h0 p3 h1 w0 w1 w2 p4 p5 p6 p7 p8 p9 p10 p11 p12 p13 p14 w3 w4 w5 h2 w6 p15 p16 w7 h3 h4 p1 p2 w8 w9 w10 w11 w12 p19 w13 w14 w15 h1 f0 h2 f1 h3 f2 h4 (upd v42_48_1 (Int32.toNatClampNeg v42_48_0) z_50)) _ _ := h_52
            obtain ⟨F_51, eF_51⟩ : ∃ z, (upd v42_48_1 (Int32.toNatClampNeg v42_48_0) z_50) = z := ⟨_, rfl⟩
            rw [eF_51] at h_52
            clear eF_51
            obtain ⟨z_53, ez_53, hz_53⟩ := e_add (x := v42_48_0) (y := Int32.ofInt 1) rfl (b := 1) (by decide) (by omega) (by omega)
            refine lv_iinc (v := z_53) (lv' := [(4, .int z_53), (0, .ref h0), (1, .int p0), (2, .int p1), (3, .int p2)]) hx hb dX12_goesPairs_63 hl (k := 4) rfl ez_53 (by decide) rfl (fun ls_53 hl_53 => ?_)
            clear hl
            refine lv_goto (tgt := 42) hx hb dX12_goesPairs_66 (by decide) ?_
            exact ih_42 z_53 (by show (11 - (z_53).toInt).toNat < (11 - (v42_48_0).toInt).toNat; omega) _ _ _ ⟨F_51, ⟨by omega, by omega⟩, h_52, (lv_sub hl_53 [1, 2, 3, 4, 0] rfl)⟩
        · skip
          refine lv_icmp_ne (tgt := 29) hx hb dX12_goesPairs_17 (by decide) (fun c_54 => ?_) (fun c_54 => ?_)
          · replace c_54 := i_ne (x := p1) (y := p17) rfl rfl c_54
            exact J_29 _ _ _ _ ⟨rfl, h, (lv_sub hl [0, 1, 2, 3] rfl)⟩
          · replace c_54 := i_eq (x := p1) (y := p17) rfl rfl c_54
            refine lv_iload_n hx hb dX12_goesPairs_20 rfl (lv_at hl 3 rfl) ?_
            refine lv_aload_n hx hb dX12_goesPairs_21 rfl (lv_at hl 0 rfl) ?_
            refine q_get X hK h 0 rfl rfl wf_12 27 (by decide) rfl wm_5_197 dX12_goesPairs_22 ?_
            refine lv_icmp_gt (tgt := 29) hx hb dX12_goesPairs_25 (by decide) (fun c_55 => ?_) (fun c_55 => ?_)
            · replace c_55 := i_lt (x := p18) (y := p2) rfl rfl c_55
              exact J_29 _ _ _ _ ⟨rfl, h, (lv_sub hl [0, 1, 2, 3] rfl)⟩
            · replace c_55 := i_nlt (x := p18) (y := p2) rfl rfl c_55
              exact J_28 _ _ _ _ ⟨rfl, h, (lv_sub hl [0, 1, 2, 3] rfl)⟩
set_option maxHeartbeats 4000000 in
set_option maxRecDepth 100000 in
theorem gX12_goesPairs_4b60efc (l : Launch) (D : va_G) (cy : Nat → ClassId) (h0 : Nat) (h1 : Nat) (h2 : Nat) (h3 : Nat) (h4 : Nat) (p0 : Int32) (p1 : Int32) (p2 : Int32) (p3 : Int32) (w0 : Value) (w1 : Value) (w2 : Value) (p4 : Int32) (p5 : Int32) (p6 : Int32) (p7 : Int32) (p8 : Int32) (p9 : Int32) (p10 : Int32) (p11 : Int32) (p12 : Int32) (p13 : Int32) (p14 : Int32) (w3 : Value) (w4 : Value) (w5 : Value) (w6 : Value) (p15 : Int32) (p16 : Int32) (w7 : Value) (p17 : Int32) (p18 : Int32) (w8 : Value) (w9 : Value) (w10 : Value) (w11 : Value) (w12 : Value) (p19 : Int32) (w13 : Value) (w14 : Value) (w15 : Value) (f0 : Nat → Int32) (p20 : Int32) (f1 : Nat → Int32) (f2 : Nat → Int32) (f3 : Nat → Int32) (hp0 : 0 ≤ (p0).toInt ∧ (p0).toInt ≤ 1023) (hp1 : 0 ≤ (p1).toInt ∧ (p1).toInt ≤ 3) (hp2 : (-2147483648) ≤ (p2).toInt ∧ (p2).toInt ≤ 2147483647) (hp3 : 0 ≤ (p3).toInt ∧ (p3).toInt ≤ 0) (hp4 : 0 ≤ (p4).toInt ∧ (p4).toInt ≤ 900) (hp5 : 0 ≤ (p5).toInt ∧ (p5).toInt ≤ 900) (hp6 : 0 ≤ (p6).toInt ∧ (p6).toInt ≤ 900) (hp7 : 0 ≤ (p7).toInt ∧ (p7).toInt ≤ 900) (hp8 : (-2147483648) ≤ (p8).toInt ∧ (p8).toInt ≤ 2147483647) (hp9 : 0 ≤ (p9).toInt ∧ (p9).toInt ≤ 999) (hp10 : (-2147483648) ≤ (p10).toInt ∧ (p10).toInt ≤ 2147483647) (hp11 : (-2147483648) ≤ (p11).toInt ∧ (p11).toInt ≤ 2147483647) (hp12 : (-2147483648) ≤ (p12).toInt ∧ (p12).toInt ≤ 2147483647) (hp13 : (-2147483648) ≤ (p13).toInt ∧ (p13).toInt ≤ 2147483647) (hp14 : (-2147483648) ≤ (p14).toInt ∧ (p14).toInt ≤ 2147483647) (hp15 : (-2147483648) ≤ (p15).toInt ∧ (p15).toInt ≤ 2147483647) (hp16 : (-2147483648) ≤ (p16).toInt ∧ (p16).toInt ≤ 2147483647) (hp17 : (-1) ≤ (p17).toInt ∧ (p17).toInt ≤ 10) (hp18 : (-2147483648) ≤ (p18).toInt ∧ (p18).toInt ≤ 2147483647) (hp19 : (-2147483648) ≤ (p19).toInt ∧ (p19).toInt ≤ 2147483647) (hp20 : 0 ≤ (p20).toInt ∧ (p20).toInt ≤ 10) (htf0_84 : f0 84 = p20) (rf0 : AL f0) (rf1 : RG f1 10 0 1023) (hpre0 : (p0 : Int32).toInt % 8 = 0) (sz : Nat) : MV l yX12_goesPairs cX12_goesPairs 7 { frames := 8, cells := 0, slots := 0, locals := 199 } [.ref h0, .int p0, .int p1, .int p2] D cy (wk_f147cc4b8 cy h0 p3 h1 w0 w1 w2 p4 p5 p6 p7 p8 p9 p10 p11 p12 p13 p14 w3 w4 w5 h2 w6 p15 p16 w7 h3 h4 p17 p18 w8 w9 w10 w11 w12 p19 w13 w14 w15 h1 f0 h2 f1 h3 f2 h4 f3) sz (fun u => ((-1) ≤ (u.2.1 0 0).toInt ∧ (u.2.1 0 0).toInt ≤ 10) ∧ ((-2147483648) ≤ (u.2.1 1 0).toInt ∧ (u.2.1 1 0).toInt ≤ 2147483647) ∧ True) (fun u => (wk_f147cc4b8 cy h0 p3 h1 w0 w1 w2 p4 p5 p6 p7 p8 p9 p10 p11 p12 p13 p14 w3 w4 w5 h2 w6 p15 p16 w7 h3 h4 (u.2.1 0 0) (u.2.1 1 0) w8 w9 w10 w11 w12 p19 w13 w14 w15 h1 f0 h2 f1 h3 (u.2.1 2) h4 (u.2.1 3))) 0 0 := by
  refine q_ent (own := RX12) (by decide) rfl (Nat.le_of_ble_eq_true rfl) (fun p e s m below meth c ls X hr hlk hnm hK hT h hA hl => ?_)
  obtain ⟨hx, hb, hml, hown, ht⟩ := id X
  replace hl : lv_has ls 7 [(0, .ref h0), (1, .int p0), (2, .int p1), (3, .int p2)] := hl
  refine lv_iload_n hx hb dX12_goesPairs_0 rfl (lv_at hl 1 rfl) ?_
  refine lv_if_ne (tgt := 70) hx hb dX12_goesPairs_1 (by decide) (fun c_1 => ?_) (fun c_1 => ?_)
  · replace c_1 := i_ne (x := p0) (y := 0) rfl (show (0 : Int32).toInt = 0 by decide) c_1
    refine lv_iload_n hx hb dX12_goesPairs_70 rfl (lv_at hl 1 rfl) ?_
    refine q_callSi (rest := []) (wr := (wk_f147cc4b8 cy h0 p3 h1 w0 w1 w2 p4 p5 p6 p7 p8 p9 p10 p11 p12 p13 p14 w3 w4 w5 h2 w6 p15 p16 w7 h3 h4 p17 p18 w8 w9 w10 w11 w12 p19 w13 w14 w15 h1 f0 h2 f1 h3 f2 h4 f3)) X hK hT hA h (fun sz => gX12_lowest_51df8cb l D cy p0 ⟨by omega, by omega⟩ sz) wm_7_67 wm_7_69 wm_1_12 hd_X12_lowest wm_7_68 ⟨Nat.le_of_ble_eq_true rfl, Nat.le_of_ble_eq_true rfl⟩ hl.1 rfl (Nat.le_of_ble_eq_true rfl) dX12_goesPairs_71 ⟨Nat.le_of_ble_eq_true rfl, Nat.le_of_ble_eq_true rfl⟩ [] [0, 1, 2, 3, 4] rfl rfl (by decide) rfl rfl (fun r_2 u_2 H locs w_2 h_2 => ?_)
    clear h
    obtain ⟨wr_2, y2_0, _⟩ := w_2
    replace h_2 : qW D _ _ (wk_f147cc4b8 cy h0 p3 h1 w0 w1 w2 p4 p5 p6 p7 p8 p9 p10 p11 p12 p13 p14 w3 w4 w5 h2 w6 p15 p16 w7 h3 h4 p17 p18 w8 w9 w10 w11 w12 p19 w13 w14 w15 h1 f0 h2 f1 h3 f2 h4 f3) _ _ := h_2
    refine lv_istore (lv' := [(4, .int r_2), (0, .ref h0), (1, .int p0), (2, .int p1), (3, .int p2)]) hx hb dX12_goesPairs_74 hl (by decide) rfl (fun ls_3 hl_3 => ?_)
    clear hl
    refine lv_iload_n hx hb dX12_goesPairs_76 rfl (lv_at hl_3 2 rfl) ?_
    refine lv_iconst (v := 1) hx hb dX12_goesPairs_77 (by decide) ?_
    refine lv_iload hx hb dX12_goesPairs_78 (lv_at hl_3 0 rfl) ?_
    refine lv_ishl hx hb dX12_goesPairs_80 ?_
    obtain ⟨z_4, ez_4, hz_4⟩ := e_shlk (p := r_2) 9 (by decide) rfl (by omega) (by omega)
    refine q_c z_4 ez_4 ?_
    refine lv_iconst (v := (-1)) hx hb dX12_goesPairs_81 (by decide) ?_
    refine lv_ixor hx hb dX12_goesPairs_82 ?_
    obtain ⟨z_5, ez_5, hz_5⟩ := e_any (z_4 ^^^ (-1))
    refine q_c z_5 ez_5 ?_
    refine lv_iand hx hb dX12_goesPairs_83 ?_
    obtain ⟨z_6, ez_6, hz_6⟩ := e_and1 (x := p0) (y := z_5) rfl (by omega)
    refine q_c z_6 ez_6 ?_
    have rs_7 := rest_low 3 (by omega) y2_0 (by omega) ez_4 ez_5 ez_6
    refine lv_istore (lv' := [(5, .int z_6), (4, .int r_2), (0, .ref h0), (1, .int p0), (2, .int p1), (3, .int p2)]) hx hb dX12_goesPairs_84 hl_3 (by decide) rfl (fun ls_8 hl_8 => ?_)
    clear hl_3
    refine lv_iload hx hb dX12_goesPairs_86 (lv_at hl_8 1 rfl) ?_
    refine lv_iconst (v := 1) hx hb dX12_goesPairs_88 (by decide) ?_
    refine lv_iadd hx hb dX12_goesPairs_89 ?_
    obtain ⟨z_9, ez_9, hz_9⟩ := e_add (x := r_2) (y := 1) rfl (show (1 : Int32).toInt = 1 by decide) (by omega) (by omega)
    refine q_c z_9 ez_9 ?_
    clear ez_9
    refine lv_istore (lv' := [(6, .int z_9), (5, .int z_6), (4, .int r_2), (0, .ref h0), (1, .int p0), (2, .int p1), (3, .int p2)]) hx hb dX12_goesPairs_90 hl_8 (by decide) rfl (fun ls_10 hl_10 => ?_)
    clear hl_8
    refine q_wl (fun (q : Int32 × Int32 × Int32) H locs ls => match q with | (v92_11_0, v92_11_1, v92_11_2) => ∃ v92_11_3 : Nat → Int32, ∃ v92_11_4 : Nat → Int32, (1 ≤ (v92_11_0).toInt ∧ (v92_11_0).toInt ≤ 10) ∧ ((-1) ≤ (v92_11_1).toInt ∧ (v92_11_1).toInt ≤ 10) ∧ ((-2147483648) ≤ (v92_11_2).toInt ∧ (v92_11_2).toInt ≤ 2147483647) ∧ qW D (va_A (wk_f147cc4b8 cy h0 p3 h1 w0 w1 w2 p4 p5 p6 p7 p8 p9 p10 p11 p12 p13 p14 w3 w4 w5 h2 w6 p15 p16 w7 h3 h4 p17 p18 w8 w9 w10 w11 w12 p19 w13 w14 w15 h1 f0 h2 f1 h3 f2 h4 f3) sz) s.heap (wk_f147cc4b8 cy h0 p3 h1 w0 w1 w2 p4 p5 p6 p7 p8 p9 p10 p11 p12 p13 p14 w3 w4 w5 h2 w6 p15 p16 w7 h3 h4 v92_11_1 v92_11_2 w8 w9 w10 w11 w12 p19 w13 w14 w15 h1 f0 h2 f1 h3 v92_11_3 h4 v92_11_4) H locs ∧ lv_has ls 7 [(0, .ref h0), (1, .int p0), (2, .int p1), (3, .int p2), (4, .int r_2), (5, .int z_6), (6, .int v92_11_0)]) (fun (q : Int32 × Int32 × Int32) => match q with | (v92_11_0, v92_11_1, v92_11_2) => (11 - (v92_11_0).toInt).toNat) (fun q_92 ih_92 H locs ls hP => ?_) (z_9, p17, p18) ⟨f2, f3, ⟨by omega, by omega⟩, hp17, hp18, h_2, (lv_sub hl_10 [3, 4, 5, 6, 2, 1, 0] rfl)⟩
    obtain ⟨v92_11_0, v92_11_1, v92_11_2⟩ := q_92
    obtain ⟨v92_11_3, v92_11_4, hv92_11_0, hv92_11_1, hv92_11_2, h, hl⟩ := hP
    refine lv_iload hx hb dX12_goesPairs_92 (lv_at hl 6 rfl) ?_
    refine lv_aload_n hx hb dX12_goesPairs_94 rfl (lv_at hl 0 rfl) ?_
    refine q_get X hK h 0 rfl rfl wf_12 1 (by decide) rfl wm_5_171 dX12_goesPairs_95 ?_
    refine lv_iconst (v := 2) hx hb dX12_goesPairs_98 (by decide) ?_
    refine q_iald X hK h 1 rfl (q_in (by decide +kernel)) dX12_goesPairs_99 ?_
    obtain ⟨z_12, ez_12, hz_12⟩ := al_P rf0 (x := 2) (show (2 : Int32).toInt = 2 by decide) (by omega) (by omega)
    refine q_c z_12 ez_12 ?_
    clear ez_12
    refine lv_icmp_ge (tgt := 196) hx hb dX12_goesPairs_100 (by decide) (fun c_13 => ?_) (fun c_13 => ?_)
    · replace c_13 := i_le (x := z_12) (y := v92_11_0) rfl rfl c_13
      refine lv_aload_n hx hb dX12_goesPairs_196 rfl (lv_at hl 0 rfl) ?_
      refine q_get X hK h 0 rfl rfl wf_12 24 (by decide) rfl wm_5_194 dX12_goesPairs_197 ?_
      refine lv_iload hx hb dX12_goesPairs_200 (lv_at hl 4 rfl) ?_
      refine lv_iconst (v := (-1)) hx hb dX12_goesPairs_202 (by decide) ?_
      refine q_iast X hK h 3 rfl (i_in rfl (by omega) (by omega)) dX12_goesPairs_203 (fun H locs h_15 => ?_)
      clear h
      replace h_15 : qW D _ _ (wk_f147cc4b8 cy h0 p3 h1 w0 w1 w2 p4 p5 p6 p7 p8 p9 p10 p11 p12 p13 p14 w3 w4 w5 h2 w6 p15 p16 w7 h3 h4 v92_11_1 v92_11_2 w8 w9 w10 w11 w12 p19 w13 w14 w15 h1 f0 h2 f1 h3 (upd v92_11_3 (Int32.toNatClampNeg r_2) (-1)) h4 v92_11_4) _ _ := h_15
      obtain ⟨F_14, eF_14⟩ : ∃ z, (upd v92_11_3 (Int32.toNatClampNeg r_2) (-1)) = z := ⟨_, rfl⟩
      rw [eF_14] at h_15
      clear eF_14
      refine lv_aload_n hx hb dX12_goesPairs_204 rfl (lv_at hl 0 rfl) ?_
      refine lv_iload hx hb dX12_goesPairs_205 (lv_at hl 5 rfl) ?_
      refine lv_iload_n hx hb dX12_goesPairs_207 rfl (lv_at hl 2 rfl) ?_
      refine lv_iload_n hx hb dX12_goesPairs_208 rfl (lv_at hl 3 rfl) ?_
      refine q_callVv (rest := []) (wr := []) X hK hT hA h_15 (fun sz => gX12_goesPairs_8901492 l D cy h0 h1 h2 h3 h4 z_6 p1 p2 p3 w0 w1 w2 p4 p5 p6 p7 p8 p9 p10 p11 p12 p13 p14 w3 w4 w5 w6 p15 p16 w7 v92_11_1 v92_11_2 w8 w9 w10 w11 w12 p19 w13 w14 w15 f0 p20 f1 F_14 v92_11_4 ⟨by omega, by omega⟩ (bw hp1 (by decide) (by decide)) (i_rng _) hp3 hp4 hp5 hp6 hp7 (i_rng _) hp9 (i_rng _) (i_rng _) (i_rng _) (i_rng _) (i_rng _) (i_rng _) (i_rng _) hv92_11_1 (i_rng _) (i_rng _) hp20 htf0_84 rf0 (rg_wide rf1 (by decide) (by decide)) ((show _ % 16 = 0 from rs_7.1)) sz) wm_7_116 wm_7_119 wm_1_12 hd_X12_goesPairs wm_7_118 wp_7_4 (ci := 12) (q0 := 0) rfl rfl ⟨Nat.le_of_ble_eq_true rfl, Nat.le_of_ble_eq_true rfl⟩ hl.1 rfl (Nat.le_of_ble_eq_true rfl) dX12_goesPairs_209 ⟨Nat.le_of_ble_eq_true rfl, Nat.le_of_ble_eq_true rfl⟩ [0, 1, 2, 3, 4] [] rfl rfl (by decide) rfl rfl (fun u_16 H locs w_16 h_16 => ?_)
      clear h_15
      obtain ⟨w16_0, w16_1, _⟩ := w_16
      replace h_16 : qW D _ _ (wk_f147cc4b8 cy h0 p3 h1 w0 w1 w2 p4 p5 p6 p7 p8 p9 p10 p11 p12 p13 p14 w3 w4 w5 h2 w6 p15 p16 w7 h3 h4 (u_16.2.1 0 0) (u_16.2.1 1 0) w8 w9 w10 w11 w12 p19 w13 w14 w15 h1 f0 h2 f1 h3 (u_16.2.1 2) h4 (u_16.2.1 3)) _ _ := h_16
      exact q_vret X hr hlk hK h_16 (fun _ => 0, (vcons (fun _ => (u_16.2.1 0 0)) (vcons (fun _ => (u_16.2.1 1 0)) (vcons (u_16.2.1 2) (vcons (u_16.2.1 3) (fun _ => (fun _ => 0)))))), fun _ _ => 0) ⟨w16_0, w16_1, trivial⟩ [0, 1, 2, 3, 4] rfl rfl dX12_goesPairs_212 (Nat.le_of_ble_eq_true rfl) (Nat.le_of_ble_eq_true rfl)
    · replace c_13 := i_nle (x := z_12) (y := v92_11_0) rfl rfl c_13
      refine lv_iload hx hb dX12_goesPairs_103 (lv_at hl 5 rfl) ?_
      refine lv_aload_n hx hb dX12_goesPairs_105 rfl (lv_at hl 0 rfl) ?_
      refine q_get X hK h 0 rfl rfl wf_12 19 (by decide) rfl wm_5_189 dX12_goesPairs_106 ?_
      refine lv_iload hx hb dX12_goesPairs_109 (lv_at hl 4 rfl) ?_
      refine q_iald X hK h 2 rfl (i_in rfl (by omega) (by omega)) dX12_goesPairs_111 ?_
      obtain ⟨z_17, ez_17, hz_17⟩ := rg_get rf1 (x := r_2) rfl (by omega) (by omega)
      refine q_c z_17 ez_17 ?_
      clear ez_17
      refine lv_iand hx hb dX12_goesPairs_112 ?_
      obtain ⟨z_18, ez_18, hz_18⟩ := e_and2 (x := z_6) (y := z_17) rfl (by omega)
      refine q_c z_18 ez_18 ?_
      clear ez_18
      refine lv_i2l hx hb dX12_goesPairs_113 rfl ?_
      obtain ⟨z_19, ez_19, hz_19⟩ := e_i2l (x := z_18) rfl
      refine q_cl z_19 ez_19 ?_
      clear ez_19
      refine lv_iload hx hb dX12_goesPairs_114 (lv_at hl 6 rfl) ?_
      refine q_callSi (rest := []) (wr := (wk_f147cc4b8 cy h0 p3 h1 w0 w1 w2 p4 p5 p6 p7 p8 p9 p10 p11 p12 p13 p14 w3 w4 w5 h2 w6 p15 p16 w7 h3 h4 v92_11_1 v92_11_2 w8 w9 w10 w11 w12 p19 w13 w14 w15 h1 f0 h2 f1 h3 v92_11_3 h4 v92_11_4)) X hK hT hA h (fun sz => gX12_isIn_b0455a8 l D cy z_19 v92_11_0 ⟨by omega, by omega⟩ ⟨by omega, by omega⟩ sz) wm_6_167 wm_6_169 wm_1_12 hd_X12_isIn wm_6_168 ⟨Nat.le_of_ble_eq_true rfl, Nat.le_of_ble_eq_true rfl⟩ hl.1 rfl (Nat.le_of_ble_eq_true rfl) dX12_goesPairs_116 ⟨Nat.le_of_ble_eq_true rfl, Nat.le_of_ble_eq_true rfl⟩ [] [0, 1, 2, 3, 4] rfl rfl (by decide) rfl rfl (fun r_20 u_20 H locs w_20 h_20 => ?_)
      clear h
      obtain ⟨wr_20, _⟩ := w_20
      replace h_20 : qW D _ _ (wk_f147cc4b8 cy h0 p3 h1 w0 w1 w2 p4 p5 p6 p7 p8 p9 p10 p11 p12 p13 p14 w3 w4 w5 h2 w6 p15 p16 w7 h3 h4 v92_11_1 v92_11_2 w8 w9 w10 w11 w12 p19 w13 w14 w15 h1 f0 h2 f1 h3 v92_11_3 h4 v92_11_4) _ _ := h_20
      refine q_jn (pc2 := 190) (fun H locs ls st => ∃ v190_21_0 : Int32, ∃ v190_21_1 : Int32, ∃ v190_21_2 : Nat → Int32, ∃ v190_21_3 : Nat → Int32, ((-1) ≤ (v190_21_0).toInt ∧ (v190_21_0).toInt ≤ 10) ∧ ((-2147483648) ≤ (v190_21_1).toInt ∧ (v190_21_1).toInt ≤ 2147483647) ∧ st = [] ∧ qW D (va_A (wk_f147cc4b8 cy h0 p3 h1 w0 w1 w2 p4 p5 p6 p7 p8 p9 p10 p11 p12 p13 p14 w3 w4 w5 h2 w6 p15 p16 w7 h3 h4 p17 p18 w8 w9 w10 w11 w12 p19 w13 w14 w15 h1 f0 h2 f1 h3 f2 h4 f3) sz) s.heap (wk_f147cc4b8 cy h0 p3 h1 w0 w1 w2 p4 p5 p6 p7 p8 p9 p10 p11 p12 p13 p14 w3 w4 w5 h2 w6 p15 p16 w7 h3 h4 v190_21_0 v190_21_1 w8 w9 w10 w11 w12 p19 w13 w14 w15 h1 f0 h2 f1 h3 v190_21_2 h4 v190_21_3) H locs ∧ lv_has ls 7 [(0, .ref h0), (1, .int p0), (2, .int p1), (3, .int p2), (4, .int r_2), (5, .int z_6), (6, .int v92_11_0)]) (fun H locs ls st hP => ?_) (fun J_190 => ?_)
      · obtain ⟨v190_21_0, v190_21_1, v190_21_2, v190_21_3, hv190_21_0, hv190_21_1, rfl, h, hl⟩ := hP
        obtain ⟨z_22, ez_22, hz_22⟩ := e_add (x := v92_11_0) (y := Int32.ofInt 1) rfl (b := 1) (by decide) (by omega) (by omega)
        refine lv_iinc (v := z_22) (lv' := [(6, .int z_22), (0, .ref h0), (1, .int p0), (2, .int p1), (3, .int p2), (4, .int r_2), (5, .int z_6)]) hx hb dX12_goesPairs_190 hl (k := 6) rfl ez_22 (by decide) rfl (fun ls_22 hl_22 => ?_)
        clear hl
        refine lv_goto (tgt := 92) hx hb dX12_goesPairs_193 (by decide) ?_
        exact ih_92 (z_22, v190_21_0, v190_21_1) (by show (11 - (z_22).toInt).toNat < (11 - (v92_11_0).toInt).toNat; omega) _ _ _ ⟨v190_21_2, v190_21_3, ⟨by omega, by omega⟩, hv190_21_0, hv190_21_1, h, (lv_sub hl_22 [1, 2, 3, 4, 5, 6, 0] rfl)⟩
      · skip
        refine lv_if_ne (tgt := 125) hx hb dX12_goesPairs_119 (by decide) (fun c_23 => ?_) (fun c_23 => ?_)
        · replace c_23 := i_ne (x := r_20) (y := 0) rfl (show (0 : Int32).toInt = 0 by decide) c_23
          refine lv_aload_n hx hb dX12_goesPairs_125 rfl (lv_at hl 0 rfl) ?_
          refine q_get X hK h_20 0 rfl rfl wf_12 24 (by decide) rfl wm_5_194 dX12_goesPairs_126 ?_
          refine lv_iload hx hb dX12_goesPairs_129 (lv_at hl 4 rfl) ?_
          refine lv_iload hx hb dX12_goesPairs_131 (lv_at hl 6 rfl) ?_
          refine q_iast X hK h_20 3 rfl (i_in rfl (by omega) (by omega)) dX12_goesPairs_133 (fun H locs h_25 => ?_)
          clear h_20
          replace h_25 : qW D _ _ (wk_f147cc4b8 cy h0 p3 h1 w0 w1 w2 p4 p5 p6 p7 p8 p9 p10 p11 p12 p13 p14 w3 w4 w5 h2 w6 p15 p16 w7 h3 h4 v92_11_1 v92_11_2 w8 w9 w10 w11 w12 p19 w13 w14 w15 h1 f0 h2 f1 h3 (upd v92_11_3 (Int32.toNatClampNeg r_2) v92_11_0) h4 v92_11_4) _ _ := h_25
          obtain ⟨F_24, eF_24⟩ : ∃ z, (upd v92_11_3 (Int32.toNatClampNeg r_2) v92_11_0) = z := ⟨_, rfl⟩
          rw [eF_24] at h_25
          clear eF_24
          refine lv_aload_n hx hb dX12_goesPairs_134 rfl (lv_at hl 0 rfl) ?_
          refine q_get X hK h_25 0 rfl rfl wf_12 24 (by decide) rfl wm_5_194 dX12_goesPairs_135 ?_
          refine lv_iload hx hb dX12_goesPairs_138 (lv_at hl 6 rfl) ?_
          refine lv_iload hx hb dX12_goesPairs_140 (lv_at hl 4 rfl) ?_
          refine q_iast X hK h_25 3 rfl (i_in rfl (by omega) (by omega)) dX12_goesPairs_142 (fun H locs h_27 => ?_)
          clear h_25
          replace h_27 : qW D _ _ (wk_f147cc4b8 cy h0 p3 h1 w0 w1 w2 p4 p5 p6 p7 p8 p9 p10 p11 p12 p13 p14 w3 w4 w5 h2 w6 p15 p16 w7 h3 h4 v92_11_1 v92_11_2 w8 w9 w10 w11 w12 p19 w13 w14 w15 h1 f0 h2 f1 h3 (upd F_24 (Int32.toNatClampNeg v92_11_0) r_2) h4 v92_11_4) _ _ := h_27
          obtain ⟨F_26, eF_26⟩ : ∃ z, (upd F_24 (Int32.toNatClampNeg v92_11_0) r_2) = z := ⟨_, rfl⟩
          rw [eF_26] at h_27
          clear eF_26
          refine lv_aload_n hx hb dX12_goesPairs_143 rfl (lv_at hl 0 rfl) ?_
          refine lv_iload hx hb dX12_goesPairs_144 (lv_at hl 5 rfl) ?_
          refine lv_iconst (v := 1) hx hb dX12_goesPairs_146 (by decide) ?_
          refine lv_iload hx hb dX12_goesPairs_147 (lv_at hl 6 rfl) ?_
          refine lv_ishl hx hb dX12_goesPairs_149 ?_
          obtain ⟨z_28, ez_28, hz_28⟩ := e_shlk (p := v92_11_0) 9 (by decide) rfl (by omega) (by omega)
          refine q_c z_28 ez_28 ?_
          clear ez_28
          refine lv_iconst (v := (-1)) hx hb dX12_goesPairs_150 (by decide) ?_
          refine lv_ixor hx hb dX12_goesPairs_151 ?_
          refine q_any (fun z_29 hz_29 => ?_)
          refine lv_iand hx hb dX12_goesPairs_152 ?_
          obtain ⟨z_30, ez_30, hz_30⟩ := e_and1 (x := z_6) (y := z_29) rfl (by omega)
          refine q_c z_30 ez_30 ?_
          have ad_31 := and_div 4 (by omega) rs_7.1 ez_30
          refine lv_iload_n hx hb dX12_goesPairs_153 rfl (lv_at hl 2 rfl) ?_
          refine lv_iconst (v := 1) hx hb dX12_goesPairs_154 (by decide) ?_
          refine lv_iadd hx hb dX12_goesPairs_155 ?_
          obtain ⟨z_32, ez_32, hz_32⟩ := e_add (x := p1) (y := 1) rfl (show (1 : Int32).toInt = 1 by decide) (by omega) (by omega)
          refine q_c z_32 ez_32 ?_
          clear ez_32
          refine lv_iload_n hx hb dX12_goesPairs_156 rfl (lv_at hl 3 rfl) ?_
          refine lv_aload_n hx hb dX12_goesPairs_157 rfl (lv_at hl 0 rfl) ?_
          refine q_get X hK h_27 0 rfl rfl wf_12 1 (by decide) rfl wm_5_171 dX12_goesPairs_158 ?_
          refine lv_bipush (v := 42) hx hb dX12_goesPairs_161 (by decide) ?_
          refine lv_iload hx hb dX12_goesPairs_163 (lv_at hl 4 rfl) ?_
          refine lv_iadd hx hb dX12_goesPairs_165 ?_
          obtain ⟨z_33, ez_33, hz_33⟩ := e_add (x := 42) (y := r_2) (show (42 : Int32).toInt = 42 by decide) rfl (by omega) (by omega)
          refine q_c z_33 ez_33 ?_
          clear ez_33
          refine q_iald X hK h_27 1 rfl (i_in rfl (by omega) (by omega)) dX12_goesPairs_166 ?_
          refine q_any (fun z_34 hz_34 => ?_)
          refine lv_iadd hx hb dX12_goesPairs_167 ?_
          refine q_any (fun z_35 hz_35 => ?_)
          refine lv_aload_n hx hb dX12_goesPairs_168 rfl (lv_at hl 0 rfl) ?_
          refine q_get X hK h_27 0 rfl rfl wf_12 1 (by decide) rfl wm_5_171 dX12_goesPairs_169 ?_
          refine lv_bipush (v := 42) hx hb dX12_goesPairs_172 (by decide) ?_
          refine lv_iload hx hb dX12_goesPairs_174 (lv_at hl 6 rfl) ?_
          refine lv_iadd hx hb dX12_goesPairs_176 ?_
          obtain ⟨z_36, ez_36, hz_36⟩ := e_add (x := 42) (y := v92_11_0) (show (42 : Int32).toInt = 42 by decide) rfl (by omega) (by omega)
          refine q_c z_36 ez_36 ?_
          clear ez_36
          refine q_iald X hK h_27 1 rfl (i_in rfl (by omega) (by omega)) dX12_goesPairs_177 ?_
          refine q_any (fun z_37 hz_37 => ?_)
          refine lv_iadd hx hb dX12_goesPairs_178 ?_
          refine q_any (fun z_38 hz_38 => ?_)
          refine q_callVv (rest := []) (wr := []) X hK hT hA h_27 (fun sz => gX12_goesPairs_8901492 l D cy h0 h1 h2 h3 h4 z_30 z_32 z_38 p3 w0 w1 w2 p4 p5 p6 p7 p8 p9 p10 p11 p12 p13 p14 w3 w4 w5 w6 p15 p16 w7 v92_11_1 v92_11_2 w8 w9 w10 w11 w12 p19 w13 w14 w15 f0 p20 f1 F_26 v92_11_4 ⟨by omega, by omega⟩ ⟨by omega, by omega⟩ (i_rng _) hp3 hp4 hp5 hp6 hp7 (i_rng _) hp9 (i_rng _) (i_rng _) (i_rng _) (i_rng _) (i_rng _) (i_rng _) (i_rng _) hv92_11_1 (i_rng _) (i_rng _) hp20 htf0_84 rf0 (rg_wide rf1 (by decide) (by decide)) ((show _ % 16 = 0 from ad_31)) sz) wm_7_116 wm_7_119 wm_1_12 hd_X12_goesPairs wm_7_118 wp_7_4 (ci := 12) (q0 := 0) rfl rfl ⟨Nat.le_of_ble_eq_true rfl, Nat.le_of_ble_eq_true rfl⟩ hl.1 rfl (Nat.le_of_ble_eq_true rfl) dX12_goesPairs_179 ⟨Nat.le_of_ble_eq_true rfl, Nat.le_of_ble_eq_true rfl⟩ [0, 1, 2, 3, 4] [] rfl rfl (by decide) rfl rfl (fun u_39 H locs w_39 h_39 => ?_)
          clear h_27
          obtain ⟨w39_0, w39_1, _⟩ := w_39
          replace h_39 : qW D _ _ (wk_f147cc4b8 cy h0 p3 h1 w0 w1 w2 p4 p5 p6 p7 p8 p9 p10 p11 p12 p13 p14 w3 w4 w5 h2 w6 p15 p16 w7 h3 h4 (u_39.2.1 0 0) (u_39.2.1 1 0) w8 w9 w10 w11 w12 p19 w13 w14 w15 h1 f0 h2 f1 h3 (u_39.2.1 2) h4 (u_39.2.1 3)) _ _ := h_39
          refine lv_aload_n hx hb dX12_goesPairs_182 rfl (lv_at hl 0 rfl) ?_
          refine q_get X hK h_39 0 rfl rfl wf_12 24 (by decide) rfl wm_5_194 dX12_goesPairs_183 ?_
          refine lv_iload hx hb dX12_goesPairs_186 (lv_at hl 6 rfl) ?_
          refine lv_iconst (v := (-1)) hx hb dX12_goesPairs_188 (by decide) ?_
          refine q_iast X hK h_39 3 rfl (i_in rfl (by omega) (by omega)) dX12_goesPairs_189 (fun H locs h_41 => ?_)
          clear h_39
          replace h_41 : qW D _ _ (wk_f147cc4b8 cy h0 p3 h1 w0 w1 w2 p4 p5 p6 p7 p8 p9 p10 p11 p12 p13 p14 w3 w4 w5 h2 w6 p15 p16 w7 h3 h4 (u_39.2.1 0 0) (u_39.2.1 1 0) w8 w9 w10 w11 w12 p19 w13 w14 w15 h1 f0 h2 f1 h3 (upd (u_39.2.1 2) (Int32.toNatClampNeg v92_11_0) (-1)) h4 (u_39.2.1 3)) _ _ := h_41
          obtain ⟨F_40, eF_40⟩ : ∃ z, (upd (u_39.2.1 2) (Int32.toNatClampNeg v92_11_0) (-1)) = z := ⟨_, rfl⟩
          rw [eF_40] at h_41
          clear eF_40
          exact J_190 _ _ _ _ ⟨(u_39.2.1 0 0), (u_39.2.1 1 0), F_40, (u_39.2.1 3), w39_0, w39_1, rfl, h_41, (lv_sub hl [0, 1, 2, 3, 4, 5, 6] rfl)⟩
        · replace c_23 := i_eq (x := r_20) (y := 0) rfl (show (0 : Int32).toInt = 0 by decide) c_23
          refine lv_goto (tgt := 190) hx hb dX12_goesPairs_122 (by decide) ?_
          exact J_190 _ _ _ _ ⟨v92_11_1, v92_11_2, v92_11_3, v92_11_4, hv92_11_1, hv92_11_2, rfl, h_20, (lv_sub hl [0, 1, 2, 3, 4, 5, 6] rfl)⟩
  · replace c_1 := i_eq (x := p0) (y := 0) rfl (show (0 : Int32).toInt = 0 by decide) c_1
    refine lv_iload_n hx hb dX12_goesPairs_4 rfl (lv_at hl 2 rfl) ?_
    refine lv_aload_n hx hb dX12_goesPairs_5 rfl (lv_at hl 0 rfl) ?_
    refine q_get X hK h 0 rfl rfl wf_12 26 (by decide) rfl wm_5_196 dX12_goesPairs_6 ?_
    refine q_jn (pc2 := 28) (fun H locs ls st => st = [] ∧ qW D (va_A (wk_f147cc4b8 cy h0 p3 h1 w0 w1 w2 p4 p5 p6 p7 p8 p9 p10 p11 p12 p13 p14 w3 w4 w5 h2 w6 p15 p16 w7 h3 h4 p17 p18 w8 w9 w10 w11 w12 p19 w13 w14 w15 h1 f0 h2 f1 h3 f2 h4 f3) sz) s.heap (wk_f147cc4b8 cy h0 p3 h1 w0 w1 w2 p4 p5 p6 p7 p8 p9 p10 p11 p12 p13 p14 w3 w4 w5 h2 w6 p15 p16 w7 h3 h4 p17 p18 w8 w9 w10 w11 w12 p19 w13 w14 w15 h1 f0 h2 f1 h3 f2 h4 f3) H locs ∧ lv_has ls 7 [(0, .ref h0), (1, .int p0), (2, .int p1), (3, .int p2)]) (fun H locs ls st hP => ?_) (fun J_28 => ?_)
    · obtain ⟨rfl, h, hl⟩ := hP
      exact q_vret X hr hlk hK h (fun _ => 0, (vcons (fun _ => p17) (vcons (fun _ => p18) (vcons f2 (vcons f3 (fun _ => (fun _ => 0)))))), fun _ _ => 0) ⟨hp17, hp18, trivial⟩ [0, 1, 2, 3, 4] rfl rfl dX12_goesPairs_28 (Nat.le_of_ble_eq_true rfl) (Nat.le_of_ble_eq_true rfl)
    · skip
      refine lv_icmp_lt (tgt := 28) hx hb dX12_goesPairs_9 (by decide) (fun c_43 => ?_) (fun c_43 => ?_)
      · replace c_43 := i_lt (x := p1) (y := p17) rfl rfl c_43
        exact J_28 _ _ _ _ ⟨rfl, h, (lv_sub hl [0, 1, 2, 3] rfl)⟩
      · replace c_43 := i_nlt (x := p1) (y := p17) rfl rfl c_43
        refine lv_iload_n hx hb dX12_goesPairs_12 rfl (lv_at hl 2 rfl) ?_
        refine lv_aload_n hx hb dX12_goesPairs_13 rfl (lv_at hl 0 rfl) ?_
        refine q_get X hK h 0 rfl rfl wf_12 26 (by decide) rfl wm_5_196 dX12_goesPairs_14 ?_
        refine q_jn (pc2 := 29) (fun H locs ls st => st = [] ∧ qW D (va_A (wk_f147cc4b8 cy h0 p3 h1 w0 w1 w2 p4 p5 p6 p7 p8 p9 p10 p11 p12 p13 p14 w3 w4 w5 h2 w6 p15 p16 w7 h3 h4 p17 p18 w8 w9 w10 w11 w12 p19 w13 w14 w15 h1 f0 h2 f1 h3 f2 h4 f3) sz) s.heap (wk_f147cc4b8 cy h0 p3 h1 w0 w1 w2 p4 p5 p6 p7 p8 p9 p10 p11 p12 p13 p14 w3 w4 w5 h2 w6 p15 p16 w7 h3 h4 p17 p18 w8 w9 w10 w11 w12 p19 w13 w14 w15 h1 f0 h2 f1 h3 f2 h4 f3) H locs ∧ lv_has ls 7 [(0, .ref h0), (1, .int p0), (2, .int p1), (3, .int p2)]) (fun H locs ls st hP => ?_) (fun J_29 => ?_)
        · obtain ⟨rfl, h, hl⟩ := hP
          refine lv_aload_n hx hb dX12_goesPairs_29 rfl (lv_at hl 0 rfl) ?_
          refine lv_iload_n hx hb dX12_goesPairs_30 rfl (lv_at hl 2 rfl) ?_
          refine q_put (v := .int p1) X hK h 0 rfl rfl wf_12 tyX12 tyX12_ok nmX12 26 (by decide) wm_5_196 rfl rfl rfl (Nat.le_of_ble_eq_true rfl) dX12_goesPairs_31 (fun H locs h_45 => ?_)
          clear h
          replace h_45 : qW D _ _ (wk_f147cc4b8 cy h0 p3 h1 w0 w1 w2 p4 p5 p6 p7 p8 p9 p10 p11 p12 p13 p14 w3 w4 w5 h2 w6 p15 p16 w7 h3 h4 p1 p18 w8 w9 w10 w11 w12 p19 w13 w14 w15 h1 f0 h2 f1 h3 f2 h4 f3) _ _ := h_45
          refine lv_aload_n hx hb dX12_goesPairs_34 rfl (lv_at hl 0 rfl) ?_
          refine lv_iload_n hx hb dX12_goesPairs_35 rfl (lv_at hl 3 rfl) ?_
          refine q_put (v := .int p2) X hK h_45 0 rfl rfl wf_12 tyX12 tyX12_ok nmX12 27 (by decide) wm_5_197 rfl rfl rfl (Nat.le_of_ble_eq_true rfl) dX12_goesPairs_36 (fun H locs h_46 => ?_)
          clear h_45
          replace h_46 : qW D _ _ (wk_f147cc4b8 cy h0 p3 h1 w0 w1 w2 p4 p5 p6 p7 p8 p9 p10 p11 p12 p13 p14 w3 w4 w5 h2 w6 p15 p16 w7 h3 h4 p1 p2 w8 w9 w10 w11 w12 p19 w13 w14 w15 h1 f0 h2 f1 h3 f2 h4 f3) _ _ := h_46
          refine lv_iconst (v := 0) hx hb dX12_goesPairs_39 (by decide) ?_
          refine lv_istore (lv' := [(4, .int 0), (0, .ref h0), (1, .int p0), (2, .int p1), (3, .int p2)]) hx hb dX12_goesPairs_40 hl (by decide) rfl (fun ls_47 hl_47 => ?_)
          clear hl
          refine q_wl (fun (v42_48_0 : Int32) H locs ls => ∃ v42_48_1 : Nat → Int32, (0 ≤ (v42_48_0).toInt ∧ (v42_48_0).toInt ≤ 10) ∧ qW D (va_A (wk_f147cc4b8 cy h0 p3 h1 w0 w1 w2 p4 p5 p6 p7 p8 p9 p10 p11 p12 p13 p14 w3 w4 w5 h2 w6 p15 p16 w7 h3 h4 p17 p18 w8 w9 w10 w11 w12 p19 w13 w14 w15 h1 f0 h2 f1 h3 f2 h4 f3) sz) s.heap (wk_f147cc4b8 cy h0 p3 h1 w0 w1 w2 p4 p5 p6 p7 p8 p9 p10 p11 p12 p13 p14 w3 w4 w5 h2 w6 p15 p16 w7 h3 h4 p1 p2 w8 w9 w10 w11 w12 p19 w13 w14 w15 h1 f0 h2 f1 h3 f2 h4 v42_48_1) H locs ∧ lv_has ls 7 [(0, .ref h0), (1, .int p0), (2, .int p1), (3, .int p2), (4, .int v42_48_0)]) (fun (v42_48_0 : Int32) => (11 - (v42_48_0).toInt).toNat) (fun q_42 ih_42 H locs ls hP => ?_) 0 ⟨f3, ⟨by decide +kernel, by decide +kernel⟩, h_46, (lv_sub hl_47 [1, 2, 3, 4, 0] rfl)⟩
          obtain ⟨v42_48_0, rfl⟩ : ∃ z, z = q_42 := ⟨_, rfl⟩
          obtain ⟨v42_48_1, hv42_48_0, h, hl⟩ := hP
          refine lv_iload hx hb dX12_goesPairs_42 (lv_at hl 4 rfl) ?_
          refine lv_bipush (v := 10) hx hb dX12_goesPairs_44 (by decide) ?_
          refine lv_icmp_ge (tgt := 69) hx hb dX12_goesPairs_46 (by decide) (fun c_49 => ?_) (fun c_49 => ?_)
          · replace c_49 := i_le (x := 10) (y := v42_48_0) (show (10 : Int32).toInt = 10 by decide) rfl c_49
            exact q_vret X hr hlk hK h (fun _ => 0, (vcons (fun _ => p1) (vcons (fun _ => p2) (vcons f2 (vcons v42_48_1 (fun _ => (fun _ => 0)))))), fun _ _ => 0) ⟨(bw hp1 (by decide) (by decide)), hp2, trivial⟩ [0, 1, 2, 3, 4] rfl rfl dX12_goesPairs_69 (Nat.le_of_ble_eq_true rfl) (Nat.le_of_ble_eq_true rfl)
          · replace c_49 := i_nle (x := 10) (y := v42_48_0) (show (10 : Int32).toInt = 10 by decide) rfl c_49
            refine lv_aload_n hx hb dX12_goesPairs_49 rfl (lv_at hl 0 rfl) ?_
            refine q_get X hK h 0 rfl rfl wf_12 25 (by decide) rfl wm_5_195 dX12_goesPairs_50 ?_
            refine lv_iload hx hb dX12_goesPairs_53 (lv_at hl 4 rfl) ?_
            refine lv_aload_n hx hb dX12_goesPairs_55 rfl (lv_at hl 0 rfl) ?_
            refine q_get X hK h 0 rfl rfl wf_12 24 (by decide) rfl wm_5_194 dX12_goesPairs_56 ?_
            refine lv_iload hx hb dX12_goesPairs_59 (lv_at hl 4 rfl) ?_
            refine q_iald X hK h 3 rfl (i_in rfl (by omega) (by omega)) dX12_goesPairs_61 ?_
            refine q_any (fun z_50 hz_50 => ?_)
            refine q_iast X hK h 4 rfl (i_in rfl (by omega) (by omega)) dX12_goesPairs_62 (fun H locs h_52 => ?_)
            clear h
            replace h_52 : qW D _ _ (wk_f147cc4b8 cy h0 p3 h1 w0 w1 w2 p4 p5 p6 p7 p8 p9 p10 p11 p12 p13 p14 w3 w4 w5 h2 w6 p15 p16 w7 h3 h4 p1 p2 w8 w9 w10 w11 w12 p19 w13 w14 w15 h1 f0 h2 f1 h3 f2 h4 (upd v42_48_1 (Int32.toNatClampNeg v42_48_0) z_50)) _ _ := h_52
            obtain ⟨F_51, eF_51⟩ : ∃ z, (upd v42_48_1 (Int32.toNatClampNeg v42_48_0) z_50) = z := ⟨_, rfl⟩
            rw [eF_51] at h_52
            clear eF_51
            obtain ⟨z_53, ez_53, hz_53⟩ := e_add (x := v42_48_0) (y := Int32.ofInt 1) rfl (b := 1) (by decide) (by omega) (by omega)
            refine lv_iinc (v := z_53) (lv' := [(4, .int z_53), (0, .ref h0), (1, .int p0), (2, .int p1), (3, .int p2)]) hx hb dX12_goesPairs_63 hl (k := 4) rfl ez_53 (by decide) rfl (fun ls_53 hl_53 => ?_)
            clear hl
            refine lv_goto (tgt := 42) hx hb dX12_goesPairs_66 (by decide) ?_
            exact ih_42 z_53 (by show (11 - (z_53).toInt).toNat < (11 - (v42_48_0).toInt).toNat; omega) _ _ _ ⟨F_51, ⟨by omega, by omega⟩, h_52, (lv_sub hl_53 [1, 2, 3, 4, 0] rfl)⟩
        · skip
          refine lv_icmp_ne (tgt := 29) hx hb dX12_goesPairs_17 (by decide) (fun c_54 => ?_) (fun c_54 => ?_)
          · replace c_54 := i_ne (x := p1) (y := p17) rfl rfl c_54
            exact J_29 _ _ _ _ ⟨rfl, h, (lv_sub hl [0, 1, 2, 3] rfl)⟩
          · replace c_54 := i_eq (x := p1) (y := p17) rfl rfl c_54
            refine lv_iload_n hx hb dX12_goesPairs_20 rfl (lv_at hl 3 rfl) ?_
            refine lv_aload_n hx hb dX12_goesPairs_21 rfl (lv_at hl 0 rfl) ?_
            refine q_get X hK h 0 rfl rfl wf_12 27 (by decide) rfl wm_5_197 dX12_goesPairs_22 ?_
            refine lv_icmp_gt (tgt := 29) hx hb dX12_goesPairs_25 (by decide) (fun c_55 => ?_) (fun c_55 => ?_)
            · replace c_55 := i_lt (x := p18) (y := p2) rfl rfl c_55
              exact J_29 _ _ _ _ ⟨rfl, h, (lv_sub hl [0, 1, 2, 3] rfl)⟩
            · replace c_55 := i_nlt (x := p18) (y := p2) rfl rfl c_55
              exact J_28 _ _ _ _ ⟨rfl, h, (lv_sub hl [0, 1, 2, 3] rfl)⟩
set_option maxHeartbeats 4000000 in
set_option maxRecDepth 100000 in
theorem gX12_goesPairs_524dcef (l : Launch) (D : va_G) (cy : Nat → ClassId) (h0 : Nat) (h1 : Nat) (h2 : Nat) (h3 : Nat) (h4 : Nat) (p0 : Int32) (p1 : Int32) (p2 : Int32) (p3 : Int32) (w0 : Value) (w1 : Value) (w2 : Value) (p4 : Int32) (p5 : Int32) (p6 : Int32) (p7 : Int32) (p8 : Int32) (p9 : Int32) (p10 : Int32) (p11 : Int32) (p12 : Int32) (p13 : Int32) (p14 : Int32) (w3 : Value) (w4 : Value) (w5 : Value) (w6 : Value) (p15 : Int32) (p16 : Int32) (w7 : Value) (p17 : Int32) (p18 : Int32) (w8 : Value) (w9 : Value) (w10 : Value) (w11 : Value) (w12 : Value) (p19 : Int32) (w13 : Value) (w14 : Value) (w15 : Value) (f0 : Nat → Int32) (p20 : Int32) (f1 : Nat → Int32) (f2 : Nat → Int32) (f3 : Nat → Int32) (hp0 : 0 ≤ (p0).toInt ∧ (p0).toInt ≤ 1023) (hp1 : 0 ≤ (p1).toInt ∧ (p1).toInt ≤ 2) (hp2 : (-2147483648) ≤ (p2).toInt ∧ (p2).toInt ≤ 2147483647) (hp3 : 0 ≤ (p3).toInt ∧ (p3).toInt ≤ 0) (hp4 : 0 ≤ (p4).toInt ∧ (p4).toInt ≤ 900) (hp5 : 0 ≤ (p5).toInt ∧ (p5).toInt ≤ 900) (hp6 : 0 ≤ (p6).toInt ∧ (p6).toInt ≤ 900) (hp7 : 0 ≤ (p7).toInt ∧ (p7).toInt ≤ 900) (hp8 : (-2147483648) ≤ (p8).toInt ∧ (p8).toInt ≤ 2147483647) (hp9 : 0 ≤ (p9).toInt ∧ (p9).toInt ≤ 999) (hp10 : (-2147483648) ≤ (p10).toInt ∧ (p10).toInt ≤ 2147483647) (hp11 : (-2147483648) ≤ (p11).toInt ∧ (p11).toInt ≤ 2147483647) (hp12 : (-2147483648) ≤ (p12).toInt ∧ (p12).toInt ≤ 2147483647) (hp13 : (-2147483648) ≤ (p13).toInt ∧ (p13).toInt ≤ 2147483647) (hp14 : (-2147483648) ≤ (p14).toInt ∧ (p14).toInt ≤ 2147483647) (hp15 : (-2147483648) ≤ (p15).toInt ∧ (p15).toInt ≤ 2147483647) (hp16 : (-2147483648) ≤ (p16).toInt ∧ (p16).toInt ≤ 2147483647) (hp17 : (-1) ≤ (p17).toInt ∧ (p17).toInt ≤ 10) (hp18 : (-2147483648) ≤ (p18).toInt ∧ (p18).toInt ≤ 2147483647) (hp19 : (-2147483648) ≤ (p19).toInt ∧ (p19).toInt ≤ 2147483647) (hp20 : 0 ≤ (p20).toInt ∧ (p20).toInt ≤ 10) (htf0_84 : f0 84 = p20) (rf0 : AL f0) (rf1 : RG f1 10 0 1023) (hpre0 : (p0 : Int32).toInt % 4 = 0) (sz : Nat) : MV l yX12_goesPairs cX12_goesPairs 7 { frames := 9, cells := 0, slots := 0, locals := 225 } [.ref h0, .int p0, .int p1, .int p2] D cy (wk_f147cc4b8 cy h0 p3 h1 w0 w1 w2 p4 p5 p6 p7 p8 p9 p10 p11 p12 p13 p14 w3 w4 w5 h2 w6 p15 p16 w7 h3 h4 p17 p18 w8 w9 w10 w11 w12 p19 w13 w14 w15 h1 f0 h2 f1 h3 f2 h4 f3) sz (fun u => ((-1) ≤ (u.2.1 0 0).toInt ∧ (u.2.1 0 0).toInt ≤ 10) ∧ ((-2147483648) ≤ (u.2.1 1 0).toInt ∧ (u.2.1 1 0).toInt ≤ 2147483647) ∧ True) (fun u => (wk_f147cc4b8 cy h0 p3 h1 w0 w1 w2 p4 p5 p6 p7 p8 p9 p10 p11 p12 p13 p14 w3 w4 w5 h2 w6 p15 p16 w7 h3 h4 (u.2.1 0 0) (u.2.1 1 0) w8 w9 w10 w11 w12 p19 w13 w14 w15 h1 f0 h2 f1 h3 (u.2.1 2) h4 (u.2.1 3))) 0 0 := by
  refine q_ent (own := RX12) (by decide) rfl (Nat.le_of_ble_eq_true rfl) (fun p e s m below meth c ls X hr hlk hnm hK hT h hA hl => ?_)
  obtain ⟨hx, hb, hml, hown, ht⟩ := id X
  replace hl : lv_has ls 7 [(0, .ref h0), (1, .int p0), (2, .int p1), (3, .int p2)] := hl
  refine lv_iload_n hx hb dX12_goesPairs_0 rfl (lv_at hl 1 rfl) ?_
  refine lv_if_ne (tgt := 70) hx hb dX12_goesPairs_1 (by decide) (fun c_1 => ?_) (fun c_1 => ?_)
  · replace c_1 := i_ne (x := p0) (y := 0) rfl (show (0 : Int32).toInt = 0 by decide) c_1
    refine lv_iload_n hx hb dX12_goesPairs_70 rfl (lv_at hl 1 rfl) ?_
    refine q_callSi (rest := []) (wr := (wk_f147cc4b8 cy h0 p3 h1 w0 w1 w2 p4 p5 p6 p7 p8 p9 p10 p11 p12 p13 p14 w3 w4 w5 h2 w6 p15 p16 w7 h3 h4 p17 p18 w8 w9 w10 w11 w12 p19 w13 w14 w15 h1 f0 h2 f1 h3 f2 h4 f3)) X hK hT hA h (fun sz => gX12_lowest_51df8cb l D cy p0 ⟨by omega, by omega⟩ sz) wm_7_67 wm_7_69 wm_1_12 hd_X12_lowest wm_7_68 ⟨Nat.le_of_ble_eq_true rfl, Nat.le_of_ble_eq_true rfl⟩ hl.1 rfl (Nat.le_of_ble_eq_true rfl) dX12_goesPairs_71 ⟨Nat.le_of_ble_eq_true rfl, Nat.le_of_ble_eq_true rfl⟩ [] [0, 1, 2, 3, 4] rfl rfl (by decide) rfl rfl (fun r_2 u_2 H locs w_2 h_2 => ?_)
    clear h
    obtain ⟨wr_2, y2_0, _⟩ := w_2
    replace h_2 : qW D _ _ (wk_f147cc4b8 cy h0 p3 h1 w0 w1 w2 p4 p5 p6 p7 p8 p9 p10 p11 p12 p13 p14 w3 w4 w5 h2 w6 p15 p16 w7 h3 h4 p17 p18 w8 w9 w10 w11 w12 p19 w13 w14 w15 h1 f0 h2 f1 h3 f2 h4 f3) _ _ := h_2
    refine lv_istore (lv' := [(4, .int r_2), (0, .ref h0), (1, .int p0), (2, .int p1), (3, .int p2)]) hx hb dX12_goesPairs_74 hl (by decide) rfl (fun ls_3 hl_3 => ?_)
    clear hl
    refine lv_iload_n hx hb dX12_goesPairs_76 rfl (lv_at hl_3 2 rfl) ?_
    refine lv_iconst (v := 1) hx hb dX12_goesPairs_77 (by decide) ?_
    refine lv_iload hx hb dX12_goesPairs_78 (lv_at hl_3 0 rfl) ?_
    refine lv_ishl hx hb dX12_goesPairs_80 ?_
    obtain ⟨z_4, ez_4, hz_4⟩ := e_shlk (p := r_2) 9 (by decide) rfl (by omega) (by omega)
    refine q_c z_4 ez_4 ?_
    refine lv_iconst (v := (-1)) hx hb dX12_goesPairs_81 (by decide) ?_
    refine lv_ixor hx hb dX12_goesPairs_82 ?_
    obtain ⟨z_5, ez_5, hz_5⟩ := e_any (z_4 ^^^ (-1))
    refine q_c z_5 ez_5 ?_
    refine lv_iand hx hb dX12_goesPairs_83 ?_
    obtain ⟨z_6, ez_6, hz_6⟩ := e_and1 (x := p0) (y := z_5) rfl (by omega)
    refine q_c z_6 ez_6 ?_
    have rs_7 := rest_low 2 (by omega) y2_0 (by omega) ez_4 ez_5 ez_6
    refine lv_istore (lv' := [(5, .int z_6), (4, .int r_2), (0, .ref h0), (1, .int p0), (2, .int p1), (3, .int p2)]) hx hb dX12_goesPairs_84 hl_3 (by decide) rfl (fun ls_8 hl_8 => ?_)
    clear hl_3
    refine lv_iload hx hb dX12_goesPairs_86 (lv_at hl_8 1 rfl) ?_
    refine lv_iconst (v := 1) hx hb dX12_goesPairs_88 (by decide) ?_
    refine lv_iadd hx hb dX12_goesPairs_89 ?_
    obtain ⟨z_9, ez_9, hz_9⟩ := e_add (x := r_2) (y := 1) rfl (show (1 : Int32).toInt = 1 by decide) (by omega) (by omega)
    refine q_c z_9 ez_9 ?_
    clear ez_9
    refine lv_istore (lv' := [(6, .int z_9), (5, .int z_6), (4, .int r_2), (0, .ref h0), (1, .int p0), (2, .int p1), (3, .int p2)]) hx hb dX12_goesPairs_90 hl_8 (by decide) rfl (fun ls_10 hl_10 => ?_)
    clear hl_8
    refine q_wl (fun (q : Int32 × Int32 × Int32) H locs ls => match q with | (v92_11_0, v92_11_1, v92_11_2) => ∃ v92_11_3 : Nat → Int32, ∃ v92_11_4 : Nat → Int32, (1 ≤ (v92_11_0).toInt ∧ (v92_11_0).toInt ≤ 10) ∧ ((-1) ≤ (v92_11_1).toInt ∧ (v92_11_1).toInt ≤ 10) ∧ ((-2147483648) ≤ (v92_11_2).toInt ∧ (v92_11_2).toInt ≤ 2147483647) ∧ qW D (va_A (wk_f147cc4b8 cy h0 p3 h1 w0 w1 w2 p4 p5 p6 p7 p8 p9 p10 p11 p12 p13 p14 w3 w4 w5 h2 w6 p15 p16 w7 h3 h4 p17 p18 w8 w9 w10 w11 w12 p19 w13 w14 w15 h1 f0 h2 f1 h3 f2 h4 f3) sz) s.heap (wk_f147cc4b8 cy h0 p3 h1 w0 w1 w2 p4 p5 p6 p7 p8 p9 p10 p11 p12 p13 p14 w3 w4 w5 h2 w6 p15 p16 w7 h3 h4 v92_11_1 v92_11_2 w8 w9 w10 w11 w12 p19 w13 w14 w15 h1 f0 h2 f1 h3 v92_11_3 h4 v92_11_4) H locs ∧ lv_has ls 7 [(0, .ref h0), (1, .int p0), (2, .int p1), (3, .int p2), (4, .int r_2), (5, .int z_6), (6, .int v92_11_0)]) (fun (q : Int32 × Int32 × Int32) => match q with | (v92_11_0, v92_11_1, v92_11_2) => (11 - (v92_11_0).toInt).toNat) (fun q_92 ih_92 H locs ls hP => ?_) (z_9, p17, p18) ⟨f2, f3, ⟨by omega, by omega⟩, hp17, hp18, h_2, (lv_sub hl_10 [3, 4, 5, 6, 2, 1, 0] rfl)⟩
    obtain ⟨v92_11_0, v92_11_1, v92_11_2⟩ := q_92
    obtain ⟨v92_11_3, v92_11_4, hv92_11_0, hv92_11_1, hv92_11_2, h, hl⟩ := hP
    refine lv_iload hx hb dX12_goesPairs_92 (lv_at hl 6 rfl) ?_
    refine lv_aload_n hx hb dX12_goesPairs_94 rfl (lv_at hl 0 rfl) ?_
    refine q_get X hK h 0 rfl rfl wf_12 1 (by decide) rfl wm_5_171 dX12_goesPairs_95 ?_
    refine lv_iconst (v := 2) hx hb dX12_goesPairs_98 (by decide) ?_
    refine q_iald X hK h 1 rfl (q_in (by decide +kernel)) dX12_goesPairs_99 ?_
    obtain ⟨z_12, ez_12, hz_12⟩ := al_P rf0 (x := 2) (show (2 : Int32).toInt = 2 by decide) (by omega) (by omega)
    refine q_c z_12 ez_12 ?_
    clear ez_12
    refine lv_icmp_ge (tgt := 196) hx hb dX12_goesPairs_100 (by decide) (fun c_13 => ?_) (fun c_13 => ?_)
    · replace c_13 := i_le (x := z_12) (y := v92_11_0) rfl rfl c_13
      refine lv_aload_n hx hb dX12_goesPairs_196 rfl (lv_at hl 0 rfl) ?_
      refine q_get X hK h 0 rfl rfl wf_12 24 (by decide) rfl wm_5_194 dX12_goesPairs_197 ?_
      refine lv_iload hx hb dX12_goesPairs_200 (lv_at hl 4 rfl) ?_
      refine lv_iconst (v := (-1)) hx hb dX12_goesPairs_202 (by decide) ?_
      refine q_iast X hK h 3 rfl (i_in rfl (by omega) (by omega)) dX12_goesPairs_203 (fun H locs h_15 => ?_)
      clear h
      replace h_15 : qW D _ _ (wk_f147cc4b8 cy h0 p3 h1 w0 w1 w2 p4 p5 p6 p7 p8 p9 p10 p11 p12 p13 p14 w3 w4 w5 h2 w6 p15 p16 w7 h3 h4 v92_11_1 v92_11_2 w8 w9 w10 w11 w12 p19 w13 w14 w15 h1 f0 h2 f1 h3 (upd v92_11_3 (Int32.toNatClampNeg r_2) (-1)) h4 v92_11_4) _ _ := h_15
      obtain ⟨F_14, eF_14⟩ : ∃ z, (upd v92_11_3 (Int32.toNatClampNeg r_2) (-1)) = z := ⟨_, rfl⟩
      rw [eF_14] at h_15
      clear eF_14
      refine lv_aload_n hx hb dX12_goesPairs_204 rfl (lv_at hl 0 rfl) ?_
      refine lv_iload hx hb dX12_goesPairs_205 (lv_at hl 5 rfl) ?_
      refine lv_iload_n hx hb dX12_goesPairs_207 rfl (lv_at hl 2 rfl) ?_
      refine lv_iload_n hx hb dX12_goesPairs_208 rfl (lv_at hl 3 rfl) ?_
      refine q_callVv (rest := []) (wr := []) X hK hT hA h_15 (fun sz => gX12_goesPairs_4b60efc l D cy h0 h1 h2 h3 h4 z_6 p1 p2 p3 w0 w1 w2 p4 p5 p6 p7 p8 p9 p10 p11 p12 p13 p14 w3 w4 w5 w6 p15 p16 w7 v92_11_1 v92_11_2 w8 w9 w10 w11 w12 p19 w13 w14 w15 f0 p20 f1 F_14 v92_11_4 ⟨by omega, by omega⟩ (bw hp1 (by decide) (by decide)) (i_rng _) hp3 hp4 hp5 hp6 hp7 (i_rng _) hp9 (i_rng _) (i_rng _) (i_rng _) (i_rng _) (i_rng _) (i_rng _) (i_rng _) hv92_11_1 (i_rng _) (i_rng _) hp20 htf0_84 rf0 (rg_wide rf1 (by decide) (by decide)) ((show _ % 8 = 0 from rs_7.1)) sz) wm_7_116 wm_7_119 wm_1_12 hd_X12_goesPairs wm_7_118 wp_7_4 (ci := 12) (q0 := 0) rfl rfl ⟨Nat.le_of_ble_eq_true rfl, Nat.le_of_ble_eq_true rfl⟩ hl.1 rfl (Nat.le_of_ble_eq_true rfl) dX12_goesPairs_209 ⟨Nat.le_of_ble_eq_true rfl, Nat.le_of_ble_eq_true rfl⟩ [0, 1, 2, 3, 4] [] rfl rfl (by decide) rfl rfl (fun u_16 H locs w_16 h_16 => ?_)
      clear h_15
      obtain ⟨w16_0, w16_1, _⟩ := w_16
      replace h_16 : qW D _ _ (wk_f147cc4b8 cy h0 p3 h1 w0 w1 w2 p4 p5 p6 p7 p8 p9 p10 p11 p12 p13 p14 w3 w4 w5 h2 w6 p15 p16 w7 h3 h4 (u_16.2.1 0 0) (u_16.2.1 1 0) w8 w9 w10 w11 w12 p19 w13 w14 w15 h1 f0 h2 f1 h3 (u_16.2.1 2) h4 (u_16.2.1 3)) _ _ := h_16
      exact q_vret X hr hlk hK h_16 (fun _ => 0, (vcons (fun _ => (u_16.2.1 0 0)) (vcons (fun _ => (u_16.2.1 1 0)) (vcons (u_16.2.1 2) (vcons (u_16.2.1 3) (fun _ => (fun _ => 0)))))), fun _ _ => 0) ⟨w16_0, w16_1, trivial⟩ [0, 1, 2, 3, 4] rfl rfl dX12_goesPairs_212 (Nat.le_of_ble_eq_true rfl) (Nat.le_of_ble_eq_true rfl)
    · replace c_13 := i_nle (x := z_12) (y := v92_11_0) rfl rfl c_13
      refine lv_iload hx hb dX12_goesPairs_103 (lv_at hl 5 rfl) ?_
      refine lv_aload_n hx hb dX12_goesPairs_105 rfl (lv_at hl 0 rfl) ?_
      refine q_get X hK h 0 rfl rfl wf_12 19 (by decide) rfl wm_5_189 dX12_goesPairs_106 ?_
      refine lv_iload hx hb dX12_goesPairs_109 (lv_at hl 4 rfl) ?_
      refine q_iald X hK h 2 rfl (i_in rfl (by omega) (by omega)) dX12_goesPairs_111 ?_
      obtain ⟨z_17, ez_17, hz_17⟩ := rg_get rf1 (x := r_2) rfl (by omega) (by omega)
      refine q_c z_17 ez_17 ?_
      clear ez_17
      refine lv_iand hx hb dX12_goesPairs_112 ?_
      obtain ⟨z_18, ez_18, hz_18⟩ := e_and2 (x := z_6) (y := z_17) rfl (by omega)
      refine q_c z_18 ez_18 ?_
      clear ez_18
      refine lv_i2l hx hb dX12_goesPairs_113 rfl ?_
      obtain ⟨z_19, ez_19, hz_19⟩ := e_i2l (x := z_18) rfl
      refine q_cl z_19 ez_19 ?_
      clear ez_19
      refine lv_iload hx hb dX12_goesPairs_114 (lv_at hl 6 rfl) ?_
      refine q_callSi (rest := []) (wr := (wk_f147cc4b8 cy h0 p3 h1 w0 w1 w2 p4 p5 p6 p7 p8 p9 p10 p11 p12 p13 p14 w3 w4 w5 h2 w6 p15 p16 w7 h3 h4 v92_11_1 v92_11_2 w8 w9 w10 w11 w12 p19 w13 w14 w15 h1 f0 h2 f1 h3 v92_11_3 h4 v92_11_4)) X hK hT hA h (fun sz => gX12_isIn_b0455a8 l D cy z_19 v92_11_0 ⟨by omega, by omega⟩ ⟨by omega, by omega⟩ sz) wm_6_167 wm_6_169 wm_1_12 hd_X12_isIn wm_6_168 ⟨Nat.le_of_ble_eq_true rfl, Nat.le_of_ble_eq_true rfl⟩ hl.1 rfl (Nat.le_of_ble_eq_true rfl) dX12_goesPairs_116 ⟨Nat.le_of_ble_eq_true rfl, Nat.le_of_ble_eq_true rfl⟩ [] [0, 1, 2, 3, 4] rfl rfl (by decide) rfl rfl (fun r_20 u_20 H locs w_20 h_20 => ?_)
      clear h
      obtain ⟨wr_20, _⟩ := w_20
      replace h_20 : qW D _ _ (wk_f147cc4b8 cy h0 p3 h1 w0 w1 w2 p4 p5 p6 p7 p8 p9 p10 p11 p12 p13 p14 w3 w4 w5 h2 w6 p15 p16 w7 h3 h4 v92_11_1 v92_11_2 w8 w9 w10 w11 w12 p19 w13 w14 w15 h1 f0 h2 f1 h3 v92_11_3 h4 v92_11_4) _ _ := h_20
      refine q_jn (pc2 := 190) (fun H locs ls st => ∃ v190_21_0 : Int32, ∃ v190_21_1 : Int32, ∃ v190_21_2 : Nat → Int32, ∃ v190_21_3 : Nat → Int32, ((-1) ≤ (v190_21_0).toInt ∧ (v190_21_0).toInt ≤ 10) ∧ ((-2147483648) ≤ (v190_21_1).toInt ∧ (v190_21_1).toInt ≤ 2147483647) ∧ st = [] ∧ qW D (va_A (wk_f147cc4b8 cy h0 p3 h1 w0 w1 w2 p4 p5 p6 p7 p8 p9 p10 p11 p12 p13 p14 w3 w4 w5 h2 w6 p15 p16 w7 h3 h4 p17 p18 w8 w9 w10 w11 w12 p19 w13 w14 w15 h1 f0 h2 f1 h3 f2 h4 f3) sz) s.heap (wk_f147cc4b8 cy h0 p3 h1 w0 w1 w2 p4 p5 p6 p7 p8 p9 p10 p11 p12 p13 p14 w3 w4 w5 h2 w6 p15 p16 w7 h3 h4 v190_21_0 v190_21_1 w8 w9 w10 w11 w12 p19 w13 w14 w15 h1 f0 h2 f1 h3 v190_21_2 h4 v190_21_3) H locs ∧ lv_has ls 7 [(0, .ref h0), (1, .int p0), (2, .int p1), (3, .int p2), (4, .int r_2), (5, .int z_6), (6, .int v92_11_0)]) (fun H locs ls st hP => ?_) (fun J_190 => ?_)
      · obtain ⟨v190_21_0, v190_21_1, v190_21_2, v190_21_3, hv190_21_0, hv190_21_1, rfl, h, hl⟩ := hP
        obtain ⟨z_22, ez_22, hz_22⟩ := e_add (x := v92_11_0) (y := Int32.ofInt 1) rfl (b := 1) (by decide) (by omega) (by omega)
        refine lv_iinc (v := z_22) (lv' := [(6, .int z_22), (0, .ref h0), (1, .int p0), (2, .int p1), (3, .int p2), (4, .int r_2), (5, .int z_6)]) hx hb dX12_goesPairs_190 hl (k := 6) rfl ez_22 (by decide) rfl (fun ls_22 hl_22 => ?_)
        clear hl
        refine lv_goto (tgt := 92) hx hb dX12_goesPairs_193 (by decide) ?_
        exact ih_92 (z_22, v190_21_0, v190_21_1) (by show (11 - (z_22).toInt).toNat < (11 - (v92_11_0).toInt).toNat; omega) _ _ _ ⟨v190_21_2, v190_21_3, ⟨by omega, by omega⟩, hv190_21_0, hv190_21_1, h, (lv_sub hl_22 [1, 2, 3, 4, 5, 6, 0] rfl)⟩
      · skip
        refine lv_if_ne (tgt := 125) hx hb dX12_goesPairs_119 (by decide) (fun c_23 => ?_) (fun c_23 => ?_)
        · replace c_23 := i_ne (x := r_20) (y := 0) rfl (show (0 : Int32).toInt = 0 by decide) c_23
          refine lv_aload_n hx hb dX12_goesPairs_125 rfl (lv_at hl 0 rfl) ?_
          refine q_get X hK h_20 0 rfl rfl wf_12 24 (by decide) rfl wm_5_194 dX12_goesPairs_126 ?_
          refine lv_iload hx hb dX12_goesPairs_129 (lv_at hl 4 rfl) ?_
          refine lv_iload hx hb dX12_goesPairs_131 (lv_at hl 6 rfl) ?_
          refine q_iast X hK h_20 3 rfl (i_in rfl (by omega) (by omega)) dX12_goesPairs_133 (fun H locs h_25 => ?_)
          clear h_20
          replace h_25 : qW D _ _ (wk_f147cc4b8 cy h0 p3 h1 w0 w1 w2 p4 p5 p6 p7 p8 p9 p10 p11 p12 p13 p14 w3 w4 w5 h2 w6 p15 p16 w7 h3 h4 v92_11_1 v92_11_2 w8 w9 w10 w11 w12 p19 w13 w14 w15 h1 f0 h2 f1 h3 (upd v92_11_3 (Int32.toNatClampNeg r_2) v92_11_0) h4 v92_11_4) _ _ := h_25
          obtain ⟨F_24, eF_24⟩ : ∃ z, (upd v92_11_3 (Int32.toNatClampNeg r_2) v92_11_0) = z := ⟨_, rfl⟩
          rw [eF_24] at h_25
          clear eF_24
          refine lv_aload_n hx hb dX12_goesPairs_134 rfl (lv_at hl 0 rfl) ?_
          refine q_get X hK h_25 0 rfl rfl wf_12 24 (by decide) rfl wm_5_194 dX12_goesPairs_135 ?_
          refine lv_iload hx hb dX12_goesPairs_138 (lv_at hl 6 rfl) ?_
          refine lv_iload hx hb dX12_goesPairs_140 (lv_at hl 4 rfl) ?_
          refine q_iast X hK h_25 3 rfl (i_in rfl (by omega) (by omega)) dX12_goesPairs_142 (fun H locs h_27 => ?_)
          clear h_25
          replace h_27 : qW D _ _ (wk_f147cc4b8 cy h0 p3 h1 w0 w1 w2 p4 p5 p6 p7 p8 p9 p10 p11 p12 p13 p14 w3 w4 w5 h2 w6 p15 p16 w7 h3 h4 v92_11_1 v92_11_2 w8 w9 w10 w11 w12 p19 w13 w14 w15 h1 f0 h2 f1 h3 (upd F_24 (Int32.toNatClampNeg v92_11_0) r_2) h4 v92_11_4) _ _ := h_27
          obtain ⟨F_26, eF_26⟩ : ∃ z, (upd F_24 (Int32.toNatClampNeg v92_11_0) r_2) = z := ⟨_, rfl⟩
          rw [eF_26] at h_27
          clear eF_26
          refine lv_aload_n hx hb dX12_goesPairs_143 rfl (lv_at hl 0 rfl) ?_
          refine lv_iload hx hb dX12_goesPairs_144 (lv_at hl 5 rfl) ?_
          refine lv_iconst (v := 1) hx hb dX12_goesPairs_146 (by decide) ?_
          refine lv_iload hx hb dX12_goesPairs_147 (lv_at hl 6 rfl) ?_
          refine lv_ishl hx hb dX12_goesPairs_149 ?_
          obtain ⟨z_28, ez_28, hz_28⟩ := e_shlk (p := v92_11_0) 9 (by decide) rfl (by omega) (by omega)
          refine q_c z_28 ez_28 ?_
          clear ez_28
          refine lv_iconst (v := (-1)) hx hb dX12_goesPairs_150 (by decide) ?_
          refine lv_ixor hx hb dX12_goesPairs_151 ?_
          refine q_any (fun z_29 hz_29 => ?_)
          refine lv_iand hx hb dX12_goesPairs_152 ?_
          obtain ⟨z_30, ez_30, hz_30⟩ := e_and1 (x := z_6) (y := z_29) rfl (by omega)
          refine q_c z_30 ez_30 ?_
          have ad_31 := and_div 3 (by omega) rs_7.1 ez_30
          refine lv_iload_n hx hb dX12_goesPairs_153 rfl (lv_at hl 2 rfl) ?_
          refine lv_iconst (v := 1) hx hb dX12_goesPairs_154 (by decide) ?_
          refine lv_iadd hx hb dX12_goesPairs_155 ?_
          obtain ⟨z_32, ez_32, hz_32⟩ := e_add (x := p1) (y := 1) rfl (show (1 : Int32).toInt = 1 by decide) (by omega) (by omega)
          refine q_c z_32 ez_32 ?_
          clear ez_32
          refine lv_iload_n hx hb dX12_goesPairs_156 rfl (lv_at hl 3 rfl) ?_
          refine lv_aload_n hx hb dX12_goesPairs_157 rfl (lv_at hl 0 rfl) ?_
          refine q_get X hK h_27 0 rfl rfl wf_12 1 (by decide) rfl wm_5_171 dX12_goesPairs_158 ?_
          refine lv_bipush (v := 42) hx hb dX12_goesPairs_161 (by decide) ?_
          refine lv_iload hx hb dX12_goesPairs_163 (lv_at hl 4 rfl) ?_
          refine lv_iadd hx hb dX12_goesPairs_165 ?_
          obtain ⟨z_33, ez_33, hz_33⟩ := e_add (x := 42) (y := r_2) (show (42 : Int32).toInt = 42 by decide) rfl (by omega) (by omega)
          refine q_c z_33 ez_33 ?_
          clear ez_33
          refine q_iald X hK h_27 1 rfl (i_in rfl (by omega) (by omega)) dX12_goesPairs_166 ?_
          refine q_any (fun z_34 hz_34 => ?_)
          refine lv_iadd hx hb dX12_goesPairs_167 ?_
          refine q_any (fun z_35 hz_35 => ?_)
          refine lv_aload_n hx hb dX12_goesPairs_168 rfl (lv_at hl 0 rfl) ?_
          refine q_get X hK h_27 0 rfl rfl wf_12 1 (by decide) rfl wm_5_171 dX12_goesPairs_169 ?_
          refine lv_bipush (v := 42) hx hb dX12_goesPairs_172 (by decide) ?_
          refine lv_iload hx hb dX12_goesPairs_174 (lv_at hl 6 rfl) ?_
          refine lv_iadd hx hb dX12_goesPairs_176 ?_
          obtain ⟨z_36, ez_36, hz_36⟩ := e_add (x := 42) (y := v92_11_0) (show (42 : Int32).toInt = 42 by decide) rfl (by omega) (by omega)
          refine q_c z_36 ez_36 ?_
          clear ez_36
          refine q_iald X hK h_27 1 rfl (i_in rfl (by omega) (by omega)) dX12_goesPairs_177 ?_
          refine q_any (fun z_37 hz_37 => ?_)
          refine lv_iadd hx hb dX12_goesPairs_178 ?_
          refine q_any (fun z_38 hz_38 => ?_)
          refine q_callVv (rest := []) (wr := []) X hK hT hA h_27 (fun sz => gX12_goesPairs_4b60efc l D cy h0 h1 h2 h3 h4 z_30 z_32 z_38 p3 w0 w1 w2 p4 p5 p6 p7 p8 p9 p10 p11 p12 p13 p14 w3 w4 w5 w6 p15 p16 w7 v92_11_1 v92_11_2 w8 w9 w10 w11 w12 p19 w13 w14 w15 f0 p20 f1 F_26 v92_11_4 ⟨by omega, by omega⟩ ⟨by omega, by omega⟩ (i_rng _) hp3 hp4 hp5 hp6 hp7 (i_rng _) hp9 (i_rng _) (i_rng _) (i_rng _) (i_rng _) (i_rng _) (i_rng _) (i_rng _) hv92_11_1 (i_rng _) (i_rng _) hp20 htf0_84 rf0 (rg_wide rf1 (by decide) (by decide)) ((show _ % 8 = 0 from ad_31)) sz) wm_7_116 wm_7_119 wm_1_12 hd_X12_goesPairs wm_7_118 wp_7_4 (ci := 12) (q0 := 0) rfl rfl ⟨Nat.le_of_ble_eq_true rfl, Nat.le_of_ble_eq_true rfl⟩ hl.1 rfl (Nat.le_of_ble_eq_true rfl) dX12_goesPairs_179 ⟨Nat.le_of_ble_eq_true rfl, Nat.le_of_ble_eq_true rfl⟩ [0, 1, 2, 3, 4] [] rfl rfl (by decide) rfl rfl (fun u_39 H locs w_39 h_39 => ?_)
          clear h_27
          obtain ⟨w39_0, w39_1, _⟩ := w_39
          replace h_39 : qW D _ _ (wk_f147cc4b8 cy h0 p3 h1 w0 w1 w2 p4 p5 p6 p7 p8 p9 p10 p11 p12 p13 p14 w3 w4 w5 h2 w6 p15 p16 w7 h3 h4 (u_39.2.1 0 0) (u_39.2.1 1 0) w8 w9 w10 w11 w12 p19 w13 w14 w15 h1 f0 h2 f1 h3 (u_39.2.1 2) h4 (u_39.2.1 3)) _ _ := h_39
          refine lv_aload_n hx hb dX12_goesPairs_182 rfl (lv_at hl 0 rfl) ?_
          refine q_get X hK h_39 0 rfl rfl wf_12 24 (by decide) rfl wm_5_194 dX12_goesPairs_183 ?_
          refine lv_iload hx hb dX12_goesPairs_186 (lv_at hl 6 rfl) ?_
          refine lv_iconst (v := (-1)) hx hb dX12_goesPairs_188 (by decide) ?_
          refine q_iast X hK h_39 3 rfl (i_in rfl (by omega) (by omega)) dX12_goesPairs_189 (fun H locs h_41 => ?_)
          clear h_39
          replace h_41 : qW D _ _ (wk_f147cc4b8 cy h0 p3 h1 w0 w1 w2 p4 p5 p6 p7 p8 p9 p10 p11 p12 p13 p14 w3 w4 w5 h2 w6 p15 p16 w7 h3 h4 (u_39.2.1 0 0) (u_39.2.1 1 0) w8 w9 w10 w11 w12 p19 w13 w14 w15 h1 f0 h2 f1 h3 (upd (u_39.2.1 2) (Int32.toNatClampNeg v92_11_0) (-1)) h4 (u_39.2.1 3)) _ _ := h_41
          obtain ⟨F_40, eF_40⟩ : ∃ z, (upd (u_39.2.1 2) (Int32.toNatClampNeg v92_11_0) (-1)) = z := ⟨_, rfl⟩
          rw [eF_40] at h_41
          clear eF_40
          exact J_190 _ _ _ _ ⟨(u_39.2.1 0 0), (u_39.2.1 1 0), F_40, (u_39.2.1 3), w39_0, w39_1, rfl, h_41, (lv_sub hl [0, 1, 2, 3, 4, 5, 6] rfl)⟩
        · replace c_23 := i_eq (x := r_20) (y := 0) rfl (show (0 : Int32).toInt = 0 by decide) c_23
          refine lv_goto (tgt := 190) hx hb dX12_goesPairs_122 (by decide) ?_
          exact J_190 _ _ _ _ ⟨v92_11_1, v92_11_2, v92_11_3, v92_11_4, hv92_11_1, hv92_11_2, rfl, h_20, (lv_sub hl [0, 1, 2, 3, 4, 5, 6] rfl)⟩
  · replace c_1 := i_eq (x := p0) (y := 0) rfl (show (0 : Int32).toInt = 0 by decide) c_1
    refine lv_iload_n hx hb dX12_goesPairs_4 rfl (lv_at hl 2 rfl) ?_
    refine lv_aload_n hx hb dX12_goesPairs_5 rfl (lv_at hl 0 rfl) ?_
    refine q_get X hK h 0 rfl rfl wf_12 26 (by decide) rfl wm_5_196 dX12_goesPairs_6 ?_
    refine q_jn (pc2 := 28) (fun H locs ls st => st = [] ∧ qW D (va_A (wk_f147cc4b8 cy h0 p3 h1 w0 w1 w2 p4 p5 p6 p7 p8 p9 p10 p11 p12 p13 p14 w3 w4 w5 h2 w6 p15 p16 w7 h3 h4 p17 p18 w8 w9 w10 w11 w12 p19 w13 w14 w15 h1 f0 h2 f1 h3 f2 h4 f3) sz) s.heap (wk_f147cc4b8 cy h0 p3 h1 w0 w1 w2 p4 p5 p6 p7 p8 p9 p10 p11 p12 p13 p14 w3 w4 w5 h2 w6 p15 p16 w7 h3 h4 p17 p18 w8 w9 w10 w11 w12 p19 w13 w14 w15 h1 f0 h2 f1 h3 f2 h4 f3) H locs ∧ lv_has ls 7 [(0, .ref h0), (1, .int p0), (2, .int p1), (3, .int p2)]) (fun H locs ls st hP => ?_) (fun J_28 => ?_)
    · obtain ⟨rfl, h, hl⟩ := hP
      exact q_vret X hr hlk hK h (fun _ => 0, (vcons (fun _ => p17) (vcons (fun _ => p18) (vcons f2 (vcons f3 (fun _ => (fun _ => 0)))))), fun _ _ => 0) ⟨hp17, hp18, trivial⟩ [0, 1, 2, 3, 4] rfl rfl dX12_goesPairs_28 (Nat.le_of_ble_eq_true rfl) (Nat.le_of_ble_eq_true rfl)
    · skip
      refine lv_icmp_lt (tgt := 28) hx hb dX12_goesPairs_9 (by decide) (fun c_43 => ?_) (fun c_43 => ?_)
      · replace c_43 := i_lt (x := p1) (y := p17) rfl rfl c_43
        exact J_28 _ _ _ _ ⟨rfl, h, (lv_sub hl [0, 1, 2, 3] rfl)⟩
      · replace c_43 := i_nlt (x := p1) (y := p17) rfl rfl c_43
        refine lv_iload_n hx hb dX12_goesPairs_12 rfl (lv_at hl 2 rfl) ?_
        refine lv_aload_n hx hb dX12_goesPairs_13 rfl (lv_at hl 0 rfl) ?_
        refine q_get X hK h 0 rfl rfl wf_12 26 (by decide) rfl wm_5_196 dX12_goesPairs_14 ?_
        refine q_jn (pc2 := 29) (fun H locs ls st => st = [] ∧ qW D (va_A (wk_f147cc4b8 cy h0 p3 h1 w0 w1 w2 p4 p5 p6 p7 p8 p9 p10 p11 p12 p13 p14 w3 w4 w5 h2 w6 p15 p16 w7 h3 h4 p17 p18 w8 w9 w10 w11 w12 p19 w13 w14 w15 h1 f0 h2 f1 h3 f2 h4 f3) sz) s.heap (wk_f147cc4b8 cy h0 p3 h1 w0 w1 w2 p4 p5 p6 p7 p8 p9 p10 p11 p12 p13 p14 w3 w4 w5 h2 w6 p15 p16 w7 h3 h4 p17 p18 w8 w9 w10 w11 w12 p19 w13 w14 w15 h1 f0 h2 f1 h3 f2 h4 f3) H locs ∧ lv_has ls 7 [(0, .ref h0), (1, .int p0), (2, .int p1), (3, .int p2)]) (fun H locs ls st hP => ?_) (fun J_29 => ?_)
        · obtain ⟨rfl, h, hl⟩ := hP
          refine lv_aload_n hx hb dX12_goesPairs_29 rfl (lv_at hl 0 rfl) ?_
          refine lv_iload_n hx hb dX12_goesPairs_30 rfl (lv_at hl 2 rfl) ?_
          refine q_put (v := .int p1) X hK h 0 rfl rfl wf_12 tyX12 tyX12_ok nmX12 26 (by decide) wm_5_196 rfl rfl rfl (Nat.le_of_ble_eq_true rfl) dX12_goesPairs_31 (fun H locs h_45 => ?_)
          clear h
          replace h_45 : qW D _ _ (wk_f147cc4b8 cy h0 p3 h1 w0 w1 w2 p4 p5 p6 p7 p8 p9 p10 p11 p12 p13 p14 w3 w4 w5 h2 w6 p15 p16 w7 h3 h4 p1 p18 w8 w9 w10 w11 w12 p19 w13 w14 w15 h1 f0 h2 f1 h3 f2 h4 f3) _ _ := h_45
          refine lv_aload_n hx hb dX12_goesPairs_34 rfl (lv_at hl 0 rfl) ?_
          refine lv_iload_n hx hb dX12_goesPairs_35 rfl (lv_at hl 3 rfl) ?_
          refine q_put (v := .int p2) X hK h_45 0 rfl rfl wf_12 tyX12 tyX12_ok nmX12 27 (by decide) wm_5_197 rfl rfl rfl (Nat.le_of_ble_eq_true rfl) dX12_goesPairs_36 (fun H locs h_46 => ?_)
          clear h_45
          replace h_46 : qW D _ _ (wk_f147cc4b8 cy h0 p3 h1 w0 w1 w2 p4 p5 p6 p7 p8 p9 p10 p11 p12 p13 p14 w3 w4 w5 h2 w6 p15 p16 w7 h3 h4 p1 p2 w8 w9 w10 w11 w12 p19 w13 w14 w15 h1 f0 h2 f1 h3 f2 h4 f3) _ _ := h_46
          refine lv_iconst (v := 0) hx hb dX12_goesPairs_39 (by decide) ?_
          refine lv_istore (lv' := [(4, .int 0), (0, .ref h0), (1, .int p0), (2, .int p1), (3, .int p2)]) hx hb dX12_goesPairs_40 hl (by decide) rfl (fun ls_47 hl_47 => ?_)
          clear hl
          refine q_wl (fun (v42_48_0 : Int32) H locs ls => ∃ v42_48_1 : Nat → Int32, (0 ≤ (v42_48_0).toInt ∧ (v42_48_0).toInt ≤ 10) ∧ qW D (va_A (wk_f147cc4b8 cy h0 p3 h1 w0 w1 w2 p4 p5 p6 p7 p8 p9 p10 p11 p12 p13 p14 w3 w4 w5 h2 w6 p15 p16 w7 h3 h4 p17 p18 w8 w9 w10 w11 w12 p19 w13 w14 w15 h1 f0 h2 f1 h3 f2 h4 f3) sz) s.heap (wk_f147cc4b8 cy h0 p3 h1 w0 w1 w2 p4 p5 p6 p7 p8 p9 p10 p11 p12 p13 p14 w3 w4 w5 h2 w6 p15 p16 w7 h3 h4 p1 p2 w8 w9 w10 w11 w12 p19 w13 w14 w15 h1 f0 h2 f1 h3 f2 h4 v42_48_1) H locs ∧ lv_has ls 7 [(0, .ref h0), (1, .int p0), (2, .int p1), (3, .int p2), (4, .int v42_48_0)]) (fun (v42_48_0 : Int32) => (11 - (v42_48_0).toInt).toNat) (fun q_42 ih_42 H locs ls hP => ?_) 0 ⟨f3, ⟨by decide +kernel, by decide +kernel⟩, h_46, (lv_sub hl_47 [1, 2, 3, 4, 0] rfl)⟩
          obtain ⟨v42_48_0, rfl⟩ : ∃ z, z = q_42 := ⟨_, rfl⟩
          obtain ⟨v42_48_1, hv42_48_0, h, hl⟩ := hP
          refine lv_iload hx hb dX12_goesPairs_42 (lv_at hl 4 rfl) ?_
          refine lv_bipush (v := 10) hx hb dX12_goesPairs_44 (by decide) ?_
          refine lv_icmp_ge (tgt := 69) hx hb dX12_goesPairs_46 (by decide) (fun c_49 => ?_) (fun c_49 => ?_)
          · replace c_49 := i_le (x := 10) (y := v42_48_0) (show (10 : Int32).toInt = 10 by decide) rfl c_49
            exact q_vret X hr hlk hK h (fun _ => 0, (vcons (fun _ => p1) (vcons (fun _ => p2) (vcons f2 (vcons v42_48_1 (fun _ => (fun _ => 0)))))), fun _ _ => 0) ⟨(bw hp1 (by decide) (by decide)), hp2, trivial⟩ [0, 1, 2, 3, 4] rfl rfl dX12_goesPairs_69 (Nat.le_of_ble_eq_true rfl) (Nat.le_of_ble_eq_true rfl)
          · replace c_49 := i_nle (x := 10) (y := v42_48_0) (show (10 : Int32).toInt = 10 by decide) rfl c_49
            refine lv_aload_n hx hb dX12_goesPairs_49 rfl (lv_at hl 0 rfl) ?_
            refine q_get X hK h 0 rfl rfl wf_12 25 (by decide) rfl wm_5_195 dX12_goesPairs_50 ?_
            refine lv_iload hx hb dX12_goesPairs_53 (lv_at hl 4 rfl) ?_
            refine lv_aload_n hx hb dX12_goesPairs_55 rfl (lv_at hl 0 rfl) ?_
            refine q_get X hK h 0 rfl rfl wf_12 24 (by decide) rfl wm_5_194 dX12_goesPairs_56 ?_
            refine lv_iload hx hb dX12_goesPairs_59 (lv_at hl 4 rfl) ?_
            refine q_iald X hK h 3 rfl (i_in rfl (by omega) (by omega)) dX12_goesPairs_61 ?_
            refine q_any (fun z_50 hz_50 => ?_)
            refine q_iast X hK h 4 rfl (i_in rfl (by omega) (by omega)) dX12_goesPairs_62 (fun H locs h_52 => ?_)
            clear h
            replace h_52 : qW D _ _ (wk_f147cc4b8 cy h0 p3 h1 w0 w1 w2 p4 p5 p6 p7 p8 p9 p10 p11 p12 p13 p14 w3 w4 w5 h2 w6 p15 p16 w7 h3 h4 p1 p2 w8 w9 w10 w11 w12 p19 w13 w14 w15 h1 f0 h2 f1 h3 f2 h4 (upd v42_48_1 (Int32.toNatClampNeg v42_48_0) z_50)) _ _ := h_52
            obtain ⟨F_51, eF_51⟩ : ∃ z, (upd v42_48_1 (Int32.toNatClampNeg v42_48_0) z_50) = z := ⟨_, rfl⟩
            rw [eF_51] at h_52
            clear eF_51
            obtain ⟨z_53, ez_53, hz_53⟩ := e_add (x := v42_48_0) (y := Int32.ofInt 1) rfl (b := 1) (by decide) (by omega) (by omega)
            refine lv_iinc (v := z_53) (lv' := [(4, .int z_53), (0, .ref h0), (1, .int p0), (2, .int p1), (3, .int p2)]) hx hb dX12_goesPairs_63 hl (k := 4) rfl ez_53 (by decide) rfl (fun ls_53 hl_53 => ?_)
            clear hl
            refine lv_goto (tgt := 42) hx hb dX12_goesPairs_66 (by decide) ?_
            exact ih_42 z_53 (by show (11 - (z_53).toInt).toNat < (11 - (v42_48_0).toInt).toNat; omega) _ _ _ ⟨F_51, ⟨by omega, by omega⟩, h_52, (lv_sub hl_53 [1, 2, 3, 4, 0] rfl)⟩
        · skip
          refine lv_icmp_ne (tgt := 29) hx hb dX12_goesPairs_17 (by decide) (fun c_54 => ?_) (fun c_54 => ?_)
          · replace c_54 := i_ne (x := p1) (y := p17) rfl rfl c_54
            exact J_29 _ _ _ _ ⟨rfl, h, (lv_sub hl [0, 1, 2, 3] rfl)⟩
          · replace c_54 := i_eq (x := p1) (y := p17) rfl rfl c_54
            refine lv_iload_n hx hb dX12_goesPairs_20 rfl (lv_at hl 3 rfl) ?_
            refine lv_aload_n hx hb dX12_goesPairs_21 rfl (lv_at hl 0 rfl) ?_
            refine q_get X hK h 0 rfl rfl wf_12 27 (by decide) rfl wm_5_197 dX12_goesPairs_22 ?_
            refine lv_icmp_gt (tgt := 29) hx hb dX12_goesPairs_25 (by decide) (fun c_55 => ?_) (fun c_55 => ?_)
            · replace c_55 := i_lt (x := p18) (y := p2) rfl rfl c_55
              exact J_29 _ _ _ _ ⟨rfl, h, (lv_sub hl [0, 1, 2, 3] rfl)⟩
            · replace c_55 := i_nlt (x := p18) (y := p2) rfl rfl c_55
              exact J_28 _ _ _ _ ⟨rfl, h, (lv_sub hl [0, 1, 2, 3] rfl)⟩
set_option maxHeartbeats 4000000 in
set_option maxRecDepth 100000 in
theorem gX12_goesPairs_bfead1d (l : Launch) (D : va_G) (cy : Nat → ClassId) (h0 : Nat) (h1 : Nat) (h2 : Nat) (h3 : Nat) (h4 : Nat) (p0 : Int32) (p1 : Int32) (p2 : Int32) (p3 : Int32) (w0 : Value) (w1 : Value) (w2 : Value) (p4 : Int32) (p5 : Int32) (p6 : Int32) (p7 : Int32) (p8 : Int32) (p9 : Int32) (p10 : Int32) (p11 : Int32) (p12 : Int32) (p13 : Int32) (p14 : Int32) (w3 : Value) (w4 : Value) (w5 : Value) (w6 : Value) (p15 : Int32) (p16 : Int32) (w7 : Value) (p17 : Int32) (p18 : Int32) (w8 : Value) (w9 : Value) (w10 : Value) (w11 : Value) (w12 : Value) (p19 : Int32) (w13 : Value) (w14 : Value) (w15 : Value) (f0 : Nat → Int32) (p20 : Int32) (f1 : Nat → Int32) (f2 : Nat → Int32) (f3 : Nat → Int32) (hp0 : 0 ≤ (p0).toInt ∧ (p0).toInt ≤ 1023) (hp1 : 0 ≤ (p1).toInt ∧ (p1).toInt ≤ 1) (hp2 : (-2147483648) ≤ (p2).toInt ∧ (p2).toInt ≤ 2147483647) (hp3 : 0 ≤ (p3).toInt ∧ (p3).toInt ≤ 0) (hp4 : 0 ≤ (p4).toInt ∧ (p4).toInt ≤ 900) (hp5 : 0 ≤ (p5).toInt ∧ (p5).toInt ≤ 900) (hp6 : 0 ≤ (p6).toInt ∧ (p6).toInt ≤ 900) (hp7 : 0 ≤ (p7).toInt ∧ (p7).toInt ≤ 900) (hp8 : (-2147483648) ≤ (p8).toInt ∧ (p8).toInt ≤ 2147483647) (hp9 : 0 ≤ (p9).toInt ∧ (p9).toInt ≤ 999) (hp10 : (-2147483648) ≤ (p10).toInt ∧ (p10).toInt ≤ 2147483647) (hp11 : (-2147483648) ≤ (p11).toInt ∧ (p11).toInt ≤ 2147483647) (hp12 : (-2147483648) ≤ (p12).toInt ∧ (p12).toInt ≤ 2147483647) (hp13 : (-2147483648) ≤ (p13).toInt ∧ (p13).toInt ≤ 2147483647) (hp14 : (-2147483648) ≤ (p14).toInt ∧ (p14).toInt ≤ 2147483647) (hp15 : (-2147483648) ≤ (p15).toInt ∧ (p15).toInt ≤ 2147483647) (hp16 : (-2147483648) ≤ (p16).toInt ∧ (p16).toInt ≤ 2147483647) (hp17 : (-1) ≤ (p17).toInt ∧ (p17).toInt ≤ 10) (hp18 : (-2147483648) ≤ (p18).toInt ∧ (p18).toInt ≤ 2147483647) (hp19 : (-2147483648) ≤ (p19).toInt ∧ (p19).toInt ≤ 2147483647) (hp20 : 0 ≤ (p20).toInt ∧ (p20).toInt ≤ 10) (htf0_84 : f0 84 = p20) (rf0 : AL f0) (rf1 : RG f1 10 0 1023) (hpre0 : (p0 : Int32).toInt % 2 = 0) (sz : Nat) : MV l yX12_goesPairs cX12_goesPairs 7 { frames := 10, cells := 0, slots := 0, locals := 251 } [.ref h0, .int p0, .int p1, .int p2] D cy (wk_f147cc4b8 cy h0 p3 h1 w0 w1 w2 p4 p5 p6 p7 p8 p9 p10 p11 p12 p13 p14 w3 w4 w5 h2 w6 p15 p16 w7 h3 h4 p17 p18 w8 w9 w10 w11 w12 p19 w13 w14 w15 h1 f0 h2 f1 h3 f2 h4 f3) sz (fun u => ((-1) ≤ (u.2.1 0 0).toInt ∧ (u.2.1 0 0).toInt ≤ 10) ∧ ((-2147483648) ≤ (u.2.1 1 0).toInt ∧ (u.2.1 1 0).toInt ≤ 2147483647) ∧ True) (fun u => (wk_f147cc4b8 cy h0 p3 h1 w0 w1 w2 p4 p5 p6 p7 p8 p9 p10 p11 p12 p13 p14 w3 w4 w5 h2 w6 p15 p16 w7 h3 h4 (u.2.1 0 0) (u.2.1 1 0) w8 w9 w10 w11 w12 p19 w13 w14 w15 h1 f0 h2 f1 h3 (u.2.1 2) h4 (u.2.1 3))) 0 0 := by
  refine q_ent (own := RX12) (by decide) rfl (Nat.le_of_ble_eq_true rfl) (fun p e s m below meth c ls X hr hlk hnm hK hT h hA hl => ?_)
  obtain ⟨hx, hb, hml, hown, ht⟩ := id X
  replace hl : lv_has ls 7 [(0, .ref h0), (1, .int p0), (2, .int p1), (3, .int p2)] := hl
  refine lv_iload_n hx hb dX12_goesPairs_0 rfl (lv_at hl 1 rfl) ?_
  refine lv_if_ne (tgt := 70) hx hb dX12_goesPairs_1 (by decide) (fun c_1 => ?_) (fun c_1 => ?_)
  · replace c_1 := i_ne (x := p0) (y := 0) rfl (show (0 : Int32).toInt = 0 by decide) c_1
    refine lv_iload_n hx hb dX12_goesPairs_70 rfl (lv_at hl 1 rfl) ?_
    refine q_callSi (rest := []) (wr := (wk_f147cc4b8 cy h0 p3 h1 w0 w1 w2 p4 p5 p6 p7 p8 p9 p10 p11 p12 p13 p14 w3 w4 w5 h2 w6 p15 p16 w7 h3 h4 p17 p18 w8 w9 w10 w11 w12 p19 w13 w14 w15 h1 f0 h2 f1 h3 f2 h4 f3)) X hK hT hA h (fun sz => gX12_lowest_51df8cb l D cy p0 ⟨by omega, by omega⟩ sz) wm_7_67 wm_7_69 wm_1_12 hd_X12_lowest wm_7_68 ⟨Nat.le_of_ble_eq_true rfl, Nat.le_of_ble_eq_true rfl⟩ hl.1 rfl (Nat.le_of_ble_eq_true rfl) dX12_goesPairs_71 ⟨Nat.le_of_ble_eq_true rfl, Nat.le_of_ble_eq_true rfl⟩ [] [0, 1, 2, 3, 4] rfl rfl (by decide) rfl rfl (fun r_2 u_2 H locs w_2 h_2 => ?_)
    clear h
    obtain ⟨wr_2, y2_0, _⟩ := w_2
    replace h_2 : qW D _ _ (wk_f147cc4b8 cy h0 p3 h1 w0 w1 w2 p4 p5 p6 p7 p8 p9 p10 p11 p12 p13 p14 w3 w4 w5 h2 w6 p15 p16 w7 h3 h4 p17 p18 w8 w9 w10 w11 w12 p19 w13 w14 w15 h1 f0 h2 f1 h3 f2 h4 f3) _ _ := h_2
    refine lv_istore (lv' := [(4, .int r_2), (0, .ref h0), (1, .int p0), (2, .int p1), (3, .int p2)]) hx hb dX12_goesPairs_74 hl (by decide) rfl (fun ls_3 hl_3 => ?_)
    clear hl
    refine lv_iload_n hx hb dX12_goesPairs_76 rfl (lv_at hl_3 2 rfl) ?_
    refine lv_iconst (v := 1) hx hb dX12_goesPairs_77 (by decide) ?_
    refine lv_iload hx hb dX12_goesPairs_78 (lv_at hl_3 0 rfl) ?_
    refine lv_ishl hx hb dX12_goesPairs_80 ?_
    obtain ⟨z_4, ez_4, hz_4⟩ := e_shlk (p := r_2) 9 (by decide) rfl (by omega) (by omega)
    refine q_c z_4 ez_4 ?_
    refine lv_iconst (v := (-1)) hx hb dX12_goesPairs_81 (by decide) ?_
    refine lv_ixor hx hb dX12_goesPairs_82 ?_
    obtain ⟨z_5, ez_5, hz_5⟩ := e_any (z_4 ^^^ (-1))
    refine q_c z_5 ez_5 ?_
    refine lv_iand hx hb dX12_goesPairs_83 ?_
    obtain ⟨z_6, ez_6, hz_6⟩ := e_and1 (x := p0) (y := z_5) rfl (by omega)
    refine q_c z_6 ez_6 ?_
    have rs_7 := rest_low 1 (by omega) y2_0 (by omega) ez_4 ez_5 ez_6
    refine lv_istore (lv' := [(5, .int z_6), (4, .int r_2), (0, .ref h0), (1, .int p0), (2, .int p1), (3, .int p2)]) hx hb dX12_goesPairs_84 hl_3 (by decide) rfl (fun ls_8 hl_8 => ?_)
    clear hl_3
    refine lv_iload hx hb dX12_goesPairs_86 (lv_at hl_8 1 rfl) ?_
    refine lv_iconst (v := 1) hx hb dX12_goesPairs_88 (by decide) ?_
    refine lv_iadd hx hb dX12_goesPairs_89 ?_
    obtain ⟨z_9, ez_9, hz_9⟩ := e_add (x := r_2) (y := 1) rfl (show (1 : Int32).toInt = 1 by decide) (by omega) (by omega)
    refine q_c z_9 ez_9 ?_
    clear ez_9
    refine lv_istore (lv' := [(6, .int z_9), (5, .int z_6), (4, .int r_2), (0, .ref h0), (1, .int p0), (2, .int p1), (3, .int p2)]) hx hb dX12_goesPairs_90 hl_8 (by decide) rfl (fun ls_10 hl_10 => ?_)
    clear hl_8
    refine q_wl (fun (q : Int32 × Int32 × Int32) H locs ls => match q with | (v92_11_0, v92_11_1, v92_11_2) => ∃ v92_11_3 : Nat → Int32, ∃ v92_11_4 : Nat → Int32, (1 ≤ (v92_11_0).toInt ∧ (v92_11_0).toInt ≤ 10) ∧ ((-1) ≤ (v92_11_1).toInt ∧ (v92_11_1).toInt ≤ 10) ∧ ((-2147483648) ≤ (v92_11_2).toInt ∧ (v92_11_2).toInt ≤ 2147483647) ∧ qW D (va_A (wk_f147cc4b8 cy h0 p3 h1 w0 w1 w2 p4 p5 p6 p7 p8 p9 p10 p11 p12 p13 p14 w3 w4 w5 h2 w6 p15 p16 w7 h3 h4 p17 p18 w8 w9 w10 w11 w12 p19 w13 w14 w15 h1 f0 h2 f1 h3 f2 h4 f3) sz) s.heap (wk_f147cc4b8 cy h0 p3 h1 w0 w1 w2 p4 p5 p6 p7 p8 p9 p10 p11 p12 p13 p14 w3 w4 w5 h2 w6 p15 p16 w7 h3 h4 v92_11_1 v92_11_2 w8 w9 w10 w11 w12 p19 w13 w14 w15 h1 f0 h2 f1 h3 v92_11_3 h4 v92_11_4) H locs ∧ lv_has ls 7 [(0, .ref h0), (1, .int p0), (2, .int p1), (3, .int p2), (4, .int r_2), (5, .int z_6), (6, .int v92_11_0)]) (fun (q : Int32 × Int32 × Int32) => match q with | (v92_11_0, v92_11_1, v92_11_2) => (11 - (v92_11_0).toInt).toNat) (fun q_92 ih_92 H locs ls hP => ?_) (z_9, p17, p18) ⟨f2, f3, ⟨by omega, by omega⟩, hp17, hp18, h_2, (lv_sub hl_10 [3, 4, 5, 6, 2, 1, 0] rfl)⟩
    obtain ⟨v92_11_0, v92_11_1, v92_11_2⟩ := q_92
    obtain ⟨v92_11_3, v92_11_4, hv92_11_0, hv92_11_1, hv92_11_2, h, hl⟩ := hP
    refine lv_iload hx hb dX12_goesPairs_92 (lv_at hl 6 rfl) ?_
    refine lv_aload_n hx hb dX12_goesPairs_94 rfl (lv_at hl 0 rfl) ?_
    refine q_get X hK h 0 rfl rfl wf_12 1 (by decide) rfl wm_5_171 dX12_goesPairs_95 ?_
    refine lv_iconst (v := 2) hx hb dX12_goesPairs_98 (by decide) ?_
    refine q_iald X hK h 1 rfl (q_in (by decide +kernel)) dX12_goesPairs_99 ?_
    obtain ⟨z_12, ez_12, hz_12⟩ := al_P rf0 (x := 2) (show (2 : Int32).toInt = 2 by decide) (by omega) (by omega)
    refine q_c z_12 ez_12 ?_
    clear ez_12
    refine lv_icmp_ge (tgt := 196) hx hb dX12_goesPairs_100 (by decide) (fun c_13 => ?_) (fun c_13 => ?_)
    · replace c_13 := i_le (x := z_12) (y := v92_11_0) rfl rfl c_13
      refine lv_aload_n hx hb dX12_goesPairs_196 rfl (lv_at hl 0 rfl) ?_
      refine q_get X hK h 0 rfl rfl wf_12 24 (by decide) rfl wm_5_194 dX12_goesPairs_197 ?_
      refine lv_iload hx hb dX12_goesPairs_200 (lv_at hl 4 rfl) ?_
      refine lv_iconst (v := (-1)) hx hb dX12_goesPairs_202 (by decide) ?_
      refine q_iast X hK h 3 rfl (i_in rfl (by omega) (by omega)) dX12_goesPairs_203 (fun H locs h_15 => ?_)
      clear h
      replace h_15 : qW D _ _ (wk_f147cc4b8 cy h0 p3 h1 w0 w1 w2 p4 p5 p6 p7 p8 p9 p10 p11 p12 p13 p14 w3 w4 w5 h2 w6 p15 p16 w7 h3 h4 v92_11_1 v92_11_2 w8 w9 w10 w11 w12 p19 w13 w14 w15 h1 f0 h2 f1 h3 (upd v92_11_3 (Int32.toNatClampNeg r_2) (-1)) h4 v92_11_4) _ _ := h_15
      obtain ⟨F_14, eF_14⟩ : ∃ z, (upd v92_11_3 (Int32.toNatClampNeg r_2) (-1)) = z := ⟨_, rfl⟩
      rw [eF_14] at h_15
      clear eF_14
      refine lv_aload_n hx hb dX12_goesPairs_204 rfl (lv_at hl 0 rfl) ?_
      refine lv_iload hx hb dX12_goesPairs_205 (lv_at hl 5 rfl) ?_
      refine lv_iload_n hx hb dX12_goesPairs_207 rfl (lv_at hl 2 rfl) ?_
      refine lv_iload_n hx hb dX12_goesPairs_208 rfl (lv_at hl 3 rfl) ?_
      refine q_callVv (rest := []) (wr := []) X hK hT hA h_15 (fun sz => gX12_goesPairs_524dcef l D cy h0 h1 h2 h3 h4 z_6 p1 p2 p3 w0 w1 w2 p4 p5 p6 p7 p8 p9 p10 p11 p12 p13 p14 w3 w4 w5 w6 p15 p16 w7 v92_11_1 v92_11_2 w8 w9 w10 w11 w12 p19 w13 w14 w15 f0 p20 f1 F_14 v92_11_4 ⟨by omega, by omega⟩ (bw hp1 (by decide) (by decide)) (i_rng _) hp3 hp4 hp5 hp6 hp7 (i_rng _) hp9 (i_rng _) (i_rng _) (i_rng _) (i_rng _) (i_rng _) (i_rng _) (i_rng _) hv92_11_1 (i_rng _) (i_rng _) hp20 htf0_84 rf0 (rg_wide rf1 (by decide) (by decide)) ((show _ % 4 = 0 from rs_7.1)) sz) wm_7_116 wm_7_119 wm_1_12 hd_X12_goesPairs wm_7_118 wp_7_4 (ci := 12) (q0 := 0) rfl rfl ⟨Nat.le_of_ble_eq_true rfl, Nat.le_of_ble_eq_true rfl⟩ hl.1 rfl (Nat.le_of_ble_eq_true rfl) dX12_goesPairs_209 ⟨Nat.le_of_ble_eq_true rfl, Nat.le_of_ble_eq_true rfl⟩ [0, 1, 2, 3, 4] [] rfl rfl (by decide) rfl rfl (fun u_16 H locs w_16 h_16 => ?_)
      clear h_15
      obtain ⟨w16_0, w16_1, _⟩ := w_16
      replace h_16 : qW D _ _ (wk_f147cc4b8 cy h0 p3 h1 w0 w1 w2 p4 p5 p6 p7 p8 p9 p10 p11 p12 p13 p14 w3 w4 w5 h2 w6 p15 p16 w7 h3 h4 (u_16.2.1 0 0) (u_16.2.1 1 0) w8 w9 w10 w11 w12 p19 w13 w14 w15 h1 f0 h2 f1 h3 (u_16.2.1 2) h4 (u_16.2.1 3)) _ _ := h_16
      exact q_vret X hr hlk hK h_16 (fun _ => 0, (vcons (fun _ => (u_16.2.1 0 0)) (vcons (fun _ => (u_16.2.1 1 0)) (vcons (u_16.2.1 2) (vcons (u_16.2.1 3) (fun _ => (fun _ => 0)))))), fun _ _ => 0) ⟨w16_0, w16_1, trivial⟩ [0, 1, 2, 3, 4] rfl rfl dX12_goesPairs_212 (Nat.le_of_ble_eq_true rfl) (Nat.le_of_ble_eq_true rfl)
    · replace c_13 := i_nle (x := z_12) (y := v92_11_0) rfl rfl c_13
      refine lv_iload hx hb dX12_goesPairs_103 (lv_at hl 5 rfl) ?_
      refine lv_aload_n hx hb dX12_goesPairs_105 rfl (lv_at hl 0 rfl) ?_
      refine q_get X hK h 0 rfl rfl wf_12 19 (by decide) rfl wm_5_189 dX12_goesPairs_106 ?_
      refine lv_iload hx hb dX12_goesPairs_109 (lv_at hl 4 rfl) ?_
      refine q_iald X hK h 2 rfl (i_in rfl (by omega) (by omega)) dX12_goesPairs_111 ?_
      obtain ⟨z_17, ez_17, hz_17⟩ := rg_get rf1 (x := r_2) rfl (by omega) (by omega)
      refine q_c z_17 ez_17 ?_
      clear ez_17
      refine lv_iand hx hb dX12_goesPairs_112 ?_
      obtain ⟨z_18, ez_18, hz_18⟩ := e_and2 (x := z_6) (y := z_17) rfl (by omega)
      refine q_c z_18 ez_18 ?_
      clear ez_18
      refine lv_i2l hx hb dX12_goesPairs_113 rfl ?_
      obtain ⟨z_19, ez_19, hz_19⟩ := e_i2l (x := z_18) rfl
      refine q_cl z_19 ez_19 ?_
      clear ez_19
      refine lv_iload hx hb dX12_goesPairs_114 (lv_at hl 6 rfl) ?_
      refine q_callSi (rest := []) (wr := (wk_f147cc4b8 cy h0 p3 h1 w0 w1 w2 p4 p5 p6 p7 p8 p9 p10 p11 p12 p13 p14 w3 w4 w5 h2 w6 p15 p16 w7 h3 h4 v92_11_1 v92_11_2 w8 w9 w10 w11 w12 p19 w13 w14 w15 h1 f0 h2 f1 h3 v92_11_3 h4 v92_11_4)) X hK hT hA h (fun sz => gX12_isIn_b0455a8 l D cy z_19 v92_11_0 ⟨by omega, by omega⟩ ⟨by omega, by omega⟩ sz) wm_6_167 wm_6_169 wm_1_12 hd_X12_isIn wm_6_168 ⟨Nat.le_of_ble_eq_true rfl, Nat.le_of_ble_eq_true rfl⟩ hl.1 rfl (Nat.le_of_ble_eq_true rfl) dX12_goesPairs_116 ⟨Nat.le_of_ble_eq_true rfl, Nat.le_of_ble_eq_true rfl⟩ [] [0, 1, 2, 3, 4] rfl rfl (by decide) rfl rfl (fun r_20 u_20 H locs w_20 h_20 => ?_)
      clear h
      obtain ⟨wr_20, _⟩ := w_20
      replace h_20 : qW D _ _ (wk_f147cc4b8 cy h0 p3 h1 w0 w1 w2 p4 p5 p6 p7 p8 p9 p10 p11 p12 p13 p14 w3 w4 w5 h2 w6 p15 p16 w7 h3 h4 v92_11_1 v92_11_2 w8 w9 w10 w11 w12 p19 w13 w14 w15 h1 f0 h2 f1 h3 v92_11_3 h4 v92_11_4) _ _ := h_20
      refine q_jn (pc2 := 190) (fun H locs ls st => ∃ v190_21_0 : Int32, ∃ v190_21_1 : Int32, ∃ v190_21_2 : Nat → Int32, ∃ v190_21_3 : Nat → Int32, ((-1) ≤ (v190_21_0).toInt ∧ (v190_21_0).toInt ≤ 10) ∧ ((-2147483648) ≤ (v190_21_1).toInt ∧ (v190_21_1).toInt ≤ 2147483647) ∧ st = [] ∧ qW D (va_A (wk_f147cc4b8 cy h0 p3 h1 w0 w1 w2 p4 p5 p6 p7 p8 p9 p10 p11 p12 p13 p14 w3 w4 w5 h2 w6 p15 p16 w7 h3 h4 p17 p18 w8 w9 w10 w11 w12 p19 w13 w14 w15 h1 f0 h2 f1 h3 f2 h4 f3) sz) s.heap (wk_f147cc4b8 cy h0 p3 h1 w0 w1 w2 p4 p5 p6 p7 p8 p9 p10 p11 p12 p13 p14 w3 w4 w5 h2 w6 p15 p16 w7 h3 h4 v190_21_0 v190_21_1 w8 w9 w10 w11 w12 p19 w13 w14 w15 h1 f0 h2 f1 h3 v190_21_2 h4 v190_21_3) H locs ∧ lv_has ls 7 [(0, .ref h0), (1, .int p0), (2, .int p1), (3, .int p2), (4, .int r_2), (5, .int z_6), (6, .int v92_11_0)]) (fun H locs ls st hP => ?_) (fun J_190 => ?_)
      · obtain ⟨v190_21_0, v190_21_1, v190_21_2, v190_21_3, hv190_21_0, hv190_21_1, rfl, h, hl⟩ := hP
        obtain ⟨z_22, ez_22, hz_22⟩ := e_add (x := v92_11_0) (y := Int32.ofInt 1) rfl (b := 1) (by decide) (by omega) (by omega)
        refine lv_iinc (v := z_22) (lv' := [(6, .int z_22), (0, .ref h0), (1, .int p0), (2, .int p1), (3, .int p2), (4, .int r_2), (5, .int z_6)]) hx hb dX12_goesPairs_190 hl (k := 6) rfl ez_22 (by decide) rfl (fun ls_22 hl_22 => ?_)
        clear hl
        refine lv_goto (tgt := 92) hx hb dX12_goesPairs_193 (by decide) ?_
        exact ih_92 (z_22, v190_21_0, v190_21_1) (by show (11 - (z_22).toInt).toNat < (11 - (v92_11_0).toInt).toNat; omega) _ _ _ ⟨v190_21_2, v190_21_3, ⟨by omega, by omega⟩, hv190_21_0, hv190_21_1, h, (lv_sub hl_22 [1, 2, 3, 4, 5, 6, 0] rfl)⟩
      · skip
        refine lv_if_ne (tgt := 125) hx hb dX12_goesPairs_119 (by decide) (fun c_23 => ?_) (fun c_23 => ?_)
        · replace c_23 := i_ne (x := r_20) (y := 0) rfl (show (0 : Int32).toInt = 0 by decide) c_23
          refine lv_aload_n hx hb dX12_goesPairs_125 rfl (lv_at hl 0 rfl) ?_
          refine q_get X hK h_20 0 rfl rfl wf_12 24 (by decide) rfl wm_5_194 dX12_goesPairs_126 ?_
          refine lv_iload hx hb dX12_goesPairs_129 (lv_at hl 4 rfl) ?_
          refine lv_iload hx hb dX12_goesPairs_131 (lv_at hl 6 rfl) ?_
          refine q_iast X hK h_20 3 rfl (i_in rfl (by omega) (by omega)) dX12_goesPairs_133 (fun H locs h_25 => ?_)
          clear h_20
          replace h_25 : qW D _ _ (wk_f147cc4b8 cy h0 p3 h1 w0 w1 w2 p4 p5 p6 p7 p8 p9 p10 p11 p12 p13 p14 w3 w4 w5 h2 w6 p15 p16 w7 h3 h4 v92_11_1 v92_11_2 w8 w9 w10 w11 w12 p19 w13 w14 w15 h1 f0 h2 f1 h3 (upd v92_11_3 (Int32.toNatClampNeg r_2) v92_11_0) h4 v92_11_4) _ _ := h_25
          obtain ⟨F_24, eF_24⟩ : ∃ z, (upd v92_11_3 (Int32.toNatClampNeg r_2) v92_11_0) = z := ⟨_, rfl⟩
          rw [eF_24] at h_25
          clear eF_24
          refine lv_aload_n hx hb dX12_goesPairs_134 rfl (lv_at hl 0 rfl) ?_
          refine q_get X hK h_25 0 rfl rfl wf_12 24 (by decide) rfl wm_5_194 dX12_goesPairs_135 ?_
          refine lv_iload hx hb dX12_goesPairs_138 (lv_at hl 6 rfl) ?_
          refine lv_iload hx hb dX12_goesPairs_140 (lv_at hl 4 rfl) ?_
          refine q_iast X hK h_25 3 rfl (i_in rfl (by omega) (by omega)) dX12_goesPairs_142 (fun H locs h_27 => ?_)
          clear h_25
          replace h_27 : qW D _ _ (wk_f147cc4b8 cy h0 p3 h1 w0 w1 w2 p4 p5 p6 p7 p8 p9 p10 p11 p12 p13 p14 w3 w4 w5 h2 w6 p15 p16 w7 h3 h4 v92_11_1 v92_11_2 w8 w9 w10 w11 w12 p19 w13 w14 w15 h1 f0 h2 f1 h3 (upd F_24 (Int32.toNatClampNeg v92_11_0) r_2) h4 v92_11_4) _ _ := h_27
          obtain ⟨F_26, eF_26⟩ : ∃ z, (upd F_24 (Int32.toNatClampNeg v92_11_0) r_2) = z := ⟨_, rfl⟩
          rw [eF_26] at h_27
          clear eF_26
          refine lv_aload_n hx hb dX12_goesPairs_143 rfl (lv_at hl 0 rfl) ?_
          refine lv_iload hx hb dX12_goesPairs_144 (lv_at hl 5 rfl) ?_
          refine lv_iconst (v := 1) hx hb dX12_goesPairs_146 (by decide) ?_
          refine lv_iload hx hb dX12_goesPairs_147 (lv_at hl 6 rfl) ?_
          refine lv_ishl hx hb dX12_goesPairs_149 ?_
          obtain ⟨z_28, ez_28, hz_28⟩ := e_shlk (p := v92_11_0) 9 (by decide) rfl (by omega) (by omega)
          refine q_c z_28 ez_28 ?_
          clear ez_28
          refine lv_iconst (v := (-1)) hx hb dX12_goesPairs_150 (by decide) ?_
          refine lv_ixor hx hb dX12_goesPairs_151 ?_
          refine q_any (fun z_29 hz_29 => ?_)
          refine lv_iand hx hb dX12_goesPairs_152 ?_
          obtain ⟨z_30, ez_30, hz_30⟩ := e_and1 (x := z_6) (y := z_29) rfl (by omega)
          refine q_c z_30 ez_30 ?_
          have ad_31 := and_div 2 (by omega) rs_7.1 ez_30
          refine lv_iload_n hx hb dX12_goesPairs_153 rfl (lv_at hl 2 rfl) ?_
          refine lv_iconst (v := 1) hx hb dX12_goesPairs_154 (by decide) ?_
          refine lv_iadd hx hb dX12_goesPairs_155 ?_
          obtain ⟨z_32, ez_32, hz_32⟩ := e_add (x := p1) (y := 1) rfl (show (1 : Int32).toInt = 1 by decide) (by omega) (by omega)
          refine q_c z_32 ez_32 ?_
          clear ez_32
          refine lv_iload_n hx hb dX12_goesPairs_156 rfl (lv_at hl 3 rfl) ?_
          refine lv_aload_n hx hb dX12_goesPairs_157 rfl (lv_at hl 0 rfl) ?_
          refine q_get X hK h_27 0 rfl rfl wf_12 1 (by decide) rfl wm_5_171 dX12_goesPairs_158 ?_
          refine lv_bipush (v := 42) hx hb dX12_goesPairs_161 (by decide) ?_
          refine lv_iload hx hb dX12_goesPairs_163 (lv_at hl 4 rfl) ?_
          refine lv_iadd hx hb dX12_goesPairs_165 ?_
          obtain ⟨z_33, ez_33, hz_33⟩ := e_add (x := 42) (y := r_2) (show (42 : Int32).toInt = 42 by decide) rfl (by omega) (by omega)
          refine q_c z_33 ez_33 ?_
          clear ez_33
          refine q_iald X hK h_27 1 rfl (i_in rfl (by omega) (by omega)) dX12_goesPairs_166 ?_
          refine q_any (fun z_34 hz_34 => ?_)
          refine lv_iadd hx hb dX12_goesPairs_167 ?_
          refine q_any (fun z_35 hz_35 => ?_)
          refine lv_aload_n hx hb dX12_goesPairs_168 rfl (lv_at hl 0 rfl) ?_
          refine q_get X hK h_27 0 rfl rfl wf_12 1 (by decide) rfl wm_5_171 dX12_goesPairs_169 ?_
          refine lv_bipush (v := 42) hx hb dX12_goesPairs_172 (by decide) ?_
          refine lv_iload hx hb dX12_goesPairs_174 (lv_at hl 6 rfl) ?_
          refine lv_iadd hx hb dX12_goesPairs_176 ?_
          obtain ⟨z_36, ez_36, hz_36⟩ := e_add (x := 42) (y := v92_11_0) (show (42 : Int32).toInt = 42 by decide) rfl (by omega) (by omega)
          refine q_c z_36 ez_36 ?_
          clear ez_36
          refine q_iald X hK h_27 1 rfl (i_in rfl (by omega) (by omega)) dX12_goesPairs_177 ?_
          refine q_any (fun z_37 hz_37 => ?_)
          refine lv_iadd hx hb dX12_goesPairs_178 ?_
          refine q_any (fun z_38 hz_38 => ?_)
          refine q_callVv (rest := []) (wr := []) X hK hT hA h_27 (fun sz => gX12_goesPairs_524dcef l D cy h0 h1 h2 h3 h4 z_30 z_32 z_38 p3 w0 w1 w2 p4 p5 p6 p7 p8 p9 p10 p11 p12 p13 p14 w3 w4 w5 w6 p15 p16 w7 v92_11_1 v92_11_2 w8 w9 w10 w11 w12 p19 w13 w14 w15 f0 p20 f1 F_26 v92_11_4 ⟨by omega, by omega⟩ ⟨by omega, by omega⟩ (i_rng _) hp3 hp4 hp5 hp6 hp7 (i_rng _) hp9 (i_rng _) (i_rng _) (i_rng _) (i_rng _) (i_rng _) (i_rng _) (i_rng _) hv92_11_1 (i_rng _) (i_rng _) hp20 htf0_84 rf0 (rg_wide rf1 (by decide) (by decide)) ((show _ % 4 = 0 from ad_31)) sz) wm_7_116 wm_7_119 wm_1_12 hd_X12_goesPairs wm_7_118 wp_7_4 (ci := 12) (q0 := 0) rfl rfl ⟨Nat.le_of_ble_eq_true rfl, Nat.le_of_ble_eq_true rfl⟩ hl.1 rfl (Nat.le_of_ble_eq_true rfl) dX12_goesPairs_179 ⟨Nat.le_of_ble_eq_true rfl, Nat.le_of_ble_eq_true rfl⟩ [0, 1, 2, 3, 4] [] rfl rfl (by decide) rfl rfl (fun u_39 H locs w_39 h_39 => ?_)
          clear h_27
          obtain ⟨w39_0, w39_1, _⟩ := w_39
          replace h_39 : qW D _ _ (wk_f147cc4b8 cy h0 p3 h1 w0 w1 w2 p4 p5 p6 p7 p8 p9 p10 p11 p12 p13 p14 w3 w4 w5 h2 w6 p15 p16 w7 h3 h4 (u_39.2.1 0 0) (u_39.2.1 1 0) w8 w9 w10 w11 w12 p19 w13 w14 w15 h1 f0 h2 f1 h3 (u_39.2.1 2) h4 (u_39.2.1 3)) _ _ := h_39
          refine lv_aload_n hx hb dX12_goesPairs_182 rfl (lv_at hl 0 rfl) ?_
          refine q_get X hK h_39 0 rfl rfl wf_12 24 (by decide) rfl wm_5_194 dX12_goesPairs_183 ?_
          refine lv_iload hx hb dX12_goesPairs_186 (lv_at hl 6 rfl) ?_
          refine lv_iconst (v := (-1)) hx hb dX12_goesPairs_188 (by decide) ?_
          refine q_iast X hK h_39 3 rfl (i_in rfl (by omega) (by omega)) dX12_goesPairs_189 (fun H locs h_41 => ?_)
          clear h_39
          replace h_41 : qW D _ _ (wk_f147cc4b8 cy h0 p3 h1 w0 w1 w2 p4 p5 p6 p7 p8 p9 p10 p11 p12 p13 p14 w3 w4 w5 h2 w6 p15 p16 w7 h3 h4 (u_39.2.1 0 0) (u_39.2.1 1 0) w8 w9 w10 w11 w12 p19 w13 w14 w15 h1 f0 h2 f1 h3 (upd (u_39.2.1 2) (Int32.toNatClampNeg v92_11_0) (-1)) h4 (u_39.2.1 3)) _ _ := h_41
          obtain ⟨F_40, eF_40⟩ : ∃ z, (upd (u_39.2.1 2) (Int32.toNatClampNeg v92_11_0) (-1)) = z := ⟨_, rfl⟩
          rw [eF_40] at h_41
          clear eF_40
          exact J_190 _ _ _ _ ⟨(u_39.2.1 0 0), (u_39.2.1 1 0), F_40, (u_39.2.1 3), w39_0, w39_1, rfl, h_41, (lv_sub hl [0, 1, 2, 3, 4, 5, 6] rfl)⟩
        · replace c_23 := i_eq (x := r_20) (y := 0) rfl (show (0 : Int32).toInt = 0 by decide) c_23
          refine lv_goto (tgt := 190) hx hb dX12_goesPairs_122 (by decide) ?_
          exact J_190 _ _ _ _ ⟨v92_11_1, v92_11_2, v92_11_3, v92_11_4, hv92_11_1, hv92_11_2, rfl, h_20, (lv_sub hl [0, 1, 2, 3, 4, 5, 6] rfl)⟩
  · replace c_1 := i_eq (x := p0) (y := 0) rfl (show (0 : Int32).toInt = 0 by decide) c_1
    refine lv_iload_n hx hb dX12_goesPairs_4 rfl (lv_at hl 2 rfl) ?_
    refine lv_aload_n hx hb dX12_goesPairs_5 rfl (lv_at hl 0 rfl) ?_
    refine q_get X hK h 0 rfl rfl wf_12 26 (by decide) rfl wm_5_196 dX12_goesPairs_6 ?_
    refine q_jn (pc2 := 28) (fun H locs ls st => st = [] ∧ qW D (va_A (wk_f147cc4b8 cy h0 p3 h1 w0 w1 w2 p4 p5 p6 p7 p8 p9 p10 p11 p12 p13 p14 w3 w4 w5 h2 w6 p15 p16 w7 h3 h4 p17 p18 w8 w9 w10 w11 w12 p19 w13 w14 w15 h1 f0 h2 f1 h3 f2 h4 f3) sz) s.heap (wk_f147cc4b8 cy h0 p3 h1 w0 w1 w2 p4 p5 p6 p7 p8 p9 p10 p11 p12 p13 p14 w3 w4 w5 h2 w6 p15 p16 w7 h3 h4 p17 p18 w8 w9 w10 w11 w12 p19 w13 w14 w15 h1 f0 h2 f1 h3 f2 h4 f3) H locs ∧ lv_has ls 7 [(0, .ref h0), (1, .int p0), (2, .int p1), (3, .int p2)]) (fun H locs ls st hP => ?_) (fun J_28 => ?_)
    · obtain ⟨rfl, h, hl⟩ := hP
      exact q_vret X hr hlk hK h (fun _ => 0, (vcons (fun _ => p17) (vcons (fun _ => p18) (vcons f2 (vcons f3 (fun _ => (fun _ => 0)))))), fun _ _ => 0) ⟨hp17, hp18, trivial⟩ [0, 1, 2, 3, 4] rfl rfl dX12_goesPairs_28 (Nat.le_of_ble_eq_true rfl) (Nat.le_of_ble_eq_true rfl)
    · skip
      refine lv_icmp_lt (tgt := 28) hx hb dX12_goesPairs_9 (by decide) (fun c_43 => ?_) (fun c_43 => ?_)
      · replace c_43 := i_lt (x := p1) (y := p17) rfl rfl c_43
        exact J_28 _ _ _ _ ⟨rfl, h, (lv_sub hl [0, 1, 2, 3] rfl)⟩
      · replace c_43 := i_nlt (x := p1) (y := p17) rfl rfl c_43
        refine lv_iload_n hx hb dX12_goesPairs_12 rfl (lv_at hl 2 rfl) ?_
        refine lv_aload_n hx hb dX12_goesPairs_13 rfl (lv_at hl 0 rfl) ?_
        refine q_get X hK h 0 rfl rfl wf_12 26 (by decide) rfl wm_5_196 dX12_goesPairs_14 ?_
        refine q_jn (pc2 := 29) (fun H locs ls st => st = [] ∧ qW D (va_A (wk_f147cc4b8 cy h0 p3 h1 w0 w1 w2 p4 p5 p6 p7 p8 p9 p10 p11 p12 p13 p14 w3 w4 w5 h2 w6 p15 p16 w7 h3 h4 p17 p18 w8 w9 w10 w11 w12 p19 w13 w14 w15 h1 f0 h2 f1 h3 f2 h4 f3) sz) s.heap (wk_f147cc4b8 cy h0 p3 h1 w0 w1 w2 p4 p5 p6 p7 p8 p9 p10 p11 p12 p13 p14 w3 w4 w5 h2 w6 p15 p16 w7 h3 h4 p17 p18 w8 w9 w10 w11 w12 p19 w13 w14 w15 h1 f0 h2 f1 h3 f2 h4 f3) H locs ∧ lv_has ls 7 [(0, .ref h0), (1, .int p0), (2, .int p1), (3, .int p2)]) (fun H locs ls st hP => ?_) (fun J_29 => ?_)
        · obtain ⟨rfl, h, hl⟩ := hP
          refine lv_aload_n hx hb dX12_goesPairs_29 rfl (lv_at hl 0 rfl) ?_
          refine lv_iload_n hx hb dX12_goesPairs_30 rfl (lv_at hl 2 rfl) ?_
          refine q_put (v := .int p1) X hK h 0 rfl rfl wf_12 tyX12 tyX12_ok nmX12 26 (by decide) wm_5_196 rfl rfl rfl (Nat.le_of_ble_eq_true rfl) dX12_goesPairs_31 (fun H locs h_45 => ?_)
          clear h
          replace h_45 : qW D _ _ (wk_f147cc4b8 cy h0 p3 h1 w0 w1 w2 p4 p5 p6 p7 p8 p9 p10 p11 p12 p13 p14 w3 w4 w5 h2 w6 p15 p16 w7 h3 h4 p1 p18 w8 w9 w10 w11 w12 p19 w13 w14 w15 h1 f0 h2 f1 h3 f2 h4 f3) _ _ := h_45
          refine lv_aload_n hx hb dX12_goesPairs_34 rfl (lv_at hl 0 rfl) ?_
          refine lv_iload_n hx hb dX12_goesPairs_35 rfl (lv_at hl 3 rfl) ?_
          refine q_put (v := .int p2) X hK h_45 0 rfl rfl wf_12 tyX12 tyX12_ok nmX12 27 (by decide) wm_5_197 rfl rfl rfl (Nat.le_of_ble_eq_true rfl) dX12_goesPairs_36 (fun H locs h_46 => ?_)
          clear h_45
          replace h_46 : qW D _ _ (wk_f147cc4b8 cy h0 p3 h1 w0 w1 w2 p4 p5 p6 p7 p8 p9 p10 p11 p12 p13 p14 w3 w4 w5 h2 w6 p15 p16 w7 h3 h4 p1 p2 w8 w9 w10 w11 w12 p19 w13 w14 w15 h1 f0 h2 f1 h3 f2 h4 f3) _ _ := h_46
          refine lv_iconst (v := 0) hx hb dX12_goesPairs_39 (by decide) ?_
          refine lv_istore (lv' := [(4, .int 0), (0, .ref h0), (1, .int p0), (2, .int p1), (3, .int p2)]) hx hb dX12_goesPairs_40 hl (by decide) rfl (fun ls_47 hl_47 => ?_)
          clear hl
          refine q_wl (fun (v42_48_0 : Int32) H locs ls => ∃ v42_48_1 : Nat → Int32, (0 ≤ (v42_48_0).toInt ∧ (v42_48_0).toInt ≤ 10) ∧ qW D (va_A (wk_f147cc4b8 cy h0 p3 h1 w0 w1 w2 p4 p5 p6 p7 p8 p9 p10 p11 p12 p13 p14 w3 w4 w5 h2 w6 p15 p16 w7 h3 h4 p17 p18 w8 w9 w10 w11 w12 p19 w13 w14 w15 h1 f0 h2 f1 h3 f2 h4 f3) sz) s.heap (wk_f147cc4b8 cy h0 p3 h1 w0 w1 w2 p4 p5 p6 p7 p8 p9 p10 p11 p12 p13 p14 w3 w4 w5 h2 w6 p15 p16 w7 h3 h4 p1 p2 w8 w9 w10 w11 w12 p19 w13 w14 w15 h1 f0 h2 f1 h3 f2 h4 v42_48_1) H locs ∧ lv_has ls 7 [(0, .ref h0), (1, .int p0), (2, .int p1), (3, .int p2), (4, .int v42_48_0)]) (fun (v42_48_0 : Int32) => (11 - (v42_48_0).toInt).toNat) (fun q_42 ih_42 H locs ls hP => ?_) 0 ⟨f3, ⟨by decide +kernel, by decide +kernel⟩, h_46, (lv_sub hl_47 [1, 2, 3, 4, 0] rfl)⟩
          obtain ⟨v42_48_0, rfl⟩ : ∃ z, z = q_42 := ⟨_, rfl⟩
          obtain ⟨v42_48_1, hv42_48_0, h, hl⟩ := hP
          refine lv_iload hx hb dX12_goesPairs_42 (lv_at hl 4 rfl) ?_
          refine lv_bipush (v := 10) hx hb dX12_goesPairs_44 (by decide) ?_
          refine lv_icmp_ge (tgt := 69) hx hb dX12_goesPairs_46 (by decide) (fun c_49 => ?_) (fun c_49 => ?_)
          · replace c_49 := i_le (x := 10) (y := v42_48_0) (show (10 : Int32).toInt = 10 by decide) rfl c_49
            exact q_vret X hr hlk hK h (fun _ => 0, (vcons (fun _ => p1) (vcons (fun _ => p2) (vcons f2 (vcons v42_48_1 (fun _ => (fun _ => 0)))))), fun _ _ => 0) ⟨(bw hp1 (by decide) (by decide)), hp2, trivial⟩ [0, 1, 2, 3, 4] rfl rfl dX12_goesPairs_69 (Nat.le_of_ble_eq_true rfl) (Nat.le_of_ble_eq_true rfl)
          · replace c_49 := i_nle (x := 10) (y := v42_48_0) (show (10 : Int32).toInt = 10 by decide) rfl c_49
            refine lv_aload_n hx hb dX12_goesPairs_49 rfl (lv_at hl 0 rfl) ?_
            refine q_get X hK h 0 rfl rfl wf_12 25 (by decide) rfl wm_5_195 dX12_goesPairs_50 ?_
            refine lv_iload hx hb dX12_goesPairs_53 (lv_at hl 4 rfl) ?_
            refine lv_aload_n hx hb dX12_goesPairs_55 rfl (lv_at hl 0 rfl) ?_
            refine q_get X hK h 0 rfl rfl wf_12 24 (by decide) rfl wm_5_194 dX12_goesPairs_56 ?_
            refine lv_iload hx hb dX12_goesPairs_59 (lv_at hl 4 rfl) ?_
            refine q_iald X hK h 3 rfl (i_in rfl (by omega) (by omega)) dX12_goesPairs_61 ?_
            refine q_any (fun z_50 hz_50 => ?_)
            refine q_iast X hK h 4 rfl (i_in rfl (by omega) (by omega)) dX12_goesPairs_62 (fun H locs h_52 => ?_)
            clear h
            replace h_52 : qW D _ _ (wk_f147cc4b8 cy h0 p3 h1 w0 w1 w2 p4 p5 p6 p7 p8 p9 p10 p11 p12 p13 p14 w3 w4 w5 h2 w6 p15 p16 w7 h3 h4 p1 p2 w8 w9 w10 w11 w12 p19 w13 w14 w15 h1 f0 h2 f1 h3 f2 h4 (upd v42_48_1 (Int32.toNatClampNeg v42_48_0) z_50)) _ _ := h_52
            obtain ⟨F_51, eF_51⟩ : ∃ z, (upd v42_48_1 (Int32.toNatClampNeg v42_48_0) z_50) = z := ⟨_, rfl⟩
            rw [eF_51] at h_52
            clear eF_51
            obtain ⟨z_53, ez_53, hz_53⟩ := e_add (x := v42_48_0) (y := Int32.ofInt 1) rfl (b := 1) (by decide) (by omega) (by omega)
            refine lv_iinc (v := z_53) (lv' := [(4, .int z_53), (0, .ref h0), (1, .int p0), (2, .int p1), (3, .int p2)]) hx hb dX12_goesPairs_63 hl (k := 4) rfl ez_53 (by decide) rfl (fun ls_53 hl_53 => ?_)
            clear hl
            refine lv_goto (tgt := 42) hx hb dX12_goesPairs_66 (by decide) ?_
            exact ih_42 z_53 (by show (11 - (z_53).toInt).toNat < (11 - (v42_48_0).toInt).toNat; omega) _ _ _ ⟨F_51, ⟨by omega, by omega⟩, h_52, (lv_sub hl_53 [1, 2, 3, 4, 0] rfl)⟩
        · skip
          refine lv_icmp_ne (tgt := 29) hx hb dX12_goesPairs_17 (by decide) (fun c_54 => ?_) (fun c_54 => ?_)
          · replace c_54 := i_ne (x := p1) (y := p17) rfl rfl c_54
            exact J_29 _ _ _ _ ⟨rfl, h, (lv_sub hl [0, 1, 2, 3] rfl)⟩
          · replace c_54 := i_eq (x := p1) (y := p17) rfl rfl c_54
            refine lv_iload_n hx hb dX12_goesPairs_20 rfl (lv_at hl 3 rfl) ?_
            refine lv_aload_n hx hb dX12_goesPairs_21 rfl (lv_at hl 0 rfl) ?_
            refine q_get X hK h 0 rfl rfl wf_12 27 (by decide) rfl wm_5_197 dX12_goesPairs_22 ?_
            refine lv_icmp_gt (tgt := 29) hx hb dX12_goesPairs_25 (by decide) (fun c_55 => ?_) (fun c_55 => ?_)
            · replace c_55 := i_lt (x := p18) (y := p2) rfl rfl c_55
              exact J_29 _ _ _ _ ⟨rfl, h, (lv_sub hl [0, 1, 2, 3] rfl)⟩
            · replace c_55 := i_nlt (x := p18) (y := p2) rfl rfl c_55
              exact J_28 _ _ _ _ ⟨rfl, h, (lv_sub hl [0, 1, 2, 3] rfl)⟩
set_option maxHeartbeats 4000000 in
set_option maxRecDepth 100000 in
theorem gX12_goesPairs_7cb8c5d (l : Launch) (D : va_G) (cy : Nat → ClassId) (h0 : Nat) (h1 : Nat) (h2 : Nat) (h3 : Nat) (h4 : Nat) (p0 : Int32) (p1 : Int32) (p2 : Int32) (p3 : Int32) (w0 : Value) (w1 : Value) (w2 : Value) (p4 : Int32) (p5 : Int32) (p6 : Int32) (p7 : Int32) (p8 : Int32) (p9 : Int32) (p10 : Int32) (p11 : Int32) (p12 : Int32) (p13 : Int32) (p14 : Int32) (w3 : Value) (w4 : Value) (w5 : Value) (w6 : Value) (p15 : Int32) (p16 : Int32) (w7 : Value) (p17 : Int32) (p18 : Int32) (w8 : Value) (w9 : Value) (w10 : Value) (w11 : Value) (w12 : Value) (p19 : Int32) (w13 : Value) (w14 : Value) (w15 : Value) (f0 : Nat → Int32) (p20 : Int32) (f1 : Nat → Int32) (f2 : Nat → Int32) (f3 : Nat → Int32) (hp0 : 0 ≤ (p0).toInt ∧ (p0).toInt ≤ 1023) (hp1 : 0 ≤ (p1).toInt ∧ (p1).toInt ≤ 0) (hp2 : 0 ≤ (p2).toInt ∧ (p2).toInt ≤ 0) (hp3 : 0 ≤ (p3).toInt ∧ (p3).toInt ≤ 0) (hp4 : 0 ≤ (p4).toInt ∧ (p4).toInt ≤ 900) (hp5 : 0 ≤ (p5).toInt ∧ (p5).toInt ≤ 900) (hp6 : 0 ≤ (p6).toInt ∧ (p6).toInt ≤ 900) (hp7 : 0 ≤ (p7).toInt ∧ (p7).toInt ≤ 900) (hp8 : (-2147483648) ≤ (p8).toInt ∧ (p8).toInt ≤ 2147483647) (hp9 : 0 ≤ (p9).toInt ∧ (p9).toInt ≤ 999) (hp10 : (-2147483648) ≤ (p10).toInt ∧ (p10).toInt ≤ 2147483647) (hp11 : (-2147483648) ≤ (p11).toInt ∧ (p11).toInt ≤ 2147483647) (hp12 : (-2147483648) ≤ (p12).toInt ∧ (p12).toInt ≤ 2147483647) (hp13 : (-2147483648) ≤ (p13).toInt ∧ (p13).toInt ≤ 2147483647) (hp14 : (-2147483648) ≤ (p14).toInt ∧ (p14).toInt ≤ 2147483647) (hp15 : (-2147483648) ≤ (p15).toInt ∧ (p15).toInt ≤ 2147483647) (hp16 : (-2147483648) ≤ (p16).toInt ∧ (p16).toInt ≤ 2147483647) (hp17 : (-1) ≤ (p17).toInt ∧ (p17).toInt ≤ (-1)) (hp18 : (-1) ≤ (p18).toInt ∧ (p18).toInt ≤ (-1)) (hp19 : (-2147483648) ≤ (p19).toInt ∧ (p19).toInt ≤ 2147483647) (hp20 : 0 ≤ (p20).toInt ∧ (p20).toInt ≤ 10) (htf0_84 : f0 84 = p20) (rf0 : AL f0) (rf1 : RG f1 10 0 1023) (hpre0 : (p0 : Int32).toInt % 1 = 0) (sz : Nat) : MV l yX12_goesPairs cX12_goesPairs 7 { frames := 11, cells := 0, slots := 0, locals := 277 } [.ref h0, .int p0, .int p1, .int p2] D cy (wk_f147cc4b8 cy h0 p3 h1 w0 w1 w2 p4 p5 p6 p7 p8 p9 p10 p11 p12 p13 p14 w3 w4 w5 h2 w6 p15 p16 w7 h3 h4 p17 p18 w8 w9 w10 w11 w12 p19 w13 w14 w15 h1 f0 h2 f1 h3 f2 h4 f3) sz (fun u => ((-1) ≤ (u.2.1 0 0).toInt ∧ (u.2.1 0 0).toInt ≤ 10) ∧ ((-2147483648) ≤ (u.2.1 1 0).toInt ∧ (u.2.1 1 0).toInt ≤ 2147483647) ∧ True) (fun u => (wk_f147cc4b8 cy h0 p3 h1 w0 w1 w2 p4 p5 p6 p7 p8 p9 p10 p11 p12 p13 p14 w3 w4 w5 h2 w6 p15 p16 w7 h3 h4 (u.2.1 0 0) (u.2.1 1 0) w8 w9 w10 w11 w12 p19 w13 w14 w15 h1 f0 h2 f1 h3 (u.2.1 2) h4 (u.2.1 3))) 0 0 := by
  refine q_ent (own := RX12) (by decide) rfl (Nat.le_of_ble_eq_true rfl) (fun p e s m below meth c ls X hr hlk hnm hK hT h hA hl => ?_)
  obtain ⟨hx, hb, hml, hown, ht⟩ := id X
  replace hl : lv_has ls 7 [(0, .ref h0), (1, .int p0), (2, .int p1), (3, .int p2)] := hl
  refine lv_iload_n hx hb dX12_goesPairs_0 rfl (lv_at hl 1 rfl) ?_
  refine lv_if_ne (tgt := 70) hx hb dX12_goesPairs_1 (by decide) (fun c_1 => ?_) (fun c_1 => ?_)
  · replace c_1 := i_ne (x := p0) (y := 0) rfl (show (0 : Int32).toInt = 0 by decide) c_1
    refine lv_iload_n hx hb dX12_goesPairs_70 rfl (lv_at hl 1 rfl) ?_
    refine q_callSi (rest := []) (wr := (wk_f147cc4b8 cy h0 p3 h1 w0 w1 w2 p4 p5 p6 p7 p8 p9 p10 p11 p12 p13 p14 w3 w4 w5 h2 w6 p15 p16 w7 h3 h4 p17 p18 w8 w9 w10 w11 w12 p19 w13 w14 w15 h1 f0 h2 f1 h3 f2 h4 f3)) X hK hT hA h (fun sz => gX12_lowest_51df8cb l D cy p0 ⟨by omega, by omega⟩ sz) wm_7_67 wm_7_69 wm_1_12 hd_X12_lowest wm_7_68 ⟨Nat.le_of_ble_eq_true rfl, Nat.le_of_ble_eq_true rfl⟩ hl.1 rfl (Nat.le_of_ble_eq_true rfl) dX12_goesPairs_71 ⟨Nat.le_of_ble_eq_true rfl, Nat.le_of_ble_eq_true rfl⟩ [] [0, 1, 2, 3, 4] rfl rfl (by decide) rfl rfl (fun r_2 u_2 H locs w_2 h_2 => ?_)
    clear h
    obtain ⟨wr_2, y2_0, _⟩ := w_2
    replace h_2 : qW D _ _ (wk_f147cc4b8 cy h0 p3 h1 w0 w1 w2 p4 p5 p6 p7 p8 p9 p10 p11 p12 p13 p14 w3 w4 w5 h2 w6 p15 p16 w7 h3 h4 p17 p18 w8 w9 w10 w11 w12 p19 w13 w14 w15 h1 f0 h2 f1 h3 f2 h4 f3) _ _ := h_2
    refine lv_istore (lv' := [(4, .int r_2), (0, .ref h0), (1, .int p0), (2, .int p1), (3, .int p2)]) hx hb dX12_goesPairs_74 hl (by decide) rfl (fun ls_3 hl_3 => ?_)
    clear hl
    refine lv_iload_n hx hb dX12_goesPairs_76 rfl (lv_at hl_3 2 rfl) ?_
    refine lv_iconst (v := 1) hx hb dX12_goesPairs_77 (by decide) ?_
    refine lv_iload hx hb dX12_goesPairs_78 (lv_at hl_3 0 rfl) ?_
    refine lv_ishl hx hb dX12_goesPairs_80 ?_
    obtain ⟨z_4, ez_4, hz_4⟩ := e_shlk (p := r_2) 9 (by decide) rfl (by omega) (by omega)
    refine q_c z_4 ez_4 ?_
    refine lv_iconst (v := (-1)) hx hb dX12_goesPairs_81 (by decide) ?_
    refine lv_ixor hx hb dX12_goesPairs_82 ?_
    obtain ⟨z_5, ez_5, hz_5⟩ := e_any (z_4 ^^^ (-1))
    refine q_c z_5 ez_5 ?_
    refine lv_iand hx hb dX12_goesPairs_83 ?_
    obtain ⟨z_6, ez_6, hz_6⟩ := e_and1 (x := p0) (y := z_5) rfl (by omega)
    refine q_c z_6 ez_6 ?_
    have rs_7 := rest_low 0 (by omega) y2_0 (by omega) ez_4 ez_5 ez_6
    refine lv_istore (lv' := [(5, .int z_6), (4, .int r_2), (0, .ref h0), (1, .int p0), (2, .int p1), (3, .int p2)]) hx hb dX12_goesPairs_84 hl_3 (by decide) rfl (fun ls_8 hl_8 => ?_)
    clear hl_3
    refine lv_iload hx hb dX12_goesPairs_86 (lv_at hl_8 1 rfl) ?_
    refine lv_iconst (v := 1) hx hb dX12_goesPairs_88 (by decide) ?_
    refine lv_iadd hx hb dX12_goesPairs_89 ?_
    obtain ⟨z_9, ez_9, hz_9⟩ := e_add (x := r_2) (y := 1) rfl (show (1 : Int32).toInt = 1 by decide) (by omega) (by omega)
    refine q_c z_9 ez_9 ?_
    clear ez_9
    refine lv_istore (lv' := [(6, .int z_9), (5, .int z_6), (4, .int r_2), (0, .ref h0), (1, .int p0), (2, .int p1), (3, .int p2)]) hx hb dX12_goesPairs_90 hl_8 (by decide) rfl (fun ls_10 hl_10 => ?_)
    clear hl_8
    refine q_wl (fun (q : Int32 × Int32 × Int32) H locs ls => match q with | (v92_11_0, v92_11_1, v92_11_2) => ∃ v92_11_3 : Nat → Int32, ∃ v92_11_4 : Nat → Int32, (1 ≤ (v92_11_0).toInt ∧ (v92_11_0).toInt ≤ 10) ∧ ((-1) ≤ (v92_11_1).toInt ∧ (v92_11_1).toInt ≤ 10) ∧ ((-2147483648) ≤ (v92_11_2).toInt ∧ (v92_11_2).toInt ≤ 2147483647) ∧ qW D (va_A (wk_f147cc4b8 cy h0 p3 h1 w0 w1 w2 p4 p5 p6 p7 p8 p9 p10 p11 p12 p13 p14 w3 w4 w5 h2 w6 p15 p16 w7 h3 h4 p17 p18 w8 w9 w10 w11 w12 p19 w13 w14 w15 h1 f0 h2 f1 h3 f2 h4 f3) sz) s.heap (wk_f147cc4b8 cy h0 p3 h1 w0 w1 w2 p4 p5 p6 p7 p8 p9 p10 p11 p12 p13 p14 w3 w4 w5 h2 w6 p15 p16 w7 h3 h4 v92_11_1 v92_11_2 w8 w9 w10 w11 w12 p19 w13 w14 w15 h1 f0 h2 f1 h3 v92_11_3 h4 v92_11_4) H locs ∧ lv_has ls 7 [(0, .ref h0), (1, .int p0), (2, .int p1), (3, .int p2), (4, .int r_2), (5, .int z_6), (6, .int v92_11_0)]) (fun (q : Int32 × Int32 × Int32) => match q with | (v92_11_0, v92_11_1, v92_11_2) => (11 - (v92_11_0).toInt).toNat) (fun q_92 ih_92 H locs ls hP => ?_) (z_9, p17, p18) ⟨f2, f3, ⟨by omega, by omega⟩, (bw hp17 (by decide) (by decide)), (bw hp18 (by decide) (by decide)), h_2, (lv_sub hl_10 [3, 4, 5, 6, 2, 1, 0] rfl)⟩
    obtain ⟨v92_11_0, v92_11_1, v92_11_2⟩ := q_92
    obtain ⟨v92_11_3, v92_11_4, hv92_11_0, hv92_11_1, hv92_11_2, h, hl⟩ := hP
    refine lv_iload hx hb dX12_goesPairs_92 (lv_at hl 6 rfl) ?_
    refine lv_aload_n hx hb dX12_goesPairs_94 rfl (lv_at hl 0 rfl) ?_
    refine q_get X hK h 0 rfl rfl wf_12 1 (by decide) rfl wm_5_171 dX12_goesPairs_95 ?_
    refine lv_iconst (v := 2) hx hb dX12_goesPairs_98 (by decide) ?_
    refine q_iald X hK h 1 rfl (q_in (by decide +kernel)) dX12_goesPairs_99 ?_
    obtain ⟨z_12, ez_12, hz_12⟩ := al_P rf0 (x := 2) (show (2 : Int32).toInt = 2 by decide) (by omega) (by omega)
    refine q_c z_12 ez_12 ?_
    clear ez_12
    refine lv_icmp_ge (tgt := 196) hx hb dX12_goesPairs_100 (by decide) (fun c_13 => ?_) (fun c_13 => ?_)
    · replace c_13 := i_le (x := z_12) (y := v92_11_0) rfl rfl c_13
      refine lv_aload_n hx hb dX12_goesPairs_196 rfl (lv_at hl 0 rfl) ?_
      refine q_get X hK h 0 rfl rfl wf_12 24 (by decide) rfl wm_5_194 dX12_goesPairs_197 ?_
      refine lv_iload hx hb dX12_goesPairs_200 (lv_at hl 4 rfl) ?_
      refine lv_iconst (v := (-1)) hx hb dX12_goesPairs_202 (by decide) ?_
      refine q_iast X hK h 3 rfl (i_in rfl (by omega) (by omega)) dX12_goesPairs_203 (fun H locs h_15 => ?_)
      clear h
      replace h_15 : qW D _ _ (wk_f147cc4b8 cy h0 p3 h1 w0 w1 w2 p4 p5 p6 p7 p8 p9 p10 p11 p12 p13 p14 w3 w4 w5 h2 w6 p15 p16 w7 h3 h4 v92_11_1 v92_11_2 w8 w9 w10 w11 w12 p19 w13 w14 w15 h1 f0 h2 f1 h3 (upd v92_11_3 (Int32.toNatClampNeg r_2) (-1)) h4 v92_11_4) _ _ := h_15
      obtain ⟨F_14, eF_14⟩ : ∃ z, (upd v92_11_3 (Int32.toNatClampNeg r_2) (-1)) = z := ⟨_, rfl⟩
      rw [eF_14] at h_15
      clear eF_14
      refine lv_aload_n hx hb dX12_goesPairs_204 rfl (lv_at hl 0 rfl) ?_
      refine lv_iload hx hb dX12_goesPairs_205 (lv_at hl 5 rfl) ?_
      refine lv_iload_n hx hb dX12_goesPairs_207 rfl (lv_at hl 2 rfl) ?_
      refine lv_iload_n hx hb dX12_goesPairs_208 rfl (lv_at hl 3 rfl) ?_
      refine q_callVv (rest := []) (wr := []) X hK hT hA h_15 (fun sz => gX12_goesPairs_bfead1d l D cy h0 h1 h2 h3 h4 z_6 p1 p2 p3 w0 w1 w2 p4 p5 p6 p7 p8 p9 p10 p11 p12 p13 p14 w3 w4 w5 w6 p15 p16 w7 v92_11_1 v92_11_2 w8 w9 w10 w11 w12 p19 w13 w14 w15 f0 p20 f1 F_14 v92_11_4 ⟨by omega, by omega⟩ (bw hp1 (by decide) (by decide)) (i_rng _) hp3 hp4 hp5 hp6 hp7 (i_rng _) hp9 (i_rng _) (i_rng _) (i_rng _) (i_rng _) (i_rng _) (i_rng _) (i_rng _) hv92_11_1 (i_rng _) (i_rng _) hp20 htf0_84 rf0 (rg_wide rf1 (by decide) (by decide)) ((show _ % 2 = 0 from rs_7.1)) sz) wm_7_116 wm_7_119 wm_1_12 hd_X12_goesPairs wm_7_118 wp_7_4 (ci := 12) (q0 := 0) rfl rfl ⟨Nat.le_of_ble_eq_true rfl, Nat.le_of_ble_eq_true rfl⟩ hl.1 rfl (Nat.le_of_ble_eq_true rfl) dX12_goesPairs_209 ⟨Nat.le_of_ble_eq_true rfl, Nat.le_of_ble_eq_true rfl⟩ [0, 1, 2, 3, 4] [] rfl rfl (by decide) rfl rfl (fun u_16 H locs w_16 h_16 => ?_)
      clear h_15
      obtain ⟨w16_0, w16_1, _⟩ := w_16
      replace h_16 : qW D _ _ (wk_f147cc4b8 cy h0 p3 h1 w0 w1 w2 p4 p5 p6 p7 p8 p9 p10 p11 p12 p13 p14 w3 w4 w5 h2 w6 p15 p16 w7 h3 h4 (u_16.2.1 0 0) (u_16.2.1 1 0) w8 w9 w10 w11 w12 p19 w13 w14 w15 h1 f0 h2 f1 h3 (u_16.2.1 2) h4 (u_16.2.1 3)) _ _ := h_16
      exact q_vret X hr hlk hK h_16 (fun _ => 0, (vcons (fun _ => (u_16.2.1 0 0)) (vcons (fun _ => (u_16.2.1 1 0)) (vcons (u_16.2.1 2) (vcons (u_16.2.1 3) (fun _ => (fun _ => 0)))))), fun _ _ => 0) ⟨w16_0, w16_1, trivial⟩ [0, 1, 2, 3, 4] rfl rfl dX12_goesPairs_212 (Nat.le_of_ble_eq_true rfl) (Nat.le_of_ble_eq_true rfl)
    · replace c_13 := i_nle (x := z_12) (y := v92_11_0) rfl rfl c_13
      refine lv_iload hx hb dX12_goesPairs_103 (lv_at hl 5 rfl) ?_
      refine lv_aload_n hx hb dX12_goesPairs_105 rfl (lv_at hl 0 rfl) ?_
      refine q_get X hK h 0 rfl rfl wf_12 19 (by decide) rfl wm_5_189 dX12_goesPairs_106 ?_
      refine lv_iload hx hb dX12_goesPairs_109 (lv_at hl 4 rfl) ?_
      refine q_iald X hK h 2 rfl (i_in rfl (by omega) (by omega)) dX12_goesPairs_111 ?_
      obtain ⟨z_17, ez_17, hz_17⟩ := rg_get rf1 (x := r_2) rfl (by omega) (by omega)
      refine q_c z_17 ez_17 ?_
      clear ez_17
      refine lv_iand hx hb dX12_goesPairs_112 ?_
      obtain ⟨z_18, ez_18, hz_18⟩ := e_and2 (x := z_6) (y := z_17) rfl (by omega)
      refine q_c z_18 ez_18 ?_
      clear ez_18
      refine lv_i2l hx hb dX12_goesPairs_113 rfl ?_
      obtain ⟨z_19, ez_19, hz_19⟩ := e_i2l (x := z_18) rfl
      refine q_cl z_19 ez_19 ?_
      clear ez_19
      refine lv_iload hx hb dX12_goesPairs_114 (lv_at hl 6 rfl) ?_
      refine q_callSi (rest := []) (wr := (wk_f147cc4b8 cy h0 p3 h1 w0 w1 w2 p4 p5 p6 p7 p8 p9 p10 p11 p12 p13 p14 w3 w4 w5 h2 w6 p15 p16 w7 h3 h4 v92_11_1 v92_11_2 w8 w9 w10 w11 w12 p19 w13 w14 w15 h1 f0 h2 f1 h3 v92_11_3 h4 v92_11_4)) X hK hT hA h (fun sz => gX12_isIn_b0455a8 l D cy z_19 v92_11_0 ⟨by omega, by omega⟩ ⟨by omega, by omega⟩ sz) wm_6_167 wm_6_169 wm_1_12 hd_X12_isIn wm_6_168 ⟨Nat.le_of_ble_eq_true rfl, Nat.le_of_ble_eq_true rfl⟩ hl.1 rfl (Nat.le_of_ble_eq_true rfl) dX12_goesPairs_116 ⟨Nat.le_of_ble_eq_true rfl, Nat.le_of_ble_eq_true rfl⟩ [] [0, 1, 2, 3, 4] rfl rfl (by decide) rfl rfl (fun r_20 u_20 H locs w_20 h_20 => ?_)
      clear h
      obtain ⟨wr_20, _⟩ := w_20
      replace h_20 : qW D _ _ (wk_f147cc4b8 cy h0 p3 h1 w0 w1 w2 p4 p5 p6 p7 p8 p9 p10 p11 p12 p13 p14 w3 w4 w5 h2 w6 p15 p16 w7 h3 h4 v92_11_1 v92_11_2 w8 w9 w10 w11 w12 p19 w13 w14 w15 h1 f0 h2 f1 h3 v92_11_3 h4 v92_11_4) _ _ := h_20
      refine q_jn (pc2 := 190) (fun H locs ls st => ∃ v190_21_0 : Int32, ∃ v190_21_1 : Int32, ∃ v190_21_2 : Nat → Int32, ∃ v190_21_3 : Nat → Int32, ((-1) ≤ (v190_21_0).toInt ∧ (v190_21_0).toInt ≤ 10) ∧ ((-2147483648) ≤ (v190_21_1).toInt ∧ (v190_21_1).toInt ≤ 2147483647) ∧ st = [] ∧ qW D (va_A (wk_f147cc4b8 cy h0 p3 h1 w0 w1 w2 p4 p5 p6 p7 p8 p9 p10 p11 p12 p13 p14 w3 w4 w5 h2 w6 p15 p16 w7 h3 h4 p17 p18 w8 w9 w10 w11 w12 p19 w13 w14 w15 h1 f0 h2 f1 h3 f2 h4 f3) sz) s.heap (wk_f147cc4b8 cy h0 p3 h1 w0 w1 w2 p4 p5 p6 p7 p8 p9 p10 p11 p12 p13 p14 w3 w4 w5 h2 w6 p15 p16 w7 h3 h4 v190_21_0 v190_21_1 w8 w9 w10 w11 w12 p19 w13 w14 w15 h1 f0 h2 f1 h3 v190_21_2 h4 v190_21_3) H locs ∧ lv_has ls 7 [(0, .ref h0), (1, .int p0), (2, .int p1), (3, .int p2), (4, .int r_2), (5, .int z_6), (6, .int v92_11_0)]) (fun H locs ls st hP => ?_) (fun J_190 => ?_)
      · obtain ⟨v190_21_0, v190_21_1, v190_21_2, v190_21_3, hv190_21_0, hv190_21_1, rfl, h, hl⟩ := hP
        obtain ⟨z_22, ez_22, hz_22⟩ := e_add (x := v92_11_0) (y := Int32.ofInt 1) rfl (b := 1) (by decide) (by omega) (by omega)
        refine lv_iinc (v := z_22) (lv' := [(6, .int z_22), (0, .ref h0), (1, .int p0), (2, .int p1), (3, .int p2), (4, .int r_2), (5, .int z_6)]) hx hb dX12_goesPairs_190 hl (k := 6) rfl ez_22 (by decide) rfl (fun ls_22 hl_22 => ?_)
        clear hl
        refine lv_goto (tgt := 92) hx hb dX12_goesPairs_193 (by decide) ?_
        exact ih_92 (z_22, v190_21_0, v190_21_1) (by show (11 - (z_22).toInt).toNat < (11 - (v92_11_0).toInt).toNat; omega) _ _ _ ⟨v190_21_2, v190_21_3, ⟨by omega, by omega⟩, hv190_21_0, hv190_21_1, h, (lv_sub hl_22 [1, 2, 3, 4, 5, 6, 0] rfl)⟩
      · skip
        refine lv_if_ne (tgt := 125) hx hb dX12_goesPairs_119 (by decide) (fun c_23 => ?_) (fun c_23 => ?_)
        · replace c_23 := i_ne (x := r_20) (y := 0) rfl (show (0 : Int32).toInt = 0 by decide) c_23
          refine lv_aload_n hx hb dX12_goesPairs_125 rfl (lv_at hl 0 rfl) ?_
          refine q_get X hK h_20 0 rfl rfl wf_12 24 (by decide) rfl wm_5_194 dX12_goesPairs_126 ?_
          refine lv_iload hx hb dX12_goesPairs_129 (lv_at hl 4 rfl) ?_
          refine lv_iload hx hb dX12_goesPairs_131 (lv_at hl 6 rfl) ?_
          refine q_iast X hK h_20 3 rfl (i_in rfl (by omega) (by omega)) dX12_goesPairs_133 (fun H locs h_25 => ?_)
          clear h_20
          replace h_25 : qW D _ _ (wk_f147cc4b8 cy h0 p3 h1 w0 w1 w2 p4 p5 p6 p7 p8 p9 p10 p11 p12 p13 p14 w3 w4 w5 h2 w6 p15 p16 w7 h3 h4 v92_11_1 v92_11_2 w8 w9 w10 w11 w12 p19 w13 w14 w15 h1 f0 h2 f1 h3 (upd v92_11_3 (Int32.toNatClampNeg r_2) v92_11_0) h4 v92_11_4) _ _ := h_25
          obtain ⟨F_24, eF_24⟩ : ∃ z, (upd v92_11_3 (Int32.toNatClampNeg r_2) v92_11_0) = z := ⟨_, rfl⟩
          rw [eF_24] at h_25
          clear eF_24
          refine lv_aload_n hx hb dX12_goesPairs_134 rfl (lv_at hl 0 rfl) ?_
          refine q_get X hK h_25 0 rfl rfl wf_12 24 (by decide) rfl wm_5_194 dX12_goesPairs_135 ?_
          refine lv_iload hx hb dX12_goesPairs_138 (lv_at hl 6 rfl) ?_
          refine lv_iload hx hb dX12_goesPairs_140 (lv_at hl 4 rfl) ?_
          refine q_iast X hK h_25 3 rfl (i_in rfl (by omega) (by omega)) dX12_goesPairs_142 (fun H locs h_27 => ?_)
          clear h_25
          replace h_27 : qW D _ _ (wk_f147cc4b8 cy h0 p3 h1 w0 w1 w2 p4 p5 p6 p7 p8 p9 p10 p11 p12 p13 p14 w3 w4 w5 h2 w6 p15 p16 w7 h3 h4 v92_11_1 v92_11_2 w8 w9 w10 w11 w12 p19 w13 w14 w15 h1 f0 h2 f1 h3 (upd F_24 (Int32.toNatClampNeg v92_11_0) r_2) h4 v92_11_4) _ _ := h_27
          obtain ⟨F_26, eF_26⟩ : ∃ z, (upd F_24 (Int32.toNatClampNeg v92_11_0) r_2) = z := ⟨_, rfl⟩
          rw [eF_26] at h_27
          clear eF_26
          refine lv_aload_n hx hb dX12_goesPairs_143 rfl (lv_at hl 0 rfl) ?_
          refine lv_iload hx hb dX12_goesPairs_144 (lv_at hl 5 rfl) ?_
          refine lv_iconst (v := 1) hx hb dX12_goesPairs_146 (by decide) ?_
          refine lv_iload hx hb dX12_goesPairs_147 (lv_at hl 6 rfl) ?_
          refine lv_ishl hx hb dX12_goesPairs_149 ?_
          obtain ⟨z_28, ez_28, hz_28⟩ := e_shlk (p := v92_11_0) 9 (by decide) rfl (by omega) (by omega)
          refine q_c z_28 ez_28 ?_
          clear ez_28
          refine lv_iconst (v := (-1)) hx hb dX12_goesPairs_150 (by decide) ?_
          refine lv_ixor hx hb dX12_goesPairs_151 ?_
          refine q_any (fun z_29 hz_29 => ?_)
          refine lv_iand hx hb dX12_goesPairs_152 ?_
          obtain ⟨z_30, ez_30, hz_30⟩ := e_and1 (x := z_6) (y := z_29) rfl (by omega)
          refine q_c z_30 ez_30 ?_
          have ad_31 := and_div 1 (by omega) rs_7.1 ez_30
          refine lv_iload_n hx hb dX12_goesPairs_153 rfl (lv_at hl 2 rfl) ?_
          refine lv_iconst (v := 1) hx hb dX12_goesPairs_154 (by decide) ?_
          refine lv_iadd hx hb dX12_goesPairs_155 ?_
          obtain ⟨z_32, ez_32, hz_32⟩ := e_add (x := p1) (y := 1) rfl (show (1 : Int32).toInt = 1 by decide) (by omega) (by omega)
          refine q_c z_32 ez_32 ?_
          clear ez_32
          refine lv_iload_n hx hb dX12_goesPairs_156 rfl (lv_at hl 3 rfl) ?_
          refine lv_aload_n hx hb dX12_goesPairs_157 rfl (lv_at hl 0 rfl) ?_
          refine q_get X hK h_27 0 rfl rfl wf_12 1 (by decide) rfl wm_5_171 dX12_goesPairs_158 ?_
          refine lv_bipush (v := 42) hx hb dX12_goesPairs_161 (by decide) ?_
          refine lv_iload hx hb dX12_goesPairs_163 (lv_at hl 4 rfl) ?_
          refine lv_iadd hx hb dX12_goesPairs_165 ?_
          obtain ⟨z_33, ez_33, hz_33⟩ := e_add (x := 42) (y := r_2) (show (42 : Int32).toInt = 42 by decide) rfl (by omega) (by omega)
          refine q_c z_33 ez_33 ?_
          clear ez_33
          refine q_iald X hK h_27 1 rfl (i_in rfl (by omega) (by omega)) dX12_goesPairs_166 ?_
          refine q_any (fun z_34 hz_34 => ?_)
          refine lv_iadd hx hb dX12_goesPairs_167 ?_
          obtain ⟨z_35, ez_35, hz_35⟩ := e_add (x := p2) (y := z_34) rfl rfl (by omega) (by omega)
          refine q_c z_35 ez_35 ?_
          clear ez_35
          refine lv_aload_n hx hb dX12_goesPairs_168 rfl (lv_at hl 0 rfl) ?_
          refine q_get X hK h_27 0 rfl rfl wf_12 1 (by decide) rfl wm_5_171 dX12_goesPairs_169 ?_
          refine lv_bipush (v := 42) hx hb dX12_goesPairs_172 (by decide) ?_
          refine lv_iload hx hb dX12_goesPairs_174 (lv_at hl 6 rfl) ?_
          refine lv_iadd hx hb dX12_goesPairs_176 ?_
          obtain ⟨z_36, ez_36, hz_36⟩ := e_add (x := 42) (y := v92_11_0) (show (42 : Int32).toInt = 42 by decide) rfl (by omega) (by omega)
          refine q_c z_36 ez_36 ?_
          clear ez_36
          refine q_iald X hK h_27 1 rfl (i_in rfl (by omega) (by omega)) dX12_goesPairs_177 ?_
          refine q_any (fun z_37 hz_37 => ?_)
          refine lv_iadd hx hb dX12_goesPairs_178 ?_
          refine q_any (fun z_38 hz_38 => ?_)
          refine q_callVv (rest := []) (wr := []) X hK hT hA h_27 (fun sz => gX12_goesPairs_bfead1d l D cy h0 h1 h2 h3 h4 z_30 z_32 z_38 p3 w0 w1 w2 p4 p5 p6 p7 p8 p9 p10 p11 p12 p13 p14 w3 w4 w5 w6 p15 p16 w7 v92_11_1 v92_11_2 w8 w9 w10 w11 w12 p19 w13 w14 w15 f0 p20 f1 F_26 v92_11_4 ⟨by omega, by omega⟩ ⟨by omega, by omega⟩ (i_rng _) hp3 hp4 hp5 hp6 hp7 (i_rng _) hp9 (i_rng _) (i_rng _) (i_rng _) (i_rng _) (i_rng _) (i_rng _) (i_rng _) hv92_11_1 (i_rng _) (i_rng _) hp20 htf0_84 rf0 (rg_wide rf1 (by decide) (by decide)) ((show _ % 2 = 0 from ad_31)) sz) wm_7_116 wm_7_119 wm_1_12 hd_X12_goesPairs wm_7_118 wp_7_4 (ci := 12) (q0 := 0) rfl rfl ⟨Nat.le_of_ble_eq_true rfl, Nat.le_of_ble_eq_true rfl⟩ hl.1 rfl (Nat.le_of_ble_eq_true rfl) dX12_goesPairs_179 ⟨Nat.le_of_ble_eq_true rfl, Nat.le_of_ble_eq_true rfl⟩ [0, 1, 2, 3, 4] [] rfl rfl (by decide) rfl rfl (fun u_39 H locs w_39 h_39 => ?_)
          clear h_27
          obtain ⟨w39_0, w39_1, _⟩ := w_39
          replace h_39 : qW D _ _ (wk_f147cc4b8 cy h0 p3 h1 w0 w1 w2 p4 p5 p6 p7 p8 p9 p10 p11 p12 p13 p14 w3 w4 w5 h2 w6 p15 p16 w7 h3 h4 (u_39.2.1 0 0) (u_39.2.1 1 0) w8 w9 w10 w11 w12 p19 w13 w14 w15 h1 f0 h2 f1 h3 (u_39.2.1 2) h4 (u_39.2.1 3)) _ _ := h_39
          refine lv_aload_n hx hb dX12_goesPairs_182 rfl (lv_at hl 0 rfl) ?_
          refine q_get X hK h_39 0 rfl rfl wf_12 24 (by decide) rfl wm_5_194 dX12_goesPairs_183 ?_
          refine lv_iload hx hb dX12_goesPairs_186 (lv_at hl 6 rfl) ?_
          refine lv_iconst (v := (-1)) hx hb dX12_goesPairs_188 (by decide) ?_
          refine q_iast X hK h_39 3 rfl (i_in rfl (by omega) (by omega)) dX12_goesPairs_189 (fun H locs h_41 => ?_)
          clear h_39
          replace h_41 : qW D _ _ (wk_f147cc4b8 cy h0 p3 h1 w0 w1 w2 p4 p5 p6 p7 p8 p9 p10 p11 p12 p13 p14 w3 w4 w5 h2 w6 p15 p16 w7 h3 h4 (u_39.2.1 0 0) (u_39.2.1 1 0) w8 w9 w10 w11 w12 p19 w13 w14 w15 h1 f0 h2 f1 h3 (upd (u_39.2.1 2) (Int32.toNatClampNeg v92_11_0) (-1)) h4 (u_39.2.1 3)) _ _ := h_41
          obtain ⟨F_40, eF_40⟩ : ∃ z, (upd (u_39.2.1 2) (Int32.toNatClampNeg v92_11_0) (-1)) = z := ⟨_, rfl⟩
          rw [eF_40] at h_41
          clear eF_40
          exact J_190 _ _ _ _ ⟨(u_39.2.1 0 0), (u_39.2.1 1 0), F_40, (u_39.2.1 3), w39_0, w39_1, rfl, h_41, (lv_sub hl [0, 1, 2, 3, 4, 5, 6] rfl)⟩
        · replace c_23 := i_eq (x := r_20) (y := 0) rfl (show (0 : Int32).toInt = 0 by decide) c_23
          refine lv_goto (tgt := 190) hx hb dX12_goesPairs_122 (by decide) ?_
          exact J_190 _ _ _ _ ⟨v92_11_1, v92_11_2, v92_11_3, v92_11_4, hv92_11_1, hv92_11_2, rfl, h_20, (lv_sub hl [0, 1, 2, 3, 4, 5, 6] rfl)⟩
  · replace c_1 := i_eq (x := p0) (y := 0) rfl (show (0 : Int32).toInt = 0 by decide) c_1
    refine lv_iload_n hx hb dX12_goesPairs_4 rfl (lv_at hl 2 rfl) ?_
    refine lv_aload_n hx hb dX12_goesPairs_5 rfl (lv_at hl 0 rfl) ?_
    refine q_get X hK h 0 rfl rfl wf_12 26 (by decide) rfl wm_5_196 dX12_goesPairs_6 ?_
    refine lv_icmp_lt (tgt := 28) hx hb dX12_goesPairs_9 (by decide) (fun c_42 => ?_) (fun c_42 => ?_)
    · replace c_42 := i_lt (x := p1) (y := p17) rfl rfl c_42
      exfalso
      omega
    · replace c_42 := i_nlt (x := p1) (y := p17) rfl rfl c_42
      refine lv_iload_n hx hb dX12_goesPairs_12 rfl (lv_at hl 2 rfl) ?_
      refine lv_aload_n hx hb dX12_goesPairs_13 rfl (lv_at hl 0 rfl) ?_
      refine q_get X hK h 0 rfl rfl wf_12 26 (by decide) rfl wm_5_196 dX12_goesPairs_14 ?_
      refine q_jn (pc2 := 29) (fun H locs ls st => st = [] ∧ qW D (va_A (wk_f147cc4b8 cy h0 p3 h1 w0 w1 w2 p4 p5 p6 p7 p8 p9 p10 p11 p12 p13 p14 w3 w4 w5 h2 w6 p15 p16 w7 h3 h4 p17 p18 w8 w9 w10 w11 w12 p19 w13 w14 w15 h1 f0 h2 f1 h3 f2 h4 f3) sz) s.heap (wk_f147cc4b8 cy h0 p3 h1 w0 w1 w2 p4 p5 p6 p7 p8 p9 p10 p11 p12 p13 p14 w3 w4 w5 h2 w6 p15 p16 w7 h3 h4 p17 p18 w8 w9 w10 w11 w12 p19 w13 w14 w15 h1 f0 h2 f1 h3 f2 h4 f3) H locs ∧ lv_has ls 7 [(0, .ref h0), (1, .int p0), (2, .int p1), (3, .int p2)]) (fun H locs ls st hP => ?_) (fun J_29 => ?_)
      · obtain ⟨rfl, h, hl⟩ := hP
        refine lv_aload_n hx hb dX12_goesPairs_29 rfl (lv_at hl 0 rfl) ?_
        refine lv_iload_n hx hb dX12_goesPairs_30 rfl (lv_at hl 2 rfl) ?_
        refine q_put (v := .int p1) X hK h 0 rfl rfl wf_12 tyX12 tyX12_ok nmX12 26 (by decide) wm_5_196 rfl rfl rfl (Nat.le_of_ble_eq_true rfl) dX12_goesPairs_31 (fun H locs h_44 => ?_)
        clear h
        replace h_44 : qW D _ _ (wk_f147cc4b8 cy h0 p3 h1 w0 w1 w2 p4 p5 p6 p7 p8 p9 p10 p11 p12 p13 p14 w3 w4 w5 h2 w6 p15 p16 w7 h3 h4 p1 p18 w8 w9 w10 w11 w12 p19 w13 w14 w15 h1 f0 h2 f1 h3 f2 h4 f3) _ _ := h_44
        refine lv_aload_n hx hb dX12_goesPairs_34 rfl (lv_at hl 0 rfl) ?_
        refine lv_iload_n hx hb dX12_goesPairs_35 rfl (lv_at hl 3 rfl) ?_
        refine q_put (v := .int p2) X hK h_44 0 rfl rfl wf_12 tyX12 tyX12_ok nmX12 27 (by decide) wm_5_197 rfl rfl rfl (Nat.le_of_ble_eq_true rfl) dX12_goesPairs_36 (fun H locs h_45 => ?_)
        clear h_44
        replace h_45 : qW D _ _ (wk_f147cc4b8 cy h0 p3 h1 w0 w1 w2 p4 p5 p6 p7 p8 p9 p10 p11 p12 p13 p14 w3 w4 w5 h2 w6 p15 p16 w7 h3 h4 p1 p2 w8 w9 w10 w11 w12 p19 w13 w14 w15 h1 f0 h2 f1 h3 f2 h4 f3) _ _ := h_45
        refine lv_iconst (v := 0) hx hb dX12_goesPairs_39 (by decide) ?_
        refine lv_istore (lv' := [(4, .int 0), (0, .ref h0), (1, .int p0), (2, .int p1), (3, .int p2)]) hx hb dX12_goesPairs_40 hl (by decide) rfl (fun ls_46 hl_46 => ?_)
        clear hl
        refine q_wl (fun (v42_47_0 : Int32) H locs ls => ∃ v42_47_1 : Nat → Int32, (0 ≤ (v42_47_0).toInt ∧ (v42_47_0).toInt ≤ 10) ∧ qW D (va_A (wk_f147cc4b8 cy h0 p3 h1 w0 w1 w2 p4 p5 p6 p7 p8 p9 p10 p11 p12 p13 p14 w3 w4 w5 h2 w6 p15 p16 w7 h3 h4 p17 p18 w8 w9 w10 w11 w12 p19 w13 w14 w15 h1 f0 h2 f1 h3 f2 h4 f3) sz) s.heap (wk_f147cc4b8 cy h0 p3 h1 w0 w1 w2 p4 p5 p6 p7 p8 p9 p10 p11 p12 p13 p14 w3 w4 w5 h2 w6 p15 p16 w7 h3 h4 p1 p2 w8 w9 w10 w11 w12 p19 w13 w14 w15 h1 f0 h2 f1 h3 f2 h4 v42_47_1) H locs ∧ lv_has ls 7 [(0, .ref h0), (1, .int p0), (2, .int p1), (3, .int p2), (4, .int v42_47_0)]) (fun (v42_47_0 : Int32) => (11 - (v42_47_0).toInt).toNat) (fun q_42 ih_42 H locs ls hP => ?_) 0 ⟨f3, ⟨by decide +kernel, by decide +kernel⟩, h_45, (lv_sub hl_46 [1, 2, 3, 4, 0] rfl)⟩
        obtain ⟨v42_47_0, rfl⟩ : ∃ z, z = q_42 := ⟨_, rfl⟩
        obtain ⟨v42_47_1, hv42_47_0, h, hl⟩ := hP
        refine lv_iload hx hb dX12_goesPairs_42 (lv_at hl 4 rfl) ?_
        refine lv_bipush (v := 10) hx hb dX12_goesPairs_44 (by decide) ?_
        refine lv_icmp_ge (tgt := 69) hx hb dX12_goesPairs_46 (by decide) (fun c_48 => ?_) (fun c_48 => ?_)
        · replace c_48 := i_le (x := 10) (y := v42_47_0) (show (10 : Int32).toInt = 10 by decide) rfl c_48
          exact q_vret X hr hlk hK h (fun _ => 0, (vcons (fun _ => p1) (vcons (fun _ => p2) (vcons f2 (vcons v42_47_1 (fun _ => (fun _ => 0)))))), fun _ _ => 0) ⟨(bw hp1 (by decide) (by decide)), (bw hp2 (by decide) (by decide)), trivial⟩ [0, 1, 2, 3, 4] rfl rfl dX12_goesPairs_69 (Nat.le_of_ble_eq_true rfl) (Nat.le_of_ble_eq_true rfl)
        · replace c_48 := i_nle (x := 10) (y := v42_47_0) (show (10 : Int32).toInt = 10 by decide) rfl c_48
          refine lv_aload_n hx hb dX12_goesPairs_49 rfl (lv_at hl 0 rfl) ?_
          refine q_get X hK h 0 rfl rfl wf_12 25 (by decide) rfl wm_5_195 dX12_goesPairs_50 ?_
          refine lv_iload hx hb dX12_goesPairs_53 (lv_at hl 4 rfl) ?_
          refine lv_aload_n hx hb dX12_goesPairs_55 rfl (lv_at hl 0 rfl) ?_
          refine q_get X hK h 0 rfl rfl wf_12 24 (by decide) rfl wm_5_194 dX12_goesPairs_56 ?_
          refine lv_iload hx hb dX12_goesPairs_59 (lv_at hl 4 rfl) ?_
          refine q_iald X hK h 3 rfl (i_in rfl (by omega) (by omega)) dX12_goesPairs_61 ?_
          refine q_any (fun z_49 hz_49 => ?_)
          refine q_iast X hK h 4 rfl (i_in rfl (by omega) (by omega)) dX12_goesPairs_62 (fun H locs h_51 => ?_)
          clear h
          replace h_51 : qW D _ _ (wk_f147cc4b8 cy h0 p3 h1 w0 w1 w2 p4 p5 p6 p7 p8 p9 p10 p11 p12 p13 p14 w3 w4 w5 h2 w6 p15 p16 w7 h3 h4 p1 p2 w8 w9 w10 w11 w12 p19 w13 w14 w15 h1 f0 h2 f1 h3 f2 h4 (upd v42_47_1 (Int32.toNatClampNeg v42_47_0) z_49)) _ _ := h_51
          obtain ⟨F_50, eF_50⟩ : ∃ z, (upd v42_47_1 (Int32.toNatClampNeg v42_47_0) z_49) = z := ⟨_, rfl⟩
          rw [eF_50] at h_51
          clear eF_50
          obtain ⟨z_52, ez_52, hz_52⟩ := e_add (x := v42_47_0) (y := Int32.ofInt 1) rfl (b := 1) (by decide) (by omega) (by omega)
          refine lv_iinc (v := z_52) (lv' := [(4, .int z_52), (0, .ref h0), (1, .int p0), (2, .int p1), (3, .int p2)]) hx hb dX12_goesPairs_63 hl (k := 4) rfl ez_52 (by decide) rfl (fun ls_52 hl_52 => ?_)
          clear hl
          refine lv_goto (tgt := 42) hx hb dX12_goesPairs_66 (by decide) ?_
          exact ih_42 z_52 (by show (11 - (z_52).toInt).toNat < (11 - (v42_47_0).toInt).toNat; omega) _ _ _ ⟨F_50, ⟨by omega, by omega⟩, h_51, (lv_sub hl_52 [1, 2, 3, 4, 0] rfl)⟩
      · skip
        refine lv_icmp_ne (tgt := 29) hx hb dX12_goesPairs_17 (by decide) (fun c_53 => ?_) (fun c_53 => ?_)
        · replace c_53 := i_ne (x := p1) (y := p17) rfl rfl c_53
          exact J_29 _ _ _ _ ⟨rfl, h, (lv_sub hl [0, 1, 2, 3] rfl)⟩
        · replace c_53 := i_eq (x := p1) (y := p17) rfl rfl c_53
          exfalso
          omega
set_option maxHeartbeats 4000000 in
set_option maxRecDepth 100000 in
theorem gX12_laysPairs_e0c774e (l : Launch) (D : va_G) (cy : Nat → ClassId) (h0 : Nat) (h1 : Nat) (h2 : Nat) (h3 : Nat) (h4 : Nat) (p0 : Int32) (p1 : Int32) (w0 : Value) (w1 : Value) (w2 : Value) (p2 : Int32) (p3 : Int32) (p4 : Int32) (p5 : Int32) (p6 : Int32) (p7 : Int32) (p8 : Int32) (p9 : Int32) (p10 : Int32) (p11 : Int32) (p12 : Int32) (w3 : Value) (w4 : Value) (w5 : Value) (w6 : Value) (p13 : Int32) (p14 : Int32) (w7 : Value) (p15 : Int32) (p16 : Int32) (w8 : Value) (w9 : Value) (w10 : Value) (w11 : Value) (w12 : Value) (p17 : Int32) (w13 : Value) (w14 : Value) (w15 : Value) (f0 : Nat → Int32) (p18 : Int32) (f1 : Nat → Int32) (f2 : Nat → Int32) (f3 : Nat → Int32) (hp0 : 0 ≤ (p0).toInt ∧ (p0).toInt ≤ 1023) (hp1 : 0 ≤ (p1).toInt ∧ (p1).toInt ≤ 0) (hp2 : 0 ≤ (p2).toInt ∧ (p2).toInt ≤ 900) (hp3 : 0 ≤ (p3).toInt ∧ (p3).toInt ≤ 900) (hp4 : 0 ≤ (p4).toInt ∧ (p4).toInt ≤ 900) (hp5 : 0 ≤ (p5).toInt ∧ (p5).toInt ≤ 900) (hp6 : (-2147483648) ≤ (p6).toInt ∧ (p6).toInt ≤ 2147483647) (hp7 : 0 ≤ (p7).toInt ∧ (p7).toInt ≤ 999) (hp8 : (-2147483648) ≤ (p8).toInt ∧ (p8).toInt ≤ 2147483647) (hp9 : (-2147483648) ≤ (p9).toInt ∧ (p9).toInt ≤ 2147483647) (hp10 : (-2147483648) ≤ (p10).toInt ∧ (p10).toInt ≤ 2147483647) (hp11 : (-2147483648) ≤ (p11).toInt ∧ (p11).toInt ≤ 2147483647) (hp12 : (-2147483648) ≤ (p12).toInt ∧ (p12).toInt ≤ 2147483647) (hp13 : (-2147483648) ≤ (p13).toInt ∧ (p13).toInt ≤ 2147483647) (hp14 : (-2147483648) ≤ (p14).toInt ∧ (p14).toInt ≤ 2147483647) (hp15 : (-2147483648) ≤ (p15).toInt ∧ (p15).toInt ≤ 2147483647) (hp16 : (-2147483648) ≤ (p16).toInt ∧ (p16).toInt ≤ 2147483647) (hp17 : (-2147483648) ≤ (p17).toInt ∧ (p17).toInt ≤ 2147483647) (hp18 : 0 ≤ (p18).toInt ∧ (p18).toInt ≤ 10) (htf0_84 : f0 84 = p18) (rf0 : AL f0) (rf1 : RG f1 10 0 1023) (sz : Nat) : MV l yX12_laysPairs cX12_laysPairs 3 { frames := 12, cells := 0, slots := 0, locals := 303 } [.ref h0, .int p0] D cy (wk_f147cc4b8 cy h0 p1 h1 w0 w1 w2 p2 p3 p4 p5 p6 p7 p8 p9 p10 p11 p12 w3 w4 w5 h2 w6 p13 p14 w7 h3 h4 p15 p16 w8 w9 w10 w11 w12 p17 w13 w14 w15 h1 f0 h2 f1 h3 f2 h4 f3) sz (fun u => ((-1) ≤ (u.2.1 0 0).toInt ∧ (u.2.1 0 0).toInt ≤ 10) ∧ ((-2147483648) ≤ (u.2.1 1 0).toInt ∧ (u.2.1 1 0).toInt ≤ 2147483647) ∧ True) (fun u => (wk_f147cc4b8 cy h0 p1 h1 w0 w1 w2 p2 p3 p4 p5 p6 p7 p8 p9 p10 p11 p12 w3 w4 w5 h2 w6 p13 p14 w7 h3 h4 (u.2.1 0 0) (u.2.1 1 0) w8 w9 w10 w11 w12 p17 w13 w14 w15 h1 f0 h2 f1 h3 (u.2.1 2) h4 (u.2.1 3))) 0 0 := by
  refine q_ent (own := RX12) (by decide) rfl (Nat.le_of_ble_eq_true rfl) (fun p e s m below meth c ls X hr hlk hnm hK hT h hA hl => ?_)
  obtain ⟨hx, hb, hml, hown, ht⟩ := id X
  replace hl : lv_has ls 3 [(0, .ref h0), (1, .int p0)] := hl
  refine lv_aload_n hx hb dX12_laysPairs_0 rfl (lv_at hl 0 rfl) ?_
  refine lv_iconst (v := (-1)) hx hb dX12_laysPairs_1 (by decide) ?_
  refine q_put (v := .int (-1)) X hK h 0 rfl rfl wf_12 tyX12 tyX12_ok nmX12 26 (by decide) wm_5_196 rfl rfl rfl (Nat.le_of_ble_eq_true rfl) dX12_laysPairs_2 (fun H locs h_1 => ?_)
  clear h
  replace h_1 : qW D _ _ (wk_f147cc4b8 cy h0 p1 h1 w0 w1 w2 p2 p3 p4 p5 p6 p7 p8 p9 p10 p11 p12 w3 w4 w5 h2 w6 p13 p14 w7 h3 h4 (-1) p16 w8 w9 w10 w11 w12 p17 w13 w14 w15 h1 f0 h2 f1 h3 f2 h4 f3) _ _ := h_1
  refine lv_aload_n hx hb dX12_laysPairs_5 rfl (lv_at hl 0 rfl) ?_
  refine lv_iconst (v := (-1)) hx hb dX12_laysPairs_6 (by decide) ?_
  refine q_put (v := .int (-1)) X hK h_1 0 rfl rfl wf_12 tyX12 tyX12_ok nmX12 27 (by decide) wm_5_197 rfl rfl rfl (Nat.le_of_ble_eq_true rfl) dX12_laysPairs_7 (fun H locs h_2 => ?_)
  clear h_1
  replace h_2 : qW D _ _ (wk_f147cc4b8 cy h0 p1 h1 w0 w1 w2 p2 p3 p4 p5 p6 p7 p8 p9 p10 p11 p12 w3 w4 w5 h2 w6 p13 p14 w7 h3 h4 (-1) (-1) w8 w9 w10 w11 w12 p17 w13 w14 w15 h1 f0 h2 f1 h3 f2 h4 f3) _ _ := h_2
  refine lv_iconst (v := 0) hx hb dX12_laysPairs_10 (by decide) ?_
  refine lv_istore_n (lv' := [(2, .int 0), (0, .ref h0), (1, .int p0)]) hx hb dX12_laysPairs_11 rfl hl (by decide) rfl (fun ls_3 hl_3 => ?_)
  clear hl
  refine q_wl (fun (v12_4_0 : Int32) H locs ls => ∃ v12_4_1 : Nat → Int32, (0 ≤ (v12_4_0).toInt ∧ (v12_4_0).toInt ≤ 10) ∧ qW D (va_A (wk_f147cc4b8 cy h0 p1 h1 w0 w1 w2 p2 p3 p4 p5 p6 p7 p8 p9 p10 p11 p12 w3 w4 w5 h2 w6 p13 p14 w7 h3 h4 p15 p16 w8 w9 w10 w11 w12 p17 w13 w14 w15 h1 f0 h2 f1 h3 f2 h4 f3) sz) s.heap (wk_f147cc4b8 cy h0 p1 h1 w0 w1 w2 p2 p3 p4 p5 p6 p7 p8 p9 p10 p11 p12 w3 w4 w5 h2 w6 p13 p14 w7 h3 h4 (-1) (-1) w8 w9 w10 w11 w12 p17 w13 w14 w15 h1 f0 h2 f1 h3 v12_4_1 h4 f3) H locs ∧ lv_has ls 3 [(0, .ref h0), (1, .int p0), (2, .int v12_4_0)]) (fun (v12_4_0 : Int32) => (11 - (v12_4_0).toInt).toNat) (fun q_12 ih_12 H locs ls hP => ?_) 0 ⟨f2, ⟨by decide +kernel, by decide +kernel⟩, h_2, (lv_sub hl_3 [1, 2, 0] rfl)⟩
  obtain ⟨v12_4_0, rfl⟩ : ∃ z, z = q_12 := ⟨_, rfl⟩
  obtain ⟨v12_4_1, hv12_4_0, h, hl⟩ := hP
  refine lv_iload_n hx hb dX12_laysPairs_12 rfl (lv_at hl 2 rfl) ?_
  refine lv_bipush (v := 10) hx hb dX12_laysPairs_13 (by decide) ?_
  refine lv_icmp_ge (tgt := 31) hx hb dX12_laysPairs_15 (by decide) (fun c_5 => ?_) (fun c_5 => ?_)
  · replace c_5 := i_le (x := 10) (y := v12_4_0) (show (10 : Int32).toInt = 10 by decide) rfl c_5
    refine lv_aload_n hx hb dX12_laysPairs_31 rfl (lv_at hl 0 rfl) ?_
    refine lv_iload_n hx hb dX12_laysPairs_32 rfl (lv_at hl 1 rfl) ?_
    refine lv_iconst (v := 0) hx hb dX12_laysPairs_33 (by decide) ?_
    refine lv_iconst (v := 0) hx hb dX12_laysPairs_34 (by decide) ?_
    refine q_callVv (rest := []) (wr := []) X hK hT hA h (fun sz => gX12_goesPairs_7cb8c5d l D cy h0 h1 h2 h3 h4 p0 (0 : Int32) (0 : Int32) p1 w0 w1 w2 p2 p3 p4 p5 p6 p7 p8 p9 p10 p11 p12 w3 w4 w5 w6 p13 p14 w7 ((-1) : Int32) ((-1) : Int32) w8 w9 w10 w11 w12 p17 w13 w14 w15 f0 p18 f1 v12_4_1 f3 hp0 ⟨by decide +kernel, by decide +kernel⟩ ⟨by decide +kernel, by decide +kernel⟩ hp1 hp2 hp3 hp4 hp5 (i_rng _) hp7 (i_rng _) (i_rng _) (i_rng _) (i_rng _) (i_rng _) (i_rng _) (i_rng _) ⟨by decide +kernel, by decide +kernel⟩ ⟨by decide +kernel, by decide +kernel⟩ (i_rng _) hp18 htf0_84 rf0 (rg_wide rf1 (by decide) (by decide)) ((by (first | assumption | omega))) sz) wm_7_116 wm_7_119 wm_1_12 hd_X12_goesPairs wm_7_118 wp_7_4 (ci := 12) (q0 := 0) rfl rfl ⟨Nat.le_of_ble_eq_true rfl, Nat.le_of_ble_eq_true rfl⟩ hl.1 rfl (Nat.le_of_ble_eq_true rfl) dX12_laysPairs_35 ⟨Nat.le_of_ble_eq_true rfl, Nat.le_of_ble_eq_true rfl⟩ [0, 1, 2, 3, 4] [] rfl rfl (by decide) rfl rfl (fun u_6 H locs w_6 h_6 => ?_)
    clear h
    obtain ⟨w6_0, w6_1, _⟩ := w_6
    replace h_6 : qW D _ _ (wk_f147cc4b8 cy h0 p1 h1 w0 w1 w2 p2 p3 p4 p5 p6 p7 p8 p9 p10 p11 p12 w3 w4 w5 h2 w6 p13 p14 w7 h3 h4 (u_6.2.1 0 0) (u_6.2.1 1 0) w8 w9 w10 w11 w12 p17 w13 w14 w15 h1 f0 h2 f1 h3 (u_6.2.1 2) h4 (u_6.2.1 3)) _ _ := h_6
    exact q_vret X hr hlk hK h_6 (fun _ => 0, (vcons (fun _ => (u_6.2.1 0 0)) (vcons (fun _ => (u_6.2.1 1 0)) (vcons (u_6.2.1 2) (vcons (u_6.2.1 3) (fun _ => (fun _ => 0)))))), fun _ _ => 0) ⟨w6_0, w6_1, trivial⟩ [0, 1, 2, 3, 4] rfl rfl dX12_laysPairs_38 (Nat.le_of_ble_eq_true rfl) (Nat.le_of_ble_eq_true rfl)
  · replace c_5 := i_nle (x := 10) (y := v12_4_0) (show (10 : Int32).toInt = 10 by decide) rfl c_5
    refine lv_aload_n hx hb dX12_laysPairs_18 rfl (lv_at hl 0 rfl) ?_
    refine q_get X hK h 0 rfl rfl wf_12 24 (by decide) rfl wm_5_194 dX12_laysPairs_19 ?_
    refine lv_iload_n hx hb dX12_laysPairs_22 rfl (lv_at hl 2 rfl) ?_
    refine lv_iconst (v := (-1)) hx hb dX12_laysPairs_23 (by decide) ?_
    refine q_iast X hK h 3 rfl (i_in rfl (by omega) (by omega)) dX12_laysPairs_24 (fun H locs h_8 => ?_)
    clear h
    replace h_8 : qW D _ _ (wk_f147cc4b8 cy h0 p1 h1 w0 w1 w2 p2 p3 p4 p5 p6 p7 p8 p9 p10 p11 p12 w3 w4 w5 h2 w6 p13 p14 w7 h3 h4 (-1) (-1) w8 w9 w10 w11 w12 p17 w13 w14 w15 h1 f0 h2 f1 h3 (upd v12_4_1 (Int32.toNatClampNeg v12_4_0) (-1)) h4 f3) _ _ := h_8
    obtain ⟨F_7, eF_7⟩ : ∃ z, (upd v12_4_1 (Int32.toNatClampNeg v12_4_0) (-1)) = z := ⟨_, rfl⟩
    rw [eF_7] at h_8
    clear eF_7
    obtain ⟨z_9, ez_9, hz_9⟩ := e_add (x := v12_4_0) (y := Int32.ofInt 1) rfl (b := 1) (by decide) (by omega) (by omega)
    refine lv_iinc (v := z_9) (lv' := [(2, .int z_9), (0, .ref h0), (1, .int p0)]) hx hb dX12_laysPairs_25 hl (k := 2) rfl ez_9 (by decide) rfl (fun ls_9 hl_9 => ?_)
    clear hl
    refine lv_goto (tgt := 12) hx hb dX12_laysPairs_28 (by decide) ?_
    exact ih_12 z_9 (by show (11 - (z_9).toInt).toNat < (11 - (v12_4_0).toInt).toNat; omega) _ _ _ ⟨F_7, ⟨by omega, by omega⟩, h_8, (lv_sub hl_9 [1, 2, 0] rfl)⟩
