def wk_04d6d8a2c (cy : Nat → ClassId) (a0 : Nat) (a1 : Int32) (a2 : Nat) (a3 : Value) (a4 a5 : Nat) (a6 a7 a8 a9 a10 a11 a12 a13 a14 a15 a16 : Int32) (a17 a18 a19 a20 a21 : Value) (a22 a23 : Int32) (a24 a25 a26 : Value) (a27 a28 : Int32) (a29 a30 a31 a32 a33 : Value) (a34 : Int32) (a35 a36 a37 : Value) (a38 : Nat) (a39 : Nat → Int32) (a40 : Nat) (a41 : Nat → Int32) (a42 : Nat) (a43 : Nat → Int32) : va_W := [(a0, .inr (12, [.int a1, .ref a2, a3, .ref a4, .ref a5, .int a6, .int a7, .int a8, .int a9, .int a10, .int a11, .int a12, .int a13, .int a14, .int a15, .int a16, a17, a18, a19, a20, a21, .int a22, .int a23, a24, a25, a26, .int a27, .int a28, a29, a30, a31, a32, a33, .int a34, a35, a36, a37])), (a38, .inl (cy 1, 3918, .inl a39)), (a40, .inl (cy 1, 900, .inl a41)), (a42, .inl (cy 1, 1306, .inl a43))]
def wk_7c5ca55a5 (cy : Nat → ClassId) (a0 : Nat) (a1 : Nat → Int32) (a2 : Nat) (a3 : Nat → Int32) : va_W := [(a0, .inl (cy 1, 3918, .inl a1)), (a2, .inl (cy 1, 1306, .inl a3))]
def wk_db69142ea (cy : Nat → ClassId) (a0 : Nat) (a1 : Nat → Int32) (a2 : Nat) (a3 : Nat → Int32) (a4 : Nat) (a5 : Int32) (a6 : Nat) (a7 : Value) (a8 a9 : Nat) (a10 a11 a12 a13 a14 a15 a16 a17 a18 a19 a20 : Int32) (a21 a22 a23 a24 a25 : Value) (a26 a27 : Int32) (a28 a29 a30 : Value) (a31 a32 : Int32) (a33 a34 a35 a36 a37 : Value) (a38 : Int32) (a39 a40 a41 : Value) (a42 : Nat) (a43 : Nat → Int32) : va_W := [(a0, .inl (cy 1, 3918, .inl a1)), (a2, .inl (cy 1, 1306, .inl a3)), (a4, .inr (12, [.int a5, .ref a6, a7, .ref a8, .ref a9, .int a10, .int a11, .int a12, .int a13, .int a14, .int a15, .int a16, .int a17, .int a18, .int a19, .int a20, a21, a22, a23, a24, a25, .int a26, .int a27, a28, a29, a30, .int a31, .int a32, a33, a34, a35, a36, a37, .int a38, a39, a40, a41])), (a42, .inl (cy 1, 900, .inl a43))]
def wk_dab8c81bb (cy : Nat → ClassId) (a0 : Nat) (a1 : Nat → Int32) (a2 : Nat) (a3 : Int32) (a4 : Nat) (a5 : Value) (a6 a7 : Nat) (a8 a9 a10 a11 a12 a13 a14 a15 a16 a17 a18 : Int32) (a19 a20 a21 a22 a23 : Value) (a24 a25 : Int32) (a26 a27 a28 : Value) (a29 a30 : Int32) (a31 a32 a33 a34 a35 : Value) (a36 : Int32) (a37 a38 a39 : Value) (a40 : Nat) (a41 : Nat → Int32) (a42 : Nat) (a43 : Nat → Int32) : va_W := [(a0, .inl (cy 1, 3918, .inl a1)), (a2, .inr (12, [.int a3, .ref a4, a5, .ref a6, .ref a7, .int a8, .int a9, .int a10, .int a11, .int a12, .int a13, .int a14, .int a15, .int a16, .int a17, .int a18, a19, a20, a21, a22, a23, .int a24, .int a25, a26, a27, a28, .int a29, .int a30, a31, a32, a33, a34, a35, .int a36, a37, a38, a39])), (a40, .inl (cy 1, 900, .inl a41)), (a42, .inl (cy 1, 1306, .inl a43))]
def wk_eece9000b (cy : Nat → ClassId) (a0 : Nat) (a1 : Nat → Int32) (a2 : Nat) (a3 : Nat → Int32) (a4 : Nat) (a5 : Nat → Int32) : va_W := [(a0, .inl (cy 1, 3918, .inl a1)), (a2, .inl (cy 1, 1306, .inl a3)), (a4, .inl (cy 1, 900, .inl a5))]
def wk_735259578 (cy : Nat → ClassId) (a0 : Nat) (a1 : Nat → Int32) (a2 : Nat) (a3 : Nat → Int32) (a4 : Nat) (a5 : Nat → Int32) (a6 : Nat) (a7 : Int32) (a8 : Nat) (a9 : Value) (a10 a11 : Nat) (a12 a13 a14 a15 a16 a17 a18 a19 a20 a21 a22 : Int32) (a23 a24 a25 a26 a27 : Value) (a28 a29 : Int32) (a30 a31 a32 : Value) (a33 a34 : Int32) (a35 a36 a37 a38 a39 : Value) (a40 : Int32) (a41 a42 a43 : Value) : va_W := [(a0, .inl (cy 1, 3918, .inl a1)), (a2, .inl (cy 1, 1306, .inl a3)), (a4, .inl (cy 1, 900, .inl a5)), (a6, .inr (12, [.int a7, .ref a8, a9, .ref a10, .ref a11, .int a12, .int a13, .int a14, .int a15, .int a16, .int a17, .int a18, .int a19, .int a20, .int a21, .int a22, a23, a24, a25, a26, a27, .int a28, .int a29, a30, a31, a32, .int a33, .int a34, a35, a36, a37, a38, a39, .int a40, a41, a42, a43]))]
theorem wm_5_170 : Cond.fieldLink RX12 1 "OppositeHouseModel" "thrown" "I" ∈ WG := wg_t5 (List.mem_of_getElem? (i := 170) rfl) rfl
theorem wm_5_175 : Cond.fieldLink RX12 83 "OppositeHouseModel" "taped" "I" ∈ WG := wg_t5 (List.mem_of_getElem? (i := 175) rfl) rfl
theorem wm_5_167 : Cond.methodLink RX12 79 yX12_plain ∈ WG := wg_t5 (List.mem_of_getElem? (i := 167) rfl) rfl
theorem wm_5_169 : Cond.code yX12_plain cX12_plain 2 none ∈ WG := wg_t5 (List.mem_of_getElem? (i := 169) rfl) rfl
theorem wm_5_168 : Cond.static yX12_plain ∈ WG := wg_t5 (List.mem_of_getElem? (i := 168) rfl) rfl
theorem wm_6_87 : Cond.methodLink RX12 190 yX12_takes ∈ WG := wg_t6 (List.mem_of_getElem? (i := 87) rfl) rfl
theorem wm_6_90 : Cond.code yX12_takes cX12_takes 4 (some .int) ∈ WG := wg_t6 (List.mem_of_getElem? (i := 90) rfl) rfl
theorem wm_6_89 : Cond.instanceMethod yX12_takes ∈ WG := wg_t6 (List.mem_of_getElem? (i := 89) rfl) rfl
theorem wp_4_9 : Cond.selects RX12 yX12_takes yX12_takes ∈ WG := wg_p (q := (yX12_takes, 37)) (wg_p4 (List.mem_of_getElem? (i := 9) rfl)) rfl
theorem wm_6_91 : Cond.methodLink RX12 208 yX12_ends ∈ WG := wg_t6 (List.mem_of_getElem? (i := 91) rfl) rfl
theorem wm_6_94 : Cond.code yX12_ends cX12_ends 1 none ∈ WG := wg_t6 (List.mem_of_getElem? (i := 94) rfl) rfl
theorem wm_6_93 : Cond.instanceMethod yX12_ends ∈ WG := wg_t6 (List.mem_of_getElem? (i := 93) rfl) rfl
theorem wp_4_10 : Cond.selects RX12 yX12_ends yX12_ends ∈ WG := wg_p (q := (yX12_ends, 37)) (wg_p4 (List.mem_of_getElem? (i := 10) rfl)) rfl
theorem wm_6_108 : Cond.constantLong RX12 201 (7) ∈ WG := wg_t6 (List.mem_of_getElem? (i := 108) rfl) rfl
theorem wm_6_109 : Cond.constantLong RX12 203 (9) ∈ WG := wg_t6 (List.mem_of_getElem? (i := 109) rfl) rfl
theorem wm_6_110 : Cond.methodLink RX12 205 yX12_readLaw ∈ WG := wg_t6 (List.mem_of_getElem? (i := 110) rfl) rfl
theorem wm_6_113 : Cond.code yX12_readLaw cX12_readLaw 3 none ∈ WG := wg_t6 (List.mem_of_getElem? (i := 113) rfl) rfl
theorem wm_6_112 : Cond.instanceMethod yX12_readLaw ∈ WG := wg_t6 (List.mem_of_getElem? (i := 112) rfl) rfl
theorem wp_4_14 : Cond.selects RX12 yX12_readLaw yX12_readLaw ∈ WG := wg_p (q := (yX12_readLaw, 37)) (wg_p4 (List.mem_of_getElem? (i := 14) rfl)) rfl
theorem wm_6_103 : Cond.constant RX12 194 (268435456) ∈ WG := wg_t6 (List.mem_of_getElem? (i := 103) rfl) rfl
theorem wm_6_104 : Cond.methodLink RX12 195 yX12_readFlag ∈ WG := wg_t6 (List.mem_of_getElem? (i := 104) rfl) rfl
theorem wm_6_107 : Cond.code yX12_readFlag cX12_readFlag 4 (some .boolean) ∈ WG := wg_t6 (List.mem_of_getElem? (i := 107) rfl) rfl
theorem wm_6_106 : Cond.instanceMethod yX12_readFlag ∈ WG := wg_t6 (List.mem_of_getElem? (i := 106) rfl) rfl
theorem wp_4_13 : Cond.selects RX12 yX12_readFlag yX12_readFlag ∈ WG := wg_p (q := (yX12_readFlag, 37)) (wg_p4 (List.mem_of_getElem? (i := 13) rfl)) rfl
theorem wm_6_99 : Cond.methodLink RX12 198 yX12_readPerson ∈ WG := wg_t6 (List.mem_of_getElem? (i := 99) rfl) rfl
theorem wm_6_102 : Cond.code yX12_readPerson cX12_readPerson 3 none ∈ WG := wg_t6 (List.mem_of_getElem? (i := 102) rfl) rfl
theorem wm_6_101 : Cond.instanceMethod yX12_readPerson ∈ WG := wg_t6 (List.mem_of_getElem? (i := 101) rfl) rfl
theorem wp_4_12 : Cond.selects RX12 yX12_readPerson yX12_readPerson ∈ WG := wg_p (q := (yX12_readPerson, 37)) (wg_p4 (List.mem_of_getElem? (i := 12) rfl)) rfl
theorem wm_6_95 : Cond.methodLink RX12 211 yX12_readLine ∈ WG := wg_t6 (List.mem_of_getElem? (i := 95) rfl) rfl
theorem wm_6_98 : Cond.code yX12_readLine cX12_readLine 1 none ∈ WG := wg_t6 (List.mem_of_getElem? (i := 98) rfl) rfl
theorem wm_6_97 : Cond.instanceMethod yX12_readLine ∈ WG := wg_t6 (List.mem_of_getElem? (i := 97) rfl) rfl
theorem wp_4_11 : Cond.selects RX12 yX12_readLine yX12_readLine ∈ WG := wg_p (q := (yX12_readLine, 37)) (wg_p4 (List.mem_of_getElem? (i := 11) rfl)) rfl
theorem wm_5_183 : Cond.fieldLink RX12 214 "OppositeHouseModel" "faultKind" "I" ∈ WG := wg_t5 (List.mem_of_getElem? (i := 183) rfl) rfl
theorem wm_5_184 : Cond.fieldLink RX12 27 "OppositeHouseModel" "faultPlace" "I" ∈ WG := wg_t5 (List.mem_of_getElem? (i := 184) rfl) rfl
theorem wm_5_171 : Cond.fieldLink RX12 13 "OppositeHouseModel" "all" "[I" ∈ WG := wg_t5 (List.mem_of_getElem? (i := 171) rfl) rfl
theorem hd_X12_plain : yX12_plain.cls ≠ "java/lang/invoke/MethodHandle" ∧ yX12_plain.cls ≠ "java/lang/invoke/VarHandle" ∧ (parseMethodDescriptor yX12_plain.desc).map (fun d => d.parameters.length) = some 1 := by decide +kernel
theorem hd_X12_takes : yX12_takes.cls ≠ "java/lang/invoke/MethodHandle" ∧ yX12_takes.cls ≠ "java/lang/invoke/VarHandle" ∧ (parseMethodDescriptor yX12_takes.desc).map (fun d => d.parameters.length) = some 2 := by decide +kernel
theorem hd_X12_ends : yX12_ends.cls ≠ "java/lang/invoke/MethodHandle" ∧ yX12_ends.cls ≠ "java/lang/invoke/VarHandle" ∧ (parseMethodDescriptor yX12_ends.desc).map (fun d => d.parameters.length) = some 0 := by decide +kernel
theorem hd_X12_readLaw : yX12_readLaw.cls ≠ "java/lang/invoke/MethodHandle" ∧ yX12_readLaw.cls ≠ "java/lang/invoke/VarHandle" ∧ (parseMethodDescriptor yX12_readLaw.desc).map (fun d => d.parameters.length) = some 1 := by decide +kernel
theorem hd_X12_readFlag : yX12_readFlag.cls ≠ "java/lang/invoke/MethodHandle" ∧ yX12_readFlag.cls ≠ "java/lang/invoke/VarHandle" ∧ (parseMethodDescriptor yX12_readFlag.desc).map (fun d => d.parameters.length) = some 1 := by decide +kernel
theorem hd_X12_readPerson : yX12_readPerson.cls ≠ "java/lang/invoke/MethodHandle" ∧ yX12_readPerson.cls ≠ "java/lang/invoke/VarHandle" ∧ (parseMethodDescriptor yX12_readPerson.desc).map (fun d => d.parameters.length) = some 0 := by decide +kernel
theorem hd_X12_readLine : yX12_readLine.cls ≠ "java/lang/invoke/MethodHandle" ∧ yX12_readLine.cls ≠ "java/lang/invoke/VarHandle" ∧ (parseMethodDescriptor yX12_readLine.desc).map (fun d => d.parameters.length) = some 0 := by decide +kernel
theorem dX12_house_0 : decode cX12_house 0 = .ok (.aload_n 0, 1) := sorry
theorem dX12_house_1 : decode cX12_house 1 = .ok (.iconst 0, 1) := sorry
theorem dX12_house_2 : decode cX12_house 2 = .ok (.putfield 1, 3) := sorry
theorem dX12_house_5 : decode cX12_house 5 = .ok (.iload_n 1, 1) := sorry
theorem dX12_house_6 : decode cX12_house 6 = .ok (.i2l, 1) := sorry
theorem dX12_house_7 : decode cX12_house 7 = .ok (.lconst 0, 1) := sorry
theorem dX12_house_8 : decode cX12_house 8 = .ok (.aload_n 0, 1) := sorry
theorem dX12_house_9 : decode cX12_house 9 = .ok (.getfield 83, 3) := sorry
theorem dX12_house_12 : decode cX12_house 12 = .ok (.i2l, 1) := sorry
theorem dX12_house_13 : decode cX12_house 13 = .ok (.invokestatic 145, 3) := sorry
theorem dX12_house_16 : decode cX12_house 16 = .ok (.ifCond .ne 6, 3) := sorry
theorem dX12_house_19 : decode cX12_house 19 = .ok (.bipush (-3), 2) := sorry
theorem dX12_house_21 : decode cX12_house 21 = .ok (.ireturn, 1) := sorry
theorem dX12_house_22 : decode cX12_house 22 = .ok (.aload_n 0, 1) := sorry
theorem dX12_house_23 : decode cX12_house 23 = .ok (.iload_n 1, 1) := sorry
theorem dX12_house_24 : decode cX12_house 24 = .ok (.putfield 86, 3) := sorry
theorem dX12_house_27 : decode cX12_house 27 = .ok (.aload_n 0, 1) := sorry
theorem dX12_house_28 : decode cX12_house 28 = .ok (.iconst 0, 1) := sorry
theorem dX12_house_29 : decode cX12_house 29 = .ok (.putfield 83, 3) := sorry
theorem dX12_house_32 : decode cX12_house 32 = .ok (.aload_n 0, 1) := sorry
theorem dX12_house_33 : decode cX12_house 33 = .ok (.iconst 0, 1) := sorry
theorem dX12_house_34 : decode cX12_house 34 = .ok (.putfield 104, 3) := sorry
theorem dX12_house_37 : decode cX12_house 37 = .ok (.aload_n 0, 1) := sorry
theorem dX12_house_38 : decode cX12_house 38 = .ok (.iconst 0, 1) := sorry
theorem dX12_house_39 : decode cX12_house 39 = .ok (.putfield 129, 3) := sorry
theorem dX12_house_42 : decode cX12_house 42 = .ok (.aload_n 0, 1) := sorry
theorem dX12_house_43 : decode cX12_house 43 = .ok (.getfield 24, 3) := sorry
theorem dX12_house_46 : decode cX12_house 46 = .ok (.invokestatic 79, 3) := sorry
theorem dX12_house_49 : decode cX12_house 49 = .ok (.aload_n 0, 1) := sorry
theorem dX12_house_50 : decode cX12_house 50 = .ok (.invokevirtual 138, 3) := sorry
theorem dX12_house_53 : decode cX12_house 53 = .ok (.aload_n 0, 1) := sorry
theorem dX12_house_54 : decode cX12_house 54 = .ok (.iconst 0, 1) := sorry
theorem dX12_house_55 : decode cX12_house 55 = .ok (.invokevirtual 172, 3) := sorry
theorem dX12_house_58 : decode cX12_house 58 = .ok (.ifCond .ne 8, 3) := sorry
theorem dX12_house_61 : decode cX12_house 61 = .ok (.aload_n 0, 1) := sorry
theorem dX12_house_62 : decode cX12_house 62 = .ok (.iconst 2, 1) := sorry
theorem dX12_house_63 : decode cX12_house 63 = .ok (.invokevirtual 141, 3) := sorry
theorem dX12_house_66 : decode cX12_house 66 = .ok (.aload_n 0, 1) := sorry
theorem dX12_house_67 : decode cX12_house 67 = .ok (.iconst 1, 1) := sorry
theorem dX12_house_68 : decode cX12_house 68 = .ok (.invokevirtual 172, 3) := sorry
theorem dX12_house_71 : decode cX12_house 71 = .ok (.ifCond .ne 8, 3) := sorry
theorem dX12_house_74 : decode cX12_house 74 = .ok (.aload_n 0, 1) := sorry
theorem dX12_house_75 : decode cX12_house 75 = .ok (.iconst 2, 1) := sorry
theorem dX12_house_76 : decode cX12_house 76 = .ok (.invokevirtual 141, 3) := sorry
theorem dX12_house_79 : decode cX12_house 79 = .ok (.aload_n 0, 1) := sorry
theorem dX12_house_80 : decode cX12_house 80 = .ok (.getfield 24, 3) := sorry
theorem dX12_house_83 : decode cX12_house 83 = .ok (.iconst 1, 1) := sorry
theorem dX12_house_84 : decode cX12_house 84 = .ok (.aload_n 0, 1) := sorry
theorem dX12_house_85 : decode cX12_house 85 = .ok (.iconst 1, 1) := sorry
theorem dX12_house_86 : decode cX12_house 86 = .ok (.iconst 3, 1) := sorry
theorem dX12_house_87 : decode cX12_house 87 = .ok (.invokevirtual 190, 3) := sorry
theorem dX12_house_90 : decode cX12_house 90 = .ok (.iastore, 1) := sorry
theorem dX12_house_91 : decode cX12_house 91 = .ok (.aload_n 0, 1) := sorry
theorem dX12_house_92 : decode cX12_house 92 = .ok (.invokevirtual 208, 3) := sorry
theorem dX12_house_95 : decode cX12_house 95 = .ok (.aload_n 0, 1) := sorry
theorem dX12_house_96 : decode cX12_house 96 = .ok (.getfield 129, 3) := sorry
theorem dX12_house_99 : decode cX12_house 99 = .ok (.ifCond .ne 23, 3) := sorry
theorem dX12_house_102 : decode cX12_house 102 = .ok (.aload_n 0, 1) := sorry
theorem dX12_house_103 : decode cX12_house 103 = .ok (.getfield 111, 3) := sorry
theorem dX12_house_106 : decode cX12_house 106 = .ok (.bipush 26, 2) := sorry
theorem dX12_house_108 : decode cX12_house 108 = .ok (.if_icmp .eq 14, 3) := sorry
theorem dX12_house_111 : decode cX12_house 111 = .ok (.aload_n 0, 1) := sorry
theorem dX12_house_112 : decode cX12_house 112 = .ok (.invokevirtual 211, 3) := sorry
theorem dX12_house_115 : decode cX12_house 115 = .ok (.aload_n 0, 1) := sorry
theorem dX12_house_116 : decode cX12_house 116 = .ok (.invokevirtual 208, 3) := sorry
theorem dX12_house_119 : decode cX12_house 119 = .ok (.goto (-24), 3) := sorry
theorem dX12_house_122 : decode cX12_house 122 = .ok (.aload_n 0, 1) := sorry
theorem dX12_house_123 : decode cX12_house 123 = .ok (.aload_n 0, 1) := sorry
theorem dX12_house_124 : decode cX12_house 124 = .ok (.getfield 129, 3) := sorry
theorem dX12_house_127 : decode cX12_house 127 = .ok (.putfield 214, 3) := sorry
theorem dX12_house_130 : decode cX12_house 130 = .ok (.aload_n 0, 1) := sorry
theorem dX12_house_131 : decode cX12_house 131 = .ok (.aload_n 0, 1) := sorry
theorem dX12_house_132 : decode cX12_house 132 = .ok (.getfield 129, 3) := sorry
theorem dX12_house_135 : decode cX12_house 135 = .ok (.ifCond .ne 7, 3) := sorry
theorem dX12_house_138 : decode cX12_house 138 = .ok (.iconst (-1), 1) := sorry
theorem dX12_house_139 : decode cX12_house 139 = .ok (.goto 7, 3) := sorry
theorem dX12_house_142 : decode cX12_house 142 = .ok (.aload_n 0, 1) := sorry
theorem dX12_house_143 : decode cX12_house 143 = .ok (.getfield 132, 3) := sorry
theorem dX12_house_146 : decode cX12_house 146 = .ok (.putfield 27, 3) := sorry
theorem dX12_house_149 : decode cX12_house 149 = .ok (.aload_n 0, 1) := sorry
theorem dX12_house_150 : decode cX12_house 150 = .ok (.getfield 129, 3) := sorry
theorem dX12_house_153 : decode cX12_house 153 = .ok (.ifCond .eq 11, 3) := sorry
theorem dX12_house_156 : decode cX12_house 156 = .ok (.bipush (-30), 2) := sorry
theorem dX12_house_158 : decode cX12_house 158 = .ok (.aload_n 0, 1) := sorry
theorem dX12_house_159 : decode cX12_house 159 = .ok (.getfield 129, 3) := sorry
theorem dX12_house_162 : decode cX12_house 162 = .ok (.isub, 1) := sorry
theorem dX12_house_163 : decode cX12_house 163 = .ok (.ireturn, 1) := sorry
theorem dX12_house_164 : decode cX12_house 164 = .ok (.iconst 0, 1) := sorry
theorem dX12_house_165 : decode cX12_house 165 = .ok (.istore_n 2, 1) := sorry
theorem dX12_house_166 : decode cX12_house 166 = .ok (.iload_n 2, 1) := sorry
theorem dX12_house_167 : decode cX12_house 167 = .ok (.sipush 1306, 3) := sorry
theorem dX12_house_170 : decode cX12_house 170 = .ok (.if_icmp .ge 21, 3) := sorry
theorem dX12_house_173 : decode cX12_house 173 = .ok (.aload_n 0, 1) := sorry
theorem dX12_house_174 : decode cX12_house 174 = .ok (.getfield 13, 3) := sorry
theorem dX12_house_177 : decode cX12_house 177 = .ok (.iload_n 2, 1) := sorry
theorem dX12_house_178 : decode cX12_house 178 = .ok (.aload_n 0, 1) := sorry
theorem dX12_house_179 : decode cX12_house 179 = .ok (.getfield 24, 3) := sorry
theorem dX12_house_182 : decode cX12_house 182 = .ok (.iload_n 2, 1) := sorry
theorem dX12_house_183 : decode cX12_house 183 = .ok (.iaload, 1) := sorry
theorem dX12_house_184 : decode cX12_house 184 = .ok (.iastore, 1) := sorry
theorem dX12_house_185 : decode cX12_house 185 = .ok (.iinc 2 1, 3) := sorry
theorem dX12_house_188 : decode cX12_house 188 = .ok (.goto (-22), 3) := sorry
theorem dX12_house_191 : decode cX12_house 191 = .ok (.aload_n 0, 1) := sorry
theorem dX12_house_192 : decode cX12_house 192 = .ok (.getfield 13, 3) := sorry
theorem dX12_house_195 : decode cX12_house 195 = .ok (.iconst 0, 1) := sorry
theorem dX12_house_196 : decode cX12_house 196 = .ok (.iaload, 1) := sorry
theorem dX12_house_197 : decode cX12_house 197 = .ok (.ireturn, 1) := sorry
theorem dX12_readFlag_0 : decode cX12_readFlag 0 = .ok (.aload_n 0, 1) := sorry
theorem dX12_readFlag_1 : decode cX12_readFlag 1 = .ok (.iconst 3, 1) := sorry
theorem dX12_readFlag_2 : decode cX12_readFlag 2 = .ok (.invokevirtual 172, 3) := sorry
theorem dX12_readFlag_5 : decode cX12_readFlag 5 = .ok (.ifCond .eq 57, 3) := sorry
theorem dX12_readFlag_8 : decode cX12_readFlag 8 = .ok (.aload_n 0, 1) := sorry
theorem dX12_readFlag_9 : decode cX12_readFlag 9 = .ok (.iconst 0, 1) := sorry
theorem dX12_readFlag_10 : decode cX12_readFlag 10 = .ok (.sipush 999, 3) := sorry
theorem dX12_readFlag_13 : decode cX12_readFlag 13 = .ok (.invokevirtual 190, 3) := sorry
theorem dX12_readFlag_16 : decode cX12_readFlag 16 = .ok (.istore_n 2, 1) := sorry
theorem dX12_readFlag_17 : decode cX12_readFlag 17 = .ok (.aload_n 0, 1) := sorry
theorem dX12_readFlag_18 : decode cX12_readFlag 18 = .ok (.iconst 4, 1) := sorry
theorem dX12_readFlag_19 : decode cX12_readFlag 19 = .ok (.invokevirtual 172, 3) := sorry
theorem dX12_readFlag_22 : decode cX12_readFlag 22 = .ok (.ifCond .ne 8, 3) := sorry
theorem dX12_readFlag_25 : decode cX12_readFlag 25 = .ok (.aload_n 0, 1) := sorry
theorem dX12_readFlag_26 : decode cX12_readFlag 26 = .ok (.iconst 2, 1) := sorry
theorem dX12_readFlag_27 : decode cX12_readFlag 27 = .ok (.invokevirtual 141, 3) := sorry
theorem dX12_readFlag_30 : decode cX12_readFlag 30 = .ok (.aload_n 0, 1) := sorry
theorem dX12_readFlag_31 : decode cX12_readFlag 31 = .ok (.iload_n 2, 1) := sorry
theorem dX12_readFlag_32 : decode cX12_readFlag 32 = .ok (.sipush 999, 3) := sorry
theorem dX12_readFlag_35 : decode cX12_readFlag 35 = .ok (.invokevirtual 190, 3) := sorry
theorem dX12_readFlag_38 : decode cX12_readFlag 38 = .ok (.istore_n 3, 1) := sorry
theorem dX12_readFlag_39 : decode cX12_readFlag 39 = .ok (.aload_n 0, 1) := sorry
theorem dX12_readFlag_40 : decode cX12_readFlag 40 = .ok (.getfield 24, 3) := sorry
theorem dX12_readFlag_43 : decode cX12_readFlag 43 = .ok (.bipush 12, 2) := sorry
theorem dX12_readFlag_45 : decode cX12_readFlag 45 = .ok (.iload_n 1, 1) := sorry
theorem dX12_readFlag_46 : decode cX12_readFlag 46 = .ok (.iadd, 1) := sorry
theorem dX12_readFlag_47 : decode cX12_readFlag 47 = .ok (.iload_n 2, 1) := sorry
theorem dX12_readFlag_48 : decode cX12_readFlag 48 = .ok (.iastore, 1) := sorry
theorem dX12_readFlag_49 : decode cX12_readFlag 49 = .ok (.aload_n 0, 1) := sorry
theorem dX12_readFlag_50 : decode cX12_readFlag 50 = .ok (.getfield 24, 3) := sorry
theorem dX12_readFlag_53 : decode cX12_readFlag 53 = .ok (.bipush 22, 2) := sorry
theorem dX12_readFlag_55 : decode cX12_readFlag 55 = .ok (.iload_n 1, 1) := sorry
theorem dX12_readFlag_56 : decode cX12_readFlag 56 = .ok (.iadd, 1) := sorry
theorem dX12_readFlag_57 : decode cX12_readFlag 57 = .ok (.iload_n 3, 1) := sorry
theorem dX12_readFlag_58 : decode cX12_readFlag 58 = .ok (.iastore, 1) := sorry
theorem dX12_readFlag_59 : decode cX12_readFlag 59 = .ok (.goto 60, 3) := sorry
theorem dX12_readFlag_62 : decode cX12_readFlag 62 = .ok (.aload_n 0, 1) := sorry
theorem dX12_readFlag_63 : decode cX12_readFlag 63 = .ok (.iconst 5, 1) := sorry
theorem dX12_readFlag_64 : decode cX12_readFlag 64 = .ok (.invokevirtual 172, 3) := sorry
theorem dX12_readFlag_67 : decode cX12_readFlag 67 = .ok (.ifCond .eq 22, 3) := sorry
theorem dX12_readFlag_70 : decode cX12_readFlag 70 = .ok (.aload_n 0, 1) := sorry
theorem dX12_readFlag_71 : decode cX12_readFlag 71 = .ok (.getfield 24, 3) := sorry
theorem dX12_readFlag_74 : decode cX12_readFlag 74 = .ok (.bipush 32, 2) := sorry
theorem dX12_readFlag_76 : decode cX12_readFlag 76 = .ok (.iload_n 1, 1) := sorry
theorem dX12_readFlag_77 : decode cX12_readFlag 77 = .ok (.iadd, 1) := sorry
theorem dX12_readFlag_78 : decode cX12_readFlag 78 = .ok (.aload_n 0, 1) := sorry
theorem dX12_readFlag_79 : decode cX12_readFlag 79 = .ok (.iconst 0, 1) := sorry
theorem dX12_readFlag_80 : decode cX12_readFlag 80 = .ok (.bipush 10, 2) := sorry
theorem dX12_readFlag_82 : decode cX12_readFlag 82 = .ok (.invokevirtual 190, 3) := sorry
theorem dX12_readFlag_85 : decode cX12_readFlag 85 = .ok (.iastore, 1) := sorry
theorem dX12_readFlag_86 : decode cX12_readFlag 86 = .ok (.goto 33, 3) := sorry
theorem dX12_readFlag_89 : decode cX12_readFlag 89 = .ok (.aload_n 0, 1) := sorry
theorem dX12_readFlag_90 : decode cX12_readFlag 90 = .ok (.bipush 6, 2) := sorry
theorem dX12_readFlag_92 : decode cX12_readFlag 92 = .ok (.invokevirtual 172, 3) := sorry
theorem dX12_readFlag_95 : decode cX12_readFlag 95 = .ok (.ifCond .eq 22, 3) := sorry
theorem dX12_readFlag_98 : decode cX12_readFlag 98 = .ok (.aload_n 0, 1) := sorry
theorem dX12_readFlag_99 : decode cX12_readFlag 99 = .ok (.getfield 24, 3) := sorry
theorem dX12_readFlag_102 : decode cX12_readFlag 102 = .ok (.bipush 42, 2) := sorry
theorem dX12_readFlag_104 : decode cX12_readFlag 104 = .ok (.iload_n 1, 1) := sorry
theorem dX12_readFlag_105 : decode cX12_readFlag 105 = .ok (.iadd, 1) := sorry
theorem dX12_readFlag_106 : decode cX12_readFlag 106 = .ok (.aload_n 0, 1) := sorry
theorem dX12_readFlag_107 : decode cX12_readFlag 107 = .ok (.iconst 1, 1) := sorry
theorem dX12_readFlag_108 : decode cX12_readFlag 108 = .ok (.bipush 99, 2) := sorry
theorem dX12_readFlag_110 : decode cX12_readFlag 110 = .ok (.invokevirtual 190, 3) := sorry
theorem dX12_readFlag_113 : decode cX12_readFlag 113 = .ok (.iastore, 1) := sorry
theorem dX12_readFlag_114 : decode cX12_readFlag 114 = .ok (.goto 5, 3) := sorry
theorem dX12_readFlag_117 : decode cX12_readFlag 117 = .ok (.iconst 0, 1) := sorry
theorem dX12_readFlag_118 : decode cX12_readFlag 118 = .ok (.ireturn, 1) := sorry
theorem dX12_readFlag_119 : decode cX12_readFlag 119 = .ok (.aload_n 0, 1) := sorry
theorem dX12_readFlag_120 : decode cX12_readFlag 120 = .ok (.getfield 129, 3) := sorry
theorem dX12_readFlag_123 : decode cX12_readFlag 123 = .ok (.ifCond .ne 7, 3) := sorry
theorem dX12_readFlag_126 : decode cX12_readFlag 126 = .ok (.iconst 1, 1) := sorry
theorem dX12_readFlag_127 : decode cX12_readFlag 127 = .ok (.goto 4, 3) := sorry
theorem dX12_readFlag_130 : decode cX12_readFlag 130 = .ok (.iconst 0, 1) := sorry
theorem dX12_readFlag_131 : decode cX12_readFlag 131 = .ok (.ireturn, 1) := sorry
theorem dX12_readLaw_0 : decode cX12_readLaw 0 = .ok (.aload_n 0, 1) := sorry
theorem dX12_readLaw_1 : decode cX12_readLaw 1 = .ok (.invokevirtual 138, 3) := sorry
theorem dX12_readLaw_4 : decode cX12_readLaw 4 = .ok (.aload_n 0, 1) := sorry
theorem dX12_readLaw_5 : decode cX12_readLaw 5 = .ok (.bipush 31, 2) := sorry
theorem dX12_readLaw_7 : decode cX12_readLaw 7 = .ok (.invokevirtual 172, 3) := sorry
theorem dX12_readLaw_10 : decode cX12_readLaw 10 = .ok (.ifCond .ne 8, 3) := sorry
theorem dX12_readLaw_13 : decode cX12_readLaw 13 = .ok (.aload_n 0, 1) := sorry
theorem dX12_readLaw_14 : decode cX12_readLaw 14 = .ok (.iconst 2, 1) := sorry
theorem dX12_readLaw_15 : decode cX12_readLaw 15 = .ok (.invokevirtual 141, 3) := sorry
theorem dX12_readLaw_18 : decode cX12_readLaw 18 = .ok (.aload_n 0, 1) := sorry
theorem dX12_readLaw_19 : decode cX12_readLaw 19 = .ok (.getfield 24, 3) := sorry
theorem dX12_readLaw_22 : decode cX12_readLaw 22 = .ok (.sipush 405, 3) := sorry
theorem dX12_readLaw_25 : decode cX12_readLaw 25 = .ok (.iaload, 1) := sorry
theorem dX12_readLaw_26 : decode cX12_readLaw 26 = .ok (.istore_n 2, 1) := sorry
theorem dX12_readLaw_27 : decode cX12_readLaw 27 = .ok (.aload_n 0, 1) := sorry
theorem dX12_readLaw_28 : decode cX12_readLaw 28 = .ok (.iload_n 1, 1) := sorry
theorem dX12_readLaw_29 : decode cX12_readLaw 29 = .ok (.putfield 157, 3) := sorry
theorem dX12_readLaw_32 : decode cX12_readLaw 32 = .ok (.iload_n 1, 1) := sorry
theorem dX12_readLaw_33 : decode cX12_readLaw 33 = .ok (.iconst 2, 1) := sorry
theorem dX12_readLaw_34 : decode cX12_readLaw 34 = .ok (.if_icmp .ne 11, 3) := sorry
theorem dX12_readLaw_37 : decode cX12_readLaw 37 = .ok (.aload_n 0, 1) := sorry
theorem dX12_readLaw_38 : decode cX12_readLaw 38 = .ok (.iconst 0, 1) := sorry
theorem dX12_readLaw_39 : decode cX12_readLaw 39 = .ok (.invokevirtual 169, 3) := sorry
theorem dX12_readLaw_42 : decode cX12_readLaw 42 = .ok (.goto 8, 3) := sorry
theorem dX12_readLaw_45 : decode cX12_readLaw 45 = .ok (.aload_n 0, 1) := sorry
theorem dX12_readLaw_46 : decode cX12_readLaw 46 = .ok (.iconst 0, 1) := sorry
theorem dX12_readLaw_47 : decode cX12_readLaw 47 = .ok (.invokevirtual 184, 3) := sorry
theorem dX12_readLaw_50 : decode cX12_readLaw 50 = .ok (.aload_n 0, 1) := sorry
theorem dX12_readLaw_51 : decode cX12_readLaw 51 = .ok (.getfield 129, 3) := sorry
theorem dX12_readLaw_54 : decode cX12_readLaw 54 = .ok (.ifCond .eq 4, 3) := sorry
theorem dX12_readLaw_57 : decode cX12_readLaw 57 = .ok (.return_, 1) := sorry
theorem dX12_readLaw_58 : decode cX12_readLaw 58 = .ok (.aload_n 0, 1) := sorry
theorem dX12_readLaw_59 : decode cX12_readLaw 59 = .ok (.getfield 24, 3) := sorry
theorem dX12_readLaw_62 : decode cX12_readLaw 62 = .ok (.iconst 3, 1) := sorry
theorem dX12_readLaw_63 : decode cX12_readLaw 63 = .ok (.iload_n 1, 1) := sorry
theorem dX12_readLaw_64 : decode cX12_readLaw 64 = .ok (.iadd, 1) := sorry
theorem dX12_readLaw_65 : decode cX12_readLaw 65 = .ok (.iconst 1, 1) := sorry
theorem dX12_readLaw_66 : decode cX12_readLaw 66 = .ok (.iastore, 1) := sorry
theorem dX12_readLaw_67 : decode cX12_readLaw 67 = .ok (.aload_n 0, 1) := sorry
theorem dX12_readLaw_68 : decode cX12_readLaw 68 = .ok (.getfield 24, 3) := sorry
theorem dX12_readLaw_71 : decode cX12_readLaw 71 = .ok (.bipush 6, 2) := sorry
theorem dX12_readLaw_73 : decode cX12_readLaw 73 = .ok (.iload_n 1, 1) := sorry
theorem dX12_readLaw_74 : decode cX12_readLaw 74 = .ok (.iadd, 1) := sorry
theorem dX12_readLaw_75 : decode cX12_readLaw 75 = .ok (.iload_n 2, 1) := sorry
theorem dX12_readLaw_76 : decode cX12_readLaw 76 = .ok (.iastore, 1) := sorry
theorem dX12_readLaw_77 : decode cX12_readLaw 77 = .ok (.aload_n 0, 1) := sorry
theorem dX12_readLaw_78 : decode cX12_readLaw 78 = .ok (.getfield 24, 3) := sorry
theorem dX12_readLaw_81 : decode cX12_readLaw 81 = .ok (.bipush 9, 2) := sorry
theorem dX12_readLaw_83 : decode cX12_readLaw 83 = .ok (.iload_n 1, 1) := sorry
theorem dX12_readLaw_84 : decode cX12_readLaw 84 = .ok (.iadd, 1) := sorry
theorem dX12_readLaw_85 : decode cX12_readLaw 85 = .ok (.aload_n 0, 1) := sorry
theorem dX12_readLaw_86 : decode cX12_readLaw 86 = .ok (.getfield 24, 3) := sorry
theorem dX12_readLaw_89 : decode cX12_readLaw 89 = .ok (.sipush 405, 3) := sorry
theorem dX12_readLaw_92 : decode cX12_readLaw 92 = .ok (.iaload, 1) := sorry
theorem dX12_readLaw_93 : decode cX12_readLaw 93 = .ok (.iload_n 2, 1) := sorry
theorem dX12_readLaw_94 : decode cX12_readLaw 94 = .ok (.isub, 1) := sorry
theorem dX12_readLaw_95 : decode cX12_readLaw 95 = .ok (.iastore, 1) := sorry
theorem dX12_readLaw_96 : decode cX12_readLaw 96 = .ok (.return_, 1) := sorry
theorem dX12_readLine_0 : decode cX12_readLine 0 = .ok (.aload_n 0, 1) := sorry
theorem dX12_readLine_1 : decode cX12_readLine 1 = .ok (.getfield 129, 3) := sorry
theorem dX12_readLine_4 : decode cX12_readLine 4 = .ok (.ifCond .eq 4, 3) := sorry
theorem dX12_readLine_7 : decode cX12_readLine 7 = .ok (.return_, 1) := sorry
theorem dX12_readLine_8 : decode cX12_readLine 8 = .ok (.aload_n 0, 1) := sorry
theorem dX12_readLine_9 : decode cX12_readLine 9 = .ok (.iconst 2, 1) := sorry
theorem dX12_readLine_10 : decode cX12_readLine 10 = .ok (.invokevirtual 135, 3) := sorry
theorem dX12_readLine_13 : decode cX12_readLine 13 = .ok (.ifCond .eq 10, 3) := sorry
theorem dX12_readLine_16 : decode cX12_readLine 16 = .ok (.aload_n 0, 1) := sorry
theorem dX12_readLine_17 : decode cX12_readLine 17 = .ok (.invokevirtual 198, 3) := sorry
theorem dX12_readLine_20 : decode cX12_readLine 20 = .ok (.goto 66, 3) := sorry
theorem dX12_readLine_23 : decode cX12_readLine 23 = .ok (.aload_n 0, 1) := sorry
theorem dX12_readLine_24 : decode cX12_readLine 24 = .ok (.getfield 111, 3) := sorry
theorem dX12_readLine_27 : decode cX12_readLine 27 = .ok (.i2l, 1) := sorry
theorem dX12_readLine_28 : decode cX12_readLine 28 = .ok (.ldc2_w 201, 3) := sorry
theorem dX12_readLine_31 : decode cX12_readLine 31 = .ok (.ldc2_w 203, 3) := sorry
theorem dX12_readLine_34 : decode cX12_readLine 34 = .ok (.invokestatic 145, 3) := sorry
theorem dX12_readLine_37 : decode cX12_readLine 37 = .ok (.ifCond .eq 17, 3) := sorry
theorem dX12_readLine_40 : decode cX12_readLine 40 = .ok (.aload_n 0, 1) := sorry
theorem dX12_readLine_41 : decode cX12_readLine 41 = .ok (.aload_n 0, 1) := sorry
theorem dX12_readLine_42 : decode cX12_readLine 42 = .ok (.getfield 111, 3) := sorry
theorem dX12_readLine_45 : decode cX12_readLine 45 = .ok (.bipush 7, 2) := sorry
theorem dX12_readLine_47 : decode cX12_readLine 47 = .ok (.isub, 1) := sorry
theorem dX12_readLine_48 : decode cX12_readLine 48 = .ok (.invokevirtual 205, 3) := sorry
theorem dX12_readLine_51 : decode cX12_readLine 51 = .ok (.goto 35, 3) := sorry
theorem dX12_readLine_54 : decode cX12_readLine 54 = .ok (.aload_n 0, 1) := sorry
theorem dX12_readLine_55 : decode cX12_readLine 55 = .ok (.bipush 10, 2) := sorry
theorem dX12_readLine_57 : decode cX12_readLine 57 = .ok (.invokevirtual 172, 3) := sorry
theorem dX12_readLine_60 : decode cX12_readLine 60 = .ok (.ifCond .eq 21, 3) := sorry
theorem dX12_readLine_63 : decode cX12_readLine 63 = .ok (.aload_n 0, 1) := sorry
theorem dX12_readLine_64 : decode cX12_readLine 64 = .ok (.getfield 24, 3) := sorry
theorem dX12_readLine_67 : decode cX12_readLine 67 = .ok (.bipush 52, 2) := sorry
theorem dX12_readLine_69 : decode cX12_readLine 69 = .ok (.aload_n 0, 1) := sorry
theorem dX12_readLine_70 : decode cX12_readLine 70 = .ok (.iconst 0, 1) := sorry
theorem dX12_readLine_71 : decode cX12_readLine 71 = .ok (.sipush 999, 3) := sorry
theorem dX12_readLine_74 : decode cX12_readLine 74 = .ok (.invokevirtual 190, 3) := sorry
theorem dX12_readLine_77 : decode cX12_readLine 77 = .ok (.iastore, 1) := sorry
theorem dX12_readLine_78 : decode cX12_readLine 78 = .ok (.goto 8, 3) := sorry
theorem dX12_readLine_81 : decode cX12_readLine 81 = .ok (.aload_n 0, 1) := sorry
theorem dX12_readLine_82 : decode cX12_readLine 82 = .ok (.iconst 2, 1) := sorry
theorem dX12_readLine_83 : decode cX12_readLine 83 = .ok (.invokevirtual 141, 3) := sorry
theorem dX12_readLine_86 : decode cX12_readLine 86 = .ok (.return_, 1) := sorry
theorem dX12_readPerson_0 : decode cX12_readPerson 0 = .ok (.aload_n 0, 1) := sorry
theorem dX12_readPerson_1 : decode cX12_readPerson 1 = .ok (.getfield 24, 3) := sorry
theorem dX12_readPerson_4 : decode cX12_readPerson 4 = .ok (.iconst 2, 1) := sorry
theorem dX12_readPerson_5 : decode cX12_readPerson 5 = .ok (.iaload, 1) := sorry
theorem dX12_readPerson_6 : decode cX12_readPerson 6 = .ok (.istore_n 1, 1) := sorry
theorem dX12_readPerson_7 : decode cX12_readPerson 7 = .ok (.iload_n 1, 1) := sorry
theorem dX12_readPerson_8 : decode cX12_readPerson 8 = .ok (.bipush 10, 2) := sorry
theorem dX12_readPerson_10 : decode cX12_readPerson 10 = .ok (.if_icmp .ne 8, 3) := sorry
theorem dX12_readPerson_13 : decode cX12_readPerson 13 = .ok (.aload_n 0, 1) := sorry
theorem dX12_readPerson_14 : decode cX12_readPerson 14 = .ok (.iconst 4, 1) := sorry
theorem dX12_readPerson_15 : decode cX12_readPerson 15 = .ok (.invokevirtual 141, 3) := sorry
theorem dX12_readPerson_18 : decode cX12_readPerson 18 = .ok (.aload_n 0, 1) := sorry
theorem dX12_readPerson_19 : decode cX12_readPerson 19 = .ok (.getfield 129, 3) := sorry
theorem dX12_readPerson_22 : decode cX12_readPerson 22 = .ok (.ifCond .eq 4, 3) := sorry
theorem dX12_readPerson_25 : decode cX12_readPerson 25 = .ok (.return_, 1) := sorry
theorem dX12_readPerson_26 : decode cX12_readPerson 26 = .ok (.aload_n 0, 1) := sorry
theorem dX12_readPerson_27 : decode cX12_readPerson 27 = .ok (.invokevirtual 138, 3) := sorry
theorem dX12_readPerson_30 : decode cX12_readPerson 30 = .ok (.iconst 0, 1) := sorry
theorem dX12_readPerson_31 : decode cX12_readPerson 31 = .ok (.istore_n 2, 1) := sorry
theorem dX12_readPerson_32 : decode cX12_readPerson 32 = .ok (.iload_n 2, 1) := sorry
theorem dX12_readPerson_33 : decode cX12_readPerson 33 = .ok (.aload_n 0, 1) := sorry
theorem dX12_readPerson_34 : decode cX12_readPerson 34 = .ok (.getfield 24, 3) := sorry
theorem dX12_readPerson_37 : decode cX12_readPerson 37 = .ok (.iconst 1, 1) := sorry
theorem dX12_readPerson_38 : decode cX12_readPerson 38 = .ok (.iaload, 1) := sorry
theorem dX12_readPerson_39 : decode cX12_readPerson 39 = .ok (.if_icmp .ge 29, 3) := sorry
theorem dX12_readPerson_42 : decode cX12_readPerson 42 = .ok (.aload_n 0, 1) := sorry
theorem dX12_readPerson_43 : decode cX12_readPerson 43 = .ok (.getfield 24, 3) := sorry
theorem dX12_readPerson_46 : decode cX12_readPerson 46 = .ok (.bipush 54, 2) := sorry
theorem dX12_readPerson_48 : decode cX12_readPerson 48 = .ok (.iconst 3, 1) := sorry
theorem dX12_readPerson_49 : decode cX12_readPerson 49 = .ok (.iload_n 1, 1) := sorry
theorem dX12_readPerson_50 : decode cX12_readPerson 50 = .ok (.imul, 1) := sorry
theorem dX12_readPerson_51 : decode cX12_readPerson 51 = .ok (.iadd, 1) := sorry
theorem dX12_readPerson_52 : decode cX12_readPerson 52 = .ok (.iload_n 2, 1) := sorry
theorem dX12_readPerson_53 : decode cX12_readPerson 53 = .ok (.iadd, 1) := sorry
theorem dX12_readPerson_54 : decode cX12_readPerson 54 = .ok (.aload_n 0, 1) := sorry
theorem dX12_readPerson_55 : decode cX12_readPerson 55 = .ok (.iconst 0, 1) := sorry
theorem dX12_readPerson_56 : decode cX12_readPerson 56 = .ok (.bipush 9, 2) := sorry
theorem dX12_readPerson_58 : decode cX12_readPerson 58 = .ok (.invokevirtual 190, 3) := sorry
theorem dX12_readPerson_61 : decode cX12_readPerson 61 = .ok (.iastore, 1) := sorry
theorem dX12_readPerson_62 : decode cX12_readPerson 62 = .ok (.iinc 2 1, 3) := sorry
theorem dX12_readPerson_65 : decode cX12_readPerson 65 = .ok (.goto (-33), 3) := sorry
theorem dX12_readPerson_68 : decode cX12_readPerson 68 = .ok (.aload_n 0, 1) := sorry
theorem dX12_readPerson_69 : decode cX12_readPerson 69 = .ok (.getfield 24, 3) := sorry
theorem dX12_readPerson_72 : decode cX12_readPerson 72 = .ok (.bipush 12, 2) := sorry
theorem dX12_readPerson_74 : decode cX12_readPerson 74 = .ok (.iload_n 1, 1) := sorry
theorem dX12_readPerson_75 : decode cX12_readPerson 75 = .ok (.iadd, 1) := sorry
theorem dX12_readPerson_76 : decode cX12_readPerson 76 = .ok (.iconst 0, 1) := sorry
theorem dX12_readPerson_77 : decode cX12_readPerson 77 = .ok (.iastore, 1) := sorry
theorem dX12_readPerson_78 : decode cX12_readPerson 78 = .ok (.aload_n 0, 1) := sorry
theorem dX12_readPerson_79 : decode cX12_readPerson 79 = .ok (.getfield 24, 3) := sorry
theorem dX12_readPerson_82 : decode cX12_readPerson 82 = .ok (.bipush 22, 2) := sorry
theorem dX12_readPerson_84 : decode cX12_readPerson 84 = .ok (.iload_n 1, 1) := sorry
theorem dX12_readPerson_85 : decode cX12_readPerson 85 = .ok (.iadd, 1) := sorry
theorem dX12_readPerson_86 : decode cX12_readPerson 86 = .ok (.ldc 194, 2) := sorry
theorem dX12_readPerson_88 : decode cX12_readPerson 88 = .ok (.iastore, 1) := sorry
theorem dX12_readPerson_89 : decode cX12_readPerson 89 = .ok (.aload_n 0, 1) := sorry
theorem dX12_readPerson_90 : decode cX12_readPerson 90 = .ok (.getfield 24, 3) := sorry
theorem dX12_readPerson_93 : decode cX12_readPerson 93 = .ok (.bipush 32, 2) := sorry
theorem dX12_readPerson_95 : decode cX12_readPerson 95 = .ok (.iload_n 1, 1) := sorry
theorem dX12_readPerson_96 : decode cX12_readPerson 96 = .ok (.iadd, 1) := sorry
theorem dX12_readPerson_97 : decode cX12_readPerson 97 = .ok (.bipush 10, 2) := sorry
theorem dX12_readPerson_99 : decode cX12_readPerson 99 = .ok (.iastore, 1) := sorry
theorem dX12_readPerson_100 : decode cX12_readPerson 100 = .ok (.aload_n 0, 1) := sorry
theorem dX12_readPerson_101 : decode cX12_readPerson 101 = .ok (.getfield 24, 3) := sorry
theorem dX12_readPerson_104 : decode cX12_readPerson 104 = .ok (.bipush 42, 2) := sorry
theorem dX12_readPerson_106 : decode cX12_readPerson 106 = .ok (.iload_n 1, 1) := sorry
theorem dX12_readPerson_107 : decode cX12_readPerson 107 = .ok (.iadd, 1) := sorry
theorem dX12_readPerson_108 : decode cX12_readPerson 108 = .ok (.iconst 1, 1) := sorry
theorem dX12_readPerson_109 : decode cX12_readPerson 109 = .ok (.iastore, 1) := sorry
theorem dX12_readPerson_110 : decode cX12_readPerson 110 = .ok (.aload_n 0, 1) := sorry
theorem dX12_readPerson_111 : decode cX12_readPerson 111 = .ok (.getfield 129, 3) := sorry
theorem dX12_readPerson_114 : decode cX12_readPerson 114 = .ok (.ifCond .ne 14, 3) := sorry
theorem dX12_readPerson_117 : decode cX12_readPerson 117 = .ok (.aload_n 0, 1) := sorry
theorem dX12_readPerson_118 : decode cX12_readPerson 118 = .ok (.iload_n 1, 1) := sorry
theorem dX12_readPerson_119 : decode cX12_readPerson 119 = .ok (.invokevirtual 195, 3) := sorry
theorem dX12_readPerson_122 : decode cX12_readPerson 122 = .ok (.ifCond .eq 6, 3) := sorry
theorem dX12_readPerson_125 : decode cX12_readPerson 125 = .ok (.goto (-15), 3) := sorry
theorem dX12_readPerson_128 : decode cX12_readPerson 128 = .ok (.aload_n 0, 1) := sorry
theorem dX12_readPerson_129 : decode cX12_readPerson 129 = .ok (.getfield 129, 3) := sorry
theorem dX12_readPerson_132 : decode cX12_readPerson 132 = .ok (.ifCond .ne 13, 3) := sorry
theorem dX12_readPerson_135 : decode cX12_readPerson 135 = .ok (.aload_n 0, 1) := sorry
theorem dX12_readPerson_136 : decode cX12_readPerson 136 = .ok (.getfield 24, 3) := sorry
theorem dX12_readPerson_139 : decode cX12_readPerson 139 = .ok (.iconst 2, 1) := sorry
theorem dX12_readPerson_140 : decode cX12_readPerson 140 = .ok (.dup2, 1) := sorry
theorem dX12_readPerson_141 : decode cX12_readPerson 141 = .ok (.iaload, 1) := sorry
theorem dX12_readPerson_142 : decode cX12_readPerson 142 = .ok (.iconst 1, 1) := sorry
theorem dX12_readPerson_143 : decode cX12_readPerson 143 = .ok (.iadd, 1) := sorry
theorem dX12_readPerson_144 : decode cX12_readPerson 144 = .ok (.iastore, 1) := sorry
theorem dX12_readPerson_145 : decode cX12_readPerson 145 = .ok (.return_, 1) := sorry
set_option maxHeartbeats 4000000 in
set_option maxRecDepth 100000 in
theorem gX12_within_3cc200e (l : Launch) (D : va_G) (cy : Nat → ClassId) (j0 : Int64) (j1 : Int64) (j2 : Int64) (hj0 : (-2147483648) ≤ (j0).toInt ∧ (j0).toInt ≤ 2147483647) (hj1 : 0 ≤ (j1).toInt ∧ (j1).toInt ≤ 0) (hj2 : 0 ≤ (j2).toInt ∧ (j2).toInt ≤ 900) (sz : Nat) : MI l yX12_within cX12_within 6 .boolean { frames := 0, cells := 0, slots := 0, locals := 0 } [.long j0, .long j1, .long j2] D cy [] sz (fun r u => (0 ≤ r.toInt ∧ r.toInt ≤ 1) ∧ (((r : Int32).toInt = 1 ∧ (j1 : Int64).toInt ≤ (j0 : Int64).toInt ∧ (j0 : Int64).toInt ≤ (j2 : Int64).toInt) ∨ ((r : Int32).toInt = 0 ∧ ((j0 : Int64).toInt < (j1 : Int64).toInt ∨ (j2 : Int64).toInt < (j0 : Int64).toInt))) ∧ True) (fun u => []) 0 0 := sorry
set_option maxHeartbeats 4000000 in
set_option maxRecDepth 100000 in
theorem gX12_within_bdfa18d (l : Launch) (D : va_G) (cy : Nat → ClassId) (j0 : Int64) (j1 : Int64) (j2 : Int64) (hj0 : (-2147483648) ≤ (j0).toInt ∧ (j0).toInt ≤ 2147483647) (hj1 : 0 ≤ (j1).toInt ∧ (j1).toInt ≤ 1) (hj2 : 0 ≤ (j2).toInt ∧ (j2).toInt ≤ 900) (sz : Nat) : MI l yX12_within cX12_within 6 .boolean { frames := 0, cells := 0, slots := 0, locals := 0 } [.long j0, .long j1, .long j2] D cy [] sz (fun r u => (0 ≤ r.toInt ∧ r.toInt ≤ 1) ∧ (((r : Int32).toInt = 1 ∧ (j1 : Int64).toInt ≤ (j0 : Int64).toInt ∧ (j0 : Int64).toInt ≤ (j2 : Int64).toInt) ∨ ((r : Int32).toInt = 0 ∧ ((j0 : Int64).toInt < (j1 : Int64).toInt ∨ (j2 : Int64).toInt < (j0 : Int64).toInt))) ∧ True) (fun u => []) 0 0 := sorry
set_option maxHeartbeats 4000000 in
set_option maxRecDepth 100000 in
theorem gX12_takes_aee5c2c (l : Launch) (D : va_G) (cy : Nat → ClassId) (h0 : Nat) (h1 : Nat) (p0 : Int32) (p1 : Int32) (p2 : Int32) (w0 : Value) (w1 : Value) (w2 : Value) (p3 : Int32) (p4 : Int32) (p5 : Int32) (p6 : Int32) (p7 : Int32) (p8 : Int32) (p9 : Int32) (p10 : Int32) (p11 : Int32) (p12 : Int32) (p13 : Int32) (w3 : Value) (w4 : Value) (w5 : Value) (w6 : Value) (w7 : Value) (p14 : Int32) (p15 : Int32) (w8 : Value) (w9 : Value) (w10 : Value) (p16 : Int32) (p17 : Int32) (w11 : Value) (w12 : Value) (w13 : Value) (w14 : Value) (w15 : Value) (p18 : Int32) (w16 : Value) (w17 : Value) (w18 : Value) (f0 : Nat → Int32) (hp0 : 1 ≤ (p0).toInt ∧ (p0).toInt ≤ 1) (hp1 : 3 ≤ (p1).toInt ∧ (p1).toInt ≤ 3) (hp2 : 0 ≤ (p2).toInt ∧ (p2).toInt ≤ 0) (hp3 : 0 ≤ (p3).toInt ∧ (p3).toInt ≤ 900) (hp4 : 0 ≤ (p4).toInt ∧ (p4).toInt ≤ 900) (hp5 : 0 ≤ (p5).toInt ∧ (p5).toInt ≤ 900) (hp6 : 0 ≤ (p6).toInt ∧ (p6).toInt ≤ 900) (hp7 : (-2147483648) ≤ (p7).toInt ∧ (p7).toInt ≤ 2147483647) (hp8 : 0 ≤ (p8).toInt ∧ (p8).toInt ≤ 999) (hp9 : (-2147483648) ≤ (p9).toInt ∧ (p9).toInt ≤ 2147483647) (hp10 : (-2147483648) ≤ (p10).toInt ∧ (p10).toInt ≤ 2147483647) (hp11 : (-2147483648) ≤ (p11).toInt ∧ (p11).toInt ≤ 2147483647) (hp12 : (-2147483648) ≤ (p12).toInt ∧ (p12).toInt ≤ 2147483647) (hp13 : (-2147483648) ≤ (p13).toInt ∧ (p13).toInt ≤ 2147483647) (hp14 : (-2147483648) ≤ (p14).toInt ∧ (p14).toInt ≤ 2147483647) (hp15 : (-2147483648) ≤ (p15).toInt ∧ (p15).toInt ≤ 2147483647) (hp16 : (-2147483648) ≤ (p16).toInt ∧ (p16).toInt ≤ 2147483647) (hp17 : (-2147483648) ≤ (p17).toInt ∧ (p17).toInt ≤ 2147483647) (hp18 : (-2147483648) ≤ (p18).toInt ∧ (p18).toInt ≤ 2147483647) (hpre0 : 0 ≤ (p4 : Int32).toInt ∧ (p4 : Int32).toInt ≤ (p5 : Int32).toInt ∧ (p5 : Int32).toInt ≤ (p6 : Int32).toInt) (hpre1 : (p7 : Int32).toInt = 26 ∨ (p4 : Int32).toInt < (p5 : Int32).toInt) (sz : Nat) : MI l yX12_takes cX12_takes 4 .int { frames := 6, cells := 0, slots := 0, locals := 129 } [.ref h0, .int p0, .int p1] D cy (wk_253faa1b8 cy h0 p2 w0 w1 h1 w2 p3 p4 p5 p6 p7 p8 p9 p10 p11 p12 p13 w3 w4 w5 w6 w7 p14 p15 w8 w9 w10 p16 p17 w11 w12 w13 w14 w15 p18 w16 w17 w18 h1 f0) sz (fun r u => (0 ≤ r.toInt ∧ r.toInt ≤ 999) ∧ (0 ≤ (u.2.1 0 0).toInt ∧ (u.2.1 0 0).toInt ≤ 900) ∧ (0 ≤ (u.2.1 1 0).toInt ∧ (u.2.1 1 0).toInt ≤ 900) ∧ ((-2147483648) ≤ (u.2.1 2 0).toInt ∧ (u.2.1 2 0).toInt ≤ 2147483647) ∧ (0 ≤ (u.2.1 3 0).toInt ∧ (u.2.1 3 0).toInt ≤ 999) ∧ ((-2147483648) ≤ (u.2.1 4 0).toInt ∧ (u.2.1 4 0).toInt ≤ 2147483647) ∧ ((-2147483648) ≤ (u.2.1 5 0).toInt ∧ (u.2.1 5 0).toInt ≤ 2147483647) ∧ (0 ≤ ((u.2.1 0 0) : Int32).toInt ∧ ((u.2.1 0 0) : Int32).toInt ≤ ((u.2.1 1 0) : Int32).toInt ∧ ((u.2.1 1 0) : Int32).toInt ≤ (p6 : Int32).toInt) ∧ (((u.2.1 2 0) : Int32).toInt = 26 ∨ ((u.2.1 0 0) : Int32).toInt < ((u.2.1 1 0) : Int32).toInt) ∧ ((p4 : Int32).toInt ≤ ((u.2.1 0 0) : Int32).toInt) ∧ (((u.2.1 4 0) : Int32).toInt ≠ 0 ∨ (p9 : Int32).toInt = 0) ∧ (((u.2.1 4 0) : Int32).toInt ≠ 0 ∨ ((p4 : Int32).toInt + 1 ≤ ((u.2.1 0 0) : Int32).toInt ∧ (p0 : Int32).toInt ≤ (r : Int32).toInt ∧ (r : Int32).toInt ≤ (p1 : Int32).toInt)) ∧ (SIMR f0 (p6 : Int32).toInt (num (p0 : Int32).toInt (p1 : Int32).toInt) (p4 : Int32).toInt (p5 : Int32).toInt (p7 : Int32).toInt (p8 : Int32).toInt (p9 : Int32).toInt (p10 : Int32).toInt ((u.2.1 0 0) : Int32).toInt ((u.2.1 1 0) : Int32).toInt ((u.2.1 2 0) : Int32).toInt ((u.2.1 3 0) : Int32).toInt ((u.2.1 4 0) : Int32).toInt ((u.2.1 5 0) : Int32).toInt) ∧ (NMP ((u.2.1 4 0) : Int32).toInt (p7 : Int32).toInt (r : Int32).toInt (p8 : Int32).toInt) ∧ True) (fun u => (wk_253faa1b8 cy h0 p2 w0 w1 h1 w2 p3 (u.2.1 0 0) (u.2.1 1 0) p6 (u.2.1 2 0) (u.2.1 3 0) (u.2.1 4 0) (u.2.1 5 0) p11 p12 p13 w3 w4 w5 w6 w7 p14 p15 w8 w9 w10 p16 p17 w11 w12 w13 w14 w15 p18 w16 w17 w18 h1 f0)) 0 0 := sorry
set_option maxHeartbeats 4000000 in
set_option maxRecDepth 100000 in
theorem gX12_ends_bfb72aa (l : Launch) (D : va_G) (cy : Nat → ClassId) (h0 : Nat) (h1 : Nat) (h2 : Nat) (p0 : Int32) (w0 : Value) (w1 : Value) (p1 : Int32) (p2 : Int32) (p3 : Int32) (p4 : Int32) (p5 : Int32) (p6 : Int32) (p7 : Int32) (p8 : Int32) (p9 : Int32) (p10 : Int32) (p11 : Int32) (w2 : Value) (w3 : Value) (w4 : Value) (w5 : Value) (w6 : Value) (p12 : Int32) (p13 : Int32) (w7 : Value) (w8 : Value) (w9 : Value) (p14 : Int32) (p15 : Int32) (w10 : Value) (w11 : Value) (w12 : Value) (w13 : Value) (w14 : Value) (p16 : Int32) (w15 : Value) (w16 : Value) (w17 : Value) (f0 : Nat → Int32) (f1 : Nat → Int32) (p17 : Int32) (p18 : Int32) (p19 : Int32) (p20 : Int32) (hp0 : 0 ≤ (p0).toInt ∧ (p0).toInt ≤ 0) (hp1 : 0 ≤ (p1).toInt ∧ (p1).toInt ≤ 900) (hp2 : 0 ≤ (p2).toInt ∧ (p2).toInt ≤ 900) (hp3 : 0 ≤ (p3).toInt ∧ (p3).toInt ≤ 900) (hp4 : 0 ≤ (p4).toInt ∧ (p4).toInt ≤ 900) (hp5 : (-2147483648) ≤ (p5).toInt ∧ (p5).toInt ≤ 2147483647) (hp6 : 0 ≤ (p6).toInt ∧ (p6).toInt ≤ 999) (hp7 : (-2147483648) ≤ (p7).toInt ∧ (p7).toInt ≤ 2147483647) (hp8 : (-2147483648) ≤ (p8).toInt ∧ (p8).toInt ≤ 2147483647) (hp9 : (-2147483648) ≤ (p9).toInt ∧ (p9).toInt ≤ 2147483647) (hp10 : (-2147483648) ≤ (p10).toInt ∧ (p10).toInt ≤ 2147483647) (hp11 : (-2147483648) ≤ (p11).toInt ∧ (p11).toInt ≤ 2147483647) (hp12 : (-2147483648) ≤ (p12).toInt ∧ (p12).toInt ≤ 2147483647) (hp13 : (-2147483648) ≤ (p13).toInt ∧ (p13).toInt ≤ 2147483647) (hp14 : (-2147483648) ≤ (p14).toInt ∧ (p14).toInt ≤ 2147483647) (hp15 : (-2147483648) ≤ (p15).toInt ∧ (p15).toInt ≤ 2147483647) (hp16 : (-2147483648) ≤ (p16).toInt ∧ (p16).toInt ≤ 2147483647) (hp17 : 0 ≤ (p17).toInt ∧ (p17).toInt ≤ 0) (hp18 : (-2147483648) ≤ (p18).toInt ∧ (p18).toInt ≤ 2147483647) (hp19 : 0 ≤ (p19).toInt ∧ (p19).toInt ≤ 10) (hp20 : 0 ≤ (p20).toInt ∧ (p20).toInt ≤ 900) (htf1_0 : f1 0 = p17) (htf1_1 : f1 1 = p18) (htf1_2 : f1 2 = p19) (htf1_405 : f1 405 = p20) (hpre0 : 0 ≤ (p2 : Int32).toInt ∧ (p2 : Int32).toInt ≤ (p3 : Int32).toInt ∧ (p3 : Int32).toInt ≤ (p4 : Int32).toInt) (hpre1 : (p5 : Int32).toInt = 26 ∨ (p2 : Int32).toInt < (p3 : Int32).toInt) (hpre2 : (p7 : Int32).toInt ≠ 0 ∨ (p20 : Int32).toInt ≤ (p2 : Int32).toInt) (hpre3 : HF (p7 : Int32).toInt f1 ((p20 : Int32).toInt).toNat) (hpre4 : 0 ≤ (p17 : Int32).toInt ∧ (p17 : Int32).toInt ≤ 901) (sz : Nat) : MV l yX12_ends cX12_ends 1 { frames := 7, cells := 0, slots := 0, locals := 150 } [.ref h0] D cy (wk_8d528f753 cy h0 p0 w0 w1 h1 h2 p1 p2 p3 p4 p5 p6 p7 p8 p9 p10 p11 w2 w3 w4 w5 w6 p12 p13 w7 w8 w9 p14 p15 w10 w11 w12 w13 w14 p16 w15 w16 w17 h1 f0 h2 f1) sz (fun u => (1 ≤ (u.2.1 1 0).toInt ∧ (u.2.1 1 0).toInt ≤ 1) ∧ (0 ≤ (u.2.1 2 0).toInt ∧ (u.2.1 2 0).toInt ≤ 900) ∧ (0 ≤ (u.2.1 3 0).toInt ∧ (u.2.1 3 0).toInt ≤ 900) ∧ ((-2147483648) ≤ (u.2.1 4 0).toInt ∧ (u.2.1 4 0).toInt ≤ 2147483647) ∧ (0 ≤ (u.2.1 5 0).toInt ∧ (u.2.1 5 0).toInt ≤ 999) ∧ ((-2147483648) ≤ (u.2.1 6 0).toInt ∧ (u.2.1 6 0).toInt ≤ 2147483647) ∧ ((-2147483648) ≤ (u.2.1 7 0).toInt ∧ (u.2.1 7 0).toInt ≤ 2147483647) ∧ (u.2.1 0) 0 = (u.2.1 1 0) ∧ (u.2.1 0) 1 = p18 ∧ (u.2.1 0) 2 = p19 ∧ (u.2.1 0) 405 = p20 ∧ (0 ≤ ((u.2.1 2 0) : Int32).toInt ∧ ((u.2.1 2 0) : Int32).toInt ≤ ((u.2.1 3 0) : Int32).toInt ∧ ((u.2.1 3 0) : Int32).toInt ≤ (p4 : Int32).toInt) ∧ (((u.2.1 4 0) : Int32).toInt = 26 ∨ ((u.2.1 2 0) : Int32).toInt < ((u.2.1 3 0) : Int32).toInt) ∧ ((p2 : Int32).toInt ≤ ((u.2.1 2 0) : Int32).toInt) ∧ (((u.2.1 6 0) : Int32).toInt ≠ 0 ∨ (p7 : Int32).toInt = 0) ∧ (((u.2.1 6 0) : Int32).toInt ≠ 0 ∨ (p20 : Int32).toInt ≤ ((u.2.1 2 0) : Int32).toInt) ∧ (HF ((u.2.1 6 0) : Int32).toInt (u.2.1 0) ((p20 : Int32).toInt).toNat) ∧ (((u.2.1 6 0) : Int32).toInt ≠ 0 ∨ (p2 : Int32).toInt + 1 ≤ ((u.2.1 2 0) : Int32).toInt) ∧ (SIMR f0 (p4 : Int32).toInt (tak 59) (p2 : Int32).toInt (p3 : Int32).toInt (p5 : Int32).toInt (p6 : Int32).toInt (p7 : Int32).toInt (p8 : Int32).toInt ((u.2.1 2 0) : Int32).toInt ((u.2.1 3 0) : Int32).toInt ((u.2.1 4 0) : Int32).toInt ((u.2.1 5 0) : Int32).toInt ((u.2.1 6 0) : Int32).toInt ((u.2.1 7 0) : Int32).toInt) ∧ (((u.2.1 1 0) : Int32).toInt = (p17 : Int32).toInt + 1) ∧ True) (fun u => (wk_8d528f753 cy h0 p0 w0 w1 h1 h2 p1 (u.2.1 2 0) (u.2.1 3 0) p4 (u.2.1 4 0) (u.2.1 5 0) (u.2.1 6 0) (u.2.1 7 0) p9 p10 p11 w2 w3 w4 w5 w6 p12 p13 w7 w8 w9 p14 p15 w10 w11 w12 w13 w14 p16 w15 w16 w17 h1 f0 h2 (u.2.1 0))) 0 0 := sorry
set_option maxHeartbeats 4000000 in
set_option maxRecDepth 100000 in
theorem gX12_within_46f40ae (l : Launch) (D : va_G) (cy : Nat → ClassId) (j0 : Int64) (j1 : Int64) (j2 : Int64) (hj0 : (-2147483648) ≤ (j0).toInt ∧ (j0).toInt ≤ 2147483647) (hj1 : 0 ≤ (j1).toInt ∧ (j1).toInt ≤ 7) (hj2 : 0 ≤ (j2).toInt ∧ (j2).toInt ≤ 900) (sz : Nat) : MI l yX12_within cX12_within 6 .boolean { frames := 0, cells := 0, slots := 0, locals := 0 } [.long j0, .long j1, .long j2] D cy [] sz (fun r u => (0 ≤ r.toInt ∧ r.toInt ≤ 1) ∧ (((r : Int32).toInt = 1 ∧ (j1 : Int64).toInt ≤ (j0 : Int64).toInt ∧ (j0 : Int64).toInt ≤ (j2 : Int64).toInt) ∨ ((r : Int32).toInt = 0 ∧ ((j0 : Int64).toInt < (j1 : Int64).toInt ∨ (j2 : Int64).toInt < (j0 : Int64).toInt))) ∧ True) (fun u => []) 0 0 := sorry
set_option maxHeartbeats 4000000 in
set_option maxRecDepth 100000 in
theorem gX12_within_56cf88c (l : Launch) (D : va_G) (cy : Nat → ClassId) (j0 : Int64) (j1 : Int64) (j2 : Int64) (hj0 : (-2147483648) ≤ (j0).toInt ∧ (j0).toInt ≤ 2147483647) (hj1 : 0 ≤ (j1).toInt ∧ (j1).toInt ≤ 7) (hj2 : 0 ≤ (j2).toInt ∧ (j2).toInt ≤ 999) (sz : Nat) : MI l yX12_within cX12_within 6 .boolean { frames := 0, cells := 0, slots := 0, locals := 0 } [.long j0, .long j1, .long j2] D cy [] sz (fun r u => (0 ≤ r.toInt ∧ r.toInt ≤ 1) ∧ (((r : Int32).toInt = 1 ∧ (j1 : Int64).toInt ≤ (j0 : Int64).toInt ∧ (j0 : Int64).toInt ≤ (j2 : Int64).toInt) ∨ ((r : Int32).toInt = 0 ∧ ((j0 : Int64).toInt < (j1 : Int64).toInt ∨ (j2 : Int64).toInt < (j0 : Int64).toInt))) ∧ True) (fun u => []) 0 0 := sorry
set_option maxHeartbeats 4000000 in
set_option maxRecDepth 100000 in
theorem gX12_takes_d6c14a0 (l : Launch) (D : va_G) (cy : Nat → ClassId) (h0 : Nat) (h1 : Nat) (p0 : Int32) (p1 : Int32) (p2 : Int32) (w0 : Value) (w1 : Value) (w2 : Value) (p3 : Int32) (p4 : Int32) (p5 : Int32) (p6 : Int32) (p7 : Int32) (p8 : Int32) (p9 : Int32) (p10 : Int32) (p11 : Int32) (p12 : Int32) (p13 : Int32) (w3 : Value) (w4 : Value) (w5 : Value) (w6 : Value) (w7 : Value) (p14 : Int32) (p15 : Int32) (w8 : Value) (w9 : Value) (w10 : Value) (p16 : Int32) (p17 : Int32) (w11 : Value) (w12 : Value) (w13 : Value) (w14 : Value) (w15 : Value) (p18 : Int32) (w16 : Value) (w17 : Value) (w18 : Value) (f0 : Nat → Int32) (hp0 : 0 ≤ (p0).toInt ∧ (p0).toInt ≤ 1) (hp1 : 3 ≤ (p1).toInt ∧ (p1).toInt ≤ 999) (hp2 : 0 ≤ (p2).toInt ∧ (p2).toInt ≤ 0) (hp3 : 0 ≤ (p3).toInt ∧ (p3).toInt ≤ 900) (hp4 : 0 ≤ (p4).toInt ∧ (p4).toInt ≤ 900) (hp5 : 0 ≤ (p5).toInt ∧ (p5).toInt ≤ 900) (hp6 : 0 ≤ (p6).toInt ∧ (p6).toInt ≤ 900) (hp7 : (-2147483648) ≤ (p7).toInt ∧ (p7).toInt ≤ 2147483647) (hp8 : 0 ≤ (p8).toInt ∧ (p8).toInt ≤ 999) (hp9 : (-2147483648) ≤ (p9).toInt ∧ (p9).toInt ≤ 2147483647) (hp10 : (-2147483648) ≤ (p10).toInt ∧ (p10).toInt ≤ 2147483647) (hp11 : (-2147483648) ≤ (p11).toInt ∧ (p11).toInt ≤ 2147483647) (hp12 : (-2147483648) ≤ (p12).toInt ∧ (p12).toInt ≤ 2147483647) (hp13 : (-2147483648) ≤ (p13).toInt ∧ (p13).toInt ≤ 2147483647) (hp14 : (-2147483648) ≤ (p14).toInt ∧ (p14).toInt ≤ 2147483647) (hp15 : (-2147483648) ≤ (p15).toInt ∧ (p15).toInt ≤ 2147483647) (hp16 : (-2147483648) ≤ (p16).toInt ∧ (p16).toInt ≤ 2147483647) (hp17 : (-2147483648) ≤ (p17).toInt ∧ (p17).toInt ≤ 2147483647) (hp18 : (-2147483648) ≤ (p18).toInt ∧ (p18).toInt ≤ 2147483647) (hpre0 : 0 ≤ (p4 : Int32).toInt ∧ (p4 : Int32).toInt ≤ (p5 : Int32).toInt ∧ (p5 : Int32).toInt ≤ (p6 : Int32).toInt) (hpre1 : (p7 : Int32).toInt = 26 ∨ (p4 : Int32).toInt < (p5 : Int32).toInt) (sz : Nat) : MI l yX12_takes cX12_takes 4 .int { frames := 6, cells := 0, slots := 0, locals := 129 } [.ref h0, .int p0, .int p1] D cy (wk_253faa1b8 cy h0 p2 w0 w1 h1 w2 p3 p4 p5 p6 p7 p8 p9 p10 p11 p12 p13 w3 w4 w5 w6 w7 p14 p15 w8 w9 w10 p16 p17 w11 w12 w13 w14 w15 p18 w16 w17 w18 h1 f0) sz (fun r u => (0 ≤ r.toInt ∧ r.toInt ≤ 999) ∧ (0 ≤ (u.2.1 0 0).toInt ∧ (u.2.1 0 0).toInt ≤ 900) ∧ (0 ≤ (u.2.1 1 0).toInt ∧ (u.2.1 1 0).toInt ≤ 900) ∧ ((-2147483648) ≤ (u.2.1 2 0).toInt ∧ (u.2.1 2 0).toInt ≤ 2147483647) ∧ (0 ≤ (u.2.1 3 0).toInt ∧ (u.2.1 3 0).toInt ≤ 999) ∧ ((-2147483648) ≤ (u.2.1 4 0).toInt ∧ (u.2.1 4 0).toInt ≤ 2147483647) ∧ ((-2147483648) ≤ (u.2.1 5 0).toInt ∧ (u.2.1 5 0).toInt ≤ 2147483647) ∧ (0 ≤ ((u.2.1 0 0) : Int32).toInt ∧ ((u.2.1 0 0) : Int32).toInt ≤ ((u.2.1 1 0) : Int32).toInt ∧ ((u.2.1 1 0) : Int32).toInt ≤ (p6 : Int32).toInt) ∧ (((u.2.1 2 0) : Int32).toInt = 26 ∨ ((u.2.1 0 0) : Int32).toInt < ((u.2.1 1 0) : Int32).toInt) ∧ ((p4 : Int32).toInt ≤ ((u.2.1 0 0) : Int32).toInt) ∧ (((u.2.1 4 0) : Int32).toInt ≠ 0 ∨ (p9 : Int32).toInt = 0) ∧ (((u.2.1 4 0) : Int32).toInt ≠ 0 ∨ ((p4 : Int32).toInt + 1 ≤ ((u.2.1 0 0) : Int32).toInt ∧ (p0 : Int32).toInt ≤ (r : Int32).toInt ∧ (r : Int32).toInt ≤ (p1 : Int32).toInt)) ∧ (SIMR f0 (p6 : Int32).toInt (num (p0 : Int32).toInt (p1 : Int32).toInt) (p4 : Int32).toInt (p5 : Int32).toInt (p7 : Int32).toInt (p8 : Int32).toInt (p9 : Int32).toInt (p10 : Int32).toInt ((u.2.1 0 0) : Int32).toInt ((u.2.1 1 0) : Int32).toInt ((u.2.1 2 0) : Int32).toInt ((u.2.1 3 0) : Int32).toInt ((u.2.1 4 0) : Int32).toInt ((u.2.1 5 0) : Int32).toInt) ∧ (NMP ((u.2.1 4 0) : Int32).toInt (p7 : Int32).toInt (r : Int32).toInt (p8 : Int32).toInt) ∧ True) (fun u => (wk_253faa1b8 cy h0 p2 w0 w1 h1 w2 p3 (u.2.1 0 0) (u.2.1 1 0) p6 (u.2.1 2 0) (u.2.1 3 0) (u.2.1 4 0) (u.2.1 5 0) p11 p12 p13 w3 w4 w5 w6 w7 p14 p15 w8 w9 w10 p16 p17 w11 w12 w13 w14 w15 p18 w16 w17 w18 h1 f0)) 0 0 := sorry
set_option maxHeartbeats 4000000 in
set_option maxRecDepth 100000 in
theorem gX12_readLaw_a33b21e (l : Launch) (D : va_G) (cy : Nat → ClassId) (h0 : Nat) (h1 : Nat) (h2 : Nat) (p0 : Int32) (p1 : Int32) (w0 : Value) (w1 : Value) (p2 : Int32) (p3 : Int32) (p4 : Int32) (p5 : Int32) (p6 : Int32) (p7 : Int32) (p8 : Int32) (p9 : Int32) (p10 : Int32) (p11 : Int32) (p12 : Int32) (w2 : Value) (w3 : Value) (w4 : Value) (w5 : Value) (w6 : Value) (p13 : Int32) (p14 : Int32) (w7 : Value) (w8 : Value) (w9 : Value) (p15 : Int32) (p16 : Int32) (w10 : Value) (w11 : Value) (w12 : Value) (w13 : Value) (w14 : Value) (p17 : Int32) (w15 : Value) (w16 : Value) (w17 : Value) (f0 : Nat → Int32) (f1 : Nat → Int32) (p18 : Int32) (p19 : Int32) (p20 : Int32) (p21 : Int32) (hp0 : 0 ≤ (p0).toInt ∧ (p0).toInt ≤ 2) (hp1 : 0 ≤ (p1).toInt ∧ (p1).toInt ≤ 0) (hp2 : 0 ≤ (p2).toInt ∧ (p2).toInt ≤ 900) (hp3 : 0 ≤ (p3).toInt ∧ (p3).toInt ≤ 900) (hp4 : 0 ≤ (p4).toInt ∧ (p4).toInt ≤ 900) (hp5 : 0 ≤ (p5).toInt ∧ (p5).toInt ≤ 900) (hp6 : (-2147483648) ≤ (p6).toInt ∧ (p6).toInt ≤ 2147483647) (hp7 : 0 ≤ (p7).toInt ∧ (p7).toInt ≤ 999) (hp8 : (-2147483648) ≤ (p8).toInt ∧ (p8).toInt ≤ 2147483647) (hp9 : (-2147483648) ≤ (p9).toInt ∧ (p9).toInt ≤ 2147483647) (hp10 : (-2147483648) ≤ (p10).toInt ∧ (p10).toInt ≤ 2147483647) (hp11 : (-2147483648) ≤ (p11).toInt ∧ (p11).toInt ≤ 2147483647) (hp12 : (-2147483648) ≤ (p12).toInt ∧ (p12).toInt ≤ 2147483647) (hp13 : (-2147483648) ≤ (p13).toInt ∧ (p13).toInt ≤ 2147483647) (hp14 : (-2147483648) ≤ (p14).toInt ∧ (p14).toInt ≤ 2147483647) (hp15 : (-2147483648) ≤ (p15).toInt ∧ (p15).toInt ≤ 2147483647) (hp16 : (-2147483648) ≤ (p16).toInt ∧ (p16).toInt ≤ 2147483647) (hp17 : (-2147483648) ≤ (p17).toInt ∧ (p17).toInt ≤ 2147483647) (hp18 : 0 ≤ (p18).toInt ∧ (p18).toInt ≤ 901) (hp19 : (-2147483648) ≤ (p19).toInt ∧ (p19).toInt ≤ 2147483647) (hp20 : 0 ≤ (p20).toInt ∧ (p20).toInt ≤ 10) (hp21 : 0 ≤ (p21).toInt ∧ (p21).toInt ≤ 900) (htf1_0 : f1 0 = p18) (htf1_1 : f1 1 = p19) (htf1_2 : f1 2 = p20) (htf1_405 : f1 405 = p21) (hpre0 : 0 ≤ (p3 : Int32).toInt ∧ (p3 : Int32).toInt ≤ (p4 : Int32).toInt ∧ (p4 : Int32).toInt ≤ (p5 : Int32).toInt) (hpre1 : (p6 : Int32).toInt = 26 ∨ (p3 : Int32).toInt < (p4 : Int32).toInt) (hpre2 : (p8 : Int32).toInt ≠ 0 ∨ (p21 : Int32).toInt ≤ (p3 : Int32).toInt) (hpre3 : HF (p8 : Int32).toInt f1 ((p21 : Int32).toInt).toNat) (hpre4 : (p6 : Int32).toInt ≠ 26) (hpre5 : (p6 : Int32).toInt = 7 + (p0 : Int32).toInt ∧ (p8 : Int32).toInt = 0 ∧ 0 ≤ (p0 : Int32).toInt ∧ (p0 : Int32).toInt ≤ 2) (sz : Nat) : MV l yX12_readLaw cX12_readLaw 3 { frames := 31, cells := 0, slots := 0, locals := 758 } [.ref h0, .int p0] D cy (wk_8d528f753 cy h0 p1 w0 w1 h1 h2 p2 p3 p4 p5 p6 p7 p8 p9 p10 p11 p12 w2 w3 w4 w5 w6 p13 p14 w7 w8 w9 p15 p16 w10 w11 w12 w13 w14 p17 w15 w16 w17 h1 f0 h2 f1) sz (fun u => (0 ≤ (u.2.1 0 0).toInt ∧ (u.2.1 0 0).toInt ≤ 900) ∧ (0 ≤ (u.2.1 1 0).toInt ∧ (u.2.1 1 0).toInt ≤ 900) ∧ ((-2147483648) ≤ (u.2.1 2 0).toInt ∧ (u.2.1 2 0).toInt ≤ 2147483647) ∧ (0 ≤ (u.2.1 3 0).toInt ∧ (u.2.1 3 0).toInt ≤ 999) ∧ ((-2147483648) ≤ (u.2.1 4 0).toInt ∧ (u.2.1 4 0).toInt ≤ 2147483647) ∧ ((-2147483648) ≤ (u.2.1 5 0).toInt ∧ (u.2.1 5 0).toInt ≤ 2147483647) ∧ (0 ≤ (u.2.1 6 0).toInt ∧ (u.2.1 6 0).toInt ≤ 2) ∧ (0 ≤ (u.2.1 8 0).toInt ∧ (u.2.1 8 0).toInt ≤ 900) ∧ (u.2.1 7) 0 = p18 ∧ (u.2.1 7) 1 = p19 ∧ (u.2.1 7) 2 = p20 ∧ (u.2.1 7) 405 = (u.2.1 8 0) ∧ (0 ≤ ((u.2.1 0 0) : Int32).toInt ∧ ((u.2.1 0 0) : Int32).toInt ≤ ((u.2.1 1 0) : Int32).toInt ∧ ((u.2.1 1 0) : Int32).toInt ≤ (p5 : Int32).toInt) ∧ (((u.2.1 2 0) : Int32).toInt = 26 ∨ ((u.2.1 0 0) : Int32).toInt < ((u.2.1 1 0) : Int32).toInt) ∧ ((p3 : Int32).toInt ≤ ((u.2.1 0 0) : Int32).toInt) ∧ (((u.2.1 4 0) : Int32).toInt ≠ 0 ∨ (p8 : Int32).toInt = 0) ∧ (((u.2.1 4 0) : Int32).toInt ≠ 0 ∨ ((u.2.1 8 0) : Int32).toInt ≤ ((u.2.1 0 0) : Int32).toInt) ∧ (HF ((u.2.1 4 0) : Int32).toInt (u.2.1 7) (((u.2.1 8 0) : Int32).toInt).toNat) ∧ (SIMR f0 (p5 : Int32).toInt (lawS (nmR (p0 : Int32).toInt)) (p3 : Int32).toInt (p4 : Int32).toInt (p6 : Int32).toInt (p7 : Int32).toInt (p8 : Int32).toInt (p9 : Int32).toInt ((u.2.1 0 0) : Int32).toInt ((u.2.1 1 0) : Int32).toInt ((u.2.1 2 0) : Int32).toInt ((u.2.1 3 0) : Int32).toInt ((u.2.1 4 0) : Int32).toInt ((u.2.1 5 0) : Int32).toInt) ∧ True) (fun u => (wk_8d528f753 cy h0 p1 w0 w1 h1 h2 p2 (u.2.1 0 0) (u.2.1 1 0) p5 (u.2.1 2 0) (u.2.1 3 0) (u.2.1 4 0) (u.2.1 5 0) p10 p11 (u.2.1 6 0) w2 w3 w4 w5 w6 p13 p14 w7 w8 w9 p15 p16 w10 w11 w12 w13 w14 p17 w15 w16 w17 h1 f0 h2 (u.2.1 7))) 0 0 := sorry
set_option maxHeartbeats 4000000 in
set_option maxRecDepth 100000 in
theorem gX12_readFlag_8ad17ec (l : Launch) (D : va_G) (cy : Nat → ClassId) (h0 : Nat) (h1 : Nat) (h2 : Nat) (p0 : Int32) (p1 : Int32) (w0 : Value) (w1 : Value) (p2 : Int32) (p3 : Int32) (p4 : Int32) (p5 : Int32) (p6 : Int32) (p7 : Int32) (p8 : Int32) (p9 : Int32) (p10 : Int32) (p11 : Int32) (p12 : Int32) (w2 : Value) (w3 : Value) (w4 : Value) (w5 : Value) (w6 : Value) (p13 : Int32) (p14 : Int32) (w7 : Value) (w8 : Value) (w9 : Value) (p15 : Int32) (p16 : Int32) (w10 : Value) (w11 : Value) (w12 : Value) (w13 : Value) (w14 : Value) (p17 : Int32) (w15 : Value) (w16 : Value) (w17 : Value) (f0 : Nat → Int32) (f1 : Nat → Int32) (p18 : Int32) (p19 : Int32) (p20 : Int32) (hp0 : 0 ≤ (p0).toInt ∧ (p0).toInt ≤ 10) (hp1 : 0 ≤ (p1).toInt ∧ (p1).toInt ≤ 0) (hp2 : 0 ≤ (p2).toInt ∧ (p2).toInt ≤ 900) (hp3 : 0 ≤ (p3).toInt ∧ (p3).toInt ≤ 900) (hp4 : 0 ≤ (p4).toInt ∧ (p4).toInt ≤ 900) (hp5 : 0 ≤ (p5).toInt ∧ (p5).toInt ≤ 900) (hp6 : (-2147483648) ≤ (p6).toInt ∧ (p6).toInt ≤ 2147483647) (hp7 : 0 ≤ (p7).toInt ∧ (p7).toInt ≤ 999) (hp8 : (-2147483648) ≤ (p8).toInt ∧ (p8).toInt ≤ 2147483647) (hp9 : (-2147483648) ≤ (p9).toInt ∧ (p9).toInt ≤ 2147483647) (hp10 : (-2147483648) ≤ (p10).toInt ∧ (p10).toInt ≤ 2147483647) (hp11 : (-2147483648) ≤ (p11).toInt ∧ (p11).toInt ≤ 2147483647) (hp12 : (-2147483648) ≤ (p12).toInt ∧ (p12).toInt ≤ 2147483647) (hp13 : (-2147483648) ≤ (p13).toInt ∧ (p13).toInt ≤ 2147483647) (hp14 : (-2147483648) ≤ (p14).toInt ∧ (p14).toInt ≤ 2147483647) (hp15 : (-2147483648) ≤ (p15).toInt ∧ (p15).toInt ≤ 2147483647) (hp16 : (-2147483648) ≤ (p16).toInt ∧ (p16).toInt ≤ 2147483647) (hp17 : (-2147483648) ≤ (p17).toInt ∧ (p17).toInt ≤ 2147483647) (hp18 : 0 ≤ (p18).toInt ∧ (p18).toInt ≤ 901) (hp19 : (-2147483648) ≤ (p19).toInt ∧ (p19).toInt ≤ 2147483647) (hp20 : 0 ≤ (p20).toInt ∧ (p20).toInt ≤ 900) (htf1_0 : f1 0 = p18) (htf1_1 : f1 1 = p19) (htf1_2 : f1 2 = p0) (htf1_405 : f1 405 = p20) (hpre0 : 0 ≤ (p3 : Int32).toInt ∧ (p3 : Int32).toInt ≤ (p4 : Int32).toInt ∧ (p4 : Int32).toInt ≤ (p5 : Int32).toInt) (hpre1 : (p6 : Int32).toInt = 26 ∨ (p3 : Int32).toInt < (p4 : Int32).toInt) (hpre2 : HF (p8 : Int32).toInt f1 ((p20 : Int32).toInt).toNat) (sz : Nat) : MI l yX12_readFlag cX12_readFlag 4 .boolean { frames := 7, cells := 0, slots := 0, locals := 152 } [.ref h0, .int p0] D cy (wk_8d528f753 cy h0 p1 w0 w1 h1 h2 p2 p3 p4 p5 p6 p7 p8 p9 p10 p11 p12 w2 w3 w4 w5 w6 p13 p14 w7 w8 w9 p15 p16 w10 w11 w12 w13 w14 p17 w15 w16 w17 h1 f0 h2 f1) sz (fun r u => (0 ≤ r.toInt ∧ r.toInt ≤ 1) ∧ (0 ≤ (u.2.1 0 0).toInt ∧ (u.2.1 0 0).toInt ≤ 900) ∧ (0 ≤ (u.2.1 1 0).toInt ∧ (u.2.1 1 0).toInt ≤ 900) ∧ ((-2147483648) ≤ (u.2.1 2 0).toInt ∧ (u.2.1 2 0).toInt ≤ 2147483647) ∧ (0 ≤ (u.2.1 3 0).toInt ∧ (u.2.1 3 0).toInt ≤ 999) ∧ ((-2147483648) ≤ (u.2.1 5 0).toInt ∧ (u.2.1 5 0).toInt ≤ 2147483647) ∧ ((-2147483648) ≤ (u.2.1 6 0).toInt ∧ (u.2.1 6 0).toInt ≤ 2147483647) ∧ (u.2.1 4) 0 = p18 ∧ (u.2.1 4) 1 = p19 ∧ (u.2.1 4) 2 = p0 ∧ (u.2.1 4) 405 = p20 ∧ (0 ≤ ((u.2.1 0 0) : Int32).toInt ∧ ((u.2.1 0 0) : Int32).toInt ≤ ((u.2.1 1 0) : Int32).toInt ∧ ((u.2.1 1 0) : Int32).toInt ≤ (p5 : Int32).toInt) ∧ (((u.2.1 2 0) : Int32).toInt = 26 ∨ ((u.2.1 0 0) : Int32).toInt < ((u.2.1 1 0) : Int32).toInt) ∧ ((p3 : Int32).toInt ≤ ((u.2.1 0 0) : Int32).toInt) ∧ (((u.2.1 5 0) : Int32).toInt ≠ 0 ∨ (p8 : Int32).toInt = 0) ∧ (HF ((u.2.1 5 0) : Int32).toInt (u.2.1 4) ((p20 : Int32).toInt).toNat) ∧ ((r : Int32).toInt = 0 ∨ (p3 : Int32).toInt + 1 ≤ ((u.2.1 0 0) : Int32).toInt) ∧ (FLGR f0 (p5 : Int32).toInt (r : Int32).toInt (p3 : Int32).toInt (p4 : Int32).toInt (p6 : Int32).toInt (p7 : Int32).toInt (p8 : Int32).toInt (p9 : Int32).toInt ((u.2.1 0 0) : Int32).toInt ((u.2.1 1 0) : Int32).toInt ((u.2.1 2 0) : Int32).toInt ((u.2.1 3 0) : Int32).toInt ((u.2.1 5 0) : Int32).toInt ((u.2.1 6 0) : Int32).toInt) ∧ True) (fun u => (wk_8d528f753 cy h0 p1 w0 w1 h1 h2 p2 (u.2.1 0 0) (u.2.1 1 0) p5 (u.2.1 2 0) (u.2.1 3 0) (u.2.1 5 0) (u.2.1 6 0) p10 p11 p12 w2 w3 w4 w5 w6 p13 p14 w7 w8 w9 p15 p16 w10 w11 w12 w13 w14 p17 w15 w16 w17 h1 f0 h2 (u.2.1 4))) 0 0 := sorry
set_option maxHeartbeats 4000000 in
set_option maxRecDepth 100000 in
theorem gX12_readPerson_f8da6b9 (l : Launch) (D : va_G) (cy : Nat → ClassId) (h0 : Nat) (h1 : Nat) (h2 : Nat) (p0 : Int32) (w0 : Value) (w1 : Value) (p1 : Int32) (p2 : Int32) (p3 : Int32) (p4 : Int32) (p5 : Int32) (p6 : Int32) (p7 : Int32) (p8 : Int32) (p9 : Int32) (p10 : Int32) (p11 : Int32) (w2 : Value) (w3 : Value) (w4 : Value) (w5 : Value) (w6 : Value) (p12 : Int32) (p13 : Int32) (w7 : Value) (w8 : Value) (w9 : Value) (p14 : Int32) (p15 : Int32) (w10 : Value) (w11 : Value) (w12 : Value) (w13 : Value) (w14 : Value) (p16 : Int32) (w15 : Value) (w16 : Value) (w17 : Value) (f0 : Nat → Int32) (f1 : Nat → Int32) (p17 : Int32) (p18 : Int32) (p19 : Int32) (p20 : Int32) (hp0 : 0 ≤ (p0).toInt ∧ (p0).toInt ≤ 0) (hp1 : 0 ≤ (p1).toInt ∧ (p1).toInt ≤ 900) (hp2 : 0 ≤ (p2).toInt ∧ (p2).toInt ≤ 900) (hp3 : 0 ≤ (p3).toInt ∧ (p3).toInt ≤ 900) (hp4 : 0 ≤ (p4).toInt ∧ (p4).toInt ≤ 900) (hp5 : (-2147483648) ≤ (p5).toInt ∧ (p5).toInt ≤ 2147483647) (hp6 : 0 ≤ (p6).toInt ∧ (p6).toInt ≤ 999) (hp7 : (-2147483648) ≤ (p7).toInt ∧ (p7).toInt ≤ 2147483647) (hp8 : (-2147483648) ≤ (p8).toInt ∧ (p8).toInt ≤ 2147483647) (hp9 : (-2147483648) ≤ (p9).toInt ∧ (p9).toInt ≤ 2147483647) (hp10 : (-2147483648) ≤ (p10).toInt ∧ (p10).toInt ≤ 2147483647) (hp11 : (-2147483648) ≤ (p11).toInt ∧ (p11).toInt ≤ 2147483647) (hp12 : (-2147483648) ≤ (p12).toInt ∧ (p12).toInt ≤ 2147483647) (hp13 : (-2147483648) ≤ (p13).toInt ∧ (p13).toInt ≤ 2147483647) (hp14 : (-2147483648) ≤ (p14).toInt ∧ (p14).toInt ≤ 2147483647) (hp15 : (-2147483648) ≤ (p15).toInt ∧ (p15).toInt ≤ 2147483647) (hp16 : (-2147483648) ≤ (p16).toInt ∧ (p16).toInt ≤ 2147483647) (hp17 : 0 ≤ (p17).toInt ∧ (p17).toInt ≤ 901) (hp18 : (-2147483648) ≤ (p18).toInt ∧ (p18).toInt ≤ 2147483647) (hp19 : 0 ≤ (p19).toInt ∧ (p19).toInt ≤ 10) (hp20 : 0 ≤ (p20).toInt ∧ (p20).toInt ≤ 900) (htf1_0 : f1 0 = p17) (htf1_1 : f1 1 = p18) (htf1_2 : f1 2 = p19) (htf1_405 : f1 405 = p20) (hpre0 : 0 ≤ (p2 : Int32).toInt ∧ (p2 : Int32).toInt ≤ (p3 : Int32).toInt ∧ (p3 : Int32).toInt ≤ (p4 : Int32).toInt) (hpre1 : (p5 : Int32).toInt = 26 ∨ (p2 : Int32).toInt < (p3 : Int32).toInt) (hpre2 : HF (p7 : Int32).toInt f1 ((p20 : Int32).toInt).toNat) (hpre3 : (p5 : Int32).toInt = 2) (hpre4 : 0 ≤ (p18 : Int32).toInt ∧ (p18 : Int32).toInt ≤ 3) (hpre5 : (p7 : Int32).toInt = 0) (sz : Nat) : MV l yX12_readPerson cX12_readPerson 3 { frames := 8, cells := 0, slots := 0, locals := 175 } [.ref h0] D cy (wk_8d528f753 cy h0 p0 w0 w1 h1 h2 p1 p2 p3 p4 p5 p6 p7 p8 p9 p10 p11 w2 w3 w4 w5 w6 p12 p13 w7 w8 w9 p14 p15 w10 w11 w12 w13 w14 p16 w15 w16 w17 h1 f0 h2 f1) sz (fun u => (0 ≤ (u.2.1 1 0).toInt ∧ (u.2.1 1 0).toInt ≤ 900) ∧ (0 ≤ (u.2.1 2 0).toInt ∧ (u.2.1 2 0).toInt ≤ 900) ∧ ((-2147483648) ≤ (u.2.1 3 0).toInt ∧ (u.2.1 3 0).toInt ≤ 2147483647) ∧ (0 ≤ (u.2.1 4 0).toInt ∧ (u.2.1 4 0).toInt ≤ 999) ∧ ((-2147483648) ≤ (u.2.1 5 0).toInt ∧ (u.2.1 5 0).toInt ≤ 2147483647) ∧ ((-2147483648) ≤ (u.2.1 6 0).toInt ∧ (u.2.1 6 0).toInt ≤ 2147483647) ∧ (0 ≤ (u.2.1 7 0).toInt ∧ (u.2.1 7 0).toInt ≤ 10) ∧ (u.2.1 0) 0 = p17 ∧ (u.2.1 0) 1 = p18 ∧ (u.2.1 0) 2 = (u.2.1 7 0) ∧ (u.2.1 0) 405 = p20 ∧ (0 ≤ ((u.2.1 1 0) : Int32).toInt ∧ ((u.2.1 1 0) : Int32).toInt ≤ ((u.2.1 2 0) : Int32).toInt ∧ ((u.2.1 2 0) : Int32).toInt ≤ (p4 : Int32).toInt) ∧ (((u.2.1 3 0) : Int32).toInt = 26 ∨ ((u.2.1 1 0) : Int32).toInt < ((u.2.1 2 0) : Int32).toInt) ∧ ((p2 : Int32).toInt ≤ ((u.2.1 1 0) : Int32).toInt) ∧ (((u.2.1 5 0) : Int32).toInt ≠ 0 ∨ (p7 : Int32).toInt = 0) ∧ (HF ((u.2.1 5 0) : Int32).toInt (u.2.1 0) ((p20 : Int32).toInt).toNat) ∧ (SIMR f0 (p4 : Int32).toInt (persS (p18 : Int32).toInt (p19 : Int32).toInt) (p2 : Int32).toInt (p3 : Int32).toInt (p5 : Int32).toInt (p6 : Int32).toInt (p7 : Int32).toInt (p8 : Int32).toInt ((u.2.1 1 0) : Int32).toInt ((u.2.1 2 0) : Int32).toInt ((u.2.1 3 0) : Int32).toInt ((u.2.1 4 0) : Int32).toInt ((u.2.1 5 0) : Int32).toInt ((u.2.1 6 0) : Int32).toInt) ∧ (((u.2.1 5 0) : Int32).toInt ≠ 0 ∨ ((u.2.1 7 0) : Int32).toInt = (p19 : Int32).toInt + 1) ∧ True) (fun u => (wk_8d528f753 cy h0 p0 w0 w1 h1 h2 p1 (u.2.1 1 0) (u.2.1 2 0) p4 (u.2.1 3 0) (u.2.1 4 0) (u.2.1 5 0) (u.2.1 6 0) p9 p10 p11 w2 w3 w4 w5 w6 p12 p13 w7 w8 w9 p14 p15 w10 w11 w12 w13 w14 p16 w15 w16 w17 h1 f0 h2 (u.2.1 0))) 0 0 := sorry
set_option maxHeartbeats 4000000 in
set_option maxRecDepth 100000 in
theorem gX12_readLine_c526700 (l : Launch) (D : va_G) (cy : Nat → ClassId) (h0 : Nat) (h1 : Nat) (h2 : Nat) (p0 : Int32) (w0 : Value) (w1 : Value) (p1 : Int32) (p2 : Int32) (p3 : Int32) (p4 : Int32) (p5 : Int32) (p6 : Int32) (p7 : Int32) (p8 : Int32) (p9 : Int32) (p10 : Int32) (p11 : Int32) (w2 : Value) (w3 : Value) (w4 : Value) (w5 : Value) (w6 : Value) (p12 : Int32) (p13 : Int32) (w7 : Value) (w8 : Value) (w9 : Value) (p14 : Int32) (p15 : Int32) (w10 : Value) (w11 : Value) (w12 : Value) (w13 : Value) (w14 : Value) (p16 : Int32) (w15 : Value) (w16 : Value) (w17 : Value) (f0 : Nat → Int32) (f1 : Nat → Int32) (p17 : Int32) (p18 : Int32) (p19 : Int32) (p20 : Int32) (hp0 : 0 ≤ (p0).toInt ∧ (p0).toInt ≤ 0) (hp1 : 0 ≤ (p1).toInt ∧ (p1).toInt ≤ 900) (hp2 : 0 ≤ (p2).toInt ∧ (p2).toInt ≤ 900) (hp3 : 0 ≤ (p3).toInt ∧ (p3).toInt ≤ 900) (hp4 : 0 ≤ (p4).toInt ∧ (p4).toInt ≤ 900) (hp5 : (-2147483648) ≤ (p5).toInt ∧ (p5).toInt ≤ 2147483647) (hp6 : 0 ≤ (p6).toInt ∧ (p6).toInt ≤ 999) (hp7 : (-2147483648) ≤ (p7).toInt ∧ (p7).toInt ≤ 2147483647) (hp8 : (-2147483648) ≤ (p8).toInt ∧ (p8).toInt ≤ 2147483647) (hp9 : (-2147483648) ≤ (p9).toInt ∧ (p9).toInt ≤ 2147483647) (hp10 : (-2147483648) ≤ (p10).toInt ∧ (p10).toInt ≤ 2147483647) (hp11 : (-2147483648) ≤ (p11).toInt ∧ (p11).toInt ≤ 2147483647) (hp12 : (-2147483648) ≤ (p12).toInt ∧ (p12).toInt ≤ 2147483647) (hp13 : (-2147483648) ≤ (p13).toInt ∧ (p13).toInt ≤ 2147483647) (hp14 : (-2147483648) ≤ (p14).toInt ∧ (p14).toInt ≤ 2147483647) (hp15 : (-2147483648) ≤ (p15).toInt ∧ (p15).toInt ≤ 2147483647) (hp16 : (-2147483648) ≤ (p16).toInt ∧ (p16).toInt ≤ 2147483647) (hp17 : 0 ≤ (p17).toInt ∧ (p17).toInt ≤ 901) (hp18 : (-2147483648) ≤ (p18).toInt ∧ (p18).toInt ≤ 2147483647) (hp19 : 0 ≤ (p19).toInt ∧ (p19).toInt ≤ 10) (hp20 : 0 ≤ (p20).toInt ∧ (p20).toInt ≤ 900) (htf1_0 : f1 0 = p17) (htf1_1 : f1 1 = p18) (htf1_2 : f1 2 = p19) (htf1_405 : f1 405 = p20) (hpre0 : 0 ≤ (p2 : Int32).toInt ∧ (p2 : Int32).toInt ≤ (p3 : Int32).toInt ∧ (p3 : Int32).toInt ≤ (p4 : Int32).toInt) (hpre1 : (p5 : Int32).toInt = 26 ∨ (p2 : Int32).toInt < (p3 : Int32).toInt) (hpre2 : (p7 : Int32).toInt ≠ 0 ∨ (p20 : Int32).toInt ≤ (p2 : Int32).toInt) (hpre3 : HF (p7 : Int32).toInt f1 ((p20 : Int32).toInt).toNat) (hpre4 : (p7 : Int32).toInt ≠ 0 ∨ (0 ≤ (p18 : Int32).toInt ∧ (p18 : Int32).toInt ≤ 3)) (sz : Nat) : MV l yX12_readLine cX12_readLine 1 { frames := 32, cells := 0, slots := 0, locals := 780 } [.ref h0] D cy (wk_8d528f753 cy h0 p0 w0 w1 h1 h2 p1 p2 p3 p4 p5 p6 p7 p8 p9 p10 p11 w2 w3 w4 w5 w6 p12 p13 w7 w8 w9 p14 p15 w10 w11 w12 w13 w14 p16 w15 w16 w17 h1 f0 h2 f1) sz (fun u => (0 ≤ (u.2.1 0 0).toInt ∧ (u.2.1 0 0).toInt ≤ 900) ∧ (0 ≤ (u.2.1 1 0).toInt ∧ (u.2.1 1 0).toInt ≤ 900) ∧ ((-2147483648) ≤ (u.2.1 2 0).toInt ∧ (u.2.1 2 0).toInt ≤ 2147483647) ∧ (0 ≤ (u.2.1 3 0).toInt ∧ (u.2.1 3 0).toInt ≤ 999) ∧ ((-2147483648) ≤ (u.2.1 4 0).toInt ∧ (u.2.1 4 0).toInt ≤ 2147483647) ∧ ((-2147483648) ≤ (u.2.1 5 0).toInt ∧ (u.2.1 5 0).toInt ≤ 2147483647) ∧ ((-2147483648) ≤ (u.2.1 7 0).toInt ∧ (u.2.1 7 0).toInt ≤ 2147483647) ∧ (0 ≤ (u.2.1 8 0).toInt ∧ (u.2.1 8 0).toInt ≤ 900) ∧ (0 ≤ (u.2.1 9 0).toInt ∧ (u.2.1 9 0).toInt ≤ 10) ∧ (u.2.1 6) 0 = p17 ∧ (u.2.1 6) 1 = p18 ∧ (u.2.1 6) 2 = (u.2.1 9 0) ∧ (u.2.1 6) 405 = (u.2.1 8 0) ∧ (0 ≤ ((u.2.1 0 0) : Int32).toInt ∧ ((u.2.1 0 0) : Int32).toInt ≤ ((u.2.1 1 0) : Int32).toInt ∧ ((u.2.1 1 0) : Int32).toInt ≤ (p4 : Int32).toInt) ∧ (((u.2.1 2 0) : Int32).toInt = 26 ∨ ((u.2.1 0 0) : Int32).toInt < ((u.2.1 1 0) : Int32).toInt) ∧ ((p2 : Int32).toInt ≤ ((u.2.1 0 0) : Int32).toInt) ∧ (((u.2.1 4 0) : Int32).toInt ≠ 0 ∨ (p7 : Int32).toInt = 0) ∧ (((u.2.1 4 0) : Int32).toInt ≠ 0 ∨ ((u.2.1 8 0) : Int32).toInt ≤ ((u.2.1 0 0) : Int32).toInt) ∧ (HF ((u.2.1 4 0) : Int32).toInt (u.2.1 6) (((u.2.1 8 0) : Int32).toInt).toNat) ∧ (SIMR f0 (p4 : Int32).toInt (lineS (p18 : Int32).toInt (p19 : Int32).toInt) (p2 : Int32).toInt (p3 : Int32).toInt (p5 : Int32).toInt (p6 : Int32).toInt (p7 : Int32).toInt (p8 : Int32).toInt ((u.2.1 0 0) : Int32).toInt ((u.2.1 1 0) : Int32).toInt ((u.2.1 2 0) : Int32).toInt ((u.2.1 3 0) : Int32).toInt ((u.2.1 4 0) : Int32).toInt ((u.2.1 5 0) : Int32).toInt) ∧ (((u.2.1 4 0) : Int32).toInt ≠ 0 ∨ ((p5 : Int32).toInt = 2 ∧ ((u.2.1 9 0) : Int32).toInt = (p19 : Int32).toInt + 1) ∨ ((p5 : Int32).toInt ≠ 2 ∧ ((u.2.1 9 0) : Int32).toInt = (p19 : Int32).toInt)) ∧ ((p17 : Int32).toInt = (p17 : Int32).toInt) ∧ True) (fun u => (wk_8d528f753 cy h0 p0 w0 w1 h1 h2 p1 (u.2.1 0 0) (u.2.1 1 0) p4 (u.2.1 2 0) (u.2.1 3 0) (u.2.1 4 0) (u.2.1 5 0) p9 p10 (u.2.1 7 0) w2 w3 w4 w5 w6 p12 p13 w7 w8 w9 p14 p15 w10 w11 w12 w13 w14 p16 w15 w16 w17 h1 f0 h2 (u.2.1 6))) 0 0 := sorry
set_option maxHeartbeats 60000000 in
set_option maxRecDepth 100000 in
theorem gX12_house_f76b5d3 (l : Launch) (D : va_G) (cy : Nat → ClassId) (h0 : Nat) (h1 : Nat) (h2 : Nat) (h3 : Nat) (p0 : Int32) (p1 : Int32) (w0 : Value) (p2 : Int32) (p3 : Int32) (p4 : Int32) (p5 : Int32) (p6 : Int32) (p7 : Int32) (p8 : Int32) (p9 : Int32) (p10 : Int32) (p11 : Int32) (p12 : Int32) (w1 : Value) (w2 : Value) (w3 : Value) (w4 : Value) (w5 : Value) (p13 : Int32) (p14 : Int32) (w6 : Value) (w7 : Value) (w8 : Value) (p15 : Int32) (p16 : Int32) (w9 : Value) (w10 : Value) (w11 : Value) (w12 : Value) (w13 : Value) (p17 : Int32) (w14 : Value) (w15 : Value) (w16 : Value) (f0 : Nat → Int32) (p18 : Int32) (f1 : Nat → Int32) (f2 : Nat → Int32) (p19 : Int32) (p20 : Int32) (p21 : Int32) (p22 : Int32) (hp0 : (-2147483648) ≤ (p0).toInt ∧ (p0).toInt ≤ 2147483647) (hp1 : (-2147483648) ≤ (p1).toInt ∧ (p1).toInt ≤ 2147483647) (hp2 : 0 ≤ (p2).toInt ∧ (p2).toInt ≤ 900) (hp3 : 0 ≤ (p3).toInt ∧ (p3).toInt ≤ 900) (hp4 : 0 ≤ (p4).toInt ∧ (p4).toInt ≤ 900) (hp5 : 0 ≤ (p5).toInt ∧ (p5).toInt ≤ 900) (hp6 : (-2147483648) ≤ (p6).toInt ∧ (p6).toInt ≤ 2147483647) (hp7 : 0 ≤ (p7).toInt ∧ (p7).toInt ≤ 999) (hp8 : (-2147483648) ≤ (p8).toInt ∧ (p8).toInt ≤ 2147483647) (hp9 : (-2147483648) ≤ (p9).toInt ∧ (p9).toInt ≤ 2147483647) (hp10 : (-2147483648) ≤ (p10).toInt ∧ (p10).toInt ≤ 2147483647) (hp11 : (-2147483648) ≤ (p11).toInt ∧ (p11).toInt ≤ 2147483647) (hp12 : (-2147483648) ≤ (p12).toInt ∧ (p12).toInt ≤ 2147483647) (hp13 : (-2147483648) ≤ (p13).toInt ∧ (p13).toInt ≤ 2147483647) (hp14 : (-2147483648) ≤ (p14).toInt ∧ (p14).toInt ≤ 2147483647) (hp15 : (-2147483648) ≤ (p15).toInt ∧ (p15).toInt ≤ 2147483647) (hp16 : (-2147483648) ≤ (p16).toInt ∧ (p16).toInt ≤ 2147483647) (hp17 : (-2147483648) ≤ (p17).toInt ∧ (p17).toInt ≤ 2147483647) (hp18 : 0 ≤ (p18).toInt ∧ (p18).toInt ≤ 10) (hp19 : 0 ≤ (p19).toInt ∧ (p19).toInt ≤ 1000) (hp20 : (-2147483648) ≤ (p20).toInt ∧ (p20).toInt ≤ 2147483647) (hp21 : 0 ≤ (p21).toInt ∧ (p21).toInt ≤ 10) (hp22 : 0 ≤ (p22).toInt ∧ (p22).toInt ≤ 900) (htf0_84 : f0 84 = p18) (rf0 : AL f0) (htf2_0 : f2 0 = p19) (htf2_1 : f2 1 = p20) (htf2_2 : f2 2 = p21) (htf2_405 : f2 405 = p22) (sz : Nat) : MI l yX12_house cX12_house 3 .int { frames := 33, cells := 0, slots := 0, locals := 800 } [.ref h0, .int p0] D cy (wk_04d6d8a2c cy h0 p1 h1 w0 h2 h3 p2 p3 p4 p5 p6 p7 p8 p9 p10 p11 p12 w1 w2 w3 w4 w5 p13 p14 w6 w7 w8 p15 p16 w9 w10 w11 w12 w13 p17 w14 w15 w16 h1 f0 h2 f1 h3 f2) sz (fun r u => ((-2147483648) ≤ r.toInt ∧ r.toInt ≤ 2147483647) ∧ AL (u.2.1 0) ∧ (0 ≤ (u.2.1 1 0).toInt ∧ (u.2.1 1 0).toInt ≤ 10) ∧ (0 ≤ (u.2.1 2 0).toInt ∧ (u.2.1 2 0).toInt ≤ 0) ∧ (0 ≤ (u.2.1 3 0).toInt ∧ (u.2.1 3 0).toInt ≤ 900) ∧ (0 ≤ (u.2.1 4 0).toInt ∧ (u.2.1 4 0).toInt ≤ 900) ∧ (0 ≤ (u.2.1 5 0).toInt ∧ (u.2.1 5 0).toInt ≤ 900) ∧ (0 ≤ (u.2.1 6 0).toInt ∧ (u.2.1 6 0).toInt ≤ 900) ∧ ((-2147483648) ≤ (u.2.1 7 0).toInt ∧ (u.2.1 7 0).toInt ≤ 2147483647) ∧ (0 ≤ (u.2.1 8 0).toInt ∧ (u.2.1 8 0).toInt ≤ 999) ∧ ((-2147483648) ≤ (u.2.1 9 0).toInt ∧ (u.2.1 9 0).toInt ≤ 2147483647) ∧ ((-2147483648) ≤ (u.2.1 10 0).toInt ∧ (u.2.1 10 0).toInt ≤ 2147483647) ∧ ((-2147483648) ≤ (u.2.1 11 0).toInt ∧ (u.2.1 11 0).toInt ≤ 2147483647) ∧ ((-2147483648) ≤ (u.2.1 12 0).toInt ∧ (u.2.1 12 0).toInt ≤ 2147483647) ∧ ((-2147483648) ≤ (u.2.1 13 0).toInt ∧ (u.2.1 13 0).toInt ≤ 2147483647) ∧ (0 ≤ (u.2.1 15 0).toInt ∧ (u.2.1 15 0).toInt ≤ 1000) ∧ ((-2147483648) ≤ (u.2.1 16 0).toInt ∧ (u.2.1 16 0).toInt ≤ 2147483647) ∧ (0 ≤ (u.2.1 17 0).toInt ∧ (u.2.1 17 0).toInt ≤ 10) ∧ (0 ≤ (u.2.1 18 0).toInt ∧ (u.2.1 18 0).toInt ≤ 900) ∧ (u.2.1 0) 84 = (u.2.1 1 0) ∧ (u.2.1 14) 0 = (u.2.1 15 0) ∧ (u.2.1 14) 1 = (u.2.1 16 0) ∧ (u.2.1 14) 2 = (u.2.1 17 0) ∧ (u.2.1 14) 405 = (u.2.1 18 0) ∧ ((((p0 : Int32).toInt < 0 ∨ (p2 : Int32).toInt < (p0 : Int32).toInt) ∧ (r : Int32).toInt = -3 ∧ ((u.2.1 3 0) : Int32).toInt = (p2 : Int32).toInt ∧ ((u.2.1 11 0) : Int32).toInt = (p10 : Int32).toInt ∧ ((u.2.1 12 0) : Int32).toInt = (p11 : Int32).toInt) ∨ (0 ≤ (p0 : Int32).toInt ∧ (p0 : Int32).toInt ≤ (p2 : Int32).toInt ∧ ((u.2.1 3 0) : Int32).toInt = 0 ∧ HSE (r : Int32).toInt ((u.2.1 11 0) : Int32).toInt ((u.2.1 12 0) : Int32).toInt (PF (bM f1) ((p0 : Int32).toInt).toNat))) ∧ True) (fun u => (wk_04d6d8a2c cy h0 (u.2.1 2 0) h1 w0 h2 h3 (u.2.1 3 0) (u.2.1 4 0) (u.2.1 5 0) (u.2.1 6 0) (u.2.1 7 0) (u.2.1 8 0) (u.2.1 9 0) (u.2.1 10 0) (u.2.1 11 0) (u.2.1 12 0) (u.2.1 13 0) w1 w2 w3 w4 w5 p13 p14 w6 w7 w8 p15 p16 w9 w10 w11 w12 w13 p17 w14 w15 w16 h1 (u.2.1 0) h2 f1 h3 (u.2.1 14))) 0 0 := by
  refine q_ent (own := RX12) (by decide) rfl (Nat.le_of_ble_eq_true rfl) (fun p e s m below meth c ls X hr hlk hnm hK hT h hA hl => ?_)
  obtain ⟨hx, hb, hml, hown, ht⟩ := id X
  replace hl : lv_has ls 3 [(0, .ref h0), (1, .int p0)] := hl
  refine lv_aload_n hx hb dX12_house_0 rfl (lv_at hl 0 rfl) ?_
  refine lv_iconst (v := 0) hx hb dX12_house_1 (by decide) ?_
  refine q_put (v := .int 0) X hK h 0 rfl rfl wf_12 tyX12 tyX12_ok nmX12 0 (by decide) wm_5_170 rfl rfl rfl (Nat.le_of_ble_eq_true rfl) dX12_house_2 (fun H locs h_1 => ?_)
  clear h
  replace h_1 : qW D _ _ (wk_04d6d8a2c cy h0 0 h1 w0 h2 h3 p2 p3 p4 p5 p6 p7 p8 p9 p10 p11 p12 w1 w2 w3 w4 w5 p13 p14 w6 w7 w8 p15 p16 w9 w10 w11 w12 w13 p17 w14 w15 w16 h1 f0 h2 f1 h3 f2) _ _ := h_1
  refine lv_iload_n hx hb dX12_house_5 rfl (lv_at hl 1 rfl) ?_
  refine lv_i2l hx hb dX12_house_6 rfl ?_
  obtain ⟨z_2, ez_2, hz_2⟩ := e_i2l (x := p0) rfl
  refine q_cl z_2 ez_2 ?_
  clear ez_2
  refine lv_lconst (v := 0) hx hb dX12_house_7 (by decide) ?_
  refine lv_aload_n hx hb dX12_house_8 rfl (lv_at hl 0 rfl) ?_
  refine q_get X hK h_1 0 rfl rfl wf_12 5 (by decide) rfl wm_5_175 dX12_house_9 ?_
  refine lv_i2l hx hb dX12_house_12 rfl ?_
  obtain ⟨z_3, ez_3, hz_3⟩ := e_i2l (x := p2) rfl
  refine q_cl z_3 ez_3 ?_
  clear ez_3
  refine q_callSi (rest := []) (wr := (wk_04d6d8a2c cy h0 0 h1 w0 h2 h3 p2 p3 p4 p5 p6 p7 p8 p9 p10 p11 p12 w1 w2 w3 w4 w5 p13 p14 w6 w7 w8 p15 p16 w9 w10 w11 w12 w13 p17 w14 w15 w16 h1 f0 h2 f1 h3 f2)) X hK hT hA h_1 (fun sz => gX12_within_3cc200e l D cy z_2 (0 : Int64) z_3 ⟨by omega, by omega⟩ ⟨by decide +kernel, by decide +kernel⟩ ⟨by omega, by omega⟩ sz) wm_6_50 wm_6_52 wm_1_12 hd_X12_within wm_6_51 ⟨Nat.le_of_ble_eq_true rfl, Nat.le_of_ble_eq_true rfl⟩ hl.1 rfl (Nat.le_of_ble_eq_true rfl) dX12_house_13 ⟨Nat.le_of_ble_eq_true rfl, Nat.le_of_ble_eq_true rfl⟩ [] [0, 1, 2, 3] rfl rfl (by decide) rfl rfl (fun r_4 u_4 H locs w_4 h_4 => ?_)
  clear h_1
  obtain ⟨wr_4, y4_0, _⟩ := w_4
  have lq_4_1 : (0 : Int64).toInt = 0 := (by decide)
  replace h_4 : qW D _ _ (wk_04d6d8a2c cy h0 0 h1 w0 h2 h3 p2 p3 p4 p5 p6 p7 p8 p9 p10 p11 p12 w1 w2 w3 w4 w5 p13 p14 w6 w7 w8 p15 p16 w9 w10 w11 w12 w13 p17 w14 w15 w16 h1 f0 h2 f1 h3 f2) _ _ := h_4
  refine lv_if_ne (tgt := 22) hx hb dX12_house_16 (by decide) (fun c_5 => ?_) (fun c_5 => ?_)
  · replace c_5 := i_ne (x := r_4) (y := 0) rfl (show (0 : Int32).toInt = 0 by decide) c_5
    replace y4_0 := a10_1 y4_0 c_5
    refine lv_aload_n hx hb dX12_house_22 rfl (lv_at hl 0 rfl) ?_
    refine lv_iload_n hx hb dX12_house_23 rfl (lv_at hl 1 rfl) ?_
    refine q_put (v := .int p0) X hK h_4 0 rfl rfl wf_12 tyX12 tyX12_ok nmX12 8 (by decide) wm_5_178 rfl rfl rfl (Nat.le_of_ble_eq_true rfl) dX12_house_24 (fun H locs h_6 => ?_)
    clear h_4
    replace h_6 : qW D _ _ (wk_04d6d8a2c cy h0 0 h1 w0 h2 h3 p2 p3 p4 p0 p6 p7 p8 p9 p10 p11 p12 w1 w2 w3 w4 w5 p13 p14 w6 w7 w8 p15 p16 w9 w10 w11 w12 w13 p17 w14 w15 w16 h1 f0 h2 f1 h3 f2) _ _ := h_6
    refine lv_aload_n hx hb dX12_house_27 rfl (lv_at hl 0 rfl) ?_
    refine lv_iconst (v := 0) hx hb dX12_house_28 (by decide) ?_
    refine q_put (v := .int 0) X hK h_6 0 rfl rfl wf_12 tyX12 tyX12_ok nmX12 5 (by decide) wm_5_175 rfl rfl rfl (Nat.le_of_ble_eq_true rfl) dX12_house_29 (fun H locs h_7 => ?_)
    clear h_6
    replace h_7 : qW D _ _ (wk_04d6d8a2c cy h0 0 h1 w0 h2 h3 0 p3 p4 p0 p6 p7 p8 p9 p10 p11 p12 w1 w2 w3 w4 w5 p13 p14 w6 w7 w8 p15 p16 w9 w10 w11 w12 w13 p17 w14 w15 w16 h1 f0 h2 f1 h3 f2) _ _ := h_7
    refine lv_aload_n hx hb dX12_house_32 rfl (lv_at hl 0 rfl) ?_
    refine lv_iconst (v := 0) hx hb dX12_house_33 (by decide) ?_
    refine q_put (v := .int 0) X hK h_7 0 rfl rfl wf_12 tyX12 tyX12_ok nmX12 7 (by decide) wm_5_177 rfl rfl rfl (Nat.le_of_ble_eq_true rfl) dX12_house_34 (fun H locs h_8 => ?_)
    clear h_7
    replace h_8 : qW D _ _ (wk_04d6d8a2c cy h0 0 h1 w0 h2 h3 0 p3 0 p0 p6 p7 p8 p9 p10 p11 p12 w1 w2 w3 w4 w5 p13 p14 w6 w7 w8 p15 p16 w9 w10 w11 w12 w13 p17 w14 w15 w16 h1 f0 h2 f1 h3 f2) _ _ := h_8
    refine lv_aload_n hx hb dX12_house_37 rfl (lv_at hl 0 rfl) ?_
    refine lv_iconst (v := 0) hx hb dX12_house_38 (by decide) ?_
    refine q_put (v := .int 0) X hK h_8 0 rfl rfl wf_12 tyX12 tyX12_ok nmX12 11 (by decide) wm_5_181 rfl rfl rfl (Nat.le_of_ble_eq_true rfl) dX12_house_39 (fun H locs h_9 => ?_)
    clear h_8
    replace h_9 : qW D _ _ (wk_04d6d8a2c cy h0 0 h1 w0 h2 h3 0 p3 0 p0 p6 p7 0 p9 p10 p11 p12 w1 w2 w3 w4 w5 p13 p14 w6 w7 w8 p15 p16 w9 w10 w11 w12 w13 p17 w14 w15 w16 h1 f0 h2 f1 h3 f2) _ _ := h_9
    refine lv_aload_n hx hb dX12_house_42 rfl (lv_at hl 0 rfl) ?_
    refine q_get X hK h_9 0 rfl rfl wf_12 4 (by decide) rfl wm_5_174 dX12_house_43 ?_
    refine q_callSv (rest := []) (wr := [(h0, .inr (12, [.int 0, .ref h1, w0, .ref h2, .ref h3, .int 0, .int p3, .int 0, .int p0, .int p6, .int p7, .int 0, .int p9, .int p10, .int p11, .int p12, w1, w2, w3, w4, w5, .int p13, .int p14, w6, w7, w8, .int p15, .int p16, w9, w10, w11, w12, w13, .int p17, w14, w15, w16])), (h1, .inl (cy 1, 3918, .inl f0)), (h2, .inl (cy 1, 900, .inl f1))]) X hK hT hA h_9 (fun sz => gX12_plain_0c5a33d l D cy h3 f2 p19 p20 p21 p22 hp19 (i_rng _) hp21 hp22 htf2_0 htf2_1 htf2_2 htf2_405 sz) wm_5_167 wm_5_169 wm_1_12 hd_X12_plain wm_5_168 ⟨Nat.le_of_ble_eq_true rfl, Nat.le_of_ble_eq_true rfl⟩ hl.1 rfl (Nat.le_of_ble_eq_true rfl) dX12_house_46 ⟨Nat.le_of_ble_eq_true rfl, Nat.le_of_ble_eq_true rfl⟩ [3] [0, 1, 2] rfl rfl (by decide) rfl rfl (fun u_10 H locs w_10 h_10 => ?_)
    clear h_9
    obtain ⟨w10_0, w10_1, w10_2, w10_3, w10_4, w10_5, w10_6, w10_7, y10_0, _⟩ := w_10
    replace h_10 : qW D _ _ (wk_04d6d8a2c cy h0 0 h1 w0 h2 h3 0 p3 0 p0 p6 p7 0 p9 p10 p11 p12 w1 w2 w3 w4 w5 p13 p14 w6 w7 w8 p15 p16 w9 w10 w11 w12 w13 p17 w14 w15 w16 h1 f0 h2 f1 h3 (u_10.2.1 0)) _ _ := h_10
    have hf_11 : HF (0 : Int32).toInt (u_10.2.1 0) (((u_10.2.1 4 0) : Int32).toInt).toNat := hf_0 y10_0
    refine lv_aload_n hx hb dX12_house_49 rfl (lv_at hl 0 rfl) ?_
    refine q_callVv (rest := []) (wr := (wk_7c5ca55a5 cy h1 f0 h3 (u_10.2.1 0))) X hK hT hA h_10 (fun sz => gX12_next_c515fc5 l D cy h0 h2 (0 : Int32) (.ref h1) w0 (.ref h3) (0 : Int32) p3 (0 : Int32) p0 p6 p7 (0 : Int32) p9 p10 p11 p12 w1 w2 w3 w4 w5 p13 p14 w6 w7 w8 p15 p16 w9 w10 w11 w12 w13 p17 w14 w15 w16 f1 ⟨by decide +kernel, by decide +kernel⟩ ⟨by decide +kernel, by decide +kernel⟩ hp3 ⟨by decide +kernel, by decide +kernel⟩ ⟨by omega, by omega⟩ (i_rng _) hp7 (i_rng _) (i_rng _) (i_rng _) (i_rng _) (i_rng _) (i_rng _) (i_rng _) (i_rng _) (i_rng _) (i_rng _) (by have q0 : (0 : Int32).toInt = 0 := (by decide); omega) sz) wm_6_53 wm_6_56 wm_1_12 hd_X12_next wm_6_55 wp_4_3 (ci := 12) (q0 := 0) rfl rfl ⟨Nat.le_of_ble_eq_true rfl, Nat.le_of_ble_eq_true rfl⟩ hl.1 rfl (Nat.le_of_ble_eq_true rfl) dX12_house_50 ⟨Nat.le_of_ble_eq_true rfl, Nat.le_of_ble_eq_true rfl⟩ [0, 2] [1, 3] rfl rfl (by decide) rfl rfl (fun u_12 H locs w_12 h_12 => ?_)
    clear h_10
    obtain ⟨w12_0, w12_1, w12_2, w12_3, y12_0, y12_1, y12_2, y12_3, _⟩ := w_12
    replace h_12 : qW D _ _ (wk_db69142ea cy h1 f0 h3 (u_10.2.1 0) h0 0 h1 w0 h2 h3 0 (u_12.2.1 0 0) (u_12.2.1 1 0) p0 (u_12.2.1 2 0) (u_12.2.1 3 0) 0 p9 p10 p11 p12 w1 w2 w3 w4 w5 p13 p14 w6 w7 w8 p15 p16 w9 w10 w11 w12 w13 p17 w14 w15 w16 h2 f1) _ _ := h_12
    have rr_13 := rr_st (W2 := (0 : Int32).toInt) (X2 := (p9 : Int32).toInt) y12_3 (by decide) (by decide)
    refine lv_aload_n hx hb dX12_house_53 rfl (lv_at hl 0 rfl) ?_
    refine lv_iconst (v := 0) hx hb dX12_house_54 (by decide) ?_
    refine q_callVi (rest := []) (wr := (wk_7c5ca55a5 cy h1 f0 h3 (u_10.2.1 0))) X hK hT hA h_12 (fun sz => gX12_eats_cc4ff34 l D cy h0 h2 (0 : Int32) (.ref h1) w0 (.ref h3) (0 : Int32) (u_12.2.1 0 0) (u_12.2.1 1 0) p0 (u_12.2.1 2 0) (u_12.2.1 3 0) (0 : Int32) p9 p10 p11 p12 w1 w2 w3 w4 w5 p13 p14 w6 w7 w8 p15 p16 w9 w10 w11 w12 w13 p17 w14 w15 w16 f1 ⟨by decide +kernel, by decide +kernel⟩ ⟨by decide +kernel, by decide +kernel⟩ w12_0 w12_1 ⟨by omega, by omega⟩ (i_rng _) w12_3 (i_rng _) (i_rng _) (i_rng _) (i_rng _) (i_rng _) (i_rng _) (i_rng _) (i_rng _) (i_rng _) (i_rng _) (y12_0) (y12_1) sz) wm_6_75 wm_6_78 wm_1_12 hd_X12_eats wm_6_77 wp_4_6 (ci := 12) (q0 := 0) rfl rfl ⟨Nat.le_of_ble_eq_true rfl, Nat.le_of_ble_eq_true rfl⟩ hl.1 rfl (Nat.le_of_ble_eq_true rfl) dX12_house_55 ⟨Nat.le_of_ble_eq_true rfl, Nat.le_of_ble_eq_true rfl⟩ [2, 3] [0, 1] rfl rfl (by decide) rfl rfl (fun r_14 u_14 H locs w_14 h_14 => ?_)
    clear h_12
    obtain ⟨wr_14, w14_0, w14_1, w14_2, w14_3, y14_0, y14_1, y14_2, y14_3, y14_4, _⟩ := w_14
    have lq_14_1 : (0 : Int32).toInt = 0 := (by decide)
    replace h_14 : qW D _ _ (wk_db69142ea cy h1 f0 h3 (u_10.2.1 0) h0 0 h1 w0 h2 h3 0 (u_14.2.1 0 0) (u_14.2.1 1 0) p0 (u_14.2.1 2 0) (u_14.2.1 3 0) 0 p9 p10 p11 p12 w1 w2 w3 w4 w5 p13 p14 w6 w7 w8 p15 p16 w9 w10 w11 w12 w13 p17 w14 w15 w16 h2 f1) _ _ := h_14
    refine q_jn (pc2 := 66) (fun H locs ls st => ∃ v66_15_0 : Int32, ∃ v66_15_1 : Int32, ((-2147483648) ≤ (v66_15_0).toInt ∧ (v66_15_0).toInt ≤ 2147483647) ∧ ((-2147483648) ≤ (v66_15_1).toInt ∧ (v66_15_1).toInt ≤ 2147483647) ∧ (0 ≤ ((u_14.2.1 0 0) : Int32).toInt ∧ ((u_14.2.1 0 0) : Int32).toInt ≤ ((u_14.2.1 1 0) : Int32).toInt ∧ ((u_14.2.1 1 0) : Int32).toInt ≤ (p0 : Int32).toInt) ∧ (((u_14.2.1 2 0) : Int32).toInt = 26 ∨ ((u_14.2.1 0 0) : Int32).toInt < ((u_14.2.1 1 0) : Int32).toInt) ∧ ((v66_15_0 : Int32).toInt ≠ 0 ∨ ((u_10.2.1 4 0) : Int32).toInt ≤ ((u_14.2.1 0 0) : Int32).toInt) ∧ (HF (v66_15_0 : Int32).toInt (u_10.2.1 0) (((u_10.2.1 4 0) : Int32).toInt).toNat) ∧ (0 ≤ (p0 : Int32).toInt ∧ (p0 : Int32).toInt ≤ 900) ∧ (RR (bM f1) ((p0 : Int32).toInt).toNat (pb (startS (bM f1) ((p0 : Int32).toInt).toNat) (tak 11 (bM f1) ((p0 : Int32).toInt).toNat)) ((u_14.2.1 0 0) : Int32).toInt ((u_14.2.1 1 0) : Int32).toInt ((u_14.2.1 2 0) : Int32).toInt ((u_14.2.1 3 0) : Int32).toInt (v66_15_0 : Int32).toInt (v66_15_1 : Int32).toInt) ∧ (0 ≤ (p0 : Int32).toInt ∧ (p0 : Int32).toInt ≤ (p2 : Int32).toInt) ∧ st = [] ∧ qW D (va_A (wk_04d6d8a2c cy h0 p1 h1 w0 h2 h3 p2 p3 p4 p5 p6 p7 p8 p9 p10 p11 p12 w1 w2 w3 w4 w5 p13 p14 w6 w7 w8 p15 p16 w9 w10 w11 w12 w13 p17 w14 w15 w16 h1 f0 h2 f1 h3 f2) sz) s.heap (wk_db69142ea cy h1 f0 h3 (u_10.2.1 0) h0 0 h1 w0 h2 h3 0 (u_14.2.1 0 0) (u_14.2.1 1 0) p0 (u_14.2.1 2 0) (u_14.2.1 3 0) v66_15_0 v66_15_1 p10 p11 p12 w1 w2 w3 w4 w5 p13 p14 w6 w7 w8 p15 p16 w9 w10 w11 w12 w13 p17 w14 w15 w16 h2 f1) H locs ∧ lv_has ls 3 [(0, .ref h0), (1, .int p0)]) (fun H locs ls st hP => ?_) (fun J_66 => ?_)
    · obtain ⟨v66_15_0, v66_15_1, hv66_15_0, hv66_15_1, x16_0, x17_1, x18_2, x19_3, x20_4, x21_5, x22_6, rfl, h, hl⟩ := hP
      refine lv_aload_n hx hb dX12_house_66 rfl (lv_at hl 0 rfl) ?_
      refine lv_iconst (v := 1) hx hb dX12_house_67 (by decide) ?_
      refine q_callVi (rest := []) (wr := (wk_7c5ca55a5 cy h1 f0 h3 (u_10.2.1 0))) X hK hT hA h (fun sz => gX12_eats_b39a967 l D cy h0 h2 (0 : Int32) (.ref h1) w0 (.ref h3) (0 : Int32) (u_14.2.1 0 0) (u_14.2.1 1 0) p0 (u_14.2.1 2 0) (u_14.2.1 3 0) v66_15_0 v66_15_1 p10 p11 p12 w1 w2 w3 w4 w5 p13 p14 w6 w7 w8 p15 p16 w9 w10 w11 w12 w13 p17 w14 w15 w16 f1 ⟨by decide +kernel, by decide +kernel⟩ ⟨by decide +kernel, by decide +kernel⟩ w14_0 w14_1 ⟨by omega, by omega⟩ (i_rng _) w14_3 (i_rng _) (i_rng _) (i_rng _) (i_rng _) (i_rng _) (i_rng _) (i_rng _) (i_rng _) (i_rng _) (i_rng _) (x16_0) (x17_1) sz) wm_6_75 wm_6_78 wm_1_12 hd_X12_eats wm_6_77 wp_4_6 (ci := 12) (q0 := 0) rfl rfl ⟨Nat.le_of_ble_eq_true rfl, Nat.le_of_ble_eq_true rfl⟩ hl.1 rfl (Nat.le_of_ble_eq_true rfl) dX12_house_68 ⟨Nat.le_of_ble_eq_true rfl, Nat.le_of_ble_eq_true rfl⟩ [2, 3] [0, 1] rfl rfl (by decide) rfl rfl (fun r_23 u_23 H locs w_23 h_23 => ?_)
      clear h
      obtain ⟨wr_23, w23_0, w23_1, w23_2, w23_3, y23_0, y23_1, y23_2, y23_3, y23_4, _⟩ := w_23
      have lq_23_1 : (1 : Int32).toInt = 1 := (by decide)
      replace h_23 : qW D _ _ (wk_db69142ea cy h1 f0 h3 (u_10.2.1 0) h0 0 h1 w0 h2 h3 0 (u_23.2.1 0 0) (u_23.2.1 1 0) p0 (u_23.2.1 2 0) (u_23.2.1 3 0) v66_15_0 v66_15_1 p10 p11 p12 w1 w2 w3 w4 w5 p13 p14 w6 w7 w8 p15 p16 w9 w10 w11 w12 w13 p17 w14 w15 w16 h2 f1) _ _ := h_23
      refine q_jn (pc2 := 79) (fun H locs ls st => ∃ v79_24_0 : Int32, ∃ v79_24_1 : Int32, ((-2147483648) ≤ (v79_24_0).toInt ∧ (v79_24_0).toInt ≤ 2147483647) ∧ ((-2147483648) ≤ (v79_24_1).toInt ∧ (v79_24_1).toInt ≤ 2147483647) ∧ (0 ≤ ((u_23.2.1 0 0) : Int32).toInt ∧ ((u_23.2.1 0 0) : Int32).toInt ≤ ((u_23.2.1 1 0) : Int32).toInt ∧ ((u_23.2.1 1 0) : Int32).toInt ≤ (p0 : Int32).toInt) ∧ (((u_23.2.1 2 0) : Int32).toInt = 26 ∨ ((u_23.2.1 0 0) : Int32).toInt < ((u_23.2.1 1 0) : Int32).toInt) ∧ ((v79_24_0 : Int32).toInt ≠ 0 ∨ ((u_10.2.1 4 0) : Int32).toInt ≤ ((u_23.2.1 0 0) : Int32).toInt) ∧ (HF (v79_24_0 : Int32).toInt (u_10.2.1 0) (((u_10.2.1 4 0) : Int32).toInt).toNat) ∧ (0 ≤ (p0 : Int32).toInt ∧ (p0 : Int32).toInt ≤ 900) ∧ (RR (bM f1) ((p0 : Int32).toInt).toNat (headS (bM f1) ((p0 : Int32).toInt).toNat) ((u_23.2.1 0 0) : Int32).toInt ((u_23.2.1 1 0) : Int32).toInt ((u_23.2.1 2 0) : Int32).toInt ((u_23.2.1 3 0) : Int32).toInt (v79_24_0 : Int32).toInt (v79_24_1 : Int32).toInt) ∧ (0 ≤ (p0 : Int32).toInt ∧ (p0 : Int32).toInt ≤ (p2 : Int32).toInt) ∧ st = [] ∧ qW D (va_A (wk_04d6d8a2c cy h0 p1 h1 w0 h2 h3 p2 p3 p4 p5 p6 p7 p8 p9 p10 p11 p12 w1 w2 w3 w4 w5 p13 p14 w6 w7 w8 p15 p16 w9 w10 w11 w12 w13 p17 w14 w15 w16 h1 f0 h2 f1 h3 f2) sz) s.heap (wk_db69142ea cy h1 f0 h3 (u_10.2.1 0) h0 0 h1 w0 h2 h3 0 (u_23.2.1 0 0) (u_23.2.1 1 0) p0 (u_23.2.1 2 0) (u_23.2.1 3 0) v79_24_0 v79_24_1 p10 p11 p12 w1 w2 w3 w4 w5 p13 p14 w6 w7 w8 p15 p16 w9 w10 w11 w12 w13 p17 w14 w15 w16 h2 f1) H locs ∧ lv_has ls 3 [(0, .ref h0), (1, .int p0)]) (fun H locs ls st hP => ?_) (fun J_79 => ?_)
      · obtain ⟨v79_24_0, v79_24_1, hv79_24_0, hv79_24_1, x25_0, x26_1, x27_2, x28_3, x29_4, x30_5, x31_6, rfl, h, hl⟩ := hP
        refine lv_aload_n hx hb dX12_house_79 rfl (lv_at hl 0 rfl) ?_
        refine q_get X hK h 2 rfl rfl wf_12 4 (by decide) rfl wm_5_174 dX12_house_80 ?_
        refine lv_iconst (v := 1) hx hb dX12_house_83 (by decide) ?_
        refine lv_aload_n hx hb dX12_house_84 rfl (lv_at hl 0 rfl) ?_
        refine lv_iconst (v := 1) hx hb dX12_house_85 (by decide) ?_
        refine lv_iconst (v := 3) hx hb dX12_house_86 (by decide) ?_
        refine q_callVi (rest := [.int 1, .ref h3]) (wr := (wk_7c5ca55a5 cy h1 f0 h3 (u_10.2.1 0))) X hK hT hA h (fun sz => gX12_takes_aee5c2c l D cy h0 h2 (1 : Int32) (3 : Int32) (0 : Int32) (.ref h1) w0 (.ref h3) (0 : Int32) (u_23.2.1 0 0) (u_23.2.1 1 0) p0 (u_23.2.1 2 0) (u_23.2.1 3 0) v79_24_0 v79_24_1 p10 p11 p12 w1 w2 w3 w4 w5 p13 p14 w6 w7 w8 p15 p16 w9 w10 w11 w12 w13 p17 w14 w15 w16 f1 ⟨by decide +kernel, by decide +kernel⟩ ⟨by decide +kernel, by decide +kernel⟩ ⟨by decide +kernel, by decide +kernel⟩ ⟨by decide +kernel, by decide +kernel⟩ w23_0 w23_1 ⟨by omega, by omega⟩ (i_rng _) w23_3 (i_rng _) (i_rng _) (i_rng _) (i_rng _) (i_rng _) (i_rng _) (i_rng _) (i_rng _) (i_rng _) (i_rng _) (x25_0) (x26_1) sz) wm_6_87 wm_6_90 wm_1_12 hd_X12_takes wm_6_89 wp_4_9 (ci := 12) (q0 := 0) rfl rfl ⟨Nat.le_of_ble_eq_true rfl, Nat.le_of_ble_eq_true rfl⟩ hl.1 rfl (Nat.le_of_ble_eq_true rfl) dX12_house_87 ⟨Nat.le_of_ble_eq_true rfl, Nat.le_of_ble_eq_true rfl⟩ [2, 3] [0, 1] rfl rfl (by decide) rfl rfl (fun r_32 u_32 H locs w_32 h_32 => ?_)
        clear h
        obtain ⟨wr_32, w32_0, w32_1, w32_2, w32_3, w32_4, w32_5, y32_0, y32_1, y32_2, y32_3, y32_4, y32_5, y32_6, _⟩ := w_32
        have lq_32_1 : (1 : Int32).toInt = 1 := (by decide)
        have lq_32_2 : (3 : Int32).toInt = 3 := (by decide)
        replace h_32 : qW D _ _ (wk_db69142ea cy h1 f0 h3 (u_10.2.1 0) h0 0 h1 w0 h2 h3 0 (u_32.2.1 0 0) (u_32.2.1 1 0) p0 (u_32.2.1 2 0) (u_32.2.1 3 0) (u_32.2.1 4 0) (u_32.2.1 5 0) p10 p11 p12 w1 w2 w3 w4 w5 p13 p14 w6 w7 w8 p15 p16 w9 w10 w11 w12 w13 p17 w14 w15 w16 h2 f1) _ _ := h_32
        refine q_iast X hK h_32 1 rfl (q_in (by decide +kernel)) dX12_house_90 (fun H locs h_34 => ?_)
        clear h_32
        replace h_34 : qW D _ _ (wk_db69142ea cy h1 f0 h3 (upd (u_10.2.1 0) (Int32.toNatClampNeg 1) r_32) h0 0 h1 w0 h2 h3 0 (u_32.2.1 0 0) (u_32.2.1 1 0) p0 (u_32.2.1 2 0) (u_32.2.1 3 0) (u_32.2.1 4 0) (u_32.2.1 5 0) p10 p11 p12 w1 w2 w3 w4 w5 p13 p14 w6 w7 w8 p15 p16 w9 w10 w11 w12 w13 p17 w14 w15 w16 h2 f1) _ _ := h_34
        obtain ⟨F_33, eF_33⟩ : ∃ z, (upd (u_10.2.1 0) (Int32.toNatClampNeg 1) r_32) = z := ⟨_, rfl⟩
        have trF_33_0 := (tr_ne eF_33 w10_4 (show (1 : Int32).toInt = 1 by decide) (by omega))
        have trF_33_1 := (tr_eq eF_33 (k := 1) (x := 1) (by decide))
        have trF_33_2 := (tr_ne eF_33 w10_6 (show (1 : Int32).toInt = 1 by decide) (by omega))
        have trF_33_405 := (tr_ne eF_33 w10_7 (show (1 : Int32).toInt = 1 by decide) (by omega))
        rw [eF_33] at h_34
        have hf_35 : HF ((u_32.2.1 4 0) : Int32).toInt F_33 (((u_10.2.1 4 0) : Int32).toInt).toNat := hf_upd (hf_w (w2 := ((u_32.2.1 4 0) : Int32).toInt) x28_3 (by omega)) eF_33 (by decide)
        refine lv_aload_n hx hb dX12_house_91 rfl (lv_at hl 0 rfl) ?_
        refine q_callVv (rest := []) (wr := [(h1, .inl (cy 1, 3918, .inl f0))]) X hK hT hA h_34 (fun sz => gX12_ends_bfb72aa l D cy h0 h2 h3 (0 : Int32) (.ref h1) w0 (0 : Int32) (u_32.2.1 0 0) (u_32.2.1 1 0) p0 (u_32.2.1 2 0) (u_32.2.1 3 0) (u_32.2.1 4 0) (u_32.2.1 5 0) p10 p11 p12 w1 w2 w3 w4 w5 p13 p14 w6 w7 w8 p15 p16 w9 w10 w11 w12 w13 p17 w14 w15 w16 f1 F_33 (u_10.2.1 1 0) r_32 (u_10.2.1 3 0) (u_10.2.1 4 0) ⟨by decide +kernel, by decide +kernel⟩ ⟨by decide +kernel, by decide +kernel⟩ w32_0 w32_1 ⟨by omega, by omega⟩ (i_rng _) w32_3 (i_rng _) (i_rng _) (i_rng _) (i_rng _) (i_rng _) (i_rng _) (i_rng _) (i_rng _) (i_rng _) (i_rng _) w10_0 (i_rng _) (bw w10_2 (by decide) (by decide)) (bw w10_3 (by decide) (by decide)) trF_33_0 trF_33_1 trF_33_2 trF_33_405 (y32_0) (y32_1) (by (first | (clear y12_1 x17_1 y14_2 y14_4 x18_2 x26_1 y23_2 y23_4 x27_2 y32_1 y32_3 y32_4; omega) | omega)) (hf_w hf_35 (by (first | assumption | (clear y12_1 x17_1 y14_2 y14_4 x18_2 x26_1 y23_2 y23_4 x27_2 y32_1 y32_3 y32_4; omega) | omega))) (by (first | (clear y12_1 x17_1 y14_2 y14_4 x18_2 x26_1 y23_2 y23_4 x27_2 y32_1 y32_3 y32_4; omega) | omega)) sz) wm_6_91 wm_6_94 wm_1_12 hd_X12_ends wm_6_93 wp_4_10 (ci := 12) (q0 := 0) rfl rfl ⟨Nat.le_of_ble_eq_true rfl, Nat.le_of_ble_eq_true rfl⟩ hl.1 rfl (Nat.le_of_ble_eq_true rfl) dX12_house_92 ⟨Nat.le_of_ble_eq_true rfl, Nat.le_of_ble_eq_true rfl⟩ [2, 3, 1] [0] rfl rfl (by decide) rfl rfl (fun u_36 H locs w_36 h_36 => ?_)
        clear h_34
        obtain ⟨w36_0, w36_1, w36_2, w36_3, w36_4, w36_5, w36_6, w36_7, w36_8, w36_9, w36_10, y36_0, y36_1, y36_2, y36_3, y36_4, y36_5, y36_6, y36_7, y36_8, _⟩ := w_36
        replace h_36 : qW D _ _ (wk_dab8c81bb cy h1 f0 h0 0 h1 w0 h2 h3 0 (u_36.2.1 2 0) (u_36.2.1 3 0) p0 (u_36.2.1 4 0) (u_36.2.1 5 0) (u_36.2.1 6 0) (u_36.2.1 7 0) p10 p11 p12 w1 w2 w3 w4 w5 p13 p14 w6 w7 w8 p15 p16 w9 w10 w11 w12 w13 p17 w14 w15 w16 h2 f1 h3 (u_36.2.1 0)) _ _ := h_36
        refine q_wl (fun (q : Int32 × Int32 × Int32 × Int32 × Int32 × Int32 × Int32 × Int32 × Int32 × Int32) H locs ls => match q with | (v95_37_0, v95_37_1, v95_37_2, v95_37_3, v95_37_4, v95_37_5, v95_37_6, v95_37_8, v95_37_9, v95_37_10) => ∃ v95_37_7 : Nat → Int32, (0 ≤ (v95_37_0).toInt ∧ (v95_37_0).toInt ≤ 900) ∧ (0 ≤ (v95_37_1).toInt ∧ (v95_37_1).toInt ≤ 900) ∧ ((-2147483648) ≤ (v95_37_2).toInt ∧ (v95_37_2).toInt ≤ 2147483647) ∧ (0 ≤ (v95_37_3).toInt ∧ (v95_37_3).toInt ≤ 999) ∧ ((-2147483648) ≤ (v95_37_4).toInt ∧ (v95_37_4).toInt ≤ 2147483647) ∧ ((-2147483648) ≤ (v95_37_5).toInt ∧ (v95_37_5).toInt ≤ 2147483647) ∧ ((-2147483648) ≤ (v95_37_6).toInt ∧ (v95_37_6).toInt ≤ 2147483647) ∧ (0 ≤ (v95_37_8).toInt ∧ (v95_37_8).toInt ≤ 901) ∧ (0 ≤ (v95_37_9).toInt ∧ (v95_37_9).toInt ≤ 10) ∧ (0 ≤ (v95_37_10).toInt ∧ (v95_37_10).toInt ≤ 900) ∧ v95_37_7 0 = v95_37_8 ∧ v95_37_7 1 = r_32 ∧ v95_37_7 2 = v95_37_9 ∧ v95_37_7 405 = v95_37_10 ∧ (0 ≤ (v95_37_0 : Int32).toInt ∧ (v95_37_0 : Int32).toInt ≤ (v95_37_1 : Int32).toInt ∧ (v95_37_1 : Int32).toInt ≤ (p0 : Int32).toInt) ∧ ((v95_37_2 : Int32).toInt = 26 ∨ (v95_37_0 : Int32).toInt < (v95_37_1 : Int32).toInt) ∧ ((v95_37_4 : Int32).toInt ≠ 0 ∨ (v95_37_10 : Int32).toInt ≤ (v95_37_0 : Int32).toInt) ∧ (HF (v95_37_4 : Int32).toInt v95_37_7 ((v95_37_10 : Int32).toInt).toNat) ∧ ((v95_37_4 : Int32).toInt ≠ 0 ∨ (0 ≤ (r_32 : Int32).toInt ∧ (r_32 : Int32).toInt ≤ 3)) ∧ (0 ≤ (p0 : Int32).toInt ∧ (p0 : Int32).toInt ≤ 900) ∧ (0 ≤ (p0 : Int32).toInt ∧ (p0 : Int32).toInt ≤ (p2 : Int32).toInt) ∧ (LNR (bM f1) ((p0 : Int32).toInt).toNat (r_32 : Int32).toInt (v95_37_9 : Int32).toInt (v95_37_8 : Int32).toInt (v95_37_0 : Int32).toInt (v95_37_1 : Int32).toInt (v95_37_2 : Int32).toInt (v95_37_3 : Int32).toInt (v95_37_4 : Int32).toInt (v95_37_5 : Int32).toInt) ∧ ((v95_37_4 : Int32).toInt ≠ 0 ∨ (0 ≤ (v95_37_8 : Int32).toInt ∧ (v95_37_8 : Int32).toInt ≤ (v95_37_0 : Int32).toInt)) ∧ qW D (va_A (wk_04d6d8a2c cy h0 p1 h1 w0 h2 h3 p2 p3 p4 p5 p6 p7 p8 p9 p10 p11 p12 w1 w2 w3 w4 w5 p13 p14 w6 w7 w8 p15 p16 w9 w10 w11 w12 w13 p17 w14 w15 w16 h1 f0 h2 f1 h3 f2) sz) s.heap (wk_dab8c81bb cy h1 f0 h0 0 h1 w0 h2 h3 0 v95_37_0 v95_37_1 p0 v95_37_2 v95_37_3 v95_37_4 v95_37_5 p10 p11 v95_37_6 w1 w2 w3 w4 w5 p13 p14 w6 w7 w8 p15 p16 w9 w10 w11 w12 w13 p17 w14 w15 w16 h2 f1 h3 v95_37_7) H locs ∧ lv_has ls 3 [(0, .ref h0), (1, .int p0)]) (fun (q : Int32 × Int32 × Int32 × Int32 × Int32 × Int32 × Int32 × Int32 × Int32 × Int32) => match q with | (v95_37_0, v95_37_1, v95_37_2, v95_37_3, v95_37_4, v95_37_5, v95_37_6, v95_37_8, v95_37_9, v95_37_10) => hmu (v95_37_0).toInt (v95_37_4).toInt) (fun q_95 ih_95 H locs ls hP => ?_) ((u_36.2.1 2 0), (u_36.2.1 3 0), (u_36.2.1 4 0), (u_36.2.1 5 0), (u_36.2.1 6 0), (u_36.2.1 7 0), p12, (u_36.2.1 1 0), (u_10.2.1 3 0), (u_10.2.1 4 0)) ⟨(u_36.2.1 0), w36_1, w36_2, w36_3, w36_4, w36_5, w36_6, hp12, (bw w36_0 (by decide) (by decide)), (bw w10_2 (by decide) (by decide)), (bw w10_3 (by decide) (by decide)), w36_7, w36_8, w36_9, w36_10, (y36_0), (y36_1), (y36_4), (hf_w y36_5 (by (first | assumption | (clear y12_1 x17_1 y14_2 y14_4 x18_2 x26_1 y23_2 y23_4 x27_2 y32_1 y32_3 y32_4 y36_1 y36_3 y36_4 y36_6; omega) | omega))), (by (first | (clear y12_1 x17_1 y14_2 y14_4 x18_2 x26_1 y23_2 y23_4 x27_2 y32_1 y32_3 y32_4 y36_1 y36_3 y36_4 y36_6; omega) | omega)), (x29_4), (x31_6), (lnr_n (lnr_1 x30_5 (smr_nmq y32_5 (by decide) (by decide)) y32_6 rfl y36_7) rfl (by (first | assumption | (clear y12_1 x17_1 y14_2 y14_4 x18_2 x26_1 y23_2 y23_4 x27_2 y32_1 y32_3 y32_4 y36_1 y36_3 y36_4 y36_6; omega) | omega)) (by (first | assumption | (clear y12_1 x17_1 y14_2 y14_4 x18_2 x26_1 y23_2 y23_4 x27_2 y32_1 y32_3 y32_4 y36_1 y36_3 y36_4 y36_6; omega) | omega))), (by (first | (clear y12_1 x17_1 y14_2 y14_4 x18_2 x26_1 y23_2 y23_4 x27_2 y32_1 y32_3 y32_4 y36_1 y36_3 y36_4 y36_6; omega) | omega)), h_36, (lv_sub hl [0, 1] rfl)⟩
        obtain ⟨v95_37_0, v95_37_1, v95_37_2, v95_37_3, v95_37_4, v95_37_5, v95_37_6, v95_37_8, v95_37_9, v95_37_10⟩ := q_95
        obtain ⟨v95_37_7, hv95_37_0, hv95_37_1, hv95_37_2, hv95_37_3, hv95_37_4, hv95_37_5, hv95_37_6, hv95_37_8, hv95_37_9, hv95_37_10, trv95_37_7_0, trv95_37_7_1, trv95_37_7_2, trv95_37_7_405, x38_0, x39_1, x40_2, x41_3, x42_4, x43_5, x44_6, x45_7, x46_8, h, hl⟩ := hP
        try clear c_5
        try clear lq_14_1
        try clear lq_23_1
        try clear lq_32_1
        try clear lq_32_2
        try clear lq_4_1
        try clear y10_0
        try clear y12_0
        try clear y12_1
        try clear y12_2
        try clear y12_3
        try clear y14_0
        try clear y14_1
        try clear y14_2
        try clear y14_3
        try clear y14_4
        try clear y23_0
        try clear y23_1
        try clear y23_2
        try clear y23_3
        try clear y23_4
        try clear y32_0
        try clear y32_1
        try clear y32_2
        try clear y32_3
        try clear y32_4
        try clear y32_5
        try clear y32_6
        try clear y36_0
        try clear y36_1
        try clear y36_2
        try clear y36_3
        try clear y36_4
        try clear y36_5
        try clear y36_6
        try clear y36_7
        try clear y36_8
        try clear y4_0
        refine lv_aload_n hx hb dX12_house_95 rfl (lv_at hl 0 rfl) ?_
        refine q_get X hK h 1 rfl rfl wf_12 11 (by decide) rfl wm_5_181 dX12_house_96 ?_
        refine q_jn (pc2 := 122) (fun H locs ls st => (0 ≤ (p0 : Int32).toInt ∧ (p0 : Int32).toInt ≤ (p2 : Int32).toInt) ∧ (LNR (bM f1) ((p0 : Int32).toInt).toNat (r_32 : Int32).toInt (v95_37_9 : Int32).toInt (v95_37_8 : Int32).toInt (v95_37_0 : Int32).toInt (v95_37_1 : Int32).toInt (v95_37_2 : Int32).toInt (v95_37_3 : Int32).toInt (v95_37_4 : Int32).toInt (v95_37_5 : Int32).toInt) ∧ ((v95_37_4 : Int32).toInt ≠ 0 ∨ (v95_37_2 : Int32).toInt = 26) ∧ st = [] ∧ qW D (va_A (wk_04d6d8a2c cy h0 p1 h1 w0 h2 h3 p2 p3 p4 p5 p6 p7 p8 p9 p10 p11 p12 w1 w2 w3 w4 w5 p13 p14 w6 w7 w8 p15 p16 w9 w10 w11 w12 w13 p17 w14 w15 w16 h1 f0 h2 f1 h3 f2) sz) s.heap (wk_dab8c81bb cy h1 f0 h0 0 h1 w0 h2 h3 0 v95_37_0 v95_37_1 p0 v95_37_2 v95_37_3 v95_37_4 v95_37_5 p10 p11 v95_37_6 w1 w2 w3 w4 w5 p13 p14 w6 w7 w8 p15 p16 w9 w10 w11 w12 w13 p17 w14 w15 w16 h2 f1 h3 v95_37_7) H locs ∧ lv_has ls 3 [(0, .ref h0), (1, .int p0)]) (fun H locs ls st hP => ?_) (fun J_122 => ?_)
        · obtain ⟨x48_0, x49_1, x50_2, rfl, h, hl⟩ := hP
          refine lv_aload_n hx hb dX12_house_122 rfl (lv_at hl 0 rfl) ?_
          refine lv_aload_n hx hb dX12_house_123 rfl (lv_at hl 0 rfl) ?_
          refine q_get X hK h 1 rfl rfl wf_12 11 (by decide) rfl wm_5_181 dX12_house_124 ?_
          refine q_put (v := .int v95_37_4) X hK h 1 rfl rfl wf_12 tyX12 tyX12_ok nmX12 13 (by decide) wm_5_183 rfl rfl rfl (Nat.le_of_ble_eq_true rfl) dX12_house_127 (fun H locs h_51 => ?_)
          clear h
          replace h_51 : qW D _ _ (wk_dab8c81bb cy h1 f0 h0 0 h1 w0 h2 h3 0 v95_37_0 v95_37_1 p0 v95_37_2 v95_37_3 v95_37_4 v95_37_5 v95_37_4 p11 v95_37_6 w1 w2 w3 w4 w5 p13 p14 w6 w7 w8 p15 p16 w9 w10 w11 w12 w13 p17 w14 w15 w16 h2 f1 h3 v95_37_7) _ _ := h_51
          refine lv_aload_n hx hb dX12_house_130 rfl (lv_at hl 0 rfl) ?_
          refine lv_aload_n hx hb dX12_house_131 rfl (lv_at hl 0 rfl) ?_
          refine q_get X hK h_51 1 rfl rfl wf_12 11 (by decide) rfl wm_5_181 dX12_house_132 ?_
          refine lv_if_ne (tgt := 142) hx hb dX12_house_135 (by decide) (fun c_52 => ?_) (fun c_52 => ?_)
          · replace c_52 := i_ne (x := v95_37_4) (y := 0) rfl (show (0 : Int32).toInt = 0 by decide) c_52
            refine lv_aload_n hx hb dX12_house_142 rfl (lv_at hl 0 rfl) ?_
            refine q_get X hK h_51 1 rfl rfl wf_12 12 (by decide) rfl wm_5_182 dX12_house_143 ?_
            refine q_put (v := .int v95_37_5) X hK h_51 1 rfl rfl wf_12 tyX12 tyX12_ok nmX12 14 (by decide) wm_5_184 rfl rfl rfl (Nat.le_of_ble_eq_true rfl) dX12_house_146 (fun H locs h_53 => ?_)
            clear h_51
            replace h_53 : qW D _ _ (wk_dab8c81bb cy h1 f0 h0 0 h1 w0 h2 h3 0 v95_37_0 v95_37_1 p0 v95_37_2 v95_37_3 v95_37_4 v95_37_5 v95_37_4 v95_37_5 v95_37_6 w1 w2 w3 w4 w5 p13 p14 w6 w7 w8 p15 p16 w9 w10 w11 w12 w13 p17 w14 w15 w16 h2 f1 h3 v95_37_7) _ _ := h_53
            have pf_54 := (show PFR (bM f1) ((p0 : Int32).toInt).toNat (v95_37_4 : Int32).toInt (v95_37_5 : Int32).toInt (v95_37_8 : Int32).toInt from pfr_r x49_1 (by omega) rfl (by first | exact Or.inl ⟨by omega, by decide⟩ | exact Or.inr ⟨by omega, rfl⟩))
            refine lv_aload_n hx hb dX12_house_149 rfl (lv_at hl 0 rfl) ?_
            refine q_get X hK h_53 1 rfl rfl wf_12 11 (by decide) rfl wm_5_181 dX12_house_150 ?_
            refine lv_if_eq (tgt := 164) hx hb dX12_house_153 (by decide) (fun c_55 => ?_) (fun c_55 => ?_)
            · replace c_55 := i_eq (x := v95_37_4) (y := 0) rfl (show (0 : Int32).toInt = 0 by decide) c_55
              refine lv_iconst (v := 0) hx hb dX12_house_164 (by decide) ?_
              refine lv_istore_n (lv' := [(2, .int 0), (0, .ref h0), (1, .int p0)]) hx hb dX12_house_165 rfl hl (by decide) rfl (fun ls_56 hl_56 => ?_)
              clear hl
              refine q_wl (fun (v166_57_0 : Int32) H locs ls => ∃ v166_57_1 : Nat → Int32, (0 ≤ (v166_57_0).toInt ∧ (v166_57_0).toInt ≤ 1306) ∧ (CPY v166_57_1 f0 0 v95_37_7 0 ((v166_57_0 : Int32).toInt).toNat) ∧ (HF (v95_37_4 : Int32).toInt v95_37_7 ((v95_37_10 : Int32).toInt).toNat) ∧ ((v95_37_4 : Int32).toInt = 0) ∧ ((v95_37_4 : Int32).toInt ≠ 0 ∨ (0 ≤ (r_32 : Int32).toInt ∧ (r_32 : Int32).toInt ≤ 3)) ∧ (0 ≤ (p0 : Int32).toInt ∧ (p0 : Int32).toInt ≤ 900) ∧ (0 ≤ (p0 : Int32).toInt ∧ (p0 : Int32).toInt ≤ (p2 : Int32).toInt) ∧ (PFR (bM f1) ((p0 : Int32).toInt).toNat (v95_37_4 : Int32).toInt (v95_37_5 : Int32).toInt (v95_37_8 : Int32).toInt) ∧ ((v95_37_4 : Int32).toInt = 0) ∧ qW D (va_A (wk_04d6d8a2c cy h0 p1 h1 w0 h2 h3 p2 p3 p4 p5 p6 p7 p8 p9 p10 p11 p12 w1 w2 w3 w4 w5 p13 p14 w6 w7 w8 p15 p16 w9 w10 w11 w12 w13 p17 w14 w15 w16 h1 f0 h2 f1 h3 f2) sz) s.heap (wk_dab8c81bb cy h1 v166_57_1 h0 0 h1 w0 h2 h3 0 v95_37_0 v95_37_1 p0 v95_37_2 v95_37_3 v95_37_4 v95_37_5 v95_37_4 v95_37_5 v95_37_6 w1 w2 w3 w4 w5 p13 p14 w6 w7 w8 p15 p16 w9 w10 w11 w12 w13 p17 w14 w15 w16 h2 f1 h3 v95_37_7) H locs ∧ lv_has ls 3 [(0, .ref h0), (1, .int p0), (2, .int v166_57_0)]) (fun (v166_57_0 : Int32) => (1307 - (v166_57_0).toInt).toNat) (fun q_166 ih_166 H locs ls hP => ?_) 0 ⟨f0, ⟨by decide +kernel, by decide +kernel⟩, (cp_0 (by decide)), (hf_w x41_3 (by (first | assumption | (clear x17_1 x18_2 x26_1 x27_2 x39_1 x40_2 x42_4 x46_8 x50_2; omega) | omega))), (by (first | (clear x17_1 x18_2 x26_1 x27_2 x39_1 x40_2 x42_4 x46_8 x50_2; omega) | omega)), (x42_4), (x43_5), (x48_0), (pf_54), (by (first | (clear x17_1 x18_2 x26_1 x27_2 x39_1 x40_2 x42_4 x46_8 x50_2; omega) | omega)), h_53, (lv_sub hl_56 [1, 2, 0] rfl)⟩
              obtain ⟨v166_57_0, rfl⟩ : ∃ z, z = q_166 := ⟨_, rfl⟩
              obtain ⟨v166_57_1, hv166_57_0, x58_0, x59_1, x60_2, x61_3, x62_4, x63_5, x64_6, x65_7, h, hl⟩ := hP
              try clear c_5
              try clear c_52
              try clear c_55
              try clear lq_14_1
              try clear lq_23_1
              try clear lq_32_1
              try clear lq_32_2
              try clear lq_4_1
              try clear y10_0
              try clear y12_0
              try clear y12_1
              try clear y12_2
              try clear y12_3
              try clear y14_0
              try clear y14_1
              try clear y14_2
              try clear y14_3
              try clear y14_4
              try clear y23_0
              try clear y23_1
              try clear y23_2
              try clear y23_3
              try clear y23_4
              try clear y32_0
              try clear y32_1
              try clear y32_2
              try clear y32_3
              try clear y32_4
              try clear y32_5
              try clear y32_6
              try clear y36_0
              try clear y36_1
              try clear y36_2
              try clear y36_3
              try clear y36_4
              try clear y36_5
              try clear y36_6
              try clear y36_7
              try clear y36_8
              try clear y4_0
              refine lv_iload_n hx hb dX12_house_166 rfl (lv_at hl 2 rfl) ?_
              refine lv_sipush (v := 1306) hx hb dX12_house_167 (by decide) ?_
              refine lv_icmp_ge (tgt := 191) hx hb dX12_house_170 (by decide) (fun c_66 => ?_) (fun c_66 => ?_)
              · replace c_66 := i_le (x := 1306) (y := v166_57_0) (show (1306 : Int32).toInt = 1306 by decide) rfl c_66
                have cx_67 := al_house x58_0 (by omega) rf0 x59_1 (by omega) trv95_37_7_1 trv95_37_7_2 (by omega) (by omega) (by omega)
                obtain ⟨z_68, ez_68, hz_68⟩ := al_N84 cx_67
                refine lv_aload_n hx hb dX12_house_191 rfl (lv_at hl 0 rfl) ?_
                refine q_get X hK h 1 rfl rfl wf_12 1 (by decide) rfl wm_5_171 dX12_house_192 ?_
                refine lv_iconst (v := 0) hx hb dX12_house_195 (by decide) ?_
                refine q_iald X hK h 0 rfl (q_in (by decide +kernel)) dX12_house_196 ?_
                obtain ⟨z_69, ez_69, hz_69⟩ := e_any (v166_57_1 0)
                refine q_c z_69 ez_69 ?_
                exact q_iret X hr hlk hK h rfl (fun _ => 0, (vcons v166_57_1 (vcons (fun _ => z_68) (vcons (fun _ => 0) (vcons (fun _ => 0) (vcons (fun _ => v95_37_0) (vcons (fun _ => v95_37_1) (vcons (fun _ => p0) (vcons (fun _ => v95_37_2) (vcons (fun _ => v95_37_3) (vcons (fun _ => v95_37_4) (vcons (fun _ => v95_37_5) (vcons (fun _ => v95_37_4) (vcons (fun _ => v95_37_5) (vcons (fun _ => v95_37_6) (vcons v95_37_7 (vcons (fun _ => v95_37_8) (vcons (fun _ => r_32) (vcons (fun _ => v95_37_9) (vcons (fun _ => v95_37_10) (fun _ => (fun _ => 0))))))))))))))))))))), fun _ _ => 0) ⟨⟨by omega, by omega⟩, cx_67, (⟨by omega, by omega⟩ : 0 ≤ (z_68 : Int32).toInt ∧ (z_68 : Int32).toInt ≤ 10), (⟨by decide +kernel, by decide +kernel⟩ : 0 ≤ (0 : Int32).toInt ∧ (0 : Int32).toInt ≤ 0), (⟨by decide +kernel, by decide +kernel⟩ : 0 ≤ (0 : Int32).toInt ∧ (0 : Int32).toInt ≤ 900), hv95_37_0, hv95_37_1, (⟨by omega, by omega⟩ : 0 ≤ (p0 : Int32).toInt ∧ (p0 : Int32).toInt ≤ 900), hv95_37_2, hv95_37_3, hv95_37_4, hv95_37_5, hv95_37_4, hv95_37_5, hv95_37_6, (bw hv95_37_8 (by decide) (by decide)), (bw wr_32 (by decide) (by decide)), hv95_37_9, hv95_37_10, ez_68, trv95_37_7_0, trv95_37_7_1, trv95_37_7_2, trv95_37_7_405, (show (((p0 : Int32).toInt < 0 ∨ (p2 : Int32).toInt < (p0 : Int32).toInt) ∧ (z_69 : Int32).toInt = -3 ∧ (0 : Int32).toInt = (p2 : Int32).toInt ∧ (v95_37_4 : Int32).toInt = (p10 : Int32).toInt ∧ (v95_37_5 : Int32).toInt = (p11 : Int32).toInt) ∨ (0 ≤ (p0 : Int32).toInt ∧ (p0 : Int32).toInt ≤ (p2 : Int32).toInt ∧ (0 : Int32).toInt = 0 ∧ HSE (z_69 : Int32).toInt (v95_37_4 : Int32).toInt (v95_37_5 : Int32).toInt (PF (bM f1) ((p0 : Int32).toInt).toNat)) from Or.inr ⟨(by (first | assumption | (clear x17_1 x18_2 x26_1 x27_2 x39_1 x40_2 x61_3 x46_8 x50_2; omega) | omega)), (by (first | assumption | (clear x17_1 x18_2 x26_1 x27_2 x39_1 x40_2 x61_3 x46_8 x50_2; omega) | omega)), by decide, hse_l x64_6 (by (first | assumption | (clear x17_1 x18_2 x26_1 x27_2 x39_1 x40_2 x61_3 x46_8 x50_2; omega) | omega)) (congrArg Int32.toInt (cp_at x58_0 (by (first | assumption | (clear x17_1 x18_2 x26_1 x27_2 x39_1 x40_2 x61_3 x46_8 x50_2; omega) | omega)) ez_69 trv95_37_7_0))⟩), trivial⟩ [1, 0, 2, 3] rfl rfl dX12_house_197 (Nat.le_of_ble_eq_true rfl) (Nat.le_of_ble_eq_true rfl)
              · replace c_66 := i_nle (x := 1306) (y := v166_57_0) (show (1306 : Int32).toInt = 1306 by decide) rfl c_66
                refine lv_aload_n hx hb dX12_house_173 rfl (lv_at hl 0 rfl) ?_
                refine q_get X hK h 1 rfl rfl wf_12 1 (by decide) rfl wm_5_171 dX12_house_174 ?_
                refine lv_iload_n hx hb dX12_house_177 rfl (lv_at hl 2 rfl) ?_
                refine lv_aload_n hx hb dX12_house_178 rfl (lv_at hl 0 rfl) ?_
                refine q_get X hK h 1 rfl rfl wf_12 4 (by decide) rfl wm_5_174 dX12_house_179 ?_
                refine lv_iload_n hx hb dX12_house_182 rfl (lv_at hl 2 rfl) ?_
                refine q_iald X hK h 3 rfl (i_in rfl (by omega) (by omega)) dX12_house_183 ?_
                obtain ⟨z_70, ez_70, hz_70⟩ := e_any (v95_37_7 v166_57_0.toNatClampNeg)
                refine q_c z_70 ez_70 ?_
                refine q_iast X hK h 0 rfl (i_in rfl (by omega) (by omega)) dX12_house_184 (fun H locs h_72 => ?_)
                clear h
                replace h_72 : qW D _ _ (wk_dab8c81bb cy h1 (upd v166_57_1 (Int32.toNatClampNeg v166_57_0) z_70) h0 0 h1 w0 h2 h3 0 v95_37_0 v95_37_1 p0 v95_37_2 v95_37_3 v95_37_4 v95_37_5 v95_37_4 v95_37_5 v95_37_6 w1 w2 w3 w4 w5 p13 p14 w6 w7 w8 p15 p16 w9 w10 w11 w12 w13 p17 w14 w15 w16 h2 f1 h3 v95_37_7) _ _ := h_72
                obtain ⟨F_71, eF_71⟩ : ∃ z, (upd v166_57_1 (Int32.toNatClampNeg v166_57_0) z_70) = z := ⟨_, rfl⟩
                rw [eF_71] at h_72
                have cs_73 := cp_s x58_0 ez_70 eF_71 (by omega) (by omega)
                obtain ⟨z_74, ez_74, hz_74⟩ := e_add (x := v166_57_0) (y := Int32.ofInt 1) rfl (b := 1) (by decide) (by omega) (by omega)
                refine lv_iinc (v := z_74) (lv' := [(2, .int z_74), (0, .ref h0), (1, .int p0)]) hx hb dX12_house_185 hl (k := 2) rfl ez_74 (by decide) rfl (fun ls_74 hl_74 => ?_)
                clear hl
                refine lv_goto (tgt := 166) hx hb dX12_house_188 (by decide) ?_
                exact ih_166 z_74 (by show (1307 - (z_74).toInt).toNat < (1307 - (v166_57_0).toInt).toNat; omega) _ _ _ ⟨F_71, ⟨by omega, by omega⟩, (cp_n cs_73 (by (first | assumption | (clear x17_1 x18_2 x26_1 x27_2 x39_1 x40_2 x61_3 x46_8 x50_2; omega) | omega))), (hf_w x59_1 (by (first | assumption | (clear x17_1 x18_2 x26_1 x27_2 x39_1 x40_2 x61_3 x46_8 x50_2; omega) | omega))), (x65_7), (x61_3), (x62_4), (x63_5), (x64_6), (x65_7), h_72, (lv_sub hl_74 [1, 2, 0] rfl)⟩
            · replace c_55 := i_ne (x := v95_37_4) (y := 0) rfl (show (0 : Int32).toInt = 0 by decide) c_55
              refine lv_bipush (v := (-30)) hx hb dX12_house_156 (by decide) ?_
              refine lv_aload_n hx hb dX12_house_158 rfl (lv_at hl 0 rfl) ?_
              refine q_get X hK h_53 1 rfl rfl wf_12 11 (by decide) rfl wm_5_181 dX12_house_159 ?_
              have fb_75 := pfr_rng pf_54
              refine lv_isub hx hb dX12_house_162 ?_
              obtain ⟨z_76, ez_76, hz_76⟩ := e_sub (x := (-30)) (y := v95_37_4) (show ((-30) : Int32).toInt = -30 by decide) rfl (by omega) (by omega)
              refine q_c z_76 ez_76 ?_
              clear ez_76
              exact q_iret X hr hlk hK h_53 rfl (fun _ => 0, (vcons f0 (vcons (fun _ => p18) (vcons (fun _ => 0) (vcons (fun _ => 0) (vcons (fun _ => v95_37_0) (vcons (fun _ => v95_37_1) (vcons (fun _ => p0) (vcons (fun _ => v95_37_2) (vcons (fun _ => v95_37_3) (vcons (fun _ => v95_37_4) (vcons (fun _ => v95_37_5) (vcons (fun _ => v95_37_4) (vcons (fun _ => v95_37_5) (vcons (fun _ => v95_37_6) (vcons v95_37_7 (vcons (fun _ => v95_37_8) (vcons (fun _ => r_32) (vcons (fun _ => v95_37_9) (vcons (fun _ => v95_37_10) (fun _ => (fun _ => 0))))))))))))))))))))), fun _ _ => 0) ⟨⟨by omega, by omega⟩, rf0, hp18, (⟨by decide +kernel, by decide +kernel⟩ : 0 ≤ (0 : Int32).toInt ∧ (0 : Int32).toInt ≤ 0), (⟨by decide +kernel, by decide +kernel⟩ : 0 ≤ (0 : Int32).toInt ∧ (0 : Int32).toInt ≤ 900), hv95_37_0, hv95_37_1, (⟨by omega, by omega⟩ : 0 ≤ (p0 : Int32).toInt ∧ (p0 : Int32).toInt ≤ 900), hv95_37_2, hv95_37_3, hv95_37_4, hv95_37_5, hv95_37_4, hv95_37_5, hv95_37_6, (bw hv95_37_8 (by decide) (by decide)), (bw wr_32 (by decide) (by decide)), hv95_37_9, hv95_37_10, htf0_84, trv95_37_7_0, trv95_37_7_1, trv95_37_7_2, trv95_37_7_405, (show (((p0 : Int32).toInt < 0 ∨ (p2 : Int32).toInt < (p0 : Int32).toInt) ∧ (z_76 : Int32).toInt = -3 ∧ (0 : Int32).toInt = (p2 : Int32).toInt ∧ (v95_37_4 : Int32).toInt = (p10 : Int32).toInt ∧ (v95_37_5 : Int32).toInt = (p11 : Int32).toInt) ∨ (0 ≤ (p0 : Int32).toInt ∧ (p0 : Int32).toInt ≤ (p2 : Int32).toInt ∧ (0 : Int32).toInt = 0 ∧ HSE (z_76 : Int32).toInt (v95_37_4 : Int32).toInt (v95_37_5 : Int32).toInt (PF (bM f1) ((p0 : Int32).toInt).toNat)) from Or.inr ⟨(by (first | assumption | (clear x17_1 x18_2 x26_1 x27_2 x39_1 x40_2 x42_4 x46_8 x50_2; omega) | omega)), (by (first | assumption | (clear x17_1 x18_2 x26_1 x27_2 x39_1 x40_2 x42_4 x46_8 x50_2; omega) | omega)), by decide, hse_f pf_54 (by (first | assumption | (clear x17_1 x18_2 x26_1 x27_2 x39_1 x40_2 x42_4 x46_8 x50_2; omega) | omega)) (by (first | assumption | (clear x17_1 x18_2 x26_1 x27_2 x39_1 x40_2 x42_4 x46_8 x50_2; omega) | omega))⟩), trivial⟩ [1, 0, 2, 3] rfl rfl dX12_house_163 (Nat.le_of_ble_eq_true rfl) (Nat.le_of_ble_eq_true rfl)
          · replace c_52 := i_eq (x := v95_37_4) (y := 0) rfl (show (0 : Int32).toInt = 0 by decide) c_52
            refine lv_iconst (v := (-1)) hx hb dX12_house_138 (by decide) ?_
            refine lv_goto (tgt := 146) hx hb dX12_house_139 (by decide) ?_
            refine q_put (v := .int (-1)) X hK h_51 1 rfl rfl wf_12 tyX12 tyX12_ok nmX12 14 (by decide) wm_5_184 rfl rfl rfl (Nat.le_of_ble_eq_true rfl) dX12_house_146 (fun H locs h_77 => ?_)
            clear h_51
            replace h_77 : qW D _ _ (wk_dab8c81bb cy h1 f0 h0 0 h1 w0 h2 h3 0 v95_37_0 v95_37_1 p0 v95_37_2 v95_37_3 v95_37_4 v95_37_5 v95_37_4 (-1) v95_37_6 w1 w2 w3 w4 w5 p13 p14 w6 w7 w8 p15 p16 w9 w10 w11 w12 w13 p17 w14 w15 w16 h2 f1 h3 v95_37_7) _ _ := h_77
            have pf_78 := (show PFR (bM f1) ((p0 : Int32).toInt).toNat (v95_37_4 : Int32).toInt ((-1) : Int32).toInt (v95_37_8 : Int32).toInt from pfr_r x49_1 (by omega) rfl (by first | exact Or.inl ⟨by omega, by decide⟩ | exact Or.inr ⟨by omega, rfl⟩))
            refine lv_aload_n hx hb dX12_house_149 rfl (lv_at hl 0 rfl) ?_
            refine q_get X hK h_77 1 rfl rfl wf_12 11 (by decide) rfl wm_5_181 dX12_house_150 ?_
            refine lv_if_eq (tgt := 164) hx hb dX12_house_153 (by decide) (fun c_79 => ?_) (fun c_79 => ?_)
            · replace c_79 := i_eq (x := v95_37_4) (y := 0) rfl (show (0 : Int32).toInt = 0 by decide) c_79
              refine lv_iconst (v := 0) hx hb dX12_house_164 (by decide) ?_
              refine lv_istore_n (lv' := [(2, .int 0), (0, .ref h0), (1, .int p0)]) hx hb dX12_house_165 rfl hl (by decide) rfl (fun ls_80 hl_80 => ?_)
              clear hl
              refine q_wl (fun (v166_81_0 : Int32) H locs ls => ∃ v166_81_1 : Nat → Int32, (0 ≤ (v166_81_0).toInt ∧ (v166_81_0).toInt ≤ 1306) ∧ (CPY v166_81_1 f0 0 v95_37_7 0 ((v166_81_0 : Int32).toInt).toNat) ∧ (HF (v95_37_4 : Int32).toInt v95_37_7 ((v95_37_10 : Int32).toInt).toNat) ∧ ((v95_37_4 : Int32).toInt = 0) ∧ ((v95_37_4 : Int32).toInt ≠ 0 ∨ (0 ≤ (r_32 : Int32).toInt ∧ (r_32 : Int32).toInt ≤ 3)) ∧ (0 ≤ (p0 : Int32).toInt ∧ (p0 : Int32).toInt ≤ 900) ∧ (0 ≤ (p0 : Int32).toInt ∧ (p0 : Int32).toInt ≤ (p2 : Int32).toInt) ∧ (PFR (bM f1) ((p0 : Int32).toInt).toNat (v95_37_4 : Int32).toInt ((-1) : Int32).toInt (v95_37_8 : Int32).toInt) ∧ ((v95_37_4 : Int32).toInt = 0) ∧ qW D (va_A (wk_04d6d8a2c cy h0 p1 h1 w0 h2 h3 p2 p3 p4 p5 p6 p7 p8 p9 p10 p11 p12 w1 w2 w3 w4 w5 p13 p14 w6 w7 w8 p15 p16 w9 w10 w11 w12 w13 p17 w14 w15 w16 h1 f0 h2 f1 h3 f2) sz) s.heap (wk_dab8c81bb cy h1 v166_81_1 h0 0 h1 w0 h2 h3 0 v95_37_0 v95_37_1 p0 v95_37_2 v95_37_3 v95_37_4 v95_37_5 v95_37_4 (-1) v95_37_6 w1 w2 w3 w4 w5 p13 p14 w6 w7 w8 p15 p16 w9 w10 w11 w12 w13 p17 w14 w15 w16 h2 f1 h3 v95_37_7) H locs ∧ lv_has ls 3 [(0, .ref h0), (1, .int p0), (2, .int v166_81_0)]) (fun (v166_81_0 : Int32) => (1307 - (v166_81_0).toInt).toNat) (fun q_166 ih_166 H locs ls hP => ?_) 0 ⟨f0, ⟨by decide +kernel, by decide +kernel⟩, (cp_0 (by decide)), (hf_w x41_3 (by (first | assumption | (clear x17_1 x18_2 x26_1 x27_2 x39_1 x40_2 x42_4 x46_8 x50_2; omega) | omega))), (by (first | (clear x17_1 x18_2 x26_1 x27_2 x39_1 x40_2 x42_4 x46_8 x50_2; omega) | omega)), (x42_4), (x43_5), (x48_0), (pf_78), (by (first | (clear x17_1 x18_2 x26_1 x27_2 x39_1 x40_2 x42_4 x46_8 x50_2; omega) | omega)), h_77, (lv_sub hl_80 [1, 2, 0] rfl)⟩
              obtain ⟨v166_81_0, rfl⟩ : ∃ z, z = q_166 := ⟨_, rfl⟩
              obtain ⟨v166_81_1, hv166_81_0, x82_0, x83_1, x84_2, x85_3, x86_4, x87_5, x88_6, x89_7, h, hl⟩ := hP
              try clear c_5
              try clear c_52
              try clear c_55
              try clear c_66
              try clear c_79
              try clear lq_14_1
              try clear lq_23_1
              try clear lq_32_1
              try clear lq_32_2
              try clear lq_4_1
              try clear y10_0
              try clear y12_0
              try clear y12_1
              try clear y12_2
              try clear y12_3
              try clear y14_0
              try clear y14_1
              try clear y14_2
              try clear y14_3
              try clear y14_4
              try clear y23_0
              try clear y23_1
              try clear y23_2
              try clear y23_3
              try clear y23_4
              try clear y32_0
              try clear y32_1
              try clear y32_2
              try clear y32_3
              try clear y32_4
              try clear y32_5
              try clear y32_6
              try clear y36_0
              try clear y36_1
              try clear y36_2
              try clear y36_3
              try clear y36_4
              try clear y36_5
              try clear y36_6
              try clear y36_7
              try clear y36_8
              try clear y4_0
              refine lv_iload_n hx hb dX12_house_166 rfl (lv_at hl 2 rfl) ?_
              refine lv_sipush (v := 1306) hx hb dX12_house_167 (by decide) ?_
              refine lv_icmp_ge (tgt := 191) hx hb dX12_house_170 (by decide) (fun c_90 => ?_) (fun c_90 => ?_)
              · replace c_90 := i_le (x := 1306) (y := v166_81_0) (show (1306 : Int32).toInt = 1306 by decide) rfl c_90
                have cx_91 := al_house x82_0 (by omega) rf0 x83_1 (by omega) trv95_37_7_1 trv95_37_7_2 (by omega) (by omega) (by omega)
                obtain ⟨z_92, ez_92, hz_92⟩ := al_N84 cx_91
                refine lv_aload_n hx hb dX12_house_191 rfl (lv_at hl 0 rfl) ?_
                refine q_get X hK h 1 rfl rfl wf_12 1 (by decide) rfl wm_5_171 dX12_house_192 ?_
                refine lv_iconst (v := 0) hx hb dX12_house_195 (by decide) ?_
                refine q_iald X hK h 0 rfl (q_in (by decide +kernel)) dX12_house_196 ?_
                obtain ⟨z_93, ez_93, hz_93⟩ := e_any (v166_81_1 0)
                refine q_c z_93 ez_93 ?_
                exact q_iret X hr hlk hK h rfl (fun _ => 0, (vcons v166_81_1 (vcons (fun _ => z_92) (vcons (fun _ => 0) (vcons (fun _ => 0) (vcons (fun _ => v95_37_0) (vcons (fun _ => v95_37_1) (vcons (fun _ => p0) (vcons (fun _ => v95_37_2) (vcons (fun _ => v95_37_3) (vcons (fun _ => v95_37_4) (vcons (fun _ => v95_37_5) (vcons (fun _ => v95_37_4) (vcons (fun _ => (-1)) (vcons (fun _ => v95_37_6) (vcons v95_37_7 (vcons (fun _ => v95_37_8) (vcons (fun _ => r_32) (vcons (fun _ => v95_37_9) (vcons (fun _ => v95_37_10) (fun _ => (fun _ => 0))))))))))))))))))))), fun _ _ => 0) ⟨⟨by omega, by omega⟩, cx_91, (⟨by omega, by omega⟩ : 0 ≤ (z_92 : Int32).toInt ∧ (z_92 : Int32).toInt ≤ 10), (⟨by decide +kernel, by decide +kernel⟩ : 0 ≤ (0 : Int32).toInt ∧ (0 : Int32).toInt ≤ 0), (⟨by decide +kernel, by decide +kernel⟩ : 0 ≤ (0 : Int32).toInt ∧ (0 : Int32).toInt ≤ 900), hv95_37_0, hv95_37_1, (⟨by omega, by omega⟩ : 0 ≤ (p0 : Int32).toInt ∧ (p0 : Int32).toInt ≤ 900), hv95_37_2, hv95_37_3, hv95_37_4, hv95_37_5, hv95_37_4, (⟨by decide +kernel, by decide +kernel⟩ : (-2147483648) ≤ ((-1) : Int32).toInt ∧ ((-1) : Int32).toInt ≤ 2147483647), hv95_37_6, (bw hv95_37_8 (by decide) (by decide)), (bw wr_32 (by decide) (by decide)), hv95_37_9, hv95_37_10, ez_92, trv95_37_7_0, trv95_37_7_1, trv95_37_7_2, trv95_37_7_405, (show (((p0 : Int32).toInt < 0 ∨ (p2 : Int32).toInt < (p0 : Int32).toInt) ∧ (z_93 : Int32).toInt = -3 ∧ (0 : Int32).toInt = (p2 : Int32).toInt ∧ (v95_37_4 : Int32).toInt = (p10 : Int32).toInt ∧ ((-1) : Int32).toInt = (p11 : Int32).toInt) ∨ (0 ≤ (p0 : Int32).toInt ∧ (p0 : Int32).toInt ≤ (p2 : Int32).toInt ∧ (0 : Int32).toInt = 0 ∧ HSE (z_93 : Int32).toInt (v95_37_4 : Int32).toInt ((-1) : Int32).toInt (PF (bM f1) ((p0 : Int32).toInt).toNat)) from Or.inr ⟨(by (first | assumption | (clear x17_1 x18_2 x26_1 x27_2 x39_1 x40_2 x85_3 x46_8 x50_2; omega) | omega)), (by (first | assumption | (clear x17_1 x18_2 x26_1 x27_2 x39_1 x40_2 x85_3 x46_8 x50_2; omega) | omega)), by decide, hse_l x88_6 (by (first | assumption | (clear x17_1 x18_2 x26_1 x27_2 x39_1 x40_2 x85_3 x46_8 x50_2; omega) | omega)) (congrArg Int32.toInt (cp_at x82_0 (by (first | assumption | (clear x17_1 x18_2 x26_1 x27_2 x39_1 x40_2 x85_3 x46_8 x50_2; omega) | omega)) ez_93 trv95_37_7_0))⟩), trivial⟩ [1, 0, 2, 3] rfl rfl dX12_house_197 (Nat.le_of_ble_eq_true rfl) (Nat.le_of_ble_eq_true rfl)
              · replace c_90 := i_nle (x := 1306) (y := v166_81_0) (show (1306 : Int32).toInt = 1306 by decide) rfl c_90
                refine lv_aload_n hx hb dX12_house_173 rfl (lv_at hl 0 rfl) ?_
                refine q_get X hK h 1 rfl rfl wf_12 1 (by decide) rfl wm_5_171 dX12_house_174 ?_
                refine lv_iload_n hx hb dX12_house_177 rfl (lv_at hl 2 rfl) ?_
                refine lv_aload_n hx hb dX12_house_178 rfl (lv_at hl 0 rfl) ?_
                refine q_get X hK h 1 rfl rfl wf_12 4 (by decide) rfl wm_5_174 dX12_house_179 ?_
                refine lv_iload_n hx hb dX12_house_182 rfl (lv_at hl 2 rfl) ?_
                refine q_iald X hK h 3 rfl (i_in rfl (by omega) (by omega)) dX12_house_183 ?_
                obtain ⟨z_94, ez_94, hz_94⟩ := e_any (v95_37_7 v166_81_0.toNatClampNeg)
                refine q_c z_94 ez_94 ?_
                refine q_iast X hK h 0 rfl (i_in rfl (by omega) (by omega)) dX12_house_184 (fun H locs h_96 => ?_)
                clear h
                replace h_96 : qW D _ _ (wk_dab8c81bb cy h1 (upd v166_81_1 (Int32.toNatClampNeg v166_81_0) z_94) h0 0 h1 w0 h2 h3 0 v95_37_0 v95_37_1 p0 v95_37_2 v95_37_3 v95_37_4 v95_37_5 v95_37_4 (-1) v95_37_6 w1 w2 w3 w4 w5 p13 p14 w6 w7 w8 p15 p16 w9 w10 w11 w12 w13 p17 w14 w15 w16 h2 f1 h3 v95_37_7) _ _ := h_96
                obtain ⟨F_95, eF_95⟩ : ∃ z, (upd v166_81_1 (Int32.toNatClampNeg v166_81_0) z_94) = z := ⟨_, rfl⟩
                rw [eF_95] at h_96
                have cs_97 := cp_s x82_0 ez_94 eF_95 (by omega) (by omega)
                obtain ⟨z_98, ez_98, hz_98⟩ := e_add (x := v166_81_0) (y := Int32.ofInt 1) rfl (b := 1) (by decide) (by omega) (by omega)
                refine lv_iinc (v := z_98) (lv' := [(2, .int z_98), (0, .ref h0), (1, .int p0)]) hx hb dX12_house_185 hl (k := 2) rfl ez_98 (by decide) rfl (fun ls_98 hl_98 => ?_)
                clear hl
                refine lv_goto (tgt := 166) hx hb dX12_house_188 (by decide) ?_
                exact ih_166 z_98 (by show (1307 - (z_98).toInt).toNat < (1307 - (v166_81_0).toInt).toNat; omega) _ _ _ ⟨F_95, ⟨by omega, by omega⟩, (cp_n cs_97 (by (first | assumption | (clear x17_1 x18_2 x26_1 x27_2 x39_1 x40_2 x85_3 x46_8 x50_2; omega) | omega))), (hf_w x83_1 (by (first | assumption | (clear x17_1 x18_2 x26_1 x27_2 x39_1 x40_2 x85_3 x46_8 x50_2; omega) | omega))), (x89_7), (x85_3), (x86_4), (x87_5), (x88_6), (x89_7), h_96, (lv_sub hl_98 [1, 2, 0] rfl)⟩
            · replace c_79 := i_ne (x := v95_37_4) (y := 0) rfl (show (0 : Int32).toInt = 0 by decide) c_79
              exfalso
              omega
        · skip
          refine lv_if_ne (tgt := 122) hx hb dX12_house_99 (by decide) (fun c_99 => ?_) (fun c_99 => ?_)
          · replace c_99 := i_ne (x := v95_37_4) (y := 0) rfl (show (0 : Int32).toInt = 0 by decide) c_99
            exact J_122 _ _ _ _ ⟨(x44_6), (x45_7), (by (first | (clear x17_1 x18_2 x26_1 x27_2 x39_1 x40_2 x42_4 x46_8; omega) | omega)), rfl, h, (lv_sub hl [0, 1] rfl)⟩
          · replace c_99 := i_eq (x := v95_37_4) (y := 0) rfl (show (0 : Int32).toInt = 0 by decide) c_99
            refine lv_aload_n hx hb dX12_house_102 rfl (lv_at hl 0 rfl) ?_
            refine q_get X hK h 1 rfl rfl wf_12 9 (by decide) rfl wm_5_179 dX12_house_103 ?_
            refine lv_bipush (v := 26) hx hb dX12_house_106 (by decide) ?_
            refine lv_icmp_eq (tgt := 122) hx hb dX12_house_108 (by decide) (fun c_100 => ?_) (fun c_100 => ?_)
            · replace c_100 := i_eq (x := v95_37_2) (y := 26) rfl (show (26 : Int32).toInt = 26 by decide) c_100
              exact J_122 _ _ _ _ ⟨(x44_6), (x45_7), (by (first | (clear x17_1 x18_2 x26_1 x27_2 x39_1 x40_2 x42_4 x46_8; omega) | omega)), rfl, h, (lv_sub hl [0, 1] rfl)⟩
            · replace c_100 := i_ne (x := v95_37_2) (y := 26) rfl (show (26 : Int32).toInt = 26 by decide) c_100
              refine lv_aload_n hx hb dX12_house_111 rfl (lv_at hl 0 rfl) ?_
              refine q_callVv (rest := []) (wr := [(h1, .inl (cy 1, 3918, .inl f0))]) X hK hT hA h (fun sz => gX12_readLine_c526700 l D cy h0 h2 h3 (0 : Int32) (.ref h1) w0 (0 : Int32) v95_37_0 v95_37_1 p0 v95_37_2 v95_37_3 v95_37_4 v95_37_5 p10 p11 v95_37_6 w1 w2 w3 w4 w5 p13 p14 w6 w7 w8 p15 p16 w9 w10 w11 w12 w13 p17 w14 w15 w16 f1 v95_37_7 v95_37_8 r_32 v95_37_9 v95_37_10 ⟨by decide +kernel, by decide +kernel⟩ ⟨by decide +kernel, by decide +kernel⟩ hv95_37_0 hv95_37_1 ⟨by omega, by omega⟩ (i_rng _) hv95_37_3 (i_rng _) (i_rng _) (i_rng _) (i_rng _) (i_rng _) (i_rng _) (i_rng _) (i_rng _) (i_rng _) (i_rng _) hv95_37_8 (i_rng _) hv95_37_9 hv95_37_10 trv95_37_7_0 trv95_37_7_1 trv95_37_7_2 trv95_37_7_405 (x38_0) (x39_1) (x40_2) (hf_w x41_3 (by (first | assumption | (clear x17_1 x18_2 x26_1 x27_2 x39_1 x40_2 x42_4 x46_8; omega) | omega))) (x42_4) sz) wm_6_95 wm_6_98 wm_1_12 hd_X12_readLine wm_6_97 wp_4_11 (ci := 12) (q0 := 0) rfl rfl ⟨Nat.le_of_ble_eq_true rfl, Nat.le_of_ble_eq_true rfl⟩ hl.1 rfl (Nat.le_of_ble_eq_true rfl) dX12_house_112 ⟨Nat.le_of_ble_eq_true rfl, Nat.le_of_ble_eq_true rfl⟩ [1, 2, 3] [0] rfl rfl (by decide) rfl rfl (fun u_101 H locs w_101 h_101 => ?_)
              clear h
              obtain ⟨w101_0, w101_1, w101_2, w101_3, w101_4, w101_5, w101_6, w101_7, w101_8, w101_9, w101_10, w101_11, w101_12, y101_0, y101_1, y101_2, y101_3, y101_4, y101_5, y101_6, y101_7, y101_8, _⟩ := w_101
              replace h_101 : qW D _ _ (wk_dab8c81bb cy h1 f0 h0 0 h1 w0 h2 h3 0 (u_101.2.1 0 0) (u_101.2.1 1 0) p0 (u_101.2.1 2 0) (u_101.2.1 3 0) (u_101.2.1 4 0) (u_101.2.1 5 0) p10 p11 (u_101.2.1 7 0) w1 w2 w3 w4 w5 p13 p14 w6 w7 w8 p15 p16 w9 w10 w11 w12 w13 p17 w14 w15 w16 h2 f1 h3 (u_101.2.1 6)) _ _ := h_101
              refine lv_aload_n hx hb dX12_house_115 rfl (lv_at hl 0 rfl) ?_
              refine q_callVv (rest := []) (wr := [(h1, .inl (cy 1, 3918, .inl f0))]) X hK hT hA h_101 (fun sz => gX12_ends_3a5e2d0 l D cy h0 h2 h3 (0 : Int32) (.ref h1) w0 (0 : Int32) (u_101.2.1 0 0) (u_101.2.1 1 0) p0 (u_101.2.1 2 0) (u_101.2.1 3 0) (u_101.2.1 4 0) (u_101.2.1 5 0) p10 p11 (u_101.2.1 7 0) w1 w2 w3 w4 w5 p13 p14 w6 w7 w8 p15 p16 w9 w10 w11 w12 w13 p17 w14 w15 w16 f1 (u_101.2.1 6) v95_37_8 r_32 (u_101.2.1 9 0) (u_101.2.1 8 0) ⟨by decide +kernel, by decide +kernel⟩ ⟨by decide +kernel, by decide +kernel⟩ w101_0 w101_1 ⟨by omega, by omega⟩ (i_rng _) w101_3 (i_rng _) (i_rng _) (i_rng _) (i_rng _) (i_rng _) (i_rng _) (i_rng _) (i_rng _) (i_rng _) (i_rng _) hv95_37_8 (i_rng _) w101_8 w101_7 w101_9 w101_10 w101_11 w101_12 (y101_0) (y101_1) (y101_4) (hf_w y101_5 (by (first | assumption | (clear x17_1 x18_2 x26_1 x27_2 x39_1 x40_2 x42_4 x46_8 y101_1 y101_3 y101_4 y101_7; omega) | omega))) (by (first | (clear x17_1 x18_2 x26_1 x27_2 x39_1 x40_2 x42_4 x46_8 y101_1 y101_3 y101_4 y101_7; omega) | omega)) sz) wm_6_91 wm_6_94 wm_1_12 hd_X12_ends wm_6_93 wp_4_10 (ci := 12) (q0 := 0) rfl rfl ⟨Nat.le_of_ble_eq_true rfl, Nat.le_of_ble_eq_true rfl⟩ hl.1 rfl (Nat.le_of_ble_eq_true rfl) dX12_house_116 ⟨Nat.le_of_ble_eq_true rfl, Nat.le_of_ble_eq_true rfl⟩ [1, 2, 3] [0] rfl rfl (by decide) rfl rfl (fun u_102 H locs w_102 h_102 => ?_)
              clear h_101
              obtain ⟨w102_0, w102_1, w102_2, w102_3, w102_4, w102_5, w102_6, w102_7, w102_8, w102_9, w102_10, y102_0, y102_1, y102_2, y102_3, y102_4, y102_5, y102_6, y102_7, y102_8, _⟩ := w_102
              replace h_102 : qW D _ _ (wk_dab8c81bb cy h1 f0 h0 0 h1 w0 h2 h3 0 (u_102.2.1 2 0) (u_102.2.1 3 0) p0 (u_102.2.1 4 0) (u_102.2.1 5 0) (u_102.2.1 6 0) (u_102.2.1 7 0) p10 p11 (u_101.2.1 7 0) w1 w2 w3 w4 w5 p13 p14 w6 w7 w8 p15 p16 w9 w10 w11 w12 w13 p17 w14 w15 w16 h2 f1 h3 (u_102.2.1 0)) _ _ := h_102
              refine lv_goto (tgt := 95) hx hb dX12_house_119 (by decide) ?_
              exact ih_95 ((u_102.2.1 2 0), (u_102.2.1 3 0), (u_102.2.1 4 0), (u_102.2.1 5 0), (u_102.2.1 6 0), (u_102.2.1 7 0), (u_101.2.1 7 0), (u_102.2.1 1 0), (u_101.2.1 9 0), (u_101.2.1 8 0)) (by show hmu ((u_102.2.1 2 0)).toInt ((u_102.2.1 6 0)).toInt < hmu (v95_37_0).toInt (v95_37_4).toInt; exact hmu_lt (by omega) (by omega) (by omega) (by omega)) _ _ _ ⟨(u_102.2.1 0), w102_1, w102_2, w102_3, w102_4, w102_5, w102_6, w101_6, ⟨by omega, by omega⟩, w101_8, w101_7, w102_7, w102_8, w102_9, w102_10, (y102_0), (y102_1), (y102_4), (hf_w y102_5 (by (first | assumption | (clear x17_1 x18_2 x26_1 x27_2 x39_1 x40_2 x42_4 x46_8 y101_1 y101_3 y101_4 y101_7 y102_1 y102_3 y102_4 y102_6; omega) | omega))), (by (first | (clear x17_1 x18_2 x26_1 x27_2 x39_1 x40_2 x42_4 x46_8 y101_1 y101_3 y101_4 y101_7 y102_1 y102_3 y102_4 y102_6; omega) | omega)), (x43_5), (x44_6), (lnr_s x45_7 (by (first | assumption | (clear x17_1 x18_2 x26_1 x27_2 x39_1 x40_2 x42_4 x46_8 y101_1 y101_3 y101_4 y101_7 y102_1 y102_3 y102_4 y102_6; omega) | omega)) (by (first | assumption | (clear x17_1 x18_2 x26_1 x27_2 x39_1 x40_2 x42_4 x46_8 y101_1 y101_3 y101_4 y101_7 y102_1 y102_3 y102_4 y102_6; omega) | omega)) y101_6 y102_7 (hp_li y102_3 y101_7) (by (first | assumption | (clear x17_1 x18_2 x26_1 x27_2 x39_1 x40_2 x42_4 x46_8 y101_1 y101_3 y101_4 y101_7 y102_1 y102_3 y102_4 y102_6; omega) | omega))), (lln_s x46_8 y101_3 y102_3 y101_2 y102_6 (by (first | assumption | (clear x17_1 x18_2 x26_1 x27_2 x39_1 x40_2 x42_4 x46_8 y101_1 y101_3 y101_4 y101_7 y102_1 y102_3 y102_4 y102_6; omega) | omega))), h_102, (lv_sub hl [0, 1] rfl)⟩
      · skip
        refine lv_if_ne (tgt := 79) hx hb dX12_house_71 (by decide) (fun c_103 => ?_) (fun c_103 => ?_)
        · replace c_103 := i_ne (x := r_23) (y := 0) rfl (show (0 : Int32).toInt = 0 by decide) c_103
          replace y23_2 := a01_1 y23_2 c_103
          exact J_79 _ _ _ _ ⟨v66_15_0, v66_15_1, hv66_15_0, hv66_15_1, (y23_0), (y23_1), (by (first | (clear y12_1 x17_1 y14_2 y14_4 x18_2 y23_1 y23_4; omega) | omega)), (hf_w x19_3 (by (first | assumption | (clear y12_1 x17_1 y14_2 y14_4 x18_2 y23_1 y23_4; omega) | omega))), (x20_4), (rr_h (rr_c x21_5 (smr_tk1 (by (first | assumption | (clear y12_1 x17_1 y14_2 y14_4 x18_2 y23_1 y23_4; omega) | omega)) vk12 mk12 (by (first | assumption | (clear y12_1 x17_1 y14_2 y14_4 x18_2 y23_1 y23_4; omega) | omega)) (by (first | assumption | (clear y12_1 x17_1 y14_2 y14_4 x18_2 y23_1 y23_4; omega) | omega)) (by (first | assumption | (clear y12_1 x17_1 y14_2 y14_4 x18_2 y23_1 y23_4; omega) | omega)) (alt_r y23_3 (by (first | assumption | (clear y12_1 x17_1 y14_2 y14_4 x18_2 y23_1 y23_4; omega) | omega))) (by (first | assumption | (clear y12_1 x17_1 y14_2 y14_4 x18_2 y23_1 y23_4; omega) | omega))))), (x22_6), rfl, h_23, (lv_sub hl [0, 1] rfl)⟩
        · replace c_103 := i_eq (x := r_23) (y := 0) rfl (show (0 : Int32).toInt = 0 by decide) c_103
          replace y23_2 := a01_0 y23_2 c_103
          obtain ⟨y23_2a, y23_2b, y23_2c, y23_2d⟩ := y23_2
          refine lv_aload_n hx hb dX12_house_74 rfl (lv_at hl 0 rfl) ?_
          refine lv_iconst (v := 2) hx hb dX12_house_75 (by decide) ?_
          refine q_callVv (rest := []) (wr := (wk_eece9000b cy h1 f0 h3 (u_10.2.1 0) h2 f1)) X hK hT hA h_23 (fun sz => gX12_fails_1e02d40 l D cy h0 (0 : Int32) (.ref h1) w0 (.ref h2) (.ref h3) (0 : Int32) (u_23.2.1 0 0) (u_23.2.1 1 0) p0 (u_23.2.1 2 0) (u_23.2.1 3 0) v66_15_0 v66_15_1 p10 p11 p12 w1 w2 w3 w4 w5 p13 p14 w6 w7 w8 p15 p16 w9 w10 w11 w12 w13 p17 w14 w15 w16 ⟨by decide +kernel, by decide +kernel⟩ ⟨by decide +kernel, by decide +kernel⟩ w23_0 w23_1 ⟨by omega, by omega⟩ (i_rng _) w23_3 (i_rng _) (i_rng _) (i_rng _) (i_rng _) (i_rng _) (i_rng _) (i_rng _) (i_rng _) (i_rng _) (i_rng _) sz) wm_6_83 wm_6_86 wm_1_12 hd_X12_fails wm_6_85 wp_4_8 (ci := 12) (q0 := 0) rfl rfl ⟨Nat.le_of_ble_eq_true rfl, Nat.le_of_ble_eq_true rfl⟩ hl.1 rfl (Nat.le_of_ble_eq_true rfl) dX12_house_76 ⟨Nat.le_of_ble_eq_true rfl, Nat.le_of_ble_eq_true rfl⟩ [2] [0, 1, 3] rfl rfl (by decide) rfl rfl (fun u_104 H locs w_104 h_104 => ?_)
          clear h_23
          obtain ⟨w104_0, w104_1, y104_0, y104_1, _⟩ := w_104
          have lq_104_1 : (2 : Int32).toInt = 2 := (by decide)
          replace h_104 : qW D _ _ (wk_735259578 cy h1 f0 h3 (u_10.2.1 0) h2 f1 h0 0 h1 w0 h2 h3 0 (u_23.2.1 0 0) (u_23.2.1 1 0) p0 (u_23.2.1 2 0) (u_23.2.1 3 0) (u_104.2.1 0 0) (u_104.2.1 1 0) p10 p11 p12 w1 w2 w3 w4 w5 p13 p14 w6 w7 w8 p15 p16 w9 w10 w11 w12 w13 p17 w14 w15 w16) _ _ := h_104
          exact J_79 _ _ _ _ ⟨(u_104.2.1 0 0), (u_104.2.1 1 0), w104_0, w104_1, (y23_0), (y23_1), (by (first | (clear y12_1 x17_1 y14_2 y14_4 x18_2 y23_1 y23_4 y23_2d; omega) | omega)), (hf_w x19_3 (by (first | assumption | (clear y12_1 x17_1 y14_2 y14_4 x18_2 y23_1 y23_4 y23_2d; omega) | omega))), (x20_4), (rr_h (rr_c x21_5 (smr_tkn (by (first | assumption | (clear y12_1 x17_1 y14_2 y14_4 x18_2 y23_1 y23_4 y23_2d; omega) | omega)) (by (first | assumption | (clear y12_1 x17_1 y14_2 y14_4 x18_2 y23_1 y23_4 y23_2d; omega) | omega)) (by (first | assumption | (clear y12_1 x17_1 y14_2 y14_4 x18_2 y23_1 y23_4 y23_2d; omega) | omega)) (by (first | assumption | (clear y12_1 x17_1 y14_2 y14_4 x18_2 y23_1 y23_4 y23_2d; omega) | omega)) (by (first | assumption | (clear y12_1 x17_1 y14_2 y14_4 x18_2 y23_1 y23_4 y23_2d; omega) | omega)) mk12 y104_1))), (x22_6), rfl, (q_re h_104 [0, 1, 3, 2] rfl rfl), (lv_sub hl [0, 1] rfl)⟩
    · skip
      refine lv_if_ne (tgt := 66) hx hb dX12_house_58 (by decide) (fun c_105 => ?_) (fun c_105 => ?_)
      · replace c_105 := i_ne (x := r_14) (y := 0) rfl (show (0 : Int32).toInt = 0 by decide) c_105
        replace y14_2 := a01_1 y14_2 c_105
        exact J_66 _ _ _ _ ⟨0, p9, ⟨by decide +kernel, by decide +kernel⟩, hp9, (y14_0), (y14_1), (by have q0 : (0 : Int32).toInt = 0 := (by decide); (first | (clear y12_1 y14_1 y14_4; omega) | omega)), (hf_w hf_11 (by have q0 : (0 : Int32).toInt = 0 := (by decide); omega)), (by (first | (clear y12_1 y14_1 y14_4; omega) | omega)), (rr_c rr_13 (smr_tk1 (by (first | assumption | (clear y12_1 y14_1 y14_4; omega) | omega)) vk11 mk11 (by (first | assumption | (clear y12_1 y14_1 y14_4; omega) | omega)) (by (first | assumption | (clear y12_1 y14_1 y14_4; omega) | omega)) (by (first | assumption | (clear y12_1 y14_1 y14_4; omega) | omega)) (alt_r y14_3 (by (first | assumption | (clear y12_1 y14_1 y14_4; omega) | omega))) (by (first | assumption | (clear y12_1 y14_1 y14_4; omega) | omega)))), (by (first | (clear y12_1 y14_1 y14_4; omega) | omega)), rfl, h_14, (lv_sub hl [0, 1] rfl)⟩
      · replace c_105 := i_eq (x := r_14) (y := 0) rfl (show (0 : Int32).toInt = 0 by decide) c_105
        replace y14_2 := a01_0 y14_2 c_105
        obtain ⟨y14_2a, y14_2b, y14_2c, y14_2d⟩ := y14_2
        refine lv_aload_n hx hb dX12_house_61 rfl (lv_at hl 0 rfl) ?_
        refine lv_iconst (v := 2) hx hb dX12_house_62 (by decide) ?_
        refine q_callVv (rest := []) (wr := (wk_eece9000b cy h1 f0 h3 (u_10.2.1 0) h2 f1)) X hK hT hA h_14 (fun sz => gX12_fails_1e02d40 l D cy h0 (0 : Int32) (.ref h1) w0 (.ref h2) (.ref h3) (0 : Int32) (u_14.2.1 0 0) (u_14.2.1 1 0) p0 (u_14.2.1 2 0) (u_14.2.1 3 0) (0 : Int32) p9 p10 p11 p12 w1 w2 w3 w4 w5 p13 p14 w6 w7 w8 p15 p16 w9 w10 w11 w12 w13 p17 w14 w15 w16 ⟨by decide +kernel, by decide +kernel⟩ ⟨by decide +kernel, by decide +kernel⟩ w14_0 w14_1 ⟨by omega, by omega⟩ (i_rng _) w14_3 (i_rng _) (i_rng _) (i_rng _) (i_rng _) (i_rng _) (i_rng _) (i_rng _) (i_rng _) (i_rng _) (i_rng _) sz) wm_6_83 wm_6_86 wm_1_12 hd_X12_fails wm_6_85 wp_4_8 (ci := 12) (q0 := 0) rfl rfl ⟨Nat.le_of_ble_eq_true rfl, Nat.le_of_ble_eq_true rfl⟩ hl.1 rfl (Nat.le_of_ble_eq_true rfl) dX12_house_63 ⟨Nat.le_of_ble_eq_true rfl, Nat.le_of_ble_eq_true rfl⟩ [2] [0, 1, 3] rfl rfl (by decide) rfl rfl (fun u_106 H locs w_106 h_106 => ?_)
        clear h_14
        obtain ⟨w106_0, w106_1, y106_0, y106_1, _⟩ := w_106
        have lq_106_1 : (2 : Int32).toInt = 2 := (by decide)
        replace h_106 : qW D _ _ (wk_735259578 cy h1 f0 h3 (u_10.2.1 0) h2 f1 h0 0 h1 w0 h2 h3 0 (u_14.2.1 0 0) (u_14.2.1 1 0) p0 (u_14.2.1 2 0) (u_14.2.1 3 0) (u_106.2.1 0 0) (u_106.2.1 1 0) p10 p11 p12 w1 w2 w3 w4 w5 p13 p14 w6 w7 w8 p15 p16 w9 w10 w11 w12 w13 p17 w14 w15 w16) _ _ := h_106
        exact J_66 _ _ _ _ ⟨(u_106.2.1 0 0), (u_106.2.1 1 0), w106_0, w106_1, (y14_0), (y14_1), (by (first | (clear y12_1 y14_1 y14_4 y14_2d; omega) | omega)), (hf_w hf_11 (by (first | assumption | (clear y12_1 y14_1 y14_4 y14_2d; omega) | omega))), (by (first | (clear y12_1 y14_1 y14_4 y14_2d; omega) | omega)), (rr_c rr_13 (smr_tkn (by (first | assumption | (clear y12_1 y14_1 y14_4 y14_2d; omega) | omega)) (by (first | assumption | (clear y12_1 y14_1 y14_4 y14_2d; omega) | omega)) (by (first | assumption | (clear y12_1 y14_1 y14_4 y14_2d; omega) | omega)) (by (first | assumption | (clear y12_1 y14_1 y14_4 y14_2d; omega) | omega)) (by (first | assumption | (clear y12_1 y14_1 y14_4 y14_2d; omega) | omega)) mk11 y106_1)), (by (first | (clear y12_1 y14_1 y14_4 y14_2d; omega) | omega)), rfl, (q_re h_106 [0, 1, 3, 2] rfl rfl), (lv_sub hl [0, 1] rfl)⟩
  · replace c_5 := i_eq (x := r_4) (y := 0) rfl (show (0 : Int32).toInt = 0 by decide) c_5
    replace y4_0 := a10_0 y4_0 c_5
    refine lv_bipush (v := (-3)) hx hb dX12_house_19 (by decide) ?_
    exact q_iret X hr hlk hK h_4 rfl (fun _ => 0, (vcons f0 (vcons (fun _ => p18) (vcons (fun _ => 0) (vcons (fun _ => p2) (vcons (fun _ => p3) (vcons (fun _ => p4) (vcons (fun _ => p5) (vcons (fun _ => p6) (vcons (fun _ => p7) (vcons (fun _ => p8) (vcons (fun _ => p9) (vcons (fun _ => p10) (vcons (fun _ => p11) (vcons (fun _ => p12) (vcons f2 (vcons (fun _ => p19) (vcons (fun _ => p20) (vcons (fun _ => p21) (vcons (fun _ => p22) (fun _ => (fun _ => 0))))))))))))))))))))), fun _ _ => 0) ⟨⟨by decide +kernel, by decide +kernel⟩, rf0, hp18, (⟨by decide +kernel, by decide +kernel⟩ : 0 ≤ (0 : Int32).toInt ∧ (0 : Int32).toInt ≤ 0), hp2, hp3, hp4, hp5, hp6, hp7, hp8, hp9, hp10, hp11, hp12, hp19, hp20, hp21, hp22, htf0_84, htf2_0, htf2_1, htf2_2, htf2_405, (show (((p0 : Int32).toInt < 0 ∨ (p2 : Int32).toInt < (p0 : Int32).toInt) ∧ ((-3) : Int32).toInt = -3 ∧ (p2 : Int32).toInt = (p2 : Int32).toInt ∧ (p10 : Int32).toInt = (p10 : Int32).toInt ∧ (p11 : Int32).toInt = (p11 : Int32).toInt) ∨ (0 ≤ (p0 : Int32).toInt ∧ (p0 : Int32).toInt ≤ (p2 : Int32).toInt ∧ (p2 : Int32).toInt = 0 ∧ HSE ((-3) : Int32).toInt (p10 : Int32).toInt (p11 : Int32).toInt (PF (bM f1) ((p0 : Int32).toInt).toNat)) from Or.inl ⟨(by (first | assumption | (clear y4_0; omega) | omega)), by decide, rfl, rfl, rfl⟩), trivial⟩ [0, 1, 2, 3] rfl rfl dX12_house_21 (Nat.le_of_ble_eq_true rfl) (Nat.le_of_ble_eq_true rfl)
