def wk_04d6d8a2c (cy : Nat → ClassId) (a0 : Nat) (a1 : Int32) (a2 : Nat) (a3 : Value) (a4 a5 : Nat) (a6 a7 a8 a9 a10 a11 a12 a13 a14 a15 a16 : Int32) (a17 a18 a19 a20 a21 : Value) (a22 a23 : Int32) (a24 a25 a26 : Value) (a27 a28 : Int32) (a29 a30 a31 a32 a33 : Value) (a34 : Int32) (a35 a36 a37 : Value) (a38 : Nat) (a39 : Nat → Int32) (a40 : Nat) (a41 : Nat → Int32) (a42 : Nat) (a43 : Nat → Int32) : va_W := [(a0, .inr (12, [.int a1, .ref a2, a3, .ref a4, .ref a5, .int a6, .int a7, .int a8, .int a9, .int a10, .int a11, .int a12, .int a13, .int a14, .int a15, .int a16, a17, a18, a19, a20, a21, .int a22, .int a23, a24, a25, a26, .int a27, .int a28, a29, a30, a31, a32, a33, .int a34, a35, a36, a37])), (a38, .inl (cy 1, 3918, .inl a39)), (a40, .inl (cy 1, 900, .inl a41)), (a42, .inl (cy 1, 1306, .inl a43))]
def wk_7c5ca55a5 (cy : Nat → ClassId) (a0 : Nat) (a1 : Nat → Int32) (a2 : Nat) (a3 : Nat → Int32) : va_W := [(a0, .inl (cy 1, 3918, .inl a1)), (a2, .inl (cy 1, 1306, .inl a3))]
def wk_db69142ea (cy : Nat → ClassId) (a0 : Nat) (a1 : Nat → Int32) (a2 : Nat) (a3 : Nat → Int32) (a4 : Nat) (a5 : Int32) (a6 : Nat) (a7 : Value) (a8 a9 : Nat) (a10 a11 a12 a13 a14 a15 a16 a17 a18 a19 a20 : Int32) (a21 a22 a23 a24 a25 : Value) (a26 a27 : Int32) (a28 a29 a30 : Value) (a31 a32 : Int32) (a33 a34 a35 a36 a37 : Value) (a38 : Int32) (a39 a40 a41 : Value) (a42 : Nat) (a43 : Nat → Int32) : va_W := [(a0, .inl (cy 1, 3918, .inl a1)), (a2, .inl (cy 1, 1306, .inl a3)), (a4, .inr (12, [.int a5, .ref a6, a7, .ref a8, .ref a9, .int a10, .int a11, .int a12, .int a13, .int a14, .int a15, .int a16, .int a17, .int a18, .int a19, .int a20, a21, a22, a23, a24, a25, .int a26, .int a27, a28, a29, a30, .int a31, .int a32, a33, a34, a35, a36, a37, .int a38, a39, a40, a41])), (a42, .inl (cy 1, 900, .inl a43))]
def wk_dab8c81bb (cy : Nat → ClassId) (a0 : Nat) (a1 : Nat → Int32) (a2 : Nat) (a3 : Int32) (a4 : Nat) (a5 : Value) (a6 a7 : Nat) (a8 a9 a10 a11 a12 a13 a14 a15 a16 a17 a18 : Int32) (a19 a20 a21 a22 a23 : Value) (a24 a25 : Int32) (a26 a27 a28 : Value) (a29 a30 : Int32) (a31 a32 a33 a34 a35 : Value) (a36 : Int32) (a37 a38 a39 : Value) (a40 : Nat) (a41 : Nat → Int32) (a42 : Nat) (a43 : Nat → Int32) : va_W := [(a0, .inl (cy 1, 3918, .inl a1)), (a2, .inr (12, [.int a3, .ref a4, a5, .ref a6, .ref a7, .int a8, .int a9, .int a10, .int a11, .int a12, .int a13, .int a14, .int a15, .int a16, .int a17, .int a18, a19, a20, a21, a22, a23, .int a24, .int a25, a26, a27, a28, .int a29, .int a30, a31, a32, a33, a34, a35, .int a36, a37, a38, a39])), (a40, .inl (cy 1, 900, .inl a41)), (a42, .inl (cy 1, 1306, .inl a43))]
def wk_eece9000b (cy : Nat → ClassId) (a0 : Nat) (a1 : Nat → Int32) (a2 : Nat) (a3 : Nat → Int32) (a4 : Nat) (a5 : Nat → Int32) : va_W := [(a0, .inl (cy 1, 3918, .inl a1)), (a2, .inl (cy 1, 1306, .inl a3)), (a4, .inl (cy 1, 900, .inl a5))]
def wk_735259578 (cy : Nat → ClassId) (a0 : Nat) (a1 : Nat → Int32) (a2 : Nat) (a3 : Nat → Int32) (a4 : Nat) (a5 : Nat → Int32) (a6 : Nat) (a7 : Int32) (a8 : Nat) (a9 : Value) (a10 a11 : Nat) (a12 a13 a14 a15 a16 a17 a18 a19 a20 a21 a22 : Int32) (a23 a24 a25 a26 a27 : Value) (a28 a29 : Int32) (a30 a31 a32 : Value) (a33 a34 : Int32) (a35 a36 a37 a38 a39 : Value) (a40 : Int32) (a41 a42 a43 : Value) : va_W := [(a0, .inl (cy 1, 3918, .inl a1)), (a2, .inl (cy 1, 1306, .inl a3)), (a4, .inl (cy 1, 900, .inl a5)), (a6, .inr (12, [.int a7, .ref a8, a9, .ref a10, .ref a11, .int a12, .int a13, .int a14, .int a15, .int a16, .int a17, .int a18, .int a19, .int a20, .int a21, .int a22, a23, a24, a25, a26, a27, .int a28, .int a29, a30, a31, a32, .int a33, .int a34, a35, a36, a37, a38, a39, .int a40, a41, a42, a43]))]
theorem wm_5_167 : Cond.methodLink RX12 79 yX12_plain ∈ WG := wg_t5 (List.mem_of_getElem? (i := 167) rfl) rfl
theorem wm_5_169 : Cond.code yX12_plain cX12_plain 2 none ∈ WG := wg_t5 (List.mem_of_getElem? (i := 169) rfl) rfl
theorem wm_5_168 : Cond.static yX12_plain ∈ WG := wg_t5 (List.mem_of_getElem? (i := 168) rfl) rfl
theorem wm_6_91 : Cond.methodLink RX12 208 yX12_ends ∈ WG := wg_t6 (List.mem_of_getElem? (i := 91) rfl) rfl
theorem wm_6_94 : Cond.code yX12_ends cX12_ends 1 none ∈ WG := wg_t6 (List.mem_of_getElem? (i := 94) rfl) rfl
theorem wm_6_93 : Cond.instanceMethod yX12_ends ∈ WG := wg_t6 (List.mem_of_getElem? (i := 93) rfl) rfl
theorem wp_4_10 : Cond.selects RX12 yX12_ends yX12_ends ∈ WG := wg_p (q := (yX12_ends, 37)) (wg_p4 (List.mem_of_getElem? (i := 10) rfl)) rfl
theorem wm_6_108 : Cond.constantLong RX12 201 (7) ∈ WG := wg_t6 (List.mem_of_getElem? (i := 108) rfl) rfl
theorem wm_6_109 : Cond.constantLong RX12 203 (9) ∈ WG := wg_t6 (List.mem_of_getElem? (i := 109) rfl) rfl
theorem wm_6_110 : Cond.methodLink RX12 205 yX12_readLaw ∈ WG := wg_t6 (List.mem_of_getElem? (i := 110) rfl) rfl
theorem wm_6_113 : Cond.code yX12_readLaw cX12_readLaw 3 none ∈ WG := wg_t6 (List.mem_of_getElem? (i := 113) rfl) rfl
theorem wm_6_112 : Cond.instanceMethod yX12_readLaw ∈ WG := wg_t6 (List.mem_of_getElem? (i := 112) rfl) rfl
theorem wp_4_14 : Cond.selects RX12 yX12_readLaw yX12_readLaw ∈ WG := wg_p (q := (yX12_readLaw, 37)) (wg_p4 (List.mem_of_getElem? (i := 14) rfl)) rfl
theorem wm_6_99 : Cond.methodLink RX12 198 yX12_readPerson ∈ WG := wg_t6 (List.mem_of_getElem? (i := 99) rfl) rfl
theorem wm_6_102 : Cond.code yX12_readPerson cX12_readPerson 3 none ∈ WG := wg_t6 (List.mem_of_getElem? (i := 102) rfl) rfl
theorem wm_6_101 : Cond.instanceMethod yX12_readPerson ∈ WG := wg_t6 (List.mem_of_getElem? (i := 101) rfl) rfl
theorem wp_4_12 : Cond.selects RX12 yX12_readPerson yX12_readPerson ∈ WG := wg_p (q := (yX12_readPerson, 37)) (wg_p4 (List.mem_of_getElem? (i := 12) rfl)) rfl
theorem wm_6_95 : Cond.methodLink RX12 211 yX12_readLine ∈ WG := wg_t6 (List.mem_of_getElem? (i := 95) rfl) rfl
theorem wm_6_98 : Cond.code yX12_readLine cX12_readLine 1 none ∈ WG := wg_t6 (List.mem_of_getElem? (i := 98) rfl) rfl
theorem wm_6_97 : Cond.instanceMethod yX12_readLine ∈ WG := wg_t6 (List.mem_of_getElem? (i := 97) rfl) rfl
theorem wp_4_11 : Cond.selects RX12 yX12_readLine yX12_readLine ∈ WG := wg_p (q := (yX12_readLine, 37)) (wg_p4 (List.mem_of_getElem? (i := 11) rfl)) rfl
theorem wm_5_183 : Cond.fieldLink RX12 214 "OppositeHouseModel" "faultKind" "I" ∈ WG := wg_t5 (List.mem_of_getElem? (i := 183) rfl) rfl
theorem wm_5_184 : Cond.fieldLink RX12 27 "OppositeHouseModel" "faultPlace" "I" ∈ WG := wg_t5 (List.mem_of_getElem? (i := 184) rfl) rfl
theorem wm_5_171 : Cond.fieldLink RX12 13 "OppositeHouseModel" "all" "[I" ∈ WG := wg_t5 (List.mem_of_getElem? (i := 171) rfl) rfl
theorem hd_X12_plain : yX12_plain.cls ≠ "java/lang/invoke/MethodHandle" ∧ yX12_plain.cls ≠ "java/lang/invoke/VarHandle" ∧ (parseMethodDescriptor yX12_plain.desc).map (fun d => d.parameters.length) = some 1 := by decide +kernel
theorem hd_X12_ends : yX12_ends.cls ≠ "java/lang/invoke/MethodHandle" ∧ yX12_ends.cls ≠ "java/lang/invoke/VarHandle" ∧ (parseMethodDescriptor yX12_ends.desc).map (fun d => d.parameters.length) = some 0 := by decide +kernel
theorem hd_X12_readLaw : yX12_readLaw.cls ≠ "java/lang/invoke/MethodHandle" ∧ yX12_readLaw.cls ≠ "java/lang/invoke/VarHandle" ∧ (parseMethodDescriptor yX12_readLaw.desc).map (fun d => d.parameters.length) = some 1 := by decide +kernel
theorem hd_X12_readPerson : yX12_readPerson.cls ≠ "java/lang/invoke/MethodHandle" ∧ yX12_readPerson.cls ≠ "java/lang/invoke/VarHandle" ∧ (parseMethodDescriptor yX12_readPerson.desc).map (fun d => d.parameters.length) = some 0 := by decide +kernel
theorem hd_X12_readLine : yX12_readLine.cls ≠ "java/lang/invoke/MethodHandle" ∧ yX12_readLine.cls ≠ "java/lang/invoke/VarHandle" ∧ (parseMethodDescriptor yX12_readLine.desc).map (fun d => d.parameters.length) = some 0 := by decide +kernel
theorem dX12_fault_0 : decode cX12_fault 0 = .ok (.aload_n 0, 1) := sorry
theorem dX12_fault_1 : decode cX12_fault 1 = .ok (.iconst 0, 1) := sorry
theorem dX12_fault_2 : decode cX12_fault 2 = .ok (.putfield 1, 3) := sorry
theorem dX12_fault_5 : decode cX12_fault 5 = .ok (.iload_n 1, 1) := sorry
theorem dX12_fault_6 : decode cX12_fault 6 = .ok (.ifCond .ne 10, 3) := sorry
theorem dX12_fault_9 : decode cX12_fault 9 = .ok (.aload_n 0, 1) := sorry
theorem dX12_fault_10 : decode cX12_fault 10 = .ok (.getfield 214, 3) := sorry
theorem dX12_fault_13 : decode cX12_fault 13 = .ok (.goto 16, 3) := sorry
theorem dX12_fault_16 : decode cX12_fault 16 = .ok (.iload_n 1, 1) := sorry
theorem dX12_fault_17 : decode cX12_fault 17 = .ok (.iconst 1, 1) := sorry
theorem dX12_fault_18 : decode cX12_fault 18 = .ok (.if_icmp .ne 10, 3) := sorry
theorem dX12_fault_21 : decode cX12_fault 21 = .ok (.aload_n 0, 1) := sorry
theorem dX12_fault_22 : decode cX12_fault 22 = .ok (.getfield 27, 3) := sorry
theorem dX12_fault_25 : decode cX12_fault 25 = .ok (.goto 4, 3) := sorry
theorem dX12_fault_28 : decode cX12_fault 28 = .ok (.iconst (-1), 1) := sorry
theorem dX12_fault_29 : decode cX12_fault 29 = .ok (.ireturn, 1) := sorry
theorem dX12_house_0 : decode cX12_house 0 = .ok (.aload_n 0, 1) := sorry
theorem dX12_house_1 : decode cX12_house 1 = .ok (.iconst 0, 1) := sorry
theorem dX12_house_2 : decode cX12_house 2 = .ok (.putfield 1, 3) := sorry
theorem dX12_house_5 : decode cX12_house 5 = .ok (.iload_n 1, 1) := sorry
theorem dX12_house_6 : decode cX12_house 6 = .ok (.i2l, 1) := sorry
theorem dX12_house_7 : decode cX12_house 7 = .ok (.lconst 0, 1) := sorry
theorem dX12_house_8 : decode cX12_house 8 = .ok (.aload_n 0, 1) := sorry
theorem dX12_house_9 : decode cX12_house 9 = .ok (.getfield 83, 3) := sorry
theorem dX12_house_12 : decode cX12_house 12 = .ok (.i2l, 1) := sorry
theorem dX12_house_13 : decode cX12_house 13 = .ok (.invokestatic 145, 3) := sorry
theorem dX12_house_16 : decode cX12_house 16 = .ok (.ifCond .ne 6, 3) := sorry
theorem dX12_house_19 : decode cX12_house 19 = .ok (.bipush (-3), 2) := sorry
theorem dX12_house_21 : decode cX12_house 21 = .ok (.ireturn, 1) := sorry
theorem dX12_house_22 : decode cX12_house 22 = .ok (.aload_n 0, 1) := sorry
theorem dX12_house_23 : decode cX12_house 23 = .ok (.iload_n 1, 1) := sorry
theorem dX12_house_24 : decode cX12_house 24 = .ok (.putfield 86, 3) := sorry
theorem dX12_house_27 : decode cX12_house 27 = .ok (.aload_n 0, 1) := sorry
theorem dX12_house_28 : decode cX12_house 28 = .ok (.iconst 0, 1) := sorry
theorem dX12_house_29 : decode cX12_house 29 = .ok (.putfield 83, 3) := sorry
theorem dX12_house_32 : decode cX12_house 32 = .ok (.aload_n 0, 1) := sorry
theorem dX12_house_33 : decode cX12_house 33 = .ok (.iconst 0, 1) := sorry
theorem dX12_house_34 : decode cX12_house 34 = .ok (.putfield 104, 3) := sorry
theorem dX12_house_37 : decode cX12_house 37 = .ok (.aload_n 0, 1) := sorry
theorem dX12_house_38 : decode cX12_house 38 = .ok (.iconst 0, 1) := sorry
theorem dX12_house_39 : decode cX12_house 39 = .ok (.putfield 129, 3) := sorry
theorem dX12_house_42 : decode cX12_house 42 = .ok (.aload_n 0, 1) := sorry
theorem dX12_house_43 : decode cX12_house 43 = .ok (.getfield 24, 3) := sorry
theorem dX12_house_46 : decode cX12_house 46 = .ok (.invokestatic 79, 3) := sorry
theorem dX12_house_49 : decode cX12_house 49 = .ok (.aload_n 0, 1) := sorry
theorem dX12_house_50 : decode cX12_house 50 = .ok (.invokevirtual 138, 3) := sorry
theorem dX12_house_53 : decode cX12_house 53 = .ok (.aload_n 0, 1) := sorry
theorem dX12_house_54 : decode cX12_house 54 = .ok (.iconst 0, 1) := sorry
theorem dX12_house_55 : decode cX12_house 55 = .ok (.invokevirtual 172, 3) := sorry
theorem dX12_house_58 : decode cX12_house 58 = .ok (.ifCond .ne 8, 3) := sorry
theorem dX12_house_61 : decode cX12_house 61 = .ok (.aload_n 0, 1) := sorry
theorem dX12_house_62 : decode cX12_house 62 = .ok (.iconst 2, 1) := sorry
theorem dX12_house_63 : decode cX12_house 63 = .ok (.invokevirtual 141, 3) := sorry
theorem dX12_house_66 : decode cX12_house 66 = .ok (.aload_n 0, 1) := sorry
theorem dX12_house_67 : decode cX12_house 67 = .ok (.iconst 1, 1) := sorry
theorem dX12_house_68 : decode cX12_house 68 = .ok (.invokevirtual 172, 3) := sorry
theorem dX12_house_71 : decode cX12_house 71 = .ok (.ifCond .ne 8, 3) := sorry
theorem dX12_house_74 : decode cX12_house 74 = .ok (.aload_n 0, 1) := sorry
theorem dX12_house_75 : decode cX12_house 75 = .ok (.iconst 2, 1) := sorry
theorem dX12_house_76 : decode cX12_house 76 = .ok (.invokevirtual 141, 3) := sorry
theorem dX12_house_79 : decode cX12_house 79 = .ok (.aload_n 0, 1) := sorry
theorem dX12_house_80 : decode cX12_house 80 = .ok (.getfield 24, 3) := sorry
theorem dX12_house_83 : decode cX12_house 83 = .ok (.iconst 1, 1) := sorry
theorem dX12_house_84 : decode cX12_house 84 = .ok (.aload_n 0, 1) := sorry
theorem dX12_house_85 : decode cX12_house 85 = .ok (.iconst 1, 1) := sorry
theorem dX12_house_86 : decode cX12_house 86 = .ok (.iconst 3, 1) := sorry
theorem dX12_house_87 : decode cX12_house 87 = .ok (.invokevirtual 190, 3) := sorry
theorem dX12_house_90 : decode cX12_house 90 = .ok (.iastore, 1) := sorry
theorem dX12_house_91 : decode cX12_house 91 = .ok (.aload_n 0, 1) := sorry
theorem dX12_house_92 : decode cX12_house 92 = .ok (.invokevirtual 208, 3) := sorry
theorem dX12_house_95 : decode cX12_house 95 = .ok (.aload_n 0, 1) := sorry
theorem dX12_house_96 : decode cX12_house 96 = .ok (.getfield 129, 3) := sorry
theorem dX12_house_99 : decode cX12_house 99 = .ok (.ifCond .ne 23, 3) := sorry
theorem dX12_house_102 : decode cX12_house 102 = .ok (.aload_n 0, 1) := sorry
theorem dX12_house_103 : decode cX12_house 103 = .ok (.getfield 111, 3) := sorry
theorem dX12_house_106 : decode cX12_house 106 = .ok (.bipush 26, 2) := sorry
theorem dX12_house_108 : decode cX12_house 108 = .ok (.if_icmp .eq 14, 3) := sorry
theorem dX12_house_111 : decode cX12_house 111 = .ok (.aload_n 0, 1) := sorry
theorem dX12_house_112 : decode cX12_house 112 = .ok (.invokevirtual 211, 3) := sorry
theorem dX12_house_115 : decode cX12_house 115 = .ok (.aload_n 0, 1) := sorry
theorem dX12_house_116 : decode cX12_house 116 = .ok (.invokevirtual 208, 3) := sorry
theorem dX12_house_119 : decode cX12_house 119 = .ok (.goto (-24), 3) := sorry
theorem dX12_house_122 : decode cX12_house 122 = .ok (.aload_n 0, 1) := sorry
theorem dX12_house_123 : decode cX12_house 123 = .ok (.aload_n 0, 1) := sorry
theorem dX12_house_124 : decode cX12_house 124 = .ok (.getfield 129, 3) := sorry
theorem dX12_house_127 : decode cX12_house 127 = .ok (.putfield 214, 3) := sorry
theorem dX12_house_130 : decode cX12_house 130 = .ok (.aload_n 0, 1) := sorry
theorem dX12_house_131 : decode cX12_house 131 = .ok (.aload_n 0, 1) := sorry
theorem dX12_house_132 : decode cX12_house 132 = .ok (.getfield 129, 3) := sorry
theorem dX12_house_135 : decode cX12_house 135 = .ok (.ifCond .ne 7, 3) := sorry
theorem dX12_house_138 : decode cX12_house 138 = .ok (.iconst (-1), 1) := sorry
theorem dX12_house_139 : decode cX12_house 139 = .ok (.goto 7, 3) := sorry
theorem dX12_house_142 : decode cX12_house 142 = .ok (.aload_n 0, 1) := sorry
theorem dX12_house_143 : decode cX12_house 143 = .ok (.getfield 132, 3) := sorry
theorem dX12_house_146 : decode cX12_house 146 = .ok (.putfield 27, 3) := sorry
theorem dX12_house_149 : decode cX12_house 149 = .ok (.aload_n 0, 1) := sorry
theorem dX12_house_150 : decode cX12_house 150 = .ok (.getfield 129, 3) := sorry
theorem dX12_house_153 : decode cX12_house 153 = .ok (.ifCond .eq 11, 3) := sorry
theorem dX12_house_156 : decode cX12_house 156 = .ok (.bipush (-30), 2) := sorry
theorem dX12_house_158 : decode cX12_house 158 = .ok (.aload_n 0, 1) := sorry
theorem dX12_house_159 : decode cX12_house 159 = .ok (.getfield 129, 3) := sorry
theorem dX12_house_162 : decode cX12_house 162 = .ok (.isub, 1) := sorry
theorem dX12_house_163 : decode cX12_house 163 = .ok (.ireturn, 1) := sorry
theorem dX12_house_164 : decode cX12_house 164 = .ok (.iconst 0, 1) := sorry
theorem dX12_house_165 : decode cX12_house 165 = .ok (.istore_n 2, 1) := sorry
theorem dX12_house_166 : decode cX12_house 166 = .ok (.iload_n 2, 1) := sorry
theorem dX12_house_167 : decode cX12_house 167 = .ok (.sipush 1306, 3) := sorry
theorem dX12_house_170 : decode cX12_house 170 = .ok (.if_icmp .ge 21, 3) := sorry
theorem dX12_house_173 : decode cX12_house 173 = .ok (.aload_n 0, 1) := sorry
theorem dX12_house_174 : decode cX12_house 174 = .ok (.getfield 13, 3) := sorry
theorem dX12_house_177 : decode cX12_house 177 = .ok (.iload_n 2, 1) := sorry
theorem dX12_house_178 : decode cX12_house 178 = .ok (.aload_n 0, 1) := sorry
theorem dX12_house_179 : decode cX12_house 179 = .ok (.getfield 24, 3) := sorry
theorem dX12_house_182 : decode cX12_house 182 = .ok (.iload_n 2, 1) := sorry
theorem dX12_house_183 : decode cX12_house 183 = .ok (.iaload, 1) := sorry
theorem dX12_house_184 : decode cX12_house 184 = .ok (.iastore, 1) := sorry
theorem dX12_house_185 : decode cX12_house 185 = .ok (.iinc 2 1, 3) := sorry
theorem dX12_house_188 : decode cX12_house 188 = .ok (.goto (-22), 3) := sorry
theorem dX12_house_191 : decode cX12_house 191 = .ok (.aload_n 0, 1) := sorry
theorem dX12_house_192 : decode cX12_house 192 = .ok (.getfield 13, 3) := sorry
theorem dX12_house_195 : decode cX12_house 195 = .ok (.iconst 0, 1) := sorry
theorem dX12_house_196 : decode cX12_house 196 = .ok (.iaload, 1) := sorry
theorem dX12_house_197 : decode cX12_house 197 = .ok (.ireturn, 1) := sorry
theorem dX12_readLine_0 : decode cX12_readLine 0 = .ok (.aload_n 0, 1) := sorry
theorem dX12_readLine_1 : decode cX12_readLine 1 = .ok (.getfield 129, 3) := sorry
theorem dX12_readLine_4 : decode cX12_readLine 4 = .ok (.ifCond .eq 4, 3) := sorry
theorem dX12_readLine_7 : decode cX12_readLine 7 = .ok (.return_, 1) := sorry
theorem dX12_readLine_8 : decode cX12_readLine 8 = .ok (.aload_n 0, 1) := sorry
theorem dX12_readLine_9 : decode cX12_readLine 9 = .ok (.iconst 2, 1) := sorry
theorem dX12_readLine_10 : decode cX12_readLine 10 = .ok (.invokevirtual 135, 3) := sorry
theorem dX12_readLine_13 : decode cX12_readLine 13 = .ok (.ifCond .eq 10, 3) := sorry
theorem dX12_readLine_16 : decode cX12_readLine 16 = .ok (.aload_n 0, 1) := sorry
theorem dX12_readLine_17 : decode cX12_readLine 17 = .ok (.invokevirtual 198, 3) := sorry
theorem dX12_readLine_20 : decode cX12_readLine 20 = .ok (.goto 66, 3) := sorry
theorem dX12_readLine_23 : decode cX12_readLine 23 = .ok (.aload_n 0, 1) := sorry
theorem dX12_readLine_24 : decode cX12_readLine 24 = .ok (.getfield 111, 3) := sorry
theorem dX12_readLine_27 : decode cX12_readLine 27 = .ok (.i2l, 1) := sorry
theorem dX12_readLine_28 : decode cX12_readLine 28 = .ok (.ldc2_w 201, 3) := sorry
theorem dX12_readLine_31 : decode cX12_readLine 31 = .ok (.ldc2_w 203, 3) := sorry
theorem dX12_readLine_34 : decode cX12_readLine 34 = .ok (.invokestatic 145, 3) := sorry
theorem dX12_readLine_37 : decode cX12_readLine 37 = .ok (.ifCond .eq 17, 3) := sorry
theorem dX12_readLine_40 : decode cX12_readLine 40 = .ok (.aload_n 0, 1) := sorry
theorem dX12_readLine_41 : decode cX12_readLine 41 = .ok (.aload_n 0, 1) := sorry
theorem dX12_readLine_42 : decode cX12_readLine 42 = .ok (.getfield 111, 3) := sorry
theorem dX12_readLine_45 : decode cX12_readLine 45 = .ok (.bipush 7, 2) := sorry
theorem dX12_readLine_47 : decode cX12_readLine 47 = .ok (.isub, 1) := sorry
theorem dX12_readLine_48 : decode cX12_readLine 48 = .ok (.invokevirtual 205, 3) := sorry
theorem dX12_readLine_51 : decode cX12_readLine 51 = .ok (.goto 35, 3) := sorry
theorem dX12_readLine_54 : decode cX12_readLine 54 = .ok (.aload_n 0, 1) := sorry
theorem dX12_readLine_55 : decode cX12_readLine 55 = .ok (.bipush 10, 2) := sorry
theorem dX12_readLine_57 : decode cX12_readLine 57 = .ok (.invokevirtual 172, 3) := sorry
theorem dX12_readLine_60 : decode cX12_readLine 60 = .ok (.ifCond .eq 21, 3) := sorry
theorem dX12_readLine_63 : decode cX12_readLine 63 = .ok (.aload_n 0, 1) := sorry
theorem dX12_readLine_64 : decode cX12_readLine 64 = .ok (.getfield 24, 3) := sorry
theorem dX12_readLine_67 : decode cX12_readLine 67 = .ok (.bipush 52, 2) := sorry
theorem dX12_readLine_69 : decode cX12_readLine 69 = .ok (.aload_n 0, 1) := sorry
theorem dX12_readLine_70 : decode cX12_readLine 70 = .ok (.iconst 0, 1) := sorry
theorem dX12_readLine_71 : decode cX12_readLine 71 = .ok (.sipush 999, 3) := sorry
theorem dX12_readLine_74 : decode cX12_readLine 74 = .ok (.invokevirtual 190, 3) := sorry
theorem dX12_readLine_77 : decode cX12_readLine 77 = .ok (.iastore, 1) := sorry
theorem dX12_readLine_78 : decode cX12_readLine 78 = .ok (.goto 8, 3) := sorry
theorem dX12_readLine_81 : decode cX12_readLine 81 = .ok (.aload_n 0, 1) := sorry
theorem dX12_readLine_82 : decode cX12_readLine 82 = .ok (.iconst 2, 1) := sorry
theorem dX12_readLine_83 : decode cX12_readLine 83 = .ok (.invokevirtual 141, 3) := sorry
theorem dX12_readLine_86 : decode cX12_readLine 86 = .ok (.return_, 1) := sorry
set_option maxHeartbeats 4000000 in
set_option maxRecDepth 100000 in
theorem gX12_readLine_c526700 (l : Launch) (D : va_G) (cy : Nat → ClassId) (h0 : Nat) (h1 : Nat) (h2 : Nat) (p0 : Int32) (w0 : Value) (w1 : Value) (p1 : Int32) (p2 : Int32) (p3 : Int32) (p4 : Int32) (p5 : Int32) (p6 : Int32) (p7 : Int32) (p8 : Int32) (p9 : Int32) (p10 : Int32) (p11 : Int32) (w2 : Value) (w3 : Value) (w4 : Value) (w5 : Value) (w6 : Value) (p12 : Int32) (p13 : Int32) (w7 : Value) (w8 : Value) (w9 : Value) (p14 : Int32) (p15 : Int32) (w10 : Value) (w11 : Value) (w12 : Value) (w13 : Value) (w14 : Value) (p16 : Int32) (w15 : Value) (w16 : Value) (w17 : Value) (f0 : Nat → Int32) (f1 : Nat → Int32) (p17 : Int32) (p18 : Int32) (p19 : Int32) (p20 : Int32) (hp0 : 0 ≤ (p0).toInt ∧ (p0).toInt ≤ 0) (hp1 : 0 ≤ (p1).toInt ∧ (p1).toInt ≤ 900) (hp2 : 0 ≤ (p2).toInt ∧ (p2).toInt ≤ 900) (hp3 : 0 ≤ (p3).toInt ∧ (p3).toInt ≤ 900) (hp4 : 0 ≤ (p4).toInt ∧ (p4).toInt ≤ 900) (hp5 : (-2147483648) ≤ (p5).toInt ∧ (p5).toInt ≤ 2147483647) (hp6 : 0 ≤ (p6).toInt ∧ (p6).toInt ≤ 999) (hp7 : (-2147483648) ≤ (p7).toInt ∧ (p7).toInt ≤ 2147483647) (hp8 : (-2147483648) ≤ (p8).toInt ∧ (p8).toInt ≤ 2147483647) (hp9 : (-2147483648) ≤ (p9).toInt ∧ (p9).toInt ≤ 2147483647) (hp10 : (-2147483648) ≤ (p10).toInt ∧ (p10).toInt ≤ 2147483647) (hp11 : (-2147483648) ≤ (p11).toInt ∧ (p11).toInt ≤ 2147483647) (hp12 : (-2147483648) ≤ (p12).toInt ∧ (p12).toInt ≤ 2147483647) (hp13 : (-2147483648) ≤ (p13).toInt ∧ (p13).toInt ≤ 2147483647) (hp14 : (-2147483648) ≤ (p14).toInt ∧ (p14).toInt ≤ 2147483647) (hp15 : (-2147483648) ≤ (p15).toInt ∧ (p15).toInt ≤ 2147483647) (hp16 : (-2147483648) ≤ (p16).toInt ∧ (p16).toInt ≤ 2147483647) (hp17 : 0 ≤ (p17).toInt ∧ (p17).toInt ≤ 901) (hp18 : (-2147483648) ≤ (p18).toInt ∧ (p18).toInt ≤ 2147483647) (hp19 : 0 ≤ (p19).toInt ∧ (p19).toInt ≤ 10) (hp20 : 0 ≤ (p20).toInt ∧ (p20).toInt ≤ 900) (htf1_0 : f1 0 = p17) (htf1_1 : f1 1 = p18) (htf1_2 : f1 2 = p19) (htf1_405 : f1 405 = p20) (hpre0 : 0 ≤ (p2 : Int32).toInt ∧ (p2 : Int32).toInt ≤ (p3 : Int32).toInt ∧ (p3 : Int32).toInt ≤ (p4 : Int32).toInt) (hpre1 : (p5 : Int32).toInt = 26 ∨ (p2 : Int32).toInt < (p3 : Int32).toInt) (hpre2 : (p7 : Int32).toInt ≠ 0 ∨ (p20 : Int32).toInt ≤ (p2 : Int32).toInt) (hpre3 : HF (p7 : Int32).toInt f1 ((p20 : Int32).toInt).toNat) (hpre4 : (p7 : Int32).toInt ≠ 0 ∨ (0 ≤ (p18 : Int32).toInt ∧ (p18 : Int32).toInt ≤ 3)) (sz : Nat) : MV l yX12_readLine cX12_readLine 1 { frames := 32, cells := 0, slots := 0, locals := 780 } [.ref h0] D cy (wk_8d528f753 cy h0 p0 w0 w1 h1 h2 p1 p2 p3 p4 p5 p6 p7 p8 p9 p10 p11 w2 w3 w4 w5 w6 p12 p13 w7 w8 w9 p14 p15 w10 w11 w12 w13 w14 p16 w15 w16 w17 h1 f0 h2 f1) sz (fun u => (0 ≤ (u.2.1 0 0).toInt ∧ (u.2.1 0 0).toInt ≤ 900) ∧ (0 ≤ (u.2.1 1 0).toInt ∧ (u.2.1 1 0).toInt ≤ 900) ∧ ((-2147483648) ≤ (u.2.1 2 0).toInt ∧ (u.2.1 2 0).toInt ≤ 2147483647) ∧ (0 ≤ (u.2.1 3 0).toInt ∧ (u.2.1 3 0).toInt ≤ 999) ∧ ((-2147483648) ≤ (u.2.1 4 0).toInt ∧ (u.2.1 4 0).toInt ≤ 2147483647) ∧ ((-2147483648) ≤ (u.2.1 5 0).toInt ∧ (u.2.1 5 0).toInt ≤ 2147483647) ∧ ((-2147483648) ≤ (u.2.1 7 0).toInt ∧ (u.2.1 7 0).toInt ≤ 2147483647) ∧ (0 ≤ (u.2.1 8 0).toInt ∧ (u.2.1 8 0).toInt ≤ 900) ∧ (0 ≤ (u.2.1 9 0).toInt ∧ (u.2.1 9 0).toInt ≤ 10) ∧ (u.2.1 6) 0 = p17 ∧ (u.2.1 6) 1 = p18 ∧ (u.2.1 6) 2 = (u.2.1 9 0) ∧ (u.2.1 6) 405 = (u.2.1 8 0) ∧ (0 ≤ ((u.2.1 0 0) : Int32).toInt ∧ ((u.2.1 0 0) : Int32).toInt ≤ ((u.2.1 1 0) : Int32).toInt ∧ ((u.2.1 1 0) : Int32).toInt ≤ (p4 : Int32).toInt) ∧ (((u.2.1 2 0) : Int32).toInt = 26 ∨ ((u.2.1 0 0) : Int32).toInt < ((u.2.1 1 0) : Int32).toInt) ∧ ((p2 : Int32).toInt ≤ ((u.2.1 0 0) : Int32).toInt) ∧ (((u.2.1 4 0) : Int32).toInt ≠ 0 ∨ (p7 : Int32).toInt = 0) ∧ (((u.2.1 4 0) : Int32).toInt ≠ 0 ∨ ((u.2.1 8 0) : Int32).toInt ≤ ((u.2.1 0 0) : Int32).toInt) ∧ (HF ((u.2.1 4 0) : Int32).toInt (u.2.1 6) (((u.2.1 8 0) : Int32).toInt).toNat) ∧ (SIMR f0 (p4 : Int32).toInt (lineS (p18 : Int32).toInt (p19 : Int32).toInt) (p2 : Int32).toInt (p3 : Int32).toInt (p5 : Int32).toInt (p6 : Int32).toInt (p7 : Int32).toInt (p8 : Int32).toInt ((u.2.1 0 0) : Int32).toInt ((u.2.1 1 0) : Int32).toInt ((u.2.1 2 0) : Int32).toInt ((u.2.1 3 0) : Int32).toInt ((u.2.1 4 0) : Int32).toInt ((u.2.1 5 0) : Int32).toInt) ∧ (((u.2.1 4 0) : Int32).toInt ≠ 0 ∨ ((p5 : Int32).toInt = 2 ∧ ((u.2.1 9 0) : Int32).toInt = (p19 : Int32).toInt + 1) ∨ ((p5 : Int32).toInt ≠ 2 ∧ ((u.2.1 9 0) : Int32).toInt = (p19 : Int32).toInt)) ∧ ((p17 : Int32).toInt = (p17 : Int32).toInt) ∧ True) (fun u => (wk_8d528f753 cy h0 p0 w0 w1 h1 h2 p1 (u.2.1 0 0) (u.2.1 1 0) p4 (u.2.1 2 0) (u.2.1 3 0) (u.2.1 4 0) (u.2.1 5 0) p9 p10 (u.2.1 7 0) w2 w3 w4 w5 w6 p12 p13 w7 w8 w9 p14 p15 w10 w11 w12 w13 w14 p16 w15 w16 w17 h1 f0 h2 (u.2.1 6))) 0 0 := sorry
set_option maxHeartbeats 4000000 in
set_option maxRecDepth 100000 in
theorem gX12_ends_3a5e2d0 (l : Launch) (D : va_G) (cy : Nat → ClassId) (h0 : Nat) (h1 : Nat) (h2 : Nat) (p0 : Int32) (w0 : Value) (w1 : Value) (p1 : Int32) (p2 : Int32) (p3 : Int32) (p4 : Int32) (p5 : Int32) (p6 : Int32) (p7 : Int32) (p8 : Int32) (p9 : Int32) (p10 : Int32) (p11 : Int32) (w2 : Value) (w3 : Value) (w4 : Value) (w5 : Value) (w6 : Value) (p12 : Int32) (p13 : Int32) (w7 : Value) (w8 : Value) (w9 : Value) (p14 : Int32) (p15 : Int32) (w10 : Value) (w11 : Value) (w12 : Value) (w13 : Value) (w14 : Value) (p16 : Int32) (w15 : Value) (w16 : Value) (w17 : Value) (f0 : Nat → Int32) (f1 : Nat → Int32) (p17 : Int32) (p18 : Int32) (p19 : Int32) (p20 : Int32) (hp0 : 0 ≤ (p0).toInt ∧ (p0).toInt ≤ 0) (hp1 : 0 ≤ (p1).toInt ∧ (p1).toInt ≤ 900) (hp2 : 0 ≤ (p2).toInt ∧ (p2).toInt ≤ 900) (hp3 : 0 ≤ (p3).toInt ∧ (p3).toInt ≤ 900) (hp4 : 0 ≤ (p4).toInt ∧ (p4).toInt ≤ 900) (hp5 : (-2147483648) ≤ (p5).toInt ∧ (p5).toInt ≤ 2147483647) (hp6 : 0 ≤ (p6).toInt ∧ (p6).toInt ≤ 999) (hp7 : (-2147483648) ≤ (p7).toInt ∧ (p7).toInt ≤ 2147483647) (hp8 : (-2147483648) ≤ (p8).toInt ∧ (p8).toInt ≤ 2147483647) (hp9 : (-2147483648) ≤ (p9).toInt ∧ (p9).toInt ≤ 2147483647) (hp10 : (-2147483648) ≤ (p10).toInt ∧ (p10).toInt ≤ 2147483647) (hp11 : (-2147483648) ≤ (p11).toInt ∧ (p11).toInt ≤ 2147483647) (hp12 : (-2147483648) ≤ (p12).toInt ∧ (p12).toInt ≤ 2147483647) (hp13 : (-2147483648) ≤ (p13).toInt ∧ (p13).toInt ≤ 2147483647) (hp14 : (-2147483648) ≤ (p14).toInt ∧ (p14).toInt ≤ 2147483647) (hp15 : (-2147483648) ≤ (p15).toInt ∧ (p15).toInt ≤ 2147483647) (hp16 : (-2147483648) ≤ (p16).toInt ∧ (p16).toInt ≤ 2147483647) (hp17 : 0 ≤ (p17).toInt ∧ (p17).toInt ≤ 901) (hp18 : (-2147483648) ≤ (p18).toInt ∧ (p18).toInt ≤ 2147483647) (hp19 : 0 ≤ (p19).toInt ∧ (p19).toInt ≤ 10) (hp20 : 0 ≤ (p20).toInt ∧ (p20).toInt ≤ 900) (htf1_0 : f1 0 = p17) (htf1_1 : f1 1 = p18) (htf1_2 : f1 2 = p19) (htf1_405 : f1 405 = p20) (hpre0 : 0 ≤ (p2 : Int32).toInt ∧ (p2 : Int32).toInt ≤ (p3 : Int32).toInt ∧ (p3 : Int32).toInt ≤ (p4 : Int32).toInt) (hpre1 : (p5 : Int32).toInt = 26 ∨ (p2 : Int32).toInt < (p3 : Int32).toInt) (hpre2 : (p7 : Int32).toInt ≠ 0 ∨ (p20 : Int32).toInt ≤ (p2 : Int32).toInt) (hpre3 : HF (p7 : Int32).toInt f1 ((p20 : Int32).toInt).toNat) (hpre4 : 0 ≤ (p17 : Int32).toInt ∧ (p17 : Int32).toInt ≤ 901) (sz : Nat) : MV l yX12_ends cX12_ends 1 { frames := 7, cells := 0, slots := 0, locals := 150 } [.ref h0] D cy (wk_8d528f753 cy h0 p0 w0 w1 h1 h2 p1 p2 p3 p4 p5 p6 p7 p8 p9 p10 p11 w2 w3 w4 w5 w6 p12 p13 w7 w8 w9 p14 p15 w10 w11 w12 w13 w14 p16 w15 w16 w17 h1 f0 h2 f1) sz (fun u => (1 ≤ (u.2.1 1 0).toInt ∧ (u.2.1 1 0).toInt ≤ 902) ∧ (0 ≤ (u.2.1 2 0).toInt ∧ (u.2.1 2 0).toInt ≤ 900) ∧ (0 ≤ (u.2.1 3 0).toInt ∧ (u.2.1 3 0).toInt ≤ 900) ∧ ((-2147483648) ≤ (u.2.1 4 0).toInt ∧ (u.2.1 4 0).toInt ≤ 2147483647) ∧ (0 ≤ (u.2.1 5 0).toInt ∧ (u.2.1 5 0).toInt ≤ 999) ∧ ((-2147483648) ≤ (u.2.1 6 0).toInt ∧ (u.2.1 6 0).toInt ≤ 2147483647) ∧ ((-2147483648) ≤ (u.2.1 7 0).toInt ∧ (u.2.1 7 0).toInt ≤ 2147483647) ∧ (u.2.1 0) 0 = (u.2.1 1 0) ∧ (u.2.1 0) 1 = p18 ∧ (u.2.1 0) 2 = p19 ∧ (u.2.1 0) 405 = p20 ∧ (0 ≤ ((u.2.1 2 0) : Int32).toInt ∧ ((u.2.1 2 0) : Int32).toInt ≤ ((u.2.1 3 0) : Int32).toInt ∧ ((u.2.1 3 0) : Int32).toInt ≤ (p4 : Int32).toInt) ∧ (((u.2.1 4 0) : Int32).toInt = 26 ∨ ((u.2.1 2 0) : Int32).toInt < ((u.2.1 3 0) : Int32).toInt) ∧ ((p2 : Int32).toInt ≤ ((u.2.1 2 0) : Int32).toInt) ∧ (((u.2.1 6 0) : Int32).toInt ≠ 0 ∨ (p7 : Int32).toInt = 0) ∧ (((u.2.1 6 0) : Int32).toInt ≠ 0 ∨ (p20 : Int32).toInt ≤ ((u.2.1 2 0) : Int32).toInt) ∧ (HF ((u.2.1 6 0) : Int32).toInt (u.2.1 0) ((p20 : Int32).toInt).toNat) ∧ (((u.2.1 6 0) : Int32).toInt ≠ 0 ∨ (p2 : Int32).toInt + 1 ≤ ((u.2.1 2 0) : Int32).toInt) ∧ (SIMR f0 (p4 : Int32).toInt (tak 59) (p2 : Int32).toInt (p3 : Int32).toInt (p5 : Int32).toInt (p6 : Int32).toInt (p7 : Int32).toInt (p8 : Int32).toInt ((u.2.1 2 0) : Int32).toInt ((u.2.1 3 0) : Int32).toInt ((u.2.1 4 0) : Int32).toInt ((u.2.1 5 0) : Int32).toInt ((u.2.1 6 0) : Int32).toInt ((u.2.1 7 0) : Int32).toInt) ∧ (((u.2.1 1 0) : Int32).toInt = (p17 : Int32).toInt + 1) ∧ True) (fun u => (wk_8d528f753 cy h0 p0 w0 w1 h1 h2 p1 (u.2.1 2 0) (u.2.1 3 0) p4 (u.2.1 4 0) (u.2.1 5 0) (u.2.1 6 0) (u.2.1 7 0) p9 p10 p11 w2 w3 w4 w5 w6 p12 p13 w7 w8 w9 p14 p15 w10 w11 w12 w13 w14 p16 w15 w16 w17 h1 f0 h2 (u.2.1 0))) 0 0 := sorry
set_option maxHeartbeats 60000000 in
set_option maxRecDepth 100000 in
theorem gX12_house_f76b5d3 (l : Launch) (D : va_G) (cy : Nat → ClassId) (h0 : Nat) (h1 : Nat) (h2 : Nat) (h3 : Nat) (p0 : Int32) (p1 : Int32) (w0 : Value) (p2 : Int32) (p3 : Int32) (p4 : Int32) (p5 : Int32) (p6 : Int32) (p7 : Int32) (p8 : Int32) (p9 : Int32) (p10 : Int32) (p11 : Int32) (p12 : Int32) (w1 : Value) (w2 : Value) (w3 : Value) (w4 : Value) (w5 : Value) (p13 : Int32) (p14 : Int32) (w6 : Value) (w7 : Value) (w8 : Value) (p15 : Int32) (p16 : Int32) (w9 : Value) (w10 : Value) (w11 : Value) (w12 : Value) (w13 : Value) (p17 : Int32) (w14 : Value) (w15 : Value) (w16 : Value) (f0 : Nat → Int32) (p18 : Int32) (f1 : Nat → Int32) (f2 : Nat → Int32) (p19 : Int32) (p20 : Int32) (p21 : Int32) (p22 : Int32) (hp0 : (-2147483648) ≤ (p0).toInt ∧ (p0).toInt ≤ 2147483647) (hp1 : (-2147483648) ≤ (p1).toInt ∧ (p1).toInt ≤ 2147483647) (hp2 : 0 ≤ (p2).toInt ∧ (p2).toInt ≤ 900) (hp3 : 0 ≤ (p3).toInt ∧ (p3).toInt ≤ 900) (hp4 : 0 ≤ (p4).toInt ∧ (p4).toInt ≤ 900) (hp5 : 0 ≤ (p5).toInt ∧ (p5).toInt ≤ 900) (hp6 : (-2147483648) ≤ (p6).toInt ∧ (p6).toInt ≤ 2147483647) (hp7 : 0 ≤ (p7).toInt ∧ (p7).toInt ≤ 999) (hp8 : (-2147483648) ≤ (p8).toInt ∧ (p8).toInt ≤ 2147483647) (hp9 : (-2147483648) ≤ (p9).toInt ∧ (p9).toInt ≤ 2147483647) (hp10 : (-2147483648) ≤ (p10).toInt ∧ (p10).toInt ≤ 2147483647) (hp11 : (-2147483648) ≤ (p11).toInt ∧ (p11).toInt ≤ 2147483647) (hp12 : (-2147483648) ≤ (p12).toInt ∧ (p12).toInt ≤ 2147483647) (hp13 : (-2147483648) ≤ (p13).toInt ∧ (p13).toInt ≤ 2147483647) (hp14 : (-2147483648) ≤ (p14).toInt ∧ (p14).toInt ≤ 2147483647) (hp15 : (-2147483648) ≤ (p15).toInt ∧ (p15).toInt ≤ 2147483647) (hp16 : (-2147483648) ≤ (p16).toInt ∧ (p16).toInt ≤ 2147483647) (hp17 : (-2147483648) ≤ (p17).toInt ∧ (p17).toInt ≤ 2147483647) (hp18 : 0 ≤ (p18).toInt ∧ (p18).toInt ≤ 10) (hp19 : 0 ≤ (p19).toInt ∧ (p19).toInt ≤ 1000) (hp20 : (-2147483648) ≤ (p20).toInt ∧ (p20).toInt ≤ 2147483647) (hp21 : 0 ≤ (p21).toInt ∧ (p21).toInt ≤ 10) (hp22 : 0 ≤ (p22).toInt ∧ (p22).toInt ≤ 900) (htf0_84 : f0 84 = p18) (rf0 : AL f0) (htf2_0 : f2 0 = p19) (htf2_1 : f2 1 = p20) (htf2_2 : f2 2 = p21) (htf2_405 : f2 405 = p22) (sz : Nat) : MI l yX12_house cX12_house 3 .int { frames := 33, cells := 0, slots := 0, locals := 800 } [.ref h0, .int p0] D cy (wk_04d6d8a2c cy h0 p1 h1 w0 h2 h3 p2 p3 p4 p5 p6 p7 p8 p9 p10 p11 p12 w1 w2 w3 w4 w5 p13 p14 w6 w7 w8 p15 p16 w9 w10 w11 w12 w13 p17 w14 w15 w16 h1 f0 h2 f1 h3 f2) sz (fun r u => ((-2147483648) ≤ r.toInt ∧ r.toInt ≤ 2147483647) ∧ AL (u.2.1 0) ∧ (0 ≤ (u.2.1 1 0).toInt ∧ (u.2.1 1 0).toInt ≤ 10) ∧ (0 ≤ (u.2.1 2 0).toInt ∧ (u.2.1 2 0).toInt ≤ 0) ∧ (0 ≤ (u.2.1 3 0).toInt ∧ (u.2.1 3 0).toInt ≤ 900) ∧ (0 ≤ (u.2.1 4 0).toInt ∧ (u.2.1 4 0).toInt ≤ 900) ∧ (0 ≤ (u.2.1 5 0).toInt ∧ (u.2.1 5 0).toInt ≤ 900) ∧ (0 ≤ (u.2.1 6 0).toInt ∧ (u.2.1 6 0).toInt ≤ 900) ∧ ((-2147483648) ≤ (u.2.1 7 0).toInt ∧ (u.2.1 7 0).toInt ≤ 2147483647) ∧ (0 ≤ (u.2.1 8 0).toInt ∧ (u.2.1 8 0).toInt ≤ 999) ∧ ((-2147483648) ≤ (u.2.1 9 0).toInt ∧ (u.2.1 9 0).toInt ≤ 2147483647) ∧ ((-2147483648) ≤ (u.2.1 10 0).toInt ∧ (u.2.1 10 0).toInt ≤ 2147483647) ∧ ((-2147483648) ≤ (u.2.1 11 0).toInt ∧ (u.2.1 11 0).toInt ≤ 2147483647) ∧ ((-2147483648) ≤ (u.2.1 12 0).toInt ∧ (u.2.1 12 0).toInt ≤ 2147483647) ∧ ((-2147483648) ≤ (u.2.1 13 0).toInt ∧ (u.2.1 13 0).toInt ≤ 2147483647) ∧ (0 ≤ (u.2.1 15 0).toInt ∧ (u.2.1 15 0).toInt ≤ 1000) ∧ ((-2147483648) ≤ (u.2.1 16 0).toInt ∧ (u.2.1 16 0).toInt ≤ 2147483647) ∧ (0 ≤ (u.2.1 17 0).toInt ∧ (u.2.1 17 0).toInt ≤ 10) ∧ (0 ≤ (u.2.1 18 0).toInt ∧ (u.2.1 18 0).toInt ≤ 900) ∧ (u.2.1 0) 84 = (u.2.1 1 0) ∧ (u.2.1 14) 0 = (u.2.1 15 0) ∧ (u.2.1 14) 1 = (u.2.1 16 0) ∧ (u.2.1 14) 2 = (u.2.1 17 0) ∧ (u.2.1 14) 405 = (u.2.1 18 0) ∧ ((((p0 : Int32).toInt < 0 ∨ (p2 : Int32).toInt < (p0 : Int32).toInt) ∧ (r : Int32).toInt = -3 ∧ ((u.2.1 3 0) : Int32).toInt = (p2 : Int32).toInt ∧ ((u.2.1 11 0) : Int32).toInt = (p10 : Int32).toInt ∧ ((u.2.1 12 0) : Int32).toInt = (p11 : Int32).toInt) ∨ (0 ≤ (p0 : Int32).toInt ∧ (p0 : Int32).toInt ≤ (p2 : Int32).toInt ∧ ((u.2.1 3 0) : Int32).toInt = 0 ∧ HSE (r : Int32).toInt ((u.2.1 11 0) : Int32).toInt ((u.2.1 12 0) : Int32).toInt (PF (bM f1) ((p0 : Int32).toInt).toNat))) ∧ True) (fun u => (wk_04d6d8a2c cy h0 (u.2.1 2 0) h1 w0 h2 h3 (u.2.1 3 0) (u.2.1 4 0) (u.2.1 5 0) (u.2.1 6 0) (u.2.1 7 0) (u.2.1 8 0) (u.2.1 9 0) (u.2.1 10 0) (u.2.1 11 0) (u.2.1 12 0) (u.2.1 13 0) w1 w2 w3 w4 w5 p13 p14 w6 w7 w8 p15 p16 w9 w10 w11 w12 w13 p17 w14 w15 w16 h1 (u.2.1 0) h2 f1 h3 (u.2.1 14))) 0 0 := sorry
set_option maxHeartbeats 4000000 in
set_option maxRecDepth 100000 in
theorem gX12_fault_e1386c6 (l : Launch) (D : va_G) (cy : Nat → ClassId) (h0 : Nat) (p0 : Int32) (p1 : Int32) (w0 : Value) (w1 : Value) (w2 : Value) (w3 : Value) (p2 : Int32) (p3 : Int32) (p4 : Int32) (p5 : Int32) (p6 : Int32) (p7 : Int32) (p8 : Int32) (p9 : Int32) (p10 : Int32) (p11 : Int32) (p12 : Int32) (w4 : Value) (w5 : Value) (w6 : Value) (w7 : Value) (w8 : Value) (p13 : Int32) (p14 : Int32) (w9 : Value) (w10 : Value) (w11 : Value) (p15 : Int32) (p16 : Int32) (w12 : Value) (w13 : Value) (w14 : Value) (w15 : Value) (w16 : Value) (p17 : Int32) (w17 : Value) (w18 : Value) (w19 : Value) (hp0 : (-2147483648) ≤ (p0).toInt ∧ (p0).toInt ≤ 2147483647) (hp1 : (-2147483648) ≤ (p1).toInt ∧ (p1).toInt ≤ 2147483647) (hp2 : 0 ≤ (p2).toInt ∧ (p2).toInt ≤ 900) (hp3 : 0 ≤ (p3).toInt ∧ (p3).toInt ≤ 900) (hp4 : 0 ≤ (p4).toInt ∧ (p4).toInt ≤ 900) (hp5 : 0 ≤ (p5).toInt ∧ (p5).toInt ≤ 900) (hp6 : (-2147483648) ≤ (p6).toInt ∧ (p6).toInt ≤ 2147483647) (hp7 : 0 ≤ (p7).toInt ∧ (p7).toInt ≤ 999) (hp8 : (-2147483648) ≤ (p8).toInt ∧ (p8).toInt ≤ 2147483647) (hp9 : (-2147483648) ≤ (p9).toInt ∧ (p9).toInt ≤ 2147483647) (hp10 : (-2147483648) ≤ (p10).toInt ∧ (p10).toInt ≤ 2147483647) (hp11 : (-2147483648) ≤ (p11).toInt ∧ (p11).toInt ≤ 2147483647) (hp12 : (-2147483648) ≤ (p12).toInt ∧ (p12).toInt ≤ 2147483647) (hp13 : (-2147483648) ≤ (p13).toInt ∧ (p13).toInt ≤ 2147483647) (hp14 : (-2147483648) ≤ (p14).toInt ∧ (p14).toInt ≤ 2147483647) (hp15 : (-2147483648) ≤ (p15).toInt ∧ (p15).toInt ≤ 2147483647) (hp16 : (-2147483648) ≤ (p16).toInt ∧ (p16).toInt ≤ 2147483647) (hp17 : (-2147483648) ≤ (p17).toInt ∧ (p17).toInt ≤ 2147483647) (sz : Nat) : MI l yX12_fault cX12_fault 2 .int { frames := 0, cells := 0, slots := 0, locals := 0 } [.ref h0, .int p0] D cy [(h0, .inr (12, [.int p1, w0, w1, w2, w3, .int p2, .int p3, .int p4, .int p5, .int p6, .int p7, .int p8, .int p9, .int p10, .int p11, .int p12, w4, w5, w6, w7, w8, .int p13, .int p14, w9, w10, w11, .int p15, .int p16, w12, w13, w14, w15, w16, .int p17, w17, w18, w19]))] sz (fun r u => ((-2147483648) ≤ r.toInt ∧ r.toInt ≤ 2147483647) ∧ (0 ≤ (u.2.1 0 0).toInt ∧ (u.2.1 0 0).toInt ≤ 0) ∧ (((p0 : Int32).toInt = 0 ∧ (r : Int32).toInt = (p10 : Int32).toInt) ∨ ((p0 : Int32).toInt = 1 ∧ (r : Int32).toInt = (p11 : Int32).toInt) ∨ ((p0 : Int32).toInt ≠ 0 ∧ (p0 : Int32).toInt ≠ 1 ∧ (r : Int32).toInt = -1)) ∧ True) (fun u => [(h0, .inr (12, [.int (u.2.1 0 0), w0, w1, w2, w3, .int p2, .int p3, .int p4, .int p5, .int p6, .int p7, .int p8, .int p9, .int p10, .int p11, .int p12, w4, w5, w6, w7, w8, .int p13, .int p14, w9, w10, w11, .int p15, .int p16, w12, w13, w14, w15, w16, .int p17, w17, w18, w19]))]) 0 0 := sorry