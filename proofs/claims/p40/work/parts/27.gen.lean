def wk_04d6d8a2c (cy : Nat → ClassId) (a0 : Nat) (a1 : Int32) (a2 : Nat) (a3 : Value) (a4 a5 : Nat) (a6 a7 a8 a9 a10 a11 a12 a13 a14 a15 a16 : Int32) (a17 a18 a19 a20 a21 : Value) (a22 a23 : Int32) (a24 a25 a26 : Value) (a27 a28 : Int32) (a29 a30 a31 a32 a33 : Value) (a34 : Int32) (a35 a36 a37 : Value) (a38 : Nat) (a39 : Nat → Int32) (a40 : Nat) (a41 : Nat → Int32) (a42 : Nat) (a43 : Nat → Int32) : va_W := [(a0, .inr (12, [.int a1, .ref a2, a3, .ref a4, .ref a5, .int a6, .int a7, .int a8, .int a9, .int a10, .int a11, .int a12, .int a13, .int a14, .int a15, .int a16, a17, a18, a19, a20, a21, .int a22, .int a23, a24, a25, a26, .int a27, .int a28, a29, a30, a31, a32, a33, .int a34, a35, a36, a37])), (a38, .inl (cy 1, 3918, .inl a39)), (a40, .inl (cy 1, 900, .inl a41)), (a42, .inl (cy 1, 1306, .inl a43))]
def wk_7c5ca55a5 (cy : Nat → ClassId) (a0 : Nat) (a1 : Nat → Int32) (a2 : Nat) (a3 : Nat → Int32) : va_W := [(a0, .inl (cy 1, 3918, .inl a1)), (a2, .inl (cy 1, 1306, .inl a3))]
def wk_db69142ea (cy : Nat → ClassId) (a0 : Nat) (a1 : Nat → Int32) (a2 : Nat) (a3 : Nat → Int32) (a4 : Nat) (a5 : Int32) (a6 : Nat) (a7 : Value) (a8 a9 : Nat) (a10 a11 a12 a13 a14 a15 a16 a17 a18 a19 a20 : Int32) (a21 a22 a23 a24 a25 : Value) (a26 a27 : Int32) (a28 a29 a30 : Value) (a31 a32 : Int32) (a33 a34 a35 a36 a37 : Value) (a38 : Int32) (a39 a40 a41 : Value) (a42 : Nat) (a43 : Nat → Int32) : va_W := [(a0, .inl (cy 1, 3918, .inl a1)), (a2, .inl (cy 1, 1306, .inl a3)), (a4, .inr (12, [.int a5, .ref a6, a7, .ref a8, .ref a9, .int a10, .int a11, .int a12, .int a13, .int a14, .int a15, .int a16, .int a17, .int a18, .int a19, .int a20, a21, a22, a23, a24, a25, .int a26, .int a27, a28, a29, a30, .int a31, .int a32, a33, a34, a35, a36, a37, .int a38, a39, a40, a41])), (a42, .inl (cy 1, 900, .inl a43))]
def wk_dab8c81bb (cy : Nat → ClassId) (a0 : Nat) (a1 : Nat → Int32) (a2 : Nat) (a3 : Int32) (a4 : Nat) (a5 : Value) (a6 a7 : Nat) (a8 a9 a10 a11 a12 a13 a14 a15 a16 a17 a18 : Int32) (a19 a20 a21 a22 a23 : Value) (a24 a25 : Int32) (a26 a27 a28 : Value) (a29 a30 : Int32) (a31 a32 a33 a34 a35 : Value) (a36 : Int32) (a37 a38 a39 : Value) (a40 : Nat) (a41 : Nat → Int32) (a42 : Nat) (a43 : Nat → Int32) : va_W := [(a0, .inl (cy 1, 3918, .inl a1)), (a2, .inr (12, [.int a3, .ref a4, a5, .ref a6, .ref a7, .int a8, .int a9, .int a10, .int a11, .int a12, .int a13, .int a14, .int a15, .int a16, .int a17, .int a18, a19, a20, a21, a22, a23, .int a24, .int a25, a26, a27, a28, .int a29, .int a30, a31, a32, a33, a34, a35, .int a36, a37, a38, a39])), (a40, .inl (cy 1, 900, .inl a41)), (a42, .inl (cy 1, 1306, .inl a43))]
def wk_eece9000b (cy : Nat → ClassId) (a0 : Nat) (a1 : Nat → Int32) (a2 : Nat) (a3 : Nat → Int32) (a4 : Nat) (a5 : Nat → Int32) : va_W := [(a0, .inl (cy 1, 3918, .inl a1)), (a2, .inl (cy 1, 1306, .inl a3)), (a4, .inl (cy 1, 900, .inl a5))]
def wk_735259578 (cy : Nat → ClassId) (a0 : Nat) (a1 : Nat → Int32) (a2 : Nat) (a3 : Nat → Int32) (a4 : Nat) (a5 : Nat → Int32) (a6 : Nat) (a7 : Int32) (a8 : Nat) (a9 : Value) (a10 a11 : Nat) (a12 a13 a14 a15 a16 a17 a18 a19 a20 a21 a22 : Int32) (a23 a24 a25 a26 a27 : Value) (a28 a29 : Int32) (a30 a31 a32 : Value) (a33 a34 : Int32) (a35 a36 a37 a38 a39 : Value) (a40 : Int32) (a41 a42 a43 : Value) : va_W := [(a0, .inl (cy 1, 3918, .inl a1)), (a2, .inl (cy 1, 1306, .inl a3)), (a4, .inl (cy 1, 900, .inl a5)), (a6, .inr (12, [.int a7, .ref a8, a9, .ref a10, .ref a11, .int a12, .int a13, .int a14, .int a15, .int a16, .int a17, .int a18, .int a19, .int a20, .int a21, .int a22, a23, a24, a25, a26, a27, .int a28, .int a29, a30, a31, a32, .int a33, .int a34, a35, a36, a37, a38, a39, .int a40, a41, a42, a43]))]
def wk_e1f596b07 (cy : Nat → ClassId) (a0 : Nat) (a1 : Int32) (a2 : Nat) (a3 a4 a5 : Value) (a6 a7 a8 a9 a10 a11 a12 a13 a14 a15 a16 : Int32) (a17 a18 a19 a20 a21 : Value) (a22 a23 : Int32) (a24 a25 a26 : Value) (a27 a28 : Int32) (a29 a30 a31 a32 a33 : Value) (a34 : Int32) (a35 a36 a37 : Value) (a38 : Nat) (a39 : Nat → Int32) : va_W := [(a0, .inr (12, [.int a1, .ref a2, a3, a4, a5, .int a6, .int a7, .int a8, .int a9, .int a10, .int a11, .int a12, .int a13, .int a14, .int a15, .int a16, a17, a18, a19, a20, a21, .int a22, .int a23, a24, a25, a26, .int a27, .int a28, a29, a30, a31, a32, a33, .int a34, a35, a36, a37])), (a38, .inl (cy 1, 3918, .inl a39))]
def wk_177a9dc22 (cy : Nat → ClassId) (a0 : Nat) (a1 : Int32) (a2 : Nat) (a3 a4 a5 : Value) (a6 a7 a8 a9 a10 a11 a12 a13 a14 a15 a16 : Int32) (a17 : Value) (a18 : Nat) (a19 a20 a21 : Value) (a22 a23 : Int32) (a24 a25 a26 : Value) (a27 a28 : Int32) (a29 a30 a31 a32 a33 : Value) (a34 : Int32) (a35 a36 a37 : Value) (a38 : Nat) (a39 : Nat → Int32) (a40 : Nat) (a41 : Nat → Int32) : va_W := [(a0, .inr (12, [.int a1, .ref a2, a3, a4, a5, .int a6, .int a7, .int a8, .int a9, .int a10, .int a11, .int a12, .int a13, .int a14, .int a15, .int a16, a17, .ref a18, a19, a20, a21, .int a22, .int a23, a24, a25, a26, .int a27, .int a28, a29, a30, a31, a32, a33, .int a34, a35, a36, a37])), (a38, .inl (cy 1, 3918, .inl a39)), (a40, .inl (cy 1, 11, .inl a41))]
theorem wm_5_167 : Cond.methodLink RX12 79 yX12_plain ∈ WG := wg_t5 (List.mem_of_getElem? (i := 167) rfl) rfl
theorem wm_5_169 : Cond.code yX12_plain cX12_plain 2 none ∈ WG := wg_t5 (List.mem_of_getElem? (i := 169) rfl) rfl
theorem wm_5_168 : Cond.static yX12_plain ∈ WG := wg_t5 (List.mem_of_getElem? (i := 168) rfl) rfl
theorem wm_6_87 : Cond.methodLink RX12 190 yX12_takes ∈ WG := wg_t6 (List.mem_of_getElem? (i := 87) rfl) rfl
theorem wm_6_90 : Cond.code yX12_takes cX12_takes 4 (some .int) ∈ WG := wg_t6 (List.mem_of_getElem? (i := 90) rfl) rfl
theorem wm_6_89 : Cond.instanceMethod yX12_takes ∈ WG := wg_t6 (List.mem_of_getElem? (i := 89) rfl) rfl
theorem wp_4_9 : Cond.selects RX12 yX12_takes yX12_takes ∈ WG := wg_p (q := (yX12_takes, 37)) (wg_p4 (List.mem_of_getElem? (i := 9) rfl)) rfl
theorem wm_6_91 : Cond.methodLink RX12 208 yX12_ends ∈ WG := wg_t6 (List.mem_of_getElem? (i := 91) rfl) rfl
theorem wm_6_94 : Cond.code yX12_ends cX12_ends 1 none ∈ WG := wg_t6 (List.mem_of_getElem? (i := 94) rfl) rfl
theorem wm_6_93 : Cond.instanceMethod yX12_ends ∈ WG := wg_t6 (List.mem_of_getElem? (i := 93) rfl) rfl
theorem wp_4_10 : Cond.selects RX12 yX12_ends yX12_ends ∈ WG := wg_p (q := (yX12_ends, 37)) (wg_p4 (List.mem_of_getElem? (i := 10) rfl)) rfl
theorem wm_6_108 : Cond.constantLong RX12 201 (7) ∈ WG := wg_t6 (List.mem_of_getElem? (i := 108) rfl) rfl
theorem wm_6_109 : Cond.constantLong RX12 203 (9) ∈ WG := wg_t6 (List.mem_of_getElem? (i := 109) rfl) rfl
theorem wm_6_110 : Cond.methodLink RX12 205 yX12_readLaw ∈ WG := wg_t6 (List.mem_of_getElem? (i := 110) rfl) rfl
theorem wm_6_113 : Cond.code yX12_readLaw cX12_readLaw 3 none ∈ WG := wg_t6 (List.mem_of_getElem? (i := 113) rfl) rfl
theorem wm_6_112 : Cond.instanceMethod yX12_readLaw ∈ WG := wg_t6 (List.mem_of_getElem? (i := 112) rfl) rfl
theorem wp_4_14 : Cond.selects RX12 yX12_readLaw yX12_readLaw ∈ WG := wg_p (q := (yX12_readLaw, 37)) (wg_p4 (List.mem_of_getElem? (i := 14) rfl)) rfl
theorem wm_6_103 : Cond.constant RX12 194 (268435456) ∈ WG := wg_t6 (List.mem_of_getElem? (i := 103) rfl) rfl
theorem wm_6_104 : Cond.methodLink RX12 195 yX12_readFlag ∈ WG := wg_t6 (List.mem_of_getElem? (i := 104) rfl) rfl
theorem wm_6_107 : Cond.code yX12_readFlag cX12_readFlag 4 (some .boolean) ∈ WG := wg_t6 (List.mem_of_getElem? (i := 107) rfl) rfl
theorem wm_6_106 : Cond.instanceMethod yX12_readFlag ∈ WG := wg_t6 (List.mem_of_getElem? (i := 106) rfl) rfl
theorem wp_4_13 : Cond.selects RX12 yX12_readFlag yX12_readFlag ∈ WG := wg_p (q := (yX12_readFlag, 37)) (wg_p4 (List.mem_of_getElem? (i := 13) rfl)) rfl
theorem wm_6_99 : Cond.methodLink RX12 198 yX12_readPerson ∈ WG := wg_t6 (List.mem_of_getElem? (i := 99) rfl) rfl
theorem wm_6_102 : Cond.code yX12_readPerson cX12_readPerson 3 none ∈ WG := wg_t6 (List.mem_of_getElem? (i := 102) rfl) rfl
theorem wm_6_101 : Cond.instanceMethod yX12_readPerson ∈ WG := wg_t6 (List.mem_of_getElem? (i := 101) rfl) rfl
theorem wp_4_12 : Cond.selects RX12 yX12_readPerson yX12_readPerson ∈ WG := wg_p (q := (yX12_readPerson, 37)) (wg_p4 (List.mem_of_getElem? (i := 12) rfl)) rfl
theorem wm_6_95 : Cond.methodLink RX12 211 yX12_readLine ∈ WG := wg_t6 (List.mem_of_getElem? (i := 95) rfl) rfl
theorem wm_6_98 : Cond.code yX12_readLine cX12_readLine 1 none ∈ WG := wg_t6 (List.mem_of_getElem? (i := 98) rfl) rfl
theorem wm_6_97 : Cond.instanceMethod yX12_readLine ∈ WG := wg_t6 (List.mem_of_getElem? (i := 97) rfl) rfl
theorem wp_4_11 : Cond.selects RX12 yX12_readLine yX12_readLine ∈ WG := wg_p (q := (yX12_readLine, 37)) (wg_p4 (List.mem_of_getElem? (i := 11) rfl)) rfl
theorem wm_5_183 : Cond.fieldLink RX12 214 "OppositeHouseModel" "faultKind" "I" ∈ WG := wg_t5 (List.mem_of_getElem? (i := 183) rfl) rfl
theorem wm_5_184 : Cond.fieldLink RX12 27 "OppositeHouseModel" "faultPlace" "I" ∈ WG := wg_t5 (List.mem_of_getElem? (i := 184) rfl) rfl
theorem wm_5_171 : Cond.fieldLink RX12 13 "OppositeHouseModel" "all" "[I" ∈ WG := wg_t5 (List.mem_of_getElem? (i := 171) rfl) rfl
theorem wm_6_162 : Cond.methodLink RX12 245 yX12_isPerson ∈ WG := wg_t6 (List.mem_of_getElem? (i := 162) rfl) rfl
theorem wm_6_165 : Cond.code yX12_isPerson cX12_isPerson 3 (some .boolean) ∈ WG := wg_t6 (List.mem_of_getElem? (i := 165) rfl) rfl
theorem wm_6_164 : Cond.instanceMethod yX12_isPerson ∈ WG := wg_t6 (List.mem_of_getElem? (i := 164) rfl) rfl
theorem wp_5_8 : Cond.selects RX12 yX12_isPerson yX12_isPerson ∈ WG := wg_p (q := (yX12_isPerson, 37)) (wg_p5 (List.mem_of_getElem? (i := 8) rfl)) rfl
theorem wm_6_166 : Cond.constantLong RX12 249 (2) ∈ WG := wg_t6 (List.mem_of_getElem? (i := 166) rfl) rfl
theorem wm_6_167 : Cond.methodLink RX12 251 yX12_isIn ∈ WG := wg_t6 (List.mem_of_getElem? (i := 167) rfl) rfl
theorem wm_6_169 : Cond.code yX12_isIn cX12_isIn 3 (some .boolean) ∈ WG := wg_t6 (List.mem_of_getElem? (i := 169) rfl) rfl
theorem wm_6_168 : Cond.static yX12_isIn ∈ WG := wg_t6 (List.mem_of_getElem? (i := 168) rfl) rfl
theorem wm_6_174 : Cond.methodLink RX12 220 yX12_townOn ∈ WG := wg_t6 (List.mem_of_getElem? (i := 174) rfl) rfl
theorem wm_6_177 : Cond.code yX12_townOn cX12_townOn 4 (some .int) ∈ WG := wg_t6 (List.mem_of_getElem? (i := 177) rfl) rfl
theorem wm_6_176 : Cond.instanceMethod yX12_townOn ∈ WG := wg_t6 (List.mem_of_getElem? (i := 176) rfl) rfl
theorem wp_5_10 : Cond.selects RX12 yX12_townOn yX12_townOn ∈ WG := wg_p (q := (yX12_townOn, 37)) (wg_p5 (List.mem_of_getElem? (i := 10) rfl)) rfl
theorem wm_6_170 : Cond.methodLink RX12 255 yX12_townNow ∈ WG := wg_t6 (List.mem_of_getElem? (i := 170) rfl) rfl
theorem wm_6_173 : Cond.code yX12_townNow cX12_townNow 1 (some .int) ∈ WG := wg_t6 (List.mem_of_getElem? (i := 173) rfl) rfl
theorem wm_6_172 : Cond.instanceMethod yX12_townNow ∈ WG := wg_t6 (List.mem_of_getElem? (i := 172) rfl) rfl
theorem wp_5_9 : Cond.selects RX12 yX12_townNow yX12_townNow ∈ WG := wg_p (q := (yX12_townNow, 37)) (wg_p5 (List.mem_of_getElem? (i := 9) rfl)) rfl
theorem wm_6_182 : Cond.constantLong RX12 258 (999) ∈ WG := wg_t6 (List.mem_of_getElem? (i := 182) rfl) rfl
theorem wm_5_187 : Cond.fieldLink RX12 33 "OppositeHouseModel" "words" "[I" ∈ WG := wg_t5 (List.mem_of_getElem? (i := 187) rfl) rfl
theorem wm_6_202 : Cond.constantLong RX12 223 (1000000) ∈ WG := wg_t6 (List.mem_of_getElem? (i := 202) rfl) rfl
theorem wm_6_203 : Cond.constantLong RX12 225 (-1000000) ∈ WG := wg_t6 (List.mem_of_getElem? (i := 203) rfl) rfl
theorem hd_X12_plain : yX12_plain.cls ≠ "java/lang/invoke/MethodHandle" ∧ yX12_plain.cls ≠ "java/lang/invoke/VarHandle" ∧ (parseMethodDescriptor yX12_plain.desc).map (fun d => d.parameters.length) = some 1 := by decide +kernel
theorem hd_X12_takes : yX12_takes.cls ≠ "java/lang/invoke/MethodHandle" ∧ yX12_takes.cls ≠ "java/lang/invoke/VarHandle" ∧ (parseMethodDescriptor yX12_takes.desc).map (fun d => d.parameters.length) = some 2 := by decide +kernel
theorem hd_X12_ends : yX12_ends.cls ≠ "java/lang/invoke/MethodHandle" ∧ yX12_ends.cls ≠ "java/lang/invoke/VarHandle" ∧ (parseMethodDescriptor yX12_ends.desc).map (fun d => d.parameters.length) = some 0 := by decide +kernel
theorem hd_X12_readLaw : yX12_readLaw.cls ≠ "java/lang/invoke/MethodHandle" ∧ yX12_readLaw.cls ≠ "java/lang/invoke/VarHandle" ∧ (parseMethodDescriptor yX12_readLaw.desc).map (fun d => d.parameters.length) = some 1 := by decide +kernel
theorem hd_X12_readFlag : yX12_readFlag.cls ≠ "java/lang/invoke/MethodHandle" ∧ yX12_readFlag.cls ≠ "java/lang/invoke/VarHandle" ∧ (parseMethodDescriptor yX12_readFlag.desc).map (fun d => d.parameters.length) = some 1 := by decide +kernel
theorem hd_X12_readPerson : yX12_readPerson.cls ≠ "java/lang/invoke/MethodHandle" ∧ yX12_readPerson.cls ≠ "java/lang/invoke/VarHandle" ∧ (parseMethodDescriptor yX12_readPerson.desc).map (fun d => d.parameters.length) = some 0 := by decide +kernel
theorem hd_X12_readLine : yX12_readLine.cls ≠ "java/lang/invoke/MethodHandle" ∧ yX12_readLine.cls ≠ "java/lang/invoke/VarHandle" ∧ (parseMethodDescriptor yX12_readLine.desc).map (fun d => d.parameters.length) = some 0 := by decide +kernel
theorem hd_X12_isPerson : yX12_isPerson.cls ≠ "java/lang/invoke/MethodHandle" ∧ yX12_isPerson.cls ≠ "java/lang/invoke/VarHandle" ∧ (parseMethodDescriptor yX12_isPerson.desc).map (fun d => d.parameters.length) = some 1 := by decide +kernel
theorem hd_X12_isIn : yX12_isIn.cls ≠ "java/lang/invoke/MethodHandle" ∧ yX12_isIn.cls ≠ "java/lang/invoke/VarHandle" ∧ (parseMethodDescriptor yX12_isIn.desc).map (fun d => d.parameters.length) = some 2 := by decide +kernel
theorem hd_X12_townOn : yX12_townOn.cls ≠ "java/lang/invoke/MethodHandle" ∧ yX12_townOn.cls ≠ "java/lang/invoke/VarHandle" ∧ (parseMethodDescriptor yX12_townOn.desc).map (fun d => d.parameters.length) = some 1 := by decide +kernel
theorem hd_X12_townNow : yX12_townNow.cls ≠ "java/lang/invoke/MethodHandle" ∧ yX12_townNow.cls ≠ "java/lang/invoke/VarHandle" ∧ (parseMethodDescriptor yX12_townNow.desc).map (fun d => d.parameters.length) = some 0 := by decide +kernel
theorem dX12_asks_0 : decode cX12_asks 0 = .ok (.iconst 0, 1) := by decide +kernel
theorem dX12_asks_1 : decode cX12_asks 1 = .ok (.istore 4, 2) := by decide +kernel
theorem dX12_asks_3 : decode cX12_asks 3 = .ok (.iload 4, 2) := by decide +kernel
theorem dX12_asks_5 : decode cX12_asks 5 = .ok (.iconst 3, 1) := by decide +kernel
theorem dX12_asks_6 : decode cX12_asks 6 = .ok (.if_icmp .ge 53, 3) := by decide +kernel
theorem dX12_asks_9 : decode cX12_asks 9 = .ok (.aload_n 0, 1) := by decide +kernel
theorem dX12_asks_10 : decode cX12_asks 10 = .ok (.getfield 33, 3) := by decide +kernel
theorem dX12_asks_13 : decode cX12_asks 13 = .ok (.iload 4, 2) := by decide +kernel
theorem dX12_asks_15 : decode cX12_asks 15 = .ok (.aload_n 0, 1) := by decide +kernel
theorem dX12_asks_16 : decode cX12_asks 16 = .ok (.getfield 13, 3) := by decide +kernel
theorem dX12_asks_19 : decode cX12_asks 19 = .ok (.bipush 54, 2) := by decide +kernel
theorem dX12_asks_21 : decode cX12_asks 21 = .ok (.iconst 3, 1) := by decide +kernel
theorem dX12_asks_22 : decode cX12_asks 22 = .ok (.iload_n 1, 1) := by decide +kernel
theorem dX12_asks_23 : decode cX12_asks 23 = .ok (.imul, 1) := by decide +kernel
theorem dX12_asks_24 : decode cX12_asks 24 = .ok (.iadd, 1) := by decide +kernel
theorem dX12_asks_25 : decode cX12_asks 25 = .ok (.iload 4, 2) := by decide +kernel
theorem dX12_asks_27 : decode cX12_asks 27 = .ok (.iadd, 1) := by decide +kernel
theorem dX12_asks_28 : decode cX12_asks 28 = .ok (.iaload, 1) := by decide +kernel
theorem dX12_asks_29 : decode cX12_asks 29 = .ok (.iastore, 1) := by decide +kernel
theorem dX12_asks_30 : decode cX12_asks 30 = .ok (.aload_n 0, 1) := by decide +kernel
theorem dX12_asks_31 : decode cX12_asks 31 = .ok (.getfield 33, 3) := by decide +kernel
theorem dX12_asks_34 : decode cX12_asks 34 = .ok (.iconst 5, 1) := by decide +kernel
theorem dX12_asks_35 : decode cX12_asks 35 = .ok (.iload 4, 2) := by decide +kernel
theorem dX12_asks_37 : decode cX12_asks 37 = .ok (.iadd, 1) := by decide +kernel
theorem dX12_asks_38 : decode cX12_asks 38 = .ok (.aload_n 0, 1) := by decide +kernel
theorem dX12_asks_39 : decode cX12_asks 39 = .ok (.getfield 13, 3) := by decide +kernel
theorem dX12_asks_42 : decode cX12_asks 42 = .ok (.bipush 54, 2) := by decide +kernel
theorem dX12_asks_44 : decode cX12_asks 44 = .ok (.iconst 3, 1) := by decide +kernel
theorem dX12_asks_45 : decode cX12_asks 45 = .ok (.iload_n 2, 1) := by decide +kernel
theorem dX12_asks_46 : decode cX12_asks 46 = .ok (.imul, 1) := by decide +kernel
theorem dX12_asks_47 : decode cX12_asks 47 = .ok (.iadd, 1) := by decide +kernel
theorem dX12_asks_48 : decode cX12_asks 48 = .ok (.iload 4, 2) := by decide +kernel
theorem dX12_asks_50 : decode cX12_asks 50 = .ok (.iadd, 1) := by decide +kernel
theorem dX12_asks_51 : decode cX12_asks 51 = .ok (.iaload, 1) := by decide +kernel
theorem dX12_asks_52 : decode cX12_asks 52 = .ok (.iastore, 1) := by decide +kernel
theorem dX12_asks_53 : decode cX12_asks 53 = .ok (.iinc 4 1, 3) := by decide +kernel
theorem dX12_asks_56 : decode cX12_asks 56 = .ok (.goto (-53), 3) := by decide +kernel
theorem dX12_asks_59 : decode cX12_asks 59 = .ok (.aload_n 0, 1) := by decide +kernel
theorem dX12_asks_60 : decode cX12_asks 60 = .ok (.getfield 33, 3) := by decide +kernel
theorem dX12_asks_63 : decode cX12_asks 63 = .ok (.iconst 3, 1) := by decide +kernel
theorem dX12_asks_64 : decode cX12_asks 64 = .ok (.iload_n 1, 1) := by decide +kernel
theorem dX12_asks_65 : decode cX12_asks 65 = .ok (.iastore, 1) := by decide +kernel
theorem dX12_asks_66 : decode cX12_asks 66 = .ok (.aload_n 0, 1) := by decide +kernel
theorem dX12_asks_67 : decode cX12_asks 67 = .ok (.getfield 33, 3) := by decide +kernel
theorem dX12_asks_70 : decode cX12_asks 70 = .ok (.bipush 8, 2) := by decide +kernel
theorem dX12_asks_72 : decode cX12_asks 72 = .ok (.iload_n 2, 1) := by decide +kernel
theorem dX12_asks_73 : decode cX12_asks 73 = .ok (.iastore, 1) := by decide +kernel
theorem dX12_asks_74 : decode cX12_asks 74 = .ok (.aload_n 0, 1) := by decide +kernel
theorem dX12_asks_75 : decode cX12_asks 75 = .ok (.getfield 33, 3) := by decide +kernel
theorem dX12_asks_78 : decode cX12_asks 78 = .ok (.iconst 4, 1) := by decide +kernel
theorem dX12_asks_79 : decode cX12_asks 79 = .ok (.iload_n 3, 1) := by decide +kernel
theorem dX12_asks_80 : decode cX12_asks 80 = .ok (.bipush 7, 2) := by decide +kernel
theorem dX12_asks_82 : decode cX12_asks 82 = .ok (.irem, 1) := by decide +kernel
theorem dX12_asks_83 : decode cX12_asks 83 = .ok (.iastore, 1) := by decide +kernel
theorem dX12_asks_84 : decode cX12_asks 84 = .ok (.return_, 1) := by decide +kernel
theorem dX12_between_0 : decode cX12_between 0 = .ok (.iload_n 0, 1) := by decide +kernel
theorem dX12_between_1 : decode cX12_between 1 = .ok (.tableswitch 80 3003 3008 #[39, 50, 61, 80, 72, 76], 39) := by decide +kernel
theorem dX12_between_40 : decode cX12_between 40 = .ok (.iload_n 1, 1) := by decide +kernel
theorem dX12_between_41 : decode cX12_between 41 = .ok (.iload_n 2, 1) := by decide +kernel
theorem dX12_between_42 : decode cX12_between 42 = .ok (.if_icmp .ne 7, 3) := by decide +kernel
theorem dX12_between_45 : decode cX12_between 45 = .ok (.iconst 1, 1) := by decide +kernel
theorem dX12_between_46 : decode cX12_between 46 = .ok (.goto 4, 3) := by decide +kernel
theorem dX12_between_49 : decode cX12_between 49 = .ok (.iconst 0, 1) := by decide +kernel
theorem dX12_between_50 : decode cX12_between 50 = .ok (.ireturn, 1) := by decide +kernel
theorem dX12_between_51 : decode cX12_between 51 = .ok (.iload_n 1, 1) := by decide +kernel
theorem dX12_between_52 : decode cX12_between 52 = .ok (.iload_n 2, 1) := by decide +kernel
theorem dX12_between_53 : decode cX12_between 53 = .ok (.if_icmp .ge 7, 3) := by decide +kernel
theorem dX12_between_56 : decode cX12_between 56 = .ok (.iconst 1, 1) := by decide +kernel
theorem dX12_between_57 : decode cX12_between 57 = .ok (.goto 4, 3) := by decide +kernel
theorem dX12_between_60 : decode cX12_between 60 = .ok (.iconst 0, 1) := by decide +kernel
theorem dX12_between_61 : decode cX12_between 61 = .ok (.ireturn, 1) := by decide +kernel
theorem dX12_between_62 : decode cX12_between 62 = .ok (.iload_n 1, 1) := by decide +kernel
theorem dX12_between_63 : decode cX12_between 63 = .ok (.iload_n 2, 1) := by decide +kernel
theorem dX12_between_64 : decode cX12_between 64 = .ok (.if_icmp .le 7, 3) := by decide +kernel
theorem dX12_between_67 : decode cX12_between 67 = .ok (.iconst 1, 1) := by decide +kernel
theorem dX12_between_68 : decode cX12_between 68 = .ok (.goto 4, 3) := by decide +kernel
theorem dX12_between_71 : decode cX12_between 71 = .ok (.iconst 0, 1) := by decide +kernel
theorem dX12_between_72 : decode cX12_between 72 = .ok (.ireturn, 1) := by decide +kernel
theorem dX12_between_73 : decode cX12_between 73 = .ok (.iload_n 1, 1) := by decide +kernel
theorem dX12_between_74 : decode cX12_between 74 = .ok (.iload_n 2, 1) := by decide +kernel
theorem dX12_between_75 : decode cX12_between 75 = .ok (.iand, 1) := by decide +kernel
theorem dX12_between_76 : decode cX12_between 76 = .ok (.ireturn, 1) := by decide +kernel
theorem dX12_between_77 : decode cX12_between 77 = .ok (.iload_n 1, 1) := by decide +kernel
theorem dX12_between_78 : decode cX12_between 78 = .ok (.iload_n 2, 1) := by decide +kernel
theorem dX12_between_79 : decode cX12_between 79 = .ok (.ior, 1) := by decide +kernel
theorem dX12_between_80 : decode cX12_between 80 = .ok (.ireturn, 1) := by decide +kernel
theorem dX12_between_81 : decode cX12_between 81 = .ok (.iload_n 0, 1) := by decide +kernel
theorem dX12_between_82 : decode cX12_between 82 = .ok (.sipush 3000, 3) := by decide +kernel
theorem dX12_between_85 : decode cX12_between 85 = .ok (.if_icmp .ne 11, 3) := by decide +kernel
theorem dX12_between_88 : decode cX12_between 88 = .ok (.iload_n 1, 1) := by decide +kernel
theorem dX12_between_89 : decode cX12_between 89 = .ok (.i2l, 1) := by decide +kernel
theorem dX12_between_90 : decode cX12_between 90 = .ok (.iload_n 2, 1) := by decide +kernel
theorem dX12_between_91 : decode cX12_between 91 = .ok (.i2l, 1) := by decide +kernel
theorem dX12_between_92 : decode cX12_between 92 = .ok (.ladd, 1) := by decide +kernel
theorem dX12_between_93 : decode cX12_between 93 = .ok (.goto 23, 3) := by decide +kernel
theorem dX12_between_96 : decode cX12_between 96 = .ok (.iload_n 0, 1) := by decide +kernel
theorem dX12_between_97 : decode cX12_between 97 = .ok (.sipush 3001, 3) := by decide +kernel
theorem dX12_between_100 : decode cX12_between 100 = .ok (.if_icmp .ne 11, 3) := by decide +kernel
theorem dX12_between_103 : decode cX12_between 103 = .ok (.iload_n 1, 1) := by decide +kernel
theorem dX12_between_104 : decode cX12_between 104 = .ok (.i2l, 1) := by decide +kernel
theorem dX12_between_105 : decode cX12_between 105 = .ok (.iload_n 2, 1) := by decide +kernel
theorem dX12_between_106 : decode cX12_between 106 = .ok (.i2l, 1) := by decide +kernel
theorem dX12_between_107 : decode cX12_between 107 = .ok (.lsub, 1) := by decide +kernel
theorem dX12_between_108 : decode cX12_between 108 = .ok (.goto 8, 3) := by decide +kernel
theorem dX12_between_111 : decode cX12_between 111 = .ok (.iload_n 1, 1) := by decide +kernel
theorem dX12_between_112 : decode cX12_between 112 = .ok (.i2l, 1) := by decide +kernel
theorem dX12_between_113 : decode cX12_between 113 = .ok (.iload_n 2, 1) := by decide +kernel
theorem dX12_between_114 : decode cX12_between 114 = .ok (.i2l, 1) := by decide +kernel
theorem dX12_between_115 : decode cX12_between 115 = .ok (.lmul, 1) := by decide +kernel
theorem dX12_between_116 : decode cX12_between 116 = .ok (.lstore_n 3, 1) := by decide +kernel
theorem dX12_between_117 : decode cX12_between 117 = .ok (.lload_n 3, 1) := by decide +kernel
theorem dX12_between_118 : decode cX12_between 118 = .ok (.ldc2_w 223, 3) := by decide +kernel
theorem dX12_between_121 : decode cX12_between 121 = .ok (.lcmp, 1) := by decide +kernel
theorem dX12_between_122 : decode cX12_between 122 = .ok (.ifCond .le 9, 3) := by decide +kernel
theorem dX12_between_125 : decode cX12_between 125 = .ok (.ldc2_w 223, 3) := by decide +kernel
theorem dX12_between_128 : decode cX12_between 128 = .ok (.goto 18, 3) := by decide +kernel
theorem dX12_between_131 : decode cX12_between 131 = .ok (.lload_n 3, 1) := by decide +kernel
theorem dX12_between_132 : decode cX12_between 132 = .ok (.ldc2_w 225, 3) := by decide +kernel
theorem dX12_between_135 : decode cX12_between 135 = .ok (.lcmp, 1) := by decide +kernel
theorem dX12_between_136 : decode cX12_between 136 = .ok (.ifCond .ge 9, 3) := by decide +kernel
theorem dX12_between_139 : decode cX12_between 139 = .ok (.ldc2_w 225, 3) := by decide +kernel
theorem dX12_between_142 : decode cX12_between 142 = .ok (.goto 4, 3) := by decide +kernel
theorem dX12_between_145 : decode cX12_between 145 = .ok (.lload_n 3, 1) := by decide +kernel
theorem dX12_between_146 : decode cX12_between 146 = .ok (.l2i, 1) := by decide +kernel
theorem dX12_between_147 : decode cX12_between 147 = .ok (.ireturn, 1) := by decide +kernel
theorem dX12_fault_0 : decode cX12_fault 0 = .ok (.aload_n 0, 1) := by decide +kernel
theorem dX12_fault_1 : decode cX12_fault 1 = .ok (.iconst 0, 1) := by decide +kernel
theorem dX12_fault_2 : decode cX12_fault 2 = .ok (.putfield 1, 3) := by decide +kernel
theorem dX12_fault_5 : decode cX12_fault 5 = .ok (.iload_n 1, 1) := by decide +kernel
theorem dX12_fault_6 : decode cX12_fault 6 = .ok (.ifCond .ne 10, 3) := by decide +kernel
theorem dX12_fault_9 : decode cX12_fault 9 = .ok (.aload_n 0, 1) := by decide +kernel
theorem dX12_fault_10 : decode cX12_fault 10 = .ok (.getfield 214, 3) := by decide +kernel
theorem dX12_fault_13 : decode cX12_fault 13 = .ok (.goto 16, 3) := by decide +kernel
theorem dX12_fault_16 : decode cX12_fault 16 = .ok (.iload_n 1, 1) := by decide +kernel
theorem dX12_fault_17 : decode cX12_fault 17 = .ok (.iconst 1, 1) := by decide +kernel
theorem dX12_fault_18 : decode cX12_fault 18 = .ok (.if_icmp .ne 10, 3) := by decide +kernel
theorem dX12_fault_21 : decode cX12_fault 21 = .ok (.aload_n 0, 1) := by decide +kernel
theorem dX12_fault_22 : decode cX12_fault 22 = .ok (.getfield 27, 3) := by decide +kernel
theorem dX12_fault_25 : decode cX12_fault 25 = .ok (.goto 4, 3) := by decide +kernel
theorem dX12_fault_28 : decode cX12_fault 28 = .ok (.iconst (-1), 1) := by decide +kernel
theorem dX12_fault_29 : decode cX12_fault 29 = .ok (.ireturn, 1) := by decide +kernel
theorem dX12_house_0 : decode cX12_house 0 = .ok (.aload_n 0, 1) := by decide +kernel
theorem dX12_house_1 : decode cX12_house 1 = .ok (.iconst 0, 1) := by decide +kernel
theorem dX12_house_2 : decode cX12_house 2 = .ok (.putfield 1, 3) := by decide +kernel
theorem dX12_house_5 : decode cX12_house 5 = .ok (.iload_n 1, 1) := by decide +kernel
theorem dX12_house_6 : decode cX12_house 6 = .ok (.i2l, 1) := by decide +kernel
theorem dX12_house_7 : decode cX12_house 7 = .ok (.lconst 0, 1) := by decide +kernel
theorem dX12_house_8 : decode cX12_house 8 = .ok (.aload_n 0, 1) := by decide +kernel
theorem dX12_house_9 : decode cX12_house 9 = .ok (.getfield 83, 3) := by decide +kernel
theorem dX12_house_12 : decode cX12_house 12 = .ok (.i2l, 1) := by decide +kernel
theorem dX12_house_13 : decode cX12_house 13 = .ok (.invokestatic 145, 3) := by decide +kernel
theorem dX12_house_16 : decode cX12_house 16 = .ok (.ifCond .ne 6, 3) := by decide +kernel
theorem dX12_house_19 : decode cX12_house 19 = .ok (.bipush (-3), 2) := by decide +kernel
theorem dX12_house_21 : decode cX12_house 21 = .ok (.ireturn, 1) := by decide +kernel
theorem dX12_house_22 : decode cX12_house 22 = .ok (.aload_n 0, 1) := by decide +kernel
theorem dX12_house_23 : decode cX12_house 23 = .ok (.iload_n 1, 1) := by decide +kernel
theorem dX12_house_24 : decode cX12_house 24 = .ok (.putfield 86, 3) := by decide +kernel
theorem dX12_house_27 : decode cX12_house 27 = .ok (.aload_n 0, 1) := by decide +kernel
theorem dX12_house_28 : decode cX12_house 28 = .ok (.iconst 0, 1) := by decide +kernel
theorem dX12_house_29 : decode cX12_house 29 = .ok (.putfield 83, 3) := by decide +kernel
theorem dX12_house_32 : decode cX12_house 32 = .ok (.aload_n 0, 1) := by decide +kernel
theorem dX12_house_33 : decode cX12_house 33 = .ok (.iconst 0, 1) := by decide +kernel
theorem dX12_house_34 : decode cX12_house 34 = .ok (.putfield 104, 3) := by decide +kernel
theorem dX12_house_37 : decode cX12_house 37 = .ok (.aload_n 0, 1) := by decide +kernel
theorem dX12_house_38 : decode cX12_house 38 = .ok (.iconst 0, 1) := by decide +kernel
theorem dX12_house_39 : decode cX12_house 39 = .ok (.putfield 129, 3) := by decide +kernel
theorem dX12_house_42 : decode cX12_house 42 = .ok (.aload_n 0, 1) := by decide +kernel
theorem dX12_house_43 : decode cX12_house 43 = .ok (.getfield 24, 3) := by decide +kernel
theorem dX12_house_46 : decode cX12_house 46 = .ok (.invokestatic 79, 3) := by decide +kernel
theorem dX12_house_49 : decode cX12_house 49 = .ok (.aload_n 0, 1) := by decide +kernel
theorem dX12_house_50 : decode cX12_house 50 = .ok (.invokevirtual 138, 3) := by decide +kernel
theorem dX12_house_53 : decode cX12_house 53 = .ok (.aload_n 0, 1) := by decide +kernel
theorem dX12_house_54 : decode cX12_house 54 = .ok (.iconst 0, 1) := by decide +kernel
theorem dX12_house_55 : decode cX12_house 55 = .ok (.invokevirtual 172, 3) := by decide +kernel
theorem dX12_house_58 : decode cX12_house 58 = .ok (.ifCond .ne 8, 3) := by decide +kernel
theorem dX12_house_61 : decode cX12_house 61 = .ok (.aload_n 0, 1) := by decide +kernel
theorem dX12_house_62 : decode cX12_house 62 = .ok (.iconst 2, 1) := by decide +kernel
theorem dX12_house_63 : decode cX12_house 63 = .ok (.invokevirtual 141, 3) := by decide +kernel
theorem dX12_house_66 : decode cX12_house 66 = .ok (.aload_n 0, 1) := by decide +kernel
theorem dX12_house_67 : decode cX12_house 67 = .ok (.iconst 1, 1) := by decide +kernel
theorem dX12_house_68 : decode cX12_house 68 = .ok (.invokevirtual 172, 3) := by decide +kernel
theorem dX12_house_71 : decode cX12_house 71 = .ok (.ifCond .ne 8, 3) := by decide +kernel
theorem dX12_house_74 : decode cX12_house 74 = .ok (.aload_n 0, 1) := by decide +kernel
theorem dX12_house_75 : decode cX12_house 75 = .ok (.iconst 2, 1) := by decide +kernel
theorem dX12_house_76 : decode cX12_house 76 = .ok (.invokevirtual 141, 3) := by decide +kernel
theorem dX12_house_79 : decode cX12_house 79 = .ok (.aload_n 0, 1) := by decide +kernel
theorem dX12_house_80 : decode cX12_house 80 = .ok (.getfield 24, 3) := by decide +kernel
theorem dX12_house_83 : decode cX12_house 83 = .ok (.iconst 1, 1) := by decide +kernel
theorem dX12_house_84 : decode cX12_house 84 = .ok (.aload_n 0, 1) := by decide +kernel
theorem dX12_house_85 : decode cX12_house 85 = .ok (.iconst 1, 1) := by decide +kernel
theorem dX12_house_86 : decode cX12_house 86 = .ok (.iconst 3, 1) := by decide +kernel
theorem dX12_house_87 : decode cX12_house 87 = .ok (.invokevirtual 190, 3) := by decide +kernel
theorem dX12_house_90 : decode cX12_house 90 = .ok (.iastore, 1) := by decide +kernel
theorem dX12_house_91 : decode cX12_house 91 = .ok (.aload_n 0, 1) := by decide +kernel
theorem dX12_house_92 : decode cX12_house 92 = .ok (.invokevirtual 208, 3) := by decide +kernel
theorem dX12_house_95 : decode cX12_house 95 = .ok (.aload_n 0, 1) := by decide +kernel
theorem dX12_house_96 : decode cX12_house 96 = .ok (.getfield 129, 3) := by decide +kernel
theorem dX12_house_99 : decode cX12_house 99 = .ok (.ifCond .ne 23, 3) := by decide +kernel
theorem dX12_house_102 : decode cX12_house 102 = .ok (.aload_n 0, 1) := by decide +kernel
theorem dX12_house_103 : decode cX12_house 103 = .ok (.getfield 111, 3) := by decide +kernel
theorem dX12_house_106 : decode cX12_house 106 = .ok (.bipush 26, 2) := by decide +kernel
theorem dX12_house_108 : decode cX12_house 108 = .ok (.if_icmp .eq 14, 3) := by decide +kernel
theorem dX12_house_111 : decode cX12_house 111 = .ok (.aload_n 0, 1) := by decide +kernel
theorem dX12_house_112 : decode cX12_house 112 = .ok (.invokevirtual 211, 3) := by decide +kernel
theorem dX12_house_115 : decode cX12_house 115 = .ok (.aload_n 0, 1) := by decide +kernel
theorem dX12_house_116 : decode cX12_house 116 = .ok (.invokevirtual 208, 3) := by decide +kernel
theorem dX12_house_119 : decode cX12_house 119 = .ok (.goto (-24), 3) := by decide +kernel
theorem dX12_house_122 : decode cX12_house 122 = .ok (.aload_n 0, 1) := by decide +kernel
theorem dX12_house_123 : decode cX12_house 123 = .ok (.aload_n 0, 1) := by decide +kernel
theorem dX12_house_124 : decode cX12_house 124 = .ok (.getfield 129, 3) := by decide +kernel
theorem dX12_house_127 : decode cX12_house 127 = .ok (.putfield 214, 3) := by decide +kernel
theorem dX12_house_130 : decode cX12_house 130 = .ok (.aload_n 0, 1) := by decide +kernel
theorem dX12_house_131 : decode cX12_house 131 = .ok (.aload_n 0, 1) := by decide +kernel
theorem dX12_house_132 : decode cX12_house 132 = .ok (.getfield 129, 3) := by decide +kernel
theorem dX12_house_135 : decode cX12_house 135 = .ok (.ifCond .ne 7, 3) := by decide +kernel
theorem dX12_house_138 : decode cX12_house 138 = .ok (.iconst (-1), 1) := by decide +kernel
theorem dX12_house_139 : decode cX12_house 139 = .ok (.goto 7, 3) := by decide +kernel
theorem dX12_house_142 : decode cX12_house 142 = .ok (.aload_n 0, 1) := by decide +kernel
theorem dX12_house_143 : decode cX12_house 143 = .ok (.getfield 132, 3) := by decide +kernel
theorem dX12_house_146 : decode cX12_house 146 = .ok (.putfield 27, 3) := by decide +kernel
theorem dX12_house_149 : decode cX12_house 149 = .ok (.aload_n 0, 1) := by decide +kernel
theorem dX12_house_150 : decode cX12_house 150 = .ok (.getfield 129, 3) := by decide +kernel
theorem dX12_house_153 : decode cX12_house 153 = .ok (.ifCond .eq 11, 3) := by decide +kernel
theorem dX12_house_156 : decode cX12_house 156 = .ok (.bipush (-30), 2) := by decide +kernel
theorem dX12_house_158 : decode cX12_house 158 = .ok (.aload_n 0, 1) := by decide +kernel
theorem dX12_house_159 : decode cX12_house 159 = .ok (.getfield 129, 3) := by decide +kernel
theorem dX12_house_162 : decode cX12_house 162 = .ok (.isub, 1) := by decide +kernel
theorem dX12_house_163 : decode cX12_house 163 = .ok (.ireturn, 1) := by decide +kernel
theorem dX12_house_164 : decode cX12_house 164 = .ok (.iconst 0, 1) := by decide +kernel
theorem dX12_house_165 : decode cX12_house 165 = .ok (.istore_n 2, 1) := by decide +kernel
theorem dX12_house_166 : decode cX12_house 166 = .ok (.iload_n 2, 1) := by decide +kernel
theorem dX12_house_167 : decode cX12_house 167 = .ok (.sipush 1306, 3) := by decide +kernel
theorem dX12_house_170 : decode cX12_house 170 = .ok (.if_icmp .ge 21, 3) := by decide +kernel
theorem dX12_house_173 : decode cX12_house 173 = .ok (.aload_n 0, 1) := by decide +kernel
theorem dX12_house_174 : decode cX12_house 174 = .ok (.getfield 13, 3) := by decide +kernel
theorem dX12_house_177 : decode cX12_house 177 = .ok (.iload_n 2, 1) := by decide +kernel
theorem dX12_house_178 : decode cX12_house 178 = .ok (.aload_n 0, 1) := by decide +kernel
theorem dX12_house_179 : decode cX12_house 179 = .ok (.getfield 24, 3) := by decide +kernel
theorem dX12_house_182 : decode cX12_house 182 = .ok (.iload_n 2, 1) := by decide +kernel
theorem dX12_house_183 : decode cX12_house 183 = .ok (.iaload, 1) := by decide +kernel
theorem dX12_house_184 : decode cX12_house 184 = .ok (.iastore, 1) := by decide +kernel
theorem dX12_house_185 : decode cX12_house 185 = .ok (.iinc 2 1, 3) := by decide +kernel
theorem dX12_house_188 : decode cX12_house 188 = .ok (.goto (-22), 3) := by decide +kernel
theorem dX12_house_191 : decode cX12_house 191 = .ok (.aload_n 0, 1) := by decide +kernel
theorem dX12_house_192 : decode cX12_house 192 = .ok (.getfield 13, 3) := by decide +kernel
theorem dX12_house_195 : decode cX12_house 195 = .ok (.iconst 0, 1) := by decide +kernel
theorem dX12_house_196 : decode cX12_house 196 = .ok (.iaload, 1) := by decide +kernel
theorem dX12_house_197 : decode cX12_house 197 = .ok (.ireturn, 1) := by decide +kernel
theorem dX12_isIn_0 : decode cX12_isIn 0 = .ok (.lload_n 0, 1) := by decide +kernel
theorem dX12_isIn_1 : decode cX12_isIn 1 = .ok (.iload_n 2, 1) := by decide +kernel
theorem dX12_isIn_2 : decode cX12_isIn 2 = .ok (.lshr, 1) := by decide +kernel
theorem dX12_isIn_3 : decode cX12_isIn 3 = .ok (.lconst 1, 1) := by decide +kernel
theorem dX12_isIn_4 : decode cX12_isIn 4 = .ok (.land, 1) := by decide +kernel
theorem dX12_isIn_5 : decode cX12_isIn 5 = .ok (.lconst 1, 1) := by decide +kernel
theorem dX12_isIn_6 : decode cX12_isIn 6 = .ok (.lcmp, 1) := by decide +kernel
theorem dX12_isIn_7 : decode cX12_isIn 7 = .ok (.ifCond .ne 7, 3) := by decide +kernel
theorem dX12_isIn_10 : decode cX12_isIn 10 = .ok (.iconst 1, 1) := by decide +kernel
theorem dX12_isIn_11 : decode cX12_isIn 11 = .ok (.goto 4, 3) := by decide +kernel
theorem dX12_isIn_14 : decode cX12_isIn 14 = .ok (.iconst 0, 1) := by decide +kernel
theorem dX12_isIn_15 : decode cX12_isIn 15 = .ok (.ireturn, 1) := by decide +kernel
theorem dX12_isPerson_0 : decode cX12_isPerson 0 = .ok (.lload_n 1, 1) := by decide +kernel
theorem dX12_isPerson_1 : decode cX12_isPerson 1 = .ok (.lconst 0, 1) := by decide +kernel
theorem dX12_isPerson_2 : decode cX12_isPerson 2 = .ok (.aload_n 0, 1) := by decide +kernel
theorem dX12_isPerson_3 : decode cX12_isPerson 3 = .ok (.getfield 13, 3) := by decide +kernel
theorem dX12_isPerson_6 : decode cX12_isPerson 6 = .ok (.iconst 2, 1) := by decide +kernel
theorem dX12_isPerson_7 : decode cX12_isPerson 7 = .ok (.iaload, 1) := by decide +kernel
theorem dX12_isPerson_8 : decode cX12_isPerson 8 = .ok (.iconst 1, 1) := by decide +kernel
theorem dX12_isPerson_9 : decode cX12_isPerson 9 = .ok (.isub, 1) := by decide +kernel
theorem dX12_isPerson_10 : decode cX12_isPerson 10 = .ok (.i2l, 1) := by decide +kernel
theorem dX12_isPerson_11 : decode cX12_isPerson 11 = .ok (.invokestatic 145, 3) := by decide +kernel
theorem dX12_isPerson_14 : decode cX12_isPerson 14 = .ok (.ireturn, 1) := by decide +kernel
theorem dX12_person_0 : decode cX12_person 0 = .ok (.aload_n 0, 1) := by decide +kernel
theorem dX12_person_1 : decode cX12_person 1 = .ok (.iconst 0, 1) := by decide +kernel
theorem dX12_person_2 : decode cX12_person 2 = .ok (.putfield 1, 3) := by decide +kernel
theorem dX12_person_5 : decode cX12_person 5 = .ok (.aload_n 0, 1) := by decide +kernel
theorem dX12_person_6 : decode cX12_person 6 = .ok (.iload_n 1, 1) := by decide +kernel
theorem dX12_person_7 : decode cX12_person 7 = .ok (.i2l, 1) := by decide +kernel
theorem dX12_person_8 : decode cX12_person 8 = .ok (.invokevirtual 245, 3) := by decide +kernel
theorem dX12_person_11 : decode cX12_person 11 = .ok (.ifCond .ne 6, 3) := by decide +kernel
theorem dX12_person_14 : decode cX12_person 14 = .ok (.bipush (-2), 2) := by decide +kernel
theorem dX12_person_16 : decode cX12_person 16 = .ok (.ireturn, 1) := by decide +kernel
theorem dX12_person_17 : decode cX12_person 17 = .ok (.iload_n 2, 1) := by decide +kernel
theorem dX12_person_18 : decode cX12_person 18 = .ok (.i2l, 1) := by decide +kernel
theorem dX12_person_19 : decode cX12_person 19 = .ok (.lconst 0, 1) := by decide +kernel
theorem dX12_person_20 : decode cX12_person 20 = .ok (.ldc2_w 249, 3) := by decide +kernel
theorem dX12_person_23 : decode cX12_person 23 = .ok (.invokestatic 145, 3) := by decide +kernel
theorem dX12_person_26 : decode cX12_person 26 = .ok (.ifCond .eq 17, 3) := by decide +kernel
theorem dX12_person_29 : decode cX12_person 29 = .ok (.aload_n 0, 1) := by decide +kernel
theorem dX12_person_30 : decode cX12_person 30 = .ok (.getfield 13, 3) := by decide +kernel
theorem dX12_person_33 : decode cX12_person 33 = .ok (.bipush 54, 2) := by decide +kernel
theorem dX12_person_35 : decode cX12_person 35 = .ok (.iconst 3, 1) := by decide +kernel
theorem dX12_person_36 : decode cX12_person 36 = .ok (.iload_n 1, 1) := by decide +kernel
theorem dX12_person_37 : decode cX12_person 37 = .ok (.imul, 1) := by decide +kernel
theorem dX12_person_38 : decode cX12_person 38 = .ok (.iadd, 1) := by decide +kernel
theorem dX12_person_39 : decode cX12_person 39 = .ok (.iload_n 2, 1) := by decide +kernel
theorem dX12_person_40 : decode cX12_person 40 = .ok (.iadd, 1) := by decide +kernel
theorem dX12_person_41 : decode cX12_person 41 = .ok (.iaload, 1) := by decide +kernel
theorem dX12_person_42 : decode cX12_person 42 = .ok (.ireturn, 1) := by decide +kernel
theorem dX12_person_43 : decode cX12_person 43 = .ok (.iload_n 2, 1) := by decide +kernel
theorem dX12_person_44 : decode cX12_person 44 = .ok (.tableswitch 139 3 8 #[40, 50, 80, 90, 100, 121], 40) := by decide +kernel
theorem dX12_person_84 : decode cX12_person 84 = .ok (.aload_n 0, 1) := by decide +kernel
theorem dX12_person_85 : decode cX12_person 85 = .ok (.getfield 13, 3) := by decide +kernel
theorem dX12_person_88 : decode cX12_person 88 = .ok (.bipush 12, 2) := by decide +kernel
theorem dX12_person_90 : decode cX12_person 90 = .ok (.iload_n 1, 1) := by decide +kernel
theorem dX12_person_91 : decode cX12_person 91 = .ok (.iadd, 1) := by decide +kernel
theorem dX12_person_92 : decode cX12_person 92 = .ok (.iaload, 1) := by decide +kernel
theorem dX12_person_93 : decode cX12_person 93 = .ok (.ireturn, 1) := by decide +kernel
theorem dX12_person_94 : decode cX12_person 94 = .ok (.aload_n 0, 1) := by decide +kernel
theorem dX12_person_95 : decode cX12_person 95 = .ok (.getfield 13, 3) := by decide +kernel
theorem dX12_person_98 : decode cX12_person 98 = .ok (.bipush 22, 2) := by decide +kernel
theorem dX12_person_100 : decode cX12_person 100 = .ok (.iload_n 1, 1) := by decide +kernel
theorem dX12_person_101 : decode cX12_person 101 = .ok (.iadd, 1) := by decide +kernel
theorem dX12_person_102 : decode cX12_person 102 = .ok (.iaload, 1) := by decide +kernel
theorem dX12_person_103 : decode cX12_person 103 = .ok (.ldc 194, 2) := by decide +kernel
theorem dX12_person_105 : decode cX12_person 105 = .ok (.if_icmp .ne 9, 3) := by decide +kernel
theorem dX12_person_108 : decode cX12_person 108 = .ok (.sipush 999, 3) := by decide +kernel
theorem dX12_person_111 : decode cX12_person 111 = .ok (.goto 12, 3) := by decide +kernel
theorem dX12_person_114 : decode cX12_person 114 = .ok (.aload_n 0, 1) := by decide +kernel
theorem dX12_person_115 : decode cX12_person 115 = .ok (.getfield 13, 3) := by decide +kernel
theorem dX12_person_118 : decode cX12_person 118 = .ok (.bipush 22, 2) := by decide +kernel
theorem dX12_person_120 : decode cX12_person 120 = .ok (.iload_n 1, 1) := by decide +kernel
theorem dX12_person_121 : decode cX12_person 121 = .ok (.iadd, 1) := by decide +kernel
theorem dX12_person_122 : decode cX12_person 122 = .ok (.iaload, 1) := by decide +kernel
theorem dX12_person_123 : decode cX12_person 123 = .ok (.ireturn, 1) := by decide +kernel
theorem dX12_person_124 : decode cX12_person 124 = .ok (.aload_n 0, 1) := by decide +kernel
theorem dX12_person_125 : decode cX12_person 125 = .ok (.getfield 13, 3) := by decide +kernel
theorem dX12_person_128 : decode cX12_person 128 = .ok (.bipush 32, 2) := by decide +kernel
theorem dX12_person_130 : decode cX12_person 130 = .ok (.iload_n 1, 1) := by decide +kernel
theorem dX12_person_131 : decode cX12_person 131 = .ok (.iadd, 1) := by decide +kernel
theorem dX12_person_132 : decode cX12_person 132 = .ok (.iaload, 1) := by decide +kernel
theorem dX12_person_133 : decode cX12_person 133 = .ok (.ireturn, 1) := by decide +kernel
theorem dX12_person_134 : decode cX12_person 134 = .ok (.aload_n 0, 1) := by decide +kernel
theorem dX12_person_135 : decode cX12_person 135 = .ok (.getfield 13, 3) := by decide +kernel
theorem dX12_person_138 : decode cX12_person 138 = .ok (.bipush 42, 2) := by decide +kernel
theorem dX12_person_140 : decode cX12_person 140 = .ok (.iload_n 1, 1) := by decide +kernel
theorem dX12_person_141 : decode cX12_person 141 = .ok (.iadd, 1) := by decide +kernel
theorem dX12_person_142 : decode cX12_person 142 = .ok (.iaload, 1) := by decide +kernel
theorem dX12_person_143 : decode cX12_person 143 = .ok (.ireturn, 1) := by decide +kernel
theorem dX12_person_144 : decode cX12_person 144 = .ok (.aload_n 0, 1) := by decide +kernel
theorem dX12_person_145 : decode cX12_person 145 = .ok (.getfield 13, 3) := by decide +kernel
theorem dX12_person_148 : decode cX12_person 148 = .ok (.bipush 53, 2) := by decide +kernel
theorem dX12_person_150 : decode cX12_person 150 = .ok (.iaload, 1) := by decide +kernel
theorem dX12_person_151 : decode cX12_person 151 = .ok (.i2l, 1) := by decide +kernel
theorem dX12_person_152 : decode cX12_person 152 = .ok (.iload_n 1, 1) := by decide +kernel
theorem dX12_person_153 : decode cX12_person 153 = .ok (.invokestatic 251, 3) := by decide +kernel
theorem dX12_person_156 : decode cX12_person 156 = .ok (.ifCond .eq 7, 3) := by decide +kernel
theorem dX12_person_159 : decode cX12_person 159 = .ok (.iconst 1, 1) := by decide +kernel
theorem dX12_person_160 : decode cX12_person 160 = .ok (.goto 4, 3) := by decide +kernel
theorem dX12_person_163 : decode cX12_person 163 = .ok (.iconst 0, 1) := by decide +kernel
theorem dX12_person_164 : decode cX12_person 164 = .ok (.ireturn, 1) := by decide +kernel
theorem dX12_person_165 : decode cX12_person 165 = .ok (.aload_n 0, 1) := by decide +kernel
theorem dX12_person_166 : decode cX12_person 166 = .ok (.invokevirtual 255, 3) := by decide +kernel
theorem dX12_person_169 : decode cX12_person 169 = .ok (.i2l, 1) := by decide +kernel
theorem dX12_person_170 : decode cX12_person 170 = .ok (.iload_n 1, 1) := by decide +kernel
theorem dX12_person_171 : decode cX12_person 171 = .ok (.invokestatic 251, 3) := by decide +kernel
theorem dX12_person_174 : decode cX12_person 174 = .ok (.ifCond .eq 7, 3) := by decide +kernel
theorem dX12_person_177 : decode cX12_person 177 = .ok (.iconst 1, 1) := by decide +kernel
theorem dX12_person_178 : decode cX12_person 178 = .ok (.goto 4, 3) := by decide +kernel
theorem dX12_person_181 : decode cX12_person 181 = .ok (.iconst 0, 1) := by decide +kernel
theorem dX12_person_182 : decode cX12_person 182 = .ok (.ireturn, 1) := by decide +kernel
theorem dX12_person_183 : decode cX12_person 183 = .ok (.bipush (-2), 2) := by decide +kernel
theorem dX12_person_185 : decode cX12_person 185 = .ok (.ireturn, 1) := by decide +kernel
theorem dX12_readFlag_0 : decode cX12_readFlag 0 = .ok (.aload_n 0, 1) := by decide +kernel
theorem dX12_readFlag_1 : decode cX12_readFlag 1 = .ok (.iconst 3, 1) := by decide +kernel
theorem dX12_readFlag_2 : decode cX12_readFlag 2 = .ok (.invokevirtual 172, 3) := by decide +kernel
theorem dX12_readFlag_5 : decode cX12_readFlag 5 = .ok (.ifCond .eq 57, 3) := by decide +kernel
theorem dX12_readFlag_8 : decode cX12_readFlag 8 = .ok (.aload_n 0, 1) := by decide +kernel
theorem dX12_readFlag_9 : decode cX12_readFlag 9 = .ok (.iconst 0, 1) := by decide +kernel
theorem dX12_readFlag_10 : decode cX12_readFlag 10 = .ok (.sipush 999, 3) := by decide +kernel
theorem dX12_readFlag_13 : decode cX12_readFlag 13 = .ok (.invokevirtual 190, 3) := by decide +kernel
theorem dX12_readFlag_16 : decode cX12_readFlag 16 = .ok (.istore_n 2, 1) := by decide +kernel
theorem dX12_readFlag_17 : decode cX12_readFlag 17 = .ok (.aload_n 0, 1) := by decide +kernel
theorem dX12_readFlag_18 : decode cX12_readFlag 18 = .ok (.iconst 4, 1) := by decide +kernel
theorem dX12_readFlag_19 : decode cX12_readFlag 19 = .ok (.invokevirtual 172, 3) := by decide +kernel
theorem dX12_readFlag_22 : decode cX12_readFlag 22 = .ok (.ifCond .ne 8, 3) := by decide +kernel
theorem dX12_readFlag_25 : decode cX12_readFlag 25 = .ok (.aload_n 0, 1) := by decide +kernel
theorem dX12_readFlag_26 : decode cX12_readFlag 26 = .ok (.iconst 2, 1) := by decide +kernel
theorem dX12_readFlag_27 : decode cX12_readFlag 27 = .ok (.invokevirtual 141, 3) := by decide +kernel
theorem dX12_readFlag_30 : decode cX12_readFlag 30 = .ok (.aload_n 0, 1) := by decide +kernel
theorem dX12_readFlag_31 : decode cX12_readFlag 31 = .ok (.iload_n 2, 1) := by decide +kernel
theorem dX12_readFlag_32 : decode cX12_readFlag 32 = .ok (.sipush 999, 3) := by decide +kernel
theorem dX12_readFlag_35 : decode cX12_readFlag 35 = .ok (.invokevirtual 190, 3) := by decide +kernel
theorem dX12_readFlag_38 : decode cX12_readFlag 38 = .ok (.istore_n 3, 1) := by decide +kernel
theorem dX12_readFlag_39 : decode cX12_readFlag 39 = .ok (.aload_n 0, 1) := by decide +kernel
theorem dX12_readFlag_40 : decode cX12_readFlag 40 = .ok (.getfield 24, 3) := by decide +kernel
theorem dX12_readFlag_43 : decode cX12_readFlag 43 = .ok (.bipush 12, 2) := by decide +kernel
theorem dX12_readFlag_45 : decode cX12_readFlag 45 = .ok (.iload_n 1, 1) := by decide +kernel
theorem dX12_readFlag_46 : decode cX12_readFlag 46 = .ok (.iadd, 1) := by decide +kernel
theorem dX12_readFlag_47 : decode cX12_readFlag 47 = .ok (.iload_n 2, 1) := by decide +kernel
theorem dX12_readFlag_48 : decode cX12_readFlag 48 = .ok (.iastore, 1) := by decide +kernel
theorem dX12_readFlag_49 : decode cX12_readFlag 49 = .ok (.aload_n 0, 1) := by decide +kernel
theorem dX12_readFlag_50 : decode cX12_readFlag 50 = .ok (.getfield 24, 3) := by decide +kernel
theorem dX12_readFlag_53 : decode cX12_readFlag 53 = .ok (.bipush 22, 2) := by decide +kernel
theorem dX12_readFlag_55 : decode cX12_readFlag 55 = .ok (.iload_n 1, 1) := by decide +kernel
theorem dX12_readFlag_56 : decode cX12_readFlag 56 = .ok (.iadd, 1) := by decide +kernel
theorem dX12_readFlag_57 : decode cX12_readFlag 57 = .ok (.iload_n 3, 1) := by decide +kernel
theorem dX12_readFlag_58 : decode cX12_readFlag 58 = .ok (.iastore, 1) := by decide +kernel
theorem dX12_readFlag_59 : decode cX12_readFlag 59 = .ok (.goto 60, 3) := by decide +kernel
theorem dX12_readFlag_62 : decode cX12_readFlag 62 = .ok (.aload_n 0, 1) := by decide +kernel
theorem dX12_readFlag_63 : decode cX12_readFlag 63 = .ok (.iconst 5, 1) := by decide +kernel
theorem dX12_readFlag_64 : decode cX12_readFlag 64 = .ok (.invokevirtual 172, 3) := by decide +kernel
theorem dX12_readFlag_67 : decode cX12_readFlag 67 = .ok (.ifCond .eq 22, 3) := by decide +kernel
theorem dX12_readFlag_70 : decode cX12_readFlag 70 = .ok (.aload_n 0, 1) := by decide +kernel
theorem dX12_readFlag_71 : decode cX12_readFlag 71 = .ok (.getfield 24, 3) := by decide +kernel
theorem dX12_readFlag_74 : decode cX12_readFlag 74 = .ok (.bipush 32, 2) := by decide +kernel
theorem dX12_readFlag_76 : decode cX12_readFlag 76 = .ok (.iload_n 1, 1) := by decide +kernel
theorem dX12_readFlag_77 : decode cX12_readFlag 77 = .ok (.iadd, 1) := by decide +kernel
theorem dX12_readFlag_78 : decode cX12_readFlag 78 = .ok (.aload_n 0, 1) := by decide +kernel
theorem dX12_readFlag_79 : decode cX12_readFlag 79 = .ok (.iconst 0, 1) := by decide +kernel
theorem dX12_readFlag_80 : decode cX12_readFlag 80 = .ok (.bipush 10, 2) := by decide +kernel
theorem dX12_readFlag_82 : decode cX12_readFlag 82 = .ok (.invokevirtual 190, 3) := by decide +kernel
theorem dX12_readFlag_85 : decode cX12_readFlag 85 = .ok (.iastore, 1) := by decide +kernel
theorem dX12_readFlag_86 : decode cX12_readFlag 86 = .ok (.goto 33, 3) := by decide +kernel
theorem dX12_readFlag_89 : decode cX12_readFlag 89 = .ok (.aload_n 0, 1) := by decide +kernel
theorem dX12_readFlag_90 : decode cX12_readFlag 90 = .ok (.bipush 6, 2) := by decide +kernel
theorem dX12_readFlag_92 : decode cX12_readFlag 92 = .ok (.invokevirtual 172, 3) := by decide +kernel
theorem dX12_readFlag_95 : decode cX12_readFlag 95 = .ok (.ifCond .eq 22, 3) := by decide +kernel
theorem dX12_readFlag_98 : decode cX12_readFlag 98 = .ok (.aload_n 0, 1) := by decide +kernel
theorem dX12_readFlag_99 : decode cX12_readFlag 99 = .ok (.getfield 24, 3) := by decide +kernel
theorem dX12_readFlag_102 : decode cX12_readFlag 102 = .ok (.bipush 42, 2) := by decide +kernel
theorem dX12_readFlag_104 : decode cX12_readFlag 104 = .ok (.iload_n 1, 1) := by decide +kernel
theorem dX12_readFlag_105 : decode cX12_readFlag 105 = .ok (.iadd, 1) := by decide +kernel
theorem dX12_readFlag_106 : decode cX12_readFlag 106 = .ok (.aload_n 0, 1) := by decide +kernel
theorem dX12_readFlag_107 : decode cX12_readFlag 107 = .ok (.iconst 1, 1) := by decide +kernel
theorem dX12_readFlag_108 : decode cX12_readFlag 108 = .ok (.bipush 99, 2) := by decide +kernel
theorem dX12_readFlag_110 : decode cX12_readFlag 110 = .ok (.invokevirtual 190, 3) := by decide +kernel
theorem dX12_readFlag_113 : decode cX12_readFlag 113 = .ok (.iastore, 1) := by decide +kernel
theorem dX12_readFlag_114 : decode cX12_readFlag 114 = .ok (.goto 5, 3) := by decide +kernel
theorem dX12_readFlag_117 : decode cX12_readFlag 117 = .ok (.iconst 0, 1) := by decide +kernel
theorem dX12_readFlag_118 : decode cX12_readFlag 118 = .ok (.ireturn, 1) := by decide +kernel
theorem dX12_readFlag_119 : decode cX12_readFlag 119 = .ok (.aload_n 0, 1) := by decide +kernel
theorem dX12_readFlag_120 : decode cX12_readFlag 120 = .ok (.getfield 129, 3) := by decide +kernel
theorem dX12_readFlag_123 : decode cX12_readFlag 123 = .ok (.ifCond .ne 7, 3) := by decide +kernel
theorem dX12_readFlag_126 : decode cX12_readFlag 126 = .ok (.iconst 1, 1) := by decide +kernel
theorem dX12_readFlag_127 : decode cX12_readFlag 127 = .ok (.goto 4, 3) := by decide +kernel
theorem dX12_readFlag_130 : decode cX12_readFlag 130 = .ok (.iconst 0, 1) := by decide +kernel
theorem dX12_readFlag_131 : decode cX12_readFlag 131 = .ok (.ireturn, 1) := by decide +kernel
theorem dX12_readLaw_0 : decode cX12_readLaw 0 = .ok (.aload_n 0, 1) := by decide +kernel
theorem dX12_readLaw_1 : decode cX12_readLaw 1 = .ok (.invokevirtual 138, 3) := by decide +kernel
theorem dX12_readLaw_4 : decode cX12_readLaw 4 = .ok (.aload_n 0, 1) := by decide +kernel
theorem dX12_readLaw_5 : decode cX12_readLaw 5 = .ok (.bipush 31, 2) := by decide +kernel
theorem dX12_readLaw_7 : decode cX12_readLaw 7 = .ok (.invokevirtual 172, 3) := by decide +kernel
theorem dX12_readLaw_10 : decode cX12_readLaw 10 = .ok (.ifCond .ne 8, 3) := by decide +kernel
theorem dX12_readLaw_13 : decode cX12_readLaw 13 = .ok (.aload_n 0, 1) := by decide +kernel
theorem dX12_readLaw_14 : decode cX12_readLaw 14 = .ok (.iconst 2, 1) := by decide +kernel
theorem dX12_readLaw_15 : decode cX12_readLaw 15 = .ok (.invokevirtual 141, 3) := by decide +kernel
theorem dX12_readLaw_18 : decode cX12_readLaw 18 = .ok (.aload_n 0, 1) := by decide +kernel
theorem dX12_readLaw_19 : decode cX12_readLaw 19 = .ok (.getfield 24, 3) := by decide +kernel
theorem dX12_readLaw_22 : decode cX12_readLaw 22 = .ok (.sipush 405, 3) := by decide +kernel
theorem dX12_readLaw_25 : decode cX12_readLaw 25 = .ok (.iaload, 1) := by decide +kernel
theorem dX12_readLaw_26 : decode cX12_readLaw 26 = .ok (.istore_n 2, 1) := by decide +kernel
theorem dX12_readLaw_27 : decode cX12_readLaw 27 = .ok (.aload_n 0, 1) := by decide +kernel
theorem dX12_readLaw_28 : decode cX12_readLaw 28 = .ok (.iload_n 1, 1) := by decide +kernel
theorem dX12_readLaw_29 : decode cX12_readLaw 29 = .ok (.putfield 157, 3) := by decide +kernel
theorem dX12_readLaw_32 : decode cX12_readLaw 32 = .ok (.iload_n 1, 1) := by decide +kernel
theorem dX12_readLaw_33 : decode cX12_readLaw 33 = .ok (.iconst 2, 1) := by decide +kernel
theorem dX12_readLaw_34 : decode cX12_readLaw 34 = .ok (.if_icmp .ne 11, 3) := by decide +kernel
theorem dX12_readLaw_37 : decode cX12_readLaw 37 = .ok (.aload_n 0, 1) := by decide +kernel
theorem dX12_readLaw_38 : decode cX12_readLaw 38 = .ok (.iconst 0, 1) := by decide +kernel
theorem dX12_readLaw_39 : decode cX12_readLaw 39 = .ok (.invokevirtual 169, 3) := by decide +kernel
theorem dX12_readLaw_42 : decode cX12_readLaw 42 = .ok (.goto 8, 3) := by decide +kernel
theorem dX12_readLaw_45 : decode cX12_readLaw 45 = .ok (.aload_n 0, 1) := by decide +kernel
theorem dX12_readLaw_46 : decode cX12_readLaw 46 = .ok (.iconst 0, 1) := by decide +kernel
theorem dX12_readLaw_47 : decode cX12_readLaw 47 = .ok (.invokevirtual 184, 3) := by decide +kernel
theorem dX12_readLaw_50 : decode cX12_readLaw 50 = .ok (.aload_n 0, 1) := by decide +kernel
theorem dX12_readLaw_51 : decode cX12_readLaw 51 = .ok (.getfield 129, 3) := by decide +kernel
theorem dX12_readLaw_54 : decode cX12_readLaw 54 = .ok (.ifCond .eq 4, 3) := by decide +kernel
theorem dX12_readLaw_57 : decode cX12_readLaw 57 = .ok (.return_, 1) := by decide +kernel
theorem dX12_readLaw_58 : decode cX12_readLaw 58 = .ok (.aload_n 0, 1) := by decide +kernel
theorem dX12_readLaw_59 : decode cX12_readLaw 59 = .ok (.getfield 24, 3) := by decide +kernel
theorem dX12_readLaw_62 : decode cX12_readLaw 62 = .ok (.iconst 3, 1) := by decide +kernel
theorem dX12_readLaw_63 : decode cX12_readLaw 63 = .ok (.iload_n 1, 1) := by decide +kernel
theorem dX12_readLaw_64 : decode cX12_readLaw 64 = .ok (.iadd, 1) := by decide +kernel
theorem dX12_readLaw_65 : decode cX12_readLaw 65 = .ok (.iconst 1, 1) := by decide +kernel
theorem dX12_readLaw_66 : decode cX12_readLaw 66 = .ok (.iastore, 1) := by decide +kernel
theorem dX12_readLaw_67 : decode cX12_readLaw 67 = .ok (.aload_n 0, 1) := by decide +kernel
theorem dX12_readLaw_68 : decode cX12_readLaw 68 = .ok (.getfield 24, 3) := by decide +kernel
theorem dX12_readLaw_71 : decode cX12_readLaw 71 = .ok (.bipush 6, 2) := by decide +kernel
theorem dX12_readLaw_73 : decode cX12_readLaw 73 = .ok (.iload_n 1, 1) := by decide +kernel
theorem dX12_readLaw_74 : decode cX12_readLaw 74 = .ok (.iadd, 1) := by decide +kernel
theorem dX12_readLaw_75 : decode cX12_readLaw 75 = .ok (.iload_n 2, 1) := by decide +kernel
theorem dX12_readLaw_76 : decode cX12_readLaw 76 = .ok (.iastore, 1) := by decide +kernel
theorem dX12_readLaw_77 : decode cX12_readLaw 77 = .ok (.aload_n 0, 1) := by decide +kernel
theorem dX12_readLaw_78 : decode cX12_readLaw 78 = .ok (.getfield 24, 3) := by decide +kernel
theorem dX12_readLaw_81 : decode cX12_readLaw 81 = .ok (.bipush 9, 2) := by decide +kernel
theorem dX12_readLaw_83 : decode cX12_readLaw 83 = .ok (.iload_n 1, 1) := by decide +kernel
theorem dX12_readLaw_84 : decode cX12_readLaw 84 = .ok (.iadd, 1) := by decide +kernel
theorem dX12_readLaw_85 : decode cX12_readLaw 85 = .ok (.aload_n 0, 1) := by decide +kernel
theorem dX12_readLaw_86 : decode cX12_readLaw 86 = .ok (.getfield 24, 3) := by decide +kernel
theorem dX12_readLaw_89 : decode cX12_readLaw 89 = .ok (.sipush 405, 3) := by decide +kernel
theorem dX12_readLaw_92 : decode cX12_readLaw 92 = .ok (.iaload, 1) := by decide +kernel
theorem dX12_readLaw_93 : decode cX12_readLaw 93 = .ok (.iload_n 2, 1) := by decide +kernel
theorem dX12_readLaw_94 : decode cX12_readLaw 94 = .ok (.isub, 1) := by decide +kernel
theorem dX12_readLaw_95 : decode cX12_readLaw 95 = .ok (.iastore, 1) := by decide +kernel
theorem dX12_readLaw_96 : decode cX12_readLaw 96 = .ok (.return_, 1) := by decide +kernel
theorem dX12_readLine_0 : decode cX12_readLine 0 = .ok (.aload_n 0, 1) := by decide +kernel
theorem dX12_readLine_1 : decode cX12_readLine 1 = .ok (.getfield 129, 3) := by decide +kernel
theorem dX12_readLine_4 : decode cX12_readLine 4 = .ok (.ifCond .eq 4, 3) := by decide +kernel
theorem dX12_readLine_7 : decode cX12_readLine 7 = .ok (.return_, 1) := by decide +kernel
theorem dX12_readLine_8 : decode cX12_readLine 8 = .ok (.aload_n 0, 1) := by decide +kernel
theorem dX12_readLine_9 : decode cX12_readLine 9 = .ok (.iconst 2, 1) := by decide +kernel
theorem dX12_readLine_10 : decode cX12_readLine 10 = .ok (.invokevirtual 135, 3) := by decide +kernel
theorem dX12_readLine_13 : decode cX12_readLine 13 = .ok (.ifCond .eq 10, 3) := by decide +kernel
theorem dX12_readLine_16 : decode cX12_readLine 16 = .ok (.aload_n 0, 1) := by decide +kernel
theorem dX12_readLine_17 : decode cX12_readLine 17 = .ok (.invokevirtual 198, 3) := by decide +kernel
theorem dX12_readLine_20 : decode cX12_readLine 20 = .ok (.goto 66, 3) := by decide +kernel
theorem dX12_readLine_23 : decode cX12_readLine 23 = .ok (.aload_n 0, 1) := by decide +kernel
theorem dX12_readLine_24 : decode cX12_readLine 24 = .ok (.getfield 111, 3) := by decide +kernel
theorem dX12_readLine_27 : decode cX12_readLine 27 = .ok (.i2l, 1) := by decide +kernel
theorem dX12_readLine_28 : decode cX12_readLine 28 = .ok (.ldc2_w 201, 3) := by decide +kernel
theorem dX12_readLine_31 : decode cX12_readLine 31 = .ok (.ldc2_w 203, 3) := by decide +kernel
theorem dX12_readLine_34 : decode cX12_readLine 34 = .ok (.invokestatic 145, 3) := by decide +kernel
theorem dX12_readLine_37 : decode cX12_readLine 37 = .ok (.ifCond .eq 17, 3) := by decide +kernel
theorem dX12_readLine_40 : decode cX12_readLine 40 = .ok (.aload_n 0, 1) := by decide +kernel
theorem dX12_readLine_41 : decode cX12_readLine 41 = .ok (.aload_n 0, 1) := by decide +kernel
theorem dX12_readLine_42 : decode cX12_readLine 42 = .ok (.getfield 111, 3) := by decide +kernel
theorem dX12_readLine_45 : decode cX12_readLine 45 = .ok (.bipush 7, 2) := by decide +kernel
theorem dX12_readLine_47 : decode cX12_readLine 47 = .ok (.isub, 1) := by decide +kernel
theorem dX12_readLine_48 : decode cX12_readLine 48 = .ok (.invokevirtual 205, 3) := by decide +kernel
theorem dX12_readLine_51 : decode cX12_readLine 51 = .ok (.goto 35, 3) := by decide +kernel
theorem dX12_readLine_54 : decode cX12_readLine 54 = .ok (.aload_n 0, 1) := by decide +kernel
theorem dX12_readLine_55 : decode cX12_readLine 55 = .ok (.bipush 10, 2) := by decide +kernel
theorem dX12_readLine_57 : decode cX12_readLine 57 = .ok (.invokevirtual 172, 3) := by decide +kernel
theorem dX12_readLine_60 : decode cX12_readLine 60 = .ok (.ifCond .eq 21, 3) := by decide +kernel
theorem dX12_readLine_63 : decode cX12_readLine 63 = .ok (.aload_n 0, 1) := by decide +kernel
theorem dX12_readLine_64 : decode cX12_readLine 64 = .ok (.getfield 24, 3) := by decide +kernel
theorem dX12_readLine_67 : decode cX12_readLine 67 = .ok (.bipush 52, 2) := by decide +kernel
theorem dX12_readLine_69 : decode cX12_readLine 69 = .ok (.aload_n 0, 1) := by decide +kernel
theorem dX12_readLine_70 : decode cX12_readLine 70 = .ok (.iconst 0, 1) := by decide +kernel
theorem dX12_readLine_71 : decode cX12_readLine 71 = .ok (.sipush 999, 3) := by decide +kernel
theorem dX12_readLine_74 : decode cX12_readLine 74 = .ok (.invokevirtual 190, 3) := by decide +kernel
theorem dX12_readLine_77 : decode cX12_readLine 77 = .ok (.iastore, 1) := by decide +kernel
theorem dX12_readLine_78 : decode cX12_readLine 78 = .ok (.goto 8, 3) := by decide +kernel
theorem dX12_readLine_81 : decode cX12_readLine 81 = .ok (.aload_n 0, 1) := by decide +kernel
theorem dX12_readLine_82 : decode cX12_readLine 82 = .ok (.iconst 2, 1) := by decide +kernel
theorem dX12_readLine_83 : decode cX12_readLine 83 = .ok (.invokevirtual 141, 3) := by decide +kernel
theorem dX12_readLine_86 : decode cX12_readLine 86 = .ok (.return_, 1) := by decide +kernel
theorem dX12_readPerson_0 : decode cX12_readPerson 0 = .ok (.aload_n 0, 1) := by decide +kernel
theorem dX12_readPerson_1 : decode cX12_readPerson 1 = .ok (.getfield 24, 3) := by decide +kernel
theorem dX12_readPerson_4 : decode cX12_readPerson 4 = .ok (.iconst 2, 1) := by decide +kernel
theorem dX12_readPerson_5 : decode cX12_readPerson 5 = .ok (.iaload, 1) := by decide +kernel
theorem dX12_readPerson_6 : decode cX12_readPerson 6 = .ok (.istore_n 1, 1) := by decide +kernel
theorem dX12_readPerson_7 : decode cX12_readPerson 7 = .ok (.iload_n 1, 1) := by decide +kernel
theorem dX12_readPerson_8 : decode cX12_readPerson 8 = .ok (.bipush 10, 2) := by decide +kernel
theorem dX12_readPerson_10 : decode cX12_readPerson 10 = .ok (.if_icmp .ne 8, 3) := by decide +kernel
theorem dX12_readPerson_13 : decode cX12_readPerson 13 = .ok (.aload_n 0, 1) := by decide +kernel
theorem dX12_readPerson_14 : decode cX12_readPerson 14 = .ok (.iconst 4, 1) := by decide +kernel
theorem dX12_readPerson_15 : decode cX12_readPerson 15 = .ok (.invokevirtual 141, 3) := by decide +kernel
theorem dX12_readPerson_18 : decode cX12_readPerson 18 = .ok (.aload_n 0, 1) := by decide +kernel
theorem dX12_readPerson_19 : decode cX12_readPerson 19 = .ok (.getfield 129, 3) := by decide +kernel
theorem dX12_readPerson_22 : decode cX12_readPerson 22 = .ok (.ifCond .eq 4, 3) := by decide +kernel
theorem dX12_readPerson_25 : decode cX12_readPerson 25 = .ok (.return_, 1) := by decide +kernel
theorem dX12_readPerson_26 : decode cX12_readPerson 26 = .ok (.aload_n 0, 1) := by decide +kernel
theorem dX12_readPerson_27 : decode cX12_readPerson 27 = .ok (.invokevirtual 138, 3) := by decide +kernel
theorem dX12_readPerson_30 : decode cX12_readPerson 30 = .ok (.iconst 0, 1) := by decide +kernel
theorem dX12_readPerson_31 : decode cX12_readPerson 31 = .ok (.istore_n 2, 1) := by decide +kernel
theorem dX12_readPerson_32 : decode cX12_readPerson 32 = .ok (.iload_n 2, 1) := by decide +kernel
theorem dX12_readPerson_33 : decode cX12_readPerson 33 = .ok (.aload_n 0, 1) := by decide +kernel
theorem dX12_readPerson_34 : decode cX12_readPerson 34 = .ok (.getfield 24, 3) := by decide +kernel
theorem dX12_readPerson_37 : decode cX12_readPerson 37 = .ok (.iconst 1, 1) := by decide +kernel
theorem dX12_readPerson_38 : decode cX12_readPerson 38 = .ok (.iaload, 1) := by decide +kernel
theorem dX12_readPerson_39 : decode cX12_readPerson 39 = .ok (.if_icmp .ge 29, 3) := by decide +kernel
theorem dX12_readPerson_42 : decode cX12_readPerson 42 = .ok (.aload_n 0, 1) := by decide +kernel
theorem dX12_readPerson_43 : decode cX12_readPerson 43 = .ok (.getfield 24, 3) := by decide +kernel
theorem dX12_readPerson_46 : decode cX12_readPerson 46 = .ok (.bipush 54, 2) := by decide +kernel
theorem dX12_readPerson_48 : decode cX12_readPerson 48 = .ok (.iconst 3, 1) := by decide +kernel
theorem dX12_readPerson_49 : decode cX12_readPerson 49 = .ok (.iload_n 1, 1) := by decide +kernel
theorem dX12_readPerson_50 : decode cX12_readPerson 50 = .ok (.imul, 1) := by decide +kernel
theorem dX12_readPerson_51 : decode cX12_readPerson 51 = .ok (.iadd, 1) := by decide +kernel
theorem dX12_readPerson_52 : decode cX12_readPerson 52 = .ok (.iload_n 2, 1) := by decide +kernel
theorem dX12_readPerson_53 : decode cX12_readPerson 53 = .ok (.iadd, 1) := by decide +kernel
theorem dX12_readPerson_54 : decode cX12_readPerson 54 = .ok (.aload_n 0, 1) := by decide +kernel
theorem dX12_readPerson_55 : decode cX12_readPerson 55 = .ok (.iconst 0, 1) := by decide +kernel
theorem dX12_readPerson_56 : decode cX12_readPerson 56 = .ok (.bipush 9, 2) := by decide +kernel
theorem dX12_readPerson_58 : decode cX12_readPerson 58 = .ok (.invokevirtual 190, 3) := by decide +kernel
theorem dX12_readPerson_61 : decode cX12_readPerson 61 = .ok (.iastore, 1) := by decide +kernel
theorem dX12_readPerson_62 : decode cX12_readPerson 62 = .ok (.iinc 2 1, 3) := by decide +kernel
theorem dX12_readPerson_65 : decode cX12_readPerson 65 = .ok (.goto (-33), 3) := by decide +kernel
theorem dX12_readPerson_68 : decode cX12_readPerson 68 = .ok (.aload_n 0, 1) := by decide +kernel
theorem dX12_readPerson_69 : decode cX12_readPerson 69 = .ok (.getfield 24, 3) := by decide +kernel
theorem dX12_readPerson_72 : decode cX12_readPerson 72 = .ok (.bipush 12, 2) := by decide +kernel
theorem dX12_readPerson_74 : decode cX12_readPerson 74 = .ok (.iload_n 1, 1) := by decide +kernel
theorem dX12_readPerson_75 : decode cX12_readPerson 75 = .ok (.iadd, 1) := by decide +kernel
theorem dX12_readPerson_76 : decode cX12_readPerson 76 = .ok (.iconst 0, 1) := by decide +kernel
theorem dX12_readPerson_77 : decode cX12_readPerson 77 = .ok (.iastore, 1) := by decide +kernel
theorem dX12_readPerson_78 : decode cX12_readPerson 78 = .ok (.aload_n 0, 1) := by decide +kernel
theorem dX12_readPerson_79 : decode cX12_readPerson 79 = .ok (.getfield 24, 3) := by decide +kernel
theorem dX12_readPerson_82 : decode cX12_readPerson 82 = .ok (.bipush 22, 2) := by decide +kernel
theorem dX12_readPerson_84 : decode cX12_readPerson 84 = .ok (.iload_n 1, 1) := by decide +kernel
theorem dX12_readPerson_85 : decode cX12_readPerson 85 = .ok (.iadd, 1) := by decide +kernel
theorem dX12_readPerson_86 : decode cX12_readPerson 86 = .ok (.ldc 194, 2) := by decide +kernel
theorem dX12_readPerson_88 : decode cX12_readPerson 88 = .ok (.iastore, 1) := by decide +kernel
theorem dX12_readPerson_89 : decode cX12_readPerson 89 = .ok (.aload_n 0, 1) := by decide +kernel
theorem dX12_readPerson_90 : decode cX12_readPerson 90 = .ok (.getfield 24, 3) := by decide +kernel
theorem dX12_readPerson_93 : decode cX12_readPerson 93 = .ok (.bipush 32, 2) := by decide +kernel
theorem dX12_readPerson_95 : decode cX12_readPerson 95 = .ok (.iload_n 1, 1) := by decide +kernel
theorem dX12_readPerson_96 : decode cX12_readPerson 96 = .ok (.iadd, 1) := by decide +kernel
theorem dX12_readPerson_97 : decode cX12_readPerson 97 = .ok (.bipush 10, 2) := by decide +kernel
theorem dX12_readPerson_99 : decode cX12_readPerson 99 = .ok (.iastore, 1) := by decide +kernel
theorem dX12_readPerson_100 : decode cX12_readPerson 100 = .ok (.aload_n 0, 1) := by decide +kernel
theorem dX12_readPerson_101 : decode cX12_readPerson 101 = .ok (.getfield 24, 3) := by decide +kernel
theorem dX12_readPerson_104 : decode cX12_readPerson 104 = .ok (.bipush 42, 2) := by decide +kernel
theorem dX12_readPerson_106 : decode cX12_readPerson 106 = .ok (.iload_n 1, 1) := by decide +kernel
theorem dX12_readPerson_107 : decode cX12_readPerson 107 = .ok (.iadd, 1) := by decide +kernel
theorem dX12_readPerson_108 : decode cX12_readPerson 108 = .ok (.iconst 1, 1) := by decide +kernel
theorem dX12_readPerson_109 : decode cX12_readPerson 109 = .ok (.iastore, 1) := by decide +kernel
theorem dX12_readPerson_110 : decode cX12_readPerson 110 = .ok (.aload_n 0, 1) := by decide +kernel
theorem dX12_readPerson_111 : decode cX12_readPerson 111 = .ok (.getfield 129, 3) := by decide +kernel
theorem dX12_readPerson_114 : decode cX12_readPerson 114 = .ok (.ifCond .ne 14, 3) := by decide +kernel
theorem dX12_readPerson_117 : decode cX12_readPerson 117 = .ok (.aload_n 0, 1) := by decide +kernel
theorem dX12_readPerson_118 : decode cX12_readPerson 118 = .ok (.iload_n 1, 1) := by decide +kernel
theorem dX12_readPerson_119 : decode cX12_readPerson 119 = .ok (.invokevirtual 195, 3) := by decide +kernel
theorem dX12_readPerson_122 : decode cX12_readPerson 122 = .ok (.ifCond .eq 6, 3) := by decide +kernel
theorem dX12_readPerson_125 : decode cX12_readPerson 125 = .ok (.goto (-15), 3) := by decide +kernel
theorem dX12_readPerson_128 : decode cX12_readPerson 128 = .ok (.aload_n 0, 1) := by decide +kernel
theorem dX12_readPerson_129 : decode cX12_readPerson 129 = .ok (.getfield 129, 3) := by decide +kernel
theorem dX12_readPerson_132 : decode cX12_readPerson 132 = .ok (.ifCond .ne 13, 3) := by decide +kernel
theorem dX12_readPerson_135 : decode cX12_readPerson 135 = .ok (.aload_n 0, 1) := by decide +kernel
theorem dX12_readPerson_136 : decode cX12_readPerson 136 = .ok (.getfield 24, 3) := by decide +kernel
theorem dX12_readPerson_139 : decode cX12_readPerson 139 = .ok (.iconst 2, 1) := by decide +kernel
theorem dX12_readPerson_140 : decode cX12_readPerson 140 = .ok (.dup2, 1) := by decide +kernel
theorem dX12_readPerson_141 : decode cX12_readPerson 141 = .ok (.iaload, 1) := by decide +kernel
theorem dX12_readPerson_142 : decode cX12_readPerson 142 = .ok (.iconst 1, 1) := by decide +kernel
theorem dX12_readPerson_143 : decode cX12_readPerson 143 = .ok (.iadd, 1) := by decide +kernel
theorem dX12_readPerson_144 : decode cX12_readPerson 144 = .ok (.iastore, 1) := by decide +kernel
theorem dX12_readPerson_145 : decode cX12_readPerson 145 = .ok (.return_, 1) := by decide +kernel
theorem dX12_town_0 : decode cX12_town 0 = .ok (.aload_n 0, 1) := by decide +kernel
theorem dX12_town_1 : decode cX12_town 1 = .ok (.iconst 0, 1) := by decide +kernel
theorem dX12_town_2 : decode cX12_town 2 = .ok (.putfield 1, 3) := by decide +kernel
theorem dX12_town_5 : decode cX12_town 5 = .ok (.iload_n 1, 1) := by decide +kernel
theorem dX12_town_6 : decode cX12_town 6 = .ok (.i2l, 1) := by decide +kernel
theorem dX12_town_7 : decode cX12_town 7 = .ok (.lconst 0, 1) := by decide +kernel
theorem dX12_town_8 : decode cX12_town 8 = .ok (.ldc2_w 258, 3) := by decide +kernel
theorem dX12_town_11 : decode cX12_town 11 = .ok (.invokestatic 145, 3) := by decide +kernel
theorem dX12_town_14 : decode cX12_town 14 = .ok (.ifCond .eq 19, 3) := by decide +kernel
theorem dX12_town_17 : decode cX12_town 17 = .ok (.aload_n 0, 1) := by decide +kernel
theorem dX12_town_18 : decode cX12_town 18 = .ok (.aload_n 0, 1) := by decide +kernel
theorem dX12_town_19 : decode cX12_town 19 = .ok (.getfield 13, 3) := by decide +kernel
theorem dX12_town_22 : decode cX12_town 22 = .ok (.bipush 52, 2) := by decide +kernel
theorem dX12_town_24 : decode cX12_town 24 = .ok (.iaload, 1) := by decide +kernel
theorem dX12_town_25 : decode cX12_town 25 = .ok (.iload_n 1, 1) := by decide +kernel
theorem dX12_town_26 : decode cX12_town 26 = .ok (.iadd, 1) := by decide +kernel
theorem dX12_town_27 : decode cX12_town 27 = .ok (.invokevirtual 220, 3) := by decide +kernel
theorem dX12_town_30 : decode cX12_town 30 = .ok (.goto 5, 3) := by decide +kernel
theorem dX12_town_33 : decode cX12_town 33 = .ok (.bipush (-3), 2) := by decide +kernel
theorem dX12_town_35 : decode cX12_town 35 = .ok (.ireturn, 1) := by decide +kernel
theorem dX12_townNow_0 : decode cX12_townNow 0 = .ok (.aload_n 0, 1) := by decide +kernel
theorem dX12_townNow_1 : decode cX12_townNow 1 = .ok (.aload_n 0, 1) := by decide +kernel
theorem dX12_townNow_2 : decode cX12_townNow 2 = .ok (.getfield 13, 3) := by decide +kernel
theorem dX12_townNow_5 : decode cX12_townNow 5 = .ok (.bipush 52, 2) := by decide +kernel
theorem dX12_townNow_7 : decode cX12_townNow 7 = .ok (.iaload, 1) := by decide +kernel
theorem dX12_townNow_8 : decode cX12_townNow 8 = .ok (.invokevirtual 220, 3) := by decide +kernel
theorem dX12_townNow_11 : decode cX12_townNow 11 = .ok (.ireturn, 1) := by decide +kernel
theorem dX12_townOn_0 : decode cX12_townOn 0 = .ok (.iconst 0, 1) := by decide +kernel
theorem dX12_townOn_1 : decode cX12_townOn 1 = .ok (.istore_n 2, 1) := by decide +kernel
theorem dX12_townOn_2 : decode cX12_townOn 2 = .ok (.iconst 0, 1) := by decide +kernel
theorem dX12_townOn_3 : decode cX12_townOn 3 = .ok (.istore_n 3, 1) := by decide +kernel
theorem dX12_townOn_4 : decode cX12_townOn 4 = .ok (.iload_n 3, 1) := by decide +kernel
theorem dX12_townOn_5 : decode cX12_townOn 5 = .ok (.aload_n 0, 1) := by decide +kernel
theorem dX12_townOn_6 : decode cX12_townOn 6 = .ok (.getfield 13, 3) := by decide +kernel
theorem dX12_townOn_9 : decode cX12_townOn 9 = .ok (.iconst 2, 1) := by decide +kernel
theorem dX12_townOn_10 : decode cX12_townOn 10 = .ok (.iaload, 1) := by decide +kernel
theorem dX12_townOn_11 : decode cX12_townOn 11 = .ok (.if_icmp .ge 47, 3) := by decide +kernel
theorem dX12_townOn_14 : decode cX12_townOn 14 = .ok (.iload_n 2, 1) := by decide +kernel
theorem dX12_townOn_15 : decode cX12_townOn 15 = .ok (.iload_n 1, 1) := by decide +kernel
theorem dX12_townOn_16 : decode cX12_townOn 16 = .ok (.i2l, 1) := by decide +kernel
theorem dX12_townOn_17 : decode cX12_townOn 17 = .ok (.aload_n 0, 1) := by decide +kernel
theorem dX12_townOn_18 : decode cX12_townOn 18 = .ok (.getfield 13, 3) := by decide +kernel
theorem dX12_townOn_21 : decode cX12_townOn 21 = .ok (.bipush 12, 2) := by decide +kernel
theorem dX12_townOn_23 : decode cX12_townOn 23 = .ok (.iload_n 3, 1) := by decide +kernel
theorem dX12_townOn_24 : decode cX12_townOn 24 = .ok (.iadd, 1) := by decide +kernel
theorem dX12_townOn_25 : decode cX12_townOn 25 = .ok (.iaload, 1) := by decide +kernel
theorem dX12_townOn_26 : decode cX12_townOn 26 = .ok (.i2l, 1) := by decide +kernel
theorem dX12_townOn_27 : decode cX12_townOn 27 = .ok (.aload_n 0, 1) := by decide +kernel
theorem dX12_townOn_28 : decode cX12_townOn 28 = .ok (.getfield 13, 3) := by decide +kernel
theorem dX12_townOn_31 : decode cX12_townOn 31 = .ok (.bipush 22, 2) := by decide +kernel
theorem dX12_townOn_33 : decode cX12_townOn 33 = .ok (.iload_n 3, 1) := by decide +kernel
theorem dX12_townOn_34 : decode cX12_townOn 34 = .ok (.iadd, 1) := by decide +kernel
theorem dX12_townOn_35 : decode cX12_townOn 35 = .ok (.iaload, 1) := by decide +kernel
theorem dX12_townOn_36 : decode cX12_townOn 36 = .ok (.i2l, 1) := by decide +kernel
theorem dX12_townOn_37 : decode cX12_townOn 37 = .ok (.invokestatic 145, 3) := by decide +kernel
theorem dX12_townOn_40 : decode cX12_townOn 40 = .ok (.ifCond .eq 9, 3) := by decide +kernel
theorem dX12_townOn_43 : decode cX12_townOn 43 = .ok (.iconst 1, 1) := by decide +kernel
theorem dX12_townOn_44 : decode cX12_townOn 44 = .ok (.iload_n 3, 1) := by decide +kernel
theorem dX12_townOn_45 : decode cX12_townOn 45 = .ok (.ishl, 1) := by decide +kernel
theorem dX12_townOn_46 : decode cX12_townOn 46 = .ok (.goto 4, 3) := by decide +kernel
theorem dX12_townOn_49 : decode cX12_townOn 49 = .ok (.iconst 0, 1) := by decide +kernel
theorem dX12_townOn_50 : decode cX12_townOn 50 = .ok (.ior, 1) := by decide +kernel
theorem dX12_townOn_51 : decode cX12_townOn 51 = .ok (.istore_n 2, 1) := by decide +kernel
theorem dX12_townOn_52 : decode cX12_townOn 52 = .ok (.iinc 3 1, 3) := by decide +kernel
theorem dX12_townOn_55 : decode cX12_townOn 55 = .ok (.goto (-51), 3) := by decide +kernel
theorem dX12_townOn_58 : decode cX12_townOn 58 = .ok (.iload_n 2, 1) := by decide +kernel
theorem dX12_townOn_59 : decode cX12_townOn 59 = .ok (.aload_n 0, 1) := by decide +kernel
theorem dX12_townOn_60 : decode cX12_townOn 60 = .ok (.getfield 13, 3) := by decide +kernel
theorem dX12_townOn_63 : decode cX12_townOn 63 = .ok (.bipush 53, 2) := by decide +kernel
theorem dX12_townOn_65 : decode cX12_townOn 65 = .ok (.iaload, 1) := by decide +kernel
theorem dX12_townOn_66 : decode cX12_townOn 66 = .ok (.iconst (-1), 1) := by decide +kernel
theorem dX12_townOn_67 : decode cX12_townOn 67 = .ok (.ixor, 1) := by decide +kernel
theorem dX12_townOn_68 : decode cX12_townOn 68 = .ok (.iand, 1) := by decide +kernel
theorem dX12_townOn_69 : decode cX12_townOn 69 = .ok (.ireturn, 1) := by decide +kernel
set_option maxHeartbeats 4000000 in
set_option maxRecDepth 100000 in
theorem gX12_readLaw_e2365d9 (l : Launch) (D : va_G) (cy : Nat → ClassId) (h0 : Nat) (h1 : Nat) (h2 : Nat) (p0 : Int32) (p1 : Int32) (w0 : Value) (w1 : Value) (p2 : Int32) (p3 : Int32) (p4 : Int32) (p5 : Int32) (p6 : Int32) (p7 : Int32) (p8 : Int32) (p9 : Int32) (p10 : Int32) (p11 : Int32) (p12 : Int32) (w2 : Value) (w3 : Value) (w4 : Value) (w5 : Value) (w6 : Value) (p13 : Int32) (p14 : Int32) (w7 : Value) (w8 : Value) (w9 : Value) (p15 : Int32) (p16 : Int32) (w10 : Value) (w11 : Value) (w12 : Value) (w13 : Value) (w14 : Value) (p17 : Int32) (w15 : Value) (w16 : Value) (w17 : Value) (f0 : Nat → Int32) (f1 : Nat → Int32) (p18 : Int32) (p19 : Int32) (p20 : Int32) (hp0 : 0 ≤ (p0).toInt ∧ (p0).toInt ≤ 2) (hp1 : 0 ≤ (p1).toInt ∧ (p1).toInt ≤ 0) (hp2 : 0 ≤ (p2).toInt ∧ (p2).toInt ≤ 900) (hp3 : 0 ≤ (p3).toInt ∧ (p3).toInt ≤ 900) (hp4 : 0 ≤ (p4).toInt ∧ (p4).toInt ≤ 900) (hp5 : 0 ≤ (p5).toInt ∧ (p5).toInt ≤ 900) (hp6 : (-2147483648) ≤ (p6).toInt ∧ (p6).toInt ≤ 2147483647) (hp7 : 0 ≤ (p7).toInt ∧ (p7).toInt ≤ 999) (hp8 : (-2147483648) ≤ (p8).toInt ∧ (p8).toInt ≤ 2147483647) (hp9 : (-2147483648) ≤ (p9).toInt ∧ (p9).toInt ≤ 2147483647) (hp10 : (-2147483648) ≤ (p10).toInt ∧ (p10).toInt ≤ 2147483647) (hp11 : (-2147483648) ≤ (p11).toInt ∧ (p11).toInt ≤ 2147483647) (hp12 : (-2147483648) ≤ (p12).toInt ∧ (p12).toInt ≤ 2147483647) (hp13 : (-2147483648) ≤ (p13).toInt ∧ (p13).toInt ≤ 2147483647) (hp14 : (-2147483648) ≤ (p14).toInt ∧ (p14).toInt ≤ 2147483647) (hp15 : (-2147483648) ≤ (p15).toInt ∧ (p15).toInt ≤ 2147483647) (hp16 : (-2147483648) ≤ (p16).toInt ∧ (p16).toInt ≤ 2147483647) (hp17 : (-2147483648) ≤ (p17).toInt ∧ (p17).toInt ≤ 2147483647) (hp18 : (-2147483648) ≤ (p18).toInt ∧ (p18).toInt ≤ 2147483647) (hp19 : 0 ≤ (p19).toInt ∧ (p19).toInt ≤ 10) (hp20 : 0 ≤ (p20).toInt ∧ (p20).toInt ≤ 900) (htf1_1 : f1 1 = p18) (htf1_2 : f1 2 = p19) (htf1_405 : f1 405 = p20) (hpre0 : 0 ≤ (p3 : Int32).toInt ∧ (p3 : Int32).toInt ≤ (p4 : Int32).toInt ∧ (p4 : Int32).toInt ≤ (p5 : Int32).toInt) (hpre1 : (p6 : Int32).toInt = 26 ∨ (p3 : Int32).toInt < (p4 : Int32).toInt) (hpre2 : (p8 : Int32).toInt ≠ 0 ∨ (p20 : Int32).toInt ≤ (p3 : Int32).toInt) (hpre3 : HF (p8 : Int32).toInt f1 ((p20 : Int32).toInt).toNat) (hpre4 : (p6 : Int32).toInt ≠ 26) (sz : Nat) : MV l yX12_readLaw cX12_readLaw 3 { frames := 31, cells := 0, slots := 0, locals := 758 } [.ref h0, .int p0] D cy (wk_8d528f753 cy h0 p1 w0 w1 h1 h2 p2 p3 p4 p5 p6 p7 p8 p9 p10 p11 p12 w2 w3 w4 w5 w6 p13 p14 w7 w8 w9 p15 p16 w10 w11 w12 w13 w14 p17 w15 w16 w17 h1 f0 h2 f1) sz (fun u => (0 ≤ (u.2.1 0 0).toInt ∧ (u.2.1 0 0).toInt ≤ 900) ∧ (0 ≤ (u.2.1 1 0).toInt ∧ (u.2.1 1 0).toInt ≤ 900) ∧ ((-2147483648) ≤ (u.2.1 2 0).toInt ∧ (u.2.1 2 0).toInt ≤ 2147483647) ∧ (0 ≤ (u.2.1 3 0).toInt ∧ (u.2.1 3 0).toInt ≤ 999) ∧ ((-2147483648) ≤ (u.2.1 4 0).toInt ∧ (u.2.1 4 0).toInt ≤ 2147483647) ∧ ((-2147483648) ≤ (u.2.1 5 0).toInt ∧ (u.2.1 5 0).toInt ≤ 2147483647) ∧ (0 ≤ (u.2.1 6 0).toInt ∧ (u.2.1 6 0).toInt ≤ 2) ∧ (0 ≤ (u.2.1 8 0).toInt ∧ (u.2.1 8 0).toInt ≤ 900) ∧ (u.2.1 7) 1 = p18 ∧ (u.2.1 7) 2 = p19 ∧ (u.2.1 7) 405 = (u.2.1 8 0) ∧ (0 ≤ ((u.2.1 0 0) : Int32).toInt ∧ ((u.2.1 0 0) : Int32).toInt ≤ ((u.2.1 1 0) : Int32).toInt ∧ ((u.2.1 1 0) : Int32).toInt ≤ (p5 : Int32).toInt) ∧ (((u.2.1 2 0) : Int32).toInt = 26 ∨ ((u.2.1 0 0) : Int32).toInt < ((u.2.1 1 0) : Int32).toInt) ∧ ((p3 : Int32).toInt ≤ ((u.2.1 0 0) : Int32).toInt) ∧ (((u.2.1 4 0) : Int32).toInt ≠ 0 ∨ (p8 : Int32).toInt = 0) ∧ (((u.2.1 4 0) : Int32).toInt ≠ 0 ∨ ((u.2.1 8 0) : Int32).toInt ≤ ((u.2.1 0 0) : Int32).toInt) ∧ (HF ((u.2.1 4 0) : Int32).toInt (u.2.1 7) (((u.2.1 8 0) : Int32).toInt).toNat) ∧ True) (fun u => (wk_8d528f753 cy h0 p1 w0 w1 h1 h2 p2 (u.2.1 0 0) (u.2.1 1 0) p5 (u.2.1 2 0) (u.2.1 3 0) (u.2.1 4 0) (u.2.1 5 0) p10 p11 (u.2.1 6 0) w2 w3 w4 w5 w6 p13 p14 w7 w8 w9 p15 p16 w10 w11 w12 w13 w14 p17 w15 w16 w17 h1 f0 h2 (u.2.1 7))) 0 0 := by
  refine q_ent (own := RX12) (by decide) rfl (Nat.le_of_ble_eq_true rfl) (fun p e s m below meth c ls X hr hlk hnm hK hT h hA hl => ?_)
  obtain ⟨hx, hb, hml, hown, ht⟩ := id X
  replace hl : lv_has ls 3 [(0, .ref h0), (1, .int p0)] := hl
  refine lv_aload_n hx hb dX12_readLaw_0 rfl (lv_at hl 0 rfl) ?_
  refine q_callVv (rest := []) (wr := [(h2, .inl (cy 1, 1306, .inl f1))]) X hK hT hA h (fun sz => gX12_next_c515fc5 l D cy h0 h1 p1 w0 w1 (.ref h2) p2 p3 p4 p5 p6 p7 p8 p9 p10 p11 p12 w2 w3 w4 w5 w6 p13 p14 w7 w8 w9 p15 p16 w10 w11 w12 w13 w14 p17 w15 w16 w17 f0 hp1 hp2 hp3 hp4 hp5 (i_rng _) hp7 (i_rng _) (i_rng _) (i_rng _) (i_rng _) (i_rng _) (i_rng _) (i_rng _) (i_rng _) (i_rng _) (i_rng _) (by (first | (clear hpre1 hpre2; omega) | omega)) sz) wm_6_53 wm_6_56 wm_1_12 hd_X12_next wm_6_55 wp_4_3 (ci := 12) (q0 := 0) rfl rfl ⟨Nat.le_of_ble_eq_true rfl, Nat.le_of_ble_eq_true rfl⟩ hl.1 rfl (Nat.le_of_ble_eq_true rfl) dX12_readLaw_1 ⟨Nat.le_of_ble_eq_true rfl, Nat.le_of_ble_eq_true rfl⟩ [0, 1] [2] rfl rfl (by decide) rfl rfl (fun u_1 H locs w_1 h_1 => ?_)
  clear h
  obtain ⟨w1_0, w1_1, w1_2, w1_3, y1_0, y1_1, y1_2, _⟩ := w_1
  replace h_1 : qW D _ _ (wk_1d090495b cy h2 f1 h0 p1 w0 w1 h1 h2 p2 (u_1.2.1 0 0) (u_1.2.1 1 0) p5 (u_1.2.1 2 0) (u_1.2.1 3 0) p8 p9 p10 p11 p12 w2 w3 w4 w5 w6 p13 p14 w7 w8 w9 p15 p16 w10 w11 w12 w13 w14 p17 w15 w16 w17 h1 f0) _ _ := h_1
  refine lv_aload_n hx hb dX12_readLaw_4 rfl (lv_at hl 0 rfl) ?_
  refine lv_bipush (v := 31) hx hb dX12_readLaw_5 (by decide) ?_
  refine q_callVi (rest := []) (wr := [(h2, .inl (cy 1, 1306, .inl f1))]) X hK hT hA h_1 (fun sz => gX12_eats_b7d3d7f l D cy h0 h1 p1 w0 w1 (.ref h2) p2 (u_1.2.1 0 0) (u_1.2.1 1 0) p5 (u_1.2.1 2 0) (u_1.2.1 3 0) p8 p9 p10 p11 p12 w2 w3 w4 w5 w6 p13 p14 w7 w8 w9 p15 p16 w10 w11 w12 w13 w14 p17 w15 w16 w17 f0 hp1 hp2 w1_0 w1_1 hp5 (i_rng _) w1_3 (i_rng _) (i_rng _) (i_rng _) (i_rng _) (i_rng _) (i_rng _) (i_rng _) (i_rng _) (i_rng _) (i_rng _) (y1_0) (y1_1) sz) wm_6_75 wm_6_78 wm_1_12 hd_X12_eats wm_6_77 wp_4_6 (ci := 12) (q0 := 0) rfl rfl ⟨Nat.le_of_ble_eq_true rfl, Nat.le_of_ble_eq_true rfl⟩ hl.1 rfl (Nat.le_of_ble_eq_true rfl) dX12_readLaw_7 ⟨Nat.le_of_ble_eq_true rfl, Nat.le_of_ble_eq_true rfl⟩ [1, 2] [0] rfl rfl (by decide) rfl rfl (fun r_2 u_2 H locs w_2 h_2 => ?_)
  clear h_1
  obtain ⟨wr_2, w2_0, w2_1, w2_2, w2_3, y2_0, y2_1, y2_2, _⟩ := w_2
  have lq_2_1 : (31 : Int32).toInt = 31 := (by decide)
  replace h_2 : qW D _ _ (wk_1d090495b cy h2 f1 h0 p1 w0 w1 h1 h2 p2 (u_2.2.1 0 0) (u_2.2.1 1 0) p5 (u_2.2.1 2 0) (u_2.2.1 3 0) p8 p9 p10 p11 p12 w2 w3 w4 w5 w6 p13 p14 w7 w8 w9 p15 p16 w10 w11 w12 w13 w14 p17 w15 w16 w17 h1 f0) _ _ := h_2
  refine lv_if_ne (tgt := 18) hx hb dX12_readLaw_10 (by decide) (fun c_3 => ?_) (fun c_3 => ?_)
  · replace c_3 := i_ne (x := r_2) (y := 0) rfl (show (0 : Int32).toInt = 0 by decide) c_3
    replace y2_2 := a01_1 y2_2 c_3
    refine lv_aload_n hx hb dX12_readLaw_18 rfl (lv_at hl 0 rfl) ?_
    refine q_get X hK h_2 1 rfl rfl wf_12 4 (by decide) rfl wm_5_174 dX12_readLaw_19 ?_
    refine lv_sipush (v := 405) hx hb dX12_readLaw_22 (by decide) ?_
    refine q_iald X hK h_2 0 rfl (q_in (by decide +kernel)) dX12_readLaw_25 ?_
    refine q_c p20 htf1_405 ?_
    refine lv_istore_n (lv' := [(2, .int p20), (0, .ref h0), (1, .int p0)]) hx hb dX12_readLaw_26 rfl hl (by decide) rfl (fun ls_4 hl_4 => ?_)
    clear hl
    refine lv_aload_n hx hb dX12_readLaw_27 rfl (lv_at hl_4 1 rfl) ?_
    refine lv_iload_n hx hb dX12_readLaw_28 rfl (lv_at hl_4 2 rfl) ?_
    refine q_put (v := .int p0) X hK h_2 1 rfl rfl wf_12 tyX12 tyX12_ok nmX12 15 (by decide) wm_5_185 rfl rfl rfl (Nat.le_of_ble_eq_true rfl) dX12_readLaw_29 (fun H locs h_5 => ?_)
    clear h_2
    replace h_5 : qW D _ _ (wk_1d090495b cy h2 f1 h0 p1 w0 w1 h1 h2 p2 (u_2.2.1 0 0) (u_2.2.1 1 0) p5 (u_2.2.1 2 0) (u_2.2.1 3 0) p8 p9 p10 p11 p0 w2 w3 w4 w5 w6 p13 p14 w7 w8 w9 p15 p16 w10 w11 w12 w13 w14 p17 w15 w16 w17 h1 f0) _ _ := h_5
    refine lv_iload_n hx hb dX12_readLaw_32 rfl (lv_at hl_4 2 rfl) ?_
    refine lv_iconst (v := 2) hx hb dX12_readLaw_33 (by decide) ?_
    refine lv_icmp_ne (tgt := 45) hx hb dX12_readLaw_34 (by decide) (fun c_6 => ?_) (fun c_6 => ?_)
    · replace c_6 := i_ne (x := p0) (y := 2) rfl (show (2 : Int32).toInt = 2 by decide) c_6
      refine lv_aload_n hx hb dX12_readLaw_45 rfl (lv_at hl_4 1 rfl) ?_
      refine lv_iconst (v := 0) hx hb dX12_readLaw_46 (by decide) ?_
      refine q_callVv (rest := []) (wr := []) X hK hT hA h_5 (fun sz => (gX12_ALLT_a3e7967 l D cy 6).1  h0 h1 h2 (0 : Int32) p1 w0 w1 p2 (u_2.2.1 0 0) (u_2.2.1 1 0) p5 (u_2.2.1 2 0) (u_2.2.1 3 0) p8 p9 p10 p11 p0 w2 w3 w4 w5 w6 p13 p14 w7 w8 w9 p15 p16 w10 w11 w12 w13 w14 p17 w15 w16 w17 f0 f1 p18 p19 p20 ⟨by decide +kernel, by decide +kernel⟩ hp1 hp2 w2_0 w2_1 hp5 (i_rng _) w2_3 (i_rng _) (i_rng _) (i_rng _) (i_rng _) (i_rng _) (i_rng _) (i_rng _) (i_rng _) (i_rng _) (i_rng _) (i_rng _) hp19 hp20 htf1_1 htf1_2 htf1_405 (y2_0) (y2_1) (by (first | (clear hpre1 hpre2 y1_1 y2_1; omega) | omega)) (by decide) sz) wm_6_142 wm_6_145 wm_1_12 hd_X12_readTruth wm_6_144 wp_5_5 (ci := 12) (q0 := 0) rfl rfl ⟨Nat.le_of_ble_eq_true rfl, Nat.le_of_ble_eq_true rfl⟩ hl_4.1 rfl (Nat.le_of_ble_eq_true rfl) dX12_readLaw_47 ⟨Nat.le_of_ble_eq_true rfl, Nat.le_of_ble_eq_true rfl⟩ [1, 2, 0] [] rfl rfl (by decide) rfl rfl (fun u_7 H locs w_7 h_7 => ?_)
      clear h_5
      obtain ⟨w7_0, w7_1, w7_2, w7_3, w7_4, w7_5, w7_6, w7_7, w7_8, w7_9, y7_0, y7_1, y7_2, y7_3, y7_4, y7_5, y7_6, _⟩ := w_7
      have lq_7_1 : (0 : Int32).toInt = 0 := (by decide)
      replace h_7 : qW D _ _ (wk_8d528f753 cy h0 p1 w0 w1 h1 h2 p2 (u_7.2.1 2 0) (u_7.2.1 3 0) p5 (u_7.2.1 4 0) (u_7.2.1 5 0) (u_7.2.1 6 0) (u_7.2.1 7 0) p10 p11 p0 w2 w3 w4 w5 w6 p13 p14 w7 w8 w9 p15 p16 w10 w11 w12 w13 w14 p17 w15 w16 w17 h1 f0 h2 (u_7.2.1 0)) _ _ := h_7
      refine lv_aload_n hx hb dX12_readLaw_50 rfl (lv_at hl_4 1 rfl) ?_
      refine q_get X hK h_7 0 rfl rfl wf_12 11 (by decide) rfl wm_5_181 dX12_readLaw_51 ?_
      refine lv_if_eq (tgt := 58) hx hb dX12_readLaw_54 (by decide) (fun c_9 => ?_) (fun c_9 => ?_)
      · replace c_9 := i_eq (x := (u_7.2.1 6 0)) (y := 0) rfl (show (0 : Int32).toInt = 0 by decide) c_9
        refine lv_aload_n hx hb dX12_readLaw_58 rfl (lv_at hl_4 1 rfl) ?_
        refine q_get X hK h_7 0 rfl rfl wf_12 4 (by decide) rfl wm_5_174 dX12_readLaw_59 ?_
        refine lv_iconst (v := 3) hx hb dX12_readLaw_62 (by decide) ?_
        refine lv_iload_n hx hb dX12_readLaw_63 rfl (lv_at hl_4 2 rfl) ?_
        refine lv_iadd hx hb dX12_readLaw_64 ?_
        obtain ⟨z_10, ez_10, hz_10⟩ := e_add (x := 3) (y := p0) (show (3 : Int32).toInt = 3 by decide) rfl (by omega) (by omega)
        refine q_c z_10 ez_10 ?_
        clear ez_10
        refine lv_iconst (v := 1) hx hb dX12_readLaw_65 (by decide) ?_
        refine q_iast X hK h_7 2 rfl (i_in rfl (by omega) (by omega)) dX12_readLaw_66 (fun H locs h_12 => ?_)
        clear h_7
        replace h_12 : qW D _ _ (wk_8d528f753 cy h0 p1 w0 w1 h1 h2 p2 (u_7.2.1 2 0) (u_7.2.1 3 0) p5 (u_7.2.1 4 0) (u_7.2.1 5 0) (u_7.2.1 6 0) (u_7.2.1 7 0) p10 p11 p0 w2 w3 w4 w5 w6 p13 p14 w7 w8 w9 p15 p16 w10 w11 w12 w13 w14 p17 w15 w16 w17 h1 f0 h2 (upd (u_7.2.1 0) (Int32.toNatClampNeg z_10) 1)) _ _ := h_12
        obtain ⟨F_11, eF_11⟩ : ∃ z, (upd (u_7.2.1 0) (Int32.toNatClampNeg z_10) 1) = z := ⟨_, rfl⟩
        have trF_11_1 := (tr_ne eF_11 w7_7 rfl (by omega))
        have trF_11_2 := (tr_ne eF_11 w7_8 rfl (by omega))
        have trF_11_405 := (tr_ne eF_11 w7_9 rfl (by omega))
        rw [eF_11] at h_12
        refine lv_aload_n hx hb dX12_readLaw_67 rfl (lv_at hl_4 1 rfl) ?_
        refine q_get X hK h_12 0 rfl rfl wf_12 4 (by decide) rfl wm_5_174 dX12_readLaw_68 ?_
        refine lv_bipush (v := 6) hx hb dX12_readLaw_71 (by decide) ?_
        refine lv_iload_n hx hb dX12_readLaw_73 rfl (lv_at hl_4 2 rfl) ?_
        refine lv_iadd hx hb dX12_readLaw_74 ?_
        obtain ⟨z_13, ez_13, hz_13⟩ := e_add (x := 6) (y := p0) (show (6 : Int32).toInt = 6 by decide) rfl (by omega) (by omega)
        refine q_c z_13 ez_13 ?_
        clear ez_13
        refine lv_iload_n hx hb dX12_readLaw_75 rfl (lv_at hl_4 0 rfl) ?_
        refine q_iast X hK h_12 2 rfl (i_in rfl (by omega) (by omega)) dX12_readLaw_76 (fun H locs h_15 => ?_)
        clear h_12
        replace h_15 : qW D _ _ (wk_8d528f753 cy h0 p1 w0 w1 h1 h2 p2 (u_7.2.1 2 0) (u_7.2.1 3 0) p5 (u_7.2.1 4 0) (u_7.2.1 5 0) (u_7.2.1 6 0) (u_7.2.1 7 0) p10 p11 p0 w2 w3 w4 w5 w6 p13 p14 w7 w8 w9 p15 p16 w10 w11 w12 w13 w14 p17 w15 w16 w17 h1 f0 h2 (upd F_11 (Int32.toNatClampNeg z_13) p20)) _ _ := h_15
        obtain ⟨F_14, eF_14⟩ : ∃ z, (upd F_11 (Int32.toNatClampNeg z_13) p20) = z := ⟨_, rfl⟩
        have trF_14_1 := (tr_ne eF_14 trF_11_1 rfl (by omega))
        have trF_14_2 := (tr_ne eF_14 trF_11_2 rfl (by omega))
        have trF_14_405 := (tr_ne eF_14 trF_11_405 rfl (by omega))
        rw [eF_14] at h_15
        refine lv_aload_n hx hb dX12_readLaw_77 rfl (lv_at hl_4 1 rfl) ?_
        refine q_get X hK h_15 0 rfl rfl wf_12 4 (by decide) rfl wm_5_174 dX12_readLaw_78 ?_
        refine lv_bipush (v := 9) hx hb dX12_readLaw_81 (by decide) ?_
        refine lv_iload_n hx hb dX12_readLaw_83 rfl (lv_at hl_4 2 rfl) ?_
        refine lv_iadd hx hb dX12_readLaw_84 ?_
        obtain ⟨z_16, ez_16, hz_16⟩ := e_add (x := 9) (y := p0) (show (9 : Int32).toInt = 9 by decide) rfl (by omega) (by omega)
        refine q_c z_16 ez_16 ?_
        clear ez_16
        refine lv_aload_n hx hb dX12_readLaw_85 rfl (lv_at hl_4 1 rfl) ?_
        refine q_get X hK h_15 0 rfl rfl wf_12 4 (by decide) rfl wm_5_174 dX12_readLaw_86 ?_
        refine lv_sipush (v := 405) hx hb dX12_readLaw_89 (by decide) ?_
        refine q_iald X hK h_15 2 rfl (q_in (by decide +kernel)) dX12_readLaw_92 ?_
        refine q_c (u_7.2.1 1 0) trF_14_405 ?_
        refine lv_iload_n hx hb dX12_readLaw_93 rfl (lv_at hl_4 0 rfl) ?_
        refine lv_isub hx hb dX12_readLaw_94 ?_
        obtain ⟨z_17, ez_17, hz_17⟩ := e_sub (x := (u_7.2.1 1 0)) (y := p20) rfl rfl (by omega) (by omega)
        refine q_c z_17 ez_17 ?_
        clear ez_17
        refine q_iast X hK h_15 2 rfl (i_in rfl (by omega) (by omega)) dX12_readLaw_95 (fun H locs h_19 => ?_)
        clear h_15
        replace h_19 : qW D _ _ (wk_8d528f753 cy h0 p1 w0 w1 h1 h2 p2 (u_7.2.1 2 0) (u_7.2.1 3 0) p5 (u_7.2.1 4 0) (u_7.2.1 5 0) (u_7.2.1 6 0) (u_7.2.1 7 0) p10 p11 p0 w2 w3 w4 w5 w6 p13 p14 w7 w8 w9 p15 p16 w10 w11 w12 w13 w14 p17 w15 w16 w17 h1 f0 h2 (upd F_14 (Int32.toNatClampNeg z_16) z_17)) _ _ := h_19
        obtain ⟨F_18, eF_18⟩ : ∃ z, (upd F_14 (Int32.toNatClampNeg z_16) z_17) = z := ⟨_, rfl⟩
        have trF_18_1 := (tr_ne eF_18 trF_14_1 rfl (by omega))
        have trF_18_2 := (tr_ne eF_18 trF_14_2 rfl (by omega))
        have trF_18_405 := (tr_ne eF_18 trF_14_405 rfl (by omega))
        rw [eF_18] at h_19
        exact q_vret X hr hlk hK h_19 (fun _ => 0, (vcons (fun _ => (u_7.2.1 2 0)) (vcons (fun _ => (u_7.2.1 3 0)) (vcons (fun _ => (u_7.2.1 4 0)) (vcons (fun _ => (u_7.2.1 5 0)) (vcons (fun _ => (u_7.2.1 6 0)) (vcons (fun _ => (u_7.2.1 7 0)) (vcons (fun _ => p0) (vcons F_18 (vcons (fun _ => (u_7.2.1 1 0)) (fun _ => (fun _ => 0))))))))))), fun _ _ => 0) ⟨w7_1, w7_2, w7_3, w7_4, w7_5, w7_6, hp0, w7_0, trF_18_1, trF_18_2, trF_18_405, y7_0, y7_1, (show (p3 : Int32).toInt ≤ ((u_7.2.1 2 0) : Int32).toInt from by (first | (clear hpre1 hpre2 y1_1 y2_1 y7_1 y7_3 y7_4 y7_5; omega) | omega)), y7_3, y7_5, (show HF ((u_7.2.1 6 0) : Int32).toInt F_18 (((u_7.2.1 1 0) : Int32).toInt).toNat from hf_w (hf_law (hf_rx hpre3 y7_6 (by (first | assumption | (clear hpre1 hpre2 y1_1 y2_1 y7_1 y7_3 y7_4 y7_5; omega) | omega))) y7_6 eF_11 eF_14 eF_18 (by (first | assumption | (clear hpre1 hpre2 y1_1 y2_1 y7_1 y7_3 y7_4 y7_5; omega) | omega)) (by (first | assumption | (clear hpre1 hpre2 y1_1 y2_1 y7_1 y7_3 y7_4 y7_5; omega) | omega)) (by (first | assumption | (clear hpre1 hpre2 y1_1 y2_1 y7_1 y7_3 y7_4 y7_5; omega) | omega)) (by (first | assumption | (clear hpre1 hpre2 y1_1 y2_1 y7_1 y7_3 y7_4 y7_5; omega) | omega)) (by (first | assumption | (clear hpre1 hpre2 y1_1 y2_1 y7_1 y7_3 y7_4 y7_5; omega) | omega))) (by (first | assumption | (clear hpre1 hpre2 y1_1 y2_1 y7_1 y7_3 y7_4 y7_5; omega) | omega))), trivial⟩ [0, 1, 2] rfl rfl dX12_readLaw_96 (Nat.le_of_ble_eq_true rfl) (Nat.le_of_ble_eq_true rfl)
      · replace c_9 := i_ne (x := (u_7.2.1 6 0)) (y := 0) rfl (show (0 : Int32).toInt = 0 by decide) c_9
        exact q_vret X hr hlk hK h_7 (fun _ => 0, (vcons (fun _ => (u_7.2.1 2 0)) (vcons (fun _ => (u_7.2.1 3 0)) (vcons (fun _ => (u_7.2.1 4 0)) (vcons (fun _ => (u_7.2.1 5 0)) (vcons (fun _ => (u_7.2.1 6 0)) (vcons (fun _ => (u_7.2.1 7 0)) (vcons (fun _ => p0) (vcons (u_7.2.1 0) (vcons (fun _ => (u_7.2.1 1 0)) (fun _ => (fun _ => 0))))))))))), fun _ _ => 0) ⟨w7_1, w7_2, w7_3, w7_4, w7_5, w7_6, hp0, w7_0, w7_7, w7_8, w7_9, y7_0, y7_1, (show (p3 : Int32).toInt ≤ ((u_7.2.1 2 0) : Int32).toInt from by (first | (clear hpre1 hpre2 y1_1 y2_1 y7_1 y7_3 y7_4 y7_5; omega) | omega)), y7_3, y7_5, (show HF ((u_7.2.1 6 0) : Int32).toInt (u_7.2.1 0) (((u_7.2.1 1 0) : Int32).toInt).toNat from hf_w (hf_rx hpre3 y7_6 (by (first | assumption | (clear hpre1 hpre2 y1_1 y2_1 y7_1 y7_3 y7_4 y7_5; omega) | omega))) (by (first | assumption | (clear hpre1 hpre2 y1_1 y2_1 y7_1 y7_3 y7_4 y7_5; omega) | omega))), trivial⟩ [0, 1, 2] rfl rfl dX12_readLaw_57 (Nat.le_of_ble_eq_true rfl) (Nat.le_of_ble_eq_true rfl)
    · replace c_6 := i_eq (x := p0) (y := 2) rfl (show (2 : Int32).toInt = 2 by decide) c_6
      refine lv_aload_n hx hb dX12_readLaw_37 rfl (lv_at hl_4 1 rfl) ?_
      refine lv_iconst (v := 0) hx hb dX12_readLaw_38 (by decide) ?_
      refine q_callVv (rest := []) (wr := []) X hK hT hA h_5 (fun sz => (gX12_ALLS_6fe8e24 l D cy 6)  h0 h1 h2 (0 : Int32) p1 w0 w1 p2 (u_2.2.1 0 0) (u_2.2.1 1 0) p5 (u_2.2.1 2 0) (u_2.2.1 3 0) p8 p9 p10 p11 p0 w2 w3 w4 w5 w6 p13 p14 w7 w8 w9 p15 p16 w10 w11 w12 w13 w14 p17 w15 w16 w17 f0 f1 p18 p19 p20 ⟨by decide +kernel, by decide +kernel⟩ hp1 hp2 w2_0 w2_1 hp5 (i_rng _) w2_3 (i_rng _) (i_rng _) (i_rng _) (i_rng _) (i_rng _) (i_rng _) (i_rng _) (i_rng _) (i_rng _) (i_rng _) (i_rng _) hp19 hp20 htf1_1 htf1_2 htf1_405 (y2_0) (y2_1) (by (first | (clear hpre1 hpre2 y1_1 y2_1; omega) | omega)) (by decide) sz) wm_6_114 wm_6_117 wm_1_12 hd_X12_readSum wm_6_116 wp_4_15 (ci := 12) (q0 := 0) rfl rfl ⟨Nat.le_of_ble_eq_true rfl, Nat.le_of_ble_eq_true rfl⟩ hl_4.1 rfl (Nat.le_of_ble_eq_true rfl) dX12_readLaw_39 ⟨Nat.le_of_ble_eq_true rfl, Nat.le_of_ble_eq_true rfl⟩ [1, 2, 0] [] rfl rfl (by decide) rfl rfl (fun u_20 H locs w_20 h_20 => ?_)
      clear h_5
      obtain ⟨w20_0, w20_1, w20_2, w20_3, w20_4, w20_5, w20_6, w20_7, w20_8, w20_9, y20_0, y20_1, y20_2, y20_3, y20_4, y20_5, y20_6, _⟩ := w_20
      have lq_20_1 : (0 : Int32).toInt = 0 := (by decide)
      replace h_20 : qW D _ _ (wk_8d528f753 cy h0 p1 w0 w1 h1 h2 p2 (u_20.2.1 2 0) (u_20.2.1 3 0) p5 (u_20.2.1 4 0) (u_20.2.1 5 0) (u_20.2.1 6 0) (u_20.2.1 7 0) p10 p11 p0 w2 w3 w4 w5 w6 p13 p14 w7 w8 w9 p15 p16 w10 w11 w12 w13 w14 p17 w15 w16 w17 h1 f0 h2 (u_20.2.1 0)) _ _ := h_20
      refine lv_goto (tgt := 50) hx hb dX12_readLaw_42 (by decide) ?_
      refine lv_aload_n hx hb dX12_readLaw_50 rfl (lv_at hl_4 1 rfl) ?_
      refine q_get X hK h_20 0 rfl rfl wf_12 11 (by decide) rfl wm_5_181 dX12_readLaw_51 ?_
      refine lv_if_eq (tgt := 58) hx hb dX12_readLaw_54 (by decide) (fun c_22 => ?_) (fun c_22 => ?_)
      · replace c_22 := i_eq (x := (u_20.2.1 6 0)) (y := 0) rfl (show (0 : Int32).toInt = 0 by decide) c_22
        refine lv_aload_n hx hb dX12_readLaw_58 rfl (lv_at hl_4 1 rfl) ?_
        refine q_get X hK h_20 0 rfl rfl wf_12 4 (by decide) rfl wm_5_174 dX12_readLaw_59 ?_
        refine lv_iconst (v := 3) hx hb dX12_readLaw_62 (by decide) ?_
        refine lv_iload_n hx hb dX12_readLaw_63 rfl (lv_at hl_4 2 rfl) ?_
        refine lv_iadd hx hb dX12_readLaw_64 ?_
        obtain ⟨z_23, ez_23, hz_23⟩ := e_add (x := 3) (y := p0) (show (3 : Int32).toInt = 3 by decide) rfl (by omega) (by omega)
        refine q_c z_23 ez_23 ?_
        clear ez_23
        refine lv_iconst (v := 1) hx hb dX12_readLaw_65 (by decide) ?_
        refine q_iast X hK h_20 2 rfl (i_in rfl (by omega) (by omega)) dX12_readLaw_66 (fun H locs h_25 => ?_)
        clear h_20
        replace h_25 : qW D _ _ (wk_8d528f753 cy h0 p1 w0 w1 h1 h2 p2 (u_20.2.1 2 0) (u_20.2.1 3 0) p5 (u_20.2.1 4 0) (u_20.2.1 5 0) (u_20.2.1 6 0) (u_20.2.1 7 0) p10 p11 p0 w2 w3 w4 w5 w6 p13 p14 w7 w8 w9 p15 p16 w10 w11 w12 w13 w14 p17 w15 w16 w17 h1 f0 h2 (upd (u_20.2.1 0) (Int32.toNatClampNeg z_23) 1)) _ _ := h_25
        obtain ⟨F_24, eF_24⟩ : ∃ z, (upd (u_20.2.1 0) (Int32.toNatClampNeg z_23) 1) = z := ⟨_, rfl⟩
        have trF_24_1 := (tr_ne eF_24 w20_7 rfl (by omega))
        have trF_24_2 := (tr_ne eF_24 w20_8 rfl (by omega))
        have trF_24_405 := (tr_ne eF_24 w20_9 rfl (by omega))
        rw [eF_24] at h_25
        refine lv_aload_n hx hb dX12_readLaw_67 rfl (lv_at hl_4 1 rfl) ?_
        refine q_get X hK h_25 0 rfl rfl wf_12 4 (by decide) rfl wm_5_174 dX12_readLaw_68 ?_
        refine lv_bipush (v := 6) hx hb dX12_readLaw_71 (by decide) ?_
        refine lv_iload_n hx hb dX12_readLaw_73 rfl (lv_at hl_4 2 rfl) ?_
        refine lv_iadd hx hb dX12_readLaw_74 ?_
        obtain ⟨z_26, ez_26, hz_26⟩ := e_add (x := 6) (y := p0) (show (6 : Int32).toInt = 6 by decide) rfl (by omega) (by omega)
        refine q_c z_26 ez_26 ?_
        clear ez_26
        refine lv_iload_n hx hb dX12_readLaw_75 rfl (lv_at hl_4 0 rfl) ?_
        refine q_iast X hK h_25 2 rfl (i_in rfl (by omega) (by omega)) dX12_readLaw_76 (fun H locs h_28 => ?_)
        clear h_25
        replace h_28 : qW D _ _ (wk_8d528f753 cy h0 p1 w0 w1 h1 h2 p2 (u_20.2.1 2 0) (u_20.2.1 3 0) p5 (u_20.2.1 4 0) (u_20.2.1 5 0) (u_20.2.1 6 0) (u_20.2.1 7 0) p10 p11 p0 w2 w3 w4 w5 w6 p13 p14 w7 w8 w9 p15 p16 w10 w11 w12 w13 w14 p17 w15 w16 w17 h1 f0 h2 (upd F_24 (Int32.toNatClampNeg z_26) p20)) _ _ := h_28
        obtain ⟨F_27, eF_27⟩ : ∃ z, (upd F_24 (Int32.toNatClampNeg z_26) p20) = z := ⟨_, rfl⟩
        have trF_27_1 := (tr_ne eF_27 trF_24_1 rfl (by omega))
        have trF_27_2 := (tr_ne eF_27 trF_24_2 rfl (by omega))
        have trF_27_405 := (tr_ne eF_27 trF_24_405 rfl (by omega))
        rw [eF_27] at h_28
        refine lv_aload_n hx hb dX12_readLaw_77 rfl (lv_at hl_4 1 rfl) ?_
        refine q_get X hK h_28 0 rfl rfl wf_12 4 (by decide) rfl wm_5_174 dX12_readLaw_78 ?_
        refine lv_bipush (v := 9) hx hb dX12_readLaw_81 (by decide) ?_
        refine lv_iload_n hx hb dX12_readLaw_83 rfl (lv_at hl_4 2 rfl) ?_
        refine lv_iadd hx hb dX12_readLaw_84 ?_
        obtain ⟨z_29, ez_29, hz_29⟩ := e_add (x := 9) (y := p0) (show (9 : Int32).toInt = 9 by decide) rfl (by omega) (by omega)
        refine q_c z_29 ez_29 ?_
        clear ez_29
        refine lv_aload_n hx hb dX12_readLaw_85 rfl (lv_at hl_4 1 rfl) ?_
        refine q_get X hK h_28 0 rfl rfl wf_12 4 (by decide) rfl wm_5_174 dX12_readLaw_86 ?_
        refine lv_sipush (v := 405) hx hb dX12_readLaw_89 (by decide) ?_
        refine q_iald X hK h_28 2 rfl (q_in (by decide +kernel)) dX12_readLaw_92 ?_
        refine q_c (u_20.2.1 1 0) trF_27_405 ?_
        refine lv_iload_n hx hb dX12_readLaw_93 rfl (lv_at hl_4 0 rfl) ?_
        refine lv_isub hx hb dX12_readLaw_94 ?_
        obtain ⟨z_30, ez_30, hz_30⟩ := e_sub (x := (u_20.2.1 1 0)) (y := p20) rfl rfl (by omega) (by omega)
        refine q_c z_30 ez_30 ?_
        clear ez_30
        refine q_iast X hK h_28 2 rfl (i_in rfl (by omega) (by omega)) dX12_readLaw_95 (fun H locs h_32 => ?_)
        clear h_28
        replace h_32 : qW D _ _ (wk_8d528f753 cy h0 p1 w0 w1 h1 h2 p2 (u_20.2.1 2 0) (u_20.2.1 3 0) p5 (u_20.2.1 4 0) (u_20.2.1 5 0) (u_20.2.1 6 0) (u_20.2.1 7 0) p10 p11 p0 w2 w3 w4 w5 w6 p13 p14 w7 w8 w9 p15 p16 w10 w11 w12 w13 w14 p17 w15 w16 w17 h1 f0 h2 (upd F_27 (Int32.toNatClampNeg z_29) z_30)) _ _ := h_32
        obtain ⟨F_31, eF_31⟩ : ∃ z, (upd F_27 (Int32.toNatClampNeg z_29) z_30) = z := ⟨_, rfl⟩
        have trF_31_1 := (tr_ne eF_31 trF_27_1 rfl (by omega))
        have trF_31_2 := (tr_ne eF_31 trF_27_2 rfl (by omega))
        have trF_31_405 := (tr_ne eF_31 trF_27_405 rfl (by omega))
        rw [eF_31] at h_32
        exact q_vret X hr hlk hK h_32 (fun _ => 0, (vcons (fun _ => (u_20.2.1 2 0)) (vcons (fun _ => (u_20.2.1 3 0)) (vcons (fun _ => (u_20.2.1 4 0)) (vcons (fun _ => (u_20.2.1 5 0)) (vcons (fun _ => (u_20.2.1 6 0)) (vcons (fun _ => (u_20.2.1 7 0)) (vcons (fun _ => p0) (vcons F_31 (vcons (fun _ => (u_20.2.1 1 0)) (fun _ => (fun _ => 0))))))))))), fun _ _ => 0) ⟨w20_1, w20_2, w20_3, w20_4, w20_5, w20_6, hp0, w20_0, trF_31_1, trF_31_2, trF_31_405, y20_0, y20_1, (show (p3 : Int32).toInt ≤ ((u_20.2.1 2 0) : Int32).toInt from by (first | (clear hpre1 hpre2 y1_1 y2_1 y20_1 y20_3 y20_4 y20_5; omega) | omega)), y20_3, y20_5, (show HF ((u_20.2.1 6 0) : Int32).toInt F_31 (((u_20.2.1 1 0) : Int32).toInt).toNat from hf_w (hf_law (hf_rx hpre3 y20_6 (by (first | assumption | (clear hpre1 hpre2 y1_1 y2_1 y20_1 y20_3 y20_4 y20_5; omega) | omega))) y20_6 eF_24 eF_27 eF_31 (by (first | assumption | (clear hpre1 hpre2 y1_1 y2_1 y20_1 y20_3 y20_4 y20_5; omega) | omega)) (by (first | assumption | (clear hpre1 hpre2 y1_1 y2_1 y20_1 y20_3 y20_4 y20_5; omega) | omega)) (by (first | assumption | (clear hpre1 hpre2 y1_1 y2_1 y20_1 y20_3 y20_4 y20_5; omega) | omega)) (by (first | assumption | (clear hpre1 hpre2 y1_1 y2_1 y20_1 y20_3 y20_4 y20_5; omega) | omega)) (by (first | assumption | (clear hpre1 hpre2 y1_1 y2_1 y20_1 y20_3 y20_4 y20_5; omega) | omega))) (by (first | assumption | (clear hpre1 hpre2 y1_1 y2_1 y20_1 y20_3 y20_4 y20_5; omega) | omega))), trivial⟩ [0, 1, 2] rfl rfl dX12_readLaw_96 (Nat.le_of_ble_eq_true rfl) (Nat.le_of_ble_eq_true rfl)
      · replace c_22 := i_ne (x := (u_20.2.1 6 0)) (y := 0) rfl (show (0 : Int32).toInt = 0 by decide) c_22
        exact q_vret X hr hlk hK h_20 (fun _ => 0, (vcons (fun _ => (u_20.2.1 2 0)) (vcons (fun _ => (u_20.2.1 3 0)) (vcons (fun _ => (u_20.2.1 4 0)) (vcons (fun _ => (u_20.2.1 5 0)) (vcons (fun _ => (u_20.2.1 6 0)) (vcons (fun _ => (u_20.2.1 7 0)) (vcons (fun _ => p0) (vcons (u_20.2.1 0) (vcons (fun _ => (u_20.2.1 1 0)) (fun _ => (fun _ => 0))))))))))), fun _ _ => 0) ⟨w20_1, w20_2, w20_3, w20_4, w20_5, w20_6, hp0, w20_0, w20_7, w20_8, w20_9, y20_0, y20_1, (show (p3 : Int32).toInt ≤ ((u_20.2.1 2 0) : Int32).toInt from by (first | (clear hpre1 hpre2 y1_1 y2_1 y20_1 y20_3 y20_4 y20_5; omega) | omega)), y20_3, y20_5, (show HF ((u_20.2.1 6 0) : Int32).toInt (u_20.2.1 0) (((u_20.2.1 1 0) : Int32).toInt).toNat from hf_w (hf_rx hpre3 y20_6 (by (first | assumption | (clear hpre1 hpre2 y1_1 y2_1 y20_1 y20_3 y20_4 y20_5; omega) | omega))) (by (first | assumption | (clear hpre1 hpre2 y1_1 y2_1 y20_1 y20_3 y20_4 y20_5; omega) | omega))), trivial⟩ [0, 1, 2] rfl rfl dX12_readLaw_57 (Nat.le_of_ble_eq_true rfl) (Nat.le_of_ble_eq_true rfl)
  · replace c_3 := i_eq (x := r_2) (y := 0) rfl (show (0 : Int32).toInt = 0 by decide) c_3
    replace y2_2 := a01_0 y2_2 c_3
    obtain ⟨y2_2a, y2_2b, y2_2c, y2_2d⟩ := y2_2
    refine lv_aload_n hx hb dX12_readLaw_13 rfl (lv_at hl 0 rfl) ?_
    refine lv_iconst (v := 2) hx hb dX12_readLaw_14 (by decide) ?_
    refine q_callVv (rest := []) (wr := (wk_8c87e24ed cy h2 f1 h1 f0)) X hK hT hA h_2 (fun sz => gX12_fails_1e02d40 l D cy h0 p1 w0 w1 (.ref h1) (.ref h2) p2 (u_2.2.1 0 0) (u_2.2.1 1 0) p5 (u_2.2.1 2 0) (u_2.2.1 3 0) p8 p9 p10 p11 p12 w2 w3 w4 w5 w6 p13 p14 w7 w8 w9 p15 p16 w10 w11 w12 w13 w14 p17 w15 w16 w17 hp1 hp2 w2_0 w2_1 hp5 (i_rng _) w2_3 (i_rng _) (i_rng _) (i_rng _) (i_rng _) (i_rng _) (i_rng _) (i_rng _) (i_rng _) (i_rng _) (i_rng _) sz) wm_6_83 wm_6_86 wm_1_12 hd_X12_fails wm_6_85 wp_4_8 (ci := 12) (q0 := 0) rfl rfl ⟨Nat.le_of_ble_eq_true rfl, Nat.le_of_ble_eq_true rfl⟩ hl.1 rfl (Nat.le_of_ble_eq_true rfl) dX12_readLaw_15 ⟨Nat.le_of_ble_eq_true rfl, Nat.le_of_ble_eq_true rfl⟩ [1] [0, 2] rfl rfl (by decide) rfl rfl (fun u_33 H locs w_33 h_33 => ?_)
    clear h_2
    obtain ⟨w33_0, w33_1, y33_0, _⟩ := w_33
    have lq_33_1 : (2 : Int32).toInt = 2 := (by decide)
    replace h_33 : qW D _ _ (wk_a24e8cc19 cy h2 f1 h1 f0 h0 p1 w0 w1 h1 h2 p2 (u_2.2.1 0 0) (u_2.2.1 1 0) p5 (u_2.2.1 2 0) (u_2.2.1 3 0) (u_33.2.1 0 0) (u_33.2.1 1 0) p10 p11 p12 w2 w3 w4 w5 w6 p13 p14 w7 w8 w9 p15 p16 w10 w11 w12 w13 w14 p17 w15 w16 w17) _ _ := h_33
    refine lv_aload_n hx hb dX12_readLaw_18 rfl (lv_at hl 0 rfl) ?_
    refine q_get X hK h_33 2 rfl rfl wf_12 4 (by decide) rfl wm_5_174 dX12_readLaw_19 ?_
    refine lv_sipush (v := 405) hx hb dX12_readLaw_22 (by decide) ?_
    refine q_iald X hK h_33 0 rfl (q_in (by decide +kernel)) dX12_readLaw_25 ?_
    refine q_c p20 htf1_405 ?_
    refine lv_istore_n (lv' := [(2, .int p20), (0, .ref h0), (1, .int p0)]) hx hb dX12_readLaw_26 rfl hl (by decide) rfl (fun ls_34 hl_34 => ?_)
    clear hl
    refine lv_aload_n hx hb dX12_readLaw_27 rfl (lv_at hl_34 1 rfl) ?_
    refine lv_iload_n hx hb dX12_readLaw_28 rfl (lv_at hl_34 2 rfl) ?_
    refine q_put (v := .int p0) X hK h_33 2 rfl rfl wf_12 tyX12 tyX12_ok nmX12 15 (by decide) wm_5_185 rfl rfl rfl (Nat.le_of_ble_eq_true rfl) dX12_readLaw_29 (fun H locs h_35 => ?_)
    clear h_33
    replace h_35 : qW D _ _ (wk_a24e8cc19 cy h2 f1 h1 f0 h0 p1 w0 w1 h1 h2 p2 (u_2.2.1 0 0) (u_2.2.1 1 0) p5 (u_2.2.1 2 0) (u_2.2.1 3 0) (u_33.2.1 0 0) (u_33.2.1 1 0) p10 p11 p0 w2 w3 w4 w5 w6 p13 p14 w7 w8 w9 p15 p16 w10 w11 w12 w13 w14 p17 w15 w16 w17) _ _ := h_35
    refine lv_iload_n hx hb dX12_readLaw_32 rfl (lv_at hl_34 2 rfl) ?_
    refine lv_iconst (v := 2) hx hb dX12_readLaw_33 (by decide) ?_
    refine lv_icmp_ne (tgt := 45) hx hb dX12_readLaw_34 (by decide) (fun c_36 => ?_) (fun c_36 => ?_)
    · replace c_36 := i_ne (x := p0) (y := 2) rfl (show (2 : Int32).toInt = 2 by decide) c_36
      refine lv_aload_n hx hb dX12_readLaw_45 rfl (lv_at hl_34 1 rfl) ?_
      refine lv_iconst (v := 0) hx hb dX12_readLaw_46 (by decide) ?_
      refine q_callVv (rest := []) (wr := []) X hK hT hA h_35 (fun sz => (gX12_ALLT_a3e7967 l D cy 6).1  h0 h1 h2 (0 : Int32) p1 w0 w1 p2 (u_2.2.1 0 0) (u_2.2.1 1 0) p5 (u_2.2.1 2 0) (u_2.2.1 3 0) (u_33.2.1 0 0) (u_33.2.1 1 0) p10 p11 p0 w2 w3 w4 w5 w6 p13 p14 w7 w8 w9 p15 p16 w10 w11 w12 w13 w14 p17 w15 w16 w17 f0 f1 p18 p19 p20 ⟨by decide +kernel, by decide +kernel⟩ hp1 hp2 w2_0 w2_1 hp5 (i_rng _) w2_3 (i_rng _) (i_rng _) (i_rng _) (i_rng _) (i_rng _) (i_rng _) (i_rng _) (i_rng _) (i_rng _) (i_rng _) (i_rng _) hp19 hp20 htf1_1 htf1_2 htf1_405 (y2_0) (y2_1) (by (first | (clear hpre1 hpre2 y1_1 y2_1 y2_2d; omega) | omega)) (by decide) sz) wm_6_142 wm_6_145 wm_1_12 hd_X12_readTruth wm_6_144 wp_5_5 (ci := 12) (q0 := 0) rfl rfl ⟨Nat.le_of_ble_eq_true rfl, Nat.le_of_ble_eq_true rfl⟩ hl_34.1 rfl (Nat.le_of_ble_eq_true rfl) dX12_readLaw_47 ⟨Nat.le_of_ble_eq_true rfl, Nat.le_of_ble_eq_true rfl⟩ [2, 1, 0] [] rfl rfl (by decide) rfl rfl (fun u_37 H locs w_37 h_37 => ?_)
      clear h_35
      obtain ⟨w37_0, w37_1, w37_2, w37_3, w37_4, w37_5, w37_6, w37_7, w37_8, w37_9, y37_0, y37_1, y37_2, y37_3, y37_4, y37_5, y37_6, _⟩ := w_37
      have lq_37_1 : (0 : Int32).toInt = 0 := (by decide)
      replace h_37 : qW D _ _ (wk_8d528f753 cy h0 p1 w0 w1 h1 h2 p2 (u_37.2.1 2 0) (u_37.2.1 3 0) p5 (u_37.2.1 4 0) (u_37.2.1 5 0) (u_37.2.1 6 0) (u_37.2.1 7 0) p10 p11 p0 w2 w3 w4 w5 w6 p13 p14 w7 w8 w9 p15 p16 w10 w11 w12 w13 w14 p17 w15 w16 w17 h1 f0 h2 (u_37.2.1 0)) _ _ := h_37
      refine lv_aload_n hx hb dX12_readLaw_50 rfl (lv_at hl_34 1 rfl) ?_
      refine q_get X hK h_37 0 rfl rfl wf_12 11 (by decide) rfl wm_5_181 dX12_readLaw_51 ?_
      refine lv_if_eq (tgt := 58) hx hb dX12_readLaw_54 (by decide) (fun c_39 => ?_) (fun c_39 => ?_)
      · replace c_39 := i_eq (x := (u_37.2.1 6 0)) (y := 0) rfl (show (0 : Int32).toInt = 0 by decide) c_39
        refine lv_aload_n hx hb dX12_readLaw_58 rfl (lv_at hl_34 1 rfl) ?_
        refine q_get X hK h_37 0 rfl rfl wf_12 4 (by decide) rfl wm_5_174 dX12_readLaw_59 ?_
        refine lv_iconst (v := 3) hx hb dX12_readLaw_62 (by decide) ?_
        refine lv_iload_n hx hb dX12_readLaw_63 rfl (lv_at hl_34 2 rfl) ?_
        refine lv_iadd hx hb dX12_readLaw_64 ?_
        obtain ⟨z_40, ez_40, hz_40⟩ := e_add (x := 3) (y := p0) (show (3 : Int32).toInt = 3 by decide) rfl (by omega) (by omega)
        refine q_c z_40 ez_40 ?_
        clear ez_40
        refine lv_iconst (v := 1) hx hb dX12_readLaw_65 (by decide) ?_
        refine q_iast X hK h_37 2 rfl (i_in rfl (by omega) (by omega)) dX12_readLaw_66 (fun H locs h_42 => ?_)
        clear h_37
        replace h_42 : qW D _ _ (wk_8d528f753 cy h0 p1 w0 w1 h1 h2 p2 (u_37.2.1 2 0) (u_37.2.1 3 0) p5 (u_37.2.1 4 0) (u_37.2.1 5 0) (u_37.2.1 6 0) (u_37.2.1 7 0) p10 p11 p0 w2 w3 w4 w5 w6 p13 p14 w7 w8 w9 p15 p16 w10 w11 w12 w13 w14 p17 w15 w16 w17 h1 f0 h2 (upd (u_37.2.1 0) (Int32.toNatClampNeg z_40) 1)) _ _ := h_42
        obtain ⟨F_41, eF_41⟩ : ∃ z, (upd (u_37.2.1 0) (Int32.toNatClampNeg z_40) 1) = z := ⟨_, rfl⟩
        have trF_41_1 := (tr_ne eF_41 w37_7 rfl (by omega))
        have trF_41_2 := (tr_ne eF_41 w37_8 rfl (by omega))
        have trF_41_405 := (tr_ne eF_41 w37_9 rfl (by omega))
        rw [eF_41] at h_42
        refine lv_aload_n hx hb dX12_readLaw_67 rfl (lv_at hl_34 1 rfl) ?_
        refine q_get X hK h_42 0 rfl rfl wf_12 4 (by decide) rfl wm_5_174 dX12_readLaw_68 ?_
        refine lv_bipush (v := 6) hx hb dX12_readLaw_71 (by decide) ?_
        refine lv_iload_n hx hb dX12_readLaw_73 rfl (lv_at hl_34 2 rfl) ?_
        refine lv_iadd hx hb dX12_readLaw_74 ?_
        obtain ⟨z_43, ez_43, hz_43⟩ := e_add (x := 6) (y := p0) (show (6 : Int32).toInt = 6 by decide) rfl (by omega) (by omega)
        refine q_c z_43 ez_43 ?_
        clear ez_43
        refine lv_iload_n hx hb dX12_readLaw_75 rfl (lv_at hl_34 0 rfl) ?_
        refine q_iast X hK h_42 2 rfl (i_in rfl (by omega) (by omega)) dX12_readLaw_76 (fun H locs h_45 => ?_)
        clear h_42
        replace h_45 : qW D _ _ (wk_8d528f753 cy h0 p1 w0 w1 h1 h2 p2 (u_37.2.1 2 0) (u_37.2.1 3 0) p5 (u_37.2.1 4 0) (u_37.2.1 5 0) (u_37.2.1 6 0) (u_37.2.1 7 0) p10 p11 p0 w2 w3 w4 w5 w6 p13 p14 w7 w8 w9 p15 p16 w10 w11 w12 w13 w14 p17 w15 w16 w17 h1 f0 h2 (upd F_41 (Int32.toNatClampNeg z_43) p20)) _ _ := h_45
        obtain ⟨F_44, eF_44⟩ : ∃ z, (upd F_41 (Int32.toNatClampNeg z_43) p20) = z := ⟨_, rfl⟩
        have trF_44_1 := (tr_ne eF_44 trF_41_1 rfl (by omega))
        have trF_44_2 := (tr_ne eF_44 trF_41_2 rfl (by omega))
        have trF_44_405 := (tr_ne eF_44 trF_41_405 rfl (by omega))
        rw [eF_44] at h_45
        refine lv_aload_n hx hb dX12_readLaw_77 rfl (lv_at hl_34 1 rfl) ?_
        refine q_get X hK h_45 0 rfl rfl wf_12 4 (by decide) rfl wm_5_174 dX12_readLaw_78 ?_
        refine lv_bipush (v := 9) hx hb dX12_readLaw_81 (by decide) ?_
        refine lv_iload_n hx hb dX12_readLaw_83 rfl (lv_at hl_34 2 rfl) ?_
        refine lv_iadd hx hb dX12_readLaw_84 ?_
        obtain ⟨z_46, ez_46, hz_46⟩ := e_add (x := 9) (y := p0) (show (9 : Int32).toInt = 9 by decide) rfl (by omega) (by omega)
        refine q_c z_46 ez_46 ?_
        clear ez_46
        refine lv_aload_n hx hb dX12_readLaw_85 rfl (lv_at hl_34 1 rfl) ?_
        refine q_get X hK h_45 0 rfl rfl wf_12 4 (by decide) rfl wm_5_174 dX12_readLaw_86 ?_
        refine lv_sipush (v := 405) hx hb dX12_readLaw_89 (by decide) ?_
        refine q_iald X hK h_45 2 rfl (q_in (by decide +kernel)) dX12_readLaw_92 ?_
        refine q_c (u_37.2.1 1 0) trF_44_405 ?_
        refine lv_iload_n hx hb dX12_readLaw_93 rfl (lv_at hl_34 0 rfl) ?_
        refine lv_isub hx hb dX12_readLaw_94 ?_
        obtain ⟨z_47, ez_47, hz_47⟩ := e_sub (x := (u_37.2.1 1 0)) (y := p20) rfl rfl (by omega) (by omega)
        refine q_c z_47 ez_47 ?_
        clear ez_47
        refine q_iast X hK h_45 2 rfl (i_in rfl (by omega) (by omega)) dX12_readLaw_95 (fun H locs h_49 => ?_)
        clear h_45
        replace h_49 : qW D _ _ (wk_8d528f753 cy h0 p1 w0 w1 h1 h2 p2 (u_37.2.1 2 0) (u_37.2.1 3 0) p5 (u_37.2.1 4 0) (u_37.2.1 5 0) (u_37.2.1 6 0) (u_37.2.1 7 0) p10 p11 p0 w2 w3 w4 w5 w6 p13 p14 w7 w8 w9 p15 p16 w10 w11 w12 w13 w14 p17 w15 w16 w17 h1 f0 h2 (upd F_44 (Int32.toNatClampNeg z_46) z_47)) _ _ := h_49
        obtain ⟨F_48, eF_48⟩ : ∃ z, (upd F_44 (Int32.toNatClampNeg z_46) z_47) = z := ⟨_, rfl⟩
        have trF_48_1 := (tr_ne eF_48 trF_44_1 rfl (by omega))
        have trF_48_2 := (tr_ne eF_48 trF_44_2 rfl (by omega))
        have trF_48_405 := (tr_ne eF_48 trF_44_405 rfl (by omega))
        rw [eF_48] at h_49
        exact q_vret X hr hlk hK h_49 (fun _ => 0, (vcons (fun _ => (u_37.2.1 2 0)) (vcons (fun _ => (u_37.2.1 3 0)) (vcons (fun _ => (u_37.2.1 4 0)) (vcons (fun _ => (u_37.2.1 5 0)) (vcons (fun _ => (u_37.2.1 6 0)) (vcons (fun _ => (u_37.2.1 7 0)) (vcons (fun _ => p0) (vcons F_48 (vcons (fun _ => (u_37.2.1 1 0)) (fun _ => (fun _ => 0))))))))))), fun _ _ => 0) ⟨w37_1, w37_2, w37_3, w37_4, w37_5, w37_6, hp0, w37_0, trF_48_1, trF_48_2, trF_48_405, y37_0, y37_1, (show (p3 : Int32).toInt ≤ ((u_37.2.1 2 0) : Int32).toInt from by (first | (clear hpre1 hpre2 y1_1 y2_1 y2_2d y37_1 y37_3 y37_4 y37_5; omega) | omega)), (show ((u_37.2.1 6 0) : Int32).toInt ≠ 0 ∨ (p8 : Int32).toInt = 0 from by (first | (clear hpre1 hpre2 y1_1 y2_1 y2_2d y37_1 y37_3 y37_4 y37_5; omega) | omega)), y37_5, (show HF ((u_37.2.1 6 0) : Int32).toInt F_48 (((u_37.2.1 1 0) : Int32).toInt).toNat from hf_w (hf_law (hf_rx hpre3 y37_6 (by (first | assumption | (clear hpre1 hpre2 y1_1 y2_1 y2_2d y37_1 y37_3 y37_4 y37_5; omega) | omega))) y37_6 eF_41 eF_44 eF_48 (by (first | assumption | (clear hpre1 hpre2 y1_1 y2_1 y2_2d y37_1 y37_3 y37_4 y37_5; omega) | omega)) (by (first | assumption | (clear hpre1 hpre2 y1_1 y2_1 y2_2d y37_1 y37_3 y37_4 y37_5; omega) | omega)) (by (first | assumption | (clear hpre1 hpre2 y1_1 y2_1 y2_2d y37_1 y37_3 y37_4 y37_5; omega) | omega)) (by (first | assumption | (clear hpre1 hpre2 y1_1 y2_1 y2_2d y37_1 y37_3 y37_4 y37_5; omega) | omega)) (by (first | assumption | (clear hpre1 hpre2 y1_1 y2_1 y2_2d y37_1 y37_3 y37_4 y37_5; omega) | omega))) (by (first | assumption | (clear hpre1 hpre2 y1_1 y2_1 y2_2d y37_1 y37_3 y37_4 y37_5; omega) | omega))), trivial⟩ [0, 1, 2] rfl rfl dX12_readLaw_96 (Nat.le_of_ble_eq_true rfl) (Nat.le_of_ble_eq_true rfl)
      · replace c_39 := i_ne (x := (u_37.2.1 6 0)) (y := 0) rfl (show (0 : Int32).toInt = 0 by decide) c_39
        exact q_vret X hr hlk hK h_37 (fun _ => 0, (vcons (fun _ => (u_37.2.1 2 0)) (vcons (fun _ => (u_37.2.1 3 0)) (vcons (fun _ => (u_37.2.1 4 0)) (vcons (fun _ => (u_37.2.1 5 0)) (vcons (fun _ => (u_37.2.1 6 0)) (vcons (fun _ => (u_37.2.1 7 0)) (vcons (fun _ => p0) (vcons (u_37.2.1 0) (vcons (fun _ => (u_37.2.1 1 0)) (fun _ => (fun _ => 0))))))))))), fun _ _ => 0) ⟨w37_1, w37_2, w37_3, w37_4, w37_5, w37_6, hp0, w37_0, w37_7, w37_8, w37_9, y37_0, y37_1, (show (p3 : Int32).toInt ≤ ((u_37.2.1 2 0) : Int32).toInt from by (first | (clear hpre1 hpre2 y1_1 y2_1 y2_2d y37_1 y37_3 y37_4 y37_5; omega) | omega)), (show ((u_37.2.1 6 0) : Int32).toInt ≠ 0 ∨ (p8 : Int32).toInt = 0 from by (first | (clear hpre1 hpre2 y1_1 y2_1 y2_2d y37_1 y37_3 y37_4 y37_5; omega) | omega)), y37_5, (show HF ((u_37.2.1 6 0) : Int32).toInt (u_37.2.1 0) (((u_37.2.1 1 0) : Int32).toInt).toNat from hf_w (hf_rx hpre3 y37_6 (by (first | assumption | (clear hpre1 hpre2 y1_1 y2_1 y2_2d y37_1 y37_3 y37_4 y37_5; omega) | omega))) (by (first | assumption | (clear hpre1 hpre2 y1_1 y2_1 y2_2d y37_1 y37_3 y37_4 y37_5; omega) | omega))), trivial⟩ [0, 1, 2] rfl rfl dX12_readLaw_57 (Nat.le_of_ble_eq_true rfl) (Nat.le_of_ble_eq_true rfl)
    · replace c_36 := i_eq (x := p0) (y := 2) rfl (show (2 : Int32).toInt = 2 by decide) c_36
      refine lv_aload_n hx hb dX12_readLaw_37 rfl (lv_at hl_34 1 rfl) ?_
      refine lv_iconst (v := 0) hx hb dX12_readLaw_38 (by decide) ?_
      refine q_callVv (rest := []) (wr := []) X hK hT hA h_35 (fun sz => (gX12_ALLS_6fe8e24 l D cy 6)  h0 h1 h2 (0 : Int32) p1 w0 w1 p2 (u_2.2.1 0 0) (u_2.2.1 1 0) p5 (u_2.2.1 2 0) (u_2.2.1 3 0) (u_33.2.1 0 0) (u_33.2.1 1 0) p10 p11 p0 w2 w3 w4 w5 w6 p13 p14 w7 w8 w9 p15 p16 w10 w11 w12 w13 w14 p17 w15 w16 w17 f0 f1 p18 p19 p20 ⟨by decide +kernel, by decide +kernel⟩ hp1 hp2 w2_0 w2_1 hp5 (i_rng _) w2_3 (i_rng _) (i_rng _) (i_rng _) (i_rng _) (i_rng _) (i_rng _) (i_rng _) (i_rng _) (i_rng _) (i_rng _) (i_rng _) hp19 hp20 htf1_1 htf1_2 htf1_405 (y2_0) (y2_1) (by (first | (clear hpre1 hpre2 y1_1 y2_1 y2_2d; omega) | omega)) (by decide) sz) wm_6_114 wm_6_117 wm_1_12 hd_X12_readSum wm_6_116 wp_4_15 (ci := 12) (q0 := 0) rfl rfl ⟨Nat.le_of_ble_eq_true rfl, Nat.le_of_ble_eq_true rfl⟩ hl_34.1 rfl (Nat.le_of_ble_eq_true rfl) dX12_readLaw_39 ⟨Nat.le_of_ble_eq_true rfl, Nat.le_of_ble_eq_true rfl⟩ [2, 1, 0] [] rfl rfl (by decide) rfl rfl (fun u_50 H locs w_50 h_50 => ?_)
      clear h_35
      obtain ⟨w50_0, w50_1, w50_2, w50_3, w50_4, w50_5, w50_6, w50_7, w50_8, w50_9, y50_0, y50_1, y50_2, y50_3, y50_4, y50_5, y50_6, _⟩ := w_50
      have lq_50_1 : (0 : Int32).toInt = 0 := (by decide)
      replace h_50 : qW D _ _ (wk_8d528f753 cy h0 p1 w0 w1 h1 h2 p2 (u_50.2.1 2 0) (u_50.2.1 3 0) p5 (u_50.2.1 4 0) (u_50.2.1 5 0) (u_50.2.1 6 0) (u_50.2.1 7 0) p10 p11 p0 w2 w3 w4 w5 w6 p13 p14 w7 w8 w9 p15 p16 w10 w11 w12 w13 w14 p17 w15 w16 w17 h1 f0 h2 (u_50.2.1 0)) _ _ := h_50
      refine lv_goto (tgt := 50) hx hb dX12_readLaw_42 (by decide) ?_
      refine lv_aload_n hx hb dX12_readLaw_50 rfl (lv_at hl_34 1 rfl) ?_
      refine q_get X hK h_50 0 rfl rfl wf_12 11 (by decide) rfl wm_5_181 dX12_readLaw_51 ?_
      refine lv_if_eq (tgt := 58) hx hb dX12_readLaw_54 (by decide) (fun c_52 => ?_) (fun c_52 => ?_)
      · replace c_52 := i_eq (x := (u_50.2.1 6 0)) (y := 0) rfl (show (0 : Int32).toInt = 0 by decide) c_52
        refine lv_aload_n hx hb dX12_readLaw_58 rfl (lv_at hl_34 1 rfl) ?_
        refine q_get X hK h_50 0 rfl rfl wf_12 4 (by decide) rfl wm_5_174 dX12_readLaw_59 ?_
        refine lv_iconst (v := 3) hx hb dX12_readLaw_62 (by decide) ?_
        refine lv_iload_n hx hb dX12_readLaw_63 rfl (lv_at hl_34 2 rfl) ?_
        refine lv_iadd hx hb dX12_readLaw_64 ?_
        obtain ⟨z_53, ez_53, hz_53⟩ := e_add (x := 3) (y := p0) (show (3 : Int32).toInt = 3 by decide) rfl (by omega) (by omega)
        refine q_c z_53 ez_53 ?_
        clear ez_53
        refine lv_iconst (v := 1) hx hb dX12_readLaw_65 (by decide) ?_
        refine q_iast X hK h_50 2 rfl (i_in rfl (by omega) (by omega)) dX12_readLaw_66 (fun H locs h_55 => ?_)
        clear h_50
        replace h_55 : qW D _ _ (wk_8d528f753 cy h0 p1 w0 w1 h1 h2 p2 (u_50.2.1 2 0) (u_50.2.1 3 0) p5 (u_50.2.1 4 0) (u_50.2.1 5 0) (u_50.2.1 6 0) (u_50.2.1 7 0) p10 p11 p0 w2 w3 w4 w5 w6 p13 p14 w7 w8 w9 p15 p16 w10 w11 w12 w13 w14 p17 w15 w16 w17 h1 f0 h2 (upd (u_50.2.1 0) (Int32.toNatClampNeg z_53) 1)) _ _ := h_55
        obtain ⟨F_54, eF_54⟩ : ∃ z, (upd (u_50.2.1 0) (Int32.toNatClampNeg z_53) 1) = z := ⟨_, rfl⟩
        have trF_54_1 := (tr_ne eF_54 w50_7 rfl (by omega))
        have trF_54_2 := (tr_ne eF_54 w50_8 rfl (by omega))
        have trF_54_405 := (tr_ne eF_54 w50_9 rfl (by omega))
        rw [eF_54] at h_55
        refine lv_aload_n hx hb dX12_readLaw_67 rfl (lv_at hl_34 1 rfl) ?_
        refine q_get X hK h_55 0 rfl rfl wf_12 4 (by decide) rfl wm_5_174 dX12_readLaw_68 ?_
        refine lv_bipush (v := 6) hx hb dX12_readLaw_71 (by decide) ?_
        refine lv_iload_n hx hb dX12_readLaw_73 rfl (lv_at hl_34 2 rfl) ?_
        refine lv_iadd hx hb dX12_readLaw_74 ?_
        obtain ⟨z_56, ez_56, hz_56⟩ := e_add (x := 6) (y := p0) (show (6 : Int32).toInt = 6 by decide) rfl (by omega) (by omega)
        refine q_c z_56 ez_56 ?_
        clear ez_56
        refine lv_iload_n hx hb dX12_readLaw_75 rfl (lv_at hl_34 0 rfl) ?_
        refine q_iast X hK h_55 2 rfl (i_in rfl (by omega) (by omega)) dX12_readLaw_76 (fun H locs h_58 => ?_)
        clear h_55
        replace h_58 : qW D _ _ (wk_8d528f753 cy h0 p1 w0 w1 h1 h2 p2 (u_50.2.1 2 0) (u_50.2.1 3 0) p5 (u_50.2.1 4 0) (u_50.2.1 5 0) (u_50.2.1 6 0) (u_50.2.1 7 0) p10 p11 p0 w2 w3 w4 w5 w6 p13 p14 w7 w8 w9 p15 p16 w10 w11 w12 w13 w14 p17 w15 w16 w17 h1 f0 h2 (upd F_54 (Int32.toNatClampNeg z_56) p20)) _ _ := h_58
        obtain ⟨F_57, eF_57⟩ : ∃ z, (upd F_54 (Int32.toNatClampNeg z_56) p20) = z := ⟨_, rfl⟩
        have trF_57_1 := (tr_ne eF_57 trF_54_1 rfl (by omega))
        have trF_57_2 := (tr_ne eF_57 trF_54_2 rfl (by omega))
        have trF_57_405 := (tr_ne eF_57 trF_54_405 rfl (by omega))
        rw [eF_57] at h_58
        refine lv_aload_n hx hb dX12_readLaw_77 rfl (lv_at hl_34 1 rfl) ?_
        refine q_get X hK h_58 0 rfl rfl wf_12 4 (by decide) rfl wm_5_174 dX12_readLaw_78 ?_
        refine lv_bipush (v := 9) hx hb dX12_readLaw_81 (by decide) ?_
        refine lv_iload_n hx hb dX12_readLaw_83 rfl (lv_at hl_34 2 rfl) ?_
        refine lv_iadd hx hb dX12_readLaw_84 ?_
        obtain ⟨z_59, ez_59, hz_59⟩ := e_add (x := 9) (y := p0) (show (9 : Int32).toInt = 9 by decide) rfl (by omega) (by omega)
        refine q_c z_59 ez_59 ?_
        clear ez_59
        refine lv_aload_n hx hb dX12_readLaw_85 rfl (lv_at hl_34 1 rfl) ?_
        refine q_get X hK h_58 0 rfl rfl wf_12 4 (by decide) rfl wm_5_174 dX12_readLaw_86 ?_
        refine lv_sipush (v := 405) hx hb dX12_readLaw_89 (by decide) ?_
        refine q_iald X hK h_58 2 rfl (q_in (by decide +kernel)) dX12_readLaw_92 ?_
        refine q_c (u_50.2.1 1 0) trF_57_405 ?_
        refine lv_iload_n hx hb dX12_readLaw_93 rfl (lv_at hl_34 0 rfl) ?_
        refine lv_isub hx hb dX12_readLaw_94 ?_
        obtain ⟨z_60, ez_60, hz_60⟩ := e_sub (x := (u_50.2.1 1 0)) (y := p20) rfl rfl (by omega) (by omega)
        refine q_c z_60 ez_60 ?_
        clear ez_60
        refine q_iast X hK h_58 2 rfl (i_in rfl (by omega) (by omega)) dX12_readLaw_95 (fun H locs h_62 => ?_)
        clear h_58
        replace h_62 : qW D _ _ (wk_8d528f753 cy h0 p1 w0 w1 h1 h2 p2 (u_50.2.1 2 0) (u_50.2.1 3 0) p5 (u_50.2.1 4 0) (u_50.2.1 5 0) (u_50.2.1 6 0) (u_50.2.1 7 0) p10 p11 p0 w2 w3 w4 w5 w6 p13 p14 w7 w8 w9 p15 p16 w10 w11 w12 w13 w14 p17 w15 w16 w17 h1 f0 h2 (upd F_57 (Int32.toNatClampNeg z_59) z_60)) _ _ := h_62
        obtain ⟨F_61, eF_61⟩ : ∃ z, (upd F_57 (Int32.toNatClampNeg z_59) z_60) = z := ⟨_, rfl⟩
        have trF_61_1 := (tr_ne eF_61 trF_57_1 rfl (by omega))
        have trF_61_2 := (tr_ne eF_61 trF_57_2 rfl (by omega))
        have trF_61_405 := (tr_ne eF_61 trF_57_405 rfl (by omega))
        rw [eF_61] at h_62
        exact q_vret X hr hlk hK h_62 (fun _ => 0, (vcons (fun _ => (u_50.2.1 2 0)) (vcons (fun _ => (u_50.2.1 3 0)) (vcons (fun _ => (u_50.2.1 4 0)) (vcons (fun _ => (u_50.2.1 5 0)) (vcons (fun _ => (u_50.2.1 6 0)) (vcons (fun _ => (u_50.2.1 7 0)) (vcons (fun _ => p0) (vcons F_61 (vcons (fun _ => (u_50.2.1 1 0)) (fun _ => (fun _ => 0))))))))))), fun _ _ => 0) ⟨w50_1, w50_2, w50_3, w50_4, w50_5, w50_6, hp0, w50_0, trF_61_1, trF_61_2, trF_61_405, y50_0, y50_1, (show (p3 : Int32).toInt ≤ ((u_50.2.1 2 0) : Int32).toInt from by (first | (clear hpre1 hpre2 y1_1 y2_1 y2_2d y50_1 y50_3 y50_4 y50_5; omega) | omega)), (show ((u_50.2.1 6 0) : Int32).toInt ≠ 0 ∨ (p8 : Int32).toInt = 0 from by (first | (clear hpre1 hpre2 y1_1 y2_1 y2_2d y50_1 y50_3 y50_4 y50_5; omega) | omega)), y50_5, (show HF ((u_50.2.1 6 0) : Int32).toInt F_61 (((u_50.2.1 1 0) : Int32).toInt).toNat from hf_w (hf_law (hf_rx hpre3 y50_6 (by (first | assumption | (clear hpre1 hpre2 y1_1 y2_1 y2_2d y50_1 y50_3 y50_4 y50_5; omega) | omega))) y50_6 eF_54 eF_57 eF_61 (by (first | assumption | (clear hpre1 hpre2 y1_1 y2_1 y2_2d y50_1 y50_3 y50_4 y50_5; omega) | omega)) (by (first | assumption | (clear hpre1 hpre2 y1_1 y2_1 y2_2d y50_1 y50_3 y50_4 y50_5; omega) | omega)) (by (first | assumption | (clear hpre1 hpre2 y1_1 y2_1 y2_2d y50_1 y50_3 y50_4 y50_5; omega) | omega)) (by (first | assumption | (clear hpre1 hpre2 y1_1 y2_1 y2_2d y50_1 y50_3 y50_4 y50_5; omega) | omega)) (by (first | assumption | (clear hpre1 hpre2 y1_1 y2_1 y2_2d y50_1 y50_3 y50_4 y50_5; omega) | omega))) (by (first | assumption | (clear hpre1 hpre2 y1_1 y2_1 y2_2d y50_1 y50_3 y50_4 y50_5; omega) | omega))), trivial⟩ [0, 1, 2] rfl rfl dX12_readLaw_96 (Nat.le_of_ble_eq_true rfl) (Nat.le_of_ble_eq_true rfl)
      · replace c_52 := i_ne (x := (u_50.2.1 6 0)) (y := 0) rfl (show (0 : Int32).toInt = 0 by decide) c_52
        exact q_vret X hr hlk hK h_50 (fun _ => 0, (vcons (fun _ => (u_50.2.1 2 0)) (vcons (fun _ => (u_50.2.1 3 0)) (vcons (fun _ => (u_50.2.1 4 0)) (vcons (fun _ => (u_50.2.1 5 0)) (vcons (fun _ => (u_50.2.1 6 0)) (vcons (fun _ => (u_50.2.1 7 0)) (vcons (fun _ => p0) (vcons (u_50.2.1 0) (vcons (fun _ => (u_50.2.1 1 0)) (fun _ => (fun _ => 0))))))))))), fun _ _ => 0) ⟨w50_1, w50_2, w50_3, w50_4, w50_5, w50_6, hp0, w50_0, w50_7, w50_8, w50_9, y50_0, y50_1, (show (p3 : Int32).toInt ≤ ((u_50.2.1 2 0) : Int32).toInt from by (first | (clear hpre1 hpre2 y1_1 y2_1 y2_2d y50_1 y50_3 y50_4 y50_5; omega) | omega)), (show ((u_50.2.1 6 0) : Int32).toInt ≠ 0 ∨ (p8 : Int32).toInt = 0 from by (first | (clear hpre1 hpre2 y1_1 y2_1 y2_2d y50_1 y50_3 y50_4 y50_5; omega) | omega)), y50_5, (show HF ((u_50.2.1 6 0) : Int32).toInt (u_50.2.1 0) (((u_50.2.1 1 0) : Int32).toInt).toNat from hf_w (hf_rx hpre3 y50_6 (by (first | assumption | (clear hpre1 hpre2 y1_1 y2_1 y2_2d y50_1 y50_3 y50_4 y50_5; omega) | omega))) (by (first | assumption | (clear hpre1 hpre2 y1_1 y2_1 y2_2d y50_1 y50_3 y50_4 y50_5; omega) | omega))), trivial⟩ [0, 1, 2] rfl rfl dX12_readLaw_57 (Nat.le_of_ble_eq_true rfl) (Nat.le_of_ble_eq_true rfl)
set_option maxHeartbeats 4000000 in
set_option maxRecDepth 100000 in
theorem gX12_is_a9e7975 (l : Launch) (D : va_G) (cy : Nat → ClassId) (h0 : Nat) (p0 : Int32) (w0 : Value) (w1 : Value) (w2 : Value) (w3 : Value) (p1 : Int32) (p2 : Int32) (p3 : Int32) (p4 : Int32) (p5 : Int32) (p6 : Int32) (p7 : Int32) (p8 : Int32) (p9 : Int32) (p10 : Int32) (p11 : Int32) (w4 : Value) (w5 : Value) (w6 : Value) (w7 : Value) (w8 : Value) (p12 : Int32) (p13 : Int32) (w9 : Value) (w10 : Value) (w11 : Value) (p14 : Int32) (p15 : Int32) (w12 : Value) (w13 : Value) (w14 : Value) (w15 : Value) (w16 : Value) (p16 : Int32) (w17 : Value) (w18 : Value) (w19 : Value) (hp0 : 0 ≤ (p0).toInt ∧ (p0).toInt ≤ 0) (hp1 : 0 ≤ (p1).toInt ∧ (p1).toInt ≤ 900) (hp2 : 0 ≤ (p2).toInt ∧ (p2).toInt ≤ 900) (hp3 : 0 ≤ (p3).toInt ∧ (p3).toInt ≤ 900) (hp4 : 0 ≤ (p4).toInt ∧ (p4).toInt ≤ 900) (hp5 : (-2147483648) ≤ (p5).toInt ∧ (p5).toInt ≤ 2147483647) (hp6 : 0 ≤ (p6).toInt ∧ (p6).toInt ≤ 999) (hp7 : (-2147483648) ≤ (p7).toInt ∧ (p7).toInt ≤ 2147483647) (hp8 : (-2147483648) ≤ (p8).toInt ∧ (p8).toInt ≤ 2147483647) (hp9 : (-2147483648) ≤ (p9).toInt ∧ (p9).toInt ≤ 2147483647) (hp10 : (-2147483648) ≤ (p10).toInt ∧ (p10).toInt ≤ 2147483647) (hp11 : (-2147483648) ≤ (p11).toInt ∧ (p11).toInt ≤ 2147483647) (hp12 : (-2147483648) ≤ (p12).toInt ∧ (p12).toInt ≤ 2147483647) (hp13 : (-2147483648) ≤ (p13).toInt ∧ (p13).toInt ≤ 2147483647) (hp14 : (-2147483648) ≤ (p14).toInt ∧ (p14).toInt ≤ 2147483647) (hp15 : (-2147483648) ≤ (p15).toInt ∧ (p15).toInt ≤ 2147483647) (hp16 : (-2147483648) ≤ (p16).toInt ∧ (p16).toInt ≤ 2147483647) (sz : Nat) : MI l yX12_is cX12_is 2 .boolean { frames := 0, cells := 0, slots := 0, locals := 0 } [.ref h0, .int 3] D cy [(h0, .inr (12, [.int p0, w0, w1, w2, w3, .int p1, .int p2, .int p3, .int p4, .int p5, .int p6, .int p7, .int p8, .int p9, .int p10, .int p11, w4, w5, w6, w7, w8, .int p12, .int p13, w9, w10, w11, .int p14, .int p15, w12, w13, w14, w15, w16, .int p16, w17, w18, w19]))] sz (fun r u => (0 ≤ r.toInt ∧ r.toInt ≤ 1) ∧ (((r : Int32).toInt = 1 ∧ (p7 : Int32).toInt = 0 ∧ (p5 : Int32).toInt = (3 : Int32).toInt) ∨ ((r : Int32).toInt = 0 ∧ ((p7 : Int32).toInt ≠ 0 ∨ (p5 : Int32).toInt ≠ (3 : Int32).toInt))) ∧ True) (fun u => [(h0, .inr (12, [.int p0, w0, w1, w2, w3, .int p1, .int p2, .int p3, .int p4, .int p5, .int p6, .int p7, .int p8, .int p9, .int p10, .int p11, w4, w5, w6, w7, w8, .int p12, .int p13, w9, w10, w11, .int p14, .int p15, w12, w13, w14, w15, w16, .int p16, w17, w18, w19]))]) 0 0 := by
  refine q_ent (own := RX12) (by decide) rfl (Nat.le_of_ble_eq_true rfl) (fun p e s m below meth c ls X hr hlk hnm hK hT h hA hl => ?_)
  obtain ⟨hx, hb, hml, hown, ht⟩ := id X
  replace hl : lv_has ls 2 [(0, .ref h0), (1, .int 3)] := hl
  refine lv_aload_n hx hb dX12_is_0 rfl (lv_at hl 0 rfl) ?_
  refine q_get X hK h 0 rfl rfl wf_12 11 (by decide) rfl wm_5_181 dX12_is_1 ?_
  refine lv_if_ne (tgt := 19) hx hb dX12_is_4 (by decide) (fun c_1 => ?_) (fun c_1 => ?_)
  · replace c_1 := i_ne (x := p7) (y := 0) rfl (show (0 : Int32).toInt = 0 by decide) c_1
    refine lv_iconst (v := 0) hx hb dX12_is_19 (by decide) ?_
    exact q_iret X hr hlk hK h rfl (fun _ => 0, fun _ _ => 0, fun _ _ => 0) ⟨⟨by decide +kernel, by decide +kernel⟩, (show ((0 : Int32).toInt = 1 ∧ (p7 : Int32).toInt = 0 ∧ (p5 : Int32).toInt = (3 : Int32).toInt) ∨ ((0 : Int32).toInt = 0 ∧ ((p7 : Int32).toInt ≠ 0 ∨ (p5 : Int32).toInt ≠ (3 : Int32).toInt)) from by have q0 : (0 : Int32).toInt = 0 := (by decide); have q1 : (3 : Int32).toInt = 3 := (by decide); omega), trivial⟩ [0] rfl rfl dX12_is_20 (Nat.le_of_ble_eq_true rfl) (Nat.le_of_ble_eq_true rfl)
  · replace c_1 := i_eq (x := p7) (y := 0) rfl (show (0 : Int32).toInt = 0 by decide) c_1
    refine lv_aload_n hx hb dX12_is_7 rfl (lv_at hl 0 rfl) ?_
    refine q_get X hK h 0 rfl rfl wf_12 9 (by decide) rfl wm_5_179 dX12_is_8 ?_
    refine lv_iload_n hx hb dX12_is_11 rfl (lv_at hl 1 rfl) ?_
    refine lv_icmp_ne (tgt := 19) hx hb dX12_is_12 (by decide) (fun c_2 => ?_) (fun c_2 => ?_)
    · replace c_2 := i_ne (x := p5) (y := 3) rfl (show (3 : Int32).toInt = 3 by decide) c_2
      refine lv_iconst (v := 0) hx hb dX12_is_19 (by decide) ?_
      exact q_iret X hr hlk hK h rfl (fun _ => 0, fun _ _ => 0, fun _ _ => 0) ⟨⟨by decide +kernel, by decide +kernel⟩, (show ((0 : Int32).toInt = 1 ∧ (p7 : Int32).toInt = 0 ∧ (p5 : Int32).toInt = (3 : Int32).toInt) ∨ ((0 : Int32).toInt = 0 ∧ ((p7 : Int32).toInt ≠ 0 ∨ (p5 : Int32).toInt ≠ (3 : Int32).toInt)) from by have q0 : (0 : Int32).toInt = 0 := (by decide); have q1 : (3 : Int32).toInt = 3 := (by decide); omega), trivial⟩ [0] rfl rfl dX12_is_20 (Nat.le_of_ble_eq_true rfl) (Nat.le_of_ble_eq_true rfl)
    · replace c_2 := i_eq (x := p5) (y := 3) rfl (show (3 : Int32).toInt = 3 by decide) c_2
      refine lv_iconst (v := 1) hx hb dX12_is_15 (by decide) ?_
      refine lv_goto (tgt := 20) hx hb dX12_is_16 (by decide) ?_
      exact q_iret X hr hlk hK h rfl (fun _ => 0, fun _ _ => 0, fun _ _ => 0) ⟨⟨by decide +kernel, by decide +kernel⟩, (show ((1 : Int32).toInt = 1 ∧ (p7 : Int32).toInt = 0 ∧ (p5 : Int32).toInt = (3 : Int32).toInt) ∨ ((1 : Int32).toInt = 0 ∧ ((p7 : Int32).toInt ≠ 0 ∨ (p5 : Int32).toInt ≠ (3 : Int32).toInt)) from by have q0 : (1 : Int32).toInt = 1 := (by decide); have q1 : (3 : Int32).toInt = 3 := (by decide); omega), trivial⟩ [0] rfl rfl dX12_is_20 (Nat.le_of_ble_eq_true rfl) (Nat.le_of_ble_eq_true rfl)
set_option maxHeartbeats 4000000 in
set_option maxRecDepth 100000 in
theorem gX12_eats_fa2d55f (l : Launch) (D : va_G) (cy : Nat → ClassId) (h0 : Nat) (h1 : Nat) (p0 : Int32) (w0 : Value) (w1 : Value) (w2 : Value) (p1 : Int32) (p2 : Int32) (p3 : Int32) (p4 : Int32) (p5 : Int32) (p6 : Int32) (p7 : Int32) (p8 : Int32) (p9 : Int32) (p10 : Int32) (p11 : Int32) (w3 : Value) (w4 : Value) (w5 : Value) (w6 : Value) (w7 : Value) (p12 : Int32) (p13 : Int32) (w8 : Value) (w9 : Value) (w10 : Value) (p14 : Int32) (p15 : Int32) (w11 : Value) (w12 : Value) (w13 : Value) (w14 : Value) (w15 : Value) (p16 : Int32) (w16 : Value) (w17 : Value) (w18 : Value) (f0 : Nat → Int32) (hp0 : 0 ≤ (p0).toInt ∧ (p0).toInt ≤ 0) (hp1 : 0 ≤ (p1).toInt ∧ (p1).toInt ≤ 900) (hp2 : 0 ≤ (p2).toInt ∧ (p2).toInt ≤ 900) (hp3 : 0 ≤ (p3).toInt ∧ (p3).toInt ≤ 900) (hp4 : 0 ≤ (p4).toInt ∧ (p4).toInt ≤ 900) (hp5 : (-2147483648) ≤ (p5).toInt ∧ (p5).toInt ≤ 2147483647) (hp6 : 0 ≤ (p6).toInt ∧ (p6).toInt ≤ 999) (hp7 : (-2147483648) ≤ (p7).toInt ∧ (p7).toInt ≤ 2147483647) (hp8 : (-2147483648) ≤ (p8).toInt ∧ (p8).toInt ≤ 2147483647) (hp9 : (-2147483648) ≤ (p9).toInt ∧ (p9).toInt ≤ 2147483647) (hp10 : (-2147483648) ≤ (p10).toInt ∧ (p10).toInt ≤ 2147483647) (hp11 : (-2147483648) ≤ (p11).toInt ∧ (p11).toInt ≤ 2147483647) (hp12 : (-2147483648) ≤ (p12).toInt ∧ (p12).toInt ≤ 2147483647) (hp13 : (-2147483648) ≤ (p13).toInt ∧ (p13).toInt ≤ 2147483647) (hp14 : (-2147483648) ≤ (p14).toInt ∧ (p14).toInt ≤ 2147483647) (hp15 : (-2147483648) ≤ (p15).toInt ∧ (p15).toInt ≤ 2147483647) (hp16 : (-2147483648) ≤ (p16).toInt ∧ (p16).toInt ≤ 2147483647) (hpre0 : 0 ≤ (p2 : Int32).toInt ∧ (p2 : Int32).toInt ≤ (p3 : Int32).toInt ∧ (p3 : Int32).toInt ≤ (p4 : Int32).toInt) (hpre1 : (p5 : Int32).toInt = 26 ∨ (p2 : Int32).toInt < (p3 : Int32).toInt) (sz : Nat) : MI l yX12_eats cX12_eats 2 .boolean { frames := 6, cells := 0, slots := 0, locals := 129 } [.ref h0, .int 3] D cy (wk_253faa1b8 cy h0 p0 w0 w1 h1 w2 p1 p2 p3 p4 p5 p6 p7 p8 p9 p10 p11 w3 w4 w5 w6 w7 p12 p13 w8 w9 w10 p14 p15 w11 w12 w13 w14 w15 p16 w16 w17 w18 h1 f0) sz (fun r u => (0 ≤ r.toInt ∧ r.toInt ≤ 1) ∧ (0 ≤ (u.2.1 0 0).toInt ∧ (u.2.1 0 0).toInt ≤ 900) ∧ (0 ≤ (u.2.1 1 0).toInt ∧ (u.2.1 1 0).toInt ≤ 900) ∧ ((-2147483648) ≤ (u.2.1 2 0).toInt ∧ (u.2.1 2 0).toInt ≤ 2147483647) ∧ (0 ≤ (u.2.1 3 0).toInt ∧ (u.2.1 3 0).toInt ≤ 999) ∧ (0 ≤ ((u.2.1 0 0) : Int32).toInt ∧ ((u.2.1 0 0) : Int32).toInt ≤ ((u.2.1 1 0) : Int32).toInt ∧ ((u.2.1 1 0) : Int32).toInt ≤ (p4 : Int32).toInt) ∧ (((u.2.1 2 0) : Int32).toInt = 26 ∨ ((u.2.1 0 0) : Int32).toInt < ((u.2.1 1 0) : Int32).toInt) ∧ (((r : Int32).toInt = 0 ∧ ((u.2.1 0 0) : Int32).toInt = (p2 : Int32).toInt ∧ ((u.2.1 1 0) : Int32).toInt = (p3 : Int32).toInt ∧ ((u.2.1 2 0) : Int32).toInt = (p5 : Int32).toInt ∧ ((p7 : Int32).toInt ≠ 0 ∨ ((u.2.1 2 0) : Int32).toInt ≠ (3 : Int32).toInt)) ∨ ((r : Int32).toInt = 1 ∧ (p3 : Int32).toInt ≤ ((u.2.1 0 0) : Int32).toInt ∧ (p7 : Int32).toInt = 0 ∧ (p5 : Int32).toInt = (3 : Int32).toInt)) ∧ True) (fun u => (wk_253faa1b8 cy h0 p0 w0 w1 h1 w2 p1 (u.2.1 0 0) (u.2.1 1 0) p4 (u.2.1 2 0) (u.2.1 3 0) p7 p8 p9 p10 p11 w3 w4 w5 w6 w7 p12 p13 w8 w9 w10 p14 p15 w11 w12 w13 w14 w15 p16 w16 w17 w18 h1 f0)) 0 0 := by
  refine q_ent (own := RX12) (by decide) rfl (Nat.le_of_ble_eq_true rfl) (fun p e s m below meth c ls X hr hlk hnm hK hT h hA hl => ?_)
  obtain ⟨hx, hb, hml, hown, ht⟩ := id X
  replace hl : lv_has ls 2 [(0, .ref h0), (1, .int 3)] := hl
  refine lv_aload_n hx hb dX12_eats_0 rfl (lv_at hl 0 rfl) ?_
  refine lv_iload_n hx hb dX12_eats_1 rfl (lv_at hl 1 rfl) ?_
  refine q_callVi (rest := []) (wr := [(h1, .inl (cy 1, 900, .inl f0))]) X hK hT hA h (fun sz => gX12_is_a9e7975 l D cy h0 p0 w0 w1 (.ref h1) w2 p1 p2 p3 p4 p5 p6 p7 p8 p9 p10 p11 w3 w4 w5 w6 w7 p12 p13 w8 w9 w10 p14 p15 w11 w12 w13 w14 w15 p16 w16 w17 w18 hp0 hp1 hp2 hp3 hp4 (i_rng _) hp6 (i_rng _) (i_rng _) (i_rng _) (i_rng _) (i_rng _) (i_rng _) (i_rng _) (i_rng _) (i_rng _) (i_rng _) sz) wm_6_79 wm_6_82 wm_1_12 hd_X12_is wm_6_81 wp_4_7 (ci := 12) (q0 := 0) rfl rfl ⟨Nat.le_of_ble_eq_true rfl, Nat.le_of_ble_eq_true rfl⟩ hl.1 rfl (Nat.le_of_ble_eq_true rfl) dX12_eats_2 ⟨Nat.le_of_ble_eq_true rfl, Nat.le_of_ble_eq_true rfl⟩ [0] [1] rfl rfl (by decide) rfl rfl (fun r_1 u_1 H locs w_1 h_1 => ?_)
  clear h
  obtain ⟨wr_1, y1_0, _⟩ := w_1
  have lq_1_1 : (3 : Int32).toInt = 3 := (by decide)
  replace h_1 : qW D _ _ (wk_e69636a28 cy h1 f0 h0 p0 w0 w1 h1 w2 p1 p2 p3 p4 p5 p6 p7 p8 p9 p10 p11 w3 w4 w5 w6 w7 p12 p13 w8 w9 w10 p14 p15 w11 w12 w13 w14 w15 p16 w16 w17 w18) _ _ := h_1
  refine lv_if_ne (tgt := 10) hx hb dX12_eats_5 (by decide) (fun c_2 => ?_) (fun c_2 => ?_)
  · replace c_2 := i_ne (x := r_1) (y := 0) rfl (show (0 : Int32).toInt = 0 by decide) c_2
    replace y1_0 := a10_1 y1_0 c_2
    refine lv_aload_n hx hb dX12_eats_10 rfl (lv_at hl 0 rfl) ?_
    refine q_callVv (rest := []) (wr := []) X hK hT hA h_1 (fun sz => gX12_next_c515fc5 l D cy h0 h1 p0 w0 w1 w2 p1 p2 p3 p4 p5 p6 p7 p8 p9 p10 p11 w3 w4 w5 w6 w7 p12 p13 w8 w9 w10 p14 p15 w11 w12 w13 w14 w15 p16 w16 w17 w18 f0 hp0 hp1 hp2 hp3 hp4 (i_rng _) hp6 (i_rng _) (i_rng _) (i_rng _) (i_rng _) (i_rng _) (i_rng _) (i_rng _) (i_rng _) (i_rng _) (i_rng _) (by (first | (clear hpre1; omega) | omega)) sz) wm_6_53 wm_6_56 wm_1_12 hd_X12_next wm_6_55 wp_4_3 (ci := 12) (q0 := 0) rfl rfl ⟨Nat.le_of_ble_eq_true rfl, Nat.le_of_ble_eq_true rfl⟩ hl.1 rfl (Nat.le_of_ble_eq_true rfl) dX12_eats_11 ⟨Nat.le_of_ble_eq_true rfl, Nat.le_of_ble_eq_true rfl⟩ [1, 0] [] rfl rfl (by decide) rfl rfl (fun u_3 H locs w_3 h_3 => ?_)
    clear h_1
    obtain ⟨w3_0, w3_1, w3_2, w3_3, y3_0, y3_1, y3_2, _⟩ := w_3
    replace h_3 : qW D _ _ (wk_253faa1b8 cy h0 p0 w0 w1 h1 w2 p1 (u_3.2.1 0 0) (u_3.2.1 1 0) p4 (u_3.2.1 2 0) (u_3.2.1 3 0) p7 p8 p9 p10 p11 w3 w4 w5 w6 w7 p12 p13 w8 w9 w10 p14 p15 w11 w12 w13 w14 w15 p16 w16 w17 w18 h1 f0) _ _ := h_3
    refine lv_iconst (v := 1) hx hb dX12_eats_14 (by decide) ?_
    exact q_iret X hr hlk hK h_3 rfl (fun _ => 0, (vcons (fun _ => (u_3.2.1 0 0)) (vcons (fun _ => (u_3.2.1 1 0)) (vcons (fun _ => (u_3.2.1 2 0)) (vcons (fun _ => (u_3.2.1 3 0)) (fun _ => (fun _ => 0)))))), fun _ _ => 0) ⟨⟨by decide +kernel, by decide +kernel⟩, w3_0, w3_1, w3_2, w3_3, y3_0, y3_1, (show ((1 : Int32).toInt = 0 ∧ ((u_3.2.1 0 0) : Int32).toInt = (p2 : Int32).toInt ∧ ((u_3.2.1 1 0) : Int32).toInt = (p3 : Int32).toInt ∧ ((u_3.2.1 2 0) : Int32).toInt = (p5 : Int32).toInt ∧ ((p7 : Int32).toInt ≠ 0 ∨ ((u_3.2.1 2 0) : Int32).toInt ≠ (3 : Int32).toInt)) ∨ ((1 : Int32).toInt = 1 ∧ (p3 : Int32).toInt ≤ ((u_3.2.1 0 0) : Int32).toInt ∧ (p7 : Int32).toInt = 0 ∧ (p5 : Int32).toInt = (3 : Int32).toInt) from by have q0 : (1 : Int32).toInt = 1 := (by decide); have q1 : (3 : Int32).toInt = 3 := (by decide); (first | (clear hpre1 y3_1; omega) | omega)), trivial⟩ [0, 1] rfl rfl dX12_eats_15 (Nat.le_of_ble_eq_true rfl) (Nat.le_of_ble_eq_true rfl)
  · replace c_2 := i_eq (x := r_1) (y := 0) rfl (show (0 : Int32).toInt = 0 by decide) c_2
    replace y1_0 := a10_0 y1_0 c_2
    refine lv_iconst (v := 0) hx hb dX12_eats_8 (by decide) ?_
    exact q_iret X hr hlk hK h_1 rfl (fun _ => 0, (vcons (fun _ => p2) (vcons (fun _ => p3) (vcons (fun _ => p5) (vcons (fun _ => p6) (fun _ => (fun _ => 0)))))), fun _ _ => 0) ⟨⟨by decide +kernel, by decide +kernel⟩, hp2, hp3, hp5, hp6, hpre0, hpre1, (show ((0 : Int32).toInt = 0 ∧ (p2 : Int32).toInt = (p2 : Int32).toInt ∧ (p3 : Int32).toInt = (p3 : Int32).toInt ∧ (p5 : Int32).toInt = (p5 : Int32).toInt ∧ ((p7 : Int32).toInt ≠ 0 ∨ (p5 : Int32).toInt ≠ (3 : Int32).toInt)) ∨ ((0 : Int32).toInt = 1 ∧ (p3 : Int32).toInt ≤ (p2 : Int32).toInt ∧ (p7 : Int32).toInt = 0 ∧ (p5 : Int32).toInt = (3 : Int32).toInt) from by have q0 : (0 : Int32).toInt = 0 := (by decide); have q1 : (3 : Int32).toInt = 3 := (by decide); (first | (clear hpre1 y1_0; omega) | omega)), trivial⟩ [1, 0] rfl rfl dX12_eats_9 (Nat.le_of_ble_eq_true rfl) (Nat.le_of_ble_eq_true rfl)
set_option maxHeartbeats 4000000 in
set_option maxRecDepth 100000 in
theorem gX12_is_4f1594d (l : Launch) (D : va_G) (cy : Nat → ClassId) (h0 : Nat) (p0 : Int32) (w0 : Value) (w1 : Value) (w2 : Value) (w3 : Value) (p1 : Int32) (p2 : Int32) (p3 : Int32) (p4 : Int32) (p5 : Int32) (p6 : Int32) (p7 : Int32) (p8 : Int32) (p9 : Int32) (p10 : Int32) (p11 : Int32) (w4 : Value) (w5 : Value) (w6 : Value) (w7 : Value) (w8 : Value) (p12 : Int32) (p13 : Int32) (w9 : Value) (w10 : Value) (w11 : Value) (p14 : Int32) (p15 : Int32) (w12 : Value) (w13 : Value) (w14 : Value) (w15 : Value) (w16 : Value) (p16 : Int32) (w17 : Value) (w18 : Value) (w19 : Value) (hp0 : 0 ≤ (p0).toInt ∧ (p0).toInt ≤ 0) (hp1 : 0 ≤ (p1).toInt ∧ (p1).toInt ≤ 900) (hp2 : 0 ≤ (p2).toInt ∧ (p2).toInt ≤ 900) (hp3 : 0 ≤ (p3).toInt ∧ (p3).toInt ≤ 900) (hp4 : 0 ≤ (p4).toInt ∧ (p4).toInt ≤ 900) (hp5 : (-2147483648) ≤ (p5).toInt ∧ (p5).toInt ≤ 2147483647) (hp6 : 0 ≤ (p6).toInt ∧ (p6).toInt ≤ 999) (hp7 : (-2147483648) ≤ (p7).toInt ∧ (p7).toInt ≤ 2147483647) (hp8 : (-2147483648) ≤ (p8).toInt ∧ (p8).toInt ≤ 2147483647) (hp9 : (-2147483648) ≤ (p9).toInt ∧ (p9).toInt ≤ 2147483647) (hp10 : (-2147483648) ≤ (p10).toInt ∧ (p10).toInt ≤ 2147483647) (hp11 : (-2147483648) ≤ (p11).toInt ∧ (p11).toInt ≤ 2147483647) (hp12 : (-2147483648) ≤ (p12).toInt ∧ (p12).toInt ≤ 2147483647) (hp13 : (-2147483648) ≤ (p13).toInt ∧ (p13).toInt ≤ 2147483647) (hp14 : (-2147483648) ≤ (p14).toInt ∧ (p14).toInt ≤ 2147483647) (hp15 : (-2147483648) ≤ (p15).toInt ∧ (p15).toInt ≤ 2147483647) (hp16 : (-2147483648) ≤ (p16).toInt ∧ (p16).toInt ≤ 2147483647) (sz : Nat) : MI l yX12_is cX12_is 2 .boolean { frames := 0, cells := 0, slots := 0, locals := 0 } [.ref h0, .int 5] D cy [(h0, .inr (12, [.int p0, w0, w1, w2, w3, .int p1, .int p2, .int p3, .int p4, .int p5, .int p6, .int p7, .int p8, .int p9, .int p10, .int p11, w4, w5, w6, w7, w8, .int p12, .int p13, w9, w10, w11, .int p14, .int p15, w12, w13, w14, w15, w16, .int p16, w17, w18, w19]))] sz (fun r u => (0 ≤ r.toInt ∧ r.toInt ≤ 1) ∧ (((r : Int32).toInt = 1 ∧ (p7 : Int32).toInt = 0 ∧ (p5 : Int32).toInt = (5 : Int32).toInt) ∨ ((r : Int32).toInt = 0 ∧ ((p7 : Int32).toInt ≠ 0 ∨ (p5 : Int32).toInt ≠ (5 : Int32).toInt))) ∧ True) (fun u => [(h0, .inr (12, [.int p0, w0, w1, w2, w3, .int p1, .int p2, .int p3, .int p4, .int p5, .int p6, .int p7, .int p8, .int p9, .int p10, .int p11, w4, w5, w6, w7, w8, .int p12, .int p13, w9, w10, w11, .int p14, .int p15, w12, w13, w14, w15, w16, .int p16, w17, w18, w19]))]) 0 0 := by
  refine q_ent (own := RX12) (by decide) rfl (Nat.le_of_ble_eq_true rfl) (fun p e s m below meth c ls X hr hlk hnm hK hT h hA hl => ?_)
  obtain ⟨hx, hb, hml, hown, ht⟩ := id X
  replace hl : lv_has ls 2 [(0, .ref h0), (1, .int 5)] := hl
  refine lv_aload_n hx hb dX12_is_0 rfl (lv_at hl 0 rfl) ?_
  refine q_get X hK h 0 rfl rfl wf_12 11 (by decide) rfl wm_5_181 dX12_is_1 ?_
  refine lv_if_ne (tgt := 19) hx hb dX12_is_4 (by decide) (fun c_1 => ?_) (fun c_1 => ?_)
  · replace c_1 := i_ne (x := p7) (y := 0) rfl (show (0 : Int32).toInt = 0 by decide) c_1
    refine lv_iconst (v := 0) hx hb dX12_is_19 (by decide) ?_
    exact q_iret X hr hlk hK h rfl (fun _ => 0, fun _ _ => 0, fun _ _ => 0) ⟨⟨by decide +kernel, by decide +kernel⟩, (show ((0 : Int32).toInt = 1 ∧ (p7 : Int32).toInt = 0 ∧ (p5 : Int32).toInt = (5 : Int32).toInt) ∨ ((0 : Int32).toInt = 0 ∧ ((p7 : Int32).toInt ≠ 0 ∨ (p5 : Int32).toInt ≠ (5 : Int32).toInt)) from by have q0 : (0 : Int32).toInt = 0 := (by decide); have q1 : (5 : Int32).toInt = 5 := (by decide); omega), trivial⟩ [0] rfl rfl dX12_is_20 (Nat.le_of_ble_eq_true rfl) (Nat.le_of_ble_eq_true rfl)
  · replace c_1 := i_eq (x := p7) (y := 0) rfl (show (0 : Int32).toInt = 0 by decide) c_1
    refine lv_aload_n hx hb dX12_is_7 rfl (lv_at hl 0 rfl) ?_
    refine q_get X hK h 0 rfl rfl wf_12 9 (by decide) rfl wm_5_179 dX12_is_8 ?_
    refine lv_iload_n hx hb dX12_is_11 rfl (lv_at hl 1 rfl) ?_
    refine lv_icmp_ne (tgt := 19) hx hb dX12_is_12 (by decide) (fun c_2 => ?_) (fun c_2 => ?_)
    · replace c_2 := i_ne (x := p5) (y := 5) rfl (show (5 : Int32).toInt = 5 by decide) c_2
      refine lv_iconst (v := 0) hx hb dX12_is_19 (by decide) ?_
      exact q_iret X hr hlk hK h rfl (fun _ => 0, fun _ _ => 0, fun _ _ => 0) ⟨⟨by decide +kernel, by decide +kernel⟩, (show ((0 : Int32).toInt = 1 ∧ (p7 : Int32).toInt = 0 ∧ (p5 : Int32).toInt = (5 : Int32).toInt) ∨ ((0 : Int32).toInt = 0 ∧ ((p7 : Int32).toInt ≠ 0 ∨ (p5 : Int32).toInt ≠ (5 : Int32).toInt)) from by have q0 : (0 : Int32).toInt = 0 := (by decide); have q1 : (5 : Int32).toInt = 5 := (by decide); omega), trivial⟩ [0] rfl rfl dX12_is_20 (Nat.le_of_ble_eq_true rfl) (Nat.le_of_ble_eq_true rfl)
    · replace c_2 := i_eq (x := p5) (y := 5) rfl (show (5 : Int32).toInt = 5 by decide) c_2
      refine lv_iconst (v := 1) hx hb dX12_is_15 (by decide) ?_
      refine lv_goto (tgt := 20) hx hb dX12_is_16 (by decide) ?_
      exact q_iret X hr hlk hK h rfl (fun _ => 0, fun _ _ => 0, fun _ _ => 0) ⟨⟨by decide +kernel, by decide +kernel⟩, (show ((1 : Int32).toInt = 1 ∧ (p7 : Int32).toInt = 0 ∧ (p5 : Int32).toInt = (5 : Int32).toInt) ∨ ((1 : Int32).toInt = 0 ∧ ((p7 : Int32).toInt ≠ 0 ∨ (p5 : Int32).toInt ≠ (5 : Int32).toInt)) from by have q0 : (1 : Int32).toInt = 1 := (by decide); have q1 : (5 : Int32).toInt = 5 := (by decide); omega), trivial⟩ [0] rfl rfl dX12_is_20 (Nat.le_of_ble_eq_true rfl) (Nat.le_of_ble_eq_true rfl)
set_option maxHeartbeats 4000000 in
set_option maxRecDepth 100000 in
theorem gX12_eats_03f5ae0 (l : Launch) (D : va_G) (cy : Nat → ClassId) (h0 : Nat) (h1 : Nat) (p0 : Int32) (w0 : Value) (w1 : Value) (w2 : Value) (p1 : Int32) (p2 : Int32) (p3 : Int32) (p4 : Int32) (p5 : Int32) (p6 : Int32) (p7 : Int32) (p8 : Int32) (p9 : Int32) (p10 : Int32) (p11 : Int32) (w3 : Value) (w4 : Value) (w5 : Value) (w6 : Value) (w7 : Value) (p12 : Int32) (p13 : Int32) (w8 : Value) (w9 : Value) (w10 : Value) (p14 : Int32) (p15 : Int32) (w11 : Value) (w12 : Value) (w13 : Value) (w14 : Value) (w15 : Value) (p16 : Int32) (w16 : Value) (w17 : Value) (w18 : Value) (f0 : Nat → Int32) (hp0 : 0 ≤ (p0).toInt ∧ (p0).toInt ≤ 0) (hp1 : 0 ≤ (p1).toInt ∧ (p1).toInt ≤ 900) (hp2 : 0 ≤ (p2).toInt ∧ (p2).toInt ≤ 900) (hp3 : 0 ≤ (p3).toInt ∧ (p3).toInt ≤ 900) (hp4 : 0 ≤ (p4).toInt ∧ (p4).toInt ≤ 900) (hp5 : (-2147483648) ≤ (p5).toInt ∧ (p5).toInt ≤ 2147483647) (hp6 : 0 ≤ (p6).toInt ∧ (p6).toInt ≤ 999) (hp7 : (-2147483648) ≤ (p7).toInt ∧ (p7).toInt ≤ 2147483647) (hp8 : (-2147483648) ≤ (p8).toInt ∧ (p8).toInt ≤ 2147483647) (hp9 : (-2147483648) ≤ (p9).toInt ∧ (p9).toInt ≤ 2147483647) (hp10 : (-2147483648) ≤ (p10).toInt ∧ (p10).toInt ≤ 2147483647) (hp11 : (-2147483648) ≤ (p11).toInt ∧ (p11).toInt ≤ 2147483647) (hp12 : (-2147483648) ≤ (p12).toInt ∧ (p12).toInt ≤ 2147483647) (hp13 : (-2147483648) ≤ (p13).toInt ∧ (p13).toInt ≤ 2147483647) (hp14 : (-2147483648) ≤ (p14).toInt ∧ (p14).toInt ≤ 2147483647) (hp15 : (-2147483648) ≤ (p15).toInt ∧ (p15).toInt ≤ 2147483647) (hp16 : (-2147483648) ≤ (p16).toInt ∧ (p16).toInt ≤ 2147483647) (hpre0 : 0 ≤ (p2 : Int32).toInt ∧ (p2 : Int32).toInt ≤ (p3 : Int32).toInt ∧ (p3 : Int32).toInt ≤ (p4 : Int32).toInt) (hpre1 : (p5 : Int32).toInt = 26 ∨ (p2 : Int32).toInt < (p3 : Int32).toInt) (sz : Nat) : MI l yX12_eats cX12_eats 2 .boolean { frames := 6, cells := 0, slots := 0, locals := 129 } [.ref h0, .int 5] D cy (wk_253faa1b8 cy h0 p0 w0 w1 h1 w2 p1 p2 p3 p4 p5 p6 p7 p8 p9 p10 p11 w3 w4 w5 w6 w7 p12 p13 w8 w9 w10 p14 p15 w11 w12 w13 w14 w15 p16 w16 w17 w18 h1 f0) sz (fun r u => (0 ≤ r.toInt ∧ r.toInt ≤ 1) ∧ (0 ≤ (u.2.1 0 0).toInt ∧ (u.2.1 0 0).toInt ≤ 900) ∧ (0 ≤ (u.2.1 1 0).toInt ∧ (u.2.1 1 0).toInt ≤ 900) ∧ ((-2147483648) ≤ (u.2.1 2 0).toInt ∧ (u.2.1 2 0).toInt ≤ 2147483647) ∧ (0 ≤ (u.2.1 3 0).toInt ∧ (u.2.1 3 0).toInt ≤ 999) ∧ (0 ≤ ((u.2.1 0 0) : Int32).toInt ∧ ((u.2.1 0 0) : Int32).toInt ≤ ((u.2.1 1 0) : Int32).toInt ∧ ((u.2.1 1 0) : Int32).toInt ≤ (p4 : Int32).toInt) ∧ (((u.2.1 2 0) : Int32).toInt = 26 ∨ ((u.2.1 0 0) : Int32).toInt < ((u.2.1 1 0) : Int32).toInt) ∧ (((r : Int32).toInt = 0 ∧ ((u.2.1 0 0) : Int32).toInt = (p2 : Int32).toInt ∧ ((u.2.1 1 0) : Int32).toInt = (p3 : Int32).toInt ∧ ((u.2.1 2 0) : Int32).toInt = (p5 : Int32).toInt ∧ ((p7 : Int32).toInt ≠ 0 ∨ ((u.2.1 2 0) : Int32).toInt ≠ (5 : Int32).toInt)) ∨ ((r : Int32).toInt = 1 ∧ (p3 : Int32).toInt ≤ ((u.2.1 0 0) : Int32).toInt ∧ (p7 : Int32).toInt = 0 ∧ (p5 : Int32).toInt = (5 : Int32).toInt)) ∧ True) (fun u => (wk_253faa1b8 cy h0 p0 w0 w1 h1 w2 p1 (u.2.1 0 0) (u.2.1 1 0) p4 (u.2.1 2 0) (u.2.1 3 0) p7 p8 p9 p10 p11 w3 w4 w5 w6 w7 p12 p13 w8 w9 w10 p14 p15 w11 w12 w13 w14 w15 p16 w16 w17 w18 h1 f0)) 0 0 := by
  refine q_ent (own := RX12) (by decide) rfl (Nat.le_of_ble_eq_true rfl) (fun p e s m below meth c ls X hr hlk hnm hK hT h hA hl => ?_)
  obtain ⟨hx, hb, hml, hown, ht⟩ := id X
  replace hl : lv_has ls 2 [(0, .ref h0), (1, .int 5)] := hl
  refine lv_aload_n hx hb dX12_eats_0 rfl (lv_at hl 0 rfl) ?_
  refine lv_iload_n hx hb dX12_eats_1 rfl (lv_at hl 1 rfl) ?_
  refine q_callVi (rest := []) (wr := [(h1, .inl (cy 1, 900, .inl f0))]) X hK hT hA h (fun sz => gX12_is_4f1594d l D cy h0 p0 w0 w1 (.ref h1) w2 p1 p2 p3 p4 p5 p6 p7 p8 p9 p10 p11 w3 w4 w5 w6 w7 p12 p13 w8 w9 w10 p14 p15 w11 w12 w13 w14 w15 p16 w16 w17 w18 hp0 hp1 hp2 hp3 hp4 (i_rng _) hp6 (i_rng _) (i_rng _) (i_rng _) (i_rng _) (i_rng _) (i_rng _) (i_rng _) (i_rng _) (i_rng _) (i_rng _) sz) wm_6_79 wm_6_82 wm_1_12 hd_X12_is wm_6_81 wp_4_7 (ci := 12) (q0 := 0) rfl rfl ⟨Nat.le_of_ble_eq_true rfl, Nat.le_of_ble_eq_true rfl⟩ hl.1 rfl (Nat.le_of_ble_eq_true rfl) dX12_eats_2 ⟨Nat.le_of_ble_eq_true rfl, Nat.le_of_ble_eq_true rfl⟩ [0] [1] rfl rfl (by decide) rfl rfl (fun r_1 u_1 H locs w_1 h_1 => ?_)
  clear h
  obtain ⟨wr_1, y1_0, _⟩ := w_1
  have lq_1_1 : (5 : Int32).toInt = 5 := (by decide)
  replace h_1 : qW D _ _ (wk_e69636a28 cy h1 f0 h0 p0 w0 w1 h1 w2 p1 p2 p3 p4 p5 p6 p7 p8 p9 p10 p11 w3 w4 w5 w6 w7 p12 p13 w8 w9 w10 p14 p15 w11 w12 w13 w14 w15 p16 w16 w17 w18) _ _ := h_1
  refine lv_if_ne (tgt := 10) hx hb dX12_eats_5 (by decide) (fun c_2 => ?_) (fun c_2 => ?_)
  · replace c_2 := i_ne (x := r_1) (y := 0) rfl (show (0 : Int32).toInt = 0 by decide) c_2
    replace y1_0 := a10_1 y1_0 c_2
    refine lv_aload_n hx hb dX12_eats_10 rfl (lv_at hl 0 rfl) ?_
    refine q_callVv (rest := []) (wr := []) X hK hT hA h_1 (fun sz => gX12_next_c515fc5 l D cy h0 h1 p0 w0 w1 w2 p1 p2 p3 p4 p5 p6 p7 p8 p9 p10 p11 w3 w4 w5 w6 w7 p12 p13 w8 w9 w10 p14 p15 w11 w12 w13 w14 w15 p16 w16 w17 w18 f0 hp0 hp1 hp2 hp3 hp4 (i_rng _) hp6 (i_rng _) (i_rng _) (i_rng _) (i_rng _) (i_rng _) (i_rng _) (i_rng _) (i_rng _) (i_rng _) (i_rng _) (by (first | (clear hpre1; omega) | omega)) sz) wm_6_53 wm_6_56 wm_1_12 hd_X12_next wm_6_55 wp_4_3 (ci := 12) (q0 := 0) rfl rfl ⟨Nat.le_of_ble_eq_true rfl, Nat.le_of_ble_eq_true rfl⟩ hl.1 rfl (Nat.le_of_ble_eq_true rfl) dX12_eats_11 ⟨Nat.le_of_ble_eq_true rfl, Nat.le_of_ble_eq_true rfl⟩ [1, 0] [] rfl rfl (by decide) rfl rfl (fun u_3 H locs w_3 h_3 => ?_)
    clear h_1
    obtain ⟨w3_0, w3_1, w3_2, w3_3, y3_0, y3_1, y3_2, _⟩ := w_3
    replace h_3 : qW D _ _ (wk_253faa1b8 cy h0 p0 w0 w1 h1 w2 p1 (u_3.2.1 0 0) (u_3.2.1 1 0) p4 (u_3.2.1 2 0) (u_3.2.1 3 0) p7 p8 p9 p10 p11 w3 w4 w5 w6 w7 p12 p13 w8 w9 w10 p14 p15 w11 w12 w13 w14 w15 p16 w16 w17 w18 h1 f0) _ _ := h_3
    refine lv_iconst (v := 1) hx hb dX12_eats_14 (by decide) ?_
    exact q_iret X hr hlk hK h_3 rfl (fun _ => 0, (vcons (fun _ => (u_3.2.1 0 0)) (vcons (fun _ => (u_3.2.1 1 0)) (vcons (fun _ => (u_3.2.1 2 0)) (vcons (fun _ => (u_3.2.1 3 0)) (fun _ => (fun _ => 0)))))), fun _ _ => 0) ⟨⟨by decide +kernel, by decide +kernel⟩, w3_0, w3_1, w3_2, w3_3, y3_0, y3_1, (show ((1 : Int32).toInt = 0 ∧ ((u_3.2.1 0 0) : Int32).toInt = (p2 : Int32).toInt ∧ ((u_3.2.1 1 0) : Int32).toInt = (p3 : Int32).toInt ∧ ((u_3.2.1 2 0) : Int32).toInt = (p5 : Int32).toInt ∧ ((p7 : Int32).toInt ≠ 0 ∨ ((u_3.2.1 2 0) : Int32).toInt ≠ (5 : Int32).toInt)) ∨ ((1 : Int32).toInt = 1 ∧ (p3 : Int32).toInt ≤ ((u_3.2.1 0 0) : Int32).toInt ∧ (p7 : Int32).toInt = 0 ∧ (p5 : Int32).toInt = (5 : Int32).toInt) from by have q0 : (1 : Int32).toInt = 1 := (by decide); have q1 : (5 : Int32).toInt = 5 := (by decide); (first | (clear hpre1 y3_1; omega) | omega)), trivial⟩ [0, 1] rfl rfl dX12_eats_15 (Nat.le_of_ble_eq_true rfl) (Nat.le_of_ble_eq_true rfl)
  · replace c_2 := i_eq (x := r_1) (y := 0) rfl (show (0 : Int32).toInt = 0 by decide) c_2
    replace y1_0 := a10_0 y1_0 c_2
    refine lv_iconst (v := 0) hx hb dX12_eats_8 (by decide) ?_
    exact q_iret X hr hlk hK h_1 rfl (fun _ => 0, (vcons (fun _ => p2) (vcons (fun _ => p3) (vcons (fun _ => p5) (vcons (fun _ => p6) (fun _ => (fun _ => 0)))))), fun _ _ => 0) ⟨⟨by decide +kernel, by decide +kernel⟩, hp2, hp3, hp5, hp6, hpre0, hpre1, (show ((0 : Int32).toInt = 0 ∧ (p2 : Int32).toInt = (p2 : Int32).toInt ∧ (p3 : Int32).toInt = (p3 : Int32).toInt ∧ (p5 : Int32).toInt = (p5 : Int32).toInt ∧ ((p7 : Int32).toInt ≠ 0 ∨ (p5 : Int32).toInt ≠ (5 : Int32).toInt)) ∨ ((0 : Int32).toInt = 1 ∧ (p3 : Int32).toInt ≤ (p2 : Int32).toInt ∧ (p7 : Int32).toInt = 0 ∧ (p5 : Int32).toInt = (5 : Int32).toInt) from by have q0 : (0 : Int32).toInt = 0 := (by decide); have q1 : (5 : Int32).toInt = 5 := (by decide); (first | (clear hpre1 y1_0; omega) | omega)), trivial⟩ [1, 0] rfl rfl dX12_eats_9 (Nat.le_of_ble_eq_true rfl) (Nat.le_of_ble_eq_true rfl)
set_option maxHeartbeats 4000000 in
set_option maxRecDepth 100000 in
theorem gX12_is_78e0783 (l : Launch) (D : va_G) (cy : Nat → ClassId) (h0 : Nat) (p0 : Int32) (w0 : Value) (w1 : Value) (w2 : Value) (w3 : Value) (p1 : Int32) (p2 : Int32) (p3 : Int32) (p4 : Int32) (p5 : Int32) (p6 : Int32) (p7 : Int32) (p8 : Int32) (p9 : Int32) (p10 : Int32) (p11 : Int32) (w4 : Value) (w5 : Value) (w6 : Value) (w7 : Value) (w8 : Value) (p12 : Int32) (p13 : Int32) (w9 : Value) (w10 : Value) (w11 : Value) (p14 : Int32) (p15 : Int32) (w12 : Value) (w13 : Value) (w14 : Value) (w15 : Value) (w16 : Value) (p16 : Int32) (w17 : Value) (w18 : Value) (w19 : Value) (hp0 : 0 ≤ (p0).toInt ∧ (p0).toInt ≤ 0) (hp1 : 0 ≤ (p1).toInt ∧ (p1).toInt ≤ 900) (hp2 : 0 ≤ (p2).toInt ∧ (p2).toInt ≤ 900) (hp3 : 0 ≤ (p3).toInt ∧ (p3).toInt ≤ 900) (hp4 : 0 ≤ (p4).toInt ∧ (p4).toInt ≤ 900) (hp5 : (-2147483648) ≤ (p5).toInt ∧ (p5).toInt ≤ 2147483647) (hp6 : 0 ≤ (p6).toInt ∧ (p6).toInt ≤ 999) (hp7 : (-2147483648) ≤ (p7).toInt ∧ (p7).toInt ≤ 2147483647) (hp8 : (-2147483648) ≤ (p8).toInt ∧ (p8).toInt ≤ 2147483647) (hp9 : (-2147483648) ≤ (p9).toInt ∧ (p9).toInt ≤ 2147483647) (hp10 : (-2147483648) ≤ (p10).toInt ∧ (p10).toInt ≤ 2147483647) (hp11 : (-2147483648) ≤ (p11).toInt ∧ (p11).toInt ≤ 2147483647) (hp12 : (-2147483648) ≤ (p12).toInt ∧ (p12).toInt ≤ 2147483647) (hp13 : (-2147483648) ≤ (p13).toInt ∧ (p13).toInt ≤ 2147483647) (hp14 : (-2147483648) ≤ (p14).toInt ∧ (p14).toInt ≤ 2147483647) (hp15 : (-2147483648) ≤ (p15).toInt ∧ (p15).toInt ≤ 2147483647) (hp16 : (-2147483648) ≤ (p16).toInt ∧ (p16).toInt ≤ 2147483647) (sz : Nat) : MI l yX12_is cX12_is 2 .boolean { frames := 0, cells := 0, slots := 0, locals := 0 } [.ref h0, .int 6] D cy [(h0, .inr (12, [.int p0, w0, w1, w2, w3, .int p1, .int p2, .int p3, .int p4, .int p5, .int p6, .int p7, .int p8, .int p9, .int p10, .int p11, w4, w5, w6, w7, w8, .int p12, .int p13, w9, w10, w11, .int p14, .int p15, w12, w13, w14, w15, w16, .int p16, w17, w18, w19]))] sz (fun r u => (0 ≤ r.toInt ∧ r.toInt ≤ 1) ∧ (((r : Int32).toInt = 1 ∧ (p7 : Int32).toInt = 0 ∧ (p5 : Int32).toInt = (6 : Int32).toInt) ∨ ((r : Int32).toInt = 0 ∧ ((p7 : Int32).toInt ≠ 0 ∨ (p5 : Int32).toInt ≠ (6 : Int32).toInt))) ∧ True) (fun u => [(h0, .inr (12, [.int p0, w0, w1, w2, w3, .int p1, .int p2, .int p3, .int p4, .int p5, .int p6, .int p7, .int p8, .int p9, .int p10, .int p11, w4, w5, w6, w7, w8, .int p12, .int p13, w9, w10, w11, .int p14, .int p15, w12, w13, w14, w15, w16, .int p16, w17, w18, w19]))]) 0 0 := by
  refine q_ent (own := RX12) (by decide) rfl (Nat.le_of_ble_eq_true rfl) (fun p e s m below meth c ls X hr hlk hnm hK hT h hA hl => ?_)
  obtain ⟨hx, hb, hml, hown, ht⟩ := id X
  replace hl : lv_has ls 2 [(0, .ref h0), (1, .int 6)] := hl
  refine lv_aload_n hx hb dX12_is_0 rfl (lv_at hl 0 rfl) ?_
  refine q_get X hK h 0 rfl rfl wf_12 11 (by decide) rfl wm_5_181 dX12_is_1 ?_
  refine lv_if_ne (tgt := 19) hx hb dX12_is_4 (by decide) (fun c_1 => ?_) (fun c_1 => ?_)
  · replace c_1 := i_ne (x := p7) (y := 0) rfl (show (0 : Int32).toInt = 0 by decide) c_1
    refine lv_iconst (v := 0) hx hb dX12_is_19 (by decide) ?_
    exact q_iret X hr hlk hK h rfl (fun _ => 0, fun _ _ => 0, fun _ _ => 0) ⟨⟨by decide +kernel, by decide +kernel⟩, (show ((0 : Int32).toInt = 1 ∧ (p7 : Int32).toInt = 0 ∧ (p5 : Int32).toInt = (6 : Int32).toInt) ∨ ((0 : Int32).toInt = 0 ∧ ((p7 : Int32).toInt ≠ 0 ∨ (p5 : Int32).toInt ≠ (6 : Int32).toInt)) from by have q0 : (0 : Int32).toInt = 0 := (by decide); have q1 : (6 : Int32).toInt = 6 := (by decide); omega), trivial⟩ [0] rfl rfl dX12_is_20 (Nat.le_of_ble_eq_true rfl) (Nat.le_of_ble_eq_true rfl)
  · replace c_1 := i_eq (x := p7) (y := 0) rfl (show (0 : Int32).toInt = 0 by decide) c_1
    refine lv_aload_n hx hb dX12_is_7 rfl (lv_at hl 0 rfl) ?_
    refine q_get X hK h 0 rfl rfl wf_12 9 (by decide) rfl wm_5_179 dX12_is_8 ?_
    refine lv_iload_n hx hb dX12_is_11 rfl (lv_at hl 1 rfl) ?_
    refine lv_icmp_ne (tgt := 19) hx hb dX12_is_12 (by decide) (fun c_2 => ?_) (fun c_2 => ?_)
    · replace c_2 := i_ne (x := p5) (y := 6) rfl (show (6 : Int32).toInt = 6 by decide) c_2
      refine lv_iconst (v := 0) hx hb dX12_is_19 (by decide) ?_
      exact q_iret X hr hlk hK h rfl (fun _ => 0, fun _ _ => 0, fun _ _ => 0) ⟨⟨by decide +kernel, by decide +kernel⟩, (show ((0 : Int32).toInt = 1 ∧ (p7 : Int32).toInt = 0 ∧ (p5 : Int32).toInt = (6 : Int32).toInt) ∨ ((0 : Int32).toInt = 0 ∧ ((p7 : Int32).toInt ≠ 0 ∨ (p5 : Int32).toInt ≠ (6 : Int32).toInt)) from by have q0 : (0 : Int32).toInt = 0 := (by decide); have q1 : (6 : Int32).toInt = 6 := (by decide); omega), trivial⟩ [0] rfl rfl dX12_is_20 (Nat.le_of_ble_eq_true rfl) (Nat.le_of_ble_eq_true rfl)
    · replace c_2 := i_eq (x := p5) (y := 6) rfl (show (6 : Int32).toInt = 6 by decide) c_2
      refine lv_iconst (v := 1) hx hb dX12_is_15 (by decide) ?_
      refine lv_goto (tgt := 20) hx hb dX12_is_16 (by decide) ?_
      exact q_iret X hr hlk hK h rfl (fun _ => 0, fun _ _ => 0, fun _ _ => 0) ⟨⟨by decide +kernel, by decide +kernel⟩, (show ((1 : Int32).toInt = 1 ∧ (p7 : Int32).toInt = 0 ∧ (p5 : Int32).toInt = (6 : Int32).toInt) ∨ ((1 : Int32).toInt = 0 ∧ ((p7 : Int32).toInt ≠ 0 ∨ (p5 : Int32).toInt ≠ (6 : Int32).toInt)) from by have q0 : (1 : Int32).toInt = 1 := (by decide); have q1 : (6 : Int32).toInt = 6 := (by decide); omega), trivial⟩ [0] rfl rfl dX12_is_20 (Nat.le_of_ble_eq_true rfl) (Nat.le_of_ble_eq_true rfl)
set_option maxHeartbeats 4000000 in
set_option maxRecDepth 100000 in
theorem gX12_eats_6fbff45 (l : Launch) (D : va_G) (cy : Nat → ClassId) (h0 : Nat) (h1 : Nat) (p0 : Int32) (w0 : Value) (w1 : Value) (w2 : Value) (p1 : Int32) (p2 : Int32) (p3 : Int32) (p4 : Int32) (p5 : Int32) (p6 : Int32) (p7 : Int32) (p8 : Int32) (p9 : Int32) (p10 : Int32) (p11 : Int32) (w3 : Value) (w4 : Value) (w5 : Value) (w6 : Value) (w7 : Value) (p12 : Int32) (p13 : Int32) (w8 : Value) (w9 : Value) (w10 : Value) (p14 : Int32) (p15 : Int32) (w11 : Value) (w12 : Value) (w13 : Value) (w14 : Value) (w15 : Value) (p16 : Int32) (w16 : Value) (w17 : Value) (w18 : Value) (f0 : Nat → Int32) (hp0 : 0 ≤ (p0).toInt ∧ (p0).toInt ≤ 0) (hp1 : 0 ≤ (p1).toInt ∧ (p1).toInt ≤ 900) (hp2 : 0 ≤ (p2).toInt ∧ (p2).toInt ≤ 900) (hp3 : 0 ≤ (p3).toInt ∧ (p3).toInt ≤ 900) (hp4 : 0 ≤ (p4).toInt ∧ (p4).toInt ≤ 900) (hp5 : (-2147483648) ≤ (p5).toInt ∧ (p5).toInt ≤ 2147483647) (hp6 : 0 ≤ (p6).toInt ∧ (p6).toInt ≤ 999) (hp7 : (-2147483648) ≤ (p7).toInt ∧ (p7).toInt ≤ 2147483647) (hp8 : (-2147483648) ≤ (p8).toInt ∧ (p8).toInt ≤ 2147483647) (hp9 : (-2147483648) ≤ (p9).toInt ∧ (p9).toInt ≤ 2147483647) (hp10 : (-2147483648) ≤ (p10).toInt ∧ (p10).toInt ≤ 2147483647) (hp11 : (-2147483648) ≤ (p11).toInt ∧ (p11).toInt ≤ 2147483647) (hp12 : (-2147483648) ≤ (p12).toInt ∧ (p12).toInt ≤ 2147483647) (hp13 : (-2147483648) ≤ (p13).toInt ∧ (p13).toInt ≤ 2147483647) (hp14 : (-2147483648) ≤ (p14).toInt ∧ (p14).toInt ≤ 2147483647) (hp15 : (-2147483648) ≤ (p15).toInt ∧ (p15).toInt ≤ 2147483647) (hp16 : (-2147483648) ≤ (p16).toInt ∧ (p16).toInt ≤ 2147483647) (hpre0 : 0 ≤ (p2 : Int32).toInt ∧ (p2 : Int32).toInt ≤ (p3 : Int32).toInt ∧ (p3 : Int32).toInt ≤ (p4 : Int32).toInt) (hpre1 : (p5 : Int32).toInt = 26 ∨ (p2 : Int32).toInt < (p3 : Int32).toInt) (sz : Nat) : MI l yX12_eats cX12_eats 2 .boolean { frames := 6, cells := 0, slots := 0, locals := 129 } [.ref h0, .int 6] D cy (wk_253faa1b8 cy h0 p0 w0 w1 h1 w2 p1 p2 p3 p4 p5 p6 p7 p8 p9 p10 p11 w3 w4 w5 w6 w7 p12 p13 w8 w9 w10 p14 p15 w11 w12 w13 w14 w15 p16 w16 w17 w18 h1 f0) sz (fun r u => (0 ≤ r.toInt ∧ r.toInt ≤ 1) ∧ (0 ≤ (u.2.1 0 0).toInt ∧ (u.2.1 0 0).toInt ≤ 900) ∧ (0 ≤ (u.2.1 1 0).toInt ∧ (u.2.1 1 0).toInt ≤ 900) ∧ ((-2147483648) ≤ (u.2.1 2 0).toInt ∧ (u.2.1 2 0).toInt ≤ 2147483647) ∧ (0 ≤ (u.2.1 3 0).toInt ∧ (u.2.1 3 0).toInt ≤ 999) ∧ (0 ≤ ((u.2.1 0 0) : Int32).toInt ∧ ((u.2.1 0 0) : Int32).toInt ≤ ((u.2.1 1 0) : Int32).toInt ∧ ((u.2.1 1 0) : Int32).toInt ≤ (p4 : Int32).toInt) ∧ (((u.2.1 2 0) : Int32).toInt = 26 ∨ ((u.2.1 0 0) : Int32).toInt < ((u.2.1 1 0) : Int32).toInt) ∧ (((r : Int32).toInt = 0 ∧ ((u.2.1 0 0) : Int32).toInt = (p2 : Int32).toInt ∧ ((u.2.1 1 0) : Int32).toInt = (p3 : Int32).toInt ∧ ((u.2.1 2 0) : Int32).toInt = (p5 : Int32).toInt ∧ ((p7 : Int32).toInt ≠ 0 ∨ ((u.2.1 2 0) : Int32).toInt ≠ (6 : Int32).toInt)) ∨ ((r : Int32).toInt = 1 ∧ (p3 : Int32).toInt ≤ ((u.2.1 0 0) : Int32).toInt ∧ (p7 : Int32).toInt = 0 ∧ (p5 : Int32).toInt = (6 : Int32).toInt)) ∧ True) (fun u => (wk_253faa1b8 cy h0 p0 w0 w1 h1 w2 p1 (u.2.1 0 0) (u.2.1 1 0) p4 (u.2.1 2 0) (u.2.1 3 0) p7 p8 p9 p10 p11 w3 w4 w5 w6 w7 p12 p13 w8 w9 w10 p14 p15 w11 w12 w13 w14 w15 p16 w16 w17 w18 h1 f0)) 0 0 := by
  refine q_ent (own := RX12) (by decide) rfl (Nat.le_of_ble_eq_true rfl) (fun p e s m below meth c ls X hr hlk hnm hK hT h hA hl => ?_)
  obtain ⟨hx, hb, hml, hown, ht⟩ := id X
  replace hl : lv_has ls 2 [(0, .ref h0), (1, .int 6)] := hl
  refine lv_aload_n hx hb dX12_eats_0 rfl (lv_at hl 0 rfl) ?_
  refine lv_iload_n hx hb dX12_eats_1 rfl (lv_at hl 1 rfl) ?_
  refine q_callVi (rest := []) (wr := [(h1, .inl (cy 1, 900, .inl f0))]) X hK hT hA h (fun sz => gX12_is_78e0783 l D cy h0 p0 w0 w1 (.ref h1) w2 p1 p2 p3 p4 p5 p6 p7 p8 p9 p10 p11 w3 w4 w5 w6 w7 p12 p13 w8 w9 w10 p14 p15 w11 w12 w13 w14 w15 p16 w16 w17 w18 hp0 hp1 hp2 hp3 hp4 (i_rng _) hp6 (i_rng _) (i_rng _) (i_rng _) (i_rng _) (i_rng _) (i_rng _) (i_rng _) (i_rng _) (i_rng _) (i_rng _) sz) wm_6_79 wm_6_82 wm_1_12 hd_X12_is wm_6_81 wp_4_7 (ci := 12) (q0 := 0) rfl rfl ⟨Nat.le_of_ble_eq_true rfl, Nat.le_of_ble_eq_true rfl⟩ hl.1 rfl (Nat.le_of_ble_eq_true rfl) dX12_eats_2 ⟨Nat.le_of_ble_eq_true rfl, Nat.le_of_ble_eq_true rfl⟩ [0] [1] rfl rfl (by decide) rfl rfl (fun r_1 u_1 H locs w_1 h_1 => ?_)
  clear h
  obtain ⟨wr_1, y1_0, _⟩ := w_1
  have lq_1_1 : (6 : Int32).toInt = 6 := (by decide)
  replace h_1 : qW D _ _ (wk_e69636a28 cy h1 f0 h0 p0 w0 w1 h1 w2 p1 p2 p3 p4 p5 p6 p7 p8 p9 p10 p11 w3 w4 w5 w6 w7 p12 p13 w8 w9 w10 p14 p15 w11 w12 w13 w14 w15 p16 w16 w17 w18) _ _ := h_1
  refine lv_if_ne (tgt := 10) hx hb dX12_eats_5 (by decide) (fun c_2 => ?_) (fun c_2 => ?_)
  · replace c_2 := i_ne (x := r_1) (y := 0) rfl (show (0 : Int32).toInt = 0 by decide) c_2
    replace y1_0 := a10_1 y1_0 c_2
    refine lv_aload_n hx hb dX12_eats_10 rfl (lv_at hl 0 rfl) ?_
    refine q_callVv (rest := []) (wr := []) X hK hT hA h_1 (fun sz => gX12_next_c515fc5 l D cy h0 h1 p0 w0 w1 w2 p1 p2 p3 p4 p5 p6 p7 p8 p9 p10 p11 w3 w4 w5 w6 w7 p12 p13 w8 w9 w10 p14 p15 w11 w12 w13 w14 w15 p16 w16 w17 w18 f0 hp0 hp1 hp2 hp3 hp4 (i_rng _) hp6 (i_rng _) (i_rng _) (i_rng _) (i_rng _) (i_rng _) (i_rng _) (i_rng _) (i_rng _) (i_rng _) (i_rng _) (by (first | (clear hpre1; omega) | omega)) sz) wm_6_53 wm_6_56 wm_1_12 hd_X12_next wm_6_55 wp_4_3 (ci := 12) (q0 := 0) rfl rfl ⟨Nat.le_of_ble_eq_true rfl, Nat.le_of_ble_eq_true rfl⟩ hl.1 rfl (Nat.le_of_ble_eq_true rfl) dX12_eats_11 ⟨Nat.le_of_ble_eq_true rfl, Nat.le_of_ble_eq_true rfl⟩ [1, 0] [] rfl rfl (by decide) rfl rfl (fun u_3 H locs w_3 h_3 => ?_)
    clear h_1
    obtain ⟨w3_0, w3_1, w3_2, w3_3, y3_0, y3_1, y3_2, _⟩ := w_3
    replace h_3 : qW D _ _ (wk_253faa1b8 cy h0 p0 w0 w1 h1 w2 p1 (u_3.2.1 0 0) (u_3.2.1 1 0) p4 (u_3.2.1 2 0) (u_3.2.1 3 0) p7 p8 p9 p10 p11 w3 w4 w5 w6 w7 p12 p13 w8 w9 w10 p14 p15 w11 w12 w13 w14 w15 p16 w16 w17 w18 h1 f0) _ _ := h_3
    refine lv_iconst (v := 1) hx hb dX12_eats_14 (by decide) ?_
    exact q_iret X hr hlk hK h_3 rfl (fun _ => 0, (vcons (fun _ => (u_3.2.1 0 0)) (vcons (fun _ => (u_3.2.1 1 0)) (vcons (fun _ => (u_3.2.1 2 0)) (vcons (fun _ => (u_3.2.1 3 0)) (fun _ => (fun _ => 0)))))), fun _ _ => 0) ⟨⟨by decide +kernel, by decide +kernel⟩, w3_0, w3_1, w3_2, w3_3, y3_0, y3_1, (show ((1 : Int32).toInt = 0 ∧ ((u_3.2.1 0 0) : Int32).toInt = (p2 : Int32).toInt ∧ ((u_3.2.1 1 0) : Int32).toInt = (p3 : Int32).toInt ∧ ((u_3.2.1 2 0) : Int32).toInt = (p5 : Int32).toInt ∧ ((p7 : Int32).toInt ≠ 0 ∨ ((u_3.2.1 2 0) : Int32).toInt ≠ (6 : Int32).toInt)) ∨ ((1 : Int32).toInt = 1 ∧ (p3 : Int32).toInt ≤ ((u_3.2.1 0 0) : Int32).toInt ∧ (p7 : Int32).toInt = 0 ∧ (p5 : Int32).toInt = (6 : Int32).toInt) from by have q0 : (1 : Int32).toInt = 1 := (by decide); have q1 : (6 : Int32).toInt = 6 := (by decide); (first | (clear hpre1 y3_1; omega) | omega)), trivial⟩ [0, 1] rfl rfl dX12_eats_15 (Nat.le_of_ble_eq_true rfl) (Nat.le_of_ble_eq_true rfl)
  · replace c_2 := i_eq (x := r_1) (y := 0) rfl (show (0 : Int32).toInt = 0 by decide) c_2
    replace y1_0 := a10_0 y1_0 c_2
    refine lv_iconst (v := 0) hx hb dX12_eats_8 (by decide) ?_
    exact q_iret X hr hlk hK h_1 rfl (fun _ => 0, (vcons (fun _ => p2) (vcons (fun _ => p3) (vcons (fun _ => p5) (vcons (fun _ => p6) (fun _ => (fun _ => 0)))))), fun _ _ => 0) ⟨⟨by decide +kernel, by decide +kernel⟩, hp2, hp3, hp5, hp6, hpre0, hpre1, (show ((0 : Int32).toInt = 0 ∧ (p2 : Int32).toInt = (p2 : Int32).toInt ∧ (p3 : Int32).toInt = (p3 : Int32).toInt ∧ (p5 : Int32).toInt = (p5 : Int32).toInt ∧ ((p7 : Int32).toInt ≠ 0 ∨ (p5 : Int32).toInt ≠ (6 : Int32).toInt)) ∨ ((0 : Int32).toInt = 1 ∧ (p3 : Int32).toInt ≤ (p2 : Int32).toInt ∧ (p7 : Int32).toInt = 0 ∧ (p5 : Int32).toInt = (6 : Int32).toInt) from by have q0 : (0 : Int32).toInt = 0 := (by decide); have q1 : (6 : Int32).toInt = 6 := (by decide); (first | (clear hpre1 y1_0; omega) | omega)), trivial⟩ [1, 0] rfl rfl dX12_eats_9 (Nat.le_of_ble_eq_true rfl) (Nat.le_of_ble_eq_true rfl)
set_option maxHeartbeats 4000000 in
set_option maxRecDepth 100000 in
theorem gX12_is_04f0832 (l : Launch) (D : va_G) (cy : Nat → ClassId) (h0 : Nat) (p0 : Int32) (w0 : Value) (w1 : Value) (w2 : Value) (w3 : Value) (p1 : Int32) (p2 : Int32) (p3 : Int32) (p4 : Int32) (p5 : Int32) (p6 : Int32) (p7 : Int32) (p8 : Int32) (p9 : Int32) (p10 : Int32) (p11 : Int32) (w4 : Value) (w5 : Value) (w6 : Value) (w7 : Value) (w8 : Value) (p12 : Int32) (p13 : Int32) (w9 : Value) (w10 : Value) (w11 : Value) (p14 : Int32) (p15 : Int32) (w12 : Value) (w13 : Value) (w14 : Value) (w15 : Value) (w16 : Value) (p16 : Int32) (w17 : Value) (w18 : Value) (w19 : Value) (hp0 : 0 ≤ (p0).toInt ∧ (p0).toInt ≤ 0) (hp1 : 0 ≤ (p1).toInt ∧ (p1).toInt ≤ 900) (hp2 : 0 ≤ (p2).toInt ∧ (p2).toInt ≤ 900) (hp3 : 0 ≤ (p3).toInt ∧ (p3).toInt ≤ 900) (hp4 : 0 ≤ (p4).toInt ∧ (p4).toInt ≤ 900) (hp5 : (-2147483648) ≤ (p5).toInt ∧ (p5).toInt ≤ 2147483647) (hp6 : 0 ≤ (p6).toInt ∧ (p6).toInt ≤ 999) (hp7 : (-2147483648) ≤ (p7).toInt ∧ (p7).toInt ≤ 2147483647) (hp8 : (-2147483648) ≤ (p8).toInt ∧ (p8).toInt ≤ 2147483647) (hp9 : (-2147483648) ≤ (p9).toInt ∧ (p9).toInt ≤ 2147483647) (hp10 : (-2147483648) ≤ (p10).toInt ∧ (p10).toInt ≤ 2147483647) (hp11 : (-2147483648) ≤ (p11).toInt ∧ (p11).toInt ≤ 2147483647) (hp12 : (-2147483648) ≤ (p12).toInt ∧ (p12).toInt ≤ 2147483647) (hp13 : (-2147483648) ≤ (p13).toInt ∧ (p13).toInt ≤ 2147483647) (hp14 : (-2147483648) ≤ (p14).toInt ∧ (p14).toInt ≤ 2147483647) (hp15 : (-2147483648) ≤ (p15).toInt ∧ (p15).toInt ≤ 2147483647) (hp16 : (-2147483648) ≤ (p16).toInt ∧ (p16).toInt ≤ 2147483647) (sz : Nat) : MI l yX12_is cX12_is 2 .boolean { frames := 0, cells := 0, slots := 0, locals := 0 } [.ref h0, .int 4] D cy [(h0, .inr (12, [.int p0, w0, w1, w2, w3, .int p1, .int p2, .int p3, .int p4, .int p5, .int p6, .int p7, .int p8, .int p9, .int p10, .int p11, w4, w5, w6, w7, w8, .int p12, .int p13, w9, w10, w11, .int p14, .int p15, w12, w13, w14, w15, w16, .int p16, w17, w18, w19]))] sz (fun r u => (0 ≤ r.toInt ∧ r.toInt ≤ 1) ∧ (((r : Int32).toInt = 1 ∧ (p7 : Int32).toInt = 0 ∧ (p5 : Int32).toInt = (4 : Int32).toInt) ∨ ((r : Int32).toInt = 0 ∧ ((p7 : Int32).toInt ≠ 0 ∨ (p5 : Int32).toInt ≠ (4 : Int32).toInt))) ∧ True) (fun u => [(h0, .inr (12, [.int p0, w0, w1, w2, w3, .int p1, .int p2, .int p3, .int p4, .int p5, .int p6, .int p7, .int p8, .int p9, .int p10, .int p11, w4, w5, w6, w7, w8, .int p12, .int p13, w9, w10, w11, .int p14, .int p15, w12, w13, w14, w15, w16, .int p16, w17, w18, w19]))]) 0 0 := by
  refine q_ent (own := RX12) (by decide) rfl (Nat.le_of_ble_eq_true rfl) (fun p e s m below meth c ls X hr hlk hnm hK hT h hA hl => ?_)
  obtain ⟨hx, hb, hml, hown, ht⟩ := id X
  replace hl : lv_has ls 2 [(0, .ref h0), (1, .int 4)] := hl
  refine lv_aload_n hx hb dX12_is_0 rfl (lv_at hl 0 rfl) ?_
  refine q_get X hK h 0 rfl rfl wf_12 11 (by decide) rfl wm_5_181 dX12_is_1 ?_
  refine lv_if_ne (tgt := 19) hx hb dX12_is_4 (by decide) (fun c_1 => ?_) (fun c_1 => ?_)
  · replace c_1 := i_ne (x := p7) (y := 0) rfl (show (0 : Int32).toInt = 0 by decide) c_1
    refine lv_iconst (v := 0) hx hb dX12_is_19 (by decide) ?_
    exact q_iret X hr hlk hK h rfl (fun _ => 0, fun _ _ => 0, fun _ _ => 0) ⟨⟨by decide +kernel, by decide +kernel⟩, (show ((0 : Int32).toInt = 1 ∧ (p7 : Int32).toInt = 0 ∧ (p5 : Int32).toInt = (4 : Int32).toInt) ∨ ((0 : Int32).toInt = 0 ∧ ((p7 : Int32).toInt ≠ 0 ∨ (p5 : Int32).toInt ≠ (4 : Int32).toInt)) from by have q0 : (0 : Int32).toInt = 0 := (by decide); have q1 : (4 : Int32).toInt = 4 := (by decide); omega), trivial⟩ [0] rfl rfl dX12_is_20 (Nat.le_of_ble_eq_true rfl) (Nat.le_of_ble_eq_true rfl)
  · replace c_1 := i_eq (x := p7) (y := 0) rfl (show (0 : Int32).toInt = 0 by decide) c_1
    refine lv_aload_n hx hb dX12_is_7 rfl (lv_at hl 0 rfl) ?_
    refine q_get X hK h 0 rfl rfl wf_12 9 (by decide) rfl wm_5_179 dX12_is_8 ?_
    refine lv_iload_n hx hb dX12_is_11 rfl (lv_at hl 1 rfl) ?_
    refine lv_icmp_ne (tgt := 19) hx hb dX12_is_12 (by decide) (fun c_2 => ?_) (fun c_2 => ?_)
    · replace c_2 := i_ne (x := p5) (y := 4) rfl (show (4 : Int32).toInt = 4 by decide) c_2
      refine lv_iconst (v := 0) hx hb dX12_is_19 (by decide) ?_
      exact q_iret X hr hlk hK h rfl (fun _ => 0, fun _ _ => 0, fun _ _ => 0) ⟨⟨by decide +kernel, by decide +kernel⟩, (show ((0 : Int32).toInt = 1 ∧ (p7 : Int32).toInt = 0 ∧ (p5 : Int32).toInt = (4 : Int32).toInt) ∨ ((0 : Int32).toInt = 0 ∧ ((p7 : Int32).toInt ≠ 0 ∨ (p5 : Int32).toInt ≠ (4 : Int32).toInt)) from by have q0 : (0 : Int32).toInt = 0 := (by decide); have q1 : (4 : Int32).toInt = 4 := (by decide); omega), trivial⟩ [0] rfl rfl dX12_is_20 (Nat.le_of_ble_eq_true rfl) (Nat.le_of_ble_eq_true rfl)
    · replace c_2 := i_eq (x := p5) (y := 4) rfl (show (4 : Int32).toInt = 4 by decide) c_2
      refine lv_iconst (v := 1) hx hb dX12_is_15 (by decide) ?_
      refine lv_goto (tgt := 20) hx hb dX12_is_16 (by decide) ?_
      exact q_iret X hr hlk hK h rfl (fun _ => 0, fun _ _ => 0, fun _ _ => 0) ⟨⟨by decide +kernel, by decide +kernel⟩, (show ((1 : Int32).toInt = 1 ∧ (p7 : Int32).toInt = 0 ∧ (p5 : Int32).toInt = (4 : Int32).toInt) ∨ ((1 : Int32).toInt = 0 ∧ ((p7 : Int32).toInt ≠ 0 ∨ (p5 : Int32).toInt ≠ (4 : Int32).toInt)) from by have q0 : (1 : Int32).toInt = 1 := (by decide); have q1 : (4 : Int32).toInt = 4 := (by decide); omega), trivial⟩ [0] rfl rfl dX12_is_20 (Nat.le_of_ble_eq_true rfl) (Nat.le_of_ble_eq_true rfl)
set_option maxHeartbeats 4000000 in
set_option maxRecDepth 100000 in
theorem gX12_eats_2b6e493 (l : Launch) (D : va_G) (cy : Nat → ClassId) (h0 : Nat) (h1 : Nat) (p0 : Int32) (w0 : Value) (w1 : Value) (w2 : Value) (p1 : Int32) (p2 : Int32) (p3 : Int32) (p4 : Int32) (p5 : Int32) (p6 : Int32) (p7 : Int32) (p8 : Int32) (p9 : Int32) (p10 : Int32) (p11 : Int32) (w3 : Value) (w4 : Value) (w5 : Value) (w6 : Value) (w7 : Value) (p12 : Int32) (p13 : Int32) (w8 : Value) (w9 : Value) (w10 : Value) (p14 : Int32) (p15 : Int32) (w11 : Value) (w12 : Value) (w13 : Value) (w14 : Value) (w15 : Value) (p16 : Int32) (w16 : Value) (w17 : Value) (w18 : Value) (f0 : Nat → Int32) (hp0 : 0 ≤ (p0).toInt ∧ (p0).toInt ≤ 0) (hp1 : 0 ≤ (p1).toInt ∧ (p1).toInt ≤ 900) (hp2 : 0 ≤ (p2).toInt ∧ (p2).toInt ≤ 900) (hp3 : 0 ≤ (p3).toInt ∧ (p3).toInt ≤ 900) (hp4 : 0 ≤ (p4).toInt ∧ (p4).toInt ≤ 900) (hp5 : (-2147483648) ≤ (p5).toInt ∧ (p5).toInt ≤ 2147483647) (hp6 : 0 ≤ (p6).toInt ∧ (p6).toInt ≤ 999) (hp7 : (-2147483648) ≤ (p7).toInt ∧ (p7).toInt ≤ 2147483647) (hp8 : (-2147483648) ≤ (p8).toInt ∧ (p8).toInt ≤ 2147483647) (hp9 : (-2147483648) ≤ (p9).toInt ∧ (p9).toInt ≤ 2147483647) (hp10 : (-2147483648) ≤ (p10).toInt ∧ (p10).toInt ≤ 2147483647) (hp11 : (-2147483648) ≤ (p11).toInt ∧ (p11).toInt ≤ 2147483647) (hp12 : (-2147483648) ≤ (p12).toInt ∧ (p12).toInt ≤ 2147483647) (hp13 : (-2147483648) ≤ (p13).toInt ∧ (p13).toInt ≤ 2147483647) (hp14 : (-2147483648) ≤ (p14).toInt ∧ (p14).toInt ≤ 2147483647) (hp15 : (-2147483648) ≤ (p15).toInt ∧ (p15).toInt ≤ 2147483647) (hp16 : (-2147483648) ≤ (p16).toInt ∧ (p16).toInt ≤ 2147483647) (hpre0 : 0 ≤ (p2 : Int32).toInt ∧ (p2 : Int32).toInt ≤ (p3 : Int32).toInt ∧ (p3 : Int32).toInt ≤ (p4 : Int32).toInt) (hpre1 : (p5 : Int32).toInt = 26 ∨ (p2 : Int32).toInt < (p3 : Int32).toInt) (sz : Nat) : MI l yX12_eats cX12_eats 2 .boolean { frames := 6, cells := 0, slots := 0, locals := 129 } [.ref h0, .int 4] D cy (wk_253faa1b8 cy h0 p0 w0 w1 h1 w2 p1 p2 p3 p4 p5 p6 p7 p8 p9 p10 p11 w3 w4 w5 w6 w7 p12 p13 w8 w9 w10 p14 p15 w11 w12 w13 w14 w15 p16 w16 w17 w18 h1 f0) sz (fun r u => (0 ≤ r.toInt ∧ r.toInt ≤ 1) ∧ (0 ≤ (u.2.1 0 0).toInt ∧ (u.2.1 0 0).toInt ≤ 900) ∧ (0 ≤ (u.2.1 1 0).toInt ∧ (u.2.1 1 0).toInt ≤ 900) ∧ ((-2147483648) ≤ (u.2.1 2 0).toInt ∧ (u.2.1 2 0).toInt ≤ 2147483647) ∧ (0 ≤ (u.2.1 3 0).toInt ∧ (u.2.1 3 0).toInt ≤ 999) ∧ (0 ≤ ((u.2.1 0 0) : Int32).toInt ∧ ((u.2.1 0 0) : Int32).toInt ≤ ((u.2.1 1 0) : Int32).toInt ∧ ((u.2.1 1 0) : Int32).toInt ≤ (p4 : Int32).toInt) ∧ (((u.2.1 2 0) : Int32).toInt = 26 ∨ ((u.2.1 0 0) : Int32).toInt < ((u.2.1 1 0) : Int32).toInt) ∧ (((r : Int32).toInt = 0 ∧ ((u.2.1 0 0) : Int32).toInt = (p2 : Int32).toInt ∧ ((u.2.1 1 0) : Int32).toInt = (p3 : Int32).toInt ∧ ((u.2.1 2 0) : Int32).toInt = (p5 : Int32).toInt ∧ ((p7 : Int32).toInt ≠ 0 ∨ ((u.2.1 2 0) : Int32).toInt ≠ (4 : Int32).toInt)) ∨ ((r : Int32).toInt = 1 ∧ (p3 : Int32).toInt ≤ ((u.2.1 0 0) : Int32).toInt ∧ (p7 : Int32).toInt = 0 ∧ (p5 : Int32).toInt = (4 : Int32).toInt)) ∧ True) (fun u => (wk_253faa1b8 cy h0 p0 w0 w1 h1 w2 p1 (u.2.1 0 0) (u.2.1 1 0) p4 (u.2.1 2 0) (u.2.1 3 0) p7 p8 p9 p10 p11 w3 w4 w5 w6 w7 p12 p13 w8 w9 w10 p14 p15 w11 w12 w13 w14 w15 p16 w16 w17 w18 h1 f0)) 0 0 := by
  refine q_ent (own := RX12) (by decide) rfl (Nat.le_of_ble_eq_true rfl) (fun p e s m below meth c ls X hr hlk hnm hK hT h hA hl => ?_)
  obtain ⟨hx, hb, hml, hown, ht⟩ := id X
  replace hl : lv_has ls 2 [(0, .ref h0), (1, .int 4)] := hl
  refine lv_aload_n hx hb dX12_eats_0 rfl (lv_at hl 0 rfl) ?_
  refine lv_iload_n hx hb dX12_eats_1 rfl (lv_at hl 1 rfl) ?_
  refine q_callVi (rest := []) (wr := [(h1, .inl (cy 1, 900, .inl f0))]) X hK hT hA h (fun sz => gX12_is_04f0832 l D cy h0 p0 w0 w1 (.ref h1) w2 p1 p2 p3 p4 p5 p6 p7 p8 p9 p10 p11 w3 w4 w5 w6 w7 p12 p13 w8 w9 w10 p14 p15 w11 w12 w13 w14 w15 p16 w16 w17 w18 hp0 hp1 hp2 hp3 hp4 (i_rng _) hp6 (i_rng _) (i_rng _) (i_rng _) (i_rng _) (i_rng _) (i_rng _) (i_rng _) (i_rng _) (i_rng _) (i_rng _) sz) wm_6_79 wm_6_82 wm_1_12 hd_X12_is wm_6_81 wp_4_7 (ci := 12) (q0 := 0) rfl rfl ⟨Nat.le_of_ble_eq_true rfl, Nat.le_of_ble_eq_true rfl⟩ hl.1 rfl (Nat.le_of_ble_eq_true rfl) dX12_eats_2 ⟨Nat.le_of_ble_eq_true rfl, Nat.le_of_ble_eq_true rfl⟩ [0] [1] rfl rfl (by decide) rfl rfl (fun r_1 u_1 H locs w_1 h_1 => ?_)
  clear h
  obtain ⟨wr_1, y1_0, _⟩ := w_1
  have lq_1_1 : (4 : Int32).toInt = 4 := (by decide)
  replace h_1 : qW D _ _ (wk_e69636a28 cy h1 f0 h0 p0 w0 w1 h1 w2 p1 p2 p3 p4 p5 p6 p7 p8 p9 p10 p11 w3 w4 w5 w6 w7 p12 p13 w8 w9 w10 p14 p15 w11 w12 w13 w14 w15 p16 w16 w17 w18) _ _ := h_1
  refine lv_if_ne (tgt := 10) hx hb dX12_eats_5 (by decide) (fun c_2 => ?_) (fun c_2 => ?_)
  · replace c_2 := i_ne (x := r_1) (y := 0) rfl (show (0 : Int32).toInt = 0 by decide) c_2
    replace y1_0 := a10_1 y1_0 c_2
    refine lv_aload_n hx hb dX12_eats_10 rfl (lv_at hl 0 rfl) ?_
    refine q_callVv (rest := []) (wr := []) X hK hT hA h_1 (fun sz => gX12_next_c515fc5 l D cy h0 h1 p0 w0 w1 w2 p1 p2 p3 p4 p5 p6 p7 p8 p9 p10 p11 w3 w4 w5 w6 w7 p12 p13 w8 w9 w10 p14 p15 w11 w12 w13 w14 w15 p16 w16 w17 w18 f0 hp0 hp1 hp2 hp3 hp4 (i_rng _) hp6 (i_rng _) (i_rng _) (i_rng _) (i_rng _) (i_rng _) (i_rng _) (i_rng _) (i_rng _) (i_rng _) (i_rng _) (by (first | (clear hpre1; omega) | omega)) sz) wm_6_53 wm_6_56 wm_1_12 hd_X12_next wm_6_55 wp_4_3 (ci := 12) (q0 := 0) rfl rfl ⟨Nat.le_of_ble_eq_true rfl, Nat.le_of_ble_eq_true rfl⟩ hl.1 rfl (Nat.le_of_ble_eq_true rfl) dX12_eats_11 ⟨Nat.le_of_ble_eq_true rfl, Nat.le_of_ble_eq_true rfl⟩ [1, 0] [] rfl rfl (by decide) rfl rfl (fun u_3 H locs w_3 h_3 => ?_)
    clear h_1
    obtain ⟨w3_0, w3_1, w3_2, w3_3, y3_0, y3_1, y3_2, _⟩ := w_3
    replace h_3 : qW D _ _ (wk_253faa1b8 cy h0 p0 w0 w1 h1 w2 p1 (u_3.2.1 0 0) (u_3.2.1 1 0) p4 (u_3.2.1 2 0) (u_3.2.1 3 0) p7 p8 p9 p10 p11 w3 w4 w5 w6 w7 p12 p13 w8 w9 w10 p14 p15 w11 w12 w13 w14 w15 p16 w16 w17 w18 h1 f0) _ _ := h_3
    refine lv_iconst (v := 1) hx hb dX12_eats_14 (by decide) ?_
    exact q_iret X hr hlk hK h_3 rfl (fun _ => 0, (vcons (fun _ => (u_3.2.1 0 0)) (vcons (fun _ => (u_3.2.1 1 0)) (vcons (fun _ => (u_3.2.1 2 0)) (vcons (fun _ => (u_3.2.1 3 0)) (fun _ => (fun _ => 0)))))), fun _ _ => 0) ⟨⟨by decide +kernel, by decide +kernel⟩, w3_0, w3_1, w3_2, w3_3, y3_0, y3_1, (show ((1 : Int32).toInt = 0 ∧ ((u_3.2.1 0 0) : Int32).toInt = (p2 : Int32).toInt ∧ ((u_3.2.1 1 0) : Int32).toInt = (p3 : Int32).toInt ∧ ((u_3.2.1 2 0) : Int32).toInt = (p5 : Int32).toInt ∧ ((p7 : Int32).toInt ≠ 0 ∨ ((u_3.2.1 2 0) : Int32).toInt ≠ (4 : Int32).toInt)) ∨ ((1 : Int32).toInt = 1 ∧ (p3 : Int32).toInt ≤ ((u_3.2.1 0 0) : Int32).toInt ∧ (p7 : Int32).toInt = 0 ∧ (p5 : Int32).toInt = (4 : Int32).toInt) from by have q0 : (1 : Int32).toInt = 1 := (by decide); have q1 : (4 : Int32).toInt = 4 := (by decide); (first | (clear hpre1 y3_1; omega) | omega)), trivial⟩ [0, 1] rfl rfl dX12_eats_15 (Nat.le_of_ble_eq_true rfl) (Nat.le_of_ble_eq_true rfl)
  · replace c_2 := i_eq (x := r_1) (y := 0) rfl (show (0 : Int32).toInt = 0 by decide) c_2
    replace y1_0 := a10_0 y1_0 c_2
    refine lv_iconst (v := 0) hx hb dX12_eats_8 (by decide) ?_
    exact q_iret X hr hlk hK h_1 rfl (fun _ => 0, (vcons (fun _ => p2) (vcons (fun _ => p3) (vcons (fun _ => p5) (vcons (fun _ => p6) (fun _ => (fun _ => 0)))))), fun _ _ => 0) ⟨⟨by decide +kernel, by decide +kernel⟩, hp2, hp3, hp5, hp6, hpre0, hpre1, (show ((0 : Int32).toInt = 0 ∧ (p2 : Int32).toInt = (p2 : Int32).toInt ∧ (p3 : Int32).toInt = (p3 : Int32).toInt ∧ (p5 : Int32).toInt = (p5 : Int32).toInt ∧ ((p7 : Int32).toInt ≠ 0 ∨ (p5 : Int32).toInt ≠ (4 : Int32).toInt)) ∨ ((0 : Int32).toInt = 1 ∧ (p3 : Int32).toInt ≤ (p2 : Int32).toInt ∧ (p7 : Int32).toInt = 0 ∧ (p5 : Int32).toInt = (4 : Int32).toInt) from by have q0 : (0 : Int32).toInt = 0 := (by decide); have q1 : (4 : Int32).toInt = 4 := (by decide); (first | (clear hpre1 y1_0; omega) | omega)), trivial⟩ [1, 0] rfl rfl dX12_eats_9 (Nat.le_of_ble_eq_true rfl) (Nat.le_of_ble_eq_true rfl)
set_option maxHeartbeats 4000000 in
set_option maxRecDepth 100000 in
theorem gX12_readFlag_1d3400a (l : Launch) (D : va_G) (cy : Nat → ClassId) (h0 : Nat) (h1 : Nat) (h2 : Nat) (p0 : Int32) (p1 : Int32) (w0 : Value) (w1 : Value) (p2 : Int32) (p3 : Int32) (p4 : Int32) (p5 : Int32) (p6 : Int32) (p7 : Int32) (p8 : Int32) (p9 : Int32) (p10 : Int32) (p11 : Int32) (p12 : Int32) (w2 : Value) (w3 : Value) (w4 : Value) (w5 : Value) (w6 : Value) (p13 : Int32) (p14 : Int32) (w7 : Value) (w8 : Value) (w9 : Value) (p15 : Int32) (p16 : Int32) (w10 : Value) (w11 : Value) (w12 : Value) (w13 : Value) (w14 : Value) (p17 : Int32) (w15 : Value) (w16 : Value) (w17 : Value) (f0 : Nat → Int32) (f1 : Nat → Int32) (p18 : Int32) (p19 : Int32) (hp0 : 0 ≤ (p0).toInt ∧ (p0).toInt ≤ 10) (hp1 : 0 ≤ (p1).toInt ∧ (p1).toInt ≤ 0) (hp2 : 0 ≤ (p2).toInt ∧ (p2).toInt ≤ 900) (hp3 : 0 ≤ (p3).toInt ∧ (p3).toInt ≤ 900) (hp4 : 0 ≤ (p4).toInt ∧ (p4).toInt ≤ 900) (hp5 : 0 ≤ (p5).toInt ∧ (p5).toInt ≤ 900) (hp6 : (-2147483648) ≤ (p6).toInt ∧ (p6).toInt ≤ 2147483647) (hp7 : 0 ≤ (p7).toInt ∧ (p7).toInt ≤ 999) (hp8 : (-2147483648) ≤ (p8).toInt ∧ (p8).toInt ≤ 2147483647) (hp9 : (-2147483648) ≤ (p9).toInt ∧ (p9).toInt ≤ 2147483647) (hp10 : (-2147483648) ≤ (p10).toInt ∧ (p10).toInt ≤ 2147483647) (hp11 : (-2147483648) ≤ (p11).toInt ∧ (p11).toInt ≤ 2147483647) (hp12 : (-2147483648) ≤ (p12).toInt ∧ (p12).toInt ≤ 2147483647) (hp13 : (-2147483648) ≤ (p13).toInt ∧ (p13).toInt ≤ 2147483647) (hp14 : (-2147483648) ≤ (p14).toInt ∧ (p14).toInt ≤ 2147483647) (hp15 : (-2147483648) ≤ (p15).toInt ∧ (p15).toInt ≤ 2147483647) (hp16 : (-2147483648) ≤ (p16).toInt ∧ (p16).toInt ≤ 2147483647) (hp17 : (-2147483648) ≤ (p17).toInt ∧ (p17).toInt ≤ 2147483647) (hp18 : (-2147483648) ≤ (p18).toInt ∧ (p18).toInt ≤ 2147483647) (hp19 : 0 ≤ (p19).toInt ∧ (p19).toInt ≤ 900) (htf1_1 : f1 1 = p18) (htf1_2 : f1 2 = p0) (htf1_405 : f1 405 = p19) (hpre0 : 0 ≤ (p3 : Int32).toInt ∧ (p3 : Int32).toInt ≤ (p4 : Int32).toInt ∧ (p4 : Int32).toInt ≤ (p5 : Int32).toInt) (hpre1 : (p6 : Int32).toInt = 26 ∨ (p3 : Int32).toInt < (p4 : Int32).toInt) (hpre2 : HF (p8 : Int32).toInt f1 ((p19 : Int32).toInt).toNat) (sz : Nat) : MI l yX12_readFlag cX12_readFlag 4 .boolean { frames := 7, cells := 0, slots := 0, locals := 152 } [.ref h0, .int p0] D cy (wk_8d528f753 cy h0 p1 w0 w1 h1 h2 p2 p3 p4 p5 p6 p7 p8 p9 p10 p11 p12 w2 w3 w4 w5 w6 p13 p14 w7 w8 w9 p15 p16 w10 w11 w12 w13 w14 p17 w15 w16 w17 h1 f0 h2 f1) sz (fun r u => (0 ≤ r.toInt ∧ r.toInt ≤ 1) ∧ (0 ≤ (u.2.1 0 0).toInt ∧ (u.2.1 0 0).toInt ≤ 900) ∧ (0 ≤ (u.2.1 1 0).toInt ∧ (u.2.1 1 0).toInt ≤ 900) ∧ ((-2147483648) ≤ (u.2.1 2 0).toInt ∧ (u.2.1 2 0).toInt ≤ 2147483647) ∧ (0 ≤ (u.2.1 3 0).toInt ∧ (u.2.1 3 0).toInt ≤ 999) ∧ ((-2147483648) ≤ (u.2.1 5 0).toInt ∧ (u.2.1 5 0).toInt ≤ 2147483647) ∧ ((-2147483648) ≤ (u.2.1 6 0).toInt ∧ (u.2.1 6 0).toInt ≤ 2147483647) ∧ (u.2.1 4) 1 = p18 ∧ (u.2.1 4) 2 = p0 ∧ (u.2.1 4) 405 = p19 ∧ (0 ≤ ((u.2.1 0 0) : Int32).toInt ∧ ((u.2.1 0 0) : Int32).toInt ≤ ((u.2.1 1 0) : Int32).toInt ∧ ((u.2.1 1 0) : Int32).toInt ≤ (p5 : Int32).toInt) ∧ (((u.2.1 2 0) : Int32).toInt = 26 ∨ ((u.2.1 0 0) : Int32).toInt < ((u.2.1 1 0) : Int32).toInt) ∧ ((p3 : Int32).toInt ≤ ((u.2.1 0 0) : Int32).toInt) ∧ (((u.2.1 5 0) : Int32).toInt ≠ 0 ∨ (p8 : Int32).toInt = 0) ∧ (HF ((u.2.1 5 0) : Int32).toInt (u.2.1 4) ((p19 : Int32).toInt).toNat) ∧ ((r : Int32).toInt = 0 ∨ (p3 : Int32).toInt + 1 ≤ ((u.2.1 0 0) : Int32).toInt) ∧ True) (fun u => (wk_8d528f753 cy h0 p1 w0 w1 h1 h2 p2 (u.2.1 0 0) (u.2.1 1 0) p5 (u.2.1 2 0) (u.2.1 3 0) (u.2.1 5 0) (u.2.1 6 0) p10 p11 p12 w2 w3 w4 w5 w6 p13 p14 w7 w8 w9 p15 p16 w10 w11 w12 w13 w14 p17 w15 w16 w17 h1 f0 h2 (u.2.1 4))) 0 0 := by
  refine q_ent (own := RX12) (by decide) rfl (Nat.le_of_ble_eq_true rfl) (fun p e s m below meth c ls X hr hlk hnm hK hT h hA hl => ?_)
  obtain ⟨hx, hb, hml, hown, ht⟩ := id X
  replace hl : lv_has ls 4 [(0, .ref h0), (1, .int p0)] := hl
  refine lv_aload_n hx hb dX12_readFlag_0 rfl (lv_at hl 0 rfl) ?_
  refine lv_iconst (v := 3) hx hb dX12_readFlag_1 (by decide) ?_
  refine q_callVi (rest := []) (wr := [(h2, .inl (cy 1, 1306, .inl f1))]) X hK hT hA h (fun sz => gX12_eats_fa2d55f l D cy h0 h1 p1 w0 w1 (.ref h2) p2 p3 p4 p5 p6 p7 p8 p9 p10 p11 p12 w2 w3 w4 w5 w6 p13 p14 w7 w8 w9 p15 p16 w10 w11 w12 w13 w14 p17 w15 w16 w17 f0 hp1 hp2 hp3 hp4 hp5 (i_rng _) hp7 (i_rng _) (i_rng _) (i_rng _) (i_rng _) (i_rng _) (i_rng _) (i_rng _) (i_rng _) (i_rng _) (i_rng _) (hpre0) (hpre1) sz) wm_6_75 wm_6_78 wm_1_12 hd_X12_eats wm_6_77 wp_4_6 (ci := 12) (q0 := 0) rfl rfl ⟨Nat.le_of_ble_eq_true rfl, Nat.le_of_ble_eq_true rfl⟩ hl.1 rfl (Nat.le_of_ble_eq_true rfl) dX12_readFlag_2 ⟨Nat.le_of_ble_eq_true rfl, Nat.le_of_ble_eq_true rfl⟩ [0, 1] [2] rfl rfl (by decide) rfl rfl (fun r_1 u_1 H locs w_1 h_1 => ?_)
  clear h
  obtain ⟨wr_1, w1_0, w1_1, w1_2, w1_3, y1_0, y1_1, y1_2, _⟩ := w_1
  have lq_1_1 : (3 : Int32).toInt = 3 := (by decide)
  replace h_1 : qW D _ _ (wk_1d090495b cy h2 f1 h0 p1 w0 w1 h1 h2 p2 (u_1.2.1 0 0) (u_1.2.1 1 0) p5 (u_1.2.1 2 0) (u_1.2.1 3 0) p8 p9 p10 p11 p12 w2 w3 w4 w5 w6 p13 p14 w7 w8 w9 p15 p16 w10 w11 w12 w13 w14 p17 w15 w16 w17 h1 f0) _ _ := h_1
  refine lv_if_eq (tgt := 62) hx hb dX12_readFlag_5 (by decide) (fun c_2 => ?_) (fun c_2 => ?_)
  · replace c_2 := i_eq (x := r_1) (y := 0) rfl (show (0 : Int32).toInt = 0 by decide) c_2
    replace y1_2 := a01_0 y1_2 c_2
    obtain ⟨y1_2a, y1_2b, y1_2c, y1_2d⟩ := y1_2
    refine lv_aload_n hx hb dX12_readFlag_62 rfl (lv_at hl 0 rfl) ?_
    refine lv_iconst (v := 5) hx hb dX12_readFlag_63 (by decide) ?_
    refine q_callVi (rest := []) (wr := [(h2, .inl (cy 1, 1306, .inl f1))]) X hK hT hA h_1 (fun sz => gX12_eats_03f5ae0 l D cy h0 h1 p1 w0 w1 (.ref h2) p2 (u_1.2.1 0 0) (u_1.2.1 1 0) p5 (u_1.2.1 2 0) (u_1.2.1 3 0) p8 p9 p10 p11 p12 w2 w3 w4 w5 w6 p13 p14 w7 w8 w9 p15 p16 w10 w11 w12 w13 w14 p17 w15 w16 w17 f0 hp1 hp2 w1_0 w1_1 hp5 (i_rng _) w1_3 (i_rng _) (i_rng _) (i_rng _) (i_rng _) (i_rng _) (i_rng _) (i_rng _) (i_rng _) (i_rng _) (i_rng _) (y1_0) (y1_1) sz) wm_6_75 wm_6_78 wm_1_12 hd_X12_eats wm_6_77 wp_4_6 (ci := 12) (q0 := 0) rfl rfl ⟨Nat.le_of_ble_eq_true rfl, Nat.le_of_ble_eq_true rfl⟩ hl.1 rfl (Nat.le_of_ble_eq_true rfl) dX12_readFlag_64 ⟨Nat.le_of_ble_eq_true rfl, Nat.le_of_ble_eq_true rfl⟩ [1, 2] [0] rfl rfl (by decide) rfl rfl (fun r_3 u_3 H locs w_3 h_3 => ?_)
    clear h_1
    obtain ⟨wr_3, w3_0, w3_1, w3_2, w3_3, y3_0, y3_1, y3_2, _⟩ := w_3
    have lq_3_1 : (5 : Int32).toInt = 5 := (by decide)
    replace h_3 : qW D _ _ (wk_1d090495b cy h2 f1 h0 p1 w0 w1 h1 h2 p2 (u_3.2.1 0 0) (u_3.2.1 1 0) p5 (u_3.2.1 2 0) (u_3.2.1 3 0) p8 p9 p10 p11 p12 w2 w3 w4 w5 w6 p13 p14 w7 w8 w9 p15 p16 w10 w11 w12 w13 w14 p17 w15 w16 w17 h1 f0) _ _ := h_3
    refine lv_if_eq (tgt := 89) hx hb dX12_readFlag_67 (by decide) (fun c_4 => ?_) (fun c_4 => ?_)
    · replace c_4 := i_eq (x := r_3) (y := 0) rfl (show (0 : Int32).toInt = 0 by decide) c_4
      replace y3_2 := a01_0 y3_2 c_4
      obtain ⟨y3_2a, y3_2b, y3_2c, y3_2d⟩ := y3_2
      refine lv_aload_n hx hb dX12_readFlag_89 rfl (lv_at hl 0 rfl) ?_
      refine lv_bipush (v := 6) hx hb dX12_readFlag_90 (by decide) ?_
      refine q_callVi (rest := []) (wr := [(h2, .inl (cy 1, 1306, .inl f1))]) X hK hT hA h_3 (fun sz => gX12_eats_6fbff45 l D cy h0 h1 p1 w0 w1 (.ref h2) p2 (u_3.2.1 0 0) (u_3.2.1 1 0) p5 (u_3.2.1 2 0) (u_3.2.1 3 0) p8 p9 p10 p11 p12 w2 w3 w4 w5 w6 p13 p14 w7 w8 w9 p15 p16 w10 w11 w12 w13 w14 p17 w15 w16 w17 f0 hp1 hp2 w3_0 w3_1 hp5 (i_rng _) w3_3 (i_rng _) (i_rng _) (i_rng _) (i_rng _) (i_rng _) (i_rng _) (i_rng _) (i_rng _) (i_rng _) (i_rng _) (y3_0) (y3_1) sz) wm_6_75 wm_6_78 wm_1_12 hd_X12_eats wm_6_77 wp_4_6 (ci := 12) (q0 := 0) rfl rfl ⟨Nat.le_of_ble_eq_true rfl, Nat.le_of_ble_eq_true rfl⟩ hl.1 rfl (Nat.le_of_ble_eq_true rfl) dX12_readFlag_92 ⟨Nat.le_of_ble_eq_true rfl, Nat.le_of_ble_eq_true rfl⟩ [1, 2] [0] rfl rfl (by decide) rfl rfl (fun r_5 u_5 H locs w_5 h_5 => ?_)
      clear h_3
      obtain ⟨wr_5, w5_0, w5_1, w5_2, w5_3, y5_0, y5_1, y5_2, _⟩ := w_5
      have lq_5_1 : (6 : Int32).toInt = 6 := (by decide)
      replace h_5 : qW D _ _ (wk_1d090495b cy h2 f1 h0 p1 w0 w1 h1 h2 p2 (u_5.2.1 0 0) (u_5.2.1 1 0) p5 (u_5.2.1 2 0) (u_5.2.1 3 0) p8 p9 p10 p11 p12 w2 w3 w4 w5 w6 p13 p14 w7 w8 w9 p15 p16 w10 w11 w12 w13 w14 p17 w15 w16 w17 h1 f0) _ _ := h_5
      refine lv_if_eq (tgt := 117) hx hb dX12_readFlag_95 (by decide) (fun c_6 => ?_) (fun c_6 => ?_)
      · replace c_6 := i_eq (x := r_5) (y := 0) rfl (show (0 : Int32).toInt = 0 by decide) c_6
        replace y5_2 := a01_0 y5_2 c_6
        obtain ⟨y5_2a, y5_2b, y5_2c, y5_2d⟩ := y5_2
        refine lv_iconst (v := 0) hx hb dX12_readFlag_117 (by decide) ?_
        exact q_iret X hr hlk hK h_5 rfl (fun _ => 0, (vcons (fun _ => (u_5.2.1 0 0)) (vcons (fun _ => (u_5.2.1 1 0)) (vcons (fun _ => (u_5.2.1 2 0)) (vcons (fun _ => (u_5.2.1 3 0)) (vcons f1 (vcons (fun _ => p8) (vcons (fun _ => p9) (fun _ => (fun _ => 0))))))))), fun _ _ => 0) ⟨⟨by decide +kernel, by decide +kernel⟩, w5_0, w5_1, w5_2, w5_3, hp8, hp9, htf1_1, htf1_2, htf1_405, y5_0, y5_1, (show (p3 : Int32).toInt ≤ ((u_5.2.1 0 0) : Int32).toInt from by (first | (clear hpre1 y1_1 y1_2d y3_1 y3_2d y5_1 y5_2d; omega) | omega)), (show (p8 : Int32).toInt ≠ 0 ∨ (p8 : Int32).toInt = 0 from (ne_or _)), (show HF (p8 : Int32).toInt f1 ((p19 : Int32).toInt).toNat from hf_w hpre2 (by (first | assumption | (clear hpre1 y1_1 y1_2d y3_1 y3_2d y5_1 y5_2d; omega) | omega))), (show (0 : Int32).toInt = 0 ∨ (p3 : Int32).toInt + 1 ≤ ((u_5.2.1 0 0) : Int32).toInt from by have q0 : (0 : Int32).toInt = 0 := (by decide); (first | (clear hpre1 y1_1 y1_2d y3_1 y3_2d y5_1 y5_2d; omega) | omega)), trivial⟩ [1, 2, 0] rfl rfl dX12_readFlag_118 (Nat.le_of_ble_eq_true rfl) (Nat.le_of_ble_eq_true rfl)
      · replace c_6 := i_ne (x := r_5) (y := 0) rfl (show (0 : Int32).toInt = 0 by decide) c_6
        replace y5_2 := a01_1 y5_2 c_6
        refine lv_aload_n hx hb dX12_readFlag_98 rfl (lv_at hl 0 rfl) ?_
        refine q_get X hK h_5 1 rfl rfl wf_12 4 (by decide) rfl wm_5_174 dX12_readFlag_99 ?_
        refine lv_bipush (v := 42) hx hb dX12_readFlag_102 (by decide) ?_
        refine lv_iload_n hx hb dX12_readFlag_104 rfl (lv_at hl 1 rfl) ?_
        refine lv_iadd hx hb dX12_readFlag_105 ?_
        obtain ⟨z_7, ez_7, hz_7⟩ := e_add (x := 42) (y := p0) (show (42 : Int32).toInt = 42 by decide) rfl (by omega) (by omega)
        refine q_c z_7 ez_7 ?_
        clear ez_7
        refine lv_aload_n hx hb dX12_readFlag_106 rfl (lv_at hl 0 rfl) ?_
        refine lv_iconst (v := 1) hx hb dX12_readFlag_107 (by decide) ?_
        refine lv_bipush (v := 99) hx hb dX12_readFlag_108 (by decide) ?_
        refine q_callVi (rest := [.int z_7, .ref h2]) (wr := [(h2, .inl (cy 1, 1306, .inl f1))]) X hK hT hA h_5 (fun sz => gX12_takes_bfb9e22 l D cy h0 h1 (1 : Int32) (99 : Int32) p1 w0 w1 (.ref h2) p2 (u_5.2.1 0 0) (u_5.2.1 1 0) p5 (u_5.2.1 2 0) (u_5.2.1 3 0) p8 p9 p10 p11 p12 w2 w3 w4 w5 w6 p13 p14 w7 w8 w9 p15 p16 w10 w11 w12 w13 w14 p17 w15 w16 w17 f0 ⟨by decide +kernel, by decide +kernel⟩ ⟨by decide +kernel, by decide +kernel⟩ hp1 hp2 w5_0 w5_1 hp5 (i_rng _) w5_3 (i_rng _) (i_rng _) (i_rng _) (i_rng _) (i_rng _) (i_rng _) (i_rng _) (i_rng _) (i_rng _) (i_rng _) (y5_0) (y5_1) sz) wm_6_87 wm_6_90 wm_1_12 hd_X12_takes wm_6_89 wp_4_9 (ci := 12) (q0 := 0) rfl rfl ⟨Nat.le_of_ble_eq_true rfl, Nat.le_of_ble_eq_true rfl⟩ hl.1 rfl (Nat.le_of_ble_eq_true rfl) dX12_readFlag_110 ⟨Nat.le_of_ble_eq_true rfl, Nat.le_of_ble_eq_true rfl⟩ [1, 2] [0] rfl rfl (by decide) rfl rfl (fun r_8 u_8 H locs w_8 h_8 => ?_)
        clear h_5
        obtain ⟨wr_8, w8_0, w8_1, w8_2, w8_3, w8_4, w8_5, y8_0, y8_1, y8_2, y8_3, y8_4, _⟩ := w_8
        have lq_8_1 : (1 : Int32).toInt = 1 := (by decide)
        have lq_8_2 : (99 : Int32).toInt = 99 := (by decide)
        replace h_8 : qW D _ _ (wk_1d090495b cy h2 f1 h0 p1 w0 w1 h1 h2 p2 (u_8.2.1 2 0) (u_8.2.1 3 0) p5 (u_8.2.1 4 0) (u_8.2.1 5 0) (u_8.2.1 0 0) (u_8.2.1 1 0) p10 p11 p12 w2 w3 w4 w5 w6 p13 p14 w7 w8 w9 p15 p16 w10 w11 w12 w13 w14 p17 w15 w16 w17 h1 f0) _ _ := h_8
        refine q_iast X hK h_8 0 rfl (i_in rfl (by omega) (by omega)) dX12_readFlag_113 (fun H locs h_10 => ?_)
        clear h_8
        replace h_10 : qW D _ _ (wk_1d090495b cy h2 (upd f1 (Int32.toNatClampNeg z_7) r_8) h0 p1 w0 w1 h1 h2 p2 (u_8.2.1 2 0) (u_8.2.1 3 0) p5 (u_8.2.1 4 0) (u_8.2.1 5 0) (u_8.2.1 0 0) (u_8.2.1 1 0) p10 p11 p12 w2 w3 w4 w5 w6 p13 p14 w7 w8 w9 p15 p16 w10 w11 w12 w13 w14 p17 w15 w16 w17 h1 f0) _ _ := h_10
        obtain ⟨F_9, eF_9⟩ : ∃ z, (upd f1 (Int32.toNatClampNeg z_7) r_8) = z := ⟨_, rfl⟩
        have trF_9_1 := (tr_ne eF_9 htf1_1 rfl (by omega))
        have trF_9_2 := (tr_ne eF_9 htf1_2 rfl (by omega))
        have trF_9_405 := (tr_ne eF_9 htf1_405 rfl (by omega))
        rw [eF_9] at h_10
        have hf_11 := hf_upd hpre2 eF_9 (by first | omega | decide)
        refine lv_goto (tgt := 119) hx hb dX12_readFlag_114 (by decide) ?_
        refine lv_aload_n hx hb dX12_readFlag_119 rfl (lv_at hl 0 rfl) ?_
        refine q_get X hK h_10 1 rfl rfl wf_12 11 (by decide) rfl wm_5_181 dX12_readFlag_120 ?_
        refine lv_if_ne (tgt := 130) hx hb dX12_readFlag_123 (by decide) (fun c_12 => ?_) (fun c_12 => ?_)
        · replace c_12 := i_ne (x := (u_8.2.1 0 0)) (y := 0) rfl (show (0 : Int32).toInt = 0 by decide) c_12
          refine lv_iconst (v := 0) hx hb dX12_readFlag_130 (by decide) ?_
          exact q_iret X hr hlk hK h_10 rfl (fun _ => 0, (vcons (fun _ => (u_8.2.1 2 0)) (vcons (fun _ => (u_8.2.1 3 0)) (vcons (fun _ => (u_8.2.1 4 0)) (vcons (fun _ => (u_8.2.1 5 0)) (vcons F_9 (vcons (fun _ => (u_8.2.1 0 0)) (vcons (fun _ => (u_8.2.1 1 0)) (fun _ => (fun _ => 0))))))))), fun _ _ => 0) ⟨⟨by decide +kernel, by decide +kernel⟩, w8_2, w8_3, w8_4, w8_5, w8_0, w8_1, trF_9_1, trF_9_2, trF_9_405, y8_0, y8_1, (show (p3 : Int32).toInt ≤ ((u_8.2.1 2 0) : Int32).toInt from by (first | (clear hpre1 y1_1 y1_2d y3_1 y3_2d y5_1 y8_1 y8_3 y8_4; omega) | omega)), y8_3, (show HF ((u_8.2.1 0 0) : Int32).toInt F_9 ((p19 : Int32).toInt).toNat from hf_w hf_11 (by (first | assumption | (clear hpre1 y1_1 y1_2d y3_1 y3_2d y5_1 y8_1 y8_3 y8_4; omega) | omega))), (show (0 : Int32).toInt = 0 ∨ (p3 : Int32).toInt + 1 ≤ ((u_8.2.1 2 0) : Int32).toInt from by have q0 : (0 : Int32).toInt = 0 := (by decide); (first | (clear hpre1 y1_1 y1_2d y3_1 y3_2d y5_1 y8_1 y8_3 y8_4; omega) | omega)), trivial⟩ [1, 2, 0] rfl rfl dX12_readFlag_131 (Nat.le_of_ble_eq_true rfl) (Nat.le_of_ble_eq_true rfl)
        · replace c_12 := i_eq (x := (u_8.2.1 0 0)) (y := 0) rfl (show (0 : Int32).toInt = 0 by decide) c_12
          refine lv_iconst (v := 1) hx hb dX12_readFlag_126 (by decide) ?_
          refine lv_goto (tgt := 131) hx hb dX12_readFlag_127 (by decide) ?_
          exact q_iret X hr hlk hK h_10 rfl (fun _ => 0, (vcons (fun _ => (u_8.2.1 2 0)) (vcons (fun _ => (u_8.2.1 3 0)) (vcons (fun _ => (u_8.2.1 4 0)) (vcons (fun _ => (u_8.2.1 5 0)) (vcons F_9 (vcons (fun _ => (u_8.2.1 0 0)) (vcons (fun _ => (u_8.2.1 1 0)) (fun _ => (fun _ => 0))))))))), fun _ _ => 0) ⟨⟨by decide +kernel, by decide +kernel⟩, w8_2, w8_3, w8_4, w8_5, w8_0, w8_1, trF_9_1, trF_9_2, trF_9_405, y8_0, y8_1, (show (p3 : Int32).toInt ≤ ((u_8.2.1 2 0) : Int32).toInt from by (first | (clear hpre1 y1_1 y1_2d y3_1 y3_2d y5_1 y8_1 y8_3 y8_4; omega) | omega)), y8_3, (show HF ((u_8.2.1 0 0) : Int32).toInt F_9 ((p19 : Int32).toInt).toNat from hf_w hf_11 (by (first | assumption | (clear hpre1 y1_1 y1_2d y3_1 y3_2d y5_1 y8_1 y8_3 y8_4; omega) | omega))), (show (1 : Int32).toInt = 0 ∨ (p3 : Int32).toInt + 1 ≤ ((u_8.2.1 2 0) : Int32).toInt from by have q0 : (1 : Int32).toInt = 1 := (by decide); (first | (clear hpre1 y1_1 y1_2d y3_1 y3_2d y5_1 y8_1 y8_3 y8_4; omega) | omega)), trivial⟩ [1, 2, 0] rfl rfl dX12_readFlag_131 (Nat.le_of_ble_eq_true rfl) (Nat.le_of_ble_eq_true rfl)
    · replace c_4 := i_ne (x := r_3) (y := 0) rfl (show (0 : Int32).toInt = 0 by decide) c_4
      replace y3_2 := a01_1 y3_2 c_4
      refine lv_aload_n hx hb dX12_readFlag_70 rfl (lv_at hl 0 rfl) ?_
      refine q_get X hK h_3 1 rfl rfl wf_12 4 (by decide) rfl wm_5_174 dX12_readFlag_71 ?_
      refine lv_bipush (v := 32) hx hb dX12_readFlag_74 (by decide) ?_
      refine lv_iload_n hx hb dX12_readFlag_76 rfl (lv_at hl 1 rfl) ?_
      refine lv_iadd hx hb dX12_readFlag_77 ?_
      obtain ⟨z_13, ez_13, hz_13⟩ := e_add (x := 32) (y := p0) (show (32 : Int32).toInt = 32 by decide) rfl (by omega) (by omega)
      refine q_c z_13 ez_13 ?_
      clear ez_13
      refine lv_aload_n hx hb dX12_readFlag_78 rfl (lv_at hl 0 rfl) ?_
      refine lv_iconst (v := 0) hx hb dX12_readFlag_79 (by decide) ?_
      refine lv_bipush (v := 10) hx hb dX12_readFlag_80 (by decide) ?_
      refine q_callVi (rest := [.int z_13, .ref h2]) (wr := [(h2, .inl (cy 1, 1306, .inl f1))]) X hK hT hA h_3 (fun sz => gX12_takes_bfb9e22 l D cy h0 h1 (0 : Int32) (10 : Int32) p1 w0 w1 (.ref h2) p2 (u_3.2.1 0 0) (u_3.2.1 1 0) p5 (u_3.2.1 2 0) (u_3.2.1 3 0) p8 p9 p10 p11 p12 w2 w3 w4 w5 w6 p13 p14 w7 w8 w9 p15 p16 w10 w11 w12 w13 w14 p17 w15 w16 w17 f0 ⟨by decide +kernel, by decide +kernel⟩ ⟨by decide +kernel, by decide +kernel⟩ hp1 hp2 w3_0 w3_1 hp5 (i_rng _) w3_3 (i_rng _) (i_rng _) (i_rng _) (i_rng _) (i_rng _) (i_rng _) (i_rng _) (i_rng _) (i_rng _) (i_rng _) (y3_0) (y3_1) sz) wm_6_87 wm_6_90 wm_1_12 hd_X12_takes wm_6_89 wp_4_9 (ci := 12) (q0 := 0) rfl rfl ⟨Nat.le_of_ble_eq_true rfl, Nat.le_of_ble_eq_true rfl⟩ hl.1 rfl (Nat.le_of_ble_eq_true rfl) dX12_readFlag_82 ⟨Nat.le_of_ble_eq_true rfl, Nat.le_of_ble_eq_true rfl⟩ [1, 2] [0] rfl rfl (by decide) rfl rfl (fun r_14 u_14 H locs w_14 h_14 => ?_)
      clear h_3
      obtain ⟨wr_14, w14_0, w14_1, w14_2, w14_3, w14_4, w14_5, y14_0, y14_1, y14_2, y14_3, y14_4, _⟩ := w_14
      have lq_14_1 : (0 : Int32).toInt = 0 := (by decide)
      have lq_14_2 : (10 : Int32).toInt = 10 := (by decide)
      replace h_14 : qW D _ _ (wk_1d090495b cy h2 f1 h0 p1 w0 w1 h1 h2 p2 (u_14.2.1 2 0) (u_14.2.1 3 0) p5 (u_14.2.1 4 0) (u_14.2.1 5 0) (u_14.2.1 0 0) (u_14.2.1 1 0) p10 p11 p12 w2 w3 w4 w5 w6 p13 p14 w7 w8 w9 p15 p16 w10 w11 w12 w13 w14 p17 w15 w16 w17 h1 f0) _ _ := h_14
      refine q_iast X hK h_14 0 rfl (i_in rfl (by omega) (by omega)) dX12_readFlag_85 (fun H locs h_16 => ?_)
      clear h_14
      replace h_16 : qW D _ _ (wk_1d090495b cy h2 (upd f1 (Int32.toNatClampNeg z_13) r_14) h0 p1 w0 w1 h1 h2 p2 (u_14.2.1 2 0) (u_14.2.1 3 0) p5 (u_14.2.1 4 0) (u_14.2.1 5 0) (u_14.2.1 0 0) (u_14.2.1 1 0) p10 p11 p12 w2 w3 w4 w5 w6 p13 p14 w7 w8 w9 p15 p16 w10 w11 w12 w13 w14 p17 w15 w16 w17 h1 f0) _ _ := h_16
      obtain ⟨F_15, eF_15⟩ : ∃ z, (upd f1 (Int32.toNatClampNeg z_13) r_14) = z := ⟨_, rfl⟩
      have trF_15_1 := (tr_ne eF_15 htf1_1 rfl (by omega))
      have trF_15_2 := (tr_ne eF_15 htf1_2 rfl (by omega))
      have trF_15_405 := (tr_ne eF_15 htf1_405 rfl (by omega))
      rw [eF_15] at h_16
      have hf_17 := hf_upd hpre2 eF_15 (by first | omega | decide)
      refine lv_goto (tgt := 119) hx hb dX12_readFlag_86 (by decide) ?_
      refine lv_aload_n hx hb dX12_readFlag_119 rfl (lv_at hl 0 rfl) ?_
      refine q_get X hK h_16 1 rfl rfl wf_12 11 (by decide) rfl wm_5_181 dX12_readFlag_120 ?_
      refine lv_if_ne (tgt := 130) hx hb dX12_readFlag_123 (by decide) (fun c_18 => ?_) (fun c_18 => ?_)
      · replace c_18 := i_ne (x := (u_14.2.1 0 0)) (y := 0) rfl (show (0 : Int32).toInt = 0 by decide) c_18
        refine lv_iconst (v := 0) hx hb dX12_readFlag_130 (by decide) ?_
        exact q_iret X hr hlk hK h_16 rfl (fun _ => 0, (vcons (fun _ => (u_14.2.1 2 0)) (vcons (fun _ => (u_14.2.1 3 0)) (vcons (fun _ => (u_14.2.1 4 0)) (vcons (fun _ => (u_14.2.1 5 0)) (vcons F_15 (vcons (fun _ => (u_14.2.1 0 0)) (vcons (fun _ => (u_14.2.1 1 0)) (fun _ => (fun _ => 0))))))))), fun _ _ => 0) ⟨⟨by decide +kernel, by decide +kernel⟩, w14_2, w14_3, w14_4, w14_5, w14_0, w14_1, trF_15_1, trF_15_2, trF_15_405, y14_0, y14_1, (show (p3 : Int32).toInt ≤ ((u_14.2.1 2 0) : Int32).toInt from by (first | (clear hpre1 y1_1 y1_2d y3_1 y14_1 y14_3 y14_4; omega) | omega)), y14_3, (show HF ((u_14.2.1 0 0) : Int32).toInt F_15 ((p19 : Int32).toInt).toNat from hf_w hf_17 (by (first | assumption | (clear hpre1 y1_1 y1_2d y3_1 y14_1 y14_3 y14_4; omega) | omega))), (show (0 : Int32).toInt = 0 ∨ (p3 : Int32).toInt + 1 ≤ ((u_14.2.1 2 0) : Int32).toInt from by have q0 : (0 : Int32).toInt = 0 := (by decide); (first | (clear hpre1 y1_1 y1_2d y3_1 y14_1 y14_3 y14_4; omega) | omega)), trivial⟩ [1, 2, 0] rfl rfl dX12_readFlag_131 (Nat.le_of_ble_eq_true rfl) (Nat.le_of_ble_eq_true rfl)
      · replace c_18 := i_eq (x := (u_14.2.1 0 0)) (y := 0) rfl (show (0 : Int32).toInt = 0 by decide) c_18
        refine lv_iconst (v := 1) hx hb dX12_readFlag_126 (by decide) ?_
        refine lv_goto (tgt := 131) hx hb dX12_readFlag_127 (by decide) ?_
        exact q_iret X hr hlk hK h_16 rfl (fun _ => 0, (vcons (fun _ => (u_14.2.1 2 0)) (vcons (fun _ => (u_14.2.1 3 0)) (vcons (fun _ => (u_14.2.1 4 0)) (vcons (fun _ => (u_14.2.1 5 0)) (vcons F_15 (vcons (fun _ => (u_14.2.1 0 0)) (vcons (fun _ => (u_14.2.1 1 0)) (fun _ => (fun _ => 0))))))))), fun _ _ => 0) ⟨⟨by decide +kernel, by decide +kernel⟩, w14_2, w14_3, w14_4, w14_5, w14_0, w14_1, trF_15_1, trF_15_2, trF_15_405, y14_0, y14_1, (show (p3 : Int32).toInt ≤ ((u_14.2.1 2 0) : Int32).toInt from by (first | (clear hpre1 y1_1 y1_2d y3_1 y14_1 y14_3 y14_4; omega) | omega)), y14_3, (show HF ((u_14.2.1 0 0) : Int32).toInt F_15 ((p19 : Int32).toInt).toNat from hf_w hf_17 (by (first | assumption | (clear hpre1 y1_1 y1_2d y3_1 y14_1 y14_3 y14_4; omega) | omega))), (show (1 : Int32).toInt = 0 ∨ (p3 : Int32).toInt + 1 ≤ ((u_14.2.1 2 0) : Int32).toInt from by have q0 : (1 : Int32).toInt = 1 := (by decide); (first | (clear hpre1 y1_1 y1_2d y3_1 y14_1 y14_3 y14_4; omega) | omega)), trivial⟩ [1, 2, 0] rfl rfl dX12_readFlag_131 (Nat.le_of_ble_eq_true rfl) (Nat.le_of_ble_eq_true rfl)
  · replace c_2 := i_ne (x := r_1) (y := 0) rfl (show (0 : Int32).toInt = 0 by decide) c_2
    replace y1_2 := a01_1 y1_2 c_2
    refine lv_aload_n hx hb dX12_readFlag_8 rfl (lv_at hl 0 rfl) ?_
    refine lv_iconst (v := 0) hx hb dX12_readFlag_9 (by decide) ?_
    refine lv_sipush (v := 999) hx hb dX12_readFlag_10 (by decide) ?_
    refine q_callVi (rest := []) (wr := [(h2, .inl (cy 1, 1306, .inl f1))]) X hK hT hA h_1 (fun sz => gX12_takes_bfb9e22 l D cy h0 h1 (0 : Int32) (999 : Int32) p1 w0 w1 (.ref h2) p2 (u_1.2.1 0 0) (u_1.2.1 1 0) p5 (u_1.2.1 2 0) (u_1.2.1 3 0) p8 p9 p10 p11 p12 w2 w3 w4 w5 w6 p13 p14 w7 w8 w9 p15 p16 w10 w11 w12 w13 w14 p17 w15 w16 w17 f0 ⟨by decide +kernel, by decide +kernel⟩ ⟨by decide +kernel, by decide +kernel⟩ hp1 hp2 w1_0 w1_1 hp5 (i_rng _) w1_3 (i_rng _) (i_rng _) (i_rng _) (i_rng _) (i_rng _) (i_rng _) (i_rng _) (i_rng _) (i_rng _) (i_rng _) (y1_0) (y1_1) sz) wm_6_87 wm_6_90 wm_1_12 hd_X12_takes wm_6_89 wp_4_9 (ci := 12) (q0 := 0) rfl rfl ⟨Nat.le_of_ble_eq_true rfl, Nat.le_of_ble_eq_true rfl⟩ hl.1 rfl (Nat.le_of_ble_eq_true rfl) dX12_readFlag_13 ⟨Nat.le_of_ble_eq_true rfl, Nat.le_of_ble_eq_true rfl⟩ [1, 2] [0] rfl rfl (by decide) rfl rfl (fun r_19 u_19 H locs w_19 h_19 => ?_)
    clear h_1
    obtain ⟨wr_19, w19_0, w19_1, w19_2, w19_3, w19_4, w19_5, y19_0, y19_1, y19_2, y19_3, y19_4, _⟩ := w_19
    have lq_19_1 : (0 : Int32).toInt = 0 := (by decide)
    have lq_19_2 : (999 : Int32).toInt = 999 := (by decide)
    replace h_19 : qW D _ _ (wk_1d090495b cy h2 f1 h0 p1 w0 w1 h1 h2 p2 (u_19.2.1 2 0) (u_19.2.1 3 0) p5 (u_19.2.1 4 0) (u_19.2.1 5 0) (u_19.2.1 0 0) (u_19.2.1 1 0) p10 p11 p12 w2 w3 w4 w5 w6 p13 p14 w7 w8 w9 p15 p16 w10 w11 w12 w13 w14 p17 w15 w16 w17 h1 f0) _ _ := h_19
    refine lv_istore_n (lv' := [(2, .int r_19), (0, .ref h0), (1, .int p0)]) hx hb dX12_readFlag_16 rfl hl (by decide) rfl (fun ls_20 hl_20 => ?_)
    clear hl
    refine lv_aload_n hx hb dX12_readFlag_17 rfl (lv_at hl_20 1 rfl) ?_
    refine lv_iconst (v := 4) hx hb dX12_readFlag_18 (by decide) ?_
    refine q_callVi (rest := []) (wr := [(h2, .inl (cy 1, 1306, .inl f1))]) X hK hT hA h_19 (fun sz => gX12_eats_2b6e493 l D cy h0 h1 p1 w0 w1 (.ref h2) p2 (u_19.2.1 2 0) (u_19.2.1 3 0) p5 (u_19.2.1 4 0) (u_19.2.1 5 0) (u_19.2.1 0 0) (u_19.2.1 1 0) p10 p11 p12 w2 w3 w4 w5 w6 p13 p14 w7 w8 w9 p15 p16 w10 w11 w12 w13 w14 p17 w15 w16 w17 f0 hp1 hp2 w19_2 w19_3 hp5 (i_rng _) w19_5 (i_rng _) (i_rng _) (i_rng _) (i_rng _) (i_rng _) (i_rng _) (i_rng _) (i_rng _) (i_rng _) (i_rng _) (y19_0) (y19_1) sz) wm_6_75 wm_6_78 wm_1_12 hd_X12_eats wm_6_77 wp_4_6 (ci := 12) (q0 := 0) rfl rfl ⟨Nat.le_of_ble_eq_true rfl, Nat.le_of_ble_eq_true rfl⟩ hl_20.1 rfl (Nat.le_of_ble_eq_true rfl) dX12_readFlag_19 ⟨Nat.le_of_ble_eq_true rfl, Nat.le_of_ble_eq_true rfl⟩ [1, 2] [0] rfl rfl (by decide) rfl rfl (fun r_21 u_21 H locs w_21 h_21 => ?_)
    clear h_19
    obtain ⟨wr_21, w21_0, w21_1, w21_2, w21_3, y21_0, y21_1, y21_2, _⟩ := w_21
    have lq_21_1 : (4 : Int32).toInt = 4 := (by decide)
    replace h_21 : qW D _ _ (wk_1d090495b cy h2 f1 h0 p1 w0 w1 h1 h2 p2 (u_21.2.1 0 0) (u_21.2.1 1 0) p5 (u_21.2.1 2 0) (u_21.2.1 3 0) (u_19.2.1 0 0) (u_19.2.1 1 0) p10 p11 p12 w2 w3 w4 w5 w6 p13 p14 w7 w8 w9 p15 p16 w10 w11 w12 w13 w14 p17 w15 w16 w17 h1 f0) _ _ := h_21
    refine lv_if_ne (tgt := 30) hx hb dX12_readFlag_22 (by decide) (fun c_22 => ?_) (fun c_22 => ?_)
    · replace c_22 := i_ne (x := r_21) (y := 0) rfl (show (0 : Int32).toInt = 0 by decide) c_22
      replace y21_2 := a01_1 y21_2 c_22
      refine lv_aload_n hx hb dX12_readFlag_30 rfl (lv_at hl_20 1 rfl) ?_
      refine lv_iload_n hx hb dX12_readFlag_31 rfl (lv_at hl_20 0 rfl) ?_
      refine lv_sipush (v := 999) hx hb dX12_readFlag_32 (by decide) ?_
      refine q_callVi (rest := []) (wr := [(h2, .inl (cy 1, 1306, .inl f1))]) X hK hT hA h_21 (fun sz => gX12_takes_bfb9e22 l D cy h0 h1 r_19 (999 : Int32) p1 w0 w1 (.ref h2) p2 (u_21.2.1 0 0) (u_21.2.1 1 0) p5 (u_21.2.1 2 0) (u_21.2.1 3 0) (u_19.2.1 0 0) (u_19.2.1 1 0) p10 p11 p12 w2 w3 w4 w5 w6 p13 p14 w7 w8 w9 p15 p16 w10 w11 w12 w13 w14 p17 w15 w16 w17 f0 wr_19 ⟨by decide +kernel, by decide +kernel⟩ hp1 hp2 w21_0 w21_1 hp5 (i_rng _) w21_3 (i_rng _) (i_rng _) (i_rng _) (i_rng _) (i_rng _) (i_rng _) (i_rng _) (i_rng _) (i_rng _) (i_rng _) (y21_0) (y21_1) sz) wm_6_87 wm_6_90 wm_1_12 hd_X12_takes wm_6_89 wp_4_9 (ci := 12) (q0 := 0) rfl rfl ⟨Nat.le_of_ble_eq_true rfl, Nat.le_of_ble_eq_true rfl⟩ hl_20.1 rfl (Nat.le_of_ble_eq_true rfl) dX12_readFlag_35 ⟨Nat.le_of_ble_eq_true rfl, Nat.le_of_ble_eq_true rfl⟩ [1, 2] [0] rfl rfl (by decide) rfl rfl (fun r_23 u_23 H locs w_23 h_23 => ?_)
      clear h_21
      obtain ⟨wr_23, w23_0, w23_1, w23_2, w23_3, w23_4, w23_5, y23_0, y23_1, y23_2, y23_3, y23_4, _⟩ := w_23
      have lq_23_2 : (999 : Int32).toInt = 999 := (by decide)
      replace h_23 : qW D _ _ (wk_1d090495b cy h2 f1 h0 p1 w0 w1 h1 h2 p2 (u_23.2.1 2 0) (u_23.2.1 3 0) p5 (u_23.2.1 4 0) (u_23.2.1 5 0) (u_23.2.1 0 0) (u_23.2.1 1 0) p10 p11 p12 w2 w3 w4 w5 w6 p13 p14 w7 w8 w9 p15 p16 w10 w11 w12 w13 w14 p17 w15 w16 w17 h1 f0) _ _ := h_23
      refine lv_istore_n (lv' := [(3, .int r_23), (2, .int r_19), (0, .ref h0), (1, .int p0)]) hx hb dX12_readFlag_38 rfl hl_20 (by decide) rfl (fun ls_24 hl_24 => ?_)
      clear hl_20
      refine lv_aload_n hx hb dX12_readFlag_39 rfl (lv_at hl_24 2 rfl) ?_
      refine q_get X hK h_23 1 rfl rfl wf_12 4 (by decide) rfl wm_5_174 dX12_readFlag_40 ?_
      refine lv_bipush (v := 12) hx hb dX12_readFlag_43 (by decide) ?_
      refine lv_iload_n hx hb dX12_readFlag_45 rfl (lv_at hl_24 3 rfl) ?_
      refine lv_iadd hx hb dX12_readFlag_46 ?_
      obtain ⟨z_25, ez_25, hz_25⟩ := e_add (x := 12) (y := p0) (show (12 : Int32).toInt = 12 by decide) rfl (by omega) (by omega)
      refine q_c z_25 ez_25 ?_
      clear ez_25
      refine lv_iload_n hx hb dX12_readFlag_47 rfl (lv_at hl_24 1 rfl) ?_
      refine q_iast X hK h_23 0 rfl (i_in rfl (by omega) (by omega)) dX12_readFlag_48 (fun H locs h_27 => ?_)
      clear h_23
      replace h_27 : qW D _ _ (wk_1d090495b cy h2 (upd f1 (Int32.toNatClampNeg z_25) r_19) h0 p1 w0 w1 h1 h2 p2 (u_23.2.1 2 0) (u_23.2.1 3 0) p5 (u_23.2.1 4 0) (u_23.2.1 5 0) (u_23.2.1 0 0) (u_23.2.1 1 0) p10 p11 p12 w2 w3 w4 w5 w6 p13 p14 w7 w8 w9 p15 p16 w10 w11 w12 w13 w14 p17 w15 w16 w17 h1 f0) _ _ := h_27
      obtain ⟨F_26, eF_26⟩ : ∃ z, (upd f1 (Int32.toNatClampNeg z_25) r_19) = z := ⟨_, rfl⟩
      have trF_26_1 := (tr_ne eF_26 htf1_1 rfl (by omega))
      have trF_26_2 := (tr_ne eF_26 htf1_2 rfl (by omega))
      have trF_26_405 := (tr_ne eF_26 htf1_405 rfl (by omega))
      rw [eF_26] at h_27
      have hf_28 := hf_upd hpre2 eF_26 (by first | omega | decide)
      refine lv_aload_n hx hb dX12_readFlag_49 rfl (lv_at hl_24 2 rfl) ?_
      refine q_get X hK h_27 1 rfl rfl wf_12 4 (by decide) rfl wm_5_174 dX12_readFlag_50 ?_
      refine lv_bipush (v := 22) hx hb dX12_readFlag_53 (by decide) ?_
      refine lv_iload_n hx hb dX12_readFlag_55 rfl (lv_at hl_24 3 rfl) ?_
      refine lv_iadd hx hb dX12_readFlag_56 ?_
      obtain ⟨z_29, ez_29, hz_29⟩ := e_add (x := 22) (y := p0) (show (22 : Int32).toInt = 22 by decide) rfl (by omega) (by omega)
      refine q_c z_29 ez_29 ?_
      clear ez_29
      refine lv_iload_n hx hb dX12_readFlag_57 rfl (lv_at hl_24 0 rfl) ?_
      refine q_iast X hK h_27 0 rfl (i_in rfl (by omega) (by omega)) dX12_readFlag_58 (fun H locs h_31 => ?_)
      clear h_27
      replace h_31 : qW D _ _ (wk_1d090495b cy h2 (upd F_26 (Int32.toNatClampNeg z_29) r_23) h0 p1 w0 w1 h1 h2 p2 (u_23.2.1 2 0) (u_23.2.1 3 0) p5 (u_23.2.1 4 0) (u_23.2.1 5 0) (u_23.2.1 0 0) (u_23.2.1 1 0) p10 p11 p12 w2 w3 w4 w5 w6 p13 p14 w7 w8 w9 p15 p16 w10 w11 w12 w13 w14 p17 w15 w16 w17 h1 f0) _ _ := h_31
      obtain ⟨F_30, eF_30⟩ : ∃ z, (upd F_26 (Int32.toNatClampNeg z_29) r_23) = z := ⟨_, rfl⟩
      have trF_30_1 := (tr_ne eF_30 trF_26_1 rfl (by omega))
      have trF_30_2 := (tr_ne eF_30 trF_26_2 rfl (by omega))
      have trF_30_405 := (tr_ne eF_30 trF_26_405 rfl (by omega))
      rw [eF_30] at h_31
      have hf_32 := hf_upd hf_28 eF_30 (by first | omega | decide)
      refine lv_goto (tgt := 119) hx hb dX12_readFlag_59 (by decide) ?_
      refine lv_aload_n hx hb dX12_readFlag_119 rfl (lv_at hl_24 2 rfl) ?_
      refine q_get X hK h_31 1 rfl rfl wf_12 11 (by decide) rfl wm_5_181 dX12_readFlag_120 ?_
      refine lv_if_ne (tgt := 130) hx hb dX12_readFlag_123 (by decide) (fun c_33 => ?_) (fun c_33 => ?_)
      · replace c_33 := i_ne (x := (u_23.2.1 0 0)) (y := 0) rfl (show (0 : Int32).toInt = 0 by decide) c_33
        refine lv_iconst (v := 0) hx hb dX12_readFlag_130 (by decide) ?_
        exact q_iret X hr hlk hK h_31 rfl (fun _ => 0, (vcons (fun _ => (u_23.2.1 2 0)) (vcons (fun _ => (u_23.2.1 3 0)) (vcons (fun _ => (u_23.2.1 4 0)) (vcons (fun _ => (u_23.2.1 5 0)) (vcons F_30 (vcons (fun _ => (u_23.2.1 0 0)) (vcons (fun _ => (u_23.2.1 1 0)) (fun _ => (fun _ => 0))))))))), fun _ _ => 0) ⟨⟨by decide +kernel, by decide +kernel⟩, w23_2, w23_3, w23_4, w23_5, w23_0, w23_1, trF_30_1, trF_30_2, trF_30_405, y23_0, y23_1, (show (p3 : Int32).toInt ≤ ((u_23.2.1 2 0) : Int32).toInt from by (first | (clear hpre1 y1_1 y19_1 y19_3 y19_4 y21_1 y23_1 y23_3 y23_4; omega) | omega)), (show ((u_23.2.1 0 0) : Int32).toInt ≠ 0 ∨ (p8 : Int32).toInt = 0 from (fl_tr y23_3 y19_3)), (show HF ((u_23.2.1 0 0) : Int32).toInt F_30 ((p19 : Int32).toInt).toNat from hf_w hf_32 (by (first | assumption | (clear hpre1 y1_1 y19_1 y19_3 y19_4 y21_1 y23_1 y23_3 y23_4; omega) | omega))), (show (0 : Int32).toInt = 0 ∨ (p3 : Int32).toInt + 1 ≤ ((u_23.2.1 2 0) : Int32).toInt from by have q0 : (0 : Int32).toInt = 0 := (by decide); (first | (clear hpre1 y1_1 y19_1 y19_3 y19_4 y21_1 y23_1 y23_3 y23_4; omega) | omega)), trivial⟩ [1, 2, 0] rfl rfl dX12_readFlag_131 (Nat.le_of_ble_eq_true rfl) (Nat.le_of_ble_eq_true rfl)
      · replace c_33 := i_eq (x := (u_23.2.1 0 0)) (y := 0) rfl (show (0 : Int32).toInt = 0 by decide) c_33
        refine lv_iconst (v := 1) hx hb dX12_readFlag_126 (by decide) ?_
        refine lv_goto (tgt := 131) hx hb dX12_readFlag_127 (by decide) ?_
        exact q_iret X hr hlk hK h_31 rfl (fun _ => 0, (vcons (fun _ => (u_23.2.1 2 0)) (vcons (fun _ => (u_23.2.1 3 0)) (vcons (fun _ => (u_23.2.1 4 0)) (vcons (fun _ => (u_23.2.1 5 0)) (vcons F_30 (vcons (fun _ => (u_23.2.1 0 0)) (vcons (fun _ => (u_23.2.1 1 0)) (fun _ => (fun _ => 0))))))))), fun _ _ => 0) ⟨⟨by decide +kernel, by decide +kernel⟩, w23_2, w23_3, w23_4, w23_5, w23_0, w23_1, trF_30_1, trF_30_2, trF_30_405, y23_0, y23_1, (show (p3 : Int32).toInt ≤ ((u_23.2.1 2 0) : Int32).toInt from by (first | (clear hpre1 y1_1 y19_1 y19_3 y19_4 y21_1 y23_1 y23_3 y23_4; omega) | omega)), (show ((u_23.2.1 0 0) : Int32).toInt ≠ 0 ∨ (p8 : Int32).toInt = 0 from (fl_tr y23_3 y19_3)), (show HF ((u_23.2.1 0 0) : Int32).toInt F_30 ((p19 : Int32).toInt).toNat from hf_w hf_32 (by (first | assumption | (clear hpre1 y1_1 y19_1 y19_3 y19_4 y21_1 y23_1 y23_3 y23_4; omega) | omega))), (show (1 : Int32).toInt = 0 ∨ (p3 : Int32).toInt + 1 ≤ ((u_23.2.1 2 0) : Int32).toInt from by have q0 : (1 : Int32).toInt = 1 := (by decide); (first | (clear hpre1 y1_1 y19_1 y19_3 y19_4 y21_1 y23_1 y23_3 y23_4; omega) | omega)), trivial⟩ [1, 2, 0] rfl rfl dX12_readFlag_131 (Nat.le_of_ble_eq_true rfl) (Nat.le_of_ble_eq_true rfl)
    · replace c_22 := i_eq (x := r_21) (y := 0) rfl (show (0 : Int32).toInt = 0 by decide) c_22
      replace y21_2 := a01_0 y21_2 c_22
      obtain ⟨y21_2a, y21_2b, y21_2c, y21_2d⟩ := y21_2
      refine lv_aload_n hx hb dX12_readFlag_25 rfl (lv_at hl_20 1 rfl) ?_
      refine lv_iconst (v := 2) hx hb dX12_readFlag_26 (by decide) ?_
      refine q_callVv (rest := []) (wr := (wk_8c87e24ed cy h2 f1 h1 f0)) X hK hT hA h_21 (fun sz => gX12_fails_1e02d40 l D cy h0 p1 w0 w1 (.ref h1) (.ref h2) p2 (u_21.2.1 0 0) (u_21.2.1 1 0) p5 (u_21.2.1 2 0) (u_21.2.1 3 0) (u_19.2.1 0 0) (u_19.2.1 1 0) p10 p11 p12 w2 w3 w4 w5 w6 p13 p14 w7 w8 w9 p15 p16 w10 w11 w12 w13 w14 p17 w15 w16 w17 hp1 hp2 w21_0 w21_1 hp5 (i_rng _) w21_3 (i_rng _) (i_rng _) (i_rng _) (i_rng _) (i_rng _) (i_rng _) (i_rng _) (i_rng _) (i_rng _) (i_rng _) sz) wm_6_83 wm_6_86 wm_1_12 hd_X12_fails wm_6_85 wp_4_8 (ci := 12) (q0 := 0) rfl rfl ⟨Nat.le_of_ble_eq_true rfl, Nat.le_of_ble_eq_true rfl⟩ hl_20.1 rfl (Nat.le_of_ble_eq_true rfl) dX12_readFlag_27 ⟨Nat.le_of_ble_eq_true rfl, Nat.le_of_ble_eq_true rfl⟩ [1] [0, 2] rfl rfl (by decide) rfl rfl (fun u_34 H locs w_34 h_34 => ?_)
      clear h_21
      obtain ⟨w34_0, w34_1, y34_0, _⟩ := w_34
      have lq_34_1 : (2 : Int32).toInt = 2 := (by decide)
      replace h_34 : qW D _ _ (wk_a24e8cc19 cy h2 f1 h1 f0 h0 p1 w0 w1 h1 h2 p2 (u_21.2.1 0 0) (u_21.2.1 1 0) p5 (u_21.2.1 2 0) (u_21.2.1 3 0) (u_34.2.1 0 0) (u_34.2.1 1 0) p10 p11 p12 w2 w3 w4 w5 w6 p13 p14 w7 w8 w9 p15 p16 w10 w11 w12 w13 w14 p17 w15 w16 w17) _ _ := h_34
      refine lv_aload_n hx hb dX12_readFlag_30 rfl (lv_at hl_20 1 rfl) ?_
      refine lv_iload_n hx hb dX12_readFlag_31 rfl (lv_at hl_20 0 rfl) ?_
      refine lv_sipush (v := 999) hx hb dX12_readFlag_32 (by decide) ?_
      refine q_callVi (rest := []) (wr := [(h2, .inl (cy 1, 1306, .inl f1))]) X hK hT hA h_34 (fun sz => gX12_takes_bfb9e22 l D cy h0 h1 r_19 (999 : Int32) p1 w0 w1 (.ref h2) p2 (u_21.2.1 0 0) (u_21.2.1 1 0) p5 (u_21.2.1 2 0) (u_21.2.1 3 0) (u_34.2.1 0 0) (u_34.2.1 1 0) p10 p11 p12 w2 w3 w4 w5 w6 p13 p14 w7 w8 w9 p15 p16 w10 w11 w12 w13 w14 p17 w15 w16 w17 f0 wr_19 ⟨by decide +kernel, by decide +kernel⟩ hp1 hp2 w21_0 w21_1 hp5 (i_rng _) w21_3 (i_rng _) (i_rng _) (i_rng _) (i_rng _) (i_rng _) (i_rng _) (i_rng _) (i_rng _) (i_rng _) (i_rng _) (y21_0) (y21_1) sz) wm_6_87 wm_6_90 wm_1_12 hd_X12_takes wm_6_89 wp_4_9 (ci := 12) (q0 := 0) rfl rfl ⟨Nat.le_of_ble_eq_true rfl, Nat.le_of_ble_eq_true rfl⟩ hl_20.1 rfl (Nat.le_of_ble_eq_true rfl) dX12_readFlag_35 ⟨Nat.le_of_ble_eq_true rfl, Nat.le_of_ble_eq_true rfl⟩ [2, 1] [0] rfl rfl (by decide) rfl rfl (fun r_35 u_35 H locs w_35 h_35 => ?_)
      clear h_34
      obtain ⟨wr_35, w35_0, w35_1, w35_2, w35_3, w35_4, w35_5, y35_0, y35_1, y35_2, y35_3, y35_4, _⟩ := w_35
      have lq_35_2 : (999 : Int32).toInt = 999 := (by decide)
      replace h_35 : qW D _ _ (wk_1d090495b cy h2 f1 h0 p1 w0 w1 h1 h2 p2 (u_35.2.1 2 0) (u_35.2.1 3 0) p5 (u_35.2.1 4 0) (u_35.2.1 5 0) (u_35.2.1 0 0) (u_35.2.1 1 0) p10 p11 p12 w2 w3 w4 w5 w6 p13 p14 w7 w8 w9 p15 p16 w10 w11 w12 w13 w14 p17 w15 w16 w17 h1 f0) _ _ := h_35
      refine lv_istore_n (lv' := [(3, .int r_35), (2, .int r_19), (0, .ref h0), (1, .int p0)]) hx hb dX12_readFlag_38 rfl hl_20 (by decide) rfl (fun ls_36 hl_36 => ?_)
      clear hl_20
      refine lv_aload_n hx hb dX12_readFlag_39 rfl (lv_at hl_36 2 rfl) ?_
      refine q_get X hK h_35 1 rfl rfl wf_12 4 (by decide) rfl wm_5_174 dX12_readFlag_40 ?_
      refine lv_bipush (v := 12) hx hb dX12_readFlag_43 (by decide) ?_
      refine lv_iload_n hx hb dX12_readFlag_45 rfl (lv_at hl_36 3 rfl) ?_
      refine lv_iadd hx hb dX12_readFlag_46 ?_
      obtain ⟨z_37, ez_37, hz_37⟩ := e_add (x := 12) (y := p0) (show (12 : Int32).toInt = 12 by decide) rfl (by omega) (by omega)
      refine q_c z_37 ez_37 ?_
      clear ez_37
      refine lv_iload_n hx hb dX12_readFlag_47 rfl (lv_at hl_36 1 rfl) ?_
      refine q_iast X hK h_35 0 rfl (i_in rfl (by omega) (by omega)) dX12_readFlag_48 (fun H locs h_39 => ?_)
      clear h_35
      replace h_39 : qW D _ _ (wk_1d090495b cy h2 (upd f1 (Int32.toNatClampNeg z_37) r_19) h0 p1 w0 w1 h1 h2 p2 (u_35.2.1 2 0) (u_35.2.1 3 0) p5 (u_35.2.1 4 0) (u_35.2.1 5 0) (u_35.2.1 0 0) (u_35.2.1 1 0) p10 p11 p12 w2 w3 w4 w5 w6 p13 p14 w7 w8 w9 p15 p16 w10 w11 w12 w13 w14 p17 w15 w16 w17 h1 f0) _ _ := h_39
      obtain ⟨F_38, eF_38⟩ : ∃ z, (upd f1 (Int32.toNatClampNeg z_37) r_19) = z := ⟨_, rfl⟩
      have trF_38_1 := (tr_ne eF_38 htf1_1 rfl (by omega))
      have trF_38_2 := (tr_ne eF_38 htf1_2 rfl (by omega))
      have trF_38_405 := (tr_ne eF_38 htf1_405 rfl (by omega))
      rw [eF_38] at h_39
      have hf_40 := hf_upd hpre2 eF_38 (by first | omega | decide)
      refine lv_aload_n hx hb dX12_readFlag_49 rfl (lv_at hl_36 2 rfl) ?_
      refine q_get X hK h_39 1 rfl rfl wf_12 4 (by decide) rfl wm_5_174 dX12_readFlag_50 ?_
      refine lv_bipush (v := 22) hx hb dX12_readFlag_53 (by decide) ?_
      refine lv_iload_n hx hb dX12_readFlag_55 rfl (lv_at hl_36 3 rfl) ?_
      refine lv_iadd hx hb dX12_readFlag_56 ?_
      obtain ⟨z_41, ez_41, hz_41⟩ := e_add (x := 22) (y := p0) (show (22 : Int32).toInt = 22 by decide) rfl (by omega) (by omega)
      refine q_c z_41 ez_41 ?_
      clear ez_41
      refine lv_iload_n hx hb dX12_readFlag_57 rfl (lv_at hl_36 0 rfl) ?_
      refine q_iast X hK h_39 0 rfl (i_in rfl (by omega) (by omega)) dX12_readFlag_58 (fun H locs h_43 => ?_)
      clear h_39
      replace h_43 : qW D _ _ (wk_1d090495b cy h2 (upd F_38 (Int32.toNatClampNeg z_41) r_35) h0 p1 w0 w1 h1 h2 p2 (u_35.2.1 2 0) (u_35.2.1 3 0) p5 (u_35.2.1 4 0) (u_35.2.1 5 0) (u_35.2.1 0 0) (u_35.2.1 1 0) p10 p11 p12 w2 w3 w4 w5 w6 p13 p14 w7 w8 w9 p15 p16 w10 w11 w12 w13 w14 p17 w15 w16 w17 h1 f0) _ _ := h_43
      obtain ⟨F_42, eF_42⟩ : ∃ z, (upd F_38 (Int32.toNatClampNeg z_41) r_35) = z := ⟨_, rfl⟩
      have trF_42_1 := (tr_ne eF_42 trF_38_1 rfl (by omega))
      have trF_42_2 := (tr_ne eF_42 trF_38_2 rfl (by omega))
      have trF_42_405 := (tr_ne eF_42 trF_38_405 rfl (by omega))
      rw [eF_42] at h_43
      have hf_44 := hf_upd hf_40 eF_42 (by first | omega | decide)
      refine lv_goto (tgt := 119) hx hb dX12_readFlag_59 (by decide) ?_
      refine lv_aload_n hx hb dX12_readFlag_119 rfl (lv_at hl_36 2 rfl) ?_
      refine q_get X hK h_43 1 rfl rfl wf_12 11 (by decide) rfl wm_5_181 dX12_readFlag_120 ?_
      refine lv_if_ne (tgt := 130) hx hb dX12_readFlag_123 (by decide) (fun c_45 => ?_) (fun c_45 => ?_)
      · replace c_45 := i_ne (x := (u_35.2.1 0 0)) (y := 0) rfl (show (0 : Int32).toInt = 0 by decide) c_45
        refine lv_iconst (v := 0) hx hb dX12_readFlag_130 (by decide) ?_
        exact q_iret X hr hlk hK h_43 rfl (fun _ => 0, (vcons (fun _ => (u_35.2.1 2 0)) (vcons (fun _ => (u_35.2.1 3 0)) (vcons (fun _ => (u_35.2.1 4 0)) (vcons (fun _ => (u_35.2.1 5 0)) (vcons F_42 (vcons (fun _ => (u_35.2.1 0 0)) (vcons (fun _ => (u_35.2.1 1 0)) (fun _ => (fun _ => 0))))))))), fun _ _ => 0) ⟨⟨by decide +kernel, by decide +kernel⟩, w35_2, w35_3, w35_4, w35_5, w35_0, w35_1, trF_42_1, trF_42_2, trF_42_405, y35_0, y35_1, (show (p3 : Int32).toInt ≤ ((u_35.2.1 2 0) : Int32).toInt from by (first | (clear hpre1 y1_1 y19_1 y19_3 y19_4 y21_1 y21_2d y35_1 y35_3 y35_4; omega) | omega)), (show ((u_35.2.1 0 0) : Int32).toInt ≠ 0 ∨ (p8 : Int32).toInt = 0 from by (first | (clear hpre1 y1_1 y19_1 y19_3 y19_4 y21_1 y21_2d y35_1 y35_3 y35_4; omega) | omega)), (show HF ((u_35.2.1 0 0) : Int32).toInt F_42 ((p19 : Int32).toInt).toNat from hf_w hf_44 (by (first | assumption | (clear hpre1 y1_1 y19_1 y19_3 y19_4 y21_1 y21_2d y35_1 y35_3 y35_4; omega) | omega))), (show (0 : Int32).toInt = 0 ∨ (p3 : Int32).toInt + 1 ≤ ((u_35.2.1 2 0) : Int32).toInt from by have q0 : (0 : Int32).toInt = 0 := (by decide); (first | (clear hpre1 y1_1 y19_1 y19_3 y19_4 y21_1 y21_2d y35_1 y35_3 y35_4; omega) | omega)), trivial⟩ [1, 2, 0] rfl rfl dX12_readFlag_131 (Nat.le_of_ble_eq_true rfl) (Nat.le_of_ble_eq_true rfl)
      · replace c_45 := i_eq (x := (u_35.2.1 0 0)) (y := 0) rfl (show (0 : Int32).toInt = 0 by decide) c_45
        refine lv_iconst (v := 1) hx hb dX12_readFlag_126 (by decide) ?_
        refine lv_goto (tgt := 131) hx hb dX12_readFlag_127 (by decide) ?_
        exact q_iret X hr hlk hK h_43 rfl (fun _ => 0, (vcons (fun _ => (u_35.2.1 2 0)) (vcons (fun _ => (u_35.2.1 3 0)) (vcons (fun _ => (u_35.2.1 4 0)) (vcons (fun _ => (u_35.2.1 5 0)) (vcons F_42 (vcons (fun _ => (u_35.2.1 0 0)) (vcons (fun _ => (u_35.2.1 1 0)) (fun _ => (fun _ => 0))))))))), fun _ _ => 0) ⟨⟨by decide +kernel, by decide +kernel⟩, w35_2, w35_3, w35_4, w35_5, w35_0, w35_1, trF_42_1, trF_42_2, trF_42_405, y35_0, y35_1, (show (p3 : Int32).toInt ≤ ((u_35.2.1 2 0) : Int32).toInt from by (first | (clear hpre1 y1_1 y19_1 y19_3 y19_4 y21_1 y21_2d y35_1 y35_3 y35_4; omega) | omega)), (show ((u_35.2.1 0 0) : Int32).toInt ≠ 0 ∨ (p8 : Int32).toInt = 0 from by (first | (clear hpre1 y1_1 y19_1 y19_3 y19_4 y21_1 y21_2d y35_1 y35_3 y35_4; omega) | omega)), (show HF ((u_35.2.1 0 0) : Int32).toInt F_42 ((p19 : Int32).toInt).toNat from hf_w hf_44 (by (first | assumption | (clear hpre1 y1_1 y19_1 y19_3 y19_4 y21_1 y21_2d y35_1 y35_3 y35_4; omega) | omega))), (show (1 : Int32).toInt = 0 ∨ (p3 : Int32).toInt + 1 ≤ ((u_35.2.1 2 0) : Int32).toInt from by have q0 : (1 : Int32).toInt = 1 := (by decide); (first | (clear hpre1 y1_1 y19_1 y19_3 y19_4 y21_1 y21_2d y35_1 y35_3 y35_4; omega) | omega)), trivial⟩ [1, 2, 0] rfl rfl dX12_readFlag_131 (Nat.le_of_ble_eq_true rfl) (Nat.le_of_ble_eq_true rfl)
set_option maxHeartbeats 4000000 in
set_option maxRecDepth 100000 in
theorem gX12_readPerson_1ec4420 (l : Launch) (D : va_G) (cy : Nat → ClassId) (h0 : Nat) (h1 : Nat) (h2 : Nat) (p0 : Int32) (w0 : Value) (w1 : Value) (p1 : Int32) (p2 : Int32) (p3 : Int32) (p4 : Int32) (p5 : Int32) (p6 : Int32) (p7 : Int32) (p8 : Int32) (p9 : Int32) (p10 : Int32) (p11 : Int32) (w2 : Value) (w3 : Value) (w4 : Value) (w5 : Value) (w6 : Value) (p12 : Int32) (p13 : Int32) (w7 : Value) (w8 : Value) (w9 : Value) (p14 : Int32) (p15 : Int32) (w10 : Value) (w11 : Value) (w12 : Value) (w13 : Value) (w14 : Value) (p16 : Int32) (w15 : Value) (w16 : Value) (w17 : Value) (f0 : Nat → Int32) (f1 : Nat → Int32) (p17 : Int32) (p18 : Int32) (p19 : Int32) (hp0 : 0 ≤ (p0).toInt ∧ (p0).toInt ≤ 0) (hp1 : 0 ≤ (p1).toInt ∧ (p1).toInt ≤ 900) (hp2 : 0 ≤ (p2).toInt ∧ (p2).toInt ≤ 900) (hp3 : 0 ≤ (p3).toInt ∧ (p3).toInt ≤ 900) (hp4 : 0 ≤ (p4).toInt ∧ (p4).toInt ≤ 900) (hp5 : (-2147483648) ≤ (p5).toInt ∧ (p5).toInt ≤ 2147483647) (hp6 : 0 ≤ (p6).toInt ∧ (p6).toInt ≤ 999) (hp7 : (-2147483648) ≤ (p7).toInt ∧ (p7).toInt ≤ 2147483647) (hp8 : (-2147483648) ≤ (p8).toInt ∧ (p8).toInt ≤ 2147483647) (hp9 : (-2147483648) ≤ (p9).toInt ∧ (p9).toInt ≤ 2147483647) (hp10 : (-2147483648) ≤ (p10).toInt ∧ (p10).toInt ≤ 2147483647) (hp11 : (-2147483648) ≤ (p11).toInt ∧ (p11).toInt ≤ 2147483647) (hp12 : (-2147483648) ≤ (p12).toInt ∧ (p12).toInt ≤ 2147483647) (hp13 : (-2147483648) ≤ (p13).toInt ∧ (p13).toInt ≤ 2147483647) (hp14 : (-2147483648) ≤ (p14).toInt ∧ (p14).toInt ≤ 2147483647) (hp15 : (-2147483648) ≤ (p15).toInt ∧ (p15).toInt ≤ 2147483647) (hp16 : (-2147483648) ≤ (p16).toInt ∧ (p16).toInt ≤ 2147483647) (hp17 : (-2147483648) ≤ (p17).toInt ∧ (p17).toInt ≤ 2147483647) (hp18 : 0 ≤ (p18).toInt ∧ (p18).toInt ≤ 10) (hp19 : 0 ≤ (p19).toInt ∧ (p19).toInt ≤ 900) (htf1_1 : f1 1 = p17) (htf1_2 : f1 2 = p18) (htf1_405 : f1 405 = p19) (hpre0 : 0 ≤ (p2 : Int32).toInt ∧ (p2 : Int32).toInt ≤ (p3 : Int32).toInt ∧ (p3 : Int32).toInt ≤ (p4 : Int32).toInt) (hpre1 : (p5 : Int32).toInt = 26 ∨ (p2 : Int32).toInt < (p3 : Int32).toInt) (hpre2 : HF (p7 : Int32).toInt f1 ((p19 : Int32).toInt).toNat) (hpre3 : (p5 : Int32).toInt = 2) (hpre4 : 0 ≤ (p17 : Int32).toInt ∧ (p17 : Int32).toInt ≤ 3) (sz : Nat) : MV l yX12_readPerson cX12_readPerson 3 { frames := 8, cells := 0, slots := 0, locals := 175 } [.ref h0] D cy (wk_8d528f753 cy h0 p0 w0 w1 h1 h2 p1 p2 p3 p4 p5 p6 p7 p8 p9 p10 p11 w2 w3 w4 w5 w6 p12 p13 w7 w8 w9 p14 p15 w10 w11 w12 w13 w14 p16 w15 w16 w17 h1 f0 h2 f1) sz (fun u => (0 ≤ (u.2.1 1 0).toInt ∧ (u.2.1 1 0).toInt ≤ 900) ∧ (0 ≤ (u.2.1 2 0).toInt ∧ (u.2.1 2 0).toInt ≤ 900) ∧ ((-2147483648) ≤ (u.2.1 3 0).toInt ∧ (u.2.1 3 0).toInt ≤ 2147483647) ∧ (0 ≤ (u.2.1 4 0).toInt ∧ (u.2.1 4 0).toInt ≤ 999) ∧ ((-2147483648) ≤ (u.2.1 5 0).toInt ∧ (u.2.1 5 0).toInt ≤ 2147483647) ∧ ((-2147483648) ≤ (u.2.1 6 0).toInt ∧ (u.2.1 6 0).toInt ≤ 2147483647) ∧ (0 ≤ (u.2.1 7 0).toInt ∧ (u.2.1 7 0).toInt ≤ 10) ∧ (u.2.1 0) 1 = p17 ∧ (u.2.1 0) 2 = (u.2.1 7 0) ∧ (u.2.1 0) 405 = p19 ∧ (0 ≤ ((u.2.1 1 0) : Int32).toInt ∧ ((u.2.1 1 0) : Int32).toInt ≤ ((u.2.1 2 0) : Int32).toInt ∧ ((u.2.1 2 0) : Int32).toInt ≤ (p4 : Int32).toInt) ∧ (((u.2.1 3 0) : Int32).toInt = 26 ∨ ((u.2.1 1 0) : Int32).toInt < ((u.2.1 2 0) : Int32).toInt) ∧ ((p2 : Int32).toInt ≤ ((u.2.1 1 0) : Int32).toInt) ∧ (((u.2.1 5 0) : Int32).toInt ≠ 0 ∨ (p7 : Int32).toInt = 0) ∧ (HF ((u.2.1 5 0) : Int32).toInt (u.2.1 0) ((p19 : Int32).toInt).toNat) ∧ True) (fun u => (wk_8d528f753 cy h0 p0 w0 w1 h1 h2 p1 (u.2.1 1 0) (u.2.1 2 0) p4 (u.2.1 3 0) (u.2.1 4 0) (u.2.1 5 0) (u.2.1 6 0) p9 p10 p11 w2 w3 w4 w5 w6 p12 p13 w7 w8 w9 p14 p15 w10 w11 w12 w13 w14 p16 w15 w16 w17 h1 f0 h2 (u.2.1 0))) 0 0 := by
  refine q_ent (own := RX12) (by decide) rfl (Nat.le_of_ble_eq_true rfl) (fun p e s m below meth c ls X hr hlk hnm hK hT h hA hl => ?_)
  obtain ⟨hx, hb, hml, hown, ht⟩ := id X
  replace hl : lv_has ls 3 [(0, .ref h0)] := hl
  refine lv_aload_n hx hb dX12_readPerson_0 rfl (lv_at hl 0 rfl) ?_
  refine q_get X hK h 0 rfl rfl wf_12 4 (by decide) rfl wm_5_174 dX12_readPerson_1 ?_
  refine lv_iconst (v := 2) hx hb dX12_readPerson_4 (by decide) ?_
  refine q_iald X hK h 2 rfl (q_in (by decide +kernel)) dX12_readPerson_5 ?_
  refine q_c p18 htf1_2 ?_
  refine lv_istore_n (lv' := [(1, .int p18), (0, .ref h0)]) hx hb dX12_readPerson_6 rfl hl (by decide) rfl (fun ls_1 hl_1 => ?_)
  clear hl
  refine lv_iload_n hx hb dX12_readPerson_7 rfl (lv_at hl_1 0 rfl) ?_
  refine lv_bipush (v := 10) hx hb dX12_readPerson_8 (by decide) ?_
  refine lv_icmp_ne (tgt := 18) hx hb dX12_readPerson_10 (by decide) (fun c_2 => ?_) (fun c_2 => ?_)
  · replace c_2 := i_ne (x := p18) (y := 10) rfl (show (10 : Int32).toInt = 10 by decide) c_2
    refine lv_aload_n hx hb dX12_readPerson_18 rfl (lv_at hl_1 1 rfl) ?_
    refine q_get X hK h 0 rfl rfl wf_12 11 (by decide) rfl wm_5_181 dX12_readPerson_19 ?_
    refine lv_if_eq (tgt := 26) hx hb dX12_readPerson_22 (by decide) (fun c_3 => ?_) (fun c_3 => ?_)
    · replace c_3 := i_eq (x := p7) (y := 0) rfl (show (0 : Int32).toInt = 0 by decide) c_3
      refine lv_aload_n hx hb dX12_readPerson_26 rfl (lv_at hl_1 1 rfl) ?_
      refine q_callVv (rest := []) (wr := [(h2, .inl (cy 1, 1306, .inl f1))]) X hK hT hA h (fun sz => gX12_next_c515fc5 l D cy h0 h1 p0 w0 w1 (.ref h2) p1 p2 p3 p4 p5 p6 p7 p8 p9 p10 p11 w2 w3 w4 w5 w6 p12 p13 w7 w8 w9 p14 p15 w10 w11 w12 w13 w14 p16 w15 w16 w17 f0 hp0 hp1 hp2 hp3 hp4 (i_rng _) hp6 (i_rng _) (i_rng _) (i_rng _) (i_rng _) (i_rng _) (i_rng _) (i_rng _) (i_rng _) (i_rng _) (i_rng _) (by (first | (clear hpre1; omega) | omega)) sz) wm_6_53 wm_6_56 wm_1_12 hd_X12_next wm_6_55 wp_4_3 (ci := 12) (q0 := 0) rfl rfl ⟨Nat.le_of_ble_eq_true rfl, Nat.le_of_ble_eq_true rfl⟩ hl_1.1 rfl (Nat.le_of_ble_eq_true rfl) dX12_readPerson_27 ⟨Nat.le_of_ble_eq_true rfl, Nat.le_of_ble_eq_true rfl⟩ [0, 1] [2] rfl rfl (by decide) rfl rfl (fun u_4 H locs w_4 h_4 => ?_)
      clear h
      obtain ⟨w4_0, w4_1, w4_2, w4_3, y4_0, y4_1, y4_2, _⟩ := w_4
      replace h_4 : qW D _ _ (wk_1d090495b cy h2 f1 h0 p0 w0 w1 h1 h2 p1 (u_4.2.1 0 0) (u_4.2.1 1 0) p4 (u_4.2.1 2 0) (u_4.2.1 3 0) p7 p8 p9 p10 p11 w2 w3 w4 w5 w6 p12 p13 w7 w8 w9 p14 p15 w10 w11 w12 w13 w14 p16 w15 w16 w17 h1 f0) _ _ := h_4
      refine lv_iconst (v := 0) hx hb dX12_readPerson_30 (by decide) ?_
      refine lv_istore_n (lv' := [(2, .int 0), (1, .int p18), (0, .ref h0)]) hx hb dX12_readPerson_31 rfl hl_1 (by decide) rfl (fun ls_5 hl_5 => ?_)
      clear hl_1
      refine q_wl (fun (q : Int32 × Int32 × Int32 × Int32 × Int32 × Int32 × Int32) H locs ls => match q with | (v32_6_0, v32_6_2, v32_6_3, v32_6_4, v32_6_5, v32_6_6, v32_6_7) => ∃ v32_6_1 : Nat → Int32, (0 ≤ (v32_6_0).toInt ∧ (v32_6_0).toInt ≤ 3) ∧ (0 ≤ (v32_6_2).toInt ∧ (v32_6_2).toInt ≤ 900) ∧ (0 ≤ (v32_6_3).toInt ∧ (v32_6_3).toInt ≤ 900) ∧ ((-2147483648) ≤ (v32_6_4).toInt ∧ (v32_6_4).toInt ≤ 2147483647) ∧ (0 ≤ (v32_6_5).toInt ∧ (v32_6_5).toInt ≤ 999) ∧ ((-2147483648) ≤ (v32_6_6).toInt ∧ (v32_6_6).toInt ≤ 2147483647) ∧ ((-2147483648) ≤ (v32_6_7).toInt ∧ (v32_6_7).toInt ≤ 2147483647) ∧ v32_6_1 1 = p17 ∧ v32_6_1 2 = p18 ∧ v32_6_1 405 = p19 ∧ (0 ≤ (v32_6_2 : Int32).toInt ∧ (v32_6_2 : Int32).toInt ≤ (v32_6_3 : Int32).toInt ∧ (v32_6_3 : Int32).toInt ≤ (p4 : Int32).toInt) ∧ ((v32_6_4 : Int32).toInt = 26 ∨ (v32_6_2 : Int32).toInt < (v32_6_3 : Int32).toInt) ∧ ((p2 : Int32).toInt ≤ (v32_6_2 : Int32).toInt) ∧ ((v32_6_6 : Int32).toInt ≠ 0 ∨ (p7 : Int32).toInt = 0) ∧ (HF (v32_6_6 : Int32).toInt v32_6_1 ((p19 : Int32).toInt).toNat) ∧ qW D (va_A (wk_8d528f753 cy h0 p0 w0 w1 h1 h2 p1 p2 p3 p4 p5 p6 p7 p8 p9 p10 p11 w2 w3 w4 w5 w6 p12 p13 w7 w8 w9 p14 p15 w10 w11 w12 w13 w14 p16 w15 w16 w17 h1 f0 h2 f1) sz) s.heap (wk_1d090495b cy h2 v32_6_1 h0 p0 w0 w1 h1 h2 p1 v32_6_2 v32_6_3 p4 v32_6_4 v32_6_5 v32_6_6 v32_6_7 p9 p10 p11 w2 w3 w4 w5 w6 p12 p13 w7 w8 w9 p14 p15 w10 w11 w12 w13 w14 p16 w15 w16 w17 h1 f0) H locs ∧ lv_has ls 3 [(0, .ref h0), (1, .int p18), (2, .int v32_6_0)]) (fun (q : Int32 × Int32 × Int32 × Int32 × Int32 × Int32 × Int32) => match q with | (v32_6_0, v32_6_2, v32_6_3, v32_6_4, v32_6_5, v32_6_6, v32_6_7) => (4 - (v32_6_0).toInt).toNat) (fun q_32 ih_32 H locs ls hP => ?_) (0, (u_4.2.1 0 0), (u_4.2.1 1 0), (u_4.2.1 2 0), (u_4.2.1 3 0), p7, p8) ⟨f1, ⟨by decide +kernel, by decide +kernel⟩, w4_0, w4_1, w4_2, w4_3, hp7, hp8, htf1_1, htf1_2, htf1_405, (y4_0), (y4_1), (by (first | (clear hpre1 y4_1; omega) | omega)), ((ne_or _)), (hf_w hpre2 (by (first | assumption | (clear hpre1 y4_1; omega) | omega))), h_4, (lv_sub hl_5 [2, 1, 0] rfl)⟩
      obtain ⟨v32_6_0, v32_6_2, v32_6_3, v32_6_4, v32_6_5, v32_6_6, v32_6_7⟩ := q_32
      obtain ⟨v32_6_1, hv32_6_0, hv32_6_2, hv32_6_3, hv32_6_4, hv32_6_5, hv32_6_6, hv32_6_7, trv32_6_1_1, trv32_6_1_2, trv32_6_1_405, x7_0, x8_1, x9_2, x10_3, x11_4, h, hl⟩ := hP
      refine lv_iload_n hx hb dX12_readPerson_32 rfl (lv_at hl 2 rfl) ?_
      refine lv_aload_n hx hb dX12_readPerson_33 rfl (lv_at hl 0 rfl) ?_
      refine q_get X hK h 1 rfl rfl wf_12 4 (by decide) rfl wm_5_174 dX12_readPerson_34 ?_
      refine lv_iconst (v := 1) hx hb dX12_readPerson_37 (by decide) ?_
      refine q_iald X hK h 0 rfl (q_in (by decide +kernel)) dX12_readPerson_38 ?_
      refine q_c p17 trv32_6_1_1 ?_
      refine lv_icmp_ge (tgt := 68) hx hb dX12_readPerson_39 (by decide) (fun c_12 => ?_) (fun c_12 => ?_)
      · replace c_12 := i_le (x := p17) (y := v32_6_0) rfl rfl c_12
        refine lv_aload_n hx hb dX12_readPerson_68 rfl (lv_at hl 0 rfl) ?_
        refine q_get X hK h 1 rfl rfl wf_12 4 (by decide) rfl wm_5_174 dX12_readPerson_69 ?_
        refine lv_bipush (v := 12) hx hb dX12_readPerson_72 (by decide) ?_
        refine lv_iload_n hx hb dX12_readPerson_74 rfl (lv_at hl 1 rfl) ?_
        refine lv_iadd hx hb dX12_readPerson_75 ?_
        obtain ⟨z_13, ez_13, hz_13⟩ := e_add (x := 12) (y := p18) (show (12 : Int32).toInt = 12 by decide) rfl (by omega) (by omega)
        refine q_c z_13 ez_13 ?_
        clear ez_13
        refine lv_iconst (v := 0) hx hb dX12_readPerson_76 (by decide) ?_
        refine q_iast X hK h 0 rfl (i_in rfl (by omega) (by omega)) dX12_readPerson_77 (fun H locs h_15 => ?_)
        clear h
        replace h_15 : qW D _ _ (wk_1d090495b cy h2 (upd v32_6_1 (Int32.toNatClampNeg z_13) 0) h0 p0 w0 w1 h1 h2 p1 v32_6_2 v32_6_3 p4 v32_6_4 v32_6_5 v32_6_6 v32_6_7 p9 p10 p11 w2 w3 w4 w5 w6 p12 p13 w7 w8 w9 p14 p15 w10 w11 w12 w13 w14 p16 w15 w16 w17 h1 f0) _ _ := h_15
        obtain ⟨F_14, eF_14⟩ : ∃ z, (upd v32_6_1 (Int32.toNatClampNeg z_13) 0) = z := ⟨_, rfl⟩
        have trF_14_1 := (tr_ne eF_14 trv32_6_1_1 rfl (by omega))
        have trF_14_2 := (tr_ne eF_14 trv32_6_1_2 rfl (by omega))
        have trF_14_405 := (tr_ne eF_14 trv32_6_1_405 rfl (by omega))
        rw [eF_14] at h_15
        have hf_16 := hf_upd x11_4 eF_14 (by first | omega | decide)
        refine lv_aload_n hx hb dX12_readPerson_78 rfl (lv_at hl 0 rfl) ?_
        refine q_get X hK h_15 1 rfl rfl wf_12 4 (by decide) rfl wm_5_174 dX12_readPerson_79 ?_
        refine lv_bipush (v := 22) hx hb dX12_readPerson_82 (by decide) ?_
        refine lv_iload_n hx hb dX12_readPerson_84 rfl (lv_at hl 1 rfl) ?_
        refine lv_iadd hx hb dX12_readPerson_85 ?_
        obtain ⟨z_17, ez_17, hz_17⟩ := e_add (x := 22) (y := p18) (show (22 : Int32).toInt = 22 by decide) rfl (by omega) (by omega)
        refine q_c z_17 ez_17 ?_
        clear ez_17
        refine lv_ldc hx hb hown (ht _ wm_6_103) dX12_readPerson_86 ?_
        refine q_iast X hK h_15 0 rfl (i_in rfl (by omega) (by omega)) dX12_readPerson_88 (fun H locs h_19 => ?_)
        clear h_15
        replace h_19 : qW D _ _ (wk_1d090495b cy h2 (upd F_14 (Int32.toNatClampNeg z_17) 268435456) h0 p0 w0 w1 h1 h2 p1 v32_6_2 v32_6_3 p4 v32_6_4 v32_6_5 v32_6_6 v32_6_7 p9 p10 p11 w2 w3 w4 w5 w6 p12 p13 w7 w8 w9 p14 p15 w10 w11 w12 w13 w14 p16 w15 w16 w17 h1 f0) _ _ := h_19
        obtain ⟨F_18, eF_18⟩ : ∃ z, (upd F_14 (Int32.toNatClampNeg z_17) 268435456) = z := ⟨_, rfl⟩
        have trF_18_1 := (tr_ne eF_18 trF_14_1 rfl (by omega))
        have trF_18_2 := (tr_ne eF_18 trF_14_2 rfl (by omega))
        have trF_18_405 := (tr_ne eF_18 trF_14_405 rfl (by omega))
        rw [eF_18] at h_19
        have hf_20 := hf_upd hf_16 eF_18 (by first | omega | decide)
        refine lv_aload_n hx hb dX12_readPerson_89 rfl (lv_at hl 0 rfl) ?_
        refine q_get X hK h_19 1 rfl rfl wf_12 4 (by decide) rfl wm_5_174 dX12_readPerson_90 ?_
        refine lv_bipush (v := 32) hx hb dX12_readPerson_93 (by decide) ?_
        refine lv_iload_n hx hb dX12_readPerson_95 rfl (lv_at hl 1 rfl) ?_
        refine lv_iadd hx hb dX12_readPerson_96 ?_
        obtain ⟨z_21, ez_21, hz_21⟩ := e_add (x := 32) (y := p18) (show (32 : Int32).toInt = 32 by decide) rfl (by omega) (by omega)
        refine q_c z_21 ez_21 ?_
        clear ez_21
        refine lv_bipush (v := 10) hx hb dX12_readPerson_97 (by decide) ?_
        refine q_iast X hK h_19 0 rfl (i_in rfl (by omega) (by omega)) dX12_readPerson_99 (fun H locs h_23 => ?_)
        clear h_19
        replace h_23 : qW D _ _ (wk_1d090495b cy h2 (upd F_18 (Int32.toNatClampNeg z_21) 10) h0 p0 w0 w1 h1 h2 p1 v32_6_2 v32_6_3 p4 v32_6_4 v32_6_5 v32_6_6 v32_6_7 p9 p10 p11 w2 w3 w4 w5 w6 p12 p13 w7 w8 w9 p14 p15 w10 w11 w12 w13 w14 p16 w15 w16 w17 h1 f0) _ _ := h_23
        obtain ⟨F_22, eF_22⟩ : ∃ z, (upd F_18 (Int32.toNatClampNeg z_21) 10) = z := ⟨_, rfl⟩
        have trF_22_1 := (tr_ne eF_22 trF_18_1 rfl (by omega))
        have trF_22_2 := (tr_ne eF_22 trF_18_2 rfl (by omega))
        have trF_22_405 := (tr_ne eF_22 trF_18_405 rfl (by omega))
        rw [eF_22] at h_23
        have hf_24 := hf_upd hf_20 eF_22 (by first | omega | decide)
        refine lv_aload_n hx hb dX12_readPerson_100 rfl (lv_at hl 0 rfl) ?_
        refine q_get X hK h_23 1 rfl rfl wf_12 4 (by decide) rfl wm_5_174 dX12_readPerson_101 ?_
        refine lv_bipush (v := 42) hx hb dX12_readPerson_104 (by decide) ?_
        refine lv_iload_n hx hb dX12_readPerson_106 rfl (lv_at hl 1 rfl) ?_
        refine lv_iadd hx hb dX12_readPerson_107 ?_
        obtain ⟨z_25, ez_25, hz_25⟩ := e_add (x := 42) (y := p18) (show (42 : Int32).toInt = 42 by decide) rfl (by omega) (by omega)
        refine q_c z_25 ez_25 ?_
        clear ez_25
        refine lv_iconst (v := 1) hx hb dX12_readPerson_108 (by decide) ?_
        refine q_iast X hK h_23 0 rfl (i_in rfl (by omega) (by omega)) dX12_readPerson_109 (fun H locs h_27 => ?_)
        clear h_23
        replace h_27 : qW D _ _ (wk_1d090495b cy h2 (upd F_22 (Int32.toNatClampNeg z_25) 1) h0 p0 w0 w1 h1 h2 p1 v32_6_2 v32_6_3 p4 v32_6_4 v32_6_5 v32_6_6 v32_6_7 p9 p10 p11 w2 w3 w4 w5 w6 p12 p13 w7 w8 w9 p14 p15 w10 w11 w12 w13 w14 p16 w15 w16 w17 h1 f0) _ _ := h_27
        obtain ⟨F_26, eF_26⟩ : ∃ z, (upd F_22 (Int32.toNatClampNeg z_25) 1) = z := ⟨_, rfl⟩
        have trF_26_1 := (tr_ne eF_26 trF_22_1 rfl (by omega))
        have trF_26_2 := (tr_ne eF_26 trF_22_2 rfl (by omega))
        have trF_26_405 := (tr_ne eF_26 trF_22_405 rfl (by omega))
        rw [eF_26] at h_27
        have hf_28 := hf_upd hf_24 eF_26 (by first | omega | decide)
        refine q_wl (fun (q : Int32 × Int32 × Int32 × Int32 × Int32 × Int32) H locs ls => match q with | (v110_29_0, v110_29_1, v110_29_2, v110_29_3, v110_29_4, v110_29_5) => ∃ v110_29_6 : Nat → Int32, (0 ≤ (v110_29_0).toInt ∧ (v110_29_0).toInt ≤ 900) ∧ (0 ≤ (v110_29_1).toInt ∧ (v110_29_1).toInt ≤ 900) ∧ ((-2147483648) ≤ (v110_29_2).toInt ∧ (v110_29_2).toInt ≤ 2147483647) ∧ (0 ≤ (v110_29_3).toInt ∧ (v110_29_3).toInt ≤ 999) ∧ ((-2147483648) ≤ (v110_29_4).toInt ∧ (v110_29_4).toInt ≤ 2147483647) ∧ ((-2147483648) ≤ (v110_29_5).toInt ∧ (v110_29_5).toInt ≤ 2147483647) ∧ v110_29_6 1 = p17 ∧ v110_29_6 2 = p18 ∧ v110_29_6 405 = p19 ∧ (0 ≤ (v110_29_0 : Int32).toInt ∧ (v110_29_0 : Int32).toInt ≤ (v110_29_1 : Int32).toInt ∧ (v110_29_1 : Int32).toInt ≤ (p4 : Int32).toInt) ∧ ((v110_29_2 : Int32).toInt = 26 ∨ (v110_29_0 : Int32).toInt < (v110_29_1 : Int32).toInt) ∧ ((p2 : Int32).toInt ≤ (v110_29_0 : Int32).toInt) ∧ ((v110_29_4 : Int32).toInt ≠ 0 ∨ (p7 : Int32).toInt = 0) ∧ (HF (v110_29_4 : Int32).toInt v110_29_6 ((p19 : Int32).toInt).toNat) ∧ qW D (va_A (wk_8d528f753 cy h0 p0 w0 w1 h1 h2 p1 p2 p3 p4 p5 p6 p7 p8 p9 p10 p11 w2 w3 w4 w5 w6 p12 p13 w7 w8 w9 p14 p15 w10 w11 w12 w13 w14 p16 w15 w16 w17 h1 f0 h2 f1) sz) s.heap (wk_1d090495b cy h2 v110_29_6 h0 p0 w0 w1 h1 h2 p1 v110_29_0 v110_29_1 p4 v110_29_2 v110_29_3 v110_29_4 v110_29_5 p9 p10 p11 w2 w3 w4 w5 w6 p12 p13 w7 w8 w9 p14 p15 w10 w11 w12 w13 w14 p16 w15 w16 w17 h1 f0) H locs ∧ lv_has ls 3 [(0, .ref h0), (1, .int p18), (2, .int v32_6_0)]) (fun (q : Int32 × Int32 × Int32 × Int32 × Int32 × Int32) => match q with | (v110_29_0, v110_29_1, v110_29_2, v110_29_3, v110_29_4, v110_29_5) => (901 - (v110_29_0).toInt).toNat) (fun q_110 ih_110 H locs ls hP => ?_) (v32_6_2, v32_6_3, v32_6_4, v32_6_5, v32_6_6, v32_6_7) ⟨F_26, hv32_6_2, hv32_6_3, hv32_6_4, hv32_6_5, hv32_6_6, hv32_6_7, trF_26_1, trF_26_2, trF_26_405, (x7_0), (x8_1), (x9_2), (x10_3), (hf_w hf_28 (by (first | assumption | (clear hpre1 y4_1 x8_1 x10_3; omega) | omega))), h_27, (lv_sub hl [0, 1, 2] rfl)⟩
        obtain ⟨v110_29_0, v110_29_1, v110_29_2, v110_29_3, v110_29_4, v110_29_5⟩ := q_110
        obtain ⟨v110_29_6, hv110_29_0, hv110_29_1, hv110_29_2, hv110_29_3, hv110_29_4, hv110_29_5, trv110_29_6_1, trv110_29_6_2, trv110_29_6_405, x30_0, x31_1, x32_2, x33_3, x34_4, h, hl⟩ := hP
        refine lv_aload_n hx hb dX12_readPerson_110 rfl (lv_at hl 0 rfl) ?_
        refine q_get X hK h 1 rfl rfl wf_12 11 (by decide) rfl wm_5_181 dX12_readPerson_111 ?_
        refine q_jn (pc2 := 128) (fun H locs ls st => ∃ v128_35_0 : Int32, ∃ v128_35_1 : Int32, ∃ v128_35_2 : Int32, ∃ v128_35_3 : Int32, ∃ v128_35_4 : Int32, ∃ v128_35_5 : Int32, ∃ v128_35_6 : Nat → Int32, (0 ≤ (v128_35_0).toInt ∧ (v128_35_0).toInt ≤ 900) ∧ (0 ≤ (v128_35_1).toInt ∧ (v128_35_1).toInt ≤ 900) ∧ ((-2147483648) ≤ (v128_35_2).toInt ∧ (v128_35_2).toInt ≤ 2147483647) ∧ (0 ≤ (v128_35_3).toInt ∧ (v128_35_3).toInt ≤ 999) ∧ ((-2147483648) ≤ (v128_35_4).toInt ∧ (v128_35_4).toInt ≤ 2147483647) ∧ ((-2147483648) ≤ (v128_35_5).toInt ∧ (v128_35_5).toInt ≤ 2147483647) ∧ v128_35_6 1 = p17 ∧ v128_35_6 2 = p18 ∧ v128_35_6 405 = p19 ∧ (0 ≤ (v128_35_0 : Int32).toInt ∧ (v128_35_0 : Int32).toInt ≤ (v128_35_1 : Int32).toInt ∧ (v128_35_1 : Int32).toInt ≤ (p4 : Int32).toInt) ∧ ((v128_35_2 : Int32).toInt = 26 ∨ (v128_35_0 : Int32).toInt < (v128_35_1 : Int32).toInt) ∧ ((p2 : Int32).toInt ≤ (v128_35_0 : Int32).toInt) ∧ ((v128_35_4 : Int32).toInt ≠ 0 ∨ (p7 : Int32).toInt = 0) ∧ (HF (v128_35_4 : Int32).toInt v128_35_6 ((p19 : Int32).toInt).toNat) ∧ st = [] ∧ qW D (va_A (wk_8d528f753 cy h0 p0 w0 w1 h1 h2 p1 p2 p3 p4 p5 p6 p7 p8 p9 p10 p11 w2 w3 w4 w5 w6 p12 p13 w7 w8 w9 p14 p15 w10 w11 w12 w13 w14 p16 w15 w16 w17 h1 f0 h2 f1) sz) s.heap (wk_1d090495b cy h2 v128_35_6 h0 p0 w0 w1 h1 h2 p1 v128_35_0 v128_35_1 p4 v128_35_2 v128_35_3 v128_35_4 v128_35_5 p9 p10 p11 w2 w3 w4 w5 w6 p12 p13 w7 w8 w9 p14 p15 w10 w11 w12 w13 w14 p16 w15 w16 w17 h1 f0) H locs ∧ lv_has ls 3 [(0, .ref h0), (1, .int p18), (2, .int v32_6_0)]) (fun H locs ls st hP => ?_) (fun J_128 => ?_)
        · obtain ⟨v128_35_0, v128_35_1, v128_35_2, v128_35_3, v128_35_4, v128_35_5, v128_35_6, hv128_35_0, hv128_35_1, hv128_35_2, hv128_35_3, hv128_35_4, hv128_35_5, trv128_35_6_1, trv128_35_6_2, trv128_35_6_405, x36_0, x37_1, x38_2, x39_3, x40_4, rfl, h, hl⟩ := hP
          refine lv_aload_n hx hb dX12_readPerson_128 rfl (lv_at hl 0 rfl) ?_
          refine q_get X hK h 1 rfl rfl wf_12 11 (by decide) rfl wm_5_181 dX12_readPerson_129 ?_
          refine lv_if_ne (tgt := 145) hx hb dX12_readPerson_132 (by decide) (fun c_41 => ?_) (fun c_41 => ?_)
          · replace c_41 := i_ne (x := v128_35_4) (y := 0) rfl (show (0 : Int32).toInt = 0 by decide) c_41
            exact q_vret X hr hlk hK h (fun _ => 0, (vcons v128_35_6 (vcons (fun _ => v128_35_0) (vcons (fun _ => v128_35_1) (vcons (fun _ => v128_35_2) (vcons (fun _ => v128_35_3) (vcons (fun _ => v128_35_4) (vcons (fun _ => v128_35_5) (vcons (fun _ => p18) (fun _ => (fun _ => 0)))))))))), fun _ _ => 0) ⟨hv128_35_0, hv128_35_1, hv128_35_2, hv128_35_3, hv128_35_4, hv128_35_5, hp18, trv128_35_6_1, trv128_35_6_2, trv128_35_6_405, x36_0, x37_1, x38_2, x39_3, (show HF (v128_35_4 : Int32).toInt v128_35_6 ((p19 : Int32).toInt).toNat from hf_w x40_4 (by (first | assumption | (clear hpre1 y4_1 x8_1 x10_3 x31_1 x33_3 x37_1 x39_3; omega) | omega))), trivial⟩ [1, 2, 0] rfl rfl dX12_readPerson_145 (Nat.le_of_ble_eq_true rfl) (Nat.le_of_ble_eq_true rfl)
          · replace c_41 := i_eq (x := v128_35_4) (y := 0) rfl (show (0 : Int32).toInt = 0 by decide) c_41
            refine lv_aload_n hx hb dX12_readPerson_135 rfl (lv_at hl 0 rfl) ?_
            refine q_get X hK h 1 rfl rfl wf_12 4 (by decide) rfl wm_5_174 dX12_readPerson_136 ?_
            refine lv_iconst (v := 2) hx hb dX12_readPerson_139 (by decide) ?_
            refine lv_dup2_11 hx hb dX12_readPerson_140 rfl rfl ?_
            refine q_iald X hK h 0 rfl (q_in (by decide +kernel)) dX12_readPerson_141 ?_
            refine q_c p18 trv128_35_6_2 ?_
            refine lv_iconst (v := 1) hx hb dX12_readPerson_142 (by decide) ?_
            refine lv_iadd hx hb dX12_readPerson_143 ?_
            obtain ⟨z_42, ez_42, hz_42⟩ := e_add (x := p18) (y := 1) rfl (show (1 : Int32).toInt = 1 by decide) (by omega) (by omega)
            refine q_c z_42 ez_42 ?_
            clear ez_42
            refine q_iast X hK h 0 rfl (q_in (by decide +kernel)) dX12_readPerson_144 (fun H locs h_44 => ?_)
            clear h
            replace h_44 : qW D _ _ (wk_1d090495b cy h2 (upd v128_35_6 (Int32.toNatClampNeg 2) z_42) h0 p0 w0 w1 h1 h2 p1 v128_35_0 v128_35_1 p4 v128_35_2 v128_35_3 v128_35_4 v128_35_5 p9 p10 p11 w2 w3 w4 w5 w6 p12 p13 w7 w8 w9 p14 p15 w10 w11 w12 w13 w14 p16 w15 w16 w17 h1 f0) _ _ := h_44
            obtain ⟨F_43, eF_43⟩ : ∃ z, (upd v128_35_6 (Int32.toNatClampNeg 2) z_42) = z := ⟨_, rfl⟩
            have trF_43_1 := (tr_ne eF_43 trv128_35_6_1 (show (2 : Int32).toInt = 2 by decide) (by omega))
            have trF_43_2 := (tr_eq eF_43 (k := 2) (x := 2) (by decide))
            have trF_43_405 := (tr_ne eF_43 trv128_35_6_405 (show (2 : Int32).toInt = 2 by decide) (by omega))
            rw [eF_43] at h_44
            have hf_45 := hf_upd x40_4 eF_43 (by first | omega | decide)
            exact q_vret X hr hlk hK h_44 (fun _ => 0, (vcons F_43 (vcons (fun _ => v128_35_0) (vcons (fun _ => v128_35_1) (vcons (fun _ => v128_35_2) (vcons (fun _ => v128_35_3) (vcons (fun _ => v128_35_4) (vcons (fun _ => v128_35_5) (vcons (fun _ => z_42) (fun _ => (fun _ => 0)))))))))), fun _ _ => 0) ⟨hv128_35_0, hv128_35_1, hv128_35_2, hv128_35_3, hv128_35_4, hv128_35_5, (⟨by omega, by omega⟩ : 0 ≤ (z_42 : Int32).toInt ∧ (z_42 : Int32).toInt ≤ 10), trF_43_1, trF_43_2, trF_43_405, x36_0, x37_1, x38_2, x39_3, (show HF (v128_35_4 : Int32).toInt F_43 ((p19 : Int32).toInt).toNat from hf_w hf_45 (by (first | assumption | (clear hpre1 y4_1 x8_1 x10_3 x31_1 x33_3 x37_1 x39_3; omega) | omega))), trivial⟩ [1, 2, 0] rfl rfl dX12_readPerson_145 (Nat.le_of_ble_eq_true rfl) (Nat.le_of_ble_eq_true rfl)
        · skip
          refine lv_if_ne (tgt := 128) hx hb dX12_readPerson_114 (by decide) (fun c_46 => ?_) (fun c_46 => ?_)
          · replace c_46 := i_ne (x := v110_29_4) (y := 0) rfl (show (0 : Int32).toInt = 0 by decide) c_46
            exact J_128 _ _ _ _ ⟨v110_29_0, v110_29_1, v110_29_2, v110_29_3, v110_29_4, v110_29_5, v110_29_6, hv110_29_0, hv110_29_1, hv110_29_2, hv110_29_3, hv110_29_4, hv110_29_5, trv110_29_6_1, trv110_29_6_2, trv110_29_6_405, (x30_0), (x31_1), (x32_2), (x33_3), (hf_w x34_4 (by (first | assumption | (clear hpre1 y4_1 x8_1 x10_3 x31_1 x33_3; omega) | omega))), rfl, h, (lv_sub hl [0, 1, 2] rfl)⟩
          · replace c_46 := i_eq (x := v110_29_4) (y := 0) rfl (show (0 : Int32).toInt = 0 by decide) c_46
            refine lv_aload_n hx hb dX12_readPerson_117 rfl (lv_at hl 0 rfl) ?_
            refine lv_iload_n hx hb dX12_readPerson_118 rfl (lv_at hl 1 rfl) ?_
            refine q_callVi (rest := []) (wr := []) X hK hT hA h (fun sz => gX12_readFlag_1d3400a l D cy h0 h1 h2 p18 p0 w0 w1 p1 v110_29_0 v110_29_1 p4 v110_29_2 v110_29_3 v110_29_4 v110_29_5 p9 p10 p11 w2 w3 w4 w5 w6 p12 p13 w7 w8 w9 p14 p15 w10 w11 w12 w13 w14 p16 w15 w16 w17 f0 v110_29_6 p17 p19 hp18 hp0 hp1 hv110_29_0 hv110_29_1 hp4 (i_rng _) hv110_29_3 (i_rng _) (i_rng _) (i_rng _) (i_rng _) (i_rng _) (i_rng _) (i_rng _) (i_rng _) (i_rng _) (i_rng _) (i_rng _) hp19 trv110_29_6_1 trv110_29_6_2 trv110_29_6_405 (x30_0) (x31_1) (hf_w x34_4 (by (first | assumption | (clear hpre1 y4_1 x8_1 x10_3 x31_1 x33_3; omega) | omega))) sz) wm_6_104 wm_6_107 wm_1_12 hd_X12_readFlag wm_6_106 wp_4_13 (ci := 12) (q0 := 0) rfl rfl ⟨Nat.le_of_ble_eq_true rfl, Nat.le_of_ble_eq_true rfl⟩ hl.1 rfl (Nat.le_of_ble_eq_true rfl) dX12_readPerson_119 ⟨Nat.le_of_ble_eq_true rfl, Nat.le_of_ble_eq_true rfl⟩ [1, 2, 0] [] rfl rfl (by decide) rfl rfl (fun r_47 u_47 H locs w_47 h_47 => ?_)
            clear h
            obtain ⟨wr_47, w47_0, w47_1, w47_2, w47_3, w47_4, w47_5, w47_6, w47_7, w47_8, y47_0, y47_1, y47_2, y47_3, y47_4, y47_5, _⟩ := w_47
            replace h_47 : qW D _ _ (wk_8d528f753 cy h0 p0 w0 w1 h1 h2 p1 (u_47.2.1 0 0) (u_47.2.1 1 0) p4 (u_47.2.1 2 0) (u_47.2.1 3 0) (u_47.2.1 5 0) (u_47.2.1 6 0) p9 p10 p11 w2 w3 w4 w5 w6 p12 p13 w7 w8 w9 p14 p15 w10 w11 w12 w13 w14 p16 w15 w16 w17 h1 f0 h2 (u_47.2.1 4)) _ _ := h_47
            refine lv_if_eq (tgt := 128) hx hb dX12_readPerson_122 (by decide) (fun c_48 => ?_) (fun c_48 => ?_)
            · replace c_48 := i_eq (x := r_47) (y := 0) rfl (show (0 : Int32).toInt = 0 by decide) c_48
              exact J_128 _ _ _ _ ⟨(u_47.2.1 0 0), (u_47.2.1 1 0), (u_47.2.1 2 0), (u_47.2.1 3 0), (u_47.2.1 5 0), (u_47.2.1 6 0), (u_47.2.1 4), w47_0, w47_1, w47_2, w47_3, w47_4, w47_5, w47_6, w47_7, w47_8, (y47_0), (y47_1), ((Int.le_trans x32_2 y47_2)), ((fl_tr y47_3 x33_3)), (hf_w y47_4 (by (first | assumption | (clear hpre1 y4_1 x8_1 x10_3 x31_1 x33_3 y47_1 y47_3 y47_5; omega) | omega))), rfl, (q_re h_47 [2, 0, 1] rfl rfl), (lv_sub hl [0, 1, 2] rfl)⟩
            · replace c_48 := i_ne (x := r_47) (y := 0) rfl (show (0 : Int32).toInt = 0 by decide) c_48
              refine lv_goto (tgt := 110) hx hb dX12_readPerson_125 (by decide) ?_
              exact ih_110 ((u_47.2.1 0 0), (u_47.2.1 1 0), (u_47.2.1 2 0), (u_47.2.1 3 0), (u_47.2.1 5 0), (u_47.2.1 6 0)) (by show (901 - ((u_47.2.1 0 0)).toInt).toNat < (901 - (v110_29_0).toInt).toNat; omega) _ _ _ ⟨(u_47.2.1 4), w47_0, w47_1, w47_2, w47_3, w47_4, w47_5, w47_6, w47_7, w47_8, (y47_0), (y47_1), ((Int.le_trans x32_2 y47_2)), ((fl_tr y47_3 x33_3)), (hf_w y47_4 (by (first | assumption | (clear hpre1 y4_1 x8_1 x10_3 x31_1 x33_3 y47_1 y47_3 y47_5; omega) | omega))), (q_re h_47 [2, 0, 1] rfl rfl), (lv_sub hl [0, 1, 2] rfl)⟩
      · replace c_12 := i_nle (x := p17) (y := v32_6_0) rfl rfl c_12
        refine lv_aload_n hx hb dX12_readPerson_42 rfl (lv_at hl 0 rfl) ?_
        refine q_get X hK h 1 rfl rfl wf_12 4 (by decide) rfl wm_5_174 dX12_readPerson_43 ?_
        refine lv_bipush (v := 54) hx hb dX12_readPerson_46 (by decide) ?_
        refine lv_iconst (v := 3) hx hb dX12_readPerson_48 (by decide) ?_
        refine lv_iload_n hx hb dX12_readPerson_49 rfl (lv_at hl 1 rfl) ?_
        refine lv_imul hx hb dX12_readPerson_50 ?_
        obtain ⟨z_49, ez_49, hz_49⟩ := e_mul (x := 3) (y := p18) (show (3 : Int32).toInt = 3 by decide) rfl (by omega) (by omega)
        refine q_c z_49 ez_49 ?_
        clear ez_49
        refine lv_iadd hx hb dX12_readPerson_51 ?_
        obtain ⟨z_50, ez_50, hz_50⟩ := e_add (x := 54) (y := z_49) (show (54 : Int32).toInt = 54 by decide) rfl (by omega) (by omega)
        refine q_c z_50 ez_50 ?_
        clear ez_50
        refine lv_iload_n hx hb dX12_readPerson_52 rfl (lv_at hl 2 rfl) ?_
        refine lv_iadd hx hb dX12_readPerson_53 ?_
        obtain ⟨z_51, ez_51, hz_51⟩ := e_add (x := z_50) (y := v32_6_0) rfl rfl (by omega) (by omega)
        refine q_c z_51 ez_51 ?_
        clear ez_51
        refine lv_aload_n hx hb dX12_readPerson_54 rfl (lv_at hl 0 rfl) ?_
        refine lv_iconst (v := 0) hx hb dX12_readPerson_55 (by decide) ?_
        refine lv_bipush (v := 9) hx hb dX12_readPerson_56 (by decide) ?_
        refine q_callVi (rest := [.int z_51, .ref h2]) (wr := [(h2, .inl (cy 1, 1306, .inl v32_6_1))]) X hK hT hA h (fun sz => gX12_takes_bfb9e22 l D cy h0 h1 (0 : Int32) (9 : Int32) p0 w0 w1 (.ref h2) p1 v32_6_2 v32_6_3 p4 v32_6_4 v32_6_5 v32_6_6 v32_6_7 p9 p10 p11 w2 w3 w4 w5 w6 p12 p13 w7 w8 w9 p14 p15 w10 w11 w12 w13 w14 p16 w15 w16 w17 f0 ⟨by decide +kernel, by decide +kernel⟩ ⟨by decide +kernel, by decide +kernel⟩ hp0 hp1 hv32_6_2 hv32_6_3 hp4 (i_rng _) hv32_6_5 (i_rng _) (i_rng _) (i_rng _) (i_rng _) (i_rng _) (i_rng _) (i_rng _) (i_rng _) (i_rng _) (i_rng _) (x7_0) (x8_1) sz) wm_6_87 wm_6_90 wm_1_12 hd_X12_takes wm_6_89 wp_4_9 (ci := 12) (q0 := 0) rfl rfl ⟨Nat.le_of_ble_eq_true rfl, Nat.le_of_ble_eq_true rfl⟩ hl.1 rfl (Nat.le_of_ble_eq_true rfl) dX12_readPerson_58 ⟨Nat.le_of_ble_eq_true rfl, Nat.le_of_ble_eq_true rfl⟩ [1, 2] [0] rfl rfl (by decide) rfl rfl (fun r_52 u_52 H locs w_52 h_52 => ?_)
        clear h
        obtain ⟨wr_52, w52_0, w52_1, w52_2, w52_3, w52_4, w52_5, y52_0, y52_1, y52_2, y52_3, y52_4, _⟩ := w_52
        have lq_52_1 : (0 : Int32).toInt = 0 := (by decide)
        have lq_52_2 : (9 : Int32).toInt = 9 := (by decide)
        replace h_52 : qW D _ _ (wk_1d090495b cy h2 v32_6_1 h0 p0 w0 w1 h1 h2 p1 (u_52.2.1 2 0) (u_52.2.1 3 0) p4 (u_52.2.1 4 0) (u_52.2.1 5 0) (u_52.2.1 0 0) (u_52.2.1 1 0) p9 p10 p11 w2 w3 w4 w5 w6 p12 p13 w7 w8 w9 p14 p15 w10 w11 w12 w13 w14 p16 w15 w16 w17 h1 f0) _ _ := h_52
        refine q_iast X hK h_52 0 rfl (i_in rfl (by omega) (by omega)) dX12_readPerson_61 (fun H locs h_54 => ?_)
        clear h_52
        replace h_54 : qW D _ _ (wk_1d090495b cy h2 (upd v32_6_1 (Int32.toNatClampNeg z_51) r_52) h0 p0 w0 w1 h1 h2 p1 (u_52.2.1 2 0) (u_52.2.1 3 0) p4 (u_52.2.1 4 0) (u_52.2.1 5 0) (u_52.2.1 0 0) (u_52.2.1 1 0) p9 p10 p11 w2 w3 w4 w5 w6 p12 p13 w7 w8 w9 p14 p15 w10 w11 w12 w13 w14 p16 w15 w16 w17 h1 f0) _ _ := h_54
        obtain ⟨F_53, eF_53⟩ : ∃ z, (upd v32_6_1 (Int32.toNatClampNeg z_51) r_52) = z := ⟨_, rfl⟩
        have trF_53_1 := (tr_ne eF_53 trv32_6_1_1 rfl (by omega))
        have trF_53_2 := (tr_ne eF_53 trv32_6_1_2 rfl (by omega))
        have trF_53_405 := (tr_ne eF_53 trv32_6_1_405 rfl (by omega))
        rw [eF_53] at h_54
        have hf_55 := hf_view (hf_w (w2 := ((u_52.2.1 0 0) : Int32).toInt) x11_4 (by omega)) eF_53 (by omega) (by omega)
        obtain ⟨z_56, ez_56, hz_56⟩ := e_add (x := v32_6_0) (y := Int32.ofInt 1) rfl (b := 1) (by decide) (by omega) (by omega)
        refine lv_iinc (v := z_56) (lv' := [(2, .int z_56), (0, .ref h0), (1, .int p18)]) hx hb dX12_readPerson_62 hl (k := 2) rfl ez_56 (by decide) rfl (fun ls_56 hl_56 => ?_)
        clear hl
        refine lv_goto (tgt := 32) hx hb dX12_readPerson_65 (by decide) ?_
        exact ih_32 (z_56, (u_52.2.1 2 0), (u_52.2.1 3 0), (u_52.2.1 4 0), (u_52.2.1 5 0), (u_52.2.1 0 0), (u_52.2.1 1 0)) (by show (4 - (z_56).toInt).toNat < (4 - (v32_6_0).toInt).toNat; omega) _ _ _ ⟨F_53, ⟨by omega, by omega⟩, w52_2, w52_3, w52_4, w52_5, w52_0, w52_1, trF_53_1, trF_53_2, trF_53_405, (y52_0), (y52_1), ((Int.le_trans x9_2 y52_2)), ((fl_tr y52_3 x10_3)), (hf_w hf_55 (by (first | assumption | (clear hpre1 y4_1 x8_1 x10_3 y52_1 y52_3 y52_4; omega) | omega))), h_54, (lv_sub hl_56 [1, 2, 0] rfl)⟩
    · replace c_3 := i_ne (x := p7) (y := 0) rfl (show (0 : Int32).toInt = 0 by decide) c_3
      exact q_vret X hr hlk hK h (fun _ => 0, (vcons f1 (vcons (fun _ => p2) (vcons (fun _ => p3) (vcons (fun _ => p5) (vcons (fun _ => p6) (vcons (fun _ => p7) (vcons (fun _ => p8) (vcons (fun _ => p18) (fun _ => (fun _ => 0)))))))))), fun _ _ => 0) ⟨hp2, hp3, hp5, hp6, hp7, hp8, hp18, htf1_1, htf1_2, htf1_405, hpre0, hpre1, (show (p2 : Int32).toInt ≤ (p2 : Int32).toInt from (Int.le_refl _)), (show (p7 : Int32).toInt ≠ 0 ∨ (p7 : Int32).toInt = 0 from (ne_or _)), (show HF (p7 : Int32).toInt f1 ((p19 : Int32).toInt).toNat from hf_w hpre2 (by (first | assumption | (clear hpre1; omega) | omega))), trivial⟩ [0, 1, 2] rfl rfl dX12_readPerson_25 (Nat.le_of_ble_eq_true rfl) (Nat.le_of_ble_eq_true rfl)
  · replace c_2 := i_eq (x := p18) (y := 10) rfl (show (10 : Int32).toInt = 10 by decide) c_2
    refine lv_aload_n hx hb dX12_readPerson_13 rfl (lv_at hl_1 1 rfl) ?_
    refine lv_iconst (v := 4) hx hb dX12_readPerson_14 (by decide) ?_
    refine q_callVv (rest := []) (wr := (wk_0ba1d1dd1 cy h1 f0 h2 f1)) X hK hT hA h (fun sz => gX12_fails_efc7c96 l D cy h0 p0 w0 w1 (.ref h1) (.ref h2) p1 p2 p3 p4 p5 p6 p7 p8 p9 p10 p11 w2 w3 w4 w5 w6 p12 p13 w7 w8 w9 p14 p15 w10 w11 w12 w13 w14 p16 w15 w16 w17 hp0 hp1 hp2 hp3 hp4 (i_rng _) hp6 (i_rng _) (i_rng _) (i_rng _) (i_rng _) (i_rng _) (i_rng _) (i_rng _) (i_rng _) (i_rng _) (i_rng _) sz) wm_6_83 wm_6_86 wm_1_12 hd_X12_fails wm_6_85 wp_4_8 (ci := 12) (q0 := 0) rfl rfl ⟨Nat.le_of_ble_eq_true rfl, Nat.le_of_ble_eq_true rfl⟩ hl_1.1 rfl (Nat.le_of_ble_eq_true rfl) dX12_readPerson_15 ⟨Nat.le_of_ble_eq_true rfl, Nat.le_of_ble_eq_true rfl⟩ [0] [1, 2] rfl rfl (by decide) rfl rfl (fun u_57 H locs w_57 h_57 => ?_)
    clear h
    obtain ⟨w57_0, w57_1, y57_0, _⟩ := w_57
    have lq_57_1 : (4 : Int32).toInt = 4 := (by decide)
    replace h_57 : qW D _ _ (wk_3227d7053 cy h1 f0 h2 f1 h0 p0 w0 w1 h1 h2 p1 p2 p3 p4 p5 p6 (u_57.2.1 0 0) (u_57.2.1 1 0) p9 p10 p11 w2 w3 w4 w5 w6 p12 p13 w7 w8 w9 p14 p15 w10 w11 w12 w13 w14 p16 w15 w16 w17) _ _ := h_57
    refine lv_aload_n hx hb dX12_readPerson_18 rfl (lv_at hl_1 1 rfl) ?_
    refine q_get X hK h_57 2 rfl rfl wf_12 11 (by decide) rfl wm_5_181 dX12_readPerson_19 ?_
    refine lv_if_eq (tgt := 26) hx hb dX12_readPerson_22 (by decide) (fun c_58 => ?_) (fun c_58 => ?_)
    · replace c_58 := i_eq (x := (u_57.2.1 0 0)) (y := 0) rfl (show (0 : Int32).toInt = 0 by decide) c_58
      exfalso
      omega
    · replace c_58 := i_ne (x := (u_57.2.1 0 0)) (y := 0) rfl (show (0 : Int32).toInt = 0 by decide) c_58
      exact q_vret X hr hlk hK h_57 (fun _ => 0, (vcons f1 (vcons (fun _ => p2) (vcons (fun _ => p3) (vcons (fun _ => p5) (vcons (fun _ => p6) (vcons (fun _ => (u_57.2.1 0 0)) (vcons (fun _ => (u_57.2.1 1 0)) (vcons (fun _ => p18) (fun _ => (fun _ => 0)))))))))), fun _ _ => 0) ⟨hp2, hp3, hp5, hp6, w57_0, w57_1, hp18, htf1_1, htf1_2, htf1_405, hpre0, hpre1, (show (p2 : Int32).toInt ≤ (p2 : Int32).toInt from (Int.le_refl _)), (show ((u_57.2.1 0 0) : Int32).toInt ≠ 0 ∨ (p7 : Int32).toInt = 0 from by (first | (clear hpre1; omega) | omega)), (show HF ((u_57.2.1 0 0) : Int32).toInt f1 ((p19 : Int32).toInt).toNat from hf_w hpre2 (by (first | assumption | (clear hpre1; omega) | omega))), trivial⟩ [2, 0, 1] rfl rfl dX12_readPerson_25 (Nat.le_of_ble_eq_true rfl) (Nat.le_of_ble_eq_true rfl)
set_option maxHeartbeats 4000000 in
set_option maxRecDepth 100000 in
theorem gX12_readLine_6d08fde (l : Launch) (D : va_G) (cy : Nat → ClassId) (h0 : Nat) (h1 : Nat) (h2 : Nat) (p0 : Int32) (w0 : Value) (w1 : Value) (p1 : Int32) (p2 : Int32) (p3 : Int32) (p4 : Int32) (p5 : Int32) (p6 : Int32) (p7 : Int32) (p8 : Int32) (p9 : Int32) (p10 : Int32) (p11 : Int32) (w2 : Value) (w3 : Value) (w4 : Value) (w5 : Value) (w6 : Value) (p12 : Int32) (p13 : Int32) (w7 : Value) (w8 : Value) (w9 : Value) (p14 : Int32) (p15 : Int32) (w10 : Value) (w11 : Value) (w12 : Value) (w13 : Value) (w14 : Value) (p16 : Int32) (w15 : Value) (w16 : Value) (w17 : Value) (f0 : Nat → Int32) (f1 : Nat → Int32) (p17 : Int32) (p18 : Int32) (p19 : Int32) (hp0 : 0 ≤ (p0).toInt ∧ (p0).toInt ≤ 0) (hp1 : 0 ≤ (p1).toInt ∧ (p1).toInt ≤ 900) (hp2 : 0 ≤ (p2).toInt ∧ (p2).toInt ≤ 900) (hp3 : 0 ≤ (p3).toInt ∧ (p3).toInt ≤ 900) (hp4 : 0 ≤ (p4).toInt ∧ (p4).toInt ≤ 900) (hp5 : (-2147483648) ≤ (p5).toInt ∧ (p5).toInt ≤ 2147483647) (hp6 : 0 ≤ (p6).toInt ∧ (p6).toInt ≤ 999) (hp7 : (-2147483648) ≤ (p7).toInt ∧ (p7).toInt ≤ 2147483647) (hp8 : (-2147483648) ≤ (p8).toInt ∧ (p8).toInt ≤ 2147483647) (hp9 : (-2147483648) ≤ (p9).toInt ∧ (p9).toInt ≤ 2147483647) (hp10 : (-2147483648) ≤ (p10).toInt ∧ (p10).toInt ≤ 2147483647) (hp11 : (-2147483648) ≤ (p11).toInt ∧ (p11).toInt ≤ 2147483647) (hp12 : (-2147483648) ≤ (p12).toInt ∧ (p12).toInt ≤ 2147483647) (hp13 : (-2147483648) ≤ (p13).toInt ∧ (p13).toInt ≤ 2147483647) (hp14 : (-2147483648) ≤ (p14).toInt ∧ (p14).toInt ≤ 2147483647) (hp15 : (-2147483648) ≤ (p15).toInt ∧ (p15).toInt ≤ 2147483647) (hp16 : (-2147483648) ≤ (p16).toInt ∧ (p16).toInt ≤ 2147483647) (hp17 : (-2147483648) ≤ (p17).toInt ∧ (p17).toInt ≤ 2147483647) (hp18 : 0 ≤ (p18).toInt ∧ (p18).toInt ≤ 10) (hp19 : 0 ≤ (p19).toInt ∧ (p19).toInt ≤ 900) (htf1_1 : f1 1 = p17) (htf1_2 : f1 2 = p18) (htf1_405 : f1 405 = p19) (hpre0 : 0 ≤ (p2 : Int32).toInt ∧ (p2 : Int32).toInt ≤ (p3 : Int32).toInt ∧ (p3 : Int32).toInt ≤ (p4 : Int32).toInt) (hpre1 : (p5 : Int32).toInt = 26 ∨ (p2 : Int32).toInt < (p3 : Int32).toInt) (hpre2 : (p7 : Int32).toInt ≠ 0 ∨ (p19 : Int32).toInt ≤ (p2 : Int32).toInt) (hpre3 : HF (p7 : Int32).toInt f1 ((p19 : Int32).toInt).toNat) (hpre4 : (p7 : Int32).toInt ≠ 0 ∨ (0 ≤ (p17 : Int32).toInt ∧ (p17 : Int32).toInt ≤ 3)) (sz : Nat) : MV l yX12_readLine cX12_readLine 1 { frames := 32, cells := 0, slots := 0, locals := 780 } [.ref h0] D cy (wk_8d528f753 cy h0 p0 w0 w1 h1 h2 p1 p2 p3 p4 p5 p6 p7 p8 p9 p10 p11 w2 w3 w4 w5 w6 p12 p13 w7 w8 w9 p14 p15 w10 w11 w12 w13 w14 p16 w15 w16 w17 h1 f0 h2 f1) sz (fun u => (0 ≤ (u.2.1 0 0).toInt ∧ (u.2.1 0 0).toInt ≤ 900) ∧ (0 ≤ (u.2.1 1 0).toInt ∧ (u.2.1 1 0).toInt ≤ 900) ∧ ((-2147483648) ≤ (u.2.1 2 0).toInt ∧ (u.2.1 2 0).toInt ≤ 2147483647) ∧ (0 ≤ (u.2.1 3 0).toInt ∧ (u.2.1 3 0).toInt ≤ 999) ∧ ((-2147483648) ≤ (u.2.1 4 0).toInt ∧ (u.2.1 4 0).toInt ≤ 2147483647) ∧ ((-2147483648) ≤ (u.2.1 5 0).toInt ∧ (u.2.1 5 0).toInt ≤ 2147483647) ∧ ((-2147483648) ≤ (u.2.1 7 0).toInt ∧ (u.2.1 7 0).toInt ≤ 2147483647) ∧ (0 ≤ (u.2.1 8 0).toInt ∧ (u.2.1 8 0).toInt ≤ 900) ∧ (0 ≤ (u.2.1 9 0).toInt ∧ (u.2.1 9 0).toInt ≤ 10) ∧ (u.2.1 6) 1 = p17 ∧ (u.2.1 6) 2 = (u.2.1 9 0) ∧ (u.2.1 6) 405 = (u.2.1 8 0) ∧ (0 ≤ ((u.2.1 0 0) : Int32).toInt ∧ ((u.2.1 0 0) : Int32).toInt ≤ ((u.2.1 1 0) : Int32).toInt ∧ ((u.2.1 1 0) : Int32).toInt ≤ (p4 : Int32).toInt) ∧ (((u.2.1 2 0) : Int32).toInt = 26 ∨ ((u.2.1 0 0) : Int32).toInt < ((u.2.1 1 0) : Int32).toInt) ∧ ((p2 : Int32).toInt ≤ ((u.2.1 0 0) : Int32).toInt) ∧ (((u.2.1 4 0) : Int32).toInt ≠ 0 ∨ (p7 : Int32).toInt = 0) ∧ (((u.2.1 4 0) : Int32).toInt ≠ 0 ∨ ((u.2.1 8 0) : Int32).toInt ≤ ((u.2.1 0 0) : Int32).toInt) ∧ (HF ((u.2.1 4 0) : Int32).toInt (u.2.1 6) (((u.2.1 8 0) : Int32).toInt).toNat) ∧ True) (fun u => (wk_8d528f753 cy h0 p0 w0 w1 h1 h2 p1 (u.2.1 0 0) (u.2.1 1 0) p4 (u.2.1 2 0) (u.2.1 3 0) (u.2.1 4 0) (u.2.1 5 0) p9 p10 (u.2.1 7 0) w2 w3 w4 w5 w6 p12 p13 w7 w8 w9 p14 p15 w10 w11 w12 w13 w14 p16 w15 w16 w17 h1 f0 h2 (u.2.1 6))) 0 0 := by
  refine q_ent (own := RX12) (by decide) rfl (Nat.le_of_ble_eq_true rfl) (fun p e s m below meth c ls X hr hlk hnm hK hT h hA hl => ?_)
  obtain ⟨hx, hb, hml, hown, ht⟩ := id X
  replace hl : lv_has ls 1 [(0, .ref h0)] := hl
  refine lv_aload_n hx hb dX12_readLine_0 rfl (lv_at hl 0 rfl) ?_
  refine q_get X hK h 0 rfl rfl wf_12 11 (by decide) rfl wm_5_181 dX12_readLine_1 ?_
  refine lv_if_eq (tgt := 8) hx hb dX12_readLine_4 (by decide) (fun c_1 => ?_) (fun c_1 => ?_)
  · replace c_1 := i_eq (x := p7) (y := 0) rfl (show (0 : Int32).toInt = 0 by decide) c_1
    refine lv_aload_n hx hb dX12_readLine_8 rfl (lv_at hl 0 rfl) ?_
    refine lv_iconst (v := 2) hx hb dX12_readLine_9 (by decide) ?_
    refine q_callVi (rest := []) (wr := (wk_0ba1d1dd1 cy h1 f0 h2 f1)) X hK hT hA h (fun sz => gX12_is_fe57bf5 l D cy h0 p0 w0 w1 (.ref h1) (.ref h2) p1 p2 p3 p4 p5 p6 p7 p8 p9 p10 p11 w2 w3 w4 w5 w6 p12 p13 w7 w8 w9 p14 p15 w10 w11 w12 w13 w14 p16 w15 w16 w17 hp0 hp1 hp2 hp3 hp4 (i_rng _) hp6 (i_rng _) (i_rng _) (i_rng _) (i_rng _) (i_rng _) (i_rng _) (i_rng _) (i_rng _) (i_rng _) (i_rng _) sz) wm_6_79 wm_6_82 wm_1_12 hd_X12_is wm_6_81 wp_4_7 (ci := 12) (q0 := 0) rfl rfl ⟨Nat.le_of_ble_eq_true rfl, Nat.le_of_ble_eq_true rfl⟩ hl.1 rfl (Nat.le_of_ble_eq_true rfl) dX12_readLine_10 ⟨Nat.le_of_ble_eq_true rfl, Nat.le_of_ble_eq_true rfl⟩ [0] [1, 2] rfl rfl (by decide) rfl rfl (fun r_2 u_2 H locs w_2 h_2 => ?_)
    clear h
    obtain ⟨wr_2, y2_0, _⟩ := w_2
    have lq_2_1 : (2 : Int32).toInt = 2 := (by decide)
    replace h_2 : qW D _ _ (wk_3227d7053 cy h1 f0 h2 f1 h0 p0 w0 w1 h1 h2 p1 p2 p3 p4 p5 p6 p7 p8 p9 p10 p11 w2 w3 w4 w5 w6 p12 p13 w7 w8 w9 p14 p15 w10 w11 w12 w13 w14 p16 w15 w16 w17) _ _ := h_2
    refine lv_if_eq (tgt := 23) hx hb dX12_readLine_13 (by decide) (fun c_3 => ?_) (fun c_3 => ?_)
    · replace c_3 := i_eq (x := r_2) (y := 0) rfl (show (0 : Int32).toInt = 0 by decide) c_3
      replace y2_0 := a10_0 y2_0 c_3
      refine lv_aload_n hx hb dX12_readLine_23 rfl (lv_at hl 0 rfl) ?_
      refine q_get X hK h_2 2 rfl rfl wf_12 9 (by decide) rfl wm_5_179 dX12_readLine_24 ?_
      refine lv_i2l hx hb dX12_readLine_27 rfl ?_
      obtain ⟨z_4, ez_4, hz_4⟩ := e_i2l (x := p5) rfl
      refine q_cl z_4 ez_4 ?_
      clear ez_4
      refine lv_ldc2 hx hb hown (ht _ wm_6_108) dX12_readLine_28 ?_
      refine lv_ldc2 hx hb hown (ht _ wm_6_109) dX12_readLine_31 ?_
      refine q_callSi (rest := []) (wr := (wk_3227d7053 cy h1 f0 h2 f1 h0 p0 w0 w1 h1 h2 p1 p2 p3 p4 p5 p6 p7 p8 p9 p10 p11 w2 w3 w4 w5 w6 p12 p13 w7 w8 w9 p14 p15 w10 w11 w12 w13 w14 p16 w15 w16 w17)) X hK hT hA h_2 (fun sz => gX12_within_00c7897 l D cy z_4 (7 : Int64) (9 : Int64) (j_rng _) ⟨by decide +kernel, by decide +kernel⟩ ⟨by decide +kernel, by decide +kernel⟩ sz) wm_6_50 wm_6_52 wm_1_12 hd_X12_within wm_6_51 ⟨Nat.le_of_ble_eq_true rfl, Nat.le_of_ble_eq_true rfl⟩ hl.1 rfl (Nat.le_of_ble_eq_true rfl) dX12_readLine_34 ⟨Nat.le_of_ble_eq_true rfl, Nat.le_of_ble_eq_true rfl⟩ [] [0, 1, 2] rfl rfl (by decide) rfl rfl (fun r_5 u_5 H locs w_5 h_5 => ?_)
      clear h_2
      obtain ⟨wr_5, y5_0, _⟩ := w_5
      have lq_5_1 : (7 : Int64).toInt = 7 := (by decide)
      have lq_5_2 : (9 : Int64).toInt = 9 := (by decide)
      replace h_5 : qW D _ _ (wk_3227d7053 cy h1 f0 h2 f1 h0 p0 w0 w1 h1 h2 p1 p2 p3 p4 p5 p6 p7 p8 p9 p10 p11 w2 w3 w4 w5 w6 p12 p13 w7 w8 w9 p14 p15 w10 w11 w12 w13 w14 p16 w15 w16 w17) _ _ := h_5
      refine lv_if_eq (tgt := 54) hx hb dX12_readLine_37 (by decide) (fun c_6 => ?_) (fun c_6 => ?_)
      · replace c_6 := i_eq (x := r_5) (y := 0) rfl (show (0 : Int32).toInt = 0 by decide) c_6
        replace y5_0 := a10_0 y5_0 c_6
        refine lv_aload_n hx hb dX12_readLine_54 rfl (lv_at hl 0 rfl) ?_
        refine lv_bipush (v := 10) hx hb dX12_readLine_55 (by decide) ?_
        refine q_callVi (rest := []) (wr := [(h2, .inl (cy 1, 1306, .inl f1))]) X hK hT hA h_5 (fun sz => gX12_eats_dbe8d69 l D cy h0 h1 p0 w0 w1 (.ref h2) p1 p2 p3 p4 p5 p6 p7 p8 p9 p10 p11 w2 w3 w4 w5 w6 p12 p13 w7 w8 w9 p14 p15 w10 w11 w12 w13 w14 p16 w15 w16 w17 f0 hp0 hp1 hp2 hp3 hp4 (i_rng _) hp6 (i_rng _) (i_rng _) (i_rng _) (i_rng _) (i_rng _) (i_rng _) (i_rng _) (i_rng _) (i_rng _) (i_rng _) (hpre0) (hpre1) sz) wm_6_75 wm_6_78 wm_1_12 hd_X12_eats wm_6_77 wp_4_6 (ci := 12) (q0 := 0) rfl rfl ⟨Nat.le_of_ble_eq_true rfl, Nat.le_of_ble_eq_true rfl⟩ hl.1 rfl (Nat.le_of_ble_eq_true rfl) dX12_readLine_57 ⟨Nat.le_of_ble_eq_true rfl, Nat.le_of_ble_eq_true rfl⟩ [2, 0] [1] rfl rfl (by decide) rfl rfl (fun r_7 u_7 H locs w_7 h_7 => ?_)
        clear h_5
        obtain ⟨wr_7, w7_0, w7_1, w7_2, w7_3, y7_0, y7_1, y7_2, _⟩ := w_7
        have lq_7_1 : (10 : Int32).toInt = 10 := (by decide)
        replace h_7 : qW D _ _ (wk_1d090495b cy h2 f1 h0 p0 w0 w1 h1 h2 p1 (u_7.2.1 0 0) (u_7.2.1 1 0) p4 (u_7.2.1 2 0) (u_7.2.1 3 0) p7 p8 p9 p10 p11 w2 w3 w4 w5 w6 p12 p13 w7 w8 w9 p14 p15 w10 w11 w12 w13 w14 p16 w15 w16 w17 h1 f0) _ _ := h_7
        refine lv_if_eq (tgt := 81) hx hb dX12_readLine_60 (by decide) (fun c_8 => ?_) (fun c_8 => ?_)
        · replace c_8 := i_eq (x := r_7) (y := 0) rfl (show (0 : Int32).toInt = 0 by decide) c_8
          replace y7_2 := a01_0 y7_2 c_8
          obtain ⟨y7_2a, y7_2b, y7_2c, y7_2d⟩ := y7_2
          refine lv_aload_n hx hb dX12_readLine_81 rfl (lv_at hl 0 rfl) ?_
          refine lv_iconst (v := 2) hx hb dX12_readLine_82 (by decide) ?_
          refine q_callVv (rest := []) (wr := (wk_8c87e24ed cy h2 f1 h1 f0)) X hK hT hA h_7 (fun sz => gX12_fails_1e02d40 l D cy h0 p0 w0 w1 (.ref h1) (.ref h2) p1 (u_7.2.1 0 0) (u_7.2.1 1 0) p4 (u_7.2.1 2 0) (u_7.2.1 3 0) p7 p8 p9 p10 p11 w2 w3 w4 w5 w6 p12 p13 w7 w8 w9 p14 p15 w10 w11 w12 w13 w14 p16 w15 w16 w17 hp0 hp1 w7_0 w7_1 hp4 (i_rng _) w7_3 (i_rng _) (i_rng _) (i_rng _) (i_rng _) (i_rng _) (i_rng _) (i_rng _) (i_rng _) (i_rng _) (i_rng _) sz) wm_6_83 wm_6_86 wm_1_12 hd_X12_fails wm_6_85 wp_4_8 (ci := 12) (q0 := 0) rfl rfl ⟨Nat.le_of_ble_eq_true rfl, Nat.le_of_ble_eq_true rfl⟩ hl.1 rfl (Nat.le_of_ble_eq_true rfl) dX12_readLine_83 ⟨Nat.le_of_ble_eq_true rfl, Nat.le_of_ble_eq_true rfl⟩ [1] [0, 2] rfl rfl (by decide) rfl rfl (fun u_9 H locs w_9 h_9 => ?_)
          clear h_7
          obtain ⟨w9_0, w9_1, y9_0, _⟩ := w_9
          have lq_9_1 : (2 : Int32).toInt = 2 := (by decide)
          replace h_9 : qW D _ _ (wk_a24e8cc19 cy h2 f1 h1 f0 h0 p0 w0 w1 h1 h2 p1 (u_7.2.1 0 0) (u_7.2.1 1 0) p4 (u_7.2.1 2 0) (u_7.2.1 3 0) (u_9.2.1 0 0) (u_9.2.1 1 0) p9 p10 p11 w2 w3 w4 w5 w6 p12 p13 w7 w8 w9 p14 p15 w10 w11 w12 w13 w14 p16 w15 w16 w17) _ _ := h_9
          exact q_vret X hr hlk hK h_9 (fun _ => 0, (vcons (fun _ => (u_7.2.1 0 0)) (vcons (fun _ => (u_7.2.1 1 0)) (vcons (fun _ => (u_7.2.1 2 0)) (vcons (fun _ => (u_7.2.1 3 0)) (vcons (fun _ => (u_9.2.1 0 0)) (vcons (fun _ => (u_9.2.1 1 0)) (vcons f1 (vcons (fun _ => p11) (vcons (fun _ => p19) (vcons (fun _ => p18) (fun _ => (fun _ => 0)))))))))))), fun _ _ => 0) ⟨w7_0, w7_1, w7_2, w7_3, w9_0, w9_1, hp11, hp19, hp18, htf1_1, htf1_2, htf1_405, y7_0, y7_1, (show (p2 : Int32).toInt ≤ ((u_7.2.1 0 0) : Int32).toInt from by (first | (clear hpre1 hpre2 hpre4 y2_0 y5_0 y7_1 y7_2d; omega) | omega)), (show ((u_9.2.1 0 0) : Int32).toInt ≠ 0 ∨ (p7 : Int32).toInt = 0 from by (first | (clear hpre1 hpre2 hpre4 y2_0 y5_0 y7_1 y7_2d; omega) | omega)), (show ((u_9.2.1 0 0) : Int32).toInt ≠ 0 ∨ (p19 : Int32).toInt ≤ ((u_7.2.1 0 0) : Int32).toInt from by (first | (clear hpre1 hpre2 hpre4 y2_0 y5_0 y7_1 y7_2d; omega) | omega)), (show HF ((u_9.2.1 0 0) : Int32).toInt f1 ((p19 : Int32).toInt).toNat from hf_w hpre3 (by (first | assumption | (clear hpre1 hpre2 hpre4 y2_0 y5_0 y7_1 y7_2d; omega) | omega))), trivial⟩ [2, 1, 0] rfl rfl dX12_readLine_86 (Nat.le_of_ble_eq_true rfl) (Nat.le_of_ble_eq_true rfl)
        · replace c_8 := i_ne (x := r_7) (y := 0) rfl (show (0 : Int32).toInt = 0 by decide) c_8
          replace y7_2 := a01_1 y7_2 c_8
          refine lv_aload_n hx hb dX12_readLine_63 rfl (lv_at hl 0 rfl) ?_
          refine q_get X hK h_7 1 rfl rfl wf_12 4 (by decide) rfl wm_5_174 dX12_readLine_64 ?_
          refine lv_bipush (v := 52) hx hb dX12_readLine_67 (by decide) ?_
          refine lv_aload_n hx hb dX12_readLine_69 rfl (lv_at hl 0 rfl) ?_
          refine lv_iconst (v := 0) hx hb dX12_readLine_70 (by decide) ?_
          refine lv_sipush (v := 999) hx hb dX12_readLine_71 (by decide) ?_
          refine q_callVi (rest := [.int 52, .ref h2]) (wr := [(h2, .inl (cy 1, 1306, .inl f1))]) X hK hT hA h_7 (fun sz => gX12_takes_bfb9e22 l D cy h0 h1 (0 : Int32) (999 : Int32) p0 w0 w1 (.ref h2) p1 (u_7.2.1 0 0) (u_7.2.1 1 0) p4 (u_7.2.1 2 0) (u_7.2.1 3 0) p7 p8 p9 p10 p11 w2 w3 w4 w5 w6 p12 p13 w7 w8 w9 p14 p15 w10 w11 w12 w13 w14 p16 w15 w16 w17 f0 ⟨by decide +kernel, by decide +kernel⟩ ⟨by decide +kernel, by decide +kernel⟩ hp0 hp1 w7_0 w7_1 hp4 (i_rng _) w7_3 (i_rng _) (i_rng _) (i_rng _) (i_rng _) (i_rng _) (i_rng _) (i_rng _) (i_rng _) (i_rng _) (i_rng _) (y7_0) (y7_1) sz) wm_6_87 wm_6_90 wm_1_12 hd_X12_takes wm_6_89 wp_4_9 (ci := 12) (q0 := 0) rfl rfl ⟨Nat.le_of_ble_eq_true rfl, Nat.le_of_ble_eq_true rfl⟩ hl.1 rfl (Nat.le_of_ble_eq_true rfl) dX12_readLine_74 ⟨Nat.le_of_ble_eq_true rfl, Nat.le_of_ble_eq_true rfl⟩ [1, 2] [0] rfl rfl (by decide) rfl rfl (fun r_10 u_10 H locs w_10 h_10 => ?_)
          clear h_7
          obtain ⟨wr_10, w10_0, w10_1, w10_2, w10_3, w10_4, w10_5, y10_0, y10_1, y10_2, y10_3, y10_4, _⟩ := w_10
          have lq_10_1 : (0 : Int32).toInt = 0 := (by decide)
          have lq_10_2 : (999 : Int32).toInt = 999 := (by decide)
          replace h_10 : qW D _ _ (wk_1d090495b cy h2 f1 h0 p0 w0 w1 h1 h2 p1 (u_10.2.1 2 0) (u_10.2.1 3 0) p4 (u_10.2.1 4 0) (u_10.2.1 5 0) (u_10.2.1 0 0) (u_10.2.1 1 0) p9 p10 p11 w2 w3 w4 w5 w6 p12 p13 w7 w8 w9 p14 p15 w10 w11 w12 w13 w14 p16 w15 w16 w17 h1 f0) _ _ := h_10
          refine q_iast X hK h_10 0 rfl (q_in (by decide +kernel)) dX12_readLine_77 (fun H locs h_12 => ?_)
          clear h_10
          replace h_12 : qW D _ _ (wk_1d090495b cy h2 (upd f1 (Int32.toNatClampNeg 52) r_10) h0 p0 w0 w1 h1 h2 p1 (u_10.2.1 2 0) (u_10.2.1 3 0) p4 (u_10.2.1 4 0) (u_10.2.1 5 0) (u_10.2.1 0 0) (u_10.2.1 1 0) p9 p10 p11 w2 w3 w4 w5 w6 p12 p13 w7 w8 w9 p14 p15 w10 w11 w12 w13 w14 p16 w15 w16 w17 h1 f0) _ _ := h_12
          obtain ⟨F_11, eF_11⟩ : ∃ z, (upd f1 (Int32.toNatClampNeg 52) r_10) = z := ⟨_, rfl⟩
          have trF_11_1 := (tr_ne eF_11 htf1_1 (show (52 : Int32).toInt = 52 by decide) (by omega))
          have trF_11_2 := (tr_ne eF_11 htf1_2 (show (52 : Int32).toInt = 52 by decide) (by omega))
          have trF_11_405 := (tr_ne eF_11 htf1_405 (show (52 : Int32).toInt = 52 by decide) (by omega))
          rw [eF_11] at h_12
          have hf_13 := hf_upd hpre3 eF_11 (by first | omega | decide)
          refine lv_goto (tgt := 86) hx hb dX12_readLine_78 (by decide) ?_
          exact q_vret X hr hlk hK h_12 (fun _ => 0, (vcons (fun _ => (u_10.2.1 2 0)) (vcons (fun _ => (u_10.2.1 3 0)) (vcons (fun _ => (u_10.2.1 4 0)) (vcons (fun _ => (u_10.2.1 5 0)) (vcons (fun _ => (u_10.2.1 0 0)) (vcons (fun _ => (u_10.2.1 1 0)) (vcons F_11 (vcons (fun _ => p11) (vcons (fun _ => p19) (vcons (fun _ => p18) (fun _ => (fun _ => 0)))))))))))), fun _ _ => 0) ⟨w10_2, w10_3, w10_4, w10_5, w10_0, w10_1, hp11, hp19, hp18, trF_11_1, trF_11_2, trF_11_405, y10_0, y10_1, (show (p2 : Int32).toInt ≤ ((u_10.2.1 2 0) : Int32).toInt from by (first | (clear hpre1 hpre2 hpre4 y2_0 y5_0 y7_1 y10_1 y10_3 y10_4; omega) | omega)), y10_3, (show ((u_10.2.1 0 0) : Int32).toInt ≠ 0 ∨ (p19 : Int32).toInt ≤ ((u_10.2.1 2 0) : Int32).toInt from by (first | (clear hpre1 hpre2 hpre4 y2_0 y5_0 y7_1 y10_1 y10_3 y10_4; omega) | omega)), (show HF ((u_10.2.1 0 0) : Int32).toInt F_11 ((p19 : Int32).toInt).toNat from hf_w hf_13 (by (first | assumption | (clear hpre1 hpre2 hpre4 y2_0 y5_0 y7_1 y10_1 y10_3 y10_4; omega) | omega))), trivial⟩ [1, 2, 0] rfl rfl dX12_readLine_86 (Nat.le_of_ble_eq_true rfl) (Nat.le_of_ble_eq_true rfl)
      · replace c_6 := i_ne (x := r_5) (y := 0) rfl (show (0 : Int32).toInt = 0 by decide) c_6
        replace y5_0 := a10_1 y5_0 c_6
        refine lv_aload_n hx hb dX12_readLine_40 rfl (lv_at hl 0 rfl) ?_
        refine lv_aload_n hx hb dX12_readLine_41 rfl (lv_at hl 0 rfl) ?_
        refine q_get X hK h_5 2 rfl rfl wf_12 9 (by decide) rfl wm_5_179 dX12_readLine_42 ?_
        refine lv_bipush (v := 7) hx hb dX12_readLine_45 (by decide) ?_
        refine lv_isub hx hb dX12_readLine_47 ?_
        obtain ⟨z_14, ez_14, hz_14⟩ := e_sub (x := p5) (y := 7) rfl (show (7 : Int32).toInt = 7 by decide) (by omega) (by omega)
        refine q_c z_14 ez_14 ?_
        clear ez_14
        refine q_callVv (rest := []) (wr := []) X hK hT hA h_5 (fun sz => gX12_readLaw_e2365d9 l D cy h0 h1 h2 z_14 p0 w0 w1 p1 p2 p3 p4 p5 p6 p7 p8 p9 p10 p11 w2 w3 w4 w5 w6 p12 p13 w7 w8 w9 p14 p15 w10 w11 w12 w13 w14 p16 w15 w16 w17 f0 f1 p17 p18 p19 ⟨by omega, by omega⟩ hp0 hp1 hp2 hp3 hp4 (i_rng _) hp6 (i_rng _) (i_rng _) (i_rng _) (i_rng _) (i_rng _) (i_rng _) (i_rng _) (i_rng _) (i_rng _) (i_rng _) (i_rng _) hp18 hp19 htf1_1 htf1_2 htf1_405 (hpre0) (hpre1) (hpre2) (hf_w hpre3 (by (first | assumption | (clear hpre1 hpre2 hpre4 y2_0; omega) | omega))) (by (first | (clear hpre1 hpre2 hpre4 y2_0; omega) | omega)) sz) wm_6_110 wm_6_113 wm_1_12 hd_X12_readLaw wm_6_112 wp_4_14 (ci := 12) (q0 := 0) rfl rfl ⟨Nat.le_of_ble_eq_true rfl, Nat.le_of_ble_eq_true rfl⟩ hl.1 rfl (Nat.le_of_ble_eq_true rfl) dX12_readLine_48 ⟨Nat.le_of_ble_eq_true rfl, Nat.le_of_ble_eq_true rfl⟩ [2, 0, 1] [] rfl rfl (by decide) rfl rfl (fun u_15 H locs w_15 h_15 => ?_)
        clear h_5
        obtain ⟨w15_0, w15_1, w15_2, w15_3, w15_4, w15_5, w15_6, w15_7, w15_8, w15_9, w15_10, y15_0, y15_1, y15_2, y15_3, y15_4, y15_5, _⟩ := w_15
        replace h_15 : qW D _ _ (wk_8d528f753 cy h0 p0 w0 w1 h1 h2 p1 (u_15.2.1 0 0) (u_15.2.1 1 0) p4 (u_15.2.1 2 0) (u_15.2.1 3 0) (u_15.2.1 4 0) (u_15.2.1 5 0) p9 p10 (u_15.2.1 6 0) w2 w3 w4 w5 w6 p12 p13 w7 w8 w9 p14 p15 w10 w11 w12 w13 w14 p16 w15 w16 w17 h1 f0 h2 (u_15.2.1 7)) _ _ := h_15
        refine lv_goto (tgt := 86) hx hb dX12_readLine_51 (by decide) ?_
        exact q_vret X hr hlk hK h_15 (fun _ => 0, (vcons (fun _ => (u_15.2.1 0 0)) (vcons (fun _ => (u_15.2.1 1 0)) (vcons (fun _ => (u_15.2.1 2 0)) (vcons (fun _ => (u_15.2.1 3 0)) (vcons (fun _ => (u_15.2.1 4 0)) (vcons (fun _ => (u_15.2.1 5 0)) (vcons (u_15.2.1 7) (vcons (fun _ => (u_15.2.1 6 0)) (vcons (fun _ => (u_15.2.1 8 0)) (vcons (fun _ => p18) (fun _ => (fun _ => 0)))))))))))), fun _ _ => 0) ⟨w15_0, w15_1, w15_2, w15_3, w15_4, w15_5, (bw w15_6 (by decide) (by decide)), w15_7, hp18, w15_8, w15_9, w15_10, y15_0, y15_1, y15_2, y15_3, y15_4, (show HF ((u_15.2.1 4 0) : Int32).toInt (u_15.2.1 7) (((u_15.2.1 8 0) : Int32).toInt).toNat from hf_w y15_5 (by (first | assumption | (clear hpre1 hpre2 hpre4 y2_0 y15_1 y15_3 y15_4; omega) | omega))), trivial⟩ [0, 1, 2] rfl rfl dX12_readLine_86 (Nat.le_of_ble_eq_true rfl) (Nat.le_of_ble_eq_true rfl)
    · replace c_3 := i_ne (x := r_2) (y := 0) rfl (show (0 : Int32).toInt = 0 by decide) c_3
      replace y2_0 := a10_1 y2_0 c_3
      refine lv_aload_n hx hb dX12_readLine_16 rfl (lv_at hl 0 rfl) ?_
      refine q_callVv (rest := []) (wr := []) X hK hT hA h_2 (fun sz => gX12_readPerson_1ec4420 l D cy h0 h1 h2 p0 w0 w1 p1 p2 p3 p4 p5 p6 p7 p8 p9 p10 p11 w2 w3 w4 w5 w6 p12 p13 w7 w8 w9 p14 p15 w10 w11 w12 w13 w14 p16 w15 w16 w17 f0 f1 p17 p18 p19 hp0 hp1 hp2 hp3 hp4 (i_rng _) hp6 (i_rng _) (i_rng _) (i_rng _) (i_rng _) (i_rng _) (i_rng _) (i_rng _) (i_rng _) (i_rng _) (i_rng _) (i_rng _) hp18 hp19 htf1_1 htf1_2 htf1_405 (hpre0) (hpre1) (hf_w hpre3 (by (first | assumption | (clear hpre1 hpre2 hpre4; omega) | omega))) (by (first | (clear hpre1 hpre2 hpre4; omega) | omega)) (by (first | (clear hpre1 hpre2 hpre4; omega) | omega)) sz) wm_6_99 wm_6_102 wm_1_12 hd_X12_readPerson wm_6_101 wp_4_12 (ci := 12) (q0 := 0) rfl rfl ⟨Nat.le_of_ble_eq_true rfl, Nat.le_of_ble_eq_true rfl⟩ hl.1 rfl (Nat.le_of_ble_eq_true rfl) dX12_readLine_17 ⟨Nat.le_of_ble_eq_true rfl, Nat.le_of_ble_eq_true rfl⟩ [2, 0, 1] [] rfl rfl (by decide) rfl rfl (fun u_16 H locs w_16 h_16 => ?_)
      clear h_2
      obtain ⟨w16_0, w16_1, w16_2, w16_3, w16_4, w16_5, w16_6, w16_7, w16_8, w16_9, y16_0, y16_1, y16_2, y16_3, y16_4, _⟩ := w_16
      replace h_16 : qW D _ _ (wk_8d528f753 cy h0 p0 w0 w1 h1 h2 p1 (u_16.2.1 1 0) (u_16.2.1 2 0) p4 (u_16.2.1 3 0) (u_16.2.1 4 0) (u_16.2.1 5 0) (u_16.2.1 6 0) p9 p10 p11 w2 w3 w4 w5 w6 p12 p13 w7 w8 w9 p14 p15 w10 w11 w12 w13 w14 p16 w15 w16 w17 h1 f0 h2 (u_16.2.1 0)) _ _ := h_16
      refine lv_goto (tgt := 86) hx hb dX12_readLine_20 (by decide) ?_
      exact q_vret X hr hlk hK h_16 (fun _ => 0, (vcons (fun _ => (u_16.2.1 1 0)) (vcons (fun _ => (u_16.2.1 2 0)) (vcons (fun _ => (u_16.2.1 3 0)) (vcons (fun _ => (u_16.2.1 4 0)) (vcons (fun _ => (u_16.2.1 5 0)) (vcons (fun _ => (u_16.2.1 6 0)) (vcons (u_16.2.1 0) (vcons (fun _ => p11) (vcons (fun _ => p19) (vcons (fun _ => (u_16.2.1 7 0)) (fun _ => (fun _ => 0)))))))))))), fun _ _ => 0) ⟨w16_0, w16_1, w16_2, w16_3, w16_4, w16_5, hp11, hp19, w16_6, w16_7, w16_8, w16_9, y16_0, y16_1, y16_2, y16_3, (show ((u_16.2.1 5 0) : Int32).toInt ≠ 0 ∨ (p19 : Int32).toInt ≤ ((u_16.2.1 1 0) : Int32).toInt from by (first | (clear hpre1 hpre2 hpre4 y16_1 y16_3; omega) | omega)), (show HF ((u_16.2.1 5 0) : Int32).toInt (u_16.2.1 0) ((p19 : Int32).toInt).toNat from hf_w y16_4 (by (first | assumption | (clear hpre1 hpre2 hpre4 y16_1 y16_3; omega) | omega))), trivial⟩ [0, 1, 2] rfl rfl dX12_readLine_86 (Nat.le_of_ble_eq_true rfl) (Nat.le_of_ble_eq_true rfl)
  · replace c_1 := i_ne (x := p7) (y := 0) rfl (show (0 : Int32).toInt = 0 by decide) c_1
    exact q_vret X hr hlk hK h (fun _ => 0, (vcons (fun _ => p2) (vcons (fun _ => p3) (vcons (fun _ => p5) (vcons (fun _ => p6) (vcons (fun _ => p7) (vcons (fun _ => p8) (vcons f1 (vcons (fun _ => p11) (vcons (fun _ => p19) (vcons (fun _ => p18) (fun _ => (fun _ => 0)))))))))))), fun _ _ => 0) ⟨hp2, hp3, hp5, hp6, hp7, hp8, hp11, hp19, hp18, htf1_1, htf1_2, htf1_405, hpre0, hpre1, (show (p2 : Int32).toInt ≤ (p2 : Int32).toInt from (Int.le_refl _)), (show (p7 : Int32).toInt ≠ 0 ∨ (p7 : Int32).toInt = 0 from (ne_or _)), hpre2, (show HF (p7 : Int32).toInt f1 ((p19 : Int32).toInt).toNat from hf_w hpre3 (by (first | assumption | (clear hpre1 hpre2 hpre4; omega) | omega))), trivial⟩ [0, 1, 2] rfl rfl dX12_readLine_7 (Nat.le_of_ble_eq_true rfl) (Nat.le_of_ble_eq_true rfl)
set_option maxHeartbeats 60000000 in
set_option maxRecDepth 100000 in
theorem gX12_house_eda1918 (l : Launch) (D : va_G) (cy : Nat → ClassId) (h0 : Nat) (h1 : Nat) (h2 : Nat) (h3 : Nat) (p0 : Int32) (p1 : Int32) (w0 : Value) (p2 : Int32) (p3 : Int32) (p4 : Int32) (p5 : Int32) (p6 : Int32) (p7 : Int32) (p8 : Int32) (p9 : Int32) (p10 : Int32) (p11 : Int32) (p12 : Int32) (w1 : Value) (w2 : Value) (w3 : Value) (w4 : Value) (w5 : Value) (p13 : Int32) (p14 : Int32) (w6 : Value) (w7 : Value) (w8 : Value) (p15 : Int32) (p16 : Int32) (w9 : Value) (w10 : Value) (w11 : Value) (w12 : Value) (w13 : Value) (p17 : Int32) (w14 : Value) (w15 : Value) (w16 : Value) (f0 : Nat → Int32) (p18 : Int32) (f1 : Nat → Int32) (f2 : Nat → Int32) (p19 : Int32) (p20 : Int32) (p21 : Int32) (hp0 : (-2147483648) ≤ (p0).toInt ∧ (p0).toInt ≤ 2147483647) (hp1 : (-2147483648) ≤ (p1).toInt ∧ (p1).toInt ≤ 2147483647) (hp2 : 0 ≤ (p2).toInt ∧ (p2).toInt ≤ 900) (hp3 : 0 ≤ (p3).toInt ∧ (p3).toInt ≤ 900) (hp4 : 0 ≤ (p4).toInt ∧ (p4).toInt ≤ 900) (hp5 : 0 ≤ (p5).toInt ∧ (p5).toInt ≤ 900) (hp6 : (-2147483648) ≤ (p6).toInt ∧ (p6).toInt ≤ 2147483647) (hp7 : 0 ≤ (p7).toInt ∧ (p7).toInt ≤ 999) (hp8 : (-2147483648) ≤ (p8).toInt ∧ (p8).toInt ≤ 2147483647) (hp9 : (-2147483648) ≤ (p9).toInt ∧ (p9).toInt ≤ 2147483647) (hp10 : (-2147483648) ≤ (p10).toInt ∧ (p10).toInt ≤ 2147483647) (hp11 : (-2147483648) ≤ (p11).toInt ∧ (p11).toInt ≤ 2147483647) (hp12 : (-2147483648) ≤ (p12).toInt ∧ (p12).toInt ≤ 2147483647) (hp13 : (-2147483648) ≤ (p13).toInt ∧ (p13).toInt ≤ 2147483647) (hp14 : (-2147483648) ≤ (p14).toInt ∧ (p14).toInt ≤ 2147483647) (hp15 : (-2147483648) ≤ (p15).toInt ∧ (p15).toInt ≤ 2147483647) (hp16 : (-2147483648) ≤ (p16).toInt ∧ (p16).toInt ≤ 2147483647) (hp17 : (-2147483648) ≤ (p17).toInt ∧ (p17).toInt ≤ 2147483647) (hp18 : 0 ≤ (p18).toInt ∧ (p18).toInt ≤ 10) (hp19 : (-2147483648) ≤ (p19).toInt ∧ (p19).toInt ≤ 2147483647) (hp20 : 0 ≤ (p20).toInt ∧ (p20).toInt ≤ 10) (hp21 : 0 ≤ (p21).toInt ∧ (p21).toInt ≤ 900) (htf0_84 : f0 84 = p18) (rf0 : AL f0) (htf2_1 : f2 1 = p19) (htf2_2 : f2 2 = p20) (htf2_405 : f2 405 = p21) (sz : Nat) : MI l yX12_house cX12_house 3 .int { frames := 33, cells := 0, slots := 0, locals := 800 } [.ref h0, .int p0] D cy (wk_04d6d8a2c cy h0 p1 h1 w0 h2 h3 p2 p3 p4 p5 p6 p7 p8 p9 p10 p11 p12 w1 w2 w3 w4 w5 p13 p14 w6 w7 w8 p15 p16 w9 w10 w11 w12 w13 p17 w14 w15 w16 h1 f0 h2 f1 h3 f2) sz (fun r u => ((-2147483648) ≤ r.toInt ∧ r.toInt ≤ 2147483647) ∧ AL (u.2.1 0) ∧ (0 ≤ (u.2.1 1 0).toInt ∧ (u.2.1 1 0).toInt ≤ 10) ∧ (0 ≤ (u.2.1 2 0).toInt ∧ (u.2.1 2 0).toInt ≤ 0) ∧ (0 ≤ (u.2.1 3 0).toInt ∧ (u.2.1 3 0).toInt ≤ 900) ∧ (0 ≤ (u.2.1 4 0).toInt ∧ (u.2.1 4 0).toInt ≤ 900) ∧ (0 ≤ (u.2.1 5 0).toInt ∧ (u.2.1 5 0).toInt ≤ 900) ∧ (0 ≤ (u.2.1 6 0).toInt ∧ (u.2.1 6 0).toInt ≤ 900) ∧ ((-2147483648) ≤ (u.2.1 7 0).toInt ∧ (u.2.1 7 0).toInt ≤ 2147483647) ∧ (0 ≤ (u.2.1 8 0).toInt ∧ (u.2.1 8 0).toInt ≤ 999) ∧ ((-2147483648) ≤ (u.2.1 9 0).toInt ∧ (u.2.1 9 0).toInt ≤ 2147483647) ∧ ((-2147483648) ≤ (u.2.1 10 0).toInt ∧ (u.2.1 10 0).toInt ≤ 2147483647) ∧ ((-2147483648) ≤ (u.2.1 11 0).toInt ∧ (u.2.1 11 0).toInt ≤ 2147483647) ∧ ((-2147483648) ≤ (u.2.1 12 0).toInt ∧ (u.2.1 12 0).toInt ≤ 2147483647) ∧ ((-2147483648) ≤ (u.2.1 13 0).toInt ∧ (u.2.1 13 0).toInt ≤ 2147483647) ∧ ((-2147483648) ≤ (u.2.1 15 0).toInt ∧ (u.2.1 15 0).toInt ≤ 2147483647) ∧ (0 ≤ (u.2.1 16 0).toInt ∧ (u.2.1 16 0).toInt ≤ 10) ∧ (0 ≤ (u.2.1 17 0).toInt ∧ (u.2.1 17 0).toInt ≤ 900) ∧ (u.2.1 0) 84 = (u.2.1 1 0) ∧ (u.2.1 14) 1 = (u.2.1 15 0) ∧ (u.2.1 14) 2 = (u.2.1 16 0) ∧ (u.2.1 14) 405 = (u.2.1 17 0) ∧ True) (fun u => (wk_04d6d8a2c cy h0 (u.2.1 2 0) h1 w0 h2 h3 (u.2.1 3 0) (u.2.1 4 0) (u.2.1 5 0) (u.2.1 6 0) (u.2.1 7 0) (u.2.1 8 0) (u.2.1 9 0) (u.2.1 10 0) (u.2.1 11 0) (u.2.1 12 0) (u.2.1 13 0) w1 w2 w3 w4 w5 p13 p14 w6 w7 w8 p15 p16 w9 w10 w11 w12 w13 p17 w14 w15 w16 h1 (u.2.1 0) h2 f1 h3 (u.2.1 14))) 0 0 := by
  refine q_ent (own := RX12) (by decide) rfl (Nat.le_of_ble_eq_true rfl) (fun p e s m below meth c ls X hr hlk hnm hK hT h hA hl => ?_)
  obtain ⟨hx, hb, hml, hown, ht⟩ := id X
  replace hl : lv_has ls 3 [(0, .ref h0), (1, .int p0)] := hl
  refine lv_aload_n hx hb dX12_house_0 rfl (lv_at hl 0 rfl) ?_
  refine lv_iconst (v := 0) hx hb dX12_house_1 (by decide) ?_
  refine q_put (v := .int 0) X hK h 0 rfl rfl wf_12 tyX12 tyX12_ok nmX12 0 (by decide) wm_5_170 rfl rfl rfl (Nat.le_of_ble_eq_true rfl) dX12_house_2 (fun H locs h_1 => ?_)
  clear h
  replace h_1 : qW D _ _ (wk_04d6d8a2c cy h0 0 h1 w0 h2 h3 p2 p3 p4 p5 p6 p7 p8 p9 p10 p11 p12 w1 w2 w3 w4 w5 p13 p14 w6 w7 w8 p15 p16 w9 w10 w11 w12 w13 p17 w14 w15 w16 h1 f0 h2 f1 h3 f2) _ _ := h_1
  refine lv_iload_n hx hb dX12_house_5 rfl (lv_at hl 1 rfl) ?_
  refine lv_i2l hx hb dX12_house_6 rfl ?_
  obtain ⟨z_2, ez_2, hz_2⟩ := e_i2l (x := p0) rfl
  refine q_cl z_2 ez_2 ?_
  clear ez_2
  refine lv_lconst (v := 0) hx hb dX12_house_7 (by decide) ?_
  refine lv_aload_n hx hb dX12_house_8 rfl (lv_at hl 0 rfl) ?_
  refine q_get X hK h_1 0 rfl rfl wf_12 5 (by decide) rfl wm_5_175 dX12_house_9 ?_
  refine lv_i2l hx hb dX12_house_12 rfl ?_
  obtain ⟨z_3, ez_3, hz_3⟩ := e_i2l (x := p2) rfl
  refine q_cl z_3 ez_3 ?_
  clear ez_3
  refine q_callSi (rest := []) (wr := (wk_04d6d8a2c cy h0 0 h1 w0 h2 h3 p2 p3 p4 p5 p6 p7 p8 p9 p10 p11 p12 w1 w2 w3 w4 w5 p13 p14 w6 w7 w8 p15 p16 w9 w10 w11 w12 w13 p17 w14 w15 w16 h1 f0 h2 f1 h3 f2)) X hK hT hA h_1 (fun sz => gX12_within_00c7897 l D cy z_2 (0 : Int64) z_3 (j_rng _) ⟨by decide +kernel, by decide +kernel⟩ ⟨by omega, by omega⟩ sz) wm_6_50 wm_6_52 wm_1_12 hd_X12_within wm_6_51 ⟨Nat.le_of_ble_eq_true rfl, Nat.le_of_ble_eq_true rfl⟩ hl.1 rfl (Nat.le_of_ble_eq_true rfl) dX12_house_13 ⟨Nat.le_of_ble_eq_true rfl, Nat.le_of_ble_eq_true rfl⟩ [] [0, 1, 2, 3] rfl rfl (by decide) rfl rfl (fun r_4 u_4 H locs w_4 h_4 => ?_)
  clear h_1
  obtain ⟨wr_4, y4_0, _⟩ := w_4
  have lq_4_1 : (0 : Int64).toInt = 0 := (by decide)
  replace h_4 : qW D _ _ (wk_04d6d8a2c cy h0 0 h1 w0 h2 h3 p2 p3 p4 p5 p6 p7 p8 p9 p10 p11 p12 w1 w2 w3 w4 w5 p13 p14 w6 w7 w8 p15 p16 w9 w10 w11 w12 w13 p17 w14 w15 w16 h1 f0 h2 f1 h3 f2) _ _ := h_4
  refine lv_if_ne (tgt := 22) hx hb dX12_house_16 (by decide) (fun c_5 => ?_) (fun c_5 => ?_)
  · replace c_5 := i_ne (x := r_4) (y := 0) rfl (show (0 : Int32).toInt = 0 by decide) c_5
    replace y4_0 := a10_1 y4_0 c_5
    refine lv_aload_n hx hb dX12_house_22 rfl (lv_at hl 0 rfl) ?_
    refine lv_iload_n hx hb dX12_house_23 rfl (lv_at hl 1 rfl) ?_
    refine q_put (v := .int p0) X hK h_4 0 rfl rfl wf_12 tyX12 tyX12_ok nmX12 8 (by decide) wm_5_178 rfl rfl rfl (Nat.le_of_ble_eq_true rfl) dX12_house_24 (fun H locs h_6 => ?_)
    clear h_4
    replace h_6 : qW D _ _ (wk_04d6d8a2c cy h0 0 h1 w0 h2 h3 p2 p3 p4 p0 p6 p7 p8 p9 p10 p11 p12 w1 w2 w3 w4 w5 p13 p14 w6 w7 w8 p15 p16 w9 w10 w11 w12 w13 p17 w14 w15 w16 h1 f0 h2 f1 h3 f2) _ _ := h_6
    refine lv_aload_n hx hb dX12_house_27 rfl (lv_at hl 0 rfl) ?_
    refine lv_iconst (v := 0) hx hb dX12_house_28 (by decide) ?_
    refine q_put (v := .int 0) X hK h_6 0 rfl rfl wf_12 tyX12 tyX12_ok nmX12 5 (by decide) wm_5_175 rfl rfl rfl (Nat.le_of_ble_eq_true rfl) dX12_house_29 (fun H locs h_7 => ?_)
    clear h_6
    replace h_7 : qW D _ _ (wk_04d6d8a2c cy h0 0 h1 w0 h2 h3 0 p3 p4 p0 p6 p7 p8 p9 p10 p11 p12 w1 w2 w3 w4 w5 p13 p14 w6 w7 w8 p15 p16 w9 w10 w11 w12 w13 p17 w14 w15 w16 h1 f0 h2 f1 h3 f2) _ _ := h_7
    refine lv_aload_n hx hb dX12_house_32 rfl (lv_at hl 0 rfl) ?_
    refine lv_iconst (v := 0) hx hb dX12_house_33 (by decide) ?_
    refine q_put (v := .int 0) X hK h_7 0 rfl rfl wf_12 tyX12 tyX12_ok nmX12 7 (by decide) wm_5_177 rfl rfl rfl (Nat.le_of_ble_eq_true rfl) dX12_house_34 (fun H locs h_8 => ?_)
    clear h_7
    replace h_8 : qW D _ _ (wk_04d6d8a2c cy h0 0 h1 w0 h2 h3 0 p3 0 p0 p6 p7 p8 p9 p10 p11 p12 w1 w2 w3 w4 w5 p13 p14 w6 w7 w8 p15 p16 w9 w10 w11 w12 w13 p17 w14 w15 w16 h1 f0 h2 f1 h3 f2) _ _ := h_8
    refine lv_aload_n hx hb dX12_house_37 rfl (lv_at hl 0 rfl) ?_
    refine lv_iconst (v := 0) hx hb dX12_house_38 (by decide) ?_
    refine q_put (v := .int 0) X hK h_8 0 rfl rfl wf_12 tyX12 tyX12_ok nmX12 11 (by decide) wm_5_181 rfl rfl rfl (Nat.le_of_ble_eq_true rfl) dX12_house_39 (fun H locs h_9 => ?_)
    clear h_8
    replace h_9 : qW D _ _ (wk_04d6d8a2c cy h0 0 h1 w0 h2 h3 0 p3 0 p0 p6 p7 0 p9 p10 p11 p12 w1 w2 w3 w4 w5 p13 p14 w6 w7 w8 p15 p16 w9 w10 w11 w12 w13 p17 w14 w15 w16 h1 f0 h2 f1 h3 f2) _ _ := h_9
    refine lv_aload_n hx hb dX12_house_42 rfl (lv_at hl 0 rfl) ?_
    refine q_get X hK h_9 0 rfl rfl wf_12 4 (by decide) rfl wm_5_174 dX12_house_43 ?_
    refine q_callSv (rest := []) (wr := [(h0, .inr (12, [.int 0, .ref h1, w0, .ref h2, .ref h3, .int 0, .int p3, .int 0, .int p0, .int p6, .int p7, .int 0, .int p9, .int p10, .int p11, .int p12, w1, w2, w3, w4, w5, .int p13, .int p14, w6, w7, w8, .int p15, .int p16, w9, w10, w11, w12, w13, .int p17, w14, w15, w16])), (h1, .inl (cy 1, 3918, .inl f0)), (h2, .inl (cy 1, 900, .inl f1))]) X hK hT hA h_9 (fun sz => gX12_plain_11a4de8 l D cy h3 f2 p19 p20 p21 (i_rng _) hp20 hp21 htf2_1 htf2_2 htf2_405 sz) wm_5_167 wm_5_169 wm_1_12 hd_X12_plain wm_5_168 ⟨Nat.le_of_ble_eq_true rfl, Nat.le_of_ble_eq_true rfl⟩ hl.1 rfl (Nat.le_of_ble_eq_true rfl) dX12_house_46 ⟨Nat.le_of_ble_eq_true rfl, Nat.le_of_ble_eq_true rfl⟩ [3] [0, 1, 2] rfl rfl (by decide) rfl rfl (fun u_10 H locs w_10 h_10 => ?_)
    clear h_9
    obtain ⟨w10_0, w10_1, w10_2, w10_3, w10_4, w10_5, y10_0, _⟩ := w_10
    replace h_10 : qW D _ _ (wk_04d6d8a2c cy h0 0 h1 w0 h2 h3 0 p3 0 p0 p6 p7 0 p9 p10 p11 p12 w1 w2 w3 w4 w5 p13 p14 w6 w7 w8 p15 p16 w9 w10 w11 w12 w13 p17 w14 w15 w16 h1 f0 h2 f1 h3 (u_10.2.1 0)) _ _ := h_10
    have hf_11 : HF (0 : Int32).toInt (u_10.2.1 0) (((u_10.2.1 3 0) : Int32).toInt).toNat := hf_0 y10_0
    refine lv_aload_n hx hb dX12_house_49 rfl (lv_at hl 0 rfl) ?_
    refine q_callVv (rest := []) (wr := (wk_7c5ca55a5 cy h1 f0 h3 (u_10.2.1 0))) X hK hT hA h_10 (fun sz => gX12_next_c515fc5 l D cy h0 h2 (0 : Int32) (.ref h1) w0 (.ref h3) (0 : Int32) p3 (0 : Int32) p0 p6 p7 (0 : Int32) p9 p10 p11 p12 w1 w2 w3 w4 w5 p13 p14 w6 w7 w8 p15 p16 w9 w10 w11 w12 w13 p17 w14 w15 w16 f1 ⟨by decide +kernel, by decide +kernel⟩ ⟨by decide +kernel, by decide +kernel⟩ hp3 ⟨by decide +kernel, by decide +kernel⟩ ⟨by omega, by omega⟩ (i_rng _) hp7 (i_rng _) (i_rng _) (i_rng _) (i_rng _) (i_rng _) (i_rng _) (i_rng _) (i_rng _) (i_rng _) (i_rng _) (by have q0 : (0 : Int32).toInt = 0 := (by decide); omega) sz) wm_6_53 wm_6_56 wm_1_12 hd_X12_next wm_6_55 wp_4_3 (ci := 12) (q0 := 0) rfl rfl ⟨Nat.le_of_ble_eq_true rfl, Nat.le_of_ble_eq_true rfl⟩ hl.1 rfl (Nat.le_of_ble_eq_true rfl) dX12_house_50 ⟨Nat.le_of_ble_eq_true rfl, Nat.le_of_ble_eq_true rfl⟩ [0, 2] [1, 3] rfl rfl (by decide) rfl rfl (fun u_12 H locs w_12 h_12 => ?_)
    clear h_10
    obtain ⟨w12_0, w12_1, w12_2, w12_3, y12_0, y12_1, y12_2, _⟩ := w_12
    replace h_12 : qW D _ _ (wk_db69142ea cy h1 f0 h3 (u_10.2.1 0) h0 0 h1 w0 h2 h3 0 (u_12.2.1 0 0) (u_12.2.1 1 0) p0 (u_12.2.1 2 0) (u_12.2.1 3 0) 0 p9 p10 p11 p12 w1 w2 w3 w4 w5 p13 p14 w6 w7 w8 p15 p16 w9 w10 w11 w12 w13 p17 w14 w15 w16 h2 f1) _ _ := h_12
    refine lv_aload_n hx hb dX12_house_53 rfl (lv_at hl 0 rfl) ?_
    refine lv_iconst (v := 0) hx hb dX12_house_54 (by decide) ?_
    refine q_callVi (rest := []) (wr := (wk_7c5ca55a5 cy h1 f0 h3 (u_10.2.1 0))) X hK hT hA h_12 (fun sz => gX12_eats_cc4ff34 l D cy h0 h2 (0 : Int32) (.ref h1) w0 (.ref h3) (0 : Int32) (u_12.2.1 0 0) (u_12.2.1 1 0) p0 (u_12.2.1 2 0) (u_12.2.1 3 0) (0 : Int32) p9 p10 p11 p12 w1 w2 w3 w4 w5 p13 p14 w6 w7 w8 p15 p16 w9 w10 w11 w12 w13 p17 w14 w15 w16 f1 ⟨by decide +kernel, by decide +kernel⟩ ⟨by decide +kernel, by decide +kernel⟩ w12_0 w12_1 ⟨by omega, by omega⟩ (i_rng _) w12_3 (i_rng _) (i_rng _) (i_rng _) (i_rng _) (i_rng _) (i_rng _) (i_rng _) (i_rng _) (i_rng _) (i_rng _) (y12_0) (y12_1) sz) wm_6_75 wm_6_78 wm_1_12 hd_X12_eats wm_6_77 wp_4_6 (ci := 12) (q0 := 0) rfl rfl ⟨Nat.le_of_ble_eq_true rfl, Nat.le_of_ble_eq_true rfl⟩ hl.1 rfl (Nat.le_of_ble_eq_true rfl) dX12_house_55 ⟨Nat.le_of_ble_eq_true rfl, Nat.le_of_ble_eq_true rfl⟩ [2, 3] [0, 1] rfl rfl (by decide) rfl rfl (fun r_13 u_13 H locs w_13 h_13 => ?_)
    clear h_12
    obtain ⟨wr_13, w13_0, w13_1, w13_2, w13_3, y13_0, y13_1, y13_2, _⟩ := w_13
    have lq_13_1 : (0 : Int32).toInt = 0 := (by decide)
    replace h_13 : qW D _ _ (wk_db69142ea cy h1 f0 h3 (u_10.2.1 0) h0 0 h1 w0 h2 h3 0 (u_13.2.1 0 0) (u_13.2.1 1 0) p0 (u_13.2.1 2 0) (u_13.2.1 3 0) 0 p9 p10 p11 p12 w1 w2 w3 w4 w5 p13 p14 w6 w7 w8 p15 p16 w9 w10 w11 w12 w13 p17 w14 w15 w16 h2 f1) _ _ := h_13
    refine q_jn (pc2 := 66) (fun H locs ls st => ∃ v66_14_0 : Int32, ∃ v66_14_1 : Int32, ((-2147483648) ≤ (v66_14_0).toInt ∧ (v66_14_0).toInt ≤ 2147483647) ∧ ((-2147483648) ≤ (v66_14_1).toInt ∧ (v66_14_1).toInt ≤ 2147483647) ∧ (0 ≤ ((u_13.2.1 0 0) : Int32).toInt ∧ ((u_13.2.1 0 0) : Int32).toInt ≤ ((u_13.2.1 1 0) : Int32).toInt ∧ ((u_13.2.1 1 0) : Int32).toInt ≤ (p0 : Int32).toInt) ∧ (((u_13.2.1 2 0) : Int32).toInt = 26 ∨ ((u_13.2.1 0 0) : Int32).toInt < ((u_13.2.1 1 0) : Int32).toInt) ∧ ((v66_14_0 : Int32).toInt ≠ 0 ∨ ((u_10.2.1 3 0) : Int32).toInt ≤ ((u_13.2.1 0 0) : Int32).toInt) ∧ (HF (v66_14_0 : Int32).toInt (u_10.2.1 0) (((u_10.2.1 3 0) : Int32).toInt).toNat) ∧ (0 ≤ (p0 : Int32).toInt ∧ (p0 : Int32).toInt ≤ 900) ∧ st = [] ∧ qW D (va_A (wk_04d6d8a2c cy h0 p1 h1 w0 h2 h3 p2 p3 p4 p5 p6 p7 p8 p9 p10 p11 p12 w1 w2 w3 w4 w5 p13 p14 w6 w7 w8 p15 p16 w9 w10 w11 w12 w13 p17 w14 w15 w16 h1 f0 h2 f1 h3 f2) sz) s.heap (wk_db69142ea cy h1 f0 h3 (u_10.2.1 0) h0 0 h1 w0 h2 h3 0 (u_13.2.1 0 0) (u_13.2.1 1 0) p0 (u_13.2.1 2 0) (u_13.2.1 3 0) v66_14_0 v66_14_1 p10 p11 p12 w1 w2 w3 w4 w5 p13 p14 w6 w7 w8 p15 p16 w9 w10 w11 w12 w13 p17 w14 w15 w16 h2 f1) H locs ∧ lv_has ls 3 [(0, .ref h0), (1, .int p0)]) (fun H locs ls st hP => ?_) (fun J_66 => ?_)
    · obtain ⟨v66_14_0, v66_14_1, hv66_14_0, hv66_14_1, x15_0, x16_1, x17_2, x18_3, x19_4, rfl, h, hl⟩ := hP
      refine lv_aload_n hx hb dX12_house_66 rfl (lv_at hl 0 rfl) ?_
      refine lv_iconst (v := 1) hx hb dX12_house_67 (by decide) ?_
      refine q_callVi (rest := []) (wr := (wk_7c5ca55a5 cy h1 f0 h3 (u_10.2.1 0))) X hK hT hA h (fun sz => gX12_eats_b39a967 l D cy h0 h2 (0 : Int32) (.ref h1) w0 (.ref h3) (0 : Int32) (u_13.2.1 0 0) (u_13.2.1 1 0) p0 (u_13.2.1 2 0) (u_13.2.1 3 0) v66_14_0 v66_14_1 p10 p11 p12 w1 w2 w3 w4 w5 p13 p14 w6 w7 w8 p15 p16 w9 w10 w11 w12 w13 p17 w14 w15 w16 f1 ⟨by decide +kernel, by decide +kernel⟩ ⟨by decide +kernel, by decide +kernel⟩ w13_0 w13_1 ⟨by omega, by omega⟩ (i_rng _) w13_3 (i_rng _) (i_rng _) (i_rng _) (i_rng _) (i_rng _) (i_rng _) (i_rng _) (i_rng _) (i_rng _) (i_rng _) (x15_0) (x16_1) sz) wm_6_75 wm_6_78 wm_1_12 hd_X12_eats wm_6_77 wp_4_6 (ci := 12) (q0 := 0) rfl rfl ⟨Nat.le_of_ble_eq_true rfl, Nat.le_of_ble_eq_true rfl⟩ hl.1 rfl (Nat.le_of_ble_eq_true rfl) dX12_house_68 ⟨Nat.le_of_ble_eq_true rfl, Nat.le_of_ble_eq_true rfl⟩ [2, 3] [0, 1] rfl rfl (by decide) rfl rfl (fun r_20 u_20 H locs w_20 h_20 => ?_)
      clear h
      obtain ⟨wr_20, w20_0, w20_1, w20_2, w20_3, y20_0, y20_1, y20_2, _⟩ := w_20
      have lq_20_1 : (1 : Int32).toInt = 1 := (by decide)
      replace h_20 : qW D _ _ (wk_db69142ea cy h1 f0 h3 (u_10.2.1 0) h0 0 h1 w0 h2 h3 0 (u_20.2.1 0 0) (u_20.2.1 1 0) p0 (u_20.2.1 2 0) (u_20.2.1 3 0) v66_14_0 v66_14_1 p10 p11 p12 w1 w2 w3 w4 w5 p13 p14 w6 w7 w8 p15 p16 w9 w10 w11 w12 w13 p17 w14 w15 w16 h2 f1) _ _ := h_20
      refine q_jn (pc2 := 79) (fun H locs ls st => ∃ v79_21_0 : Int32, ∃ v79_21_1 : Int32, ((-2147483648) ≤ (v79_21_0).toInt ∧ (v79_21_0).toInt ≤ 2147483647) ∧ ((-2147483648) ≤ (v79_21_1).toInt ∧ (v79_21_1).toInt ≤ 2147483647) ∧ (0 ≤ ((u_20.2.1 0 0) : Int32).toInt ∧ ((u_20.2.1 0 0) : Int32).toInt ≤ ((u_20.2.1 1 0) : Int32).toInt ∧ ((u_20.2.1 1 0) : Int32).toInt ≤ (p0 : Int32).toInt) ∧ (((u_20.2.1 2 0) : Int32).toInt = 26 ∨ ((u_20.2.1 0 0) : Int32).toInt < ((u_20.2.1 1 0) : Int32).toInt) ∧ ((v79_21_0 : Int32).toInt ≠ 0 ∨ ((u_10.2.1 3 0) : Int32).toInt ≤ ((u_20.2.1 0 0) : Int32).toInt) ∧ (HF (v79_21_0 : Int32).toInt (u_10.2.1 0) (((u_10.2.1 3 0) : Int32).toInt).toNat) ∧ (0 ≤ (p0 : Int32).toInt ∧ (p0 : Int32).toInt ≤ 900) ∧ st = [] ∧ qW D (va_A (wk_04d6d8a2c cy h0 p1 h1 w0 h2 h3 p2 p3 p4 p5 p6 p7 p8 p9 p10 p11 p12 w1 w2 w3 w4 w5 p13 p14 w6 w7 w8 p15 p16 w9 w10 w11 w12 w13 p17 w14 w15 w16 h1 f0 h2 f1 h3 f2) sz) s.heap (wk_db69142ea cy h1 f0 h3 (u_10.2.1 0) h0 0 h1 w0 h2 h3 0 (u_20.2.1 0 0) (u_20.2.1 1 0) p0 (u_20.2.1 2 0) (u_20.2.1 3 0) v79_21_0 v79_21_1 p10 p11 p12 w1 w2 w3 w4 w5 p13 p14 w6 w7 w8 p15 p16 w9 w10 w11 w12 w13 p17 w14 w15 w16 h2 f1) H locs ∧ lv_has ls 3 [(0, .ref h0), (1, .int p0)]) (fun H locs ls st hP => ?_) (fun J_79 => ?_)
      · obtain ⟨v79_21_0, v79_21_1, hv79_21_0, hv79_21_1, x22_0, x23_1, x24_2, x25_3, x26_4, rfl, h, hl⟩ := hP
        refine lv_aload_n hx hb dX12_house_79 rfl (lv_at hl 0 rfl) ?_
        refine q_get X hK h 2 rfl rfl wf_12 4 (by decide) rfl wm_5_174 dX12_house_80 ?_
        refine lv_iconst (v := 1) hx hb dX12_house_83 (by decide) ?_
        refine lv_aload_n hx hb dX12_house_84 rfl (lv_at hl 0 rfl) ?_
        refine lv_iconst (v := 1) hx hb dX12_house_85 (by decide) ?_
        refine lv_iconst (v := 3) hx hb dX12_house_86 (by decide) ?_
        refine q_callVi (rest := [.int 1, .ref h3]) (wr := (wk_7c5ca55a5 cy h1 f0 h3 (u_10.2.1 0))) X hK hT hA h (fun sz => gX12_takes_bfb9e22 l D cy h0 h2 (1 : Int32) (3 : Int32) (0 : Int32) (.ref h1) w0 (.ref h3) (0 : Int32) (u_20.2.1 0 0) (u_20.2.1 1 0) p0 (u_20.2.1 2 0) (u_20.2.1 3 0) v79_21_0 v79_21_1 p10 p11 p12 w1 w2 w3 w4 w5 p13 p14 w6 w7 w8 p15 p16 w9 w10 w11 w12 w13 p17 w14 w15 w16 f1 ⟨by decide +kernel, by decide +kernel⟩ ⟨by decide +kernel, by decide +kernel⟩ ⟨by decide +kernel, by decide +kernel⟩ ⟨by decide +kernel, by decide +kernel⟩ w20_0 w20_1 ⟨by omega, by omega⟩ (i_rng _) w20_3 (i_rng _) (i_rng _) (i_rng _) (i_rng _) (i_rng _) (i_rng _) (i_rng _) (i_rng _) (i_rng _) (i_rng _) (x22_0) (x23_1) sz) wm_6_87 wm_6_90 wm_1_12 hd_X12_takes wm_6_89 wp_4_9 (ci := 12) (q0 := 0) rfl rfl ⟨Nat.le_of_ble_eq_true rfl, Nat.le_of_ble_eq_true rfl⟩ hl.1 rfl (Nat.le_of_ble_eq_true rfl) dX12_house_87 ⟨Nat.le_of_ble_eq_true rfl, Nat.le_of_ble_eq_true rfl⟩ [2, 3] [0, 1] rfl rfl (by decide) rfl rfl (fun r_27 u_27 H locs w_27 h_27 => ?_)
        clear h
        obtain ⟨wr_27, w27_0, w27_1, w27_2, w27_3, w27_4, w27_5, y27_0, y27_1, y27_2, y27_3, y27_4, _⟩ := w_27
        have lq_27_1 : (1 : Int32).toInt = 1 := (by decide)
        have lq_27_2 : (3 : Int32).toInt = 3 := (by decide)
        replace h_27 : qW D _ _ (wk_db69142ea cy h1 f0 h3 (u_10.2.1 0) h0 0 h1 w0 h2 h3 0 (u_27.2.1 2 0) (u_27.2.1 3 0) p0 (u_27.2.1 4 0) (u_27.2.1 5 0) (u_27.2.1 0 0) (u_27.2.1 1 0) p10 p11 p12 w1 w2 w3 w4 w5 p13 p14 w6 w7 w8 p15 p16 w9 w10 w11 w12 w13 p17 w14 w15 w16 h2 f1) _ _ := h_27
        refine q_iast X hK h_27 1 rfl (q_in (by decide +kernel)) dX12_house_90 (fun H locs h_29 => ?_)
        clear h_27
        replace h_29 : qW D _ _ (wk_db69142ea cy h1 f0 h3 (upd (u_10.2.1 0) (Int32.toNatClampNeg 1) r_27) h0 0 h1 w0 h2 h3 0 (u_27.2.1 2 0) (u_27.2.1 3 0) p0 (u_27.2.1 4 0) (u_27.2.1 5 0) (u_27.2.1 0 0) (u_27.2.1 1 0) p10 p11 p12 w1 w2 w3 w4 w5 p13 p14 w6 w7 w8 p15 p16 w9 w10 w11 w12 w13 p17 w14 w15 w16 h2 f1) _ _ := h_29
        obtain ⟨F_28, eF_28⟩ : ∃ z, (upd (u_10.2.1 0) (Int32.toNatClampNeg 1) r_27) = z := ⟨_, rfl⟩
        have trF_28_1 := (tr_eq eF_28 (k := 1) (x := 1) (by decide))
        have trF_28_2 := (tr_ne eF_28 w10_4 (show (1 : Int32).toInt = 1 by decide) (by omega))
        have trF_28_405 := (tr_ne eF_28 w10_5 (show (1 : Int32).toInt = 1 by decide) (by omega))
        rw [eF_28] at h_29
        have hf_30 : HF ((u_27.2.1 0 0) : Int32).toInt F_28 (((u_10.2.1 3 0) : Int32).toInt).toNat := hf_upd (hf_w (w2 := ((u_27.2.1 0 0) : Int32).toInt) x25_3 (by omega)) eF_28 (by decide)
        refine lv_aload_n hx hb dX12_house_91 rfl (lv_at hl 0 rfl) ?_
        refine q_callVv (rest := []) (wr := [(h1, .inl (cy 1, 3918, .inl f0))]) X hK hT hA h_29 (fun sz => gX12_ends_b46ba5b l D cy h0 h2 h3 (0 : Int32) (.ref h1) w0 (0 : Int32) (u_27.2.1 2 0) (u_27.2.1 3 0) p0 (u_27.2.1 4 0) (u_27.2.1 5 0) (u_27.2.1 0 0) (u_27.2.1 1 0) p10 p11 p12 w1 w2 w3 w4 w5 p13 p14 w6 w7 w8 p15 p16 w9 w10 w11 w12 w13 p17 w14 w15 w16 f1 F_28 r_27 (u_10.2.1 2 0) (u_10.2.1 3 0) ⟨by decide +kernel, by decide +kernel⟩ ⟨by decide +kernel, by decide +kernel⟩ w27_2 w27_3 ⟨by omega, by omega⟩ (i_rng _) w27_5 (i_rng _) (i_rng _) (i_rng _) (i_rng _) (i_rng _) (i_rng _) (i_rng _) (i_rng _) (i_rng _) (i_rng _) (i_rng _) (bw w10_1 (by decide) (by decide)) (bw w10_2 (by decide) (by decide)) trF_28_1 trF_28_2 trF_28_405 (y27_0) (y27_1) (by (first | (clear y12_1 x16_1 y13_2 x17_2 x23_1 y20_2 x24_2 y27_1 y27_3 y27_4; omega) | omega)) (hf_w hf_30 (by (first | assumption | (clear y12_1 x16_1 y13_2 x17_2 x23_1 y20_2 x24_2 y27_1 y27_3 y27_4; omega) | omega))) sz) wm_6_91 wm_6_94 wm_1_12 hd_X12_ends wm_6_93 wp_4_10 (ci := 12) (q0 := 0) rfl rfl ⟨Nat.le_of_ble_eq_true rfl, Nat.le_of_ble_eq_true rfl⟩ hl.1 rfl (Nat.le_of_ble_eq_true rfl) dX12_house_92 ⟨Nat.le_of_ble_eq_true rfl, Nat.le_of_ble_eq_true rfl⟩ [2, 3, 1] [0] rfl rfl (by decide) rfl rfl (fun u_31 H locs w_31 h_31 => ?_)
        clear h_29
        obtain ⟨w31_0, w31_1, w31_2, w31_3, w31_4, w31_5, w31_6, w31_7, w31_8, y31_0, y31_1, y31_2, y31_3, y31_4, y31_5, y31_6, _⟩ := w_31
        replace h_31 : qW D _ _ (wk_dab8c81bb cy h1 f0 h0 0 h1 w0 h2 h3 0 (u_31.2.1 1 0) (u_31.2.1 2 0) p0 (u_31.2.1 3 0) (u_31.2.1 4 0) (u_31.2.1 5 0) (u_31.2.1 6 0) p10 p11 p12 w1 w2 w3 w4 w5 p13 p14 w6 w7 w8 p15 p16 w9 w10 w11 w12 w13 p17 w14 w15 w16 h2 f1 h3 (u_31.2.1 0)) _ _ := h_31
        refine q_wl (fun (q : Int32 × Int32 × Int32 × Int32 × Int32 × Int32 × Int32 × Int32 × Int32) H locs ls => match q with | (v95_32_0, v95_32_1, v95_32_2, v95_32_3, v95_32_4, v95_32_5, v95_32_6, v95_32_8, v95_32_9) => ∃ v95_32_7 : Nat → Int32, (0 ≤ (v95_32_0).toInt ∧ (v95_32_0).toInt ≤ 900) ∧ (0 ≤ (v95_32_1).toInt ∧ (v95_32_1).toInt ≤ 900) ∧ ((-2147483648) ≤ (v95_32_2).toInt ∧ (v95_32_2).toInt ≤ 2147483647) ∧ (0 ≤ (v95_32_3).toInt ∧ (v95_32_3).toInt ≤ 999) ∧ ((-2147483648) ≤ (v95_32_4).toInt ∧ (v95_32_4).toInt ≤ 2147483647) ∧ ((-2147483648) ≤ (v95_32_5).toInt ∧ (v95_32_5).toInt ≤ 2147483647) ∧ ((-2147483648) ≤ (v95_32_6).toInt ∧ (v95_32_6).toInt ≤ 2147483647) ∧ (0 ≤ (v95_32_8).toInt ∧ (v95_32_8).toInt ≤ 10) ∧ (0 ≤ (v95_32_9).toInt ∧ (v95_32_9).toInt ≤ 900) ∧ v95_32_7 1 = r_27 ∧ v95_32_7 2 = v95_32_8 ∧ v95_32_7 405 = v95_32_9 ∧ (0 ≤ (v95_32_0 : Int32).toInt ∧ (v95_32_0 : Int32).toInt ≤ (v95_32_1 : Int32).toInt ∧ (v95_32_1 : Int32).toInt ≤ (p0 : Int32).toInt) ∧ ((v95_32_2 : Int32).toInt = 26 ∨ (v95_32_0 : Int32).toInt < (v95_32_1 : Int32).toInt) ∧ ((v95_32_4 : Int32).toInt ≠ 0 ∨ (v95_32_9 : Int32).toInt ≤ (v95_32_0 : Int32).toInt) ∧ (HF (v95_32_4 : Int32).toInt v95_32_7 ((v95_32_9 : Int32).toInt).toNat) ∧ ((v95_32_4 : Int32).toInt ≠ 0 ∨ (0 ≤ (r_27 : Int32).toInt ∧ (r_27 : Int32).toInt ≤ 3)) ∧ (0 ≤ (p0 : Int32).toInt ∧ (p0 : Int32).toInt ≤ 900) ∧ qW D (va_A (wk_04d6d8a2c cy h0 p1 h1 w0 h2 h3 p2 p3 p4 p5 p6 p7 p8 p9 p10 p11 p12 w1 w2 w3 w4 w5 p13 p14 w6 w7 w8 p15 p16 w9 w10 w11 w12 w13 p17 w14 w15 w16 h1 f0 h2 f1 h3 f2) sz) s.heap (wk_dab8c81bb cy h1 f0 h0 0 h1 w0 h2 h3 0 v95_32_0 v95_32_1 p0 v95_32_2 v95_32_3 v95_32_4 v95_32_5 p10 p11 v95_32_6 w1 w2 w3 w4 w5 p13 p14 w6 w7 w8 p15 p16 w9 w10 w11 w12 w13 p17 w14 w15 w16 h2 f1 h3 v95_32_7) H locs ∧ lv_has ls 3 [(0, .ref h0), (1, .int p0)]) (fun (q : Int32 × Int32 × Int32 × Int32 × Int32 × Int32 × Int32 × Int32 × Int32) => match q with | (v95_32_0, v95_32_1, v95_32_2, v95_32_3, v95_32_4, v95_32_5, v95_32_6, v95_32_8, v95_32_9) => hmu (v95_32_0).toInt (v95_32_4).toInt) (fun q_95 ih_95 H locs ls hP => ?_) ((u_31.2.1 1 0), (u_31.2.1 2 0), (u_31.2.1 3 0), (u_31.2.1 4 0), (u_31.2.1 5 0), (u_31.2.1 6 0), p12, (u_10.2.1 2 0), (u_10.2.1 3 0)) ⟨(u_31.2.1 0), w31_0, w31_1, w31_2, w31_3, w31_4, w31_5, hp12, (bw w10_1 (by decide) (by decide)), (bw w10_2 (by decide) (by decide)), w31_6, w31_7, w31_8, (y31_0), (y31_1), (y31_4), (hf_w y31_5 (by (first | assumption | (clear y12_1 x16_1 y13_2 x17_2 x23_1 y20_2 x24_2 y27_1 y27_3 y27_4 y31_1 y31_3 y31_4 y31_6; omega) | omega))), (by (first | (clear y12_1 x16_1 y13_2 x17_2 x23_1 y20_2 x24_2 y27_1 y27_3 y27_4 y31_1 y31_3 y31_4 y31_6; omega) | omega)), (x26_4), h_31, (lv_sub hl [0, 1] rfl)⟩
        obtain ⟨v95_32_0, v95_32_1, v95_32_2, v95_32_3, v95_32_4, v95_32_5, v95_32_6, v95_32_8, v95_32_9⟩ := q_95
        obtain ⟨v95_32_7, hv95_32_0, hv95_32_1, hv95_32_2, hv95_32_3, hv95_32_4, hv95_32_5, hv95_32_6, hv95_32_8, hv95_32_9, trv95_32_7_1, trv95_32_7_2, trv95_32_7_405, x33_0, x34_1, x35_2, x36_3, x37_4, x38_5, h, hl⟩ := hP
        try clear c_5
        try clear lq_13_1
        try clear lq_20_1
        try clear lq_27_1
        try clear lq_27_2
        try clear lq_4_1
        try clear y10_0
        try clear y12_0
        try clear y12_1
        try clear y12_2
        try clear y13_0
        try clear y13_1
        try clear y13_2
        try clear y20_0
        try clear y20_1
        try clear y20_2
        try clear y27_0
        try clear y27_1
        try clear y27_2
        try clear y27_3
        try clear y27_4
        try clear y31_0
        try clear y31_1
        try clear y31_2
        try clear y31_3
        try clear y31_4
        try clear y31_5
        try clear y31_6
        try clear y4_0
        refine lv_aload_n hx hb dX12_house_95 rfl (lv_at hl 0 rfl) ?_
        refine q_get X hK h 1 rfl rfl wf_12 11 (by decide) rfl wm_5_181 dX12_house_96 ?_
        refine q_jn (pc2 := 122) (fun H locs ls st => st = [] ∧ qW D (va_A (wk_04d6d8a2c cy h0 p1 h1 w0 h2 h3 p2 p3 p4 p5 p6 p7 p8 p9 p10 p11 p12 w1 w2 w3 w4 w5 p13 p14 w6 w7 w8 p15 p16 w9 w10 w11 w12 w13 p17 w14 w15 w16 h1 f0 h2 f1 h3 f2) sz) s.heap (wk_dab8c81bb cy h1 f0 h0 0 h1 w0 h2 h3 0 v95_32_0 v95_32_1 p0 v95_32_2 v95_32_3 v95_32_4 v95_32_5 p10 p11 v95_32_6 w1 w2 w3 w4 w5 p13 p14 w6 w7 w8 p15 p16 w9 w10 w11 w12 w13 p17 w14 w15 w16 h2 f1 h3 v95_32_7) H locs ∧ lv_has ls 3 [(0, .ref h0), (1, .int p0)]) (fun H locs ls st hP => ?_) (fun J_122 => ?_)
        · obtain ⟨rfl, h, hl⟩ := hP
          refine lv_aload_n hx hb dX12_house_122 rfl (lv_at hl 0 rfl) ?_
          refine lv_aload_n hx hb dX12_house_123 rfl (lv_at hl 0 rfl) ?_
          refine q_get X hK h 1 rfl rfl wf_12 11 (by decide) rfl wm_5_181 dX12_house_124 ?_
          refine q_put (v := .int v95_32_4) X hK h 1 rfl rfl wf_12 tyX12 tyX12_ok nmX12 13 (by decide) wm_5_183 rfl rfl rfl (Nat.le_of_ble_eq_true rfl) dX12_house_127 (fun H locs h_40 => ?_)
          clear h
          replace h_40 : qW D _ _ (wk_dab8c81bb cy h1 f0 h0 0 h1 w0 h2 h3 0 v95_32_0 v95_32_1 p0 v95_32_2 v95_32_3 v95_32_4 v95_32_5 v95_32_4 p11 v95_32_6 w1 w2 w3 w4 w5 p13 p14 w6 w7 w8 p15 p16 w9 w10 w11 w12 w13 p17 w14 w15 w16 h2 f1 h3 v95_32_7) _ _ := h_40
          refine lv_aload_n hx hb dX12_house_130 rfl (lv_at hl 0 rfl) ?_
          refine lv_aload_n hx hb dX12_house_131 rfl (lv_at hl 0 rfl) ?_
          refine q_get X hK h_40 1 rfl rfl wf_12 11 (by decide) rfl wm_5_181 dX12_house_132 ?_
          refine q_jn (pc2 := 146) (fun H locs ls st => ∃ v146_41_0 : Int32, ((-2147483648) ≤ (v146_41_0).toInt ∧ (v146_41_0).toInt ≤ 2147483647) ∧ st = [.int v146_41_0, .ref h0] ∧ qW D (va_A (wk_04d6d8a2c cy h0 p1 h1 w0 h2 h3 p2 p3 p4 p5 p6 p7 p8 p9 p10 p11 p12 w1 w2 w3 w4 w5 p13 p14 w6 w7 w8 p15 p16 w9 w10 w11 w12 w13 p17 w14 w15 w16 h1 f0 h2 f1 h3 f2) sz) s.heap (wk_dab8c81bb cy h1 f0 h0 0 h1 w0 h2 h3 0 v95_32_0 v95_32_1 p0 v95_32_2 v95_32_3 v95_32_4 v95_32_5 v95_32_4 p11 v95_32_6 w1 w2 w3 w4 w5 p13 p14 w6 w7 w8 p15 p16 w9 w10 w11 w12 w13 p17 w14 w15 w16 h2 f1 h3 v95_32_7) H locs ∧ lv_has ls 3 [(0, .ref h0), (1, .int p0)]) (fun H locs ls st hP => ?_) (fun J_146 => ?_)
          · obtain ⟨v146_41_0, hv146_41_0, rfl, h, hl⟩ := hP
            refine q_put (v := .int v146_41_0) X hK h 1 rfl rfl wf_12 tyX12 tyX12_ok nmX12 14 (by decide) wm_5_184 rfl rfl rfl (Nat.le_of_ble_eq_true rfl) dX12_house_146 (fun H locs h_42 => ?_)
            clear h
            replace h_42 : qW D _ _ (wk_dab8c81bb cy h1 f0 h0 0 h1 w0 h2 h3 0 v95_32_0 v95_32_1 p0 v95_32_2 v95_32_3 v95_32_4 v95_32_5 v95_32_4 v146_41_0 v95_32_6 w1 w2 w3 w4 w5 p13 p14 w6 w7 w8 p15 p16 w9 w10 w11 w12 w13 p17 w14 w15 w16 h2 f1 h3 v95_32_7) _ _ := h_42
            refine lv_aload_n hx hb dX12_house_149 rfl (lv_at hl 0 rfl) ?_
            refine q_get X hK h_42 1 rfl rfl wf_12 11 (by decide) rfl wm_5_181 dX12_house_150 ?_
            refine lv_if_eq (tgt := 164) hx hb dX12_house_153 (by decide) (fun c_43 => ?_) (fun c_43 => ?_)
            · replace c_43 := i_eq (x := v95_32_4) (y := 0) rfl (show (0 : Int32).toInt = 0 by decide) c_43
              refine lv_iconst (v := 0) hx hb dX12_house_164 (by decide) ?_
              refine lv_istore_n (lv' := [(2, .int 0), (0, .ref h0), (1, .int p0)]) hx hb dX12_house_165 rfl hl (by decide) rfl (fun ls_44 hl_44 => ?_)
              clear hl
              refine q_wl (fun (v166_45_0 : Int32) H locs ls => ∃ v166_45_1 : Nat → Int32, (0 ≤ (v166_45_0).toInt ∧ (v166_45_0).toInt ≤ 1306) ∧ (CPY v166_45_1 f0 0 v95_32_7 0 ((v166_45_0 : Int32).toInt).toNat) ∧ (HF (v95_32_4 : Int32).toInt v95_32_7 ((v95_32_9 : Int32).toInt).toNat) ∧ ((v95_32_4 : Int32).toInt = 0) ∧ ((v95_32_4 : Int32).toInt ≠ 0 ∨ (0 ≤ (r_27 : Int32).toInt ∧ (r_27 : Int32).toInt ≤ 3)) ∧ (0 ≤ (p0 : Int32).toInt ∧ (p0 : Int32).toInt ≤ 900) ∧ qW D (va_A (wk_04d6d8a2c cy h0 p1 h1 w0 h2 h3 p2 p3 p4 p5 p6 p7 p8 p9 p10 p11 p12 w1 w2 w3 w4 w5 p13 p14 w6 w7 w8 p15 p16 w9 w10 w11 w12 w13 p17 w14 w15 w16 h1 f0 h2 f1 h3 f2) sz) s.heap (wk_dab8c81bb cy h1 v166_45_1 h0 0 h1 w0 h2 h3 0 v95_32_0 v95_32_1 p0 v95_32_2 v95_32_3 v95_32_4 v95_32_5 v95_32_4 v146_41_0 v95_32_6 w1 w2 w3 w4 w5 p13 p14 w6 w7 w8 p15 p16 w9 w10 w11 w12 w13 p17 w14 w15 w16 h2 f1 h3 v95_32_7) H locs ∧ lv_has ls 3 [(0, .ref h0), (1, .int p0), (2, .int v166_45_0)]) (fun (v166_45_0 : Int32) => (1307 - (v166_45_0).toInt).toNat) (fun q_166 ih_166 H locs ls hP => ?_) 0 ⟨f0, ⟨by decide +kernel, by decide +kernel⟩, (cp_0 (by decide)), (hf_w x36_3 (by (first | assumption | (clear x16_1 x17_2 x23_1 x24_2 x34_1 x35_2 x37_4; omega) | omega))), (by (first | (clear x16_1 x17_2 x23_1 x24_2 x34_1 x35_2 x37_4; omega) | omega)), (x37_4), (x38_5), h_42, (lv_sub hl_44 [1, 2, 0] rfl)⟩
              obtain ⟨v166_45_0, rfl⟩ : ∃ z, z = q_166 := ⟨_, rfl⟩
              obtain ⟨v166_45_1, hv166_45_0, x46_0, x47_1, x48_2, x49_3, x50_4, h, hl⟩ := hP
              try clear c_43
              try clear c_5
              try clear lq_13_1
              try clear lq_20_1
              try clear lq_27_1
              try clear lq_27_2
              try clear lq_4_1
              try clear y10_0
              try clear y12_0
              try clear y12_1
              try clear y12_2
              try clear y13_0
              try clear y13_1
              try clear y13_2
              try clear y20_0
              try clear y20_1
              try clear y20_2
              try clear y27_0
              try clear y27_1
              try clear y27_2
              try clear y27_3
              try clear y27_4
              try clear y31_0
              try clear y31_1
              try clear y31_2
              try clear y31_3
              try clear y31_4
              try clear y31_5
              try clear y31_6
              try clear y4_0
              refine lv_iload_n hx hb dX12_house_166 rfl (lv_at hl 2 rfl) ?_
              refine lv_sipush (v := 1306) hx hb dX12_house_167 (by decide) ?_
              refine lv_icmp_ge (tgt := 191) hx hb dX12_house_170 (by decide) (fun c_51 => ?_) (fun c_51 => ?_)
              · replace c_51 := i_le (x := 1306) (y := v166_45_0) (show (1306 : Int32).toInt = 1306 by decide) rfl c_51
                have cx_52 := al_house x46_0 (by omega) rf0 x47_1 (by omega) trv95_32_7_1 trv95_32_7_2 (by omega) (by omega) (by omega)
                obtain ⟨z_53, ez_53, hz_53⟩ := al_N84 cx_52
                refine lv_aload_n hx hb dX12_house_191 rfl (lv_at hl 0 rfl) ?_
                refine q_get X hK h 1 rfl rfl wf_12 1 (by decide) rfl wm_5_171 dX12_house_192 ?_
                refine lv_iconst (v := 0) hx hb dX12_house_195 (by decide) ?_
                refine q_iald X hK h 0 rfl (q_in (by decide +kernel)) dX12_house_196 ?_
                refine q_any (fun z_54 hz_54 => ?_)
                exact q_iret X hr hlk hK h rfl (fun _ => 0, (vcons v166_45_1 (vcons (fun _ => z_53) (vcons (fun _ => 0) (vcons (fun _ => 0) (vcons (fun _ => v95_32_0) (vcons (fun _ => v95_32_1) (vcons (fun _ => p0) (vcons (fun _ => v95_32_2) (vcons (fun _ => v95_32_3) (vcons (fun _ => v95_32_4) (vcons (fun _ => v95_32_5) (vcons (fun _ => v95_32_4) (vcons (fun _ => v146_41_0) (vcons (fun _ => v95_32_6) (vcons v95_32_7 (vcons (fun _ => r_27) (vcons (fun _ => v95_32_8) (vcons (fun _ => v95_32_9) (fun _ => (fun _ => 0)))))))))))))))))))), fun _ _ => 0) ⟨⟨by omega, by omega⟩, cx_52, (⟨by omega, by omega⟩ : 0 ≤ (z_53 : Int32).toInt ∧ (z_53 : Int32).toInt ≤ 10), (⟨by decide +kernel, by decide +kernel⟩ : 0 ≤ (0 : Int32).toInt ∧ (0 : Int32).toInt ≤ 0), (⟨by decide +kernel, by decide +kernel⟩ : 0 ≤ (0 : Int32).toInt ∧ (0 : Int32).toInt ≤ 900), hv95_32_0, hv95_32_1, (⟨by omega, by omega⟩ : 0 ≤ (p0 : Int32).toInt ∧ (p0 : Int32).toInt ≤ 900), hv95_32_2, hv95_32_3, hv95_32_4, hv95_32_5, hv95_32_4, hv146_41_0, hv95_32_6, (bw wr_27 (by decide) (by decide)), hv95_32_8, hv95_32_9, ez_53, trv95_32_7_1, trv95_32_7_2, trv95_32_7_405, trivial⟩ [1, 0, 2, 3] rfl rfl dX12_house_197 (Nat.le_of_ble_eq_true rfl) (Nat.le_of_ble_eq_true rfl)
              · replace c_51 := i_nle (x := 1306) (y := v166_45_0) (show (1306 : Int32).toInt = 1306 by decide) rfl c_51
                refine lv_aload_n hx hb dX12_house_173 rfl (lv_at hl 0 rfl) ?_
                refine q_get X hK h 1 rfl rfl wf_12 1 (by decide) rfl wm_5_171 dX12_house_174 ?_
                refine lv_iload_n hx hb dX12_house_177 rfl (lv_at hl 2 rfl) ?_
                refine lv_aload_n hx hb dX12_house_178 rfl (lv_at hl 0 rfl) ?_
                refine q_get X hK h 1 rfl rfl wf_12 4 (by decide) rfl wm_5_174 dX12_house_179 ?_
                refine lv_iload_n hx hb dX12_house_182 rfl (lv_at hl 2 rfl) ?_
                refine q_iald X hK h 3 rfl (i_in rfl (by omega) (by omega)) dX12_house_183 ?_
                obtain ⟨z_55, ez_55, hz_55⟩ := e_any (v95_32_7 v166_45_0.toNatClampNeg)
                refine q_c z_55 ez_55 ?_
                refine q_iast X hK h 0 rfl (i_in rfl (by omega) (by omega)) dX12_house_184 (fun H locs h_57 => ?_)
                clear h
                replace h_57 : qW D _ _ (wk_dab8c81bb cy h1 (upd v166_45_1 (Int32.toNatClampNeg v166_45_0) z_55) h0 0 h1 w0 h2 h3 0 v95_32_0 v95_32_1 p0 v95_32_2 v95_32_3 v95_32_4 v95_32_5 v95_32_4 v146_41_0 v95_32_6 w1 w2 w3 w4 w5 p13 p14 w6 w7 w8 p15 p16 w9 w10 w11 w12 w13 p17 w14 w15 w16 h2 f1 h3 v95_32_7) _ _ := h_57
                obtain ⟨F_56, eF_56⟩ : ∃ z, (upd v166_45_1 (Int32.toNatClampNeg v166_45_0) z_55) = z := ⟨_, rfl⟩
                rw [eF_56] at h_57
                have cs_58 := cp_s x46_0 ez_55 eF_56 (by omega) (by omega)
                obtain ⟨z_59, ez_59, hz_59⟩ := e_add (x := v166_45_0) (y := Int32.ofInt 1) rfl (b := 1) (by decide) (by omega) (by omega)
                refine lv_iinc (v := z_59) (lv' := [(2, .int z_59), (0, .ref h0), (1, .int p0)]) hx hb dX12_house_185 hl (k := 2) rfl ez_59 (by decide) rfl (fun ls_59 hl_59 => ?_)
                clear hl
                refine lv_goto (tgt := 166) hx hb dX12_house_188 (by decide) ?_
                exact ih_166 z_59 (by show (1307 - (z_59).toInt).toNat < (1307 - (v166_45_0).toInt).toNat; omega) _ _ _ ⟨F_56, ⟨by omega, by omega⟩, (cp_n cs_58 (by (first | assumption | (clear x16_1 x17_2 x23_1 x24_2 x34_1 x35_2 x49_3; omega) | omega))), (hf_w x47_1 (by (first | assumption | (clear x16_1 x17_2 x23_1 x24_2 x34_1 x35_2 x49_3; omega) | omega))), (x48_2), (x49_3), (x50_4), h_57, (lv_sub hl_59 [1, 2, 0] rfl)⟩
            · replace c_43 := i_ne (x := v95_32_4) (y := 0) rfl (show (0 : Int32).toInt = 0 by decide) c_43
              refine lv_bipush (v := (-30)) hx hb dX12_house_156 (by decide) ?_
              refine lv_aload_n hx hb dX12_house_158 rfl (lv_at hl 0 rfl) ?_
              refine q_get X hK h_42 1 rfl rfl wf_12 11 (by decide) rfl wm_5_181 dX12_house_159 ?_
              refine lv_isub hx hb dX12_house_162 ?_
              refine q_any (fun z_60 hz_60 => ?_)
              exact q_iret X hr hlk hK h_42 rfl (fun _ => 0, (vcons f0 (vcons (fun _ => p18) (vcons (fun _ => 0) (vcons (fun _ => 0) (vcons (fun _ => v95_32_0) (vcons (fun _ => v95_32_1) (vcons (fun _ => p0) (vcons (fun _ => v95_32_2) (vcons (fun _ => v95_32_3) (vcons (fun _ => v95_32_4) (vcons (fun _ => v95_32_5) (vcons (fun _ => v95_32_4) (vcons (fun _ => v146_41_0) (vcons (fun _ => v95_32_6) (vcons v95_32_7 (vcons (fun _ => r_27) (vcons (fun _ => v95_32_8) (vcons (fun _ => v95_32_9) (fun _ => (fun _ => 0)))))))))))))))))))), fun _ _ => 0) ⟨⟨by omega, by omega⟩, rf0, hp18, (⟨by decide +kernel, by decide +kernel⟩ : 0 ≤ (0 : Int32).toInt ∧ (0 : Int32).toInt ≤ 0), (⟨by decide +kernel, by decide +kernel⟩ : 0 ≤ (0 : Int32).toInt ∧ (0 : Int32).toInt ≤ 900), hv95_32_0, hv95_32_1, (⟨by omega, by omega⟩ : 0 ≤ (p0 : Int32).toInt ∧ (p0 : Int32).toInt ≤ 900), hv95_32_2, hv95_32_3, hv95_32_4, hv95_32_5, hv95_32_4, hv146_41_0, hv95_32_6, (bw wr_27 (by decide) (by decide)), hv95_32_8, hv95_32_9, htf0_84, trv95_32_7_1, trv95_32_7_2, trv95_32_7_405, trivial⟩ [1, 0, 2, 3] rfl rfl dX12_house_163 (Nat.le_of_ble_eq_true rfl) (Nat.le_of_ble_eq_true rfl)
          · skip
            refine lv_if_ne (tgt := 142) hx hb dX12_house_135 (by decide) (fun c_61 => ?_) (fun c_61 => ?_)
            · replace c_61 := i_ne (x := v95_32_4) (y := 0) rfl (show (0 : Int32).toInt = 0 by decide) c_61
              refine lv_aload_n hx hb dX12_house_142 rfl (lv_at hl 0 rfl) ?_
              refine q_get X hK h_40 1 rfl rfl wf_12 12 (by decide) rfl wm_5_182 dX12_house_143 ?_
              exact J_146 _ _ _ _ ⟨v95_32_5, hv95_32_5, rfl, h_40, (lv_sub hl [0, 1] rfl)⟩
            · replace c_61 := i_eq (x := v95_32_4) (y := 0) rfl (show (0 : Int32).toInt = 0 by decide) c_61
              refine lv_iconst (v := (-1)) hx hb dX12_house_138 (by decide) ?_
              refine lv_goto (tgt := 146) hx hb dX12_house_139 (by decide) ?_
              exact J_146 _ _ _ _ ⟨(-1), ⟨by decide +kernel, by decide +kernel⟩, rfl, h_40, (lv_sub hl [0, 1] rfl)⟩
        · skip
          refine lv_if_ne (tgt := 122) hx hb dX12_house_99 (by decide) (fun c_62 => ?_) (fun c_62 => ?_)
          · replace c_62 := i_ne (x := v95_32_4) (y := 0) rfl (show (0 : Int32).toInt = 0 by decide) c_62
            exact J_122 _ _ _ _ ⟨rfl, h, (lv_sub hl [0, 1] rfl)⟩
          · replace c_62 := i_eq (x := v95_32_4) (y := 0) rfl (show (0 : Int32).toInt = 0 by decide) c_62
            refine lv_aload_n hx hb dX12_house_102 rfl (lv_at hl 0 rfl) ?_
            refine q_get X hK h 1 rfl rfl wf_12 9 (by decide) rfl wm_5_179 dX12_house_103 ?_
            refine lv_bipush (v := 26) hx hb dX12_house_106 (by decide) ?_
            refine lv_icmp_eq (tgt := 122) hx hb dX12_house_108 (by decide) (fun c_63 => ?_) (fun c_63 => ?_)
            · replace c_63 := i_eq (x := v95_32_2) (y := 26) rfl (show (26 : Int32).toInt = 26 by decide) c_63
              exact J_122 _ _ _ _ ⟨rfl, h, (lv_sub hl [0, 1] rfl)⟩
            · replace c_63 := i_ne (x := v95_32_2) (y := 26) rfl (show (26 : Int32).toInt = 26 by decide) c_63
              refine lv_aload_n hx hb dX12_house_111 rfl (lv_at hl 0 rfl) ?_
              refine q_callVv (rest := []) (wr := [(h1, .inl (cy 1, 3918, .inl f0))]) X hK hT hA h (fun sz => gX12_readLine_6d08fde l D cy h0 h2 h3 (0 : Int32) (.ref h1) w0 (0 : Int32) v95_32_0 v95_32_1 p0 v95_32_2 v95_32_3 v95_32_4 v95_32_5 p10 p11 v95_32_6 w1 w2 w3 w4 w5 p13 p14 w6 w7 w8 p15 p16 w9 w10 w11 w12 w13 p17 w14 w15 w16 f1 v95_32_7 r_27 v95_32_8 v95_32_9 ⟨by decide +kernel, by decide +kernel⟩ ⟨by decide +kernel, by decide +kernel⟩ hv95_32_0 hv95_32_1 ⟨by omega, by omega⟩ (i_rng _) hv95_32_3 (i_rng _) (i_rng _) (i_rng _) (i_rng _) (i_rng _) (i_rng _) (i_rng _) (i_rng _) (i_rng _) (i_rng _) (i_rng _) hv95_32_8 hv95_32_9 trv95_32_7_1 trv95_32_7_2 trv95_32_7_405 (x33_0) (x34_1) (x35_2) (hf_w x36_3 (by (first | assumption | (clear x16_1 x17_2 x23_1 x24_2 x34_1 x35_2 x37_4; omega) | omega))) (x37_4) sz) wm_6_95 wm_6_98 wm_1_12 hd_X12_readLine wm_6_97 wp_4_11 (ci := 12) (q0 := 0) rfl rfl ⟨Nat.le_of_ble_eq_true rfl, Nat.le_of_ble_eq_true rfl⟩ hl.1 rfl (Nat.le_of_ble_eq_true rfl) dX12_house_112 ⟨Nat.le_of_ble_eq_true rfl, Nat.le_of_ble_eq_true rfl⟩ [1, 2, 3] [0] rfl rfl (by decide) rfl rfl (fun u_64 H locs w_64 h_64 => ?_)
              clear h
              obtain ⟨w64_0, w64_1, w64_2, w64_3, w64_4, w64_5, w64_6, w64_7, w64_8, w64_9, w64_10, w64_11, y64_0, y64_1, y64_2, y64_3, y64_4, y64_5, _⟩ := w_64
              replace h_64 : qW D _ _ (wk_dab8c81bb cy h1 f0 h0 0 h1 w0 h2 h3 0 (u_64.2.1 0 0) (u_64.2.1 1 0) p0 (u_64.2.1 2 0) (u_64.2.1 3 0) (u_64.2.1 4 0) (u_64.2.1 5 0) p10 p11 (u_64.2.1 7 0) w1 w2 w3 w4 w5 p13 p14 w6 w7 w8 p15 p16 w9 w10 w11 w12 w13 p17 w14 w15 w16 h2 f1 h3 (u_64.2.1 6)) _ _ := h_64
              refine lv_aload_n hx hb dX12_house_115 rfl (lv_at hl 0 rfl) ?_
              refine q_callVv (rest := []) (wr := [(h1, .inl (cy 1, 3918, .inl f0))]) X hK hT hA h_64 (fun sz => gX12_ends_b46ba5b l D cy h0 h2 h3 (0 : Int32) (.ref h1) w0 (0 : Int32) (u_64.2.1 0 0) (u_64.2.1 1 0) p0 (u_64.2.1 2 0) (u_64.2.1 3 0) (u_64.2.1 4 0) (u_64.2.1 5 0) p10 p11 (u_64.2.1 7 0) w1 w2 w3 w4 w5 p13 p14 w6 w7 w8 p15 p16 w9 w10 w11 w12 w13 p17 w14 w15 w16 f1 (u_64.2.1 6) r_27 (u_64.2.1 9 0) (u_64.2.1 8 0) ⟨by decide +kernel, by decide +kernel⟩ ⟨by decide +kernel, by decide +kernel⟩ w64_0 w64_1 ⟨by omega, by omega⟩ (i_rng _) w64_3 (i_rng _) (i_rng _) (i_rng _) (i_rng _) (i_rng _) (i_rng _) (i_rng _) (i_rng _) (i_rng _) (i_rng _) (i_rng _) w64_8 w64_7 w64_9 w64_10 w64_11 (y64_0) (y64_1) (y64_4) (hf_w y64_5 (by (first | assumption | (clear x16_1 x17_2 x23_1 x24_2 x34_1 x35_2 x37_4 y64_1 y64_3 y64_4; omega) | omega))) sz) wm_6_91 wm_6_94 wm_1_12 hd_X12_ends wm_6_93 wp_4_10 (ci := 12) (q0 := 0) rfl rfl ⟨Nat.le_of_ble_eq_true rfl, Nat.le_of_ble_eq_true rfl⟩ hl.1 rfl (Nat.le_of_ble_eq_true rfl) dX12_house_116 ⟨Nat.le_of_ble_eq_true rfl, Nat.le_of_ble_eq_true rfl⟩ [1, 2, 3] [0] rfl rfl (by decide) rfl rfl (fun u_65 H locs w_65 h_65 => ?_)
              clear h_64
              obtain ⟨w65_0, w65_1, w65_2, w65_3, w65_4, w65_5, w65_6, w65_7, w65_8, y65_0, y65_1, y65_2, y65_3, y65_4, y65_5, y65_6, _⟩ := w_65
              replace h_65 : qW D _ _ (wk_dab8c81bb cy h1 f0 h0 0 h1 w0 h2 h3 0 (u_65.2.1 1 0) (u_65.2.1 2 0) p0 (u_65.2.1 3 0) (u_65.2.1 4 0) (u_65.2.1 5 0) (u_65.2.1 6 0) p10 p11 (u_64.2.1 7 0) w1 w2 w3 w4 w5 p13 p14 w6 w7 w8 p15 p16 w9 w10 w11 w12 w13 p17 w14 w15 w16 h2 f1 h3 (u_65.2.1 0)) _ _ := h_65
              refine lv_goto (tgt := 95) hx hb dX12_house_119 (by decide) ?_
              exact ih_95 ((u_65.2.1 1 0), (u_65.2.1 2 0), (u_65.2.1 3 0), (u_65.2.1 4 0), (u_65.2.1 5 0), (u_65.2.1 6 0), (u_64.2.1 7 0), (u_64.2.1 9 0), (u_64.2.1 8 0)) (by show hmu ((u_65.2.1 1 0)).toInt ((u_65.2.1 5 0)).toInt < hmu (v95_32_0).toInt (v95_32_4).toInt; exact hmu_lt (by (first | assumption | (clear x16_1 x17_2 x23_1 x24_2 x34_1 x35_2 x37_4 y64_1 y64_3 y64_4 y65_1 y65_3 y65_4 y65_6; omega) | omega)) (by (first | assumption | (clear x16_1 x17_2 x23_1 x24_2 x34_1 x35_2 x37_4 y64_1 y64_3 y64_4 y65_1 y65_3 y65_4 y65_6; omega) | omega)) (by (first | assumption | (clear x16_1 x17_2 x23_1 x24_2 x34_1 x35_2 x37_4 y64_1 y64_3 y64_4 y65_1 y65_3 y65_4 y65_6; omega) | omega)) (hm_or y65_6 y64_2)) _ _ _ ⟨(u_65.2.1 0), w65_0, w65_1, w65_2, w65_3, w65_4, w65_5, w64_6, w64_8, w64_7, w65_6, w65_7, w65_8, (y65_0), (y65_1), (y65_4), (hf_w y65_5 (by (first | assumption | (clear x16_1 x17_2 x23_1 x24_2 x34_1 x35_2 x37_4 y64_1 y64_3 y64_4 y65_1 y65_3 y65_4 y65_6; omega) | omega))), (by (first | (clear x16_1 x17_2 x23_1 x24_2 x34_1 x35_2 x37_4 y64_1 y64_3 y64_4 y65_1 y65_3 y65_4 y65_6; omega) | omega)), (x38_5), h_65, (lv_sub hl [0, 1] rfl)⟩
      · skip
        refine lv_if_ne (tgt := 79) hx hb dX12_house_71 (by decide) (fun c_66 => ?_) (fun c_66 => ?_)
        · replace c_66 := i_ne (x := r_20) (y := 0) rfl (show (0 : Int32).toInt = 0 by decide) c_66
          replace y20_2 := a01_1 y20_2 c_66
          exact J_79 _ _ _ _ ⟨v66_14_0, v66_14_1, hv66_14_0, hv66_14_1, (y20_0), (y20_1), (by (first | (clear y12_1 x16_1 y13_2 x17_2 y20_1; omega) | omega)), (hf_w x18_3 (by (first | assumption | (clear y12_1 x16_1 y13_2 x17_2 y20_1; omega) | omega))), (x19_4), rfl, h_20, (lv_sub hl [0, 1] rfl)⟩
        · replace c_66 := i_eq (x := r_20) (y := 0) rfl (show (0 : Int32).toInt = 0 by decide) c_66
          replace y20_2 := a01_0 y20_2 c_66
          obtain ⟨y20_2a, y20_2b, y20_2c, y20_2d⟩ := y20_2
          refine lv_aload_n hx hb dX12_house_74 rfl (lv_at hl 0 rfl) ?_
          refine lv_iconst (v := 2) hx hb dX12_house_75 (by decide) ?_
          refine q_callVv (rest := []) (wr := (wk_eece9000b cy h1 f0 h3 (u_10.2.1 0) h2 f1)) X hK hT hA h_20 (fun sz => gX12_fails_1e02d40 l D cy h0 (0 : Int32) (.ref h1) w0 (.ref h2) (.ref h3) (0 : Int32) (u_20.2.1 0 0) (u_20.2.1 1 0) p0 (u_20.2.1 2 0) (u_20.2.1 3 0) v66_14_0 v66_14_1 p10 p11 p12 w1 w2 w3 w4 w5 p13 p14 w6 w7 w8 p15 p16 w9 w10 w11 w12 w13 p17 w14 w15 w16 ⟨by decide +kernel, by decide +kernel⟩ ⟨by decide +kernel, by decide +kernel⟩ w20_0 w20_1 ⟨by omega, by omega⟩ (i_rng _) w20_3 (i_rng _) (i_rng _) (i_rng _) (i_rng _) (i_rng _) (i_rng _) (i_rng _) (i_rng _) (i_rng _) (i_rng _) sz) wm_6_83 wm_6_86 wm_1_12 hd_X12_fails wm_6_85 wp_4_8 (ci := 12) (q0 := 0) rfl rfl ⟨Nat.le_of_ble_eq_true rfl, Nat.le_of_ble_eq_true rfl⟩ hl.1 rfl (Nat.le_of_ble_eq_true rfl) dX12_house_76 ⟨Nat.le_of_ble_eq_true rfl, Nat.le_of_ble_eq_true rfl⟩ [2] [0, 1, 3] rfl rfl (by decide) rfl rfl (fun u_67 H locs w_67 h_67 => ?_)
          clear h_20
          obtain ⟨w67_0, w67_1, y67_0, _⟩ := w_67
          have lq_67_1 : (2 : Int32).toInt = 2 := (by decide)
          replace h_67 : qW D _ _ (wk_735259578 cy h1 f0 h3 (u_10.2.1 0) h2 f1 h0 0 h1 w0 h2 h3 0 (u_20.2.1 0 0) (u_20.2.1 1 0) p0 (u_20.2.1 2 0) (u_20.2.1 3 0) (u_67.2.1 0 0) (u_67.2.1 1 0) p10 p11 p12 w1 w2 w3 w4 w5 p13 p14 w6 w7 w8 p15 p16 w9 w10 w11 w12 w13 p17 w14 w15 w16) _ _ := h_67
          exact J_79 _ _ _ _ ⟨(u_67.2.1 0 0), (u_67.2.1 1 0), w67_0, w67_1, (y20_0), (y20_1), (by (first | (clear y12_1 x16_1 y13_2 x17_2 y20_1 y20_2d; omega) | omega)), (hf_w x18_3 (by (first | assumption | (clear y12_1 x16_1 y13_2 x17_2 y20_1 y20_2d; omega) | omega))), (x19_4), rfl, (q_re h_67 [0, 1, 3, 2] rfl rfl), (lv_sub hl [0, 1] rfl)⟩
    · skip
      refine lv_if_ne (tgt := 66) hx hb dX12_house_58 (by decide) (fun c_68 => ?_) (fun c_68 => ?_)
      · replace c_68 := i_ne (x := r_13) (y := 0) rfl (show (0 : Int32).toInt = 0 by decide) c_68
        replace y13_2 := a01_1 y13_2 c_68
        exact J_66 _ _ _ _ ⟨0, p9, ⟨by decide +kernel, by decide +kernel⟩, hp9, (y13_0), (y13_1), (by have q0 : (0 : Int32).toInt = 0 := (by decide); (first | (clear y12_1 y13_1; omega) | omega)), (hf_w hf_11 (by have q0 : (0 : Int32).toInt = 0 := (by decide); omega)), (by (first | (clear y12_1 y13_1; omega) | omega)), rfl, h_13, (lv_sub hl [0, 1] rfl)⟩
      · replace c_68 := i_eq (x := r_13) (y := 0) rfl (show (0 : Int32).toInt = 0 by decide) c_68
        replace y13_2 := a01_0 y13_2 c_68
        obtain ⟨y13_2a, y13_2b, y13_2c, y13_2d⟩ := y13_2
        refine lv_aload_n hx hb dX12_house_61 rfl (lv_at hl 0 rfl) ?_
        refine lv_iconst (v := 2) hx hb dX12_house_62 (by decide) ?_
        refine q_callVv (rest := []) (wr := (wk_eece9000b cy h1 f0 h3 (u_10.2.1 0) h2 f1)) X hK hT hA h_13 (fun sz => gX12_fails_1e02d40 l D cy h0 (0 : Int32) (.ref h1) w0 (.ref h2) (.ref h3) (0 : Int32) (u_13.2.1 0 0) (u_13.2.1 1 0) p0 (u_13.2.1 2 0) (u_13.2.1 3 0) (0 : Int32) p9 p10 p11 p12 w1 w2 w3 w4 w5 p13 p14 w6 w7 w8 p15 p16 w9 w10 w11 w12 w13 p17 w14 w15 w16 ⟨by decide +kernel, by decide +kernel⟩ ⟨by decide +kernel, by decide +kernel⟩ w13_0 w13_1 ⟨by omega, by omega⟩ (i_rng _) w13_3 (i_rng _) (i_rng _) (i_rng _) (i_rng _) (i_rng _) (i_rng _) (i_rng _) (i_rng _) (i_rng _) (i_rng _) sz) wm_6_83 wm_6_86 wm_1_12 hd_X12_fails wm_6_85 wp_4_8 (ci := 12) (q0 := 0) rfl rfl ⟨Nat.le_of_ble_eq_true rfl, Nat.le_of_ble_eq_true rfl⟩ hl.1 rfl (Nat.le_of_ble_eq_true rfl) dX12_house_63 ⟨Nat.le_of_ble_eq_true rfl, Nat.le_of_ble_eq_true rfl⟩ [2] [0, 1, 3] rfl rfl (by decide) rfl rfl (fun u_69 H locs w_69 h_69 => ?_)
        clear h_13
        obtain ⟨w69_0, w69_1, y69_0, _⟩ := w_69
        have lq_69_1 : (2 : Int32).toInt = 2 := (by decide)
        replace h_69 : qW D _ _ (wk_735259578 cy h1 f0 h3 (u_10.2.1 0) h2 f1 h0 0 h1 w0 h2 h3 0 (u_13.2.1 0 0) (u_13.2.1 1 0) p0 (u_13.2.1 2 0) (u_13.2.1 3 0) (u_69.2.1 0 0) (u_69.2.1 1 0) p10 p11 p12 w1 w2 w3 w4 w5 p13 p14 w6 w7 w8 p15 p16 w9 w10 w11 w12 w13 p17 w14 w15 w16) _ _ := h_69
        exact J_66 _ _ _ _ ⟨(u_69.2.1 0 0), (u_69.2.1 1 0), w69_0, w69_1, (y13_0), (y13_1), (by (first | (clear y12_1 y13_1 y13_2d; omega) | omega)), (hf_w hf_11 (by (first | assumption | (clear y12_1 y13_1 y13_2d; omega) | omega))), (by (first | (clear y12_1 y13_1 y13_2d; omega) | omega)), rfl, (q_re h_69 [0, 1, 3, 2] rfl rfl), (lv_sub hl [0, 1] rfl)⟩
  · replace c_5 := i_eq (x := r_4) (y := 0) rfl (show (0 : Int32).toInt = 0 by decide) c_5
    replace y4_0 := a10_0 y4_0 c_5
    refine lv_bipush (v := (-3)) hx hb dX12_house_19 (by decide) ?_
    exact q_iret X hr hlk hK h_4 rfl (fun _ => 0, (vcons f0 (vcons (fun _ => p18) (vcons (fun _ => 0) (vcons (fun _ => p2) (vcons (fun _ => p3) (vcons (fun _ => p4) (vcons (fun _ => p5) (vcons (fun _ => p6) (vcons (fun _ => p7) (vcons (fun _ => p8) (vcons (fun _ => p9) (vcons (fun _ => p10) (vcons (fun _ => p11) (vcons (fun _ => p12) (vcons f2 (vcons (fun _ => p19) (vcons (fun _ => p20) (vcons (fun _ => p21) (fun _ => (fun _ => 0)))))))))))))))))))), fun _ _ => 0) ⟨⟨by decide +kernel, by decide +kernel⟩, rf0, hp18, (⟨by decide +kernel, by decide +kernel⟩ : 0 ≤ (0 : Int32).toInt ∧ (0 : Int32).toInt ≤ 0), hp2, hp3, hp4, hp5, hp6, hp7, hp8, hp9, hp10, hp11, hp12, hp19, hp20, hp21, htf0_84, htf2_1, htf2_2, htf2_405, trivial⟩ [0, 1, 2, 3] rfl rfl dX12_house_21 (Nat.le_of_ble_eq_true rfl) (Nat.le_of_ble_eq_true rfl)
set_option maxHeartbeats 4000000 in
set_option maxRecDepth 100000 in
theorem gX12_fault_dfbe23f (l : Launch) (D : va_G) (cy : Nat → ClassId) (h0 : Nat) (p0 : Int32) (p1 : Int32) (w0 : Value) (w1 : Value) (w2 : Value) (w3 : Value) (p2 : Int32) (p3 : Int32) (p4 : Int32) (p5 : Int32) (p6 : Int32) (p7 : Int32) (p8 : Int32) (p9 : Int32) (p10 : Int32) (p11 : Int32) (p12 : Int32) (w4 : Value) (w5 : Value) (w6 : Value) (w7 : Value) (w8 : Value) (p13 : Int32) (p14 : Int32) (w9 : Value) (w10 : Value) (w11 : Value) (p15 : Int32) (p16 : Int32) (w12 : Value) (w13 : Value) (w14 : Value) (w15 : Value) (w16 : Value) (p17 : Int32) (w17 : Value) (w18 : Value) (w19 : Value) (hp0 : (-2147483648) ≤ (p0).toInt ∧ (p0).toInt ≤ 2147483647) (hp1 : (-2147483648) ≤ (p1).toInt ∧ (p1).toInt ≤ 2147483647) (hp2 : 0 ≤ (p2).toInt ∧ (p2).toInt ≤ 900) (hp3 : 0 ≤ (p3).toInt ∧ (p3).toInt ≤ 900) (hp4 : 0 ≤ (p4).toInt ∧ (p4).toInt ≤ 900) (hp5 : 0 ≤ (p5).toInt ∧ (p5).toInt ≤ 900) (hp6 : (-2147483648) ≤ (p6).toInt ∧ (p6).toInt ≤ 2147483647) (hp7 : 0 ≤ (p7).toInt ∧ (p7).toInt ≤ 999) (hp8 : (-2147483648) ≤ (p8).toInt ∧ (p8).toInt ≤ 2147483647) (hp9 : (-2147483648) ≤ (p9).toInt ∧ (p9).toInt ≤ 2147483647) (hp10 : (-2147483648) ≤ (p10).toInt ∧ (p10).toInt ≤ 2147483647) (hp11 : (-2147483648) ≤ (p11).toInt ∧ (p11).toInt ≤ 2147483647) (hp12 : (-2147483648) ≤ (p12).toInt ∧ (p12).toInt ≤ 2147483647) (hp13 : (-2147483648) ≤ (p13).toInt ∧ (p13).toInt ≤ 2147483647) (hp14 : (-2147483648) ≤ (p14).toInt ∧ (p14).toInt ≤ 2147483647) (hp15 : (-2147483648) ≤ (p15).toInt ∧ (p15).toInt ≤ 2147483647) (hp16 : (-2147483648) ≤ (p16).toInt ∧ (p16).toInt ≤ 2147483647) (hp17 : (-2147483648) ≤ (p17).toInt ∧ (p17).toInt ≤ 2147483647) (sz : Nat) : MI l yX12_fault cX12_fault 2 .int { frames := 0, cells := 0, slots := 0, locals := 0 } [.ref h0, .int p0] D cy [(h0, .inr (12, [.int p1, w0, w1, w2, w3, .int p2, .int p3, .int p4, .int p5, .int p6, .int p7, .int p8, .int p9, .int p10, .int p11, .int p12, w4, w5, w6, w7, w8, .int p13, .int p14, w9, w10, w11, .int p15, .int p16, w12, w13, w14, w15, w16, .int p17, w17, w18, w19]))] sz (fun r u => ((-2147483648) ≤ r.toInt ∧ r.toInt ≤ 2147483647) ∧ (0 ≤ (u.2.1 0 0).toInt ∧ (u.2.1 0 0).toInt ≤ 0) ∧ True) (fun u => [(h0, .inr (12, [.int (u.2.1 0 0), w0, w1, w2, w3, .int p2, .int p3, .int p4, .int p5, .int p6, .int p7, .int p8, .int p9, .int p10, .int p11, .int p12, w4, w5, w6, w7, w8, .int p13, .int p14, w9, w10, w11, .int p15, .int p16, w12, w13, w14, w15, w16, .int p17, w17, w18, w19]))]) 0 0 := by
  refine q_ent (own := RX12) (by decide) rfl (Nat.le_of_ble_eq_true rfl) (fun p e s m below meth c ls X hr hlk hnm hK hT h hA hl => ?_)
  obtain ⟨hx, hb, hml, hown, ht⟩ := id X
  replace hl : lv_has ls 2 [(0, .ref h0), (1, .int p0)] := hl
  refine lv_aload_n hx hb dX12_fault_0 rfl (lv_at hl 0 rfl) ?_
  refine lv_iconst (v := 0) hx hb dX12_fault_1 (by decide) ?_
  refine q_put (v := .int 0) X hK h 0 rfl rfl wf_12 tyX12 tyX12_ok nmX12 0 (by decide) wm_5_170 rfl rfl rfl (Nat.le_of_ble_eq_true rfl) dX12_fault_2 (fun H locs h_1 => ?_)
  clear h
  replace h_1 : qW D _ _ [(h0, .inr (12, [.int 0, w0, w1, w2, w3, .int p2, .int p3, .int p4, .int p5, .int p6, .int p7, .int p8, .int p9, .int p10, .int p11, .int p12, w4, w5, w6, w7, w8, .int p13, .int p14, w9, w10, w11, .int p15, .int p16, w12, w13, w14, w15, w16, .int p17, w17, w18, w19]))] _ _ := h_1
  refine lv_iload_n hx hb dX12_fault_5 rfl (lv_at hl 1 rfl) ?_
  refine q_jn (pc2 := 29) (fun H locs ls st => ∃ v29_2_0 : Int32, ((-2147483648) ≤ (v29_2_0).toInt ∧ (v29_2_0).toInt ≤ 2147483647) ∧ st = [.int v29_2_0] ∧ qW D (va_A [(h0, .inr (12, [.int p1, w0, w1, w2, w3, .int p2, .int p3, .int p4, .int p5, .int p6, .int p7, .int p8, .int p9, .int p10, .int p11, .int p12, w4, w5, w6, w7, w8, .int p13, .int p14, w9, w10, w11, .int p15, .int p16, w12, w13, w14, w15, w16, .int p17, w17, w18, w19]))] sz) s.heap [(h0, .inr (12, [.int 0, w0, w1, w2, w3, .int p2, .int p3, .int p4, .int p5, .int p6, .int p7, .int p8, .int p9, .int p10, .int p11, .int p12, w4, w5, w6, w7, w8, .int p13, .int p14, w9, w10, w11, .int p15, .int p16, w12, w13, w14, w15, w16, .int p17, w17, w18, w19]))] H locs ∧ lv_has ls 2 [(0, .ref h0), (1, .int p0)]) (fun H locs ls st hP => ?_) (fun J_29 => ?_)
  · obtain ⟨v29_2_0, hv29_2_0, rfl, h, hl⟩ := hP
    exact q_iret X hr hlk hK h rfl (fun _ => 0, (vcons (fun _ => 0) (fun _ => (fun _ => 0))), fun _ _ => 0) ⟨hv29_2_0, (⟨by decide +kernel, by decide +kernel⟩ : 0 ≤ (0 : Int32).toInt ∧ (0 : Int32).toInt ≤ 0), trivial⟩ [0] rfl rfl dX12_fault_29 (Nat.le_of_ble_eq_true rfl) (Nat.le_of_ble_eq_true rfl)
  · skip
    refine lv_if_ne (tgt := 16) hx hb dX12_fault_6 (by decide) (fun c_3 => ?_) (fun c_3 => ?_)
    · replace c_3 := i_ne (x := p0) (y := 0) rfl (show (0 : Int32).toInt = 0 by decide) c_3
      refine lv_iload_n hx hb dX12_fault_16 rfl (lv_at hl 1 rfl) ?_
      refine lv_iconst (v := 1) hx hb dX12_fault_17 (by decide) ?_
      refine lv_icmp_ne (tgt := 28) hx hb dX12_fault_18 (by decide) (fun c_4 => ?_) (fun c_4 => ?_)
      · replace c_4 := i_ne (x := p0) (y := 1) rfl (show (1 : Int32).toInt = 1 by decide) c_4
        refine lv_iconst (v := (-1)) hx hb dX12_fault_28 (by decide) ?_
        exact J_29 _ _ _ _ ⟨(-1), ⟨by decide +kernel, by decide +kernel⟩, rfl, h_1, (lv_sub hl [0, 1] rfl)⟩
      · replace c_4 := i_eq (x := p0) (y := 1) rfl (show (1 : Int32).toInt = 1 by decide) c_4
        refine lv_aload_n hx hb dX12_fault_21 rfl (lv_at hl 0 rfl) ?_
        refine q_get X hK h_1 0 rfl rfl wf_12 14 (by decide) rfl wm_5_184 dX12_fault_22 ?_
        refine lv_goto (tgt := 29) hx hb dX12_fault_25 (by decide) ?_
        exact J_29 _ _ _ _ ⟨p11, hp11, rfl, h_1, (lv_sub hl [0, 1] rfl)⟩
    · replace c_3 := i_eq (x := p0) (y := 0) rfl (show (0 : Int32).toInt = 0 by decide) c_3
      refine lv_aload_n hx hb dX12_fault_9 rfl (lv_at hl 0 rfl) ?_
      refine q_get X hK h_1 0 rfl rfl wf_12 13 (by decide) rfl wm_5_183 dX12_fault_10 ?_
      refine lv_goto (tgt := 29) hx hb dX12_fault_13 (by decide) ?_
      exact J_29 _ _ _ _ ⟨p10, hp10, rfl, h_1, (lv_sub hl [0, 1] rfl)⟩
set_option maxHeartbeats 4000000 in
set_option maxRecDepth 100000 in
theorem gX12_isPerson_039c8d6 (l : Launch) (D : va_G) (cy : Nat → ClassId) (h0 : Nat) (h1 : Nat) (j0 : Int64) (p0 : Int32) (w0 : Value) (w1 : Value) (w2 : Value) (p1 : Int32) (p2 : Int32) (p3 : Int32) (p4 : Int32) (p5 : Int32) (p6 : Int32) (p7 : Int32) (p8 : Int32) (p9 : Int32) (p10 : Int32) (p11 : Int32) (w3 : Value) (w4 : Value) (w5 : Value) (w6 : Value) (w7 : Value) (p12 : Int32) (p13 : Int32) (w8 : Value) (w9 : Value) (w10 : Value) (p14 : Int32) (p15 : Int32) (w11 : Value) (w12 : Value) (w13 : Value) (w14 : Value) (w15 : Value) (p16 : Int32) (w16 : Value) (w17 : Value) (w18 : Value) (f0 : Nat → Int32) (p17 : Int32) (hj0 : (-2147483648) ≤ (j0).toInt ∧ (j0).toInt ≤ 2147483647) (hp0 : 0 ≤ (p0).toInt ∧ (p0).toInt ≤ 0) (hp1 : 0 ≤ (p1).toInt ∧ (p1).toInt ≤ 900) (hp2 : 0 ≤ (p2).toInt ∧ (p2).toInt ≤ 900) (hp3 : 0 ≤ (p3).toInt ∧ (p3).toInt ≤ 900) (hp4 : 0 ≤ (p4).toInt ∧ (p4).toInt ≤ 900) (hp5 : (-2147483648) ≤ (p5).toInt ∧ (p5).toInt ≤ 2147483647) (hp6 : 0 ≤ (p6).toInt ∧ (p6).toInt ≤ 999) (hp7 : (-2147483648) ≤ (p7).toInt ∧ (p7).toInt ≤ 2147483647) (hp8 : (-2147483648) ≤ (p8).toInt ∧ (p8).toInt ≤ 2147483647) (hp9 : (-2147483648) ≤ (p9).toInt ∧ (p9).toInt ≤ 2147483647) (hp10 : (-2147483648) ≤ (p10).toInt ∧ (p10).toInt ≤ 2147483647) (hp11 : (-2147483648) ≤ (p11).toInt ∧ (p11).toInt ≤ 2147483647) (hp12 : (-2147483648) ≤ (p12).toInt ∧ (p12).toInt ≤ 2147483647) (hp13 : (-2147483648) ≤ (p13).toInt ∧ (p13).toInt ≤ 2147483647) (hp14 : (-2147483648) ≤ (p14).toInt ∧ (p14).toInt ≤ 2147483647) (hp15 : (-2147483648) ≤ (p15).toInt ∧ (p15).toInt ≤ 2147483647) (hp16 : (-2147483648) ≤ (p16).toInt ∧ (p16).toInt ≤ 2147483647) (hp17 : 0 ≤ (p17).toInt ∧ (p17).toInt ≤ 10) (htf0_84 : f0 84 = p17) (rf0 : AL f0) (sz : Nat) : MI l yX12_isPerson cX12_isPerson 3 .boolean { frames := 1, cells := 0, slots := 0, locals := 25 } [.ref h0, .long j0] D cy (wk_e1f596b07 cy h0 p0 h1 w0 w1 w2 p1 p2 p3 p4 p5 p6 p7 p8 p9 p10 p11 w3 w4 w5 w6 w7 p12 p13 w8 w9 w10 p14 p15 w11 w12 w13 w14 w15 p16 w16 w17 w18 h1 f0) sz (fun r u => (0 ≤ r.toInt ∧ r.toInt ≤ 1) ∧ ((r : Int32).toInt = 0 ∨ ((r : Int32).toInt = 1 ∧ 0 ≤ (j0 : Int64).toInt ∧ (j0 : Int64).toInt ≤ 9)) ∧ True) (fun u => (wk_e1f596b07 cy h0 p0 h1 w0 w1 w2 p1 p2 p3 p4 p5 p6 p7 p8 p9 p10 p11 w3 w4 w5 w6 w7 p12 p13 w8 w9 w10 p14 p15 w11 w12 w13 w14 w15 p16 w16 w17 w18 h1 f0)) 0 0 := by
  refine q_ent (own := RX12) (by decide) rfl (Nat.le_of_ble_eq_true rfl) (fun p e s m below meth c ls X hr hlk hnm hK hT h hA hl => ?_)
  obtain ⟨hx, hb, hml, hown, ht⟩ := id X
  replace hl : lv_has ls 3 [(0, .ref h0), (1, .long j0)] := hl
  refine lv_lload_n hx hb dX12_isPerson_0 rfl (lv_at hl 1 rfl) ?_
  refine lv_lconst (v := 0) hx hb dX12_isPerson_1 (by decide) ?_
  refine lv_aload_n hx hb dX12_isPerson_2 rfl (lv_at hl 0 rfl) ?_
  refine q_get X hK h 0 rfl rfl wf_12 1 (by decide) rfl wm_5_171 dX12_isPerson_3 ?_
  refine lv_iconst (v := 2) hx hb dX12_isPerson_6 (by decide) ?_
  refine q_iald X hK h 1 rfl (q_in (by decide +kernel)) dX12_isPerson_7 ?_
  obtain ⟨z_1, ez_1, hz_1⟩ := al_P rf0 (x := 2) (show (2 : Int32).toInt = 2 by decide) (by omega) (by omega)
  refine q_c z_1 ez_1 ?_
  clear ez_1
  refine lv_iconst (v := 1) hx hb dX12_isPerson_8 (by decide) ?_
  refine lv_isub hx hb dX12_isPerson_9 ?_
  obtain ⟨z_2, ez_2, hz_2⟩ := e_sub (x := z_1) (y := 1) rfl (show (1 : Int32).toInt = 1 by decide) (by omega) (by omega)
  refine q_c z_2 ez_2 ?_
  clear ez_2
  refine lv_i2l hx hb dX12_isPerson_10 rfl ?_
  obtain ⟨z_3, ez_3, hz_3⟩ := e_i2l (x := z_2) rfl
  refine q_cl z_3 ez_3 ?_
  clear ez_3
  refine q_callSi (rest := []) (wr := (wk_e1f596b07 cy h0 p0 h1 w0 w1 w2 p1 p2 p3 p4 p5 p6 p7 p8 p9 p10 p11 w3 w4 w5 w6 w7 p12 p13 w8 w9 w10 p14 p15 w11 w12 w13 w14 w15 p16 w16 w17 w18 h1 f0)) X hK hT hA h (fun sz => gX12_within_00c7897 l D cy j0 (0 : Int64) z_3 (j_rng _) ⟨by decide +kernel, by decide +kernel⟩ ⟨by omega, by omega⟩ sz) wm_6_50 wm_6_52 wm_1_12 hd_X12_within wm_6_51 ⟨Nat.le_of_ble_eq_true rfl, Nat.le_of_ble_eq_true rfl⟩ hl.1 rfl (Nat.le_of_ble_eq_true rfl) dX12_isPerson_11 ⟨Nat.le_of_ble_eq_true rfl, Nat.le_of_ble_eq_true rfl⟩ [] [0, 1] rfl rfl (by decide) rfl rfl (fun r_4 u_4 H locs w_4 h_4 => ?_)
  clear h
  obtain ⟨wr_4, y4_0, _⟩ := w_4
  have lq_4_1 : (0 : Int64).toInt = 0 := (by decide)
  replace h_4 : qW D _ _ (wk_e1f596b07 cy h0 p0 h1 w0 w1 w2 p1 p2 p3 p4 p5 p6 p7 p8 p9 p10 p11 w3 w4 w5 w6 w7 p12 p13 w8 w9 w10 p14 p15 w11 w12 w13 w14 w15 p16 w16 w17 w18 h1 f0) _ _ := h_4
  exact q_iret X hr hlk hK h_4 (q_nz (by omega) (by omega)) (fun _ => 0, fun _ _ => 0, fun _ _ => 0) ⟨wr_4, (show (r_4 : Int32).toInt = 0 ∨ ((r_4 : Int32).toInt = 1 ∧ 0 ≤ (j0 : Int64).toInt ∧ (j0 : Int64).toInt ≤ 9) from by (first | (clear y4_0; omega) | omega)), trivial⟩ [0, 1] rfl rfl dX12_isPerson_14 (Nat.le_of_ble_eq_true rfl) (Nat.le_of_ble_eq_true rfl)
set_option maxHeartbeats 4000000 in
set_option maxRecDepth 100000 in
theorem gX12_isIn_b0455a8 (l : Launch) (D : va_G) (cy : Nat → ClassId) (j0 : Int64) (p0 : Int32) (hj0 : (-2147483648) ≤ (j0).toInt ∧ (j0).toInt ≤ 2147483647) (hp0 : 0 ≤ (p0).toInt ∧ (p0).toInt ≤ 9) (sz : Nat) : MI l yX12_isIn cX12_isIn 3 .boolean { frames := 0, cells := 0, slots := 0, locals := 0 } [.long j0, .int p0] D cy [] sz (fun r u => (0 ≤ r.toInt ∧ r.toInt ≤ 1) ∧ True) (fun u => []) 0 0 := by
  refine q_ent (own := RX12) (by decide) rfl (Nat.le_of_ble_eq_true rfl) (fun p e s m below meth c ls X hr hlk hnm hK hT h hA hl => ?_)
  obtain ⟨hx, hb, hml, hown, ht⟩ := id X
  replace hl : lv_has ls 3 [(0, .long j0), (2, .int p0)] := hl
  refine lv_lload_n hx hb dX12_isIn_0 rfl (lv_at hl 0 rfl) ?_
  refine lv_iload_n hx hb dX12_isIn_1 rfl (lv_at hl 1 rfl) ?_
  refine lv_lshr hx hb dX12_isIn_2 rfl ?_
  refine q_anyJ (fun z_1 hz_1 => ?_)
  refine lv_lconst (v := 1) hx hb dX12_isIn_3 (by decide) ?_
  refine lv_land hx hb dX12_isIn_4 ?_
  refine q_anyJ (fun z_2 hz_2 => ?_)
  refine lv_lconst (v := 1) hx hb dX12_isIn_5 (by decide) ?_
  refine W.lcmp hx hb dX12_isIn_6 ?_
  refine lv_if_ne (tgt := 14) hx hb dX12_isIn_7 (by decide) (fun c_3 => ?_) (fun c_3 => ?_)
  · replace c_3 := j_neq (x := z_2) (y := 1) rfl (show (1 : Int64).toInt = 1 by decide) c_3
    refine lv_iconst (v := 0) hx hb dX12_isIn_14 (by decide) ?_
    exact q_iret X hr hlk hK h rfl (fun _ => 0, fun _ _ => 0, fun _ _ => 0) ⟨⟨by decide +kernel, by decide +kernel⟩, trivial⟩ [] rfl rfl dX12_isIn_15 (Nat.le_of_ble_eq_true rfl) (Nat.le_of_ble_eq_true rfl)
  · replace c_3 := j_eq (x := z_2) (y := 1) rfl (show (1 : Int64).toInt = 1 by decide) c_3
    refine lv_iconst (v := 1) hx hb dX12_isIn_10 (by decide) ?_
    refine lv_goto (tgt := 15) hx hb dX12_isIn_11 (by decide) ?_
    exact q_iret X hr hlk hK h rfl (fun _ => 0, fun _ _ => 0, fun _ _ => 0) ⟨⟨by decide +kernel, by decide +kernel⟩, trivial⟩ [] rfl rfl dX12_isIn_15 (Nat.le_of_ble_eq_true rfl) (Nat.le_of_ble_eq_true rfl)
set_option maxHeartbeats 4000000 in
set_option maxRecDepth 100000 in
theorem gX12_townOn_aa3becc (l : Launch) (D : va_G) (cy : Nat → ClassId) (h0 : Nat) (h1 : Nat) (p0 : Int32) (p1 : Int32) (w0 : Value) (w1 : Value) (w2 : Value) (p2 : Int32) (p3 : Int32) (p4 : Int32) (p5 : Int32) (p6 : Int32) (p7 : Int32) (p8 : Int32) (p9 : Int32) (p10 : Int32) (p11 : Int32) (p12 : Int32) (w3 : Value) (w4 : Value) (w5 : Value) (w6 : Value) (w7 : Value) (p13 : Int32) (p14 : Int32) (w8 : Value) (w9 : Value) (w10 : Value) (p15 : Int32) (p16 : Int32) (w11 : Value) (w12 : Value) (w13 : Value) (w14 : Value) (w15 : Value) (p17 : Int32) (w16 : Value) (w17 : Value) (w18 : Value) (f0 : Nat → Int32) (p18 : Int32) (hp0 : (-2147483648) ≤ (p0).toInt ∧ (p0).toInt ≤ 2147483647) (hp1 : 0 ≤ (p1).toInt ∧ (p1).toInt ≤ 0) (hp2 : 0 ≤ (p2).toInt ∧ (p2).toInt ≤ 900) (hp3 : 0 ≤ (p3).toInt ∧ (p3).toInt ≤ 900) (hp4 : 0 ≤ (p4).toInt ∧ (p4).toInt ≤ 900) (hp5 : 0 ≤ (p5).toInt ∧ (p5).toInt ≤ 900) (hp6 : (-2147483648) ≤ (p6).toInt ∧ (p6).toInt ≤ 2147483647) (hp7 : 0 ≤ (p7).toInt ∧ (p7).toInt ≤ 999) (hp8 : (-2147483648) ≤ (p8).toInt ∧ (p8).toInt ≤ 2147483647) (hp9 : (-2147483648) ≤ (p9).toInt ∧ (p9).toInt ≤ 2147483647) (hp10 : (-2147483648) ≤ (p10).toInt ∧ (p10).toInt ≤ 2147483647) (hp11 : (-2147483648) ≤ (p11).toInt ∧ (p11).toInt ≤ 2147483647) (hp12 : (-2147483648) ≤ (p12).toInt ∧ (p12).toInt ≤ 2147483647) (hp13 : (-2147483648) ≤ (p13).toInt ∧ (p13).toInt ≤ 2147483647) (hp14 : (-2147483648) ≤ (p14).toInt ∧ (p14).toInt ≤ 2147483647) (hp15 : (-2147483648) ≤ (p15).toInt ∧ (p15).toInt ≤ 2147483647) (hp16 : (-2147483648) ≤ (p16).toInt ∧ (p16).toInt ≤ 2147483647) (hp17 : (-2147483648) ≤ (p17).toInt ∧ (p17).toInt ≤ 2147483647) (hp18 : 0 ≤ (p18).toInt ∧ (p18).toInt ≤ 10) (htf0_84 : f0 84 = p18) (rf0 : AL f0) (sz : Nat) : MI l yX12_townOn cX12_townOn 4 .int { frames := 1, cells := 0, slots := 0, locals := 25 } [.ref h0, .int p0] D cy (wk_e1f596b07 cy h0 p1 h1 w0 w1 w2 p2 p3 p4 p5 p6 p7 p8 p9 p10 p11 p12 w3 w4 w5 w6 w7 p13 p14 w8 w9 w10 p15 p16 w11 w12 w13 w14 w15 p17 w16 w17 w18 h1 f0) sz (fun r u => (0 ≤ r.toInt ∧ r.toInt ≤ 1023) ∧ True) (fun u => (wk_e1f596b07 cy h0 p1 h1 w0 w1 w2 p2 p3 p4 p5 p6 p7 p8 p9 p10 p11 p12 w3 w4 w5 w6 w7 p13 p14 w8 w9 w10 p15 p16 w11 w12 w13 w14 w15 p17 w16 w17 w18 h1 f0)) 0 0 := by
  refine q_ent (own := RX12) (by decide) rfl (Nat.le_of_ble_eq_true rfl) (fun p e s m below meth c ls X hr hlk hnm hK hT h hA hl => ?_)
  obtain ⟨hx, hb, hml, hown, ht⟩ := id X
  replace hl : lv_has ls 4 [(0, .ref h0), (1, .int p0)] := hl
  refine lv_iconst (v := 0) hx hb dX12_townOn_0 (by decide) ?_
  refine lv_istore_n (lv' := [(2, .int 0), (0, .ref h0), (1, .int p0)]) hx hb dX12_townOn_1 rfl hl (by decide) rfl (fun ls_1 hl_1 => ?_)
  clear hl
  refine lv_iconst (v := 0) hx hb dX12_townOn_2 (by decide) ?_
  refine lv_istore_n (lv' := [(3, .int 0), (2, .int 0), (0, .ref h0), (1, .int p0)]) hx hb dX12_townOn_3 rfl hl_1 (by decide) rfl (fun ls_2 hl_2 => ?_)
  clear hl_1
  refine q_wl (fun (q : Int32 × Int32) H locs ls => match q with | (v4_3_0, v4_3_1) => (0 ≤ (v4_3_0).toInt ∧ (v4_3_0).toInt ≤ 10) ∧ (0 ≤ (v4_3_1).toInt ∧ (v4_3_1).toInt ≤ 1023) ∧ qW D (va_A (wk_e1f596b07 cy h0 p1 h1 w0 w1 w2 p2 p3 p4 p5 p6 p7 p8 p9 p10 p11 p12 w3 w4 w5 w6 w7 p13 p14 w8 w9 w10 p15 p16 w11 w12 w13 w14 w15 p17 w16 w17 w18 h1 f0) sz) s.heap (wk_e1f596b07 cy h0 p1 h1 w0 w1 w2 p2 p3 p4 p5 p6 p7 p8 p9 p10 p11 p12 w3 w4 w5 w6 w7 p13 p14 w8 w9 w10 p15 p16 w11 w12 w13 w14 w15 p17 w16 w17 w18 h1 f0) H locs ∧ lv_has ls 4 [(0, .ref h0), (1, .int p0), (2, .int v4_3_1), (3, .int v4_3_0)]) (fun (q : Int32 × Int32) => match q with | (v4_3_0, v4_3_1) => (11 - (v4_3_0).toInt).toNat) (fun q_4 ih_4 H locs ls hP => ?_) (0, 0) ⟨⟨by decide +kernel, by decide +kernel⟩, ⟨by decide +kernel, by decide +kernel⟩, h, (lv_sub hl_2 [2, 3, 1, 0] rfl)⟩
  obtain ⟨v4_3_0, v4_3_1⟩ := q_4
  obtain ⟨hv4_3_0, hv4_3_1, h, hl⟩ := hP
  refine lv_iload_n hx hb dX12_townOn_4 rfl (lv_at hl 3 rfl) ?_
  refine lv_aload_n hx hb dX12_townOn_5 rfl (lv_at hl 0 rfl) ?_
  refine q_get X hK h 0 rfl rfl wf_12 1 (by decide) rfl wm_5_171 dX12_townOn_6 ?_
  refine lv_iconst (v := 2) hx hb dX12_townOn_9 (by decide) ?_
  refine q_iald X hK h 1 rfl (q_in (by decide +kernel)) dX12_townOn_10 ?_
  obtain ⟨z_4, ez_4, hz_4⟩ := al_P rf0 (x := 2) (show (2 : Int32).toInt = 2 by decide) (by omega) (by omega)
  refine q_c z_4 ez_4 ?_
  clear ez_4
  refine lv_icmp_ge (tgt := 58) hx hb dX12_townOn_11 (by decide) (fun c_5 => ?_) (fun c_5 => ?_)
  · replace c_5 := i_le (x := z_4) (y := v4_3_0) rfl rfl c_5
    refine lv_iload_n hx hb dX12_townOn_58 rfl (lv_at hl 2 rfl) ?_
    refine lv_aload_n hx hb dX12_townOn_59 rfl (lv_at hl 0 rfl) ?_
    refine q_get X hK h 0 rfl rfl wf_12 1 (by decide) rfl wm_5_171 dX12_townOn_60 ?_
    refine lv_bipush (v := 53) hx hb dX12_townOn_63 (by decide) ?_
    refine q_iald X hK h 1 rfl (q_in (by decide +kernel)) dX12_townOn_65 ?_
    refine q_any (fun z_6 hz_6 => ?_)
    refine lv_iconst (v := (-1)) hx hb dX12_townOn_66 (by decide) ?_
    refine lv_ixor hx hb dX12_townOn_67 ?_
    refine q_any (fun z_7 hz_7 => ?_)
    refine lv_iand hx hb dX12_townOn_68 ?_
    obtain ⟨z_8, ez_8, hz_8⟩ := e_and1 (x := v4_3_1) (y := z_7) rfl (by omega)
    refine q_c z_8 ez_8 ?_
    clear ez_8
    exact q_iret X hr hlk hK h rfl (fun _ => 0, fun _ _ => 0, fun _ _ => 0) ⟨⟨by omega, by omega⟩, trivial⟩ [0, 1] rfl rfl dX12_townOn_69 (Nat.le_of_ble_eq_true rfl) (Nat.le_of_ble_eq_true rfl)
  · replace c_5 := i_nle (x := z_4) (y := v4_3_0) rfl rfl c_5
    refine lv_iload_n hx hb dX12_townOn_14 rfl (lv_at hl 2 rfl) ?_
    refine lv_iload_n hx hb dX12_townOn_15 rfl (lv_at hl 1 rfl) ?_
    refine lv_i2l hx hb dX12_townOn_16 rfl ?_
    obtain ⟨z_9, ez_9, hz_9⟩ := e_i2l (x := p0) rfl
    refine q_cl z_9 ez_9 ?_
    clear ez_9
    refine lv_aload_n hx hb dX12_townOn_17 rfl (lv_at hl 0 rfl) ?_
    refine q_get X hK h 0 rfl rfl wf_12 1 (by decide) rfl wm_5_171 dX12_townOn_18 ?_
    refine lv_bipush (v := 12) hx hb dX12_townOn_21 (by decide) ?_
    refine lv_iload_n hx hb dX12_townOn_23 rfl (lv_at hl 3 rfl) ?_
    refine lv_iadd hx hb dX12_townOn_24 ?_
    obtain ⟨z_10, ez_10, hz_10⟩ := e_add (x := 12) (y := v4_3_0) (show (12 : Int32).toInt = 12 by decide) rfl (by omega) (by omega)
    refine q_c z_10 ez_10 ?_
    clear ez_10
    refine q_iald X hK h 1 rfl (i_in rfl (by omega) (by omega)) dX12_townOn_25 ?_
    refine q_any (fun z_11 hz_11 => ?_)
    refine lv_i2l hx hb dX12_townOn_26 rfl ?_
    obtain ⟨z_12, ez_12, hz_12⟩ := e_i2l (x := z_11) rfl
    refine q_cl z_12 ez_12 ?_
    clear ez_12
    refine lv_aload_n hx hb dX12_townOn_27 rfl (lv_at hl 0 rfl) ?_
    refine q_get X hK h 0 rfl rfl wf_12 1 (by decide) rfl wm_5_171 dX12_townOn_28 ?_
    refine lv_bipush (v := 22) hx hb dX12_townOn_31 (by decide) ?_
    refine lv_iload_n hx hb dX12_townOn_33 rfl (lv_at hl 3 rfl) ?_
    refine lv_iadd hx hb dX12_townOn_34 ?_
    obtain ⟨z_13, ez_13, hz_13⟩ := e_add (x := 22) (y := v4_3_0) (show (22 : Int32).toInt = 22 by decide) rfl (by omega) (by omega)
    refine q_c z_13 ez_13 ?_
    clear ez_13
    refine q_iald X hK h 1 rfl (i_in rfl (by omega) (by omega)) dX12_townOn_35 ?_
    refine q_any (fun z_14 hz_14 => ?_)
    refine lv_i2l hx hb dX12_townOn_36 rfl ?_
    obtain ⟨z_15, ez_15, hz_15⟩ := e_i2l (x := z_14) rfl
    refine q_cl z_15 ez_15 ?_
    clear ez_15
    refine q_callSi (rest := [.int v4_3_1]) (wr := (wk_e1f596b07 cy h0 p1 h1 w0 w1 w2 p2 p3 p4 p5 p6 p7 p8 p9 p10 p11 p12 w3 w4 w5 w6 w7 p13 p14 w8 w9 w10 p15 p16 w11 w12 w13 w14 w15 p17 w16 w17 w18 h1 f0)) X hK hT hA h (fun sz => gX12_within_00c7897 l D cy z_9 z_12 z_15 (j_rng _) ⟨by omega, by omega⟩ ⟨by omega, by omega⟩ sz) wm_6_50 wm_6_52 wm_1_12 hd_X12_within wm_6_51 ⟨Nat.le_of_ble_eq_true rfl, Nat.le_of_ble_eq_true rfl⟩ hl.1 rfl (Nat.le_of_ble_eq_true rfl) dX12_townOn_37 ⟨Nat.le_of_ble_eq_true rfl, Nat.le_of_ble_eq_true rfl⟩ [] [0, 1] rfl rfl (by decide) rfl rfl (fun r_16 u_16 H locs w_16 h_16 => ?_)
    clear h
    obtain ⟨wr_16, y16_0, _⟩ := w_16
    replace h_16 : qW D _ _ (wk_e1f596b07 cy h0 p1 h1 w0 w1 w2 p2 p3 p4 p5 p6 p7 p8 p9 p10 p11 p12 w3 w4 w5 w6 w7 p13 p14 w8 w9 w10 p15 p16 w11 w12 w13 w14 w15 p17 w16 w17 w18 h1 f0) _ _ := h_16
    refine q_jn (pc2 := 50) (fun H locs ls st => ∃ v50_17_0 : Int32, (0 ≤ (v50_17_0).toInt ∧ (v50_17_0).toInt ≤ 512) ∧ st = [.int v50_17_0, .int v4_3_1] ∧ qW D (va_A (wk_e1f596b07 cy h0 p1 h1 w0 w1 w2 p2 p3 p4 p5 p6 p7 p8 p9 p10 p11 p12 w3 w4 w5 w6 w7 p13 p14 w8 w9 w10 p15 p16 w11 w12 w13 w14 w15 p17 w16 w17 w18 h1 f0) sz) s.heap (wk_e1f596b07 cy h0 p1 h1 w0 w1 w2 p2 p3 p4 p5 p6 p7 p8 p9 p10 p11 p12 w3 w4 w5 w6 w7 p13 p14 w8 w9 w10 p15 p16 w11 w12 w13 w14 w15 p17 w16 w17 w18 h1 f0) H locs ∧ lv_has ls 4 [(0, .ref h0), (1, .int p0), (2, .int v4_3_1), (3, .int v4_3_0)]) (fun H locs ls st hP => ?_) (fun J_50 => ?_)
    · obtain ⟨v50_17_0, hv50_17_0, rfl, h, hl⟩ := hP
      refine lv_ior hx hb dX12_townOn_50 ?_
      obtain ⟨z_18, ez_18, hz_18⟩ := e_orm (x := v4_3_1) (y := v50_17_0) 10 (by decide) rfl rfl (by omega) (by omega) (by omega) (by omega)
      refine q_c z_18 ez_18 ?_
      clear ez_18
      refine lv_istore_n (lv' := [(2, .int z_18), (0, .ref h0), (1, .int p0), (3, .int v4_3_0)]) hx hb dX12_townOn_51 rfl hl (by decide) rfl (fun ls_19 hl_19 => ?_)
      clear hl
      obtain ⟨z_20, ez_20, hz_20⟩ := e_add (x := v4_3_0) (y := Int32.ofInt 1) rfl (b := 1) (by decide) (by omega) (by omega)
      refine lv_iinc (v := z_20) (lv' := [(3, .int z_20), (2, .int z_18), (0, .ref h0), (1, .int p0)]) hx hb dX12_townOn_52 hl_19 (k := 3) rfl ez_20 (by decide) rfl (fun ls_20 hl_20 => ?_)
      clear hl_19
      refine lv_goto (tgt := 4) hx hb dX12_townOn_55 (by decide) ?_
      exact ih_4 (z_20, z_18) (by show (11 - (z_20).toInt).toNat < (11 - (v4_3_0).toInt).toNat; omega) _ _ _ ⟨⟨by omega, by omega⟩, ⟨by omega, by omega⟩, h, (lv_sub hl_20 [2, 3, 1, 0] rfl)⟩
    · skip
      refine lv_if_eq (tgt := 49) hx hb dX12_townOn_40 (by decide) (fun c_21 => ?_) (fun c_21 => ?_)
      · replace c_21 := i_eq (x := r_16) (y := 0) rfl (show (0 : Int32).toInt = 0 by decide) c_21
        replace y16_0 := a10_0 y16_0 c_21
        refine lv_iconst (v := 0) hx hb dX12_townOn_49 (by decide) ?_
        exact J_50 _ _ _ _ ⟨0, ⟨by decide +kernel, by decide +kernel⟩, rfl, h_16, (lv_sub hl [0, 1, 2, 3] rfl)⟩
      · replace c_21 := i_ne (x := r_16) (y := 0) rfl (show (0 : Int32).toInt = 0 by decide) c_21
        replace y16_0 := a10_1 y16_0 c_21
        refine lv_iconst (v := 1) hx hb dX12_townOn_43 (by decide) ?_
        refine lv_iload_n hx hb dX12_townOn_44 rfl (lv_at hl 3 rfl) ?_
        refine lv_ishl hx hb dX12_townOn_45 ?_
        obtain ⟨z_22, ez_22, hz_22⟩ := e_shlk (p := v4_3_0) 9 (by decide) rfl (by omega) (by omega)
        refine q_c z_22 ez_22 ?_
        clear ez_22
        refine lv_goto (tgt := 50) hx hb dX12_townOn_46 (by decide) ?_
        exact J_50 _ _ _ _ ⟨z_22, ⟨by omega, by omega⟩, rfl, h_16, (lv_sub hl [0, 1, 2, 3] rfl)⟩
set_option maxHeartbeats 4000000 in
set_option maxRecDepth 100000 in
theorem gX12_townNow_2907b4b (l : Launch) (D : va_G) (cy : Nat → ClassId) (h0 : Nat) (h1 : Nat) (p0 : Int32) (w0 : Value) (w1 : Value) (w2 : Value) (p1 : Int32) (p2 : Int32) (p3 : Int32) (p4 : Int32) (p5 : Int32) (p6 : Int32) (p7 : Int32) (p8 : Int32) (p9 : Int32) (p10 : Int32) (p11 : Int32) (w3 : Value) (w4 : Value) (w5 : Value) (w6 : Value) (w7 : Value) (p12 : Int32) (p13 : Int32) (w8 : Value) (w9 : Value) (w10 : Value) (p14 : Int32) (p15 : Int32) (w11 : Value) (w12 : Value) (w13 : Value) (w14 : Value) (w15 : Value) (p16 : Int32) (w16 : Value) (w17 : Value) (w18 : Value) (f0 : Nat → Int32) (p17 : Int32) (hp0 : 0 ≤ (p0).toInt ∧ (p0).toInt ≤ 0) (hp1 : 0 ≤ (p1).toInt ∧ (p1).toInt ≤ 900) (hp2 : 0 ≤ (p2).toInt ∧ (p2).toInt ≤ 900) (hp3 : 0 ≤ (p3).toInt ∧ (p3).toInt ≤ 900) (hp4 : 0 ≤ (p4).toInt ∧ (p4).toInt ≤ 900) (hp5 : (-2147483648) ≤ (p5).toInt ∧ (p5).toInt ≤ 2147483647) (hp6 : 0 ≤ (p6).toInt ∧ (p6).toInt ≤ 999) (hp7 : (-2147483648) ≤ (p7).toInt ∧ (p7).toInt ≤ 2147483647) (hp8 : (-2147483648) ≤ (p8).toInt ∧ (p8).toInt ≤ 2147483647) (hp9 : (-2147483648) ≤ (p9).toInt ∧ (p9).toInt ≤ 2147483647) (hp10 : (-2147483648) ≤ (p10).toInt ∧ (p10).toInt ≤ 2147483647) (hp11 : (-2147483648) ≤ (p11).toInt ∧ (p11).toInt ≤ 2147483647) (hp12 : (-2147483648) ≤ (p12).toInt ∧ (p12).toInt ≤ 2147483647) (hp13 : (-2147483648) ≤ (p13).toInt ∧ (p13).toInt ≤ 2147483647) (hp14 : (-2147483648) ≤ (p14).toInt ∧ (p14).toInt ≤ 2147483647) (hp15 : (-2147483648) ≤ (p15).toInt ∧ (p15).toInt ≤ 2147483647) (hp16 : (-2147483648) ≤ (p16).toInt ∧ (p16).toInt ≤ 2147483647) (hp17 : 0 ≤ (p17).toInt ∧ (p17).toInt ≤ 10) (htf0_84 : f0 84 = p17) (rf0 : AL f0) (sz : Nat) : MI l yX12_townNow cX12_townNow 1 .int { frames := 2, cells := 0, slots := 0, locals := 48 } [.ref h0] D cy (wk_e1f596b07 cy h0 p0 h1 w0 w1 w2 p1 p2 p3 p4 p5 p6 p7 p8 p9 p10 p11 w3 w4 w5 w6 w7 p12 p13 w8 w9 w10 p14 p15 w11 w12 w13 w14 w15 p16 w16 w17 w18 h1 f0) sz (fun r u => (0 ≤ r.toInt ∧ r.toInt ≤ 1023) ∧ True) (fun u => (wk_e1f596b07 cy h0 p0 h1 w0 w1 w2 p1 p2 p3 p4 p5 p6 p7 p8 p9 p10 p11 w3 w4 w5 w6 w7 p12 p13 w8 w9 w10 p14 p15 w11 w12 w13 w14 w15 p16 w16 w17 w18 h1 f0)) 0 0 := by
  refine q_ent (own := RX12) (by decide) rfl (Nat.le_of_ble_eq_true rfl) (fun p e s m below meth c ls X hr hlk hnm hK hT h hA hl => ?_)
  obtain ⟨hx, hb, hml, hown, ht⟩ := id X
  replace hl : lv_has ls 1 [(0, .ref h0)] := hl
  refine lv_aload_n hx hb dX12_townNow_0 rfl (lv_at hl 0 rfl) ?_
  refine lv_aload_n hx hb dX12_townNow_1 rfl (lv_at hl 0 rfl) ?_
  refine q_get X hK h 0 rfl rfl wf_12 1 (by decide) rfl wm_5_171 dX12_townNow_2 ?_
  refine lv_bipush (v := 52) hx hb dX12_townNow_5 (by decide) ?_
  refine q_iald X hK h 1 rfl (q_in (by decide +kernel)) dX12_townNow_7 ?_
  refine q_any (fun z_1 hz_1 => ?_)
  refine q_callVi (rest := []) (wr := []) X hK hT hA h (fun sz => gX12_townOn_aa3becc l D cy h0 h1 z_1 p0 w0 w1 w2 p1 p2 p3 p4 p5 p6 p7 p8 p9 p10 p11 w3 w4 w5 w6 w7 p12 p13 w8 w9 w10 p14 p15 w11 w12 w13 w14 w15 p16 w16 w17 w18 f0 p17 (i_rng _) hp0 hp1 hp2 hp3 hp4 (i_rng _) hp6 (i_rng _) (i_rng _) (i_rng _) (i_rng _) (i_rng _) (i_rng _) (i_rng _) (i_rng _) (i_rng _) (i_rng _) hp17 htf0_84 rf0 sz) wm_6_174 wm_6_177 wm_1_12 hd_X12_townOn wm_6_176 wp_5_10 (ci := 12) (q0 := 0) rfl rfl ⟨Nat.le_of_ble_eq_true rfl, Nat.le_of_ble_eq_true rfl⟩ hl.1 rfl (Nat.le_of_ble_eq_true rfl) dX12_townNow_8 ⟨Nat.le_of_ble_eq_true rfl, Nat.le_of_ble_eq_true rfl⟩ [0, 1] [] rfl rfl (by decide) rfl rfl (fun r_2 u_2 H locs w_2 h_2 => ?_)
  clear h
  obtain ⟨wr_2, _⟩ := w_2
  replace h_2 : qW D _ _ (wk_e1f596b07 cy h0 p0 h1 w0 w1 w2 p1 p2 p3 p4 p5 p6 p7 p8 p9 p10 p11 w3 w4 w5 w6 w7 p12 p13 w8 w9 w10 p14 p15 w11 w12 w13 w14 w15 p16 w16 w17 w18 h1 f0) _ _ := h_2
  exact q_iret X hr hlk hK h_2 rfl (fun _ => 0, fun _ _ => 0, fun _ _ => 0) ⟨wr_2, trivial⟩ [0, 1] rfl rfl dX12_townNow_11 (Nat.le_of_ble_eq_true rfl) (Nat.le_of_ble_eq_true rfl)
set_option maxHeartbeats 4000000 in
set_option maxRecDepth 100000 in
theorem gX12_person_05e7eb9 (l : Launch) (D : va_G) (cy : Nat → ClassId) (h0 : Nat) (h1 : Nat) (p0 : Int32) (p1 : Int32) (p2 : Int32) (w0 : Value) (w1 : Value) (w2 : Value) (p3 : Int32) (p4 : Int32) (p5 : Int32) (p6 : Int32) (p7 : Int32) (p8 : Int32) (p9 : Int32) (p10 : Int32) (p11 : Int32) (p12 : Int32) (p13 : Int32) (w3 : Value) (w4 : Value) (w5 : Value) (w6 : Value) (w7 : Value) (p14 : Int32) (p15 : Int32) (w8 : Value) (w9 : Value) (w10 : Value) (p16 : Int32) (p17 : Int32) (w11 : Value) (w12 : Value) (w13 : Value) (w14 : Value) (w15 : Value) (p18 : Int32) (w16 : Value) (w17 : Value) (w18 : Value) (f0 : Nat → Int32) (p19 : Int32) (hp0 : (-2147483648) ≤ (p0).toInt ∧ (p0).toInt ≤ 2147483647) (hp1 : (-2147483648) ≤ (p1).toInt ∧ (p1).toInt ≤ 2147483647) (hp2 : (-2147483648) ≤ (p2).toInt ∧ (p2).toInt ≤ 2147483647) (hp3 : 0 ≤ (p3).toInt ∧ (p3).toInt ≤ 900) (hp4 : 0 ≤ (p4).toInt ∧ (p4).toInt ≤ 900) (hp5 : 0 ≤ (p5).toInt ∧ (p5).toInt ≤ 900) (hp6 : 0 ≤ (p6).toInt ∧ (p6).toInt ≤ 900) (hp7 : (-2147483648) ≤ (p7).toInt ∧ (p7).toInt ≤ 2147483647) (hp8 : 0 ≤ (p8).toInt ∧ (p8).toInt ≤ 999) (hp9 : (-2147483648) ≤ (p9).toInt ∧ (p9).toInt ≤ 2147483647) (hp10 : (-2147483648) ≤ (p10).toInt ∧ (p10).toInt ≤ 2147483647) (hp11 : (-2147483648) ≤ (p11).toInt ∧ (p11).toInt ≤ 2147483647) (hp12 : (-2147483648) ≤ (p12).toInt ∧ (p12).toInt ≤ 2147483647) (hp13 : (-2147483648) ≤ (p13).toInt ∧ (p13).toInt ≤ 2147483647) (hp14 : (-2147483648) ≤ (p14).toInt ∧ (p14).toInt ≤ 2147483647) (hp15 : (-2147483648) ≤ (p15).toInt ∧ (p15).toInt ≤ 2147483647) (hp16 : (-2147483648) ≤ (p16).toInt ∧ (p16).toInt ≤ 2147483647) (hp17 : (-2147483648) ≤ (p17).toInt ∧ (p17).toInt ≤ 2147483647) (hp18 : (-2147483648) ≤ (p18).toInt ∧ (p18).toInt ≤ 2147483647) (hp19 : 0 ≤ (p19).toInt ∧ (p19).toInt ≤ 10) (htf0_84 : f0 84 = p19) (rf0 : AL f0) (sz : Nat) : MI l yX12_person cX12_person 3 .int { frames := 3, cells := 0, slots := 0, locals := 68 } [.ref h0, .int p0, .int p1] D cy (wk_e1f596b07 cy h0 p2 h1 w0 w1 w2 p3 p4 p5 p6 p7 p8 p9 p10 p11 p12 p13 w3 w4 w5 w6 w7 p14 p15 w8 w9 w10 p16 p17 w11 w12 w13 w14 w15 p18 w16 w17 w18 h1 f0) sz (fun r u => ((-2147483648) ≤ r.toInt ∧ r.toInt ≤ 2147483647) ∧ (0 ≤ (u.2.1 0 0).toInt ∧ (u.2.1 0 0).toInt ≤ 0) ∧ True) (fun u => (wk_e1f596b07 cy h0 (u.2.1 0 0) h1 w0 w1 w2 p3 p4 p5 p6 p7 p8 p9 p10 p11 p12 p13 w3 w4 w5 w6 w7 p14 p15 w8 w9 w10 p16 p17 w11 w12 w13 w14 w15 p18 w16 w17 w18 h1 f0)) 0 0 := by
  refine q_ent (own := RX12) (by decide) rfl (Nat.le_of_ble_eq_true rfl) (fun p e s m below meth c ls X hr hlk hnm hK hT h hA hl => ?_)
  obtain ⟨hx, hb, hml, hown, ht⟩ := id X
  replace hl : lv_has ls 3 [(0, .ref h0), (1, .int p0), (2, .int p1)] := hl
  refine lv_aload_n hx hb dX12_person_0 rfl (lv_at hl 0 rfl) ?_
  refine lv_iconst (v := 0) hx hb dX12_person_1 (by decide) ?_
  refine q_put (v := .int 0) X hK h 0 rfl rfl wf_12 tyX12 tyX12_ok nmX12 0 (by decide) wm_5_170 rfl rfl rfl (Nat.le_of_ble_eq_true rfl) dX12_person_2 (fun H locs h_1 => ?_)
  clear h
  replace h_1 : qW D _ _ (wk_e1f596b07 cy h0 0 h1 w0 w1 w2 p3 p4 p5 p6 p7 p8 p9 p10 p11 p12 p13 w3 w4 w5 w6 w7 p14 p15 w8 w9 w10 p16 p17 w11 w12 w13 w14 w15 p18 w16 w17 w18 h1 f0) _ _ := h_1
  refine lv_aload_n hx hb dX12_person_5 rfl (lv_at hl 0 rfl) ?_
  refine lv_iload_n hx hb dX12_person_6 rfl (lv_at hl 1 rfl) ?_
  refine lv_i2l hx hb dX12_person_7 rfl ?_
  obtain ⟨z_2, ez_2, hz_2⟩ := e_i2l (x := p0) rfl
  refine q_cl z_2 ez_2 ?_
  clear ez_2
  refine q_callVi (rest := []) (wr := []) X hK hT hA h_1 (fun sz => gX12_isPerson_039c8d6 l D cy h0 h1 z_2 (0 : Int32) w0 w1 w2 p3 p4 p5 p6 p7 p8 p9 p10 p11 p12 p13 w3 w4 w5 w6 w7 p14 p15 w8 w9 w10 p16 p17 w11 w12 w13 w14 w15 p18 w16 w17 w18 f0 p19 ⟨by omega, by omega⟩ ⟨by decide +kernel, by decide +kernel⟩ hp3 hp4 hp5 hp6 (i_rng _) hp8 (i_rng _) (i_rng _) (i_rng _) (i_rng _) (i_rng _) (i_rng _) (i_rng _) (i_rng _) (i_rng _) (i_rng _) hp19 htf0_84 rf0 sz) wm_6_162 wm_6_165 wm_1_12 hd_X12_isPerson wm_6_164 wp_5_8 (ci := 12) (q0 := 0) rfl rfl ⟨Nat.le_of_ble_eq_true rfl, Nat.le_of_ble_eq_true rfl⟩ hl.1 rfl (Nat.le_of_ble_eq_true rfl) dX12_person_8 ⟨Nat.le_of_ble_eq_true rfl, Nat.le_of_ble_eq_true rfl⟩ [0, 1] [] rfl rfl (by decide) rfl rfl (fun r_3 u_3 H locs w_3 h_3 => ?_)
  clear h_1
  obtain ⟨wr_3, y3_0, _⟩ := w_3
  replace h_3 : qW D _ _ (wk_e1f596b07 cy h0 0 h1 w0 w1 w2 p3 p4 p5 p6 p7 p8 p9 p10 p11 p12 p13 w3 w4 w5 w6 w7 p14 p15 w8 w9 w10 p16 p17 w11 w12 w13 w14 w15 p18 w16 w17 w18 h1 f0) _ _ := h_3
  refine lv_if_ne (tgt := 17) hx hb dX12_person_11 (by decide) (fun c_4 => ?_) (fun c_4 => ?_)
  · replace c_4 := i_ne (x := r_3) (y := 0) rfl (show (0 : Int32).toInt = 0 by decide) c_4
    refine lv_iload_n hx hb dX12_person_17 rfl (lv_at hl 2 rfl) ?_
    refine lv_i2l hx hb dX12_person_18 rfl ?_
    obtain ⟨z_5, ez_5, hz_5⟩ := e_i2l (x := p1) rfl
    refine q_cl z_5 ez_5 ?_
    clear ez_5
    refine lv_lconst (v := 0) hx hb dX12_person_19 (by decide) ?_
    refine lv_ldc2 hx hb hown (ht _ wm_6_166) dX12_person_20 ?_
    refine q_callSi (rest := []) (wr := (wk_e1f596b07 cy h0 0 h1 w0 w1 w2 p3 p4 p5 p6 p7 p8 p9 p10 p11 p12 p13 w3 w4 w5 w6 w7 p14 p15 w8 w9 w10 p16 p17 w11 w12 w13 w14 w15 p18 w16 w17 w18 h1 f0)) X hK hT hA h_3 (fun sz => gX12_within_00c7897 l D cy z_5 (0 : Int64) (2 : Int64) (j_rng _) ⟨by decide +kernel, by decide +kernel⟩ ⟨by decide +kernel, by decide +kernel⟩ sz) wm_6_50 wm_6_52 wm_1_12 hd_X12_within wm_6_51 ⟨Nat.le_of_ble_eq_true rfl, Nat.le_of_ble_eq_true rfl⟩ hl.1 rfl (Nat.le_of_ble_eq_true rfl) dX12_person_23 ⟨Nat.le_of_ble_eq_true rfl, Nat.le_of_ble_eq_true rfl⟩ [] [0, 1] rfl rfl (by decide) rfl rfl (fun r_6 u_6 H locs w_6 h_6 => ?_)
    clear h_3
    obtain ⟨wr_6, y6_0, _⟩ := w_6
    have lq_6_1 : (0 : Int64).toInt = 0 := (by decide)
    have lq_6_2 : (2 : Int64).toInt = 2 := (by decide)
    replace h_6 : qW D _ _ (wk_e1f596b07 cy h0 0 h1 w0 w1 w2 p3 p4 p5 p6 p7 p8 p9 p10 p11 p12 p13 w3 w4 w5 w6 w7 p14 p15 w8 w9 w10 p16 p17 w11 w12 w13 w14 w15 p18 w16 w17 w18 h1 f0) _ _ := h_6
    refine lv_if_eq (tgt := 43) hx hb dX12_person_26 (by decide) (fun c_7 => ?_) (fun c_7 => ?_)
    · replace c_7 := i_eq (x := r_6) (y := 0) rfl (show (0 : Int32).toInt = 0 by decide) c_7
      replace y6_0 := a10_0 y6_0 c_7
      refine lv_iload_n hx hb dX12_person_43 rfl (lv_at hl 2 rfl) ?_
      by_cases c_8 : p1 = 3
      · have ec_8 : (p1).toInt = 3 := by rw [c_8]; decide
        refine lv_tableIn (off := 40) (tgt := 84) hx hb dX12_person_44 (by rw [c_8]; decide +kernel) (by rw [c_8]; decide +kernel) (by rw [c_8]; decide +kernel) (by decide) ?_
        refine lv_aload_n hx hb dX12_person_84 rfl (lv_at hl 0 rfl) ?_
        refine q_get X hK h_6 0 rfl rfl wf_12 1 (by decide) rfl wm_5_171 dX12_person_85 ?_
        refine lv_bipush (v := 12) hx hb dX12_person_88 (by decide) ?_
        refine lv_iload_n hx hb dX12_person_90 rfl (lv_at hl 1 rfl) ?_
        refine lv_iadd hx hb dX12_person_91 ?_
        obtain ⟨z_9, ez_9, hz_9⟩ := e_add (x := 12) (y := p0) (show (12 : Int32).toInt = 12 by decide) rfl (by omega) (by omega)
        refine q_c z_9 ez_9 ?_
        clear ez_9
        refine q_iald X hK h_6 1 rfl (i_in rfl (by omega) (by omega)) dX12_person_92 ?_
        refine q_any (fun z_10 hz_10 => ?_)
        exact q_iret X hr hlk hK h_6 rfl (fun _ => 0, (vcons (fun _ => 0) (fun _ => (fun _ => 0))), fun _ _ => 0) ⟨⟨by omega, by omega⟩, (⟨by decide +kernel, by decide +kernel⟩ : 0 ≤ (0 : Int32).toInt ∧ (0 : Int32).toInt ≤ 0), trivial⟩ [0, 1] rfl rfl dX12_person_93 (Nat.le_of_ble_eq_true rfl) (Nat.le_of_ble_eq_true rfl)
      by_cases c_11 : p1 = 4
      · have ec_11 : (p1).toInt = 4 := by rw [c_11]; decide
        refine lv_tableIn (off := 50) (tgt := 94) hx hb dX12_person_44 (by rw [c_11]; decide +kernel) (by rw [c_11]; decide +kernel) (by rw [c_11]; decide +kernel) (by decide) ?_
        refine lv_aload_n hx hb dX12_person_94 rfl (lv_at hl 0 rfl) ?_
        refine q_get X hK h_6 0 rfl rfl wf_12 1 (by decide) rfl wm_5_171 dX12_person_95 ?_
        refine lv_bipush (v := 22) hx hb dX12_person_98 (by decide) ?_
        refine lv_iload_n hx hb dX12_person_100 rfl (lv_at hl 1 rfl) ?_
        refine lv_iadd hx hb dX12_person_101 ?_
        obtain ⟨z_12, ez_12, hz_12⟩ := e_add (x := 22) (y := p0) (show (22 : Int32).toInt = 22 by decide) rfl (by omega) (by omega)
        refine q_c z_12 ez_12 ?_
        clear ez_12
        refine q_iald X hK h_6 1 rfl (i_in rfl (by omega) (by omega)) dX12_person_102 ?_
        refine q_any (fun z_13 hz_13 => ?_)
        refine lv_ldc hx hb hown (ht _ wm_6_103) dX12_person_103 ?_
        refine q_jn (pc2 := 123) (fun H locs ls st => ∃ v123_14_0 : Int32, ((-2147483648) ≤ (v123_14_0).toInt ∧ (v123_14_0).toInt ≤ 2147483647) ∧ st = [.int v123_14_0] ∧ qW D (va_A (wk_e1f596b07 cy h0 p2 h1 w0 w1 w2 p3 p4 p5 p6 p7 p8 p9 p10 p11 p12 p13 w3 w4 w5 w6 w7 p14 p15 w8 w9 w10 p16 p17 w11 w12 w13 w14 w15 p18 w16 w17 w18 h1 f0) sz) s.heap (wk_e1f596b07 cy h0 0 h1 w0 w1 w2 p3 p4 p5 p6 p7 p8 p9 p10 p11 p12 p13 w3 w4 w5 w6 w7 p14 p15 w8 w9 w10 p16 p17 w11 w12 w13 w14 w15 p18 w16 w17 w18 h1 f0) H locs ∧ lv_has ls 3 [(0, .ref h0), (1, .int p0), (2, .int p1)]) (fun H locs ls st hP => ?_) (fun J_123 => ?_)
        · obtain ⟨v123_14_0, hv123_14_0, rfl, h, hl⟩ := hP
          exact q_iret X hr hlk hK h rfl (fun _ => 0, (vcons (fun _ => 0) (fun _ => (fun _ => 0))), fun _ _ => 0) ⟨hv123_14_0, (⟨by decide +kernel, by decide +kernel⟩ : 0 ≤ (0 : Int32).toInt ∧ (0 : Int32).toInt ≤ 0), trivial⟩ [0, 1] rfl rfl dX12_person_123 (Nat.le_of_ble_eq_true rfl) (Nat.le_of_ble_eq_true rfl)
        · skip
          refine lv_icmp_ne (tgt := 114) hx hb dX12_person_105 (by decide) (fun c_15 => ?_) (fun c_15 => ?_)
          · replace c_15 := i_ne (x := z_13) (y := 268435456) rfl (show (268435456 : Int32).toInt = 268435456 by decide) c_15
            refine lv_aload_n hx hb dX12_person_114 rfl (lv_at hl 0 rfl) ?_
            refine q_get X hK h_6 0 rfl rfl wf_12 1 (by decide) rfl wm_5_171 dX12_person_115 ?_
            refine lv_bipush (v := 22) hx hb dX12_person_118 (by decide) ?_
            refine lv_iload_n hx hb dX12_person_120 rfl (lv_at hl 1 rfl) ?_
            refine lv_iadd hx hb dX12_person_121 ?_
            obtain ⟨z_16, ez_16, hz_16⟩ := e_add (x := 22) (y := p0) (show (22 : Int32).toInt = 22 by decide) rfl (by omega) (by omega)
            refine q_c z_16 ez_16 ?_
            clear ez_16
            refine q_iald X hK h_6 1 rfl (i_in rfl (by omega) (by omega)) dX12_person_122 ?_
            refine q_any (fun z_17 hz_17 => ?_)
            exact J_123 _ _ _ _ ⟨z_17, ⟨by omega, by omega⟩, rfl, h_6, (lv_sub hl [0, 1, 2] rfl)⟩
          · replace c_15 := i_eq (x := z_13) (y := 268435456) rfl (show (268435456 : Int32).toInt = 268435456 by decide) c_15
            refine lv_sipush (v := 999) hx hb dX12_person_108 (by decide) ?_
            refine lv_goto (tgt := 123) hx hb dX12_person_111 (by decide) ?_
            exact J_123 _ _ _ _ ⟨999, ⟨by decide +kernel, by decide +kernel⟩, rfl, h_6, (lv_sub hl [0, 1, 2] rfl)⟩
      by_cases c_18 : p1 = 5
      · have ec_18 : (p1).toInt = 5 := by rw [c_18]; decide
        refine lv_tableIn (off := 80) (tgt := 124) hx hb dX12_person_44 (by rw [c_18]; decide +kernel) (by rw [c_18]; decide +kernel) (by rw [c_18]; decide +kernel) (by decide) ?_
        refine lv_aload_n hx hb dX12_person_124 rfl (lv_at hl 0 rfl) ?_
        refine q_get X hK h_6 0 rfl rfl wf_12 1 (by decide) rfl wm_5_171 dX12_person_125 ?_
        refine lv_bipush (v := 32) hx hb dX12_person_128 (by decide) ?_
        refine lv_iload_n hx hb dX12_person_130 rfl (lv_at hl 1 rfl) ?_
        refine lv_iadd hx hb dX12_person_131 ?_
        obtain ⟨z_19, ez_19, hz_19⟩ := e_add (x := 32) (y := p0) (show (32 : Int32).toInt = 32 by decide) rfl (by omega) (by omega)
        refine q_c z_19 ez_19 ?_
        clear ez_19
        refine q_iald X hK h_6 1 rfl (i_in rfl (by omega) (by omega)) dX12_person_132 ?_
        refine q_any (fun z_20 hz_20 => ?_)
        exact q_iret X hr hlk hK h_6 rfl (fun _ => 0, (vcons (fun _ => 0) (fun _ => (fun _ => 0))), fun _ _ => 0) ⟨⟨by omega, by omega⟩, (⟨by decide +kernel, by decide +kernel⟩ : 0 ≤ (0 : Int32).toInt ∧ (0 : Int32).toInt ≤ 0), trivial⟩ [0, 1] rfl rfl dX12_person_133 (Nat.le_of_ble_eq_true rfl) (Nat.le_of_ble_eq_true rfl)
      by_cases c_21 : p1 = 6
      · have ec_21 : (p1).toInt = 6 := by rw [c_21]; decide
        refine lv_tableIn (off := 90) (tgt := 134) hx hb dX12_person_44 (by rw [c_21]; decide +kernel) (by rw [c_21]; decide +kernel) (by rw [c_21]; decide +kernel) (by decide) ?_
        refine lv_aload_n hx hb dX12_person_134 rfl (lv_at hl 0 rfl) ?_
        refine q_get X hK h_6 0 rfl rfl wf_12 1 (by decide) rfl wm_5_171 dX12_person_135 ?_
        refine lv_bipush (v := 42) hx hb dX12_person_138 (by decide) ?_
        refine lv_iload_n hx hb dX12_person_140 rfl (lv_at hl 1 rfl) ?_
        refine lv_iadd hx hb dX12_person_141 ?_
        obtain ⟨z_22, ez_22, hz_22⟩ := e_add (x := 42) (y := p0) (show (42 : Int32).toInt = 42 by decide) rfl (by omega) (by omega)
        refine q_c z_22 ez_22 ?_
        clear ez_22
        refine q_iald X hK h_6 1 rfl (i_in rfl (by omega) (by omega)) dX12_person_142 ?_
        refine q_any (fun z_23 hz_23 => ?_)
        exact q_iret X hr hlk hK h_6 rfl (fun _ => 0, (vcons (fun _ => 0) (fun _ => (fun _ => 0))), fun _ _ => 0) ⟨⟨by omega, by omega⟩, (⟨by decide +kernel, by decide +kernel⟩ : 0 ≤ (0 : Int32).toInt ∧ (0 : Int32).toInt ≤ 0), trivial⟩ [0, 1] rfl rfl dX12_person_143 (Nat.le_of_ble_eq_true rfl) (Nat.le_of_ble_eq_true rfl)
      by_cases c_24 : p1 = 7
      · have ec_24 : (p1).toInt = 7 := by rw [c_24]; decide
        refine lv_tableIn (off := 100) (tgt := 144) hx hb dX12_person_44 (by rw [c_24]; decide +kernel) (by rw [c_24]; decide +kernel) (by rw [c_24]; decide +kernel) (by decide) ?_
        refine lv_aload_n hx hb dX12_person_144 rfl (lv_at hl 0 rfl) ?_
        refine q_get X hK h_6 0 rfl rfl wf_12 1 (by decide) rfl wm_5_171 dX12_person_145 ?_
        refine lv_bipush (v := 53) hx hb dX12_person_148 (by decide) ?_
        refine q_iald X hK h_6 1 rfl (q_in (by decide +kernel)) dX12_person_150 ?_
        refine q_any (fun z_25 hz_25 => ?_)
        refine lv_i2l hx hb dX12_person_151 rfl ?_
        obtain ⟨z_26, ez_26, hz_26⟩ := e_i2l (x := z_25) rfl
        refine q_cl z_26 ez_26 ?_
        clear ez_26
        refine lv_iload_n hx hb dX12_person_152 rfl (lv_at hl 1 rfl) ?_
        refine q_callSi (rest := []) (wr := (wk_e1f596b07 cy h0 0 h1 w0 w1 w2 p3 p4 p5 p6 p7 p8 p9 p10 p11 p12 p13 w3 w4 w5 w6 w7 p14 p15 w8 w9 w10 p16 p17 w11 w12 w13 w14 w15 p18 w16 w17 w18 h1 f0)) X hK hT hA h_6 (fun sz => gX12_isIn_b0455a8 l D cy z_26 p0 ⟨by omega, by omega⟩ ⟨by omega, by omega⟩ sz) wm_6_167 wm_6_169 wm_1_12 hd_X12_isIn wm_6_168 ⟨Nat.le_of_ble_eq_true rfl, Nat.le_of_ble_eq_true rfl⟩ hl.1 rfl (Nat.le_of_ble_eq_true rfl) dX12_person_153 ⟨Nat.le_of_ble_eq_true rfl, Nat.le_of_ble_eq_true rfl⟩ [] [0, 1] rfl rfl (by decide) rfl rfl (fun r_27 u_27 H locs w_27 h_27 => ?_)
        clear h_6
        obtain ⟨wr_27, _⟩ := w_27
        replace h_27 : qW D _ _ (wk_e1f596b07 cy h0 0 h1 w0 w1 w2 p3 p4 p5 p6 p7 p8 p9 p10 p11 p12 p13 w3 w4 w5 w6 w7 p14 p15 w8 w9 w10 p16 p17 w11 w12 w13 w14 w15 p18 w16 w17 w18 h1 f0) _ _ := h_27
        refine q_jn (pc2 := 164) (fun H locs ls st => ∃ v164_28_0 : Int32, (0 ≤ (v164_28_0).toInt ∧ (v164_28_0).toInt ≤ 1) ∧ st = [.int v164_28_0] ∧ qW D (va_A (wk_e1f596b07 cy h0 p2 h1 w0 w1 w2 p3 p4 p5 p6 p7 p8 p9 p10 p11 p12 p13 w3 w4 w5 w6 w7 p14 p15 w8 w9 w10 p16 p17 w11 w12 w13 w14 w15 p18 w16 w17 w18 h1 f0) sz) s.heap (wk_e1f596b07 cy h0 0 h1 w0 w1 w2 p3 p4 p5 p6 p7 p8 p9 p10 p11 p12 p13 w3 w4 w5 w6 w7 p14 p15 w8 w9 w10 p16 p17 w11 w12 w13 w14 w15 p18 w16 w17 w18 h1 f0) H locs ∧ lv_has ls 3 [(0, .ref h0), (1, .int p0), (2, .int p1)]) (fun H locs ls st hP => ?_) (fun J_164 => ?_)
        · obtain ⟨v164_28_0, hv164_28_0, rfl, h, hl⟩ := hP
          exact q_iret X hr hlk hK h rfl (fun _ => 0, (vcons (fun _ => 0) (fun _ => (fun _ => 0))), fun _ _ => 0) ⟨(bw hv164_28_0 (by decide) (by decide)), (⟨by decide +kernel, by decide +kernel⟩ : 0 ≤ (0 : Int32).toInt ∧ (0 : Int32).toInt ≤ 0), trivial⟩ [0, 1] rfl rfl dX12_person_164 (Nat.le_of_ble_eq_true rfl) (Nat.le_of_ble_eq_true rfl)
        · skip
          refine lv_if_eq (tgt := 163) hx hb dX12_person_156 (by decide) (fun c_29 => ?_) (fun c_29 => ?_)
          · replace c_29 := i_eq (x := r_27) (y := 0) rfl (show (0 : Int32).toInt = 0 by decide) c_29
            refine lv_iconst (v := 0) hx hb dX12_person_163 (by decide) ?_
            exact J_164 _ _ _ _ ⟨0, ⟨by decide +kernel, by decide +kernel⟩, rfl, h_27, (lv_sub hl [0, 1, 2] rfl)⟩
          · replace c_29 := i_ne (x := r_27) (y := 0) rfl (show (0 : Int32).toInt = 0 by decide) c_29
            refine lv_iconst (v := 1) hx hb dX12_person_159 (by decide) ?_
            refine lv_goto (tgt := 164) hx hb dX12_person_160 (by decide) ?_
            exact J_164 _ _ _ _ ⟨1, ⟨by decide +kernel, by decide +kernel⟩, rfl, h_27, (lv_sub hl [0, 1, 2] rfl)⟩
      by_cases c_30 : p1 = 8
      · have ec_30 : (p1).toInt = 8 := by rw [c_30]; decide
        refine lv_tableIn (off := 121) (tgt := 165) hx hb dX12_person_44 (by rw [c_30]; decide +kernel) (by rw [c_30]; decide +kernel) (by rw [c_30]; decide +kernel) (by decide) ?_
        refine lv_aload_n hx hb dX12_person_165 rfl (lv_at hl 0 rfl) ?_
        refine q_callVi (rest := []) (wr := []) X hK hT hA h_6 (fun sz => gX12_townNow_2907b4b l D cy h0 h1 (0 : Int32) w0 w1 w2 p3 p4 p5 p6 p7 p8 p9 p10 p11 p12 p13 w3 w4 w5 w6 w7 p14 p15 w8 w9 w10 p16 p17 w11 w12 w13 w14 w15 p18 w16 w17 w18 f0 p19 ⟨by decide +kernel, by decide +kernel⟩ hp3 hp4 hp5 hp6 (i_rng _) hp8 (i_rng _) (i_rng _) (i_rng _) (i_rng _) (i_rng _) (i_rng _) (i_rng _) (i_rng _) (i_rng _) (i_rng _) hp19 htf0_84 rf0 sz) wm_6_170 wm_6_173 wm_1_12 hd_X12_townNow wm_6_172 wp_5_9 (ci := 12) (q0 := 0) rfl rfl ⟨Nat.le_of_ble_eq_true rfl, Nat.le_of_ble_eq_true rfl⟩ hl.1 rfl (Nat.le_of_ble_eq_true rfl) dX12_person_166 ⟨Nat.le_of_ble_eq_true rfl, Nat.le_of_ble_eq_true rfl⟩ [0, 1] [] rfl rfl (by decide) rfl rfl (fun r_31 u_31 H locs w_31 h_31 => ?_)
        clear h_6
        obtain ⟨wr_31, _⟩ := w_31
        replace h_31 : qW D _ _ (wk_e1f596b07 cy h0 0 h1 w0 w1 w2 p3 p4 p5 p6 p7 p8 p9 p10 p11 p12 p13 w3 w4 w5 w6 w7 p14 p15 w8 w9 w10 p16 p17 w11 w12 w13 w14 w15 p18 w16 w17 w18 h1 f0) _ _ := h_31
        refine lv_i2l hx hb dX12_person_169 rfl ?_
        obtain ⟨z_32, ez_32, hz_32⟩ := e_i2l (x := r_31) rfl
        refine q_cl z_32 ez_32 ?_
        clear ez_32
        refine lv_iload_n hx hb dX12_person_170 rfl (lv_at hl 1 rfl) ?_
        refine q_callSi (rest := []) (wr := (wk_e1f596b07 cy h0 0 h1 w0 w1 w2 p3 p4 p5 p6 p7 p8 p9 p10 p11 p12 p13 w3 w4 w5 w6 w7 p14 p15 w8 w9 w10 p16 p17 w11 w12 w13 w14 w15 p18 w16 w17 w18 h1 f0)) X hK hT hA h_31 (fun sz => gX12_isIn_b0455a8 l D cy z_32 p0 ⟨by omega, by omega⟩ ⟨by omega, by omega⟩ sz) wm_6_167 wm_6_169 wm_1_12 hd_X12_isIn wm_6_168 ⟨Nat.le_of_ble_eq_true rfl, Nat.le_of_ble_eq_true rfl⟩ hl.1 rfl (Nat.le_of_ble_eq_true rfl) dX12_person_171 ⟨Nat.le_of_ble_eq_true rfl, Nat.le_of_ble_eq_true rfl⟩ [] [0, 1] rfl rfl (by decide) rfl rfl (fun r_33 u_33 H locs w_33 h_33 => ?_)
        clear h_31
        obtain ⟨wr_33, _⟩ := w_33
        replace h_33 : qW D _ _ (wk_e1f596b07 cy h0 0 h1 w0 w1 w2 p3 p4 p5 p6 p7 p8 p9 p10 p11 p12 p13 w3 w4 w5 w6 w7 p14 p15 w8 w9 w10 p16 p17 w11 w12 w13 w14 w15 p18 w16 w17 w18 h1 f0) _ _ := h_33
        refine q_jn (pc2 := 182) (fun H locs ls st => ∃ v182_34_0 : Int32, (0 ≤ (v182_34_0).toInt ∧ (v182_34_0).toInt ≤ 1) ∧ st = [.int v182_34_0] ∧ qW D (va_A (wk_e1f596b07 cy h0 p2 h1 w0 w1 w2 p3 p4 p5 p6 p7 p8 p9 p10 p11 p12 p13 w3 w4 w5 w6 w7 p14 p15 w8 w9 w10 p16 p17 w11 w12 w13 w14 w15 p18 w16 w17 w18 h1 f0) sz) s.heap (wk_e1f596b07 cy h0 0 h1 w0 w1 w2 p3 p4 p5 p6 p7 p8 p9 p10 p11 p12 p13 w3 w4 w5 w6 w7 p14 p15 w8 w9 w10 p16 p17 w11 w12 w13 w14 w15 p18 w16 w17 w18 h1 f0) H locs ∧ lv_has ls 3 [(0, .ref h0), (1, .int p0), (2, .int p1)]) (fun H locs ls st hP => ?_) (fun J_182 => ?_)
        · obtain ⟨v182_34_0, hv182_34_0, rfl, h, hl⟩ := hP
          exact q_iret X hr hlk hK h rfl (fun _ => 0, (vcons (fun _ => 0) (fun _ => (fun _ => 0))), fun _ _ => 0) ⟨(bw hv182_34_0 (by decide) (by decide)), (⟨by decide +kernel, by decide +kernel⟩ : 0 ≤ (0 : Int32).toInt ∧ (0 : Int32).toInt ≤ 0), trivial⟩ [0, 1] rfl rfl dX12_person_182 (Nat.le_of_ble_eq_true rfl) (Nat.le_of_ble_eq_true rfl)
        · skip
          refine lv_if_eq (tgt := 181) hx hb dX12_person_174 (by decide) (fun c_35 => ?_) (fun c_35 => ?_)
          · replace c_35 := i_eq (x := r_33) (y := 0) rfl (show (0 : Int32).toInt = 0 by decide) c_35
            refine lv_iconst (v := 0) hx hb dX12_person_181 (by decide) ?_
            exact J_182 _ _ _ _ ⟨0, ⟨by decide +kernel, by decide +kernel⟩, rfl, h_33, (lv_sub hl [0, 1, 2] rfl)⟩
          · replace c_35 := i_ne (x := r_33) (y := 0) rfl (show (0 : Int32).toInt = 0 by decide) c_35
            refine lv_iconst (v := 1) hx hb dX12_person_177 (by decide) ?_
            refine lv_goto (tgt := 182) hx hb dX12_person_178 (by decide) ?_
            exact J_182 _ _ _ _ ⟨1, ⟨by decide +kernel, by decide +kernel⟩, rfl, h_33, (lv_sub hl [0, 1, 2] rfl)⟩
      have nc_8 := lv_neT c_8 (show (3 : Int32).toInt = 3 by decide)
      have nc_11 := lv_neT c_11 (show (4 : Int32).toInt = 4 by decide)
      have nc_18 := lv_neT c_18 (show (5 : Int32).toInt = 5 by decide)
      have nc_21 := lv_neT c_21 (show (6 : Int32).toInt = 6 by decide)
      have nc_24 := lv_neT c_24 (show (7 : Int32).toInt = 7 by decide)
      have nc_30 := lv_neT c_30 (show (8 : Int32).toInt = 8 by decide)
      refine lv_tableOut (tgt := 183) hx hb dX12_person_44 (by omega) (by decide) ?_
      refine lv_bipush (v := (-2)) hx hb dX12_person_183 (by decide) ?_
      exact q_iret X hr hlk hK h_6 rfl (fun _ => 0, (vcons (fun _ => 0) (fun _ => (fun _ => 0))), fun _ _ => 0) ⟨⟨by decide +kernel, by decide +kernel⟩, (⟨by decide +kernel, by decide +kernel⟩ : 0 ≤ (0 : Int32).toInt ∧ (0 : Int32).toInt ≤ 0), trivial⟩ [0, 1] rfl rfl dX12_person_185 (Nat.le_of_ble_eq_true rfl) (Nat.le_of_ble_eq_true rfl)
    · replace c_7 := i_ne (x := r_6) (y := 0) rfl (show (0 : Int32).toInt = 0 by decide) c_7
      replace y6_0 := a10_1 y6_0 c_7
      refine lv_aload_n hx hb dX12_person_29 rfl (lv_at hl 0 rfl) ?_
      refine q_get X hK h_6 0 rfl rfl wf_12 1 (by decide) rfl wm_5_171 dX12_person_30 ?_
      refine lv_bipush (v := 54) hx hb dX12_person_33 (by decide) ?_
      refine lv_iconst (v := 3) hx hb dX12_person_35 (by decide) ?_
      refine lv_iload_n hx hb dX12_person_36 rfl (lv_at hl 1 rfl) ?_
      refine lv_imul hx hb dX12_person_37 ?_
      obtain ⟨z_36, ez_36, hz_36⟩ := e_mul (x := 3) (y := p0) (show (3 : Int32).toInt = 3 by decide) rfl (by omega) (by omega)
      refine q_c z_36 ez_36 ?_
      clear ez_36
      refine lv_iadd hx hb dX12_person_38 ?_
      obtain ⟨z_37, ez_37, hz_37⟩ := e_add (x := 54) (y := z_36) (show (54 : Int32).toInt = 54 by decide) rfl (by omega) (by omega)
      refine q_c z_37 ez_37 ?_
      clear ez_37
      refine lv_iload_n hx hb dX12_person_39 rfl (lv_at hl 2 rfl) ?_
      refine lv_iadd hx hb dX12_person_40 ?_
      obtain ⟨z_38, ez_38, hz_38⟩ := e_add (x := z_37) (y := p1) rfl rfl (by omega) (by omega)
      refine q_c z_38 ez_38 ?_
      clear ez_38
      refine q_iald X hK h_6 1 rfl (i_in rfl (by omega) (by omega)) dX12_person_41 ?_
      obtain ⟨z_39, ez_39, hz_39⟩ := al_W rf0 (x := z_38) rfl (by omega) (by omega)
      refine q_c z_39 ez_39 ?_
      clear ez_39
      exact q_iret X hr hlk hK h_6 rfl (fun _ => 0, (vcons (fun _ => 0) (fun _ => (fun _ => 0))), fun _ _ => 0) ⟨⟨by omega, by omega⟩, (⟨by decide +kernel, by decide +kernel⟩ : 0 ≤ (0 : Int32).toInt ∧ (0 : Int32).toInt ≤ 0), trivial⟩ [0, 1] rfl rfl dX12_person_42 (Nat.le_of_ble_eq_true rfl) (Nat.le_of_ble_eq_true rfl)
  · replace c_4 := i_eq (x := r_3) (y := 0) rfl (show (0 : Int32).toInt = 0 by decide) c_4
    refine lv_bipush (v := (-2)) hx hb dX12_person_14 (by decide) ?_
    exact q_iret X hr hlk hK h_3 rfl (fun _ => 0, (vcons (fun _ => 0) (fun _ => (fun _ => 0))), fun _ _ => 0) ⟨⟨by decide +kernel, by decide +kernel⟩, (⟨by decide +kernel, by decide +kernel⟩ : 0 ≤ (0 : Int32).toInt ∧ (0 : Int32).toInt ≤ 0), trivial⟩ [0, 1] rfl rfl dX12_person_16 (Nat.le_of_ble_eq_true rfl) (Nat.le_of_ble_eq_true rfl)
set_option maxHeartbeats 4000000 in
set_option maxRecDepth 100000 in
theorem gX12_town_98d5f2e (l : Launch) (D : va_G) (cy : Nat → ClassId) (h0 : Nat) (h1 : Nat) (p0 : Int32) (p1 : Int32) (w0 : Value) (w1 : Value) (w2 : Value) (p2 : Int32) (p3 : Int32) (p4 : Int32) (p5 : Int32) (p6 : Int32) (p7 : Int32) (p8 : Int32) (p9 : Int32) (p10 : Int32) (p11 : Int32) (p12 : Int32) (w3 : Value) (w4 : Value) (w5 : Value) (w6 : Value) (w7 : Value) (p13 : Int32) (p14 : Int32) (w8 : Value) (w9 : Value) (w10 : Value) (p15 : Int32) (p16 : Int32) (w11 : Value) (w12 : Value) (w13 : Value) (w14 : Value) (w15 : Value) (p17 : Int32) (w16 : Value) (w17 : Value) (w18 : Value) (f0 : Nat → Int32) (p18 : Int32) (hp0 : (-2147483648) ≤ (p0).toInt ∧ (p0).toInt ≤ 2147483647) (hp1 : (-2147483648) ≤ (p1).toInt ∧ (p1).toInt ≤ 2147483647) (hp2 : 0 ≤ (p2).toInt ∧ (p2).toInt ≤ 900) (hp3 : 0 ≤ (p3).toInt ∧ (p3).toInt ≤ 900) (hp4 : 0 ≤ (p4).toInt ∧ (p4).toInt ≤ 900) (hp5 : 0 ≤ (p5).toInt ∧ (p5).toInt ≤ 900) (hp6 : (-2147483648) ≤ (p6).toInt ∧ (p6).toInt ≤ 2147483647) (hp7 : 0 ≤ (p7).toInt ∧ (p7).toInt ≤ 999) (hp8 : (-2147483648) ≤ (p8).toInt ∧ (p8).toInt ≤ 2147483647) (hp9 : (-2147483648) ≤ (p9).toInt ∧ (p9).toInt ≤ 2147483647) (hp10 : (-2147483648) ≤ (p10).toInt ∧ (p10).toInt ≤ 2147483647) (hp11 : (-2147483648) ≤ (p11).toInt ∧ (p11).toInt ≤ 2147483647) (hp12 : (-2147483648) ≤ (p12).toInt ∧ (p12).toInt ≤ 2147483647) (hp13 : (-2147483648) ≤ (p13).toInt ∧ (p13).toInt ≤ 2147483647) (hp14 : (-2147483648) ≤ (p14).toInt ∧ (p14).toInt ≤ 2147483647) (hp15 : (-2147483648) ≤ (p15).toInt ∧ (p15).toInt ≤ 2147483647) (hp16 : (-2147483648) ≤ (p16).toInt ∧ (p16).toInt ≤ 2147483647) (hp17 : (-2147483648) ≤ (p17).toInt ∧ (p17).toInt ≤ 2147483647) (hp18 : 0 ≤ (p18).toInt ∧ (p18).toInt ≤ 10) (htf0_84 : f0 84 = p18) (rf0 : AL f0) (sz : Nat) : MI l yX12_town cX12_town 2 .int { frames := 2, cells := 0, slots := 0, locals := 48 } [.ref h0, .int p0] D cy (wk_e1f596b07 cy h0 p1 h1 w0 w1 w2 p2 p3 p4 p5 p6 p7 p8 p9 p10 p11 p12 w3 w4 w5 w6 w7 p13 p14 w8 w9 w10 p15 p16 w11 w12 w13 w14 w15 p17 w16 w17 w18 h1 f0) sz (fun r u => ((-3) ≤ r.toInt ∧ r.toInt ≤ 1023) ∧ (0 ≤ (u.2.1 0 0).toInt ∧ (u.2.1 0 0).toInt ≤ 0) ∧ True) (fun u => (wk_e1f596b07 cy h0 (u.2.1 0 0) h1 w0 w1 w2 p2 p3 p4 p5 p6 p7 p8 p9 p10 p11 p12 w3 w4 w5 w6 w7 p13 p14 w8 w9 w10 p15 p16 w11 w12 w13 w14 w15 p17 w16 w17 w18 h1 f0)) 0 0 := by
  refine q_ent (own := RX12) (by decide) rfl (Nat.le_of_ble_eq_true rfl) (fun p e s m below meth c ls X hr hlk hnm hK hT h hA hl => ?_)
  obtain ⟨hx, hb, hml, hown, ht⟩ := id X
  replace hl : lv_has ls 2 [(0, .ref h0), (1, .int p0)] := hl
  refine lv_aload_n hx hb dX12_town_0 rfl (lv_at hl 0 rfl) ?_
  refine lv_iconst (v := 0) hx hb dX12_town_1 (by decide) ?_
  refine q_put (v := .int 0) X hK h 0 rfl rfl wf_12 tyX12 tyX12_ok nmX12 0 (by decide) wm_5_170 rfl rfl rfl (Nat.le_of_ble_eq_true rfl) dX12_town_2 (fun H locs h_1 => ?_)
  clear h
  replace h_1 : qW D _ _ (wk_e1f596b07 cy h0 0 h1 w0 w1 w2 p2 p3 p4 p5 p6 p7 p8 p9 p10 p11 p12 w3 w4 w5 w6 w7 p13 p14 w8 w9 w10 p15 p16 w11 w12 w13 w14 w15 p17 w16 w17 w18 h1 f0) _ _ := h_1
  refine lv_iload_n hx hb dX12_town_5 rfl (lv_at hl 1 rfl) ?_
  refine lv_i2l hx hb dX12_town_6 rfl ?_
  obtain ⟨z_2, ez_2, hz_2⟩ := e_i2l (x := p0) rfl
  refine q_cl z_2 ez_2 ?_
  clear ez_2
  refine lv_lconst (v := 0) hx hb dX12_town_7 (by decide) ?_
  refine lv_ldc2 hx hb hown (ht _ wm_6_182) dX12_town_8 ?_
  refine q_callSi (rest := []) (wr := (wk_e1f596b07 cy h0 0 h1 w0 w1 w2 p2 p3 p4 p5 p6 p7 p8 p9 p10 p11 p12 w3 w4 w5 w6 w7 p13 p14 w8 w9 w10 p15 p16 w11 w12 w13 w14 w15 p17 w16 w17 w18 h1 f0)) X hK hT hA h_1 (fun sz => gX12_within_00c7897 l D cy z_2 (0 : Int64) (999 : Int64) (j_rng _) ⟨by decide +kernel, by decide +kernel⟩ ⟨by decide +kernel, by decide +kernel⟩ sz) wm_6_50 wm_6_52 wm_1_12 hd_X12_within wm_6_51 ⟨Nat.le_of_ble_eq_true rfl, Nat.le_of_ble_eq_true rfl⟩ hl.1 rfl (Nat.le_of_ble_eq_true rfl) dX12_town_11 ⟨Nat.le_of_ble_eq_true rfl, Nat.le_of_ble_eq_true rfl⟩ [] [0, 1] rfl rfl (by decide) rfl rfl (fun r_3 u_3 H locs w_3 h_3 => ?_)
  clear h_1
  obtain ⟨wr_3, y3_0, _⟩ := w_3
  have lq_3_1 : (0 : Int64).toInt = 0 := (by decide)
  have lq_3_2 : (999 : Int64).toInt = 999 := (by decide)
  replace h_3 : qW D _ _ (wk_e1f596b07 cy h0 0 h1 w0 w1 w2 p2 p3 p4 p5 p6 p7 p8 p9 p10 p11 p12 w3 w4 w5 w6 w7 p13 p14 w8 w9 w10 p15 p16 w11 w12 w13 w14 w15 p17 w16 w17 w18 h1 f0) _ _ := h_3
  refine q_jn (pc2 := 35) (fun H locs ls st => ∃ v35_4_0 : Int32, ((-3) ≤ (v35_4_0).toInt ∧ (v35_4_0).toInt ≤ 1023) ∧ st = [.int v35_4_0] ∧ qW D (va_A (wk_e1f596b07 cy h0 p1 h1 w0 w1 w2 p2 p3 p4 p5 p6 p7 p8 p9 p10 p11 p12 w3 w4 w5 w6 w7 p13 p14 w8 w9 w10 p15 p16 w11 w12 w13 w14 w15 p17 w16 w17 w18 h1 f0) sz) s.heap (wk_e1f596b07 cy h0 0 h1 w0 w1 w2 p2 p3 p4 p5 p6 p7 p8 p9 p10 p11 p12 w3 w4 w5 w6 w7 p13 p14 w8 w9 w10 p15 p16 w11 w12 w13 w14 w15 p17 w16 w17 w18 h1 f0) H locs ∧ lv_has ls 2 [(0, .ref h0), (1, .int p0)]) (fun H locs ls st hP => ?_) (fun J_35 => ?_)
  · obtain ⟨v35_4_0, hv35_4_0, rfl, h, hl⟩ := hP
    exact q_iret X hr hlk hK h rfl (fun _ => 0, (vcons (fun _ => 0) (fun _ => (fun _ => 0))), fun _ _ => 0) ⟨hv35_4_0, (⟨by decide +kernel, by decide +kernel⟩ : 0 ≤ (0 : Int32).toInt ∧ (0 : Int32).toInt ≤ 0), trivial⟩ [0, 1] rfl rfl dX12_town_35 (Nat.le_of_ble_eq_true rfl) (Nat.le_of_ble_eq_true rfl)
  · skip
    refine lv_if_eq (tgt := 33) hx hb dX12_town_14 (by decide) (fun c_5 => ?_) (fun c_5 => ?_)
    · replace c_5 := i_eq (x := r_3) (y := 0) rfl (show (0 : Int32).toInt = 0 by decide) c_5
      replace y3_0 := a10_0 y3_0 c_5
      refine lv_bipush (v := (-3)) hx hb dX12_town_33 (by decide) ?_
      exact J_35 _ _ _ _ ⟨(-3), ⟨by decide +kernel, by decide +kernel⟩, rfl, h_3, (lv_sub hl [0, 1] rfl)⟩
    · replace c_5 := i_ne (x := r_3) (y := 0) rfl (show (0 : Int32).toInt = 0 by decide) c_5
      replace y3_0 := a10_1 y3_0 c_5
      refine lv_aload_n hx hb dX12_town_17 rfl (lv_at hl 0 rfl) ?_
      refine lv_aload_n hx hb dX12_town_18 rfl (lv_at hl 0 rfl) ?_
      refine q_get X hK h_3 0 rfl rfl wf_12 1 (by decide) rfl wm_5_171 dX12_town_19 ?_
      refine lv_bipush (v := 52) hx hb dX12_town_22 (by decide) ?_
      refine q_iald X hK h_3 1 rfl (q_in (by decide +kernel)) dX12_town_24 ?_
      refine q_any (fun z_6 hz_6 => ?_)
      refine lv_iload_n hx hb dX12_town_25 rfl (lv_at hl 1 rfl) ?_
      refine lv_iadd hx hb dX12_town_26 ?_
      refine q_any (fun z_7 hz_7 => ?_)
      refine q_callVi (rest := []) (wr := []) X hK hT hA h_3 (fun sz => gX12_townOn_aa3becc l D cy h0 h1 z_7 (0 : Int32) w0 w1 w2 p2 p3 p4 p5 p6 p7 p8 p9 p10 p11 p12 w3 w4 w5 w6 w7 p13 p14 w8 w9 w10 p15 p16 w11 w12 w13 w14 w15 p17 w16 w17 w18 f0 p18 (i_rng _) ⟨by decide +kernel, by decide +kernel⟩ hp2 hp3 hp4 hp5 (i_rng _) hp7 (i_rng _) (i_rng _) (i_rng _) (i_rng _) (i_rng _) (i_rng _) (i_rng _) (i_rng _) (i_rng _) (i_rng _) hp18 htf0_84 rf0 sz) wm_6_174 wm_6_177 wm_1_12 hd_X12_townOn wm_6_176 wp_5_10 (ci := 12) (q0 := 0) rfl rfl ⟨Nat.le_of_ble_eq_true rfl, Nat.le_of_ble_eq_true rfl⟩ hl.1 rfl (Nat.le_of_ble_eq_true rfl) dX12_town_27 ⟨Nat.le_of_ble_eq_true rfl, Nat.le_of_ble_eq_true rfl⟩ [0, 1] [] rfl rfl (by decide) rfl rfl (fun r_8 u_8 H locs w_8 h_8 => ?_)
      clear h_3
      obtain ⟨wr_8, _⟩ := w_8
      replace h_8 : qW D _ _ (wk_e1f596b07 cy h0 0 h1 w0 w1 w2 p2 p3 p4 p5 p6 p7 p8 p9 p10 p11 p12 w3 w4 w5 w6 w7 p13 p14 w8 w9 w10 p15 p16 w11 w12 w13 w14 w15 p17 w16 w17 w18 h1 f0) _ _ := h_8
      refine lv_goto (tgt := 35) hx hb dX12_town_30 (by decide) ?_
      exact J_35 _ _ _ _ ⟨r_8, (bw wr_8 (by decide) (by decide)), rfl, h_8, (lv_sub hl [0, 1] rfl)⟩
set_option maxHeartbeats 4000000 in
set_option maxRecDepth 100000 in
theorem gX12_asks_64a3bea (l : Launch) (D : va_G) (cy : Nat → ClassId) (h0 : Nat) (h1 : Nat) (h2 : Nat) (p0 : Int32) (p1 : Int32) (p2 : Int32) (p3 : Int32) (w0 : Value) (w1 : Value) (w2 : Value) (p4 : Int32) (p5 : Int32) (p6 : Int32) (p7 : Int32) (p8 : Int32) (p9 : Int32) (p10 : Int32) (p11 : Int32) (p12 : Int32) (p13 : Int32) (p14 : Int32) (w3 : Value) (w4 : Value) (w5 : Value) (w6 : Value) (p15 : Int32) (p16 : Int32) (w7 : Value) (w8 : Value) (w9 : Value) (p17 : Int32) (p18 : Int32) (w10 : Value) (w11 : Value) (w12 : Value) (w13 : Value) (w14 : Value) (p19 : Int32) (w15 : Value) (w16 : Value) (w17 : Value) (f0 : Nat → Int32) (p20 : Int32) (f1 : Nat → Int32) (hp0 : 0 ≤ (p0).toInt ∧ (p0).toInt ≤ 9) (hp1 : 0 ≤ (p1).toInt ∧ (p1).toInt ≤ 9) (hp2 : (-2147483648) ≤ (p2).toInt ∧ (p2).toInt ≤ 2147483647) (hp3 : 0 ≤ (p3).toInt ∧ (p3).toInt ≤ 0) (hp4 : 0 ≤ (p4).toInt ∧ (p4).toInt ≤ 900) (hp5 : 0 ≤ (p5).toInt ∧ (p5).toInt ≤ 900) (hp6 : 0 ≤ (p6).toInt ∧ (p6).toInt ≤ 900) (hp7 : 0 ≤ (p7).toInt ∧ (p7).toInt ≤ 900) (hp8 : (-2147483648) ≤ (p8).toInt ∧ (p8).toInt ≤ 2147483647) (hp9 : 0 ≤ (p9).toInt ∧ (p9).toInt ≤ 999) (hp10 : (-2147483648) ≤ (p10).toInt ∧ (p10).toInt ≤ 2147483647) (hp11 : (-2147483648) ≤ (p11).toInt ∧ (p11).toInt ≤ 2147483647) (hp12 : (-2147483648) ≤ (p12).toInt ∧ (p12).toInt ≤ 2147483647) (hp13 : (-2147483648) ≤ (p13).toInt ∧ (p13).toInt ≤ 2147483647) (hp14 : (-2147483648) ≤ (p14).toInt ∧ (p14).toInt ≤ 2147483647) (hp15 : (-2147483648) ≤ (p15).toInt ∧ (p15).toInt ≤ 2147483647) (hp16 : (-2147483648) ≤ (p16).toInt ∧ (p16).toInt ≤ 2147483647) (hp17 : (-2147483648) ≤ (p17).toInt ∧ (p17).toInt ≤ 2147483647) (hp18 : (-2147483648) ≤ (p18).toInt ∧ (p18).toInt ≤ 2147483647) (hp19 : (-2147483648) ≤ (p19).toInt ∧ (p19).toInt ≤ 2147483647) (hp20 : 0 ≤ (p20).toInt ∧ (p20).toInt ≤ 10) (htf0_84 : f0 84 = p20) (rf0 : AL f0) (sz : Nat) : MV l yX12_asks cX12_asks 5 { frames := 0, cells := 0, slots := 0, locals := 0 } [.ref h0, .int p0, .int p1, .int p2] D cy (wk_177a9dc22 cy h0 p3 h1 w0 w1 w2 p4 p5 p6 p7 p8 p9 p10 p11 p12 p13 p14 w3 h2 w4 w5 w6 p15 p16 w7 w8 w9 p17 p18 w10 w11 w12 w13 w14 p19 w15 w16 w17 h1 f0 h2 f1) sz (fun u => True) (fun u => (wk_177a9dc22 cy h0 p3 h1 w0 w1 w2 p4 p5 p6 p7 p8 p9 p10 p11 p12 p13 p14 w3 h2 w4 w5 w6 p15 p16 w7 w8 w9 p17 p18 w10 w11 w12 w13 w14 p19 w15 w16 w17 h1 f0 h2 (u.2.1 0))) 0 0 := by
  refine q_ent (own := RX12) (by decide) rfl (Nat.le_of_ble_eq_true rfl) (fun p e s m below meth c ls X hr hlk hnm hK hT h hA hl => ?_)
  obtain ⟨hx, hb, hml, hown, ht⟩ := id X
  replace hl : lv_has ls 5 [(0, .ref h0), (1, .int p0), (2, .int p1), (3, .int p2)] := hl
  refine lv_iconst (v := 0) hx hb dX12_asks_0 (by decide) ?_
  refine lv_istore (lv' := [(4, .int 0), (0, .ref h0), (1, .int p0), (2, .int p1), (3, .int p2)]) hx hb dX12_asks_1 hl (by decide) rfl (fun ls_1 hl_1 => ?_)
  clear hl
  refine lv_iload hx hb dX12_asks_3 (lv_at hl_1 0 rfl) ?_
  refine lv_iconst (v := 3) hx hb dX12_asks_5 (by decide) ?_
  refine lv_icmp_ge (tgt := 59) hx hb dX12_asks_6 (by decide) (fun c => absurd c (by decide +kernel)) (fun _ => ?_)
  refine lv_aload_n hx hb dX12_asks_9 rfl (lv_at hl_1 1 rfl) ?_
  refine q_get X hK h 0 rfl rfl wf_12 17 (by decide) rfl wm_5_187 dX12_asks_10 ?_
  refine lv_iload hx hb dX12_asks_13 (lv_at hl_1 0 rfl) ?_
  refine lv_aload_n hx hb dX12_asks_15 rfl (lv_at hl_1 1 rfl) ?_
  refine q_get X hK h 0 rfl rfl wf_12 1 (by decide) rfl wm_5_171 dX12_asks_16 ?_
  refine lv_bipush (v := 54) hx hb dX12_asks_19 (by decide) ?_
  refine lv_iconst (v := 3) hx hb dX12_asks_21 (by decide) ?_
  refine lv_iload_n hx hb dX12_asks_22 rfl (lv_at hl_1 2 rfl) ?_
  refine lv_imul hx hb dX12_asks_23 ?_
  obtain ⟨z_2, ez_2, hz_2⟩ := e_mul (x := 3) (y := p0) (show (3 : Int32).toInt = 3 by decide) rfl (by omega) (by omega)
  refine q_c z_2 ez_2 ?_
  clear ez_2
  refine lv_iadd hx hb dX12_asks_24 ?_
  obtain ⟨z_3, ez_3, hz_3⟩ := e_add (x := 54) (y := z_2) (show (54 : Int32).toInt = 54 by decide) rfl (by omega) (by omega)
  refine q_c z_3 ez_3 ?_
  clear ez_3
  refine lv_iload hx hb dX12_asks_25 (lv_at hl_1 0 rfl) ?_
  refine lv_iadd hx hb dX12_asks_27 ?_
  obtain ⟨z_4, ez_4, hz_4⟩ := e_add (x := z_3) (y := 0) rfl (show (0 : Int32).toInt = 0 by decide) (by omega) (by omega)
  refine q_c z_4 ez_4 ?_
  clear ez_4
  refine q_iald X hK h 1 rfl (i_in rfl (by omega) (by omega)) dX12_asks_28 ?_
  obtain ⟨z_5, ez_5, hz_5⟩ := al_W rf0 (x := z_4) rfl (by omega) (by omega)
  refine q_c z_5 ez_5 ?_
  clear ez_5
  refine q_iast X hK h 2 rfl (q_in (by decide +kernel)) dX12_asks_29 (fun H locs h_7 => ?_)
  clear h
  replace h_7 : qW D _ _ (wk_177a9dc22 cy h0 p3 h1 w0 w1 w2 p4 p5 p6 p7 p8 p9 p10 p11 p12 p13 p14 w3 h2 w4 w5 w6 p15 p16 w7 w8 w9 p17 p18 w10 w11 w12 w13 w14 p19 w15 w16 w17 h1 f0 h2 (upd f1 (Int32.toNatClampNeg 0) z_5)) _ _ := h_7
  obtain ⟨F_6, eF_6⟩ : ∃ z, (upd f1 (Int32.toNatClampNeg 0) z_5) = z := ⟨_, rfl⟩
  rw [eF_6] at h_7
  clear eF_6
  refine lv_aload_n hx hb dX12_asks_30 rfl (lv_at hl_1 1 rfl) ?_
  refine q_get X hK h_7 0 rfl rfl wf_12 17 (by decide) rfl wm_5_187 dX12_asks_31 ?_
  refine lv_iconst (v := 5) hx hb dX12_asks_34 (by decide) ?_
  refine lv_iload hx hb dX12_asks_35 (lv_at hl_1 0 rfl) ?_
  refine lv_iadd hx hb dX12_asks_37 ?_
  refine q_c 5 (by decide +kernel) ?_
  refine lv_aload_n hx hb dX12_asks_38 rfl (lv_at hl_1 1 rfl) ?_
  refine q_get X hK h_7 0 rfl rfl wf_12 1 (by decide) rfl wm_5_171 dX12_asks_39 ?_
  refine lv_bipush (v := 54) hx hb dX12_asks_42 (by decide) ?_
  refine lv_iconst (v := 3) hx hb dX12_asks_44 (by decide) ?_
  refine lv_iload_n hx hb dX12_asks_45 rfl (lv_at hl_1 3 rfl) ?_
  refine lv_imul hx hb dX12_asks_46 ?_
  obtain ⟨z_8, ez_8, hz_8⟩ := e_mul (x := 3) (y := p1) (show (3 : Int32).toInt = 3 by decide) rfl (by omega) (by omega)
  refine q_c z_8 ez_8 ?_
  clear ez_8
  refine lv_iadd hx hb dX12_asks_47 ?_
  obtain ⟨z_9, ez_9, hz_9⟩ := e_add (x := 54) (y := z_8) (show (54 : Int32).toInt = 54 by decide) rfl (by omega) (by omega)
  refine q_c z_9 ez_9 ?_
  clear ez_9
  refine lv_iload hx hb dX12_asks_48 (lv_at hl_1 0 rfl) ?_
  refine lv_iadd hx hb dX12_asks_50 ?_
  obtain ⟨z_10, ez_10, hz_10⟩ := e_add (x := z_9) (y := 0) rfl (show (0 : Int32).toInt = 0 by decide) (by omega) (by omega)
  refine q_c z_10 ez_10 ?_
  clear ez_10
  refine q_iald X hK h_7 1 rfl (i_in rfl (by omega) (by omega)) dX12_asks_51 ?_
  obtain ⟨z_11, ez_11, hz_11⟩ := al_W rf0 (x := z_10) rfl (by omega) (by omega)
  refine q_c z_11 ez_11 ?_
  clear ez_11
  refine q_iast X hK h_7 2 rfl (q_in (by decide +kernel)) dX12_asks_52 (fun H locs h_13 => ?_)
  clear h_7
  replace h_13 : qW D _ _ (wk_177a9dc22 cy h0 p3 h1 w0 w1 w2 p4 p5 p6 p7 p8 p9 p10 p11 p12 p13 p14 w3 h2 w4 w5 w6 p15 p16 w7 w8 w9 p17 p18 w10 w11 w12 w13 w14 p19 w15 w16 w17 h1 f0 h2 (upd F_6 (Int32.toNatClampNeg 5) z_11)) _ _ := h_13
  obtain ⟨F_12, eF_12⟩ : ∃ z, (upd F_6 (Int32.toNatClampNeg 5) z_11) = z := ⟨_, rfl⟩
  rw [eF_12] at h_13
  clear eF_12
  refine lv_iinc (v := 1) (lv' := [(4, .int 1), (0, .ref h0), (1, .int p0), (2, .int p1), (3, .int p2)]) hx hb dX12_asks_53 hl_1 (k := 0) rfl (by decide +kernel) (by decide) rfl (fun ls_14 hl_14 => ?_)
  clear hl_1
  refine lv_goto (tgt := 3) hx hb dX12_asks_56 (by decide) ?_
  refine lv_iload hx hb dX12_asks_3 (lv_at hl_14 0 rfl) ?_
  refine lv_iconst (v := 3) hx hb dX12_asks_5 (by decide) ?_
  refine lv_icmp_ge (tgt := 59) hx hb dX12_asks_6 (by decide) (fun c => absurd c (by decide +kernel)) (fun _ => ?_)
  refine lv_aload_n hx hb dX12_asks_9 rfl (lv_at hl_14 1 rfl) ?_
  refine q_get X hK h_13 0 rfl rfl wf_12 17 (by decide) rfl wm_5_187 dX12_asks_10 ?_
  refine lv_iload hx hb dX12_asks_13 (lv_at hl_14 0 rfl) ?_
  refine lv_aload_n hx hb dX12_asks_15 rfl (lv_at hl_14 1 rfl) ?_
  refine q_get X hK h_13 0 rfl rfl wf_12 1 (by decide) rfl wm_5_171 dX12_asks_16 ?_
  refine lv_bipush (v := 54) hx hb dX12_asks_19 (by decide) ?_
  refine lv_iconst (v := 3) hx hb dX12_asks_21 (by decide) ?_
  refine lv_iload_n hx hb dX12_asks_22 rfl (lv_at hl_14 2 rfl) ?_
  refine lv_imul hx hb dX12_asks_23 ?_
  obtain ⟨z_15, ez_15, hz_15⟩ := e_mul (x := 3) (y := p0) (show (3 : Int32).toInt = 3 by decide) rfl (by omega) (by omega)
  refine q_c z_15 ez_15 ?_
  clear ez_15
  refine lv_iadd hx hb dX12_asks_24 ?_
  obtain ⟨z_16, ez_16, hz_16⟩ := e_add (x := 54) (y := z_15) (show (54 : Int32).toInt = 54 by decide) rfl (by omega) (by omega)
  refine q_c z_16 ez_16 ?_
  clear ez_16
  refine lv_iload hx hb dX12_asks_25 (lv_at hl_14 0 rfl) ?_
  refine lv_iadd hx hb dX12_asks_27 ?_
  obtain ⟨z_17, ez_17, hz_17⟩ := e_add (x := z_16) (y := 1) rfl (show (1 : Int32).toInt = 1 by decide) (by omega) (by omega)
  refine q_c z_17 ez_17 ?_
  clear ez_17
  refine q_iald X hK h_13 1 rfl (i_in rfl (by omega) (by omega)) dX12_asks_28 ?_
  obtain ⟨z_18, ez_18, hz_18⟩ := al_W rf0 (x := z_17) rfl (by omega) (by omega)
  refine q_c z_18 ez_18 ?_
  clear ez_18
  refine q_iast X hK h_13 2 rfl (q_in (by decide +kernel)) dX12_asks_29 (fun H locs h_20 => ?_)
  clear h_13
  replace h_20 : qW D _ _ (wk_177a9dc22 cy h0 p3 h1 w0 w1 w2 p4 p5 p6 p7 p8 p9 p10 p11 p12 p13 p14 w3 h2 w4 w5 w6 p15 p16 w7 w8 w9 p17 p18 w10 w11 w12 w13 w14 p19 w15 w16 w17 h1 f0 h2 (upd F_12 (Int32.toNatClampNeg 1) z_18)) _ _ := h_20
  obtain ⟨F_19, eF_19⟩ : ∃ z, (upd F_12 (Int32.toNatClampNeg 1) z_18) = z := ⟨_, rfl⟩
  rw [eF_19] at h_20
  clear eF_19
  refine lv_aload_n hx hb dX12_asks_30 rfl (lv_at hl_14 1 rfl) ?_
  refine q_get X hK h_20 0 rfl rfl wf_12 17 (by decide) rfl wm_5_187 dX12_asks_31 ?_
  refine lv_iconst (v := 5) hx hb dX12_asks_34 (by decide) ?_
  refine lv_iload hx hb dX12_asks_35 (lv_at hl_14 0 rfl) ?_
  refine lv_iadd hx hb dX12_asks_37 ?_
  refine q_c 6 (by decide +kernel) ?_
  refine lv_aload_n hx hb dX12_asks_38 rfl (lv_at hl_14 1 rfl) ?_
  refine q_get X hK h_20 0 rfl rfl wf_12 1 (by decide) rfl wm_5_171 dX12_asks_39 ?_
  refine lv_bipush (v := 54) hx hb dX12_asks_42 (by decide) ?_
  refine lv_iconst (v := 3) hx hb dX12_asks_44 (by decide) ?_
  refine lv_iload_n hx hb dX12_asks_45 rfl (lv_at hl_14 3 rfl) ?_
  refine lv_imul hx hb dX12_asks_46 ?_
  obtain ⟨z_21, ez_21, hz_21⟩ := e_mul (x := 3) (y := p1) (show (3 : Int32).toInt = 3 by decide) rfl (by omega) (by omega)
  refine q_c z_21 ez_21 ?_
  clear ez_21
  refine lv_iadd hx hb dX12_asks_47 ?_
  obtain ⟨z_22, ez_22, hz_22⟩ := e_add (x := 54) (y := z_21) (show (54 : Int32).toInt = 54 by decide) rfl (by omega) (by omega)
  refine q_c z_22 ez_22 ?_
  clear ez_22
  refine lv_iload hx hb dX12_asks_48 (lv_at hl_14 0 rfl) ?_
  refine lv_iadd hx hb dX12_asks_50 ?_
  obtain ⟨z_23, ez_23, hz_23⟩ := e_add (x := z_22) (y := 1) rfl (show (1 : Int32).toInt = 1 by decide) (by omega) (by omega)
  refine q_c z_23 ez_23 ?_
  clear ez_23
  refine q_iald X hK h_20 1 rfl (i_in rfl (by omega) (by omega)) dX12_asks_51 ?_
  obtain ⟨z_24, ez_24, hz_24⟩ := al_W rf0 (x := z_23) rfl (by omega) (by omega)
  refine q_c z_24 ez_24 ?_
  clear ez_24
  refine q_iast X hK h_20 2 rfl (q_in (by decide +kernel)) dX12_asks_52 (fun H locs h_26 => ?_)
  clear h_20
  replace h_26 : qW D _ _ (wk_177a9dc22 cy h0 p3 h1 w0 w1 w2 p4 p5 p6 p7 p8 p9 p10 p11 p12 p13 p14 w3 h2 w4 w5 w6 p15 p16 w7 w8 w9 p17 p18 w10 w11 w12 w13 w14 p19 w15 w16 w17 h1 f0 h2 (upd F_19 (Int32.toNatClampNeg 6) z_24)) _ _ := h_26
  obtain ⟨F_25, eF_25⟩ : ∃ z, (upd F_19 (Int32.toNatClampNeg 6) z_24) = z := ⟨_, rfl⟩
  rw [eF_25] at h_26
  clear eF_25
  refine lv_iinc (v := 2) (lv' := [(4, .int 2), (0, .ref h0), (1, .int p0), (2, .int p1), (3, .int p2)]) hx hb dX12_asks_53 hl_14 (k := 0) rfl (by decide +kernel) (by decide) rfl (fun ls_27 hl_27 => ?_)
  clear hl_14
  refine lv_goto (tgt := 3) hx hb dX12_asks_56 (by decide) ?_
  refine lv_iload hx hb dX12_asks_3 (lv_at hl_27 0 rfl) ?_
  refine lv_iconst (v := 3) hx hb dX12_asks_5 (by decide) ?_
  refine lv_icmp_ge (tgt := 59) hx hb dX12_asks_6 (by decide) (fun c => absurd c (by decide +kernel)) (fun _ => ?_)
  refine lv_aload_n hx hb dX12_asks_9 rfl (lv_at hl_27 1 rfl) ?_
  refine q_get X hK h_26 0 rfl rfl wf_12 17 (by decide) rfl wm_5_187 dX12_asks_10 ?_
  refine lv_iload hx hb dX12_asks_13 (lv_at hl_27 0 rfl) ?_
  refine lv_aload_n hx hb dX12_asks_15 rfl (lv_at hl_27 1 rfl) ?_
  refine q_get X hK h_26 0 rfl rfl wf_12 1 (by decide) rfl wm_5_171 dX12_asks_16 ?_
  refine lv_bipush (v := 54) hx hb dX12_asks_19 (by decide) ?_
  refine lv_iconst (v := 3) hx hb dX12_asks_21 (by decide) ?_
  refine lv_iload_n hx hb dX12_asks_22 rfl (lv_at hl_27 2 rfl) ?_
  refine lv_imul hx hb dX12_asks_23 ?_
  obtain ⟨z_28, ez_28, hz_28⟩ := e_mul (x := 3) (y := p0) (show (3 : Int32).toInt = 3 by decide) rfl (by omega) (by omega)
  refine q_c z_28 ez_28 ?_
  clear ez_28
  refine lv_iadd hx hb dX12_asks_24 ?_
  obtain ⟨z_29, ez_29, hz_29⟩ := e_add (x := 54) (y := z_28) (show (54 : Int32).toInt = 54 by decide) rfl (by omega) (by omega)
  refine q_c z_29 ez_29 ?_
  clear ez_29
  refine lv_iload hx hb dX12_asks_25 (lv_at hl_27 0 rfl) ?_
  refine lv_iadd hx hb dX12_asks_27 ?_
  obtain ⟨z_30, ez_30, hz_30⟩ := e_add (x := z_29) (y := 2) rfl (show (2 : Int32).toInt = 2 by decide) (by omega) (by omega)
  refine q_c z_30 ez_30 ?_
  clear ez_30
  refine q_iald X hK h_26 1 rfl (i_in rfl (by omega) (by omega)) dX12_asks_28 ?_
  obtain ⟨z_31, ez_31, hz_31⟩ := al_W rf0 (x := z_30) rfl (by omega) (by omega)
  refine q_c z_31 ez_31 ?_
  clear ez_31
  refine q_iast X hK h_26 2 rfl (q_in (by decide +kernel)) dX12_asks_29 (fun H locs h_33 => ?_)
  clear h_26
  replace h_33 : qW D _ _ (wk_177a9dc22 cy h0 p3 h1 w0 w1 w2 p4 p5 p6 p7 p8 p9 p10 p11 p12 p13 p14 w3 h2 w4 w5 w6 p15 p16 w7 w8 w9 p17 p18 w10 w11 w12 w13 w14 p19 w15 w16 w17 h1 f0 h2 (upd F_25 (Int32.toNatClampNeg 2) z_31)) _ _ := h_33
  obtain ⟨F_32, eF_32⟩ : ∃ z, (upd F_25 (Int32.toNatClampNeg 2) z_31) = z := ⟨_, rfl⟩
  rw [eF_32] at h_33
  clear eF_32
  refine lv_aload_n hx hb dX12_asks_30 rfl (lv_at hl_27 1 rfl) ?_
  refine q_get X hK h_33 0 rfl rfl wf_12 17 (by decide) rfl wm_5_187 dX12_asks_31 ?_
  refine lv_iconst (v := 5) hx hb dX12_asks_34 (by decide) ?_
  refine lv_iload hx hb dX12_asks_35 (lv_at hl_27 0 rfl) ?_
  refine lv_iadd hx hb dX12_asks_37 ?_
  refine q_c 7 (by decide +kernel) ?_
  refine lv_aload_n hx hb dX12_asks_38 rfl (lv_at hl_27 1 rfl) ?_
  refine q_get X hK h_33 0 rfl rfl wf_12 1 (by decide) rfl wm_5_171 dX12_asks_39 ?_
  refine lv_bipush (v := 54) hx hb dX12_asks_42 (by decide) ?_
  refine lv_iconst (v := 3) hx hb dX12_asks_44 (by decide) ?_
  refine lv_iload_n hx hb dX12_asks_45 rfl (lv_at hl_27 3 rfl) ?_
  refine lv_imul hx hb dX12_asks_46 ?_
  obtain ⟨z_34, ez_34, hz_34⟩ := e_mul (x := 3) (y := p1) (show (3 : Int32).toInt = 3 by decide) rfl (by omega) (by omega)
  refine q_c z_34 ez_34 ?_
  clear ez_34
  refine lv_iadd hx hb dX12_asks_47 ?_
  obtain ⟨z_35, ez_35, hz_35⟩ := e_add (x := 54) (y := z_34) (show (54 : Int32).toInt = 54 by decide) rfl (by omega) (by omega)
  refine q_c z_35 ez_35 ?_
  clear ez_35
  refine lv_iload hx hb dX12_asks_48 (lv_at hl_27 0 rfl) ?_
  refine lv_iadd hx hb dX12_asks_50 ?_
  obtain ⟨z_36, ez_36, hz_36⟩ := e_add (x := z_35) (y := 2) rfl (show (2 : Int32).toInt = 2 by decide) (by omega) (by omega)
  refine q_c z_36 ez_36 ?_
  clear ez_36
  refine q_iald X hK h_33 1 rfl (i_in rfl (by omega) (by omega)) dX12_asks_51 ?_
  obtain ⟨z_37, ez_37, hz_37⟩ := al_W rf0 (x := z_36) rfl (by omega) (by omega)
  refine q_c z_37 ez_37 ?_
  clear ez_37
  refine q_iast X hK h_33 2 rfl (q_in (by decide +kernel)) dX12_asks_52 (fun H locs h_39 => ?_)
  clear h_33
  replace h_39 : qW D _ _ (wk_177a9dc22 cy h0 p3 h1 w0 w1 w2 p4 p5 p6 p7 p8 p9 p10 p11 p12 p13 p14 w3 h2 w4 w5 w6 p15 p16 w7 w8 w9 p17 p18 w10 w11 w12 w13 w14 p19 w15 w16 w17 h1 f0 h2 (upd F_32 (Int32.toNatClampNeg 7) z_37)) _ _ := h_39
  obtain ⟨F_38, eF_38⟩ : ∃ z, (upd F_32 (Int32.toNatClampNeg 7) z_37) = z := ⟨_, rfl⟩
  rw [eF_38] at h_39
  clear eF_38
  refine lv_iinc (v := 3) (lv' := [(4, .int 3), (0, .ref h0), (1, .int p0), (2, .int p1), (3, .int p2)]) hx hb dX12_asks_53 hl_27 (k := 0) rfl (by decide +kernel) (by decide) rfl (fun ls_40 hl_40 => ?_)
  clear hl_27
  refine lv_goto (tgt := 3) hx hb dX12_asks_56 (by decide) ?_
  refine lv_iload hx hb dX12_asks_3 (lv_at hl_40 0 rfl) ?_
  refine lv_iconst (v := 3) hx hb dX12_asks_5 (by decide) ?_
  refine lv_icmp_ge (tgt := 59) hx hb dX12_asks_6 (by decide) (fun _ => ?_) (fun c => absurd c (by decide +kernel))
  refine lv_aload_n hx hb dX12_asks_59 rfl (lv_at hl_40 1 rfl) ?_
  refine q_get X hK h_39 0 rfl rfl wf_12 17 (by decide) rfl wm_5_187 dX12_asks_60 ?_
  refine lv_iconst (v := 3) hx hb dX12_asks_63 (by decide) ?_
  refine lv_iload_n hx hb dX12_asks_64 rfl (lv_at hl_40 2 rfl) ?_
  refine q_iast X hK h_39 2 rfl (q_in (by decide +kernel)) dX12_asks_65 (fun H locs h_42 => ?_)
  clear h_39
  replace h_42 : qW D _ _ (wk_177a9dc22 cy h0 p3 h1 w0 w1 w2 p4 p5 p6 p7 p8 p9 p10 p11 p12 p13 p14 w3 h2 w4 w5 w6 p15 p16 w7 w8 w9 p17 p18 w10 w11 w12 w13 w14 p19 w15 w16 w17 h1 f0 h2 (upd F_38 (Int32.toNatClampNeg 3) p0)) _ _ := h_42
  obtain ⟨F_41, eF_41⟩ : ∃ z, (upd F_38 (Int32.toNatClampNeg 3) p0) = z := ⟨_, rfl⟩
  rw [eF_41] at h_42
  clear eF_41
  refine lv_aload_n hx hb dX12_asks_66 rfl (lv_at hl_40 1 rfl) ?_
  refine q_get X hK h_42 0 rfl rfl wf_12 17 (by decide) rfl wm_5_187 dX12_asks_67 ?_
  refine lv_bipush (v := 8) hx hb dX12_asks_70 (by decide) ?_
  refine lv_iload_n hx hb dX12_asks_72 rfl (lv_at hl_40 3 rfl) ?_
  refine q_iast X hK h_42 2 rfl (q_in (by decide +kernel)) dX12_asks_73 (fun H locs h_44 => ?_)
  clear h_42
  replace h_44 : qW D _ _ (wk_177a9dc22 cy h0 p3 h1 w0 w1 w2 p4 p5 p6 p7 p8 p9 p10 p11 p12 p13 p14 w3 h2 w4 w5 w6 p15 p16 w7 w8 w9 p17 p18 w10 w11 w12 w13 w14 p19 w15 w16 w17 h1 f0 h2 (upd F_41 (Int32.toNatClampNeg 8) p1)) _ _ := h_44
  obtain ⟨F_43, eF_43⟩ : ∃ z, (upd F_41 (Int32.toNatClampNeg 8) p1) = z := ⟨_, rfl⟩
  rw [eF_43] at h_44
  clear eF_43
  refine lv_aload_n hx hb dX12_asks_74 rfl (lv_at hl_40 1 rfl) ?_
  refine q_get X hK h_44 0 rfl rfl wf_12 17 (by decide) rfl wm_5_187 dX12_asks_75 ?_
  refine lv_iconst (v := 4) hx hb dX12_asks_78 (by decide) ?_
  refine lv_iload_n hx hb dX12_asks_79 rfl (lv_at hl_40 4 rfl) ?_
  refine lv_bipush (v := 7) hx hb dX12_asks_80 (by decide) ?_
  refine lv_irem hx hb dX12_asks_82 (by decide) ?_
  refine q_any (fun z_45 hz_45 => ?_)
  refine q_iast X hK h_44 2 rfl (q_in (by decide +kernel)) dX12_asks_83 (fun H locs h_47 => ?_)
  clear h_44
  replace h_47 : qW D _ _ (wk_177a9dc22 cy h0 p3 h1 w0 w1 w2 p4 p5 p6 p7 p8 p9 p10 p11 p12 p13 p14 w3 h2 w4 w5 w6 p15 p16 w7 w8 w9 p17 p18 w10 w11 w12 w13 w14 p19 w15 w16 w17 h1 f0 h2 (upd F_43 (Int32.toNatClampNeg 4) z_45)) _ _ := h_47
  obtain ⟨F_46, eF_46⟩ : ∃ z, (upd F_43 (Int32.toNatClampNeg 4) z_45) = z := ⟨_, rfl⟩
  rw [eF_46] at h_47
  clear eF_46
  exact q_vret X hr hlk hK h_47 (fun _ => 0, (vcons F_46 (fun _ => (fun _ => 0))), fun _ _ => 0) trivial [0, 1, 2] rfl rfl dX12_asks_84 (Nat.le_of_ble_eq_true rfl) (Nat.le_of_ble_eq_true rfl)
set_option maxHeartbeats 4000000 in
set_option maxRecDepth 100000 in
theorem gX12_between_b825dc3 (l : Launch) (D : va_G) (cy : Nat → ClassId) (p0 : Int32) (p1 : Int32) (p2 : Int32) (hp0 : 3000 ≤ (p0).toInt ∧ (p0).toInt ≤ 2147483647) (hp1 : (-2147483648) ≤ (p1).toInt ∧ (p1).toInt ≤ 2147483647) (hp2 : (-2147483648) ≤ (p2).toInt ∧ (p2).toInt ≤ 2147483647) (sz : Nat) : MI l yX12_between cX12_between 5 .int { frames := 0, cells := 0, slots := 0, locals := 0 } [.int p0, .int p1, .int p2] D cy [] sz (fun r u => ((-2147483648) ≤ r.toInt ∧ r.toInt ≤ 2147483647) ∧ True) (fun u => []) 0 0 := by
  refine q_ent (own := RX12) (by decide) rfl (Nat.le_of_ble_eq_true rfl) (fun p e s m below meth c ls X hr hlk hnm hK hT h hA hl => ?_)
  obtain ⟨hx, hb, hml, hown, ht⟩ := id X
  replace hl : lv_has ls 5 [(0, .int p0), (1, .int p1), (2, .int p2)] := hl
  refine lv_iload_n hx hb dX12_between_0 rfl (lv_at hl 0 rfl) ?_
  by_cases c_1 : p0 = 3003
  · have ec_1 : (p0).toInt = 3003 := by rw [c_1]; decide
    refine lv_tableIn (off := 39) (tgt := 40) hx hb dX12_between_1 (by rw [c_1]; decide +kernel) (by rw [c_1]; decide +kernel) (by rw [c_1]; decide +kernel) (by decide) ?_
    refine lv_iload_n hx hb dX12_between_40 rfl (lv_at hl 1 rfl) ?_
    refine lv_iload_n hx hb dX12_between_41 rfl (lv_at hl 2 rfl) ?_
    refine q_jn (pc2 := 50) (fun H locs ls st => ∃ v50_2_0 : Int32, (0 ≤ (v50_2_0).toInt ∧ (v50_2_0).toInt ≤ 1) ∧ st = [.int v50_2_0] ∧ qW D (va_A [] sz) s.heap [] H locs ∧ lv_has ls 5 [(0, .int p0), (1, .int p1), (2, .int p2)]) (fun H locs ls st hP => ?_) (fun J_50 => ?_)
    · obtain ⟨v50_2_0, hv50_2_0, rfl, h, hl⟩ := hP
      exact q_iret X hr hlk hK h rfl (fun _ => 0, fun _ _ => 0, fun _ _ => 0) ⟨(bw hv50_2_0 (by decide) (by decide)), trivial⟩ [] rfl rfl dX12_between_50 (Nat.le_of_ble_eq_true rfl) (Nat.le_of_ble_eq_true rfl)
    · skip
      refine lv_icmp_ne (tgt := 49) hx hb dX12_between_42 (by decide) (fun c_3 => ?_) (fun c_3 => ?_)
      · replace c_3 := i_ne (x := p1) (y := p2) rfl rfl c_3
        refine lv_iconst (v := 0) hx hb dX12_between_49 (by decide) ?_
        exact J_50 _ _ _ _ ⟨0, ⟨by decide +kernel, by decide +kernel⟩, rfl, h, (lv_sub hl [0, 1, 2] rfl)⟩
      · replace c_3 := i_eq (x := p1) (y := p2) rfl rfl c_3
        refine lv_iconst (v := 1) hx hb dX12_between_45 (by decide) ?_
        refine lv_goto (tgt := 50) hx hb dX12_between_46 (by decide) ?_
        exact J_50 _ _ _ _ ⟨1, ⟨by decide +kernel, by decide +kernel⟩, rfl, h, (lv_sub hl [0, 1, 2] rfl)⟩
  by_cases c_4 : p0 = 3004
  · have ec_4 : (p0).toInt = 3004 := by rw [c_4]; decide
    refine lv_tableIn (off := 50) (tgt := 51) hx hb dX12_between_1 (by rw [c_4]; decide +kernel) (by rw [c_4]; decide +kernel) (by rw [c_4]; decide +kernel) (by decide) ?_
    refine lv_iload_n hx hb dX12_between_51 rfl (lv_at hl 1 rfl) ?_
    refine lv_iload_n hx hb dX12_between_52 rfl (lv_at hl 2 rfl) ?_
    refine q_jn (pc2 := 61) (fun H locs ls st => ∃ v61_5_0 : Int32, (0 ≤ (v61_5_0).toInt ∧ (v61_5_0).toInt ≤ 1) ∧ st = [.int v61_5_0] ∧ qW D (va_A [] sz) s.heap [] H locs ∧ lv_has ls 5 [(0, .int p0), (1, .int p1), (2, .int p2)]) (fun H locs ls st hP => ?_) (fun J_61 => ?_)
    · obtain ⟨v61_5_0, hv61_5_0, rfl, h, hl⟩ := hP
      exact q_iret X hr hlk hK h rfl (fun _ => 0, fun _ _ => 0, fun _ _ => 0) ⟨(bw hv61_5_0 (by decide) (by decide)), trivial⟩ [] rfl rfl dX12_between_61 (Nat.le_of_ble_eq_true rfl) (Nat.le_of_ble_eq_true rfl)
    · skip
      refine lv_icmp_ge (tgt := 60) hx hb dX12_between_53 (by decide) (fun c_6 => ?_) (fun c_6 => ?_)
      · replace c_6 := i_le (x := p2) (y := p1) rfl rfl c_6
        refine lv_iconst (v := 0) hx hb dX12_between_60 (by decide) ?_
        exact J_61 _ _ _ _ ⟨0, ⟨by decide +kernel, by decide +kernel⟩, rfl, h, (lv_sub hl [0, 1, 2] rfl)⟩
      · replace c_6 := i_nle (x := p2) (y := p1) rfl rfl c_6
        refine lv_iconst (v := 1) hx hb dX12_between_56 (by decide) ?_
        refine lv_goto (tgt := 61) hx hb dX12_between_57 (by decide) ?_
        exact J_61 _ _ _ _ ⟨1, ⟨by decide +kernel, by decide +kernel⟩, rfl, h, (lv_sub hl [0, 1, 2] rfl)⟩
  by_cases c_7 : p0 = 3005
  · have ec_7 : (p0).toInt = 3005 := by rw [c_7]; decide
    refine lv_tableIn (off := 61) (tgt := 62) hx hb dX12_between_1 (by rw [c_7]; decide +kernel) (by rw [c_7]; decide +kernel) (by rw [c_7]; decide +kernel) (by decide) ?_
    refine lv_iload_n hx hb dX12_between_62 rfl (lv_at hl 1 rfl) ?_
    refine lv_iload_n hx hb dX12_between_63 rfl (lv_at hl 2 rfl) ?_
    refine q_jn (pc2 := 72) (fun H locs ls st => ∃ v72_8_0 : Int32, (0 ≤ (v72_8_0).toInt ∧ (v72_8_0).toInt ≤ 1) ∧ st = [.int v72_8_0] ∧ qW D (va_A [] sz) s.heap [] H locs ∧ lv_has ls 5 [(0, .int p0), (1, .int p1), (2, .int p2)]) (fun H locs ls st hP => ?_) (fun J_72 => ?_)
    · obtain ⟨v72_8_0, hv72_8_0, rfl, h, hl⟩ := hP
      exact q_iret X hr hlk hK h rfl (fun _ => 0, fun _ _ => 0, fun _ _ => 0) ⟨(bw hv72_8_0 (by decide) (by decide)), trivial⟩ [] rfl rfl dX12_between_72 (Nat.le_of_ble_eq_true rfl) (Nat.le_of_ble_eq_true rfl)
    · skip
      refine lv_icmp_le (tgt := 71) hx hb dX12_between_64 (by decide) (fun c_9 => ?_) (fun c_9 => ?_)
      · replace c_9 := i_le (x := p1) (y := p2) rfl rfl c_9
        refine lv_iconst (v := 0) hx hb dX12_between_71 (by decide) ?_
        exact J_72 _ _ _ _ ⟨0, ⟨by decide +kernel, by decide +kernel⟩, rfl, h, (lv_sub hl [0, 1, 2] rfl)⟩
      · replace c_9 := i_nle (x := p1) (y := p2) rfl rfl c_9
        refine lv_iconst (v := 1) hx hb dX12_between_67 (by decide) ?_
        refine lv_goto (tgt := 72) hx hb dX12_between_68 (by decide) ?_
        exact J_72 _ _ _ _ ⟨1, ⟨by decide +kernel, by decide +kernel⟩, rfl, h, (lv_sub hl [0, 1, 2] rfl)⟩
  by_cases c_10 : p0 = 3006
  · have ec_10 : (p0).toInt = 3006 := by rw [c_10]; decide
    refine lv_tableIn (off := 80) (tgt := 81) hx hb dX12_between_1 (by rw [c_10]; decide +kernel) (by rw [c_10]; decide +kernel) (by rw [c_10]; decide +kernel) (by decide) ?_
    refine lv_iload_n hx hb dX12_between_81 rfl (lv_at hl 0 rfl) ?_
    refine lv_sipush (v := 3000) hx hb dX12_between_82 (by decide) ?_
    refine q_jn (pc2 := 116) (fun H locs ls st => ∃ v116_11_0 : Int64, ((-9223372036854775808) ≤ (v116_11_0).toInt ∧ (v116_11_0).toInt ≤ 9223372036854775807) ∧ st = [.long v116_11_0] ∧ qW D (va_A [] sz) s.heap [] H locs ∧ lv_has ls 5 [(0, .int p0), (1, .int p1), (2, .int p2)]) (fun H locs ls st hP => ?_) (fun J_116 => ?_)
    · obtain ⟨v116_11_0, hv116_11_0, rfl, h, hl⟩ := hP
      refine lv_lstore_n (lv' := [(3, .long v116_11_0), (0, .int p0), (1, .int p1), (2, .int p2)]) hx hb dX12_between_116 rfl hl (by decide) rfl (fun ls_12 hl_12 => ?_)
      clear hl
      refine lv_lload_n hx hb dX12_between_117 rfl (lv_at hl_12 0 rfl) ?_
      refine lv_ldc2 hx hb hown (ht _ wm_6_202) dX12_between_118 ?_
      refine W.lcmp hx hb dX12_between_121 ?_
      refine q_jn (pc2 := 146) (fun H locs ls st => ∃ v146_13_0 : Int64, ((-1000000) ≤ (v146_13_0).toInt ∧ (v146_13_0).toInt ≤ 1000000) ∧ st = [.long v146_13_0] ∧ qW D (va_A [] sz) s.heap [] H locs ∧ lv_has ls 5 [(0, .int p0), (1, .int p1), (2, .int p2), (3, .long v116_11_0)]) (fun H locs ls st hP => ?_) (fun J_146 => ?_)
      · obtain ⟨v146_13_0, hv146_13_0, rfl, h, hl⟩ := hP
        refine lv_l2i hx hb dX12_between_146 rfl ?_
        obtain ⟨z_14, ez_14, hz_14⟩ := e_l2i (x := v146_13_0) rfl (by omega) (by omega)
        refine q_c z_14 ez_14 ?_
        clear ez_14
        exact q_iret X hr hlk hK h rfl (fun _ => 0, fun _ _ => 0, fun _ _ => 0) ⟨⟨by omega, by omega⟩, trivial⟩ [] rfl rfl dX12_between_147 (Nat.le_of_ble_eq_true rfl) (Nat.le_of_ble_eq_true rfl)
      · skip
        refine lv_if_le (tgt := 131) hx hb dX12_between_122 (by decide) (fun c_15 => ?_) (fun c_15 => ?_)
        · replace c_15 := j_le (x := v116_11_0) (y := 1000000) rfl (show (1000000 : Int64).toInt = 1000000 by decide) c_15
          refine lv_lload_n hx hb dX12_between_131 rfl (lv_at hl_12 0 rfl) ?_
          refine lv_ldc2 hx hb hown (ht _ wm_6_203) dX12_between_132 ?_
          refine W.lcmp hx hb dX12_between_135 ?_
          refine lv_if_ge (tgt := 145) hx hb dX12_between_136 (by decide) (fun c_16 => ?_) (fun c_16 => ?_)
          · replace c_16 := j_ge (x := v116_11_0) (y := (-1000000)) rfl (show ((-1000000) : Int64).toInt = -1000000 by decide) c_16
            refine lv_lload_n hx hb dX12_between_145 rfl (lv_at hl_12 0 rfl) ?_
            exact J_146 _ _ _ _ ⟨v116_11_0, ⟨by omega, by omega⟩, rfl, h, (lv_sub hl_12 [1, 2, 3, 0] rfl)⟩
          · replace c_16 := j_nge (x := v116_11_0) (y := (-1000000)) rfl (show ((-1000000) : Int64).toInt = -1000000 by decide) c_16
            refine lv_ldc2 hx hb hown (ht _ wm_6_203) dX12_between_139 ?_
            refine lv_goto (tgt := 146) hx hb dX12_between_142 (by decide) ?_
            exact J_146 _ _ _ _ ⟨(-1000000), ⟨by decide +kernel, by decide +kernel⟩, rfl, h, (lv_sub hl_12 [1, 2, 3, 0] rfl)⟩
        · replace c_15 := j_nle (x := v116_11_0) (y := 1000000) rfl (show (1000000 : Int64).toInt = 1000000 by decide) c_15
          refine lv_ldc2 hx hb hown (ht _ wm_6_202) dX12_between_125 ?_
          refine lv_goto (tgt := 146) hx hb dX12_between_128 (by decide) ?_
          exact J_146 _ _ _ _ ⟨1000000, ⟨by decide +kernel, by decide +kernel⟩, rfl, h, (lv_sub hl_12 [1, 2, 3, 0] rfl)⟩
    · skip
      refine lv_icmp_ne (tgt := 96) hx hb dX12_between_85 (by decide) (fun c_17 => ?_) (fun c_17 => ?_)
      · replace c_17 := i_ne (x := p0) (y := 3000) rfl (show (3000 : Int32).toInt = 3000 by decide) c_17
        refine lv_iload_n hx hb dX12_between_96 rfl (lv_at hl 0 rfl) ?_
        refine lv_sipush (v := 3001) hx hb dX12_between_97 (by decide) ?_
        refine lv_icmp_ne (tgt := 111) hx hb dX12_between_100 (by decide) (fun c_18 => ?_) (fun c_18 => ?_)
        · replace c_18 := i_ne (x := p0) (y := 3001) rfl (show (3001 : Int32).toInt = 3001 by decide) c_18
          refine lv_iload_n hx hb dX12_between_111 rfl (lv_at hl 1 rfl) ?_
          refine lv_i2l hx hb dX12_between_112 rfl ?_
          obtain ⟨z_19, ez_19, hz_19⟩ := e_i2l (x := p1) rfl
          refine q_cl z_19 ez_19 ?_
          clear ez_19
          refine lv_iload_n hx hb dX12_between_113 rfl (lv_at hl 2 rfl) ?_
          refine lv_i2l hx hb dX12_between_114 rfl ?_
          obtain ⟨z_20, ez_20, hz_20⟩ := e_i2l (x := p2) rfl
          refine q_cl z_20 ez_20 ?_
          clear ez_20
          refine lv_lmul hx hb dX12_between_115 ?_
          refine q_anyJ (fun z_21 hz_21 => ?_)
          exact J_116 _ _ _ _ ⟨z_21, ⟨by omega, by omega⟩, rfl, h, (lv_sub hl [0, 1, 2] rfl)⟩
        · replace c_18 := i_eq (x := p0) (y := 3001) rfl (show (3001 : Int32).toInt = 3001 by decide) c_18
          exfalso
          omega
      · replace c_17 := i_eq (x := p0) (y := 3000) rfl (show (3000 : Int32).toInt = 3000 by decide) c_17
        exfalso
        omega
  by_cases c_22 : p0 = 3007
  · have ec_22 : (p0).toInt = 3007 := by rw [c_22]; decide
    refine lv_tableIn (off := 72) (tgt := 73) hx hb dX12_between_1 (by rw [c_22]; decide +kernel) (by rw [c_22]; decide +kernel) (by rw [c_22]; decide +kernel) (by decide) ?_
    refine lv_iload_n hx hb dX12_between_73 rfl (lv_at hl 1 rfl) ?_
    refine lv_iload_n hx hb dX12_between_74 rfl (lv_at hl 2 rfl) ?_
    refine lv_iand hx hb dX12_between_75 ?_
    refine q_any (fun z_23 hz_23 => ?_)
    exact q_iret X hr hlk hK h rfl (fun _ => 0, fun _ _ => 0, fun _ _ => 0) ⟨⟨by omega, by omega⟩, trivial⟩ [] rfl rfl dX12_between_76 (Nat.le_of_ble_eq_true rfl) (Nat.le_of_ble_eq_true rfl)
  by_cases c_24 : p0 = 3008
  · have ec_24 : (p0).toInt = 3008 := by rw [c_24]; decide
    refine lv_tableIn (off := 76) (tgt := 77) hx hb dX12_between_1 (by rw [c_24]; decide +kernel) (by rw [c_24]; decide +kernel) (by rw [c_24]; decide +kernel) (by decide) ?_
    refine lv_iload_n hx hb dX12_between_77 rfl (lv_at hl 1 rfl) ?_
    refine lv_iload_n hx hb dX12_between_78 rfl (lv_at hl 2 rfl) ?_
    refine lv_ior hx hb dX12_between_79 ?_
    refine q_any (fun z_25 hz_25 => ?_)
    exact q_iret X hr hlk hK h rfl (fun _ => 0, fun _ _ => 0, fun _ _ => 0) ⟨⟨by omega, by omega⟩, trivial⟩ [] rfl rfl dX12_between_80 (Nat.le_of_ble_eq_true rfl) (Nat.le_of_ble_eq_true rfl)
  have nc_1 := lv_neT c_1 (show (3003 : Int32).toInt = 3003 by decide)
  have nc_4 := lv_neT c_4 (show (3004 : Int32).toInt = 3004 by decide)
  have nc_7 := lv_neT c_7 (show (3005 : Int32).toInt = 3005 by decide)
  have nc_10 := lv_neT c_10 (show (3006 : Int32).toInt = 3006 by decide)
  have nc_22 := lv_neT c_22 (show (3007 : Int32).toInt = 3007 by decide)
  have nc_24 := lv_neT c_24 (show (3008 : Int32).toInt = 3008 by decide)
  refine lv_tableOut (tgt := 81) hx hb dX12_between_1 (by omega) (by decide) ?_
  refine lv_iload_n hx hb dX12_between_81 rfl (lv_at hl 0 rfl) ?_
  refine lv_sipush (v := 3000) hx hb dX12_between_82 (by decide) ?_
  refine q_jn (pc2 := 116) (fun H locs ls st => ∃ v116_26_0 : Int64, ((-9223372036854775808) ≤ (v116_26_0).toInt ∧ (v116_26_0).toInt ≤ 9223372036854775807) ∧ st = [.long v116_26_0] ∧ qW D (va_A [] sz) s.heap [] H locs ∧ lv_has ls 5 [(0, .int p0), (1, .int p1), (2, .int p2)]) (fun H locs ls st hP => ?_) (fun J_116 => ?_)
  · obtain ⟨v116_26_0, hv116_26_0, rfl, h, hl⟩ := hP
    refine lv_lstore_n (lv' := [(3, .long v116_26_0), (0, .int p0), (1, .int p1), (2, .int p2)]) hx hb dX12_between_116 rfl hl (by decide) rfl (fun ls_27 hl_27 => ?_)
    clear hl
    refine lv_lload_n hx hb dX12_between_117 rfl (lv_at hl_27 0 rfl) ?_
    refine lv_ldc2 hx hb hown (ht _ wm_6_202) dX12_between_118 ?_
    refine W.lcmp hx hb dX12_between_121 ?_
    refine q_jn (pc2 := 146) (fun H locs ls st => ∃ v146_28_0 : Int64, ((-1000000) ≤ (v146_28_0).toInt ∧ (v146_28_0).toInt ≤ 1000000) ∧ st = [.long v146_28_0] ∧ qW D (va_A [] sz) s.heap [] H locs ∧ lv_has ls 5 [(0, .int p0), (1, .int p1), (2, .int p2), (3, .long v116_26_0)]) (fun H locs ls st hP => ?_) (fun J_146 => ?_)
    · obtain ⟨v146_28_0, hv146_28_0, rfl, h, hl⟩ := hP
      refine lv_l2i hx hb dX12_between_146 rfl ?_
      obtain ⟨z_29, ez_29, hz_29⟩ := e_l2i (x := v146_28_0) rfl (by omega) (by omega)
      refine q_c z_29 ez_29 ?_
      clear ez_29
      exact q_iret X hr hlk hK h rfl (fun _ => 0, fun _ _ => 0, fun _ _ => 0) ⟨⟨by omega, by omega⟩, trivial⟩ [] rfl rfl dX12_between_147 (Nat.le_of_ble_eq_true rfl) (Nat.le_of_ble_eq_true rfl)
    · skip
      refine lv_if_le (tgt := 131) hx hb dX12_between_122 (by decide) (fun c_30 => ?_) (fun c_30 => ?_)
      · replace c_30 := j_le (x := v116_26_0) (y := 1000000) rfl (show (1000000 : Int64).toInt = 1000000 by decide) c_30
        refine lv_lload_n hx hb dX12_between_131 rfl (lv_at hl_27 0 rfl) ?_
        refine lv_ldc2 hx hb hown (ht _ wm_6_203) dX12_between_132 ?_
        refine W.lcmp hx hb dX12_between_135 ?_
        refine lv_if_ge (tgt := 145) hx hb dX12_between_136 (by decide) (fun c_31 => ?_) (fun c_31 => ?_)
        · replace c_31 := j_ge (x := v116_26_0) (y := (-1000000)) rfl (show ((-1000000) : Int64).toInt = -1000000 by decide) c_31
          refine lv_lload_n hx hb dX12_between_145 rfl (lv_at hl_27 0 rfl) ?_
          exact J_146 _ _ _ _ ⟨v116_26_0, ⟨by omega, by omega⟩, rfl, h, (lv_sub hl_27 [1, 2, 3, 0] rfl)⟩
        · replace c_31 := j_nge (x := v116_26_0) (y := (-1000000)) rfl (show ((-1000000) : Int64).toInt = -1000000 by decide) c_31
          refine lv_ldc2 hx hb hown (ht _ wm_6_203) dX12_between_139 ?_
          refine lv_goto (tgt := 146) hx hb dX12_between_142 (by decide) ?_
          exact J_146 _ _ _ _ ⟨(-1000000), ⟨by decide +kernel, by decide +kernel⟩, rfl, h, (lv_sub hl_27 [1, 2, 3, 0] rfl)⟩
      · replace c_30 := j_nle (x := v116_26_0) (y := 1000000) rfl (show (1000000 : Int64).toInt = 1000000 by decide) c_30
        refine lv_ldc2 hx hb hown (ht _ wm_6_202) dX12_between_125 ?_
        refine lv_goto (tgt := 146) hx hb dX12_between_128 (by decide) ?_
        exact J_146 _ _ _ _ ⟨1000000, ⟨by decide +kernel, by decide +kernel⟩, rfl, h, (lv_sub hl_27 [1, 2, 3, 0] rfl)⟩
  · skip
    refine lv_icmp_ne (tgt := 96) hx hb dX12_between_85 (by decide) (fun c_32 => ?_) (fun c_32 => ?_)
    · replace c_32 := i_ne (x := p0) (y := 3000) rfl (show (3000 : Int32).toInt = 3000 by decide) c_32
      refine lv_iload_n hx hb dX12_between_96 rfl (lv_at hl 0 rfl) ?_
      refine lv_sipush (v := 3001) hx hb dX12_between_97 (by decide) ?_
      refine lv_icmp_ne (tgt := 111) hx hb dX12_between_100 (by decide) (fun c_33 => ?_) (fun c_33 => ?_)
      · replace c_33 := i_ne (x := p0) (y := 3001) rfl (show (3001 : Int32).toInt = 3001 by decide) c_33
        refine lv_iload_n hx hb dX12_between_111 rfl (lv_at hl 1 rfl) ?_
        refine lv_i2l hx hb dX12_between_112 rfl ?_
        obtain ⟨z_34, ez_34, hz_34⟩ := e_i2l (x := p1) rfl
        refine q_cl z_34 ez_34 ?_
        clear ez_34
        refine lv_iload_n hx hb dX12_between_113 rfl (lv_at hl 2 rfl) ?_
        refine lv_i2l hx hb dX12_between_114 rfl ?_
        obtain ⟨z_35, ez_35, hz_35⟩ := e_i2l (x := p2) rfl
        refine q_cl z_35 ez_35 ?_
        clear ez_35
        refine lv_lmul hx hb dX12_between_115 ?_
        refine q_anyJ (fun z_36 hz_36 => ?_)
        exact J_116 _ _ _ _ ⟨z_36, ⟨by omega, by omega⟩, rfl, h, (lv_sub hl [0, 1, 2] rfl)⟩
      · replace c_33 := i_eq (x := p0) (y := 3001) rfl (show (3001 : Int32).toInt = 3001 by decide) c_33
        refine lv_iload_n hx hb dX12_between_103 rfl (lv_at hl 1 rfl) ?_
        refine lv_i2l hx hb dX12_between_104 rfl ?_
        obtain ⟨z_37, ez_37, hz_37⟩ := e_i2l (x := p1) rfl
        refine q_cl z_37 ez_37 ?_
        clear ez_37
        refine lv_iload_n hx hb dX12_between_105 rfl (lv_at hl 2 rfl) ?_
        refine lv_i2l hx hb dX12_between_106 rfl ?_
        obtain ⟨z_38, ez_38, hz_38⟩ := e_i2l (x := p2) rfl
        refine q_cl z_38 ez_38 ?_
        clear ez_38
        refine lv_lsub hx hb dX12_between_107 ?_
        obtain ⟨z_39, ez_39, hz_39⟩ := e_subJ (x := z_37) (y := z_38) rfl rfl (by omega) (by omega)
        refine q_cl z_39 ez_39 ?_
        clear ez_39
        refine lv_goto (tgt := 116) hx hb dX12_between_108 (by decide) ?_
        exact J_116 _ _ _ _ ⟨z_39, ⟨by omega, by omega⟩, rfl, h, (lv_sub hl [0, 1, 2] rfl)⟩
    · replace c_32 := i_eq (x := p0) (y := 3000) rfl (show (3000 : Int32).toInt = 3000 by decide) c_32
      refine lv_iload_n hx hb dX12_between_88 rfl (lv_at hl 1 rfl) ?_
      refine lv_i2l hx hb dX12_between_89 rfl ?_
      obtain ⟨z_40, ez_40, hz_40⟩ := e_i2l (x := p1) rfl
      refine q_cl z_40 ez_40 ?_
      clear ez_40
      refine lv_iload_n hx hb dX12_between_90 rfl (lv_at hl 2 rfl) ?_
      refine lv_i2l hx hb dX12_between_91 rfl ?_
      obtain ⟨z_41, ez_41, hz_41⟩ := e_i2l (x := p2) rfl
      refine q_cl z_41 ez_41 ?_
      clear ez_41
      refine lv_ladd hx hb dX12_between_92 ?_
      obtain ⟨z_42, ez_42, hz_42⟩ := e_addJ (x := z_40) (y := z_41) rfl rfl (by omega) (by omega)
      refine q_cl z_42 ez_42 ?_
      clear ez_42
      refine lv_goto (tgt := 116) hx hb dX12_between_93 (by decide) ?_
      exact J_116 _ _ _ _ ⟨z_42, ⟨by omega, by omega⟩, rfl, h, (lv_sub hl [0, 1, 2] rfl)⟩
