def wk_d6dc2c191 (cy : Nat → ClassId) (a0 : Nat) (a1 : Int32) (a2 : Nat) (a3 a4 a5 : Value) (a6 a7 a8 a9 a10 a11 a12 a13 a14 a15 a16 : Int32) (a17 a18 : Nat) (a19 a20 a21 : Value) (a22 a23 : Int32) (a24 : Nat) (a25 a26 : Value) (a27 a28 : Int32) (a29 a30 a31 a32 a33 : Value) (a34 : Int32) (a35 a36 a37 : Value) (a38 : Nat) (a39 : Nat → Int32) (a40 : Nat) (a41 : Nat → Int32) (a42 : Nat) (a43 : Nat → Int32) (a44 : Nat) (a45 : Nat → Int32) : va_W := [(a0, .inr (12, [.int a1, .ref a2, a3, a4, a5, .int a6, .int a7, .int a8, .int a9, .int a10, .int a11, .int a12, .int a13, .int a14, .int a15, .int a16, .ref a17, .ref a18, a19, a20, a21, .int a22, .int a23, .ref a24, a25, a26, .int a27, .int a28, a29, a30, a31, a32, a33, .int a34, a35, a36, a37])), (a38, .inl (cy 1, 3918, .inl a39)), (a40, .inl (cy 1, 900, .inl a41)), (a42, .inl (cy 1, 11, .inl a43)), (a44, .inl (cy 1, 1024, .inl a45))]
def wk_dc198b67d (cy : Nat → ClassId) (a0 : Nat) (a1 : Nat → Int32) (a2 : Nat) (a3 : Int32) (a4 : Nat) (a5 a6 a7 : Value) (a8 a9 a10 a11 a12 a13 a14 a15 a16 a17 a18 : Int32) (a19 a20 : Nat) (a21 a22 a23 : Value) (a24 a25 : Int32) (a26 : Nat) (a27 a28 : Value) (a29 a30 : Int32) (a31 a32 a33 a34 a35 : Value) (a36 : Int32) (a37 a38 a39 : Value) (a40 : Nat) (a41 : Nat → Int32) (a42 : Nat) (a43 : Nat → Int32) (a44 : Nat) (a45 : Nat → Int32) : va_W := [(a0, .inl (cy 1, 1024, .inl a1)), (a2, .inr (12, [.int a3, .ref a4, a5, a6, a7, .int a8, .int a9, .int a10, .int a11, .int a12, .int a13, .int a14, .int a15, .int a16, .int a17, .int a18, .ref a19, .ref a20, a21, a22, a23, .int a24, .int a25, .ref a26, a27, a28, .int a29, .int a30, a31, a32, a33, a34, a35, .int a36, a37, a38, a39])), (a40, .inl (cy 1, 3918, .inl a41)), (a42, .inl (cy 1, 900, .inl a43)), (a44, .inl (cy 1, 11, .inl a45))]
def wk_41836cb4f (cy : Nat → ClassId) (a0 : Nat) (a1 : Nat → Int32) (a2 : Nat) (a3 : Int32) (a4 : Nat) (a5 a6 a7 : Value) (a8 a9 a10 a11 a12 a13 a14 a15 a16 a17 a18 : Int32) (a19 a20 : Nat) (a21 : Value) (a22 : Nat) (a23 : Value) (a24 a25 : Int32) (a26 : Nat) (a27 a28 : Value) (a29 a30 : Int32) (a31 a32 a33 a34 a35 : Value) (a36 : Int32) (a37 a38 a39 : Value) (a40 : Nat) (a41 : Nat → Int32) (a42 : Nat) (a43 : Nat → Int32) (a44 : Nat) (a45 : Nat → Int32) (a46 : Nat) (a47 : Nat → Int32) : va_W := [(a0, .inl (cy 1, 10, .inl a1)), (a2, .inr (12, [.int a3, .ref a4, a5, a6, a7, .int a8, .int a9, .int a10, .int a11, .int a12, .int a13, .int a14, .int a15, .int a16, .int a17, .int a18, .ref a19, .ref a20, a21, .ref a22, a23, .int a24, .int a25, .ref a26, a27, a28, .int a29, .int a30, a31, a32, a33, a34, a35, .int a36, a37, a38, a39])), (a40, .inl (cy 1, 3918, .inl a41)), (a42, .inl (cy 1, 900, .inl a43)), (a44, .inl (cy 1, 11, .inl a45)), (a46, .inl (cy 1, 1024, .inl a47))]
def wk_fa21f7301 (cy : Nat → ClassId) (a0 : Nat) (a1 : Int32) (a2 : Nat) (a3 a4 a5 : Value) (a6 a7 a8 a9 a10 a11 a12 a13 a14 a15 a16 : Int32) (a17 a18 : Nat) (a19 a20 a21 : Value) (a22 a23 : Int32) (a24 a25 a26 : Value) (a27 a28 : Int32) (a29 : Nat) (a30 a31 a32 a33 : Value) (a34 : Int32) (a35 a36 a37 : Value) (a38 : Nat) (a39 : Nat → Int32) (a40 : Nat) (a41 : Nat → Int32) (a42 : Nat) (a43 : Nat → Int32) (a44 : Nat) (a45 : Nat → Int32) : va_W := [(a0, .inr (12, [.int a1, .ref a2, a3, a4, a5, .int a6, .int a7, .int a8, .int a9, .int a10, .int a11, .int a12, .int a13, .int a14, .int a15, .int a16, .ref a17, .ref a18, a19, a20, a21, .int a22, .int a23, a24, a25, a26, .int a27, .int a28, .ref a29, a30, a31, a32, a33, .int a34, a35, a36, a37])), (a38, .inl (cy 1, 3918, .inl a39)), (a40, .inl (cy 1, 900, .inl a41)), (a42, .inl (cy 1, 11, .inl a43)), (a44, .inl (cy 1, 1000, .inl a45))]
def wk_8024bc26d (cy : Nat → ClassId) (a0 : Nat) (a1 : Nat → Int32) (a2 : Nat) (a3 : Nat → Int32) (a4 : Nat) (a5 : Nat → Int32) : va_W := [(a0, .inl (cy 1, 900, .inl a1)), (a2, .inl (cy 1, 11, .inl a3)), (a4, .inl (cy 1, 1000, .inl a5))]
def wk_46a08b732 (cy : Nat → ClassId) (a0 : Nat) (a1 : Nat → Int32) (a2 : Nat) (a3 : Nat → Int32) (a4 : Nat) (a5 : Nat → Int32) (a6 : Nat) (a7 : Int32) (a8 : Nat) (a9 a10 a11 : Value) (a12 a13 a14 a15 a16 a17 a18 a19 a20 a21 a22 : Int32) (a23 a24 : Nat) (a25 a26 a27 : Value) (a28 a29 : Int32) (a30 a31 a32 : Value) (a33 a34 : Int32) (a35 : Nat) (a36 a37 a38 a39 : Value) (a40 : Int32) (a41 a42 a43 : Value) (a44 : Nat) (a45 : Nat → Int32) : va_W := [(a0, .inl (cy 1, 900, .inl a1)), (a2, .inl (cy 1, 11, .inl a3)), (a4, .inl (cy 1, 1000, .inl a5)), (a6, .inr (12, [.int a7, .ref a8, a9, a10, a11, .int a12, .int a13, .int a14, .int a15, .int a16, .int a17, .int a18, .int a19, .int a20, .int a21, .int a22, .ref a23, .ref a24, a25, a26, a27, .int a28, .int a29, a30, a31, a32, .int a33, .int a34, .ref a35, a36, a37, a38, a39, .int a40, a41, a42, a43])), (a44, .inl (cy 1, 3918, .inl a45))]
def wk_94071089f (cy : Nat → ClassId) (a0 : Nat) (a1 : Nat → Int32) (a2 : Nat) (a3 : Int32) (a4 : Nat) (a5 a6 a7 : Value) (a8 a9 a10 a11 a12 a13 a14 a15 a16 a17 a18 : Int32) (a19 a20 : Nat) (a21 a22 a23 : Value) (a24 a25 : Int32) (a26 a27 a28 : Value) (a29 a30 : Int32) (a31 : Nat) (a32 a33 a34 a35 : Value) (a36 : Int32) (a37 a38 a39 : Value) (a40 : Nat) (a41 : Nat → Int32) (a42 : Nat) (a43 : Nat → Int32) (a44 : Nat) (a45 : Nat → Int32) : va_W := [(a0, .inl (cy 1, 1000, .inl a1)), (a2, .inr (12, [.int a3, .ref a4, a5, a6, a7, .int a8, .int a9, .int a10, .int a11, .int a12, .int a13, .int a14, .int a15, .int a16, .int a17, .int a18, .ref a19, .ref a20, a21, a22, a23, .int a24, .int a25, a26, a27, a28, .int a29, .int a30, .ref a31, a32, a33, a34, a35, .int a36, a37, a38, a39])), (a40, .inl (cy 1, 3918, .inl a41)), (a42, .inl (cy 1, 900, .inl a43)), (a44, .inl (cy 1, 11, .inl a45))]
def wk_0d0dd550c (cy : Nat → ClassId) (a0 : Nat) (a1 : Int32) (a2 : Nat) (a3 a4 a5 : Value) (a6 a7 a8 a9 a10 a11 a12 a13 a14 a15 a16 : Int32) (a17 a18 a19 a20 a21 : Value) (a22 a23 : Int32) (a24 : Nat) (a25 a26 : Value) (a27 a28 : Int32) (a29 a30 a31 a32 a33 : Value) (a34 : Int32) (a35 a36 a37 : Value) (a38 : Nat) (a39 : Nat → Int32) (a40 : Nat) (a41 : Nat → Int32) : va_W := [(a0, .inr (12, [.int a1, .ref a2, a3, a4, a5, .int a6, .int a7, .int a8, .int a9, .int a10, .int a11, .int a12, .int a13, .int a14, .int a15, .int a16, a17, a18, a19, a20, a21, .int a22, .int a23, .ref a24, a25, a26, .int a27, .int a28, a29, a30, a31, a32, a33, .int a34, a35, a36, a37])), (a38, .inl (cy 1, 3918, .inl a39)), (a40, .inl (cy 1, 1024, .inl a41))]
theorem wm_7_192 : Cond.methodLink RX12 393 yX12_isBill ∈ WG := wg_t7 (List.mem_of_getElem? (i := 192) rfl) rfl
theorem wm_7_194 : Cond.code yX12_isBill cX12_isBill 1 (some .boolean) ∈ WG := wg_t7 (List.mem_of_getElem? (i := 194) rfl) rfl
theorem wm_7_193 : Cond.static yX12_isBill ∈ WG := wg_t7 (List.mem_of_getElem? (i := 193) rfl) rfl
theorem wm_7_199 : Cond.methodLink RX12 390 yX12_saysAye ∈ WG := wg_t7 (List.mem_of_getElem? (i := 199) rfl) rfl
theorem wm_7_202 : Cond.code yX12_saysAye cX12_saysAye 3 (some .boolean) ∈ WG := wg_t7 (List.mem_of_getElem? (i := 202) rfl) rfl
theorem wm_7_201 : Cond.instanceMethod yX12_saysAye ∈ WG := wg_t7 (List.mem_of_getElem? (i := 201) rfl) rfl
theorem wp_7_13 : Cond.selects RX12 yX12_saysAye yX12_saysAye ∈ WG := wg_p (q := (yX12_saysAye, 37)) (wg_p7 (List.mem_of_getElem? (i := 13) rfl)) rfl
theorem wm_7_195 : Cond.methodLink RX12 396 yX12_ayesOf ∈ WG := wg_t7 (List.mem_of_getElem? (i := 195) rfl) rfl
theorem wm_7_198 : Cond.code yX12_ayesOf cX12_ayesOf 5 (some .int) ∈ WG := wg_t7 (List.mem_of_getElem? (i := 198) rfl) rfl
theorem wm_7_197 : Cond.instanceMethod yX12_ayesOf ∈ WG := wg_t7 (List.mem_of_getElem? (i := 197) rfl) rfl
theorem wp_7_12 : Cond.selects RX12 yX12_ayesOf yX12_ayesOf ∈ WG := wg_p (q := (yX12_ayesOf, 37)) (wg_p7 (List.mem_of_getElem? (i := 12) rfl)) rfl
theorem wm_7_207 : Cond.methodLink RX12 399 yX12_passedBy ∈ WG := wg_t7 (List.mem_of_getElem? (i := 207) rfl) rfl
theorem wm_7_210 : Cond.code yX12_passedBy cX12_passedBy 7 (some .int) ∈ WG := wg_t7 (List.mem_of_getElem? (i := 210) rfl) rfl
theorem wm_7_209 : Cond.instanceMethod yX12_passedBy ∈ WG := wg_t7 (List.mem_of_getElem? (i := 209) rfl) rfl
theorem wp_7_14 : Cond.selects RX12 yX12_passedBy yX12_passedBy ∈ WG := wg_p (q := (yX12_passedBy, 37)) (wg_p7 (List.mem_of_getElem? (i := 14) rfl)) rfl
theorem wm_7_223 : Cond.methodLink RX12 408 yX12_noHidden ∈ WG := wg_t7 (List.mem_of_getElem? (i := 223) rfl) rfl
theorem wm_7_226 : Cond.code yX12_noHidden cX12_noHidden 3 (some .int) ∈ WG := wg_t7 (List.mem_of_getElem? (i := 226) rfl) rfl
theorem wm_7_225 : Cond.instanceMethod yX12_noHidden ∈ WG := wg_t7 (List.mem_of_getElem? (i := 225) rfl) rfl
theorem wp_7_15 : Cond.selects RX12 yX12_noHidden yX12_noHidden ∈ WG := wg_p (q := (yX12_noHidden, 37)) (wg_p7 (List.mem_of_getElem? (i := 15) rfl)) rfl
theorem wm_7_235 : Cond.methodLink RX12 402 yX12_isTold ∈ WG := wg_t7 (List.mem_of_getElem? (i := 235) rfl) rfl
theorem wm_7_238 : Cond.code yX12_isTold cX12_isTold 2 (some .boolean) ∈ WG := wg_t7 (List.mem_of_getElem? (i := 238) rfl) rfl
theorem wm_7_237 : Cond.instanceMethod yX12_isTold ∈ WG := wg_t7 (List.mem_of_getElem? (i := 237) rfl) rfl
theorem wp_8_2 : Cond.selects RX12 yX12_isTold yX12_isTold ∈ WG := wg_p (q := (yX12_isTold, 37)) (wg_p8 (List.mem_of_getElem? (i := 2) rfl)) rfl
theorem wm_7_231 : Cond.methodLink RX12 405 yX12_fits ∈ WG := wg_t7 (List.mem_of_getElem? (i := 231) rfl) rfl
theorem wm_7_234 : Cond.code yX12_fits cX12_fits 6 (some .boolean) ∈ WG := wg_t7 (List.mem_of_getElem? (i := 234) rfl) rfl
theorem wm_7_233 : Cond.instanceMethod yX12_fits ∈ WG := wg_t7 (List.mem_of_getElem? (i := 233) rfl) rfl
theorem wp_8_1 : Cond.selects RX12 yX12_fits yX12_fits ∈ WG := wg_p (q := (yX12_fits, 37)) (wg_p8 (List.mem_of_getElem? (i := 1) rfl)) rfl
theorem wm_7_227 : Cond.methodLink RX12 411 yX12_laysHidden ∈ WG := wg_t7 (List.mem_of_getElem? (i := 227) rfl) rfl
theorem wm_7_230 : Cond.code yX12_laysHidden cX12_laysHidden 6 (some .int) ∈ WG := wg_t7 (List.mem_of_getElem? (i := 230) rfl) rfl
theorem wm_7_229 : Cond.instanceMethod yX12_laysHidden ∈ WG := wg_t7 (List.mem_of_getElem? (i := 229) rfl) rfl
theorem wp_8_0 : Cond.selects RX12 yX12_laysHidden yX12_laysHidden ∈ WG := wg_p (q := (yX12_laysHidden, 37)) (wg_p8 (List.mem_of_getElem? (i := 0) rfl)) rfl
theorem wm_8_20 : Cond.methodLink RX12 414 yX12_common ∈ WG := wg_t8 (List.mem_of_getElem? (i := 20) rfl) rfl
theorem wm_8_22 : Cond.code yX12_common cX12_common 4 (some .long) ∈ WG := wg_t8 (List.mem_of_getElem? (i := 22) rfl) rfl
theorem wm_8_21 : Cond.static yX12_common ∈ WG := wg_t8 (List.mem_of_getElem? (i := 21) rfl) rfl
theorem hd_X12_isBill : yX12_isBill.cls ≠ "java/lang/invoke/MethodHandle" ∧ yX12_isBill.cls ≠ "java/lang/invoke/VarHandle" ∧ (parseMethodDescriptor yX12_isBill.desc).map (fun d => d.parameters.length) = some 1 := by decide +kernel
theorem hd_X12_saysAye : yX12_saysAye.cls ≠ "java/lang/invoke/MethodHandle" ∧ yX12_saysAye.cls ≠ "java/lang/invoke/VarHandle" ∧ (parseMethodDescriptor yX12_saysAye.desc).map (fun d => d.parameters.length) = some 2 := by decide +kernel
theorem hd_X12_ayesOf : yX12_ayesOf.cls ≠ "java/lang/invoke/MethodHandle" ∧ yX12_ayesOf.cls ≠ "java/lang/invoke/VarHandle" ∧ (parseMethodDescriptor yX12_ayesOf.desc).map (fun d => d.parameters.length) = some 2 := by decide +kernel
theorem hd_X12_passedBy : yX12_passedBy.cls ≠ "java/lang/invoke/MethodHandle" ∧ yX12_passedBy.cls ≠ "java/lang/invoke/VarHandle" ∧ (parseMethodDescriptor yX12_passedBy.desc).map (fun d => d.parameters.length) = some 1 := by decide +kernel
theorem hd_X12_noHidden : yX12_noHidden.cls ≠ "java/lang/invoke/MethodHandle" ∧ yX12_noHidden.cls ≠ "java/lang/invoke/VarHandle" ∧ (parseMethodDescriptor yX12_noHidden.desc).map (fun d => d.parameters.length) = some 2 := by decide +kernel
theorem hd_X12_isTold : yX12_isTold.cls ≠ "java/lang/invoke/MethodHandle" ∧ yX12_isTold.cls ≠ "java/lang/invoke/VarHandle" ∧ (parseMethodDescriptor yX12_isTold.desc).map (fun d => d.parameters.length) = some 1 := by decide +kernel
theorem hd_X12_fits : yX12_fits.cls ≠ "java/lang/invoke/MethodHandle" ∧ yX12_fits.cls ≠ "java/lang/invoke/VarHandle" ∧ (parseMethodDescriptor yX12_fits.desc).map (fun d => d.parameters.length) = some 3 := by decide +kernel
theorem hd_X12_laysHidden : yX12_laysHidden.cls ≠ "java/lang/invoke/MethodHandle" ∧ yX12_laysHidden.cls ≠ "java/lang/invoke/VarHandle" ∧ (parseMethodDescriptor yX12_laysHidden.desc).map (fun d => d.parameters.length) = some 2 := by decide +kernel
theorem hd_X12_common : yX12_common.cls ≠ "java/lang/invoke/MethodHandle" ∧ yX12_common.cls ≠ "java/lang/invoke/VarHandle" ∧ (parseMethodDescriptor yX12_common.desc).map (fun d => d.parameters.length) = some 2 := by decide +kernel
theorem dX12_ayes_0 : decode cX12_ayes 0 = .ok (.aload_n 0, 1) := by decide +kernel
theorem dX12_ayes_1 : decode cX12_ayes 1 = .ok (.iconst 0, 1) := by decide +kernel
theorem dX12_ayes_2 : decode cX12_ayes 2 = .ok (.putfield 1, 3) := by decide +kernel
theorem dX12_ayes_5 : decode cX12_ayes 5 = .ok (.iload_n 1, 1) := by decide +kernel
theorem dX12_ayes_6 : decode cX12_ayes 6 = .ok (.invokestatic 393, 3) := by decide +kernel
theorem dX12_ayes_9 : decode cX12_ayes 9 = .ok (.ifCond .eq 15, 3) := by decide +kernel
theorem dX12_ayes_12 : decode cX12_ayes 12 = .ok (.aload_n 0, 1) := by decide +kernel
theorem dX12_ayes_13 : decode cX12_ayes 13 = .ok (.aload_n 0, 1) := by decide +kernel
theorem dX12_ayes_14 : decode cX12_ayes 14 = .ok (.invokevirtual 255, 3) := by decide +kernel
theorem dX12_ayes_17 : decode cX12_ayes 17 = .ok (.iload_n 1, 1) := by decide +kernel
theorem dX12_ayes_18 : decode cX12_ayes 18 = .ok (.invokevirtual 396, 3) := by decide +kernel
theorem dX12_ayes_21 : decode cX12_ayes 21 = .ok (.goto 5, 3) := by decide +kernel
theorem dX12_ayes_24 : decode cX12_ayes 24 = .ok (.bipush (-3), 2) := by decide +kernel
theorem dX12_ayes_26 : decode cX12_ayes 26 = .ok (.ireturn, 1) := by decide +kernel
theorem dX12_ayesOf_0 : decode cX12_ayesOf 0 = .ok (.iconst 0, 1) := by decide +kernel
theorem dX12_ayesOf_1 : decode cX12_ayesOf 1 = .ok (.istore_n 3, 1) := by decide +kernel
theorem dX12_ayesOf_2 : decode cX12_ayesOf 2 = .ok (.iconst 0, 1) := by decide +kernel
theorem dX12_ayesOf_3 : decode cX12_ayesOf 3 = .ok (.istore 4, 2) := by decide +kernel
theorem dX12_ayesOf_5 : decode cX12_ayesOf 5 = .ok (.iload 4, 2) := by decide +kernel
theorem dX12_ayesOf_7 : decode cX12_ayesOf 7 = .ok (.aload_n 0, 1) := by decide +kernel
theorem dX12_ayesOf_8 : decode cX12_ayesOf 8 = .ok (.getfield 13, 3) := by decide +kernel
theorem dX12_ayesOf_11 : decode cX12_ayesOf 11 = .ok (.iconst 2, 1) := by decide +kernel
theorem dX12_ayesOf_12 : decode cX12_ayesOf 12 = .ok (.iaload, 1) := by decide +kernel
theorem dX12_ayesOf_13 : decode cX12_ayesOf 13 = .ok (.if_icmp .ge 40, 3) := by decide +kernel
theorem dX12_ayesOf_16 : decode cX12_ayesOf 16 = .ok (.iload_n 3, 1) := by decide +kernel
theorem dX12_ayesOf_17 : decode cX12_ayesOf 17 = .ok (.iload_n 1, 1) := by decide +kernel
theorem dX12_ayesOf_18 : decode cX12_ayesOf 18 = .ok (.i2l, 1) := by decide +kernel
theorem dX12_ayesOf_19 : decode cX12_ayesOf 19 = .ok (.iload 4, 2) := by decide +kernel
theorem dX12_ayesOf_21 : decode cX12_ayesOf 21 = .ok (.invokestatic 251, 3) := by decide +kernel
theorem dX12_ayesOf_24 : decode cX12_ayesOf 24 = .ok (.ifCond .eq 20, 3) := by decide +kernel
theorem dX12_ayesOf_27 : decode cX12_ayesOf 27 = .ok (.aload_n 0, 1) := by decide +kernel
theorem dX12_ayesOf_28 : decode cX12_ayesOf 28 = .ok (.iload 4, 2) := by decide +kernel
theorem dX12_ayesOf_30 : decode cX12_ayesOf 30 = .ok (.iload_n 2, 1) := by decide +kernel
theorem dX12_ayesOf_31 : decode cX12_ayesOf 31 = .ok (.invokevirtual 390, 3) := by decide +kernel
theorem dX12_ayesOf_34 : decode cX12_ayesOf 34 = .ok (.ifCond .eq 10, 3) := by decide +kernel
theorem dX12_ayesOf_37 : decode cX12_ayesOf 37 = .ok (.iconst 1, 1) := by decide +kernel
theorem dX12_ayesOf_38 : decode cX12_ayesOf 38 = .ok (.iload 4, 2) := by decide +kernel
theorem dX12_ayesOf_40 : decode cX12_ayesOf 40 = .ok (.ishl, 1) := by decide +kernel
theorem dX12_ayesOf_41 : decode cX12_ayesOf 41 = .ok (.goto 4, 3) := by decide +kernel
theorem dX12_ayesOf_44 : decode cX12_ayesOf 44 = .ok (.iconst 0, 1) := by decide +kernel
theorem dX12_ayesOf_45 : decode cX12_ayesOf 45 = .ok (.ior, 1) := by decide +kernel
theorem dX12_ayesOf_46 : decode cX12_ayesOf 46 = .ok (.istore_n 3, 1) := by decide +kernel
theorem dX12_ayesOf_47 : decode cX12_ayesOf 47 = .ok (.iinc 4 1, 3) := by decide +kernel
theorem dX12_ayesOf_50 : decode cX12_ayesOf 50 = .ok (.goto (-45), 3) := by decide +kernel
theorem dX12_ayesOf_53 : decode cX12_ayesOf 53 = .ok (.iload_n 3, 1) := by decide +kernel
theorem dX12_ayesOf_54 : decode cX12_ayesOf 54 = .ok (.ireturn, 1) := by decide +kernel
theorem dX12_chanceOf_0 : decode cX12_chanceOf 0 = .ok (.lconst 0, 1) := by decide +kernel
theorem dX12_chanceOf_1 : decode cX12_chanceOf 1 = .ok (.lstore_n 2, 1) := by decide +kernel
theorem dX12_chanceOf_2 : decode cX12_chanceOf 2 = .ok (.iconst 0, 1) := by decide +kernel
theorem dX12_chanceOf_3 : decode cX12_chanceOf 3 = .ok (.istore 4, 2) := by decide +kernel
theorem dX12_chanceOf_5 : decode cX12_chanceOf 5 = .ok (.iload 4, 2) := by decide +kernel
theorem dX12_chanceOf_7 : decode cX12_chanceOf 7 = .ok (.iload_n 1, 1) := by decide +kernel
theorem dX12_chanceOf_8 : decode cX12_chanceOf 8 = .ok (.if_icmp .gt 113, 3) := by decide +kernel
theorem dX12_chanceOf_11 : decode cX12_chanceOf 11 = .ok (.iload 4, 2) := by decide +kernel
theorem dX12_chanceOf_13 : decode cX12_chanceOf 13 = .ok (.iload_n 1, 1) := by decide +kernel
theorem dX12_chanceOf_14 : decode cX12_chanceOf 14 = .ok (.iconst (-1), 1) := by decide +kernel
theorem dX12_chanceOf_15 : decode cX12_chanceOf 15 = .ok (.ixor, 1) := by decide +kernel
theorem dX12_chanceOf_16 : decode cX12_chanceOf 16 = .ok (.iand, 1) := by decide +kernel
theorem dX12_chanceOf_17 : decode cX12_chanceOf 17 = .ok (.ifCond .ne 98, 3) := by decide +kernel
theorem dX12_chanceOf_20 : decode cX12_chanceOf 20 = .ok (.aload_n 0, 1) := by decide +kernel
theorem dX12_chanceOf_21 : decode cX12_chanceOf 21 = .ok (.getfield 45, 3) := by decide +kernel
theorem dX12_chanceOf_24 : decode cX12_chanceOf 24 = .ok (.iload 4, 2) := by decide +kernel
theorem dX12_chanceOf_26 : decode cX12_chanceOf 26 = .ok (.iaload, 1) := by decide +kernel
theorem dX12_chanceOf_27 : decode cX12_chanceOf 27 = .ok (.ifCond .ne 6, 3) := by decide +kernel
theorem dX12_chanceOf_30 : decode cX12_chanceOf 30 = .ok (.goto 85, 3) := by decide +kernel
theorem dX12_chanceOf_33 : decode cX12_chanceOf 33 = .ok (.lconst 1, 1) := by decide +kernel
theorem dX12_chanceOf_34 : decode cX12_chanceOf 34 = .ok (.lstore 5, 2) := by decide +kernel
theorem dX12_chanceOf_36 : decode cX12_chanceOf 36 = .ok (.iconst 0, 1) := by decide +kernel
theorem dX12_chanceOf_37 : decode cX12_chanceOf 37 = .ok (.istore 7, 2) := by decide +kernel
theorem dX12_chanceOf_39 : decode cX12_chanceOf 39 = .ok (.iload 7, 2) := by decide +kernel
theorem dX12_chanceOf_41 : decode cX12_chanceOf 41 = .ok (.aload_n 0, 1) := by decide +kernel
theorem dX12_chanceOf_42 : decode cX12_chanceOf 42 = .ok (.getfield 13, 3) := by decide +kernel
theorem dX12_chanceOf_45 : decode cX12_chanceOf 45 = .ok (.iconst 2, 1) := by decide +kernel
theorem dX12_chanceOf_46 : decode cX12_chanceOf 46 = .ok (.iaload, 1) := by decide +kernel
theorem dX12_chanceOf_47 : decode cX12_chanceOf 47 = .ok (.if_icmp .ge 63, 3) := by decide +kernel
theorem dX12_chanceOf_50 : decode cX12_chanceOf 50 = .ok (.iload_n 1, 1) := by decide +kernel
theorem dX12_chanceOf_51 : decode cX12_chanceOf 51 = .ok (.i2l, 1) := by decide +kernel
theorem dX12_chanceOf_52 : decode cX12_chanceOf 52 = .ok (.iload 7, 2) := by decide +kernel
theorem dX12_chanceOf_54 : decode cX12_chanceOf 54 = .ok (.invokestatic 251, 3) := by decide +kernel
theorem dX12_chanceOf_57 : decode cX12_chanceOf 57 = .ok (.ifCond .eq 47, 3) := by decide +kernel
theorem dX12_chanceOf_60 : decode cX12_chanceOf 60 = .ok (.lload 5, 2) := by decide +kernel
theorem dX12_chanceOf_62 : decode cX12_chanceOf 62 = .ok (.iload 4, 2) := by decide +kernel
theorem dX12_chanceOf_64 : decode cX12_chanceOf 64 = .ok (.i2l, 1) := by decide +kernel
theorem dX12_chanceOf_65 : decode cX12_chanceOf 65 = .ok (.iload 7, 2) := by decide +kernel
theorem dX12_chanceOf_67 : decode cX12_chanceOf 67 = .ok (.invokestatic 251, 3) := by decide +kernel
theorem dX12_chanceOf_70 : decode cX12_chanceOf 70 = .ok (.ifCond .eq 17, 3) := by decide +kernel
theorem dX12_chanceOf_73 : decode cX12_chanceOf 73 = .ok (.aload_n 0, 1) := by decide +kernel
theorem dX12_chanceOf_74 : decode cX12_chanceOf 74 = .ok (.getfield 13, 3) := by decide +kernel
theorem dX12_chanceOf_77 : decode cX12_chanceOf 77 = .ok (.bipush 32, 2) := by decide +kernel
theorem dX12_chanceOf_79 : decode cX12_chanceOf 79 = .ok (.iload 7, 2) := by decide +kernel
theorem dX12_chanceOf_81 : decode cX12_chanceOf 81 = .ok (.iadd, 1) := by decide +kernel
theorem dX12_chanceOf_82 : decode cX12_chanceOf 82 = .ok (.iaload, 1) := by decide +kernel
theorem dX12_chanceOf_83 : decode cX12_chanceOf 83 = .ok (.i2l, 1) := by decide +kernel
theorem dX12_chanceOf_84 : decode cX12_chanceOf 84 = .ok (.goto 17, 3) := by decide +kernel
theorem dX12_chanceOf_87 : decode cX12_chanceOf 87 = .ok (.bipush 10, 2) := by decide +kernel
theorem dX12_chanceOf_89 : decode cX12_chanceOf 89 = .ok (.aload_n 0, 1) := by decide +kernel
theorem dX12_chanceOf_90 : decode cX12_chanceOf 90 = .ok (.getfield 13, 3) := by decide +kernel
theorem dX12_chanceOf_93 : decode cX12_chanceOf 93 = .ok (.bipush 32, 2) := by decide +kernel
theorem dX12_chanceOf_95 : decode cX12_chanceOf 95 = .ok (.iload 7, 2) := by decide +kernel
theorem dX12_chanceOf_97 : decode cX12_chanceOf 97 = .ok (.iadd, 1) := by decide +kernel
theorem dX12_chanceOf_98 : decode cX12_chanceOf 98 = .ok (.iaload, 1) := by decide +kernel
theorem dX12_chanceOf_99 : decode cX12_chanceOf 99 = .ok (.isub, 1) := by decide +kernel
theorem dX12_chanceOf_100 : decode cX12_chanceOf 100 = .ok (.i2l, 1) := by decide +kernel
theorem dX12_chanceOf_101 : decode cX12_chanceOf 101 = .ok (.lmul, 1) := by decide +kernel
theorem dX12_chanceOf_102 : decode cX12_chanceOf 102 = .ok (.lstore 5, 2) := by decide +kernel
theorem dX12_chanceOf_104 : decode cX12_chanceOf 104 = .ok (.iinc 7 1, 3) := by decide +kernel
theorem dX12_chanceOf_107 : decode cX12_chanceOf 107 = .ok (.goto (-68), 3) := by decide +kernel
theorem dX12_chanceOf_110 : decode cX12_chanceOf 110 = .ok (.lload_n 2, 1) := by decide +kernel
theorem dX12_chanceOf_111 : decode cX12_chanceOf 111 = .ok (.lload 5, 2) := by decide +kernel
theorem dX12_chanceOf_113 : decode cX12_chanceOf 113 = .ok (.ladd, 1) := by decide +kernel
theorem dX12_chanceOf_114 : decode cX12_chanceOf 114 = .ok (.lstore_n 2, 1) := by decide +kernel
theorem dX12_chanceOf_115 : decode cX12_chanceOf 115 = .ok (.iinc 4 1, 3) := by decide +kernel
theorem dX12_chanceOf_118 : decode cX12_chanceOf 118 = .ok (.goto (-113), 3) := by decide +kernel
theorem dX12_chanceOf_121 : decode cX12_chanceOf 121 = .ok (.lload_n 2, 1) := by decide +kernel
theorem dX12_chanceOf_122 : decode cX12_chanceOf 122 = .ok (.lreturn, 1) := by decide +kernel
theorem dX12_common_0 : decode cX12_common 0 = .ok (.lload_n 2, 1) := by decide +kernel
theorem dX12_common_1 : decode cX12_common 1 = .ok (.lconst 0, 1) := by decide +kernel
theorem dX12_common_2 : decode cX12_common 2 = .ok (.lcmp, 1) := by decide +kernel
theorem dX12_common_3 : decode cX12_common 3 = .ok (.ifCond .ne 7, 3) := by decide +kernel
theorem dX12_common_6 : decode cX12_common 6 = .ok (.lload_n 0, 1) := by decide +kernel
theorem dX12_common_7 : decode cX12_common 7 = .ok (.goto 10, 3) := by decide +kernel
theorem dX12_common_10 : decode cX12_common 10 = .ok (.lload_n 2, 1) := by decide +kernel
theorem dX12_common_11 : decode cX12_common 11 = .ok (.lload_n 0, 1) := by decide +kernel
theorem dX12_common_12 : decode cX12_common 12 = .ok (.lload_n 2, 1) := by decide +kernel
theorem dX12_common_13 : decode cX12_common 13 = .ok (.lrem, 1) := by decide +kernel
theorem dX12_common_14 : decode cX12_common 14 = .ok (.invokestatic 414, 3) := by decide +kernel
theorem dX12_common_17 : decode cX12_common 17 = .ok (.lreturn, 1) := by decide +kernel
theorem dX12_easiest_0 : decode cX12_easiest 0 = .ok (.aload_n 0, 1) := by decide +kernel
theorem dX12_easiest_1 : decode cX12_easiest 1 = .ok (.iconst 0, 1) := by decide +kernel
theorem dX12_easiest_2 : decode cX12_easiest 2 = .ok (.putfield 1, 3) := by decide +kernel
theorem dX12_easiest_5 : decode cX12_easiest 5 = .ok (.aload_n 0, 1) := by decide +kernel
theorem dX12_easiest_6 : decode cX12_easiest 6 = .ok (.invokevirtual 346, 3) := by decide +kernel
theorem dX12_easiest_9 : decode cX12_easiest 9 = .ok (.iconst (-1), 1) := by decide +kernel
theorem dX12_easiest_10 : decode cX12_easiest 10 = .ok (.istore_n 1, 1) := by decide +kernel
theorem dX12_easiest_11 : decode cX12_easiest 11 = .ok (.bipush 11, 2) := by decide +kernel
theorem dX12_easiest_13 : decode cX12_easiest 13 = .ok (.istore_n 2, 1) := by decide +kernel
theorem dX12_easiest_14 : decode cX12_easiest 14 = .ok (.iconst 0, 1) := by decide +kernel
theorem dX12_easiest_15 : decode cX12_easiest 15 = .ok (.istore_n 3, 1) := by decide +kernel
theorem dX12_easiest_16 : decode cX12_easiest 16 = .ok (.iload_n 3, 1) := by decide +kernel
theorem dX12_easiest_17 : decode cX12_easiest 17 = .ok (.bipush 10, 2) := by decide +kernel
theorem dX12_easiest_19 : decode cX12_easiest 19 = .ok (.if_icmp .ge 42, 3) := by decide +kernel
theorem dX12_easiest_22 : decode cX12_easiest 22 = .ok (.aload_n 0, 1) := by decide +kernel
theorem dX12_easiest_23 : decode cX12_easiest 23 = .ok (.iload_n 3, 1) := by decide +kernel
theorem dX12_easiest_24 : decode cX12_easiest 24 = .ok (.invokevirtual 399, 3) := by decide +kernel
theorem dX12_easiest_27 : decode cX12_easiest 27 = .ok (.istore 4, 2) := by decide +kernel
theorem dX12_easiest_29 : decode cX12_easiest 29 = .ok (.iload 4, 2) := by decide +kernel
theorem dX12_easiest_31 : decode cX12_easiest 31 = .ok (.iconst (-1), 1) := by decide +kernel
theorem dX12_easiest_32 : decode cX12_easiest 32 = .ok (.if_icmp .eq 23, 3) := by decide +kernel
theorem dX12_easiest_35 : decode cX12_easiest 35 = .ok (.iload 4, 2) := by decide +kernel
theorem dX12_easiest_37 : decode cX12_easiest 37 = .ok (.invokestatic 281, 3) := by decide +kernel
theorem dX12_easiest_40 : decode cX12_easiest 40 = .ok (.iload_n 2, 1) := by decide +kernel
theorem dX12_easiest_41 : decode cX12_easiest 41 = .ok (.if_icmp .lt 6, 3) := by decide +kernel
theorem dX12_easiest_44 : decode cX12_easiest 44 = .ok (.goto 11, 3) := by decide +kernel
theorem dX12_easiest_47 : decode cX12_easiest 47 = .ok (.iload_n 3, 1) := by decide +kernel
theorem dX12_easiest_48 : decode cX12_easiest 48 = .ok (.istore_n 1, 1) := by decide +kernel
theorem dX12_easiest_49 : decode cX12_easiest 49 = .ok (.iload 4, 2) := by decide +kernel
theorem dX12_easiest_51 : decode cX12_easiest 51 = .ok (.invokestatic 281, 3) := by decide +kernel
theorem dX12_easiest_54 : decode cX12_easiest 54 = .ok (.istore_n 2, 1) := by decide +kernel
theorem dX12_easiest_55 : decode cX12_easiest 55 = .ok (.iinc 3 1, 3) := by decide +kernel
theorem dX12_easiest_58 : decode cX12_easiest 58 = .ok (.goto (-42), 3) := by decide +kernel
theorem dX12_easiest_61 : decode cX12_easiest 61 = .ok (.iload_n 1, 1) := by decide +kernel
theorem dX12_easiest_62 : decode cX12_easiest 62 = .ok (.ireturn, 1) := by decide +kernel
theorem dX12_fits_0 : decode cX12_fits 0 = .ok (.aload_n 0, 1) := by decide +kernel
theorem dX12_fits_1 : decode cX12_fits 1 = .ok (.iload_n 3, 1) := by decide +kernel
theorem dX12_fits_2 : decode cX12_fits 2 = .ok (.invokevirtual 402, 3) := by decide +kernel
theorem dX12_fits_5 : decode cX12_fits 5 = .ok (.ifCond .ne 5, 3) := by decide +kernel
theorem dX12_fits_8 : decode cX12_fits 8 = .ok (.iconst 0, 1) := by decide +kernel
theorem dX12_fits_9 : decode cX12_fits 9 = .ok (.ireturn, 1) := by decide +kernel
theorem dX12_fits_10 : decode cX12_fits 10 = .ok (.aload_n 0, 1) := by decide +kernel
theorem dX12_fits_11 : decode cX12_fits 11 = .ok (.iload_n 1, 1) := by decide +kernel
theorem dX12_fits_12 : decode cX12_fits 12 = .ok (.iload_n 3, 1) := by decide +kernel
theorem dX12_fits_13 : decode cX12_fits 13 = .ok (.invokevirtual 378, 3) := by decide +kernel
theorem dX12_fits_16 : decode cX12_fits 16 = .ok (.aload_n 0, 1) := by decide +kernel
theorem dX12_fits_17 : decode cX12_fits 17 = .ok (.invokevirtual 255, 3) := by decide +kernel
theorem dX12_fits_20 : decode cX12_fits 20 = .ok (.iconst 1, 1) := by decide +kernel
theorem dX12_fits_21 : decode cX12_fits 21 = .ok (.iload_n 1, 1) := by decide +kernel
theorem dX12_fits_22 : decode cX12_fits 22 = .ok (.ishl, 1) := by decide +kernel
theorem dX12_fits_23 : decode cX12_fits 23 = .ok (.iconst (-1), 1) := by decide +kernel
theorem dX12_fits_24 : decode cX12_fits 24 = .ok (.ixor, 1) := by decide +kernel
theorem dX12_fits_25 : decode cX12_fits 25 = .ok (.iand, 1) := by decide +kernel
theorem dX12_fits_26 : decode cX12_fits 26 = .ok (.istore 4, 2) := by decide +kernel
theorem dX12_fits_28 : decode cX12_fits 28 = .ok (.iconst 0, 1) := by decide +kernel
theorem dX12_fits_29 : decode cX12_fits 29 = .ok (.istore 5, 2) := by decide +kernel
theorem dX12_fits_31 : decode cX12_fits 31 = .ok (.iload 5, 2) := by decide +kernel
theorem dX12_fits_33 : decode cX12_fits 33 = .ok (.aload_n 0, 1) := by decide +kernel
theorem dX12_fits_34 : decode cX12_fits 34 = .ok (.getfield 13, 3) := by decide +kernel
theorem dX12_fits_37 : decode cX12_fits 37 = .ok (.iconst 2, 1) := by decide +kernel
theorem dX12_fits_38 : decode cX12_fits 38 = .ok (.iaload, 1) := by decide +kernel
theorem dX12_fits_39 : decode cX12_fits 39 = .ok (.if_icmp .ge 46, 3) := by decide +kernel
theorem dX12_fits_42 : decode cX12_fits 42 = .ok (.iload 4, 2) := by decide +kernel
theorem dX12_fits_44 : decode cX12_fits 44 = .ok (.i2l, 1) := by decide +kernel
theorem dX12_fits_45 : decode cX12_fits 45 = .ok (.iload 5, 2) := by decide +kernel
theorem dX12_fits_47 : decode cX12_fits 47 = .ok (.invokestatic 251, 3) := by decide +kernel
theorem dX12_fits_50 : decode cX12_fits 50 = .ok (.ifCond .eq 29, 3) := by decide +kernel
theorem dX12_fits_53 : decode cX12_fits 53 = .ok (.aload_n 0, 1) := by decide +kernel
theorem dX12_fits_54 : decode cX12_fits 54 = .ok (.iload_n 1, 1) := by decide +kernel
theorem dX12_fits_55 : decode cX12_fits 55 = .ok (.iload 5, 2) := by decide +kernel
theorem dX12_fits_57 : decode cX12_fits 57 = .ok (.aload_n 0, 1) := by decide +kernel
theorem dX12_fits_58 : decode cX12_fits 58 = .ok (.getfield 13, 3) := by decide +kernel
theorem dX12_fits_61 : decode cX12_fits 61 = .ok (.bipush 52, 2) := by decide +kernel
theorem dX12_fits_63 : decode cX12_fits 63 = .ok (.iaload, 1) := by decide +kernel
theorem dX12_fits_64 : decode cX12_fits 64 = .ok (.invokevirtual 241, 3) := by decide +kernel
theorem dX12_fits_67 : decode cX12_fits 67 = .ok (.iload_n 2, 1) := by decide +kernel
theorem dX12_fits_68 : decode cX12_fits 68 = .ok (.i2l, 1) := by decide +kernel
theorem dX12_fits_69 : decode cX12_fits 69 = .ok (.iload 5, 2) := by decide +kernel
theorem dX12_fits_71 : decode cX12_fits 71 = .ok (.invokestatic 251, 3) := by decide +kernel
theorem dX12_fits_74 : decode cX12_fits 74 = .ok (.if_icmp .eq 5, 3) := by decide +kernel
theorem dX12_fits_77 : decode cX12_fits 77 = .ok (.iconst 0, 1) := by decide +kernel
theorem dX12_fits_78 : decode cX12_fits 78 = .ok (.ireturn, 1) := by decide +kernel
theorem dX12_fits_79 : decode cX12_fits 79 = .ok (.iinc 5 1, 3) := by decide +kernel
theorem dX12_fits_82 : decode cX12_fits 82 = .ok (.goto (-51), 3) := by decide +kernel
theorem dX12_fits_85 : decode cX12_fits 85 = .ok (.iconst 1, 1) := by decide +kernel
theorem dX12_fits_86 : decode cX12_fits 86 = .ok (.ireturn, 1) := by decide +kernel
theorem dX12_hidden_0 : decode cX12_hidden 0 = .ok (.aload_n 0, 1) := by decide +kernel
theorem dX12_hidden_1 : decode cX12_hidden 1 = .ok (.iconst 0, 1) := by decide +kernel
theorem dX12_hidden_2 : decode cX12_hidden 2 = .ok (.putfield 1, 3) := by decide +kernel
theorem dX12_hidden_5 : decode cX12_hidden 5 = .ok (.aload_n 0, 1) := by decide +kernel
theorem dX12_hidden_6 : decode cX12_hidden 6 = .ok (.iload_n 1, 1) := by decide +kernel
theorem dX12_hidden_7 : decode cX12_hidden 7 = .ok (.iload_n 2, 1) := by decide +kernel
theorem dX12_hidden_8 : decode cX12_hidden 8 = .ok (.invokevirtual 408, 3) := by decide +kernel
theorem dX12_hidden_11 : decode cX12_hidden 11 = .ok (.istore_n 3, 1) := by decide +kernel
theorem dX12_hidden_12 : decode cX12_hidden 12 = .ok (.iload_n 3, 1) := by decide +kernel
theorem dX12_hidden_13 : decode cX12_hidden 13 = .ok (.ifCond .eq 7, 3) := by decide +kernel
theorem dX12_hidden_16 : decode cX12_hidden 16 = .ok (.iload_n 3, 1) := by decide +kernel
theorem dX12_hidden_17 : decode cX12_hidden 17 = .ok (.goto 9, 3) := by decide +kernel
theorem dX12_hidden_20 : decode cX12_hidden 20 = .ok (.aload_n 0, 1) := by decide +kernel
theorem dX12_hidden_21 : decode cX12_hidden 21 = .ok (.iload_n 1, 1) := by decide +kernel
theorem dX12_hidden_22 : decode cX12_hidden 22 = .ok (.iload_n 2, 1) := by decide +kernel
theorem dX12_hidden_23 : decode cX12_hidden 23 = .ok (.invokevirtual 411, 3) := by decide +kernel
theorem dX12_hidden_26 : decode cX12_hidden 26 = .ok (.ireturn, 1) := by decide +kernel
theorem dX12_hiddenAt_0 : decode cX12_hiddenAt 0 = .ok (.aload_n 0, 1) := by decide +kernel
theorem dX12_hiddenAt_1 : decode cX12_hiddenAt 1 = .ok (.iconst 0, 1) := by decide +kernel
theorem dX12_hiddenAt_2 : decode cX12_hiddenAt 2 = .ok (.putfield 1, 3) := by decide +kernel
theorem dX12_hiddenAt_5 : decode cX12_hiddenAt 5 = .ok (.aload_n 0, 1) := by decide +kernel
theorem dX12_hiddenAt_6 : decode cX12_hiddenAt 6 = .ok (.iload_n 1, 1) := by decide +kernel
theorem dX12_hiddenAt_7 : decode cX12_hiddenAt 7 = .ok (.iload_n 2, 1) := by decide +kernel
theorem dX12_hiddenAt_8 : decode cX12_hiddenAt 8 = .ok (.invokevirtual 408, 3) := by decide +kernel
theorem dX12_hiddenAt_11 : decode cX12_hiddenAt 11 = .ok (.istore 4, 2) := by decide +kernel
theorem dX12_hiddenAt_13 : decode cX12_hiddenAt 13 = .ok (.iload 4, 2) := by decide +kernel
theorem dX12_hiddenAt_15 : decode cX12_hiddenAt 15 = .ok (.ifCond .eq 6, 3) := by decide +kernel
theorem dX12_hiddenAt_18 : decode cX12_hiddenAt 18 = .ok (.iload 4, 2) := by decide +kernel
theorem dX12_hiddenAt_20 : decode cX12_hiddenAt 20 = .ok (.ireturn, 1) := by decide +kernel
theorem dX12_hiddenAt_21 : decode cX12_hiddenAt 21 = .ok (.iload_n 3, 1) := by decide +kernel
theorem dX12_hiddenAt_22 : decode cX12_hiddenAt 22 = .ok (.ifCond .ge 6, 3) := by decide +kernel
theorem dX12_hiddenAt_25 : decode cX12_hiddenAt 25 = .ok (.bipush (-3), 2) := by decide +kernel
theorem dX12_hiddenAt_27 : decode cX12_hiddenAt 27 = .ok (.ireturn, 1) := by decide +kernel
theorem dX12_hiddenAt_28 : decode cX12_hiddenAt 28 = .ok (.iload_n 3, 1) := by decide +kernel
theorem dX12_hiddenAt_29 : decode cX12_hiddenAt 29 = .ok (.aload_n 0, 1) := by decide +kernel
theorem dX12_hiddenAt_30 : decode cX12_hiddenAt 30 = .ok (.iload_n 1, 1) := by decide +kernel
theorem dX12_hiddenAt_31 : decode cX12_hiddenAt 31 = .ok (.iload_n 2, 1) := by decide +kernel
theorem dX12_hiddenAt_32 : decode cX12_hiddenAt 32 = .ok (.invokevirtual 411, 3) := by decide +kernel
theorem dX12_hiddenAt_35 : decode cX12_hiddenAt 35 = .ok (.if_icmp .ge 12, 3) := by decide +kernel
theorem dX12_hiddenAt_38 : decode cX12_hiddenAt 38 = .ok (.aload_n 0, 1) := by decide +kernel
theorem dX12_hiddenAt_39 : decode cX12_hiddenAt 39 = .ok (.getfield 54, 3) := by decide +kernel
theorem dX12_hiddenAt_42 : decode cX12_hiddenAt 42 = .ok (.iload_n 3, 1) := by decide +kernel
theorem dX12_hiddenAt_43 : decode cX12_hiddenAt 43 = .ok (.iaload, 1) := by decide +kernel
theorem dX12_hiddenAt_44 : decode cX12_hiddenAt 44 = .ok (.goto 4, 3) := by decide +kernel
theorem dX12_hiddenAt_47 : decode cX12_hiddenAt 47 = .ok (.iconst (-1), 1) := by decide +kernel
theorem dX12_hiddenAt_48 : decode cX12_hiddenAt 48 = .ok (.ireturn, 1) := by decide +kernel
theorem dX12_isBill_0 : decode cX12_isBill 0 = .ok (.iload_n 0, 1) := by decide +kernel
theorem dX12_isBill_1 : decode cX12_isBill 1 = .ok (.i2l, 1) := by decide +kernel
theorem dX12_isBill_2 : decode cX12_isBill 2 = .ok (.lconst 0, 1) := by decide +kernel
theorem dX12_isBill_3 : decode cX12_isBill 3 = .ok (.ldc2_w 203, 3) := by decide +kernel
theorem dX12_isBill_6 : decode cX12_isBill 6 = .ok (.invokestatic 145, 3) := by decide +kernel
theorem dX12_isBill_9 : decode cX12_isBill 9 = .ok (.ireturn, 1) := by decide +kernel
theorem dX12_isTold_0 : decode cX12_isTold 0 = .ok (.aload_n 0, 1) := by decide +kernel
theorem dX12_isTold_1 : decode cX12_isTold 1 = .ok (.getfield 13, 3) := by decide +kernel
theorem dX12_isTold_4 : decode cX12_isTold 4 = .ok (.iconst 1, 1) := by decide +kernel
theorem dX12_isTold_5 : decode cX12_isTold 5 = .ok (.iaload, 1) := by decide +kernel
theorem dX12_isTold_6 : decode cX12_isTold 6 = .ok (.iconst 1, 1) := by decide +kernel
theorem dX12_isTold_7 : decode cX12_isTold 7 = .ok (.if_icmp .gt 13, 3) := by decide +kernel
theorem dX12_isTold_10 : decode cX12_isTold 10 = .ok (.iload_n 1, 1) := by decide +kernel
theorem dX12_isTold_11 : decode cX12_isTold 11 = .ok (.bipush 10, 2) := by decide +kernel
theorem dX12_isTold_13 : decode cX12_isTold 13 = .ok (.idiv, 1) := by decide +kernel
theorem dX12_isTold_14 : decode cX12_isTold 14 = .ok (.bipush 10, 2) := by decide +kernel
theorem dX12_isTold_16 : decode cX12_isTold 16 = .ok (.irem, 1) := by decide +kernel
theorem dX12_isTold_17 : decode cX12_isTold 17 = .ok (.ifCond .ne 24, 3) := by decide +kernel
theorem dX12_isTold_20 : decode cX12_isTold 20 = .ok (.aload_n 0, 1) := by decide +kernel
theorem dX12_isTold_21 : decode cX12_isTold 21 = .ok (.getfield 13, 3) := by decide +kernel
theorem dX12_isTold_24 : decode cX12_isTold 24 = .ok (.iconst 1, 1) := by decide +kernel
theorem dX12_isTold_25 : decode cX12_isTold 25 = .ok (.iaload, 1) := by decide +kernel
theorem dX12_isTold_26 : decode cX12_isTold 26 = .ok (.iconst 2, 1) := by decide +kernel
theorem dX12_isTold_27 : decode cX12_isTold 27 = .ok (.if_icmp .gt 10, 3) := by decide +kernel
theorem dX12_isTold_30 : decode cX12_isTold 30 = .ok (.iload_n 1, 1) := by decide +kernel
theorem dX12_isTold_31 : decode cX12_isTold 31 = .ok (.bipush 10, 2) := by decide +kernel
theorem dX12_isTold_33 : decode cX12_isTold 33 = .ok (.irem, 1) := by decide +kernel
theorem dX12_isTold_34 : decode cX12_isTold 34 = .ok (.ifCond .ne 7, 3) := by decide +kernel
theorem dX12_isTold_37 : decode cX12_isTold 37 = .ok (.iconst 1, 1) := by decide +kernel
theorem dX12_isTold_38 : decode cX12_isTold 38 = .ok (.goto 4, 3) := by decide +kernel
theorem dX12_isTold_41 : decode cX12_isTold 41 = .ok (.iconst 0, 1) := by decide +kernel
theorem dX12_isTold_42 : decode cX12_isTold 42 = .ok (.ireturn, 1) := by decide +kernel
theorem dX12_laysHidden_0 : decode cX12_laysHidden 0 = .ok (.aload_n 0, 1) := by decide +kernel
theorem dX12_laysHidden_1 : decode cX12_laysHidden 1 = .ok (.iload_n 1, 1) := by decide +kernel
theorem dX12_laysHidden_2 : decode cX12_laysHidden 2 = .ok (.invokevirtual 375, 3) := by decide +kernel
theorem dX12_laysHidden_5 : decode cX12_laysHidden 5 = .ok (.istore_n 3, 1) := by decide +kernel
theorem dX12_laysHidden_6 : decode cX12_laysHidden 6 = .ok (.iconst 0, 1) := by decide +kernel
theorem dX12_laysHidden_7 : decode cX12_laysHidden 7 = .ok (.istore 4, 2) := by decide +kernel
theorem dX12_laysHidden_9 : decode cX12_laysHidden 9 = .ok (.iconst 0, 1) := by decide +kernel
theorem dX12_laysHidden_10 : decode cX12_laysHidden 10 = .ok (.istore 5, 2) := by decide +kernel
theorem dX12_laysHidden_12 : decode cX12_laysHidden 12 = .ok (.iload 5, 2) := by decide +kernel
theorem dX12_laysHidden_14 : decode cX12_laysHidden 14 = .ok (.sipush 1000, 3) := by decide +kernel
theorem dX12_laysHidden_17 : decode cX12_laysHidden 17 = .ok (.if_icmp .ge 35, 3) := by decide +kernel
theorem dX12_laysHidden_20 : decode cX12_laysHidden 20 = .ok (.aload_n 0, 1) := by decide +kernel
theorem dX12_laysHidden_21 : decode cX12_laysHidden 21 = .ok (.iload_n 1, 1) := by decide +kernel
theorem dX12_laysHidden_22 : decode cX12_laysHidden 22 = .ok (.iload_n 2, 1) := by decide +kernel
theorem dX12_laysHidden_23 : decode cX12_laysHidden 23 = .ok (.iload 5, 2) := by decide +kernel
theorem dX12_laysHidden_25 : decode cX12_laysHidden 25 = .ok (.invokevirtual 405, 3) := by decide +kernel
theorem dX12_laysHidden_28 : decode cX12_laysHidden 28 = .ok (.ifCond .ne 6, 3) := by decide +kernel
theorem dX12_laysHidden_31 : decode cX12_laysHidden 31 = .ok (.goto 15, 3) := by decide +kernel
theorem dX12_laysHidden_34 : decode cX12_laysHidden 34 = .ok (.aload_n 0, 1) := by decide +kernel
theorem dX12_laysHidden_35 : decode cX12_laysHidden 35 = .ok (.getfield 54, 3) := by decide +kernel
theorem dX12_laysHidden_38 : decode cX12_laysHidden 38 = .ok (.iload 4, 2) := by decide +kernel
theorem dX12_laysHidden_40 : decode cX12_laysHidden 40 = .ok (.iload 5, 2) := by decide +kernel
theorem dX12_laysHidden_42 : decode cX12_laysHidden 42 = .ok (.iastore, 1) := by decide +kernel
theorem dX12_laysHidden_43 : decode cX12_laysHidden 43 = .ok (.iinc 4 1, 3) := by decide +kernel
theorem dX12_laysHidden_46 : decode cX12_laysHidden 46 = .ok (.iinc 5 1, 3) := by decide +kernel
theorem dX12_laysHidden_49 : decode cX12_laysHidden 49 = .ok (.goto (-37), 3) := by decide +kernel
theorem dX12_laysHidden_52 : decode cX12_laysHidden 52 = .ok (.aload_n 0, 1) := by decide +kernel
theorem dX12_laysHidden_53 : decode cX12_laysHidden 53 = .ok (.iload_n 1, 1) := by decide +kernel
theorem dX12_laysHidden_54 : decode cX12_laysHidden 54 = .ok (.iload_n 3, 1) := by decide +kernel
theorem dX12_laysHidden_55 : decode cX12_laysHidden 55 = .ok (.invokevirtual 378, 3) := by decide +kernel
theorem dX12_laysHidden_58 : decode cX12_laysHidden 58 = .ok (.iload 4, 2) := by decide +kernel
theorem dX12_laysHidden_60 : decode cX12_laysHidden 60 = .ok (.ireturn, 1) := by decide +kernel
theorem dX12_noHidden_0 : decode cX12_noHidden 0 = .ok (.aload_n 0, 1) := by decide +kernel
theorem dX12_noHidden_1 : decode cX12_noHidden 1 = .ok (.iload_n 1, 1) := by decide +kernel
theorem dX12_noHidden_2 : decode cX12_noHidden 2 = .ok (.i2l, 1) := by decide +kernel
theorem dX12_noHidden_3 : decode cX12_noHidden 3 = .ok (.invokevirtual 245, 3) := by decide +kernel
theorem dX12_noHidden_6 : decode cX12_noHidden 6 = .ok (.ifCond .ne 8, 3) := by decide +kernel
theorem dX12_noHidden_9 : decode cX12_noHidden 9 = .ok (.bipush (-2), 2) := by decide +kernel
theorem dX12_noHidden_11 : decode cX12_noHidden 11 = .ok (.goto 26, 3) := by decide +kernel
theorem dX12_noHidden_14 : decode cX12_noHidden 14 = .ok (.iload_n 2, 1) := by decide +kernel
theorem dX12_noHidden_15 : decode cX12_noHidden 15 = .ok (.aload_n 0, 1) := by decide +kernel
theorem dX12_noHidden_16 : decode cX12_noHidden 16 = .ok (.invokevirtual 255, 3) := by decide +kernel
theorem dX12_noHidden_19 : decode cX12_noHidden 19 = .ok (.iconst 1, 1) := by decide +kernel
theorem dX12_noHidden_20 : decode cX12_noHidden 20 = .ok (.iload_n 1, 1) := by decide +kernel
theorem dX12_noHidden_21 : decode cX12_noHidden 21 = .ok (.ishl, 1) := by decide +kernel
theorem dX12_noHidden_22 : decode cX12_noHidden 22 = .ok (.iconst (-1), 1) := by decide +kernel
theorem dX12_noHidden_23 : decode cX12_noHidden 23 = .ok (.ixor, 1) := by decide +kernel
theorem dX12_noHidden_24 : decode cX12_noHidden 24 = .ok (.iand, 1) := by decide +kernel
theorem dX12_noHidden_25 : decode cX12_noHidden 25 = .ok (.iconst (-1), 1) := by decide +kernel
theorem dX12_noHidden_26 : decode cX12_noHidden 26 = .ok (.ixor, 1) := by decide +kernel
theorem dX12_noHidden_27 : decode cX12_noHidden 27 = .ok (.iand, 1) := by decide +kernel
theorem dX12_noHidden_28 : decode cX12_noHidden 28 = .ok (.ifCond .eq 8, 3) := by decide +kernel
theorem dX12_noHidden_31 : decode cX12_noHidden 31 = .ok (.bipush (-3), 2) := by decide +kernel
theorem dX12_noHidden_33 : decode cX12_noHidden 33 = .ok (.goto 4, 3) := by decide +kernel
theorem dX12_noHidden_36 : decode cX12_noHidden 36 = .ok (.iconst 0, 1) := by decide +kernel
theorem dX12_noHidden_37 : decode cX12_noHidden 37 = .ok (.ireturn, 1) := by decide +kernel
theorem dX12_passed_0 : decode cX12_passed 0 = .ok (.aload_n 0, 1) := by decide +kernel
theorem dX12_passed_1 : decode cX12_passed 1 = .ok (.iconst 0, 1) := by decide +kernel
theorem dX12_passed_2 : decode cX12_passed 2 = .ok (.putfield 1, 3) := by decide +kernel
theorem dX12_passed_5 : decode cX12_passed 5 = .ok (.iload_n 2, 1) := by decide +kernel
theorem dX12_passed_6 : decode cX12_passed 6 = .ok (.i2l, 1) := by decide +kernel
theorem dX12_passed_7 : decode cX12_passed 7 = .ok (.lconst 0, 1) := by decide +kernel
theorem dX12_passed_8 : decode cX12_passed 8 = .ok (.lconst 1, 1) := by decide +kernel
theorem dX12_passed_9 : decode cX12_passed 9 = .ok (.invokestatic 145, 3) := by decide +kernel
theorem dX12_passed_12 : decode cX12_passed 12 = .ok (.ifCond .ne 6, 3) := by decide +kernel
theorem dX12_passed_15 : decode cX12_passed 15 = .ok (.bipush (-2), 2) := by decide +kernel
theorem dX12_passed_17 : decode cX12_passed 17 = .ok (.ireturn, 1) := by decide +kernel
theorem dX12_passed_18 : decode cX12_passed 18 = .ok (.iload_n 1, 1) := by decide +kernel
theorem dX12_passed_19 : decode cX12_passed 19 = .ok (.invokestatic 393, 3) := by decide +kernel
theorem dX12_passed_22 : decode cX12_passed 22 = .ok (.ifCond .ne 6, 3) := by decide +kernel
theorem dX12_passed_25 : decode cX12_passed 25 = .ok (.bipush (-3), 2) := by decide +kernel
theorem dX12_passed_27 : decode cX12_passed 27 = .ok (.ireturn, 1) := by decide +kernel
theorem dX12_passed_28 : decode cX12_passed 28 = .ok (.aload_n 0, 1) := by decide +kernel
theorem dX12_passed_29 : decode cX12_passed 29 = .ok (.invokevirtual 346, 3) := by decide +kernel
theorem dX12_passed_32 : decode cX12_passed 32 = .ok (.aload_n 0, 1) := by decide +kernel
theorem dX12_passed_33 : decode cX12_passed 33 = .ok (.iload_n 1, 1) := by decide +kernel
theorem dX12_passed_34 : decode cX12_passed 34 = .ok (.invokevirtual 399, 3) := by decide +kernel
theorem dX12_passed_37 : decode cX12_passed 37 = .ok (.istore_n 3, 1) := by decide +kernel
theorem dX12_passed_38 : decode cX12_passed 38 = .ok (.iload_n 3, 1) := by decide +kernel
theorem dX12_passed_39 : decode cX12_passed 39 = .ok (.iconst (-1), 1) := by decide +kernel
theorem dX12_passed_40 : decode cX12_passed 40 = .ok (.if_icmp .eq 8, 3) := by decide +kernel
theorem dX12_passed_43 : decode cX12_passed 43 = .ok (.iload_n 2, 1) := by decide +kernel
theorem dX12_passed_44 : decode cX12_passed 44 = .ok (.iconst 1, 1) := by decide +kernel
theorem dX12_passed_45 : decode cX12_passed 45 = .ok (.if_icmp .ne 7, 3) := by decide +kernel
theorem dX12_passed_48 : decode cX12_passed 48 = .ok (.iload_n 3, 1) := by decide +kernel
theorem dX12_passed_49 : decode cX12_passed 49 = .ok (.goto 7, 3) := by decide +kernel
theorem dX12_passed_52 : decode cX12_passed 52 = .ok (.iload_n 3, 1) := by decide +kernel
theorem dX12_passed_53 : decode cX12_passed 53 = .ok (.invokestatic 281, 3) := by decide +kernel
theorem dX12_passed_56 : decode cX12_passed 56 = .ok (.ireturn, 1) := by decide +kernel
theorem dX12_passedBy_0 : decode cX12_passedBy 0 = .ok (.aload_n 0, 1) := by decide +kernel
theorem dX12_passedBy_1 : decode cX12_passedBy 1 = .ok (.invokevirtual 255, 3) := by decide +kernel
theorem dX12_passedBy_4 : decode cX12_passedBy 4 = .ok (.istore_n 2, 1) := by decide +kernel
theorem dX12_passedBy_5 : decode cX12_passedBy 5 = .ok (.aload_n 0, 1) := by decide +kernel
theorem dX12_passedBy_6 : decode cX12_passedBy 6 = .ok (.iload_n 2, 1) := by decide +kernel
theorem dX12_passedBy_7 : decode cX12_passedBy 7 = .ok (.iload_n 1, 1) := by decide +kernel
theorem dX12_passedBy_8 : decode cX12_passedBy 8 = .ok (.invokevirtual 396, 3) := by decide +kernel
theorem dX12_passedBy_11 : decode cX12_passedBy 11 = .ok (.istore_n 3, 1) := by decide +kernel
theorem dX12_passedBy_12 : decode cX12_passedBy 12 = .ok (.iconst (-1), 1) := by decide +kernel
theorem dX12_passedBy_13 : decode cX12_passedBy 13 = .ok (.istore 4, 2) := by decide +kernel
theorem dX12_passedBy_15 : decode cX12_passedBy 15 = .ok (.iconst 0, 1) := by decide +kernel
theorem dX12_passedBy_16 : decode cX12_passedBy 16 = .ok (.istore 5, 2) := by decide +kernel
theorem dX12_passedBy_18 : decode cX12_passedBy 18 = .ok (.iload 5, 2) := by decide +kernel
theorem dX12_passedBy_20 : decode cX12_passedBy 20 = .ok (.iload_n 2, 1) := by decide +kernel
theorem dX12_passedBy_21 : decode cX12_passedBy 21 = .ok (.if_icmp .gt 79, 3) := by decide +kernel
theorem dX12_passedBy_24 : decode cX12_passedBy 24 = .ok (.iload_n 2, 1) := by decide +kernel
theorem dX12_passedBy_25 : decode cX12_passedBy 25 = .ok (.iload 5, 2) := by decide +kernel
theorem dX12_passedBy_27 : decode cX12_passedBy 27 = .ok (.iconst (-1), 1) := by decide +kernel
theorem dX12_passedBy_28 : decode cX12_passedBy 28 = .ok (.ixor, 1) := by decide +kernel
theorem dX12_passedBy_29 : decode cX12_passedBy 29 = .ok (.iand, 1) := by decide +kernel
theorem dX12_passedBy_30 : decode cX12_passedBy 30 = .ok (.istore 6, 2) := by decide +kernel
theorem dX12_passedBy_32 : decode cX12_passedBy 32 = .ok (.iload 5, 2) := by decide +kernel
theorem dX12_passedBy_34 : decode cX12_passedBy 34 = .ok (.iload_n 2, 1) := by decide +kernel
theorem dX12_passedBy_35 : decode cX12_passedBy 35 = .ok (.iconst (-1), 1) := by decide +kernel
theorem dX12_passedBy_36 : decode cX12_passedBy 36 = .ok (.ixor, 1) := by decide +kernel
theorem dX12_passedBy_37 : decode cX12_passedBy 37 = .ok (.iand, 1) := by decide +kernel
theorem dX12_passedBy_38 : decode cX12_passedBy 38 = .ok (.ifCond .ne 56, 3) := by decide +kernel
theorem dX12_passedBy_41 : decode cX12_passedBy 41 = .ok (.iload 4, 2) := by decide +kernel
theorem dX12_passedBy_43 : decode cX12_passedBy 43 = .ok (.iconst (-1), 1) := by decide +kernel
theorem dX12_passedBy_44 : decode cX12_passedBy 44 = .ok (.if_icmp .eq 19, 3) := by decide +kernel
theorem dX12_passedBy_47 : decode cX12_passedBy 47 = .ok (.iload 5, 2) := by decide +kernel
theorem dX12_passedBy_49 : decode cX12_passedBy 49 = .ok (.invokestatic 281, 3) := by decide +kernel
theorem dX12_passedBy_52 : decode cX12_passedBy 52 = .ok (.iload 4, 2) := by decide +kernel
theorem dX12_passedBy_54 : decode cX12_passedBy 54 = .ok (.invokestatic 281, 3) := by decide +kernel
theorem dX12_passedBy_57 : decode cX12_passedBy 57 = .ok (.if_icmp .lt 6, 3) := by decide +kernel
theorem dX12_passedBy_60 : decode cX12_passedBy 60 = .ok (.goto 34, 3) := by decide +kernel
theorem dX12_passedBy_63 : decode cX12_passedBy 63 = .ok (.aload_n 0, 1) := by decide +kernel
theorem dX12_passedBy_64 : decode cX12_passedBy 64 = .ok (.getfield 45, 3) := by decide +kernel
theorem dX12_passedBy_67 : decode cX12_passedBy 67 = .ok (.iload 6, 2) := by decide +kernel
theorem dX12_passedBy_69 : decode cX12_passedBy 69 = .ok (.iaload, 1) := by decide +kernel
theorem dX12_passedBy_70 : decode cX12_passedBy 70 = .ok (.ifCond .le 24, 3) := by decide +kernel
theorem dX12_passedBy_73 : decode cX12_passedBy 73 = .ok (.iconst 2, 1) := by decide +kernel
theorem dX12_passedBy_74 : decode cX12_passedBy 74 = .ok (.iload_n 3, 1) := by decide +kernel
theorem dX12_passedBy_75 : decode cX12_passedBy 75 = .ok (.iload 6, 2) := by decide +kernel
theorem dX12_passedBy_77 : decode cX12_passedBy 77 = .ok (.iand, 1) := by decide +kernel
theorem dX12_passedBy_78 : decode cX12_passedBy 78 = .ok (.invokestatic 281, 3) := by decide +kernel
theorem dX12_passedBy_81 : decode cX12_passedBy 81 = .ok (.imul, 1) := by decide +kernel
theorem dX12_passedBy_82 : decode cX12_passedBy 82 = .ok (.iload 6, 2) := by decide +kernel
theorem dX12_passedBy_84 : decode cX12_passedBy 84 = .ok (.invokestatic 281, 3) := by decide +kernel
theorem dX12_passedBy_87 : decode cX12_passedBy 87 = .ok (.if_icmp .le 7, 3) := by decide +kernel
theorem dX12_passedBy_90 : decode cX12_passedBy 90 = .ok (.iload 5, 2) := by decide +kernel
theorem dX12_passedBy_92 : decode cX12_passedBy 92 = .ok (.istore 4, 2) := by decide +kernel
theorem dX12_passedBy_94 : decode cX12_passedBy 94 = .ok (.iinc 5 1, 3) := by decide +kernel
theorem dX12_passedBy_97 : decode cX12_passedBy 97 = .ok (.goto (-79), 3) := by decide +kernel
theorem dX12_passedBy_100 : decode cX12_passedBy 100 = .ok (.iload 4, 2) := by decide +kernel
theorem dX12_passedBy_102 : decode cX12_passedBy 102 = .ok (.ireturn, 1) := by decide +kernel
theorem dX12_passes_0 : decode cX12_passes 0 = .ok (.aload_n 0, 1) := by decide +kernel
theorem dX12_passes_1 : decode cX12_passes 1 = .ok (.iconst 0, 1) := by decide +kernel
theorem dX12_passes_2 : decode cX12_passes 2 = .ok (.putfield 1, 3) := by decide +kernel
theorem dX12_passes_5 : decode cX12_passes 5 = .ok (.iload_n 1, 1) := by decide +kernel
theorem dX12_passes_6 : decode cX12_passes 6 = .ok (.invokestatic 393, 3) := by decide +kernel
theorem dX12_passes_9 : decode cX12_passes 9 = .ok (.ifCond .ne 6, 3) := by decide +kernel
theorem dX12_passes_12 : decode cX12_passes 12 = .ok (.bipush (-3), 2) := by decide +kernel
theorem dX12_passes_14 : decode cX12_passes 14 = .ok (.ireturn, 1) := by decide +kernel
theorem dX12_passes_15 : decode cX12_passes 15 = .ok (.aload_n 0, 1) := by decide +kernel
theorem dX12_passes_16 : decode cX12_passes 16 = .ok (.invokevirtual 346, 3) := by decide +kernel
theorem dX12_passes_19 : decode cX12_passes 19 = .ok (.aload_n 0, 1) := by decide +kernel
theorem dX12_passes_20 : decode cX12_passes 20 = .ok (.iload_n 1, 1) := by decide +kernel
theorem dX12_passes_21 : decode cX12_passes 21 = .ok (.invokevirtual 399, 3) := by decide +kernel
theorem dX12_passes_24 : decode cX12_passes 24 = .ok (.ifCond .ne 7, 3) := by decide +kernel
theorem dX12_passes_27 : decode cX12_passes 27 = .ok (.iconst 1, 1) := by decide +kernel
theorem dX12_passes_28 : decode cX12_passes 28 = .ok (.goto 4, 3) := by decide +kernel
theorem dX12_passes_31 : decode cX12_passes 31 = .ok (.iconst 0, 1) := by decide +kernel
theorem dX12_passes_32 : decode cX12_passes 32 = .ok (.ireturn, 1) := by decide +kernel
theorem dX12_probe_0 : decode cX12_probe 0 = .ok (.aload_n 0, 1) := by decide +kernel
theorem dX12_probe_1 : decode cX12_probe 1 = .ok (.iconst 0, 1) := by decide +kernel
theorem dX12_probe_2 : decode cX12_probe 2 = .ok (.putfield 1, 3) := by decide +kernel
theorem dX12_probe_5 : decode cX12_probe 5 = .ok (.aload_n 0, 1) := by decide +kernel
theorem dX12_probe_6 : decode cX12_probe 6 = .ok (.iload_n 1, 1) := by decide +kernel
theorem dX12_probe_7 : decode cX12_probe 7 = .ok (.iload_n 2, 1) := by decide +kernel
theorem dX12_probe_8 : decode cX12_probe 8 = .ok (.invokevirtual 408, 3) := by decide +kernel
theorem dX12_probe_11 : decode cX12_probe 11 = .ok (.istore_n 3, 1) := by decide +kernel
theorem dX12_probe_12 : decode cX12_probe 12 = .ok (.iload_n 3, 1) := by decide +kernel
theorem dX12_probe_13 : decode cX12_probe 13 = .ok (.ifCond .eq 5, 3) := by decide +kernel
theorem dX12_probe_16 : decode cX12_probe 16 = .ok (.iload_n 3, 1) := by decide +kernel
theorem dX12_probe_17 : decode cX12_probe 17 = .ok (.ireturn, 1) := by decide +kernel
theorem dX12_probe_18 : decode cX12_probe 18 = .ok (.aload_n 0, 1) := by decide +kernel
theorem dX12_probe_19 : decode cX12_probe 19 = .ok (.iload_n 1, 1) := by decide +kernel
theorem dX12_probe_20 : decode cX12_probe 20 = .ok (.iload_n 2, 1) := by decide +kernel
theorem dX12_probe_21 : decode cX12_probe 21 = .ok (.invokevirtual 411, 3) := by decide +kernel
theorem dX12_probe_24 : decode cX12_probe 24 = .ok (.istore 4, 2) := by decide +kernel
theorem dX12_probe_26 : decode cX12_probe 26 = .ok (.aload_n 0, 1) := by decide +kernel
theorem dX12_probe_27 : decode cX12_probe 27 = .ok (.iload_n 1, 1) := by decide +kernel
theorem dX12_probe_28 : decode cX12_probe 28 = .ok (.invokevirtual 375, 3) := by decide +kernel
theorem dX12_probe_31 : decode cX12_probe 31 = .ok (.istore 5, 2) := by decide +kernel
theorem dX12_probe_33 : decode cX12_probe 33 = .ok (.iconst (-1), 1) := by decide +kernel
theorem dX12_probe_34 : decode cX12_probe 34 = .ok (.istore 6, 2) := by decide +kernel
theorem dX12_probe_36 : decode cX12_probe 36 = .ok (.iconst (-1), 1) := by decide +kernel
theorem dX12_probe_37 : decode cX12_probe 37 = .ok (.istore 7, 2) := by decide +kernel
theorem dX12_probe_39 : decode cX12_probe 39 = .ok (.iconst 0, 1) := by decide +kernel
theorem dX12_probe_40 : decode cX12_probe 40 = .ok (.istore 8, 2) := by decide +kernel
theorem dX12_probe_42 : decode cX12_probe 42 = .ok (.iload 8, 2) := by decide +kernel
theorem dX12_probe_44 : decode cX12_probe 44 = .ok (.aload_n 0, 1) := by decide +kernel
theorem dX12_probe_45 : decode cX12_probe 45 = .ok (.getfield 13, 3) := by decide +kernel
theorem dX12_probe_48 : decode cX12_probe 48 = .ok (.iconst 2, 1) := by decide +kernel
theorem dX12_probe_49 : decode cX12_probe 49 = .ok (.iaload, 1) := by decide +kernel
theorem dX12_probe_50 : decode cX12_probe 50 = .ok (.if_icmp .ge 134, 3) := by decide +kernel
theorem dX12_probe_53 : decode cX12_probe 53 = .ok (.iload 4, 2) := by decide +kernel
theorem dX12_probe_55 : decode cX12_probe 55 = .ok (.ifCond .le 129, 3) := by decide +kernel
theorem dX12_probe_58 : decode cX12_probe 58 = .ok (.iload 8, 2) := by decide +kernel
theorem dX12_probe_60 : decode cX12_probe 60 = .ok (.iload_n 1, 1) := by decide +kernel
theorem dX12_probe_61 : decode cX12_probe 61 = .ok (.if_icmp .eq 117, 3) := by decide +kernel
theorem dX12_probe_64 : decode cX12_probe 64 = .ok (.aload_n 0, 1) := by decide +kernel
theorem dX12_probe_65 : decode cX12_probe 65 = .ok (.invokevirtual 255, 3) := by decide +kernel
theorem dX12_probe_68 : decode cX12_probe 68 = .ok (.i2l, 1) := by decide +kernel
theorem dX12_probe_69 : decode cX12_probe 69 = .ok (.iload 8, 2) := by decide +kernel
theorem dX12_probe_71 : decode cX12_probe 71 = .ok (.invokestatic 251, 3) := by decide +kernel
theorem dX12_probe_74 : decode cX12_probe 74 = .ok (.ifCond .eq 6, 3) := by decide +kernel
theorem dX12_probe_77 : decode cX12_probe 77 = .ok (.goto 101, 3) := by decide +kernel
theorem dX12_probe_80 : decode cX12_probe 80 = .ok (.iconst 0, 1) := by decide +kernel
theorem dX12_probe_81 : decode cX12_probe 81 = .ok (.istore 9, 2) := by decide +kernel
theorem dX12_probe_83 : decode cX12_probe 83 = .ok (.iconst 0, 1) := by decide +kernel
theorem dX12_probe_84 : decode cX12_probe 84 = .ok (.istore 10, 2) := by decide +kernel
theorem dX12_probe_86 : decode cX12_probe 86 = .ok (.iload 10, 2) := by decide +kernel
theorem dX12_probe_88 : decode cX12_probe 88 = .ok (.iload 4, 2) := by decide +kernel
theorem dX12_probe_90 : decode cX12_probe 90 = .ok (.if_icmp .ge 48, 3) := by decide +kernel
theorem dX12_probe_93 : decode cX12_probe 93 = .ok (.aload_n 0, 1) := by decide +kernel
theorem dX12_probe_94 : decode cX12_probe 94 = .ok (.iload_n 1, 1) := by decide +kernel
theorem dX12_probe_95 : decode cX12_probe 95 = .ok (.aload_n 0, 1) := by decide +kernel
theorem dX12_probe_96 : decode cX12_probe 96 = .ok (.getfield 54, 3) := by decide +kernel
theorem dX12_probe_99 : decode cX12_probe 99 = .ok (.iload 10, 2) := by decide +kernel
theorem dX12_probe_101 : decode cX12_probe 101 = .ok (.iaload, 1) := by decide +kernel
theorem dX12_probe_102 : decode cX12_probe 102 = .ok (.invokevirtual 378, 3) := by decide +kernel
theorem dX12_probe_105 : decode cX12_probe 105 = .ok (.iload 9, 2) := by decide +kernel
theorem dX12_probe_107 : decode cX12_probe 107 = .ok (.aload_n 0, 1) := by decide +kernel
theorem dX12_probe_108 : decode cX12_probe 108 = .ok (.iload_n 1, 1) := by decide +kernel
theorem dX12_probe_109 : decode cX12_probe 109 = .ok (.iload 8, 2) := by decide +kernel
theorem dX12_probe_111 : decode cX12_probe 111 = .ok (.aload_n 0, 1) := by decide +kernel
theorem dX12_probe_112 : decode cX12_probe 112 = .ok (.getfield 13, 3) := by decide +kernel
theorem dX12_probe_115 : decode cX12_probe 115 = .ok (.bipush 52, 2) := by decide +kernel
theorem dX12_probe_117 : decode cX12_probe 117 = .ok (.iaload, 1) := by decide +kernel
theorem dX12_probe_118 : decode cX12_probe 118 = .ok (.invokevirtual 241, 3) := by decide +kernel
theorem dX12_probe_121 : decode cX12_probe 121 = .ok (.ifCond .eq 7, 3) := by decide +kernel
theorem dX12_probe_124 : decode cX12_probe 124 = .ok (.iconst 1, 1) := by decide +kernel
theorem dX12_probe_125 : decode cX12_probe 125 = .ok (.goto 4, 3) := by decide +kernel
theorem dX12_probe_128 : decode cX12_probe 128 = .ok (.iconst 0, 1) := by decide +kernel
theorem dX12_probe_129 : decode cX12_probe 129 = .ok (.iadd, 1) := by decide +kernel
theorem dX12_probe_130 : decode cX12_probe 130 = .ok (.istore 9, 2) := by decide +kernel
theorem dX12_probe_132 : decode cX12_probe 132 = .ok (.iinc 10 1, 3) := by decide +kernel
theorem dX12_probe_135 : decode cX12_probe 135 = .ok (.goto (-49), 3) := by decide +kernel
theorem dX12_probe_138 : decode cX12_probe 138 = .ok (.iload 9, 2) := by decide +kernel
theorem dX12_probe_140 : decode cX12_probe 140 = .ok (.iload 4, 2) := by decide +kernel
theorem dX12_probe_142 : decode cX12_probe 142 = .ok (.iload 9, 2) := by decide +kernel
theorem dX12_probe_144 : decode cX12_probe 144 = .ok (.isub, 1) := by decide +kernel
theorem dX12_probe_145 : decode cX12_probe 145 = .ok (.if_icmp .ge 8, 3) := by decide +kernel
theorem dX12_probe_148 : decode cX12_probe 148 = .ok (.iload 9, 2) := by decide +kernel
theorem dX12_probe_150 : decode cX12_probe 150 = .ok (.goto 8, 3) := by decide +kernel
theorem dX12_probe_153 : decode cX12_probe 153 = .ok (.iload 4, 2) := by decide +kernel
theorem dX12_probe_155 : decode cX12_probe 155 = .ok (.iload 9, 2) := by decide +kernel
theorem dX12_probe_157 : decode cX12_probe 157 = .ok (.isub, 1) := by decide +kernel
theorem dX12_probe_158 : decode cX12_probe 158 = .ok (.istore 10, 2) := by decide +kernel
theorem dX12_probe_160 : decode cX12_probe 160 = .ok (.iload 10, 2) := by decide +kernel
theorem dX12_probe_162 : decode cX12_probe 162 = .ok (.iload 7, 2) := by decide +kernel
theorem dX12_probe_164 : decode cX12_probe 164 = .ok (.if_icmp .gt 6, 3) := by decide +kernel
theorem dX12_probe_167 : decode cX12_probe 167 = .ok (.goto 11, 3) := by decide +kernel
theorem dX12_probe_170 : decode cX12_probe 170 = .ok (.iload 8, 2) := by decide +kernel
theorem dX12_probe_172 : decode cX12_probe 172 = .ok (.istore 6, 2) := by decide +kernel
theorem dX12_probe_174 : decode cX12_probe 174 = .ok (.iload 10, 2) := by decide +kernel
theorem dX12_probe_176 : decode cX12_probe 176 = .ok (.istore 7, 2) := by decide +kernel
theorem dX12_probe_178 : decode cX12_probe 178 = .ok (.iinc 8 1, 3) := by decide +kernel
theorem dX12_probe_181 : decode cX12_probe 181 = .ok (.goto (-139), 3) := by decide +kernel
theorem dX12_probe_184 : decode cX12_probe 184 = .ok (.aload_n 0, 1) := by decide +kernel
theorem dX12_probe_185 : decode cX12_probe 185 = .ok (.iload_n 1, 1) := by decide +kernel
theorem dX12_probe_186 : decode cX12_probe 186 = .ok (.iload 5, 2) := by decide +kernel
theorem dX12_probe_188 : decode cX12_probe 188 = .ok (.invokevirtual 378, 3) := by decide +kernel
theorem dX12_probe_191 : decode cX12_probe 191 = .ok (.iload 6, 2) := by decide +kernel
theorem dX12_probe_193 : decode cX12_probe 193 = .ok (.ireturn, 1) := by decide +kernel
theorem dX12_saysAye_0 : decode cX12_saysAye 0 = .ok (.aload_n 0, 1) := by decide +kernel
theorem dX12_saysAye_1 : decode cX12_saysAye 1 = .ok (.getfield 13, 3) := by decide +kernel
theorem dX12_saysAye_4 : decode cX12_saysAye 4 = .ok (.iconst 4, 1) := by decide +kernel
theorem dX12_saysAye_5 : decode cX12_saysAye 5 = .ok (.iaload, 1) := by decide +kernel
theorem dX12_saysAye_6 : decode cX12_saysAye 6 = .ok (.ifCond .ne 24, 3) := by decide +kernel
theorem dX12_saysAye_9 : decode cX12_saysAye 9 = .ok (.aload_n 0, 1) := by decide +kernel
theorem dX12_saysAye_10 : decode cX12_saysAye 10 = .ok (.getfield 13, 3) := by decide +kernel
theorem dX12_saysAye_13 : decode cX12_saysAye 13 = .ok (.bipush 54, 2) := by decide +kernel
theorem dX12_saysAye_15 : decode cX12_saysAye 15 = .ok (.iconst 3, 1) := by decide +kernel
theorem dX12_saysAye_16 : decode cX12_saysAye 16 = .ok (.iload_n 1, 1) := by decide +kernel
theorem dX12_saysAye_17 : decode cX12_saysAye 17 = .ok (.imul, 1) := by decide +kernel
theorem dX12_saysAye_18 : decode cX12_saysAye 18 = .ok (.iadd, 1) := by decide +kernel
theorem dX12_saysAye_19 : decode cX12_saysAye 19 = .ok (.iaload, 1) := by decide +kernel
theorem dX12_saysAye_20 : decode cX12_saysAye 20 = .ok (.iconst 4, 1) := by decide +kernel
theorem dX12_saysAye_21 : decode cX12_saysAye 21 = .ok (.if_icmp .le 7, 3) := by decide +kernel
theorem dX12_saysAye_24 : decode cX12_saysAye 24 = .ok (.iconst 1, 1) := by decide +kernel
theorem dX12_saysAye_25 : decode cX12_saysAye 25 = .ok (.goto 4, 3) := by decide +kernel
theorem dX12_saysAye_28 : decode cX12_saysAye 28 = .ok (.iconst 0, 1) := by decide +kernel
theorem dX12_saysAye_29 : decode cX12_saysAye 29 = .ok (.ireturn, 1) := by decide +kernel
theorem dX12_saysAye_30 : decode cX12_saysAye 30 = .ok (.aload_n 0, 1) := by decide +kernel
theorem dX12_saysAye_31 : decode cX12_saysAye 31 = .ok (.iload_n 1, 1) := by decide +kernel
theorem dX12_saysAye_32 : decode cX12_saysAye 32 = .ok (.iload_n 1, 1) := by decide +kernel
theorem dX12_saysAye_33 : decode cX12_saysAye 33 = .ok (.aload_n 0, 1) := by decide +kernel
theorem dX12_saysAye_34 : decode cX12_saysAye 34 = .ok (.getfield 13, 3) := by decide +kernel
theorem dX12_saysAye_37 : decode cX12_saysAye 37 = .ok (.bipush 52, 2) := by decide +kernel
theorem dX12_saysAye_39 : decode cX12_saysAye 39 = .ok (.iaload, 1) := by decide +kernel
theorem dX12_saysAye_40 : decode cX12_saysAye 40 = .ok (.invokevirtual 231, 3) := by decide +kernel
theorem dX12_saysAye_43 : decode cX12_saysAye 43 = .ok (.aload_n 0, 1) := by decide +kernel
theorem dX12_saysAye_44 : decode cX12_saysAye 44 = .ok (.getfield 33, 3) := by decide +kernel
theorem dX12_saysAye_47 : decode cX12_saysAye 47 = .ok (.bipush 9, 2) := by decide +kernel
theorem dX12_saysAye_49 : decode cX12_saysAye 49 = .ok (.iload_n 2, 1) := by decide +kernel
theorem dX12_saysAye_50 : decode cX12_saysAye 50 = .ok (.iastore, 1) := by decide +kernel
theorem dX12_saysAye_51 : decode cX12_saysAye 51 = .ok (.aload_n 0, 1) := by decide +kernel
theorem dX12_saysAye_52 : decode cX12_saysAye 52 = .ok (.iconst 1, 1) := by decide +kernel
theorem dX12_saysAye_53 : decode cX12_saysAye 53 = .ok (.invokevirtual 235, 3) := by decide +kernel
theorem dX12_saysAye_56 : decode cX12_saysAye 56 = .ok (.iconst 1, 1) := by decide +kernel
theorem dX12_saysAye_57 : decode cX12_saysAye 57 = .ok (.if_icmp .ne 7, 3) := by decide +kernel
theorem dX12_saysAye_60 : decode cX12_saysAye 60 = .ok (.iconst 1, 1) := by decide +kernel
theorem dX12_saysAye_61 : decode cX12_saysAye 61 = .ok (.goto 4, 3) := by decide +kernel
theorem dX12_saysAye_64 : decode cX12_saysAye 64 = .ok (.iconst 0, 1) := by decide +kernel
theorem dX12_saysAye_65 : decode cX12_saysAye 65 = .ok (.ireturn, 1) := by decide +kernel
theorem dX12_tens_0 : decode cX12_tens 0 = .ok (.lconst 1, 1) := by decide +kernel
theorem dX12_tens_1 : decode cX12_tens 1 = .ok (.lstore_n 1, 1) := by decide +kernel
theorem dX12_tens_2 : decode cX12_tens 2 = .ok (.iconst 0, 1) := by decide +kernel
theorem dX12_tens_3 : decode cX12_tens 3 = .ok (.istore_n 3, 1) := by decide +kernel
theorem dX12_tens_4 : decode cX12_tens 4 = .ok (.iload_n 3, 1) := by decide +kernel
theorem dX12_tens_5 : decode cX12_tens 5 = .ok (.iload_n 0, 1) := by decide +kernel
theorem dX12_tens_6 : decode cX12_tens 6 = .ok (.if_icmp .ge 15, 3) := by decide +kernel
theorem dX12_tens_9 : decode cX12_tens 9 = .ok (.lload_n 1, 1) := by decide +kernel
theorem dX12_tens_10 : decode cX12_tens 10 = .ok (.ldc2_w 289, 3) := by decide +kernel
theorem dX12_tens_13 : decode cX12_tens 13 = .ok (.lmul, 1) := by decide +kernel
theorem dX12_tens_14 : decode cX12_tens 14 = .ok (.lstore_n 1, 1) := by decide +kernel
theorem dX12_tens_15 : decode cX12_tens 15 = .ok (.iinc 3 1, 3) := by decide +kernel
theorem dX12_tens_18 : decode cX12_tens 18 = .ok (.goto (-14), 3) := by decide +kernel
theorem dX12_tens_21 : decode cX12_tens 21 = .ok (.lload_n 1, 1) := by decide +kernel
theorem dX12_tens_22 : decode cX12_tens 22 = .ok (.lreturn, 1) := by decide +kernel
set_option maxHeartbeats 4000000 in
set_option maxRecDepth 100000 in
theorem gX12_isBill_0f4990c (l : Launch) (D : va_G) (cy : Nat → ClassId) (p0 : Int32) (hp0 : (-2147483648) ≤ (p0).toInt ∧ (p0).toInt ≤ 2147483647) (sz : Nat) : MI l yX12_isBill cX12_isBill 1 .boolean { frames := 1, cells := 0, slots := 0, locals := 25 } [.int p0] D cy [] sz (fun r u => (0 ≤ r.toInt ∧ r.toInt ≤ 1) ∧ True) (fun u => []) 0 0 := by
  refine q_ent (own := RX12) (by decide) rfl (Nat.le_of_ble_eq_true rfl) (fun p e s m below meth c ls X hr hlk hnm hK hT h hA hl => ?_)
  obtain ⟨hx, hb, hml, hown, ht⟩ := id X
  replace hl : lv_has ls 1 [(0, .int p0)] := hl
  refine lv_iload_n hx hb dX12_isBill_0 rfl (lv_at hl 0 rfl) ?_
  refine lv_i2l hx hb dX12_isBill_1 rfl ?_
  obtain ⟨z_1, ez_1, hz_1⟩ := e_i2l (x := p0) rfl
  refine q_cl z_1 ez_1 ?_
  clear ez_1
  refine lv_lconst (v := 0) hx hb dX12_isBill_2 (by decide) ?_
  refine lv_ldc2 hx hb hown (ht _ wm_6_109) dX12_isBill_3 ?_
  refine q_callSi (rest := []) (wr := []) X hK hT hA h (fun sz => gX12_within_00c7897 l D cy z_1 (0 : Int64) (9 : Int64) (j_rng _) ⟨by decide +kernel, by decide +kernel⟩ ⟨by decide +kernel, by decide +kernel⟩ sz) wm_6_50 wm_6_52 wm_1_12 hd_X12_within wm_6_51 ⟨Nat.le_of_ble_eq_true rfl, Nat.le_of_ble_eq_true rfl⟩ hl.1 rfl (Nat.le_of_ble_eq_true rfl) dX12_isBill_6 ⟨Nat.le_of_ble_eq_true rfl, Nat.le_of_ble_eq_true rfl⟩ [] [] rfl rfl (by decide) rfl rfl (fun r_2 u_2 H locs w_2 h_2 => ?_)
  clear h
  obtain ⟨wr_2, y2_0, _⟩ := w_2
  have lq_2_1 : (0 : Int64).toInt = 0 := (by decide)
  have lq_2_2 : (9 : Int64).toInt = 9 := (by decide)
  replace h_2 : qW D _ _ [] _ _ := h_2
  exact q_iret X hr hlk hK h_2 (q_nz (by omega) (by omega)) (fun _ => 0, fun _ _ => 0, fun _ _ => 0) ⟨wr_2, trivial⟩ [] rfl rfl dX12_isBill_9 (Nat.le_of_ble_eq_true rfl) (Nat.le_of_ble_eq_true rfl)
set_option maxHeartbeats 4000000 in
set_option maxRecDepth 100000 in
theorem gX12_asks_27d8d41 (l : Launch) (D : va_G) (cy : Nat → ClassId) (h0 : Nat) (h1 : Nat) (h2 : Nat) (p0 : Int32) (p1 : Int32) (p2 : Int32) (w0 : Value) (w1 : Value) (w2 : Value) (p3 : Int32) (p4 : Int32) (p5 : Int32) (p6 : Int32) (p7 : Int32) (p8 : Int32) (p9 : Int32) (p10 : Int32) (p11 : Int32) (p12 : Int32) (p13 : Int32) (w3 : Value) (w4 : Value) (w5 : Value) (w6 : Value) (p14 : Int32) (p15 : Int32) (w7 : Value) (w8 : Value) (w9 : Value) (p16 : Int32) (p17 : Int32) (w10 : Value) (w11 : Value) (w12 : Value) (w13 : Value) (w14 : Value) (p18 : Int32) (w15 : Value) (w16 : Value) (w17 : Value) (f0 : Nat → Int32) (p19 : Int32) (f1 : Nat → Int32) (hp0 : 0 ≤ (p0).toInt ∧ (p0).toInt ≤ 9) (hp1 : (-2147483648) ≤ (p1).toInt ∧ (p1).toInt ≤ 2147483647) (hp2 : 0 ≤ (p2).toInt ∧ (p2).toInt ≤ 0) (hp3 : 0 ≤ (p3).toInt ∧ (p3).toInt ≤ 900) (hp4 : 0 ≤ (p4).toInt ∧ (p4).toInt ≤ 900) (hp5 : 0 ≤ (p5).toInt ∧ (p5).toInt ≤ 900) (hp6 : 0 ≤ (p6).toInt ∧ (p6).toInt ≤ 900) (hp7 : (-2147483648) ≤ (p7).toInt ∧ (p7).toInt ≤ 2147483647) (hp8 : 0 ≤ (p8).toInt ∧ (p8).toInt ≤ 999) (hp9 : (-2147483648) ≤ (p9).toInt ∧ (p9).toInt ≤ 2147483647) (hp10 : (-2147483648) ≤ (p10).toInt ∧ (p10).toInt ≤ 2147483647) (hp11 : (-2147483648) ≤ (p11).toInt ∧ (p11).toInt ≤ 2147483647) (hp12 : (-2147483648) ≤ (p12).toInt ∧ (p12).toInt ≤ 2147483647) (hp13 : (-2147483648) ≤ (p13).toInt ∧ (p13).toInt ≤ 2147483647) (hp14 : (-2147483648) ≤ (p14).toInt ∧ (p14).toInt ≤ 2147483647) (hp15 : (-2147483648) ≤ (p15).toInt ∧ (p15).toInt ≤ 2147483647) (hp16 : (-2147483648) ≤ (p16).toInt ∧ (p16).toInt ≤ 2147483647) (hp17 : (-2147483648) ≤ (p17).toInt ∧ (p17).toInt ≤ 2147483647) (hp18 : (-2147483648) ≤ (p18).toInt ∧ (p18).toInt ≤ 2147483647) (hp19 : 0 ≤ (p19).toInt ∧ (p19).toInt ≤ 10) (htf0_84 : f0 84 = p19) (rf0 : AL f0) (sz : Nat) : MV l yX12_asks cX12_asks 5 { frames := 0, cells := 0, slots := 0, locals := 0 } [.ref h0, .int p0, .int p0, .int p1] D cy (wk_177a9dc22 cy h0 p2 h1 w0 w1 w2 p3 p4 p5 p6 p7 p8 p9 p10 p11 p12 p13 w3 h2 w4 w5 w6 p14 p15 w7 w8 w9 p16 p17 w10 w11 w12 w13 w14 p18 w15 w16 w17 h1 f0 h2 f1) sz (fun u => True) (fun u => (wk_177a9dc22 cy h0 p2 h1 w0 w1 w2 p3 p4 p5 p6 p7 p8 p9 p10 p11 p12 p13 w3 h2 w4 w5 w6 p14 p15 w7 w8 w9 p16 p17 w10 w11 w12 w13 w14 p18 w15 w16 w17 h1 f0 h2 (u.2.1 0))) 0 0 := by
  refine q_ent (own := RX12) (by decide) rfl (Nat.le_of_ble_eq_true rfl) (fun p e s m below meth c ls X hr hlk hnm hK hT h hA hl => ?_)
  obtain ⟨hx, hb, hml, hown, ht⟩ := id X
  replace hl : lv_has ls 5 [(0, .ref h0), (1, .int p0), (2, .int p0), (3, .int p1)] := hl
  refine lv_iconst (v := 0) hx hb dX12_asks_0 (by decide) ?_
  refine lv_istore (lv' := [(4, .int 0), (0, .ref h0), (1, .int p0), (2, .int p0), (3, .int p1)]) hx hb dX12_asks_1 hl (by decide) rfl (fun ls_1 hl_1 => ?_)
  clear hl
  refine lv_iload hx hb dX12_asks_3 (lv_at hl_1 0 rfl) ?_
  refine lv_iconst (v := 3) hx hb dX12_asks_5 (by decide) ?_
  refine lv_icmp_ge (tgt := 59) hx hb dX12_asks_6 (by decide) (fun c => absurd c (by decide +kernel)) (fun _ => ?_)
  refine lv_aload_n hx hb dX12_asks_9 rfl (lv_at hl_1 1 rfl) ?_
  refine q_get X hK h 0 rfl rfl wf_12 17 (by decide) rfl wm_5_187 dX12_asks_10 ?_
  refine lv_iload hx hb dX12_asks_13 (lv_at hl_1 0 rfl) ?_
  refine lv_aload_n hx hb dX12_asks_15 rfl (lv_at hl_1 1 rfl) ?_
  refine q_get X hK h 0 rfl rfl wf_12 1 (by decide) rfl wm_5_171 dX12_asks_16 ?_
  refine lv_bipush (v := 54) hx hb dX12_asks_19 (by decide) ?_
  refine lv_iconst (v := 3) hx hb dX12_asks_21 (by decide) ?_
  refine lv_iload_n hx hb dX12_asks_22 rfl (lv_at hl_1 2 rfl) ?_
  refine lv_imul hx hb dX12_asks_23 ?_
  obtain ⟨z_2, ez_2, hz_2⟩ := e_mul (x := 3) (y := p0) (show (3 : Int32).toInt = 3 by decide) rfl (by omega) (by omega)
  refine q_c z_2 ez_2 ?_
  clear ez_2
  refine lv_iadd hx hb dX12_asks_24 ?_
  obtain ⟨z_3, ez_3, hz_3⟩ := e_add (x := 54) (y := z_2) (show (54 : Int32).toInt = 54 by decide) rfl (by omega) (by omega)
  refine q_c z_3 ez_3 ?_
  clear ez_3
  refine lv_iload hx hb dX12_asks_25 (lv_at hl_1 0 rfl) ?_
  refine lv_iadd hx hb dX12_asks_27 ?_
  obtain ⟨z_4, ez_4, hz_4⟩ := e_add (x := z_3) (y := 0) rfl (show (0 : Int32).toInt = 0 by decide) (by omega) (by omega)
  refine q_c z_4 ez_4 ?_
  clear ez_4
  refine q_iald X hK h 1 rfl (i_in rfl (by omega) (by omega)) dX12_asks_28 ?_
  obtain ⟨z_5, ez_5, hz_5⟩ := al_W rf0 (x := z_4) rfl (by omega) (by omega)
  refine q_c z_5 ez_5 ?_
  clear ez_5
  refine q_iast X hK h 2 rfl (q_in (by decide +kernel)) dX12_asks_29 (fun H locs h_7 => ?_)
  clear h
  replace h_7 : qW D _ _ (wk_177a9dc22 cy h0 p2 h1 w0 w1 w2 p3 p4 p5 p6 p7 p8 p9 p10 p11 p12 p13 w3 h2 w4 w5 w6 p14 p15 w7 w8 w9 p16 p17 w10 w11 w12 w13 w14 p18 w15 w16 w17 h1 f0 h2 (upd f1 (Int32.toNatClampNeg 0) z_5)) _ _ := h_7
  obtain ⟨F_6, eF_6⟩ : ∃ z, (upd f1 (Int32.toNatClampNeg 0) z_5) = z := ⟨_, rfl⟩
  rw [eF_6] at h_7
  clear eF_6
  refine lv_aload_n hx hb dX12_asks_30 rfl (lv_at hl_1 1 rfl) ?_
  refine q_get X hK h_7 0 rfl rfl wf_12 17 (by decide) rfl wm_5_187 dX12_asks_31 ?_
  refine lv_iconst (v := 5) hx hb dX12_asks_34 (by decide) ?_
  refine lv_iload hx hb dX12_asks_35 (lv_at hl_1 0 rfl) ?_
  refine lv_iadd hx hb dX12_asks_37 ?_
  refine q_c 5 (by decide +kernel) ?_
  refine lv_aload_n hx hb dX12_asks_38 rfl (lv_at hl_1 1 rfl) ?_
  refine q_get X hK h_7 0 rfl rfl wf_12 1 (by decide) rfl wm_5_171 dX12_asks_39 ?_
  refine lv_bipush (v := 54) hx hb dX12_asks_42 (by decide) ?_
  refine lv_iconst (v := 3) hx hb dX12_asks_44 (by decide) ?_
  refine lv_iload_n hx hb dX12_asks_45 rfl (lv_at hl_1 3 rfl) ?_
  refine lv_imul hx hb dX12_asks_46 ?_
  obtain ⟨z_8, ez_8, hz_8⟩ := e_mul (x := 3) (y := p0) (show (3 : Int32).toInt = 3 by decide) rfl (by omega) (by omega)
  refine q_c z_8 ez_8 ?_
  clear ez_8
  refine lv_iadd hx hb dX12_asks_47 ?_
  obtain ⟨z_9, ez_9, hz_9⟩ := e_add (x := 54) (y := z_8) (show (54 : Int32).toInt = 54 by decide) rfl (by omega) (by omega)
  refine q_c z_9 ez_9 ?_
  clear ez_9
  refine lv_iload hx hb dX12_asks_48 (lv_at hl_1 0 rfl) ?_
  refine lv_iadd hx hb dX12_asks_50 ?_
  obtain ⟨z_10, ez_10, hz_10⟩ := e_add (x := z_9) (y := 0) rfl (show (0 : Int32).toInt = 0 by decide) (by omega) (by omega)
  refine q_c z_10 ez_10 ?_
  clear ez_10
  refine q_iald X hK h_7 1 rfl (i_in rfl (by omega) (by omega)) dX12_asks_51 ?_
  obtain ⟨z_11, ez_11, hz_11⟩ := al_W rf0 (x := z_10) rfl (by omega) (by omega)
  refine q_c z_11 ez_11 ?_
  clear ez_11
  refine q_iast X hK h_7 2 rfl (q_in (by decide +kernel)) dX12_asks_52 (fun H locs h_13 => ?_)
  clear h_7
  replace h_13 : qW D _ _ (wk_177a9dc22 cy h0 p2 h1 w0 w1 w2 p3 p4 p5 p6 p7 p8 p9 p10 p11 p12 p13 w3 h2 w4 w5 w6 p14 p15 w7 w8 w9 p16 p17 w10 w11 w12 w13 w14 p18 w15 w16 w17 h1 f0 h2 (upd F_6 (Int32.toNatClampNeg 5) z_11)) _ _ := h_13
  obtain ⟨F_12, eF_12⟩ : ∃ z, (upd F_6 (Int32.toNatClampNeg 5) z_11) = z := ⟨_, rfl⟩
  rw [eF_12] at h_13
  clear eF_12
  refine lv_iinc (v := 1) (lv' := [(4, .int 1), (0, .ref h0), (1, .int p0), (2, .int p0), (3, .int p1)]) hx hb dX12_asks_53 hl_1 (k := 0) rfl (by decide +kernel) (by decide) rfl (fun ls_14 hl_14 => ?_)
  clear hl_1
  refine lv_goto (tgt := 3) hx hb dX12_asks_56 (by decide) ?_
  refine lv_iload hx hb dX12_asks_3 (lv_at hl_14 0 rfl) ?_
  refine lv_iconst (v := 3) hx hb dX12_asks_5 (by decide) ?_
  refine lv_icmp_ge (tgt := 59) hx hb dX12_asks_6 (by decide) (fun c => absurd c (by decide +kernel)) (fun _ => ?_)
  refine lv_aload_n hx hb dX12_asks_9 rfl (lv_at hl_14 1 rfl) ?_
  refine q_get X hK h_13 0 rfl rfl wf_12 17 (by decide) rfl wm_5_187 dX12_asks_10 ?_
  refine lv_iload hx hb dX12_asks_13 (lv_at hl_14 0 rfl) ?_
  refine lv_aload_n hx hb dX12_asks_15 rfl (lv_at hl_14 1 rfl) ?_
  refine q_get X hK h_13 0 rfl rfl wf_12 1 (by decide) rfl wm_5_171 dX12_asks_16 ?_
  refine lv_bipush (v := 54) hx hb dX12_asks_19 (by decide) ?_
  refine lv_iconst (v := 3) hx hb dX12_asks_21 (by decide) ?_
  refine lv_iload_n hx hb dX12_asks_22 rfl (lv_at hl_14 2 rfl) ?_
  refine lv_imul hx hb dX12_asks_23 ?_
  obtain ⟨z_15, ez_15, hz_15⟩ := e_mul (x := 3) (y := p0) (show (3 : Int32).toInt = 3 by decide) rfl (by omega) (by omega)
  refine q_c z_15 ez_15 ?_
  clear ez_15
  refine lv_iadd hx hb dX12_asks_24 ?_
  obtain ⟨z_16, ez_16, hz_16⟩ := e_add (x := 54) (y := z_15) (show (54 : Int32).toInt = 54 by decide) rfl (by omega) (by omega)
  refine q_c z_16 ez_16 ?_
  clear ez_16
  refine lv_iload hx hb dX12_asks_25 (lv_at hl_14 0 rfl) ?_
  refine lv_iadd hx hb dX12_asks_27 ?_
  obtain ⟨z_17, ez_17, hz_17⟩ := e_add (x := z_16) (y := 1) rfl (show (1 : Int32).toInt = 1 by decide) (by omega) (by omega)
  refine q_c z_17 ez_17 ?_
  clear ez_17
  refine q_iald X hK h_13 1 rfl (i_in rfl (by omega) (by omega)) dX12_asks_28 ?_
  obtain ⟨z_18, ez_18, hz_18⟩ := al_W rf0 (x := z_17) rfl (by omega) (by omega)
  refine q_c z_18 ez_18 ?_
  clear ez_18
  refine q_iast X hK h_13 2 rfl (q_in (by decide +kernel)) dX12_asks_29 (fun H locs h_20 => ?_)
  clear h_13
  replace h_20 : qW D _ _ (wk_177a9dc22 cy h0 p2 h1 w0 w1 w2 p3 p4 p5 p6 p7 p8 p9 p10 p11 p12 p13 w3 h2 w4 w5 w6 p14 p15 w7 w8 w9 p16 p17 w10 w11 w12 w13 w14 p18 w15 w16 w17 h1 f0 h2 (upd F_12 (Int32.toNatClampNeg 1) z_18)) _ _ := h_20
  obtain ⟨F_19, eF_19⟩ : ∃ z, (upd F_12 (Int32.toNatClampNeg 1) z_18) = z := ⟨_, rfl⟩
  rw [eF_19] at h_20
  clear eF_19
  refine lv_aload_n hx hb dX12_asks_30 rfl (lv_at hl_14 1 rfl) ?_
  refine q_get X hK h_20 0 rfl rfl wf_12 17 (by decide) rfl wm_5_187 dX12_asks_31 ?_
  refine lv_iconst (v := 5) hx hb dX12_asks_34 (by decide) ?_
  refine lv_iload hx hb dX12_asks_35 (lv_at hl_14 0 rfl) ?_
  refine lv_iadd hx hb dX12_asks_37 ?_
  refine q_c 6 (by decide +kernel) ?_
  refine lv_aload_n hx hb dX12_asks_38 rfl (lv_at hl_14 1 rfl) ?_
  refine q_get X hK h_20 0 rfl rfl wf_12 1 (by decide) rfl wm_5_171 dX12_asks_39 ?_
  refine lv_bipush (v := 54) hx hb dX12_asks_42 (by decide) ?_
  refine lv_iconst (v := 3) hx hb dX12_asks_44 (by decide) ?_
  refine lv_iload_n hx hb dX12_asks_45 rfl (lv_at hl_14 3 rfl) ?_
  refine lv_imul hx hb dX12_asks_46 ?_
  obtain ⟨z_21, ez_21, hz_21⟩ := e_mul (x := 3) (y := p0) (show (3 : Int32).toInt = 3 by decide) rfl (by omega) (by omega)
  refine q_c z_21 ez_21 ?_
  clear ez_21
  refine lv_iadd hx hb dX12_asks_47 ?_
  obtain ⟨z_22, ez_22, hz_22⟩ := e_add (x := 54) (y := z_21) (show (54 : Int32).toInt = 54 by decide) rfl (by omega) (by omega)
  refine q_c z_22 ez_22 ?_
  clear ez_22
  refine lv_iload hx hb dX12_asks_48 (lv_at hl_14 0 rfl) ?_
  refine lv_iadd hx hb dX12_asks_50 ?_
  obtain ⟨z_23, ez_23, hz_23⟩ := e_add (x := z_22) (y := 1) rfl (show (1 : Int32).toInt = 1 by decide) (by omega) (by omega)
  refine q_c z_23 ez_23 ?_
  clear ez_23
  refine q_iald X hK h_20 1 rfl (i_in rfl (by omega) (by omega)) dX12_asks_51 ?_
  obtain ⟨z_24, ez_24, hz_24⟩ := al_W rf0 (x := z_23) rfl (by omega) (by omega)
  refine q_c z_24 ez_24 ?_
  clear ez_24
  refine q_iast X hK h_20 2 rfl (q_in (by decide +kernel)) dX12_asks_52 (fun H locs h_26 => ?_)
  clear h_20
  replace h_26 : qW D _ _ (wk_177a9dc22 cy h0 p2 h1 w0 w1 w2 p3 p4 p5 p6 p7 p8 p9 p10 p11 p12 p13 w3 h2 w4 w5 w6 p14 p15 w7 w8 w9 p16 p17 w10 w11 w12 w13 w14 p18 w15 w16 w17 h1 f0 h2 (upd F_19 (Int32.toNatClampNeg 6) z_24)) _ _ := h_26
  obtain ⟨F_25, eF_25⟩ : ∃ z, (upd F_19 (Int32.toNatClampNeg 6) z_24) = z := ⟨_, rfl⟩
  rw [eF_25] at h_26
  clear eF_25
  refine lv_iinc (v := 2) (lv' := [(4, .int 2), (0, .ref h0), (1, .int p0), (2, .int p0), (3, .int p1)]) hx hb dX12_asks_53 hl_14 (k := 0) rfl (by decide +kernel) (by decide) rfl (fun ls_27 hl_27 => ?_)
  clear hl_14
  refine lv_goto (tgt := 3) hx hb dX12_asks_56 (by decide) ?_
  refine lv_iload hx hb dX12_asks_3 (lv_at hl_27 0 rfl) ?_
  refine lv_iconst (v := 3) hx hb dX12_asks_5 (by decide) ?_
  refine lv_icmp_ge (tgt := 59) hx hb dX12_asks_6 (by decide) (fun c => absurd c (by decide +kernel)) (fun _ => ?_)
  refine lv_aload_n hx hb dX12_asks_9 rfl (lv_at hl_27 1 rfl) ?_
  refine q_get X hK h_26 0 rfl rfl wf_12 17 (by decide) rfl wm_5_187 dX12_asks_10 ?_
  refine lv_iload hx hb dX12_asks_13 (lv_at hl_27 0 rfl) ?_
  refine lv_aload_n hx hb dX12_asks_15 rfl (lv_at hl_27 1 rfl) ?_
  refine q_get X hK h_26 0 rfl rfl wf_12 1 (by decide) rfl wm_5_171 dX12_asks_16 ?_
  refine lv_bipush (v := 54) hx hb dX12_asks_19 (by decide) ?_
  refine lv_iconst (v := 3) hx hb dX12_asks_21 (by decide) ?_
  refine lv_iload_n hx hb dX12_asks_22 rfl (lv_at hl_27 2 rfl) ?_
  refine lv_imul hx hb dX12_asks_23 ?_
  obtain ⟨z_28, ez_28, hz_28⟩ := e_mul (x := 3) (y := p0) (show (3 : Int32).toInt = 3 by decide) rfl (by omega) (by omega)
  refine q_c z_28 ez_28 ?_
  clear ez_28
  refine lv_iadd hx hb dX12_asks_24 ?_
  obtain ⟨z_29, ez_29, hz_29⟩ := e_add (x := 54) (y := z_28) (show (54 : Int32).toInt = 54 by decide) rfl (by omega) (by omega)
  refine q_c z_29 ez_29 ?_
  clear ez_29
  refine lv_iload hx hb dX12_asks_25 (lv_at hl_27 0 rfl) ?_
  refine lv_iadd hx hb dX12_asks_27 ?_
  obtain ⟨z_30, ez_30, hz_30⟩ := e_add (x := z_29) (y := 2) rfl (show (2 : Int32).toInt = 2 by decide) (by omega) (by omega)
  refine q_c z_30 ez_30 ?_
  clear ez_30
  refine q_iald X hK h_26 1 rfl (i_in rfl (by omega) (by omega)) dX12_asks_28 ?_
  obtain ⟨z_31, ez_31, hz_31⟩ := al_W rf0 (x := z_30) rfl (by omega) (by omega)
  refine q_c z_31 ez_31 ?_
  clear ez_31
  refine q_iast X hK h_26 2 rfl (q_in (by decide +kernel)) dX12_asks_29 (fun H locs h_33 => ?_)
  clear h_26
  replace h_33 : qW D _ _ (wk_177a9dc22 cy h0 p2 h1 w0 w1 w2 p3 p4 p5 p6 p7 p8 p9 p10 p11 p12 p13 w3 h2 w4 w5 w6 p14 p15 w7 w8 w9 p16 p17 w10 w11 w12 w13 w14 p18 w15 w16 w17 h1 f0 h2 (upd F_25 (Int32.toNatClampNeg 2) z_31)) _ _ := h_33
  obtain ⟨F_32, eF_32⟩ : ∃ z, (upd F_25 (Int32.toNatClampNeg 2) z_31) = z := ⟨_, rfl⟩
  rw [eF_32] at h_33
  clear eF_32
  refine lv_aload_n hx hb dX12_asks_30 rfl (lv_at hl_27 1 rfl) ?_
  refine q_get X hK h_33 0 rfl rfl wf_12 17 (by decide) rfl wm_5_187 dX12_asks_31 ?_
  refine lv_iconst (v := 5) hx hb dX12_asks_34 (by decide) ?_
  refine lv_iload hx hb dX12_asks_35 (lv_at hl_27 0 rfl) ?_
  refine lv_iadd hx hb dX12_asks_37 ?_
  refine q_c 7 (by decide +kernel) ?_
  refine lv_aload_n hx hb dX12_asks_38 rfl (lv_at hl_27 1 rfl) ?_
  refine q_get X hK h_33 0 rfl rfl wf_12 1 (by decide) rfl wm_5_171 dX12_asks_39 ?_
  refine lv_bipush (v := 54) hx hb dX12_asks_42 (by decide) ?_
  refine lv_iconst (v := 3) hx hb dX12_asks_44 (by decide) ?_
  refine lv_iload_n hx hb dX12_asks_45 rfl (lv_at hl_27 3 rfl) ?_
  refine lv_imul hx hb dX12_asks_46 ?_
  obtain ⟨z_34, ez_34, hz_34⟩ := e_mul (x := 3) (y := p0) (show (3 : Int32).toInt = 3 by decide) rfl (by omega) (by omega)
  refine q_c z_34 ez_34 ?_
  clear ez_34
  refine lv_iadd hx hb dX12_asks_47 ?_
  obtain ⟨z_35, ez_35, hz_35⟩ := e_add (x := 54) (y := z_34) (show (54 : Int32).toInt = 54 by decide) rfl (by omega) (by omega)
  refine q_c z_35 ez_35 ?_
  clear ez_35
  refine lv_iload hx hb dX12_asks_48 (lv_at hl_27 0 rfl) ?_
  refine lv_iadd hx hb dX12_asks_50 ?_
  obtain ⟨z_36, ez_36, hz_36⟩ := e_add (x := z_35) (y := 2) rfl (show (2 : Int32).toInt = 2 by decide) (by omega) (by omega)
  refine q_c z_36 ez_36 ?_
  clear ez_36
  refine q_iald X hK h_33 1 rfl (i_in rfl (by omega) (by omega)) dX12_asks_51 ?_
  obtain ⟨z_37, ez_37, hz_37⟩ := al_W rf0 (x := z_36) rfl (by omega) (by omega)
  refine q_c z_37 ez_37 ?_
  clear ez_37
  refine q_iast X hK h_33 2 rfl (q_in (by decide +kernel)) dX12_asks_52 (fun H locs h_39 => ?_)
  clear h_33
  replace h_39 : qW D _ _ (wk_177a9dc22 cy h0 p2 h1 w0 w1 w2 p3 p4 p5 p6 p7 p8 p9 p10 p11 p12 p13 w3 h2 w4 w5 w6 p14 p15 w7 w8 w9 p16 p17 w10 w11 w12 w13 w14 p18 w15 w16 w17 h1 f0 h2 (upd F_32 (Int32.toNatClampNeg 7) z_37)) _ _ := h_39
  obtain ⟨F_38, eF_38⟩ : ∃ z, (upd F_32 (Int32.toNatClampNeg 7) z_37) = z := ⟨_, rfl⟩
  rw [eF_38] at h_39
  clear eF_38
  refine lv_iinc (v := 3) (lv' := [(4, .int 3), (0, .ref h0), (1, .int p0), (2, .int p0), (3, .int p1)]) hx hb dX12_asks_53 hl_27 (k := 0) rfl (by decide +kernel) (by decide) rfl (fun ls_40 hl_40 => ?_)
  clear hl_27
  refine lv_goto (tgt := 3) hx hb dX12_asks_56 (by decide) ?_
  refine lv_iload hx hb dX12_asks_3 (lv_at hl_40 0 rfl) ?_
  refine lv_iconst (v := 3) hx hb dX12_asks_5 (by decide) ?_
  refine lv_icmp_ge (tgt := 59) hx hb dX12_asks_6 (by decide) (fun _ => ?_) (fun c => absurd c (by decide +kernel))
  refine lv_aload_n hx hb dX12_asks_59 rfl (lv_at hl_40 1 rfl) ?_
  refine q_get X hK h_39 0 rfl rfl wf_12 17 (by decide) rfl wm_5_187 dX12_asks_60 ?_
  refine lv_iconst (v := 3) hx hb dX12_asks_63 (by decide) ?_
  refine lv_iload_n hx hb dX12_asks_64 rfl (lv_at hl_40 2 rfl) ?_
  refine q_iast X hK h_39 2 rfl (q_in (by decide +kernel)) dX12_asks_65 (fun H locs h_42 => ?_)
  clear h_39
  replace h_42 : qW D _ _ (wk_177a9dc22 cy h0 p2 h1 w0 w1 w2 p3 p4 p5 p6 p7 p8 p9 p10 p11 p12 p13 w3 h2 w4 w5 w6 p14 p15 w7 w8 w9 p16 p17 w10 w11 w12 w13 w14 p18 w15 w16 w17 h1 f0 h2 (upd F_38 (Int32.toNatClampNeg 3) p0)) _ _ := h_42
  obtain ⟨F_41, eF_41⟩ : ∃ z, (upd F_38 (Int32.toNatClampNeg 3) p0) = z := ⟨_, rfl⟩
  rw [eF_41] at h_42
  clear eF_41
  refine lv_aload_n hx hb dX12_asks_66 rfl (lv_at hl_40 1 rfl) ?_
  refine q_get X hK h_42 0 rfl rfl wf_12 17 (by decide) rfl wm_5_187 dX12_asks_67 ?_
  refine lv_bipush (v := 8) hx hb dX12_asks_70 (by decide) ?_
  refine lv_iload_n hx hb dX12_asks_72 rfl (lv_at hl_40 3 rfl) ?_
  refine q_iast X hK h_42 2 rfl (q_in (by decide +kernel)) dX12_asks_73 (fun H locs h_44 => ?_)
  clear h_42
  replace h_44 : qW D _ _ (wk_177a9dc22 cy h0 p2 h1 w0 w1 w2 p3 p4 p5 p6 p7 p8 p9 p10 p11 p12 p13 w3 h2 w4 w5 w6 p14 p15 w7 w8 w9 p16 p17 w10 w11 w12 w13 w14 p18 w15 w16 w17 h1 f0 h2 (upd F_41 (Int32.toNatClampNeg 8) p0)) _ _ := h_44
  obtain ⟨F_43, eF_43⟩ : ∃ z, (upd F_41 (Int32.toNatClampNeg 8) p0) = z := ⟨_, rfl⟩
  rw [eF_43] at h_44
  clear eF_43
  refine lv_aload_n hx hb dX12_asks_74 rfl (lv_at hl_40 1 rfl) ?_
  refine q_get X hK h_44 0 rfl rfl wf_12 17 (by decide) rfl wm_5_187 dX12_asks_75 ?_
  refine lv_iconst (v := 4) hx hb dX12_asks_78 (by decide) ?_
  refine lv_iload_n hx hb dX12_asks_79 rfl (lv_at hl_40 4 rfl) ?_
  refine lv_bipush (v := 7) hx hb dX12_asks_80 (by decide) ?_
  refine lv_irem hx hb dX12_asks_82 (by decide) ?_
  refine q_any (fun z_45 hz_45 => ?_)
  refine q_iast X hK h_44 2 rfl (q_in (by decide +kernel)) dX12_asks_83 (fun H locs h_47 => ?_)
  clear h_44
  replace h_47 : qW D _ _ (wk_177a9dc22 cy h0 p2 h1 w0 w1 w2 p3 p4 p5 p6 p7 p8 p9 p10 p11 p12 p13 w3 h2 w4 w5 w6 p14 p15 w7 w8 w9 p16 p17 w10 w11 w12 w13 w14 p18 w15 w16 w17 h1 f0 h2 (upd F_43 (Int32.toNatClampNeg 4) z_45)) _ _ := h_47
  obtain ⟨F_46, eF_46⟩ : ∃ z, (upd F_43 (Int32.toNatClampNeg 4) z_45) = z := ⟨_, rfl⟩
  rw [eF_46] at h_47
  clear eF_46
  exact q_vret X hr hlk hK h_47 (fun _ => 0, (vcons F_46 (fun _ => (fun _ => 0))), fun _ _ => 0) trivial [0, 1, 2] rfl rfl dX12_asks_84 (Nat.le_of_ble_eq_true rfl) (Nat.le_of_ble_eq_true rfl)
set_option maxHeartbeats 4000000 in
set_option maxRecDepth 100000 in
theorem gX12_reckons_5eb42f9 (l : Launch) (D : va_G) (cy : Nat → ClassId) (h0 : Nat) (h1 : Nat) (h2 : Nat) (h3 : Nat) (p0 : Int32) (w0 : Value) (w1 : Value) (w2 : Value) (p1 : Int32) (p2 : Int32) (p3 : Int32) (p4 : Int32) (p5 : Int32) (p6 : Int32) (p7 : Int32) (p8 : Int32) (p9 : Int32) (p10 : Int32) (p11 : Int32) (w3 : Value) (w4 : Value) (w5 : Value) (p12 : Int32) (p13 : Int32) (w6 : Value) (w7 : Value) (w8 : Value) (p14 : Int32) (p15 : Int32) (w9 : Value) (w10 : Value) (w11 : Value) (w12 : Value) (w13 : Value) (p16 : Int32) (w14 : Value) (w15 : Value) (w16 : Value) (f0 : Nat → Int32) (p17 : Int32) (f1 : Nat → Int32) (f2 : Nat → Int32) (hp0 : 0 ≤ (p0).toInt ∧ (p0).toInt ≤ 0) (hp1 : 0 ≤ (p1).toInt ∧ (p1).toInt ≤ 900) (hp2 : 0 ≤ (p2).toInt ∧ (p2).toInt ≤ 900) (hp3 : 0 ≤ (p3).toInt ∧ (p3).toInt ≤ 900) (hp4 : 0 ≤ (p4).toInt ∧ (p4).toInt ≤ 900) (hp5 : (-2147483648) ≤ (p5).toInt ∧ (p5).toInt ≤ 2147483647) (hp6 : 0 ≤ (p6).toInt ∧ (p6).toInt ≤ 999) (hp7 : (-2147483648) ≤ (p7).toInt ∧ (p7).toInt ≤ 2147483647) (hp8 : (-2147483648) ≤ (p8).toInt ∧ (p8).toInt ≤ 2147483647) (hp9 : (-2147483648) ≤ (p9).toInt ∧ (p9).toInt ≤ 2147483647) (hp10 : (-2147483648) ≤ (p10).toInt ∧ (p10).toInt ≤ 2147483647) (hp11 : (-2147483648) ≤ (p11).toInt ∧ (p11).toInt ≤ 2147483647) (hp12 : (-2147483648) ≤ (p12).toInt ∧ (p12).toInt ≤ 2147483647) (hp13 : (-2147483648) ≤ (p13).toInt ∧ (p13).toInt ≤ 2147483647) (hp14 : (-2147483648) ≤ (p14).toInt ∧ (p14).toInt ≤ 2147483647) (hp15 : (-2147483648) ≤ (p15).toInt ∧ (p15).toInt ≤ 2147483647) (hp16 : (-2147483648) ≤ (p16).toInt ∧ (p16).toInt ≤ 2147483647) (hp17 : 0 ≤ (p17).toInt ∧ (p17).toInt ≤ 10) (htf0_84 : f0 84 = p17) (rf0 : AL f0) (hpre0 : WFL f0 1) (sz : Nat) : MI l yX12_reckons cX12_reckons 5 .int { frames := 1, cells := 0, slots := 0, locals := 24 } [.ref h0, .int 1] D cy (wk_d5826a772 cy h0 p0 h1 w0 w1 w2 p1 p2 p3 p4 p5 p6 p7 p8 p9 p10 p11 h2 h3 w3 w4 w5 p12 p13 w6 w7 w8 p14 p15 w9 w10 w11 w12 w13 p16 w14 w15 w16 h1 f0 h2 f1 h3 f2) sz (fun r u => ((-2147483648) ≤ r.toInt ∧ r.toInt ≤ 2147483647) ∧ True) (fun u => (wk_d5826a772 cy h0 p0 h1 w0 w1 w2 p1 p2 p3 p4 p5 p6 p7 p8 p9 p10 p11 h2 h3 w3 w4 w5 p12 p13 w6 w7 w8 p14 p15 w9 w10 w11 w12 w13 p16 w14 w15 w16 h1 f0 h2 (u.2.1 0) h3 f2)) 0 0 := by
  refine q_ent (own := RX12) (by decide) rfl (Nat.le_of_ble_eq_true rfl) (fun p e s m below meth c ls X hr hlk hnm hK hT h hA hl => ?_)
  obtain ⟨hx, hb, hml, hown, ht⟩ := id X
  replace hl : lv_has ls 5 [(0, .ref h0), (1, .int 1)] := hl
  obtain ⟨wf1, wf2, wf3, wf4⟩ : 0 ≤ (f0 7).toInt ∧ 0 ≤ (f0 10).toInt ∧ (f0 7).toInt + (f0 10).toInt ≤ 900 ∧ ∃ x, sk f0 (406 + (f0 7).toInt.toNat) (f0 10).toInt.toNat 0 = some x := hpre0
  refine lv_iconst (v := 0) hx hb dX12_reckons_0 (by decide) ?_
  refine lv_istore_n (lv' := [(2, .int 0), (0, .ref h0), (1, .int 1)]) hx hb dX12_reckons_1 rfl hl (by decide) rfl (fun ls_1 hl_1 => ?_)
  clear hl
  refine lv_iconst (v := 0) hx hb dX12_reckons_2 (by decide) ?_
  refine lv_istore_n (lv' := [(3, .int 0), (2, .int 0), (0, .ref h0), (1, .int 1)]) hx hb dX12_reckons_3 rfl hl_1 (by decide) rfl (fun ls_2 hl_2 => ?_)
  clear hl_1
  refine q_wl (fun (q : Int32 × Int32) H locs ls => match q with | (v4_3_0, v4_3_1) => ∃ v4_3_2 : Nat → Int32, (0 ≤ (v4_3_0).toInt ∧ (v4_3_0).toInt ≤ 900) ∧ (0 ≤ (v4_3_1).toInt ∧ (v4_3_1).toInt ≤ 900) ∧ (sk f0 (406 + (f0 7).toInt.toNat) ((v4_3_0 : Int32).toInt).toNat 0 = some ((v4_3_1 : Int32).toInt).toNat) ∧ (0 ≤ (v4_3_1 : Int32).toInt ∧ (v4_3_1 : Int32).toInt ≤ (v4_3_0 : Int32).toInt) ∧ qW D (va_A (wk_d5826a772 cy h0 p0 h1 w0 w1 w2 p1 p2 p3 p4 p5 p6 p7 p8 p9 p10 p11 h2 h3 w3 w4 w5 p12 p13 w6 w7 w8 p14 p15 w9 w10 w11 w12 w13 p16 w14 w15 w16 h1 f0 h2 f1 h3 f2) sz) s.heap (wk_d5826a772 cy h0 p0 h1 w0 w1 w2 p1 p2 p3 p4 p5 p6 p7 p8 p9 p10 p11 h2 h3 w3 w4 w5 p12 p13 w6 w7 w8 p14 p15 w9 w10 w11 w12 w13 p16 w14 w15 w16 h1 f0 h2 v4_3_2 h3 f2) H locs ∧ lv_has ls 5 [(0, .ref h0), (1, .int 1), (2, .int v4_3_1), (3, .int v4_3_0)]) (fun (q : Int32 × Int32) => match q with | (v4_3_0, v4_3_1) => (901 - (v4_3_0).toInt).toNat) (fun q_4 ih_4 H locs ls hP => ?_) (0, 0) ⟨f1, ⟨by decide +kernel, by decide +kernel⟩, ⟨by decide +kernel, by decide +kernel⟩, (rfl), (by have q0 : (0 : Int32).toInt = 0 := (by decide); omega), h, (lv_sub hl_2 [2, 3, 1, 0] rfl)⟩
  obtain ⟨v4_3_0, v4_3_1⟩ := q_4
  obtain ⟨v4_3_2, hv4_3_0, hv4_3_1, x4_0, x5_1, h, hl⟩ := hP
  refine lv_iload_n hx hb dX12_reckons_4 rfl (lv_at hl 3 rfl) ?_
  refine lv_aload_n hx hb dX12_reckons_5 rfl (lv_at hl 0 rfl) ?_
  refine q_get X hK h 0 rfl rfl wf_12 1 (by decide) rfl wm_5_171 dX12_reckons_6 ?_
  refine lv_bipush (v := 9) hx hb dX12_reckons_9 (by decide) ?_
  refine lv_iload_n hx hb dX12_reckons_11 rfl (lv_at hl 1 rfl) ?_
  refine lv_iadd hx hb dX12_reckons_12 ?_
  refine q_c 10 (by decide +kernel) ?_
  refine q_iald X hK h 1 rfl (q_in (by decide +kernel)) dX12_reckons_13 ?_
  obtain ⟨z_6, ez_6, hz_6⟩ := e_any (f0 10)
  refine q_c z_6 ez_6 ?_
  have ei_6 := congrArg Int32.toInt ez_6
  refine lv_icmp_ge (tgt := 148) hx hb dX12_reckons_14 (by decide) (fun c_7 => ?_) (fun c_7 => ?_)
  · replace c_7 := i_le (x := z_6) (y := v4_3_0) rfl rfl c_7
    refine lv_aload_n hx hb dX12_reckons_148 rfl (lv_at hl 0 rfl) ?_
    refine q_get X hK h 0 rfl rfl wf_12 16 (by decide) rfl wm_5_186 dX12_reckons_149 ?_
    refine lv_iconst (v := 0) hx hb dX12_reckons_152 (by decide) ?_
    refine q_iald X hK h 2 rfl (q_in (by decide +kernel)) dX12_reckons_153 ?_
    refine q_any (fun z_8 hz_8 => ?_)
    exact q_iret X hr hlk hK h rfl (fun _ => 0, (vcons v4_3_2 (fun _ => (fun _ => 0))), fun _ _ => 0) ⟨⟨by omega, by omega⟩, trivial⟩ [0, 1, 2, 3] rfl rfl dX12_reckons_154 (Nat.le_of_ble_eq_true rfl) (Nat.le_of_ble_eq_true rfl)
  · replace c_7 := i_nle (x := z_6) (y := v4_3_0) rfl rfl c_7
    refine lv_aload_n hx hb dX12_reckons_17 rfl (lv_at hl 0 rfl) ?_
    refine q_get X hK h 0 rfl rfl wf_12 1 (by decide) rfl wm_5_171 dX12_reckons_18 ?_
    refine lv_sipush (v := 406) hx hb dX12_reckons_21 (by decide) ?_
    refine lv_aload_n hx hb dX12_reckons_24 rfl (lv_at hl 0 rfl) ?_
    refine q_get X hK h 0 rfl rfl wf_12 1 (by decide) rfl wm_5_171 dX12_reckons_25 ?_
    refine lv_bipush (v := 6) hx hb dX12_reckons_28 (by decide) ?_
    refine lv_iload_n hx hb dX12_reckons_30 rfl (lv_at hl 1 rfl) ?_
    refine lv_iadd hx hb dX12_reckons_31 ?_
    refine q_c 7 (by decide +kernel) ?_
    refine q_iald X hK h 1 rfl (q_in (by decide +kernel)) dX12_reckons_32 ?_
    obtain ⟨z_9, ez_9, hz_9⟩ := e_any (f0 7)
    refine q_c z_9 ez_9 ?_
    have ei_9 := congrArg Int32.toInt ez_9
    refine lv_iadd hx hb dX12_reckons_33 ?_
    obtain ⟨z_10, ez_10, hz_10⟩ := e_add (x := 406) (y := z_9) (show (406 : Int32).toInt = 406 by decide) rfl (by omega) (by omega)
    refine q_c z_10 ez_10 ?_
    clear ez_10
    refine lv_iload_n hx hb dX12_reckons_34 rfl (lv_at hl 3 rfl) ?_
    refine lv_iadd hx hb dX12_reckons_35 ?_
    obtain ⟨z_11, ez_11, hz_11⟩ := e_add (x := z_10) (y := v4_3_0) rfl rfl (by omega) (by omega)
    refine q_c z_11 ez_11 ?_
    clear ez_11
    refine q_iald X hK h 1 rfl (i_in rfl (by omega) (by omega)) dX12_reckons_36 ?_
    obtain ⟨z_12, ez_12, hz_12⟩ := e_any (f0 z_11.toNatClampNeg)
    refine q_c z_12 ez_12 ?_
    obtain ⟨hh_13, s1_13, s2_13⟩ := sk_step wf4 x4_0 (by omega) (by omega) (by omega) ez_12
    have s3_13 := skc_cases s1_13
    refine lv_istore (lv' := [(4, .int z_12), (0, .ref h0), (1, .int 1), (2, .int v4_3_1), (3, .int v4_3_0)]) hx hb dX12_reckons_37 hl (by decide) rfl (fun ls_14 hl_14 => ?_)
    clear hl
    refine lv_iload hx hb dX12_reckons_39 (lv_at hl_14 0 rfl) ?_
    refine lv_sipush (v := 3000) hx hb dX12_reckons_41 (by decide) ?_
    refine q_jn (pc2 := 142) (fun H locs ls st => ∃ v142_15_0 : Int32, ∃ v142_15_1 : Nat → Int32, (0 ≤ (v142_15_0).toInt ∧ (v142_15_0).toInt ≤ 900) ∧ ((v142_15_0 : Int32).toInt = (hh_13 : Int)) ∧ st = [] ∧ qW D (va_A (wk_d5826a772 cy h0 p0 h1 w0 w1 w2 p1 p2 p3 p4 p5 p6 p7 p8 p9 p10 p11 h2 h3 w3 w4 w5 p12 p13 w6 w7 w8 p14 p15 w9 w10 w11 w12 w13 p16 w14 w15 w16 h1 f0 h2 f1 h3 f2) sz) s.heap (wk_d5826a772 cy h0 p0 h1 w0 w1 w2 p1 p2 p3 p4 p5 p6 p7 p8 p9 p10 p11 h2 h3 w3 w4 w5 p12 p13 w6 w7 w8 p14 p15 w9 w10 w11 w12 w13 p16 w14 w15 w16 h1 f0 h2 v142_15_1 h3 f2) H locs ∧ lv_has ls 5 [(0, .ref h0), (1, .int 1), (2, .int v142_15_0), (3, .int v4_3_0), (4, .int z_12)]) (fun H locs ls st hP => ?_) (fun J_142 => ?_)
    · obtain ⟨v142_15_0, v142_15_1, hv142_15_0, x16_0, rfl, h, hl⟩ := hP
      obtain ⟨z_17, ez_17, hz_17⟩ := e_add (x := v4_3_0) (y := Int32.ofInt 1) rfl (b := 1) (by decide) (by omega) (by omega)
      refine lv_iinc (v := z_17) (lv' := [(3, .int z_17), (0, .ref h0), (1, .int 1), (2, .int v142_15_0), (4, .int z_12)]) hx hb dX12_reckons_142 hl (k := 3) rfl ez_17 (by decide) rfl (fun ls_17 hl_17 => ?_)
      clear hl
      refine lv_goto (tgt := 4) hx hb dX12_reckons_145 (by decide) ?_
      exact ih_4 (z_17, v142_15_0) (by show (901 - (z_17).toInt).toNat < (901 - (v4_3_0).toInt).toNat; omega) _ _ _ ⟨v142_15_1, ⟨by omega, by omega⟩, hv142_15_0, (sk_arr s2_13 (by (first | assumption | omega)) (by (first | assumption | omega))), (by omega), h, (lv_sub hl_17 [1, 2, 3, 0] rfl)⟩
    · skip
      refine lv_icmp_ge (tgt := 83) hx hb dX12_reckons_44 (by decide) (fun c_18 => ?_) (fun c_18 => ?_)
      · replace c_18 := i_le (x := 3000) (y := z_12) (show (3000 : Int32).toInt = 3000 by decide) rfl c_18
        refine lv_iload hx hb dX12_reckons_83 (lv_at hl_14 0 rfl) ?_
        refine lv_sipush (v := 3006) hx hb dX12_reckons_85 (by decide) ?_
        refine lv_icmp_ne (tgt := 112) hx hb dX12_reckons_88 (by decide) (fun c_19 => ?_) (fun c_19 => ?_)
        · replace c_19 := i_ne (x := z_12) (y := 3006) rfl (show (3006 : Int32).toInt = 3006 by decide) c_19
          obtain ⟨z_20, ez_20, hz_20⟩ := e_add (x := v4_3_1) (y := Int32.ofInt (-1)) rfl (b := (-1)) (by decide) (by omega) (by omega)
          refine lv_iinc (v := z_20) (lv' := [(2, .int z_20), (4, .int z_12), (0, .ref h0), (1, .int 1), (3, .int v4_3_0)]) hx hb dX12_reckons_112 hl_14 (k := 3) rfl ez_20 (by decide) rfl (fun ls_20 hl_20 => ?_)
          clear hl_14
          refine lv_aload_n hx hb dX12_reckons_115 rfl (lv_at hl_20 2 rfl) ?_
          refine q_get X hK h 0 rfl rfl wf_12 16 (by decide) rfl wm_5_186 dX12_reckons_116 ?_
          refine lv_iload_n hx hb dX12_reckons_119 rfl (lv_at hl_20 0 rfl) ?_
          refine lv_iconst (v := 1) hx hb dX12_reckons_120 (by decide) ?_
          refine lv_isub hx hb dX12_reckons_121 ?_
          obtain ⟨z_21, ez_21, hz_21⟩ := e_sub (x := z_20) (y := 1) rfl (show (1 : Int32).toInt = 1 by decide) (by omega) (by omega)
          refine q_c z_21 ez_21 ?_
          clear ez_21
          refine lv_iload hx hb dX12_reckons_122 (lv_at hl_20 1 rfl) ?_
          refine lv_aload_n hx hb dX12_reckons_124 rfl (lv_at hl_20 2 rfl) ?_
          refine q_get X hK h 0 rfl rfl wf_12 16 (by decide) rfl wm_5_186 dX12_reckons_125 ?_
          refine lv_iload_n hx hb dX12_reckons_128 rfl (lv_at hl_20 0 rfl) ?_
          refine lv_iconst (v := 1) hx hb dX12_reckons_129 (by decide) ?_
          refine lv_isub hx hb dX12_reckons_130 ?_
          obtain ⟨z_22, ez_22, hz_22⟩ := e_sub (x := z_20) (y := 1) rfl (show (1 : Int32).toInt = 1 by decide) (by omega) (by omega)
          refine q_c z_22 ez_22 ?_
          clear ez_22
          refine q_iald X hK h 2 rfl (i_in rfl (by omega) (by omega)) dX12_reckons_131 ?_
          refine q_any (fun z_23 hz_23 => ?_)
          refine lv_aload_n hx hb dX12_reckons_132 rfl (lv_at hl_20 2 rfl) ?_
          refine q_get X hK h 0 rfl rfl wf_12 16 (by decide) rfl wm_5_186 dX12_reckons_133 ?_
          refine lv_iload_n hx hb dX12_reckons_136 rfl (lv_at hl_20 0 rfl) ?_
          refine q_iald X hK h 2 rfl (i_in rfl (by omega) (by omega)) dX12_reckons_137 ?_
          refine q_any (fun z_24 hz_24 => ?_)
          refine q_callSi (rest := [.int z_21, .ref h2]) (wr := (wk_d5826a772 cy h0 p0 h1 w0 w1 w2 p1 p2 p3 p4 p5 p6 p7 p8 p9 p10 p11 h2 h3 w3 w4 w5 p12 p13 w6 w7 w8 p14 p15 w9 w10 w11 w12 w13 p16 w14 w15 w16 h1 f0 h2 v4_3_2 h3 f2)) X hK hT hA h (fun sz => gX12_between_b825dc3 l D cy z_12 z_23 z_24 ⟨by omega, by omega⟩ (i_rng _) (i_rng _) sz) wm_6_199 wm_6_201 wm_1_12 hd_X12_between wm_6_200 ⟨Nat.le_of_ble_eq_true rfl, Nat.le_of_ble_eq_true rfl⟩ hl_20.1 rfl (Nat.le_of_ble_eq_true rfl) dX12_reckons_138 ⟨Nat.le_of_ble_eq_true rfl, Nat.le_of_ble_eq_true rfl⟩ [] [0, 1, 2, 3] rfl rfl (by decide) rfl rfl (fun r_25 u_25 H locs w_25 h_25 => ?_)
          clear h
          obtain ⟨wr_25, _⟩ := w_25
          replace h_25 : qW D _ _ (wk_d5826a772 cy h0 p0 h1 w0 w1 w2 p1 p2 p3 p4 p5 p6 p7 p8 p9 p10 p11 h2 h3 w3 w4 w5 p12 p13 w6 w7 w8 p14 p15 w9 w10 w11 w12 w13 p16 w14 w15 w16 h1 f0 h2 v4_3_2 h3 f2) _ _ := h_25
          refine q_iast X hK h_25 2 rfl (i_in rfl (by omega) (by omega)) dX12_reckons_141 (fun H locs h_27 => ?_)
          clear h_25
          replace h_27 : qW D _ _ (wk_d5826a772 cy h0 p0 h1 w0 w1 w2 p1 p2 p3 p4 p5 p6 p7 p8 p9 p10 p11 h2 h3 w3 w4 w5 p12 p13 w6 w7 w8 p14 p15 w9 w10 w11 w12 w13 p16 w14 w15 w16 h1 f0 h2 (upd v4_3_2 (Int32.toNatClampNeg z_21) r_25) h3 f2) _ _ := h_27
          obtain ⟨F_26, eF_26⟩ : ∃ z, (upd v4_3_2 (Int32.toNatClampNeg z_21) r_25) = z := ⟨_, rfl⟩
          rw [eF_26] at h_27
          clear eF_26
          exact J_142 _ _ _ _ ⟨z_20, F_26, ⟨by omega, by omega⟩, (by omega), rfl, h_27, (lv_sub hl_20 [2, 3, 0, 4, 1] rfl)⟩
        · replace c_19 := i_eq (x := z_12) (y := 3006) rfl (show (3006 : Int32).toInt = 3006 by decide) c_19
          refine lv_aload_n hx hb dX12_reckons_91 rfl (lv_at hl_14 1 rfl) ?_
          refine q_get X hK h 0 rfl rfl wf_12 16 (by decide) rfl wm_5_186 dX12_reckons_92 ?_
          refine lv_iload_n hx hb dX12_reckons_95 rfl (lv_at hl_14 3 rfl) ?_
          refine lv_iconst (v := 1) hx hb dX12_reckons_96 (by decide) ?_
          refine lv_isub hx hb dX12_reckons_97 ?_
          obtain ⟨z_28, ez_28, hz_28⟩ := e_sub (x := v4_3_1) (y := 1) rfl (show (1 : Int32).toInt = 1 by decide) (by omega) (by omega)
          refine q_c z_28 ez_28 ?_
          clear ez_28
          refine lv_iconst (v := 1) hx hb dX12_reckons_98 (by decide) ?_
          refine lv_aload_n hx hb dX12_reckons_99 rfl (lv_at hl_14 1 rfl) ?_
          refine q_get X hK h 0 rfl rfl wf_12 16 (by decide) rfl wm_5_186 dX12_reckons_100 ?_
          refine lv_iload_n hx hb dX12_reckons_103 rfl (lv_at hl_14 3 rfl) ?_
          refine lv_iconst (v := 1) hx hb dX12_reckons_104 (by decide) ?_
          refine lv_isub hx hb dX12_reckons_105 ?_
          obtain ⟨z_29, ez_29, hz_29⟩ := e_sub (x := v4_3_1) (y := 1) rfl (show (1 : Int32).toInt = 1 by decide) (by omega) (by omega)
          refine q_c z_29 ez_29 ?_
          clear ez_29
          refine q_iald X hK h 2 rfl (i_in rfl (by omega) (by omega)) dX12_reckons_106 ?_
          refine q_any (fun z_30 hz_30 => ?_)
          refine lv_isub hx hb dX12_reckons_107 ?_
          refine q_any (fun z_31 hz_31 => ?_)
          refine q_iast X hK h 2 rfl (i_in rfl (by omega) (by omega)) dX12_reckons_108 (fun H locs h_33 => ?_)
          clear h
          replace h_33 : qW D _ _ (wk_d5826a772 cy h0 p0 h1 w0 w1 w2 p1 p2 p3 p4 p5 p6 p7 p8 p9 p10 p11 h2 h3 w3 w4 w5 p12 p13 w6 w7 w8 p14 p15 w9 w10 w11 w12 w13 p16 w14 w15 w16 h1 f0 h2 (upd v4_3_2 (Int32.toNatClampNeg z_28) z_31) h3 f2) _ _ := h_33
          obtain ⟨F_32, eF_32⟩ : ∃ z, (upd v4_3_2 (Int32.toNatClampNeg z_28) z_31) = z := ⟨_, rfl⟩
          rw [eF_32] at h_33
          clear eF_32
          refine lv_goto (tgt := 142) hx hb dX12_reckons_109 (by decide) ?_
          exact J_142 _ _ _ _ ⟨v4_3_1, F_32, hv4_3_1, (by omega), rfl, h_33, (lv_sub hl_14 [1, 2, 3, 4, 0] rfl)⟩
      · replace c_18 := i_nle (x := 3000) (y := z_12) (show (3000 : Int32).toInt = 3000 by decide) rfl c_18
        refine lv_aload_n hx hb dX12_reckons_47 rfl (lv_at hl_14 1 rfl) ?_
        refine q_get X hK h 0 rfl rfl wf_12 16 (by decide) rfl wm_5_186 dX12_reckons_48 ?_
        refine lv_iload_n hx hb dX12_reckons_51 rfl (lv_at hl_14 3 rfl) ?_
        refine lv_iload hx hb dX12_reckons_52 (lv_at hl_14 0 rfl) ?_
        refine lv_sipush (v := 1000) hx hb dX12_reckons_54 (by decide) ?_
        refine q_jn (pc2 := 76) (fun H locs ls st => ∃ v76_34_0 : Int32, ((-2147483648) ≤ (v76_34_0).toInt ∧ (v76_34_0).toInt ≤ 2147483647) ∧ st = [.int v76_34_0, .int v4_3_1, .ref h2] ∧ qW D (va_A (wk_d5826a772 cy h0 p0 h1 w0 w1 w2 p1 p2 p3 p4 p5 p6 p7 p8 p9 p10 p11 h2 h3 w3 w4 w5 p12 p13 w6 w7 w8 p14 p15 w9 w10 w11 w12 w13 p16 w14 w15 w16 h1 f0 h2 f1 h3 f2) sz) s.heap (wk_d5826a772 cy h0 p0 h1 w0 w1 w2 p1 p2 p3 p4 p5 p6 p7 p8 p9 p10 p11 h2 h3 w3 w4 w5 p12 p13 w6 w7 w8 p14 p15 w9 w10 w11 w12 w13 p16 w14 w15 w16 h1 f0 h2 v4_3_2 h3 f2) H locs ∧ lv_has ls 5 [(0, .ref h0), (1, .int 1), (2, .int v4_3_1), (3, .int v4_3_0), (4, .int z_12)]) (fun H locs ls st hP => ?_) (fun J_76 => ?_)
        · obtain ⟨v76_34_0, hv76_34_0, rfl, h, hl⟩ := hP
          refine q_iast X hK h 2 rfl (i_in rfl (by omega) (by omega)) dX12_reckons_76 (fun H locs h_36 => ?_)
          clear h
          replace h_36 : qW D _ _ (wk_d5826a772 cy h0 p0 h1 w0 w1 w2 p1 p2 p3 p4 p5 p6 p7 p8 p9 p10 p11 h2 h3 w3 w4 w5 p12 p13 w6 w7 w8 p14 p15 w9 w10 w11 w12 w13 p16 w14 w15 w16 h1 f0 h2 (upd v4_3_2 (Int32.toNatClampNeg v4_3_1) v76_34_0) h3 f2) _ _ := h_36
          obtain ⟨F_35, eF_35⟩ : ∃ z, (upd v4_3_2 (Int32.toNatClampNeg v4_3_1) v76_34_0) = z := ⟨_, rfl⟩
          rw [eF_35] at h_36
          clear eF_35
          obtain ⟨z_37, ez_37, hz_37⟩ := e_add (x := v4_3_1) (y := Int32.ofInt 1) rfl (b := 1) (by decide) (by omega) (by omega)
          refine lv_iinc (v := z_37) (lv' := [(2, .int z_37), (0, .ref h0), (1, .int 1), (3, .int v4_3_0), (4, .int z_12)]) hx hb dX12_reckons_77 hl (k := 2) rfl ez_37 (by decide) rfl (fun ls_37 hl_37 => ?_)
          clear hl
          refine lv_goto (tgt := 142) hx hb dX12_reckons_80 (by decide) ?_
          exact J_142 _ _ _ _ ⟨z_37, F_35, ⟨by omega, by omega⟩, (by omega), rfl, h_36, (lv_sub hl_37 [1, 2, 0, 3, 4] rfl)⟩
        · skip
          refine lv_icmp_ge (tgt := 65) hx hb dX12_reckons_57 (by decide) (fun c_38 => ?_) (fun c_38 => ?_)
          · replace c_38 := i_le (x := 1000) (y := z_12) (show (1000 : Int32).toInt = 1000 by decide) rfl c_38
            refine lv_aload_n hx hb dX12_reckons_65 rfl (lv_at hl_14 1 rfl) ?_
            refine q_get X hK h 0 rfl rfl wf_12 17 (by decide) rfl wm_5_187 dX12_reckons_66 ?_
            refine lv_iload hx hb dX12_reckons_69 (lv_at hl_14 0 rfl) ?_
            refine lv_sipush (v := 1000) hx hb dX12_reckons_71 (by decide) ?_
            refine lv_isub hx hb dX12_reckons_74 ?_
            obtain ⟨z_39, ez_39, hz_39⟩ := e_sub (x := z_12) (y := 1000) rfl (show (1000 : Int32).toInt = 1000 by decide) (by omega) (by omega)
            refine q_c z_39 ez_39 ?_
            clear ez_39
            refine q_iald X hK h 3 rfl (i_in rfl (by omega) (by omega)) dX12_reckons_75 ?_
            refine q_any (fun z_40 hz_40 => ?_)
            exact J_76 _ _ _ _ ⟨z_40, ⟨by omega, by omega⟩, rfl, h, (lv_sub hl_14 [1, 2, 3, 4, 0] rfl)⟩
          · replace c_38 := i_nle (x := 1000) (y := z_12) (show (1000 : Int32).toInt = 1000 by decide) rfl c_38
            refine lv_iload hx hb dX12_reckons_60 (lv_at hl_14 0 rfl) ?_
            refine lv_goto (tgt := 76) hx hb dX12_reckons_62 (by decide) ?_
            exact J_76 _ _ _ _ ⟨z_12, ⟨by omega, by omega⟩, rfl, h, (lv_sub hl_14 [1, 2, 3, 4, 0] rfl)⟩
set_option maxHeartbeats 4000000 in
set_option maxRecDepth 100000 in
theorem gX12_saysAye_89c2faa (l : Launch) (D : va_G) (cy : Nat → ClassId) (h0 : Nat) (h1 : Nat) (h2 : Nat) (h3 : Nat) (p0 : Int32) (p1 : Int32) (p2 : Int32) (w0 : Value) (w1 : Value) (w2 : Value) (p3 : Int32) (p4 : Int32) (p5 : Int32) (p6 : Int32) (p7 : Int32) (p8 : Int32) (p9 : Int32) (p10 : Int32) (p11 : Int32) (p12 : Int32) (p13 : Int32) (w3 : Value) (w4 : Value) (w5 : Value) (p14 : Int32) (p15 : Int32) (w6 : Value) (w7 : Value) (w8 : Value) (p16 : Int32) (p17 : Int32) (w9 : Value) (w10 : Value) (w11 : Value) (w12 : Value) (w13 : Value) (p18 : Int32) (w14 : Value) (w15 : Value) (w16 : Value) (f0 : Nat → Int32) (p19 : Int32) (f1 : Nat → Int32) (f2 : Nat → Int32) (hp0 : 0 ≤ (p0).toInt ∧ (p0).toInt ≤ 9) (hp1 : (-2147483648) ≤ (p1).toInt ∧ (p1).toInt ≤ 2147483647) (hp2 : 0 ≤ (p2).toInt ∧ (p2).toInt ≤ 0) (hp3 : 0 ≤ (p3).toInt ∧ (p3).toInt ≤ 900) (hp4 : 0 ≤ (p4).toInt ∧ (p4).toInt ≤ 900) (hp5 : 0 ≤ (p5).toInt ∧ (p5).toInt ≤ 900) (hp6 : 0 ≤ (p6).toInt ∧ (p6).toInt ≤ 900) (hp7 : (-2147483648) ≤ (p7).toInt ∧ (p7).toInt ≤ 2147483647) (hp8 : 0 ≤ (p8).toInt ∧ (p8).toInt ≤ 999) (hp9 : (-2147483648) ≤ (p9).toInt ∧ (p9).toInt ≤ 2147483647) (hp10 : (-2147483648) ≤ (p10).toInt ∧ (p10).toInt ≤ 2147483647) (hp11 : (-2147483648) ≤ (p11).toInt ∧ (p11).toInt ≤ 2147483647) (hp12 : (-2147483648) ≤ (p12).toInt ∧ (p12).toInt ≤ 2147483647) (hp13 : (-2147483648) ≤ (p13).toInt ∧ (p13).toInt ≤ 2147483647) (hp14 : (-2147483648) ≤ (p14).toInt ∧ (p14).toInt ≤ 2147483647) (hp15 : (-2147483648) ≤ (p15).toInt ∧ (p15).toInt ≤ 2147483647) (hp16 : (-2147483648) ≤ (p16).toInt ∧ (p16).toInt ≤ 2147483647) (hp17 : (-2147483648) ≤ (p17).toInt ∧ (p17).toInt ≤ 2147483647) (hp18 : (-2147483648) ≤ (p18).toInt ∧ (p18).toInt ≤ 2147483647) (hp19 : 0 ≤ (p19).toInt ∧ (p19).toInt ≤ 10) (htf0_84 : f0 84 = p19) (rf0 : AL f0) (sz : Nat) : MI l yX12_saysAye cX12_saysAye 3 .boolean { frames := 2, cells := 0, slots := 0, locals := 48 } [.ref h0, .int p0, .int p1] D cy (wk_d5826a772 cy h0 p2 h1 w0 w1 w2 p3 p4 p5 p6 p7 p8 p9 p10 p11 p12 p13 h2 h3 w3 w4 w5 p14 p15 w6 w7 w8 p16 p17 w9 w10 w11 w12 w13 p18 w14 w15 w16 h1 f0 h2 f1 h3 f2) sz (fun r u => (0 ≤ r.toInt ∧ r.toInt ≤ 1) ∧ True) (fun u => (wk_d5826a772 cy h0 p2 h1 w0 w1 w2 p3 p4 p5 p6 p7 p8 p9 p10 p11 p12 p13 h2 h3 w3 w4 w5 p14 p15 w6 w7 w8 p16 p17 w9 w10 w11 w12 w13 p18 w14 w15 w16 h1 f0 h2 (u.2.1 0) h3 (u.2.1 1))) 0 0 := by
  refine q_ent (own := RX12) (by decide) rfl (Nat.le_of_ble_eq_true rfl) (fun p e s m below meth c ls X hr hlk hnm hK hT h hA hl => ?_)
  obtain ⟨hx, hb, hml, hown, ht⟩ := id X
  replace hl : lv_has ls 3 [(0, .ref h0), (1, .int p0), (2, .int p1)] := hl
  refine lv_aload_n hx hb dX12_saysAye_0 rfl (lv_at hl 0 rfl) ?_
  refine q_get X hK h 0 rfl rfl wf_12 1 (by decide) rfl wm_5_171 dX12_saysAye_1 ?_
  refine lv_iconst (v := 4) hx hb dX12_saysAye_4 (by decide) ?_
  refine q_iald X hK h 1 rfl (q_in (by decide +kernel)) dX12_saysAye_5 ?_
  obtain ⟨z_1, ez_1, hz_1⟩ := e_any (f0 4)
  refine q_c z_1 ez_1 ?_
  have ei_1 := congrArg Int32.toInt ez_1
  refine lv_if_ne (tgt := 30) hx hb dX12_saysAye_6 (by decide) (fun c_2 => ?_) (fun c_2 => ?_)
  · replace c_2 := i_ne (x := z_1) (y := 0) rfl (show (0 : Int32).toInt = 0 by decide) c_2
    refine lv_aload_n hx hb dX12_saysAye_30 rfl (lv_at hl 0 rfl) ?_
    refine lv_iload_n hx hb dX12_saysAye_31 rfl (lv_at hl 1 rfl) ?_
    refine lv_iload_n hx hb dX12_saysAye_32 rfl (lv_at hl 1 rfl) ?_
    refine lv_aload_n hx hb dX12_saysAye_33 rfl (lv_at hl 0 rfl) ?_
    refine q_get X hK h 0 rfl rfl wf_12 1 (by decide) rfl wm_5_171 dX12_saysAye_34 ?_
    refine lv_bipush (v := 52) hx hb dX12_saysAye_37 (by decide) ?_
    refine q_iald X hK h 1 rfl (q_in (by decide +kernel)) dX12_saysAye_39 ?_
    refine q_any (fun z_3 hz_3 => ?_)
    refine q_callVv (rest := []) (wr := [(h2, .inl (cy 1, 900, .inl f1))]) X hK hT hA h (fun sz => gX12_asks_27d8d41 l D cy h0 h1 h3 p0 z_3 p2 w0 w1 w2 p3 p4 p5 p6 p7 p8 p9 p10 p11 p12 p13 (.ref h2) w3 w4 w5 p14 p15 w6 w7 w8 p16 p17 w9 w10 w11 w12 w13 p18 w14 w15 w16 f0 p19 f2 hp0 (i_rng _) hp2 hp3 hp4 hp5 hp6 (i_rng _) hp8 (i_rng _) (i_rng _) (i_rng _) (i_rng _) (i_rng _) (i_rng _) (i_rng _) (i_rng _) (i_rng _) (i_rng _) hp19 htf0_84 rf0 sz) wm_6_191 wm_6_194 wm_1_12 hd_X12_asks wm_6_193 wp_5_12 (ci := 12) (q0 := 0) rfl rfl ⟨Nat.le_of_ble_eq_true rfl, Nat.le_of_ble_eq_true rfl⟩ hl.1 rfl (Nat.le_of_ble_eq_true rfl) dX12_saysAye_40 ⟨Nat.le_of_ble_eq_true rfl, Nat.le_of_ble_eq_true rfl⟩ [0, 1, 3] [2] rfl rfl (by decide) rfl rfl (fun u_4 H locs w_4 h_4 => ?_)
    clear h
    clear w_4
    replace h_4 : qW D _ _ (wk_e4244dc24 cy h2 f1 h0 p2 h1 w0 w1 w2 p3 p4 p5 p6 p7 p8 p9 p10 p11 p12 p13 h2 h3 w3 w4 w5 p14 p15 w6 w7 w8 p16 p17 w9 w10 w11 w12 w13 p18 w14 w15 w16 h1 f0 h3 (u_4.2.1 0)) _ _ := h_4
    refine lv_aload_n hx hb dX12_saysAye_43 rfl (lv_at hl 0 rfl) ?_
    refine q_get X hK h_4 1 rfl rfl wf_12 17 (by decide) rfl wm_5_187 dX12_saysAye_44 ?_
    refine lv_bipush (v := 9) hx hb dX12_saysAye_47 (by decide) ?_
    refine lv_iload_n hx hb dX12_saysAye_49 rfl (lv_at hl 2 rfl) ?_
    refine q_iast X hK h_4 3 rfl (q_in (by decide +kernel)) dX12_saysAye_50 (fun H locs h_6 => ?_)
    clear h_4
    replace h_6 : qW D _ _ (wk_e4244dc24 cy h2 f1 h0 p2 h1 w0 w1 w2 p3 p4 p5 p6 p7 p8 p9 p10 p11 p12 p13 h2 h3 w3 w4 w5 p14 p15 w6 w7 w8 p16 p17 w9 w10 w11 w12 w13 p18 w14 w15 w16 h1 f0 h3 (upd (u_4.2.1 0) (Int32.toNatClampNeg 9) p1)) _ _ := h_6
    obtain ⟨F_5, eF_5⟩ : ∃ z, (upd (u_4.2.1 0) (Int32.toNatClampNeg 9) p1) = z := ⟨_, rfl⟩
    rw [eF_5] at h_6
    clear eF_5
    refine lv_aload_n hx hb dX12_saysAye_51 rfl (lv_at hl 0 rfl) ?_
    refine lv_iconst (v := 1) hx hb dX12_saysAye_52 (by decide) ?_
    refine q_callVi (rest := []) (wr := []) X hK hT hA h_6 (fun sz => gX12_reckons_5eb42f9 l D cy h0 h1 h2 h3 p2 w0 w1 w2 p3 p4 p5 p6 p7 p8 p9 p10 p11 p12 p13 w3 w4 w5 p14 p15 w6 w7 w8 p16 p17 w9 w10 w11 w12 w13 p18 w14 w15 w16 f0 p19 f1 F_5 hp2 hp3 hp4 hp5 hp6 (i_rng _) hp8 (i_rng _) (i_rng _) (i_rng _) (i_rng _) (i_rng _) (i_rng _) (i_rng _) (i_rng _) (i_rng _) (i_rng _) hp19 htf0_84 rf0 (al_law rf0 1 (by decide) (by show (f0 4).toInt ≠ 0; omega)) sz) wm_6_195 wm_6_198 wm_1_12 hd_X12_reckons wm_6_197 wp_5_13 (ci := 12) (q0 := 0) rfl rfl ⟨Nat.le_of_ble_eq_true rfl, Nat.le_of_ble_eq_true rfl⟩ hl.1 rfl (Nat.le_of_ble_eq_true rfl) dX12_saysAye_53 ⟨Nat.le_of_ble_eq_true rfl, Nat.le_of_ble_eq_true rfl⟩ [1, 2, 0, 3] [] rfl rfl (by decide) rfl rfl (fun r_7 u_7 H locs w_7 h_7 => ?_)
    clear h_6
    obtain ⟨wr_7, _⟩ := w_7
    replace h_7 : qW D _ _ (wk_d5826a772 cy h0 p2 h1 w0 w1 w2 p3 p4 p5 p6 p7 p8 p9 p10 p11 p12 p13 h2 h3 w3 w4 w5 p14 p15 w6 w7 w8 p16 p17 w9 w10 w11 w12 w13 p18 w14 w15 w16 h1 f0 h2 (u_7.2.1 0) h3 F_5) _ _ := h_7
    refine lv_iconst (v := 1) hx hb dX12_saysAye_56 (by decide) ?_
    refine lv_icmp_ne (tgt := 64) hx hb dX12_saysAye_57 (by decide) (fun c_8 => ?_) (fun c_8 => ?_)
    · replace c_8 := i_ne (x := r_7) (y := 1) rfl (show (1 : Int32).toInt = 1 by decide) c_8
      refine lv_iconst (v := 0) hx hb dX12_saysAye_64 (by decide) ?_
      exact q_iret X hr hlk hK h_7 rfl (fun _ => 0, (vcons (u_7.2.1 0) (vcons F_5 (fun _ => (fun _ => 0)))), fun _ _ => 0) ⟨⟨by decide +kernel, by decide +kernel⟩, trivial⟩ [0, 1, 2, 3] rfl rfl dX12_saysAye_65 (Nat.le_of_ble_eq_true rfl) (Nat.le_of_ble_eq_true rfl)
    · replace c_8 := i_eq (x := r_7) (y := 1) rfl (show (1 : Int32).toInt = 1 by decide) c_8
      refine lv_iconst (v := 1) hx hb dX12_saysAye_60 (by decide) ?_
      refine lv_goto (tgt := 65) hx hb dX12_saysAye_61 (by decide) ?_
      exact q_iret X hr hlk hK h_7 rfl (fun _ => 0, (vcons (u_7.2.1 0) (vcons F_5 (fun _ => (fun _ => 0)))), fun _ _ => 0) ⟨⟨by decide +kernel, by decide +kernel⟩, trivial⟩ [0, 1, 2, 3] rfl rfl dX12_saysAye_65 (Nat.le_of_ble_eq_true rfl) (Nat.le_of_ble_eq_true rfl)
  · replace c_2 := i_eq (x := z_1) (y := 0) rfl (show (0 : Int32).toInt = 0 by decide) c_2
    refine lv_aload_n hx hb dX12_saysAye_9 rfl (lv_at hl 0 rfl) ?_
    refine q_get X hK h 0 rfl rfl wf_12 1 (by decide) rfl wm_5_171 dX12_saysAye_10 ?_
    refine lv_bipush (v := 54) hx hb dX12_saysAye_13 (by decide) ?_
    refine lv_iconst (v := 3) hx hb dX12_saysAye_15 (by decide) ?_
    refine lv_iload_n hx hb dX12_saysAye_16 rfl (lv_at hl 1 rfl) ?_
    refine lv_imul hx hb dX12_saysAye_17 ?_
    obtain ⟨z_9, ez_9, hz_9⟩ := e_mul (x := 3) (y := p0) (show (3 : Int32).toInt = 3 by decide) rfl (by omega) (by omega)
    refine q_c z_9 ez_9 ?_
    clear ez_9
    refine lv_iadd hx hb dX12_saysAye_18 ?_
    obtain ⟨z_10, ez_10, hz_10⟩ := e_add (x := 54) (y := z_9) (show (54 : Int32).toInt = 54 by decide) rfl (by omega) (by omega)
    refine q_c z_10 ez_10 ?_
    clear ez_10
    refine q_iald X hK h 1 rfl (i_in rfl (by omega) (by omega)) dX12_saysAye_19 ?_
    obtain ⟨z_11, ez_11, hz_11⟩ := al_W rf0 (x := z_10) rfl (by omega) (by omega)
    refine q_c z_11 ez_11 ?_
    clear ez_11
    refine lv_iconst (v := 4) hx hb dX12_saysAye_20 (by decide) ?_
    refine lv_icmp_le (tgt := 28) hx hb dX12_saysAye_21 (by decide) (fun c_12 => ?_) (fun c_12 => ?_)
    · replace c_12 := i_le (x := z_11) (y := 4) rfl (show (4 : Int32).toInt = 4 by decide) c_12
      refine lv_iconst (v := 0) hx hb dX12_saysAye_28 (by decide) ?_
      exact q_iret X hr hlk hK h rfl (fun _ => 0, (vcons f1 (vcons f2 (fun _ => (fun _ => 0)))), fun _ _ => 0) ⟨⟨by decide +kernel, by decide +kernel⟩, trivial⟩ [0, 1, 2, 3] rfl rfl dX12_saysAye_29 (Nat.le_of_ble_eq_true rfl) (Nat.le_of_ble_eq_true rfl)
    · replace c_12 := i_nle (x := z_11) (y := 4) rfl (show (4 : Int32).toInt = 4 by decide) c_12
      refine lv_iconst (v := 1) hx hb dX12_saysAye_24 (by decide) ?_
      refine lv_goto (tgt := 29) hx hb dX12_saysAye_25 (by decide) ?_
      exact q_iret X hr hlk hK h rfl (fun _ => 0, (vcons f1 (vcons f2 (fun _ => (fun _ => 0)))), fun _ _ => 0) ⟨⟨by decide +kernel, by decide +kernel⟩, trivial⟩ [0, 1, 2, 3] rfl rfl dX12_saysAye_29 (Nat.le_of_ble_eq_true rfl) (Nat.le_of_ble_eq_true rfl)
set_option maxHeartbeats 4000000 in
set_option maxRecDepth 100000 in
theorem gX12_ayesOf_37b3298 (l : Launch) (D : va_G) (cy : Nat → ClassId) (h0 : Nat) (h1 : Nat) (h2 : Nat) (h3 : Nat) (p0 : Int32) (p1 : Int32) (p2 : Int32) (w0 : Value) (w1 : Value) (w2 : Value) (p3 : Int32) (p4 : Int32) (p5 : Int32) (p6 : Int32) (p7 : Int32) (p8 : Int32) (p9 : Int32) (p10 : Int32) (p11 : Int32) (p12 : Int32) (p13 : Int32) (w3 : Value) (w4 : Value) (w5 : Value) (p14 : Int32) (p15 : Int32) (w6 : Value) (w7 : Value) (w8 : Value) (p16 : Int32) (p17 : Int32) (w9 : Value) (w10 : Value) (w11 : Value) (w12 : Value) (w13 : Value) (p18 : Int32) (w14 : Value) (w15 : Value) (w16 : Value) (f0 : Nat → Int32) (p19 : Int32) (f1 : Nat → Int32) (f2 : Nat → Int32) (hp0 : 0 ≤ (p0).toInt ∧ (p0).toInt ≤ 1023) (hp1 : (-2147483648) ≤ (p1).toInt ∧ (p1).toInt ≤ 2147483647) (hp2 : 0 ≤ (p2).toInt ∧ (p2).toInt ≤ 0) (hp3 : 0 ≤ (p3).toInt ∧ (p3).toInt ≤ 900) (hp4 : 0 ≤ (p4).toInt ∧ (p4).toInt ≤ 900) (hp5 : 0 ≤ (p5).toInt ∧ (p5).toInt ≤ 900) (hp6 : 0 ≤ (p6).toInt ∧ (p6).toInt ≤ 900) (hp7 : (-2147483648) ≤ (p7).toInt ∧ (p7).toInt ≤ 2147483647) (hp8 : 0 ≤ (p8).toInt ∧ (p8).toInt ≤ 999) (hp9 : (-2147483648) ≤ (p9).toInt ∧ (p9).toInt ≤ 2147483647) (hp10 : (-2147483648) ≤ (p10).toInt ∧ (p10).toInt ≤ 2147483647) (hp11 : (-2147483648) ≤ (p11).toInt ∧ (p11).toInt ≤ 2147483647) (hp12 : (-2147483648) ≤ (p12).toInt ∧ (p12).toInt ≤ 2147483647) (hp13 : (-2147483648) ≤ (p13).toInt ∧ (p13).toInt ≤ 2147483647) (hp14 : (-2147483648) ≤ (p14).toInt ∧ (p14).toInt ≤ 2147483647) (hp15 : (-2147483648) ≤ (p15).toInt ∧ (p15).toInt ≤ 2147483647) (hp16 : (-2147483648) ≤ (p16).toInt ∧ (p16).toInt ≤ 2147483647) (hp17 : (-2147483648) ≤ (p17).toInt ∧ (p17).toInt ≤ 2147483647) (hp18 : (-2147483648) ≤ (p18).toInt ∧ (p18).toInt ≤ 2147483647) (hp19 : 0 ≤ (p19).toInt ∧ (p19).toInt ≤ 10) (htf0_84 : f0 84 = p19) (rf0 : AL f0) (sz : Nat) : MI l yX12_ayesOf cX12_ayesOf 5 .int { frames := 3, cells := 0, slots := 0, locals := 70 } [.ref h0, .int p0, .int p1] D cy (wk_d5826a772 cy h0 p2 h1 w0 w1 w2 p3 p4 p5 p6 p7 p8 p9 p10 p11 p12 p13 h2 h3 w3 w4 w5 p14 p15 w6 w7 w8 p16 p17 w9 w10 w11 w12 w13 p18 w14 w15 w16 h1 f0 h2 f1 h3 f2) sz (fun r u => (0 ≤ r.toInt ∧ r.toInt ≤ 1023) ∧ True) (fun u => (wk_d5826a772 cy h0 p2 h1 w0 w1 w2 p3 p4 p5 p6 p7 p8 p9 p10 p11 p12 p13 h2 h3 w3 w4 w5 p14 p15 w6 w7 w8 p16 p17 w9 w10 w11 w12 w13 p18 w14 w15 w16 h1 f0 h2 (u.2.1 0) h3 (u.2.1 1))) 0 0 := by
  refine q_ent (own := RX12) (by decide) rfl (Nat.le_of_ble_eq_true rfl) (fun p e s m below meth c ls X hr hlk hnm hK hT h hA hl => ?_)
  obtain ⟨hx, hb, hml, hown, ht⟩ := id X
  replace hl : lv_has ls 5 [(0, .ref h0), (1, .int p0), (2, .int p1)] := hl
  refine lv_iconst (v := 0) hx hb dX12_ayesOf_0 (by decide) ?_
  refine lv_istore_n (lv' := [(3, .int 0), (0, .ref h0), (1, .int p0), (2, .int p1)]) hx hb dX12_ayesOf_1 rfl hl (by decide) rfl (fun ls_1 hl_1 => ?_)
  clear hl
  refine lv_iconst (v := 0) hx hb dX12_ayesOf_2 (by decide) ?_
  refine lv_istore (lv' := [(4, .int 0), (3, .int 0), (0, .ref h0), (1, .int p0), (2, .int p1)]) hx hb dX12_ayesOf_3 hl_1 (by decide) rfl (fun ls_2 hl_2 => ?_)
  clear hl_1
  refine q_wl (fun (q : Int32 × Int32) H locs ls => match q with | (v5_3_0, v5_3_1) => ∃ v5_3_2 : Nat → Int32, ∃ v5_3_3 : Nat → Int32, (0 ≤ (v5_3_0).toInt ∧ (v5_3_0).toInt ≤ 10) ∧ (0 ≤ (v5_3_1).toInt ∧ (v5_3_1).toInt ≤ 1023) ∧ qW D (va_A (wk_d5826a772 cy h0 p2 h1 w0 w1 w2 p3 p4 p5 p6 p7 p8 p9 p10 p11 p12 p13 h2 h3 w3 w4 w5 p14 p15 w6 w7 w8 p16 p17 w9 w10 w11 w12 w13 p18 w14 w15 w16 h1 f0 h2 f1 h3 f2) sz) s.heap (wk_d5826a772 cy h0 p2 h1 w0 w1 w2 p3 p4 p5 p6 p7 p8 p9 p10 p11 p12 p13 h2 h3 w3 w4 w5 p14 p15 w6 w7 w8 p16 p17 w9 w10 w11 w12 w13 p18 w14 w15 w16 h1 f0 h2 v5_3_2 h3 v5_3_3) H locs ∧ lv_has ls 5 [(0, .ref h0), (1, .int p0), (2, .int p1), (3, .int v5_3_1), (4, .int v5_3_0)]) (fun (q : Int32 × Int32) => match q with | (v5_3_0, v5_3_1) => (11 - (v5_3_0).toInt).toNat) (fun q_5 ih_5 H locs ls hP => ?_) (0, 0) ⟨f1, f2, ⟨by decide +kernel, by decide +kernel⟩, ⟨by decide +kernel, by decide +kernel⟩, h, (lv_sub hl_2 [2, 3, 4, 1, 0] rfl)⟩
  obtain ⟨v5_3_0, v5_3_1⟩ := q_5
  obtain ⟨v5_3_2, v5_3_3, hv5_3_0, hv5_3_1, h, hl⟩ := hP
  refine lv_iload hx hb dX12_ayesOf_5 (lv_at hl 4 rfl) ?_
  refine lv_aload_n hx hb dX12_ayesOf_7 rfl (lv_at hl 0 rfl) ?_
  refine q_get X hK h 0 rfl rfl wf_12 1 (by decide) rfl wm_5_171 dX12_ayesOf_8 ?_
  refine lv_iconst (v := 2) hx hb dX12_ayesOf_11 (by decide) ?_
  refine q_iald X hK h 1 rfl (q_in (by decide +kernel)) dX12_ayesOf_12 ?_
  obtain ⟨z_4, ez_4, hz_4⟩ := al_P rf0 (x := 2) (show (2 : Int32).toInt = 2 by decide) (by omega) (by omega)
  refine q_c z_4 ez_4 ?_
  clear ez_4
  refine lv_icmp_ge (tgt := 53) hx hb dX12_ayesOf_13 (by decide) (fun c_5 => ?_) (fun c_5 => ?_)
  · replace c_5 := i_le (x := z_4) (y := v5_3_0) rfl rfl c_5
    refine lv_iload_n hx hb dX12_ayesOf_53 rfl (lv_at hl 3 rfl) ?_
    exact q_iret X hr hlk hK h rfl (fun _ => 0, (vcons v5_3_2 (vcons v5_3_3 (fun _ => (fun _ => 0)))), fun _ _ => 0) ⟨hv5_3_1, trivial⟩ [0, 1, 2, 3] rfl rfl dX12_ayesOf_54 (Nat.le_of_ble_eq_true rfl) (Nat.le_of_ble_eq_true rfl)
  · replace c_5 := i_nle (x := z_4) (y := v5_3_0) rfl rfl c_5
    refine lv_iload_n hx hb dX12_ayesOf_16 rfl (lv_at hl 3 rfl) ?_
    refine lv_iload_n hx hb dX12_ayesOf_17 rfl (lv_at hl 1 rfl) ?_
    refine lv_i2l hx hb dX12_ayesOf_18 rfl ?_
    obtain ⟨z_6, ez_6, hz_6⟩ := e_i2l (x := p0) rfl
    refine q_cl z_6 ez_6 ?_
    clear ez_6
    refine lv_iload hx hb dX12_ayesOf_19 (lv_at hl 4 rfl) ?_
    refine q_callSi (rest := [.int v5_3_1]) (wr := (wk_d5826a772 cy h0 p2 h1 w0 w1 w2 p3 p4 p5 p6 p7 p8 p9 p10 p11 p12 p13 h2 h3 w3 w4 w5 p14 p15 w6 w7 w8 p16 p17 w9 w10 w11 w12 w13 p18 w14 w15 w16 h1 f0 h2 v5_3_2 h3 v5_3_3)) X hK hT hA h (fun sz => gX12_isIn_b0455a8 l D cy z_6 v5_3_0 ⟨by omega, by omega⟩ ⟨by omega, by omega⟩ sz) wm_6_167 wm_6_169 wm_1_12 hd_X12_isIn wm_6_168 ⟨Nat.le_of_ble_eq_true rfl, Nat.le_of_ble_eq_true rfl⟩ hl.1 rfl (Nat.le_of_ble_eq_true rfl) dX12_ayesOf_21 ⟨Nat.le_of_ble_eq_true rfl, Nat.le_of_ble_eq_true rfl⟩ [] [0, 1, 2, 3] rfl rfl (by decide) rfl rfl (fun r_7 u_7 H locs w_7 h_7 => ?_)
    clear h
    obtain ⟨wr_7, _⟩ := w_7
    replace h_7 : qW D _ _ (wk_d5826a772 cy h0 p2 h1 w0 w1 w2 p3 p4 p5 p6 p7 p8 p9 p10 p11 p12 p13 h2 h3 w3 w4 w5 p14 p15 w6 w7 w8 p16 p17 w9 w10 w11 w12 w13 p18 w14 w15 w16 h1 f0 h2 v5_3_2 h3 v5_3_3) _ _ := h_7
    refine q_jn (pc2 := 45) (fun H locs ls st => ∃ v45_8_2 : Int32, ∃ v45_8_0 : Nat → Int32, ∃ v45_8_1 : Nat → Int32, (0 ≤ (v45_8_2).toInt ∧ (v45_8_2).toInt ≤ 512) ∧ st = [.int v45_8_2, .int v5_3_1] ∧ qW D (va_A (wk_d5826a772 cy h0 p2 h1 w0 w1 w2 p3 p4 p5 p6 p7 p8 p9 p10 p11 p12 p13 h2 h3 w3 w4 w5 p14 p15 w6 w7 w8 p16 p17 w9 w10 w11 w12 w13 p18 w14 w15 w16 h1 f0 h2 f1 h3 f2) sz) s.heap (wk_d5826a772 cy h0 p2 h1 w0 w1 w2 p3 p4 p5 p6 p7 p8 p9 p10 p11 p12 p13 h2 h3 w3 w4 w5 p14 p15 w6 w7 w8 p16 p17 w9 w10 w11 w12 w13 p18 w14 w15 w16 h1 f0 h2 v45_8_0 h3 v45_8_1) H locs ∧ lv_has ls 5 [(0, .ref h0), (1, .int p0), (2, .int p1), (3, .int v5_3_1), (4, .int v5_3_0)]) (fun H locs ls st hP => ?_) (fun J_45 => ?_)
    · obtain ⟨v45_8_2, v45_8_0, v45_8_1, hv45_8_2, rfl, h, hl⟩ := hP
      refine lv_ior hx hb dX12_ayesOf_45 ?_
      obtain ⟨z_9, ez_9, hz_9⟩ := e_orm (x := v5_3_1) (y := v45_8_2) 10 (by decide) rfl rfl (by omega) (by omega) (by omega) (by omega)
      refine q_c z_9 ez_9 ?_
      clear ez_9
      refine lv_istore_n (lv' := [(3, .int z_9), (0, .ref h0), (1, .int p0), (2, .int p1), (4, .int v5_3_0)]) hx hb dX12_ayesOf_46 rfl hl (by decide) rfl (fun ls_10 hl_10 => ?_)
      clear hl
      obtain ⟨z_11, ez_11, hz_11⟩ := e_add (x := v5_3_0) (y := Int32.ofInt 1) rfl (b := 1) (by decide) (by omega) (by omega)
      refine lv_iinc (v := z_11) (lv' := [(4, .int z_11), (3, .int z_9), (0, .ref h0), (1, .int p0), (2, .int p1)]) hx hb dX12_ayesOf_47 hl_10 (k := 4) rfl ez_11 (by decide) rfl (fun ls_11 hl_11 => ?_)
      clear hl_10
      refine lv_goto (tgt := 5) hx hb dX12_ayesOf_50 (by decide) ?_
      exact ih_5 (z_11, z_9) (by show (11 - (z_11).toInt).toNat < (11 - (v5_3_0).toInt).toNat; omega) _ _ _ ⟨v45_8_0, v45_8_1, ⟨by omega, by omega⟩, ⟨by omega, by omega⟩, h, (lv_sub hl_11 [2, 3, 4, 1, 0] rfl)⟩
    · skip
      refine q_jn (pc2 := 44) (fun H locs ls st => ∃ v44_12_0 : Nat → Int32, ∃ v44_12_1 : Nat → Int32, st = [.int v5_3_1] ∧ qW D (va_A (wk_d5826a772 cy h0 p2 h1 w0 w1 w2 p3 p4 p5 p6 p7 p8 p9 p10 p11 p12 p13 h2 h3 w3 w4 w5 p14 p15 w6 w7 w8 p16 p17 w9 w10 w11 w12 w13 p18 w14 w15 w16 h1 f0 h2 f1 h3 f2) sz) s.heap (wk_d5826a772 cy h0 p2 h1 w0 w1 w2 p3 p4 p5 p6 p7 p8 p9 p10 p11 p12 p13 h2 h3 w3 w4 w5 p14 p15 w6 w7 w8 p16 p17 w9 w10 w11 w12 w13 p18 w14 w15 w16 h1 f0 h2 v44_12_0 h3 v44_12_1) H locs ∧ lv_has ls 5 [(0, .ref h0), (1, .int p0), (2, .int p1), (3, .int v5_3_1), (4, .int v5_3_0)]) (fun H locs ls st hP => ?_) (fun J_44 => ?_)
      · obtain ⟨v44_12_0, v44_12_1, rfl, h, hl⟩ := hP
        refine lv_iconst (v := 0) hx hb dX12_ayesOf_44 (by decide) ?_
        exact J_45 _ _ _ _ ⟨0, v44_12_0, v44_12_1, ⟨by decide +kernel, by decide +kernel⟩, rfl, h, (lv_sub hl [0, 1, 2, 3, 4] rfl)⟩
      · skip
        refine lv_if_eq (tgt := 44) hx hb dX12_ayesOf_24 (by decide) (fun c_13 => ?_) (fun c_13 => ?_)
        · replace c_13 := i_eq (x := r_7) (y := 0) rfl (show (0 : Int32).toInt = 0 by decide) c_13
          exact J_44 _ _ _ _ ⟨v5_3_2, v5_3_3, rfl, h_7, (lv_sub hl [0, 1, 2, 3, 4] rfl)⟩
        · replace c_13 := i_ne (x := r_7) (y := 0) rfl (show (0 : Int32).toInt = 0 by decide) c_13
          refine lv_aload_n hx hb dX12_ayesOf_27 rfl (lv_at hl 0 rfl) ?_
          refine lv_iload hx hb dX12_ayesOf_28 (lv_at hl 4 rfl) ?_
          refine lv_iload_n hx hb dX12_ayesOf_30 rfl (lv_at hl 2 rfl) ?_
          refine q_callVi (rest := [.int v5_3_1]) (wr := []) X hK hT hA h_7 (fun sz => gX12_saysAye_89c2faa l D cy h0 h1 h2 h3 v5_3_0 p1 p2 w0 w1 w2 p3 p4 p5 p6 p7 p8 p9 p10 p11 p12 p13 w3 w4 w5 p14 p15 w6 w7 w8 p16 p17 w9 w10 w11 w12 w13 p18 w14 w15 w16 f0 p19 v5_3_2 v5_3_3 ⟨by omega, by omega⟩ (i_rng _) hp2 hp3 hp4 hp5 hp6 (i_rng _) hp8 (i_rng _) (i_rng _) (i_rng _) (i_rng _) (i_rng _) (i_rng _) (i_rng _) (i_rng _) (i_rng _) (i_rng _) hp19 htf0_84 rf0 sz) wm_7_199 wm_7_202 wm_1_12 hd_X12_saysAye wm_7_201 wp_7_13 (ci := 12) (q0 := 0) rfl rfl ⟨Nat.le_of_ble_eq_true rfl, Nat.le_of_ble_eq_true rfl⟩ hl.1 rfl (Nat.le_of_ble_eq_true rfl) dX12_ayesOf_31 ⟨Nat.le_of_ble_eq_true rfl, Nat.le_of_ble_eq_true rfl⟩ [0, 1, 2, 3] [] rfl rfl (by decide) rfl rfl (fun r_14 u_14 H locs w_14 h_14 => ?_)
          clear h_7
          obtain ⟨wr_14, _⟩ := w_14
          replace h_14 : qW D _ _ (wk_d5826a772 cy h0 p2 h1 w0 w1 w2 p3 p4 p5 p6 p7 p8 p9 p10 p11 p12 p13 h2 h3 w3 w4 w5 p14 p15 w6 w7 w8 p16 p17 w9 w10 w11 w12 w13 p18 w14 w15 w16 h1 f0 h2 (u_14.2.1 0) h3 (u_14.2.1 1)) _ _ := h_14
          refine lv_if_eq (tgt := 44) hx hb dX12_ayesOf_34 (by decide) (fun c_15 => ?_) (fun c_15 => ?_)
          · replace c_15 := i_eq (x := r_14) (y := 0) rfl (show (0 : Int32).toInt = 0 by decide) c_15
            exact J_44 _ _ _ _ ⟨(u_14.2.1 0), (u_14.2.1 1), rfl, h_14, (lv_sub hl [0, 1, 2, 3, 4] rfl)⟩
          · replace c_15 := i_ne (x := r_14) (y := 0) rfl (show (0 : Int32).toInt = 0 by decide) c_15
            refine lv_iconst (v := 1) hx hb dX12_ayesOf_37 (by decide) ?_
            refine lv_iload hx hb dX12_ayesOf_38 (lv_at hl 4 rfl) ?_
            refine lv_ishl hx hb dX12_ayesOf_40 ?_
            obtain ⟨z_16, ez_16, hz_16⟩ := e_shlk (p := v5_3_0) 9 (by decide) rfl (by omega) (by omega)
            refine q_c z_16 ez_16 ?_
            clear ez_16
            refine lv_goto (tgt := 45) hx hb dX12_ayesOf_41 (by decide) ?_
            exact J_45 _ _ _ _ ⟨z_16, (u_14.2.1 0), (u_14.2.1 1), ⟨by omega, by omega⟩, rfl, h_14, (lv_sub hl [0, 1, 2, 3, 4] rfl)⟩
set_option maxHeartbeats 4000000 in
set_option maxRecDepth 100000 in
theorem gX12_ayes_7859c38 (l : Launch) (D : va_G) (cy : Nat → ClassId) (h0 : Nat) (h1 : Nat) (h2 : Nat) (h3 : Nat) (p0 : Int32) (p1 : Int32) (w0 : Value) (w1 : Value) (w2 : Value) (p2 : Int32) (p3 : Int32) (p4 : Int32) (p5 : Int32) (p6 : Int32) (p7 : Int32) (p8 : Int32) (p9 : Int32) (p10 : Int32) (p11 : Int32) (p12 : Int32) (w3 : Value) (w4 : Value) (w5 : Value) (p13 : Int32) (p14 : Int32) (w6 : Value) (w7 : Value) (w8 : Value) (p15 : Int32) (p16 : Int32) (w9 : Value) (w10 : Value) (w11 : Value) (w12 : Value) (w13 : Value) (p17 : Int32) (w14 : Value) (w15 : Value) (w16 : Value) (f0 : Nat → Int32) (p18 : Int32) (f1 : Nat → Int32) (f2 : Nat → Int32) (hp0 : (-2147483648) ≤ (p0).toInt ∧ (p0).toInt ≤ 2147483647) (hp1 : (-2147483648) ≤ (p1).toInt ∧ (p1).toInt ≤ 2147483647) (hp2 : 0 ≤ (p2).toInt ∧ (p2).toInt ≤ 900) (hp3 : 0 ≤ (p3).toInt ∧ (p3).toInt ≤ 900) (hp4 : 0 ≤ (p4).toInt ∧ (p4).toInt ≤ 900) (hp5 : 0 ≤ (p5).toInt ∧ (p5).toInt ≤ 900) (hp6 : (-2147483648) ≤ (p6).toInt ∧ (p6).toInt ≤ 2147483647) (hp7 : 0 ≤ (p7).toInt ∧ (p7).toInt ≤ 999) (hp8 : (-2147483648) ≤ (p8).toInt ∧ (p8).toInt ≤ 2147483647) (hp9 : (-2147483648) ≤ (p9).toInt ∧ (p9).toInt ≤ 2147483647) (hp10 : (-2147483648) ≤ (p10).toInt ∧ (p10).toInt ≤ 2147483647) (hp11 : (-2147483648) ≤ (p11).toInt ∧ (p11).toInt ≤ 2147483647) (hp12 : (-2147483648) ≤ (p12).toInt ∧ (p12).toInt ≤ 2147483647) (hp13 : (-2147483648) ≤ (p13).toInt ∧ (p13).toInt ≤ 2147483647) (hp14 : (-2147483648) ≤ (p14).toInt ∧ (p14).toInt ≤ 2147483647) (hp15 : (-2147483648) ≤ (p15).toInt ∧ (p15).toInt ≤ 2147483647) (hp16 : (-2147483648) ≤ (p16).toInt ∧ (p16).toInt ≤ 2147483647) (hp17 : (-2147483648) ≤ (p17).toInt ∧ (p17).toInt ≤ 2147483647) (hp18 : 0 ≤ (p18).toInt ∧ (p18).toInt ≤ 10) (htf0_84 : f0 84 = p18) (rf0 : AL f0) (sz : Nat) : MI l yX12_ayes cX12_ayes 2 .int { frames := 4, cells := 0, slots := 0, locals := 94 } [.ref h0, .int p0] D cy (wk_d5826a772 cy h0 p1 h1 w0 w1 w2 p2 p3 p4 p5 p6 p7 p8 p9 p10 p11 p12 h2 h3 w3 w4 w5 p13 p14 w6 w7 w8 p15 p16 w9 w10 w11 w12 w13 p17 w14 w15 w16 h1 f0 h2 f1 h3 f2) sz (fun r u => ((-3) ≤ r.toInt ∧ r.toInt ≤ 1023) ∧ (0 ≤ (u.2.1 0 0).toInt ∧ (u.2.1 0 0).toInt ≤ 0) ∧ True) (fun u => (wk_d5826a772 cy h0 (u.2.1 0 0) h1 w0 w1 w2 p2 p3 p4 p5 p6 p7 p8 p9 p10 p11 p12 h2 h3 w3 w4 w5 p13 p14 w6 w7 w8 p15 p16 w9 w10 w11 w12 w13 p17 w14 w15 w16 h1 f0 h2 (u.2.1 1) h3 (u.2.1 2))) 0 0 := by
  refine q_ent (own := RX12) (by decide) rfl (Nat.le_of_ble_eq_true rfl) (fun p e s m below meth c ls X hr hlk hnm hK hT h hA hl => ?_)
  obtain ⟨hx, hb, hml, hown, ht⟩ := id X
  replace hl : lv_has ls 2 [(0, .ref h0), (1, .int p0)] := hl
  refine lv_aload_n hx hb dX12_ayes_0 rfl (lv_at hl 0 rfl) ?_
  refine lv_iconst (v := 0) hx hb dX12_ayes_1 (by decide) ?_
  refine q_put (v := .int 0) X hK h 0 rfl rfl wf_12 tyX12 tyX12_ok nmX12 0 (by decide) wm_5_170 rfl rfl rfl (Nat.le_of_ble_eq_true rfl) dX12_ayes_2 (fun H locs h_1 => ?_)
  clear h
  replace h_1 : qW D _ _ (wk_d5826a772 cy h0 0 h1 w0 w1 w2 p2 p3 p4 p5 p6 p7 p8 p9 p10 p11 p12 h2 h3 w3 w4 w5 p13 p14 w6 w7 w8 p15 p16 w9 w10 w11 w12 w13 p17 w14 w15 w16 h1 f0 h2 f1 h3 f2) _ _ := h_1
  refine lv_iload_n hx hb dX12_ayes_5 rfl (lv_at hl 1 rfl) ?_
  refine q_callSi (rest := []) (wr := (wk_d5826a772 cy h0 0 h1 w0 w1 w2 p2 p3 p4 p5 p6 p7 p8 p9 p10 p11 p12 h2 h3 w3 w4 w5 p13 p14 w6 w7 w8 p15 p16 w9 w10 w11 w12 w13 p17 w14 w15 w16 h1 f0 h2 f1 h3 f2)) X hK hT hA h_1 (fun sz => gX12_isBill_0f4990c l D cy p0 (i_rng _) sz) wm_7_192 wm_7_194 wm_1_12 hd_X12_isBill wm_7_193 ⟨Nat.le_of_ble_eq_true rfl, Nat.le_of_ble_eq_true rfl⟩ hl.1 rfl (Nat.le_of_ble_eq_true rfl) dX12_ayes_6 ⟨Nat.le_of_ble_eq_true rfl, Nat.le_of_ble_eq_true rfl⟩ [] [0, 1, 2, 3] rfl rfl (by decide) rfl rfl (fun r_2 u_2 H locs w_2 h_2 => ?_)
  clear h_1
  obtain ⟨wr_2, _⟩ := w_2
  replace h_2 : qW D _ _ (wk_d5826a772 cy h0 0 h1 w0 w1 w2 p2 p3 p4 p5 p6 p7 p8 p9 p10 p11 p12 h2 h3 w3 w4 w5 p13 p14 w6 w7 w8 p15 p16 w9 w10 w11 w12 w13 p17 w14 w15 w16 h1 f0 h2 f1 h3 f2) _ _ := h_2
  refine q_jn (pc2 := 26) (fun H locs ls st => ∃ v26_3_2 : Int32, ∃ v26_3_0 : Nat → Int32, ∃ v26_3_1 : Nat → Int32, ((-3) ≤ (v26_3_2).toInt ∧ (v26_3_2).toInt ≤ 1023) ∧ st = [.int v26_3_2] ∧ qW D (va_A (wk_d5826a772 cy h0 p1 h1 w0 w1 w2 p2 p3 p4 p5 p6 p7 p8 p9 p10 p11 p12 h2 h3 w3 w4 w5 p13 p14 w6 w7 w8 p15 p16 w9 w10 w11 w12 w13 p17 w14 w15 w16 h1 f0 h2 f1 h3 f2) sz) s.heap (wk_d5826a772 cy h0 0 h1 w0 w1 w2 p2 p3 p4 p5 p6 p7 p8 p9 p10 p11 p12 h2 h3 w3 w4 w5 p13 p14 w6 w7 w8 p15 p16 w9 w10 w11 w12 w13 p17 w14 w15 w16 h1 f0 h2 v26_3_0 h3 v26_3_1) H locs ∧ lv_has ls 2 [(0, .ref h0), (1, .int p0)]) (fun H locs ls st hP => ?_) (fun J_26 => ?_)
  · obtain ⟨v26_3_2, v26_3_0, v26_3_1, hv26_3_2, rfl, h, hl⟩ := hP
    exact q_iret X hr hlk hK h rfl (fun _ => 0, (vcons (fun _ => 0) (vcons v26_3_0 (vcons v26_3_1 (fun _ => (fun _ => 0))))), fun _ _ => 0) ⟨hv26_3_2, (⟨by decide +kernel, by decide +kernel⟩ : 0 ≤ (0 : Int32).toInt ∧ (0 : Int32).toInt ≤ 0), trivial⟩ [0, 1, 2, 3] rfl rfl dX12_ayes_26 (Nat.le_of_ble_eq_true rfl) (Nat.le_of_ble_eq_true rfl)
  · skip
    refine lv_if_eq (tgt := 24) hx hb dX12_ayes_9 (by decide) (fun c_4 => ?_) (fun c_4 => ?_)
    · replace c_4 := i_eq (x := r_2) (y := 0) rfl (show (0 : Int32).toInt = 0 by decide) c_4
      refine lv_bipush (v := (-3)) hx hb dX12_ayes_24 (by decide) ?_
      exact J_26 _ _ _ _ ⟨(-3), f1, f2, ⟨by decide +kernel, by decide +kernel⟩, rfl, h_2, (lv_sub hl [0, 1] rfl)⟩
    · replace c_4 := i_ne (x := r_2) (y := 0) rfl (show (0 : Int32).toInt = 0 by decide) c_4
      refine lv_aload_n hx hb dX12_ayes_12 rfl (lv_at hl 0 rfl) ?_
      refine lv_aload_n hx hb dX12_ayes_13 rfl (lv_at hl 0 rfl) ?_
      refine q_callVi (rest := [.ref h0]) (wr := (wk_3fb6de35f cy h2 f1 h3 f2)) X hK hT hA h_2 (fun sz => gX12_townNow_2907b4b l D cy h0 h1 (0 : Int32) w0 w1 w2 p2 p3 p4 p5 p6 p7 p8 p9 p10 p11 p12 (.ref h2) (.ref h3) w3 w4 w5 p13 p14 w6 w7 w8 p15 p16 w9 w10 w11 w12 w13 p17 w14 w15 w16 f0 p18 ⟨by decide +kernel, by decide +kernel⟩ hp2 hp3 hp4 hp5 (i_rng _) hp7 (i_rng _) (i_rng _) (i_rng _) (i_rng _) (i_rng _) (i_rng _) (i_rng _) (i_rng _) (i_rng _) (i_rng _) hp18 htf0_84 rf0 sz) wm_6_170 wm_6_173 wm_1_12 hd_X12_townNow wm_6_172 wp_5_9 (ci := 12) (q0 := 0) rfl rfl ⟨Nat.le_of_ble_eq_true rfl, Nat.le_of_ble_eq_true rfl⟩ hl.1 rfl (Nat.le_of_ble_eq_true rfl) dX12_ayes_14 ⟨Nat.le_of_ble_eq_true rfl, Nat.le_of_ble_eq_true rfl⟩ [0, 1] [2, 3] rfl rfl (by decide) rfl rfl (fun r_5 u_5 H locs w_5 h_5 => ?_)
      clear h_2
      obtain ⟨wr_5, _⟩ := w_5
      replace h_5 : qW D _ _ (wk_974fbaca6 cy h2 f1 h3 f2 h0 0 h1 w0 w1 w2 p2 p3 p4 p5 p6 p7 p8 p9 p10 p11 p12 h2 h3 w3 w4 w5 p13 p14 w6 w7 w8 p15 p16 w9 w10 w11 w12 w13 p17 w14 w15 w16 h1 f0) _ _ := h_5
      refine lv_iload_n hx hb dX12_ayes_17 rfl (lv_at hl 1 rfl) ?_
      refine q_callVi (rest := []) (wr := []) X hK hT hA h_5 (fun sz => gX12_ayesOf_37b3298 l D cy h0 h1 h2 h3 r_5 p0 (0 : Int32) w0 w1 w2 p2 p3 p4 p5 p6 p7 p8 p9 p10 p11 p12 w3 w4 w5 p13 p14 w6 w7 w8 p15 p16 w9 w10 w11 w12 w13 p17 w14 w15 w16 f0 p18 f1 f2 wr_5 (i_rng _) ⟨by decide +kernel, by decide +kernel⟩ hp2 hp3 hp4 hp5 (i_rng _) hp7 (i_rng _) (i_rng _) (i_rng _) (i_rng _) (i_rng _) (i_rng _) (i_rng _) (i_rng _) (i_rng _) (i_rng _) hp18 htf0_84 rf0 sz) wm_7_195 wm_7_198 wm_1_12 hd_X12_ayesOf wm_7_197 wp_7_12 (ci := 12) (q0 := 0) rfl rfl ⟨Nat.le_of_ble_eq_true rfl, Nat.le_of_ble_eq_true rfl⟩ hl.1 rfl (Nat.le_of_ble_eq_true rfl) dX12_ayes_18 ⟨Nat.le_of_ble_eq_true rfl, Nat.le_of_ble_eq_true rfl⟩ [2, 3, 0, 1] [] rfl rfl (by decide) rfl rfl (fun r_6 u_6 H locs w_6 h_6 => ?_)
      clear h_5
      obtain ⟨wr_6, _⟩ := w_6
      replace h_6 : qW D _ _ (wk_d5826a772 cy h0 0 h1 w0 w1 w2 p2 p3 p4 p5 p6 p7 p8 p9 p10 p11 p12 h2 h3 w3 w4 w5 p13 p14 w6 w7 w8 p15 p16 w9 w10 w11 w12 w13 p17 w14 w15 w16 h1 f0 h2 (u_6.2.1 0) h3 (u_6.2.1 1)) _ _ := h_6
      refine lv_goto (tgt := 26) hx hb dX12_ayes_21 (by decide) ?_
      exact J_26 _ _ _ _ ⟨r_6, (u_6.2.1 0), (u_6.2.1 1), (bw wr_6 (by decide) (by decide)), rfl, h_6, (lv_sub hl [0, 1] rfl)⟩
set_option maxHeartbeats 4000000 in
set_option maxRecDepth 100000 in
theorem gX12_passedBy_5e223a1 (l : Launch) (D : va_G) (cy : Nat → ClassId) (h0 : Nat) (h1 : Nat) (h2 : Nat) (h3 : Nat) (h4 : Nat) (p0 : Int32) (p1 : Int32) (w0 : Value) (w1 : Value) (w2 : Value) (p2 : Int32) (p3 : Int32) (p4 : Int32) (p5 : Int32) (p6 : Int32) (p7 : Int32) (p8 : Int32) (p9 : Int32) (p10 : Int32) (p11 : Int32) (p12 : Int32) (w3 : Value) (w4 : Value) (w5 : Value) (p13 : Int32) (p14 : Int32) (w6 : Value) (w7 : Value) (p15 : Int32) (p16 : Int32) (w8 : Value) (w9 : Value) (w10 : Value) (w11 : Value) (w12 : Value) (p17 : Int32) (w13 : Value) (w14 : Value) (w15 : Value) (f0 : Nat → Int32) (p18 : Int32) (f1 : Nat → Int32) (f2 : Nat → Int32) (f3 : Nat → Int32) (hp0 : (-2147483648) ≤ (p0).toInt ∧ (p0).toInt ≤ 2147483647) (hp1 : 0 ≤ (p1).toInt ∧ (p1).toInt ≤ 0) (hp2 : 0 ≤ (p2).toInt ∧ (p2).toInt ≤ 900) (hp3 : 0 ≤ (p3).toInt ∧ (p3).toInt ≤ 900) (hp4 : 0 ≤ (p4).toInt ∧ (p4).toInt ≤ 900) (hp5 : 0 ≤ (p5).toInt ∧ (p5).toInt ≤ 900) (hp6 : (-2147483648) ≤ (p6).toInt ∧ (p6).toInt ≤ 2147483647) (hp7 : 0 ≤ (p7).toInt ∧ (p7).toInt ≤ 999) (hp8 : (-2147483648) ≤ (p8).toInt ∧ (p8).toInt ≤ 2147483647) (hp9 : (-2147483648) ≤ (p9).toInt ∧ (p9).toInt ≤ 2147483647) (hp10 : (-2147483648) ≤ (p10).toInt ∧ (p10).toInt ≤ 2147483647) (hp11 : (-2147483648) ≤ (p11).toInt ∧ (p11).toInt ≤ 2147483647) (hp12 : (-2147483648) ≤ (p12).toInt ∧ (p12).toInt ≤ 2147483647) (hp13 : (-2147483648) ≤ (p13).toInt ∧ (p13).toInt ≤ 2147483647) (hp14 : (-2147483648) ≤ (p14).toInt ∧ (p14).toInt ≤ 2147483647) (hp15 : (-2147483648) ≤ (p15).toInt ∧ (p15).toInt ≤ 2147483647) (hp16 : (-2147483648) ≤ (p16).toInt ∧ (p16).toInt ≤ 2147483647) (hp17 : (-2147483648) ≤ (p17).toInt ∧ (p17).toInt ≤ 2147483647) (hp18 : 0 ≤ (p18).toInt ∧ (p18).toInt ≤ 10) (htf0_84 : f0 84 = p18) (rf0 : AL f0) (sz : Nat) : MI l yX12_passedBy cX12_passedBy 7 .int { frames := 4, cells := 0, slots := 0, locals := 94 } [.ref h0, .int p0] D cy (wk_d6dc2c191 cy h0 p1 h1 w0 w1 w2 p2 p3 p4 p5 p6 p7 p8 p9 p10 p11 p12 h2 h3 w3 w4 w5 p13 p14 h4 w6 w7 p15 p16 w8 w9 w10 w11 w12 p17 w13 w14 w15 h1 f0 h2 f1 h3 f2 h4 f3) sz (fun r u => ((-1) ≤ r.toInt ∧ r.toInt ≤ 1023) ∧ True) (fun u => (wk_d6dc2c191 cy h0 p1 h1 w0 w1 w2 p2 p3 p4 p5 p6 p7 p8 p9 p10 p11 p12 h2 h3 w3 w4 w5 p13 p14 h4 w6 w7 p15 p16 w8 w9 w10 w11 w12 p17 w13 w14 w15 h1 f0 h2 (u.2.1 0) h3 (u.2.1 1) h4 f3)) 0 0 := by
  refine q_ent (own := RX12) (by decide) rfl (Nat.le_of_ble_eq_true rfl) (fun p e s m below meth c ls X hr hlk hnm hK hT h hA hl => ?_)
  obtain ⟨hx, hb, hml, hown, ht⟩ := id X
  replace hl : lv_has ls 7 [(0, .ref h0), (1, .int p0)] := hl
  refine lv_aload_n hx hb dX12_passedBy_0 rfl (lv_at hl 0 rfl) ?_
  refine q_callVi (rest := []) (wr := [(h2, .inl (cy 1, 900, .inl f1)), (h3, .inl (cy 1, 11, .inl f2)), (h4, .inl (cy 1, 1024, .inl f3))]) X hK hT hA h (fun sz => gX12_townNow_2907b4b l D cy h0 h1 p1 w0 w1 w2 p2 p3 p4 p5 p6 p7 p8 p9 p10 p11 p12 (.ref h2) (.ref h3) w3 w4 w5 p13 p14 (.ref h4) w6 w7 p15 p16 w8 w9 w10 w11 w12 p17 w13 w14 w15 f0 p18 hp1 hp2 hp3 hp4 hp5 (i_rng _) hp7 (i_rng _) (i_rng _) (i_rng _) (i_rng _) (i_rng _) (i_rng _) (i_rng _) (i_rng _) (i_rng _) (i_rng _) hp18 htf0_84 rf0 sz) wm_6_170 wm_6_173 wm_1_12 hd_X12_townNow wm_6_172 wp_5_9 (ci := 12) (q0 := 0) rfl rfl ⟨Nat.le_of_ble_eq_true rfl, Nat.le_of_ble_eq_true rfl⟩ hl.1 rfl (Nat.le_of_ble_eq_true rfl) dX12_passedBy_1 ⟨Nat.le_of_ble_eq_true rfl, Nat.le_of_ble_eq_true rfl⟩ [0, 1] [2, 3, 4] rfl rfl (by decide) rfl rfl (fun r_1 u_1 H locs w_1 h_1 => ?_)
  clear h
  obtain ⟨wr_1, _⟩ := w_1
  replace h_1 : qW D _ _ [(h2, .inl (cy 1, 900, .inl f1)), (h3, .inl (cy 1, 11, .inl f2)), (h4, .inl (cy 1, 1024, .inl f3)), (h0, .inr (12, [.int p1, .ref h1, w0, w1, w2, .int p2, .int p3, .int p4, .int p5, .int p6, .int p7, .int p8, .int p9, .int p10, .int p11, .int p12, .ref h2, .ref h3, w3, w4, w5, .int p13, .int p14, .ref h4, w6, w7, .int p15, .int p16, w8, w9, w10, w11, w12, .int p17, w13, w14, w15])), (h1, .inl (cy 1, 3918, .inl f0))] _ _ := h_1
  refine lv_istore_n (lv' := [(2, .int r_1), (0, .ref h0), (1, .int p0)]) hx hb dX12_passedBy_4 rfl hl (by decide) rfl (fun ls_2 hl_2 => ?_)
  clear hl
  refine lv_aload_n hx hb dX12_passedBy_5 rfl (lv_at hl_2 1 rfl) ?_
  refine lv_iload_n hx hb dX12_passedBy_6 rfl (lv_at hl_2 0 rfl) ?_
  refine lv_iload_n hx hb dX12_passedBy_7 rfl (lv_at hl_2 2 rfl) ?_
  refine q_callVi (rest := []) (wr := [(h4, .inl (cy 1, 1024, .inl f3))]) X hK hT hA h_1 (fun sz => gX12_ayesOf_37b3298 l D cy h0 h1 h2 h3 r_1 p0 p1 w0 w1 w2 p2 p3 p4 p5 p6 p7 p8 p9 p10 p11 p12 w3 w4 w5 p13 p14 (.ref h4) w6 w7 p15 p16 w8 w9 w10 w11 w12 p17 w13 w14 w15 f0 p18 f1 f2 wr_1 (i_rng _) hp1 hp2 hp3 hp4 hp5 (i_rng _) hp7 (i_rng _) (i_rng _) (i_rng _) (i_rng _) (i_rng _) (i_rng _) (i_rng _) (i_rng _) (i_rng _) (i_rng _) hp18 htf0_84 rf0 sz) wm_7_195 wm_7_198 wm_1_12 hd_X12_ayesOf wm_7_197 wp_7_12 (ci := 12) (q0 := 0) rfl rfl ⟨Nat.le_of_ble_eq_true rfl, Nat.le_of_ble_eq_true rfl⟩ hl_2.1 rfl (Nat.le_of_ble_eq_true rfl) dX12_passedBy_8 ⟨Nat.le_of_ble_eq_true rfl, Nat.le_of_ble_eq_true rfl⟩ [3, 4, 0, 1] [2] rfl rfl (by decide) rfl rfl (fun r_3 u_3 H locs w_3 h_3 => ?_)
  clear h_1
  obtain ⟨wr_3, _⟩ := w_3
  replace h_3 : qW D _ _ (wk_dc198b67d cy h4 f3 h0 p1 h1 w0 w1 w2 p2 p3 p4 p5 p6 p7 p8 p9 p10 p11 p12 h2 h3 w3 w4 w5 p13 p14 h4 w6 w7 p15 p16 w8 w9 w10 w11 w12 p17 w13 w14 w15 h1 f0 h2 (u_3.2.1 0) h3 (u_3.2.1 1)) _ _ := h_3
  refine lv_istore_n (lv' := [(3, .int r_3), (2, .int r_1), (0, .ref h0), (1, .int p0)]) hx hb dX12_passedBy_11 rfl hl_2 (by decide) rfl (fun ls_4 hl_4 => ?_)
  clear hl_2
  refine lv_iconst (v := (-1)) hx hb dX12_passedBy_12 (by decide) ?_
  refine lv_istore (lv' := [(4, .int (-1)), (3, .int r_3), (2, .int r_1), (0, .ref h0), (1, .int p0)]) hx hb dX12_passedBy_13 hl_4 (by decide) rfl (fun ls_5 hl_5 => ?_)
  clear hl_4
  refine lv_iconst (v := 0) hx hb dX12_passedBy_15 (by decide) ?_
  refine lv_istore (lv' := [(5, .int 0), (4, .int (-1)), (3, .int r_3), (2, .int r_1), (0, .ref h0), (1, .int p0)]) hx hb dX12_passedBy_16 hl_5 (by decide) rfl (fun ls_6 hl_6 => ?_)
  clear hl_5
  refine q_wl (fun (q : Int32 × Int32) H locs ls => match q with | (v18_7_0, v18_7_1) => (0 ≤ (v18_7_0).toInt ∧ (v18_7_0).toInt ≤ 1024) ∧ ((-1) ≤ (v18_7_1).toInt ∧ (v18_7_1).toInt ≤ 1023) ∧ qW D (va_A (wk_d6dc2c191 cy h0 p1 h1 w0 w1 w2 p2 p3 p4 p5 p6 p7 p8 p9 p10 p11 p12 h2 h3 w3 w4 w5 p13 p14 h4 w6 w7 p15 p16 w8 w9 w10 w11 w12 p17 w13 w14 w15 h1 f0 h2 f1 h3 f2 h4 f3) sz) s.heap (wk_dc198b67d cy h4 f3 h0 p1 h1 w0 w1 w2 p2 p3 p4 p5 p6 p7 p8 p9 p10 p11 p12 h2 h3 w3 w4 w5 p13 p14 h4 w6 w7 p15 p16 w8 w9 w10 w11 w12 p17 w13 w14 w15 h1 f0 h2 (u_3.2.1 0) h3 (u_3.2.1 1)) H locs ∧ lv_has ls 7 [(0, .ref h0), (1, .int p0), (2, .int r_1), (3, .int r_3), (4, .int v18_7_1), (5, .int v18_7_0)]) (fun (q : Int32 × Int32) => match q with | (v18_7_0, v18_7_1) => (1025 - (v18_7_0).toInt).toNat) (fun q_18 ih_18 H locs ls hP => ?_) (0, (-1)) ⟨⟨by decide +kernel, by decide +kernel⟩, ⟨by decide +kernel, by decide +kernel⟩, h_3, (lv_sub hl_6 [4, 5, 3, 2, 1, 0] rfl)⟩
  obtain ⟨v18_7_0, v18_7_1⟩ := q_18
  obtain ⟨hv18_7_0, hv18_7_1, h, hl⟩ := hP
  refine lv_iload hx hb dX12_passedBy_18 (lv_at hl 5 rfl) ?_
  refine lv_iload_n hx hb dX12_passedBy_20 rfl (lv_at hl 2 rfl) ?_
  refine lv_icmp_gt (tgt := 100) hx hb dX12_passedBy_21 (by decide) (fun c_8 => ?_) (fun c_8 => ?_)
  · replace c_8 := i_lt (x := r_1) (y := v18_7_0) rfl rfl c_8
    refine lv_iload hx hb dX12_passedBy_100 (lv_at hl 4 rfl) ?_
    exact q_iret X hr hlk hK h rfl (fun _ => 0, (vcons (u_3.2.1 0) (vcons (u_3.2.1 1) (fun _ => (fun _ => 0)))), fun _ _ => 0) ⟨hv18_7_1, trivial⟩ [1, 2, 3, 4, 0] rfl rfl dX12_passedBy_102 (Nat.le_of_ble_eq_true rfl) (Nat.le_of_ble_eq_true rfl)
  · replace c_8 := i_nlt (x := r_1) (y := v18_7_0) rfl rfl c_8
    refine lv_iload_n hx hb dX12_passedBy_24 rfl (lv_at hl 2 rfl) ?_
    refine lv_iload hx hb dX12_passedBy_25 (lv_at hl 5 rfl) ?_
    refine lv_iconst (v := (-1)) hx hb dX12_passedBy_27 (by decide) ?_
    refine lv_ixor hx hb dX12_passedBy_28 ?_
    refine q_any (fun z_9 hz_9 => ?_)
    refine lv_iand hx hb dX12_passedBy_29 ?_
    obtain ⟨z_10, ez_10, hz_10⟩ := e_and1 (x := r_1) (y := z_9) rfl (by omega)
    refine q_c z_10 ez_10 ?_
    clear ez_10
    refine lv_istore (lv' := [(6, .int z_10), (0, .ref h0), (1, .int p0), (2, .int r_1), (3, .int r_3), (4, .int v18_7_1), (5, .int v18_7_0)]) hx hb dX12_passedBy_30 hl (by decide) rfl (fun ls_11 hl_11 => ?_)
    clear hl
    refine lv_iload hx hb dX12_passedBy_32 (lv_at hl_11 6 rfl) ?_
    refine lv_iload_n hx hb dX12_passedBy_34 rfl (lv_at hl_11 3 rfl) ?_
    refine lv_iconst (v := (-1)) hx hb dX12_passedBy_35 (by decide) ?_
    refine lv_ixor hx hb dX12_passedBy_36 ?_
    refine q_any (fun z_12 hz_12 => ?_)
    refine lv_iand hx hb dX12_passedBy_37 ?_
    obtain ⟨z_13, ez_13, hz_13⟩ := e_and1 (x := v18_7_0) (y := z_12) rfl (by omega)
    refine q_c z_13 ez_13 ?_
    clear ez_13
    refine q_jn (pc2 := 94) (fun H locs ls st => ∃ v94_14_0 : Int32, ((-1) ≤ (v94_14_0).toInt ∧ (v94_14_0).toInt ≤ 1023) ∧ st = [] ∧ qW D (va_A (wk_d6dc2c191 cy h0 p1 h1 w0 w1 w2 p2 p3 p4 p5 p6 p7 p8 p9 p10 p11 p12 h2 h3 w3 w4 w5 p13 p14 h4 w6 w7 p15 p16 w8 w9 w10 w11 w12 p17 w13 w14 w15 h1 f0 h2 f1 h3 f2 h4 f3) sz) s.heap (wk_dc198b67d cy h4 f3 h0 p1 h1 w0 w1 w2 p2 p3 p4 p5 p6 p7 p8 p9 p10 p11 p12 h2 h3 w3 w4 w5 p13 p14 h4 w6 w7 p15 p16 w8 w9 w10 w11 w12 p17 w13 w14 w15 h1 f0 h2 (u_3.2.1 0) h3 (u_3.2.1 1)) H locs ∧ lv_has ls 7 [(0, .ref h0), (1, .int p0), (2, .int r_1), (3, .int r_3), (4, .int v94_14_0), (5, .int v18_7_0), (6, .int z_10)]) (fun H locs ls st hP => ?_) (fun J_94 => ?_)
    · obtain ⟨v94_14_0, hv94_14_0, rfl, h, hl⟩ := hP
      obtain ⟨z_15, ez_15, hz_15⟩ := e_add (x := v18_7_0) (y := Int32.ofInt 1) rfl (b := 1) (by decide) (by omega) (by omega)
      refine lv_iinc (v := z_15) (lv' := [(5, .int z_15), (0, .ref h0), (1, .int p0), (2, .int r_1), (3, .int r_3), (4, .int v94_14_0), (6, .int z_10)]) hx hb dX12_passedBy_94 hl (k := 5) rfl ez_15 (by decide) rfl (fun ls_15 hl_15 => ?_)
      clear hl
      refine lv_goto (tgt := 18) hx hb dX12_passedBy_97 (by decide) ?_
      exact ih_18 (z_15, v94_14_0) (by show (1025 - (z_15).toInt).toNat < (1025 - (v18_7_0).toInt).toNat; omega) _ _ _ ⟨⟨by omega, by omega⟩, hv94_14_0, h, (lv_sub hl_15 [1, 2, 3, 4, 5, 0] rfl)⟩
    · skip
      refine lv_if_ne (tgt := 94) hx hb dX12_passedBy_38 (by decide) (fun c_16 => ?_) (fun c_16 => ?_)
      · replace c_16 := i_ne (x := z_13) (y := 0) rfl (show (0 : Int32).toInt = 0 by decide) c_16
        exact J_94 _ _ _ _ ⟨v18_7_1, hv18_7_1, rfl, h, (lv_sub hl_11 [1, 2, 3, 4, 5, 6, 0] rfl)⟩
      · replace c_16 := i_eq (x := z_13) (y := 0) rfl (show (0 : Int32).toInt = 0 by decide) c_16
        refine lv_iload hx hb dX12_passedBy_41 (lv_at hl_11 5 rfl) ?_
        refine lv_iconst (v := (-1)) hx hb dX12_passedBy_43 (by decide) ?_
        refine q_jn (pc2 := 63) (fun H locs ls st => st = [] ∧ qW D (va_A (wk_d6dc2c191 cy h0 p1 h1 w0 w1 w2 p2 p3 p4 p5 p6 p7 p8 p9 p10 p11 p12 h2 h3 w3 w4 w5 p13 p14 h4 w6 w7 p15 p16 w8 w9 w10 w11 w12 p17 w13 w14 w15 h1 f0 h2 f1 h3 f2 h4 f3) sz) s.heap (wk_dc198b67d cy h4 f3 h0 p1 h1 w0 w1 w2 p2 p3 p4 p5 p6 p7 p8 p9 p10 p11 p12 h2 h3 w3 w4 w5 p13 p14 h4 w6 w7 p15 p16 w8 w9 w10 w11 w12 p17 w13 w14 w15 h1 f0 h2 (u_3.2.1 0) h3 (u_3.2.1 1)) H locs ∧ lv_has ls 7 [(0, .ref h0), (1, .int p0), (2, .int r_1), (3, .int r_3), (4, .int v18_7_1), (5, .int v18_7_0), (6, .int z_10)]) (fun H locs ls st hP => ?_) (fun J_63 => ?_)
        · obtain ⟨rfl, h, hl⟩ := hP
          refine lv_aload_n hx hb dX12_passedBy_63 rfl (lv_at hl 0 rfl) ?_
          refine q_get X hK h 1 rfl rfl wf_12 23 (by decide) rfl wm_5_193 dX12_passedBy_64 ?_
          refine lv_iload hx hb dX12_passedBy_67 (lv_at hl 6 rfl) ?_
          refine q_iald X hK h 0 rfl (i_in rfl (by omega) (by omega)) dX12_passedBy_69 ?_
          refine q_any (fun z_18 hz_18 => ?_)
          refine lv_if_le (tgt := 94) hx hb dX12_passedBy_70 (by decide) (fun c_19 => ?_) (fun c_19 => ?_)
          · replace c_19 := i_le (x := z_18) (y := 0) rfl (show (0 : Int32).toInt = 0 by decide) c_19
            exact J_94 _ _ _ _ ⟨v18_7_1, hv18_7_1, rfl, h, (lv_sub hl [0, 1, 2, 3, 4, 5, 6] rfl)⟩
          · replace c_19 := i_nle (x := z_18) (y := 0) rfl (show (0 : Int32).toInt = 0 by decide) c_19
            refine lv_iconst (v := 2) hx hb dX12_passedBy_73 (by decide) ?_
            refine lv_iload_n hx hb dX12_passedBy_74 rfl (lv_at hl 3 rfl) ?_
            refine lv_iload hx hb dX12_passedBy_75 (lv_at hl 6 rfl) ?_
            refine lv_iand hx hb dX12_passedBy_77 ?_
            obtain ⟨z_20, ez_20, hz_20⟩ := e_and2 (x := r_3) (y := z_10) rfl (by omega)
            refine q_c z_20 ez_20 ?_
            clear ez_20
            refine q_callSi (rest := [.int 2]) (wr := (wk_dc198b67d cy h4 f3 h0 p1 h1 w0 w1 w2 p2 p3 p4 p5 p6 p7 p8 p9 p10 p11 p12 h2 h3 w3 w4 w5 p13 p14 h4 w6 w7 p15 p16 w8 w9 w10 w11 w12 p17 w13 w14 w15 h1 f0 h2 (u_3.2.1 0) h3 (u_3.2.1 1))) X hK hT hA h (fun sz => gX12_bitsOf_5a43b1c l D cy z_20 (i_rng _) sz) wm_7_8 wm_7_10 wm_1_12 hd_X12_bitsOf wm_7_9 ⟨Nat.le_of_ble_eq_true rfl, Nat.le_of_ble_eq_true rfl⟩ hl.1 rfl (Nat.le_of_ble_eq_true rfl) dX12_passedBy_78 ⟨Nat.le_of_ble_eq_true rfl, Nat.le_of_ble_eq_true rfl⟩ [] [0, 1, 2, 3, 4] rfl rfl (by decide) rfl rfl (fun r_21 u_21 H locs w_21 h_21 => ?_)
            clear h
            obtain ⟨wr_21, _⟩ := w_21
            replace h_21 : qW D _ _ (wk_dc198b67d cy h4 f3 h0 p1 h1 w0 w1 w2 p2 p3 p4 p5 p6 p7 p8 p9 p10 p11 p12 h2 h3 w3 w4 w5 p13 p14 h4 w6 w7 p15 p16 w8 w9 w10 w11 w12 p17 w13 w14 w15 h1 f0 h2 (u_3.2.1 0) h3 (u_3.2.1 1)) _ _ := h_21
            refine lv_imul hx hb dX12_passedBy_81 ?_
            obtain ⟨z_22, ez_22, hz_22⟩ := e_mul (x := 2) (y := r_21) (show (2 : Int32).toInt = 2 by decide) rfl (by omega) (by omega)
            refine q_c z_22 ez_22 ?_
            clear ez_22
            refine lv_iload hx hb dX12_passedBy_82 (lv_at hl 6 rfl) ?_
            refine q_callSi (rest := [.int z_22]) (wr := (wk_dc198b67d cy h4 f3 h0 p1 h1 w0 w1 w2 p2 p3 p4 p5 p6 p7 p8 p9 p10 p11 p12 h2 h3 w3 w4 w5 p13 p14 h4 w6 w7 p15 p16 w8 w9 w10 w11 w12 p17 w13 w14 w15 h1 f0 h2 (u_3.2.1 0) h3 (u_3.2.1 1))) X hK hT hA h_21 (fun sz => gX12_bitsOf_5a43b1c l D cy z_10 (i_rng _) sz) wm_7_8 wm_7_10 wm_1_12 hd_X12_bitsOf wm_7_9 ⟨Nat.le_of_ble_eq_true rfl, Nat.le_of_ble_eq_true rfl⟩ hl.1 rfl (Nat.le_of_ble_eq_true rfl) dX12_passedBy_84 ⟨Nat.le_of_ble_eq_true rfl, Nat.le_of_ble_eq_true rfl⟩ [] [0, 1, 2, 3, 4] rfl rfl (by decide) rfl rfl (fun r_23 u_23 H locs w_23 h_23 => ?_)
            clear h_21
            obtain ⟨wr_23, _⟩ := w_23
            replace h_23 : qW D _ _ (wk_dc198b67d cy h4 f3 h0 p1 h1 w0 w1 w2 p2 p3 p4 p5 p6 p7 p8 p9 p10 p11 p12 h2 h3 w3 w4 w5 p13 p14 h4 w6 w7 p15 p16 w8 w9 w10 w11 w12 p17 w13 w14 w15 h1 f0 h2 (u_3.2.1 0) h3 (u_3.2.1 1)) _ _ := h_23
            refine lv_icmp_le (tgt := 94) hx hb dX12_passedBy_87 (by decide) (fun c_24 => ?_) (fun c_24 => ?_)
            · replace c_24 := i_le (x := z_22) (y := r_23) rfl rfl c_24
              exact J_94 _ _ _ _ ⟨v18_7_1, hv18_7_1, rfl, h_23, (lv_sub hl [0, 1, 2, 3, 4, 5, 6] rfl)⟩
            · replace c_24 := i_nle (x := z_22) (y := r_23) rfl rfl c_24
              refine lv_iload hx hb dX12_passedBy_90 (lv_at hl 5 rfl) ?_
              refine lv_istore (lv' := [(4, .int v18_7_0), (0, .ref h0), (1, .int p0), (2, .int r_1), (3, .int r_3), (5, .int v18_7_0), (6, .int z_10)]) hx hb dX12_passedBy_92 hl (by decide) rfl (fun ls_25 hl_25 => ?_)
              clear hl
              exact J_94 _ _ _ _ ⟨v18_7_0, ⟨by omega, by omega⟩, rfl, h_23, (lv_sub hl_25 [1, 2, 3, 4, 0, 5, 6] rfl)⟩
        · skip
          refine lv_icmp_eq (tgt := 63) hx hb dX12_passedBy_44 (by decide) (fun c_26 => ?_) (fun c_26 => ?_)
          · replace c_26 := i_eq (x := v18_7_1) (y := (-1)) rfl (show ((-1) : Int32).toInt = -1 by decide) c_26
            exact J_63 _ _ _ _ ⟨rfl, h, (lv_sub hl_11 [1, 2, 3, 4, 5, 6, 0] rfl)⟩
          · replace c_26 := i_ne (x := v18_7_1) (y := (-1)) rfl (show ((-1) : Int32).toInt = -1 by decide) c_26
            refine lv_iload hx hb dX12_passedBy_47 (lv_at hl_11 6 rfl) ?_
            refine q_callSi (rest := []) (wr := (wk_dc198b67d cy h4 f3 h0 p1 h1 w0 w1 w2 p2 p3 p4 p5 p6 p7 p8 p9 p10 p11 p12 h2 h3 w3 w4 w5 p13 p14 h4 w6 w7 p15 p16 w8 w9 w10 w11 w12 p17 w13 w14 w15 h1 f0 h2 (u_3.2.1 0) h3 (u_3.2.1 1))) X hK hT hA h (fun sz => gX12_bitsOf_5a43b1c l D cy v18_7_0 (i_rng _) sz) wm_7_8 wm_7_10 wm_1_12 hd_X12_bitsOf wm_7_9 ⟨Nat.le_of_ble_eq_true rfl, Nat.le_of_ble_eq_true rfl⟩ hl_11.1 rfl (Nat.le_of_ble_eq_true rfl) dX12_passedBy_49 ⟨Nat.le_of_ble_eq_true rfl, Nat.le_of_ble_eq_true rfl⟩ [] [0, 1, 2, 3, 4] rfl rfl (by decide) rfl rfl (fun r_27 u_27 H locs w_27 h_27 => ?_)
            clear h
            obtain ⟨wr_27, _⟩ := w_27
            replace h_27 : qW D _ _ (wk_dc198b67d cy h4 f3 h0 p1 h1 w0 w1 w2 p2 p3 p4 p5 p6 p7 p8 p9 p10 p11 p12 h2 h3 w3 w4 w5 p13 p14 h4 w6 w7 p15 p16 w8 w9 w10 w11 w12 p17 w13 w14 w15 h1 f0 h2 (u_3.2.1 0) h3 (u_3.2.1 1)) _ _ := h_27
            refine lv_iload hx hb dX12_passedBy_52 (lv_at hl_11 5 rfl) ?_
            refine q_callSi (rest := [.int r_27]) (wr := (wk_dc198b67d cy h4 f3 h0 p1 h1 w0 w1 w2 p2 p3 p4 p5 p6 p7 p8 p9 p10 p11 p12 h2 h3 w3 w4 w5 p13 p14 h4 w6 w7 p15 p16 w8 w9 w10 w11 w12 p17 w13 w14 w15 h1 f0 h2 (u_3.2.1 0) h3 (u_3.2.1 1))) X hK hT hA h_27 (fun sz => gX12_bitsOf_5a43b1c l D cy v18_7_1 (i_rng _) sz) wm_7_8 wm_7_10 wm_1_12 hd_X12_bitsOf wm_7_9 ⟨Nat.le_of_ble_eq_true rfl, Nat.le_of_ble_eq_true rfl⟩ hl_11.1 rfl (Nat.le_of_ble_eq_true rfl) dX12_passedBy_54 ⟨Nat.le_of_ble_eq_true rfl, Nat.le_of_ble_eq_true rfl⟩ [] [0, 1, 2, 3, 4] rfl rfl (by decide) rfl rfl (fun r_28 u_28 H locs w_28 h_28 => ?_)
            clear h_27
            obtain ⟨wr_28, _⟩ := w_28
            replace h_28 : qW D _ _ (wk_dc198b67d cy h4 f3 h0 p1 h1 w0 w1 w2 p2 p3 p4 p5 p6 p7 p8 p9 p10 p11 p12 h2 h3 w3 w4 w5 p13 p14 h4 w6 w7 p15 p16 w8 w9 w10 w11 w12 p17 w13 w14 w15 h1 f0 h2 (u_3.2.1 0) h3 (u_3.2.1 1)) _ _ := h_28
            refine lv_icmp_lt (tgt := 63) hx hb dX12_passedBy_57 (by decide) (fun c_29 => ?_) (fun c_29 => ?_)
            · replace c_29 := i_lt (x := r_27) (y := r_28) rfl rfl c_29
              exact J_63 _ _ _ _ ⟨rfl, h_28, (lv_sub hl_11 [1, 2, 3, 4, 5, 6, 0] rfl)⟩
            · replace c_29 := i_nlt (x := r_27) (y := r_28) rfl rfl c_29
              refine lv_goto (tgt := 94) hx hb dX12_passedBy_60 (by decide) ?_
              exact J_94 _ _ _ _ ⟨v18_7_1, hv18_7_1, rfl, h_28, (lv_sub hl_11 [1, 2, 3, 4, 5, 6, 0] rfl)⟩
set_option maxHeartbeats 4000000 in
set_option maxRecDepth 100000 in
theorem gX12_passes_b67d45f (l : Launch) (D : va_G) (cy : Nat → ClassId) (h0 : Nat) (h1 : Nat) (h2 : Nat) (h3 : Nat) (h4 : Nat) (h5 : Nat) (p0 : Int32) (p1 : Int32) (w0 : Value) (w1 : Value) (w2 : Value) (p2 : Int32) (p3 : Int32) (p4 : Int32) (p5 : Int32) (p6 : Int32) (p7 : Int32) (p8 : Int32) (p9 : Int32) (p10 : Int32) (p11 : Int32) (p12 : Int32) (w3 : Value) (w4 : Value) (p13 : Int32) (p14 : Int32) (w5 : Value) (w6 : Value) (p15 : Int32) (p16 : Int32) (w7 : Value) (w8 : Value) (w9 : Value) (w10 : Value) (w11 : Value) (p17 : Int32) (w12 : Value) (w13 : Value) (w14 : Value) (f0 : Nat → Int32) (p18 : Int32) (f1 : Nat → Int32) (f2 : Nat → Int32) (f3 : Nat → Int32) (f4 : Nat → Int32) (hp0 : (-2147483648) ≤ (p0).toInt ∧ (p0).toInt ≤ 2147483647) (hp1 : (-2147483648) ≤ (p1).toInt ∧ (p1).toInt ≤ 2147483647) (hp2 : 0 ≤ (p2).toInt ∧ (p2).toInt ≤ 900) (hp3 : 0 ≤ (p3).toInt ∧ (p3).toInt ≤ 900) (hp4 : 0 ≤ (p4).toInt ∧ (p4).toInt ≤ 900) (hp5 : 0 ≤ (p5).toInt ∧ (p5).toInt ≤ 900) (hp6 : (-2147483648) ≤ (p6).toInt ∧ (p6).toInt ≤ 2147483647) (hp7 : 0 ≤ (p7).toInt ∧ (p7).toInt ≤ 999) (hp8 : (-2147483648) ≤ (p8).toInt ∧ (p8).toInt ≤ 2147483647) (hp9 : (-2147483648) ≤ (p9).toInt ∧ (p9).toInt ≤ 2147483647) (hp10 : (-2147483648) ≤ (p10).toInt ∧ (p10).toInt ≤ 2147483647) (hp11 : (-2147483648) ≤ (p11).toInt ∧ (p11).toInt ≤ 2147483647) (hp12 : (-2147483648) ≤ (p12).toInt ∧ (p12).toInt ≤ 2147483647) (hp13 : (-2147483648) ≤ (p13).toInt ∧ (p13).toInt ≤ 2147483647) (hp14 : (-2147483648) ≤ (p14).toInt ∧ (p14).toInt ≤ 2147483647) (hp15 : (-2147483648) ≤ (p15).toInt ∧ (p15).toInt ≤ 2147483647) (hp16 : (-2147483648) ≤ (p16).toInt ∧ (p16).toInt ≤ 2147483647) (hp17 : (-2147483648) ≤ (p17).toInt ∧ (p17).toInt ≤ 2147483647) (hp18 : 0 ≤ (p18).toInt ∧ (p18).toInt ≤ 10) (htf0_84 : f0 84 = p18) (rf0 : AL f0) (rf3 : RG f3 10 0 1023) (sz : Nat) : MI l yX12_passes cX12_passes 2 .int { frames := 5, cells := 0, slots := 0, locals := 120 } [.ref h0, .int p0] D cy (wk_eecab3214 cy h0 p1 h1 w0 w1 w2 p2 p3 p4 p5 p6 p7 p8 p9 p10 p11 p12 h2 h3 w3 h4 w4 p13 p14 h5 w5 w6 p15 p16 w7 w8 w9 w10 w11 p17 w12 w13 w14 h1 f0 h2 f1 h3 f2 h4 f3 h5 f4) sz (fun r u => ((-3) ≤ r.toInt ∧ r.toInt ≤ 1) ∧ RG (u.2.1 0) 10 0 1023 ∧ (0 ≤ (u.2.1 1 0).toInt ∧ (u.2.1 1 0).toInt ≤ 0) ∧ True) (fun u => (wk_eecab3214 cy h0 (u.2.1 1 0) h1 w0 w1 w2 p2 p3 p4 p5 p6 p7 p8 p9 p10 p11 p12 h2 h3 w3 h4 w4 p13 p14 h5 w5 w6 p15 p16 w7 w8 w9 w10 w11 p17 w12 w13 w14 h1 f0 h2 (u.2.1 2) h3 (u.2.1 3) h4 (u.2.1 0) h5 (u.2.1 4))) 0 0 := by
  refine q_ent (own := RX12) (by decide) rfl (Nat.le_of_ble_eq_true rfl) (fun p e s m below meth c ls X hr hlk hnm hK hT h hA hl => ?_)
  obtain ⟨hx, hb, hml, hown, ht⟩ := id X
  replace hl : lv_has ls 2 [(0, .ref h0), (1, .int p0)] := hl
  refine lv_aload_n hx hb dX12_passes_0 rfl (lv_at hl 0 rfl) ?_
  refine lv_iconst (v := 0) hx hb dX12_passes_1 (by decide) ?_
  refine q_put (v := .int 0) X hK h 0 rfl rfl wf_12 tyX12 tyX12_ok nmX12 0 (by decide) wm_5_170 rfl rfl rfl (Nat.le_of_ble_eq_true rfl) dX12_passes_2 (fun H locs h_1 => ?_)
  clear h
  replace h_1 : qW D _ _ (wk_eecab3214 cy h0 0 h1 w0 w1 w2 p2 p3 p4 p5 p6 p7 p8 p9 p10 p11 p12 h2 h3 w3 h4 w4 p13 p14 h5 w5 w6 p15 p16 w7 w8 w9 w10 w11 p17 w12 w13 w14 h1 f0 h2 f1 h3 f2 h4 f3 h5 f4) _ _ := h_1
  refine lv_iload_n hx hb dX12_passes_5 rfl (lv_at hl 1 rfl) ?_
  refine q_callSi (rest := []) (wr := (wk_eecab3214 cy h0 0 h1 w0 w1 w2 p2 p3 p4 p5 p6 p7 p8 p9 p10 p11 p12 h2 h3 w3 h4 w4 p13 p14 h5 w5 w6 p15 p16 w7 w8 w9 w10 w11 p17 w12 w13 w14 h1 f0 h2 f1 h3 f2 h4 f3 h5 f4)) X hK hT hA h_1 (fun sz => gX12_isBill_0f4990c l D cy p0 (i_rng _) sz) wm_7_192 wm_7_194 wm_1_12 hd_X12_isBill wm_7_193 ⟨Nat.le_of_ble_eq_true rfl, Nat.le_of_ble_eq_true rfl⟩ hl.1 rfl (Nat.le_of_ble_eq_true rfl) dX12_passes_6 ⟨Nat.le_of_ble_eq_true rfl, Nat.le_of_ble_eq_true rfl⟩ [] [0, 1, 2, 3, 4, 5] rfl rfl (by decide) rfl rfl (fun r_2 u_2 H locs w_2 h_2 => ?_)
  clear h_1
  obtain ⟨wr_2, _⟩ := w_2
  replace h_2 : qW D _ _ (wk_eecab3214 cy h0 0 h1 w0 w1 w2 p2 p3 p4 p5 p6 p7 p8 p9 p10 p11 p12 h2 h3 w3 h4 w4 p13 p14 h5 w5 w6 p15 p16 w7 w8 w9 w10 w11 p17 w12 w13 w14 h1 f0 h2 f1 h3 f2 h4 f3 h5 f4) _ _ := h_2
  refine lv_if_ne (tgt := 15) hx hb dX12_passes_9 (by decide) (fun c_3 => ?_) (fun c_3 => ?_)
  · replace c_3 := i_ne (x := r_2) (y := 0) rfl (show (0 : Int32).toInt = 0 by decide) c_3
    refine lv_aload_n hx hb dX12_passes_15 rfl (lv_at hl 0 rfl) ?_
    refine q_callVv (rest := []) (wr := []) X hK hT hA h_2 (fun sz => gX12_laysNow_7e7bd2c l D cy h0 h1 h2 h3 h4 h5 (0 : Int32) w0 w1 w2 p2 p3 p4 p5 p6 p7 p8 p9 p10 p11 p12 w3 w4 p13 p14 w5 w6 p15 p16 w7 w8 w9 w10 w11 p17 w12 w13 w14 f0 p18 f1 f2 f3 f4 ⟨by decide +kernel, by decide +kernel⟩ hp2 hp3 hp4 hp5 (i_rng _) hp7 (i_rng _) (i_rng _) (i_rng _) (i_rng _) (i_rng _) (i_rng _) (i_rng _) (i_rng _) (i_rng _) (i_rng _) hp18 htf0_84 rf0 (rg_wide rf3 (by decide) (by decide)) sz) wm_7_55 wm_7_58 wm_1_12 hd_X12_laysNow wm_7_57 wp_6_11 (ci := 12) (q0 := 0) rfl rfl ⟨Nat.le_of_ble_eq_true rfl, Nat.le_of_ble_eq_true rfl⟩ hl.1 rfl (Nat.le_of_ble_eq_true rfl) dX12_passes_16 ⟨Nat.le_of_ble_eq_true rfl, Nat.le_of_ble_eq_true rfl⟩ [0, 1, 2, 3, 4, 5] [] rfl rfl (by decide) rfl rfl (fun u_4 H locs w_4 h_4 => ?_)
    clear h_2
    obtain ⟨w4_0, _⟩ := w_4
    replace h_4 : qW D _ _ (wk_eecab3214 cy h0 0 h1 w0 w1 w2 p2 p3 p4 p5 p6 p7 p8 p9 p10 p11 p12 h2 h3 w3 h4 w4 p13 p14 h5 w5 w6 p15 p16 w7 w8 w9 w10 w11 p17 w12 w13 w14 h1 f0 h2 (u_4.2.1 0) h3 (u_4.2.1 1) h4 (u_4.2.1 2) h5 (u_4.2.1 3)) _ _ := h_4
    refine lv_aload_n hx hb dX12_passes_19 rfl (lv_at hl 0 rfl) ?_
    refine lv_iload_n hx hb dX12_passes_20 rfl (lv_at hl 1 rfl) ?_
    refine q_callVi (rest := []) (wr := [(h4, .inl (cy 1, 10, .inl (u_4.2.1 2)))]) X hK hT hA h_4 (fun sz => gX12_passedBy_5e223a1 l D cy h0 h1 h2 h3 h5 p0 (0 : Int32) w0 w1 w2 p2 p3 p4 p5 p6 p7 p8 p9 p10 p11 p12 w3 (.ref h4) w4 p13 p14 w5 w6 p15 p16 w7 w8 w9 w10 w11 p17 w12 w13 w14 f0 p18 (u_4.2.1 0) (u_4.2.1 1) (u_4.2.1 3) (i_rng _) ⟨by decide +kernel, by decide +kernel⟩ hp2 hp3 hp4 hp5 (i_rng _) hp7 (i_rng _) (i_rng _) (i_rng _) (i_rng _) (i_rng _) (i_rng _) (i_rng _) (i_rng _) (i_rng _) (i_rng _) hp18 htf0_84 rf0 sz) wm_7_207 wm_7_210 wm_1_12 hd_X12_passedBy wm_7_209 wp_7_14 (ci := 12) (q0 := 0) rfl rfl ⟨Nat.le_of_ble_eq_true rfl, Nat.le_of_ble_eq_true rfl⟩ hl.1 rfl (Nat.le_of_ble_eq_true rfl) dX12_passes_21 ⟨Nat.le_of_ble_eq_true rfl, Nat.le_of_ble_eq_true rfl⟩ [0, 1, 2, 3, 5] [4] rfl rfl (by decide) rfl rfl (fun r_5 u_5 H locs w_5 h_5 => ?_)
    clear h_4
    obtain ⟨wr_5, _⟩ := w_5
    replace h_5 : qW D _ _ (wk_41836cb4f cy h4 (u_4.2.1 2) h0 0 h1 w0 w1 w2 p2 p3 p4 p5 p6 p7 p8 p9 p10 p11 p12 h2 h3 w3 h4 w4 p13 p14 h5 w5 w6 p15 p16 w7 w8 w9 w10 w11 p17 w12 w13 w14 h1 f0 h2 (u_5.2.1 0) h3 (u_5.2.1 1) h5 (u_4.2.1 3)) _ _ := h_5
    refine q_jn (pc2 := 32) (fun H locs ls st => ∃ v32_6_0 : Int32, (0 ≤ (v32_6_0).toInt ∧ (v32_6_0).toInt ≤ 1) ∧ st = [.int v32_6_0] ∧ qW D (va_A (wk_eecab3214 cy h0 p1 h1 w0 w1 w2 p2 p3 p4 p5 p6 p7 p8 p9 p10 p11 p12 h2 h3 w3 h4 w4 p13 p14 h5 w5 w6 p15 p16 w7 w8 w9 w10 w11 p17 w12 w13 w14 h1 f0 h2 f1 h3 f2 h4 f3 h5 f4) sz) s.heap (wk_41836cb4f cy h4 (u_4.2.1 2) h0 0 h1 w0 w1 w2 p2 p3 p4 p5 p6 p7 p8 p9 p10 p11 p12 h2 h3 w3 h4 w4 p13 p14 h5 w5 w6 p15 p16 w7 w8 w9 w10 w11 p17 w12 w13 w14 h1 f0 h2 (u_5.2.1 0) h3 (u_5.2.1 1) h5 (u_4.2.1 3)) H locs ∧ lv_has ls 2 [(0, .ref h0), (1, .int p0)]) (fun H locs ls st hP => ?_) (fun J_32 => ?_)
    · obtain ⟨v32_6_0, hv32_6_0, rfl, h, hl⟩ := hP
      exact q_iret X hr hlk hK h rfl (fun _ => 0, (vcons (u_4.2.1 2) (vcons (fun _ => 0) (vcons (u_5.2.1 0) (vcons (u_5.2.1 1) (vcons (u_4.2.1 3) (fun _ => (fun _ => 0))))))), fun _ _ => 0) ⟨(bw hv32_6_0 (by decide) (by decide)), (rg_wide w4_0 (by decide) (by decide)), (⟨by decide +kernel, by decide +kernel⟩ : 0 ≤ (0 : Int32).toInt ∧ (0 : Int32).toInt ≤ 0), trivial⟩ [1, 2, 3, 4, 0, 5] rfl rfl dX12_passes_32 (Nat.le_of_ble_eq_true rfl) (Nat.le_of_ble_eq_true rfl)
    · skip
      refine lv_if_ne (tgt := 31) hx hb dX12_passes_24 (by decide) (fun c_7 => ?_) (fun c_7 => ?_)
      · replace c_7 := i_ne (x := r_5) (y := 0) rfl (show (0 : Int32).toInt = 0 by decide) c_7
        refine lv_iconst (v := 0) hx hb dX12_passes_31 (by decide) ?_
        exact J_32 _ _ _ _ ⟨0, ⟨by decide +kernel, by decide +kernel⟩, rfl, h_5, (lv_sub hl [0, 1] rfl)⟩
      · replace c_7 := i_eq (x := r_5) (y := 0) rfl (show (0 : Int32).toInt = 0 by decide) c_7
        refine lv_iconst (v := 1) hx hb dX12_passes_27 (by decide) ?_
        refine lv_goto (tgt := 32) hx hb dX12_passes_28 (by decide) ?_
        exact J_32 _ _ _ _ ⟨1, ⟨by decide +kernel, by decide +kernel⟩, rfl, h_5, (lv_sub hl [0, 1] rfl)⟩
  · replace c_3 := i_eq (x := r_2) (y := 0) rfl (show (0 : Int32).toInt = 0 by decide) c_3
    refine lv_bipush (v := (-3)) hx hb dX12_passes_12 (by decide) ?_
    exact q_iret X hr hlk hK h_2 rfl (fun _ => 0, (vcons f3 (vcons (fun _ => 0) (vcons f1 (vcons f2 (vcons f4 (fun _ => (fun _ => 0))))))), fun _ _ => 0) ⟨⟨by decide +kernel, by decide +kernel⟩, (rg_wide rf3 (by decide) (by decide)), (⟨by decide +kernel, by decide +kernel⟩ : 0 ≤ (0 : Int32).toInt ∧ (0 : Int32).toInt ≤ 0), trivial⟩ [0, 1, 2, 3, 4, 5] rfl rfl dX12_passes_14 (Nat.le_of_ble_eq_true rfl) (Nat.le_of_ble_eq_true rfl)
set_option maxHeartbeats 4000000 in
set_option maxRecDepth 100000 in
theorem gX12_passed_4915792 (l : Launch) (D : va_G) (cy : Nat → ClassId) (h0 : Nat) (h1 : Nat) (h2 : Nat) (h3 : Nat) (h4 : Nat) (h5 : Nat) (p0 : Int32) (p1 : Int32) (p2 : Int32) (w0 : Value) (w1 : Value) (w2 : Value) (p3 : Int32) (p4 : Int32) (p5 : Int32) (p6 : Int32) (p7 : Int32) (p8 : Int32) (p9 : Int32) (p10 : Int32) (p11 : Int32) (p12 : Int32) (p13 : Int32) (w3 : Value) (w4 : Value) (p14 : Int32) (p15 : Int32) (w5 : Value) (w6 : Value) (p16 : Int32) (p17 : Int32) (w7 : Value) (w8 : Value) (w9 : Value) (w10 : Value) (w11 : Value) (p18 : Int32) (w12 : Value) (w13 : Value) (w14 : Value) (f0 : Nat → Int32) (p19 : Int32) (f1 : Nat → Int32) (f2 : Nat → Int32) (f3 : Nat → Int32) (f4 : Nat → Int32) (hp0 : (-2147483648) ≤ (p0).toInt ∧ (p0).toInt ≤ 2147483647) (hp1 : (-2147483648) ≤ (p1).toInt ∧ (p1).toInt ≤ 2147483647) (hp2 : (-2147483648) ≤ (p2).toInt ∧ (p2).toInt ≤ 2147483647) (hp3 : 0 ≤ (p3).toInt ∧ (p3).toInt ≤ 900) (hp4 : 0 ≤ (p4).toInt ∧ (p4).toInt ≤ 900) (hp5 : 0 ≤ (p5).toInt ∧ (p5).toInt ≤ 900) (hp6 : 0 ≤ (p6).toInt ∧ (p6).toInt ≤ 900) (hp7 : (-2147483648) ≤ (p7).toInt ∧ (p7).toInt ≤ 2147483647) (hp8 : 0 ≤ (p8).toInt ∧ (p8).toInt ≤ 999) (hp9 : (-2147483648) ≤ (p9).toInt ∧ (p9).toInt ≤ 2147483647) (hp10 : (-2147483648) ≤ (p10).toInt ∧ (p10).toInt ≤ 2147483647) (hp11 : (-2147483648) ≤ (p11).toInt ∧ (p11).toInt ≤ 2147483647) (hp12 : (-2147483648) ≤ (p12).toInt ∧ (p12).toInt ≤ 2147483647) (hp13 : (-2147483648) ≤ (p13).toInt ∧ (p13).toInt ≤ 2147483647) (hp14 : (-2147483648) ≤ (p14).toInt ∧ (p14).toInt ≤ 2147483647) (hp15 : (-2147483648) ≤ (p15).toInt ∧ (p15).toInt ≤ 2147483647) (hp16 : (-2147483648) ≤ (p16).toInt ∧ (p16).toInt ≤ 2147483647) (hp17 : (-2147483648) ≤ (p17).toInt ∧ (p17).toInt ≤ 2147483647) (hp18 : (-2147483648) ≤ (p18).toInt ∧ (p18).toInt ≤ 2147483647) (hp19 : 0 ≤ (p19).toInt ∧ (p19).toInt ≤ 10) (htf0_84 : f0 84 = p19) (rf0 : AL f0) (rf3 : RG f3 10 0 1023) (sz : Nat) : MI l yX12_passed cX12_passed 4 .int { frames := 5, cells := 0, slots := 0, locals := 120 } [.ref h0, .int p0, .int p1] D cy (wk_eecab3214 cy h0 p2 h1 w0 w1 w2 p3 p4 p5 p6 p7 p8 p9 p10 p11 p12 p13 h2 h3 w3 h4 w4 p14 p15 h5 w5 w6 p16 p17 w7 w8 w9 w10 w11 p18 w12 w13 w14 h1 f0 h2 f1 h3 f2 h4 f3 h5 f4) sz (fun r u => ((-3) ≤ r.toInt ∧ r.toInt ≤ 1023) ∧ RG (u.2.1 0) 10 0 1023 ∧ (0 ≤ (u.2.1 1 0).toInt ∧ (u.2.1 1 0).toInt ≤ 0) ∧ True) (fun u => (wk_eecab3214 cy h0 (u.2.1 1 0) h1 w0 w1 w2 p3 p4 p5 p6 p7 p8 p9 p10 p11 p12 p13 h2 h3 w3 h4 w4 p14 p15 h5 w5 w6 p16 p17 w7 w8 w9 w10 w11 p18 w12 w13 w14 h1 f0 h2 (u.2.1 2) h3 (u.2.1 3) h4 (u.2.1 0) h5 (u.2.1 4))) 0 0 := by
  refine q_ent (own := RX12) (by decide) rfl (Nat.le_of_ble_eq_true rfl) (fun p e s m below meth c ls X hr hlk hnm hK hT h hA hl => ?_)
  obtain ⟨hx, hb, hml, hown, ht⟩ := id X
  replace hl : lv_has ls 4 [(0, .ref h0), (1, .int p0), (2, .int p1)] := hl
  refine lv_aload_n hx hb dX12_passed_0 rfl (lv_at hl 0 rfl) ?_
  refine lv_iconst (v := 0) hx hb dX12_passed_1 (by decide) ?_
  refine q_put (v := .int 0) X hK h 0 rfl rfl wf_12 tyX12 tyX12_ok nmX12 0 (by decide) wm_5_170 rfl rfl rfl (Nat.le_of_ble_eq_true rfl) dX12_passed_2 (fun H locs h_1 => ?_)
  clear h
  replace h_1 : qW D _ _ (wk_eecab3214 cy h0 0 h1 w0 w1 w2 p3 p4 p5 p6 p7 p8 p9 p10 p11 p12 p13 h2 h3 w3 h4 w4 p14 p15 h5 w5 w6 p16 p17 w7 w8 w9 w10 w11 p18 w12 w13 w14 h1 f0 h2 f1 h3 f2 h4 f3 h5 f4) _ _ := h_1
  refine lv_iload_n hx hb dX12_passed_5 rfl (lv_at hl 2 rfl) ?_
  refine lv_i2l hx hb dX12_passed_6 rfl ?_
  obtain ⟨z_2, ez_2, hz_2⟩ := e_i2l (x := p1) rfl
  refine q_cl z_2 ez_2 ?_
  clear ez_2
  refine lv_lconst (v := 0) hx hb dX12_passed_7 (by decide) ?_
  refine lv_lconst (v := 1) hx hb dX12_passed_8 (by decide) ?_
  refine q_callSi (rest := []) (wr := (wk_eecab3214 cy h0 0 h1 w0 w1 w2 p3 p4 p5 p6 p7 p8 p9 p10 p11 p12 p13 h2 h3 w3 h4 w4 p14 p15 h5 w5 w6 p16 p17 w7 w8 w9 w10 w11 p18 w12 w13 w14 h1 f0 h2 f1 h3 f2 h4 f3 h5 f4)) X hK hT hA h_1 (fun sz => gX12_within_00c7897 l D cy z_2 (0 : Int64) (1 : Int64) (j_rng _) ⟨by decide +kernel, by decide +kernel⟩ ⟨by decide +kernel, by decide +kernel⟩ sz) wm_6_50 wm_6_52 wm_1_12 hd_X12_within wm_6_51 ⟨Nat.le_of_ble_eq_true rfl, Nat.le_of_ble_eq_true rfl⟩ hl.1 rfl (Nat.le_of_ble_eq_true rfl) dX12_passed_9 ⟨Nat.le_of_ble_eq_true rfl, Nat.le_of_ble_eq_true rfl⟩ [] [0, 1, 2, 3, 4, 5] rfl rfl (by decide) rfl rfl (fun r_3 u_3 H locs w_3 h_3 => ?_)
  clear h_1
  obtain ⟨wr_3, y3_0, _⟩ := w_3
  have lq_3_1 : (0 : Int64).toInt = 0 := (by decide)
  have lq_3_2 : (1 : Int64).toInt = 1 := (by decide)
  replace h_3 : qW D _ _ (wk_eecab3214 cy h0 0 h1 w0 w1 w2 p3 p4 p5 p6 p7 p8 p9 p10 p11 p12 p13 h2 h3 w3 h4 w4 p14 p15 h5 w5 w6 p16 p17 w7 w8 w9 w10 w11 p18 w12 w13 w14 h1 f0 h2 f1 h3 f2 h4 f3 h5 f4) _ _ := h_3
  refine lv_if_ne (tgt := 18) hx hb dX12_passed_12 (by decide) (fun c_4 => ?_) (fun c_4 => ?_)
  · replace c_4 := i_ne (x := r_3) (y := 0) rfl (show (0 : Int32).toInt = 0 by decide) c_4
    replace y3_0 := a10_1 y3_0 c_4
    refine lv_iload_n hx hb dX12_passed_18 rfl (lv_at hl 1 rfl) ?_
    refine q_callSi (rest := []) (wr := (wk_eecab3214 cy h0 0 h1 w0 w1 w2 p3 p4 p5 p6 p7 p8 p9 p10 p11 p12 p13 h2 h3 w3 h4 w4 p14 p15 h5 w5 w6 p16 p17 w7 w8 w9 w10 w11 p18 w12 w13 w14 h1 f0 h2 f1 h3 f2 h4 f3 h5 f4)) X hK hT hA h_3 (fun sz => gX12_isBill_0f4990c l D cy p0 (i_rng _) sz) wm_7_192 wm_7_194 wm_1_12 hd_X12_isBill wm_7_193 ⟨Nat.le_of_ble_eq_true rfl, Nat.le_of_ble_eq_true rfl⟩ hl.1 rfl (Nat.le_of_ble_eq_true rfl) dX12_passed_19 ⟨Nat.le_of_ble_eq_true rfl, Nat.le_of_ble_eq_true rfl⟩ [] [0, 1, 2, 3, 4, 5] rfl rfl (by decide) rfl rfl (fun r_5 u_5 H locs w_5 h_5 => ?_)
    clear h_3
    obtain ⟨wr_5, _⟩ := w_5
    replace h_5 : qW D _ _ (wk_eecab3214 cy h0 0 h1 w0 w1 w2 p3 p4 p5 p6 p7 p8 p9 p10 p11 p12 p13 h2 h3 w3 h4 w4 p14 p15 h5 w5 w6 p16 p17 w7 w8 w9 w10 w11 p18 w12 w13 w14 h1 f0 h2 f1 h3 f2 h4 f3 h5 f4) _ _ := h_5
    refine lv_if_ne (tgt := 28) hx hb dX12_passed_22 (by decide) (fun c_6 => ?_) (fun c_6 => ?_)
    · replace c_6 := i_ne (x := r_5) (y := 0) rfl (show (0 : Int32).toInt = 0 by decide) c_6
      refine lv_aload_n hx hb dX12_passed_28 rfl (lv_at hl 0 rfl) ?_
      refine q_callVv (rest := []) (wr := []) X hK hT hA h_5 (fun sz => gX12_laysNow_7e7bd2c l D cy h0 h1 h2 h3 h4 h5 (0 : Int32) w0 w1 w2 p3 p4 p5 p6 p7 p8 p9 p10 p11 p12 p13 w3 w4 p14 p15 w5 w6 p16 p17 w7 w8 w9 w10 w11 p18 w12 w13 w14 f0 p19 f1 f2 f3 f4 ⟨by decide +kernel, by decide +kernel⟩ hp3 hp4 hp5 hp6 (i_rng _) hp8 (i_rng _) (i_rng _) (i_rng _) (i_rng _) (i_rng _) (i_rng _) (i_rng _) (i_rng _) (i_rng _) (i_rng _) hp19 htf0_84 rf0 (rg_wide rf3 (by decide) (by decide)) sz) wm_7_55 wm_7_58 wm_1_12 hd_X12_laysNow wm_7_57 wp_6_11 (ci := 12) (q0 := 0) rfl rfl ⟨Nat.le_of_ble_eq_true rfl, Nat.le_of_ble_eq_true rfl⟩ hl.1 rfl (Nat.le_of_ble_eq_true rfl) dX12_passed_29 ⟨Nat.le_of_ble_eq_true rfl, Nat.le_of_ble_eq_true rfl⟩ [0, 1, 2, 3, 4, 5] [] rfl rfl (by decide) rfl rfl (fun u_7 H locs w_7 h_7 => ?_)
      clear h_5
      obtain ⟨w7_0, _⟩ := w_7
      replace h_7 : qW D _ _ (wk_eecab3214 cy h0 0 h1 w0 w1 w2 p3 p4 p5 p6 p7 p8 p9 p10 p11 p12 p13 h2 h3 w3 h4 w4 p14 p15 h5 w5 w6 p16 p17 w7 w8 w9 w10 w11 p18 w12 w13 w14 h1 f0 h2 (u_7.2.1 0) h3 (u_7.2.1 1) h4 (u_7.2.1 2) h5 (u_7.2.1 3)) _ _ := h_7
      refine lv_aload_n hx hb dX12_passed_32 rfl (lv_at hl 0 rfl) ?_
      refine lv_iload_n hx hb dX12_passed_33 rfl (lv_at hl 1 rfl) ?_
      refine q_callVi (rest := []) (wr := [(h4, .inl (cy 1, 10, .inl (u_7.2.1 2)))]) X hK hT hA h_7 (fun sz => gX12_passedBy_5e223a1 l D cy h0 h1 h2 h3 h5 p0 (0 : Int32) w0 w1 w2 p3 p4 p5 p6 p7 p8 p9 p10 p11 p12 p13 w3 (.ref h4) w4 p14 p15 w5 w6 p16 p17 w7 w8 w9 w10 w11 p18 w12 w13 w14 f0 p19 (u_7.2.1 0) (u_7.2.1 1) (u_7.2.1 3) (i_rng _) ⟨by decide +kernel, by decide +kernel⟩ hp3 hp4 hp5 hp6 (i_rng _) hp8 (i_rng _) (i_rng _) (i_rng _) (i_rng _) (i_rng _) (i_rng _) (i_rng _) (i_rng _) (i_rng _) (i_rng _) hp19 htf0_84 rf0 sz) wm_7_207 wm_7_210 wm_1_12 hd_X12_passedBy wm_7_209 wp_7_14 (ci := 12) (q0 := 0) rfl rfl ⟨Nat.le_of_ble_eq_true rfl, Nat.le_of_ble_eq_true rfl⟩ hl.1 rfl (Nat.le_of_ble_eq_true rfl) dX12_passed_34 ⟨Nat.le_of_ble_eq_true rfl, Nat.le_of_ble_eq_true rfl⟩ [0, 1, 2, 3, 5] [4] rfl rfl (by decide) rfl rfl (fun r_8 u_8 H locs w_8 h_8 => ?_)
      clear h_7
      obtain ⟨wr_8, _⟩ := w_8
      replace h_8 : qW D _ _ (wk_41836cb4f cy h4 (u_7.2.1 2) h0 0 h1 w0 w1 w2 p3 p4 p5 p6 p7 p8 p9 p10 p11 p12 p13 h2 h3 w3 h4 w4 p14 p15 h5 w5 w6 p16 p17 w7 w8 w9 w10 w11 p18 w12 w13 w14 h1 f0 h2 (u_8.2.1 0) h3 (u_8.2.1 1) h5 (u_7.2.1 3)) _ _ := h_8
      refine lv_istore_n (lv' := [(3, .int r_8), (0, .ref h0), (1, .int p0), (2, .int p1)]) hx hb dX12_passed_37 rfl hl (by decide) rfl (fun ls_9 hl_9 => ?_)
      clear hl
      refine lv_iload_n hx hb dX12_passed_38 rfl (lv_at hl_9 0 rfl) ?_
      refine lv_iconst (v := (-1)) hx hb dX12_passed_39 (by decide) ?_
      refine q_jn (pc2 := 56) (fun H locs ls st => ∃ v56_10_0 : Int32, ((-1) ≤ (v56_10_0).toInt ∧ (v56_10_0).toInt ≤ 1023) ∧ st = [.int v56_10_0] ∧ qW D (va_A (wk_eecab3214 cy h0 p2 h1 w0 w1 w2 p3 p4 p5 p6 p7 p8 p9 p10 p11 p12 p13 h2 h3 w3 h4 w4 p14 p15 h5 w5 w6 p16 p17 w7 w8 w9 w10 w11 p18 w12 w13 w14 h1 f0 h2 f1 h3 f2 h4 f3 h5 f4) sz) s.heap (wk_41836cb4f cy h4 (u_7.2.1 2) h0 0 h1 w0 w1 w2 p3 p4 p5 p6 p7 p8 p9 p10 p11 p12 p13 h2 h3 w3 h4 w4 p14 p15 h5 w5 w6 p16 p17 w7 w8 w9 w10 w11 p18 w12 w13 w14 h1 f0 h2 (u_8.2.1 0) h3 (u_8.2.1 1) h5 (u_7.2.1 3)) H locs ∧ lv_has ls 4 [(0, .ref h0), (1, .int p0), (2, .int p1), (3, .int r_8)]) (fun H locs ls st hP => ?_) (fun J_56 => ?_)
      · obtain ⟨v56_10_0, hv56_10_0, rfl, h, hl⟩ := hP
        exact q_iret X hr hlk hK h rfl (fun _ => 0, (vcons (u_7.2.1 2) (vcons (fun _ => 0) (vcons (u_8.2.1 0) (vcons (u_8.2.1 1) (vcons (u_7.2.1 3) (fun _ => (fun _ => 0))))))), fun _ _ => 0) ⟨(bw hv56_10_0 (by decide) (by decide)), (rg_wide w7_0 (by decide) (by decide)), (⟨by decide +kernel, by decide +kernel⟩ : 0 ≤ (0 : Int32).toInt ∧ (0 : Int32).toInt ≤ 0), trivial⟩ [1, 2, 3, 4, 0, 5] rfl rfl dX12_passed_56 (Nat.le_of_ble_eq_true rfl) (Nat.le_of_ble_eq_true rfl)
      · skip
        refine q_jn (pc2 := 48) (fun H locs ls st => st = [] ∧ qW D (va_A (wk_eecab3214 cy h0 p2 h1 w0 w1 w2 p3 p4 p5 p6 p7 p8 p9 p10 p11 p12 p13 h2 h3 w3 h4 w4 p14 p15 h5 w5 w6 p16 p17 w7 w8 w9 w10 w11 p18 w12 w13 w14 h1 f0 h2 f1 h3 f2 h4 f3 h5 f4) sz) s.heap (wk_41836cb4f cy h4 (u_7.2.1 2) h0 0 h1 w0 w1 w2 p3 p4 p5 p6 p7 p8 p9 p10 p11 p12 p13 h2 h3 w3 h4 w4 p14 p15 h5 w5 w6 p16 p17 w7 w8 w9 w10 w11 p18 w12 w13 w14 h1 f0 h2 (u_8.2.1 0) h3 (u_8.2.1 1) h5 (u_7.2.1 3)) H locs ∧ lv_has ls 4 [(0, .ref h0), (1, .int p0), (2, .int p1), (3, .int r_8)]) (fun H locs ls st hP => ?_) (fun J_48 => ?_)
        · obtain ⟨rfl, h, hl⟩ := hP
          refine lv_iload_n hx hb dX12_passed_48 rfl (lv_at hl 3 rfl) ?_
          refine lv_goto (tgt := 56) hx hb dX12_passed_49 (by decide) ?_
          exact J_56 _ _ _ _ ⟨r_8, wr_8, rfl, h, (lv_sub hl [0, 1, 2, 3] rfl)⟩
        · skip
          refine lv_icmp_eq (tgt := 48) hx hb dX12_passed_40 (by decide) (fun c_12 => ?_) (fun c_12 => ?_)
          · replace c_12 := i_eq (x := r_8) (y := (-1)) rfl (show ((-1) : Int32).toInt = -1 by decide) c_12
            exact J_48 _ _ _ _ ⟨rfl, h_8, (lv_sub hl_9 [1, 2, 3, 0] rfl)⟩
          · replace c_12 := i_ne (x := r_8) (y := (-1)) rfl (show ((-1) : Int32).toInt = -1 by decide) c_12
            refine lv_iload_n hx hb dX12_passed_43 rfl (lv_at hl_9 3 rfl) ?_
            refine lv_iconst (v := 1) hx hb dX12_passed_44 (by decide) ?_
            refine lv_icmp_ne (tgt := 52) hx hb dX12_passed_45 (by decide) (fun c_13 => ?_) (fun c_13 => ?_)
            · replace c_13 := i_ne (x := p1) (y := 1) rfl (show (1 : Int32).toInt = 1 by decide) c_13
              refine lv_iload_n hx hb dX12_passed_52 rfl (lv_at hl_9 0 rfl) ?_
              refine q_callSi (rest := []) (wr := (wk_41836cb4f cy h4 (u_7.2.1 2) h0 0 h1 w0 w1 w2 p3 p4 p5 p6 p7 p8 p9 p10 p11 p12 p13 h2 h3 w3 h4 w4 p14 p15 h5 w5 w6 p16 p17 w7 w8 w9 w10 w11 p18 w12 w13 w14 h1 f0 h2 (u_8.2.1 0) h3 (u_8.2.1 1) h5 (u_7.2.1 3))) X hK hT hA h_8 (fun sz => gX12_bitsOf_5a43b1c l D cy r_8 (i_rng _) sz) wm_7_8 wm_7_10 wm_1_12 hd_X12_bitsOf wm_7_9 ⟨Nat.le_of_ble_eq_true rfl, Nat.le_of_ble_eq_true rfl⟩ hl_9.1 rfl (Nat.le_of_ble_eq_true rfl) dX12_passed_53 ⟨Nat.le_of_ble_eq_true rfl, Nat.le_of_ble_eq_true rfl⟩ [] [0, 1, 2, 3, 4, 5] rfl rfl (by decide) rfl rfl (fun r_14 u_14 H locs w_14 h_14 => ?_)
              clear h_8
              obtain ⟨wr_14, _⟩ := w_14
              replace h_14 : qW D _ _ (wk_41836cb4f cy h4 (u_7.2.1 2) h0 0 h1 w0 w1 w2 p3 p4 p5 p6 p7 p8 p9 p10 p11 p12 p13 h2 h3 w3 h4 w4 p14 p15 h5 w5 w6 p16 p17 w7 w8 w9 w10 w11 p18 w12 w13 w14 h1 f0 h2 (u_8.2.1 0) h3 (u_8.2.1 1) h5 (u_7.2.1 3)) _ _ := h_14
              exact J_56 _ _ _ _ ⟨r_14, (bw wr_14 (by decide) (by decide)), rfl, h_14, (lv_sub hl_9 [1, 2, 3, 0] rfl)⟩
            · replace c_13 := i_eq (x := p1) (y := 1) rfl (show (1 : Int32).toInt = 1 by decide) c_13
              exact J_48 _ _ _ _ ⟨rfl, h_8, (lv_sub hl_9 [1, 2, 3, 0] rfl)⟩
    · replace c_6 := i_eq (x := r_5) (y := 0) rfl (show (0 : Int32).toInt = 0 by decide) c_6
      refine lv_bipush (v := (-3)) hx hb dX12_passed_25 (by decide) ?_
      exact q_iret X hr hlk hK h_5 rfl (fun _ => 0, (vcons f3 (vcons (fun _ => 0) (vcons f1 (vcons f2 (vcons f4 (fun _ => (fun _ => 0))))))), fun _ _ => 0) ⟨⟨by decide +kernel, by decide +kernel⟩, (rg_wide rf3 (by decide) (by decide)), (⟨by decide +kernel, by decide +kernel⟩ : 0 ≤ (0 : Int32).toInt ∧ (0 : Int32).toInt ≤ 0), trivial⟩ [0, 1, 2, 3, 4, 5] rfl rfl dX12_passed_27 (Nat.le_of_ble_eq_true rfl) (Nat.le_of_ble_eq_true rfl)
  · replace c_4 := i_eq (x := r_3) (y := 0) rfl (show (0 : Int32).toInt = 0 by decide) c_4
    replace y3_0 := a10_0 y3_0 c_4
    refine lv_bipush (v := (-2)) hx hb dX12_passed_15 (by decide) ?_
    exact q_iret X hr hlk hK h_3 rfl (fun _ => 0, (vcons f3 (vcons (fun _ => 0) (vcons f1 (vcons f2 (vcons f4 (fun _ => (fun _ => 0))))))), fun _ _ => 0) ⟨⟨by decide +kernel, by decide +kernel⟩, (rg_wide rf3 (by decide) (by decide)), (⟨by decide +kernel, by decide +kernel⟩ : 0 ≤ (0 : Int32).toInt ∧ (0 : Int32).toInt ≤ 0), trivial⟩ [0, 1, 2, 3, 4, 5] rfl rfl dX12_passed_17 (Nat.le_of_ble_eq_true rfl) (Nat.le_of_ble_eq_true rfl)
set_option maxHeartbeats 4000000 in
set_option maxRecDepth 100000 in
theorem gX12_easiest_2bd016c (l : Launch) (D : va_G) (cy : Nat → ClassId) (h0 : Nat) (h1 : Nat) (h2 : Nat) (h3 : Nat) (h4 : Nat) (h5 : Nat) (p0 : Int32) (w0 : Value) (w1 : Value) (w2 : Value) (p1 : Int32) (p2 : Int32) (p3 : Int32) (p4 : Int32) (p5 : Int32) (p6 : Int32) (p7 : Int32) (p8 : Int32) (p9 : Int32) (p10 : Int32) (p11 : Int32) (w3 : Value) (w4 : Value) (p12 : Int32) (p13 : Int32) (w5 : Value) (w6 : Value) (p14 : Int32) (p15 : Int32) (w7 : Value) (w8 : Value) (w9 : Value) (w10 : Value) (w11 : Value) (p16 : Int32) (w12 : Value) (w13 : Value) (w14 : Value) (f0 : Nat → Int32) (p17 : Int32) (f1 : Nat → Int32) (f2 : Nat → Int32) (f3 : Nat → Int32) (f4 : Nat → Int32) (hp0 : (-2147483648) ≤ (p0).toInt ∧ (p0).toInt ≤ 2147483647) (hp1 : 0 ≤ (p1).toInt ∧ (p1).toInt ≤ 900) (hp2 : 0 ≤ (p2).toInt ∧ (p2).toInt ≤ 900) (hp3 : 0 ≤ (p3).toInt ∧ (p3).toInt ≤ 900) (hp4 : 0 ≤ (p4).toInt ∧ (p4).toInt ≤ 900) (hp5 : (-2147483648) ≤ (p5).toInt ∧ (p5).toInt ≤ 2147483647) (hp6 : 0 ≤ (p6).toInt ∧ (p6).toInt ≤ 999) (hp7 : (-2147483648) ≤ (p7).toInt ∧ (p7).toInt ≤ 2147483647) (hp8 : (-2147483648) ≤ (p8).toInt ∧ (p8).toInt ≤ 2147483647) (hp9 : (-2147483648) ≤ (p9).toInt ∧ (p9).toInt ≤ 2147483647) (hp10 : (-2147483648) ≤ (p10).toInt ∧ (p10).toInt ≤ 2147483647) (hp11 : (-2147483648) ≤ (p11).toInt ∧ (p11).toInt ≤ 2147483647) (hp12 : (-2147483648) ≤ (p12).toInt ∧ (p12).toInt ≤ 2147483647) (hp13 : (-2147483648) ≤ (p13).toInt ∧ (p13).toInt ≤ 2147483647) (hp14 : (-2147483648) ≤ (p14).toInt ∧ (p14).toInt ≤ 2147483647) (hp15 : (-2147483648) ≤ (p15).toInt ∧ (p15).toInt ≤ 2147483647) (hp16 : (-2147483648) ≤ (p16).toInt ∧ (p16).toInt ≤ 2147483647) (hp17 : 0 ≤ (p17).toInt ∧ (p17).toInt ≤ 10) (htf0_84 : f0 84 = p17) (rf0 : AL f0) (rf3 : RG f3 10 0 1023) (sz : Nat) : MI l yX12_easiest cX12_easiest 5 .int { frames := 5, cells := 0, slots := 0, locals := 120 } [.ref h0] D cy (wk_eecab3214 cy h0 p0 h1 w0 w1 w2 p1 p2 p3 p4 p5 p6 p7 p8 p9 p10 p11 h2 h3 w3 h4 w4 p12 p13 h5 w5 w6 p14 p15 w7 w8 w9 w10 w11 p16 w12 w13 w14 h1 f0 h2 f1 h3 f2 h4 f3 h5 f4) sz (fun r u => ((-1) ≤ r.toInt ∧ r.toInt ≤ 9) ∧ (0 ≤ (u.2.1 0 0).toInt ∧ (u.2.1 0 0).toInt ≤ 0) ∧ RG (u.2.1 3) 10 0 1023 ∧ True) (fun u => (wk_eecab3214 cy h0 (u.2.1 0 0) h1 w0 w1 w2 p1 p2 p3 p4 p5 p6 p7 p8 p9 p10 p11 h2 h3 w3 h4 w4 p12 p13 h5 w5 w6 p14 p15 w7 w8 w9 w10 w11 p16 w12 w13 w14 h1 f0 h2 (u.2.1 1) h3 (u.2.1 2) h4 (u.2.1 3) h5 (u.2.1 4))) 0 0 := by
  refine q_ent (own := RX12) (by decide) rfl (Nat.le_of_ble_eq_true rfl) (fun p e s m below meth c ls X hr hlk hnm hK hT h hA hl => ?_)
  obtain ⟨hx, hb, hml, hown, ht⟩ := id X
  replace hl : lv_has ls 5 [(0, .ref h0)] := hl
  refine lv_aload_n hx hb dX12_easiest_0 rfl (lv_at hl 0 rfl) ?_
  refine lv_iconst (v := 0) hx hb dX12_easiest_1 (by decide) ?_
  refine q_put (v := .int 0) X hK h 0 rfl rfl wf_12 tyX12 tyX12_ok nmX12 0 (by decide) wm_5_170 rfl rfl rfl (Nat.le_of_ble_eq_true rfl) dX12_easiest_2 (fun H locs h_1 => ?_)
  clear h
  replace h_1 : qW D _ _ (wk_eecab3214 cy h0 0 h1 w0 w1 w2 p1 p2 p3 p4 p5 p6 p7 p8 p9 p10 p11 h2 h3 w3 h4 w4 p12 p13 h5 w5 w6 p14 p15 w7 w8 w9 w10 w11 p16 w12 w13 w14 h1 f0 h2 f1 h3 f2 h4 f3 h5 f4) _ _ := h_1
  refine lv_aload_n hx hb dX12_easiest_5 rfl (lv_at hl 0 rfl) ?_
  refine q_callVv (rest := []) (wr := []) X hK hT hA h_1 (fun sz => gX12_laysNow_7e7bd2c l D cy h0 h1 h2 h3 h4 h5 (0 : Int32) w0 w1 w2 p1 p2 p3 p4 p5 p6 p7 p8 p9 p10 p11 w3 w4 p12 p13 w5 w6 p14 p15 w7 w8 w9 w10 w11 p16 w12 w13 w14 f0 p17 f1 f2 f3 f4 ⟨by decide +kernel, by decide +kernel⟩ hp1 hp2 hp3 hp4 (i_rng _) hp6 (i_rng _) (i_rng _) (i_rng _) (i_rng _) (i_rng _) (i_rng _) (i_rng _) (i_rng _) (i_rng _) (i_rng _) hp17 htf0_84 rf0 (rg_wide rf3 (by decide) (by decide)) sz) wm_7_55 wm_7_58 wm_1_12 hd_X12_laysNow wm_7_57 wp_6_11 (ci := 12) (q0 := 0) rfl rfl ⟨Nat.le_of_ble_eq_true rfl, Nat.le_of_ble_eq_true rfl⟩ hl.1 rfl (Nat.le_of_ble_eq_true rfl) dX12_easiest_6 ⟨Nat.le_of_ble_eq_true rfl, Nat.le_of_ble_eq_true rfl⟩ [0, 1, 2, 3, 4, 5] [] rfl rfl (by decide) rfl rfl (fun u_2 H locs w_2 h_2 => ?_)
  clear h_1
  obtain ⟨w2_0, _⟩ := w_2
  replace h_2 : qW D _ _ (wk_eecab3214 cy h0 0 h1 w0 w1 w2 p1 p2 p3 p4 p5 p6 p7 p8 p9 p10 p11 h2 h3 w3 h4 w4 p12 p13 h5 w5 w6 p14 p15 w7 w8 w9 w10 w11 p16 w12 w13 w14 h1 f0 h2 (u_2.2.1 0) h3 (u_2.2.1 1) h4 (u_2.2.1 2) h5 (u_2.2.1 3)) _ _ := h_2
  refine lv_iconst (v := (-1)) hx hb dX12_easiest_9 (by decide) ?_
  refine lv_istore_n (lv' := [(1, .int (-1)), (0, .ref h0)]) hx hb dX12_easiest_10 rfl hl (by decide) rfl (fun ls_3 hl_3 => ?_)
  clear hl
  refine lv_bipush (v := 11) hx hb dX12_easiest_11 (by decide) ?_
  refine lv_istore_n (lv' := [(2, .int 11), (1, .int (-1)), (0, .ref h0)]) hx hb dX12_easiest_13 rfl hl_3 (by decide) rfl (fun ls_4 hl_4 => ?_)
  clear hl_3
  refine lv_iconst (v := 0) hx hb dX12_easiest_14 (by decide) ?_
  refine lv_istore_n (lv' := [(3, .int 0), (2, .int 11), (1, .int (-1)), (0, .ref h0)]) hx hb dX12_easiest_15 rfl hl_4 (by decide) rfl (fun ls_5 hl_5 => ?_)
  clear hl_4
  refine q_wl (fun (q : Int32 × Int32 × Int32) H locs ls => match q with | (v16_6_0, v16_6_1, v16_6_2) => ∃ v16_6_3 : Nat → Int32, ∃ v16_6_4 : Nat → Int32, (0 ≤ (v16_6_0).toInt ∧ (v16_6_0).toInt ≤ 10) ∧ ((-1) ≤ (v16_6_1).toInt ∧ (v16_6_1).toInt ≤ 9) ∧ (0 ≤ (v16_6_2).toInt ∧ (v16_6_2).toInt ≤ 11) ∧ qW D (va_A (wk_eecab3214 cy h0 p0 h1 w0 w1 w2 p1 p2 p3 p4 p5 p6 p7 p8 p9 p10 p11 h2 h3 w3 h4 w4 p12 p13 h5 w5 w6 p14 p15 w7 w8 w9 w10 w11 p16 w12 w13 w14 h1 f0 h2 f1 h3 f2 h4 f3 h5 f4) sz) s.heap (wk_eecab3214 cy h0 0 h1 w0 w1 w2 p1 p2 p3 p4 p5 p6 p7 p8 p9 p10 p11 h2 h3 w3 h4 w4 p12 p13 h5 w5 w6 p14 p15 w7 w8 w9 w10 w11 p16 w12 w13 w14 h1 f0 h2 v16_6_3 h3 v16_6_4 h4 (u_2.2.1 2) h5 (u_2.2.1 3)) H locs ∧ lv_has ls 5 [(0, .ref h0), (1, .int v16_6_1), (2, .int v16_6_2), (3, .int v16_6_0)]) (fun (q : Int32 × Int32 × Int32) => match q with | (v16_6_0, v16_6_1, v16_6_2) => (11 - (v16_6_0).toInt).toNat) (fun q_16 ih_16 H locs ls hP => ?_) (0, (-1), 11) ⟨(u_2.2.1 0), (u_2.2.1 1), ⟨by decide +kernel, by decide +kernel⟩, ⟨by decide +kernel, by decide +kernel⟩, ⟨by decide +kernel, by decide +kernel⟩, h_2, (lv_sub hl_5 [3, 2, 1, 0] rfl)⟩
  obtain ⟨v16_6_0, v16_6_1, v16_6_2⟩ := q_16
  obtain ⟨v16_6_3, v16_6_4, hv16_6_0, hv16_6_1, hv16_6_2, h, hl⟩ := hP
  refine lv_iload_n hx hb dX12_easiest_16 rfl (lv_at hl 3 rfl) ?_
  refine lv_bipush (v := 10) hx hb dX12_easiest_17 (by decide) ?_
  refine lv_icmp_ge (tgt := 61) hx hb dX12_easiest_19 (by decide) (fun c_7 => ?_) (fun c_7 => ?_)
  · replace c_7 := i_le (x := 10) (y := v16_6_0) (show (10 : Int32).toInt = 10 by decide) rfl c_7
    refine lv_iload_n hx hb dX12_easiest_61 rfl (lv_at hl 1 rfl) ?_
    exact q_iret X hr hlk hK h rfl (fun _ => 0, (vcons (fun _ => 0) (vcons v16_6_3 (vcons v16_6_4 (vcons (u_2.2.1 2) (vcons (u_2.2.1 3) (fun _ => (fun _ => 0))))))), fun _ _ => 0) ⟨hv16_6_1, (⟨by decide +kernel, by decide +kernel⟩ : 0 ≤ (0 : Int32).toInt ∧ (0 : Int32).toInt ≤ 0), (rg_wide w2_0 (by decide) (by decide)), trivial⟩ [0, 1, 2, 3, 4, 5] rfl rfl dX12_easiest_62 (Nat.le_of_ble_eq_true rfl) (Nat.le_of_ble_eq_true rfl)
  · replace c_7 := i_nle (x := 10) (y := v16_6_0) (show (10 : Int32).toInt = 10 by decide) rfl c_7
    refine lv_aload_n hx hb dX12_easiest_22 rfl (lv_at hl 0 rfl) ?_
    refine lv_iload_n hx hb dX12_easiest_23 rfl (lv_at hl 3 rfl) ?_
    refine q_callVi (rest := []) (wr := [(h4, .inl (cy 1, 10, .inl (u_2.2.1 2)))]) X hK hT hA h (fun sz => gX12_passedBy_5e223a1 l D cy h0 h1 h2 h3 h5 v16_6_0 (0 : Int32) w0 w1 w2 p1 p2 p3 p4 p5 p6 p7 p8 p9 p10 p11 w3 (.ref h4) w4 p12 p13 w5 w6 p14 p15 w7 w8 w9 w10 w11 p16 w12 w13 w14 f0 p17 v16_6_3 v16_6_4 (u_2.2.1 3) (i_rng _) ⟨by decide +kernel, by decide +kernel⟩ hp1 hp2 hp3 hp4 (i_rng _) hp6 (i_rng _) (i_rng _) (i_rng _) (i_rng _) (i_rng _) (i_rng _) (i_rng _) (i_rng _) (i_rng _) (i_rng _) hp17 htf0_84 rf0 sz) wm_7_207 wm_7_210 wm_1_12 hd_X12_passedBy wm_7_209 wp_7_14 (ci := 12) (q0 := 0) rfl rfl ⟨Nat.le_of_ble_eq_true rfl, Nat.le_of_ble_eq_true rfl⟩ hl.1 rfl (Nat.le_of_ble_eq_true rfl) dX12_easiest_24 ⟨Nat.le_of_ble_eq_true rfl, Nat.le_of_ble_eq_true rfl⟩ [0, 1, 2, 3, 5] [4] rfl rfl (by decide) rfl rfl (fun r_8 u_8 H locs w_8 h_8 => ?_)
    clear h
    obtain ⟨wr_8, _⟩ := w_8
    replace h_8 : qW D _ _ (wk_41836cb4f cy h4 (u_2.2.1 2) h0 0 h1 w0 w1 w2 p1 p2 p3 p4 p5 p6 p7 p8 p9 p10 p11 h2 h3 w3 h4 w4 p12 p13 h5 w5 w6 p14 p15 w7 w8 w9 w10 w11 p16 w12 w13 w14 h1 f0 h2 (u_8.2.1 0) h3 (u_8.2.1 1) h5 (u_2.2.1 3)) _ _ := h_8
    refine lv_istore (lv' := [(4, .int r_8), (0, .ref h0), (1, .int v16_6_1), (2, .int v16_6_2), (3, .int v16_6_0)]) hx hb dX12_easiest_27 hl (by decide) rfl (fun ls_9 hl_9 => ?_)
    clear hl
    refine lv_iload hx hb dX12_easiest_29 (lv_at hl_9 0 rfl) ?_
    refine lv_iconst (v := (-1)) hx hb dX12_easiest_31 (by decide) ?_
    refine q_jn (pc2 := 55) (fun H locs ls st => ∃ v55_10_0 : Int32, ∃ v55_10_1 : Int32, (0 ≤ (v55_10_0).toInt ∧ (v55_10_0).toInt ≤ 11) ∧ ((-1) ≤ (v55_10_1).toInt ∧ (v55_10_1).toInt ≤ 9) ∧ st = [] ∧ qW D (va_A (wk_eecab3214 cy h0 p0 h1 w0 w1 w2 p1 p2 p3 p4 p5 p6 p7 p8 p9 p10 p11 h2 h3 w3 h4 w4 p12 p13 h5 w5 w6 p14 p15 w7 w8 w9 w10 w11 p16 w12 w13 w14 h1 f0 h2 f1 h3 f2 h4 f3 h5 f4) sz) s.heap (wk_41836cb4f cy h4 (u_2.2.1 2) h0 0 h1 w0 w1 w2 p1 p2 p3 p4 p5 p6 p7 p8 p9 p10 p11 h2 h3 w3 h4 w4 p12 p13 h5 w5 w6 p14 p15 w7 w8 w9 w10 w11 p16 w12 w13 w14 h1 f0 h2 (u_8.2.1 0) h3 (u_8.2.1 1) h5 (u_2.2.1 3)) H locs ∧ lv_has ls 5 [(0, .ref h0), (1, .int v55_10_1), (2, .int v55_10_0), (3, .int v16_6_0), (4, .int r_8)]) (fun H locs ls st hP => ?_) (fun J_55 => ?_)
    · obtain ⟨v55_10_0, v55_10_1, hv55_10_0, hv55_10_1, rfl, h, hl⟩ := hP
      obtain ⟨z_11, ez_11, hz_11⟩ := e_add (x := v16_6_0) (y := Int32.ofInt 1) rfl (b := 1) (by decide) (by omega) (by omega)
      refine lv_iinc (v := z_11) (lv' := [(3, .int z_11), (0, .ref h0), (1, .int v55_10_1), (2, .int v55_10_0), (4, .int r_8)]) hx hb dX12_easiest_55 hl (k := 3) rfl ez_11 (by decide) rfl (fun ls_11 hl_11 => ?_)
      clear hl
      refine lv_goto (tgt := 16) hx hb dX12_easiest_58 (by decide) ?_
      exact ih_16 (z_11, v55_10_1, v55_10_0) (by show (11 - (z_11).toInt).toNat < (11 - (v16_6_0).toInt).toNat; omega) _ _ _ ⟨(u_8.2.1 0), (u_8.2.1 1), ⟨by omega, by omega⟩, hv55_10_1, hv55_10_0, (q_re h [1, 2, 3, 4, 0, 5] rfl rfl), (lv_sub hl_11 [1, 2, 3, 0] rfl)⟩
    · skip
      refine lv_icmp_eq (tgt := 55) hx hb dX12_easiest_32 (by decide) (fun c_12 => ?_) (fun c_12 => ?_)
      · replace c_12 := i_eq (x := r_8) (y := (-1)) rfl (show ((-1) : Int32).toInt = -1 by decide) c_12
        exact J_55 _ _ _ _ ⟨v16_6_2, v16_6_1, hv16_6_2, hv16_6_1, rfl, h_8, (lv_sub hl_9 [1, 2, 3, 4, 0] rfl)⟩
      · replace c_12 := i_ne (x := r_8) (y := (-1)) rfl (show ((-1) : Int32).toInt = -1 by decide) c_12
        refine lv_iload hx hb dX12_easiest_35 (lv_at hl_9 0 rfl) ?_
        refine q_callSi (rest := []) (wr := (wk_41836cb4f cy h4 (u_2.2.1 2) h0 0 h1 w0 w1 w2 p1 p2 p3 p4 p5 p6 p7 p8 p9 p10 p11 h2 h3 w3 h4 w4 p12 p13 h5 w5 w6 p14 p15 w7 w8 w9 w10 w11 p16 w12 w13 w14 h1 f0 h2 (u_8.2.1 0) h3 (u_8.2.1 1) h5 (u_2.2.1 3))) X hK hT hA h_8 (fun sz => gX12_bitsOf_5a43b1c l D cy r_8 (i_rng _) sz) wm_7_8 wm_7_10 wm_1_12 hd_X12_bitsOf wm_7_9 ⟨Nat.le_of_ble_eq_true rfl, Nat.le_of_ble_eq_true rfl⟩ hl_9.1 rfl (Nat.le_of_ble_eq_true rfl) dX12_easiest_37 ⟨Nat.le_of_ble_eq_true rfl, Nat.le_of_ble_eq_true rfl⟩ [] [0, 1, 2, 3, 4, 5] rfl rfl (by decide) rfl rfl (fun r_13 u_13 H locs w_13 h_13 => ?_)
        clear h_8
        obtain ⟨wr_13, _⟩ := w_13
        replace h_13 : qW D _ _ (wk_41836cb4f cy h4 (u_2.2.1 2) h0 0 h1 w0 w1 w2 p1 p2 p3 p4 p5 p6 p7 p8 p9 p10 p11 h2 h3 w3 h4 w4 p12 p13 h5 w5 w6 p14 p15 w7 w8 w9 w10 w11 p16 w12 w13 w14 h1 f0 h2 (u_8.2.1 0) h3 (u_8.2.1 1) h5 (u_2.2.1 3)) _ _ := h_13
        refine lv_iload_n hx hb dX12_easiest_40 rfl (lv_at hl_9 3 rfl) ?_
        refine lv_icmp_lt (tgt := 47) hx hb dX12_easiest_41 (by decide) (fun c_14 => ?_) (fun c_14 => ?_)
        · replace c_14 := i_lt (x := r_13) (y := v16_6_2) rfl rfl c_14
          refine lv_iload_n hx hb dX12_easiest_47 rfl (lv_at hl_9 4 rfl) ?_
          refine lv_istore_n (lv' := [(1, .int v16_6_0), (4, .int r_8), (0, .ref h0), (2, .int v16_6_2), (3, .int v16_6_0)]) hx hb dX12_easiest_48 rfl hl_9 (by decide) rfl (fun ls_15 hl_15 => ?_)
          clear hl_9
          refine lv_iload hx hb dX12_easiest_49 (lv_at hl_15 1 rfl) ?_
          refine q_callSi (rest := []) (wr := (wk_41836cb4f cy h4 (u_2.2.1 2) h0 0 h1 w0 w1 w2 p1 p2 p3 p4 p5 p6 p7 p8 p9 p10 p11 h2 h3 w3 h4 w4 p12 p13 h5 w5 w6 p14 p15 w7 w8 w9 w10 w11 p16 w12 w13 w14 h1 f0 h2 (u_8.2.1 0) h3 (u_8.2.1 1) h5 (u_2.2.1 3))) X hK hT hA h_13 (fun sz => gX12_bitsOf_5a43b1c l D cy r_8 (i_rng _) sz) wm_7_8 wm_7_10 wm_1_12 hd_X12_bitsOf wm_7_9 ⟨Nat.le_of_ble_eq_true rfl, Nat.le_of_ble_eq_true rfl⟩ hl_15.1 rfl (Nat.le_of_ble_eq_true rfl) dX12_easiest_51 ⟨Nat.le_of_ble_eq_true rfl, Nat.le_of_ble_eq_true rfl⟩ [] [0, 1, 2, 3, 4, 5] rfl rfl (by decide) rfl rfl (fun r_16 u_16 H locs w_16 h_16 => ?_)
          clear h_13
          obtain ⟨wr_16, _⟩ := w_16
          replace h_16 : qW D _ _ (wk_41836cb4f cy h4 (u_2.2.1 2) h0 0 h1 w0 w1 w2 p1 p2 p3 p4 p5 p6 p7 p8 p9 p10 p11 h2 h3 w3 h4 w4 p12 p13 h5 w5 w6 p14 p15 w7 w8 w9 w10 w11 p16 w12 w13 w14 h1 f0 h2 (u_8.2.1 0) h3 (u_8.2.1 1) h5 (u_2.2.1 3)) _ _ := h_16
          refine lv_istore_n (lv' := [(2, .int r_16), (1, .int v16_6_0), (4, .int r_8), (0, .ref h0), (3, .int v16_6_0)]) hx hb dX12_easiest_54 rfl hl_15 (by decide) rfl (fun ls_17 hl_17 => ?_)
          clear hl_15
          exact J_55 _ _ _ _ ⟨r_16, v16_6_0, (bw wr_16 (by decide) (by decide)), ⟨by omega, by omega⟩, rfl, h_16, (lv_sub hl_17 [3, 1, 0, 4, 2] rfl)⟩
        · replace c_14 := i_nlt (x := r_13) (y := v16_6_2) rfl rfl c_14
          refine lv_goto (tgt := 55) hx hb dX12_easiest_44 (by decide) ?_
          exact J_55 _ _ _ _ ⟨v16_6_2, v16_6_1, hv16_6_2, hv16_6_1, rfl, h_13, (lv_sub hl_9 [1, 2, 3, 4, 0] rfl)⟩
set_option maxHeartbeats 4000000 in
set_option maxRecDepth 100000 in
theorem gX12_noHidden_6db733f (l : Launch) (D : va_G) (cy : Nat → ClassId) (h0 : Nat) (h1 : Nat) (p0 : Int32) (p1 : Int32) (p2 : Int32) (w0 : Value) (w1 : Value) (w2 : Value) (p3 : Int32) (p4 : Int32) (p5 : Int32) (p6 : Int32) (p7 : Int32) (p8 : Int32) (p9 : Int32) (p10 : Int32) (p11 : Int32) (p12 : Int32) (p13 : Int32) (w3 : Value) (w4 : Value) (w5 : Value) (w6 : Value) (w7 : Value) (p14 : Int32) (p15 : Int32) (w8 : Value) (w9 : Value) (w10 : Value) (p16 : Int32) (p17 : Int32) (w11 : Value) (w12 : Value) (w13 : Value) (w14 : Value) (w15 : Value) (p18 : Int32) (w16 : Value) (w17 : Value) (w18 : Value) (f0 : Nat → Int32) (p19 : Int32) (hp0 : (-2147483648) ≤ (p0).toInt ∧ (p0).toInt ≤ 2147483647) (hp1 : (-2147483648) ≤ (p1).toInt ∧ (p1).toInt ≤ 2147483647) (hp2 : 0 ≤ (p2).toInt ∧ (p2).toInt ≤ 0) (hp3 : 0 ≤ (p3).toInt ∧ (p3).toInt ≤ 900) (hp4 : 0 ≤ (p4).toInt ∧ (p4).toInt ≤ 900) (hp5 : 0 ≤ (p5).toInt ∧ (p5).toInt ≤ 900) (hp6 : 0 ≤ (p6).toInt ∧ (p6).toInt ≤ 900) (hp7 : (-2147483648) ≤ (p7).toInt ∧ (p7).toInt ≤ 2147483647) (hp8 : 0 ≤ (p8).toInt ∧ (p8).toInt ≤ 999) (hp9 : (-2147483648) ≤ (p9).toInt ∧ (p9).toInt ≤ 2147483647) (hp10 : (-2147483648) ≤ (p10).toInt ∧ (p10).toInt ≤ 2147483647) (hp11 : (-2147483648) ≤ (p11).toInt ∧ (p11).toInt ≤ 2147483647) (hp12 : (-2147483648) ≤ (p12).toInt ∧ (p12).toInt ≤ 2147483647) (hp13 : (-2147483648) ≤ (p13).toInt ∧ (p13).toInt ≤ 2147483647) (hp14 : (-2147483648) ≤ (p14).toInt ∧ (p14).toInt ≤ 2147483647) (hp15 : (-2147483648) ≤ (p15).toInt ∧ (p15).toInt ≤ 2147483647) (hp16 : (-2147483648) ≤ (p16).toInt ∧ (p16).toInt ≤ 2147483647) (hp17 : (-2147483648) ≤ (p17).toInt ∧ (p17).toInt ≤ 2147483647) (hp18 : (-2147483648) ≤ (p18).toInt ∧ (p18).toInt ≤ 2147483647) (hp19 : 0 ≤ (p19).toInt ∧ (p19).toInt ≤ 10) (htf0_84 : f0 84 = p19) (rf0 : AL f0) (sz : Nat) : MI l yX12_noHidden cX12_noHidden 3 .int { frames := 3, cells := 0, slots := 0, locals := 68 } [.ref h0, .int p0, .int p1] D cy (wk_e1f596b07 cy h0 p2 h1 w0 w1 w2 p3 p4 p5 p6 p7 p8 p9 p10 p11 p12 p13 w3 w4 w5 w6 w7 p14 p15 w8 w9 w10 p16 p17 w11 w12 w13 w14 w15 p18 w16 w17 w18 h1 f0) sz (fun r u => ((-3) ≤ r.toInt ∧ r.toInt ≤ 0) ∧ ((r : Int32).toInt = -2 ∨ (r : Int32).toInt = -3 ∨ (0 ≤ (p0 : Int32).toInt ∧ (p0 : Int32).toInt ≤ 9)) ∧ True) (fun u => (wk_e1f596b07 cy h0 p2 h1 w0 w1 w2 p3 p4 p5 p6 p7 p8 p9 p10 p11 p12 p13 w3 w4 w5 w6 w7 p14 p15 w8 w9 w10 p16 p17 w11 w12 w13 w14 w15 p18 w16 w17 w18 h1 f0)) 0 0 := by
  refine q_ent (own := RX12) (by decide) rfl (Nat.le_of_ble_eq_true rfl) (fun p e s m below meth c ls X hr hlk hnm hK hT h hA hl => ?_)
  obtain ⟨hx, hb, hml, hown, ht⟩ := id X
  replace hl : lv_has ls 3 [(0, .ref h0), (1, .int p0), (2, .int p1)] := hl
  refine lv_aload_n hx hb dX12_noHidden_0 rfl (lv_at hl 0 rfl) ?_
  refine lv_iload_n hx hb dX12_noHidden_1 rfl (lv_at hl 1 rfl) ?_
  refine lv_i2l hx hb dX12_noHidden_2 rfl ?_
  obtain ⟨z_1, ez_1, hz_1⟩ := e_i2l (x := p0) rfl
  refine q_cl z_1 ez_1 ?_
  clear ez_1
  refine q_callVi (rest := []) (wr := []) X hK hT hA h (fun sz => gX12_isPerson_039c8d6 l D cy h0 h1 z_1 p2 w0 w1 w2 p3 p4 p5 p6 p7 p8 p9 p10 p11 p12 p13 w3 w4 w5 w6 w7 p14 p15 w8 w9 w10 p16 p17 w11 w12 w13 w14 w15 p18 w16 w17 w18 f0 p19 ⟨by omega, by omega⟩ hp2 hp3 hp4 hp5 hp6 (i_rng _) hp8 (i_rng _) (i_rng _) (i_rng _) (i_rng _) (i_rng _) (i_rng _) (i_rng _) (i_rng _) (i_rng _) (i_rng _) hp19 htf0_84 rf0 sz) wm_6_162 wm_6_165 wm_1_12 hd_X12_isPerson wm_6_164 wp_5_8 (ci := 12) (q0 := 0) rfl rfl ⟨Nat.le_of_ble_eq_true rfl, Nat.le_of_ble_eq_true rfl⟩ hl.1 rfl (Nat.le_of_ble_eq_true rfl) dX12_noHidden_3 ⟨Nat.le_of_ble_eq_true rfl, Nat.le_of_ble_eq_true rfl⟩ [0, 1] [] rfl rfl (by decide) rfl rfl (fun r_2 u_2 H locs w_2 h_2 => ?_)
  clear h
  obtain ⟨wr_2, y2_0, _⟩ := w_2
  replace h_2 : qW D _ _ (wk_e1f596b07 cy h0 p2 h1 w0 w1 w2 p3 p4 p5 p6 p7 p8 p9 p10 p11 p12 p13 w3 w4 w5 w6 w7 p14 p15 w8 w9 w10 p16 p17 w11 w12 w13 w14 w15 p18 w16 w17 w18 h1 f0) _ _ := h_2
  refine lv_if_ne (tgt := 14) hx hb dX12_noHidden_6 (by decide) (fun c_3 => ?_) (fun c_3 => ?_)
  · replace c_3 := i_ne (x := r_2) (y := 0) rfl (show (0 : Int32).toInt = 0 by decide) c_3
    refine lv_iload_n hx hb dX12_noHidden_14 rfl (lv_at hl 2 rfl) ?_
    refine lv_aload_n hx hb dX12_noHidden_15 rfl (lv_at hl 0 rfl) ?_
    refine q_callVi (rest := [.int p1]) (wr := []) X hK hT hA h_2 (fun sz => gX12_townNow_2907b4b l D cy h0 h1 p2 w0 w1 w2 p3 p4 p5 p6 p7 p8 p9 p10 p11 p12 p13 w3 w4 w5 w6 w7 p14 p15 w8 w9 w10 p16 p17 w11 w12 w13 w14 w15 p18 w16 w17 w18 f0 p19 hp2 hp3 hp4 hp5 hp6 (i_rng _) hp8 (i_rng _) (i_rng _) (i_rng _) (i_rng _) (i_rng _) (i_rng _) (i_rng _) (i_rng _) (i_rng _) (i_rng _) hp19 htf0_84 rf0 sz) wm_6_170 wm_6_173 wm_1_12 hd_X12_townNow wm_6_172 wp_5_9 (ci := 12) (q0 := 0) rfl rfl ⟨Nat.le_of_ble_eq_true rfl, Nat.le_of_ble_eq_true rfl⟩ hl.1 rfl (Nat.le_of_ble_eq_true rfl) dX12_noHidden_16 ⟨Nat.le_of_ble_eq_true rfl, Nat.le_of_ble_eq_true rfl⟩ [0, 1] [] rfl rfl (by decide) rfl rfl (fun r_4 u_4 H locs w_4 h_4 => ?_)
    clear h_2
    obtain ⟨wr_4, _⟩ := w_4
    replace h_4 : qW D _ _ (wk_e1f596b07 cy h0 p2 h1 w0 w1 w2 p3 p4 p5 p6 p7 p8 p9 p10 p11 p12 p13 w3 w4 w5 w6 w7 p14 p15 w8 w9 w10 p16 p17 w11 w12 w13 w14 w15 p18 w16 w17 w18 h1 f0) _ _ := h_4
    refine lv_iconst (v := 1) hx hb dX12_noHidden_19 (by decide) ?_
    refine lv_iload_n hx hb dX12_noHidden_20 rfl (lv_at hl 1 rfl) ?_
    refine lv_ishl hx hb dX12_noHidden_21 ?_
    obtain ⟨z_5, ez_5, hz_5⟩ := e_shlk (p := p0) 9 (by decide) rfl (by omega) (by omega)
    refine q_c z_5 ez_5 ?_
    clear ez_5
    refine lv_iconst (v := (-1)) hx hb dX12_noHidden_22 (by decide) ?_
    refine lv_ixor hx hb dX12_noHidden_23 ?_
    refine q_any (fun z_6 hz_6 => ?_)
    refine lv_iand hx hb dX12_noHidden_24 ?_
    obtain ⟨z_7, ez_7, hz_7⟩ := e_and1 (x := r_4) (y := z_6) rfl (by omega)
    refine q_c z_7 ez_7 ?_
    clear ez_7
    refine lv_iconst (v := (-1)) hx hb dX12_noHidden_25 (by decide) ?_
    refine lv_ixor hx hb dX12_noHidden_26 ?_
    refine q_any (fun z_8 hz_8 => ?_)
    refine lv_iand hx hb dX12_noHidden_27 ?_
    refine q_any (fun z_9 hz_9 => ?_)
    refine lv_if_eq (tgt := 36) hx hb dX12_noHidden_28 (by decide) (fun c_10 => ?_) (fun c_10 => ?_)
    · replace c_10 := i_eq (x := z_9) (y := 0) rfl (show (0 : Int32).toInt = 0 by decide) c_10
      refine lv_iconst (v := 0) hx hb dX12_noHidden_36 (by decide) ?_
      exact q_iret X hr hlk hK h_4 rfl (fun _ => 0, fun _ _ => 0, fun _ _ => 0) ⟨⟨by decide +kernel, by decide +kernel⟩, (show (0 : Int32).toInt = -2 ∨ (0 : Int32).toInt = -3 ∨ (0 ≤ (p0 : Int32).toInt ∧ (p0 : Int32).toInt ≤ 9) from by have q0 : (0 : Int32).toInt = 0 := (by decide); (first | (clear y2_0; omega) | omega)), trivial⟩ [0, 1] rfl rfl dX12_noHidden_37 (Nat.le_of_ble_eq_true rfl) (Nat.le_of_ble_eq_true rfl)
    · replace c_10 := i_ne (x := z_9) (y := 0) rfl (show (0 : Int32).toInt = 0 by decide) c_10
      refine lv_bipush (v := (-3)) hx hb dX12_noHidden_31 (by decide) ?_
      refine lv_goto (tgt := 37) hx hb dX12_noHidden_33 (by decide) ?_
      exact q_iret X hr hlk hK h_4 rfl (fun _ => 0, fun _ _ => 0, fun _ _ => 0) ⟨⟨by decide +kernel, by decide +kernel⟩, (show ((-3) : Int32).toInt = -2 ∨ ((-3) : Int32).toInt = -3 ∨ (0 ≤ (p0 : Int32).toInt ∧ (p0 : Int32).toInt ≤ 9) from by have q0 : ((-3) : Int32).toInt = -3 := (by decide); (first | (clear y2_0; omega) | omega)), trivial⟩ [0, 1] rfl rfl dX12_noHidden_37 (Nat.le_of_ble_eq_true rfl) (Nat.le_of_ble_eq_true rfl)
  · replace c_3 := i_eq (x := r_2) (y := 0) rfl (show (0 : Int32).toInt = 0 by decide) c_3
    refine lv_bipush (v := (-2)) hx hb dX12_noHidden_9 (by decide) ?_
    refine lv_goto (tgt := 37) hx hb dX12_noHidden_11 (by decide) ?_
    exact q_iret X hr hlk hK h_2 rfl (fun _ => 0, fun _ _ => 0, fun _ _ => 0) ⟨⟨by decide +kernel, by decide +kernel⟩, (show ((-2) : Int32).toInt = -2 ∨ ((-2) : Int32).toInt = -3 ∨ (0 ≤ (p0 : Int32).toInt ∧ (p0 : Int32).toInt ≤ 9) from by have q0 : ((-2) : Int32).toInt = -2 := (by decide); (first | (clear y2_0; omega) | omega)), trivial⟩ [0, 1] rfl rfl dX12_noHidden_37 (Nat.le_of_ble_eq_true rfl) (Nat.le_of_ble_eq_true rfl)
set_option maxHeartbeats 4000000 in
set_option maxRecDepth 100000 in
theorem gX12_isTold_0a2408d (l : Launch) (D : va_G) (cy : Nat → ClassId) (h0 : Nat) (h1 : Nat) (p0 : Int32) (p1 : Int32) (w0 : Value) (w1 : Value) (w2 : Value) (p2 : Int32) (p3 : Int32) (p4 : Int32) (p5 : Int32) (p6 : Int32) (p7 : Int32) (p8 : Int32) (p9 : Int32) (p10 : Int32) (p11 : Int32) (p12 : Int32) (w3 : Value) (w4 : Value) (w5 : Value) (w6 : Value) (w7 : Value) (p13 : Int32) (p14 : Int32) (w8 : Value) (w9 : Value) (w10 : Value) (p15 : Int32) (p16 : Int32) (w11 : Value) (w12 : Value) (w13 : Value) (w14 : Value) (w15 : Value) (p17 : Int32) (w16 : Value) (w17 : Value) (w18 : Value) (f0 : Nat → Int32) (p18 : Int32) (hp0 : 0 ≤ (p0).toInt ∧ (p0).toInt ≤ 999) (hp1 : 0 ≤ (p1).toInt ∧ (p1).toInt ≤ 0) (hp2 : 0 ≤ (p2).toInt ∧ (p2).toInt ≤ 900) (hp3 : 0 ≤ (p3).toInt ∧ (p3).toInt ≤ 900) (hp4 : 0 ≤ (p4).toInt ∧ (p4).toInt ≤ 900) (hp5 : 0 ≤ (p5).toInt ∧ (p5).toInt ≤ 900) (hp6 : (-2147483648) ≤ (p6).toInt ∧ (p6).toInt ≤ 2147483647) (hp7 : 0 ≤ (p7).toInt ∧ (p7).toInt ≤ 999) (hp8 : (-2147483648) ≤ (p8).toInt ∧ (p8).toInt ≤ 2147483647) (hp9 : (-2147483648) ≤ (p9).toInt ∧ (p9).toInt ≤ 2147483647) (hp10 : (-2147483648) ≤ (p10).toInt ∧ (p10).toInt ≤ 2147483647) (hp11 : (-2147483648) ≤ (p11).toInt ∧ (p11).toInt ≤ 2147483647) (hp12 : (-2147483648) ≤ (p12).toInt ∧ (p12).toInt ≤ 2147483647) (hp13 : (-2147483648) ≤ (p13).toInt ∧ (p13).toInt ≤ 2147483647) (hp14 : (-2147483648) ≤ (p14).toInt ∧ (p14).toInt ≤ 2147483647) (hp15 : (-2147483648) ≤ (p15).toInt ∧ (p15).toInt ≤ 2147483647) (hp16 : (-2147483648) ≤ (p16).toInt ∧ (p16).toInt ≤ 2147483647) (hp17 : (-2147483648) ≤ (p17).toInt ∧ (p17).toInt ≤ 2147483647) (hp18 : 0 ≤ (p18).toInt ∧ (p18).toInt ≤ 10) (htf0_84 : f0 84 = p18) (rf0 : AL f0) (sz : Nat) : MI l yX12_isTold cX12_isTold 2 .boolean { frames := 0, cells := 0, slots := 0, locals := 0 } [.ref h0, .int p0] D cy (wk_e1f596b07 cy h0 p1 h1 w0 w1 w2 p2 p3 p4 p5 p6 p7 p8 p9 p10 p11 p12 w3 w4 w5 w6 w7 p13 p14 w8 w9 w10 p15 p16 w11 w12 w13 w14 w15 p17 w16 w17 w18 h1 f0) sz (fun r u => (0 ≤ r.toInt ∧ r.toInt ≤ 1) ∧ True) (fun u => (wk_e1f596b07 cy h0 p1 h1 w0 w1 w2 p2 p3 p4 p5 p6 p7 p8 p9 p10 p11 p12 w3 w4 w5 w6 w7 p13 p14 w8 w9 w10 p15 p16 w11 w12 w13 w14 w15 p17 w16 w17 w18 h1 f0)) 0 0 := by
  refine q_ent (own := RX12) (by decide) rfl (Nat.le_of_ble_eq_true rfl) (fun p e s m below meth c ls X hr hlk hnm hK hT h hA hl => ?_)
  obtain ⟨hx, hb, hml, hown, ht⟩ := id X
  replace hl : lv_has ls 2 [(0, .ref h0), (1, .int p0)] := hl
  refine lv_aload_n hx hb dX12_isTold_0 rfl (lv_at hl 0 rfl) ?_
  refine q_get X hK h 0 rfl rfl wf_12 1 (by decide) rfl wm_5_171 dX12_isTold_1 ?_
  refine lv_iconst (v := 1) hx hb dX12_isTold_4 (by decide) ?_
  refine q_iald X hK h 1 rfl (q_in (by decide +kernel)) dX12_isTold_5 ?_
  obtain ⟨z_1, ez_1, hz_1⟩ := al_V rf0 (x := 1) (show (1 : Int32).toInt = 1 by decide) (by omega) (by omega)
  refine q_c z_1 ez_1 ?_
  clear ez_1
  refine lv_iconst (v := 1) hx hb dX12_isTold_6 (by decide) ?_
  refine q_jn (pc2 := 42) (fun H locs ls st => ∃ v42_2_0 : Int32, (0 ≤ (v42_2_0).toInt ∧ (v42_2_0).toInt ≤ 1) ∧ st = [.int v42_2_0] ∧ qW D (va_A (wk_e1f596b07 cy h0 p1 h1 w0 w1 w2 p2 p3 p4 p5 p6 p7 p8 p9 p10 p11 p12 w3 w4 w5 w6 w7 p13 p14 w8 w9 w10 p15 p16 w11 w12 w13 w14 w15 p17 w16 w17 w18 h1 f0) sz) s.heap (wk_e1f596b07 cy h0 p1 h1 w0 w1 w2 p2 p3 p4 p5 p6 p7 p8 p9 p10 p11 p12 w3 w4 w5 w6 w7 p13 p14 w8 w9 w10 p15 p16 w11 w12 w13 w14 w15 p17 w16 w17 w18 h1 f0) H locs ∧ lv_has ls 2 [(0, .ref h0), (1, .int p0)]) (fun H locs ls st hP => ?_) (fun J_42 => ?_)
  · obtain ⟨v42_2_0, hv42_2_0, rfl, h, hl⟩ := hP
    exact q_iret X hr hlk hK h (q_nz (by omega) (by omega)) (fun _ => 0, fun _ _ => 0, fun _ _ => 0) ⟨hv42_2_0, trivial⟩ [0, 1] rfl rfl dX12_isTold_42 (Nat.le_of_ble_eq_true rfl) (Nat.le_of_ble_eq_true rfl)
  · skip
    refine q_jn (pc2 := 41) (fun H locs ls st => st = [] ∧ qW D (va_A (wk_e1f596b07 cy h0 p1 h1 w0 w1 w2 p2 p3 p4 p5 p6 p7 p8 p9 p10 p11 p12 w3 w4 w5 w6 w7 p13 p14 w8 w9 w10 p15 p16 w11 w12 w13 w14 w15 p17 w16 w17 w18 h1 f0) sz) s.heap (wk_e1f596b07 cy h0 p1 h1 w0 w1 w2 p2 p3 p4 p5 p6 p7 p8 p9 p10 p11 p12 w3 w4 w5 w6 w7 p13 p14 w8 w9 w10 p15 p16 w11 w12 w13 w14 w15 p17 w16 w17 w18 h1 f0) H locs ∧ lv_has ls 2 [(0, .ref h0), (1, .int p0)]) (fun H locs ls st hP => ?_) (fun J_41 => ?_)
    · obtain ⟨rfl, h, hl⟩ := hP
      refine lv_iconst (v := 0) hx hb dX12_isTold_41 (by decide) ?_
      exact J_42 _ _ _ _ ⟨0, ⟨by decide +kernel, by decide +kernel⟩, rfl, h, (lv_sub hl [0, 1] rfl)⟩
    · skip
      refine q_jn (pc2 := 20) (fun H locs ls st => st = [] ∧ qW D (va_A (wk_e1f596b07 cy h0 p1 h1 w0 w1 w2 p2 p3 p4 p5 p6 p7 p8 p9 p10 p11 p12 w3 w4 w5 w6 w7 p13 p14 w8 w9 w10 p15 p16 w11 w12 w13 w14 w15 p17 w16 w17 w18 h1 f0) sz) s.heap (wk_e1f596b07 cy h0 p1 h1 w0 w1 w2 p2 p3 p4 p5 p6 p7 p8 p9 p10 p11 p12 w3 w4 w5 w6 w7 p13 p14 w8 w9 w10 p15 p16 w11 w12 w13 w14 w15 p17 w16 w17 w18 h1 f0) H locs ∧ lv_has ls 2 [(0, .ref h0), (1, .int p0)]) (fun H locs ls st hP => ?_) (fun J_20 => ?_)
      · obtain ⟨rfl, h, hl⟩ := hP
        refine lv_aload_n hx hb dX12_isTold_20 rfl (lv_at hl 0 rfl) ?_
        refine q_get X hK h 0 rfl rfl wf_12 1 (by decide) rfl wm_5_171 dX12_isTold_21 ?_
        refine lv_iconst (v := 1) hx hb dX12_isTold_24 (by decide) ?_
        refine q_iald X hK h 1 rfl (q_in (by decide +kernel)) dX12_isTold_25 ?_
        obtain ⟨z_5, ez_5, hz_5⟩ := al_V rf0 (x := 1) (show (1 : Int32).toInt = 1 by decide) (by omega) (by omega)
        refine q_c z_5 ez_5 ?_
        clear ez_5
        refine lv_iconst (v := 2) hx hb dX12_isTold_26 (by decide) ?_
        refine q_jn (pc2 := 37) (fun H locs ls st => st = [] ∧ qW D (va_A (wk_e1f596b07 cy h0 p1 h1 w0 w1 w2 p2 p3 p4 p5 p6 p7 p8 p9 p10 p11 p12 w3 w4 w5 w6 w7 p13 p14 w8 w9 w10 p15 p16 w11 w12 w13 w14 w15 p17 w16 w17 w18 h1 f0) sz) s.heap (wk_e1f596b07 cy h0 p1 h1 w0 w1 w2 p2 p3 p4 p5 p6 p7 p8 p9 p10 p11 p12 w3 w4 w5 w6 w7 p13 p14 w8 w9 w10 p15 p16 w11 w12 w13 w14 w15 p17 w16 w17 w18 h1 f0) H locs ∧ lv_has ls 2 [(0, .ref h0), (1, .int p0)]) (fun H locs ls st hP => ?_) (fun J_37 => ?_)
        · obtain ⟨rfl, h, hl⟩ := hP
          refine lv_iconst (v := 1) hx hb dX12_isTold_37 (by decide) ?_
          refine lv_goto (tgt := 42) hx hb dX12_isTold_38 (by decide) ?_
          exact J_42 _ _ _ _ ⟨1, ⟨by decide +kernel, by decide +kernel⟩, rfl, h, (lv_sub hl [0, 1] rfl)⟩
        · skip
          refine lv_icmp_gt (tgt := 37) hx hb dX12_isTold_27 (by decide) (fun c_7 => ?_) (fun c_7 => ?_)
          · replace c_7 := i_lt (x := 2) (y := z_5) (show (2 : Int32).toInt = 2 by decide) rfl c_7
            exact J_37 _ _ _ _ ⟨rfl, h, (lv_sub hl [0, 1] rfl)⟩
          · replace c_7 := i_nlt (x := 2) (y := z_5) (show (2 : Int32).toInt = 2 by decide) rfl c_7
            refine lv_iload_n hx hb dX12_isTold_30 rfl (lv_at hl 1 rfl) ?_
            refine lv_bipush (v := 10) hx hb dX12_isTold_31 (by decide) ?_
            refine lv_irem hx hb dX12_isTold_33 (by decide) ?_
            obtain ⟨z_8, ez_8, hz_8⟩ := e_rem (x := p0) (y := 10) rfl (show (10 : Int32).toInt = 10 by decide) (by omega) (by omega)
            refine q_c z_8 ez_8 ?_
            clear ez_8
            refine lv_if_ne (tgt := 41) hx hb dX12_isTold_34 (by decide) (fun c_9 => ?_) (fun c_9 => ?_)
            · replace c_9 := i_ne (x := z_8) (y := 0) rfl (show (0 : Int32).toInt = 0 by decide) c_9
              exact J_41 _ _ _ _ ⟨rfl, h, (lv_sub hl [0, 1] rfl)⟩
            · replace c_9 := i_eq (x := z_8) (y := 0) rfl (show (0 : Int32).toInt = 0 by decide) c_9
              exact J_37 _ _ _ _ ⟨rfl, h, (lv_sub hl [0, 1] rfl)⟩
      · skip
        refine lv_icmp_gt (tgt := 20) hx hb dX12_isTold_7 (by decide) (fun c_10 => ?_) (fun c_10 => ?_)
        · replace c_10 := i_lt (x := 1) (y := z_1) (show (1 : Int32).toInt = 1 by decide) rfl c_10
          exact J_20 _ _ _ _ ⟨rfl, h, (lv_sub hl [0, 1] rfl)⟩
        · replace c_10 := i_nlt (x := 1) (y := z_1) (show (1 : Int32).toInt = 1 by decide) rfl c_10
          refine lv_iload_n hx hb dX12_isTold_10 rfl (lv_at hl 1 rfl) ?_
          refine lv_bipush (v := 10) hx hb dX12_isTold_11 (by decide) ?_
          refine lv_idiv hx hb dX12_isTold_13 (by decide) ?_
          obtain ⟨z_11, ez_11, hz_11⟩ := e_div (x := p0) (y := 10) rfl (show (10 : Int32).toInt = 10 by decide) (by omega) (by omega)
          refine q_c z_11 ez_11 ?_
          clear ez_11
          refine lv_bipush (v := 10) hx hb dX12_isTold_14 (by decide) ?_
          refine lv_irem hx hb dX12_isTold_16 (by decide) ?_
          obtain ⟨z_12, ez_12, hz_12⟩ := e_rem (x := z_11) (y := 10) rfl (show (10 : Int32).toInt = 10 by decide) (by omega) (by omega)
          refine q_c z_12 ez_12 ?_
          clear ez_12
          refine lv_if_ne (tgt := 41) hx hb dX12_isTold_17 (by decide) (fun c_13 => ?_) (fun c_13 => ?_)
          · replace c_13 := i_ne (x := z_12) (y := 0) rfl (show (0 : Int32).toInt = 0 by decide) c_13
            exact J_41 _ _ _ _ ⟨rfl, h, (lv_sub hl [0, 1] rfl)⟩
          · replace c_13 := i_eq (x := z_12) (y := 0) rfl (show (0 : Int32).toInt = 0 by decide) c_13
            exact J_20 _ _ _ _ ⟨rfl, h, (lv_sub hl [0, 1] rfl)⟩
set_option maxHeartbeats 4000000 in
set_option maxRecDepth 100000 in
theorem gX12_fits_c2178b6 (l : Launch) (D : va_G) (cy : Nat → ClassId) (h0 : Nat) (h1 : Nat) (h2 : Nat) (h3 : Nat) (p0 : Int32) (p1 : Int32) (p2 : Int32) (p3 : Int32) (w0 : Value) (w1 : Value) (w2 : Value) (p4 : Int32) (p5 : Int32) (p6 : Int32) (p7 : Int32) (p8 : Int32) (p9 : Int32) (p10 : Int32) (p11 : Int32) (p12 : Int32) (p13 : Int32) (p14 : Int32) (w3 : Value) (w4 : Value) (w5 : Value) (p15 : Int32) (p16 : Int32) (w6 : Value) (w7 : Value) (w8 : Value) (p17 : Int32) (p18 : Int32) (w9 : Value) (w10 : Value) (w11 : Value) (w12 : Value) (w13 : Value) (p19 : Int32) (w14 : Value) (w15 : Value) (w16 : Value) (f0 : Nat → Int32) (p20 : Int32) (f1 : Nat → Int32) (f2 : Nat → Int32) (hp0 : 0 ≤ (p0).toInt ∧ (p0).toInt ≤ 9) (hp1 : (-2147483648) ≤ (p1).toInt ∧ (p1).toInt ≤ 2147483647) (hp2 : 0 ≤ (p2).toInt ∧ (p2).toInt ≤ 999) (hp3 : 0 ≤ (p3).toInt ∧ (p3).toInt ≤ 0) (hp4 : 0 ≤ (p4).toInt ∧ (p4).toInt ≤ 900) (hp5 : 0 ≤ (p5).toInt ∧ (p5).toInt ≤ 900) (hp6 : 0 ≤ (p6).toInt ∧ (p6).toInt ≤ 900) (hp7 : 0 ≤ (p7).toInt ∧ (p7).toInt ≤ 900) (hp8 : (-2147483648) ≤ (p8).toInt ∧ (p8).toInt ≤ 2147483647) (hp9 : 0 ≤ (p9).toInt ∧ (p9).toInt ≤ 999) (hp10 : (-2147483648) ≤ (p10).toInt ∧ (p10).toInt ≤ 2147483647) (hp11 : (-2147483648) ≤ (p11).toInt ∧ (p11).toInt ≤ 2147483647) (hp12 : (-2147483648) ≤ (p12).toInt ∧ (p12).toInt ≤ 2147483647) (hp13 : (-2147483648) ≤ (p13).toInt ∧ (p13).toInt ≤ 2147483647) (hp14 : (-2147483648) ≤ (p14).toInt ∧ (p14).toInt ≤ 2147483647) (hp15 : (-2147483648) ≤ (p15).toInt ∧ (p15).toInt ≤ 2147483647) (hp16 : (-2147483648) ≤ (p16).toInt ∧ (p16).toInt ≤ 2147483647) (hp17 : (-2147483648) ≤ (p17).toInt ∧ (p17).toInt ≤ 2147483647) (hp18 : (-2147483648) ≤ (p18).toInt ∧ (p18).toInt ≤ 2147483647) (hp19 : (-2147483648) ≤ (p19).toInt ∧ (p19).toInt ≤ 2147483647) (hp20 : 0 ≤ (p20).toInt ∧ (p20).toInt ≤ 10) (htf0_84 : f0 84 = p20) (rf0 : AL f0) (sz : Nat) : MI l yX12_fits cX12_fits 6 .boolean { frames := 3, cells := 0, slots := 0, locals := 71 } [.ref h0, .int p0, .int p1, .int p2] D cy (wk_d5826a772 cy h0 p3 h1 w0 w1 w2 p4 p5 p6 p7 p8 p9 p10 p11 p12 p13 p14 h2 h3 w3 w4 w5 p15 p16 w6 w7 w8 p17 p18 w9 w10 w11 w12 w13 p19 w14 w15 w16 h1 f0 h2 f1 h3 f2) sz (fun r u => (0 ≤ r.toInt ∧ r.toInt ≤ 1) ∧ AL (u.2.1 2) ∧ (u.2.1 2) 84 = p20 ∧ True) (fun u => (wk_d5826a772 cy h0 p3 h1 w0 w1 w2 p4 p5 p6 p7 p8 p9 p10 p11 p12 p13 p14 h2 h3 w3 w4 w5 p15 p16 w6 w7 w8 p17 p18 w9 w10 w11 w12 w13 p19 w14 w15 w16 h1 (u.2.1 2) h2 (u.2.1 0) h3 (u.2.1 1))) 0 0 := by
  refine q_ent (own := RX12) (by decide) rfl (Nat.le_of_ble_eq_true rfl) (fun p e s m below meth c ls X hr hlk hnm hK hT h hA hl => ?_)
  obtain ⟨hx, hb, hml, hown, ht⟩ := id X
  replace hl : lv_has ls 6 [(0, .ref h0), (1, .int p0), (2, .int p1), (3, .int p2)] := hl
  refine lv_aload_n hx hb dX12_fits_0 rfl (lv_at hl 0 rfl) ?_
  refine lv_iload_n hx hb dX12_fits_1 rfl (lv_at hl 3 rfl) ?_
  refine q_callVi (rest := []) (wr := (wk_3fb6de35f cy h2 f1 h3 f2)) X hK hT hA h (fun sz => gX12_isTold_0a2408d l D cy h0 h1 p2 p3 w0 w1 w2 p4 p5 p6 p7 p8 p9 p10 p11 p12 p13 p14 (.ref h2) (.ref h3) w3 w4 w5 p15 p16 w6 w7 w8 p17 p18 w9 w10 w11 w12 w13 p19 w14 w15 w16 f0 p20 hp2 hp3 hp4 hp5 hp6 hp7 (i_rng _) hp9 (i_rng _) (i_rng _) (i_rng _) (i_rng _) (i_rng _) (i_rng _) (i_rng _) (i_rng _) (i_rng _) (i_rng _) hp20 htf0_84 rf0 sz) wm_7_235 wm_7_238 wm_1_12 hd_X12_isTold wm_7_237 wp_8_2 (ci := 12) (q0 := 0) rfl rfl ⟨Nat.le_of_ble_eq_true rfl, Nat.le_of_ble_eq_true rfl⟩ hl.1 rfl (Nat.le_of_ble_eq_true rfl) dX12_fits_2 ⟨Nat.le_of_ble_eq_true rfl, Nat.le_of_ble_eq_true rfl⟩ [0, 1] [2, 3] rfl rfl (by decide) rfl rfl (fun r_1 u_1 H locs w_1 h_1 => ?_)
  clear h
  obtain ⟨wr_1, _⟩ := w_1
  replace h_1 : qW D _ _ (wk_974fbaca6 cy h2 f1 h3 f2 h0 p3 h1 w0 w1 w2 p4 p5 p6 p7 p8 p9 p10 p11 p12 p13 p14 h2 h3 w3 w4 w5 p15 p16 w6 w7 w8 p17 p18 w9 w10 w11 w12 w13 p19 w14 w15 w16 h1 f0) _ _ := h_1
  refine lv_if_ne (tgt := 10) hx hb dX12_fits_5 (by decide) (fun c_2 => ?_) (fun c_2 => ?_)
  · replace c_2 := i_ne (x := r_1) (y := 0) rfl (show (0 : Int32).toInt = 0 by decide) c_2
    refine lv_aload_n hx hb dX12_fits_10 rfl (lv_at hl 0 rfl) ?_
    refine lv_iload_n hx hb dX12_fits_11 rfl (lv_at hl 1 rfl) ?_
    refine lv_iload_n hx hb dX12_fits_12 rfl (lv_at hl 3 rfl) ?_
    refine q_callVv (rest := []) (wr := (wk_3fb6de35f cy h2 f1 h3 f2)) X hK hT hA h_1 (fun sz => gX12_puts_2de0910 l D cy h0 h1 p0 p2 p3 w0 w1 w2 p4 p5 p6 p7 p8 p9 p10 p11 p12 p13 p14 (.ref h2) (.ref h3) w3 w4 w5 p15 p16 w6 w7 w8 p17 p18 w9 w10 w11 w12 w13 p19 w14 w15 w16 f0 p20 hp0 hp2 hp3 hp4 hp5 hp6 hp7 (i_rng _) hp9 (i_rng _) (i_rng _) (i_rng _) (i_rng _) (i_rng _) (i_rng _) (i_rng _) (i_rng _) (i_rng _) (i_rng _) hp20 htf0_84 rf0 sz) wm_7_176 wm_7_179 wm_1_12 hd_X12_puts wm_7_178 wp_7_11 (ci := 12) (q0 := 0) rfl rfl ⟨Nat.le_of_ble_eq_true rfl, Nat.le_of_ble_eq_true rfl⟩ hl.1 rfl (Nat.le_of_ble_eq_true rfl) dX12_fits_13 ⟨Nat.le_of_ble_eq_true rfl, Nat.le_of_ble_eq_true rfl⟩ [2, 3] [0, 1] rfl rfl (by decide) rfl rfl (fun u_3 H locs w_3 h_3 => ?_)
    clear h_1
    obtain ⟨w3_0, w3_1, _⟩ := w_3
    replace h_3 : qW D _ _ (wk_974fbaca6 cy h2 f1 h3 f2 h0 p3 h1 w0 w1 w2 p4 p5 p6 p7 p8 p9 p10 p11 p12 p13 p14 h2 h3 w3 w4 w5 p15 p16 w6 w7 w8 p17 p18 w9 w10 w11 w12 w13 p19 w14 w15 w16 h1 (u_3.2.1 0)) _ _ := h_3
    refine lv_aload_n hx hb dX12_fits_16 rfl (lv_at hl 0 rfl) ?_
    refine q_callVi (rest := []) (wr := (wk_3fb6de35f cy h2 f1 h3 f2)) X hK hT hA h_3 (fun sz => gX12_townNow_2907b4b l D cy h0 h1 p3 w0 w1 w2 p4 p5 p6 p7 p8 p9 p10 p11 p12 p13 p14 (.ref h2) (.ref h3) w3 w4 w5 p15 p16 w6 w7 w8 p17 p18 w9 w10 w11 w12 w13 p19 w14 w15 w16 (u_3.2.1 0) p20 hp3 hp4 hp5 hp6 hp7 (i_rng _) hp9 (i_rng _) (i_rng _) (i_rng _) (i_rng _) (i_rng _) (i_rng _) (i_rng _) (i_rng _) (i_rng _) (i_rng _) hp20 w3_1 w3_0 sz) wm_6_170 wm_6_173 wm_1_12 hd_X12_townNow wm_6_172 wp_5_9 (ci := 12) (q0 := 0) rfl rfl ⟨Nat.le_of_ble_eq_true rfl, Nat.le_of_ble_eq_true rfl⟩ hl.1 rfl (Nat.le_of_ble_eq_true rfl) dX12_fits_17 ⟨Nat.le_of_ble_eq_true rfl, Nat.le_of_ble_eq_true rfl⟩ [2, 3] [0, 1] rfl rfl (by decide) rfl rfl (fun r_4 u_4 H locs w_4 h_4 => ?_)
    clear h_3
    obtain ⟨wr_4, _⟩ := w_4
    replace h_4 : qW D _ _ (wk_974fbaca6 cy h2 f1 h3 f2 h0 p3 h1 w0 w1 w2 p4 p5 p6 p7 p8 p9 p10 p11 p12 p13 p14 h2 h3 w3 w4 w5 p15 p16 w6 w7 w8 p17 p18 w9 w10 w11 w12 w13 p19 w14 w15 w16 h1 (u_3.2.1 0)) _ _ := h_4
    refine lv_iconst (v := 1) hx hb dX12_fits_20 (by decide) ?_
    refine lv_iload_n hx hb dX12_fits_21 rfl (lv_at hl 1 rfl) ?_
    refine lv_ishl hx hb dX12_fits_22 ?_
    obtain ⟨z_5, ez_5, hz_5⟩ := e_shlk (p := p0) 9 (by decide) rfl (by omega) (by omega)
    refine q_c z_5 ez_5 ?_
    clear ez_5
    refine lv_iconst (v := (-1)) hx hb dX12_fits_23 (by decide) ?_
    refine lv_ixor hx hb dX12_fits_24 ?_
    refine q_any (fun z_6 hz_6 => ?_)
    refine lv_iand hx hb dX12_fits_25 ?_
    obtain ⟨z_7, ez_7, hz_7⟩ := e_and1 (x := r_4) (y := z_6) rfl (by omega)
    refine q_c z_7 ez_7 ?_
    clear ez_7
    refine lv_istore (lv' := [(4, .int z_7), (0, .ref h0), (1, .int p0), (2, .int p1), (3, .int p2)]) hx hb dX12_fits_26 hl (by decide) rfl (fun ls_8 hl_8 => ?_)
    clear hl
    refine lv_iconst (v := 0) hx hb dX12_fits_28 (by decide) ?_
    refine lv_istore (lv' := [(5, .int 0), (4, .int z_7), (0, .ref h0), (1, .int p0), (2, .int p1), (3, .int p2)]) hx hb dX12_fits_29 hl_8 (by decide) rfl (fun ls_9 hl_9 => ?_)
    clear hl_8
    refine q_wl (fun (v31_10_0 : Int32) H locs ls => ∃ v31_10_1 : Nat → Int32, ∃ v31_10_2 : Nat → Int32, (0 ≤ (v31_10_0).toInt ∧ (v31_10_0).toInt ≤ 10) ∧ qW D (va_A (wk_d5826a772 cy h0 p3 h1 w0 w1 w2 p4 p5 p6 p7 p8 p9 p10 p11 p12 p13 p14 h2 h3 w3 w4 w5 p15 p16 w6 w7 w8 p17 p18 w9 w10 w11 w12 w13 p19 w14 w15 w16 h1 f0 h2 f1 h3 f2) sz) s.heap (wk_974fbaca6 cy h2 v31_10_1 h3 v31_10_2 h0 p3 h1 w0 w1 w2 p4 p5 p6 p7 p8 p9 p10 p11 p12 p13 p14 h2 h3 w3 w4 w5 p15 p16 w6 w7 w8 p17 p18 w9 w10 w11 w12 w13 p19 w14 w15 w16 h1 (u_3.2.1 0)) H locs ∧ lv_has ls 6 [(0, .ref h0), (1, .int p0), (2, .int p1), (3, .int p2), (4, .int z_7), (5, .int v31_10_0)]) (fun (v31_10_0 : Int32) => (11 - (v31_10_0).toInt).toNat) (fun q_31 ih_31 H locs ls hP => ?_) 0 ⟨f1, f2, ⟨by decide +kernel, by decide +kernel⟩, h_4, (lv_sub hl_9 [2, 3, 4, 5, 1, 0] rfl)⟩
    obtain ⟨v31_10_0, rfl⟩ : ∃ z, z = q_31 := ⟨_, rfl⟩
    obtain ⟨v31_10_1, v31_10_2, hv31_10_0, h, hl⟩ := hP
    refine lv_iload hx hb dX12_fits_31 (lv_at hl 5 rfl) ?_
    refine lv_aload_n hx hb dX12_fits_33 rfl (lv_at hl 0 rfl) ?_
    refine q_get X hK h 2 rfl rfl wf_12 1 (by decide) rfl wm_5_171 dX12_fits_34 ?_
    refine lv_iconst (v := 2) hx hb dX12_fits_37 (by decide) ?_
    refine q_iald X hK h 3 rfl (q_in (by decide +kernel)) dX12_fits_38 ?_
    obtain ⟨z_11, ez_11, hz_11⟩ := al_P w3_0 (x := 2) (show (2 : Int32).toInt = 2 by decide) (by omega) (by omega)
    refine q_c z_11 ez_11 ?_
    clear ez_11
    refine lv_icmp_ge (tgt := 85) hx hb dX12_fits_39 (by decide) (fun c_12 => ?_) (fun c_12 => ?_)
    · replace c_12 := i_le (x := z_11) (y := v31_10_0) rfl rfl c_12
      refine lv_iconst (v := 1) hx hb dX12_fits_85 (by decide) ?_
      exact q_iret X hr hlk hK h rfl (fun _ => 0, (vcons v31_10_1 (vcons v31_10_2 (vcons (u_3.2.1 0) (fun _ => (fun _ => 0))))), fun _ _ => 0) ⟨⟨by decide +kernel, by decide +kernel⟩, w3_0, w3_1, trivial⟩ [2, 3, 0, 1] rfl rfl dX12_fits_86 (Nat.le_of_ble_eq_true rfl) (Nat.le_of_ble_eq_true rfl)
    · replace c_12 := i_nle (x := z_11) (y := v31_10_0) rfl rfl c_12
      refine lv_iload hx hb dX12_fits_42 (lv_at hl 4 rfl) ?_
      refine lv_i2l hx hb dX12_fits_44 rfl ?_
      obtain ⟨z_13, ez_13, hz_13⟩ := e_i2l (x := z_7) rfl
      refine q_cl z_13 ez_13 ?_
      clear ez_13
      refine lv_iload hx hb dX12_fits_45 (lv_at hl 5 rfl) ?_
      refine q_callSi (rest := []) (wr := (wk_974fbaca6 cy h2 v31_10_1 h3 v31_10_2 h0 p3 h1 w0 w1 w2 p4 p5 p6 p7 p8 p9 p10 p11 p12 p13 p14 h2 h3 w3 w4 w5 p15 p16 w6 w7 w8 p17 p18 w9 w10 w11 w12 w13 p19 w14 w15 w16 h1 (u_3.2.1 0))) X hK hT hA h (fun sz => gX12_isIn_b0455a8 l D cy z_13 v31_10_0 ⟨by omega, by omega⟩ ⟨by omega, by omega⟩ sz) wm_6_167 wm_6_169 wm_1_12 hd_X12_isIn wm_6_168 ⟨Nat.le_of_ble_eq_true rfl, Nat.le_of_ble_eq_true rfl⟩ hl.1 rfl (Nat.le_of_ble_eq_true rfl) dX12_fits_47 ⟨Nat.le_of_ble_eq_true rfl, Nat.le_of_ble_eq_true rfl⟩ [] [0, 1, 2, 3] rfl rfl (by decide) rfl rfl (fun r_14 u_14 H locs w_14 h_14 => ?_)
      clear h
      obtain ⟨wr_14, _⟩ := w_14
      replace h_14 : qW D _ _ (wk_974fbaca6 cy h2 v31_10_1 h3 v31_10_2 h0 p3 h1 w0 w1 w2 p4 p5 p6 p7 p8 p9 p10 p11 p12 p13 p14 h2 h3 w3 w4 w5 p15 p16 w6 w7 w8 p17 p18 w9 w10 w11 w12 w13 p19 w14 w15 w16 h1 (u_3.2.1 0)) _ _ := h_14
      refine q_jn (pc2 := 79) (fun H locs ls st => ∃ v79_15_0 : Nat → Int32, ∃ v79_15_1 : Nat → Int32, st = [] ∧ qW D (va_A (wk_d5826a772 cy h0 p3 h1 w0 w1 w2 p4 p5 p6 p7 p8 p9 p10 p11 p12 p13 p14 h2 h3 w3 w4 w5 p15 p16 w6 w7 w8 p17 p18 w9 w10 w11 w12 w13 p19 w14 w15 w16 h1 f0 h2 f1 h3 f2) sz) s.heap (wk_974fbaca6 cy h2 v79_15_0 h3 v79_15_1 h0 p3 h1 w0 w1 w2 p4 p5 p6 p7 p8 p9 p10 p11 p12 p13 p14 h2 h3 w3 w4 w5 p15 p16 w6 w7 w8 p17 p18 w9 w10 w11 w12 w13 p19 w14 w15 w16 h1 (u_3.2.1 0)) H locs ∧ lv_has ls 6 [(0, .ref h0), (1, .int p0), (2, .int p1), (3, .int p2), (4, .int z_7), (5, .int v31_10_0)]) (fun H locs ls st hP => ?_) (fun J_79 => ?_)
      · obtain ⟨v79_15_0, v79_15_1, rfl, h, hl⟩ := hP
        obtain ⟨z_16, ez_16, hz_16⟩ := e_add (x := v31_10_0) (y := Int32.ofInt 1) rfl (b := 1) (by decide) (by omega) (by omega)
        refine lv_iinc (v := z_16) (lv' := [(5, .int z_16), (0, .ref h0), (1, .int p0), (2, .int p1), (3, .int p2), (4, .int z_7)]) hx hb dX12_fits_79 hl (k := 5) rfl ez_16 (by decide) rfl (fun ls_16 hl_16 => ?_)
        clear hl
        refine lv_goto (tgt := 31) hx hb dX12_fits_82 (by decide) ?_
        exact ih_31 z_16 (by show (11 - (z_16).toInt).toNat < (11 - (v31_10_0).toInt).toNat; omega) _ _ _ ⟨v79_15_0, v79_15_1, ⟨by omega, by omega⟩, h, (lv_sub hl_16 [1, 2, 3, 4, 5, 0] rfl)⟩
      · skip
        refine lv_if_eq (tgt := 79) hx hb dX12_fits_50 (by decide) (fun c_17 => ?_) (fun c_17 => ?_)
        · replace c_17 := i_eq (x := r_14) (y := 0) rfl (show (0 : Int32).toInt = 0 by decide) c_17
          exact J_79 _ _ _ _ ⟨v31_10_1, v31_10_2, rfl, h_14, (lv_sub hl [0, 1, 2, 3, 4, 5] rfl)⟩
        · replace c_17 := i_ne (x := r_14) (y := 0) rfl (show (0 : Int32).toInt = 0 by decide) c_17
          refine lv_aload_n hx hb dX12_fits_53 rfl (lv_at hl 0 rfl) ?_
          refine lv_iload_n hx hb dX12_fits_54 rfl (lv_at hl 1 rfl) ?_
          refine lv_iload hx hb dX12_fits_55 (lv_at hl 5 rfl) ?_
          refine lv_aload_n hx hb dX12_fits_57 rfl (lv_at hl 0 rfl) ?_
          refine q_get X hK h_14 2 rfl rfl wf_12 1 (by decide) rfl wm_5_171 dX12_fits_58 ?_
          refine lv_bipush (v := 52) hx hb dX12_fits_61 (by decide) ?_
          refine q_iald X hK h_14 3 rfl (q_in (by decide +kernel)) dX12_fits_63 ?_
          refine q_any (fun z_18 hz_18 => ?_)
          refine q_callVi (rest := []) (wr := []) X hK hT hA h_14 (fun sz => gX12_areOpposed_e7e6c1a l D cy h0 h1 h2 h3 p0 v31_10_0 z_18 p3 w0 w1 w2 p4 p5 p6 p7 p8 p9 p10 p11 p12 p13 p14 w3 w4 w5 p15 p16 w6 w7 w8 p17 p18 w9 w10 w11 w12 w13 p19 w14 w15 w16 (u_3.2.1 0) p20 v31_10_1 v31_10_2 hp0 ⟨by omega, by omega⟩ (i_rng _) hp3 hp4 hp5 hp6 hp7 (i_rng _) hp9 (i_rng _) (i_rng _) (i_rng _) (i_rng _) (i_rng _) (i_rng _) (i_rng _) (i_rng _) (i_rng _) (i_rng _) hp20 w3_1 w3_0 sz) wm_6_187 wm_6_190 wm_1_12 hd_X12_areOpposed wm_6_189 wp_5_11 (ci := 12) (q0 := 0) rfl rfl ⟨Nat.le_of_ble_eq_true rfl, Nat.le_of_ble_eq_true rfl⟩ hl.1 rfl (Nat.le_of_ble_eq_true rfl) dX12_fits_64 ⟨Nat.le_of_ble_eq_true rfl, Nat.le_of_ble_eq_true rfl⟩ [2, 3, 0, 1] [] rfl rfl (by decide) rfl rfl (fun r_19 u_19 H locs w_19 h_19 => ?_)
          clear h_14
          obtain ⟨wr_19, _⟩ := w_19
          replace h_19 : qW D _ _ (wk_d5826a772 cy h0 p3 h1 w0 w1 w2 p4 p5 p6 p7 p8 p9 p10 p11 p12 p13 p14 h2 h3 w3 w4 w5 p15 p16 w6 w7 w8 p17 p18 w9 w10 w11 w12 w13 p19 w14 w15 w16 h1 (u_3.2.1 0) h2 (u_19.2.1 0) h3 (u_19.2.1 1)) _ _ := h_19
          refine lv_iload_n hx hb dX12_fits_67 rfl (lv_at hl 2 rfl) ?_
          refine lv_i2l hx hb dX12_fits_68 rfl ?_
          obtain ⟨z_20, ez_20, hz_20⟩ := e_i2l (x := p1) rfl
          refine q_cl z_20 ez_20 ?_
          clear ez_20
          refine lv_iload hx hb dX12_fits_69 (lv_at hl 5 rfl) ?_
          refine q_callSi (rest := [.int r_19]) (wr := (wk_d5826a772 cy h0 p3 h1 w0 w1 w2 p4 p5 p6 p7 p8 p9 p10 p11 p12 p13 p14 h2 h3 w3 w4 w5 p15 p16 w6 w7 w8 p17 p18 w9 w10 w11 w12 w13 p19 w14 w15 w16 h1 (u_3.2.1 0) h2 (u_19.2.1 0) h3 (u_19.2.1 1))) X hK hT hA h_19 (fun sz => gX12_isIn_b0455a8 l D cy z_20 v31_10_0 ⟨by omega, by omega⟩ ⟨by omega, by omega⟩ sz) wm_6_167 wm_6_169 wm_1_12 hd_X12_isIn wm_6_168 ⟨Nat.le_of_ble_eq_true rfl, Nat.le_of_ble_eq_true rfl⟩ hl.1 rfl (Nat.le_of_ble_eq_true rfl) dX12_fits_71 ⟨Nat.le_of_ble_eq_true rfl, Nat.le_of_ble_eq_true rfl⟩ [] [0, 1, 2, 3] rfl rfl (by decide) rfl rfl (fun r_21 u_21 H locs w_21 h_21 => ?_)
          clear h_19
          obtain ⟨wr_21, _⟩ := w_21
          replace h_21 : qW D _ _ (wk_d5826a772 cy h0 p3 h1 w0 w1 w2 p4 p5 p6 p7 p8 p9 p10 p11 p12 p13 p14 h2 h3 w3 w4 w5 p15 p16 w6 w7 w8 p17 p18 w9 w10 w11 w12 w13 p19 w14 w15 w16 h1 (u_3.2.1 0) h2 (u_19.2.1 0) h3 (u_19.2.1 1)) _ _ := h_21
          refine lv_icmp_eq (tgt := 79) hx hb dX12_fits_74 (by decide) (fun c_22 => ?_) (fun c_22 => ?_)
          · replace c_22 := i_eq (x := r_19) (y := r_21) rfl rfl c_22
            exact J_79 _ _ _ _ ⟨(u_19.2.1 0), (u_19.2.1 1), rfl, (q_re h_21 [2, 3, 0, 1] rfl rfl), (lv_sub hl [0, 1, 2, 3, 4, 5] rfl)⟩
          · replace c_22 := i_ne (x := r_19) (y := r_21) rfl rfl c_22
            refine lv_iconst (v := 0) hx hb dX12_fits_77 (by decide) ?_
            exact q_iret X hr hlk hK h_21 rfl (fun _ => 0, (vcons (u_19.2.1 0) (vcons (u_19.2.1 1) (vcons (u_3.2.1 0) (fun _ => (fun _ => 0))))), fun _ _ => 0) ⟨⟨by decide +kernel, by decide +kernel⟩, w3_0, w3_1, trivial⟩ [0, 1, 2, 3] rfl rfl dX12_fits_78 (Nat.le_of_ble_eq_true rfl) (Nat.le_of_ble_eq_true rfl)
  · replace c_2 := i_eq (x := r_1) (y := 0) rfl (show (0 : Int32).toInt = 0 by decide) c_2
    refine lv_iconst (v := 0) hx hb dX12_fits_8 (by decide) ?_
    exact q_iret X hr hlk hK h_1 rfl (fun _ => 0, (vcons f1 (vcons f2 (vcons f0 (fun _ => (fun _ => 0))))), fun _ _ => 0) ⟨⟨by decide +kernel, by decide +kernel⟩, rf0, htf0_84, trivial⟩ [2, 3, 0, 1] rfl rfl dX12_fits_9 (Nat.le_of_ble_eq_true rfl) (Nat.le_of_ble_eq_true rfl)
set_option maxHeartbeats 4000000 in
set_option maxRecDepth 100000 in
theorem gX12_laysHidden_bb1e8ce (l : Launch) (D : va_G) (cy : Nat → ClassId) (h0 : Nat) (h1 : Nat) (h2 : Nat) (h3 : Nat) (h4 : Nat) (p0 : Int32) (p1 : Int32) (p2 : Int32) (w0 : Value) (w1 : Value) (w2 : Value) (p3 : Int32) (p4 : Int32) (p5 : Int32) (p6 : Int32) (p7 : Int32) (p8 : Int32) (p9 : Int32) (p10 : Int32) (p11 : Int32) (p12 : Int32) (p13 : Int32) (w3 : Value) (w4 : Value) (w5 : Value) (p14 : Int32) (p15 : Int32) (w6 : Value) (w7 : Value) (w8 : Value) (p16 : Int32) (p17 : Int32) (w9 : Value) (w10 : Value) (w11 : Value) (w12 : Value) (p18 : Int32) (w13 : Value) (w14 : Value) (w15 : Value) (f0 : Nat → Int32) (p19 : Int32) (f1 : Nat → Int32) (f2 : Nat → Int32) (f3 : Nat → Int32) (hp0 : 0 ≤ (p0).toInt ∧ (p0).toInt ≤ 9) (hp1 : (-2147483648) ≤ (p1).toInt ∧ (p1).toInt ≤ 2147483647) (hp2 : 0 ≤ (p2).toInt ∧ (p2).toInt ≤ 0) (hp3 : 0 ≤ (p3).toInt ∧ (p3).toInt ≤ 900) (hp4 : 0 ≤ (p4).toInt ∧ (p4).toInt ≤ 900) (hp5 : 0 ≤ (p5).toInt ∧ (p5).toInt ≤ 900) (hp6 : 0 ≤ (p6).toInt ∧ (p6).toInt ≤ 900) (hp7 : (-2147483648) ≤ (p7).toInt ∧ (p7).toInt ≤ 2147483647) (hp8 : 0 ≤ (p8).toInt ∧ (p8).toInt ≤ 999) (hp9 : (-2147483648) ≤ (p9).toInt ∧ (p9).toInt ≤ 2147483647) (hp10 : (-2147483648) ≤ (p10).toInt ∧ (p10).toInt ≤ 2147483647) (hp11 : (-2147483648) ≤ (p11).toInt ∧ (p11).toInt ≤ 2147483647) (hp12 : (-2147483648) ≤ (p12).toInt ∧ (p12).toInt ≤ 2147483647) (hp13 : (-2147483648) ≤ (p13).toInt ∧ (p13).toInt ≤ 2147483647) (hp14 : (-2147483648) ≤ (p14).toInt ∧ (p14).toInt ≤ 2147483647) (hp15 : (-2147483648) ≤ (p15).toInt ∧ (p15).toInt ≤ 2147483647) (hp16 : (-2147483648) ≤ (p16).toInt ∧ (p16).toInt ≤ 2147483647) (hp17 : (-2147483648) ≤ (p17).toInt ∧ (p17).toInt ≤ 2147483647) (hp18 : (-2147483648) ≤ (p18).toInt ∧ (p18).toInt ≤ 2147483647) (hp19 : 0 ≤ (p19).toInt ∧ (p19).toInt ≤ 10) (htf0_84 : f0 84 = p19) (rf0 : AL f0) (rf3 : RG f3 1000 0 999) (sz : Nat) : MI l yX12_laysHidden cX12_laysHidden 6 .int { frames := 4, cells := 0, slots := 0, locals := 96 } [.ref h0, .int p0, .int p1] D cy (wk_fa21f7301 cy h0 p2 h1 w0 w1 w2 p3 p4 p5 p6 p7 p8 p9 p10 p11 p12 p13 h2 h3 w3 w4 w5 p14 p15 w6 w7 w8 p16 p17 h4 w9 w10 w11 w12 p18 w13 w14 w15 h1 f0 h2 f1 h3 f2 h4 f3) sz (fun r u => (0 ≤ r.toInt ∧ r.toInt ≤ 1000) ∧ RG (u.2.1 2) 1000 0 999 ∧ AL (u.2.1 3) ∧ (u.2.1 3) 84 = p19 ∧ True) (fun u => (wk_fa21f7301 cy h0 p2 h1 w0 w1 w2 p3 p4 p5 p6 p7 p8 p9 p10 p11 p12 p13 h2 h3 w3 w4 w5 p14 p15 w6 w7 w8 p16 p17 h4 w9 w10 w11 w12 p18 w13 w14 w15 h1 (u.2.1 3) h2 (u.2.1 0) h3 (u.2.1 1) h4 (u.2.1 2))) 0 0 := by
  refine q_ent (own := RX12) (by decide) rfl (Nat.le_of_ble_eq_true rfl) (fun p e s m below meth c ls X hr hlk hnm hK hT h hA hl => ?_)
  obtain ⟨hx, hb, hml, hown, ht⟩ := id X
  replace hl : lv_has ls 6 [(0, .ref h0), (1, .int p0), (2, .int p1)] := hl
  refine lv_aload_n hx hb dX12_laysHidden_0 rfl (lv_at hl 0 rfl) ?_
  refine lv_iload_n hx hb dX12_laysHidden_1 rfl (lv_at hl 1 rfl) ?_
  refine q_callVi (rest := []) (wr := (wk_8024bc26d cy h2 f1 h3 f2 h4 f3)) X hK hT hA h (fun sz => gX12_viewsOf_bc3d930 l D cy h0 h1 p0 p2 w0 w1 w2 p3 p4 p5 p6 p7 p8 p9 p10 p11 p12 p13 (.ref h2) (.ref h3) w3 w4 w5 p14 p15 w6 w7 w8 p16 p17 (.ref h4) w9 w10 w11 w12 p18 w13 w14 w15 f0 p19 hp0 hp2 hp3 hp4 hp5 hp6 (i_rng _) hp8 (i_rng _) (i_rng _) (i_rng _) (i_rng _) (i_rng _) (i_rng _) (i_rng _) (i_rng _) (i_rng _) (i_rng _) hp19 htf0_84 rf0 sz) wm_7_172 wm_7_175 wm_1_12 hd_X12_viewsOf wm_7_174 wp_7_10 (ci := 12) (q0 := 0) rfl rfl ⟨Nat.le_of_ble_eq_true rfl, Nat.le_of_ble_eq_true rfl⟩ hl.1 rfl (Nat.le_of_ble_eq_true rfl) dX12_laysHidden_2 ⟨Nat.le_of_ble_eq_true rfl, Nat.le_of_ble_eq_true rfl⟩ [0, 1] [2, 3, 4] rfl rfl (by decide) rfl rfl (fun r_1 u_1 H locs w_1 h_1 => ?_)
  clear h
  obtain ⟨wr_1, _⟩ := w_1
  replace h_1 : qW D _ _ (wk_46a08b732 cy h2 f1 h3 f2 h4 f3 h0 p2 h1 w0 w1 w2 p3 p4 p5 p6 p7 p8 p9 p10 p11 p12 p13 h2 h3 w3 w4 w5 p14 p15 w6 w7 w8 p16 p17 h4 w9 w10 w11 w12 p18 w13 w14 w15 h1 f0) _ _ := h_1
  refine lv_istore_n (lv' := [(3, .int r_1), (0, .ref h0), (1, .int p0), (2, .int p1)]) hx hb dX12_laysHidden_5 rfl hl (by decide) rfl (fun ls_2 hl_2 => ?_)
  clear hl
  refine lv_iconst (v := 0) hx hb dX12_laysHidden_6 (by decide) ?_
  refine lv_istore (lv' := [(4, .int 0), (3, .int r_1), (0, .ref h0), (1, .int p0), (2, .int p1)]) hx hb dX12_laysHidden_7 hl_2 (by decide) rfl (fun ls_3 hl_3 => ?_)
  clear hl_2
  refine lv_iconst (v := 0) hx hb dX12_laysHidden_9 (by decide) ?_
  refine lv_istore (lv' := [(5, .int 0), (4, .int 0), (3, .int r_1), (0, .ref h0), (1, .int p0), (2, .int p1)]) hx hb dX12_laysHidden_10 hl_3 (by decide) rfl (fun ls_4 hl_4 => ?_)
  clear hl_3
  refine q_wl (fun (q : Int32 × Int32) H locs ls => match q with | (v12_5_0, v12_5_1) => ∃ v12_5_2 : Nat → Int32, ∃ v12_5_3 : Nat → Int32, ∃ v12_5_4 : Nat → Int32, ∃ v12_5_5 : Nat → Int32, (0 ≤ (v12_5_0).toInt ∧ (v12_5_0).toInt ≤ 1000) ∧ (0 ≤ (v12_5_1).toInt ∧ (v12_5_1).toInt ≤ 1000) ∧ RG v12_5_2 1000 0 999 ∧ v12_5_3 84 = p19 ∧ AL v12_5_3 ∧ (0 ≤ (v12_5_1 : Int32).toInt ∧ (v12_5_1 : Int32).toInt ≤ (v12_5_0 : Int32).toInt) ∧ qW D (va_A (wk_fa21f7301 cy h0 p2 h1 w0 w1 w2 p3 p4 p5 p6 p7 p8 p9 p10 p11 p12 p13 h2 h3 w3 w4 w5 p14 p15 w6 w7 w8 p16 p17 h4 w9 w10 w11 w12 p18 w13 w14 w15 h1 f0 h2 f1 h3 f2 h4 f3) sz) s.heap (wk_46a08b732 cy h2 v12_5_4 h3 v12_5_5 h4 v12_5_2 h0 p2 h1 w0 w1 w2 p3 p4 p5 p6 p7 p8 p9 p10 p11 p12 p13 h2 h3 w3 w4 w5 p14 p15 w6 w7 w8 p16 p17 h4 w9 w10 w11 w12 p18 w13 w14 w15 h1 v12_5_3) H locs ∧ lv_has ls 6 [(0, .ref h0), (1, .int p0), (2, .int p1), (3, .int r_1), (4, .int v12_5_1), (5, .int v12_5_0)]) (fun (q : Int32 × Int32) => match q with | (v12_5_0, v12_5_1) => (1001 - (v12_5_0).toInt).toNat) (fun q_12 ih_12 H locs ls hP => ?_) (0, 0) ⟨f3, f0, f1, f2, ⟨by decide +kernel, by decide +kernel⟩, ⟨by decide +kernel, by decide +kernel⟩, (rg_wide rf3 (by decide) (by decide)), htf0_84, rf0, (by have q0 : (0 : Int32).toInt = 0 := (by decide); omega), h_1, (lv_sub hl_4 [3, 4, 5, 2, 1, 0] rfl)⟩
  obtain ⟨v12_5_0, v12_5_1⟩ := q_12
  obtain ⟨v12_5_2, v12_5_3, v12_5_4, v12_5_5, hv12_5_0, hv12_5_1, rv12_5_2, trv12_5_3_84, rv12_5_3, x6_0, h, hl⟩ := hP
  refine lv_iload hx hb dX12_laysHidden_12 (lv_at hl 5 rfl) ?_
  refine lv_sipush (v := 1000) hx hb dX12_laysHidden_14 (by decide) ?_
  refine lv_icmp_ge (tgt := 52) hx hb dX12_laysHidden_17 (by decide) (fun c_7 => ?_) (fun c_7 => ?_)
  · replace c_7 := i_le (x := 1000) (y := v12_5_0) (show (1000 : Int32).toInt = 1000 by decide) rfl c_7
    refine lv_aload_n hx hb dX12_laysHidden_52 rfl (lv_at hl 0 rfl) ?_
    refine lv_iload_n hx hb dX12_laysHidden_53 rfl (lv_at hl 1 rfl) ?_
    refine lv_iload_n hx hb dX12_laysHidden_54 rfl (lv_at hl 3 rfl) ?_
    refine q_callVv (rest := []) (wr := (wk_8024bc26d cy h2 v12_5_4 h3 v12_5_5 h4 v12_5_2)) X hK hT hA h (fun sz => gX12_puts_2de0910 l D cy h0 h1 p0 r_1 p2 w0 w1 w2 p3 p4 p5 p6 p7 p8 p9 p10 p11 p12 p13 (.ref h2) (.ref h3) w3 w4 w5 p14 p15 w6 w7 w8 p16 p17 (.ref h4) w9 w10 w11 w12 p18 w13 w14 w15 v12_5_3 p19 hp0 wr_1 hp2 hp3 hp4 hp5 hp6 (i_rng _) hp8 (i_rng _) (i_rng _) (i_rng _) (i_rng _) (i_rng _) (i_rng _) (i_rng _) (i_rng _) (i_rng _) (i_rng _) hp19 trv12_5_3_84 rv12_5_3 sz) wm_7_176 wm_7_179 wm_1_12 hd_X12_puts wm_7_178 wp_7_11 (ci := 12) (q0 := 0) rfl rfl ⟨Nat.le_of_ble_eq_true rfl, Nat.le_of_ble_eq_true rfl⟩ hl.1 rfl (Nat.le_of_ble_eq_true rfl) dX12_laysHidden_55 ⟨Nat.le_of_ble_eq_true rfl, Nat.le_of_ble_eq_true rfl⟩ [3, 4] [0, 1, 2] rfl rfl (by decide) rfl rfl (fun u_8 H locs w_8 h_8 => ?_)
    clear h
    obtain ⟨w8_0, w8_1, _⟩ := w_8
    replace h_8 : qW D _ _ (wk_46a08b732 cy h2 v12_5_4 h3 v12_5_5 h4 v12_5_2 h0 p2 h1 w0 w1 w2 p3 p4 p5 p6 p7 p8 p9 p10 p11 p12 p13 h2 h3 w3 w4 w5 p14 p15 w6 w7 w8 p16 p17 h4 w9 w10 w11 w12 p18 w13 w14 w15 h1 (u_8.2.1 0)) _ _ := h_8
    refine lv_iload hx hb dX12_laysHidden_58 (lv_at hl 4 rfl) ?_
    exact q_iret X hr hlk hK h_8 rfl (fun _ => 0, (vcons v12_5_4 (vcons v12_5_5 (vcons v12_5_2 (vcons (u_8.2.1 0) (fun _ => (fun _ => 0)))))), fun _ _ => 0) ⟨hv12_5_1, (rg_wide rv12_5_2 (by decide) (by decide)), w8_0, w8_1, trivial⟩ [3, 4, 0, 1, 2] rfl rfl dX12_laysHidden_60 (Nat.le_of_ble_eq_true rfl) (Nat.le_of_ble_eq_true rfl)
  · replace c_7 := i_nle (x := 1000) (y := v12_5_0) (show (1000 : Int32).toInt = 1000 by decide) rfl c_7
    refine lv_aload_n hx hb dX12_laysHidden_20 rfl (lv_at hl 0 rfl) ?_
    refine lv_iload_n hx hb dX12_laysHidden_21 rfl (lv_at hl 1 rfl) ?_
    refine lv_iload_n hx hb dX12_laysHidden_22 rfl (lv_at hl 2 rfl) ?_
    refine lv_iload hx hb dX12_laysHidden_23 (lv_at hl 5 rfl) ?_
    refine q_callVi (rest := []) (wr := [(h4, .inl (cy 1, 1000, .inl v12_5_2))]) X hK hT hA h (fun sz => gX12_fits_c2178b6 l D cy h0 h1 h2 h3 p0 p1 v12_5_0 p2 w0 w1 w2 p3 p4 p5 p6 p7 p8 p9 p10 p11 p12 p13 w3 w4 w5 p14 p15 w6 w7 w8 p16 p17 (.ref h4) w9 w10 w11 w12 p18 w13 w14 w15 v12_5_3 p19 v12_5_4 v12_5_5 hp0 (i_rng _) ⟨by omega, by omega⟩ hp2 hp3 hp4 hp5 hp6 (i_rng _) hp8 (i_rng _) (i_rng _) (i_rng _) (i_rng _) (i_rng _) (i_rng _) (i_rng _) (i_rng _) (i_rng _) (i_rng _) hp19 trv12_5_3_84 rv12_5_3 sz) wm_7_231 wm_7_234 wm_1_12 hd_X12_fits wm_7_233 wp_8_1 (ci := 12) (q0 := 0) rfl rfl ⟨Nat.le_of_ble_eq_true rfl, Nat.le_of_ble_eq_true rfl⟩ hl.1 rfl (Nat.le_of_ble_eq_true rfl) dX12_laysHidden_25 ⟨Nat.le_of_ble_eq_true rfl, Nat.le_of_ble_eq_true rfl⟩ [3, 4, 0, 1] [2] rfl rfl (by decide) rfl rfl (fun r_9 u_9 H locs w_9 h_9 => ?_)
    clear h
    obtain ⟨wr_9, w9_0, w9_1, _⟩ := w_9
    replace h_9 : qW D _ _ (wk_94071089f cy h4 v12_5_2 h0 p2 h1 w0 w1 w2 p3 p4 p5 p6 p7 p8 p9 p10 p11 p12 p13 h2 h3 w3 w4 w5 p14 p15 w6 w7 w8 p16 p17 h4 w9 w10 w11 w12 p18 w13 w14 w15 h1 (u_9.2.1 2) h2 (u_9.2.1 0) h3 (u_9.2.1 1)) _ _ := h_9
    refine q_jn (pc2 := 46) (fun H locs ls st => ∃ v46_10_0 : Int32, ∃ v46_10_1 : Nat → Int32, (0 ≤ (v46_10_0).toInt ∧ (v46_10_0).toInt ≤ 1001) ∧ RG v46_10_1 1000 0 999 ∧ ((v46_10_0 : Int32).toInt ≤ (v12_5_0 : Int32).toInt + 1) ∧ st = [] ∧ qW D (va_A (wk_fa21f7301 cy h0 p2 h1 w0 w1 w2 p3 p4 p5 p6 p7 p8 p9 p10 p11 p12 p13 h2 h3 w3 w4 w5 p14 p15 w6 w7 w8 p16 p17 h4 w9 w10 w11 w12 p18 w13 w14 w15 h1 f0 h2 f1 h3 f2 h4 f3) sz) s.heap (wk_94071089f cy h4 v46_10_1 h0 p2 h1 w0 w1 w2 p3 p4 p5 p6 p7 p8 p9 p10 p11 p12 p13 h2 h3 w3 w4 w5 p14 p15 w6 w7 w8 p16 p17 h4 w9 w10 w11 w12 p18 w13 w14 w15 h1 (u_9.2.1 2) h2 (u_9.2.1 0) h3 (u_9.2.1 1)) H locs ∧ lv_has ls 6 [(0, .ref h0), (1, .int p0), (2, .int p1), (3, .int r_1), (4, .int v46_10_0), (5, .int v12_5_0)]) (fun H locs ls st hP => ?_) (fun J_46 => ?_)
    · obtain ⟨v46_10_0, v46_10_1, hv46_10_0, rv46_10_1, x11_0, rfl, h, hl⟩ := hP
      obtain ⟨z_12, ez_12, hz_12⟩ := e_add (x := v12_5_0) (y := Int32.ofInt 1) rfl (b := 1) (by decide) (by omega) (by omega)
      refine lv_iinc (v := z_12) (lv' := [(5, .int z_12), (0, .ref h0), (1, .int p0), (2, .int p1), (3, .int r_1), (4, .int v46_10_0)]) hx hb dX12_laysHidden_46 hl (k := 5) rfl ez_12 (by decide) rfl (fun ls_12 hl_12 => ?_)
      clear hl
      refine lv_goto (tgt := 12) hx hb dX12_laysHidden_49 (by decide) ?_
      exact ih_12 (z_12, v46_10_0) (by show (1001 - (z_12).toInt).toNat < (1001 - (v12_5_0).toInt).toNat; omega) _ _ _ ⟨v46_10_1, (u_9.2.1 2), (u_9.2.1 0), (u_9.2.1 1), ⟨by omega, by omega⟩, ⟨by omega, by omega⟩, (rg_wide rv46_10_1 (by decide) (by decide)), w9_1, w9_0, (by omega), (q_re h [3, 4, 0, 1, 2] rfl rfl), (lv_sub hl_12 [1, 2, 3, 4, 5, 0] rfl)⟩
    · skip
      refine lv_if_ne (tgt := 34) hx hb dX12_laysHidden_28 (by decide) (fun c_13 => ?_) (fun c_13 => ?_)
      · replace c_13 := i_ne (x := r_9) (y := 0) rfl (show (0 : Int32).toInt = 0 by decide) c_13
        refine lv_aload_n hx hb dX12_laysHidden_34 rfl (lv_at hl 0 rfl) ?_
        refine q_get X hK h_9 1 rfl rfl wf_12 28 (by decide) rfl wm_5_198 dX12_laysHidden_35 ?_
        refine lv_iload hx hb dX12_laysHidden_38 (lv_at hl 4 rfl) ?_
        refine lv_iload hx hb dX12_laysHidden_40 (lv_at hl 5 rfl) ?_
        refine q_iast X hK h_9 0 rfl (i_in rfl (by omega) (by omega)) dX12_laysHidden_42 (fun H locs h_15 => ?_)
        clear h_9
        replace h_15 : qW D _ _ (wk_94071089f cy h4 (upd v12_5_2 (Int32.toNatClampNeg v12_5_1) v12_5_0) h0 p2 h1 w0 w1 w2 p3 p4 p5 p6 p7 p8 p9 p10 p11 p12 p13 h2 h3 w3 w4 w5 p14 p15 w6 w7 w8 p16 p17 h4 w9 w10 w11 w12 p18 w13 w14 w15 h1 (u_9.2.1 2) h2 (u_9.2.1 0) h3 (u_9.2.1 1)) _ _ := h_15
        obtain ⟨F_14, eF_14, rF_14⟩ := rg_upd rv12_5_2 (Int32.toNatClampNeg v12_5_1) (x := v12_5_0) rfl (by omega) (by omega)
        rw [eF_14] at h_15
        clear eF_14
        obtain ⟨z_16, ez_16, hz_16⟩ := e_add (x := v12_5_1) (y := Int32.ofInt 1) rfl (b := 1) (by decide) (by omega) (by omega)
        refine lv_iinc (v := z_16) (lv' := [(4, .int z_16), (0, .ref h0), (1, .int p0), (2, .int p1), (3, .int r_1), (5, .int v12_5_0)]) hx hb dX12_laysHidden_43 hl (k := 4) rfl ez_16 (by decide) rfl (fun ls_16 hl_16 => ?_)
        clear hl
        exact J_46 _ _ _ _ ⟨z_16, F_14, ⟨by omega, by omega⟩, (rg_wide rF_14 (by decide) (by decide)), (by omega), rfl, h_15, (lv_sub hl_16 [1, 2, 3, 4, 0, 5] rfl)⟩
      · replace c_13 := i_eq (x := r_9) (y := 0) rfl (show (0 : Int32).toInt = 0 by decide) c_13
        refine lv_goto (tgt := 46) hx hb dX12_laysHidden_31 (by decide) ?_
        exact J_46 _ _ _ _ ⟨v12_5_1, v12_5_2, (bw hv12_5_1 (by decide) (by decide)), (rg_wide rv12_5_2 (by decide) (by decide)), (by omega), rfl, h_9, (lv_sub hl [0, 1, 2, 3, 4, 5] rfl)⟩
set_option maxHeartbeats 4000000 in
set_option maxRecDepth 100000 in
theorem gX12_hidden_fd71e35 (l : Launch) (D : va_G) (cy : Nat → ClassId) (h0 : Nat) (h1 : Nat) (h2 : Nat) (h3 : Nat) (h4 : Nat) (p0 : Int32) (p1 : Int32) (p2 : Int32) (w0 : Value) (w1 : Value) (w2 : Value) (p3 : Int32) (p4 : Int32) (p5 : Int32) (p6 : Int32) (p7 : Int32) (p8 : Int32) (p9 : Int32) (p10 : Int32) (p11 : Int32) (p12 : Int32) (p13 : Int32) (w3 : Value) (w4 : Value) (w5 : Value) (p14 : Int32) (p15 : Int32) (w6 : Value) (w7 : Value) (w8 : Value) (p16 : Int32) (p17 : Int32) (w9 : Value) (w10 : Value) (w11 : Value) (w12 : Value) (p18 : Int32) (w13 : Value) (w14 : Value) (w15 : Value) (f0 : Nat → Int32) (p19 : Int32) (f1 : Nat → Int32) (f2 : Nat → Int32) (f3 : Nat → Int32) (hp0 : (-2147483648) ≤ (p0).toInt ∧ (p0).toInt ≤ 2147483647) (hp1 : (-2147483648) ≤ (p1).toInt ∧ (p1).toInt ≤ 2147483647) (hp2 : (-2147483648) ≤ (p2).toInt ∧ (p2).toInt ≤ 2147483647) (hp3 : 0 ≤ (p3).toInt ∧ (p3).toInt ≤ 900) (hp4 : 0 ≤ (p4).toInt ∧ (p4).toInt ≤ 900) (hp5 : 0 ≤ (p5).toInt ∧ (p5).toInt ≤ 900) (hp6 : 0 ≤ (p6).toInt ∧ (p6).toInt ≤ 900) (hp7 : (-2147483648) ≤ (p7).toInt ∧ (p7).toInt ≤ 2147483647) (hp8 : 0 ≤ (p8).toInt ∧ (p8).toInt ≤ 999) (hp9 : (-2147483648) ≤ (p9).toInt ∧ (p9).toInt ≤ 2147483647) (hp10 : (-2147483648) ≤ (p10).toInt ∧ (p10).toInt ≤ 2147483647) (hp11 : (-2147483648) ≤ (p11).toInt ∧ (p11).toInt ≤ 2147483647) (hp12 : (-2147483648) ≤ (p12).toInt ∧ (p12).toInt ≤ 2147483647) (hp13 : (-2147483648) ≤ (p13).toInt ∧ (p13).toInt ≤ 2147483647) (hp14 : (-2147483648) ≤ (p14).toInt ∧ (p14).toInt ≤ 2147483647) (hp15 : (-2147483648) ≤ (p15).toInt ∧ (p15).toInt ≤ 2147483647) (hp16 : (-2147483648) ≤ (p16).toInt ∧ (p16).toInt ≤ 2147483647) (hp17 : (-2147483648) ≤ (p17).toInt ∧ (p17).toInt ≤ 2147483647) (hp18 : (-2147483648) ≤ (p18).toInt ∧ (p18).toInt ≤ 2147483647) (hp19 : 0 ≤ (p19).toInt ∧ (p19).toInt ≤ 10) (htf0_84 : f0 84 = p19) (rf0 : AL f0) (rf3 : RG f3 1000 0 999) (sz : Nat) : MI l yX12_hidden cX12_hidden 4 .int { frames := 5, cells := 0, slots := 0, locals := 121 } [.ref h0, .int p0, .int p1] D cy (wk_fa21f7301 cy h0 p2 h1 w0 w1 w2 p3 p4 p5 p6 p7 p8 p9 p10 p11 p12 p13 h2 h3 w3 w4 w5 p14 p15 w6 w7 w8 p16 p17 h4 w9 w10 w11 w12 p18 w13 w14 w15 h1 f0 h2 f1 h3 f2 h4 f3) sz (fun r u => ((-3) ≤ r.toInt ∧ r.toInt ≤ 1000) ∧ RG (u.2.1 2) 1000 0 999 ∧ (0 ≤ (u.2.1 3 0).toInt ∧ (u.2.1 3 0).toInt ≤ 0) ∧ AL (u.2.1 4) ∧ (u.2.1 4) 84 = p19 ∧ True) (fun u => (wk_fa21f7301 cy h0 (u.2.1 3 0) h1 w0 w1 w2 p3 p4 p5 p6 p7 p8 p9 p10 p11 p12 p13 h2 h3 w3 w4 w5 p14 p15 w6 w7 w8 p16 p17 h4 w9 w10 w11 w12 p18 w13 w14 w15 h1 (u.2.1 4) h2 (u.2.1 0) h3 (u.2.1 1) h4 (u.2.1 2))) 0 0 := by
  refine q_ent (own := RX12) (by decide) rfl (Nat.le_of_ble_eq_true rfl) (fun p e s m below meth c ls X hr hlk hnm hK hT h hA hl => ?_)
  obtain ⟨hx, hb, hml, hown, ht⟩ := id X
  replace hl : lv_has ls 4 [(0, .ref h0), (1, .int p0), (2, .int p1)] := hl
  refine lv_aload_n hx hb dX12_hidden_0 rfl (lv_at hl 0 rfl) ?_
  refine lv_iconst (v := 0) hx hb dX12_hidden_1 (by decide) ?_
  refine q_put (v := .int 0) X hK h 0 rfl rfl wf_12 tyX12 tyX12_ok nmX12 0 (by decide) wm_5_170 rfl rfl rfl (Nat.le_of_ble_eq_true rfl) dX12_hidden_2 (fun H locs h_1 => ?_)
  clear h
  replace h_1 : qW D _ _ (wk_fa21f7301 cy h0 0 h1 w0 w1 w2 p3 p4 p5 p6 p7 p8 p9 p10 p11 p12 p13 h2 h3 w3 w4 w5 p14 p15 w6 w7 w8 p16 p17 h4 w9 w10 w11 w12 p18 w13 w14 w15 h1 f0 h2 f1 h3 f2 h4 f3) _ _ := h_1
  refine lv_aload_n hx hb dX12_hidden_5 rfl (lv_at hl 0 rfl) ?_
  refine lv_iload_n hx hb dX12_hidden_6 rfl (lv_at hl 1 rfl) ?_
  refine lv_iload_n hx hb dX12_hidden_7 rfl (lv_at hl 2 rfl) ?_
  refine q_callVi (rest := []) (wr := (wk_8024bc26d cy h2 f1 h3 f2 h4 f3)) X hK hT hA h_1 (fun sz => gX12_noHidden_6db733f l D cy h0 h1 p0 p1 (0 : Int32) w0 w1 w2 p3 p4 p5 p6 p7 p8 p9 p10 p11 p12 p13 (.ref h2) (.ref h3) w3 w4 w5 p14 p15 w6 w7 w8 p16 p17 (.ref h4) w9 w10 w11 w12 p18 w13 w14 w15 f0 p19 (i_rng _) (i_rng _) ⟨by decide +kernel, by decide +kernel⟩ hp3 hp4 hp5 hp6 (i_rng _) hp8 (i_rng _) (i_rng _) (i_rng _) (i_rng _) (i_rng _) (i_rng _) (i_rng _) (i_rng _) (i_rng _) (i_rng _) hp19 htf0_84 rf0 sz) wm_7_223 wm_7_226 wm_1_12 hd_X12_noHidden wm_7_225 wp_7_15 (ci := 12) (q0 := 0) rfl rfl ⟨Nat.le_of_ble_eq_true rfl, Nat.le_of_ble_eq_true rfl⟩ hl.1 rfl (Nat.le_of_ble_eq_true rfl) dX12_hidden_8 ⟨Nat.le_of_ble_eq_true rfl, Nat.le_of_ble_eq_true rfl⟩ [0, 1] [2, 3, 4] rfl rfl (by decide) rfl rfl (fun r_2 u_2 H locs w_2 h_2 => ?_)
  clear h_1
  obtain ⟨wr_2, y2_0, _⟩ := w_2
  replace h_2 : qW D _ _ (wk_46a08b732 cy h2 f1 h3 f2 h4 f3 h0 0 h1 w0 w1 w2 p3 p4 p5 p6 p7 p8 p9 p10 p11 p12 p13 h2 h3 w3 w4 w5 p14 p15 w6 w7 w8 p16 p17 h4 w9 w10 w11 w12 p18 w13 w14 w15 h1 f0) _ _ := h_2
  refine lv_istore_n (lv' := [(3, .int r_2), (0, .ref h0), (1, .int p0), (2, .int p1)]) hx hb dX12_hidden_11 rfl hl (by decide) rfl (fun ls_3 hl_3 => ?_)
  clear hl
  refine lv_iload_n hx hb dX12_hidden_12 rfl (lv_at hl_3 0 rfl) ?_
  refine q_jn (pc2 := 26) (fun H locs ls st => ∃ v26_4_4 : Int32, ∃ v26_4_0 : Nat → Int32, ∃ v26_4_1 : Nat → Int32, ∃ v26_4_2 : Nat → Int32, ∃ v26_4_3 : Nat → Int32, ((-3) ≤ (v26_4_4).toInt ∧ (v26_4_4).toInt ≤ 1000) ∧ v26_4_0 84 = p19 ∧ AL v26_4_0 ∧ RG v26_4_3 1000 0 999 ∧ st = [.int v26_4_4] ∧ qW D (va_A (wk_fa21f7301 cy h0 p2 h1 w0 w1 w2 p3 p4 p5 p6 p7 p8 p9 p10 p11 p12 p13 h2 h3 w3 w4 w5 p14 p15 w6 w7 w8 p16 p17 h4 w9 w10 w11 w12 p18 w13 w14 w15 h1 f0 h2 f1 h3 f2 h4 f3) sz) s.heap (wk_46a08b732 cy h2 v26_4_1 h3 v26_4_2 h4 v26_4_3 h0 0 h1 w0 w1 w2 p3 p4 p5 p6 p7 p8 p9 p10 p11 p12 p13 h2 h3 w3 w4 w5 p14 p15 w6 w7 w8 p16 p17 h4 w9 w10 w11 w12 p18 w13 w14 w15 h1 v26_4_0) H locs ∧ lv_has ls 4 [(0, .ref h0), (1, .int p0), (2, .int p1), (3, .int r_2)]) (fun H locs ls st hP => ?_) (fun J_26 => ?_)
  · obtain ⟨v26_4_4, v26_4_0, v26_4_1, v26_4_2, v26_4_3, hv26_4_4, trv26_4_0_84, rv26_4_0, rv26_4_3, rfl, h, hl⟩ := hP
    exact q_iret X hr hlk hK h rfl (fun _ => 0, (vcons v26_4_1 (vcons v26_4_2 (vcons v26_4_3 (vcons (fun _ => 0) (vcons v26_4_0 (fun _ => (fun _ => 0))))))), fun _ _ => 0) ⟨hv26_4_4, (rg_wide rv26_4_3 (by decide) (by decide)), (⟨by decide +kernel, by decide +kernel⟩ : 0 ≤ (0 : Int32).toInt ∧ (0 : Int32).toInt ≤ 0), rv26_4_0, trv26_4_0_84, trivial⟩ [3, 4, 0, 1, 2] rfl rfl dX12_hidden_26 (Nat.le_of_ble_eq_true rfl) (Nat.le_of_ble_eq_true rfl)
  · skip
    refine lv_if_eq (tgt := 20) hx hb dX12_hidden_13 (by decide) (fun c_5 => ?_) (fun c_5 => ?_)
    · replace c_5 := i_eq (x := r_2) (y := 0) rfl (show (0 : Int32).toInt = 0 by decide) c_5
      refine lv_aload_n hx hb dX12_hidden_20 rfl (lv_at hl_3 1 rfl) ?_
      refine lv_iload_n hx hb dX12_hidden_21 rfl (lv_at hl_3 2 rfl) ?_
      refine lv_iload_n hx hb dX12_hidden_22 rfl (lv_at hl_3 3 rfl) ?_
      refine q_callVi (rest := []) (wr := []) X hK hT hA h_2 (fun sz => gX12_laysHidden_bb1e8ce l D cy h0 h1 h2 h3 h4 p0 p1 (0 : Int32) w0 w1 w2 p3 p4 p5 p6 p7 p8 p9 p10 p11 p12 p13 w3 w4 w5 p14 p15 w6 w7 w8 p16 p17 w9 w10 w11 w12 p18 w13 w14 w15 f0 p19 f1 f2 f3 ⟨by omega, by omega⟩ (i_rng _) ⟨by decide +kernel, by decide +kernel⟩ hp3 hp4 hp5 hp6 (i_rng _) hp8 (i_rng _) (i_rng _) (i_rng _) (i_rng _) (i_rng _) (i_rng _) (i_rng _) (i_rng _) (i_rng _) (i_rng _) hp19 htf0_84 rf0 (rg_wide rf3 (by decide) (by decide)) sz) wm_7_227 wm_7_230 wm_1_12 hd_X12_laysHidden wm_7_229 wp_8_0 (ci := 12) (q0 := 0) rfl rfl ⟨Nat.le_of_ble_eq_true rfl, Nat.le_of_ble_eq_true rfl⟩ hl_3.1 rfl (Nat.le_of_ble_eq_true rfl) dX12_hidden_23 ⟨Nat.le_of_ble_eq_true rfl, Nat.le_of_ble_eq_true rfl⟩ [3, 4, 0, 1, 2] [] rfl rfl (by decide) rfl rfl (fun r_6 u_6 H locs w_6 h_6 => ?_)
      clear h_2
      obtain ⟨wr_6, w6_0, w6_1, w6_2, _⟩ := w_6
      replace h_6 : qW D _ _ (wk_fa21f7301 cy h0 0 h1 w0 w1 w2 p3 p4 p5 p6 p7 p8 p9 p10 p11 p12 p13 h2 h3 w3 w4 w5 p14 p15 w6 w7 w8 p16 p17 h4 w9 w10 w11 w12 p18 w13 w14 w15 h1 (u_6.2.1 3) h2 (u_6.2.1 0) h3 (u_6.2.1 1) h4 (u_6.2.1 2)) _ _ := h_6
      exact J_26 _ _ _ _ ⟨r_6, (u_6.2.1 3), (u_6.2.1 0), (u_6.2.1 1), (u_6.2.1 2), (bw wr_6 (by decide) (by decide)), w6_2, w6_1, (rg_wide w6_0 (by decide) (by decide)), rfl, (q_re h_6 [2, 3, 4, 0, 1] rfl rfl), (lv_sub hl_3 [1, 2, 3, 0] rfl)⟩
    · replace c_5 := i_ne (x := r_2) (y := 0) rfl (show (0 : Int32).toInt = 0 by decide) c_5
      refine lv_iload_n hx hb dX12_hidden_16 rfl (lv_at hl_3 0 rfl) ?_
      refine lv_goto (tgt := 26) hx hb dX12_hidden_17 (by decide) ?_
      exact J_26 _ _ _ _ ⟨r_2, f0, f1, f2, f3, (bw wr_2 (by decide) (by decide)), htf0_84, rf0, (rg_wide rf3 (by decide) (by decide)), rfl, h_2, (lv_sub hl_3 [1, 2, 3, 0] rfl)⟩
set_option maxHeartbeats 4000000 in
set_option maxRecDepth 100000 in
theorem gX12_hiddenAt_9b80646 (l : Launch) (D : va_G) (cy : Nat → ClassId) (h0 : Nat) (h1 : Nat) (h2 : Nat) (h3 : Nat) (h4 : Nat) (p0 : Int32) (p1 : Int32) (p2 : Int32) (p3 : Int32) (w0 : Value) (w1 : Value) (w2 : Value) (p4 : Int32) (p5 : Int32) (p6 : Int32) (p7 : Int32) (p8 : Int32) (p9 : Int32) (p10 : Int32) (p11 : Int32) (p12 : Int32) (p13 : Int32) (p14 : Int32) (w3 : Value) (w4 : Value) (w5 : Value) (p15 : Int32) (p16 : Int32) (w6 : Value) (w7 : Value) (w8 : Value) (p17 : Int32) (p18 : Int32) (w9 : Value) (w10 : Value) (w11 : Value) (w12 : Value) (p19 : Int32) (w13 : Value) (w14 : Value) (w15 : Value) (f0 : Nat → Int32) (p20 : Int32) (f1 : Nat → Int32) (f2 : Nat → Int32) (f3 : Nat → Int32) (hp0 : (-2147483648) ≤ (p0).toInt ∧ (p0).toInt ≤ 2147483647) (hp1 : (-2147483648) ≤ (p1).toInt ∧ (p1).toInt ≤ 2147483647) (hp2 : (-2147483648) ≤ (p2).toInt ∧ (p2).toInt ≤ 2147483647) (hp3 : (-2147483648) ≤ (p3).toInt ∧ (p3).toInt ≤ 2147483647) (hp4 : 0 ≤ (p4).toInt ∧ (p4).toInt ≤ 900) (hp5 : 0 ≤ (p5).toInt ∧ (p5).toInt ≤ 900) (hp6 : 0 ≤ (p6).toInt ∧ (p6).toInt ≤ 900) (hp7 : 0 ≤ (p7).toInt ∧ (p7).toInt ≤ 900) (hp8 : (-2147483648) ≤ (p8).toInt ∧ (p8).toInt ≤ 2147483647) (hp9 : 0 ≤ (p9).toInt ∧ (p9).toInt ≤ 999) (hp10 : (-2147483648) ≤ (p10).toInt ∧ (p10).toInt ≤ 2147483647) (hp11 : (-2147483648) ≤ (p11).toInt ∧ (p11).toInt ≤ 2147483647) (hp12 : (-2147483648) ≤ (p12).toInt ∧ (p12).toInt ≤ 2147483647) (hp13 : (-2147483648) ≤ (p13).toInt ∧ (p13).toInt ≤ 2147483647) (hp14 : (-2147483648) ≤ (p14).toInt ∧ (p14).toInt ≤ 2147483647) (hp15 : (-2147483648) ≤ (p15).toInt ∧ (p15).toInt ≤ 2147483647) (hp16 : (-2147483648) ≤ (p16).toInt ∧ (p16).toInt ≤ 2147483647) (hp17 : (-2147483648) ≤ (p17).toInt ∧ (p17).toInt ≤ 2147483647) (hp18 : (-2147483648) ≤ (p18).toInt ∧ (p18).toInt ≤ 2147483647) (hp19 : (-2147483648) ≤ (p19).toInt ∧ (p19).toInt ≤ 2147483647) (hp20 : 0 ≤ (p20).toInt ∧ (p20).toInt ≤ 10) (htf0_84 : f0 84 = p20) (rf0 : AL f0) (rf3 : RG f3 1000 0 999) (sz : Nat) : MI l yX12_hiddenAt cX12_hiddenAt 5 .int { frames := 5, cells := 0, slots := 0, locals := 121 } [.ref h0, .int p0, .int p1, .int p2] D cy (wk_fa21f7301 cy h0 p3 h1 w0 w1 w2 p4 p5 p6 p7 p8 p9 p10 p11 p12 p13 p14 h2 h3 w3 w4 w5 p15 p16 w6 w7 w8 p17 p18 h4 w9 w10 w11 w12 p19 w13 w14 w15 h1 f0 h2 f1 h3 f2 h4 f3) sz (fun r u => ((-3) ≤ r.toInt ∧ r.toInt ≤ 999) ∧ (0 ≤ (u.2.1 0 0).toInt ∧ (u.2.1 0 0).toInt ≤ 0) ∧ AL (u.2.1 1) ∧ RG (u.2.1 4) 1000 0 999 ∧ (u.2.1 1) 84 = p20 ∧ True) (fun u => (wk_fa21f7301 cy h0 (u.2.1 0 0) h1 w0 w1 w2 p4 p5 p6 p7 p8 p9 p10 p11 p12 p13 p14 h2 h3 w3 w4 w5 p15 p16 w6 w7 w8 p17 p18 h4 w9 w10 w11 w12 p19 w13 w14 w15 h1 (u.2.1 1) h2 (u.2.1 2) h3 (u.2.1 3) h4 (u.2.1 4))) 0 0 := by
  refine q_ent (own := RX12) (by decide) rfl (Nat.le_of_ble_eq_true rfl) (fun p e s m below meth c ls X hr hlk hnm hK hT h hA hl => ?_)
  obtain ⟨hx, hb, hml, hown, ht⟩ := id X
  replace hl : lv_has ls 5 [(0, .ref h0), (1, .int p0), (2, .int p1), (3, .int p2)] := hl
  refine lv_aload_n hx hb dX12_hiddenAt_0 rfl (lv_at hl 0 rfl) ?_
  refine lv_iconst (v := 0) hx hb dX12_hiddenAt_1 (by decide) ?_
  refine q_put (v := .int 0) X hK h 0 rfl rfl wf_12 tyX12 tyX12_ok nmX12 0 (by decide) wm_5_170 rfl rfl rfl (Nat.le_of_ble_eq_true rfl) dX12_hiddenAt_2 (fun H locs h_1 => ?_)
  clear h
  replace h_1 : qW D _ _ (wk_fa21f7301 cy h0 0 h1 w0 w1 w2 p4 p5 p6 p7 p8 p9 p10 p11 p12 p13 p14 h2 h3 w3 w4 w5 p15 p16 w6 w7 w8 p17 p18 h4 w9 w10 w11 w12 p19 w13 w14 w15 h1 f0 h2 f1 h3 f2 h4 f3) _ _ := h_1
  refine lv_aload_n hx hb dX12_hiddenAt_5 rfl (lv_at hl 0 rfl) ?_
  refine lv_iload_n hx hb dX12_hiddenAt_6 rfl (lv_at hl 1 rfl) ?_
  refine lv_iload_n hx hb dX12_hiddenAt_7 rfl (lv_at hl 2 rfl) ?_
  refine q_callVi (rest := []) (wr := (wk_8024bc26d cy h2 f1 h3 f2 h4 f3)) X hK hT hA h_1 (fun sz => gX12_noHidden_6db733f l D cy h0 h1 p0 p1 (0 : Int32) w0 w1 w2 p4 p5 p6 p7 p8 p9 p10 p11 p12 p13 p14 (.ref h2) (.ref h3) w3 w4 w5 p15 p16 w6 w7 w8 p17 p18 (.ref h4) w9 w10 w11 w12 p19 w13 w14 w15 f0 p20 (i_rng _) (i_rng _) ⟨by decide +kernel, by decide +kernel⟩ hp4 hp5 hp6 hp7 (i_rng _) hp9 (i_rng _) (i_rng _) (i_rng _) (i_rng _) (i_rng _) (i_rng _) (i_rng _) (i_rng _) (i_rng _) (i_rng _) hp20 htf0_84 rf0 sz) wm_7_223 wm_7_226 wm_1_12 hd_X12_noHidden wm_7_225 wp_7_15 (ci := 12) (q0 := 0) rfl rfl ⟨Nat.le_of_ble_eq_true rfl, Nat.le_of_ble_eq_true rfl⟩ hl.1 rfl (Nat.le_of_ble_eq_true rfl) dX12_hiddenAt_8 ⟨Nat.le_of_ble_eq_true rfl, Nat.le_of_ble_eq_true rfl⟩ [0, 1] [2, 3, 4] rfl rfl (by decide) rfl rfl (fun r_2 u_2 H locs w_2 h_2 => ?_)
  clear h_1
  obtain ⟨wr_2, y2_0, _⟩ := w_2
  replace h_2 : qW D _ _ (wk_46a08b732 cy h2 f1 h3 f2 h4 f3 h0 0 h1 w0 w1 w2 p4 p5 p6 p7 p8 p9 p10 p11 p12 p13 p14 h2 h3 w3 w4 w5 p15 p16 w6 w7 w8 p17 p18 h4 w9 w10 w11 w12 p19 w13 w14 w15 h1 f0) _ _ := h_2
  refine lv_istore (lv' := [(4, .int r_2), (0, .ref h0), (1, .int p0), (2, .int p1), (3, .int p2)]) hx hb dX12_hiddenAt_11 hl (by decide) rfl (fun ls_3 hl_3 => ?_)
  clear hl
  refine lv_iload hx hb dX12_hiddenAt_13 (lv_at hl_3 0 rfl) ?_
  refine lv_if_eq (tgt := 21) hx hb dX12_hiddenAt_15 (by decide) (fun c_4 => ?_) (fun c_4 => ?_)
  · replace c_4 := i_eq (x := r_2) (y := 0) rfl (show (0 : Int32).toInt = 0 by decide) c_4
    refine lv_iload_n hx hb dX12_hiddenAt_21 rfl (lv_at hl_3 4 rfl) ?_
    refine lv_if_ge (tgt := 28) hx hb dX12_hiddenAt_22 (by decide) (fun c_5 => ?_) (fun c_5 => ?_)
    · replace c_5 := i_le (x := 0) (y := p2) (show (0 : Int32).toInt = 0 by decide) rfl c_5
      refine lv_iload_n hx hb dX12_hiddenAt_28 rfl (lv_at hl_3 4 rfl) ?_
      refine lv_aload_n hx hb dX12_hiddenAt_29 rfl (lv_at hl_3 1 rfl) ?_
      refine lv_iload_n hx hb dX12_hiddenAt_30 rfl (lv_at hl_3 2 rfl) ?_
      refine lv_iload_n hx hb dX12_hiddenAt_31 rfl (lv_at hl_3 3 rfl) ?_
      refine q_callVi (rest := [.int p2]) (wr := []) X hK hT hA h_2 (fun sz => gX12_laysHidden_bb1e8ce l D cy h0 h1 h2 h3 h4 p0 p1 (0 : Int32) w0 w1 w2 p4 p5 p6 p7 p8 p9 p10 p11 p12 p13 p14 w3 w4 w5 p15 p16 w6 w7 w8 p17 p18 w9 w10 w11 w12 p19 w13 w14 w15 f0 p20 f1 f2 f3 ⟨by omega, by omega⟩ (i_rng _) ⟨by decide +kernel, by decide +kernel⟩ hp4 hp5 hp6 hp7 (i_rng _) hp9 (i_rng _) (i_rng _) (i_rng _) (i_rng _) (i_rng _) (i_rng _) (i_rng _) (i_rng _) (i_rng _) (i_rng _) hp20 htf0_84 rf0 (rg_wide rf3 (by decide) (by decide)) sz) wm_7_227 wm_7_230 wm_1_12 hd_X12_laysHidden wm_7_229 wp_8_0 (ci := 12) (q0 := 0) rfl rfl ⟨Nat.le_of_ble_eq_true rfl, Nat.le_of_ble_eq_true rfl⟩ hl_3.1 rfl (Nat.le_of_ble_eq_true rfl) dX12_hiddenAt_32 ⟨Nat.le_of_ble_eq_true rfl, Nat.le_of_ble_eq_true rfl⟩ [3, 4, 0, 1, 2] [] rfl rfl (by decide) rfl rfl (fun r_6 u_6 H locs w_6 h_6 => ?_)
      clear h_2
      obtain ⟨wr_6, w6_0, w6_1, w6_2, _⟩ := w_6
      replace h_6 : qW D _ _ (wk_fa21f7301 cy h0 0 h1 w0 w1 w2 p4 p5 p6 p7 p8 p9 p10 p11 p12 p13 p14 h2 h3 w3 w4 w5 p15 p16 w6 w7 w8 p17 p18 h4 w9 w10 w11 w12 p19 w13 w14 w15 h1 (u_6.2.1 3) h2 (u_6.2.1 0) h3 (u_6.2.1 1) h4 (u_6.2.1 2)) _ _ := h_6
      refine q_jn (pc2 := 48) (fun H locs ls st => ∃ v48_7_0 : Int32, ((-1) ≤ (v48_7_0).toInt ∧ (v48_7_0).toInt ≤ 999) ∧ st = [.int v48_7_0] ∧ qW D (va_A (wk_fa21f7301 cy h0 p3 h1 w0 w1 w2 p4 p5 p6 p7 p8 p9 p10 p11 p12 p13 p14 h2 h3 w3 w4 w5 p15 p16 w6 w7 w8 p17 p18 h4 w9 w10 w11 w12 p19 w13 w14 w15 h1 f0 h2 f1 h3 f2 h4 f3) sz) s.heap (wk_fa21f7301 cy h0 0 h1 w0 w1 w2 p4 p5 p6 p7 p8 p9 p10 p11 p12 p13 p14 h2 h3 w3 w4 w5 p15 p16 w6 w7 w8 p17 p18 h4 w9 w10 w11 w12 p19 w13 w14 w15 h1 (u_6.2.1 3) h2 (u_6.2.1 0) h3 (u_6.2.1 1) h4 (u_6.2.1 2)) H locs ∧ lv_has ls 5 [(0, .ref h0), (1, .int p0), (2, .int p1), (3, .int p2), (4, .int r_2)]) (fun H locs ls st hP => ?_) (fun J_48 => ?_)
      · obtain ⟨v48_7_0, hv48_7_0, rfl, h, hl⟩ := hP
        exact q_iret X hr hlk hK h rfl (fun _ => 0, (vcons (fun _ => 0) (vcons (u_6.2.1 3) (vcons (u_6.2.1 0) (vcons (u_6.2.1 1) (vcons (u_6.2.1 2) (fun _ => (fun _ => 0))))))), fun _ _ => 0) ⟨(bw hv48_7_0 (by decide) (by decide)), (⟨by decide +kernel, by decide +kernel⟩ : 0 ≤ (0 : Int32).toInt ∧ (0 : Int32).toInt ≤ 0), w6_1, (rg_wide w6_0 (by decide) (by decide)), w6_2, trivial⟩ [0, 1, 2, 3, 4] rfl rfl dX12_hiddenAt_48 (Nat.le_of_ble_eq_true rfl) (Nat.le_of_ble_eq_true rfl)
      · skip
        refine lv_icmp_ge (tgt := 47) hx hb dX12_hiddenAt_35 (by decide) (fun c_8 => ?_) (fun c_8 => ?_)
        · replace c_8 := i_le (x := r_6) (y := p2) rfl rfl c_8
          refine lv_iconst (v := (-1)) hx hb dX12_hiddenAt_47 (by decide) ?_
          exact J_48 _ _ _ _ ⟨(-1), ⟨by decide +kernel, by decide +kernel⟩, rfl, h_6, (lv_sub hl_3 [1, 2, 3, 4, 0] rfl)⟩
        · replace c_8 := i_nle (x := r_6) (y := p2) rfl rfl c_8
          refine lv_aload_n hx hb dX12_hiddenAt_38 rfl (lv_at hl_3 1 rfl) ?_
          refine q_get X hK h_6 0 rfl rfl wf_12 28 (by decide) rfl wm_5_198 dX12_hiddenAt_39 ?_
          refine lv_iload_n hx hb dX12_hiddenAt_42 rfl (lv_at hl_3 4 rfl) ?_
          refine q_iald X hK h_6 4 rfl (i_in rfl (by omega) (by omega)) dX12_hiddenAt_43 ?_
          obtain ⟨z_9, ez_9, hz_9⟩ := rg_get w6_0 (x := p2) rfl (by omega) (by omega)
          refine q_c z_9 ez_9 ?_
          clear ez_9
          refine lv_goto (tgt := 48) hx hb dX12_hiddenAt_44 (by decide) ?_
          exact J_48 _ _ _ _ ⟨z_9, ⟨by omega, by omega⟩, rfl, h_6, (lv_sub hl_3 [1, 2, 3, 4, 0] rfl)⟩
    · replace c_5 := i_nle (x := 0) (y := p2) (show (0 : Int32).toInt = 0 by decide) rfl c_5
      refine lv_bipush (v := (-3)) hx hb dX12_hiddenAt_25 (by decide) ?_
      exact q_iret X hr hlk hK h_2 rfl (fun _ => 0, (vcons (fun _ => 0) (vcons f0 (vcons f1 (vcons f2 (vcons f3 (fun _ => (fun _ => 0))))))), fun _ _ => 0) ⟨⟨by decide +kernel, by decide +kernel⟩, (⟨by decide +kernel, by decide +kernel⟩ : 0 ≤ (0 : Int32).toInt ∧ (0 : Int32).toInt ≤ 0), rf0, (rg_wide rf3 (by decide) (by decide)), htf0_84, trivial⟩ [3, 4, 0, 1, 2] rfl rfl dX12_hiddenAt_27 (Nat.le_of_ble_eq_true rfl) (Nat.le_of_ble_eq_true rfl)
  · replace c_4 := i_ne (x := r_2) (y := 0) rfl (show (0 : Int32).toInt = 0 by decide) c_4
    refine lv_iload hx hb dX12_hiddenAt_18 (lv_at hl_3 0 rfl) ?_
    exact q_iret X hr hlk hK h_2 rfl (fun _ => 0, (vcons (fun _ => 0) (vcons f0 (vcons f1 (vcons f2 (vcons f3 (fun _ => (fun _ => 0))))))), fun _ _ => 0) ⟨(bw wr_2 (by decide) (by decide)), (⟨by decide +kernel, by decide +kernel⟩ : 0 ≤ (0 : Int32).toInt ∧ (0 : Int32).toInt ≤ 0), rf0, (rg_wide rf3 (by decide) (by decide)), htf0_84, trivial⟩ [3, 4, 0, 1, 2] rfl rfl dX12_hiddenAt_20 (Nat.le_of_ble_eq_true rfl) (Nat.le_of_ble_eq_true rfl)
set_option maxHeartbeats 4000000 in
set_option maxRecDepth 100000 in
theorem gX12_probe_8b85bb7 (l : Launch) (D : va_G) (cy : Nat → ClassId) (h0 : Nat) (h1 : Nat) (h2 : Nat) (h3 : Nat) (h4 : Nat) (p0 : Int32) (p1 : Int32) (p2 : Int32) (w0 : Value) (w1 : Value) (w2 : Value) (p3 : Int32) (p4 : Int32) (p5 : Int32) (p6 : Int32) (p7 : Int32) (p8 : Int32) (p9 : Int32) (p10 : Int32) (p11 : Int32) (p12 : Int32) (p13 : Int32) (w3 : Value) (w4 : Value) (w5 : Value) (p14 : Int32) (p15 : Int32) (w6 : Value) (w7 : Value) (w8 : Value) (p16 : Int32) (p17 : Int32) (w9 : Value) (w10 : Value) (w11 : Value) (w12 : Value) (p18 : Int32) (w13 : Value) (w14 : Value) (w15 : Value) (f0 : Nat → Int32) (p19 : Int32) (f1 : Nat → Int32) (f2 : Nat → Int32) (f3 : Nat → Int32) (hp0 : (-2147483648) ≤ (p0).toInt ∧ (p0).toInt ≤ 2147483647) (hp1 : (-2147483648) ≤ (p1).toInt ∧ (p1).toInt ≤ 2147483647) (hp2 : (-2147483648) ≤ (p2).toInt ∧ (p2).toInt ≤ 2147483647) (hp3 : 0 ≤ (p3).toInt ∧ (p3).toInt ≤ 900) (hp4 : 0 ≤ (p4).toInt ∧ (p4).toInt ≤ 900) (hp5 : 0 ≤ (p5).toInt ∧ (p5).toInt ≤ 900) (hp6 : 0 ≤ (p6).toInt ∧ (p6).toInt ≤ 900) (hp7 : (-2147483648) ≤ (p7).toInt ∧ (p7).toInt ≤ 2147483647) (hp8 : 0 ≤ (p8).toInt ∧ (p8).toInt ≤ 999) (hp9 : (-2147483648) ≤ (p9).toInt ∧ (p9).toInt ≤ 2147483647) (hp10 : (-2147483648) ≤ (p10).toInt ∧ (p10).toInt ≤ 2147483647) (hp11 : (-2147483648) ≤ (p11).toInt ∧ (p11).toInt ≤ 2147483647) (hp12 : (-2147483648) ≤ (p12).toInt ∧ (p12).toInt ≤ 2147483647) (hp13 : (-2147483648) ≤ (p13).toInt ∧ (p13).toInt ≤ 2147483647) (hp14 : (-2147483648) ≤ (p14).toInt ∧ (p14).toInt ≤ 2147483647) (hp15 : (-2147483648) ≤ (p15).toInt ∧ (p15).toInt ≤ 2147483647) (hp16 : (-2147483648) ≤ (p16).toInt ∧ (p16).toInt ≤ 2147483647) (hp17 : (-2147483648) ≤ (p17).toInt ∧ (p17).toInt ≤ 2147483647) (hp18 : (-2147483648) ≤ (p18).toInt ∧ (p18).toInt ≤ 2147483647) (hp19 : 0 ≤ (p19).toInt ∧ (p19).toInt ≤ 10) (htf0_84 : f0 84 = p19) (rf0 : AL f0) (rf3 : RG f3 1000 0 999) (sz : Nat) : MI l yX12_probe cX12_probe 11 .int { frames := 5, cells := 0, slots := 0, locals := 121 } [.ref h0, .int p0, .int p1] D cy (wk_fa21f7301 cy h0 p2 h1 w0 w1 w2 p3 p4 p5 p6 p7 p8 p9 p10 p11 p12 p13 h2 h3 w3 w4 w5 p14 p15 w6 w7 w8 p16 p17 h4 w9 w10 w11 w12 p18 w13 w14 w15 h1 f0 h2 f1 h3 f2 h4 f3) sz (fun r u => ((-3) ≤ r.toInt ∧ r.toInt ≤ 9) ∧ RG (u.2.1 2) 1000 0 999 ∧ (0 ≤ (u.2.1 3 0).toInt ∧ (u.2.1 3 0).toInt ≤ 0) ∧ AL (u.2.1 4) ∧ (u.2.1 4) 84 = p19 ∧ True) (fun u => (wk_fa21f7301 cy h0 (u.2.1 3 0) h1 w0 w1 w2 p3 p4 p5 p6 p7 p8 p9 p10 p11 p12 p13 h2 h3 w3 w4 w5 p14 p15 w6 w7 w8 p16 p17 h4 w9 w10 w11 w12 p18 w13 w14 w15 h1 (u.2.1 4) h2 (u.2.1 0) h3 (u.2.1 1) h4 (u.2.1 2))) 0 0 := by
  refine q_ent (own := RX12) (by decide) rfl (Nat.le_of_ble_eq_true rfl) (fun p e s m below meth c ls X hr hlk hnm hK hT h hA hl => ?_)
  obtain ⟨hx, hb, hml, hown, ht⟩ := id X
  replace hl : lv_has ls 11 [(0, .ref h0), (1, .int p0), (2, .int p1)] := hl
  refine lv_aload_n hx hb dX12_probe_0 rfl (lv_at hl 0 rfl) ?_
  refine lv_iconst (v := 0) hx hb dX12_probe_1 (by decide) ?_
  refine q_put (v := .int 0) X hK h 0 rfl rfl wf_12 tyX12 tyX12_ok nmX12 0 (by decide) wm_5_170 rfl rfl rfl (Nat.le_of_ble_eq_true rfl) dX12_probe_2 (fun H locs h_1 => ?_)
  clear h
  replace h_1 : qW D _ _ (wk_fa21f7301 cy h0 0 h1 w0 w1 w2 p3 p4 p5 p6 p7 p8 p9 p10 p11 p12 p13 h2 h3 w3 w4 w5 p14 p15 w6 w7 w8 p16 p17 h4 w9 w10 w11 w12 p18 w13 w14 w15 h1 f0 h2 f1 h3 f2 h4 f3) _ _ := h_1
  refine lv_aload_n hx hb dX12_probe_5 rfl (lv_at hl 0 rfl) ?_
  refine lv_iload_n hx hb dX12_probe_6 rfl (lv_at hl 1 rfl) ?_
  refine lv_iload_n hx hb dX12_probe_7 rfl (lv_at hl 2 rfl) ?_
  refine q_callVi (rest := []) (wr := (wk_8024bc26d cy h2 f1 h3 f2 h4 f3)) X hK hT hA h_1 (fun sz => gX12_noHidden_6db733f l D cy h0 h1 p0 p1 (0 : Int32) w0 w1 w2 p3 p4 p5 p6 p7 p8 p9 p10 p11 p12 p13 (.ref h2) (.ref h3) w3 w4 w5 p14 p15 w6 w7 w8 p16 p17 (.ref h4) w9 w10 w11 w12 p18 w13 w14 w15 f0 p19 (i_rng _) (i_rng _) ⟨by decide +kernel, by decide +kernel⟩ hp3 hp4 hp5 hp6 (i_rng _) hp8 (i_rng _) (i_rng _) (i_rng _) (i_rng _) (i_rng _) (i_rng _) (i_rng _) (i_rng _) (i_rng _) (i_rng _) hp19 htf0_84 rf0 sz) wm_7_223 wm_7_226 wm_1_12 hd_X12_noHidden wm_7_225 wp_7_15 (ci := 12) (q0 := 0) rfl rfl ⟨Nat.le_of_ble_eq_true rfl, Nat.le_of_ble_eq_true rfl⟩ hl.1 rfl (Nat.le_of_ble_eq_true rfl) dX12_probe_8 ⟨Nat.le_of_ble_eq_true rfl, Nat.le_of_ble_eq_true rfl⟩ [0, 1] [2, 3, 4] rfl rfl (by decide) rfl rfl (fun r_2 u_2 H locs w_2 h_2 => ?_)
  clear h_1
  obtain ⟨wr_2, y2_0, _⟩ := w_2
  replace h_2 : qW D _ _ (wk_46a08b732 cy h2 f1 h3 f2 h4 f3 h0 0 h1 w0 w1 w2 p3 p4 p5 p6 p7 p8 p9 p10 p11 p12 p13 h2 h3 w3 w4 w5 p14 p15 w6 w7 w8 p16 p17 h4 w9 w10 w11 w12 p18 w13 w14 w15 h1 f0) _ _ := h_2
  refine lv_istore_n (lv' := [(3, .int r_2), (0, .ref h0), (1, .int p0), (2, .int p1)]) hx hb dX12_probe_11 rfl hl (by decide) rfl (fun ls_3 hl_3 => ?_)
  clear hl
  refine lv_iload_n hx hb dX12_probe_12 rfl (lv_at hl_3 0 rfl) ?_
  refine lv_if_eq (tgt := 18) hx hb dX12_probe_13 (by decide) (fun c_4 => ?_) (fun c_4 => ?_)
  · replace c_4 := i_eq (x := r_2) (y := 0) rfl (show (0 : Int32).toInt = 0 by decide) c_4
    refine lv_aload_n hx hb dX12_probe_18 rfl (lv_at hl_3 1 rfl) ?_
    refine lv_iload_n hx hb dX12_probe_19 rfl (lv_at hl_3 2 rfl) ?_
    refine lv_iload_n hx hb dX12_probe_20 rfl (lv_at hl_3 3 rfl) ?_
    refine q_callVi (rest := []) (wr := []) X hK hT hA h_2 (fun sz => gX12_laysHidden_bb1e8ce l D cy h0 h1 h2 h3 h4 p0 p1 (0 : Int32) w0 w1 w2 p3 p4 p5 p6 p7 p8 p9 p10 p11 p12 p13 w3 w4 w5 p14 p15 w6 w7 w8 p16 p17 w9 w10 w11 w12 p18 w13 w14 w15 f0 p19 f1 f2 f3 ⟨by omega, by omega⟩ (i_rng _) ⟨by decide +kernel, by decide +kernel⟩ hp3 hp4 hp5 hp6 (i_rng _) hp8 (i_rng _) (i_rng _) (i_rng _) (i_rng _) (i_rng _) (i_rng _) (i_rng _) (i_rng _) (i_rng _) (i_rng _) hp19 htf0_84 rf0 (rg_wide rf3 (by decide) (by decide)) sz) wm_7_227 wm_7_230 wm_1_12 hd_X12_laysHidden wm_7_229 wp_8_0 (ci := 12) (q0 := 0) rfl rfl ⟨Nat.le_of_ble_eq_true rfl, Nat.le_of_ble_eq_true rfl⟩ hl_3.1 rfl (Nat.le_of_ble_eq_true rfl) dX12_probe_21 ⟨Nat.le_of_ble_eq_true rfl, Nat.le_of_ble_eq_true rfl⟩ [3, 4, 0, 1, 2] [] rfl rfl (by decide) rfl rfl (fun r_5 u_5 H locs w_5 h_5 => ?_)
    clear h_2
    obtain ⟨wr_5, w5_0, w5_1, w5_2, _⟩ := w_5
    replace h_5 : qW D _ _ (wk_fa21f7301 cy h0 0 h1 w0 w1 w2 p3 p4 p5 p6 p7 p8 p9 p10 p11 p12 p13 h2 h3 w3 w4 w5 p14 p15 w6 w7 w8 p16 p17 h4 w9 w10 w11 w12 p18 w13 w14 w15 h1 (u_5.2.1 3) h2 (u_5.2.1 0) h3 (u_5.2.1 1) h4 (u_5.2.1 2)) _ _ := h_5
    refine lv_istore (lv' := [(4, .int r_5), (3, .int r_2), (0, .ref h0), (1, .int p0), (2, .int p1)]) hx hb dX12_probe_24 hl_3 (by decide) rfl (fun ls_6 hl_6 => ?_)
    clear hl_3
    refine lv_aload_n hx hb dX12_probe_26 rfl (lv_at hl_6 2 rfl) ?_
    refine lv_iload_n hx hb dX12_probe_27 rfl (lv_at hl_6 3 rfl) ?_
    refine q_callVi (rest := []) (wr := (wk_8024bc26d cy h2 (u_5.2.1 0) h3 (u_5.2.1 1) h4 (u_5.2.1 2))) X hK hT hA h_5 (fun sz => gX12_viewsOf_bc3d930 l D cy h0 h1 p0 (0 : Int32) w0 w1 w2 p3 p4 p5 p6 p7 p8 p9 p10 p11 p12 p13 (.ref h2) (.ref h3) w3 w4 w5 p14 p15 w6 w7 w8 p16 p17 (.ref h4) w9 w10 w11 w12 p18 w13 w14 w15 (u_5.2.1 3) p19 ⟨by omega, by omega⟩ ⟨by decide +kernel, by decide +kernel⟩ hp3 hp4 hp5 hp6 (i_rng _) hp8 (i_rng _) (i_rng _) (i_rng _) (i_rng _) (i_rng _) (i_rng _) (i_rng _) (i_rng _) (i_rng _) (i_rng _) hp19 w5_2 w5_1 sz) wm_7_172 wm_7_175 wm_1_12 hd_X12_viewsOf wm_7_174 wp_7_10 (ci := 12) (q0 := 0) rfl rfl ⟨Nat.le_of_ble_eq_true rfl, Nat.le_of_ble_eq_true rfl⟩ hl_6.1 rfl (Nat.le_of_ble_eq_true rfl) dX12_probe_28 ⟨Nat.le_of_ble_eq_true rfl, Nat.le_of_ble_eq_true rfl⟩ [0, 1] [2, 3, 4] rfl rfl (by decide) rfl rfl (fun r_7 u_7 H locs w_7 h_7 => ?_)
    clear h_5
    obtain ⟨wr_7, _⟩ := w_7
    replace h_7 : qW D _ _ (wk_46a08b732 cy h2 (u_5.2.1 0) h3 (u_5.2.1 1) h4 (u_5.2.1 2) h0 0 h1 w0 w1 w2 p3 p4 p5 p6 p7 p8 p9 p10 p11 p12 p13 h2 h3 w3 w4 w5 p14 p15 w6 w7 w8 p16 p17 h4 w9 w10 w11 w12 p18 w13 w14 w15 h1 (u_5.2.1 3)) _ _ := h_7
    refine lv_istore (lv' := [(5, .int r_7), (4, .int r_5), (3, .int r_2), (0, .ref h0), (1, .int p0), (2, .int p1)]) hx hb dX12_probe_31 hl_6 (by decide) rfl (fun ls_8 hl_8 => ?_)
    clear hl_6
    refine lv_iconst (v := (-1)) hx hb dX12_probe_33 (by decide) ?_
    refine lv_istore (lv' := [(6, .int (-1)), (5, .int r_7), (4, .int r_5), (3, .int r_2), (0, .ref h0), (1, .int p0), (2, .int p1)]) hx hb dX12_probe_34 hl_8 (by decide) rfl (fun ls_9 hl_9 => ?_)
    clear hl_8
    refine lv_iconst (v := (-1)) hx hb dX12_probe_36 (by decide) ?_
    refine lv_istore (lv' := [(7, .int (-1)), (6, .int (-1)), (5, .int r_7), (4, .int r_5), (3, .int r_2), (0, .ref h0), (1, .int p0), (2, .int p1)]) hx hb dX12_probe_37 hl_9 (by decide) rfl (fun ls_10 hl_10 => ?_)
    clear hl_9
    refine lv_iconst (v := 0) hx hb dX12_probe_39 (by decide) ?_
    refine lv_istore (lv' := [(8, .int 0), (7, .int (-1)), (6, .int (-1)), (5, .int r_7), (4, .int r_5), (3, .int r_2), (0, .ref h0), (1, .int p0), (2, .int p1)]) hx hb dX12_probe_40 hl_10 (by decide) rfl (fun ls_11 hl_11 => ?_)
    clear hl_10
    refine q_wl (fun (q : Int32 × Int32 × Int32) H locs ls => match q with | (v42_12_0, v42_12_1, v42_12_2) => ∃ v42_12_3 : Nat → Int32, ∃ v42_12_4 : Nat → Int32, ∃ v42_12_5 : Nat → Int32, (0 ≤ (v42_12_0).toInt ∧ (v42_12_0).toInt ≤ 10) ∧ ((-1) ≤ (v42_12_1).toInt ∧ (v42_12_1).toInt ≤ 9) ∧ ((-1) ≤ (v42_12_2).toInt ∧ (v42_12_2).toInt ≤ 2147483647) ∧ v42_12_5 84 = p19 ∧ AL v42_12_5 ∧ qW D (va_A (wk_fa21f7301 cy h0 p2 h1 w0 w1 w2 p3 p4 p5 p6 p7 p8 p9 p10 p11 p12 p13 h2 h3 w3 w4 w5 p14 p15 w6 w7 w8 p16 p17 h4 w9 w10 w11 w12 p18 w13 w14 w15 h1 f0 h2 f1 h3 f2 h4 f3) sz) s.heap (wk_46a08b732 cy h2 v42_12_3 h3 v42_12_4 h4 (u_5.2.1 2) h0 0 h1 w0 w1 w2 p3 p4 p5 p6 p7 p8 p9 p10 p11 p12 p13 h2 h3 w3 w4 w5 p14 p15 w6 w7 w8 p16 p17 h4 w9 w10 w11 w12 p18 w13 w14 w15 h1 v42_12_5) H locs ∧ lv_has ls 11 [(0, .ref h0), (1, .int p0), (2, .int p1), (3, .int r_2), (4, .int r_5), (5, .int r_7), (6, .int v42_12_1), (7, .int v42_12_2), (8, .int v42_12_0)]) (fun (q : Int32 × Int32 × Int32) => match q with | (v42_12_0, v42_12_1, v42_12_2) => (11 - (v42_12_0).toInt).toNat) (fun q_42 ih_42 H locs ls hP => ?_) (0, (-1), (-1)) ⟨(u_5.2.1 0), (u_5.2.1 1), (u_5.2.1 3), ⟨by decide +kernel, by decide +kernel⟩, ⟨by decide +kernel, by decide +kernel⟩, ⟨by decide +kernel, by decide +kernel⟩, w5_2, w5_1, h_7, (lv_sub hl_11 [6, 7, 8, 5, 4, 3, 2, 1, 0] rfl)⟩
    obtain ⟨v42_12_0, v42_12_1, v42_12_2⟩ := q_42
    obtain ⟨v42_12_3, v42_12_4, v42_12_5, hv42_12_0, hv42_12_1, hv42_12_2, trv42_12_5_84, rv42_12_5, h, hl⟩ := hP
    refine lv_iload hx hb dX12_probe_42 (lv_at hl 8 rfl) ?_
    refine lv_aload_n hx hb dX12_probe_44 rfl (lv_at hl 0 rfl) ?_
    refine q_get X hK h 3 rfl rfl wf_12 1 (by decide) rfl wm_5_171 dX12_probe_45 ?_
    refine lv_iconst (v := 2) hx hb dX12_probe_48 (by decide) ?_
    refine q_iald X hK h 4 rfl (q_in (by decide +kernel)) dX12_probe_49 ?_
    obtain ⟨z_13, ez_13, hz_13⟩ := al_P rv42_12_5 (x := 2) (show (2 : Int32).toInt = 2 by decide) (by omega) (by omega)
    refine q_c z_13 ez_13 ?_
    clear ez_13
    refine q_jn (pc2 := 184) (fun H locs ls st => st = [] ∧ qW D (va_A (wk_fa21f7301 cy h0 p2 h1 w0 w1 w2 p3 p4 p5 p6 p7 p8 p9 p10 p11 p12 p13 h2 h3 w3 w4 w5 p14 p15 w6 w7 w8 p16 p17 h4 w9 w10 w11 w12 p18 w13 w14 w15 h1 f0 h2 f1 h3 f2 h4 f3) sz) s.heap (wk_46a08b732 cy h2 v42_12_3 h3 v42_12_4 h4 (u_5.2.1 2) h0 0 h1 w0 w1 w2 p3 p4 p5 p6 p7 p8 p9 p10 p11 p12 p13 h2 h3 w3 w4 w5 p14 p15 w6 w7 w8 p16 p17 h4 w9 w10 w11 w12 p18 w13 w14 w15 h1 v42_12_5) H locs ∧ lv_has ls 11 [(0, .ref h0), (1, .int p0), (2, .int p1), (3, .int r_2), (4, .int r_5), (5, .int r_7), (6, .int v42_12_1), (7, .int v42_12_2), (8, .int v42_12_0)]) (fun H locs ls st hP => ?_) (fun J_184 => ?_)
    · obtain ⟨rfl, h, hl⟩ := hP
      refine lv_aload_n hx hb dX12_probe_184 rfl (lv_at hl 0 rfl) ?_
      refine lv_iload_n hx hb dX12_probe_185 rfl (lv_at hl 1 rfl) ?_
      refine lv_iload hx hb dX12_probe_186 (lv_at hl 5 rfl) ?_
      refine q_callVv (rest := []) (wr := (wk_8024bc26d cy h2 v42_12_3 h3 v42_12_4 h4 (u_5.2.1 2))) X hK hT hA h (fun sz => gX12_puts_2de0910 l D cy h0 h1 p0 r_7 (0 : Int32) w0 w1 w2 p3 p4 p5 p6 p7 p8 p9 p10 p11 p12 p13 (.ref h2) (.ref h3) w3 w4 w5 p14 p15 w6 w7 w8 p16 p17 (.ref h4) w9 w10 w11 w12 p18 w13 w14 w15 v42_12_5 p19 ⟨by omega, by omega⟩ wr_7 ⟨by decide +kernel, by decide +kernel⟩ hp3 hp4 hp5 hp6 (i_rng _) hp8 (i_rng _) (i_rng _) (i_rng _) (i_rng _) (i_rng _) (i_rng _) (i_rng _) (i_rng _) (i_rng _) (i_rng _) hp19 trv42_12_5_84 rv42_12_5 sz) wm_7_176 wm_7_179 wm_1_12 hd_X12_puts wm_7_178 wp_7_11 (ci := 12) (q0 := 0) rfl rfl ⟨Nat.le_of_ble_eq_true rfl, Nat.le_of_ble_eq_true rfl⟩ hl.1 rfl (Nat.le_of_ble_eq_true rfl) dX12_probe_188 ⟨Nat.le_of_ble_eq_true rfl, Nat.le_of_ble_eq_true rfl⟩ [3, 4] [0, 1, 2] rfl rfl (by decide) rfl rfl (fun u_15 H locs w_15 h_15 => ?_)
      clear h
      obtain ⟨w15_0, w15_1, _⟩ := w_15
      replace h_15 : qW D _ _ (wk_46a08b732 cy h2 v42_12_3 h3 v42_12_4 h4 (u_5.2.1 2) h0 0 h1 w0 w1 w2 p3 p4 p5 p6 p7 p8 p9 p10 p11 p12 p13 h2 h3 w3 w4 w5 p14 p15 w6 w7 w8 p16 p17 h4 w9 w10 w11 w12 p18 w13 w14 w15 h1 (u_15.2.1 0)) _ _ := h_15
      refine lv_iload hx hb dX12_probe_191 (lv_at hl 6 rfl) ?_
      exact q_iret X hr hlk hK h_15 rfl (fun _ => 0, (vcons v42_12_3 (vcons v42_12_4 (vcons (u_5.2.1 2) (vcons (fun _ => 0) (vcons (u_15.2.1 0) (fun _ => (fun _ => 0))))))), fun _ _ => 0) ⟨(bw hv42_12_1 (by decide) (by decide)), (rg_wide w5_0 (by decide) (by decide)), (⟨by decide +kernel, by decide +kernel⟩ : 0 ≤ (0 : Int32).toInt ∧ (0 : Int32).toInt ≤ 0), w15_0, w15_1, trivial⟩ [3, 4, 0, 1, 2] rfl rfl dX12_probe_193 (Nat.le_of_ble_eq_true rfl) (Nat.le_of_ble_eq_true rfl)
    · skip
      refine lv_icmp_ge (tgt := 184) hx hb dX12_probe_50 (by decide) (fun c_16 => ?_) (fun c_16 => ?_)
      · replace c_16 := i_le (x := z_13) (y := v42_12_0) rfl rfl c_16
        exact J_184 _ _ _ _ ⟨rfl, h, (lv_sub hl [0, 1, 2, 3, 4, 5, 6, 7, 8] rfl)⟩
      · replace c_16 := i_nle (x := z_13) (y := v42_12_0) rfl rfl c_16
        refine lv_iload hx hb dX12_probe_53 (lv_at hl 4 rfl) ?_
        refine lv_if_le (tgt := 184) hx hb dX12_probe_55 (by decide) (fun c_17 => ?_) (fun c_17 => ?_)
        · replace c_17 := i_le (x := r_5) (y := 0) rfl (show (0 : Int32).toInt = 0 by decide) c_17
          exact J_184 _ _ _ _ ⟨rfl, h, (lv_sub hl [0, 1, 2, 3, 4, 5, 6, 7, 8] rfl)⟩
        · replace c_17 := i_nle (x := r_5) (y := 0) rfl (show (0 : Int32).toInt = 0 by decide) c_17
          refine lv_iload hx hb dX12_probe_58 (lv_at hl 8 rfl) ?_
          refine lv_iload_n hx hb dX12_probe_60 rfl (lv_at hl 1 rfl) ?_
          refine q_jn (pc2 := 178) (fun H locs ls st => ∃ v178_18_0 : Int32, ∃ v178_18_1 : Int32, ∃ v178_18_2 : Nat → Int32, ∃ v178_18_3 : Nat → Int32, ∃ v178_18_4 : Nat → Int32, ((-1) ≤ (v178_18_0).toInt ∧ (v178_18_0).toInt ≤ 2147483647) ∧ ((-1) ≤ (v178_18_1).toInt ∧ (v178_18_1).toInt ≤ 9) ∧ v178_18_4 84 = p19 ∧ AL v178_18_4 ∧ st = [] ∧ qW D (va_A (wk_fa21f7301 cy h0 p2 h1 w0 w1 w2 p3 p4 p5 p6 p7 p8 p9 p10 p11 p12 p13 h2 h3 w3 w4 w5 p14 p15 w6 w7 w8 p16 p17 h4 w9 w10 w11 w12 p18 w13 w14 w15 h1 f0 h2 f1 h3 f2 h4 f3) sz) s.heap (wk_46a08b732 cy h2 v178_18_2 h3 v178_18_3 h4 (u_5.2.1 2) h0 0 h1 w0 w1 w2 p3 p4 p5 p6 p7 p8 p9 p10 p11 p12 p13 h2 h3 w3 w4 w5 p14 p15 w6 w7 w8 p16 p17 h4 w9 w10 w11 w12 p18 w13 w14 w15 h1 v178_18_4) H locs ∧ lv_has ls 11 [(0, .ref h0), (1, .int p0), (2, .int p1), (3, .int r_2), (4, .int r_5), (5, .int r_7), (6, .int v178_18_1), (7, .int v178_18_0), (8, .int v42_12_0)]) (fun H locs ls st hP => ?_) (fun J_178 => ?_)
          · obtain ⟨v178_18_0, v178_18_1, v178_18_2, v178_18_3, v178_18_4, hv178_18_0, hv178_18_1, trv178_18_4_84, rv178_18_4, rfl, h, hl⟩ := hP
            obtain ⟨z_19, ez_19, hz_19⟩ := e_add (x := v42_12_0) (y := Int32.ofInt 1) rfl (b := 1) (by decide) (by omega) (by omega)
            refine lv_iinc (v := z_19) (lv' := [(8, .int z_19), (0, .ref h0), (1, .int p0), (2, .int p1), (3, .int r_2), (4, .int r_5), (5, .int r_7), (6, .int v178_18_1), (7, .int v178_18_0)]) hx hb dX12_probe_178 hl (k := 8) rfl ez_19 (by decide) rfl (fun ls_19 hl_19 => ?_)
            clear hl
            refine lv_goto (tgt := 42) hx hb dX12_probe_181 (by decide) ?_
            exact ih_42 (z_19, v178_18_1, v178_18_0) (by show (11 - (z_19).toInt).toNat < (11 - (v42_12_0).toInt).toNat; omega) _ _ _ ⟨v178_18_2, v178_18_3, v178_18_4, ⟨by omega, by omega⟩, hv178_18_1, hv178_18_0, trv178_18_4_84, rv178_18_4, h, (lv_sub hl_19 [1, 2, 3, 4, 5, 6, 7, 8, 0] rfl)⟩
          · skip
            refine lv_icmp_eq (tgt := 178) hx hb dX12_probe_61 (by decide) (fun c_20 => ?_) (fun c_20 => ?_)
            · replace c_20 := i_eq (x := v42_12_0) (y := p0) rfl rfl c_20
              exact J_178 _ _ _ _ ⟨v42_12_2, v42_12_1, v42_12_3, v42_12_4, v42_12_5, hv42_12_2, hv42_12_1, trv42_12_5_84, rv42_12_5, rfl, h, (lv_sub hl [0, 1, 2, 3, 4, 5, 6, 7, 8] rfl)⟩
            · replace c_20 := i_ne (x := v42_12_0) (y := p0) rfl rfl c_20
              refine lv_aload_n hx hb dX12_probe_64 rfl (lv_at hl 0 rfl) ?_
              refine q_callVi (rest := []) (wr := (wk_8024bc26d cy h2 v42_12_3 h3 v42_12_4 h4 (u_5.2.1 2))) X hK hT hA h (fun sz => gX12_townNow_2907b4b l D cy h0 h1 (0 : Int32) w0 w1 w2 p3 p4 p5 p6 p7 p8 p9 p10 p11 p12 p13 (.ref h2) (.ref h3) w3 w4 w5 p14 p15 w6 w7 w8 p16 p17 (.ref h4) w9 w10 w11 w12 p18 w13 w14 w15 v42_12_5 p19 ⟨by decide +kernel, by decide +kernel⟩ hp3 hp4 hp5 hp6 (i_rng _) hp8 (i_rng _) (i_rng _) (i_rng _) (i_rng _) (i_rng _) (i_rng _) (i_rng _) (i_rng _) (i_rng _) (i_rng _) hp19 trv42_12_5_84 rv42_12_5 sz) wm_6_170 wm_6_173 wm_1_12 hd_X12_townNow wm_6_172 wp_5_9 (ci := 12) (q0 := 0) rfl rfl ⟨Nat.le_of_ble_eq_true rfl, Nat.le_of_ble_eq_true rfl⟩ hl.1 rfl (Nat.le_of_ble_eq_true rfl) dX12_probe_65 ⟨Nat.le_of_ble_eq_true rfl, Nat.le_of_ble_eq_true rfl⟩ [3, 4] [0, 1, 2] rfl rfl (by decide) rfl rfl (fun r_21 u_21 H locs w_21 h_21 => ?_)
              clear h
              obtain ⟨wr_21, _⟩ := w_21
              replace h_21 : qW D _ _ (wk_46a08b732 cy h2 v42_12_3 h3 v42_12_4 h4 (u_5.2.1 2) h0 0 h1 w0 w1 w2 p3 p4 p5 p6 p7 p8 p9 p10 p11 p12 p13 h2 h3 w3 w4 w5 p14 p15 w6 w7 w8 p16 p17 h4 w9 w10 w11 w12 p18 w13 w14 w15 h1 v42_12_5) _ _ := h_21
              refine lv_i2l hx hb dX12_probe_68 rfl ?_
              obtain ⟨z_22, ez_22, hz_22⟩ := e_i2l (x := r_21) rfl
              refine q_cl z_22 ez_22 ?_
              clear ez_22
              refine lv_iload hx hb dX12_probe_69 (lv_at hl 8 rfl) ?_
              refine q_callSi (rest := []) (wr := (wk_46a08b732 cy h2 v42_12_3 h3 v42_12_4 h4 (u_5.2.1 2) h0 0 h1 w0 w1 w2 p3 p4 p5 p6 p7 p8 p9 p10 p11 p12 p13 h2 h3 w3 w4 w5 p14 p15 w6 w7 w8 p16 p17 h4 w9 w10 w11 w12 p18 w13 w14 w15 h1 v42_12_5)) X hK hT hA h_21 (fun sz => gX12_isIn_b0455a8 l D cy z_22 v42_12_0 ⟨by omega, by omega⟩ ⟨by omega, by omega⟩ sz) wm_6_167 wm_6_169 wm_1_12 hd_X12_isIn wm_6_168 ⟨Nat.le_of_ble_eq_true rfl, Nat.le_of_ble_eq_true rfl⟩ hl.1 rfl (Nat.le_of_ble_eq_true rfl) dX12_probe_71 ⟨Nat.le_of_ble_eq_true rfl, Nat.le_of_ble_eq_true rfl⟩ [] [0, 1, 2, 3, 4] rfl rfl (by decide) rfl rfl (fun r_23 u_23 H locs w_23 h_23 => ?_)
              clear h_21
              obtain ⟨wr_23, _⟩ := w_23
              replace h_23 : qW D _ _ (wk_46a08b732 cy h2 v42_12_3 h3 v42_12_4 h4 (u_5.2.1 2) h0 0 h1 w0 w1 w2 p3 p4 p5 p6 p7 p8 p9 p10 p11 p12 p13 h2 h3 w3 w4 w5 p14 p15 w6 w7 w8 p16 p17 h4 w9 w10 w11 w12 p18 w13 w14 w15 h1 v42_12_5) _ _ := h_23
              refine lv_if_eq (tgt := 80) hx hb dX12_probe_74 (by decide) (fun c_24 => ?_) (fun c_24 => ?_)
              · replace c_24 := i_eq (x := r_23) (y := 0) rfl (show (0 : Int32).toInt = 0 by decide) c_24
                refine lv_iconst (v := 0) hx hb dX12_probe_80 (by decide) ?_
                refine lv_istore (lv' := [(9, .int 0), (0, .ref h0), (1, .int p0), (2, .int p1), (3, .int r_2), (4, .int r_5), (5, .int r_7), (6, .int v42_12_1), (7, .int v42_12_2), (8, .int v42_12_0)]) hx hb dX12_probe_81 hl (by decide) rfl (fun ls_25 hl_25 => ?_)
                clear hl
                refine lv_iconst (v := 0) hx hb dX12_probe_83 (by decide) ?_
                refine lv_istore (lv' := [(10, .int 0), (9, .int 0), (0, .ref h0), (1, .int p0), (2, .int p1), (3, .int r_2), (4, .int r_5), (5, .int r_7), (6, .int v42_12_1), (7, .int v42_12_2), (8, .int v42_12_0)]) hx hb dX12_probe_84 hl_25 (by decide) rfl (fun ls_26 hl_26 => ?_)
                clear hl_25
                refine q_wl (fun (q : Int32 × Int32) H locs ls => match q with | (v86_27_0, v86_27_1) => ∃ v86_27_2 : Nat → Int32, ∃ v86_27_3 : Nat → Int32, ∃ v86_27_4 : Nat → Int32, (0 ≤ (v86_27_0).toInt ∧ (v86_27_0).toInt ≤ 1000) ∧ ((-2147483648) ≤ (v86_27_1).toInt ∧ (v86_27_1).toInt ≤ 2147483647) ∧ v86_27_2 84 = p19 ∧ AL v86_27_2 ∧ qW D (va_A (wk_fa21f7301 cy h0 p2 h1 w0 w1 w2 p3 p4 p5 p6 p7 p8 p9 p10 p11 p12 p13 h2 h3 w3 w4 w5 p14 p15 w6 w7 w8 p16 p17 h4 w9 w10 w11 w12 p18 w13 w14 w15 h1 f0 h2 f1 h3 f2 h4 f3) sz) s.heap (wk_46a08b732 cy h2 v86_27_3 h3 v86_27_4 h4 (u_5.2.1 2) h0 0 h1 w0 w1 w2 p3 p4 p5 p6 p7 p8 p9 p10 p11 p12 p13 h2 h3 w3 w4 w5 p14 p15 w6 w7 w8 p16 p17 h4 w9 w10 w11 w12 p18 w13 w14 w15 h1 v86_27_2) H locs ∧ lv_has ls 11 [(0, .ref h0), (1, .int p0), (2, .int p1), (3, .int r_2), (4, .int r_5), (5, .int r_7), (6, .int v42_12_1), (7, .int v42_12_2), (8, .int v42_12_0), (9, .int v86_27_1), (10, .int v86_27_0)]) (fun (q : Int32 × Int32) => match q with | (v86_27_0, v86_27_1) => (1001 - (v86_27_0).toInt).toNat) (fun q_86 ih_86 H locs ls hP => ?_) (0, 0) ⟨v42_12_5, v42_12_3, v42_12_4, ⟨by decide +kernel, by decide +kernel⟩, ⟨by decide +kernel, by decide +kernel⟩, trv42_12_5_84, rv42_12_5, h_23, (lv_sub hl_26 [2, 3, 4, 5, 6, 7, 8, 9, 10, 1, 0] rfl)⟩
                obtain ⟨v86_27_0, v86_27_1⟩ := q_86
                obtain ⟨v86_27_2, v86_27_3, v86_27_4, hv86_27_0, hv86_27_1, trv86_27_2_84, rv86_27_2, h, hl⟩ := hP
                refine lv_iload hx hb dX12_probe_86 (lv_at hl 10 rfl) ?_
                refine lv_iload hx hb dX12_probe_88 (lv_at hl 4 rfl) ?_
                refine lv_icmp_ge (tgt := 138) hx hb dX12_probe_90 (by decide) (fun c_28 => ?_) (fun c_28 => ?_)
                · replace c_28 := i_le (x := r_5) (y := v86_27_0) rfl rfl c_28
                  refine lv_iload hx hb dX12_probe_138 (lv_at hl 9 rfl) ?_
                  refine lv_iload hx hb dX12_probe_140 (lv_at hl 4 rfl) ?_
                  refine lv_iload hx hb dX12_probe_142 (lv_at hl 9 rfl) ?_
                  refine lv_isub hx hb dX12_probe_144 ?_
                  refine q_any (fun z_29 hz_29 => ?_)
                  refine q_jn (pc2 := 158) (fun H locs ls st => ∃ v158_30_0 : Int32, ((-2147483648) ≤ (v158_30_0).toInt ∧ (v158_30_0).toInt ≤ 2147483647) ∧ st = [.int v158_30_0] ∧ qW D (va_A (wk_fa21f7301 cy h0 p2 h1 w0 w1 w2 p3 p4 p5 p6 p7 p8 p9 p10 p11 p12 p13 h2 h3 w3 w4 w5 p14 p15 w6 w7 w8 p16 p17 h4 w9 w10 w11 w12 p18 w13 w14 w15 h1 f0 h2 f1 h3 f2 h4 f3) sz) s.heap (wk_46a08b732 cy h2 v86_27_3 h3 v86_27_4 h4 (u_5.2.1 2) h0 0 h1 w0 w1 w2 p3 p4 p5 p6 p7 p8 p9 p10 p11 p12 p13 h2 h3 w3 w4 w5 p14 p15 w6 w7 w8 p16 p17 h4 w9 w10 w11 w12 p18 w13 w14 w15 h1 v86_27_2) H locs ∧ lv_has ls 11 [(0, .ref h0), (1, .int p0), (2, .int p1), (3, .int r_2), (4, .int r_5), (5, .int r_7), (6, .int v42_12_1), (7, .int v42_12_2), (8, .int v42_12_0), (9, .int v86_27_1), (10, .int v86_27_0)]) (fun H locs ls st hP => ?_) (fun J_158 => ?_)
                  · obtain ⟨v158_30_0, hv158_30_0, rfl, h, hl⟩ := hP
                    refine lv_istore (lv' := [(10, .int v158_30_0), (0, .ref h0), (1, .int p0), (2, .int p1), (3, .int r_2), (4, .int r_5), (5, .int r_7), (6, .int v42_12_1), (7, .int v42_12_2), (8, .int v42_12_0), (9, .int v86_27_1)]) hx hb dX12_probe_158 hl (by decide) rfl (fun ls_31 hl_31 => ?_)
                    clear hl
                    refine lv_iload hx hb dX12_probe_160 (lv_at hl_31 0 rfl) ?_
                    refine lv_iload hx hb dX12_probe_162 (lv_at hl_31 8 rfl) ?_
                    refine lv_icmp_gt (tgt := 170) hx hb dX12_probe_164 (by decide) (fun c_32 => ?_) (fun c_32 => ?_)
                    · replace c_32 := i_lt (x := v42_12_2) (y := v158_30_0) rfl rfl c_32
                      refine lv_iload hx hb dX12_probe_170 (lv_at hl_31 9 rfl) ?_
                      refine lv_istore (lv' := [(6, .int v42_12_0), (10, .int v158_30_0), (0, .ref h0), (1, .int p0), (2, .int p1), (3, .int r_2), (4, .int r_5), (5, .int r_7), (7, .int v42_12_2), (8, .int v42_12_0), (9, .int v86_27_1)]) hx hb dX12_probe_172 hl_31 (by decide) rfl (fun ls_33 hl_33 => ?_)
                      clear hl_31
                      refine lv_iload hx hb dX12_probe_174 (lv_at hl_33 1 rfl) ?_
                      refine lv_istore (lv' := [(7, .int v158_30_0), (6, .int v42_12_0), (10, .int v158_30_0), (0, .ref h0), (1, .int p0), (2, .int p1), (3, .int r_2), (4, .int r_5), (5, .int r_7), (8, .int v42_12_0), (9, .int v86_27_1)]) hx hb dX12_probe_176 hl_33 (by decide) rfl (fun ls_34 hl_34 => ?_)
                      clear hl_33
                      exact J_178 _ _ _ _ ⟨v158_30_0, v42_12_0, v86_27_3, v86_27_4, v86_27_2, ⟨by omega, by omega⟩, ⟨by omega, by omega⟩, trv86_27_2_84, rv86_27_2, rfl, h, (lv_sub hl_34 [3, 4, 5, 6, 7, 8, 1, 0, 9] rfl)⟩
                    · replace c_32 := i_nlt (x := v42_12_2) (y := v158_30_0) rfl rfl c_32
                      refine lv_goto (tgt := 178) hx hb dX12_probe_167 (by decide) ?_
                      exact J_178 _ _ _ _ ⟨v42_12_2, v42_12_1, v86_27_3, v86_27_4, v86_27_2, hv42_12_2, hv42_12_1, trv86_27_2_84, rv86_27_2, rfl, h, (lv_sub hl_31 [1, 2, 3, 4, 5, 6, 7, 8, 9] rfl)⟩
                  · skip
                    refine lv_icmp_ge (tgt := 153) hx hb dX12_probe_145 (by decide) (fun c_35 => ?_) (fun c_35 => ?_)
                    · replace c_35 := i_le (x := z_29) (y := v86_27_1) rfl rfl c_35
                      refine lv_iload hx hb dX12_probe_153 (lv_at hl 4 rfl) ?_
                      refine lv_iload hx hb dX12_probe_155 (lv_at hl 9 rfl) ?_
                      refine lv_isub hx hb dX12_probe_157 ?_
                      refine q_any (fun z_36 hz_36 => ?_)
                      exact J_158 _ _ _ _ ⟨z_36, ⟨by omega, by omega⟩, rfl, h, (lv_sub hl [0, 1, 2, 3, 4, 5, 6, 7, 8, 9, 10] rfl)⟩
                    · replace c_35 := i_nle (x := z_29) (y := v86_27_1) rfl rfl c_35
                      refine lv_iload hx hb dX12_probe_148 (lv_at hl 9 rfl) ?_
                      refine lv_goto (tgt := 158) hx hb dX12_probe_150 (by decide) ?_
                      exact J_158 _ _ _ _ ⟨v86_27_1, hv86_27_1, rfl, h, (lv_sub hl [0, 1, 2, 3, 4, 5, 6, 7, 8, 9, 10] rfl)⟩
                · replace c_28 := i_nle (x := r_5) (y := v86_27_0) rfl rfl c_28
                  refine lv_aload_n hx hb dX12_probe_93 rfl (lv_at hl 0 rfl) ?_
                  refine lv_iload_n hx hb dX12_probe_94 rfl (lv_at hl 1 rfl) ?_
                  refine lv_aload_n hx hb dX12_probe_95 rfl (lv_at hl 0 rfl) ?_
                  refine q_get X hK h 3 rfl rfl wf_12 28 (by decide) rfl wm_5_198 dX12_probe_96 ?_
                  refine lv_iload hx hb dX12_probe_99 (lv_at hl 10 rfl) ?_
                  refine q_iald X hK h 2 rfl (i_in rfl (by omega) (by omega)) dX12_probe_101 ?_
                  obtain ⟨z_37, ez_37, hz_37⟩ := rg_get w5_0 (x := v86_27_0) rfl (by omega) (by omega)
                  refine q_c z_37 ez_37 ?_
                  clear ez_37
                  refine q_callVv (rest := []) (wr := (wk_8024bc26d cy h2 v86_27_3 h3 v86_27_4 h4 (u_5.2.1 2))) X hK hT hA h (fun sz => gX12_puts_2de0910 l D cy h0 h1 p0 z_37 (0 : Int32) w0 w1 w2 p3 p4 p5 p6 p7 p8 p9 p10 p11 p12 p13 (.ref h2) (.ref h3) w3 w4 w5 p14 p15 w6 w7 w8 p16 p17 (.ref h4) w9 w10 w11 w12 p18 w13 w14 w15 v86_27_2 p19 ⟨by omega, by omega⟩ ⟨by omega, by omega⟩ ⟨by decide +kernel, by decide +kernel⟩ hp3 hp4 hp5 hp6 (i_rng _) hp8 (i_rng _) (i_rng _) (i_rng _) (i_rng _) (i_rng _) (i_rng _) (i_rng _) (i_rng _) (i_rng _) (i_rng _) hp19 trv86_27_2_84 rv86_27_2 sz) wm_7_176 wm_7_179 wm_1_12 hd_X12_puts wm_7_178 wp_7_11 (ci := 12) (q0 := 0) rfl rfl ⟨Nat.le_of_ble_eq_true rfl, Nat.le_of_ble_eq_true rfl⟩ hl.1 rfl (Nat.le_of_ble_eq_true rfl) dX12_probe_102 ⟨Nat.le_of_ble_eq_true rfl, Nat.le_of_ble_eq_true rfl⟩ [3, 4] [0, 1, 2] rfl rfl (by decide) rfl rfl (fun u_38 H locs w_38 h_38 => ?_)
                  clear h
                  obtain ⟨w38_0, w38_1, _⟩ := w_38
                  replace h_38 : qW D _ _ (wk_46a08b732 cy h2 v86_27_3 h3 v86_27_4 h4 (u_5.2.1 2) h0 0 h1 w0 w1 w2 p3 p4 p5 p6 p7 p8 p9 p10 p11 p12 p13 h2 h3 w3 w4 w5 p14 p15 w6 w7 w8 p16 p17 h4 w9 w10 w11 w12 p18 w13 w14 w15 h1 (u_38.2.1 0)) _ _ := h_38
                  refine lv_iload hx hb dX12_probe_105 (lv_at hl 9 rfl) ?_
                  refine lv_aload_n hx hb dX12_probe_107 rfl (lv_at hl 0 rfl) ?_
                  refine lv_iload_n hx hb dX12_probe_108 rfl (lv_at hl 1 rfl) ?_
                  refine lv_iload hx hb dX12_probe_109 (lv_at hl 8 rfl) ?_
                  refine lv_aload_n hx hb dX12_probe_111 rfl (lv_at hl 0 rfl) ?_
                  refine q_get X hK h_38 3 rfl rfl wf_12 1 (by decide) rfl wm_5_171 dX12_probe_112 ?_
                  refine lv_bipush (v := 52) hx hb dX12_probe_115 (by decide) ?_
                  refine q_iald X hK h_38 4 rfl (q_in (by decide +kernel)) dX12_probe_117 ?_
                  refine q_any (fun z_39 hz_39 => ?_)
                  refine q_callVi (rest := [.int v86_27_1]) (wr := [(h4, .inl (cy 1, 1000, .inl (u_5.2.1 2)))]) X hK hT hA h_38 (fun sz => gX12_areOpposed_e7e6c1a l D cy h0 h1 h2 h3 p0 v42_12_0 z_39 (0 : Int32) w0 w1 w2 p3 p4 p5 p6 p7 p8 p9 p10 p11 p12 p13 w3 w4 w5 p14 p15 w6 w7 w8 p16 p17 (.ref h4) w9 w10 w11 w12 p18 w13 w14 w15 (u_38.2.1 0) p19 v86_27_3 v86_27_4 ⟨by omega, by omega⟩ ⟨by omega, by omega⟩ (i_rng _) ⟨by decide +kernel, by decide +kernel⟩ hp3 hp4 hp5 hp6 (i_rng _) hp8 (i_rng _) (i_rng _) (i_rng _) (i_rng _) (i_rng _) (i_rng _) (i_rng _) (i_rng _) (i_rng _) (i_rng _) hp19 w38_1 w38_0 sz) wm_6_187 wm_6_190 wm_1_12 hd_X12_areOpposed wm_6_189 wp_5_11 (ci := 12) (q0 := 0) rfl rfl ⟨Nat.le_of_ble_eq_true rfl, Nat.le_of_ble_eq_true rfl⟩ hl.1 rfl (Nat.le_of_ble_eq_true rfl) dX12_probe_118 ⟨Nat.le_of_ble_eq_true rfl, Nat.le_of_ble_eq_true rfl⟩ [3, 4, 0, 1] [2] rfl rfl (by decide) rfl rfl (fun r_40 u_40 H locs w_40 h_40 => ?_)
                  clear h_38
                  obtain ⟨wr_40, _⟩ := w_40
                  replace h_40 : qW D _ _ (wk_94071089f cy h4 (u_5.2.1 2) h0 0 h1 w0 w1 w2 p3 p4 p5 p6 p7 p8 p9 p10 p11 p12 p13 h2 h3 w3 w4 w5 p14 p15 w6 w7 w8 p16 p17 h4 w9 w10 w11 w12 p18 w13 w14 w15 h1 (u_38.2.1 0) h2 (u_40.2.1 0) h3 (u_40.2.1 1)) _ _ := h_40
                  refine q_jn (pc2 := 129) (fun H locs ls st => ∃ v129_41_0 : Int32, (0 ≤ (v129_41_0).toInt ∧ (v129_41_0).toInt ≤ 1) ∧ st = [.int v129_41_0, .int v86_27_1] ∧ qW D (va_A (wk_fa21f7301 cy h0 p2 h1 w0 w1 w2 p3 p4 p5 p6 p7 p8 p9 p10 p11 p12 p13 h2 h3 w3 w4 w5 p14 p15 w6 w7 w8 p16 p17 h4 w9 w10 w11 w12 p18 w13 w14 w15 h1 f0 h2 f1 h3 f2 h4 f3) sz) s.heap (wk_94071089f cy h4 (u_5.2.1 2) h0 0 h1 w0 w1 w2 p3 p4 p5 p6 p7 p8 p9 p10 p11 p12 p13 h2 h3 w3 w4 w5 p14 p15 w6 w7 w8 p16 p17 h4 w9 w10 w11 w12 p18 w13 w14 w15 h1 (u_38.2.1 0) h2 (u_40.2.1 0) h3 (u_40.2.1 1)) H locs ∧ lv_has ls 11 [(0, .ref h0), (1, .int p0), (2, .int p1), (3, .int r_2), (4, .int r_5), (5, .int r_7), (6, .int v42_12_1), (7, .int v42_12_2), (8, .int v42_12_0), (9, .int v86_27_1), (10, .int v86_27_0)]) (fun H locs ls st hP => ?_) (fun J_129 => ?_)
                  · obtain ⟨v129_41_0, hv129_41_0, rfl, h, hl⟩ := hP
                    refine lv_iadd hx hb dX12_probe_129 ?_
                    refine q_any (fun z_42 hz_42 => ?_)
                    refine lv_istore (lv' := [(9, .int z_42), (0, .ref h0), (1, .int p0), (2, .int p1), (3, .int r_2), (4, .int r_5), (5, .int r_7), (6, .int v42_12_1), (7, .int v42_12_2), (8, .int v42_12_0), (10, .int v86_27_0)]) hx hb dX12_probe_130 hl (by decide) rfl (fun ls_43 hl_43 => ?_)
                    clear hl
                    obtain ⟨z_44, ez_44, hz_44⟩ := e_add (x := v86_27_0) (y := Int32.ofInt 1) rfl (b := 1) (by decide) (by omega) (by omega)
                    refine lv_iinc (v := z_44) (lv' := [(10, .int z_44), (9, .int z_42), (0, .ref h0), (1, .int p0), (2, .int p1), (3, .int r_2), (4, .int r_5), (5, .int r_7), (6, .int v42_12_1), (7, .int v42_12_2), (8, .int v42_12_0)]) hx hb dX12_probe_132 hl_43 (k := 10) rfl ez_44 (by decide) rfl (fun ls_44 hl_44 => ?_)
                    clear hl_43
                    refine lv_goto (tgt := 86) hx hb dX12_probe_135 (by decide) ?_
                    exact ih_86 (z_44, z_42) (by show (1001 - (z_44).toInt).toNat < (1001 - (v86_27_0).toInt).toNat; omega) _ _ _ ⟨(u_38.2.1 0), (u_40.2.1 0), (u_40.2.1 1), ⟨by omega, by omega⟩, ⟨by omega, by omega⟩, w38_1, w38_0, (q_re h [3, 4, 0, 1, 2] rfl rfl), (lv_sub hl_44 [2, 3, 4, 5, 6, 7, 8, 9, 10, 1, 0] rfl)⟩
                  · skip
                    refine lv_if_eq (tgt := 128) hx hb dX12_probe_121 (by decide) (fun c_45 => ?_) (fun c_45 => ?_)
                    · replace c_45 := i_eq (x := r_40) (y := 0) rfl (show (0 : Int32).toInt = 0 by decide) c_45
                      refine lv_iconst (v := 0) hx hb dX12_probe_128 (by decide) ?_
                      exact J_129 _ _ _ _ ⟨0, ⟨by decide +kernel, by decide +kernel⟩, rfl, h_40, (lv_sub hl [0, 1, 2, 3, 4, 5, 6, 7, 8, 9, 10] rfl)⟩
                    · replace c_45 := i_ne (x := r_40) (y := 0) rfl (show (0 : Int32).toInt = 0 by decide) c_45
                      refine lv_iconst (v := 1) hx hb dX12_probe_124 (by decide) ?_
                      refine lv_goto (tgt := 129) hx hb dX12_probe_125 (by decide) ?_
                      exact J_129 _ _ _ _ ⟨1, ⟨by decide +kernel, by decide +kernel⟩, rfl, h_40, (lv_sub hl [0, 1, 2, 3, 4, 5, 6, 7, 8, 9, 10] rfl)⟩
              · replace c_24 := i_ne (x := r_23) (y := 0) rfl (show (0 : Int32).toInt = 0 by decide) c_24
                refine lv_goto (tgt := 178) hx hb dX12_probe_77 (by decide) ?_
                exact J_178 _ _ _ _ ⟨v42_12_2, v42_12_1, v42_12_3, v42_12_4, v42_12_5, hv42_12_2, hv42_12_1, trv42_12_5_84, rv42_12_5, rfl, h_23, (lv_sub hl [0, 1, 2, 3, 4, 5, 6, 7, 8] rfl)⟩
  · replace c_4 := i_ne (x := r_2) (y := 0) rfl (show (0 : Int32).toInt = 0 by decide) c_4
    refine lv_iload_n hx hb dX12_probe_16 rfl (lv_at hl_3 0 rfl) ?_
    exact q_iret X hr hlk hK h_2 rfl (fun _ => 0, (vcons f1 (vcons f2 (vcons f3 (vcons (fun _ => 0) (vcons f0 (fun _ => (fun _ => 0))))))), fun _ _ => 0) ⟨(bw wr_2 (by decide) (by decide)), (rg_wide rf3 (by decide) (by decide)), (⟨by decide +kernel, by decide +kernel⟩ : 0 ≤ (0 : Int32).toInt ∧ (0 : Int32).toInt ≤ 0), rf0, htf0_84, trivial⟩ [3, 4, 0, 1, 2] rfl rfl dX12_probe_17 (Nat.le_of_ble_eq_true rfl) (Nat.le_of_ble_eq_true rfl)
set_option maxHeartbeats 4000000 in
set_option maxRecDepth 100000 in
theorem gX12_chanceOf_39433c5 (l : Launch) (D : va_G) (cy : Nat → ClassId) (h0 : Nat) (h1 : Nat) (h2 : Nat) (p0 : Int32) (p1 : Int32) (w0 : Value) (w1 : Value) (w2 : Value) (p2 : Int32) (p3 : Int32) (p4 : Int32) (p5 : Int32) (p6 : Int32) (p7 : Int32) (p8 : Int32) (p9 : Int32) (p10 : Int32) (p11 : Int32) (p12 : Int32) (w3 : Value) (w4 : Value) (w5 : Value) (w6 : Value) (w7 : Value) (p13 : Int32) (p14 : Int32) (w8 : Value) (w9 : Value) (p15 : Int32) (p16 : Int32) (w10 : Value) (w11 : Value) (w12 : Value) (w13 : Value) (w14 : Value) (p17 : Int32) (w15 : Value) (w16 : Value) (w17 : Value) (f0 : Nat → Int32) (p18 : Int32) (f1 : Nat → Int32) (hp0 : 0 ≤ (p0).toInt ∧ (p0).toInt ≤ 1023) (hp1 : 0 ≤ (p1).toInt ∧ (p1).toInt ≤ 0) (hp2 : 0 ≤ (p2).toInt ∧ (p2).toInt ≤ 900) (hp3 : 0 ≤ (p3).toInt ∧ (p3).toInt ≤ 900) (hp4 : 0 ≤ (p4).toInt ∧ (p4).toInt ≤ 900) (hp5 : 0 ≤ (p5).toInt ∧ (p5).toInt ≤ 900) (hp6 : (-2147483648) ≤ (p6).toInt ∧ (p6).toInt ≤ 2147483647) (hp7 : 0 ≤ (p7).toInt ∧ (p7).toInt ≤ 999) (hp8 : (-2147483648) ≤ (p8).toInt ∧ (p8).toInt ≤ 2147483647) (hp9 : (-2147483648) ≤ (p9).toInt ∧ (p9).toInt ≤ 2147483647) (hp10 : (-2147483648) ≤ (p10).toInt ∧ (p10).toInt ≤ 2147483647) (hp11 : (-2147483648) ≤ (p11).toInt ∧ (p11).toInt ≤ 2147483647) (hp12 : (-2147483648) ≤ (p12).toInt ∧ (p12).toInt ≤ 2147483647) (hp13 : (-2147483648) ≤ (p13).toInt ∧ (p13).toInt ≤ 2147483647) (hp14 : (-2147483648) ≤ (p14).toInt ∧ (p14).toInt ≤ 2147483647) (hp15 : (-2147483648) ≤ (p15).toInt ∧ (p15).toInt ≤ 2147483647) (hp16 : (-2147483648) ≤ (p16).toInt ∧ (p16).toInt ≤ 2147483647) (hp17 : (-2147483648) ≤ (p17).toInt ∧ (p17).toInt ≤ 2147483647) (hp18 : 0 ≤ (p18).toInt ∧ (p18).toInt ≤ 10) (htf0_84 : f0 84 = p18) (rf0 : AL f0) (sz : Nat) : ML l yX12_chanceOf cX12_chanceOf 8 { frames := 1, cells := 0, slots := 0, locals := 22 } [.ref h0, .int p0] D cy (wk_0d0dd550c cy h0 p1 h1 w0 w1 w2 p2 p3 p4 p5 p6 p7 p8 p9 p10 p11 p12 w3 w4 w5 w6 w7 p13 p14 h2 w8 w9 p15 p16 w10 w11 w12 w13 w14 p17 w15 w16 w17 h1 f0 h2 f1) sz (fun r u => ((-9223372036854775808) ≤ r.toInt ∧ r.toInt ≤ 9223372036854775807) ∧ True) (fun u => (wk_0d0dd550c cy h0 p1 h1 w0 w1 w2 p2 p3 p4 p5 p6 p7 p8 p9 p10 p11 p12 w3 w4 w5 w6 w7 p13 p14 h2 w8 w9 p15 p16 w10 w11 w12 w13 w14 p17 w15 w16 w17 h1 f0 h2 f1)) 0 0 := by
  refine q_ent (own := RX12) (by decide) rfl (Nat.le_of_ble_eq_true rfl) (fun p e s m below meth c ls X hr hlk hnm hK hT h hA hl => ?_)
  obtain ⟨hx, hb, hml, hown, ht⟩ := id X
  replace hl : lv_has ls 8 [(0, .ref h0), (1, .int p0)] := hl
  refine lv_lconst (v := 0) hx hb dX12_chanceOf_0 (by decide) ?_
  refine lv_lstore_n (lv' := [(2, .long 0), (0, .ref h0), (1, .int p0)]) hx hb dX12_chanceOf_1 rfl hl (by decide) rfl (fun ls_1 hl_1 => ?_)
  clear hl
  refine lv_iconst (v := 0) hx hb dX12_chanceOf_2 (by decide) ?_
  refine lv_istore (lv' := [(4, .int 0), (2, .long 0), (0, .ref h0), (1, .int p0)]) hx hb dX12_chanceOf_3 hl_1 (by decide) rfl (fun ls_2 hl_2 => ?_)
  clear hl_1
  refine q_wl (fun (q : Int32 × Int64) H locs ls => match q with | (v5_3_0, v5_3_1) => (0 ≤ (v5_3_0).toInt ∧ (v5_3_0).toInt ≤ 1024) ∧ ((-9223372036854775808) ≤ (v5_3_1).toInt ∧ (v5_3_1).toInt ≤ 9223372036854775807) ∧ qW D (va_A (wk_0d0dd550c cy h0 p1 h1 w0 w1 w2 p2 p3 p4 p5 p6 p7 p8 p9 p10 p11 p12 w3 w4 w5 w6 w7 p13 p14 h2 w8 w9 p15 p16 w10 w11 w12 w13 w14 p17 w15 w16 w17 h1 f0 h2 f1) sz) s.heap (wk_0d0dd550c cy h0 p1 h1 w0 w1 w2 p2 p3 p4 p5 p6 p7 p8 p9 p10 p11 p12 w3 w4 w5 w6 w7 p13 p14 h2 w8 w9 p15 p16 w10 w11 w12 w13 w14 p17 w15 w16 w17 h1 f0 h2 f1) H locs ∧ lv_has ls 8 [(0, .ref h0), (1, .int p0), (2, .long v5_3_1), (4, .int v5_3_0)]) (fun (q : Int32 × Int64) => match q with | (v5_3_0, v5_3_1) => (1025 - (v5_3_0).toInt).toNat) (fun q_5 ih_5 H locs ls hP => ?_) (0, 0) ⟨⟨by decide +kernel, by decide +kernel⟩, ⟨by decide +kernel, by decide +kernel⟩, h, (lv_sub hl_2 [2, 3, 1, 0] rfl)⟩
  obtain ⟨v5_3_0, v5_3_1⟩ := q_5
  obtain ⟨hv5_3_0, hv5_3_1, h, hl⟩ := hP
  refine lv_iload hx hb dX12_chanceOf_5 (lv_at hl 3 rfl) ?_
  refine lv_iload_n hx hb dX12_chanceOf_7 rfl (lv_at hl 1 rfl) ?_
  refine lv_icmp_gt (tgt := 121) hx hb dX12_chanceOf_8 (by decide) (fun c_4 => ?_) (fun c_4 => ?_)
  · replace c_4 := i_lt (x := p0) (y := v5_3_0) rfl rfl c_4
    refine lv_lload_n hx hb dX12_chanceOf_121 rfl (lv_at hl 2 rfl) ?_
    exact q_lret X hr hlk hK h (fun _ => 0, fun _ _ => 0, fun _ _ => 0) ⟨hv5_3_1, trivial⟩ [0, 1, 2] rfl rfl dX12_chanceOf_122 (Nat.le_of_ble_eq_true rfl) (Nat.le_of_ble_eq_true rfl)
  · replace c_4 := i_nlt (x := p0) (y := v5_3_0) rfl rfl c_4
    refine lv_iload hx hb dX12_chanceOf_11 (lv_at hl 3 rfl) ?_
    refine lv_iload_n hx hb dX12_chanceOf_13 rfl (lv_at hl 1 rfl) ?_
    refine lv_iconst (v := (-1)) hx hb dX12_chanceOf_14 (by decide) ?_
    refine lv_ixor hx hb dX12_chanceOf_15 ?_
    refine q_any (fun z_5 hz_5 => ?_)
    refine lv_iand hx hb dX12_chanceOf_16 ?_
    obtain ⟨z_6, ez_6, hz_6⟩ := e_and1 (x := v5_3_0) (y := z_5) rfl (by omega)
    refine q_c z_6 ez_6 ?_
    clear ez_6
    refine q_jn (pc2 := 115) (fun H locs ls st => ∃ v115_7_0 : Int64, ((-9223372036854775808) ≤ (v115_7_0).toInt ∧ (v115_7_0).toInt ≤ 9223372036854775807) ∧ st = [] ∧ qW D (va_A (wk_0d0dd550c cy h0 p1 h1 w0 w1 w2 p2 p3 p4 p5 p6 p7 p8 p9 p10 p11 p12 w3 w4 w5 w6 w7 p13 p14 h2 w8 w9 p15 p16 w10 w11 w12 w13 w14 p17 w15 w16 w17 h1 f0 h2 f1) sz) s.heap (wk_0d0dd550c cy h0 p1 h1 w0 w1 w2 p2 p3 p4 p5 p6 p7 p8 p9 p10 p11 p12 w3 w4 w5 w6 w7 p13 p14 h2 w8 w9 p15 p16 w10 w11 w12 w13 w14 p17 w15 w16 w17 h1 f0 h2 f1) H locs ∧ lv_has ls 8 [(0, .ref h0), (1, .int p0), (2, .long v115_7_0), (4, .int v5_3_0)]) (fun H locs ls st hP => ?_) (fun J_115 => ?_)
    · obtain ⟨v115_7_0, hv115_7_0, rfl, h, hl⟩ := hP
      obtain ⟨z_8, ez_8, hz_8⟩ := e_add (x := v5_3_0) (y := Int32.ofInt 1) rfl (b := 1) (by decide) (by omega) (by omega)
      refine lv_iinc (v := z_8) (lv' := [(4, .int z_8), (0, .ref h0), (1, .int p0), (2, .long v115_7_0)]) hx hb dX12_chanceOf_115 hl (k := 3) rfl ez_8 (by decide) rfl (fun ls_8 hl_8 => ?_)
      clear hl
      refine lv_goto (tgt := 5) hx hb dX12_chanceOf_118 (by decide) ?_
      exact ih_5 (z_8, v115_7_0) (by show (1025 - (z_8).toInt).toNat < (1025 - (v5_3_0).toInt).toNat; omega) _ _ _ ⟨⟨by omega, by omega⟩, hv115_7_0, h, (lv_sub hl_8 [1, 2, 3, 0] rfl)⟩
    · skip
      refine lv_if_ne (tgt := 115) hx hb dX12_chanceOf_17 (by decide) (fun c_9 => ?_) (fun c_9 => ?_)
      · replace c_9 := i_ne (x := z_6) (y := 0) rfl (show (0 : Int32).toInt = 0 by decide) c_9
        exact J_115 _ _ _ _ ⟨v5_3_1, hv5_3_1, rfl, h, (lv_sub hl [0, 1, 2, 3] rfl)⟩
      · replace c_9 := i_eq (x := z_6) (y := 0) rfl (show (0 : Int32).toInt = 0 by decide) c_9
        refine lv_aload_n hx hb dX12_chanceOf_20 rfl (lv_at hl 0 rfl) ?_
        refine q_get X hK h 0 rfl rfl wf_12 23 (by decide) rfl wm_5_193 dX12_chanceOf_21 ?_
        refine lv_iload hx hb dX12_chanceOf_24 (lv_at hl 3 rfl) ?_
        refine q_iald X hK h 2 rfl (i_in rfl (by omega) (by omega)) dX12_chanceOf_26 ?_
        refine q_any (fun z_10 hz_10 => ?_)
        refine lv_if_ne (tgt := 33) hx hb dX12_chanceOf_27 (by decide) (fun c_11 => ?_) (fun c_11 => ?_)
        · replace c_11 := i_ne (x := z_10) (y := 0) rfl (show (0 : Int32).toInt = 0 by decide) c_11
          refine lv_lconst (v := 1) hx hb dX12_chanceOf_33 (by decide) ?_
          refine lv_lstore (lv' := [(5, .long 1), (0, .ref h0), (1, .int p0), (2, .long v5_3_1), (4, .int v5_3_0)]) hx hb dX12_chanceOf_34 hl (by decide) rfl (fun ls_12 hl_12 => ?_)
          clear hl
          refine lv_iconst (v := 0) hx hb dX12_chanceOf_36 (by decide) ?_
          refine lv_istore (lv' := [(7, .int 0), (5, .long 1), (0, .ref h0), (1, .int p0), (2, .long v5_3_1), (4, .int v5_3_0)]) hx hb dX12_chanceOf_37 hl_12 (by decide) rfl (fun ls_13 hl_13 => ?_)
          clear hl_12
          refine q_wl (fun (q : Int32 × Int64) H locs ls => match q with | (v39_14_0, v39_14_1) => (0 ≤ (v39_14_0).toInt ∧ (v39_14_0).toInt ≤ 10) ∧ ((-9223372036854775808) ≤ (v39_14_1).toInt ∧ (v39_14_1).toInt ≤ 9223372036854775807) ∧ qW D (va_A (wk_0d0dd550c cy h0 p1 h1 w0 w1 w2 p2 p3 p4 p5 p6 p7 p8 p9 p10 p11 p12 w3 w4 w5 w6 w7 p13 p14 h2 w8 w9 p15 p16 w10 w11 w12 w13 w14 p17 w15 w16 w17 h1 f0 h2 f1) sz) s.heap (wk_0d0dd550c cy h0 p1 h1 w0 w1 w2 p2 p3 p4 p5 p6 p7 p8 p9 p10 p11 p12 w3 w4 w5 w6 w7 p13 p14 h2 w8 w9 p15 p16 w10 w11 w12 w13 w14 p17 w15 w16 w17 h1 f0 h2 f1) H locs ∧ lv_has ls 8 [(0, .ref h0), (1, .int p0), (2, .long v5_3_1), (4, .int v5_3_0), (5, .long v39_14_1), (7, .int v39_14_0)]) (fun (q : Int32 × Int64) => match q with | (v39_14_0, v39_14_1) => (11 - (v39_14_0).toInt).toNat) (fun q_39 ih_39 H locs ls hP => ?_) (0, 1) ⟨⟨by decide +kernel, by decide +kernel⟩, ⟨by decide +kernel, by decide +kernel⟩, h, (lv_sub hl_13 [2, 3, 4, 5, 1, 0] rfl)⟩
          obtain ⟨v39_14_0, v39_14_1⟩ := q_39
          obtain ⟨hv39_14_0, hv39_14_1, h, hl⟩ := hP
          refine lv_iload hx hb dX12_chanceOf_39 (lv_at hl 5 rfl) ?_
          refine lv_aload_n hx hb dX12_chanceOf_41 rfl (lv_at hl 0 rfl) ?_
          refine q_get X hK h 0 rfl rfl wf_12 1 (by decide) rfl wm_5_171 dX12_chanceOf_42 ?_
          refine lv_iconst (v := 2) hx hb dX12_chanceOf_45 (by decide) ?_
          refine q_iald X hK h 1 rfl (q_in (by decide +kernel)) dX12_chanceOf_46 ?_
          obtain ⟨z_15, ez_15, hz_15⟩ := al_P rf0 (x := 2) (show (2 : Int32).toInt = 2 by decide) (by omega) (by omega)
          refine q_c z_15 ez_15 ?_
          clear ez_15
          refine lv_icmp_ge (tgt := 110) hx hb dX12_chanceOf_47 (by decide) (fun c_16 => ?_) (fun c_16 => ?_)
          · replace c_16 := i_le (x := z_15) (y := v39_14_0) rfl rfl c_16
            refine lv_lload_n hx hb dX12_chanceOf_110 rfl (lv_at hl 2 rfl) ?_
            refine lv_lload hx hb dX12_chanceOf_111 (lv_at hl 4 rfl) ?_
            refine lv_ladd hx hb dX12_chanceOf_113 ?_
            refine q_anyJ (fun z_17 hz_17 => ?_)
            refine lv_lstore_n (lv' := [(2, .long z_17), (0, .ref h0), (1, .int p0), (4, .int v5_3_0), (5, .long v39_14_1), (7, .int v39_14_0)]) hx hb dX12_chanceOf_114 rfl hl (by decide) rfl (fun ls_18 hl_18 => ?_)
            clear hl
            exact J_115 _ _ _ _ ⟨z_17, ⟨by omega, by omega⟩, rfl, h, (lv_sub hl_18 [1, 2, 0, 3] rfl)⟩
          · replace c_16 := i_nle (x := z_15) (y := v39_14_0) rfl rfl c_16
            refine lv_iload_n hx hb dX12_chanceOf_50 rfl (lv_at hl 1 rfl) ?_
            refine lv_i2l hx hb dX12_chanceOf_51 rfl ?_
            obtain ⟨z_19, ez_19, hz_19⟩ := e_i2l (x := p0) rfl
            refine q_cl z_19 ez_19 ?_
            clear ez_19
            refine lv_iload hx hb dX12_chanceOf_52 (lv_at hl 5 rfl) ?_
            refine q_callSi (rest := []) (wr := (wk_0d0dd550c cy h0 p1 h1 w0 w1 w2 p2 p3 p4 p5 p6 p7 p8 p9 p10 p11 p12 w3 w4 w5 w6 w7 p13 p14 h2 w8 w9 p15 p16 w10 w11 w12 w13 w14 p17 w15 w16 w17 h1 f0 h2 f1)) X hK hT hA h (fun sz => gX12_isIn_b0455a8 l D cy z_19 v39_14_0 ⟨by omega, by omega⟩ ⟨by omega, by omega⟩ sz) wm_6_167 wm_6_169 wm_1_12 hd_X12_isIn wm_6_168 ⟨Nat.le_of_ble_eq_true rfl, Nat.le_of_ble_eq_true rfl⟩ hl.1 rfl (Nat.le_of_ble_eq_true rfl) dX12_chanceOf_54 ⟨Nat.le_of_ble_eq_true rfl, Nat.le_of_ble_eq_true rfl⟩ [] [0, 1, 2] rfl rfl (by decide) rfl rfl (fun r_20 u_20 H locs w_20 h_20 => ?_)
            clear h
            obtain ⟨wr_20, _⟩ := w_20
            replace h_20 : qW D _ _ (wk_0d0dd550c cy h0 p1 h1 w0 w1 w2 p2 p3 p4 p5 p6 p7 p8 p9 p10 p11 p12 w3 w4 w5 w6 w7 p13 p14 h2 w8 w9 p15 p16 w10 w11 w12 w13 w14 p17 w15 w16 w17 h1 f0 h2 f1) _ _ := h_20
            refine q_jn (pc2 := 104) (fun H locs ls st => ∃ v104_21_0 : Int64, ((-9223372036854775808) ≤ (v104_21_0).toInt ∧ (v104_21_0).toInt ≤ 9223372036854775807) ∧ st = [] ∧ qW D (va_A (wk_0d0dd550c cy h0 p1 h1 w0 w1 w2 p2 p3 p4 p5 p6 p7 p8 p9 p10 p11 p12 w3 w4 w5 w6 w7 p13 p14 h2 w8 w9 p15 p16 w10 w11 w12 w13 w14 p17 w15 w16 w17 h1 f0 h2 f1) sz) s.heap (wk_0d0dd550c cy h0 p1 h1 w0 w1 w2 p2 p3 p4 p5 p6 p7 p8 p9 p10 p11 p12 w3 w4 w5 w6 w7 p13 p14 h2 w8 w9 p15 p16 w10 w11 w12 w13 w14 p17 w15 w16 w17 h1 f0 h2 f1) H locs ∧ lv_has ls 8 [(0, .ref h0), (1, .int p0), (2, .long v5_3_1), (4, .int v5_3_0), (5, .long v104_21_0), (7, .int v39_14_0)]) (fun H locs ls st hP => ?_) (fun J_104 => ?_)
            · obtain ⟨v104_21_0, hv104_21_0, rfl, h, hl⟩ := hP
              obtain ⟨z_22, ez_22, hz_22⟩ := e_add (x := v39_14_0) (y := Int32.ofInt 1) rfl (b := 1) (by decide) (by omega) (by omega)
              refine lv_iinc (v := z_22) (lv' := [(7, .int z_22), (0, .ref h0), (1, .int p0), (2, .long v5_3_1), (4, .int v5_3_0), (5, .long v104_21_0)]) hx hb dX12_chanceOf_104 hl (k := 5) rfl ez_22 (by decide) rfl (fun ls_22 hl_22 => ?_)
              clear hl
              refine lv_goto (tgt := 39) hx hb dX12_chanceOf_107 (by decide) ?_
              exact ih_39 (z_22, v104_21_0) (by show (11 - (z_22).toInt).toNat < (11 - (v39_14_0).toInt).toNat; omega) _ _ _ ⟨⟨by omega, by omega⟩, hv104_21_0, h, (lv_sub hl_22 [1, 2, 3, 4, 5, 0] rfl)⟩
            · skip
              refine lv_if_eq (tgt := 104) hx hb dX12_chanceOf_57 (by decide) (fun c_23 => ?_) (fun c_23 => ?_)
              · replace c_23 := i_eq (x := r_20) (y := 0) rfl (show (0 : Int32).toInt = 0 by decide) c_23
                exact J_104 _ _ _ _ ⟨v39_14_1, hv39_14_1, rfl, h_20, (lv_sub hl [0, 1, 2, 3, 4, 5] rfl)⟩
              · replace c_23 := i_ne (x := r_20) (y := 0) rfl (show (0 : Int32).toInt = 0 by decide) c_23
                refine lv_lload hx hb dX12_chanceOf_60 (lv_at hl 4 rfl) ?_
                refine lv_iload hx hb dX12_chanceOf_62 (lv_at hl 3 rfl) ?_
                refine lv_i2l hx hb dX12_chanceOf_64 rfl ?_
                obtain ⟨z_24, ez_24, hz_24⟩ := e_i2l (x := v5_3_0) rfl
                refine q_cl z_24 ez_24 ?_
                clear ez_24
                refine lv_iload hx hb dX12_chanceOf_65 (lv_at hl 5 rfl) ?_
                refine q_callSi (rest := [.long v39_14_1]) (wr := (wk_0d0dd550c cy h0 p1 h1 w0 w1 w2 p2 p3 p4 p5 p6 p7 p8 p9 p10 p11 p12 w3 w4 w5 w6 w7 p13 p14 h2 w8 w9 p15 p16 w10 w11 w12 w13 w14 p17 w15 w16 w17 h1 f0 h2 f1)) X hK hT hA h_20 (fun sz => gX12_isIn_b0455a8 l D cy z_24 v39_14_0 ⟨by omega, by omega⟩ ⟨by omega, by omega⟩ sz) wm_6_167 wm_6_169 wm_1_12 hd_X12_isIn wm_6_168 ⟨Nat.le_of_ble_eq_true rfl, Nat.le_of_ble_eq_true rfl⟩ hl.1 rfl (Nat.le_of_ble_eq_true rfl) dX12_chanceOf_67 ⟨Nat.le_of_ble_eq_true rfl, Nat.le_of_ble_eq_true rfl⟩ [] [0, 1, 2] rfl rfl (by decide) rfl rfl (fun r_25 u_25 H locs w_25 h_25 => ?_)
                clear h_20
                obtain ⟨wr_25, _⟩ := w_25
                replace h_25 : qW D _ _ (wk_0d0dd550c cy h0 p1 h1 w0 w1 w2 p2 p3 p4 p5 p6 p7 p8 p9 p10 p11 p12 w3 w4 w5 w6 w7 p13 p14 h2 w8 w9 p15 p16 w10 w11 w12 w13 w14 p17 w15 w16 w17 h1 f0 h2 f1) _ _ := h_25
                refine q_jn (pc2 := 101) (fun H locs ls st => ∃ v101_26_0 : Int64, ((-2147483648) ≤ (v101_26_0).toInt ∧ (v101_26_0).toInt ≤ 2147483647) ∧ st = [.long v101_26_0, .long v39_14_1] ∧ qW D (va_A (wk_0d0dd550c cy h0 p1 h1 w0 w1 w2 p2 p3 p4 p5 p6 p7 p8 p9 p10 p11 p12 w3 w4 w5 w6 w7 p13 p14 h2 w8 w9 p15 p16 w10 w11 w12 w13 w14 p17 w15 w16 w17 h1 f0 h2 f1) sz) s.heap (wk_0d0dd550c cy h0 p1 h1 w0 w1 w2 p2 p3 p4 p5 p6 p7 p8 p9 p10 p11 p12 w3 w4 w5 w6 w7 p13 p14 h2 w8 w9 p15 p16 w10 w11 w12 w13 w14 p17 w15 w16 w17 h1 f0 h2 f1) H locs ∧ lv_has ls 8 [(0, .ref h0), (1, .int p0), (2, .long v5_3_1), (4, .int v5_3_0), (5, .long v39_14_1), (7, .int v39_14_0)]) (fun H locs ls st hP => ?_) (fun J_101 => ?_)
                · obtain ⟨v101_26_0, hv101_26_0, rfl, h, hl⟩ := hP
                  refine lv_lmul hx hb dX12_chanceOf_101 ?_
                  refine q_anyJ (fun z_27 hz_27 => ?_)
                  refine lv_lstore (lv' := [(5, .long z_27), (0, .ref h0), (1, .int p0), (2, .long v5_3_1), (4, .int v5_3_0), (7, .int v39_14_0)]) hx hb dX12_chanceOf_102 hl (by decide) rfl (fun ls_28 hl_28 => ?_)
                  clear hl
                  exact J_104 _ _ _ _ ⟨z_27, ⟨by omega, by omega⟩, rfl, h, (lv_sub hl_28 [1, 2, 3, 4, 0, 5] rfl)⟩
                · skip
                  refine lv_if_eq (tgt := 87) hx hb dX12_chanceOf_70 (by decide) (fun c_29 => ?_) (fun c_29 => ?_)
                  · replace c_29 := i_eq (x := r_25) (y := 0) rfl (show (0 : Int32).toInt = 0 by decide) c_29
                    refine lv_bipush (v := 10) hx hb dX12_chanceOf_87 (by decide) ?_
                    refine lv_aload_n hx hb dX12_chanceOf_89 rfl (lv_at hl 0 rfl) ?_
                    refine q_get X hK h_25 0 rfl rfl wf_12 1 (by decide) rfl wm_5_171 dX12_chanceOf_90 ?_
                    refine lv_bipush (v := 32) hx hb dX12_chanceOf_93 (by decide) ?_
                    refine lv_iload hx hb dX12_chanceOf_95 (lv_at hl 5 rfl) ?_
                    refine lv_iadd hx hb dX12_chanceOf_97 ?_
                    obtain ⟨z_30, ez_30, hz_30⟩ := e_add (x := 32) (y := v39_14_0) (show (32 : Int32).toInt = 32 by decide) rfl (by omega) (by omega)
                    refine q_c z_30 ez_30 ?_
                    clear ez_30
                    refine q_iald X hK h_25 1 rfl (i_in rfl (by omega) (by omega)) dX12_chanceOf_98 ?_
                    refine q_any (fun z_31 hz_31 => ?_)
                    refine lv_isub hx hb dX12_chanceOf_99 ?_
                    refine q_any (fun z_32 hz_32 => ?_)
                    refine lv_i2l hx hb dX12_chanceOf_100 rfl ?_
                    obtain ⟨z_33, ez_33, hz_33⟩ := e_i2l (x := z_32) rfl
                    refine q_cl z_33 ez_33 ?_
                    clear ez_33
                    exact J_101 _ _ _ _ ⟨z_33, ⟨by omega, by omega⟩, rfl, h_25, (lv_sub hl [0, 1, 2, 3, 4, 5] rfl)⟩
                  · replace c_29 := i_ne (x := r_25) (y := 0) rfl (show (0 : Int32).toInt = 0 by decide) c_29
                    refine lv_aload_n hx hb dX12_chanceOf_73 rfl (lv_at hl 0 rfl) ?_
                    refine q_get X hK h_25 0 rfl rfl wf_12 1 (by decide) rfl wm_5_171 dX12_chanceOf_74 ?_
                    refine lv_bipush (v := 32) hx hb dX12_chanceOf_77 (by decide) ?_
                    refine lv_iload hx hb dX12_chanceOf_79 (lv_at hl 5 rfl) ?_
                    refine lv_iadd hx hb dX12_chanceOf_81 ?_
                    obtain ⟨z_34, ez_34, hz_34⟩ := e_add (x := 32) (y := v39_14_0) (show (32 : Int32).toInt = 32 by decide) rfl (by omega) (by omega)
                    refine q_c z_34 ez_34 ?_
                    clear ez_34
                    refine q_iald X hK h_25 1 rfl (i_in rfl (by omega) (by omega)) dX12_chanceOf_82 ?_
                    refine q_any (fun z_35 hz_35 => ?_)
                    refine lv_i2l hx hb dX12_chanceOf_83 rfl ?_
                    obtain ⟨z_36, ez_36, hz_36⟩ := e_i2l (x := z_35) rfl
                    refine q_cl z_36 ez_36 ?_
                    clear ez_36
                    refine lv_goto (tgt := 101) hx hb dX12_chanceOf_84 (by decide) ?_
                    exact J_101 _ _ _ _ ⟨z_36, ⟨by omega, by omega⟩, rfl, h_25, (lv_sub hl [0, 1, 2, 3, 4, 5] rfl)⟩
        · replace c_11 := i_eq (x := z_10) (y := 0) rfl (show (0 : Int32).toInt = 0 by decide) c_11
          refine lv_goto (tgt := 115) hx hb dX12_chanceOf_30 (by decide) ?_
          exact J_115 _ _ _ _ ⟨v5_3_1, hv5_3_1, rfl, h, (lv_sub hl [0, 1, 2, 3] rfl)⟩
set_option maxHeartbeats 4000000 in
set_option maxRecDepth 100000 in
theorem gX12_tens_dd3db09 (l : Launch) (D : va_G) (cy : Nat → ClassId) (p0 : Int32) (hp0 : 0 ≤ (p0).toInt ∧ (p0).toInt ≤ 10) (sz : Nat) : ML l yX12_tens cX12_tens 4 { frames := 0, cells := 0, slots := 0, locals := 0 } [.int p0] D cy [] sz (fun r u => (1 ≤ r.toInt ∧ r.toInt ≤ 10000000000) ∧ (1 ≤ (r : Int64).toInt ∧ (r : Int64).toInt ≤ 10000000000) ∧ True) (fun u => []) 0 0 := by
  refine q_ent (own := RX12) (by decide) rfl (Nat.le_of_ble_eq_true rfl) (fun p e s m below meth c ls X hr hlk hnm hK hT h hA hl => ?_)
  obtain ⟨hx, hb, hml, hown, ht⟩ := id X
  replace hl : lv_has ls 4 [(0, .int p0)] := hl
  refine lv_lconst (v := 1) hx hb dX12_tens_0 (by decide) ?_
  refine lv_lstore_n (lv' := [(1, .long 1), (0, .int p0)]) hx hb dX12_tens_1 rfl hl (by decide) rfl (fun ls_1 hl_1 => ?_)
  clear hl
  refine lv_iconst (v := 0) hx hb dX12_tens_2 (by decide) ?_
  refine lv_istore_n (lv' := [(3, .int 0), (1, .long 1), (0, .int p0)]) hx hb dX12_tens_3 rfl hl_1 (by decide) rfl (fun ls_2 hl_2 => ?_)
  clear hl_1
  refine q_wl (fun (q : Int32 × Int64) H locs ls => match q with | (v4_3_0, v4_3_1) => (0 ≤ (v4_3_0).toInt ∧ (v4_3_0).toInt ≤ 10) ∧ (1 ≤ (v4_3_1).toInt ∧ (v4_3_1).toInt ≤ 10000000000) ∧ (TEN (v4_3_0 : Int32).toInt (v4_3_1 : Int64).toInt) ∧ qW D (va_A [] sz) s.heap [] H locs ∧ lv_has ls 4 [(0, .int p0), (1, .long v4_3_1), (3, .int v4_3_0)]) (fun (q : Int32 × Int64) => match q with | (v4_3_0, v4_3_1) => (11 - (v4_3_0).toInt).toNat) (fun q_4 ih_4 H locs ls hP => ?_) (0, 1) ⟨⟨by decide +kernel, by decide +kernel⟩, ⟨by decide +kernel, by decide +kernel⟩, (ten_0 (by decide) (by decide)), h, (lv_sub hl_2 [2, 1, 0] rfl)⟩
  obtain ⟨v4_3_0, v4_3_1⟩ := q_4
  obtain ⟨hv4_3_0, hv4_3_1, x4_0, h, hl⟩ := hP
  refine lv_iload_n hx hb dX12_tens_4 rfl (lv_at hl 2 rfl) ?_
  refine lv_iload_n hx hb dX12_tens_5 rfl (lv_at hl 0 rfl) ?_
  refine lv_icmp_ge (tgt := 21) hx hb dX12_tens_6 (by decide) (fun c_5 => ?_) (fun c_5 => ?_)
  · replace c_5 := i_le (x := p0) (y := v4_3_0) rfl rfl c_5
    refine lv_lload_n hx hb dX12_tens_21 rfl (lv_at hl 1 rfl) ?_
    exact q_lret X hr hlk hK h (fun _ => 0, fun _ _ => 0, fun _ _ => 0) ⟨hv4_3_1, (show 1 ≤ (v4_3_1 : Int64).toInt ∧ (v4_3_1 : Int64).toInt ≤ 10000000000 from by omega), trivial⟩ [] rfl rfl dX12_tens_22 (Nat.le_of_ble_eq_true rfl) (Nat.le_of_ble_eq_true rfl)
  · replace c_5 := i_nle (x := p0) (y := v4_3_0) rfl rfl c_5
    refine lv_lload_n hx hb dX12_tens_9 rfl (lv_at hl 1 rfl) ?_
    refine lv_ldc2 hx hb hown (ht _ wm_7_24) dX12_tens_10 ?_
    refine lv_lmul hx hb dX12_tens_13 ?_
    obtain ⟨z_6, ez_6, hz_6⟩ := e_mulJ (x := v4_3_1) (y := 10) rfl (show (10 : Int64).toInt = 10 by decide) (by omega) (by omega)
    refine q_cl z_6 ez_6 ?_
    clear ez_6
    refine lv_lstore_n (lv' := [(1, .long z_6), (0, .int p0), (3, .int v4_3_0)]) hx hb dX12_tens_14 rfl hl (by decide) rfl (fun ls_7 hl_7 => ?_)
    clear hl
    obtain ⟨z_8, ez_8, hz_8⟩ := e_add (x := v4_3_0) (y := Int32.ofInt 1) rfl (b := 1) (by decide) (by omega) (by omega)
    refine lv_iinc (v := z_8) (lv' := [(3, .int z_8), (1, .long z_6), (0, .int p0)]) hx hb dX12_tens_15 hl_7 (k := 2) rfl ez_8 (by decide) rfl (fun ls_8 hl_8 => ?_)
    clear hl_7
    have tn_9 : TEN (z_8 : Int32).toInt (z_6 : Int64).toInt := ten_s x4_0 (by omega) (by omega)
    have tb_9 := ten_b tn_9 (by omega)
    refine lv_goto (tgt := 4) hx hb dX12_tens_18 (by decide) ?_
    exact ih_4 (z_8, z_6) (by show (11 - (z_8).toInt).toNat < (11 - (v4_3_0).toInt).toNat; omega) _ _ _ ⟨⟨by omega, by omega⟩, ⟨by omega, by omega⟩, (tn_9), h, (lv_sub hl_8 [2, 1, 0] rfl)⟩
set_option maxHeartbeats 4000000 in
set_option maxRecDepth 100000 in
theorem gX12_common_6a710ba (l : Launch) (D : va_G) (cy : Nat → ClassId) (j0 : Int64) (j1 : Int64) (hj0 : (-1) ≤ (j0).toInt ∧ (j0).toInt ≤ 1) (hj1 : 0 ≤ (j1).toInt ∧ (j1).toInt ≤ 0) (hpre0 : CM 0 1 (j0 : Int64).toInt (j1 : Int64).toInt) (sz : Nat) : ML l yX12_common cX12_common 4 { frames := 0, cells := 0, slots := 0, locals := 0 } [.long j0, .long j1] D cy [] sz (fun r u => ((-1) ≤ r.toInt ∧ r.toInt ≤ 1) ∧ ((r : Int64).toInt ≠ 0 ∨ ((j0 : Int64).toInt = 0 ∧ (j1 : Int64).toInt = 0)) ∧ True) (fun u => []) 0 0 := by
  refine q_ent (own := RX12) (by decide) rfl (Nat.le_of_ble_eq_true rfl) (fun p e s m below meth c ls X hr hlk hnm hK hT h hA hl => ?_)
  obtain ⟨hx, hb, hml, hown, ht⟩ := id X
  replace hl : lv_has ls 4 [(0, .long j0), (2, .long j1)] := hl
  refine lv_lload_n hx hb dX12_common_0 rfl (lv_at hl 1 rfl) ?_
  refine lv_lconst (v := 0) hx hb dX12_common_1 (by decide) ?_
  refine W.lcmp hx hb dX12_common_2 ?_
  refine lv_if_ne (tgt := 10) hx hb dX12_common_3 (by decide) (fun c_1 => ?_) (fun c_1 => ?_)
  · replace c_1 := j_neq (x := j1) (y := 0) rfl (show (0 : Int64).toInt = 0 by decide) c_1
    exfalso
    omega
  · replace c_1 := j_eq (x := j1) (y := 0) rfl (show (0 : Int64).toInt = 0 by decide) c_1
    refine lv_lload_n hx hb dX12_common_6 rfl (lv_at hl 0 rfl) ?_
    refine lv_goto (tgt := 17) hx hb dX12_common_7 (by decide) ?_
    exact q_lret X hr hlk hK h (fun _ => 0, fun _ _ => 0, fun _ _ => 0) ⟨hj0, (show (j0 : Int64).toInt ≠ 0 ∨ ((j0 : Int64).toInt = 0 ∧ (j1 : Int64).toInt = 0) from by omega), trivial⟩ [] rfl rfl dX12_common_17 (Nat.le_of_ble_eq_true rfl) (Nat.le_of_ble_eq_true rfl)
set_option maxHeartbeats 4000000 in
set_option maxRecDepth 100000 in
theorem gX12_common_b22397c (l : Launch) (D : va_G) (cy : Nat → ClassId) (j0 : Int64) (j1 : Int64) (hj0 : (-1) ≤ (j0).toInt ∧ (j0).toInt ≤ 1) (hj1 : (-1) ≤ (j1).toInt ∧ (j1).toInt ≤ 1) (hpre0 : CM 1 1 (j0 : Int64).toInt (j1 : Int64).toInt) (sz : Nat) : ML l yX12_common cX12_common 4 { frames := 1, cells := 0, slots := 0, locals := 23 } [.long j0, .long j1] D cy [] sz (fun r u => ((-1) ≤ r.toInt ∧ r.toInt ≤ 1) ∧ ((r : Int64).toInt ≠ 0 ∨ ((j0 : Int64).toInt = 0 ∧ (j1 : Int64).toInt = 0)) ∧ True) (fun u => []) 0 0 := by
  refine q_ent (own := RX12) (by decide) rfl (Nat.le_of_ble_eq_true rfl) (fun p e s m below meth c ls X hr hlk hnm hK hT h hA hl => ?_)
  obtain ⟨hx, hb, hml, hown, ht⟩ := id X
  replace hl : lv_has ls 4 [(0, .long j0), (2, .long j1)] := hl
  refine lv_lload_n hx hb dX12_common_0 rfl (lv_at hl 1 rfl) ?_
  refine lv_lconst (v := 0) hx hb dX12_common_1 (by decide) ?_
  refine W.lcmp hx hb dX12_common_2 ?_
  refine lv_if_ne (tgt := 10) hx hb dX12_common_3 (by decide) (fun c_1 => ?_) (fun c_1 => ?_)
  · replace c_1 := j_neq (x := j1) (y := 0) rfl (show (0 : Int64).toInt = 0 by decide) c_1
    refine lv_lload_n hx hb dX12_common_10 rfl (lv_at hl 1 rfl) ?_
    refine lv_lload_n hx hb dX12_common_11 rfl (lv_at hl 0 rfl) ?_
    refine lv_lload_n hx hb dX12_common_12 rfl (lv_at hl 1 rfl) ?_
    refine lv_lrem hx hb dX12_common_13 (j_nz (by omega)) ?_
    obtain ⟨z_2, ez_2, hz_2⟩ := e_anyJ (j0 - j0 / j1 * j1)
    refine q_cl z_2 ez_2 ?_
    have cm_3 : CM 0 1 _ _ := cm_s (by decide) hpre0 (by omega) ez_2
    have cr_3 := cm_r cm_3
    refine q_callSl (rest := []) (wr := []) X hK hT hA h (fun sz => gX12_common_6a710ba l D cy j1 z_2 hj1 ⟨by omega, by omega⟩ (cm_3) sz) wm_8_20 wm_8_22 wm_1_12 hd_X12_common wm_8_21 ⟨Nat.le_of_ble_eq_true rfl, Nat.le_of_ble_eq_true rfl⟩ hl.1 rfl (Nat.le_of_ble_eq_true rfl) dX12_common_14 ⟨Nat.le_of_ble_eq_true rfl, Nat.le_of_ble_eq_true rfl⟩ [] [] rfl rfl (by decide) rfl rfl (fun r_4 u_4 H locs w_4 h_4 => ?_)
    clear h
    obtain ⟨wr_4, y4_0, _⟩ := w_4
    replace h_4 : qW D _ _ [] _ _ := h_4
    exact q_lret X hr hlk hK h_4 (fun _ => 0, fun _ _ => 0, fun _ _ => 0) ⟨wr_4, (show (r_4 : Int64).toInt ≠ 0 ∨ ((j0 : Int64).toInt = 0 ∧ (j1 : Int64).toInt = 0) from by (first | (clear y4_0; omega) | omega)), trivial⟩ [] rfl rfl dX12_common_17 (Nat.le_of_ble_eq_true rfl) (Nat.le_of_ble_eq_true rfl)
  · replace c_1 := j_eq (x := j1) (y := 0) rfl (show (0 : Int64).toInt = 0 by decide) c_1
    refine lv_lload_n hx hb dX12_common_6 rfl (lv_at hl 0 rfl) ?_
    refine lv_goto (tgt := 17) hx hb dX12_common_7 (by decide) ?_
    exact q_lret X hr hlk hK h (fun _ => 0, fun _ _ => 0, fun _ _ => 0) ⟨hj0, (show (j0 : Int64).toInt ≠ 0 ∨ ((j0 : Int64).toInt = 0 ∧ (j1 : Int64).toInt = 0) from by omega), trivial⟩ [] rfl rfl dX12_common_17 (Nat.le_of_ble_eq_true rfl) (Nat.le_of_ble_eq_true rfl)
set_option maxHeartbeats 4000000 in
set_option maxRecDepth 100000 in
theorem gX12_common_b3145ca (l : Launch) (D : va_G) (cy : Nat → ClassId) (j0 : Int64) (j1 : Int64) (hj0 : (-2) ≤ (j0).toInt ∧ (j0).toInt ≤ 2) (hj1 : (-1) ≤ (j1).toInt ∧ (j1).toInt ≤ 1) (hpre0 : CM 1 2 (j0 : Int64).toInt (j1 : Int64).toInt) (sz : Nat) : ML l yX12_common cX12_common 4 { frames := 2, cells := 0, slots := 0, locals := 46 } [.long j0, .long j1] D cy [] sz (fun r u => ((-2) ≤ r.toInt ∧ r.toInt ≤ 2) ∧ ((r : Int64).toInt ≠ 0 ∨ ((j0 : Int64).toInt = 0 ∧ (j1 : Int64).toInt = 0)) ∧ True) (fun u => []) 0 0 := by
  refine q_ent (own := RX12) (by decide) rfl (Nat.le_of_ble_eq_true rfl) (fun p e s m below meth c ls X hr hlk hnm hK hT h hA hl => ?_)
  obtain ⟨hx, hb, hml, hown, ht⟩ := id X
  replace hl : lv_has ls 4 [(0, .long j0), (2, .long j1)] := hl
  refine lv_lload_n hx hb dX12_common_0 rfl (lv_at hl 1 rfl) ?_
  refine lv_lconst (v := 0) hx hb dX12_common_1 (by decide) ?_
  refine W.lcmp hx hb dX12_common_2 ?_
  refine lv_if_ne (tgt := 10) hx hb dX12_common_3 (by decide) (fun c_1 => ?_) (fun c_1 => ?_)
  · replace c_1 := j_neq (x := j1) (y := 0) rfl (show (0 : Int64).toInt = 0 by decide) c_1
    refine lv_lload_n hx hb dX12_common_10 rfl (lv_at hl 1 rfl) ?_
    refine lv_lload_n hx hb dX12_common_11 rfl (lv_at hl 0 rfl) ?_
    refine lv_lload_n hx hb dX12_common_12 rfl (lv_at hl 1 rfl) ?_
    refine lv_lrem hx hb dX12_common_13 (j_nz (by omega)) ?_
    obtain ⟨z_2, ez_2, hz_2⟩ := e_anyJ (j0 - j0 / j1 * j1)
    refine q_cl z_2 ez_2 ?_
    have cm_3 : CM 1 1 _ _ := cm_s (by decide) hpre0 (by omega) ez_2
    have cr_3 := cm_r cm_3
    refine q_callSl (rest := []) (wr := []) X hK hT hA h (fun sz => gX12_common_b22397c l D cy j1 z_2 hj1 ⟨by omega, by omega⟩ (cm_3) sz) wm_8_20 wm_8_22 wm_1_12 hd_X12_common wm_8_21 ⟨Nat.le_of_ble_eq_true rfl, Nat.le_of_ble_eq_true rfl⟩ hl.1 rfl (Nat.le_of_ble_eq_true rfl) dX12_common_14 ⟨Nat.le_of_ble_eq_true rfl, Nat.le_of_ble_eq_true rfl⟩ [] [] rfl rfl (by decide) rfl rfl (fun r_4 u_4 H locs w_4 h_4 => ?_)
    clear h
    obtain ⟨wr_4, y4_0, _⟩ := w_4
    replace h_4 : qW D _ _ [] _ _ := h_4
    exact q_lret X hr hlk hK h_4 (fun _ => 0, fun _ _ => 0, fun _ _ => 0) ⟨(bw wr_4 (by decide) (by decide)), (show (r_4 : Int64).toInt ≠ 0 ∨ ((j0 : Int64).toInt = 0 ∧ (j1 : Int64).toInt = 0) from by (first | (clear y4_0; omega) | omega)), trivial⟩ [] rfl rfl dX12_common_17 (Nat.le_of_ble_eq_true rfl) (Nat.le_of_ble_eq_true rfl)
  · replace c_1 := j_eq (x := j1) (y := 0) rfl (show (0 : Int64).toInt = 0 by decide) c_1
    refine lv_lload_n hx hb dX12_common_6 rfl (lv_at hl 0 rfl) ?_
    refine lv_goto (tgt := 17) hx hb dX12_common_7 (by decide) ?_
    exact q_lret X hr hlk hK h (fun _ => 0, fun _ _ => 0, fun _ _ => 0) ⟨hj0, (show (j0 : Int64).toInt ≠ 0 ∨ ((j0 : Int64).toInt = 0 ∧ (j1 : Int64).toInt = 0) from by omega), trivial⟩ [] rfl rfl dX12_common_17 (Nat.le_of_ble_eq_true rfl) (Nat.le_of_ble_eq_true rfl)
set_option maxHeartbeats 4000000 in
set_option maxRecDepth 100000 in
theorem gX12_common_adc2ae2 (l : Launch) (D : va_G) (cy : Nat → ClassId) (j0 : Int64) (j1 : Int64) (hj0 : (-2) ≤ (j0).toInt ∧ (j0).toInt ≤ 2) (hj1 : (-2) ≤ (j1).toInt ∧ (j1).toInt ≤ 2) (hpre0 : CM 2 2 (j0 : Int64).toInt (j1 : Int64).toInt) (sz : Nat) : ML l yX12_common cX12_common 4 { frames := 3, cells := 0, slots := 0, locals := 69 } [.long j0, .long j1] D cy [] sz (fun r u => ((-2) ≤ r.toInt ∧ r.toInt ≤ 2) ∧ ((r : Int64).toInt ≠ 0 ∨ ((j0 : Int64).toInt = 0 ∧ (j1 : Int64).toInt = 0)) ∧ True) (fun u => []) 0 0 := by
  refine q_ent (own := RX12) (by decide) rfl (Nat.le_of_ble_eq_true rfl) (fun p e s m below meth c ls X hr hlk hnm hK hT h hA hl => ?_)
  obtain ⟨hx, hb, hml, hown, ht⟩ := id X
  replace hl : lv_has ls 4 [(0, .long j0), (2, .long j1)] := hl
  refine lv_lload_n hx hb dX12_common_0 rfl (lv_at hl 1 rfl) ?_
  refine lv_lconst (v := 0) hx hb dX12_common_1 (by decide) ?_
  refine W.lcmp hx hb dX12_common_2 ?_
  refine lv_if_ne (tgt := 10) hx hb dX12_common_3 (by decide) (fun c_1 => ?_) (fun c_1 => ?_)
  · replace c_1 := j_neq (x := j1) (y := 0) rfl (show (0 : Int64).toInt = 0 by decide) c_1
    refine lv_lload_n hx hb dX12_common_10 rfl (lv_at hl 1 rfl) ?_
    refine lv_lload_n hx hb dX12_common_11 rfl (lv_at hl 0 rfl) ?_
    refine lv_lload_n hx hb dX12_common_12 rfl (lv_at hl 1 rfl) ?_
    refine lv_lrem hx hb dX12_common_13 (j_nz (by omega)) ?_
    obtain ⟨z_2, ez_2, hz_2⟩ := e_anyJ (j0 - j0 / j1 * j1)
    refine q_cl z_2 ez_2 ?_
    have cm_3 : CM 1 2 _ _ := cm_s (by decide) hpre0 (by omega) ez_2
    have cr_3 := cm_r cm_3
    refine q_callSl (rest := []) (wr := []) X hK hT hA h (fun sz => gX12_common_b3145ca l D cy j1 z_2 hj1 ⟨by omega, by omega⟩ (cm_3) sz) wm_8_20 wm_8_22 wm_1_12 hd_X12_common wm_8_21 ⟨Nat.le_of_ble_eq_true rfl, Nat.le_of_ble_eq_true rfl⟩ hl.1 rfl (Nat.le_of_ble_eq_true rfl) dX12_common_14 ⟨Nat.le_of_ble_eq_true rfl, Nat.le_of_ble_eq_true rfl⟩ [] [] rfl rfl (by decide) rfl rfl (fun r_4 u_4 H locs w_4 h_4 => ?_)
    clear h
    obtain ⟨wr_4, y4_0, _⟩ := w_4
    replace h_4 : qW D _ _ [] _ _ := h_4
    exact q_lret X hr hlk hK h_4 (fun _ => 0, fun _ _ => 0, fun _ _ => 0) ⟨wr_4, (show (r_4 : Int64).toInt ≠ 0 ∨ ((j0 : Int64).toInt = 0 ∧ (j1 : Int64).toInt = 0) from by (first | (clear y4_0; omega) | omega)), trivial⟩ [] rfl rfl dX12_common_17 (Nat.le_of_ble_eq_true rfl) (Nat.le_of_ble_eq_true rfl)
  · replace c_1 := j_eq (x := j1) (y := 0) rfl (show (0 : Int64).toInt = 0 by decide) c_1
    refine lv_lload_n hx hb dX12_common_6 rfl (lv_at hl 0 rfl) ?_
    refine lv_goto (tgt := 17) hx hb dX12_common_7 (by decide) ?_
    exact q_lret X hr hlk hK h (fun _ => 0, fun _ _ => 0, fun _ _ => 0) ⟨hj0, (show (j0 : Int64).toInt ≠ 0 ∨ ((j0 : Int64).toInt = 0 ∧ (j1 : Int64).toInt = 0) from by omega), trivial⟩ [] rfl rfl dX12_common_17 (Nat.le_of_ble_eq_true rfl) (Nat.le_of_ble_eq_true rfl)
set_option maxHeartbeats 4000000 in
set_option maxRecDepth 100000 in
theorem gX12_common_7744de1 (l : Launch) (D : va_G) (cy : Nat → ClassId) (j0 : Int64) (j1 : Int64) (hj0 : (-4) ≤ (j0).toInt ∧ (j0).toInt ≤ 4) (hj1 : (-2) ≤ (j1).toInt ∧ (j1).toInt ≤ 2) (hpre0 : CM 2 4 (j0 : Int64).toInt (j1 : Int64).toInt) (sz : Nat) : ML l yX12_common cX12_common 4 { frames := 4, cells := 0, slots := 0, locals := 92 } [.long j0, .long j1] D cy [] sz (fun r u => ((-4) ≤ r.toInt ∧ r.toInt ≤ 4) ∧ ((r : Int64).toInt ≠ 0 ∨ ((j0 : Int64).toInt = 0 ∧ (j1 : Int64).toInt = 0)) ∧ True) (fun u => []) 0 0 := by
  refine q_ent (own := RX12) (by decide) rfl (Nat.le_of_ble_eq_true rfl) (fun p e s m below meth c ls X hr hlk hnm hK hT h hA hl => ?_)
  obtain ⟨hx, hb, hml, hown, ht⟩ := id X
  replace hl : lv_has ls 4 [(0, .long j0), (2, .long j1)] := hl
  refine lv_lload_n hx hb dX12_common_0 rfl (lv_at hl 1 rfl) ?_
  refine lv_lconst (v := 0) hx hb dX12_common_1 (by decide) ?_
  refine W.lcmp hx hb dX12_common_2 ?_
  refine lv_if_ne (tgt := 10) hx hb dX12_common_3 (by decide) (fun c_1 => ?_) (fun c_1 => ?_)
  · replace c_1 := j_neq (x := j1) (y := 0) rfl (show (0 : Int64).toInt = 0 by decide) c_1
    refine lv_lload_n hx hb dX12_common_10 rfl (lv_at hl 1 rfl) ?_
    refine lv_lload_n hx hb dX12_common_11 rfl (lv_at hl 0 rfl) ?_
    refine lv_lload_n hx hb dX12_common_12 rfl (lv_at hl 1 rfl) ?_
    refine lv_lrem hx hb dX12_common_13 (j_nz (by omega)) ?_
    obtain ⟨z_2, ez_2, hz_2⟩ := e_anyJ (j0 - j0 / j1 * j1)
    refine q_cl z_2 ez_2 ?_
    have cm_3 : CM 2 2 _ _ := cm_s (by decide) hpre0 (by omega) ez_2
    have cr_3 := cm_r cm_3
    refine q_callSl (rest := []) (wr := []) X hK hT hA h (fun sz => gX12_common_adc2ae2 l D cy j1 z_2 hj1 ⟨by omega, by omega⟩ (cm_3) sz) wm_8_20 wm_8_22 wm_1_12 hd_X12_common wm_8_21 ⟨Nat.le_of_ble_eq_true rfl, Nat.le_of_ble_eq_true rfl⟩ hl.1 rfl (Nat.le_of_ble_eq_true rfl) dX12_common_14 ⟨Nat.le_of_ble_eq_true rfl, Nat.le_of_ble_eq_true rfl⟩ [] [] rfl rfl (by decide) rfl rfl (fun r_4 u_4 H locs w_4 h_4 => ?_)
    clear h
    obtain ⟨wr_4, y4_0, _⟩ := w_4
    replace h_4 : qW D _ _ [] _ _ := h_4
    exact q_lret X hr hlk hK h_4 (fun _ => 0, fun _ _ => 0, fun _ _ => 0) ⟨(bw wr_4 (by decide) (by decide)), (show (r_4 : Int64).toInt ≠ 0 ∨ ((j0 : Int64).toInt = 0 ∧ (j1 : Int64).toInt = 0) from by (first | (clear y4_0; omega) | omega)), trivial⟩ [] rfl rfl dX12_common_17 (Nat.le_of_ble_eq_true rfl) (Nat.le_of_ble_eq_true rfl)
  · replace c_1 := j_eq (x := j1) (y := 0) rfl (show (0 : Int64).toInt = 0 by decide) c_1
    refine lv_lload_n hx hb dX12_common_6 rfl (lv_at hl 0 rfl) ?_
    refine lv_goto (tgt := 17) hx hb dX12_common_7 (by decide) ?_
    exact q_lret X hr hlk hK h (fun _ => 0, fun _ _ => 0, fun _ _ => 0) ⟨hj0, (show (j0 : Int64).toInt ≠ 0 ∨ ((j0 : Int64).toInt = 0 ∧ (j1 : Int64).toInt = 0) from by omega), trivial⟩ [] rfl rfl dX12_common_17 (Nat.le_of_ble_eq_true rfl) (Nat.le_of_ble_eq_true rfl)
set_option maxHeartbeats 4000000 in
set_option maxRecDepth 100000 in
theorem gX12_common_9a5f93a (l : Launch) (D : va_G) (cy : Nat → ClassId) (j0 : Int64) (j1 : Int64) (hj0 : (-4) ≤ (j0).toInt ∧ (j0).toInt ≤ 4) (hj1 : (-4) ≤ (j1).toInt ∧ (j1).toInt ≤ 4) (hpre0 : CM 4 4 (j0 : Int64).toInt (j1 : Int64).toInt) (sz : Nat) : ML l yX12_common cX12_common 4 { frames := 5, cells := 0, slots := 0, locals := 115 } [.long j0, .long j1] D cy [] sz (fun r u => ((-4) ≤ r.toInt ∧ r.toInt ≤ 4) ∧ ((r : Int64).toInt ≠ 0 ∨ ((j0 : Int64).toInt = 0 ∧ (j1 : Int64).toInt = 0)) ∧ True) (fun u => []) 0 0 := by
  refine q_ent (own := RX12) (by decide) rfl (Nat.le_of_ble_eq_true rfl) (fun p e s m below meth c ls X hr hlk hnm hK hT h hA hl => ?_)
  obtain ⟨hx, hb, hml, hown, ht⟩ := id X
  replace hl : lv_has ls 4 [(0, .long j0), (2, .long j1)] := hl
  refine lv_lload_n hx hb dX12_common_0 rfl (lv_at hl 1 rfl) ?_
  refine lv_lconst (v := 0) hx hb dX12_common_1 (by decide) ?_
  refine W.lcmp hx hb dX12_common_2 ?_
  refine lv_if_ne (tgt := 10) hx hb dX12_common_3 (by decide) (fun c_1 => ?_) (fun c_1 => ?_)
  · replace c_1 := j_neq (x := j1) (y := 0) rfl (show (0 : Int64).toInt = 0 by decide) c_1
    refine lv_lload_n hx hb dX12_common_10 rfl (lv_at hl 1 rfl) ?_
    refine lv_lload_n hx hb dX12_common_11 rfl (lv_at hl 0 rfl) ?_
    refine lv_lload_n hx hb dX12_common_12 rfl (lv_at hl 1 rfl) ?_
    refine lv_lrem hx hb dX12_common_13 (j_nz (by omega)) ?_
    obtain ⟨z_2, ez_2, hz_2⟩ := e_anyJ (j0 - j0 / j1 * j1)
    refine q_cl z_2 ez_2 ?_
    have cm_3 : CM 2 4 _ _ := cm_s (by decide) hpre0 (by omega) ez_2
    have cr_3 := cm_r cm_3
    refine q_callSl (rest := []) (wr := []) X hK hT hA h (fun sz => gX12_common_7744de1 l D cy j1 z_2 hj1 ⟨by omega, by omega⟩ (cm_3) sz) wm_8_20 wm_8_22 wm_1_12 hd_X12_common wm_8_21 ⟨Nat.le_of_ble_eq_true rfl, Nat.le_of_ble_eq_true rfl⟩ hl.1 rfl (Nat.le_of_ble_eq_true rfl) dX12_common_14 ⟨Nat.le_of_ble_eq_true rfl, Nat.le_of_ble_eq_true rfl⟩ [] [] rfl rfl (by decide) rfl rfl (fun r_4 u_4 H locs w_4 h_4 => ?_)
    clear h
    obtain ⟨wr_4, y4_0, _⟩ := w_4
    replace h_4 : qW D _ _ [] _ _ := h_4
    exact q_lret X hr hlk hK h_4 (fun _ => 0, fun _ _ => 0, fun _ _ => 0) ⟨wr_4, (show (r_4 : Int64).toInt ≠ 0 ∨ ((j0 : Int64).toInt = 0 ∧ (j1 : Int64).toInt = 0) from by (first | (clear y4_0; omega) | omega)), trivial⟩ [] rfl rfl dX12_common_17 (Nat.le_of_ble_eq_true rfl) (Nat.le_of_ble_eq_true rfl)
  · replace c_1 := j_eq (x := j1) (y := 0) rfl (show (0 : Int64).toInt = 0 by decide) c_1
    refine lv_lload_n hx hb dX12_common_6 rfl (lv_at hl 0 rfl) ?_
    refine lv_goto (tgt := 17) hx hb dX12_common_7 (by decide) ?_
    exact q_lret X hr hlk hK h (fun _ => 0, fun _ _ => 0, fun _ _ => 0) ⟨hj0, (show (j0 : Int64).toInt ≠ 0 ∨ ((j0 : Int64).toInt = 0 ∧ (j1 : Int64).toInt = 0) from by omega), trivial⟩ [] rfl rfl dX12_common_17 (Nat.le_of_ble_eq_true rfl) (Nat.le_of_ble_eq_true rfl)
set_option maxHeartbeats 4000000 in
set_option maxRecDepth 100000 in
theorem gX12_common_200335a (l : Launch) (D : va_G) (cy : Nat → ClassId) (j0 : Int64) (j1 : Int64) (hj0 : (-9) ≤ (j0).toInt ∧ (j0).toInt ≤ 9) (hj1 : (-4) ≤ (j1).toInt ∧ (j1).toInt ≤ 4) (hpre0 : CM 4 9 (j0 : Int64).toInt (j1 : Int64).toInt) (sz : Nat) : ML l yX12_common cX12_common 4 { frames := 6, cells := 0, slots := 0, locals := 138 } [.long j0, .long j1] D cy [] sz (fun r u => ((-9) ≤ r.toInt ∧ r.toInt ≤ 9) ∧ ((r : Int64).toInt ≠ 0 ∨ ((j0 : Int64).toInt = 0 ∧ (j1 : Int64).toInt = 0)) ∧ True) (fun u => []) 0 0 := by
  refine q_ent (own := RX12) (by decide) rfl (Nat.le_of_ble_eq_true rfl) (fun p e s m below meth c ls X hr hlk hnm hK hT h hA hl => ?_)
  obtain ⟨hx, hb, hml, hown, ht⟩ := id X
  replace hl : lv_has ls 4 [(0, .long j0), (2, .long j1)] := hl
  refine lv_lload_n hx hb dX12_common_0 rfl (lv_at hl 1 rfl) ?_
  refine lv_lconst (v := 0) hx hb dX12_common_1 (by decide) ?_
  refine W.lcmp hx hb dX12_common_2 ?_
  refine lv_if_ne (tgt := 10) hx hb dX12_common_3 (by decide) (fun c_1 => ?_) (fun c_1 => ?_)
  · replace c_1 := j_neq (x := j1) (y := 0) rfl (show (0 : Int64).toInt = 0 by decide) c_1
    refine lv_lload_n hx hb dX12_common_10 rfl (lv_at hl 1 rfl) ?_
    refine lv_lload_n hx hb dX12_common_11 rfl (lv_at hl 0 rfl) ?_
    refine lv_lload_n hx hb dX12_common_12 rfl (lv_at hl 1 rfl) ?_
    refine lv_lrem hx hb dX12_common_13 (j_nz (by omega)) ?_
    obtain ⟨z_2, ez_2, hz_2⟩ := e_anyJ (j0 - j0 / j1 * j1)
    refine q_cl z_2 ez_2 ?_
    have cm_3 : CM 4 4 _ _ := cm_s (by decide) hpre0 (by omega) ez_2
    have cr_3 := cm_r cm_3
    refine q_callSl (rest := []) (wr := []) X hK hT hA h (fun sz => gX12_common_9a5f93a l D cy j1 z_2 hj1 ⟨by omega, by omega⟩ (cm_3) sz) wm_8_20 wm_8_22 wm_1_12 hd_X12_common wm_8_21 ⟨Nat.le_of_ble_eq_true rfl, Nat.le_of_ble_eq_true rfl⟩ hl.1 rfl (Nat.le_of_ble_eq_true rfl) dX12_common_14 ⟨Nat.le_of_ble_eq_true rfl, Nat.le_of_ble_eq_true rfl⟩ [] [] rfl rfl (by decide) rfl rfl (fun r_4 u_4 H locs w_4 h_4 => ?_)
    clear h
    obtain ⟨wr_4, y4_0, _⟩ := w_4
    replace h_4 : qW D _ _ [] _ _ := h_4
    exact q_lret X hr hlk hK h_4 (fun _ => 0, fun _ _ => 0, fun _ _ => 0) ⟨(bw wr_4 (by decide) (by decide)), (show (r_4 : Int64).toInt ≠ 0 ∨ ((j0 : Int64).toInt = 0 ∧ (j1 : Int64).toInt = 0) from by (first | (clear y4_0; omega) | omega)), trivial⟩ [] rfl rfl dX12_common_17 (Nat.le_of_ble_eq_true rfl) (Nat.le_of_ble_eq_true rfl)
  · replace c_1 := j_eq (x := j1) (y := 0) rfl (show (0 : Int64).toInt = 0 by decide) c_1
    refine lv_lload_n hx hb dX12_common_6 rfl (lv_at hl 0 rfl) ?_
    refine lv_goto (tgt := 17) hx hb dX12_common_7 (by decide) ?_
    exact q_lret X hr hlk hK h (fun _ => 0, fun _ _ => 0, fun _ _ => 0) ⟨hj0, (show (j0 : Int64).toInt ≠ 0 ∨ ((j0 : Int64).toInt = 0 ∧ (j1 : Int64).toInt = 0) from by omega), trivial⟩ [] rfl rfl dX12_common_17 (Nat.le_of_ble_eq_true rfl) (Nat.le_of_ble_eq_true rfl)
set_option maxHeartbeats 4000000 in
set_option maxRecDepth 100000 in
theorem gX12_common_51a35d1 (l : Launch) (D : va_G) (cy : Nat → ClassId) (j0 : Int64) (j1 : Int64) (hj0 : (-9) ≤ (j0).toInt ∧ (j0).toInt ≤ 9) (hj1 : (-9) ≤ (j1).toInt ∧ (j1).toInt ≤ 9) (hpre0 : CM 9 9 (j0 : Int64).toInt (j1 : Int64).toInt) (sz : Nat) : ML l yX12_common cX12_common 4 { frames := 7, cells := 0, slots := 0, locals := 161 } [.long j0, .long j1] D cy [] sz (fun r u => ((-9) ≤ r.toInt ∧ r.toInt ≤ 9) ∧ ((r : Int64).toInt ≠ 0 ∨ ((j0 : Int64).toInt = 0 ∧ (j1 : Int64).toInt = 0)) ∧ True) (fun u => []) 0 0 := by
  refine q_ent (own := RX12) (by decide) rfl (Nat.le_of_ble_eq_true rfl) (fun p e s m below meth c ls X hr hlk hnm hK hT h hA hl => ?_)
  obtain ⟨hx, hb, hml, hown, ht⟩ := id X
  replace hl : lv_has ls 4 [(0, .long j0), (2, .long j1)] := hl
  refine lv_lload_n hx hb dX12_common_0 rfl (lv_at hl 1 rfl) ?_
  refine lv_lconst (v := 0) hx hb dX12_common_1 (by decide) ?_
  refine W.lcmp hx hb dX12_common_2 ?_
  refine lv_if_ne (tgt := 10) hx hb dX12_common_3 (by decide) (fun c_1 => ?_) (fun c_1 => ?_)
  · replace c_1 := j_neq (x := j1) (y := 0) rfl (show (0 : Int64).toInt = 0 by decide) c_1
    refine lv_lload_n hx hb dX12_common_10 rfl (lv_at hl 1 rfl) ?_
    refine lv_lload_n hx hb dX12_common_11 rfl (lv_at hl 0 rfl) ?_
    refine lv_lload_n hx hb dX12_common_12 rfl (lv_at hl 1 rfl) ?_
    refine lv_lrem hx hb dX12_common_13 (j_nz (by omega)) ?_
    obtain ⟨z_2, ez_2, hz_2⟩ := e_anyJ (j0 - j0 / j1 * j1)
    refine q_cl z_2 ez_2 ?_
    have cm_3 : CM 4 9 _ _ := cm_s (by decide) hpre0 (by omega) ez_2
    have cr_3 := cm_r cm_3
    refine q_callSl (rest := []) (wr := []) X hK hT hA h (fun sz => gX12_common_200335a l D cy j1 z_2 hj1 ⟨by omega, by omega⟩ (cm_3) sz) wm_8_20 wm_8_22 wm_1_12 hd_X12_common wm_8_21 ⟨Nat.le_of_ble_eq_true rfl, Nat.le_of_ble_eq_true rfl⟩ hl.1 rfl (Nat.le_of_ble_eq_true rfl) dX12_common_14 ⟨Nat.le_of_ble_eq_true rfl, Nat.le_of_ble_eq_true rfl⟩ [] [] rfl rfl (by decide) rfl rfl (fun r_4 u_4 H locs w_4 h_4 => ?_)
    clear h
    obtain ⟨wr_4, y4_0, _⟩ := w_4
    replace h_4 : qW D _ _ [] _ _ := h_4
    exact q_lret X hr hlk hK h_4 (fun _ => 0, fun _ _ => 0, fun _ _ => 0) ⟨wr_4, (show (r_4 : Int64).toInt ≠ 0 ∨ ((j0 : Int64).toInt = 0 ∧ (j1 : Int64).toInt = 0) from by (first | (clear y4_0; omega) | omega)), trivial⟩ [] rfl rfl dX12_common_17 (Nat.le_of_ble_eq_true rfl) (Nat.le_of_ble_eq_true rfl)
  · replace c_1 := j_eq (x := j1) (y := 0) rfl (show (0 : Int64).toInt = 0 by decide) c_1
    refine lv_lload_n hx hb dX12_common_6 rfl (lv_at hl 0 rfl) ?_
    refine lv_goto (tgt := 17) hx hb dX12_common_7 (by decide) ?_
    exact q_lret X hr hlk hK h (fun _ => 0, fun _ _ => 0, fun _ _ => 0) ⟨hj0, (show (j0 : Int64).toInt ≠ 0 ∨ ((j0 : Int64).toInt = 0 ∧ (j1 : Int64).toInt = 0) from by omega), trivial⟩ [] rfl rfl dX12_common_17 (Nat.le_of_ble_eq_true rfl) (Nat.le_of_ble_eq_true rfl)
set_option maxHeartbeats 4000000 in
set_option maxRecDepth 100000 in
theorem gX12_common_d718e6e (l : Launch) (D : va_G) (cy : Nat → ClassId) (j0 : Int64) (j1 : Int64) (hj0 : (-18) ≤ (j0).toInt ∧ (j0).toInt ≤ 18) (hj1 : (-9) ≤ (j1).toInt ∧ (j1).toInt ≤ 9) (hpre0 : CM 9 18 (j0 : Int64).toInt (j1 : Int64).toInt) (sz : Nat) : ML l yX12_common cX12_common 4 { frames := 8, cells := 0, slots := 0, locals := 184 } [.long j0, .long j1] D cy [] sz (fun r u => ((-18) ≤ r.toInt ∧ r.toInt ≤ 18) ∧ ((r : Int64).toInt ≠ 0 ∨ ((j0 : Int64).toInt = 0 ∧ (j1 : Int64).toInt = 0)) ∧ True) (fun u => []) 0 0 := by
  refine q_ent (own := RX12) (by decide) rfl (Nat.le_of_ble_eq_true rfl) (fun p e s m below meth c ls X hr hlk hnm hK hT h hA hl => ?_)
  obtain ⟨hx, hb, hml, hown, ht⟩ := id X
  replace hl : lv_has ls 4 [(0, .long j0), (2, .long j1)] := hl
  refine lv_lload_n hx hb dX12_common_0 rfl (lv_at hl 1 rfl) ?_
  refine lv_lconst (v := 0) hx hb dX12_common_1 (by decide) ?_
  refine W.lcmp hx hb dX12_common_2 ?_
  refine lv_if_ne (tgt := 10) hx hb dX12_common_3 (by decide) (fun c_1 => ?_) (fun c_1 => ?_)
  · replace c_1 := j_neq (x := j1) (y := 0) rfl (show (0 : Int64).toInt = 0 by decide) c_1
    refine lv_lload_n hx hb dX12_common_10 rfl (lv_at hl 1 rfl) ?_
    refine lv_lload_n hx hb dX12_common_11 rfl (lv_at hl 0 rfl) ?_
    refine lv_lload_n hx hb dX12_common_12 rfl (lv_at hl 1 rfl) ?_
    refine lv_lrem hx hb dX12_common_13 (j_nz (by omega)) ?_
    obtain ⟨z_2, ez_2, hz_2⟩ := e_anyJ (j0 - j0 / j1 * j1)
    refine q_cl z_2 ez_2 ?_
    have cm_3 : CM 9 9 _ _ := cm_s (by decide) hpre0 (by omega) ez_2
    have cr_3 := cm_r cm_3
    refine q_callSl (rest := []) (wr := []) X hK hT hA h (fun sz => gX12_common_51a35d1 l D cy j1 z_2 hj1 ⟨by omega, by omega⟩ (cm_3) sz) wm_8_20 wm_8_22 wm_1_12 hd_X12_common wm_8_21 ⟨Nat.le_of_ble_eq_true rfl, Nat.le_of_ble_eq_true rfl⟩ hl.1 rfl (Nat.le_of_ble_eq_true rfl) dX12_common_14 ⟨Nat.le_of_ble_eq_true rfl, Nat.le_of_ble_eq_true rfl⟩ [] [] rfl rfl (by decide) rfl rfl (fun r_4 u_4 H locs w_4 h_4 => ?_)
    clear h
    obtain ⟨wr_4, y4_0, _⟩ := w_4
    replace h_4 : qW D _ _ [] _ _ := h_4
    exact q_lret X hr hlk hK h_4 (fun _ => 0, fun _ _ => 0, fun _ _ => 0) ⟨(bw wr_4 (by decide) (by decide)), (show (r_4 : Int64).toInt ≠ 0 ∨ ((j0 : Int64).toInt = 0 ∧ (j1 : Int64).toInt = 0) from by (first | (clear y4_0; omega) | omega)), trivial⟩ [] rfl rfl dX12_common_17 (Nat.le_of_ble_eq_true rfl) (Nat.le_of_ble_eq_true rfl)
  · replace c_1 := j_eq (x := j1) (y := 0) rfl (show (0 : Int64).toInt = 0 by decide) c_1
    refine lv_lload_n hx hb dX12_common_6 rfl (lv_at hl 0 rfl) ?_
    refine lv_goto (tgt := 17) hx hb dX12_common_7 (by decide) ?_
    exact q_lret X hr hlk hK h (fun _ => 0, fun _ _ => 0, fun _ _ => 0) ⟨hj0, (show (j0 : Int64).toInt ≠ 0 ∨ ((j0 : Int64).toInt = 0 ∧ (j1 : Int64).toInt = 0) from by omega), trivial⟩ [] rfl rfl dX12_common_17 (Nat.le_of_ble_eq_true rfl) (Nat.le_of_ble_eq_true rfl)
set_option maxHeartbeats 4000000 in
set_option maxRecDepth 100000 in
theorem gX12_common_b69300c (l : Launch) (D : va_G) (cy : Nat → ClassId) (j0 : Int64) (j1 : Int64) (hj0 : (-18) ≤ (j0).toInt ∧ (j0).toInt ≤ 18) (hj1 : (-18) ≤ (j1).toInt ∧ (j1).toInt ≤ 18) (hpre0 : CM 18 18 (j0 : Int64).toInt (j1 : Int64).toInt) (sz : Nat) : ML l yX12_common cX12_common 4 { frames := 9, cells := 0, slots := 0, locals := 207 } [.long j0, .long j1] D cy [] sz (fun r u => ((-18) ≤ r.toInt ∧ r.toInt ≤ 18) ∧ ((r : Int64).toInt ≠ 0 ∨ ((j0 : Int64).toInt = 0 ∧ (j1 : Int64).toInt = 0)) ∧ True) (fun u => []) 0 0 := by
  refine q_ent (own := RX12) (by decide) rfl (Nat.le_of_ble_eq_true rfl) (fun p e s m below meth c ls X hr hlk hnm hK hT h hA hl => ?_)
  obtain ⟨hx, hb, hml, hown, ht⟩ := id X
  replace hl : lv_has ls 4 [(0, .long j0), (2, .long j1)] := hl
  refine lv_lload_n hx hb dX12_common_0 rfl (lv_at hl 1 rfl) ?_
  refine lv_lconst (v := 0) hx hb dX12_common_1 (by decide) ?_
  refine W.lcmp hx hb dX12_common_2 ?_
  refine lv_if_ne (tgt := 10) hx hb dX12_common_3 (by decide) (fun c_1 => ?_) (fun c_1 => ?_)
  · replace c_1 := j_neq (x := j1) (y := 0) rfl (show (0 : Int64).toInt = 0 by decide) c_1
    refine lv_lload_n hx hb dX12_common_10 rfl (lv_at hl 1 rfl) ?_
    refine lv_lload_n hx hb dX12_common_11 rfl (lv_at hl 0 rfl) ?_
    refine lv_lload_n hx hb dX12_common_12 rfl (lv_at hl 1 rfl) ?_
    refine lv_lrem hx hb dX12_common_13 (j_nz (by omega)) ?_
    obtain ⟨z_2, ez_2, hz_2⟩ := e_anyJ (j0 - j0 / j1 * j1)
    refine q_cl z_2 ez_2 ?_
    have cm_3 : CM 9 18 _ _ := cm_s (by decide) hpre0 (by omega) ez_2
    have cr_3 := cm_r cm_3
    refine q_callSl (rest := []) (wr := []) X hK hT hA h (fun sz => gX12_common_d718e6e l D cy j1 z_2 hj1 ⟨by omega, by omega⟩ (cm_3) sz) wm_8_20 wm_8_22 wm_1_12 hd_X12_common wm_8_21 ⟨Nat.le_of_ble_eq_true rfl, Nat.le_of_ble_eq_true rfl⟩ hl.1 rfl (Nat.le_of_ble_eq_true rfl) dX12_common_14 ⟨Nat.le_of_ble_eq_true rfl, Nat.le_of_ble_eq_true rfl⟩ [] [] rfl rfl (by decide) rfl rfl (fun r_4 u_4 H locs w_4 h_4 => ?_)
    clear h
    obtain ⟨wr_4, y4_0, _⟩ := w_4
    replace h_4 : qW D _ _ [] _ _ := h_4
    exact q_lret X hr hlk hK h_4 (fun _ => 0, fun _ _ => 0, fun _ _ => 0) ⟨wr_4, (show (r_4 : Int64).toInt ≠ 0 ∨ ((j0 : Int64).toInt = 0 ∧ (j1 : Int64).toInt = 0) from by (first | (clear y4_0; omega) | omega)), trivial⟩ [] rfl rfl dX12_common_17 (Nat.le_of_ble_eq_true rfl) (Nat.le_of_ble_eq_true rfl)
  · replace c_1 := j_eq (x := j1) (y := 0) rfl (show (0 : Int64).toInt = 0 by decide) c_1
    refine lv_lload_n hx hb dX12_common_6 rfl (lv_at hl 0 rfl) ?_
    refine lv_goto (tgt := 17) hx hb dX12_common_7 (by decide) ?_
    exact q_lret X hr hlk hK h (fun _ => 0, fun _ _ => 0, fun _ _ => 0) ⟨hj0, (show (j0 : Int64).toInt ≠ 0 ∨ ((j0 : Int64).toInt = 0 ∧ (j1 : Int64).toInt = 0) from by omega), trivial⟩ [] rfl rfl dX12_common_17 (Nat.le_of_ble_eq_true rfl) (Nat.le_of_ble_eq_true rfl)
set_option maxHeartbeats 4000000 in
set_option maxRecDepth 100000 in
theorem gX12_common_dffaee4 (l : Launch) (D : va_G) (cy : Nat → ClassId) (j0 : Int64) (j1 : Int64) (hj0 : (-37) ≤ (j0).toInt ∧ (j0).toInt ≤ 37) (hj1 : (-18) ≤ (j1).toInt ∧ (j1).toInt ≤ 18) (hpre0 : CM 18 37 (j0 : Int64).toInt (j1 : Int64).toInt) (sz : Nat) : ML l yX12_common cX12_common 4 { frames := 10, cells := 0, slots := 0, locals := 230 } [.long j0, .long j1] D cy [] sz (fun r u => ((-37) ≤ r.toInt ∧ r.toInt ≤ 37) ∧ ((r : Int64).toInt ≠ 0 ∨ ((j0 : Int64).toInt = 0 ∧ (j1 : Int64).toInt = 0)) ∧ True) (fun u => []) 0 0 := by
  refine q_ent (own := RX12) (by decide) rfl (Nat.le_of_ble_eq_true rfl) (fun p e s m below meth c ls X hr hlk hnm hK hT h hA hl => ?_)
  obtain ⟨hx, hb, hml, hown, ht⟩ := id X
  replace hl : lv_has ls 4 [(0, .long j0), (2, .long j1)] := hl
  refine lv_lload_n hx hb dX12_common_0 rfl (lv_at hl 1 rfl) ?_
  refine lv_lconst (v := 0) hx hb dX12_common_1 (by decide) ?_
  refine W.lcmp hx hb dX12_common_2 ?_
  refine lv_if_ne (tgt := 10) hx hb dX12_common_3 (by decide) (fun c_1 => ?_) (fun c_1 => ?_)
  · replace c_1 := j_neq (x := j1) (y := 0) rfl (show (0 : Int64).toInt = 0 by decide) c_1
    refine lv_lload_n hx hb dX12_common_10 rfl (lv_at hl 1 rfl) ?_
    refine lv_lload_n hx hb dX12_common_11 rfl (lv_at hl 0 rfl) ?_
    refine lv_lload_n hx hb dX12_common_12 rfl (lv_at hl 1 rfl) ?_
    refine lv_lrem hx hb dX12_common_13 (j_nz (by omega)) ?_
    obtain ⟨z_2, ez_2, hz_2⟩ := e_anyJ (j0 - j0 / j1 * j1)
    refine q_cl z_2 ez_2 ?_
    have cm_3 : CM 18 18 _ _ := cm_s (by decide) hpre0 (by omega) ez_2
    have cr_3 := cm_r cm_3
    refine q_callSl (rest := []) (wr := []) X hK hT hA h (fun sz => gX12_common_b69300c l D cy j1 z_2 hj1 ⟨by omega, by omega⟩ (cm_3) sz) wm_8_20 wm_8_22 wm_1_12 hd_X12_common wm_8_21 ⟨Nat.le_of_ble_eq_true rfl, Nat.le_of_ble_eq_true rfl⟩ hl.1 rfl (Nat.le_of_ble_eq_true rfl) dX12_common_14 ⟨Nat.le_of_ble_eq_true rfl, Nat.le_of_ble_eq_true rfl⟩ [] [] rfl rfl (by decide) rfl rfl (fun r_4 u_4 H locs w_4 h_4 => ?_)
    clear h
    obtain ⟨wr_4, y4_0, _⟩ := w_4
    replace h_4 : qW D _ _ [] _ _ := h_4
    exact q_lret X hr hlk hK h_4 (fun _ => 0, fun _ _ => 0, fun _ _ => 0) ⟨(bw wr_4 (by decide) (by decide)), (show (r_4 : Int64).toInt ≠ 0 ∨ ((j0 : Int64).toInt = 0 ∧ (j1 : Int64).toInt = 0) from by (first | (clear y4_0; omega) | omega)), trivial⟩ [] rfl rfl dX12_common_17 (Nat.le_of_ble_eq_true rfl) (Nat.le_of_ble_eq_true rfl)
  · replace c_1 := j_eq (x := j1) (y := 0) rfl (show (0 : Int64).toInt = 0 by decide) c_1
    refine lv_lload_n hx hb dX12_common_6 rfl (lv_at hl 0 rfl) ?_
    refine lv_goto (tgt := 17) hx hb dX12_common_7 (by decide) ?_
    exact q_lret X hr hlk hK h (fun _ => 0, fun _ _ => 0, fun _ _ => 0) ⟨hj0, (show (j0 : Int64).toInt ≠ 0 ∨ ((j0 : Int64).toInt = 0 ∧ (j1 : Int64).toInt = 0) from by omega), trivial⟩ [] rfl rfl dX12_common_17 (Nat.le_of_ble_eq_true rfl) (Nat.le_of_ble_eq_true rfl)
set_option maxHeartbeats 4000000 in
set_option maxRecDepth 100000 in
theorem gX12_common_f216987 (l : Launch) (D : va_G) (cy : Nat → ClassId) (j0 : Int64) (j1 : Int64) (hj0 : (-37) ≤ (j0).toInt ∧ (j0).toInt ≤ 37) (hj1 : (-37) ≤ (j1).toInt ∧ (j1).toInt ≤ 37) (hpre0 : CM 37 37 (j0 : Int64).toInt (j1 : Int64).toInt) (sz : Nat) : ML l yX12_common cX12_common 4 { frames := 11, cells := 0, slots := 0, locals := 253 } [.long j0, .long j1] D cy [] sz (fun r u => ((-37) ≤ r.toInt ∧ r.toInt ≤ 37) ∧ ((r : Int64).toInt ≠ 0 ∨ ((j0 : Int64).toInt = 0 ∧ (j1 : Int64).toInt = 0)) ∧ True) (fun u => []) 0 0 := by
  refine q_ent (own := RX12) (by decide) rfl (Nat.le_of_ble_eq_true rfl) (fun p e s m below meth c ls X hr hlk hnm hK hT h hA hl => ?_)
  obtain ⟨hx, hb, hml, hown, ht⟩ := id X
  replace hl : lv_has ls 4 [(0, .long j0), (2, .long j1)] := hl
  refine lv_lload_n hx hb dX12_common_0 rfl (lv_at hl 1 rfl) ?_
  refine lv_lconst (v := 0) hx hb dX12_common_1 (by decide) ?_
  refine W.lcmp hx hb dX12_common_2 ?_
  refine lv_if_ne (tgt := 10) hx hb dX12_common_3 (by decide) (fun c_1 => ?_) (fun c_1 => ?_)
  · replace c_1 := j_neq (x := j1) (y := 0) rfl (show (0 : Int64).toInt = 0 by decide) c_1
    refine lv_lload_n hx hb dX12_common_10 rfl (lv_at hl 1 rfl) ?_
    refine lv_lload_n hx hb dX12_common_11 rfl (lv_at hl 0 rfl) ?_
    refine lv_lload_n hx hb dX12_common_12 rfl (lv_at hl 1 rfl) ?_
    refine lv_lrem hx hb dX12_common_13 (j_nz (by omega)) ?_
    obtain ⟨z_2, ez_2, hz_2⟩ := e_anyJ (j0 - j0 / j1 * j1)
    refine q_cl z_2 ez_2 ?_
    have cm_3 : CM 18 37 _ _ := cm_s (by decide) hpre0 (by omega) ez_2
    have cr_3 := cm_r cm_3
    refine q_callSl (rest := []) (wr := []) X hK hT hA h (fun sz => gX12_common_dffaee4 l D cy j1 z_2 hj1 ⟨by omega, by omega⟩ (cm_3) sz) wm_8_20 wm_8_22 wm_1_12 hd_X12_common wm_8_21 ⟨Nat.le_of_ble_eq_true rfl, Nat.le_of_ble_eq_true rfl⟩ hl.1 rfl (Nat.le_of_ble_eq_true rfl) dX12_common_14 ⟨Nat.le_of_ble_eq_true rfl, Nat.le_of_ble_eq_true rfl⟩ [] [] rfl rfl (by decide) rfl rfl (fun r_4 u_4 H locs w_4 h_4 => ?_)
    clear h
    obtain ⟨wr_4, y4_0, _⟩ := w_4
    replace h_4 : qW D _ _ [] _ _ := h_4
    exact q_lret X hr hlk hK h_4 (fun _ => 0, fun _ _ => 0, fun _ _ => 0) ⟨wr_4, (show (r_4 : Int64).toInt ≠ 0 ∨ ((j0 : Int64).toInt = 0 ∧ (j1 : Int64).toInt = 0) from by (first | (clear y4_0; omega) | omega)), trivial⟩ [] rfl rfl dX12_common_17 (Nat.le_of_ble_eq_true rfl) (Nat.le_of_ble_eq_true rfl)
  · replace c_1 := j_eq (x := j1) (y := 0) rfl (show (0 : Int64).toInt = 0 by decide) c_1
    refine lv_lload_n hx hb dX12_common_6 rfl (lv_at hl 0 rfl) ?_
    refine lv_goto (tgt := 17) hx hb dX12_common_7 (by decide) ?_
    exact q_lret X hr hlk hK h (fun _ => 0, fun _ _ => 0, fun _ _ => 0) ⟨hj0, (show (j0 : Int64).toInt ≠ 0 ∨ ((j0 : Int64).toInt = 0 ∧ (j1 : Int64).toInt = 0) from by omega), trivial⟩ [] rfl rfl dX12_common_17 (Nat.le_of_ble_eq_true rfl) (Nat.le_of_ble_eq_true rfl)
set_option maxHeartbeats 4000000 in
set_option maxRecDepth 100000 in
theorem gX12_common_1d25713 (l : Launch) (D : va_G) (cy : Nat → ClassId) (j0 : Int64) (j1 : Int64) (hj0 : (-74) ≤ (j0).toInt ∧ (j0).toInt ≤ 74) (hj1 : (-37) ≤ (j1).toInt ∧ (j1).toInt ≤ 37) (hpre0 : CM 37 74 (j0 : Int64).toInt (j1 : Int64).toInt) (sz : Nat) : ML l yX12_common cX12_common 4 { frames := 12, cells := 0, slots := 0, locals := 276 } [.long j0, .long j1] D cy [] sz (fun r u => ((-74) ≤ r.toInt ∧ r.toInt ≤ 74) ∧ ((r : Int64).toInt ≠ 0 ∨ ((j0 : Int64).toInt = 0 ∧ (j1 : Int64).toInt = 0)) ∧ True) (fun u => []) 0 0 := by
  refine q_ent (own := RX12) (by decide) rfl (Nat.le_of_ble_eq_true rfl) (fun p e s m below meth c ls X hr hlk hnm hK hT h hA hl => ?_)
  obtain ⟨hx, hb, hml, hown, ht⟩ := id X
  replace hl : lv_has ls 4 [(0, .long j0), (2, .long j1)] := hl
  refine lv_lload_n hx hb dX12_common_0 rfl (lv_at hl 1 rfl) ?_
  refine lv_lconst (v := 0) hx hb dX12_common_1 (by decide) ?_
  refine W.lcmp hx hb dX12_common_2 ?_
  refine lv_if_ne (tgt := 10) hx hb dX12_common_3 (by decide) (fun c_1 => ?_) (fun c_1 => ?_)
  · replace c_1 := j_neq (x := j1) (y := 0) rfl (show (0 : Int64).toInt = 0 by decide) c_1
    refine lv_lload_n hx hb dX12_common_10 rfl (lv_at hl 1 rfl) ?_
    refine lv_lload_n hx hb dX12_common_11 rfl (lv_at hl 0 rfl) ?_
    refine lv_lload_n hx hb dX12_common_12 rfl (lv_at hl 1 rfl) ?_
    refine lv_lrem hx hb dX12_common_13 (j_nz (by omega)) ?_
    obtain ⟨z_2, ez_2, hz_2⟩ := e_anyJ (j0 - j0 / j1 * j1)
    refine q_cl z_2 ez_2 ?_
    have cm_3 : CM 37 37 _ _ := cm_s (by decide) hpre0 (by omega) ez_2
    have cr_3 := cm_r cm_3
    refine q_callSl (rest := []) (wr := []) X hK hT hA h (fun sz => gX12_common_f216987 l D cy j1 z_2 hj1 ⟨by omega, by omega⟩ (cm_3) sz) wm_8_20 wm_8_22 wm_1_12 hd_X12_common wm_8_21 ⟨Nat.le_of_ble_eq_true rfl, Nat.le_of_ble_eq_true rfl⟩ hl.1 rfl (Nat.le_of_ble_eq_true rfl) dX12_common_14 ⟨Nat.le_of_ble_eq_true rfl, Nat.le_of_ble_eq_true rfl⟩ [] [] rfl rfl (by decide) rfl rfl (fun r_4 u_4 H locs w_4 h_4 => ?_)
    clear h
    obtain ⟨wr_4, y4_0, _⟩ := w_4
    replace h_4 : qW D _ _ [] _ _ := h_4
    exact q_lret X hr hlk hK h_4 (fun _ => 0, fun _ _ => 0, fun _ _ => 0) ⟨(bw wr_4 (by decide) (by decide)), (show (r_4 : Int64).toInt ≠ 0 ∨ ((j0 : Int64).toInt = 0 ∧ (j1 : Int64).toInt = 0) from by (first | (clear y4_0; omega) | omega)), trivial⟩ [] rfl rfl dX12_common_17 (Nat.le_of_ble_eq_true rfl) (Nat.le_of_ble_eq_true rfl)
  · replace c_1 := j_eq (x := j1) (y := 0) rfl (show (0 : Int64).toInt = 0 by decide) c_1
    refine lv_lload_n hx hb dX12_common_6 rfl (lv_at hl 0 rfl) ?_
    refine lv_goto (tgt := 17) hx hb dX12_common_7 (by decide) ?_
    exact q_lret X hr hlk hK h (fun _ => 0, fun _ _ => 0, fun _ _ => 0) ⟨hj0, (show (j0 : Int64).toInt ≠ 0 ∨ ((j0 : Int64).toInt = 0 ∧ (j1 : Int64).toInt = 0) from by omega), trivial⟩ [] rfl rfl dX12_common_17 (Nat.le_of_ble_eq_true rfl) (Nat.le_of_ble_eq_true rfl)
set_option maxHeartbeats 4000000 in
set_option maxRecDepth 100000 in
theorem gX12_common_dd3d7b5 (l : Launch) (D : va_G) (cy : Nat → ClassId) (j0 : Int64) (j1 : Int64) (hj0 : (-74) ≤ (j0).toInt ∧ (j0).toInt ≤ 74) (hj1 : (-74) ≤ (j1).toInt ∧ (j1).toInt ≤ 74) (hpre0 : CM 74 74 (j0 : Int64).toInt (j1 : Int64).toInt) (sz : Nat) : ML l yX12_common cX12_common 4 { frames := 13, cells := 0, slots := 0, locals := 299 } [.long j0, .long j1] D cy [] sz (fun r u => ((-74) ≤ r.toInt ∧ r.toInt ≤ 74) ∧ ((r : Int64).toInt ≠ 0 ∨ ((j0 : Int64).toInt = 0 ∧ (j1 : Int64).toInt = 0)) ∧ True) (fun u => []) 0 0 := by
  refine q_ent (own := RX12) (by decide) rfl (Nat.le_of_ble_eq_true rfl) (fun p e s m below meth c ls X hr hlk hnm hK hT h hA hl => ?_)
  obtain ⟨hx, hb, hml, hown, ht⟩ := id X
  replace hl : lv_has ls 4 [(0, .long j0), (2, .long j1)] := hl
  refine lv_lload_n hx hb dX12_common_0 rfl (lv_at hl 1 rfl) ?_
  refine lv_lconst (v := 0) hx hb dX12_common_1 (by decide) ?_
  refine W.lcmp hx hb dX12_common_2 ?_
  refine lv_if_ne (tgt := 10) hx hb dX12_common_3 (by decide) (fun c_1 => ?_) (fun c_1 => ?_)
  · replace c_1 := j_neq (x := j1) (y := 0) rfl (show (0 : Int64).toInt = 0 by decide) c_1
    refine lv_lload_n hx hb dX12_common_10 rfl (lv_at hl 1 rfl) ?_
    refine lv_lload_n hx hb dX12_common_11 rfl (lv_at hl 0 rfl) ?_
    refine lv_lload_n hx hb dX12_common_12 rfl (lv_at hl 1 rfl) ?_
    refine lv_lrem hx hb dX12_common_13 (j_nz (by omega)) ?_
    obtain ⟨z_2, ez_2, hz_2⟩ := e_anyJ (j0 - j0 / j1 * j1)
    refine q_cl z_2 ez_2 ?_
    have cm_3 : CM 37 74 _ _ := cm_s (by decide) hpre0 (by omega) ez_2
    have cr_3 := cm_r cm_3
    refine q_callSl (rest := []) (wr := []) X hK hT hA h (fun sz => gX12_common_1d25713 l D cy j1 z_2 hj1 ⟨by omega, by omega⟩ (cm_3) sz) wm_8_20 wm_8_22 wm_1_12 hd_X12_common wm_8_21 ⟨Nat.le_of_ble_eq_true rfl, Nat.le_of_ble_eq_true rfl⟩ hl.1 rfl (Nat.le_of_ble_eq_true rfl) dX12_common_14 ⟨Nat.le_of_ble_eq_true rfl, Nat.le_of_ble_eq_true rfl⟩ [] [] rfl rfl (by decide) rfl rfl (fun r_4 u_4 H locs w_4 h_4 => ?_)
    clear h
    obtain ⟨wr_4, y4_0, _⟩ := w_4
    replace h_4 : qW D _ _ [] _ _ := h_4
    exact q_lret X hr hlk hK h_4 (fun _ => 0, fun _ _ => 0, fun _ _ => 0) ⟨wr_4, (show (r_4 : Int64).toInt ≠ 0 ∨ ((j0 : Int64).toInt = 0 ∧ (j1 : Int64).toInt = 0) from by (first | (clear y4_0; omega) | omega)), trivial⟩ [] rfl rfl dX12_common_17 (Nat.le_of_ble_eq_true rfl) (Nat.le_of_ble_eq_true rfl)
  · replace c_1 := j_eq (x := j1) (y := 0) rfl (show (0 : Int64).toInt = 0 by decide) c_1
    refine lv_lload_n hx hb dX12_common_6 rfl (lv_at hl 0 rfl) ?_
    refine lv_goto (tgt := 17) hx hb dX12_common_7 (by decide) ?_
    exact q_lret X hr hlk hK h (fun _ => 0, fun _ _ => 0, fun _ _ => 0) ⟨hj0, (show (j0 : Int64).toInt ≠ 0 ∨ ((j0 : Int64).toInt = 0 ∧ (j1 : Int64).toInt = 0) from by omega), trivial⟩ [] rfl rfl dX12_common_17 (Nat.le_of_ble_eq_true rfl) (Nat.le_of_ble_eq_true rfl)
set_option maxHeartbeats 4000000 in
set_option maxRecDepth 100000 in
theorem gX12_common_332fa0e (l : Launch) (D : va_G) (cy : Nat → ClassId) (j0 : Int64) (j1 : Int64) (hj0 : (-149) ≤ (j0).toInt ∧ (j0).toInt ≤ 149) (hj1 : (-74) ≤ (j1).toInt ∧ (j1).toInt ≤ 74) (hpre0 : CM 74 149 (j0 : Int64).toInt (j1 : Int64).toInt) (sz : Nat) : ML l yX12_common cX12_common 4 { frames := 14, cells := 0, slots := 0, locals := 322 } [.long j0, .long j1] D cy [] sz (fun r u => ((-149) ≤ r.toInt ∧ r.toInt ≤ 149) ∧ ((r : Int64).toInt ≠ 0 ∨ ((j0 : Int64).toInt = 0 ∧ (j1 : Int64).toInt = 0)) ∧ True) (fun u => []) 0 0 := by
  refine q_ent (own := RX12) (by decide) rfl (Nat.le_of_ble_eq_true rfl) (fun p e s m below meth c ls X hr hlk hnm hK hT h hA hl => ?_)
  obtain ⟨hx, hb, hml, hown, ht⟩ := id X
  replace hl : lv_has ls 4 [(0, .long j0), (2, .long j1)] := hl
  refine lv_lload_n hx hb dX12_common_0 rfl (lv_at hl 1 rfl) ?_
  refine lv_lconst (v := 0) hx hb dX12_common_1 (by decide) ?_
  refine W.lcmp hx hb dX12_common_2 ?_
  refine lv_if_ne (tgt := 10) hx hb dX12_common_3 (by decide) (fun c_1 => ?_) (fun c_1 => ?_)
  · replace c_1 := j_neq (x := j1) (y := 0) rfl (show (0 : Int64).toInt = 0 by decide) c_1
    refine lv_lload_n hx hb dX12_common_10 rfl (lv_at hl 1 rfl) ?_
    refine lv_lload_n hx hb dX12_common_11 rfl (lv_at hl 0 rfl) ?_
    refine lv_lload_n hx hb dX12_common_12 rfl (lv_at hl 1 rfl) ?_
    refine lv_lrem hx hb dX12_common_13 (j_nz (by omega)) ?_
    obtain ⟨z_2, ez_2, hz_2⟩ := e_anyJ (j0 - j0 / j1 * j1)
    refine q_cl z_2 ez_2 ?_
    have cm_3 : CM 74 74 _ _ := cm_s (by decide) hpre0 (by omega) ez_2
    have cr_3 := cm_r cm_3
    refine q_callSl (rest := []) (wr := []) X hK hT hA h (fun sz => gX12_common_dd3d7b5 l D cy j1 z_2 hj1 ⟨by omega, by omega⟩ (cm_3) sz) wm_8_20 wm_8_22 wm_1_12 hd_X12_common wm_8_21 ⟨Nat.le_of_ble_eq_true rfl, Nat.le_of_ble_eq_true rfl⟩ hl.1 rfl (Nat.le_of_ble_eq_true rfl) dX12_common_14 ⟨Nat.le_of_ble_eq_true rfl, Nat.le_of_ble_eq_true rfl⟩ [] [] rfl rfl (by decide) rfl rfl (fun r_4 u_4 H locs w_4 h_4 => ?_)
    clear h
    obtain ⟨wr_4, y4_0, _⟩ := w_4
    replace h_4 : qW D _ _ [] _ _ := h_4
    exact q_lret X hr hlk hK h_4 (fun _ => 0, fun _ _ => 0, fun _ _ => 0) ⟨(bw wr_4 (by decide) (by decide)), (show (r_4 : Int64).toInt ≠ 0 ∨ ((j0 : Int64).toInt = 0 ∧ (j1 : Int64).toInt = 0) from by (first | (clear y4_0; omega) | omega)), trivial⟩ [] rfl rfl dX12_common_17 (Nat.le_of_ble_eq_true rfl) (Nat.le_of_ble_eq_true rfl)
  · replace c_1 := j_eq (x := j1) (y := 0) rfl (show (0 : Int64).toInt = 0 by decide) c_1
    refine lv_lload_n hx hb dX12_common_6 rfl (lv_at hl 0 rfl) ?_
    refine lv_goto (tgt := 17) hx hb dX12_common_7 (by decide) ?_
    exact q_lret X hr hlk hK h (fun _ => 0, fun _ _ => 0, fun _ _ => 0) ⟨hj0, (show (j0 : Int64).toInt ≠ 0 ∨ ((j0 : Int64).toInt = 0 ∧ (j1 : Int64).toInt = 0) from by omega), trivial⟩ [] rfl rfl dX12_common_17 (Nat.le_of_ble_eq_true rfl) (Nat.le_of_ble_eq_true rfl)
set_option maxHeartbeats 4000000 in
set_option maxRecDepth 100000 in
theorem gX12_common_d03365d (l : Launch) (D : va_G) (cy : Nat → ClassId) (j0 : Int64) (j1 : Int64) (hj0 : (-149) ≤ (j0).toInt ∧ (j0).toInt ≤ 149) (hj1 : (-149) ≤ (j1).toInt ∧ (j1).toInt ≤ 149) (hpre0 : CM 149 149 (j0 : Int64).toInt (j1 : Int64).toInt) (sz : Nat) : ML l yX12_common cX12_common 4 { frames := 15, cells := 0, slots := 0, locals := 345 } [.long j0, .long j1] D cy [] sz (fun r u => ((-149) ≤ r.toInt ∧ r.toInt ≤ 149) ∧ ((r : Int64).toInt ≠ 0 ∨ ((j0 : Int64).toInt = 0 ∧ (j1 : Int64).toInt = 0)) ∧ True) (fun u => []) 0 0 := by
  refine q_ent (own := RX12) (by decide) rfl (Nat.le_of_ble_eq_true rfl) (fun p e s m below meth c ls X hr hlk hnm hK hT h hA hl => ?_)
  obtain ⟨hx, hb, hml, hown, ht⟩ := id X
  replace hl : lv_has ls 4 [(0, .long j0), (2, .long j1)] := hl
  refine lv_lload_n hx hb dX12_common_0 rfl (lv_at hl 1 rfl) ?_
  refine lv_lconst (v := 0) hx hb dX12_common_1 (by decide) ?_
  refine W.lcmp hx hb dX12_common_2 ?_
  refine lv_if_ne (tgt := 10) hx hb dX12_common_3 (by decide) (fun c_1 => ?_) (fun c_1 => ?_)
  · replace c_1 := j_neq (x := j1) (y := 0) rfl (show (0 : Int64).toInt = 0 by decide) c_1
    refine lv_lload_n hx hb dX12_common_10 rfl (lv_at hl 1 rfl) ?_
    refine lv_lload_n hx hb dX12_common_11 rfl (lv_at hl 0 rfl) ?_
    refine lv_lload_n hx hb dX12_common_12 rfl (lv_at hl 1 rfl) ?_
    refine lv_lrem hx hb dX12_common_13 (j_nz (by omega)) ?_
    obtain ⟨z_2, ez_2, hz_2⟩ := e_anyJ (j0 - j0 / j1 * j1)
    refine q_cl z_2 ez_2 ?_
    have cm_3 : CM 74 149 _ _ := cm_s (by decide) hpre0 (by omega) ez_2
    have cr_3 := cm_r cm_3
    refine q_callSl (rest := []) (wr := []) X hK hT hA h (fun sz => gX12_common_332fa0e l D cy j1 z_2 hj1 ⟨by omega, by omega⟩ (cm_3) sz) wm_8_20 wm_8_22 wm_1_12 hd_X12_common wm_8_21 ⟨Nat.le_of_ble_eq_true rfl, Nat.le_of_ble_eq_true rfl⟩ hl.1 rfl (Nat.le_of_ble_eq_true rfl) dX12_common_14 ⟨Nat.le_of_ble_eq_true rfl, Nat.le_of_ble_eq_true rfl⟩ [] [] rfl rfl (by decide) rfl rfl (fun r_4 u_4 H locs w_4 h_4 => ?_)
    clear h
    obtain ⟨wr_4, y4_0, _⟩ := w_4
    replace h_4 : qW D _ _ [] _ _ := h_4
    exact q_lret X hr hlk hK h_4 (fun _ => 0, fun _ _ => 0, fun _ _ => 0) ⟨wr_4, (show (r_4 : Int64).toInt ≠ 0 ∨ ((j0 : Int64).toInt = 0 ∧ (j1 : Int64).toInt = 0) from by (first | (clear y4_0; omega) | omega)), trivial⟩ [] rfl rfl dX12_common_17 (Nat.le_of_ble_eq_true rfl) (Nat.le_of_ble_eq_true rfl)
  · replace c_1 := j_eq (x := j1) (y := 0) rfl (show (0 : Int64).toInt = 0 by decide) c_1
    refine lv_lload_n hx hb dX12_common_6 rfl (lv_at hl 0 rfl) ?_
    refine lv_goto (tgt := 17) hx hb dX12_common_7 (by decide) ?_
    exact q_lret X hr hlk hK h (fun _ => 0, fun _ _ => 0, fun _ _ => 0) ⟨hj0, (show (j0 : Int64).toInt ≠ 0 ∨ ((j0 : Int64).toInt = 0 ∧ (j1 : Int64).toInt = 0) from by omega), trivial⟩ [] rfl rfl dX12_common_17 (Nat.le_of_ble_eq_true rfl) (Nat.le_of_ble_eq_true rfl)
set_option maxHeartbeats 4000000 in
set_option maxRecDepth 100000 in
theorem gX12_common_d669f04 (l : Launch) (D : va_G) (cy : Nat → ClassId) (j0 : Int64) (j1 : Int64) (hj0 : (-298) ≤ (j0).toInt ∧ (j0).toInt ≤ 298) (hj1 : (-149) ≤ (j1).toInt ∧ (j1).toInt ≤ 149) (hpre0 : CM 149 298 (j0 : Int64).toInt (j1 : Int64).toInt) (sz : Nat) : ML l yX12_common cX12_common 4 { frames := 16, cells := 0, slots := 0, locals := 368 } [.long j0, .long j1] D cy [] sz (fun r u => ((-298) ≤ r.toInt ∧ r.toInt ≤ 298) ∧ ((r : Int64).toInt ≠ 0 ∨ ((j0 : Int64).toInt = 0 ∧ (j1 : Int64).toInt = 0)) ∧ True) (fun u => []) 0 0 := by
  refine q_ent (own := RX12) (by decide) rfl (Nat.le_of_ble_eq_true rfl) (fun p e s m below meth c ls X hr hlk hnm hK hT h hA hl => ?_)
  obtain ⟨hx, hb, hml, hown, ht⟩ := id X
  replace hl : lv_has ls 4 [(0, .long j0), (2, .long j1)] := hl
  refine lv_lload_n hx hb dX12_common_0 rfl (lv_at hl 1 rfl) ?_
  refine lv_lconst (v := 0) hx hb dX12_common_1 (by decide) ?_
  refine W.lcmp hx hb dX12_common_2 ?_
  refine lv_if_ne (tgt := 10) hx hb dX12_common_3 (by decide) (fun c_1 => ?_) (fun c_1 => ?_)
  · replace c_1 := j_neq (x := j1) (y := 0) rfl (show (0 : Int64).toInt = 0 by decide) c_1
    refine lv_lload_n hx hb dX12_common_10 rfl (lv_at hl 1 rfl) ?_
    refine lv_lload_n hx hb dX12_common_11 rfl (lv_at hl 0 rfl) ?_
    refine lv_lload_n hx hb dX12_common_12 rfl (lv_at hl 1 rfl) ?_
    refine lv_lrem hx hb dX12_common_13 (j_nz (by omega)) ?_
    obtain ⟨z_2, ez_2, hz_2⟩ := e_anyJ (j0 - j0 / j1 * j1)
    refine q_cl z_2 ez_2 ?_
    have cm_3 : CM 149 149 _ _ := cm_s (by decide) hpre0 (by omega) ez_2
    have cr_3 := cm_r cm_3
    refine q_callSl (rest := []) (wr := []) X hK hT hA h (fun sz => gX12_common_d03365d l D cy j1 z_2 hj1 ⟨by omega, by omega⟩ (cm_3) sz) wm_8_20 wm_8_22 wm_1_12 hd_X12_common wm_8_21 ⟨Nat.le_of_ble_eq_true rfl, Nat.le_of_ble_eq_true rfl⟩ hl.1 rfl (Nat.le_of_ble_eq_true rfl) dX12_common_14 ⟨Nat.le_of_ble_eq_true rfl, Nat.le_of_ble_eq_true rfl⟩ [] [] rfl rfl (by decide) rfl rfl (fun r_4 u_4 H locs w_4 h_4 => ?_)
    clear h
    obtain ⟨wr_4, y4_0, _⟩ := w_4
    replace h_4 : qW D _ _ [] _ _ := h_4
    exact q_lret X hr hlk hK h_4 (fun _ => 0, fun _ _ => 0, fun _ _ => 0) ⟨(bw wr_4 (by decide) (by decide)), (show (r_4 : Int64).toInt ≠ 0 ∨ ((j0 : Int64).toInt = 0 ∧ (j1 : Int64).toInt = 0) from by (first | (clear y4_0; omega) | omega)), trivial⟩ [] rfl rfl dX12_common_17 (Nat.le_of_ble_eq_true rfl) (Nat.le_of_ble_eq_true rfl)
  · replace c_1 := j_eq (x := j1) (y := 0) rfl (show (0 : Int64).toInt = 0 by decide) c_1
    refine lv_lload_n hx hb dX12_common_6 rfl (lv_at hl 0 rfl) ?_
    refine lv_goto (tgt := 17) hx hb dX12_common_7 (by decide) ?_
    exact q_lret X hr hlk hK h (fun _ => 0, fun _ _ => 0, fun _ _ => 0) ⟨hj0, (show (j0 : Int64).toInt ≠ 0 ∨ ((j0 : Int64).toInt = 0 ∧ (j1 : Int64).toInt = 0) from by omega), trivial⟩ [] rfl rfl dX12_common_17 (Nat.le_of_ble_eq_true rfl) (Nat.le_of_ble_eq_true rfl)
set_option maxHeartbeats 4000000 in
set_option maxRecDepth 100000 in
theorem gX12_common_fd0d059 (l : Launch) (D : va_G) (cy : Nat → ClassId) (j0 : Int64) (j1 : Int64) (hj0 : (-298) ≤ (j0).toInt ∧ (j0).toInt ≤ 298) (hj1 : (-298) ≤ (j1).toInt ∧ (j1).toInt ≤ 298) (hpre0 : CM 298 298 (j0 : Int64).toInt (j1 : Int64).toInt) (sz : Nat) : ML l yX12_common cX12_common 4 { frames := 17, cells := 0, slots := 0, locals := 391 } [.long j0, .long j1] D cy [] sz (fun r u => ((-298) ≤ r.toInt ∧ r.toInt ≤ 298) ∧ ((r : Int64).toInt ≠ 0 ∨ ((j0 : Int64).toInt = 0 ∧ (j1 : Int64).toInt = 0)) ∧ True) (fun u => []) 0 0 := by
  refine q_ent (own := RX12) (by decide) rfl (Nat.le_of_ble_eq_true rfl) (fun p e s m below meth c ls X hr hlk hnm hK hT h hA hl => ?_)
  obtain ⟨hx, hb, hml, hown, ht⟩ := id X
  replace hl : lv_has ls 4 [(0, .long j0), (2, .long j1)] := hl
  refine lv_lload_n hx hb dX12_common_0 rfl (lv_at hl 1 rfl) ?_
  refine lv_lconst (v := 0) hx hb dX12_common_1 (by decide) ?_
  refine W.lcmp hx hb dX12_common_2 ?_
  refine lv_if_ne (tgt := 10) hx hb dX12_common_3 (by decide) (fun c_1 => ?_) (fun c_1 => ?_)
  · replace c_1 := j_neq (x := j1) (y := 0) rfl (show (0 : Int64).toInt = 0 by decide) c_1
    refine lv_lload_n hx hb dX12_common_10 rfl (lv_at hl 1 rfl) ?_
    refine lv_lload_n hx hb dX12_common_11 rfl (lv_at hl 0 rfl) ?_
    refine lv_lload_n hx hb dX12_common_12 rfl (lv_at hl 1 rfl) ?_
    refine lv_lrem hx hb dX12_common_13 (j_nz (by omega)) ?_
    obtain ⟨z_2, ez_2, hz_2⟩ := e_anyJ (j0 - j0 / j1 * j1)
    refine q_cl z_2 ez_2 ?_
    have cm_3 : CM 149 298 _ _ := cm_s (by decide) hpre0 (by omega) ez_2
    have cr_3 := cm_r cm_3
    refine q_callSl (rest := []) (wr := []) X hK hT hA h (fun sz => gX12_common_d669f04 l D cy j1 z_2 hj1 ⟨by omega, by omega⟩ (cm_3) sz) wm_8_20 wm_8_22 wm_1_12 hd_X12_common wm_8_21 ⟨Nat.le_of_ble_eq_true rfl, Nat.le_of_ble_eq_true rfl⟩ hl.1 rfl (Nat.le_of_ble_eq_true rfl) dX12_common_14 ⟨Nat.le_of_ble_eq_true rfl, Nat.le_of_ble_eq_true rfl⟩ [] [] rfl rfl (by decide) rfl rfl (fun r_4 u_4 H locs w_4 h_4 => ?_)
    clear h
    obtain ⟨wr_4, y4_0, _⟩ := w_4
    replace h_4 : qW D _ _ [] _ _ := h_4
    exact q_lret X hr hlk hK h_4 (fun _ => 0, fun _ _ => 0, fun _ _ => 0) ⟨wr_4, (show (r_4 : Int64).toInt ≠ 0 ∨ ((j0 : Int64).toInt = 0 ∧ (j1 : Int64).toInt = 0) from by (first | (clear y4_0; omega) | omega)), trivial⟩ [] rfl rfl dX12_common_17 (Nat.le_of_ble_eq_true rfl) (Nat.le_of_ble_eq_true rfl)
  · replace c_1 := j_eq (x := j1) (y := 0) rfl (show (0 : Int64).toInt = 0 by decide) c_1
    refine lv_lload_n hx hb dX12_common_6 rfl (lv_at hl 0 rfl) ?_
    refine lv_goto (tgt := 17) hx hb dX12_common_7 (by decide) ?_
    exact q_lret X hr hlk hK h (fun _ => 0, fun _ _ => 0, fun _ _ => 0) ⟨hj0, (show (j0 : Int64).toInt ≠ 0 ∨ ((j0 : Int64).toInt = 0 ∧ (j1 : Int64).toInt = 0) from by omega), trivial⟩ [] rfl rfl dX12_common_17 (Nat.le_of_ble_eq_true rfl) (Nat.le_of_ble_eq_true rfl)
set_option maxHeartbeats 4000000 in
set_option maxRecDepth 100000 in
theorem gX12_common_c9fbc46 (l : Launch) (D : va_G) (cy : Nat → ClassId) (j0 : Int64) (j1 : Int64) (hj0 : (-596) ≤ (j0).toInt ∧ (j0).toInt ≤ 596) (hj1 : (-298) ≤ (j1).toInt ∧ (j1).toInt ≤ 298) (hpre0 : CM 298 596 (j0 : Int64).toInt (j1 : Int64).toInt) (sz : Nat) : ML l yX12_common cX12_common 4 { frames := 18, cells := 0, slots := 0, locals := 414 } [.long j0, .long j1] D cy [] sz (fun r u => ((-596) ≤ r.toInt ∧ r.toInt ≤ 596) ∧ ((r : Int64).toInt ≠ 0 ∨ ((j0 : Int64).toInt = 0 ∧ (j1 : Int64).toInt = 0)) ∧ True) (fun u => []) 0 0 := by
  refine q_ent (own := RX12) (by decide) rfl (Nat.le_of_ble_eq_true rfl) (fun p e s m below meth c ls X hr hlk hnm hK hT h hA hl => ?_)
  obtain ⟨hx, hb, hml, hown, ht⟩ := id X
  replace hl : lv_has ls 4 [(0, .long j0), (2, .long j1)] := hl
  refine lv_lload_n hx hb dX12_common_0 rfl (lv_at hl 1 rfl) ?_
  refine lv_lconst (v := 0) hx hb dX12_common_1 (by decide) ?_
  refine W.lcmp hx hb dX12_common_2 ?_
  refine lv_if_ne (tgt := 10) hx hb dX12_common_3 (by decide) (fun c_1 => ?_) (fun c_1 => ?_)
  · replace c_1 := j_neq (x := j1) (y := 0) rfl (show (0 : Int64).toInt = 0 by decide) c_1
    refine lv_lload_n hx hb dX12_common_10 rfl (lv_at hl 1 rfl) ?_
    refine lv_lload_n hx hb dX12_common_11 rfl (lv_at hl 0 rfl) ?_
    refine lv_lload_n hx hb dX12_common_12 rfl (lv_at hl 1 rfl) ?_
    refine lv_lrem hx hb dX12_common_13 (j_nz (by omega)) ?_
    obtain ⟨z_2, ez_2, hz_2⟩ := e_anyJ (j0 - j0 / j1 * j1)
    refine q_cl z_2 ez_2 ?_
    have cm_3 : CM 298 298 _ _ := cm_s (by decide) hpre0 (by omega) ez_2
    have cr_3 := cm_r cm_3
    refine q_callSl (rest := []) (wr := []) X hK hT hA h (fun sz => gX12_common_fd0d059 l D cy j1 z_2 hj1 ⟨by omega, by omega⟩ (cm_3) sz) wm_8_20 wm_8_22 wm_1_12 hd_X12_common wm_8_21 ⟨Nat.le_of_ble_eq_true rfl, Nat.le_of_ble_eq_true rfl⟩ hl.1 rfl (Nat.le_of_ble_eq_true rfl) dX12_common_14 ⟨Nat.le_of_ble_eq_true rfl, Nat.le_of_ble_eq_true rfl⟩ [] [] rfl rfl (by decide) rfl rfl (fun r_4 u_4 H locs w_4 h_4 => ?_)
    clear h
    obtain ⟨wr_4, y4_0, _⟩ := w_4
    replace h_4 : qW D _ _ [] _ _ := h_4
    exact q_lret X hr hlk hK h_4 (fun _ => 0, fun _ _ => 0, fun _ _ => 0) ⟨(bw wr_4 (by decide) (by decide)), (show (r_4 : Int64).toInt ≠ 0 ∨ ((j0 : Int64).toInt = 0 ∧ (j1 : Int64).toInt = 0) from by (first | (clear y4_0; omega) | omega)), trivial⟩ [] rfl rfl dX12_common_17 (Nat.le_of_ble_eq_true rfl) (Nat.le_of_ble_eq_true rfl)
  · replace c_1 := j_eq (x := j1) (y := 0) rfl (show (0 : Int64).toInt = 0 by decide) c_1
    refine lv_lload_n hx hb dX12_common_6 rfl (lv_at hl 0 rfl) ?_
    refine lv_goto (tgt := 17) hx hb dX12_common_7 (by decide) ?_
    exact q_lret X hr hlk hK h (fun _ => 0, fun _ _ => 0, fun _ _ => 0) ⟨hj0, (show (j0 : Int64).toInt ≠ 0 ∨ ((j0 : Int64).toInt = 0 ∧ (j1 : Int64).toInt = 0) from by omega), trivial⟩ [] rfl rfl dX12_common_17 (Nat.le_of_ble_eq_true rfl) (Nat.le_of_ble_eq_true rfl)
set_option maxHeartbeats 4000000 in
set_option maxRecDepth 100000 in
theorem gX12_common_9f981a0 (l : Launch) (D : va_G) (cy : Nat → ClassId) (j0 : Int64) (j1 : Int64) (hj0 : (-596) ≤ (j0).toInt ∧ (j0).toInt ≤ 596) (hj1 : (-596) ≤ (j1).toInt ∧ (j1).toInt ≤ 596) (hpre0 : CM 596 596 (j0 : Int64).toInt (j1 : Int64).toInt) (sz : Nat) : ML l yX12_common cX12_common 4 { frames := 19, cells := 0, slots := 0, locals := 437 } [.long j0, .long j1] D cy [] sz (fun r u => ((-596) ≤ r.toInt ∧ r.toInt ≤ 596) ∧ ((r : Int64).toInt ≠ 0 ∨ ((j0 : Int64).toInt = 0 ∧ (j1 : Int64).toInt = 0)) ∧ True) (fun u => []) 0 0 := by
  refine q_ent (own := RX12) (by decide) rfl (Nat.le_of_ble_eq_true rfl) (fun p e s m below meth c ls X hr hlk hnm hK hT h hA hl => ?_)
  obtain ⟨hx, hb, hml, hown, ht⟩ := id X
  replace hl : lv_has ls 4 [(0, .long j0), (2, .long j1)] := hl
  refine lv_lload_n hx hb dX12_common_0 rfl (lv_at hl 1 rfl) ?_
  refine lv_lconst (v := 0) hx hb dX12_common_1 (by decide) ?_
  refine W.lcmp hx hb dX12_common_2 ?_
  refine lv_if_ne (tgt := 10) hx hb dX12_common_3 (by decide) (fun c_1 => ?_) (fun c_1 => ?_)
  · replace c_1 := j_neq (x := j1) (y := 0) rfl (show (0 : Int64).toInt = 0 by decide) c_1
    refine lv_lload_n hx hb dX12_common_10 rfl (lv_at hl 1 rfl) ?_
    refine lv_lload_n hx hb dX12_common_11 rfl (lv_at hl 0 rfl) ?_
    refine lv_lload_n hx hb dX12_common_12 rfl (lv_at hl 1 rfl) ?_
    refine lv_lrem hx hb dX12_common_13 (j_nz (by omega)) ?_
    obtain ⟨z_2, ez_2, hz_2⟩ := e_anyJ (j0 - j0 / j1 * j1)
    refine q_cl z_2 ez_2 ?_
    have cm_3 : CM 298 596 _ _ := cm_s (by decide) hpre0 (by omega) ez_2
    have cr_3 := cm_r cm_3
    refine q_callSl (rest := []) (wr := []) X hK hT hA h (fun sz => gX12_common_c9fbc46 l D cy j1 z_2 hj1 ⟨by omega, by omega⟩ (cm_3) sz) wm_8_20 wm_8_22 wm_1_12 hd_X12_common wm_8_21 ⟨Nat.le_of_ble_eq_true rfl, Nat.le_of_ble_eq_true rfl⟩ hl.1 rfl (Nat.le_of_ble_eq_true rfl) dX12_common_14 ⟨Nat.le_of_ble_eq_true rfl, Nat.le_of_ble_eq_true rfl⟩ [] [] rfl rfl (by decide) rfl rfl (fun r_4 u_4 H locs w_4 h_4 => ?_)
    clear h
    obtain ⟨wr_4, y4_0, _⟩ := w_4
    replace h_4 : qW D _ _ [] _ _ := h_4
    exact q_lret X hr hlk hK h_4 (fun _ => 0, fun _ _ => 0, fun _ _ => 0) ⟨wr_4, (show (r_4 : Int64).toInt ≠ 0 ∨ ((j0 : Int64).toInt = 0 ∧ (j1 : Int64).toInt = 0) from by (first | (clear y4_0; omega) | omega)), trivial⟩ [] rfl rfl dX12_common_17 (Nat.le_of_ble_eq_true rfl) (Nat.le_of_ble_eq_true rfl)
  · replace c_1 := j_eq (x := j1) (y := 0) rfl (show (0 : Int64).toInt = 0 by decide) c_1
    refine lv_lload_n hx hb dX12_common_6 rfl (lv_at hl 0 rfl) ?_
    refine lv_goto (tgt := 17) hx hb dX12_common_7 (by decide) ?_
    exact q_lret X hr hlk hK h (fun _ => 0, fun _ _ => 0, fun _ _ => 0) ⟨hj0, (show (j0 : Int64).toInt ≠ 0 ∨ ((j0 : Int64).toInt = 0 ∧ (j1 : Int64).toInt = 0) from by omega), trivial⟩ [] rfl rfl dX12_common_17 (Nat.le_of_ble_eq_true rfl) (Nat.le_of_ble_eq_true rfl)
set_option maxHeartbeats 4000000 in
set_option maxRecDepth 100000 in
theorem gX12_common_d7e066b (l : Launch) (D : va_G) (cy : Nat → ClassId) (j0 : Int64) (j1 : Int64) (hj0 : (-1192) ≤ (j0).toInt ∧ (j0).toInt ≤ 1192) (hj1 : (-596) ≤ (j1).toInt ∧ (j1).toInt ≤ 596) (hpre0 : CM 596 1192 (j0 : Int64).toInt (j1 : Int64).toInt) (sz : Nat) : ML l yX12_common cX12_common 4 { frames := 20, cells := 0, slots := 0, locals := 460 } [.long j0, .long j1] D cy [] sz (fun r u => ((-1192) ≤ r.toInt ∧ r.toInt ≤ 1192) ∧ ((r : Int64).toInt ≠ 0 ∨ ((j0 : Int64).toInt = 0 ∧ (j1 : Int64).toInt = 0)) ∧ True) (fun u => []) 0 0 := by
  refine q_ent (own := RX12) (by decide) rfl (Nat.le_of_ble_eq_true rfl) (fun p e s m below meth c ls X hr hlk hnm hK hT h hA hl => ?_)
  obtain ⟨hx, hb, hml, hown, ht⟩ := id X
  replace hl : lv_has ls 4 [(0, .long j0), (2, .long j1)] := hl
  refine lv_lload_n hx hb dX12_common_0 rfl (lv_at hl 1 rfl) ?_
  refine lv_lconst (v := 0) hx hb dX12_common_1 (by decide) ?_
  refine W.lcmp hx hb dX12_common_2 ?_
  refine lv_if_ne (tgt := 10) hx hb dX12_common_3 (by decide) (fun c_1 => ?_) (fun c_1 => ?_)
  · replace c_1 := j_neq (x := j1) (y := 0) rfl (show (0 : Int64).toInt = 0 by decide) c_1
    refine lv_lload_n hx hb dX12_common_10 rfl (lv_at hl 1 rfl) ?_
    refine lv_lload_n hx hb dX12_common_11 rfl (lv_at hl 0 rfl) ?_
    refine lv_lload_n hx hb dX12_common_12 rfl (lv_at hl 1 rfl) ?_
    refine lv_lrem hx hb dX12_common_13 (j_nz (by omega)) ?_
    obtain ⟨z_2, ez_2, hz_2⟩ := e_anyJ (j0 - j0 / j1 * j1)
    refine q_cl z_2 ez_2 ?_
    have cm_3 : CM 596 596 _ _ := cm_s (by decide) hpre0 (by omega) ez_2
    have cr_3 := cm_r cm_3
    refine q_callSl (rest := []) (wr := []) X hK hT hA h (fun sz => gX12_common_9f981a0 l D cy j1 z_2 hj1 ⟨by omega, by omega⟩ (cm_3) sz) wm_8_20 wm_8_22 wm_1_12 hd_X12_common wm_8_21 ⟨Nat.le_of_ble_eq_true rfl, Nat.le_of_ble_eq_true rfl⟩ hl.1 rfl (Nat.le_of_ble_eq_true rfl) dX12_common_14 ⟨Nat.le_of_ble_eq_true rfl, Nat.le_of_ble_eq_true rfl⟩ [] [] rfl rfl (by decide) rfl rfl (fun r_4 u_4 H locs w_4 h_4 => ?_)
    clear h
    obtain ⟨wr_4, y4_0, _⟩ := w_4
    replace h_4 : qW D _ _ [] _ _ := h_4
    exact q_lret X hr hlk hK h_4 (fun _ => 0, fun _ _ => 0, fun _ _ => 0) ⟨(bw wr_4 (by decide) (by decide)), (show (r_4 : Int64).toInt ≠ 0 ∨ ((j0 : Int64).toInt = 0 ∧ (j1 : Int64).toInt = 0) from by (first | (clear y4_0; omega) | omega)), trivial⟩ [] rfl rfl dX12_common_17 (Nat.le_of_ble_eq_true rfl) (Nat.le_of_ble_eq_true rfl)
  · replace c_1 := j_eq (x := j1) (y := 0) rfl (show (0 : Int64).toInt = 0 by decide) c_1
    refine lv_lload_n hx hb dX12_common_6 rfl (lv_at hl 0 rfl) ?_
    refine lv_goto (tgt := 17) hx hb dX12_common_7 (by decide) ?_
    exact q_lret X hr hlk hK h (fun _ => 0, fun _ _ => 0, fun _ _ => 0) ⟨hj0, (show (j0 : Int64).toInt ≠ 0 ∨ ((j0 : Int64).toInt = 0 ∧ (j1 : Int64).toInt = 0) from by omega), trivial⟩ [] rfl rfl dX12_common_17 (Nat.le_of_ble_eq_true rfl) (Nat.le_of_ble_eq_true rfl)
set_option maxHeartbeats 4000000 in
set_option maxRecDepth 100000 in
theorem gX12_common_7174584 (l : Launch) (D : va_G) (cy : Nat → ClassId) (j0 : Int64) (j1 : Int64) (hj0 : (-1192) ≤ (j0).toInt ∧ (j0).toInt ≤ 1192) (hj1 : (-1192) ≤ (j1).toInt ∧ (j1).toInt ≤ 1192) (hpre0 : CM 1192 1192 (j0 : Int64).toInt (j1 : Int64).toInt) (sz : Nat) : ML l yX12_common cX12_common 4 { frames := 21, cells := 0, slots := 0, locals := 483 } [.long j0, .long j1] D cy [] sz (fun r u => ((-1192) ≤ r.toInt ∧ r.toInt ≤ 1192) ∧ ((r : Int64).toInt ≠ 0 ∨ ((j0 : Int64).toInt = 0 ∧ (j1 : Int64).toInt = 0)) ∧ True) (fun u => []) 0 0 := by
  refine q_ent (own := RX12) (by decide) rfl (Nat.le_of_ble_eq_true rfl) (fun p e s m below meth c ls X hr hlk hnm hK hT h hA hl => ?_)
  obtain ⟨hx, hb, hml, hown, ht⟩ := id X
  replace hl : lv_has ls 4 [(0, .long j0), (2, .long j1)] := hl
  refine lv_lload_n hx hb dX12_common_0 rfl (lv_at hl 1 rfl) ?_
  refine lv_lconst (v := 0) hx hb dX12_common_1 (by decide) ?_
  refine W.lcmp hx hb dX12_common_2 ?_
  refine lv_if_ne (tgt := 10) hx hb dX12_common_3 (by decide) (fun c_1 => ?_) (fun c_1 => ?_)
  · replace c_1 := j_neq (x := j1) (y := 0) rfl (show (0 : Int64).toInt = 0 by decide) c_1
    refine lv_lload_n hx hb dX12_common_10 rfl (lv_at hl 1 rfl) ?_
    refine lv_lload_n hx hb dX12_common_11 rfl (lv_at hl 0 rfl) ?_
    refine lv_lload_n hx hb dX12_common_12 rfl (lv_at hl 1 rfl) ?_
    refine lv_lrem hx hb dX12_common_13 (j_nz (by omega)) ?_
    obtain ⟨z_2, ez_2, hz_2⟩ := e_anyJ (j0 - j0 / j1 * j1)
    refine q_cl z_2 ez_2 ?_
    have cm_3 : CM 596 1192 _ _ := cm_s (by decide) hpre0 (by omega) ez_2
    have cr_3 := cm_r cm_3
    refine q_callSl (rest := []) (wr := []) X hK hT hA h (fun sz => gX12_common_d7e066b l D cy j1 z_2 hj1 ⟨by omega, by omega⟩ (cm_3) sz) wm_8_20 wm_8_22 wm_1_12 hd_X12_common wm_8_21 ⟨Nat.le_of_ble_eq_true rfl, Nat.le_of_ble_eq_true rfl⟩ hl.1 rfl (Nat.le_of_ble_eq_true rfl) dX12_common_14 ⟨Nat.le_of_ble_eq_true rfl, Nat.le_of_ble_eq_true rfl⟩ [] [] rfl rfl (by decide) rfl rfl (fun r_4 u_4 H locs w_4 h_4 => ?_)
    clear h
    obtain ⟨wr_4, y4_0, _⟩ := w_4
    replace h_4 : qW D _ _ [] _ _ := h_4
    exact q_lret X hr hlk hK h_4 (fun _ => 0, fun _ _ => 0, fun _ _ => 0) ⟨wr_4, (show (r_4 : Int64).toInt ≠ 0 ∨ ((j0 : Int64).toInt = 0 ∧ (j1 : Int64).toInt = 0) from by (first | (clear y4_0; omega) | omega)), trivial⟩ [] rfl rfl dX12_common_17 (Nat.le_of_ble_eq_true rfl) (Nat.le_of_ble_eq_true rfl)
  · replace c_1 := j_eq (x := j1) (y := 0) rfl (show (0 : Int64).toInt = 0 by decide) c_1
    refine lv_lload_n hx hb dX12_common_6 rfl (lv_at hl 0 rfl) ?_
    refine lv_goto (tgt := 17) hx hb dX12_common_7 (by decide) ?_
    exact q_lret X hr hlk hK h (fun _ => 0, fun _ _ => 0, fun _ _ => 0) ⟨hj0, (show (j0 : Int64).toInt ≠ 0 ∨ ((j0 : Int64).toInt = 0 ∧ (j1 : Int64).toInt = 0) from by omega), trivial⟩ [] rfl rfl dX12_common_17 (Nat.le_of_ble_eq_true rfl) (Nat.le_of_ble_eq_true rfl)
set_option maxHeartbeats 4000000 in
set_option maxRecDepth 100000 in
theorem gX12_common_13986d0 (l : Launch) (D : va_G) (cy : Nat → ClassId) (j0 : Int64) (j1 : Int64) (hj0 : (-2384) ≤ (j0).toInt ∧ (j0).toInt ≤ 2384) (hj1 : (-1192) ≤ (j1).toInt ∧ (j1).toInt ≤ 1192) (hpre0 : CM 1192 2384 (j0 : Int64).toInt (j1 : Int64).toInt) (sz : Nat) : ML l yX12_common cX12_common 4 { frames := 22, cells := 0, slots := 0, locals := 506 } [.long j0, .long j1] D cy [] sz (fun r u => ((-2384) ≤ r.toInt ∧ r.toInt ≤ 2384) ∧ ((r : Int64).toInt ≠ 0 ∨ ((j0 : Int64).toInt = 0 ∧ (j1 : Int64).toInt = 0)) ∧ True) (fun u => []) 0 0 := by
  refine q_ent (own := RX12) (by decide) rfl (Nat.le_of_ble_eq_true rfl) (fun p e s m below meth c ls X hr hlk hnm hK hT h hA hl => ?_)
  obtain ⟨hx, hb, hml, hown, ht⟩ := id X
  replace hl : lv_has ls 4 [(0, .long j0), (2, .long j1)] := hl
  refine lv_lload_n hx hb dX12_common_0 rfl (lv_at hl 1 rfl) ?_
  refine lv_lconst (v := 0) hx hb dX12_common_1 (by decide) ?_
  refine W.lcmp hx hb dX12_common_2 ?_
  refine lv_if_ne (tgt := 10) hx hb dX12_common_3 (by decide) (fun c_1 => ?_) (fun c_1 => ?_)
  · replace c_1 := j_neq (x := j1) (y := 0) rfl (show (0 : Int64).toInt = 0 by decide) c_1
    refine lv_lload_n hx hb dX12_common_10 rfl (lv_at hl 1 rfl) ?_
    refine lv_lload_n hx hb dX12_common_11 rfl (lv_at hl 0 rfl) ?_
    refine lv_lload_n hx hb dX12_common_12 rfl (lv_at hl 1 rfl) ?_
    refine lv_lrem hx hb dX12_common_13 (j_nz (by omega)) ?_
    obtain ⟨z_2, ez_2, hz_2⟩ := e_anyJ (j0 - j0 / j1 * j1)
    refine q_cl z_2 ez_2 ?_
    have cm_3 : CM 1192 1192 _ _ := cm_s (by decide) hpre0 (by omega) ez_2
    have cr_3 := cm_r cm_3
    refine q_callSl (rest := []) (wr := []) X hK hT hA h (fun sz => gX12_common_7174584 l D cy j1 z_2 hj1 ⟨by omega, by omega⟩ (cm_3) sz) wm_8_20 wm_8_22 wm_1_12 hd_X12_common wm_8_21 ⟨Nat.le_of_ble_eq_true rfl, Nat.le_of_ble_eq_true rfl⟩ hl.1 rfl (Nat.le_of_ble_eq_true rfl) dX12_common_14 ⟨Nat.le_of_ble_eq_true rfl, Nat.le_of_ble_eq_true rfl⟩ [] [] rfl rfl (by decide) rfl rfl (fun r_4 u_4 H locs w_4 h_4 => ?_)
    clear h
    obtain ⟨wr_4, y4_0, _⟩ := w_4
    replace h_4 : qW D _ _ [] _ _ := h_4
    exact q_lret X hr hlk hK h_4 (fun _ => 0, fun _ _ => 0, fun _ _ => 0) ⟨(bw wr_4 (by decide) (by decide)), (show (r_4 : Int64).toInt ≠ 0 ∨ ((j0 : Int64).toInt = 0 ∧ (j1 : Int64).toInt = 0) from by (first | (clear y4_0; omega) | omega)), trivial⟩ [] rfl rfl dX12_common_17 (Nat.le_of_ble_eq_true rfl) (Nat.le_of_ble_eq_true rfl)
  · replace c_1 := j_eq (x := j1) (y := 0) rfl (show (0 : Int64).toInt = 0 by decide) c_1
    refine lv_lload_n hx hb dX12_common_6 rfl (lv_at hl 0 rfl) ?_
    refine lv_goto (tgt := 17) hx hb dX12_common_7 (by decide) ?_
    exact q_lret X hr hlk hK h (fun _ => 0, fun _ _ => 0, fun _ _ => 0) ⟨hj0, (show (j0 : Int64).toInt ≠ 0 ∨ ((j0 : Int64).toInt = 0 ∧ (j1 : Int64).toInt = 0) from by omega), trivial⟩ [] rfl rfl dX12_common_17 (Nat.le_of_ble_eq_true rfl) (Nat.le_of_ble_eq_true rfl)
set_option maxHeartbeats 4000000 in
set_option maxRecDepth 100000 in
theorem gX12_common_28f3244 (l : Launch) (D : va_G) (cy : Nat → ClassId) (j0 : Int64) (j1 : Int64) (hj0 : (-2384) ≤ (j0).toInt ∧ (j0).toInt ≤ 2384) (hj1 : (-2384) ≤ (j1).toInt ∧ (j1).toInt ≤ 2384) (hpre0 : CM 2384 2384 (j0 : Int64).toInt (j1 : Int64).toInt) (sz : Nat) : ML l yX12_common cX12_common 4 { frames := 23, cells := 0, slots := 0, locals := 529 } [.long j0, .long j1] D cy [] sz (fun r u => ((-2384) ≤ r.toInt ∧ r.toInt ≤ 2384) ∧ ((r : Int64).toInt ≠ 0 ∨ ((j0 : Int64).toInt = 0 ∧ (j1 : Int64).toInt = 0)) ∧ True) (fun u => []) 0 0 := by
  refine q_ent (own := RX12) (by decide) rfl (Nat.le_of_ble_eq_true rfl) (fun p e s m below meth c ls X hr hlk hnm hK hT h hA hl => ?_)
  obtain ⟨hx, hb, hml, hown, ht⟩ := id X
  replace hl : lv_has ls 4 [(0, .long j0), (2, .long j1)] := hl
  refine lv_lload_n hx hb dX12_common_0 rfl (lv_at hl 1 rfl) ?_
  refine lv_lconst (v := 0) hx hb dX12_common_1 (by decide) ?_
  refine W.lcmp hx hb dX12_common_2 ?_
  refine lv_if_ne (tgt := 10) hx hb dX12_common_3 (by decide) (fun c_1 => ?_) (fun c_1 => ?_)
  · replace c_1 := j_neq (x := j1) (y := 0) rfl (show (0 : Int64).toInt = 0 by decide) c_1
    refine lv_lload_n hx hb dX12_common_10 rfl (lv_at hl 1 rfl) ?_
    refine lv_lload_n hx hb dX12_common_11 rfl (lv_at hl 0 rfl) ?_
    refine lv_lload_n hx hb dX12_common_12 rfl (lv_at hl 1 rfl) ?_
    refine lv_lrem hx hb dX12_common_13 (j_nz (by omega)) ?_
    obtain ⟨z_2, ez_2, hz_2⟩ := e_anyJ (j0 - j0 / j1 * j1)
    refine q_cl z_2 ez_2 ?_
    have cm_3 : CM 1192 2384 _ _ := cm_s (by decide) hpre0 (by omega) ez_2
    have cr_3 := cm_r cm_3
    refine q_callSl (rest := []) (wr := []) X hK hT hA h (fun sz => gX12_common_13986d0 l D cy j1 z_2 hj1 ⟨by omega, by omega⟩ (cm_3) sz) wm_8_20 wm_8_22 wm_1_12 hd_X12_common wm_8_21 ⟨Nat.le_of_ble_eq_true rfl, Nat.le_of_ble_eq_true rfl⟩ hl.1 rfl (Nat.le_of_ble_eq_true rfl) dX12_common_14 ⟨Nat.le_of_ble_eq_true rfl, Nat.le_of_ble_eq_true rfl⟩ [] [] rfl rfl (by decide) rfl rfl (fun r_4 u_4 H locs w_4 h_4 => ?_)
    clear h
    obtain ⟨wr_4, y4_0, _⟩ := w_4
    replace h_4 : qW D _ _ [] _ _ := h_4
    exact q_lret X hr hlk hK h_4 (fun _ => 0, fun _ _ => 0, fun _ _ => 0) ⟨wr_4, (show (r_4 : Int64).toInt ≠ 0 ∨ ((j0 : Int64).toInt = 0 ∧ (j1 : Int64).toInt = 0) from by (first | (clear y4_0; omega) | omega)), trivial⟩ [] rfl rfl dX12_common_17 (Nat.le_of_ble_eq_true rfl) (Nat.le_of_ble_eq_true rfl)
  · replace c_1 := j_eq (x := j1) (y := 0) rfl (show (0 : Int64).toInt = 0 by decide) c_1
    refine lv_lload_n hx hb dX12_common_6 rfl (lv_at hl 0 rfl) ?_
    refine lv_goto (tgt := 17) hx hb dX12_common_7 (by decide) ?_
    exact q_lret X hr hlk hK h (fun _ => 0, fun _ _ => 0, fun _ _ => 0) ⟨hj0, (show (j0 : Int64).toInt ≠ 0 ∨ ((j0 : Int64).toInt = 0 ∧ (j1 : Int64).toInt = 0) from by omega), trivial⟩ [] rfl rfl dX12_common_17 (Nat.le_of_ble_eq_true rfl) (Nat.le_of_ble_eq_true rfl)
set_option maxHeartbeats 4000000 in
set_option maxRecDepth 100000 in
theorem gX12_common_87d159d (l : Launch) (D : va_G) (cy : Nat → ClassId) (j0 : Int64) (j1 : Int64) (hj0 : (-4768) ≤ (j0).toInt ∧ (j0).toInt ≤ 4768) (hj1 : (-2384) ≤ (j1).toInt ∧ (j1).toInt ≤ 2384) (hpre0 : CM 2384 4768 (j0 : Int64).toInt (j1 : Int64).toInt) (sz : Nat) : ML l yX12_common cX12_common 4 { frames := 24, cells := 0, slots := 0, locals := 552 } [.long j0, .long j1] D cy [] sz (fun r u => ((-4768) ≤ r.toInt ∧ r.toInt ≤ 4768) ∧ ((r : Int64).toInt ≠ 0 ∨ ((j0 : Int64).toInt = 0 ∧ (j1 : Int64).toInt = 0)) ∧ True) (fun u => []) 0 0 := by
  refine q_ent (own := RX12) (by decide) rfl (Nat.le_of_ble_eq_true rfl) (fun p e s m below meth c ls X hr hlk hnm hK hT h hA hl => ?_)
  obtain ⟨hx, hb, hml, hown, ht⟩ := id X
  replace hl : lv_has ls 4 [(0, .long j0), (2, .long j1)] := hl
  refine lv_lload_n hx hb dX12_common_0 rfl (lv_at hl 1 rfl) ?_
  refine lv_lconst (v := 0) hx hb dX12_common_1 (by decide) ?_
  refine W.lcmp hx hb dX12_common_2 ?_
  refine lv_if_ne (tgt := 10) hx hb dX12_common_3 (by decide) (fun c_1 => ?_) (fun c_1 => ?_)
  · replace c_1 := j_neq (x := j1) (y := 0) rfl (show (0 : Int64).toInt = 0 by decide) c_1
    refine lv_lload_n hx hb dX12_common_10 rfl (lv_at hl 1 rfl) ?_
    refine lv_lload_n hx hb dX12_common_11 rfl (lv_at hl 0 rfl) ?_
    refine lv_lload_n hx hb dX12_common_12 rfl (lv_at hl 1 rfl) ?_
    refine lv_lrem hx hb dX12_common_13 (j_nz (by omega)) ?_
    obtain ⟨z_2, ez_2, hz_2⟩ := e_anyJ (j0 - j0 / j1 * j1)
    refine q_cl z_2 ez_2 ?_
    have cm_3 : CM 2384 2384 _ _ := cm_s (by decide) hpre0 (by omega) ez_2
    have cr_3 := cm_r cm_3
    refine q_callSl (rest := []) (wr := []) X hK hT hA h (fun sz => gX12_common_28f3244 l D cy j1 z_2 hj1 ⟨by omega, by omega⟩ (cm_3) sz) wm_8_20 wm_8_22 wm_1_12 hd_X12_common wm_8_21 ⟨Nat.le_of_ble_eq_true rfl, Nat.le_of_ble_eq_true rfl⟩ hl.1 rfl (Nat.le_of_ble_eq_true rfl) dX12_common_14 ⟨Nat.le_of_ble_eq_true rfl, Nat.le_of_ble_eq_true rfl⟩ [] [] rfl rfl (by decide) rfl rfl (fun r_4 u_4 H locs w_4 h_4 => ?_)
    clear h
    obtain ⟨wr_4, y4_0, _⟩ := w_4
    replace h_4 : qW D _ _ [] _ _ := h_4
    exact q_lret X hr hlk hK h_4 (fun _ => 0, fun _ _ => 0, fun _ _ => 0) ⟨(bw wr_4 (by decide) (by decide)), (show (r_4 : Int64).toInt ≠ 0 ∨ ((j0 : Int64).toInt = 0 ∧ (j1 : Int64).toInt = 0) from by (first | (clear y4_0; omega) | omega)), trivial⟩ [] rfl rfl dX12_common_17 (Nat.le_of_ble_eq_true rfl) (Nat.le_of_ble_eq_true rfl)
  · replace c_1 := j_eq (x := j1) (y := 0) rfl (show (0 : Int64).toInt = 0 by decide) c_1
    refine lv_lload_n hx hb dX12_common_6 rfl (lv_at hl 0 rfl) ?_
    refine lv_goto (tgt := 17) hx hb dX12_common_7 (by decide) ?_
    exact q_lret X hr hlk hK h (fun _ => 0, fun _ _ => 0, fun _ _ => 0) ⟨hj0, (show (j0 : Int64).toInt ≠ 0 ∨ ((j0 : Int64).toInt = 0 ∧ (j1 : Int64).toInt = 0) from by omega), trivial⟩ [] rfl rfl dX12_common_17 (Nat.le_of_ble_eq_true rfl) (Nat.le_of_ble_eq_true rfl)
set_option maxHeartbeats 4000000 in
set_option maxRecDepth 100000 in
theorem gX12_common_ead8af4 (l : Launch) (D : va_G) (cy : Nat → ClassId) (j0 : Int64) (j1 : Int64) (hj0 : (-4768) ≤ (j0).toInt ∧ (j0).toInt ≤ 4768) (hj1 : (-4768) ≤ (j1).toInt ∧ (j1).toInt ≤ 4768) (hpre0 : CM 4768 4768 (j0 : Int64).toInt (j1 : Int64).toInt) (sz : Nat) : ML l yX12_common cX12_common 4 { frames := 25, cells := 0, slots := 0, locals := 575 } [.long j0, .long j1] D cy [] sz (fun r u => ((-4768) ≤ r.toInt ∧ r.toInt ≤ 4768) ∧ ((r : Int64).toInt ≠ 0 ∨ ((j0 : Int64).toInt = 0 ∧ (j1 : Int64).toInt = 0)) ∧ True) (fun u => []) 0 0 := by
  refine q_ent (own := RX12) (by decide) rfl (Nat.le_of_ble_eq_true rfl) (fun p e s m below meth c ls X hr hlk hnm hK hT h hA hl => ?_)
  obtain ⟨hx, hb, hml, hown, ht⟩ := id X
  replace hl : lv_has ls 4 [(0, .long j0), (2, .long j1)] := hl
  refine lv_lload_n hx hb dX12_common_0 rfl (lv_at hl 1 rfl) ?_
  refine lv_lconst (v := 0) hx hb dX12_common_1 (by decide) ?_
  refine W.lcmp hx hb dX12_common_2 ?_
  refine lv_if_ne (tgt := 10) hx hb dX12_common_3 (by decide) (fun c_1 => ?_) (fun c_1 => ?_)
  · replace c_1 := j_neq (x := j1) (y := 0) rfl (show (0 : Int64).toInt = 0 by decide) c_1
    refine lv_lload_n hx hb dX12_common_10 rfl (lv_at hl 1 rfl) ?_
    refine lv_lload_n hx hb dX12_common_11 rfl (lv_at hl 0 rfl) ?_
    refine lv_lload_n hx hb dX12_common_12 rfl (lv_at hl 1 rfl) ?_
    refine lv_lrem hx hb dX12_common_13 (j_nz (by omega)) ?_
    obtain ⟨z_2, ez_2, hz_2⟩ := e_anyJ (j0 - j0 / j1 * j1)
    refine q_cl z_2 ez_2 ?_
    have cm_3 : CM 2384 4768 _ _ := cm_s (by decide) hpre0 (by omega) ez_2
    have cr_3 := cm_r cm_3
    refine q_callSl (rest := []) (wr := []) X hK hT hA h (fun sz => gX12_common_87d159d l D cy j1 z_2 hj1 ⟨by omega, by omega⟩ (cm_3) sz) wm_8_20 wm_8_22 wm_1_12 hd_X12_common wm_8_21 ⟨Nat.le_of_ble_eq_true rfl, Nat.le_of_ble_eq_true rfl⟩ hl.1 rfl (Nat.le_of_ble_eq_true rfl) dX12_common_14 ⟨Nat.le_of_ble_eq_true rfl, Nat.le_of_ble_eq_true rfl⟩ [] [] rfl rfl (by decide) rfl rfl (fun r_4 u_4 H locs w_4 h_4 => ?_)
    clear h
    obtain ⟨wr_4, y4_0, _⟩ := w_4
    replace h_4 : qW D _ _ [] _ _ := h_4
    exact q_lret X hr hlk hK h_4 (fun _ => 0, fun _ _ => 0, fun _ _ => 0) ⟨wr_4, (show (r_4 : Int64).toInt ≠ 0 ∨ ((j0 : Int64).toInt = 0 ∧ (j1 : Int64).toInt = 0) from by (first | (clear y4_0; omega) | omega)), trivial⟩ [] rfl rfl dX12_common_17 (Nat.le_of_ble_eq_true rfl) (Nat.le_of_ble_eq_true rfl)
  · replace c_1 := j_eq (x := j1) (y := 0) rfl (show (0 : Int64).toInt = 0 by decide) c_1
    refine lv_lload_n hx hb dX12_common_6 rfl (lv_at hl 0 rfl) ?_
    refine lv_goto (tgt := 17) hx hb dX12_common_7 (by decide) ?_
    exact q_lret X hr hlk hK h (fun _ => 0, fun _ _ => 0, fun _ _ => 0) ⟨hj0, (show (j0 : Int64).toInt ≠ 0 ∨ ((j0 : Int64).toInt = 0 ∧ (j1 : Int64).toInt = 0) from by omega), trivial⟩ [] rfl rfl dX12_common_17 (Nat.le_of_ble_eq_true rfl) (Nat.le_of_ble_eq_true rfl)
set_option maxHeartbeats 4000000 in
set_option maxRecDepth 100000 in
theorem gX12_common_4e8a10f (l : Launch) (D : va_G) (cy : Nat → ClassId) (j0 : Int64) (j1 : Int64) (hj0 : (-9536) ≤ (j0).toInt ∧ (j0).toInt ≤ 9536) (hj1 : (-4768) ≤ (j1).toInt ∧ (j1).toInt ≤ 4768) (hpre0 : CM 4768 9536 (j0 : Int64).toInt (j1 : Int64).toInt) (sz : Nat) : ML l yX12_common cX12_common 4 { frames := 26, cells := 0, slots := 0, locals := 598 } [.long j0, .long j1] D cy [] sz (fun r u => ((-9536) ≤ r.toInt ∧ r.toInt ≤ 9536) ∧ ((r : Int64).toInt ≠ 0 ∨ ((j0 : Int64).toInt = 0 ∧ (j1 : Int64).toInt = 0)) ∧ True) (fun u => []) 0 0 := by
  refine q_ent (own := RX12) (by decide) rfl (Nat.le_of_ble_eq_true rfl) (fun p e s m below meth c ls X hr hlk hnm hK hT h hA hl => ?_)
  obtain ⟨hx, hb, hml, hown, ht⟩ := id X
  replace hl : lv_has ls 4 [(0, .long j0), (2, .long j1)] := hl
  refine lv_lload_n hx hb dX12_common_0 rfl (lv_at hl 1 rfl) ?_
  refine lv_lconst (v := 0) hx hb dX12_common_1 (by decide) ?_
  refine W.lcmp hx hb dX12_common_2 ?_
  refine lv_if_ne (tgt := 10) hx hb dX12_common_3 (by decide) (fun c_1 => ?_) (fun c_1 => ?_)
  · replace c_1 := j_neq (x := j1) (y := 0) rfl (show (0 : Int64).toInt = 0 by decide) c_1
    refine lv_lload_n hx hb dX12_common_10 rfl (lv_at hl 1 rfl) ?_
    refine lv_lload_n hx hb dX12_common_11 rfl (lv_at hl 0 rfl) ?_
    refine lv_lload_n hx hb dX12_common_12 rfl (lv_at hl 1 rfl) ?_
    refine lv_lrem hx hb dX12_common_13 (j_nz (by omega)) ?_
    obtain ⟨z_2, ez_2, hz_2⟩ := e_anyJ (j0 - j0 / j1 * j1)
    refine q_cl z_2 ez_2 ?_
    have cm_3 : CM 4768 4768 _ _ := cm_s (by decide) hpre0 (by omega) ez_2
    have cr_3 := cm_r cm_3
    refine q_callSl (rest := []) (wr := []) X hK hT hA h (fun sz => gX12_common_ead8af4 l D cy j1 z_2 hj1 ⟨by omega, by omega⟩ (cm_3) sz) wm_8_20 wm_8_22 wm_1_12 hd_X12_common wm_8_21 ⟨Nat.le_of_ble_eq_true rfl, Nat.le_of_ble_eq_true rfl⟩ hl.1 rfl (Nat.le_of_ble_eq_true rfl) dX12_common_14 ⟨Nat.le_of_ble_eq_true rfl, Nat.le_of_ble_eq_true rfl⟩ [] [] rfl rfl (by decide) rfl rfl (fun r_4 u_4 H locs w_4 h_4 => ?_)
    clear h
    obtain ⟨wr_4, y4_0, _⟩ := w_4
    replace h_4 : qW D _ _ [] _ _ := h_4
    exact q_lret X hr hlk hK h_4 (fun _ => 0, fun _ _ => 0, fun _ _ => 0) ⟨(bw wr_4 (by decide) (by decide)), (show (r_4 : Int64).toInt ≠ 0 ∨ ((j0 : Int64).toInt = 0 ∧ (j1 : Int64).toInt = 0) from by (first | (clear y4_0; omega) | omega)), trivial⟩ [] rfl rfl dX12_common_17 (Nat.le_of_ble_eq_true rfl) (Nat.le_of_ble_eq_true rfl)
  · replace c_1 := j_eq (x := j1) (y := 0) rfl (show (0 : Int64).toInt = 0 by decide) c_1
    refine lv_lload_n hx hb dX12_common_6 rfl (lv_at hl 0 rfl) ?_
    refine lv_goto (tgt := 17) hx hb dX12_common_7 (by decide) ?_
    exact q_lret X hr hlk hK h (fun _ => 0, fun _ _ => 0, fun _ _ => 0) ⟨hj0, (show (j0 : Int64).toInt ≠ 0 ∨ ((j0 : Int64).toInt = 0 ∧ (j1 : Int64).toInt = 0) from by omega), trivial⟩ [] rfl rfl dX12_common_17 (Nat.le_of_ble_eq_true rfl) (Nat.le_of_ble_eq_true rfl)
set_option maxHeartbeats 4000000 in
set_option maxRecDepth 100000 in
theorem gX12_common_049d8dc (l : Launch) (D : va_G) (cy : Nat → ClassId) (j0 : Int64) (j1 : Int64) (hj0 : (-9536) ≤ (j0).toInt ∧ (j0).toInt ≤ 9536) (hj1 : (-9536) ≤ (j1).toInt ∧ (j1).toInt ≤ 9536) (hpre0 : CM 9536 9536 (j0 : Int64).toInt (j1 : Int64).toInt) (sz : Nat) : ML l yX12_common cX12_common 4 { frames := 27, cells := 0, slots := 0, locals := 621 } [.long j0, .long j1] D cy [] sz (fun r u => ((-9536) ≤ r.toInt ∧ r.toInt ≤ 9536) ∧ ((r : Int64).toInt ≠ 0 ∨ ((j0 : Int64).toInt = 0 ∧ (j1 : Int64).toInt = 0)) ∧ True) (fun u => []) 0 0 := by
  refine q_ent (own := RX12) (by decide) rfl (Nat.le_of_ble_eq_true rfl) (fun p e s m below meth c ls X hr hlk hnm hK hT h hA hl => ?_)
  obtain ⟨hx, hb, hml, hown, ht⟩ := id X
  replace hl : lv_has ls 4 [(0, .long j0), (2, .long j1)] := hl
  refine lv_lload_n hx hb dX12_common_0 rfl (lv_at hl 1 rfl) ?_
  refine lv_lconst (v := 0) hx hb dX12_common_1 (by decide) ?_
  refine W.lcmp hx hb dX12_common_2 ?_
  refine lv_if_ne (tgt := 10) hx hb dX12_common_3 (by decide) (fun c_1 => ?_) (fun c_1 => ?_)
  · replace c_1 := j_neq (x := j1) (y := 0) rfl (show (0 : Int64).toInt = 0 by decide) c_1
    refine lv_lload_n hx hb dX12_common_10 rfl (lv_at hl 1 rfl) ?_
    refine lv_lload_n hx hb dX12_common_11 rfl (lv_at hl 0 rfl) ?_
    refine lv_lload_n hx hb dX12_common_12 rfl (lv_at hl 1 rfl) ?_
    refine lv_lrem hx hb dX12_common_13 (j_nz (by omega)) ?_
    obtain ⟨z_2, ez_2, hz_2⟩ := e_anyJ (j0 - j0 / j1 * j1)
    refine q_cl z_2 ez_2 ?_
    have cm_3 : CM 4768 9536 _ _ := cm_s (by decide) hpre0 (by omega) ez_2
    have cr_3 := cm_r cm_3
    refine q_callSl (rest := []) (wr := []) X hK hT hA h (fun sz => gX12_common_4e8a10f l D cy j1 z_2 hj1 ⟨by omega, by omega⟩ (cm_3) sz) wm_8_20 wm_8_22 wm_1_12 hd_X12_common wm_8_21 ⟨Nat.le_of_ble_eq_true rfl, Nat.le_of_ble_eq_true rfl⟩ hl.1 rfl (Nat.le_of_ble_eq_true rfl) dX12_common_14 ⟨Nat.le_of_ble_eq_true rfl, Nat.le_of_ble_eq_true rfl⟩ [] [] rfl rfl (by decide) rfl rfl (fun r_4 u_4 H locs w_4 h_4 => ?_)
    clear h
    obtain ⟨wr_4, y4_0, _⟩ := w_4
    replace h_4 : qW D _ _ [] _ _ := h_4
    exact q_lret X hr hlk hK h_4 (fun _ => 0, fun _ _ => 0, fun _ _ => 0) ⟨wr_4, (show (r_4 : Int64).toInt ≠ 0 ∨ ((j0 : Int64).toInt = 0 ∧ (j1 : Int64).toInt = 0) from by (first | (clear y4_0; omega) | omega)), trivial⟩ [] rfl rfl dX12_common_17 (Nat.le_of_ble_eq_true rfl) (Nat.le_of_ble_eq_true rfl)
  · replace c_1 := j_eq (x := j1) (y := 0) rfl (show (0 : Int64).toInt = 0 by decide) c_1
    refine lv_lload_n hx hb dX12_common_6 rfl (lv_at hl 0 rfl) ?_
    refine lv_goto (tgt := 17) hx hb dX12_common_7 (by decide) ?_
    exact q_lret X hr hlk hK h (fun _ => 0, fun _ _ => 0, fun _ _ => 0) ⟨hj0, (show (j0 : Int64).toInt ≠ 0 ∨ ((j0 : Int64).toInt = 0 ∧ (j1 : Int64).toInt = 0) from by omega), trivial⟩ [] rfl rfl dX12_common_17 (Nat.le_of_ble_eq_true rfl) (Nat.le_of_ble_eq_true rfl)
set_option maxHeartbeats 4000000 in
set_option maxRecDepth 100000 in
theorem gX12_common_e8b3cb2 (l : Launch) (D : va_G) (cy : Nat → ClassId) (j0 : Int64) (j1 : Int64) (hj0 : (-19073) ≤ (j0).toInt ∧ (j0).toInt ≤ 19073) (hj1 : (-9536) ≤ (j1).toInt ∧ (j1).toInt ≤ 9536) (hpre0 : CM 9536 19073 (j0 : Int64).toInt (j1 : Int64).toInt) (sz : Nat) : ML l yX12_common cX12_common 4 { frames := 28, cells := 0, slots := 0, locals := 644 } [.long j0, .long j1] D cy [] sz (fun r u => ((-19073) ≤ r.toInt ∧ r.toInt ≤ 19073) ∧ ((r : Int64).toInt ≠ 0 ∨ ((j0 : Int64).toInt = 0 ∧ (j1 : Int64).toInt = 0)) ∧ True) (fun u => []) 0 0 := by
  refine q_ent (own := RX12) (by decide) rfl (Nat.le_of_ble_eq_true rfl) (fun p e s m below meth c ls X hr hlk hnm hK hT h hA hl => ?_)
  obtain ⟨hx, hb, hml, hown, ht⟩ := id X
  replace hl : lv_has ls 4 [(0, .long j0), (2, .long j1)] := hl
  refine lv_lload_n hx hb dX12_common_0 rfl (lv_at hl 1 rfl) ?_
  refine lv_lconst (v := 0) hx hb dX12_common_1 (by decide) ?_
  refine W.lcmp hx hb dX12_common_2 ?_
  refine lv_if_ne (tgt := 10) hx hb dX12_common_3 (by decide) (fun c_1 => ?_) (fun c_1 => ?_)
  · replace c_1 := j_neq (x := j1) (y := 0) rfl (show (0 : Int64).toInt = 0 by decide) c_1
    refine lv_lload_n hx hb dX12_common_10 rfl (lv_at hl 1 rfl) ?_
    refine lv_lload_n hx hb dX12_common_11 rfl (lv_at hl 0 rfl) ?_
    refine lv_lload_n hx hb dX12_common_12 rfl (lv_at hl 1 rfl) ?_
    refine lv_lrem hx hb dX12_common_13 (j_nz (by omega)) ?_
    obtain ⟨z_2, ez_2, hz_2⟩ := e_anyJ (j0 - j0 / j1 * j1)
    refine q_cl z_2 ez_2 ?_
    have cm_3 : CM 9536 9536 _ _ := cm_s (by decide) hpre0 (by omega) ez_2
    have cr_3 := cm_r cm_3
    refine q_callSl (rest := []) (wr := []) X hK hT hA h (fun sz => gX12_common_049d8dc l D cy j1 z_2 hj1 ⟨by omega, by omega⟩ (cm_3) sz) wm_8_20 wm_8_22 wm_1_12 hd_X12_common wm_8_21 ⟨Nat.le_of_ble_eq_true rfl, Nat.le_of_ble_eq_true rfl⟩ hl.1 rfl (Nat.le_of_ble_eq_true rfl) dX12_common_14 ⟨Nat.le_of_ble_eq_true rfl, Nat.le_of_ble_eq_true rfl⟩ [] [] rfl rfl (by decide) rfl rfl (fun r_4 u_4 H locs w_4 h_4 => ?_)
    clear h
    obtain ⟨wr_4, y4_0, _⟩ := w_4
    replace h_4 : qW D _ _ [] _ _ := h_4
    exact q_lret X hr hlk hK h_4 (fun _ => 0, fun _ _ => 0, fun _ _ => 0) ⟨(bw wr_4 (by decide) (by decide)), (show (r_4 : Int64).toInt ≠ 0 ∨ ((j0 : Int64).toInt = 0 ∧ (j1 : Int64).toInt = 0) from by (first | (clear y4_0; omega) | omega)), trivial⟩ [] rfl rfl dX12_common_17 (Nat.le_of_ble_eq_true rfl) (Nat.le_of_ble_eq_true rfl)
  · replace c_1 := j_eq (x := j1) (y := 0) rfl (show (0 : Int64).toInt = 0 by decide) c_1
    refine lv_lload_n hx hb dX12_common_6 rfl (lv_at hl 0 rfl) ?_
    refine lv_goto (tgt := 17) hx hb dX12_common_7 (by decide) ?_
    exact q_lret X hr hlk hK h (fun _ => 0, fun _ _ => 0, fun _ _ => 0) ⟨hj0, (show (j0 : Int64).toInt ≠ 0 ∨ ((j0 : Int64).toInt = 0 ∧ (j1 : Int64).toInt = 0) from by omega), trivial⟩ [] rfl rfl dX12_common_17 (Nat.le_of_ble_eq_true rfl) (Nat.le_of_ble_eq_true rfl)
set_option maxHeartbeats 4000000 in
set_option maxRecDepth 100000 in
theorem gX12_common_655d0ea (l : Launch) (D : va_G) (cy : Nat → ClassId) (j0 : Int64) (j1 : Int64) (hj0 : (-19073) ≤ (j0).toInt ∧ (j0).toInt ≤ 19073) (hj1 : (-19073) ≤ (j1).toInt ∧ (j1).toInt ≤ 19073) (hpre0 : CM 19073 19073 (j0 : Int64).toInt (j1 : Int64).toInt) (sz : Nat) : ML l yX12_common cX12_common 4 { frames := 29, cells := 0, slots := 0, locals := 667 } [.long j0, .long j1] D cy [] sz (fun r u => ((-19073) ≤ r.toInt ∧ r.toInt ≤ 19073) ∧ ((r : Int64).toInt ≠ 0 ∨ ((j0 : Int64).toInt = 0 ∧ (j1 : Int64).toInt = 0)) ∧ True) (fun u => []) 0 0 := by
  refine q_ent (own := RX12) (by decide) rfl (Nat.le_of_ble_eq_true rfl) (fun p e s m below meth c ls X hr hlk hnm hK hT h hA hl => ?_)
  obtain ⟨hx, hb, hml, hown, ht⟩ := id X
  replace hl : lv_has ls 4 [(0, .long j0), (2, .long j1)] := hl
  refine lv_lload_n hx hb dX12_common_0 rfl (lv_at hl 1 rfl) ?_
  refine lv_lconst (v := 0) hx hb dX12_common_1 (by decide) ?_
  refine W.lcmp hx hb dX12_common_2 ?_
  refine lv_if_ne (tgt := 10) hx hb dX12_common_3 (by decide) (fun c_1 => ?_) (fun c_1 => ?_)
  · replace c_1 := j_neq (x := j1) (y := 0) rfl (show (0 : Int64).toInt = 0 by decide) c_1
    refine lv_lload_n hx hb dX12_common_10 rfl (lv_at hl 1 rfl) ?_
    refine lv_lload_n hx hb dX12_common_11 rfl (lv_at hl 0 rfl) ?_
    refine lv_lload_n hx hb dX12_common_12 rfl (lv_at hl 1 rfl) ?_
    refine lv_lrem hx hb dX12_common_13 (j_nz (by omega)) ?_
    obtain ⟨z_2, ez_2, hz_2⟩ := e_anyJ (j0 - j0 / j1 * j1)
    refine q_cl z_2 ez_2 ?_
    have cm_3 : CM 9536 19073 _ _ := cm_s (by decide) hpre0 (by omega) ez_2
    have cr_3 := cm_r cm_3
    refine q_callSl (rest := []) (wr := []) X hK hT hA h (fun sz => gX12_common_e8b3cb2 l D cy j1 z_2 hj1 ⟨by omega, by omega⟩ (cm_3) sz) wm_8_20 wm_8_22 wm_1_12 hd_X12_common wm_8_21 ⟨Nat.le_of_ble_eq_true rfl, Nat.le_of_ble_eq_true rfl⟩ hl.1 rfl (Nat.le_of_ble_eq_true rfl) dX12_common_14 ⟨Nat.le_of_ble_eq_true rfl, Nat.le_of_ble_eq_true rfl⟩ [] [] rfl rfl (by decide) rfl rfl (fun r_4 u_4 H locs w_4 h_4 => ?_)
    clear h
    obtain ⟨wr_4, y4_0, _⟩ := w_4
    replace h_4 : qW D _ _ [] _ _ := h_4
    exact q_lret X hr hlk hK h_4 (fun _ => 0, fun _ _ => 0, fun _ _ => 0) ⟨wr_4, (show (r_4 : Int64).toInt ≠ 0 ∨ ((j0 : Int64).toInt = 0 ∧ (j1 : Int64).toInt = 0) from by (first | (clear y4_0; omega) | omega)), trivial⟩ [] rfl rfl dX12_common_17 (Nat.le_of_ble_eq_true rfl) (Nat.le_of_ble_eq_true rfl)
  · replace c_1 := j_eq (x := j1) (y := 0) rfl (show (0 : Int64).toInt = 0 by decide) c_1
    refine lv_lload_n hx hb dX12_common_6 rfl (lv_at hl 0 rfl) ?_
    refine lv_goto (tgt := 17) hx hb dX12_common_7 (by decide) ?_
    exact q_lret X hr hlk hK h (fun _ => 0, fun _ _ => 0, fun _ _ => 0) ⟨hj0, (show (j0 : Int64).toInt ≠ 0 ∨ ((j0 : Int64).toInt = 0 ∧ (j1 : Int64).toInt = 0) from by omega), trivial⟩ [] rfl rfl dX12_common_17 (Nat.le_of_ble_eq_true rfl) (Nat.le_of_ble_eq_true rfl)
set_option maxHeartbeats 4000000 in
set_option maxRecDepth 100000 in
theorem gX12_common_c8e3fe0 (l : Launch) (D : va_G) (cy : Nat → ClassId) (j0 : Int64) (j1 : Int64) (hj0 : (-38146) ≤ (j0).toInt ∧ (j0).toInt ≤ 38146) (hj1 : (-19073) ≤ (j1).toInt ∧ (j1).toInt ≤ 19073) (hpre0 : CM 19073 38146 (j0 : Int64).toInt (j1 : Int64).toInt) (sz : Nat) : ML l yX12_common cX12_common 4 { frames := 30, cells := 0, slots := 0, locals := 690 } [.long j0, .long j1] D cy [] sz (fun r u => ((-38146) ≤ r.toInt ∧ r.toInt ≤ 38146) ∧ ((r : Int64).toInt ≠ 0 ∨ ((j0 : Int64).toInt = 0 ∧ (j1 : Int64).toInt = 0)) ∧ True) (fun u => []) 0 0 := by
  refine q_ent (own := RX12) (by decide) rfl (Nat.le_of_ble_eq_true rfl) (fun p e s m below meth c ls X hr hlk hnm hK hT h hA hl => ?_)
  obtain ⟨hx, hb, hml, hown, ht⟩ := id X
  replace hl : lv_has ls 4 [(0, .long j0), (2, .long j1)] := hl
  refine lv_lload_n hx hb dX12_common_0 rfl (lv_at hl 1 rfl) ?_
  refine lv_lconst (v := 0) hx hb dX12_common_1 (by decide) ?_
  refine W.lcmp hx hb dX12_common_2 ?_
  refine lv_if_ne (tgt := 10) hx hb dX12_common_3 (by decide) (fun c_1 => ?_) (fun c_1 => ?_)
  · replace c_1 := j_neq (x := j1) (y := 0) rfl (show (0 : Int64).toInt = 0 by decide) c_1
    refine lv_lload_n hx hb dX12_common_10 rfl (lv_at hl 1 rfl) ?_
    refine lv_lload_n hx hb dX12_common_11 rfl (lv_at hl 0 rfl) ?_
    refine lv_lload_n hx hb dX12_common_12 rfl (lv_at hl 1 rfl) ?_
    refine lv_lrem hx hb dX12_common_13 (j_nz (by omega)) ?_
    obtain ⟨z_2, ez_2, hz_2⟩ := e_anyJ (j0 - j0 / j1 * j1)
    refine q_cl z_2 ez_2 ?_
    have cm_3 : CM 19073 19073 _ _ := cm_s (by decide) hpre0 (by omega) ez_2
    have cr_3 := cm_r cm_3
    refine q_callSl (rest := []) (wr := []) X hK hT hA h (fun sz => gX12_common_655d0ea l D cy j1 z_2 hj1 ⟨by omega, by omega⟩ (cm_3) sz) wm_8_20 wm_8_22 wm_1_12 hd_X12_common wm_8_21 ⟨Nat.le_of_ble_eq_true rfl, Nat.le_of_ble_eq_true rfl⟩ hl.1 rfl (Nat.le_of_ble_eq_true rfl) dX12_common_14 ⟨Nat.le_of_ble_eq_true rfl, Nat.le_of_ble_eq_true rfl⟩ [] [] rfl rfl (by decide) rfl rfl (fun r_4 u_4 H locs w_4 h_4 => ?_)
    clear h
    obtain ⟨wr_4, y4_0, _⟩ := w_4
    replace h_4 : qW D _ _ [] _ _ := h_4
    exact q_lret X hr hlk hK h_4 (fun _ => 0, fun _ _ => 0, fun _ _ => 0) ⟨(bw wr_4 (by decide) (by decide)), (show (r_4 : Int64).toInt ≠ 0 ∨ ((j0 : Int64).toInt = 0 ∧ (j1 : Int64).toInt = 0) from by (first | (clear y4_0; omega) | omega)), trivial⟩ [] rfl rfl dX12_common_17 (Nat.le_of_ble_eq_true rfl) (Nat.le_of_ble_eq_true rfl)
  · replace c_1 := j_eq (x := j1) (y := 0) rfl (show (0 : Int64).toInt = 0 by decide) c_1
    refine lv_lload_n hx hb dX12_common_6 rfl (lv_at hl 0 rfl) ?_
    refine lv_goto (tgt := 17) hx hb dX12_common_7 (by decide) ?_
    exact q_lret X hr hlk hK h (fun _ => 0, fun _ _ => 0, fun _ _ => 0) ⟨hj0, (show (j0 : Int64).toInt ≠ 0 ∨ ((j0 : Int64).toInt = 0 ∧ (j1 : Int64).toInt = 0) from by omega), trivial⟩ [] rfl rfl dX12_common_17 (Nat.le_of_ble_eq_true rfl) (Nat.le_of_ble_eq_true rfl)
set_option maxHeartbeats 4000000 in
set_option maxRecDepth 100000 in
theorem gX12_common_c18a055 (l : Launch) (D : va_G) (cy : Nat → ClassId) (j0 : Int64) (j1 : Int64) (hj0 : (-38146) ≤ (j0).toInt ∧ (j0).toInt ≤ 38146) (hj1 : (-38146) ≤ (j1).toInt ∧ (j1).toInt ≤ 38146) (hpre0 : CM 38146 38146 (j0 : Int64).toInt (j1 : Int64).toInt) (sz : Nat) : ML l yX12_common cX12_common 4 { frames := 31, cells := 0, slots := 0, locals := 713 } [.long j0, .long j1] D cy [] sz (fun r u => ((-38146) ≤ r.toInt ∧ r.toInt ≤ 38146) ∧ ((r : Int64).toInt ≠ 0 ∨ ((j0 : Int64).toInt = 0 ∧ (j1 : Int64).toInt = 0)) ∧ True) (fun u => []) 0 0 := by
  refine q_ent (own := RX12) (by decide) rfl (Nat.le_of_ble_eq_true rfl) (fun p e s m below meth c ls X hr hlk hnm hK hT h hA hl => ?_)
  obtain ⟨hx, hb, hml, hown, ht⟩ := id X
  replace hl : lv_has ls 4 [(0, .long j0), (2, .long j1)] := hl
  refine lv_lload_n hx hb dX12_common_0 rfl (lv_at hl 1 rfl) ?_
  refine lv_lconst (v := 0) hx hb dX12_common_1 (by decide) ?_
  refine W.lcmp hx hb dX12_common_2 ?_
  refine lv_if_ne (tgt := 10) hx hb dX12_common_3 (by decide) (fun c_1 => ?_) (fun c_1 => ?_)
  · replace c_1 := j_neq (x := j1) (y := 0) rfl (show (0 : Int64).toInt = 0 by decide) c_1
    refine lv_lload_n hx hb dX12_common_10 rfl (lv_at hl 1 rfl) ?_
    refine lv_lload_n hx hb dX12_common_11 rfl (lv_at hl 0 rfl) ?_
    refine lv_lload_n hx hb dX12_common_12 rfl (lv_at hl 1 rfl) ?_
    refine lv_lrem hx hb dX12_common_13 (j_nz (by omega)) ?_
    obtain ⟨z_2, ez_2, hz_2⟩ := e_anyJ (j0 - j0 / j1 * j1)
    refine q_cl z_2 ez_2 ?_
    have cm_3 : CM 19073 38146 _ _ := cm_s (by decide) hpre0 (by omega) ez_2
    have cr_3 := cm_r cm_3
    refine q_callSl (rest := []) (wr := []) X hK hT hA h (fun sz => gX12_common_c8e3fe0 l D cy j1 z_2 hj1 ⟨by omega, by omega⟩ (cm_3) sz) wm_8_20 wm_8_22 wm_1_12 hd_X12_common wm_8_21 ⟨Nat.le_of_ble_eq_true rfl, Nat.le_of_ble_eq_true rfl⟩ hl.1 rfl (Nat.le_of_ble_eq_true rfl) dX12_common_14 ⟨Nat.le_of_ble_eq_true rfl, Nat.le_of_ble_eq_true rfl⟩ [] [] rfl rfl (by decide) rfl rfl (fun r_4 u_4 H locs w_4 h_4 => ?_)
    clear h
    obtain ⟨wr_4, y4_0, _⟩ := w_4
    replace h_4 : qW D _ _ [] _ _ := h_4
    exact q_lret X hr hlk hK h_4 (fun _ => 0, fun _ _ => 0, fun _ _ => 0) ⟨wr_4, (show (r_4 : Int64).toInt ≠ 0 ∨ ((j0 : Int64).toInt = 0 ∧ (j1 : Int64).toInt = 0) from by (first | (clear y4_0; omega) | omega)), trivial⟩ [] rfl rfl dX12_common_17 (Nat.le_of_ble_eq_true rfl) (Nat.le_of_ble_eq_true rfl)
  · replace c_1 := j_eq (x := j1) (y := 0) rfl (show (0 : Int64).toInt = 0 by decide) c_1
    refine lv_lload_n hx hb dX12_common_6 rfl (lv_at hl 0 rfl) ?_
    refine lv_goto (tgt := 17) hx hb dX12_common_7 (by decide) ?_
    exact q_lret X hr hlk hK h (fun _ => 0, fun _ _ => 0, fun _ _ => 0) ⟨hj0, (show (j0 : Int64).toInt ≠ 0 ∨ ((j0 : Int64).toInt = 0 ∧ (j1 : Int64).toInt = 0) from by omega), trivial⟩ [] rfl rfl dX12_common_17 (Nat.le_of_ble_eq_true rfl) (Nat.le_of_ble_eq_true rfl)
set_option maxHeartbeats 4000000 in
set_option maxRecDepth 100000 in
theorem gX12_common_f013f2c (l : Launch) (D : va_G) (cy : Nat → ClassId) (j0 : Int64) (j1 : Int64) (hj0 : (-76293) ≤ (j0).toInt ∧ (j0).toInt ≤ 76293) (hj1 : (-38146) ≤ (j1).toInt ∧ (j1).toInt ≤ 38146) (hpre0 : CM 38146 76293 (j0 : Int64).toInt (j1 : Int64).toInt) (sz : Nat) : ML l yX12_common cX12_common 4 { frames := 32, cells := 0, slots := 0, locals := 736 } [.long j0, .long j1] D cy [] sz (fun r u => ((-76293) ≤ r.toInt ∧ r.toInt ≤ 76293) ∧ ((r : Int64).toInt ≠ 0 ∨ ((j0 : Int64).toInt = 0 ∧ (j1 : Int64).toInt = 0)) ∧ True) (fun u => []) 0 0 := by
  refine q_ent (own := RX12) (by decide) rfl (Nat.le_of_ble_eq_true rfl) (fun p e s m below meth c ls X hr hlk hnm hK hT h hA hl => ?_)
  obtain ⟨hx, hb, hml, hown, ht⟩ := id X
  replace hl : lv_has ls 4 [(0, .long j0), (2, .long j1)] := hl
  refine lv_lload_n hx hb dX12_common_0 rfl (lv_at hl 1 rfl) ?_
  refine lv_lconst (v := 0) hx hb dX12_common_1 (by decide) ?_
  refine W.lcmp hx hb dX12_common_2 ?_
  refine lv_if_ne (tgt := 10) hx hb dX12_common_3 (by decide) (fun c_1 => ?_) (fun c_1 => ?_)
  · replace c_1 := j_neq (x := j1) (y := 0) rfl (show (0 : Int64).toInt = 0 by decide) c_1
    refine lv_lload_n hx hb dX12_common_10 rfl (lv_at hl 1 rfl) ?_
    refine lv_lload_n hx hb dX12_common_11 rfl (lv_at hl 0 rfl) ?_
    refine lv_lload_n hx hb dX12_common_12 rfl (lv_at hl 1 rfl) ?_
    refine lv_lrem hx hb dX12_common_13 (j_nz (by omega)) ?_
    obtain ⟨z_2, ez_2, hz_2⟩ := e_anyJ (j0 - j0 / j1 * j1)
    refine q_cl z_2 ez_2 ?_
    have cm_3 : CM 38146 38146 _ _ := cm_s (by decide) hpre0 (by omega) ez_2
    have cr_3 := cm_r cm_3
    refine q_callSl (rest := []) (wr := []) X hK hT hA h (fun sz => gX12_common_c18a055 l D cy j1 z_2 hj1 ⟨by omega, by omega⟩ (cm_3) sz) wm_8_20 wm_8_22 wm_1_12 hd_X12_common wm_8_21 ⟨Nat.le_of_ble_eq_true rfl, Nat.le_of_ble_eq_true rfl⟩ hl.1 rfl (Nat.le_of_ble_eq_true rfl) dX12_common_14 ⟨Nat.le_of_ble_eq_true rfl, Nat.le_of_ble_eq_true rfl⟩ [] [] rfl rfl (by decide) rfl rfl (fun r_4 u_4 H locs w_4 h_4 => ?_)
    clear h
    obtain ⟨wr_4, y4_0, _⟩ := w_4
    replace h_4 : qW D _ _ [] _ _ := h_4
    exact q_lret X hr hlk hK h_4 (fun _ => 0, fun _ _ => 0, fun _ _ => 0) ⟨(bw wr_4 (by decide) (by decide)), (show (r_4 : Int64).toInt ≠ 0 ∨ ((j0 : Int64).toInt = 0 ∧ (j1 : Int64).toInt = 0) from by (first | (clear y4_0; omega) | omega)), trivial⟩ [] rfl rfl dX12_common_17 (Nat.le_of_ble_eq_true rfl) (Nat.le_of_ble_eq_true rfl)
  · replace c_1 := j_eq (x := j1) (y := 0) rfl (show (0 : Int64).toInt = 0 by decide) c_1
    refine lv_lload_n hx hb dX12_common_6 rfl (lv_at hl 0 rfl) ?_
    refine lv_goto (tgt := 17) hx hb dX12_common_7 (by decide) ?_
    exact q_lret X hr hlk hK h (fun _ => 0, fun _ _ => 0, fun _ _ => 0) ⟨hj0, (show (j0 : Int64).toInt ≠ 0 ∨ ((j0 : Int64).toInt = 0 ∧ (j1 : Int64).toInt = 0) from by omega), trivial⟩ [] rfl rfl dX12_common_17 (Nat.le_of_ble_eq_true rfl) (Nat.le_of_ble_eq_true rfl)
set_option maxHeartbeats 4000000 in
set_option maxRecDepth 100000 in
theorem gX12_common_818f498 (l : Launch) (D : va_G) (cy : Nat → ClassId) (j0 : Int64) (j1 : Int64) (hj0 : (-76293) ≤ (j0).toInt ∧ (j0).toInt ≤ 76293) (hj1 : (-76293) ≤ (j1).toInt ∧ (j1).toInt ≤ 76293) (hpre0 : CM 76293 76293 (j0 : Int64).toInt (j1 : Int64).toInt) (sz : Nat) : ML l yX12_common cX12_common 4 { frames := 33, cells := 0, slots := 0, locals := 759 } [.long j0, .long j1] D cy [] sz (fun r u => ((-76293) ≤ r.toInt ∧ r.toInt ≤ 76293) ∧ ((r : Int64).toInt ≠ 0 ∨ ((j0 : Int64).toInt = 0 ∧ (j1 : Int64).toInt = 0)) ∧ True) (fun u => []) 0 0 := by
  refine q_ent (own := RX12) (by decide) rfl (Nat.le_of_ble_eq_true rfl) (fun p e s m below meth c ls X hr hlk hnm hK hT h hA hl => ?_)
  obtain ⟨hx, hb, hml, hown, ht⟩ := id X
  replace hl : lv_has ls 4 [(0, .long j0), (2, .long j1)] := hl
  refine lv_lload_n hx hb dX12_common_0 rfl (lv_at hl 1 rfl) ?_
  refine lv_lconst (v := 0) hx hb dX12_common_1 (by decide) ?_
  refine W.lcmp hx hb dX12_common_2 ?_
  refine lv_if_ne (tgt := 10) hx hb dX12_common_3 (by decide) (fun c_1 => ?_) (fun c_1 => ?_)
  · replace c_1 := j_neq (x := j1) (y := 0) rfl (show (0 : Int64).toInt = 0 by decide) c_1
    refine lv_lload_n hx hb dX12_common_10 rfl (lv_at hl 1 rfl) ?_
    refine lv_lload_n hx hb dX12_common_11 rfl (lv_at hl 0 rfl) ?_
    refine lv_lload_n hx hb dX12_common_12 rfl (lv_at hl 1 rfl) ?_
    refine lv_lrem hx hb dX12_common_13 (j_nz (by omega)) ?_
    obtain ⟨z_2, ez_2, hz_2⟩ := e_anyJ (j0 - j0 / j1 * j1)
    refine q_cl z_2 ez_2 ?_
    have cm_3 : CM 38146 76293 _ _ := cm_s (by decide) hpre0 (by omega) ez_2
    have cr_3 := cm_r cm_3
    refine q_callSl (rest := []) (wr := []) X hK hT hA h (fun sz => gX12_common_f013f2c l D cy j1 z_2 hj1 ⟨by omega, by omega⟩ (cm_3) sz) wm_8_20 wm_8_22 wm_1_12 hd_X12_common wm_8_21 ⟨Nat.le_of_ble_eq_true rfl, Nat.le_of_ble_eq_true rfl⟩ hl.1 rfl (Nat.le_of_ble_eq_true rfl) dX12_common_14 ⟨Nat.le_of_ble_eq_true rfl, Nat.le_of_ble_eq_true rfl⟩ [] [] rfl rfl (by decide) rfl rfl (fun r_4 u_4 H locs w_4 h_4 => ?_)
    clear h
    obtain ⟨wr_4, y4_0, _⟩ := w_4
    replace h_4 : qW D _ _ [] _ _ := h_4
    exact q_lret X hr hlk hK h_4 (fun _ => 0, fun _ _ => 0, fun _ _ => 0) ⟨wr_4, (show (r_4 : Int64).toInt ≠ 0 ∨ ((j0 : Int64).toInt = 0 ∧ (j1 : Int64).toInt = 0) from by (first | (clear y4_0; omega) | omega)), trivial⟩ [] rfl rfl dX12_common_17 (Nat.le_of_ble_eq_true rfl) (Nat.le_of_ble_eq_true rfl)
  · replace c_1 := j_eq (x := j1) (y := 0) rfl (show (0 : Int64).toInt = 0 by decide) c_1
    refine lv_lload_n hx hb dX12_common_6 rfl (lv_at hl 0 rfl) ?_
    refine lv_goto (tgt := 17) hx hb dX12_common_7 (by decide) ?_
    exact q_lret X hr hlk hK h (fun _ => 0, fun _ _ => 0, fun _ _ => 0) ⟨hj0, (show (j0 : Int64).toInt ≠ 0 ∨ ((j0 : Int64).toInt = 0 ∧ (j1 : Int64).toInt = 0) from by omega), trivial⟩ [] rfl rfl dX12_common_17 (Nat.le_of_ble_eq_true rfl) (Nat.le_of_ble_eq_true rfl)
set_option maxHeartbeats 4000000 in
set_option maxRecDepth 100000 in
theorem gX12_common_d1962f3 (l : Launch) (D : va_G) (cy : Nat → ClassId) (j0 : Int64) (j1 : Int64) (hj0 : (-152587) ≤ (j0).toInt ∧ (j0).toInt ≤ 152587) (hj1 : (-76293) ≤ (j1).toInt ∧ (j1).toInt ≤ 76293) (hpre0 : CM 76293 152587 (j0 : Int64).toInt (j1 : Int64).toInt) (sz : Nat) : ML l yX12_common cX12_common 4 { frames := 34, cells := 0, slots := 0, locals := 782 } [.long j0, .long j1] D cy [] sz (fun r u => ((-152587) ≤ r.toInt ∧ r.toInt ≤ 152587) ∧ ((r : Int64).toInt ≠ 0 ∨ ((j0 : Int64).toInt = 0 ∧ (j1 : Int64).toInt = 0)) ∧ True) (fun u => []) 0 0 := by
  refine q_ent (own := RX12) (by decide) rfl (Nat.le_of_ble_eq_true rfl) (fun p e s m below meth c ls X hr hlk hnm hK hT h hA hl => ?_)
  obtain ⟨hx, hb, hml, hown, ht⟩ := id X
  replace hl : lv_has ls 4 [(0, .long j0), (2, .long j1)] := hl
  refine lv_lload_n hx hb dX12_common_0 rfl (lv_at hl 1 rfl) ?_
  refine lv_lconst (v := 0) hx hb dX12_common_1 (by decide) ?_
  refine W.lcmp hx hb dX12_common_2 ?_
  refine lv_if_ne (tgt := 10) hx hb dX12_common_3 (by decide) (fun c_1 => ?_) (fun c_1 => ?_)
  · replace c_1 := j_neq (x := j1) (y := 0) rfl (show (0 : Int64).toInt = 0 by decide) c_1
    refine lv_lload_n hx hb dX12_common_10 rfl (lv_at hl 1 rfl) ?_
    refine lv_lload_n hx hb dX12_common_11 rfl (lv_at hl 0 rfl) ?_
    refine lv_lload_n hx hb dX12_common_12 rfl (lv_at hl 1 rfl) ?_
    refine lv_lrem hx hb dX12_common_13 (j_nz (by omega)) ?_
    obtain ⟨z_2, ez_2, hz_2⟩ := e_anyJ (j0 - j0 / j1 * j1)
    refine q_cl z_2 ez_2 ?_
    have cm_3 : CM 76293 76293 _ _ := cm_s (by decide) hpre0 (by omega) ez_2
    have cr_3 := cm_r cm_3
    refine q_callSl (rest := []) (wr := []) X hK hT hA h (fun sz => gX12_common_818f498 l D cy j1 z_2 hj1 ⟨by omega, by omega⟩ (cm_3) sz) wm_8_20 wm_8_22 wm_1_12 hd_X12_common wm_8_21 ⟨Nat.le_of_ble_eq_true rfl, Nat.le_of_ble_eq_true rfl⟩ hl.1 rfl (Nat.le_of_ble_eq_true rfl) dX12_common_14 ⟨Nat.le_of_ble_eq_true rfl, Nat.le_of_ble_eq_true rfl⟩ [] [] rfl rfl (by decide) rfl rfl (fun r_4 u_4 H locs w_4 h_4 => ?_)
    clear h
    obtain ⟨wr_4, y4_0, _⟩ := w_4
    replace h_4 : qW D _ _ [] _ _ := h_4
    exact q_lret X hr hlk hK h_4 (fun _ => 0, fun _ _ => 0, fun _ _ => 0) ⟨(bw wr_4 (by decide) (by decide)), (show (r_4 : Int64).toInt ≠ 0 ∨ ((j0 : Int64).toInt = 0 ∧ (j1 : Int64).toInt = 0) from by (first | (clear y4_0; omega) | omega)), trivial⟩ [] rfl rfl dX12_common_17 (Nat.le_of_ble_eq_true rfl) (Nat.le_of_ble_eq_true rfl)
  · replace c_1 := j_eq (x := j1) (y := 0) rfl (show (0 : Int64).toInt = 0 by decide) c_1
    refine lv_lload_n hx hb dX12_common_6 rfl (lv_at hl 0 rfl) ?_
    refine lv_goto (tgt := 17) hx hb dX12_common_7 (by decide) ?_
    exact q_lret X hr hlk hK h (fun _ => 0, fun _ _ => 0, fun _ _ => 0) ⟨hj0, (show (j0 : Int64).toInt ≠ 0 ∨ ((j0 : Int64).toInt = 0 ∧ (j1 : Int64).toInt = 0) from by omega), trivial⟩ [] rfl rfl dX12_common_17 (Nat.le_of_ble_eq_true rfl) (Nat.le_of_ble_eq_true rfl)
set_option maxHeartbeats 4000000 in
set_option maxRecDepth 100000 in
theorem gX12_common_5c1daf1 (l : Launch) (D : va_G) (cy : Nat → ClassId) (j0 : Int64) (j1 : Int64) (hj0 : (-152587) ≤ (j0).toInt ∧ (j0).toInt ≤ 152587) (hj1 : (-152587) ≤ (j1).toInt ∧ (j1).toInt ≤ 152587) (hpre0 : CM 152587 152587 (j0 : Int64).toInt (j1 : Int64).toInt) (sz : Nat) : ML l yX12_common cX12_common 4 { frames := 35, cells := 0, slots := 0, locals := 805 } [.long j0, .long j1] D cy [] sz (fun r u => ((-152587) ≤ r.toInt ∧ r.toInt ≤ 152587) ∧ ((r : Int64).toInt ≠ 0 ∨ ((j0 : Int64).toInt = 0 ∧ (j1 : Int64).toInt = 0)) ∧ True) (fun u => []) 0 0 := by
  refine q_ent (own := RX12) (by decide) rfl (Nat.le_of_ble_eq_true rfl) (fun p e s m below meth c ls X hr hlk hnm hK hT h hA hl => ?_)
  obtain ⟨hx, hb, hml, hown, ht⟩ := id X
  replace hl : lv_has ls 4 [(0, .long j0), (2, .long j1)] := hl
  refine lv_lload_n hx hb dX12_common_0 rfl (lv_at hl 1 rfl) ?_
  refine lv_lconst (v := 0) hx hb dX12_common_1 (by decide) ?_
  refine W.lcmp hx hb dX12_common_2 ?_
  refine lv_if_ne (tgt := 10) hx hb dX12_common_3 (by decide) (fun c_1 => ?_) (fun c_1 => ?_)
  · replace c_1 := j_neq (x := j1) (y := 0) rfl (show (0 : Int64).toInt = 0 by decide) c_1
    refine lv_lload_n hx hb dX12_common_10 rfl (lv_at hl 1 rfl) ?_
    refine lv_lload_n hx hb dX12_common_11 rfl (lv_at hl 0 rfl) ?_
    refine lv_lload_n hx hb dX12_common_12 rfl (lv_at hl 1 rfl) ?_
    refine lv_lrem hx hb dX12_common_13 (j_nz (by omega)) ?_
    obtain ⟨z_2, ez_2, hz_2⟩ := e_anyJ (j0 - j0 / j1 * j1)
    refine q_cl z_2 ez_2 ?_
    have cm_3 : CM 76293 152587 _ _ := cm_s (by decide) hpre0 (by omega) ez_2
    have cr_3 := cm_r cm_3
    refine q_callSl (rest := []) (wr := []) X hK hT hA h (fun sz => gX12_common_d1962f3 l D cy j1 z_2 hj1 ⟨by omega, by omega⟩ (cm_3) sz) wm_8_20 wm_8_22 wm_1_12 hd_X12_common wm_8_21 ⟨Nat.le_of_ble_eq_true rfl, Nat.le_of_ble_eq_true rfl⟩ hl.1 rfl (Nat.le_of_ble_eq_true rfl) dX12_common_14 ⟨Nat.le_of_ble_eq_true rfl, Nat.le_of_ble_eq_true rfl⟩ [] [] rfl rfl (by decide) rfl rfl (fun r_4 u_4 H locs w_4 h_4 => ?_)
    clear h
    obtain ⟨wr_4, y4_0, _⟩ := w_4
    replace h_4 : qW D _ _ [] _ _ := h_4
    exact q_lret X hr hlk hK h_4 (fun _ => 0, fun _ _ => 0, fun _ _ => 0) ⟨wr_4, (show (r_4 : Int64).toInt ≠ 0 ∨ ((j0 : Int64).toInt = 0 ∧ (j1 : Int64).toInt = 0) from by (first | (clear y4_0; omega) | omega)), trivial⟩ [] rfl rfl dX12_common_17 (Nat.le_of_ble_eq_true rfl) (Nat.le_of_ble_eq_true rfl)
  · replace c_1 := j_eq (x := j1) (y := 0) rfl (show (0 : Int64).toInt = 0 by decide) c_1
    refine lv_lload_n hx hb dX12_common_6 rfl (lv_at hl 0 rfl) ?_
    refine lv_goto (tgt := 17) hx hb dX12_common_7 (by decide) ?_
    exact q_lret X hr hlk hK h (fun _ => 0, fun _ _ => 0, fun _ _ => 0) ⟨hj0, (show (j0 : Int64).toInt ≠ 0 ∨ ((j0 : Int64).toInt = 0 ∧ (j1 : Int64).toInt = 0) from by omega), trivial⟩ [] rfl rfl dX12_common_17 (Nat.le_of_ble_eq_true rfl) (Nat.le_of_ble_eq_true rfl)
