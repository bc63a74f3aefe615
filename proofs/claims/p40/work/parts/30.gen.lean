def wk_69ec1558b (cy : Nat → ClassId) (a0 : Nat) (a1 : Int32) (a2 : Nat) (a3 a4 a5 : Value) (a6 a7 a8 a9 a10 a11 a12 a13 a14 a15 a16 : Int32) (a17 a18 : Nat) (a19 : Value) (a20 : Nat) (a21 : Value) (a22 a23 : Int32) (a24 : Value) (a25 a26 : Nat) (a27 a28 : Int32) (a29 a30 a31 a32 a33 : Value) (a34 : Int32) (a35 a36 a37 : Value) (a38 : Nat) (a39 : Nat → Int32) (a40 : Nat) (a41 : Nat → Int32) (a42 : Nat) (a43 : Nat → Int32) (a44 : Nat) (a45 : Nat → Int32) (a46 : Nat) (a47 : Nat → Int32) (a48 : Nat) (a49 : Nat → Int32) : va_W := [(a0, .inr (12, [.int a1, .ref a2, a3, a4, a5, .int a6, .int a7, .int a8, .int a9, .int a10, .int a11, .int a12, .int a13, .int a14, .int a15, .int a16, .ref a17, .ref a18, a19, .ref a20, a21, .int a22, .int a23, a24, .ref a25, .ref a26, .int a27, .int a28, a29, a30, a31, a32, a33, .int a34, a35, a36, a37])), (a38, .inl (cy 1, 3918, .inl a39)), (a40, .inl (cy 1, 900, .inl a41)), (a42, .inl (cy 1, 11, .inl a43)), (a44, .inl (cy 1, 10, .inl a45)), (a46, .inl (cy 1, 10, .inl a47)), (a48, .inl (cy 1, 10, .inl a49))]
def wk_794ff6232 (cy : Nat → ClassId) (a0 : Nat) (a1 : Nat → Int32) (a2 : Nat) (a3 : Nat → Int32) (a4 : Nat) (a5 : Nat → Int32) (a6 : Nat) (a7 : Nat → Int32) (a8 : Nat) (a9 : Nat → Int32) : va_W := [(a0, .inl (cy 1, 900, .inl a1)), (a2, .inl (cy 1, 11, .inl a3)), (a4, .inl (cy 1, 10, .inl a5)), (a6, .inl (cy 1, 10, .inl a7)), (a8, .inl (cy 1, 10, .inl a9))]
def wk_8e370af72 (cy : Nat → ClassId) (a0 : Nat) (a1 : Nat → Int32) (a2 : Nat) (a3 : Nat → Int32) (a4 : Nat) (a5 : Nat → Int32) (a6 : Nat) (a7 : Nat → Int32) (a8 : Nat) (a9 : Nat → Int32) (a10 : Nat) (a11 : Int32) (a12 : Nat) (a13 a14 a15 : Value) (a16 a17 a18 a19 a20 a21 a22 a23 a24 a25 a26 : Int32) (a27 a28 : Nat) (a29 : Value) (a30 : Nat) (a31 : Value) (a32 a33 : Int32) (a34 : Value) (a35 a36 : Nat) (a37 a38 : Int32) (a39 a40 a41 a42 a43 : Value) (a44 : Int32) (a45 a46 a47 : Value) (a48 : Nat) (a49 : Nat → Int32) : va_W := [(a0, .inl (cy 1, 900, .inl a1)), (a2, .inl (cy 1, 11, .inl a3)), (a4, .inl (cy 1, 10, .inl a5)), (a6, .inl (cy 1, 10, .inl a7)), (a8, .inl (cy 1, 10, .inl a9)), (a10, .inr (12, [.int a11, .ref a12, a13, a14, a15, .int a16, .int a17, .int a18, .int a19, .int a20, .int a21, .int a22, .int a23, .int a24, .int a25, .int a26, .ref a27, .ref a28, a29, .ref a30, a31, .int a32, .int a33, a34, .ref a35, .ref a36, .int a37, .int a38, a39, a40, a41, a42, a43, .int a44, a45, a46, a47])), (a48, .inl (cy 1, 3918, .inl a49))]
def wk_acf3c80ad (cy : Nat → ClassId) (a0 : Nat) (a1 : Nat → Int32) (a2 : Nat) (a3 : Nat → Int32) : va_W := [(a0, .inl (cy 1, 10, .inl a1)), (a2, .inl (cy 1, 10, .inl a3))]
def wk_46efe495a (cy : Nat → ClassId) (a0 : Nat) (a1 : Nat → Int32) (a2 : Nat) (a3 : Nat → Int32) (a4 : Nat) (a5 : Int32) (a6 : Nat) (a7 a8 a9 : Value) (a10 a11 a12 a13 a14 a15 a16 a17 a18 a19 a20 : Int32) (a21 a22 : Nat) (a23 : Value) (a24 : Nat) (a25 : Value) (a26 a27 : Int32) (a28 : Value) (a29 a30 : Nat) (a31 a32 : Int32) (a33 a34 a35 a36 a37 : Value) (a38 : Int32) (a39 a40 a41 : Value) (a42 : Nat) (a43 : Nat → Int32) (a44 : Nat) (a45 : Nat → Int32) (a46 : Nat) (a47 : Nat → Int32) (a48 : Nat) (a49 : Nat → Int32) : va_W := [(a0, .inl (cy 1, 10, .inl a1)), (a2, .inl (cy 1, 10, .inl a3)), (a4, .inr (12, [.int a5, .ref a6, a7, a8, a9, .int a10, .int a11, .int a12, .int a13, .int a14, .int a15, .int a16, .int a17, .int a18, .int a19, .int a20, .ref a21, .ref a22, a23, .ref a24, a25, .int a26, .int a27, a28, .ref a29, .ref a30, .int a31, .int a32, a33, a34, a35, a36, a37, .int a38, a39, a40, a41])), (a42, .inl (cy 1, 3918, .inl a43)), (a44, .inl (cy 1, 900, .inl a45)), (a46, .inl (cy 1, 11, .inl a47)), (a48, .inl (cy 1, 10, .inl a49))]
def wk_d169974a4 (cy : Nat → ClassId) (a0 : Nat) (a1 : Nat → Int32) (a2 : Nat) (a3 : Nat → Int32) (a4 : Nat) (a5 : Int32) (a6 : Nat) (a7 a8 a9 : Value) (a10 a11 a12 a13 a14 a15 a16 a17 a18 a19 a20 : Int32) (a21 a22 : Nat) (a23 : Value) (a24 : Nat) (a25 : Value) (a26 a27 : Int32) (a28 : Value) (a29 a30 : Nat) (a31 a32 : Int32) (a33 a34 a35 a36 a37 : Value) (a38 : Int32) (a39 a40 a41 : Value) (a42 : Nat) (a43 : Nat → Int32) (a44 : Nat) (a45 : Nat → Int32) (a46 : Nat) (a47 : Nat → Int32) (a48 : Nat) (a49 : Nat → Int32) : va_W := [(a0, .inl (cy 1, 900, .inl a1)), (a2, .inl (cy 1, 11, .inl a3)), (a4, .inr (12, [.int a5, .ref a6, a7, a8, a9, .int a10, .int a11, .int a12, .int a13, .int a14, .int a15, .int a16, .int a17, .int a18, .int a19, .int a20, .ref a21, .ref a22, a23, .ref a24, a25, .int a26, .int a27, a28, .ref a29, .ref a30, .int a31, .int a32, a33, a34, a35, a36, a37, .int a38, a39, a40, a41])), (a42, .inl (cy 1, 3918, .inl a43)), (a44, .inl (cy 1, 10, .inl a45)), (a46, .inl (cy 1, 10, .inl a47)), (a48, .inl (cy 1, 10, .inl a49))]
def wk_e3ea295b8 (cy : Nat → ClassId) (a0 : Nat) (a1 : Int32) (a2 : Nat) (a3 a4 a5 : Value) (a6 a7 a8 a9 a10 a11 a12 a13 a14 a15 a16 : Int32) (a17 a18 a19 : Value) (a20 : Nat) (a21 : Value) (a22 a23 : Int32) (a24 a25 a26 : Value) (a27 a28 : Int32) (a29 a30 a31 a32 a33 : Value) (a34 : Int32) (a35 a36 a37 : Value) (a38 : Nat) (a39 : Nat → Int32) (a40 : Nat) (a41 : Nat → Int32) : va_W := [(a0, .inr (12, [.int a1, .ref a2, a3, a4, a5, .int a6, .int a7, .int a8, .int a9, .int a10, .int a11, .int a12, .int a13, .int a14, .int a15, .int a16, a17, a18, a19, .ref a20, a21, .int a22, .int a23, a24, a25, a26, .int a27, .int a28, a29, a30, a31, a32, a33, .int a34, a35, a36, a37])), (a38, .inl (cy 1, 3918, .inl a39)), (a40, .inl (cy 1, 10, .inl a41))]
def wk_6f53864da (cy : Nat → ClassId) (a0 : Nat) (a1 : Nat → Int32) (a2 : Nat) (a3 : Nat → Int32) (a4 : Nat) (a5 : Nat → Int32) (a6 : Nat) (a7 : Nat → Int32) (a8 : Nat) (a9 : Int32) (a10 : Nat) (a11 a12 a13 : Value) (a14 a15 a16 a17 a18 a19 a20 a21 a22 a23 a24 : Int32) (a25 a26 : Nat) (a27 : Value) (a28 : Nat) (a29 : Value) (a30 a31 : Int32) (a32 : Value) (a33 a34 : Nat) (a35 a36 : Int32) (a37 a38 a39 a40 a41 : Value) (a42 : Int32) (a43 a44 a45 : Value) (a46 : Nat) (a47 : Nat → Int32) (a48 : Nat) (a49 : Nat → Int32) : va_W := [(a0, .inl (cy 1, 900, .inl a1)), (a2, .inl (cy 1, 11, .inl a3)), (a4, .inl (cy 1, 10, .inl a5)), (a6, .inl (cy 1, 10, .inl a7)), (a8, .inr (12, [.int a9, .ref a10, a11, a12, a13, .int a14, .int a15, .int a16, .int a17, .int a18, .int a19, .int a20, .int a21, .int a22, .int a23, .int a24, .ref a25, .ref a26, a27, .ref a28, a29, .int a30, .int a31, a32, .ref a33, .ref a34, .int a35, .int a36, a37, a38, a39, a40, a41, .int a42, a43, a44, a45])), (a46, .inl (cy 1, 3918, .inl a47)), (a48, .inl (cy 1, 10, .inl a49))]
def wk_ce6a1f133 (cy : Nat → ClassId) (a0 : Nat) (a1 : Nat → Int32) (a2 : Nat) (a3 : Nat → Int32) (a4 : Nat) (a5 : Nat → Int32) : va_W := [(a0, .inl (cy 1, 900, .inl a1)), (a2, .inl (cy 1, 11, .inl a3)), (a4, .inl (cy 1, 10, .inl a5))]
def wk_6bef7693d (cy : Nat → ClassId) (a0 : Nat) (a1 : Nat → Int32) (a2 : Nat) (a3 : Nat → Int32) (a4 : Nat) (a5 : Nat → Int32) (a6 : Nat) (a7 : Int32) (a8 : Nat) (a9 a10 a11 : Value) (a12 a13 a14 a15 a16 a17 a18 a19 a20 a21 a22 : Int32) (a23 a24 : Nat) (a25 : Value) (a26 : Nat) (a27 : Value) (a28 a29 : Int32) (a30 a31 a32 : Value) (a33 a34 : Int32) (a35 a36 a37 a38 a39 : Value) (a40 : Int32) (a41 a42 a43 : Value) (a44 : Nat) (a45 : Nat → Int32) : va_W := [(a0, .inl (cy 1, 900, .inl a1)), (a2, .inl (cy 1, 11, .inl a3)), (a4, .inl (cy 1, 10, .inl a5)), (a6, .inr (12, [.int a7, .ref a8, a9, a10, a11, .int a12, .int a13, .int a14, .int a15, .int a16, .int a17, .int a18, .int a19, .int a20, .int a21, .int a22, .ref a23, .ref a24, a25, .ref a26, a27, .int a28, .int a29, a30, a31, a32, .int a33, .int a34, a35, a36, a37, a38, a39, .int a40, a41, a42, a43])), (a44, .inl (cy 1, 3918, .inl a45))]
def wk_a841d4271 (cy : Nat → ClassId) (a0 : Nat) (a1 : Nat → Int32) (a2 : Nat) (a3 : Nat → Int32) (a4 : Nat) (a5 : Int32) (a6 : Nat) (a7 a8 a9 : Value) (a10 a11 a12 a13 a14 a15 a16 a17 a18 a19 a20 : Int32) (a21 a22 : Nat) (a23 : Value) (a24 : Nat) (a25 : Value) (a26 a27 : Int32) (a28 a29 a30 : Value) (a31 a32 : Int32) (a33 a34 a35 a36 a37 : Value) (a38 : Int32) (a39 a40 a41 : Value) (a42 : Nat) (a43 : Nat → Int32) (a44 : Nat) (a45 : Nat → Int32) : va_W := [(a0, .inl (cy 1, 900, .inl a1)), (a2, .inl (cy 1, 11, .inl a3)), (a4, .inr (12, [.int a5, .ref a6, a7, a8, a9, .int a10, .int a11, .int a12, .int a13, .int a14, .int a15, .int a16, .int a17, .int a18, .int a19, .int a20, .ref a21, .ref a22, a23, .ref a24, a25, .int a26, .int a27, a28, a29, a30, .int a31, .int a32, a33, a34, a35, a36, a37, .int a38, a39, a40, a41])), (a42, .inl (cy 1, 3918, .inl a43)), (a44, .inl (cy 1, 10, .inl a45))]
theorem wm_7_112 : Cond.methodLink RX12 361 yX12_laysPairs ∈ WG := wg_t7 (List.mem_of_getElem? (i := 112) rfl) rfl
theorem wm_7_115 : Cond.code yX12_laysPairs cX12_laysPairs 3 none ∈ WG := wg_t7 (List.mem_of_getElem? (i := 115) rfl) rfl
theorem wm_7_114 : Cond.instanceMethod yX12_laysPairs ∈ WG := wg_t7 (List.mem_of_getElem? (i := 114) rfl) rfl
theorem wp_7_3 : Cond.selects RX12 yX12_laysPairs yX12_laysPairs ∈ WG := wg_p (q := (yX12_laysPairs, 37)) (wg_p7 (List.mem_of_getElem? (i := 3) rfl)) rfl
theorem wm_7_128 : Cond.methodLink RX12 364 yX12_pieceOf ∈ WG := wg_t7 (List.mem_of_getElem? (i := 128) rfl) rfl
theorem wm_7_131 : Cond.code yX12_pieceOf cX12_pieceOf 6 (some .int) ∈ WG := wg_t7 (List.mem_of_getElem? (i := 131) rfl) rfl
theorem wm_7_130 : Cond.instanceMethod yX12_pieceOf ∈ WG := wg_t7 (List.mem_of_getElem? (i := 130) rfl) rfl
theorem wp_7_6 : Cond.selects RX12 yX12_pieceOf yX12_pieceOf ∈ WG := wg_p (q := (yX12_pieceOf, 37)) (wg_p7 (List.mem_of_getElem? (i := 6) rfl)) rfl
theorem wm_7_124 : Cond.methodLink RX12 367 yX12_piecesOf ∈ WG := wg_t7 (List.mem_of_getElem? (i := 124) rfl) rfl
theorem wm_7_127 : Cond.code yX12_piecesOf cX12_piecesOf 6 (some .int) ∈ WG := wg_t7 (List.mem_of_getElem? (i := 127) rfl) rfl
theorem wm_7_126 : Cond.instanceMethod yX12_piecesOf ∈ WG := wg_t7 (List.mem_of_getElem? (i := 126) rfl) rfl
theorem wp_7_5 : Cond.selects RX12 yX12_piecesOf yX12_piecesOf ∈ WG := wg_p (q := (yX12_piecesOf, 37)) (wg_p7 (List.mem_of_getElem? (i := 5) rfl)) rfl
theorem wm_7_152 : Cond.methodLink RX12 371 yX12_isCovered ∈ WG := wg_t7 (List.mem_of_getElem? (i := 152) rfl) rfl
theorem wm_7_155 : Cond.code yX12_isCovered cX12_isCovered 4 (some .boolean) ∈ WG := wg_t7 (List.mem_of_getElem? (i := 155) rfl) rfl
theorem wm_7_154 : Cond.instanceMethod yX12_isCovered ∈ WG := wg_t7 (List.mem_of_getElem? (i := 154) rfl) rfl
theorem wp_7_7 : Cond.selects RX12 yX12_isCovered yX12_isCovered ∈ WG := wg_p (q := (yX12_isCovered, 37)) (wg_p7 (List.mem_of_getElem? (i := 7) rfl)) rfl
theorem hd_X12_laysPairs : yX12_laysPairs.cls ≠ "java/lang/invoke/MethodHandle" ∧ yX12_laysPairs.cls ≠ "java/lang/invoke/VarHandle" ∧ (parseMethodDescriptor yX12_laysPairs.desc).map (fun d => d.parameters.length) = some 1 := by decide +kernel
theorem hd_X12_pieceOf : yX12_pieceOf.cls ≠ "java/lang/invoke/MethodHandle" ∧ yX12_pieceOf.cls ≠ "java/lang/invoke/VarHandle" ∧ (parseMethodDescriptor yX12_pieceOf.desc).map (fun d => d.parameters.length) = some 2 := by decide +kernel
theorem hd_X12_piecesOf : yX12_piecesOf.cls ≠ "java/lang/invoke/MethodHandle" ∧ yX12_piecesOf.cls ≠ "java/lang/invoke/VarHandle" ∧ (parseMethodDescriptor yX12_piecesOf.desc).map (fun d => d.parameters.length) = some 2 := by decide +kernel
theorem hd_X12_isCovered : yX12_isCovered.cls ≠ "java/lang/invoke/MethodHandle" ∧ yX12_isCovered.cls ≠ "java/lang/invoke/VarHandle" ∧ (parseMethodDescriptor yX12_isCovered.desc).map (fun d => d.parameters.length) = some 2 := by decide +kernel
theorem dX12_areTwo_0 : decode cX12_areTwo 0 = .ok (.aload_n 0, 1) := by decide +kernel
theorem dX12_areTwo_1 : decode cX12_areTwo 1 = .ok (.iload_n 1, 1) := by decide +kernel
theorem dX12_areTwo_2 : decode cX12_areTwo 2 = .ok (.i2l, 1) := by decide +kernel
theorem dX12_areTwo_3 : decode cX12_areTwo 3 = .ok (.invokevirtual 245, 3) := by decide +kernel
theorem dX12_areTwo_6 : decode cX12_areTwo 6 = .ok (.ifCond .eq 21, 3) := by decide +kernel
theorem dX12_areTwo_9 : decode cX12_areTwo 9 = .ok (.aload_n 0, 1) := by decide +kernel
theorem dX12_areTwo_10 : decode cX12_areTwo 10 = .ok (.iload_n 2, 1) := by decide +kernel
theorem dX12_areTwo_11 : decode cX12_areTwo 11 = .ok (.i2l, 1) := by decide +kernel
theorem dX12_areTwo_12 : decode cX12_areTwo 12 = .ok (.invokevirtual 245, 3) := by decide +kernel
theorem dX12_areTwo_15 : decode cX12_areTwo 15 = .ok (.ifCond .eq 12, 3) := by decide +kernel
theorem dX12_areTwo_18 : decode cX12_areTwo 18 = .ok (.iload_n 1, 1) := by decide +kernel
theorem dX12_areTwo_19 : decode cX12_areTwo 19 = .ok (.iload_n 2, 1) := by decide +kernel
theorem dX12_areTwo_20 : decode cX12_areTwo 20 = .ok (.if_icmp .eq 7, 3) := by decide +kernel
theorem dX12_areTwo_23 : decode cX12_areTwo 23 = .ok (.iconst 1, 1) := by decide +kernel
theorem dX12_areTwo_24 : decode cX12_areTwo 24 = .ok (.goto 4, 3) := by decide +kernel
theorem dX12_areTwo_27 : decode cX12_areTwo 27 = .ok (.iconst 0, 1) := by decide +kernel
theorem dX12_areTwo_28 : decode cX12_areTwo 28 = .ok (.ireturn, 1) := by decide +kernel
theorem dX12_bar_0 : decode cX12_bar 0 = .ok (.aload_n 0, 1) := by decide +kernel
theorem dX12_bar_1 : decode cX12_bar 1 = .ok (.iconst 0, 1) := by decide +kernel
theorem dX12_bar_2 : decode cX12_bar 2 = .ok (.putfield 1, 3) := by decide +kernel
theorem dX12_bar_5 : decode cX12_bar 5 = .ok (.iload_n 2, 1) := by decide +kernel
theorem dX12_bar_6 : decode cX12_bar 6 = .ok (.i2l, 1) := by decide +kernel
theorem dX12_bar_7 : decode cX12_bar 7 = .ok (.lconst 0, 1) := by decide +kernel
theorem dX12_bar_8 : decode cX12_bar 8 = .ok (.lconst 1, 1) := by decide +kernel
theorem dX12_bar_9 : decode cX12_bar 9 = .ok (.invokestatic 145, 3) := by decide +kernel
theorem dX12_bar_12 : decode cX12_bar 12 = .ok (.ifCond .ne 6, 3) := by decide +kernel
theorem dX12_bar_15 : decode cX12_bar 15 = .ok (.bipush (-2), 2) := by decide +kernel
theorem dX12_bar_17 : decode cX12_bar 17 = .ok (.ireturn, 1) := by decide +kernel
theorem dX12_bar_18 : decode cX12_bar 18 = .ok (.aload_n 0, 1) := by decide +kernel
theorem dX12_bar_19 : decode cX12_bar 19 = .ok (.iload_n 1, 1) := by decide +kernel
theorem dX12_bar_20 : decode cX12_bar 20 = .ok (.invokevirtual 349, 3) := by decide +kernel
theorem dX12_bar_23 : decode cX12_bar 23 = .ok (.ifCond .ne 6, 3) := by decide +kernel
theorem dX12_bar_26 : decode cX12_bar 26 = .ok (.bipush (-3), 2) := by decide +kernel
theorem dX12_bar_28 : decode cX12_bar 28 = .ok (.ireturn, 1) := by decide +kernel
theorem dX12_bar_29 : decode cX12_bar 29 = .ok (.aload_n 0, 1) := by decide +kernel
theorem dX12_bar_30 : decode cX12_bar 30 = .ok (.aload_n 0, 1) := by decide +kernel
theorem dX12_bar_31 : decode cX12_bar 31 = .ok (.getfield 13, 3) := by decide +kernel
theorem dX12_bar_34 : decode cX12_bar 34 = .ok (.bipush 52, 2) := by decide +kernel
theorem dX12_bar_36 : decode cX12_bar 36 = .ok (.iaload, 1) := by decide +kernel
theorem dX12_bar_37 : decode cX12_bar 37 = .ok (.invokevirtual 340, 3) := by decide +kernel
theorem dX12_bar_40 : decode cX12_bar 40 = .ok (.aload_n 0, 1) := by decide +kernel
theorem dX12_bar_41 : decode cX12_bar 41 = .ok (.iload_n 1, 1) := by decide +kernel
theorem dX12_bar_42 : decode cX12_bar 42 = .ok (.invokevirtual 361, 3) := by decide +kernel
theorem dX12_bar_45 : decode cX12_bar 45 = .ok (.iload_n 1, 1) := by decide +kernel
theorem dX12_bar_46 : decode cX12_bar 46 = .ok (.invokestatic 281, 3) := by decide +kernel
theorem dX12_bar_49 : decode cX12_bar 49 = .ok (.iconst 2, 1) := by decide +kernel
theorem dX12_bar_50 : decode cX12_bar 50 = .ok (.aload_n 0, 1) := by decide +kernel
theorem dX12_bar_51 : decode cX12_bar 51 = .ok (.getfield 352, 3) := by decide +kernel
theorem dX12_bar_54 : decode cX12_bar 54 = .ok (.imul, 1) := by decide +kernel
theorem dX12_bar_55 : decode cX12_bar 55 = .ok (.isub, 1) := by decide +kernel
theorem dX12_bar_56 : decode cX12_bar 56 = .ok (.istore_n 3, 1) := by decide +kernel
theorem dX12_bar_57 : decode cX12_bar 57 = .ok (.iconst (-1), 1) := by decide +kernel
theorem dX12_bar_58 : decode cX12_bar 58 = .ok (.istore 4, 2) := by decide +kernel
theorem dX12_bar_60 : decode cX12_bar 60 = .ok (.iconst 0, 1) := by decide +kernel
theorem dX12_bar_61 : decode cX12_bar 61 = .ok (.istore 5, 2) := by decide +kernel
theorem dX12_bar_63 : decode cX12_bar 63 = .ok (.iload 5, 2) := by decide +kernel
theorem dX12_bar_65 : decode cX12_bar 65 = .ok (.iload_n 1, 1) := by decide +kernel
theorem dX12_bar_66 : decode cX12_bar 66 = .ok (.if_icmp .gt 65, 3) := by decide +kernel
theorem dX12_bar_69 : decode cX12_bar 69 = .ok (.iload 5, 2) := by decide +kernel
theorem dX12_bar_71 : decode cX12_bar 71 = .ok (.iload_n 1, 1) := by decide +kernel
theorem dX12_bar_72 : decode cX12_bar 72 = .ok (.iconst (-1), 1) := by decide +kernel
theorem dX12_bar_73 : decode cX12_bar 73 = .ok (.ixor, 1) := by decide +kernel
theorem dX12_bar_74 : decode cX12_bar 74 = .ok (.iand, 1) := by decide +kernel
theorem dX12_bar_75 : decode cX12_bar 75 = .ok (.ifCond .ne 50, 3) := by decide +kernel
theorem dX12_bar_78 : decode cX12_bar 78 = .ok (.iload 4, 2) := by decide +kernel
theorem dX12_bar_80 : decode cX12_bar 80 = .ok (.iconst (-1), 1) := by decide +kernel
theorem dX12_bar_81 : decode cX12_bar 81 = .ok (.if_icmp .eq 19, 3) := by decide +kernel
theorem dX12_bar_84 : decode cX12_bar 84 = .ok (.iload 5, 2) := by decide +kernel
theorem dX12_bar_86 : decode cX12_bar 86 = .ok (.invokestatic 281, 3) := by decide +kernel
theorem dX12_bar_89 : decode cX12_bar 89 = .ok (.iload 4, 2) := by decide +kernel
theorem dX12_bar_91 : decode cX12_bar 91 = .ok (.invokestatic 281, 3) := by decide +kernel
theorem dX12_bar_94 : decode cX12_bar 94 = .ok (.if_icmp .lt 6, 3) := by decide +kernel
theorem dX12_bar_97 : decode cX12_bar 97 = .ok (.goto 28, 3) := by decide +kernel
theorem dX12_bar_100 : decode cX12_bar 100 = .ok (.aload_n 0, 1) := by decide +kernel
theorem dX12_bar_101 : decode cX12_bar 101 = .ok (.iload_n 1, 1) := by decide +kernel
theorem dX12_bar_102 : decode cX12_bar 102 = .ok (.iload 5, 2) := by decide +kernel
theorem dX12_bar_104 : decode cX12_bar 104 = .ok (.iconst (-1), 1) := by decide +kernel
theorem dX12_bar_105 : decode cX12_bar 105 = .ok (.ixor, 1) := by decide +kernel
theorem dX12_bar_106 : decode cX12_bar 106 = .ok (.iand, 1) := by decide +kernel
theorem dX12_bar_107 : decode cX12_bar 107 = .ok (.iconst 1, 1) := by decide +kernel
theorem dX12_bar_108 : decode cX12_bar 108 = .ok (.invokevirtual 367, 3) := by decide +kernel
theorem dX12_bar_111 : decode cX12_bar 111 = .ok (.iload 5, 2) := by decide +kernel
theorem dX12_bar_113 : decode cX12_bar 113 = .ok (.invokestatic 281, 3) := by decide +kernel
theorem dX12_bar_116 : decode cX12_bar 116 = .ok (.isub, 1) := by decide +kernel
theorem dX12_bar_117 : decode cX12_bar 117 = .ok (.iload_n 3, 1) := by decide +kernel
theorem dX12_bar_118 : decode cX12_bar 118 = .ok (.if_icmp .ne 7, 3) := by decide +kernel
theorem dX12_bar_121 : decode cX12_bar 121 = .ok (.iload 5, 2) := by decide +kernel
theorem dX12_bar_123 : decode cX12_bar 123 = .ok (.istore 4, 2) := by decide +kernel
theorem dX12_bar_125 : decode cX12_bar 125 = .ok (.iinc 5 1, 3) := by decide +kernel
theorem dX12_bar_128 : decode cX12_bar 128 = .ok (.goto (-65), 3) := by decide +kernel
theorem dX12_bar_131 : decode cX12_bar 131 = .ok (.iload_n 2, 1) := by decide +kernel
theorem dX12_bar_132 : decode cX12_bar 132 = .ok (.ifCond .ne 11, 3) := by decide +kernel
theorem dX12_bar_135 : decode cX12_bar 135 = .ok (.iload 4, 2) := by decide +kernel
theorem dX12_bar_137 : decode cX12_bar 137 = .ok (.invokestatic 281, 3) := by decide +kernel
theorem dX12_bar_140 : decode cX12_bar 140 = .ok (.goto 5, 3) := by decide +kernel
theorem dX12_bar_143 : decode cX12_bar 143 = .ok (.iload 4, 2) := by decide +kernel
theorem dX12_bar_145 : decode cX12_bar 145 = .ok (.ireturn, 1) := by decide +kernel
theorem dX12_bestDay_0 : decode cX12_bestDay 0 = .ok (.aload_n 0, 1) := by decide +kernel
theorem dX12_bestDay_1 : decode cX12_bestDay 1 = .ok (.iconst 0, 1) := by decide +kernel
theorem dX12_bestDay_2 : decode cX12_bestDay 2 = .ok (.putfield 1, 3) := by decide +kernel
theorem dX12_bestDay_5 : decode cX12_bestDay 5 = .ok (.iconst 0, 1) := by decide +kernel
theorem dX12_bestDay_6 : decode cX12_bestDay 6 = .ok (.istore_n 1, 1) := by decide +kernel
theorem dX12_bestDay_7 : decode cX12_bestDay 7 = .ok (.iconst (-1), 1) := by decide +kernel
theorem dX12_bestDay_8 : decode cX12_bestDay 8 = .ok (.istore_n 2, 1) := by decide +kernel
theorem dX12_bestDay_9 : decode cX12_bestDay 9 = .ok (.iconst 0, 1) := by decide +kernel
theorem dX12_bestDay_10 : decode cX12_bestDay 10 = .ok (.istore_n 3, 1) := by decide +kernel
theorem dX12_bestDay_11 : decode cX12_bestDay 11 = .ok (.iload_n 3, 1) := by decide +kernel
theorem dX12_bestDay_12 : decode cX12_bestDay 12 = .ok (.bipush 99, 2) := by decide +kernel
theorem dX12_bestDay_14 : decode cX12_bestDay 14 = .ok (.if_icmp .gt 57, 3) := by decide +kernel
theorem dX12_bestDay_17 : decode cX12_bestDay 17 = .ok (.aload_n 0, 1) := by decide +kernel
theorem dX12_bestDay_18 : decode cX12_bestDay 18 = .ok (.aload_n 0, 1) := by decide +kernel
theorem dX12_bestDay_19 : decode cX12_bestDay 19 = .ok (.getfield 13, 3) := by decide +kernel
theorem dX12_bestDay_22 : decode cX12_bestDay 22 = .ok (.bipush 52, 2) := by decide +kernel
theorem dX12_bestDay_24 : decode cX12_bestDay 24 = .ok (.iaload, 1) := by decide +kernel
theorem dX12_bestDay_25 : decode cX12_bestDay 25 = .ok (.iload_n 3, 1) := by decide +kernel
theorem dX12_bestDay_26 : decode cX12_bestDay 26 = .ok (.iadd, 1) := by decide +kernel
theorem dX12_bestDay_27 : decode cX12_bestDay 27 = .ok (.invokevirtual 340, 3) := by decide +kernel
theorem dX12_bestDay_30 : decode cX12_bestDay 30 = .ok (.aload_n 0, 1) := by decide +kernel
theorem dX12_bestDay_31 : decode cX12_bestDay 31 = .ok (.aload_n 0, 1) := by decide +kernel
theorem dX12_bestDay_32 : decode cX12_bestDay 32 = .ok (.aload_n 0, 1) := by decide +kernel
theorem dX12_bestDay_33 : decode cX12_bestDay 33 = .ok (.getfield 13, 3) := by decide +kernel
theorem dX12_bestDay_36 : decode cX12_bestDay 36 = .ok (.bipush 52, 2) := by decide +kernel
theorem dX12_bestDay_38 : decode cX12_bestDay 38 = .ok (.iaload, 1) := by decide +kernel
theorem dX12_bestDay_39 : decode cX12_bestDay 39 = .ok (.iload_n 3, 1) := by decide +kernel
theorem dX12_bestDay_40 : decode cX12_bestDay 40 = .ok (.iadd, 1) := by decide +kernel
theorem dX12_bestDay_41 : decode cX12_bestDay 41 = .ok (.invokevirtual 220, 3) := by decide +kernel
theorem dX12_bestDay_44 : decode cX12_bestDay 44 = .ok (.invokevirtual 361, 3) := by decide +kernel
theorem dX12_bestDay_47 : decode cX12_bestDay 47 = .ok (.aload_n 0, 1) := by decide +kernel
theorem dX12_bestDay_48 : decode cX12_bestDay 48 = .ok (.getfield 352, 3) := by decide +kernel
theorem dX12_bestDay_51 : decode cX12_bestDay 51 = .ok (.iload_n 2, 1) := by decide +kernel
theorem dX12_bestDay_52 : decode cX12_bestDay 52 = .ok (.if_icmp .gt 6, 3) := by decide +kernel
theorem dX12_bestDay_55 : decode cX12_bestDay 55 = .ok (.goto 10, 3) := by decide +kernel
theorem dX12_bestDay_58 : decode cX12_bestDay 58 = .ok (.iload_n 3, 1) := by decide +kernel
theorem dX12_bestDay_59 : decode cX12_bestDay 59 = .ok (.istore_n 1, 1) := by decide +kernel
theorem dX12_bestDay_60 : decode cX12_bestDay 60 = .ok (.aload_n 0, 1) := by decide +kernel
theorem dX12_bestDay_61 : decode cX12_bestDay 61 = .ok (.getfield 352, 3) := by decide +kernel
theorem dX12_bestDay_64 : decode cX12_bestDay 64 = .ok (.istore_n 2, 1) := by decide +kernel
theorem dX12_bestDay_65 : decode cX12_bestDay 65 = .ok (.iinc 3 1, 3) := by decide +kernel
theorem dX12_bestDay_68 : decode cX12_bestDay 68 = .ok (.goto (-57), 3) := by decide +kernel
theorem dX12_bestDay_71 : decode cX12_bestDay 71 = .ok (.iload_n 1, 1) := by decide +kernel
theorem dX12_bestDay_72 : decode cX12_bestDay 72 = .ok (.ireturn, 1) := by decide +kernel
theorem dX12_cover_0 : decode cX12_cover 0 = .ok (.aload_n 0, 1) := by decide +kernel
theorem dX12_cover_1 : decode cX12_cover 1 = .ok (.iconst 0, 1) := by decide +kernel
theorem dX12_cover_2 : decode cX12_cover 2 = .ok (.putfield 1, 3) := by decide +kernel
theorem dX12_cover_5 : decode cX12_cover 5 = .ok (.iload_n 2, 1) := by decide +kernel
theorem dX12_cover_6 : decode cX12_cover 6 = .ok (.i2l, 1) := by decide +kernel
theorem dX12_cover_7 : decode cX12_cover 7 = .ok (.lconst 0, 1) := by decide +kernel
theorem dX12_cover_8 : decode cX12_cover 8 = .ok (.lconst 1, 1) := by decide +kernel
theorem dX12_cover_9 : decode cX12_cover 9 = .ok (.invokestatic 145, 3) := by decide +kernel
theorem dX12_cover_12 : decode cX12_cover 12 = .ok (.ifCond .ne 6, 3) := by decide +kernel
theorem dX12_cover_15 : decode cX12_cover 15 = .ok (.bipush (-2), 2) := by decide +kernel
theorem dX12_cover_17 : decode cX12_cover 17 = .ok (.ireturn, 1) := by decide +kernel
theorem dX12_cover_18 : decode cX12_cover 18 = .ok (.aload_n 0, 1) := by decide +kernel
theorem dX12_cover_19 : decode cX12_cover 19 = .ok (.iload_n 1, 1) := by decide +kernel
theorem dX12_cover_20 : decode cX12_cover 20 = .ok (.invokevirtual 349, 3) := by decide +kernel
theorem dX12_cover_23 : decode cX12_cover 23 = .ok (.ifCond .ne 6, 3) := by decide +kernel
theorem dX12_cover_26 : decode cX12_cover 26 = .ok (.bipush (-3), 2) := by decide +kernel
theorem dX12_cover_28 : decode cX12_cover 28 = .ok (.ireturn, 1) := by decide +kernel
theorem dX12_cover_29 : decode cX12_cover 29 = .ok (.aload_n 0, 1) := by decide +kernel
theorem dX12_cover_30 : decode cX12_cover 30 = .ok (.aload_n 0, 1) := by decide +kernel
theorem dX12_cover_31 : decode cX12_cover 31 = .ok (.getfield 13, 3) := by decide +kernel
theorem dX12_cover_34 : decode cX12_cover 34 = .ok (.bipush 52, 2) := by decide +kernel
theorem dX12_cover_36 : decode cX12_cover 36 = .ok (.iaload, 1) := by decide +kernel
theorem dX12_cover_37 : decode cX12_cover 37 = .ok (.invokevirtual 340, 3) := by decide +kernel
theorem dX12_cover_40 : decode cX12_cover 40 = .ok (.aload_n 0, 1) := by decide +kernel
theorem dX12_cover_41 : decode cX12_cover 41 = .ok (.invokevirtual 255, 3) := by decide +kernel
theorem dX12_cover_44 : decode cX12_cover 44 = .ok (.iload_n 1, 1) := by decide +kernel
theorem dX12_cover_45 : decode cX12_cover 45 = .ok (.iconst (-1), 1) := by decide +kernel
theorem dX12_cover_46 : decode cX12_cover 46 = .ok (.ixor, 1) := by decide +kernel
theorem dX12_cover_47 : decode cX12_cover 47 = .ok (.iand, 1) := by decide +kernel
theorem dX12_cover_48 : decode cX12_cover 48 = .ok (.istore_n 3, 1) := by decide +kernel
theorem dX12_cover_49 : decode cX12_cover 49 = .ok (.iconst (-1), 1) := by decide +kernel
theorem dX12_cover_50 : decode cX12_cover 50 = .ok (.istore 4, 2) := by decide +kernel
theorem dX12_cover_52 : decode cX12_cover 52 = .ok (.iconst 0, 1) := by decide +kernel
theorem dX12_cover_53 : decode cX12_cover 53 = .ok (.istore 5, 2) := by decide +kernel
theorem dX12_cover_55 : decode cX12_cover 55 = .ok (.iload 5, 2) := by decide +kernel
theorem dX12_cover_57 : decode cX12_cover 57 = .ok (.iload_n 3, 1) := by decide +kernel
theorem dX12_cover_58 : decode cX12_cover 58 = .ok (.if_icmp .gt 51, 3) := by decide +kernel
theorem dX12_cover_61 : decode cX12_cover 61 = .ok (.iload 5, 2) := by decide +kernel
theorem dX12_cover_63 : decode cX12_cover 63 = .ok (.iload_n 3, 1) := by decide +kernel
theorem dX12_cover_64 : decode cX12_cover 64 = .ok (.iconst (-1), 1) := by decide +kernel
theorem dX12_cover_65 : decode cX12_cover 65 = .ok (.ixor, 1) := by decide +kernel
theorem dX12_cover_66 : decode cX12_cover 66 = .ok (.iand, 1) := by decide +kernel
theorem dX12_cover_67 : decode cX12_cover 67 = .ok (.ifCond .ne 36, 3) := by decide +kernel
theorem dX12_cover_70 : decode cX12_cover 70 = .ok (.iload 4, 2) := by decide +kernel
theorem dX12_cover_72 : decode cX12_cover 72 = .ok (.iconst (-1), 1) := by decide +kernel
theorem dX12_cover_73 : decode cX12_cover 73 = .ok (.if_icmp .eq 16, 3) := by decide +kernel
theorem dX12_cover_76 : decode cX12_cover 76 = .ok (.iload 5, 2) := by decide +kernel
theorem dX12_cover_78 : decode cX12_cover 78 = .ok (.invokestatic 281, 3) := by decide +kernel
theorem dX12_cover_81 : decode cX12_cover 81 = .ok (.iload 4, 2) := by decide +kernel
theorem dX12_cover_83 : decode cX12_cover 83 = .ok (.invokestatic 281, 3) := by decide +kernel
theorem dX12_cover_86 : decode cX12_cover 86 = .ok (.if_icmp .ge 17, 3) := by decide +kernel
theorem dX12_cover_89 : decode cX12_cover 89 = .ok (.aload_n 0, 1) := by decide +kernel
theorem dX12_cover_90 : decode cX12_cover 90 = .ok (.iload_n 1, 1) := by decide +kernel
theorem dX12_cover_91 : decode cX12_cover 91 = .ok (.iload 5, 2) := by decide +kernel
theorem dX12_cover_93 : decode cX12_cover 93 = .ok (.invokevirtual 371, 3) := by decide +kernel
theorem dX12_cover_96 : decode cX12_cover 96 = .ok (.ifCond .eq 7, 3) := by decide +kernel
theorem dX12_cover_99 : decode cX12_cover 99 = .ok (.iload 5, 2) := by decide +kernel
theorem dX12_cover_101 : decode cX12_cover 101 = .ok (.istore 4, 2) := by decide +kernel
theorem dX12_cover_103 : decode cX12_cover 103 = .ok (.iinc 5 1, 3) := by decide +kernel
theorem dX12_cover_106 : decode cX12_cover 106 = .ok (.goto (-51), 3) := by decide +kernel
theorem dX12_cover_109 : decode cX12_cover 109 = .ok (.iload 4, 2) := by decide +kernel
theorem dX12_cover_111 : decode cX12_cover 111 = .ok (.iconst (-1), 1) := by decide +kernel
theorem dX12_cover_112 : decode cX12_cover 112 = .ok (.if_icmp .eq 8, 3) := by decide +kernel
theorem dX12_cover_115 : decode cX12_cover 115 = .ok (.iload_n 2, 1) := by decide +kernel
theorem dX12_cover_116 : decode cX12_cover 116 = .ok (.iconst 1, 1) := by decide +kernel
theorem dX12_cover_117 : decode cX12_cover 117 = .ok (.if_icmp .ne 8, 3) := by decide +kernel
theorem dX12_cover_120 : decode cX12_cover 120 = .ok (.iload 4, 2) := by decide +kernel
theorem dX12_cover_122 : decode cX12_cover 122 = .ok (.goto 8, 3) := by decide +kernel
theorem dX12_cover_125 : decode cX12_cover 125 = .ok (.iload 4, 2) := by decide +kernel
theorem dX12_cover_127 : decode cX12_cover 127 = .ok (.invokestatic 281, 3) := by decide +kernel
theorem dX12_cover_130 : decode cX12_cover 130 = .ok (.ireturn, 1) := by decide +kernel
theorem dX12_firstDay_0 : decode cX12_firstDay 0 = .ok (.aload_n 0, 1) := by decide +kernel
theorem dX12_firstDay_1 : decode cX12_firstDay 1 = .ok (.iconst 0, 1) := by decide +kernel
theorem dX12_firstDay_2 : decode cX12_firstDay 2 = .ok (.putfield 1, 3) := by decide +kernel
theorem dX12_firstDay_5 : decode cX12_firstDay 5 = .ok (.iconst 0, 1) := by decide +kernel
theorem dX12_firstDay_6 : decode cX12_firstDay 6 = .ok (.istore_n 1, 1) := by decide +kernel
theorem dX12_firstDay_7 : decode cX12_firstDay 7 = .ok (.iload_n 1, 1) := by decide +kernel
theorem dX12_firstDay_8 : decode cX12_firstDay 8 = .ok (.bipush 99, 2) := by decide +kernel
theorem dX12_firstDay_10 : decode cX12_firstDay 10 = .ok (.if_icmp .gt 62, 3) := by decide +kernel
theorem dX12_firstDay_13 : decode cX12_firstDay 13 = .ok (.aload_n 0, 1) := by decide +kernel
theorem dX12_firstDay_14 : decode cX12_firstDay 14 = .ok (.aload_n 0, 1) := by decide +kernel
theorem dX12_firstDay_15 : decode cX12_firstDay 15 = .ok (.getfield 13, 3) := by decide +kernel
theorem dX12_firstDay_18 : decode cX12_firstDay 18 = .ok (.bipush 52, 2) := by decide +kernel
theorem dX12_firstDay_20 : decode cX12_firstDay 20 = .ok (.iaload, 1) := by decide +kernel
theorem dX12_firstDay_21 : decode cX12_firstDay 21 = .ok (.iload_n 1, 1) := by decide +kernel
theorem dX12_firstDay_22 : decode cX12_firstDay 22 = .ok (.iadd, 1) := by decide +kernel
theorem dX12_firstDay_23 : decode cX12_firstDay 23 = .ok (.invokevirtual 220, 3) := by decide +kernel
theorem dX12_firstDay_26 : decode cX12_firstDay 26 = .ok (.istore_n 2, 1) := by decide +kernel
theorem dX12_firstDay_27 : decode cX12_firstDay 27 = .ok (.iload_n 2, 1) := by decide +kernel
theorem dX12_firstDay_28 : decode cX12_firstDay 28 = .ok (.invokestatic 281, 3) := by decide +kernel
theorem dX12_firstDay_31 : decode cX12_firstDay 31 = .ok (.iconst 2, 1) := by decide +kernel
theorem dX12_firstDay_32 : decode cX12_firstDay 32 = .ok (.if_icmp .ge 6, 3) := by decide +kernel
theorem dX12_firstDay_35 : decode cX12_firstDay 35 = .ok (.goto 31, 3) := by decide +kernel
theorem dX12_firstDay_38 : decode cX12_firstDay 38 = .ok (.aload_n 0, 1) := by decide +kernel
theorem dX12_firstDay_39 : decode cX12_firstDay 39 = .ok (.aload_n 0, 1) := by decide +kernel
theorem dX12_firstDay_40 : decode cX12_firstDay 40 = .ok (.getfield 13, 3) := by decide +kernel
theorem dX12_firstDay_43 : decode cX12_firstDay 43 = .ok (.bipush 52, 2) := by decide +kernel
theorem dX12_firstDay_45 : decode cX12_firstDay 45 = .ok (.iaload, 1) := by decide +kernel
theorem dX12_firstDay_46 : decode cX12_firstDay 46 = .ok (.iload_n 1, 1) := by decide +kernel
theorem dX12_firstDay_47 : decode cX12_firstDay 47 = .ok (.iadd, 1) := by decide +kernel
theorem dX12_firstDay_48 : decode cX12_firstDay 48 = .ok (.invokevirtual 340, 3) := by decide +kernel
theorem dX12_firstDay_51 : decode cX12_firstDay 51 = .ok (.aload_n 0, 1) := by decide +kernel
theorem dX12_firstDay_52 : decode cX12_firstDay 52 = .ok (.invokevirtual 343, 3) := by decide +kernel
theorem dX12_firstDay_55 : decode cX12_firstDay 55 = .ok (.aload_n 0, 1) := by decide +kernel
theorem dX12_firstDay_56 : decode cX12_firstDay 56 = .ok (.getfield 45, 3) := by decide +kernel
theorem dX12_firstDay_59 : decode cX12_firstDay 59 = .ok (.iload_n 2, 1) := by decide +kernel
theorem dX12_firstDay_60 : decode cX12_firstDay 60 = .ok (.iaload, 1) := by decide +kernel
theorem dX12_firstDay_61 : decode cX12_firstDay 61 = .ok (.ifCond .le 5, 3) := by decide +kernel
theorem dX12_firstDay_64 : decode cX12_firstDay 64 = .ok (.iload_n 1, 1) := by decide +kernel
theorem dX12_firstDay_65 : decode cX12_firstDay 65 = .ok (.ireturn, 1) := by decide +kernel
theorem dX12_firstDay_66 : decode cX12_firstDay 66 = .ok (.iinc 1 1, 3) := by decide +kernel
theorem dX12_firstDay_69 : decode cX12_firstDay 69 = .ok (.goto (-62), 3) := by decide +kernel
theorem dX12_firstDay_72 : decode cX12_firstDay 72 = .ok (.iconst (-1), 1) := by decide +kernel
theorem dX12_firstDay_73 : decode cX12_firstDay 73 = .ok (.ireturn, 1) := by decide +kernel
theorem dX12_isCovered_0 : decode cX12_isCovered 0 = .ok (.iconst 0, 1) := by decide +kernel
theorem dX12_isCovered_1 : decode cX12_isCovered 1 = .ok (.istore_n 3, 1) := by decide +kernel
theorem dX12_isCovered_2 : decode cX12_isCovered 2 = .ok (.iload_n 3, 1) := by decide +kernel
theorem dX12_isCovered_3 : decode cX12_isCovered 3 = .ok (.aload_n 0, 1) := by decide +kernel
theorem dX12_isCovered_4 : decode cX12_isCovered 4 = .ok (.getfield 13, 3) := by decide +kernel
theorem dX12_isCovered_7 : decode cX12_isCovered 7 = .ok (.iconst 2, 1) := by decide +kernel
theorem dX12_isCovered_8 : decode cX12_isCovered 8 = .ok (.iaload, 1) := by decide +kernel
theorem dX12_isCovered_9 : decode cX12_isCovered 9 = .ok (.if_icmp .ge 31, 3) := by decide +kernel
theorem dX12_isCovered_12 : decode cX12_isCovered 12 = .ok (.iload_n 1, 1) := by decide +kernel
theorem dX12_isCovered_13 : decode cX12_isCovered 13 = .ok (.i2l, 1) := by decide +kernel
theorem dX12_isCovered_14 : decode cX12_isCovered 14 = .ok (.iload_n 3, 1) := by decide +kernel
theorem dX12_isCovered_15 : decode cX12_isCovered 15 = .ok (.invokestatic 251, 3) := by decide +kernel
theorem dX12_isCovered_18 : decode cX12_isCovered 18 = .ok (.ifCond .eq 16, 3) := by decide +kernel
theorem dX12_isCovered_21 : decode cX12_isCovered 21 = .ok (.aload_n 0, 1) := by decide +kernel
theorem dX12_isCovered_22 : decode cX12_isCovered 22 = .ok (.getfield 39, 3) := by decide +kernel
theorem dX12_isCovered_25 : decode cX12_isCovered 25 = .ok (.iload_n 3, 1) := by decide +kernel
theorem dX12_isCovered_26 : decode cX12_isCovered 26 = .ok (.iaload, 1) := by decide +kernel
theorem dX12_isCovered_27 : decode cX12_isCovered 27 = .ok (.iload_n 2, 1) := by decide +kernel
theorem dX12_isCovered_28 : decode cX12_isCovered 28 = .ok (.iand, 1) := by decide +kernel
theorem dX12_isCovered_29 : decode cX12_isCovered 29 = .ok (.ifCond .ne 5, 3) := by decide +kernel
theorem dX12_isCovered_32 : decode cX12_isCovered 32 = .ok (.iconst 0, 1) := by decide +kernel
theorem dX12_isCovered_33 : decode cX12_isCovered 33 = .ok (.ireturn, 1) := by decide +kernel
theorem dX12_isCovered_34 : decode cX12_isCovered 34 = .ok (.iinc 3 1, 3) := by decide +kernel
theorem dX12_isCovered_37 : decode cX12_isCovered 37 = .ok (.goto (-35), 3) := by decide +kernel
theorem dX12_isCovered_40 : decode cX12_isCovered 40 = .ok (.iconst 1, 1) := by decide +kernel
theorem dX12_isCovered_41 : decode cX12_isCovered 41 = .ok (.ireturn, 1) := by decide +kernel
theorem dX12_laundress_0 : decode cX12_laundress 0 = .ok (.aload_n 0, 1) := by decide +kernel
theorem dX12_laundress_1 : decode cX12_laundress 1 = .ok (.iconst 0, 1) := by decide +kernel
theorem dX12_laundress_2 : decode cX12_laundress 2 = .ok (.putfield 1, 3) := by decide +kernel
theorem dX12_laundress_5 : decode cX12_laundress 5 = .ok (.aload_n 0, 1) := by decide +kernel
theorem dX12_laundress_6 : decode cX12_laundress 6 = .ok (.iload_n 1, 1) := by decide +kernel
theorem dX12_laundress_7 : decode cX12_laundress 7 = .ok (.invokevirtual 349, 3) := by decide +kernel
theorem dX12_laundress_10 : decode cX12_laundress 10 = .ok (.ifCond .ne 6, 3) := by decide +kernel
theorem dX12_laundress_13 : decode cX12_laundress 13 = .ok (.bipush (-3), 2) := by decide +kernel
theorem dX12_laundress_15 : decode cX12_laundress 15 = .ok (.ireturn, 1) := by decide +kernel
theorem dX12_laundress_16 : decode cX12_laundress 16 = .ok (.aload_n 0, 1) := by decide +kernel
theorem dX12_laundress_17 : decode cX12_laundress 17 = .ok (.aload_n 0, 1) := by decide +kernel
theorem dX12_laundress_18 : decode cX12_laundress 18 = .ok (.getfield 13, 3) := by decide +kernel
theorem dX12_laundress_21 : decode cX12_laundress 21 = .ok (.bipush 52, 2) := by decide +kernel
theorem dX12_laundress_23 : decode cX12_laundress 23 = .ok (.iaload, 1) := by decide +kernel
theorem dX12_laundress_24 : decode cX12_laundress 24 = .ok (.invokevirtual 340, 3) := by decide +kernel
theorem dX12_laundress_27 : decode cX12_laundress 27 = .ok (.aload_n 0, 1) := by decide +kernel
theorem dX12_laundress_28 : decode cX12_laundress 28 = .ok (.invokevirtual 255, 3) := by decide +kernel
theorem dX12_laundress_31 : decode cX12_laundress 31 = .ok (.iload_n 1, 1) := by decide +kernel
theorem dX12_laundress_32 : decode cX12_laundress 32 = .ok (.iconst (-1), 1) := by decide +kernel
theorem dX12_laundress_33 : decode cX12_laundress 33 = .ok (.ixor, 1) := by decide +kernel
theorem dX12_laundress_34 : decode cX12_laundress 34 = .ok (.iand, 1) := by decide +kernel
theorem dX12_laundress_35 : decode cX12_laundress 35 = .ok (.istore_n 2, 1) := by decide +kernel
theorem dX12_laundress_36 : decode cX12_laundress 36 = .ok (.iconst (-1), 1) := by decide +kernel
theorem dX12_laundress_37 : decode cX12_laundress 37 = .ok (.istore_n 3, 1) := by decide +kernel
theorem dX12_laundress_38 : decode cX12_laundress 38 = .ok (.iconst 0, 1) := by decide +kernel
theorem dX12_laundress_39 : decode cX12_laundress 39 = .ok (.istore 4, 2) := by decide +kernel
theorem dX12_laundress_41 : decode cX12_laundress 41 = .ok (.iload 4, 2) := by decide +kernel
theorem dX12_laundress_43 : decode cX12_laundress 43 = .ok (.aload_n 0, 1) := by decide +kernel
theorem dX12_laundress_44 : decode cX12_laundress 44 = .ok (.getfield 13, 3) := by decide +kernel
theorem dX12_laundress_47 : decode cX12_laundress 47 = .ok (.iconst 2, 1) := by decide +kernel
theorem dX12_laundress_48 : decode cX12_laundress 48 = .ok (.iaload, 1) := by decide +kernel
theorem dX12_laundress_49 : decode cX12_laundress 49 = .ok (.if_icmp .ge 53, 3) := by decide +kernel
theorem dX12_laundress_52 : decode cX12_laundress 52 = .ok (.iload_n 2, 1) := by decide +kernel
theorem dX12_laundress_53 : decode cX12_laundress 53 = .ok (.i2l, 1) := by decide +kernel
theorem dX12_laundress_54 : decode cX12_laundress 54 = .ok (.iload 4, 2) := by decide +kernel
theorem dX12_laundress_56 : decode cX12_laundress 56 = .ok (.invokestatic 251, 3) := by decide +kernel
theorem dX12_laundress_59 : decode cX12_laundress 59 = .ok (.ifCond .eq 37, 3) := by decide +kernel
theorem dX12_laundress_62 : decode cX12_laundress 62 = .ok (.iload_n 3, 1) := by decide +kernel
theorem dX12_laundress_63 : decode cX12_laundress 63 = .ok (.iconst (-1), 1) := by decide +kernel
theorem dX12_laundress_64 : decode cX12_laundress 64 = .ok (.if_icmp .eq 29, 3) := by decide +kernel
theorem dX12_laundress_67 : decode cX12_laundress 67 = .ok (.aload_n 0, 1) := by decide +kernel
theorem dX12_laundress_68 : decode cX12_laundress 68 = .ok (.getfield 39, 3) := by decide +kernel
theorem dX12_laundress_71 : decode cX12_laundress 71 = .ok (.iload 4, 2) := by decide +kernel
theorem dX12_laundress_73 : decode cX12_laundress 73 = .ok (.iaload, 1) := by decide +kernel
theorem dX12_laundress_74 : decode cX12_laundress 74 = .ok (.iload_n 1, 1) := by decide +kernel
theorem dX12_laundress_75 : decode cX12_laundress 75 = .ok (.iand, 1) := by decide +kernel
theorem dX12_laundress_76 : decode cX12_laundress 76 = .ok (.invokestatic 281, 3) := by decide +kernel
theorem dX12_laundress_79 : decode cX12_laundress 79 = .ok (.aload_n 0, 1) := by decide +kernel
theorem dX12_laundress_80 : decode cX12_laundress 80 = .ok (.getfield 39, 3) := by decide +kernel
theorem dX12_laundress_83 : decode cX12_laundress 83 = .ok (.iload_n 3, 1) := by decide +kernel
theorem dX12_laundress_84 : decode cX12_laundress 84 = .ok (.iaload, 1) := by decide +kernel
theorem dX12_laundress_85 : decode cX12_laundress 85 = .ok (.iload_n 1, 1) := by decide +kernel
theorem dX12_laundress_86 : decode cX12_laundress 86 = .ok (.iand, 1) := by decide +kernel
theorem dX12_laundress_87 : decode cX12_laundress 87 = .ok (.invokestatic 281, 3) := by decide +kernel
theorem dX12_laundress_90 : decode cX12_laundress 90 = .ok (.if_icmp .le 6, 3) := by decide +kernel
theorem dX12_laundress_93 : decode cX12_laundress 93 = .ok (.iload 4, 2) := by decide +kernel
theorem dX12_laundress_95 : decode cX12_laundress 95 = .ok (.istore_n 3, 1) := by decide +kernel
theorem dX12_laundress_96 : decode cX12_laundress 96 = .ok (.iinc 4 1, 3) := by decide +kernel
theorem dX12_laundress_99 : decode cX12_laundress 99 = .ok (.goto (-58), 3) := by decide +kernel
theorem dX12_laundress_102 : decode cX12_laundress 102 = .ok (.iload_n 3, 1) := by decide +kernel
theorem dX12_laundress_103 : decode cX12_laundress 103 = .ok (.ireturn, 1) := by decide +kernel
theorem dX12_laysPairs_0 : decode cX12_laysPairs 0 = .ok (.aload_n 0, 1) := by decide +kernel
theorem dX12_laysPairs_1 : decode cX12_laysPairs 1 = .ok (.iconst (-1), 1) := by decide +kernel
theorem dX12_laysPairs_2 : decode cX12_laysPairs 2 = .ok (.putfield 352, 3) := by decide +kernel
theorem dX12_laysPairs_5 : decode cX12_laysPairs 5 = .ok (.aload_n 0, 1) := by decide +kernel
theorem dX12_laysPairs_6 : decode cX12_laysPairs 6 = .ok (.iconst (-1), 1) := by decide +kernel
theorem dX12_laysPairs_7 : decode cX12_laysPairs 7 = .ok (.putfield 355, 3) := by decide +kernel
theorem dX12_laysPairs_10 : decode cX12_laysPairs 10 = .ok (.iconst 0, 1) := by decide +kernel
theorem dX12_laysPairs_11 : decode cX12_laysPairs 11 = .ok (.istore_n 2, 1) := by decide +kernel
theorem dX12_laysPairs_12 : decode cX12_laysPairs 12 = .ok (.iload_n 2, 1) := by decide +kernel
theorem dX12_laysPairs_13 : decode cX12_laysPairs 13 = .ok (.bipush 10, 2) := by decide +kernel
theorem dX12_laysPairs_15 : decode cX12_laysPairs 15 = .ok (.if_icmp .ge 16, 3) := by decide +kernel
theorem dX12_laysPairs_18 : decode cX12_laysPairs 18 = .ok (.aload_n 0, 1) := by decide +kernel
theorem dX12_laysPairs_19 : decode cX12_laysPairs 19 = .ok (.getfield 48, 3) := by decide +kernel
theorem dX12_laysPairs_22 : decode cX12_laysPairs 22 = .ok (.iload_n 2, 1) := by decide +kernel
theorem dX12_laysPairs_23 : decode cX12_laysPairs 23 = .ok (.iconst (-1), 1) := by decide +kernel
theorem dX12_laysPairs_24 : decode cX12_laysPairs 24 = .ok (.iastore, 1) := by decide +kernel
theorem dX12_laysPairs_25 : decode cX12_laysPairs 25 = .ok (.iinc 2 1, 3) := by decide +kernel
theorem dX12_laysPairs_28 : decode cX12_laysPairs 28 = .ok (.goto (-16), 3) := by decide +kernel
theorem dX12_laysPairs_31 : decode cX12_laysPairs 31 = .ok (.aload_n 0, 1) := by decide +kernel
theorem dX12_laysPairs_32 : decode cX12_laysPairs 32 = .ok (.iload_n 1, 1) := by decide +kernel
theorem dX12_laysPairs_33 : decode cX12_laysPairs 33 = .ok (.iconst 0, 1) := by decide +kernel
theorem dX12_laysPairs_34 : decode cX12_laysPairs 34 = .ok (.iconst 0, 1) := by decide +kernel
theorem dX12_laysPairs_35 : decode cX12_laysPairs 35 = .ok (.invokevirtual 358, 3) := by decide +kernel
theorem dX12_laysPairs_38 : decode cX12_laysPairs 38 = .ok (.return_, 1) := by decide +kernel
theorem dX12_pairs_0 : decode cX12_pairs 0 = .ok (.aload_n 0, 1) := by decide +kernel
theorem dX12_pairs_1 : decode cX12_pairs 1 = .ok (.iconst 0, 1) := by decide +kernel
theorem dX12_pairs_2 : decode cX12_pairs 2 = .ok (.putfield 1, 3) := by decide +kernel
theorem dX12_pairs_5 : decode cX12_pairs 5 = .ok (.iload_n 2, 1) := by decide +kernel
theorem dX12_pairs_6 : decode cX12_pairs 6 = .ok (.i2l, 1) := by decide +kernel
theorem dX12_pairs_7 : decode cX12_pairs 7 = .ok (.lconst 0, 1) := by decide +kernel
theorem dX12_pairs_8 : decode cX12_pairs 8 = .ok (.lconst 1, 1) := by decide +kernel
theorem dX12_pairs_9 : decode cX12_pairs 9 = .ok (.invokestatic 145, 3) := by decide +kernel
theorem dX12_pairs_12 : decode cX12_pairs 12 = .ok (.ifCond .ne 24, 3) := by decide +kernel
theorem dX12_pairs_15 : decode cX12_pairs 15 = .ok (.iload_n 2, 1) := by decide +kernel
theorem dX12_pairs_16 : decode cX12_pairs 16 = .ok (.bipush 10, 2) := by decide +kernel
theorem dX12_pairs_18 : decode cX12_pairs 18 = .ok (.if_icmp .lt 15, 3) := by decide +kernel
theorem dX12_pairs_21 : decode cX12_pairs 21 = .ok (.aload_n 0, 1) := by decide +kernel
theorem dX12_pairs_22 : decode cX12_pairs 22 = .ok (.iload_n 2, 1) := by decide +kernel
theorem dX12_pairs_23 : decode cX12_pairs 23 = .ok (.bipush 10, 2) := by decide +kernel
theorem dX12_pairs_25 : decode cX12_pairs 25 = .ok (.isub, 1) := by decide +kernel
theorem dX12_pairs_26 : decode cX12_pairs 26 = .ok (.i2l, 1) := by decide +kernel
theorem dX12_pairs_27 : decode cX12_pairs 27 = .ok (.invokevirtual 245, 3) := by decide +kernel
theorem dX12_pairs_30 : decode cX12_pairs 30 = .ok (.ifCond .ne 6, 3) := by decide +kernel
theorem dX12_pairs_33 : decode cX12_pairs 33 = .ok (.bipush (-2), 2) := by decide +kernel
theorem dX12_pairs_35 : decode cX12_pairs 35 = .ok (.ireturn, 1) := by decide +kernel
theorem dX12_pairs_36 : decode cX12_pairs 36 = .ok (.aload_n 0, 1) := by decide +kernel
theorem dX12_pairs_37 : decode cX12_pairs 37 = .ok (.iload_n 1, 1) := by decide +kernel
theorem dX12_pairs_38 : decode cX12_pairs 38 = .ok (.invokevirtual 349, 3) := by decide +kernel
theorem dX12_pairs_41 : decode cX12_pairs 41 = .ok (.ifCond .ne 6, 3) := by decide +kernel
theorem dX12_pairs_44 : decode cX12_pairs 44 = .ok (.bipush (-3), 2) := by decide +kernel
theorem dX12_pairs_46 : decode cX12_pairs 46 = .ok (.ireturn, 1) := by decide +kernel
theorem dX12_pairs_47 : decode cX12_pairs 47 = .ok (.aload_n 0, 1) := by decide +kernel
theorem dX12_pairs_48 : decode cX12_pairs 48 = .ok (.aload_n 0, 1) := by decide +kernel
theorem dX12_pairs_49 : decode cX12_pairs 49 = .ok (.getfield 13, 3) := by decide +kernel
theorem dX12_pairs_52 : decode cX12_pairs 52 = .ok (.bipush 52, 2) := by decide +kernel
theorem dX12_pairs_54 : decode cX12_pairs 54 = .ok (.iaload, 1) := by decide +kernel
theorem dX12_pairs_55 : decode cX12_pairs 55 = .ok (.invokevirtual 340, 3) := by decide +kernel
theorem dX12_pairs_58 : decode cX12_pairs 58 = .ok (.aload_n 0, 1) := by decide +kernel
theorem dX12_pairs_59 : decode cX12_pairs 59 = .ok (.iload_n 1, 1) := by decide +kernel
theorem dX12_pairs_60 : decode cX12_pairs 60 = .ok (.invokevirtual 361, 3) := by decide +kernel
theorem dX12_pairs_63 : decode cX12_pairs 63 = .ok (.iload_n 2, 1) := by decide +kernel
theorem dX12_pairs_64 : decode cX12_pairs 64 = .ok (.ifCond .ne 10, 3) := by decide +kernel
theorem dX12_pairs_67 : decode cX12_pairs 67 = .ok (.aload_n 0, 1) := by decide +kernel
theorem dX12_pairs_68 : decode cX12_pairs 68 = .ok (.getfield 352, 3) := by decide +kernel
theorem dX12_pairs_71 : decode cX12_pairs 71 = .ok (.goto 24, 3) := by decide +kernel
theorem dX12_pairs_74 : decode cX12_pairs 74 = .ok (.iload_n 2, 1) := by decide +kernel
theorem dX12_pairs_75 : decode cX12_pairs 75 = .ok (.iconst 1, 1) := by decide +kernel
theorem dX12_pairs_76 : decode cX12_pairs 76 = .ok (.if_icmp .ne 10, 3) := by decide +kernel
theorem dX12_pairs_79 : decode cX12_pairs 79 = .ok (.aload_n 0, 1) := by decide +kernel
theorem dX12_pairs_80 : decode cX12_pairs 80 = .ok (.getfield 355, 3) := by decide +kernel
theorem dX12_pairs_83 : decode cX12_pairs 83 = .ok (.goto 12, 3) := by decide +kernel
theorem dX12_pairs_86 : decode cX12_pairs 86 = .ok (.aload_n 0, 1) := by decide +kernel
theorem dX12_pairs_87 : decode cX12_pairs 87 = .ok (.getfield 51, 3) := by decide +kernel
theorem dX12_pairs_90 : decode cX12_pairs 90 = .ok (.iload_n 2, 1) := by decide +kernel
theorem dX12_pairs_91 : decode cX12_pairs 91 = .ok (.bipush 10, 2) := by decide +kernel
theorem dX12_pairs_93 : decode cX12_pairs 93 = .ok (.isub, 1) := by decide +kernel
theorem dX12_pairs_94 : decode cX12_pairs 94 = .ok (.iaload, 1) := by decide +kernel
theorem dX12_pairs_95 : decode cX12_pairs 95 = .ok (.ireturn, 1) := by decide +kernel
theorem dX12_pieceOf_0 : decode cX12_pieceOf 0 = .ok (.iconst 0, 1) := by decide +kernel
theorem dX12_pieceOf_1 : decode cX12_pieceOf 1 = .ok (.istore_n 3, 1) := by decide +kernel
theorem dX12_pieceOf_2 : decode cX12_pieceOf 2 = .ok (.iconst 1, 1) := by decide +kernel
theorem dX12_pieceOf_3 : decode cX12_pieceOf 3 = .ok (.iload_n 1, 1) := by decide +kernel
theorem dX12_pieceOf_4 : decode cX12_pieceOf 4 = .ok (.ishl, 1) := by decide +kernel
theorem dX12_pieceOf_5 : decode cX12_pieceOf 5 = .ok (.istore 4, 2) := by decide +kernel
theorem dX12_pieceOf_7 : decode cX12_pieceOf 7 = .ok (.iload 4, 2) := by decide +kernel
theorem dX12_pieceOf_9 : decode cX12_pieceOf 9 = .ok (.iload_n 3, 1) := by decide +kernel
theorem dX12_pieceOf_10 : decode cX12_pieceOf 10 = .ok (.if_icmp .eq 53, 3) := by decide +kernel
theorem dX12_pieceOf_13 : decode cX12_pieceOf 13 = .ok (.iload 4, 2) := by decide +kernel
theorem dX12_pieceOf_15 : decode cX12_pieceOf 15 = .ok (.istore_n 3, 1) := by decide +kernel
theorem dX12_pieceOf_16 : decode cX12_pieceOf 16 = .ok (.iconst 0, 1) := by decide +kernel
theorem dX12_pieceOf_17 : decode cX12_pieceOf 17 = .ok (.istore 5, 2) := by decide +kernel
theorem dX12_pieceOf_19 : decode cX12_pieceOf 19 = .ok (.iload 5, 2) := by decide +kernel
theorem dX12_pieceOf_21 : decode cX12_pieceOf 21 = .ok (.aload_n 0, 1) := by decide +kernel
theorem dX12_pieceOf_22 : decode cX12_pieceOf 22 = .ok (.getfield 13, 3) := by decide +kernel
theorem dX12_pieceOf_25 : decode cX12_pieceOf 25 = .ok (.iconst 2, 1) := by decide +kernel
theorem dX12_pieceOf_26 : decode cX12_pieceOf 26 = .ok (.iaload, 1) := by decide +kernel
theorem dX12_pieceOf_27 : decode cX12_pieceOf 27 = .ok (.if_icmp .ge 33, 3) := by decide +kernel
theorem dX12_pieceOf_30 : decode cX12_pieceOf 30 = .ok (.iload_n 3, 1) := by decide +kernel
theorem dX12_pieceOf_31 : decode cX12_pieceOf 31 = .ok (.i2l, 1) := by decide +kernel
theorem dX12_pieceOf_32 : decode cX12_pieceOf 32 = .ok (.iload 5, 2) := by decide +kernel
theorem dX12_pieceOf_34 : decode cX12_pieceOf 34 = .ok (.invokestatic 251, 3) := by decide +kernel
theorem dX12_pieceOf_37 : decode cX12_pieceOf 37 = .ok (.ifCond .eq 17, 3) := by decide +kernel
theorem dX12_pieceOf_40 : decode cX12_pieceOf 40 = .ok (.iload 4, 2) := by decide +kernel
theorem dX12_pieceOf_42 : decode cX12_pieceOf 42 = .ok (.aload_n 0, 1) := by decide +kernel
theorem dX12_pieceOf_43 : decode cX12_pieceOf 43 = .ok (.getfield 39, 3) := by decide +kernel
theorem dX12_pieceOf_46 : decode cX12_pieceOf 46 = .ok (.iload 5, 2) := by decide +kernel
theorem dX12_pieceOf_48 : decode cX12_pieceOf 48 = .ok (.iaload, 1) := by decide +kernel
theorem dX12_pieceOf_49 : decode cX12_pieceOf 49 = .ok (.iload_n 2, 1) := by decide +kernel
theorem dX12_pieceOf_50 : decode cX12_pieceOf 50 = .ok (.iand, 1) := by decide +kernel
theorem dX12_pieceOf_51 : decode cX12_pieceOf 51 = .ok (.ior, 1) := by decide +kernel
theorem dX12_pieceOf_52 : decode cX12_pieceOf 52 = .ok (.istore 4, 2) := by decide +kernel
theorem dX12_pieceOf_54 : decode cX12_pieceOf 54 = .ok (.iinc 5 1, 3) := by decide +kernel
theorem dX12_pieceOf_57 : decode cX12_pieceOf 57 = .ok (.goto (-38), 3) := by decide +kernel
theorem dX12_pieceOf_60 : decode cX12_pieceOf 60 = .ok (.goto (-53), 3) := by decide +kernel
theorem dX12_pieceOf_63 : decode cX12_pieceOf 63 = .ok (.iload_n 3, 1) := by decide +kernel
theorem dX12_pieceOf_64 : decode cX12_pieceOf 64 = .ok (.ireturn, 1) := by decide +kernel
theorem dX12_pieces_0 : decode cX12_pieces 0 = .ok (.aload_n 0, 1) := by decide +kernel
theorem dX12_pieces_1 : decode cX12_pieces 1 = .ok (.iconst 0, 1) := by decide +kernel
theorem dX12_pieces_2 : decode cX12_pieces 2 = .ok (.putfield 1, 3) := by decide +kernel
theorem dX12_pieces_5 : decode cX12_pieces 5 = .ok (.aload_n 0, 1) := by decide +kernel
theorem dX12_pieces_6 : decode cX12_pieces 6 = .ok (.iload_n 1, 1) := by decide +kernel
theorem dX12_pieces_7 : decode cX12_pieces 7 = .ok (.invokevirtual 349, 3) := by decide +kernel
theorem dX12_pieces_10 : decode cX12_pieces 10 = .ok (.ifCond .ne 6, 3) := by decide +kernel
theorem dX12_pieces_13 : decode cX12_pieces 13 = .ok (.bipush (-3), 2) := by decide +kernel
theorem dX12_pieces_15 : decode cX12_pieces 15 = .ok (.ireturn, 1) := by decide +kernel
theorem dX12_pieces_16 : decode cX12_pieces 16 = .ok (.aload_n 0, 1) := by decide +kernel
theorem dX12_pieces_17 : decode cX12_pieces 17 = .ok (.aload_n 0, 1) := by decide +kernel
theorem dX12_pieces_18 : decode cX12_pieces 18 = .ok (.getfield 13, 3) := by decide +kernel
theorem dX12_pieces_21 : decode cX12_pieces 21 = .ok (.bipush 52, 2) := by decide +kernel
theorem dX12_pieces_23 : decode cX12_pieces 23 = .ok (.iaload, 1) := by decide +kernel
theorem dX12_pieces_24 : decode cX12_pieces 24 = .ok (.invokevirtual 340, 3) := by decide +kernel
theorem dX12_pieces_27 : decode cX12_pieces 27 = .ok (.aload_n 0, 1) := by decide +kernel
theorem dX12_pieces_28 : decode cX12_pieces 28 = .ok (.iload_n 1, 1) := by decide +kernel
theorem dX12_pieces_29 : decode cX12_pieces 29 = .ok (.iconst 0, 1) := by decide +kernel
theorem dX12_pieces_30 : decode cX12_pieces 30 = .ok (.invokevirtual 367, 3) := by decide +kernel
theorem dX12_pieces_33 : decode cX12_pieces 33 = .ok (.ireturn, 1) := by decide +kernel
theorem dX12_piecesOf_0 : decode cX12_piecesOf 0 = .ok (.iconst 0, 1) := by decide +kernel
theorem dX12_piecesOf_1 : decode cX12_piecesOf 1 = .ok (.istore_n 3, 1) := by decide +kernel
theorem dX12_piecesOf_2 : decode cX12_piecesOf 2 = .ok (.iload_n 1, 1) := by decide +kernel
theorem dX12_piecesOf_3 : decode cX12_piecesOf 3 = .ok (.istore 4, 2) := by decide +kernel
theorem dX12_piecesOf_5 : decode cX12_piecesOf 5 = .ok (.iload 4, 2) := by decide +kernel
theorem dX12_piecesOf_7 : decode cX12_piecesOf 7 = .ok (.ifCond .eq 45, 3) := by decide +kernel
theorem dX12_piecesOf_10 : decode cX12_piecesOf 10 = .ok (.aload_n 0, 1) := by decide +kernel
theorem dX12_piecesOf_11 : decode cX12_piecesOf 11 = .ok (.iload 4, 2) := by decide +kernel
theorem dX12_piecesOf_13 : decode cX12_piecesOf 13 = .ok (.invokestatic 337, 3) := by decide +kernel
theorem dX12_piecesOf_16 : decode cX12_piecesOf 16 = .ok (.iload_n 1, 1) := by decide +kernel
theorem dX12_piecesOf_17 : decode cX12_piecesOf 17 = .ok (.invokevirtual 364, 3) := by decide +kernel
theorem dX12_piecesOf_20 : decode cX12_piecesOf 20 = .ok (.istore 5, 2) := by decide +kernel
theorem dX12_piecesOf_22 : decode cX12_piecesOf 22 = .ok (.iload_n 3, 1) := by decide +kernel
theorem dX12_piecesOf_23 : decode cX12_piecesOf 23 = .ok (.iload_n 2, 1) := by decide +kernel
theorem dX12_piecesOf_24 : decode cX12_piecesOf 24 = .ok (.ifCond .eq 13, 3) := by decide +kernel
theorem dX12_piecesOf_27 : decode cX12_piecesOf 27 = .ok (.iload 5, 2) := by decide +kernel
theorem dX12_piecesOf_29 : decode cX12_piecesOf 29 = .ok (.invokestatic 281, 3) := by decide +kernel
theorem dX12_piecesOf_32 : decode cX12_piecesOf 32 = .ok (.iconst 2, 1) := by decide +kernel
theorem dX12_piecesOf_33 : decode cX12_piecesOf 33 = .ok (.irem, 1) := by decide +kernel
theorem dX12_piecesOf_34 : decode cX12_piecesOf 34 = .ok (.goto 4, 3) := by decide +kernel
theorem dX12_piecesOf_37 : decode cX12_piecesOf 37 = .ok (.iconst 1, 1) := by decide +kernel
theorem dX12_piecesOf_38 : decode cX12_piecesOf 38 = .ok (.iadd, 1) := by decide +kernel
theorem dX12_piecesOf_39 : decode cX12_piecesOf 39 = .ok (.istore_n 3, 1) := by decide +kernel
theorem dX12_piecesOf_40 : decode cX12_piecesOf 40 = .ok (.iload 4, 2) := by decide +kernel
theorem dX12_piecesOf_42 : decode cX12_piecesOf 42 = .ok (.iload 5, 2) := by decide +kernel
theorem dX12_piecesOf_44 : decode cX12_piecesOf 44 = .ok (.iconst (-1), 1) := by decide +kernel
theorem dX12_piecesOf_45 : decode cX12_piecesOf 45 = .ok (.ixor, 1) := by decide +kernel
theorem dX12_piecesOf_46 : decode cX12_piecesOf 46 = .ok (.iand, 1) := by decide +kernel
theorem dX12_piecesOf_47 : decode cX12_piecesOf 47 = .ok (.istore 4, 2) := by decide +kernel
theorem dX12_piecesOf_49 : decode cX12_piecesOf 49 = .ok (.goto (-44), 3) := by decide +kernel
theorem dX12_piecesOf_52 : decode cX12_piecesOf 52 = .ok (.iload_n 3, 1) := by decide +kernel
theorem dX12_piecesOf_53 : decode cX12_piecesOf 53 = .ok (.ireturn, 1) := by decide +kernel
theorem dX12_puts_0 : decode cX12_puts 0 = .ok (.aload_n 0, 1) := by decide +kernel
theorem dX12_puts_1 : decode cX12_puts 1 = .ok (.getfield 13, 3) := by decide +kernel
theorem dX12_puts_4 : decode cX12_puts 4 = .ok (.bipush 54, 2) := by decide +kernel
theorem dX12_puts_6 : decode cX12_puts 6 = .ok (.iconst 3, 1) := by decide +kernel
theorem dX12_puts_7 : decode cX12_puts 7 = .ok (.iload_n 1, 1) := by decide +kernel
theorem dX12_puts_8 : decode cX12_puts 8 = .ok (.imul, 1) := by decide +kernel
theorem dX12_puts_9 : decode cX12_puts 9 = .ok (.iadd, 1) := by decide +kernel
theorem dX12_puts_10 : decode cX12_puts 10 = .ok (.iload_n 2, 1) := by decide +kernel
theorem dX12_puts_11 : decode cX12_puts 11 = .ok (.bipush 100, 2) := by decide +kernel
theorem dX12_puts_13 : decode cX12_puts 13 = .ok (.idiv, 1) := by decide +kernel
theorem dX12_puts_14 : decode cX12_puts 14 = .ok (.iastore, 1) := by decide +kernel
theorem dX12_puts_15 : decode cX12_puts 15 = .ok (.aload_n 0, 1) := by decide +kernel
theorem dX12_puts_16 : decode cX12_puts 16 = .ok (.getfield 13, 3) := by decide +kernel
theorem dX12_puts_19 : decode cX12_puts 19 = .ok (.bipush 54, 2) := by decide +kernel
theorem dX12_puts_21 : decode cX12_puts 21 = .ok (.iconst 3, 1) := by decide +kernel
theorem dX12_puts_22 : decode cX12_puts 22 = .ok (.iload_n 1, 1) := by decide +kernel
theorem dX12_puts_23 : decode cX12_puts 23 = .ok (.imul, 1) := by decide +kernel
theorem dX12_puts_24 : decode cX12_puts 24 = .ok (.iadd, 1) := by decide +kernel
theorem dX12_puts_25 : decode cX12_puts 25 = .ok (.iconst 1, 1) := by decide +kernel
theorem dX12_puts_26 : decode cX12_puts 26 = .ok (.iadd, 1) := by decide +kernel
theorem dX12_puts_27 : decode cX12_puts 27 = .ok (.iload_n 2, 1) := by decide +kernel
theorem dX12_puts_28 : decode cX12_puts 28 = .ok (.bipush 10, 2) := by decide +kernel
theorem dX12_puts_30 : decode cX12_puts 30 = .ok (.idiv, 1) := by decide +kernel
theorem dX12_puts_31 : decode cX12_puts 31 = .ok (.bipush 10, 2) := by decide +kernel
theorem dX12_puts_33 : decode cX12_puts 33 = .ok (.irem, 1) := by decide +kernel
theorem dX12_puts_34 : decode cX12_puts 34 = .ok (.iastore, 1) := by decide +kernel
theorem dX12_puts_35 : decode cX12_puts 35 = .ok (.aload_n 0, 1) := by decide +kernel
theorem dX12_puts_36 : decode cX12_puts 36 = .ok (.getfield 13, 3) := by decide +kernel
theorem dX12_puts_39 : decode cX12_puts 39 = .ok (.bipush 54, 2) := by decide +kernel
theorem dX12_puts_41 : decode cX12_puts 41 = .ok (.iconst 3, 1) := by decide +kernel
theorem dX12_puts_42 : decode cX12_puts 42 = .ok (.iload_n 1, 1) := by decide +kernel
theorem dX12_puts_43 : decode cX12_puts 43 = .ok (.imul, 1) := by decide +kernel
theorem dX12_puts_44 : decode cX12_puts 44 = .ok (.iadd, 1) := by decide +kernel
theorem dX12_puts_45 : decode cX12_puts 45 = .ok (.iconst 2, 1) := by decide +kernel
theorem dX12_puts_46 : decode cX12_puts 46 = .ok (.iadd, 1) := by decide +kernel
theorem dX12_puts_47 : decode cX12_puts 47 = .ok (.iload_n 2, 1) := by decide +kernel
theorem dX12_puts_48 : decode cX12_puts 48 = .ok (.bipush 10, 2) := by decide +kernel
theorem dX12_puts_50 : decode cX12_puts 50 = .ok (.irem, 1) := by decide +kernel
theorem dX12_puts_51 : decode cX12_puts 51 = .ok (.iastore, 1) := by decide +kernel
theorem dX12_puts_52 : decode cX12_puts 52 = .ok (.return_, 1) := by decide +kernel
theorem dX12_quorum_0 : decode cX12_quorum 0 = .ok (.aload_n 0, 1) := by decide +kernel
theorem dX12_quorum_1 : decode cX12_quorum 1 = .ok (.iconst 0, 1) := by decide +kernel
theorem dX12_quorum_2 : decode cX12_quorum 2 = .ok (.putfield 1, 3) := by decide +kernel
theorem dX12_quorum_5 : decode cX12_quorum 5 = .ok (.aload_n 0, 1) := by decide +kernel
theorem dX12_quorum_6 : decode cX12_quorum 6 = .ok (.invokevirtual 346, 3) := by decide +kernel
theorem dX12_quorum_9 : decode cX12_quorum 9 = .ok (.aload_n 0, 1) := by decide +kernel
theorem dX12_quorum_10 : decode cX12_quorum 10 = .ok (.invokevirtual 255, 3) := by decide +kernel
theorem dX12_quorum_13 : decode cX12_quorum 13 = .ok (.istore_n 1, 1) := by decide +kernel
theorem dX12_quorum_14 : decode cX12_quorum 14 = .ok (.iconst 0, 1) := by decide +kernel
theorem dX12_quorum_15 : decode cX12_quorum 15 = .ok (.istore_n 2, 1) := by decide +kernel
theorem dX12_quorum_16 : decode cX12_quorum 16 = .ok (.iconst 0, 1) := by decide +kernel
theorem dX12_quorum_17 : decode cX12_quorum 17 = .ok (.istore_n 3, 1) := by decide +kernel
theorem dX12_quorum_18 : decode cX12_quorum 18 = .ok (.iload_n 3, 1) := by decide +kernel
theorem dX12_quorum_19 : decode cX12_quorum 19 = .ok (.iload_n 1, 1) := by decide +kernel
theorem dX12_quorum_20 : decode cX12_quorum 20 = .ok (.if_icmp .gt 39, 3) := by decide +kernel
theorem dX12_quorum_23 : decode cX12_quorum 23 = .ok (.iload_n 3, 1) := by decide +kernel
theorem dX12_quorum_24 : decode cX12_quorum 24 = .ok (.iload_n 1, 1) := by decide +kernel
theorem dX12_quorum_25 : decode cX12_quorum 25 = .ok (.iconst (-1), 1) := by decide +kernel
theorem dX12_quorum_26 : decode cX12_quorum 26 = .ok (.ixor, 1) := by decide +kernel
theorem dX12_quorum_27 : decode cX12_quorum 27 = .ok (.iand, 1) := by decide +kernel
theorem dX12_quorum_28 : decode cX12_quorum 28 = .ok (.ifCond .ne 25, 3) := by decide +kernel
theorem dX12_quorum_31 : decode cX12_quorum 31 = .ok (.aload_n 0, 1) := by decide +kernel
theorem dX12_quorum_32 : decode cX12_quorum 32 = .ok (.getfield 45, 3) := by decide +kernel
theorem dX12_quorum_35 : decode cX12_quorum 35 = .ok (.iload_n 3, 1) := by decide +kernel
theorem dX12_quorum_36 : decode cX12_quorum 36 = .ok (.iaload, 1) := by decide +kernel
theorem dX12_quorum_37 : decode cX12_quorum 37 = .ok (.ifCond .le 16, 3) := by decide +kernel
theorem dX12_quorum_40 : decode cX12_quorum 40 = .ok (.iload_n 3, 1) := by decide +kernel
theorem dX12_quorum_41 : decode cX12_quorum 41 = .ok (.invokestatic 281, 3) := by decide +kernel
theorem dX12_quorum_44 : decode cX12_quorum 44 = .ok (.iload_n 2, 1) := by decide +kernel
theorem dX12_quorum_45 : decode cX12_quorum 45 = .ok (.invokestatic 281, 3) := by decide +kernel
theorem dX12_quorum_48 : decode cX12_quorum 48 = .ok (.if_icmp .le 5, 3) := by decide +kernel
theorem dX12_quorum_51 : decode cX12_quorum 51 = .ok (.iload_n 3, 1) := by decide +kernel
theorem dX12_quorum_52 : decode cX12_quorum 52 = .ok (.istore_n 2, 1) := by decide +kernel
theorem dX12_quorum_53 : decode cX12_quorum 53 = .ok (.iinc 3 1, 3) := by decide +kernel
theorem dX12_quorum_56 : decode cX12_quorum 56 = .ok (.goto (-38), 3) := by decide +kernel
theorem dX12_quorum_59 : decode cX12_quorum 59 = .ok (.iload_n 2, 1) := by decide +kernel
theorem dX12_quorum_60 : decode cX12_quorum 60 = .ok (.ireturn, 1) := by decide +kernel
theorem dX12_viewsOf_0 : decode cX12_viewsOf 0 = .ok (.bipush 100, 2) := by decide +kernel
theorem dX12_viewsOf_2 : decode cX12_viewsOf 2 = .ok (.aload_n 0, 1) := by decide +kernel
theorem dX12_viewsOf_3 : decode cX12_viewsOf 3 = .ok (.getfield 13, 3) := by decide +kernel
theorem dX12_viewsOf_6 : decode cX12_viewsOf 6 = .ok (.bipush 54, 2) := by decide +kernel
theorem dX12_viewsOf_8 : decode cX12_viewsOf 8 = .ok (.iconst 3, 1) := by decide +kernel
theorem dX12_viewsOf_9 : decode cX12_viewsOf 9 = .ok (.iload_n 1, 1) := by decide +kernel
theorem dX12_viewsOf_10 : decode cX12_viewsOf 10 = .ok (.imul, 1) := by decide +kernel
theorem dX12_viewsOf_11 : decode cX12_viewsOf 11 = .ok (.iadd, 1) := by decide +kernel
theorem dX12_viewsOf_12 : decode cX12_viewsOf 12 = .ok (.iaload, 1) := by decide +kernel
theorem dX12_viewsOf_13 : decode cX12_viewsOf 13 = .ok (.imul, 1) := by decide +kernel
theorem dX12_viewsOf_14 : decode cX12_viewsOf 14 = .ok (.bipush 10, 2) := by decide +kernel
theorem dX12_viewsOf_16 : decode cX12_viewsOf 16 = .ok (.aload_n 0, 1) := by decide +kernel
theorem dX12_viewsOf_17 : decode cX12_viewsOf 17 = .ok (.getfield 13, 3) := by decide +kernel
theorem dX12_viewsOf_20 : decode cX12_viewsOf 20 = .ok (.bipush 54, 2) := by decide +kernel
theorem dX12_viewsOf_22 : decode cX12_viewsOf 22 = .ok (.iconst 3, 1) := by decide +kernel
theorem dX12_viewsOf_23 : decode cX12_viewsOf 23 = .ok (.iload_n 1, 1) := by decide +kernel
theorem dX12_viewsOf_24 : decode cX12_viewsOf 24 = .ok (.imul, 1) := by decide +kernel
theorem dX12_viewsOf_25 : decode cX12_viewsOf 25 = .ok (.iadd, 1) := by decide +kernel
theorem dX12_viewsOf_26 : decode cX12_viewsOf 26 = .ok (.iconst 1, 1) := by decide +kernel
theorem dX12_viewsOf_27 : decode cX12_viewsOf 27 = .ok (.iadd, 1) := by decide +kernel
theorem dX12_viewsOf_28 : decode cX12_viewsOf 28 = .ok (.iaload, 1) := by decide +kernel
theorem dX12_viewsOf_29 : decode cX12_viewsOf 29 = .ok (.imul, 1) := by decide +kernel
theorem dX12_viewsOf_30 : decode cX12_viewsOf 30 = .ok (.iadd, 1) := by decide +kernel
theorem dX12_viewsOf_31 : decode cX12_viewsOf 31 = .ok (.aload_n 0, 1) := by decide +kernel
theorem dX12_viewsOf_32 : decode cX12_viewsOf 32 = .ok (.getfield 13, 3) := by decide +kernel
theorem dX12_viewsOf_35 : decode cX12_viewsOf 35 = .ok (.bipush 54, 2) := by decide +kernel
theorem dX12_viewsOf_37 : decode cX12_viewsOf 37 = .ok (.iconst 3, 1) := by decide +kernel
theorem dX12_viewsOf_38 : decode cX12_viewsOf 38 = .ok (.iload_n 1, 1) := by decide +kernel
theorem dX12_viewsOf_39 : decode cX12_viewsOf 39 = .ok (.imul, 1) := by decide +kernel
theorem dX12_viewsOf_40 : decode cX12_viewsOf 40 = .ok (.iadd, 1) := by decide +kernel
theorem dX12_viewsOf_41 : decode cX12_viewsOf 41 = .ok (.iconst 2, 1) := by decide +kernel
theorem dX12_viewsOf_42 : decode cX12_viewsOf 42 = .ok (.iadd, 1) := by decide +kernel
theorem dX12_viewsOf_43 : decode cX12_viewsOf 43 = .ok (.iaload, 1) := by decide +kernel
theorem dX12_viewsOf_44 : decode cX12_viewsOf 44 = .ok (.iadd, 1) := by decide +kernel
theorem dX12_viewsOf_45 : decode cX12_viewsOf 45 = .ok (.ireturn, 1) := by decide +kernel
theorem dX12_ways_0 : decode cX12_ways 0 = .ok (.aload_n 0, 1) := by decide +kernel
theorem dX12_ways_1 : decode cX12_ways 1 = .ok (.iconst 0, 1) := by decide +kernel
theorem dX12_ways_2 : decode cX12_ways 2 = .ok (.putfield 1, 3) := by decide +kernel
theorem dX12_ways_5 : decode cX12_ways 5 = .ok (.aload_n 0, 1) := by decide +kernel
theorem dX12_ways_6 : decode cX12_ways 6 = .ok (.iload_n 1, 1) := by decide +kernel
theorem dX12_ways_7 : decode cX12_ways 7 = .ok (.invokevirtual 349, 3) := by decide +kernel
theorem dX12_ways_10 : decode cX12_ways 10 = .ok (.ifCond .ne 6, 3) := by decide +kernel
theorem dX12_ways_13 : decode cX12_ways 13 = .ok (.bipush (-3), 2) := by decide +kernel
theorem dX12_ways_15 : decode cX12_ways 15 = .ok (.ireturn, 1) := by decide +kernel
theorem dX12_ways_16 : decode cX12_ways 16 = .ok (.aload_n 0, 1) := by decide +kernel
theorem dX12_ways_17 : decode cX12_ways 17 = .ok (.invokevirtual 346, 3) := by decide +kernel
theorem dX12_ways_20 : decode cX12_ways 20 = .ok (.aload_n 0, 1) := by decide +kernel
theorem dX12_ways_21 : decode cX12_ways 21 = .ok (.getfield 45, 3) := by decide +kernel
theorem dX12_ways_24 : decode cX12_ways 24 = .ok (.iload_n 1, 1) := by decide +kernel
theorem dX12_ways_25 : decode cX12_ways 25 = .ok (.iaload, 1) := by decide +kernel
theorem dX12_ways_26 : decode cX12_ways 26 = .ok (.ireturn, 1) := by decide +kernel
set_option maxHeartbeats 4000000 in
set_option maxRecDepth 100000 in
theorem gX12_goesPairs_524dcef (l : Launch) (D : va_G) (cy : Nat → ClassId) (h0 : Nat) (h1 : Nat) (h2 : Nat) (h3 : Nat) (h4 : Nat) (p0 : Int32) (p1 : Int32) (p2 : Int32) (p3 : Int32) (w0 : Value) (w1 : Value) (w2 : Value) (p4 : Int32) (p5 : Int32) (p6 : Int32) (p7 : Int32) (p8 : Int32) (p9 : Int32) (p10 : Int32) (p11 : Int32) (p12 : Int32) (p13 : Int32) (p14 : Int32) (w3 : Value) (w4 : Value) (w5 : Value) (w6 : Value) (p15 : Int32) (p16 : Int32) (w7 : Value) (p17 : Int32) (p18 : Int32) (w8 : Value) (w9 : Value) (w10 : Value) (w11 : Value) (w12 : Value) (p19 : Int32) (w13 : Value) (w14 : Value) (w15 : Value) (f0 : Nat → Int32) (p20 : Int32) (f1 : Nat → Int32) (f2 : Nat → Int32) (f3 : Nat → Int32) (hp0 : 0 ≤ (p0).toInt ∧ (p0).toInt ≤ 1023) (hp1 : 0 ≤ (p1).toInt ∧ (p1).toInt ≤ 2) (hp2 : (-2147483648) ≤ (p2).toInt ∧ (p2).toInt ≤ 2147483647) (hp3 : 0 ≤ (p3).toInt ∧ (p3).toInt ≤ 0) (hp4 : 0 ≤ (p4).toInt ∧ (p4).toInt ≤ 900) (hp5 : 0 ≤ (p5).toInt ∧ (p5).toInt ≤ 900) (hp6 : 0 ≤ (p6).toInt ∧ (p6).toInt ≤ 900) (hp7 : 0 ≤ (p7).toInt ∧ (p7).toInt ≤ 900) (hp8 : (-2147483648) ≤ (p8).toInt ∧ (p8).toInt ≤ 2147483647) (hp9 : 0 ≤ (p9).toInt ∧ (p9).toInt ≤ 999) (hp10 : (-2147483648) ≤ (p10).toInt ∧ (p10).toInt ≤ 2147483647) (hp11 : (-2147483648) ≤ (p11).toInt ∧ (p11).toInt ≤ 2147483647) (hp12 : (-2147483648) ≤ (p12).toInt ∧ (p12).toInt ≤ 2147483647) (hp13 : (-2147483648) ≤ (p13).toInt ∧ (p13).toInt ≤ 2147483647) (hp14 : (-2147483648) ≤ (p14).toInt ∧ (p14).toInt ≤ 2147483647) (hp15 : (-2147483648) ≤ (p15).toInt ∧ (p15).toInt ≤ 2147483647) (hp16 : (-2147483648) ≤ (p16).toInt ∧ (p16).toInt ≤ 2147483647) (hp17 : (-1) ≤ (p17).toInt ∧ (p17).toInt ≤ 10) (hp18 : (-2147483648) ≤ (p18).toInt ∧ (p18).toInt ≤ 2147483647) (hp19 : (-2147483648) ≤ (p19).toInt ∧ (p19).toInt ≤ 2147483647) (hp20 : 0 ≤ (p20).toInt ∧ (p20).toInt ≤ 10) (htf0_84 : f0 84 = p20) (rf0 : AL f0) (rf1 : RG f1 10 0 1023) (hpre0 : (p0 : Int32).toInt % 4 = 0) (sz : Nat) : MV l yX12_goesPairs cX12_goesPairs 7 { frames := 9, cells := 0, slots := 0, locals := 225 } [.ref h0, .int p0, .int p1, .int p2] D cy (wk_f147cc4b8 cy h0 p3 h1 w0 w1 w2 p4 p5 p6 p7 p8 p9 p10 p11 p12 p13 p14 w3 w4 w5 h2 w6 p15 p16 w7 h3 h4 p17 p18 w8 w9 w10 w11 w12 p19 w13 w14 w15 h1 f0 h2 f1 h3 f2 h4 f3) sz (fun u => ((-1) ≤ (u.2.1 0 0).toInt ∧ (u.2.1 0 0).toInt ≤ 10) ∧ ((-2147483648) ≤ (u.2.1 1 0).toInt ∧ (u.2.1 1 0).toInt ≤ 2147483647) ∧ True) (fun u => (wk_f147cc4b8 cy h0 p3 h1 w0 w1 w2 p4 p5 p6 p7 p8 p9 p10 p11 p12 p13 p14 w3 w4 w5 h2 w6 p15 p16 w7 h3 h4 (u.2.1 0 0) (u.2.1 1 0) w8 w9 w10 w11 w12 p19 w13 w14 w15 h1 f0 h2 f1 h3 (u.2.1 2) h4 (u.2.1 3))) 0 0 := by
  refine q_ent (own := RX12) (by decide) rfl (Nat.le_of_ble_eq_true rfl) (fun p e s m below meth c ls X hr hlk hnm hK hT h hA hl => ?_)
  obtain ⟨hx, hb, hml, hown, ht⟩ := id X
  replace hl : lv_has ls 7 [(0, .ref h0), (1, .int p0), (2, .int p1), (3, .int p2)] := hl
  refine lv_iload_n hx hb dX12_goesPairs_0 rfl (lv_at hl 1 rfl) ?_
  refine lv_if_ne (tgt := 70) hx hb dX12_goesPairs_1 (by decide) (fun c_1 => ?_) (fun c_1 => ?_)
  · replace c_1 := i_ne (x := p0) (y := 0) rfl (show (0 : Int32).toInt = 0 by decide) c_1
    refine lv_iload_n hx hb dX12_goesPairs_70 rfl (lv_at hl 1 rfl) ?_
    refine q_callSi (rest := []) (wr := (wk_f147cc4b8 cy h0 p3 h1 w0 w1 w2 p4 p5 p6 p7 p8 p9 p10 p11 p12 p13 p14 w3 w4 w5 h2 w6 p15 p16 w7 h3 h4 p17 p18 w8 w9 w10 w11 w12 p19 w13 w14 w15 h1 f0 h2 f1 h3 f2 h4 f3)) X hK hT hA h (fun sz => gX12_lowest_51df8cb l D cy p0 ⟨by omega, by omega⟩ sz) wm_7_67 wm_7_69 wm_1_12 hd_X12_lowest wm_7_68 ⟨Nat.le_of_ble_eq_true rfl, Nat.le_of_ble_eq_true rfl⟩ hl.1 rfl (Nat.le_of_ble_eq_true rfl) dX12_goesPairs_71 ⟨Nat.le_of_ble_eq_true rfl, Nat.le_of_ble_eq_true rfl⟩ [] [0, 1, 2, 3, 4] rfl rfl (by decide) rfl rfl (fun r_2 u_2 H locs w_2 h_2 => ?_)
    clear h
    obtain ⟨wr_2, y2_0, _⟩ := w_2
    replace h_2 : qW D _ _ (wk_f147cc4b8 cy h0 p3 h1 w0 w1 w2 p4 p5 p6 p7 p8 p9 p10 p11 p12 p13 p14 w3 w4 w5 h2 w6 p15 p16 w7 h3 h4 p17 p18 w8 w9 w10 w11 w12 p19 w13 w14 w15 h1 f0 h2 f1 h3 f2 h4 f3) _ _ := h_2
    refine lv_istore (lv' := [(4, .int r_2), (0, .ref h0), (1, .int p0), (2, .int p1), (3, .int p2)]) hx hb dX12_goesPairs_74 hl (by decide) rfl (fun ls_3 hl_3 => ?_)
    clear hl
    refine lv_iload_n hx hb dX12_goesPairs_76 rfl (lv_at hl_3 2 rfl) ?_
    refine lv_iconst (v := 1) hx hb dX12_goesPairs_77 (by decide) ?_
    refine lv_iload hx hb dX12_goesPairs_78 (lv_at hl_3 0 rfl) ?_
    refine lv_ishl hx hb dX12_goesPairs_80 ?_
    obtain ⟨z_4, ez_4, hz_4⟩ := e_shlk (p := r_2) 9 (by decide) rfl (by omega) (by omega)
    refine q_c z_4 ez_4 ?_
    refine lv_iconst (v := (-1)) hx hb dX12_goesPairs_81 (by decide) ?_
    refine lv_ixor hx hb dX12_goesPairs_82 ?_
    obtain ⟨z_5, ez_5, hz_5⟩ := e_any (z_4 ^^^ (-1))
    refine q_c z_5 ez_5 ?_
    refine lv_iand hx hb dX12_goesPairs_83 ?_
    obtain ⟨z_6, ez_6, hz_6⟩ := e_and1 (x := p0) (y := z_5) rfl (by omega)
    refine q_c z_6 ez_6 ?_
    have rs_7 := rest_low 2 (by omega) y2_0 (by omega) ez_4 ez_5 ez_6
    refine lv_istore (lv' := [(5, .int z_6), (4, .int r_2), (0, .ref h0), (1, .int p0), (2, .int p1), (3, .int p2)]) hx hb dX12_goesPairs_84 hl_3 (by decide) rfl (fun ls_8 hl_8 => ?_)
    clear hl_3
    refine lv_iload hx hb dX12_goesPairs_86 (lv_at hl_8 1 rfl) ?_
    refine lv_iconst (v := 1) hx hb dX12_goesPairs_88 (by decide) ?_
    refine lv_iadd hx hb dX12_goesPairs_89 ?_
    obtain ⟨z_9, ez_9, hz_9⟩ := e_add (x := r_2) (y := 1) rfl (show (1 : Int32).toInt = 1 by decide) (by omega) (by omega)
    refine q_c z_9 ez_9 ?_
    clear ez_9
    refine lv_istore (lv' := [(6, .int z_9), (5, .int z_6), (4, .int r_2), (0, .ref h0), (1, .int p0), (2, .int p1), (3, .int p2)]) hx hb dX12_goesPairs_90 hl_8 (by decide) rfl (fun ls_10 hl_10 => ?_)
    clear hl_8
    refine q_wl (fun (q : Int32 × Int32 × Int32) H locs ls => match q with | (v92_11_0, v92_11_1, v92_11_2) => ∃ v92_11_3 : Nat → Int32, ∃ v92_11_4 : Nat → Int32, (1 ≤ (v92_11_0).toInt ∧ (v92_11_0).toInt ≤ 10) ∧ ((-1) ≤ (v92_11_1).toInt ∧ (v92_11_1).toInt ≤ 10) ∧ ((-2147483648) ≤ (v92_11_2).toInt ∧ (v92_11_2).toInt ≤ 2147483647) ∧ qW D (va_A (wk_f147cc4b8 cy h0 p3 h1 w0 w1 w2 p4 p5 p6 p7 p8 p9 p10 p11 p12 p13 p14 w3 w4 w5 h2 w6 p15 p16 w7 h3 h4 p17 p18 w8 w9 w10 w11 w12 p19 w13 w14 w15 h1 f0 h2 f1 h3 f2 h4 f3) sz) s.heap (wk_f147cc4b8 cy h0 p3 h1 w0 w1 w2 p4 p5 p6 p7 p8 p9 p10 p11 p12 p13 p14 w3 w4 w5 h2 w6 p15 p16 w7 h3 h4 v92_11_1 v92_11_2 w8 w9 w10 w11 w12 p19 w13 w14 w15 h1 f0 h2 f1 h3 v92_11_3 h4 v92_11_4) H locs ∧ lv_has ls 7 [(0, .ref h0), (1, .int p0), (2, .int p1), (3, .int p2), (4, .int r_2), (5, .int z_6), (6, .int v92_11_0)]) (fun (q : Int32 × Int32 × Int32) => match q with | (v92_11_0, v92_11_1, v92_11_2) => (11 - (v92_11_0).toInt).toNat) (fun q_92 ih_92 H locs ls hP => ?_) (z_9, p17, p18) ⟨f2, f3, ⟨by omega, by omega⟩, hp17, hp18, h_2, (lv_sub hl_10 [3, 4, 5, 6, 2, 1, 0] rfl)⟩
    obtain ⟨v92_11_0, v92_11_1, v92_11_2⟩ := q_92
    obtain ⟨v92_11_3, v92_11_4, hv92_11_0, hv92_11_1, hv92_11_2, h, hl⟩ := hP
    refine lv_iload hx hb dX12_goesPairs_92 (lv_at hl 6 rfl) ?_
    refine lv_aload_n hx hb dX12_goesPairs_94 rfl (lv_at hl 0 rfl) ?_
    refine q_get X hK h 0 rfl rfl wf_12 1 (by decide) rfl wm_5_171 dX12_goesPairs_95 ?_
    refine lv_iconst (v := 2) hx hb dX12_goesPairs_98 (by decide) ?_
    refine q_iald X hK h 1 rfl (q_in (by decide +kernel)) dX12_goesPairs_99 ?_
    obtain ⟨z_12, ez_12, hz_12⟩ := al_P rf0 (x := 2) (show (2 : Int32).toInt = 2 by decide) (by omega) (by omega)
    refine q_c z_12 ez_12 ?_
    clear ez_12
    refine lv_icmp_ge (tgt := 196) hx hb dX12_goesPairs_100 (by decide) (fun c_13 => ?_) (fun c_13 => ?_)
    · replace c_13 := i_le (x := z_12) (y := v92_11_0) rfl rfl c_13
      refine lv_aload_n hx hb dX12_goesPairs_196 rfl (lv_at hl 0 rfl) ?_
      refine q_get X hK h 0 rfl rfl wf_12 24 (by decide) rfl wm_5_194 dX12_goesPairs_197 ?_
      refine lv_iload hx hb dX12_goesPairs_200 (lv_at hl 4 rfl) ?_
      refine lv_iconst (v := (-1)) hx hb dX12_goesPairs_202 (by decide) ?_
      refine q_iast X hK h 3 rfl (i_in rfl (by omega) (by omega)) dX12_goesPairs_203 (fun H locs h_15 => ?_)
      clear h
      replace h_15 : qW D _ _ (wk_f147cc4b8 cy h0 p3 h1 w0 w1 w2 p4 p5 p6 p7 p8 p9 p10 p11 p12 p13 p14 w3 w4 w5 h2 w6 p15 p16 w7 h3 h4 v92_11_1 v92_11_2 w8 w9 w10 w11 w12 p19 w13 w14 w15 h1 f0 h2 f1 h3 (upd v92_11_3 (Int32.toNatClampNeg r_2) (-1)) h4 v92_11_4) _ _ := h_15
      obtain ⟨F_14, eF_14⟩ : ∃ z, (upd v92_11_3 (Int32.toNatClampNeg r_2) (-1)) = z := ⟨_, rfl⟩
      rw [eF_14] at h_15
      clear eF_14
      refine lv_aload_n hx hb dX12_goesPairs_204 rfl (lv_at hl 0 rfl) ?_
      refine lv_iload hx hb dX12_goesPairs_205 (lv_at hl 5 rfl) ?_
      refine lv_iload_n hx hb dX12_goesPairs_207 rfl (lv_at hl 2 rfl) ?_
      refine lv_iload_n hx hb dX12_goesPairs_208 rfl (lv_at hl 3 rfl) ?_
      refine q_callVv (rest := []) (wr := []) X hK hT hA h_15 (fun sz => gX12_goesPairs_4b60efc l D cy h0 h1 h2 h3 h4 z_6 p1 p2 p3 w0 w1 w2 p4 p5 p6 p7 p8 p9 p10 p11 p12 p13 p14 w3 w4 w5 w6 p15 p16 w7 v92_11_1 v92_11_2 w8 w9 w10 w11 w12 p19 w13 w14 w15 f0 p20 f1 F_14 v92_11_4 ⟨by omega, by omega⟩ (bw hp1 (by decide) (by decide)) (i_rng _) hp3 hp4 hp5 hp6 hp7 (i_rng _) hp9 (i_rng _) (i_rng _) (i_rng _) (i_rng _) (i_rng _) (i_rng _) (i_rng _) hv92_11_1 (i_rng _) (i_rng _) hp20 htf0_84 rf0 (rg_wide rf1 (by decide) (by decide)) ((show _ % 8 = 0 from rs_7.1)) sz) wm_7_116 wm_7_119 wm_1_12 hd_X12_goesPairs wm_7_118 wp_7_4 (ci := 12) (q0 := 0) rfl rfl ⟨Nat.le_of_ble_eq_true rfl, Nat.le_of_ble_eq_true rfl⟩ hl.1 rfl (Nat.le_of_ble_eq_true rfl) dX12_goesPairs_209 ⟨Nat.le_of_ble_eq_true rfl, Nat.le_of_ble_eq_true rfl⟩ [0, 1, 2, 3, 4] [] rfl rfl (by decide) rfl rfl (fun u_16 H locs w_16 h_16 => ?_)
      clear h_15
      obtain ⟨w16_0, w16_1, _⟩ := w_16
      replace h_16 : qW D _ _ (wk_f147cc4b8 cy h0 p3 h1 w0 w1 w2 p4 p5 p6 p7 p8 p9 p10 p11 p12 p13 p14 w3 w4 w5 h2 w6 p15 p16 w7 h3 h4 (u_16.2.1 0 0) (u_16.2.1 1 0) w8 w9 w10 w11 w12 p19 w13 w14 w15 h1 f0 h2 f1 h3 (u_16.2.1 2) h4 (u_16.2.1 3)) _ _ := h_16
      exact q_vret X hr hlk hK h_16 (fun _ => 0, (vcons (fun _ => (u_16.2.1 0 0)) (vcons (fun _ => (u_16.2.1 1 0)) (vcons (u_16.2.1 2) (vcons (u_16.2.1 3) (fun _ => (fun _ => 0)))))), fun _ _ => 0) ⟨w16_0, w16_1, trivial⟩ [0, 1, 2, 3, 4] rfl rfl dX12_goesPairs_212 (Nat.le_of_ble_eq_true rfl) (Nat.le_of_ble_eq_true rfl)
    · replace c_13 := i_nle (x := z_12) (y := v92_11_0) rfl rfl c_13
      refine lv_iload hx hb dX12_goesPairs_103 (lv_at hl 5 rfl) ?_
      refine lv_aload_n hx hb dX12_goesPairs_105 rfl (lv_at hl 0 rfl) ?_
      refine q_get X hK h 0 rfl rfl wf_12 19 (by decide) rfl wm_5_189 dX12_goesPairs_106 ?_
      refine lv_iload hx hb dX12_goesPairs_109 (lv_at hl 4 rfl) ?_
      refine q_iald X hK h 2 rfl (i_in rfl (by omega) (by omega)) dX12_goesPairs_111 ?_
      obtain ⟨z_17, ez_17, hz_17⟩ := rg_get rf1 (x := r_2) rfl (by omega) (by omega)
      refine q_c z_17 ez_17 ?_
      clear ez_17
      refine lv_iand hx hb dX12_goesPairs_112 ?_
      obtain ⟨z_18, ez_18, hz_18⟩ := e_and2 (x := z_6) (y := z_17) rfl (by omega)
      refine q_c z_18 ez_18 ?_
      clear ez_18
      refine lv_i2l hx hb dX12_goesPairs_113 rfl ?_
      obtain ⟨z_19, ez_19, hz_19⟩ := e_i2l (x := z_18) rfl
      refine q_cl z_19 ez_19 ?_
      clear ez_19
      refine lv_iload hx hb dX12_goesPairs_114 (lv_at hl 6 rfl) ?_
      refine q_callSi (rest := []) (wr := (wk_f147cc4b8 cy h0 p3 h1 w0 w1 w2 p4 p5 p6 p7 p8 p9 p10 p11 p12 p13 p14 w3 w4 w5 h2 w6 p15 p16 w7 h3 h4 v92_11_1 v92_11_2 w8 w9 w10 w11 w12 p19 w13 w14 w15 h1 f0 h2 f1 h3 v92_11_3 h4 v92_11_4)) X hK hT hA h (fun sz => gX12_isIn_b0455a8 l D cy z_19 v92_11_0 ⟨by omega, by omega⟩ ⟨by omega, by omega⟩ sz) wm_6_167 wm_6_169 wm_1_12 hd_X12_isIn wm_6_168 ⟨Nat.le_of_ble_eq_true rfl, Nat.le_of_ble_eq_true rfl⟩ hl.1 rfl (Nat.le_of_ble_eq_true rfl) dX12_goesPairs_116 ⟨Nat.le_of_ble_eq_true rfl, Nat.le_of_ble_eq_true rfl⟩ [] [0, 1, 2, 3, 4] rfl rfl (by decide) rfl rfl (fun r_20 u_20 H locs w_20 h_20 => ?_)
      clear h
      obtain ⟨wr_20, _⟩ := w_20
      replace h_20 : qW D _ _ (wk_f147cc4b8 cy h0 p3 h1 w0 w1 w2 p4 p5 p6 p7 p8 p9 p10 p11 p12 p13 p14 w3 w4 w5 h2 w6 p15 p16 w7 h3 h4 v92_11_1 v92_11_2 w8 w9 w10 w11 w12 p19 w13 w14 w15 h1 f0 h2 f1 h3 v92_11_3 h4 v92_11_4) _ _ := h_20
      refine q_jn (pc2 := 190) (fun H locs ls st => ∃ v190_21_0 : Int32, ∃ v190_21_1 : Int32, ∃ v190_21_2 : Nat → Int32, ∃ v190_21_3 : Nat → Int32, ((-1) ≤ (v190_21_0).toInt ∧ (v190_21_0).toInt ≤ 10) ∧ ((-2147483648) ≤ (v190_21_1).toInt ∧ (v190_21_1).toInt ≤ 2147483647) ∧ st = [] ∧ qW D (va_A (wk_f147cc4b8 cy h0 p3 h1 w0 w1 w2 p4 p5 p6 p7 p8 p9 p10 p11 p12 p13 p14 w3 w4 w5 h2 w6 p15 p16 w7 h3 h4 p17 p18 w8 w9 w10 w11 w12 p19 w13 w14 w15 h1 f0 h2 f1 h3 f2 h4 f3) sz) s.heap (wk_f147cc4b8 cy h0 p3 h1 w0 w1 w2 p4 p5 p6 p7 p8 p9 p10 p11 p12 p13 p14 w3 w4 w5 h2 w6 p15 p16 w7 h3 h4 v190_21_0 v190_21_1 w8 w9 w10 w11 w12 p19 w13 w14 w15 h1 f0 h2 f1 h3 v190_21_2 h4 v190_21_3) H locs ∧ lv_has ls 7 [(0, .ref h0), (1, .int p0), (2, .int p1), (3, .int p2), (4, .int r_2), (5, .int z_6), (6, .int v92_11_0)]) (fun H locs ls st hP => ?_) (fun J_190 => ?_)
      · obtain ⟨v190_21_0, v190_21_1, v190_21_2, v190_21_3, hv190_21_0, hv190_21_1, rfl, h, hl⟩ := hP
        obtain ⟨z_22, ez_22, hz_22⟩ := e_add (x := v92_11_0) (y := Int32.ofInt 1) rfl (b := 1) (by decide) (by omega) (by omega)
        refine lv_iinc (v := z_22) (lv' := [(6, .int z_22), (0, .ref h0), (1, .int p0), (2, .int p1), (3, .int p2), (4, .int r_2), (5, .int z_6)]) hx hb dX12_goesPairs_190 hl (k := 6) rfl ez_22 (by decide) rfl (fun ls_22 hl_22 => ?_)
        clear hl
        refine lv_goto (tgt := 92) hx hb dX12_goesPairs_193 (by decide) ?_
        exact ih_92 (z_22, v190_21_0, v190_21_1) (by show (11 - (z_22).toInt).toNat < (11 - (v92_11_0).toInt).toNat; omega) _ _ _ ⟨v190_21_2, v190_21_3, ⟨by omega, by omega⟩, hv190_21_0, hv190_21_1, h, (lv_sub hl_22 [1, 2, 3, 4, 5, 6, 0] rfl)⟩
      · skip
        refine lv_if_ne (tgt := 125) hx hb dX12_goesPairs_119 (by decide) (fun c_23 => ?_) (fun c_23 => ?_)
        · replace c_23 := i_ne (x := r_20) (y := 0) rfl (show (0 : Int32).toInt = 0 by decide) c_23
          refine lv_aload_n hx hb dX12_goesPairs_125 rfl (lv_at hl 0 rfl) ?_
          refine q_get X hK h_20 0 rfl rfl wf_12 24 (by decide) rfl wm_5_194 dX12_goesPairs_126 ?_
          refine lv_iload hx hb dX12_goesPairs_129 (lv_at hl 4 rfl) ?_
          refine lv_iload hx hb dX12_goesPairs_131 (lv_at hl 6 rfl) ?_
          refine q_iast X hK h_20 3 rfl (i_in rfl (by omega) (by omega)) dX12_goesPairs_133 (fun H locs h_25 => ?_)
          clear h_20
          replace h_25 : qW D _ _ (wk_f147cc4b8 cy h0 p3 h1 w0 w1 w2 p4 p5 p6 p7 p8 p9 p10 p11 p12 p13 p14 w3 w4 w5 h2 w6 p15 p16 w7 h3 h4 v92_11_1 v92_11_2 w8 w9 w10 w11 w12 p19 w13 w14 w15 h1 f0 h2 f1 h3 (upd v92_11_3 (Int32.toNatClampNeg r_2) v92_11_0) h4 v92_11_4) _ _ := h_25
          obtain ⟨F_24, eF_24⟩ : ∃ z, (upd v92_11_3 (Int32.toNatClampNeg r_2) v92_11_0) = z := ⟨_, rfl⟩
          rw [eF_24] at h_25
          clear eF_24
          refine lv_aload_n hx hb dX12_goesPairs_134 rfl (lv_at hl 0 rfl) ?_
          refine q_get X hK h_25 0 rfl rfl wf_12 24 (by decide) rfl wm_5_194 dX12_goesPairs_135 ?_
          refine lv_iload hx hb dX12_goesPairs_138 (lv_at hl 6 rfl) ?_
          refine lv_iload hx hb dX12_goesPairs_140 (lv_at hl 4 rfl) ?_
          refine q_iast X hK h_25 3 rfl (i_in rfl (by omega) (by omega)) dX12_goesPairs_142 (fun H locs h_27 => ?_)
          clear h_25
          replace h_27 : qW D _ _ (wk_f147cc4b8 cy h0 p3 h1 w0 w1 w2 p4 p5 p6 p7 p8 p9 p10 p11 p12 p13 p14 w3 w4 w5 h2 w6 p15 p16 w7 h3 h4 v92_11_1 v92_11_2 w8 w9 w10 w11 w12 p19 w13 w14 w15 h1 f0 h2 f1 h3 (upd F_24 (Int32.toNatClampNeg v92_11_0) r_2) h4 v92_11_4) _ _ := h_27
          obtain ⟨F_26, eF_26⟩ : ∃ z, (upd F_24 (Int32.toNatClampNeg v92_11_0) r_2) = z := ⟨_, rfl⟩
          rw [eF_26] at h_27
          clear eF_26
          refine lv_aload_n hx hb dX12_goesPairs_143 rfl (lv_at hl 0 rfl) ?_
          refine lv_iload hx hb dX12_goesPairs_144 (lv_at hl 5 rfl) ?_
          refine lv_iconst (v := 1) hx hb dX12_goesPairs_146 (by decide) ?_
          refine lv_iload hx hb dX12_goesPairs_147 (lv_at hl 6 rfl) ?_
          refine lv_ishl hx hb dX12_goesPairs_149 ?_
          obtain ⟨z_28, ez_28, hz_28⟩ := e_shlk (p := v92_11_0) 9 (by decide) rfl (by omega) (by omega)
          refine q_c z_28 ez_28 ?_
          clear ez_28
          refine lv_iconst (v := (-1)) hx hb dX12_goesPairs_150 (by decide) ?_
          refine lv_ixor hx hb dX12_goesPairs_151 ?_
          refine q_any (fun z_29 hz_29 => ?_)
          refine lv_iand hx hb dX12_goesPairs_152 ?_
          obtain ⟨z_30, ez_30, hz_30⟩ := e_and1 (x := z_6) (y := z_29) rfl (by omega)
          refine q_c z_30 ez_30 ?_
          have ad_31 := and_div 3 (by omega) rs_7.1 ez_30
          refine lv_iload_n hx hb dX12_goesPairs_153 rfl (lv_at hl 2 rfl) ?_
          refine lv_iconst (v := 1) hx hb dX12_goesPairs_154 (by decide) ?_
          refine lv_iadd hx hb dX12_goesPairs_155 ?_
          obtain ⟨z_32, ez_32, hz_32⟩ := e_add (x := p1) (y := 1) rfl (show (1 : Int32).toInt = 1 by decide) (by omega) (by omega)
          refine q_c z_32 ez_32 ?_
          clear ez_32
          refine lv_iload_n hx hb dX12_goesPairs_156 rfl (lv_at hl 3 rfl) ?_
          refine lv_aload_n hx hb dX12_goesPairs_157 rfl (lv_at hl 0 rfl) ?_
          refine q_get X hK h_27 0 rfl rfl wf_12 1 (by decide) rfl wm_5_171 dX12_goesPairs_158 ?_
          refine lv_bipush (v := 42) hx hb dX12_goesPairs_161 (by decide) ?_
          refine lv_iload hx hb dX12_goesPairs_163 (lv_at hl 4 rfl) ?_
          refine lv_iadd hx hb dX12_goesPairs_165 ?_
          obtain ⟨z_33, ez_33, hz_33⟩ := e_add (x := 42) (y := r_2) (show (42 : Int32).toInt = 42 by decide) rfl (by omega) (by omega)
          refine q_c z_33 ez_33 ?_
          clear ez_33
          refine q_iald X hK h_27 1 rfl (i_in rfl (by omega) (by omega)) dX12_goesPairs_166 ?_
          refine q_any (fun z_34 hz_34 => ?_)
          refine lv_iadd hx hb dX12_goesPairs_167 ?_
          refine q_any (fun z_35 hz_35 => ?_)
          refine lv_aload_n hx hb dX12_goesPairs_168 rfl (lv_at hl 0 rfl) ?_
          refine q_get X hK h_27 0 rfl rfl wf_12 1 (by decide) rfl wm_5_171 dX12_goesPairs_169 ?_
          refine lv_bipush (v := 42) hx hb dX12_goesPairs_172 (by decide) ?_
          refine lv_iload hx hb dX12_goesPairs_174 (lv_at hl 6 rfl) ?_
          refine lv_iadd hx hb dX12_goesPairs_176 ?_
          obtain ⟨z_36, ez_36, hz_36⟩ := e_add (x := 42) (y := v92_11_0) (show (42 : Int32).toInt = 42 by decide) rfl (by omega) (by omega)
          refine q_c z_36 ez_36 ?_
          clear ez_36
          refine q_iald X hK h_27 1 rfl (i_in rfl (by omega) (by omega)) dX12_goesPairs_177 ?_
          refine q_any (fun z_37 hz_37 => ?_)
          refine lv_iadd hx hb dX12_goesPairs_178 ?_
          refine q_any (fun z_38 hz_38 => ?_)
          refine q_callVv (rest := []) (wr := []) X hK hT hA h_27 (fun sz => gX12_goesPairs_4b60efc l D cy h0 h1 h2 h3 h4 z_30 z_32 z_38 p3 w0 w1 w2 p4 p5 p6 p7 p8 p9 p10 p11 p12 p13 p14 w3 w4 w5 w6 p15 p16 w7 v92_11_1 v92_11_2 w8 w9 w10 w11 w12 p19 w13 w14 w15 f0 p20 f1 F_26 v92_11_4 ⟨by omega, by omega⟩ ⟨by omega, by omega⟩ (i_rng _) hp3 hp4 hp5 hp6 hp7 (i_rng _) hp9 (i_rng _) (i_rng _) (i_rng _) (i_rng _) (i_rng _) (i_rng _) (i_rng _) hv92_11_1 (i_rng _) (i_rng _) hp20 htf0_84 rf0 (rg_wide rf1 (by decide) (by decide)) ((show _ % 8 = 0 from ad_31)) sz) wm_7_116 wm_7_119 wm_1_12 hd_X12_goesPairs wm_7_118 wp_7_4 (ci := 12) (q0 := 0) rfl rfl ⟨Nat.le_of_ble_eq_true rfl, Nat.le_of_ble_eq_true rfl⟩ hl.1 rfl (Nat.le_of_ble_eq_true rfl) dX12_goesPairs_179 ⟨Nat.le_of_ble_eq_true rfl, Nat.le_of_ble_eq_true rfl⟩ [0, 1, 2, 3, 4] [] rfl rfl (by decide) rfl rfl (fun u_39 H locs w_39 h_39 => ?_)
          clear h_27
          obtain ⟨w39_0, w39_1, _⟩ := w_39
          replace h_39 : qW D _ _ (wk_f147cc4b8 cy h0 p3 h1 w0 w1 w2 p4 p5 p6 p7 p8 p9 p10 p11 p12 p13 p14 w3 w4 w5 h2 w6 p15 p16 w7 h3 h4 (u_39.2.1 0 0) (u_39.2.1 1 0) w8 w9 w10 w11 w12 p19 w13 w14 w15 h1 f0 h2 f1 h3 (u_39.2.1 2) h4 (u_39.2.1 3)) _ _ := h_39
          refine lv_aload_n hx hb dX12_goesPairs_182 rfl (lv_at hl 0 rfl) ?_
          refine q_get X hK h_39 0 rfl rfl wf_12 24 (by decide) rfl wm_5_194 dX12_goesPairs_183 ?_
          refine lv_iload hx hb dX12_goesPairs_186 (lv_at hl 6 rfl) ?_
          refine lv_iconst (v := (-1)) hx hb dX12_goesPairs_188 (by decide) ?_
          refine q_iast X hK h_39 3 rfl (i_in rfl (by omega) (by omega)) dX12_goesPairs_189 (fun H locs h_41 => ?_)
          clear h_39
          replace h_41 : qW D _ _ (wk_f147cc4b8 cy h0 p3 h1 w0 w1 w2 p4 p5 p6 p7 p8 p9 p10 p11 p12 p13 p14 w3 w4 w5 h2 w6 p15 p16 w7 h3 h4 (u_39.2.1 0 0) (u_39.2.1 1 0) w8 w9 w10 w11 w12 p19 w13 w14 w15 h1 f0 h2 f1 h3 (upd (u_39.2.1 2) (Int32.toNatClampNeg v92_11_0) (-1)) h4 (u_39.2.1 3)) _ _ := h_41
          obtain ⟨F_40, eF_40⟩ : ∃ z, (upd (u_39.2.1 2) (Int32.toNatClampNeg v92_11_0) (-1)) = z := ⟨_, rfl⟩
          rw [eF_40] at h_41
          clear eF_40
          exact J_190 _ _ _ _ ⟨(u_39.2.1 0 0), (u_39.2.1 1 0), F_40, (u_39.2.1 3), w39_0, w39_1, rfl, h_41, (lv_sub hl [0, 1, 2, 3, 4, 5, 6] rfl)⟩
        · replace c_23 := i_eq (x := r_20) (y := 0) rfl (show (0 : Int32).toInt = 0 by decide) c_23
          refine lv_goto (tgt := 190) hx hb dX12_goesPairs_122 (by decide) ?_
          exact J_190 _ _ _ _ ⟨v92_11_1, v92_11_2, v92_11_3, v92_11_4, hv92_11_1, hv92_11_2, rfl, h_20, (lv_sub hl [0, 1, 2, 3, 4, 5, 6] rfl)⟩
  · replace c_1 := i_eq (x := p0) (y := 0) rfl (show (0 : Int32).toInt = 0 by decide) c_1
    refine lv_iload_n hx hb dX12_goesPairs_4 rfl (lv_at hl 2 rfl) ?_
    refine lv_aload_n hx hb dX12_goesPairs_5 rfl (lv_at hl 0 rfl) ?_
    refine q_get X hK h 0 rfl rfl wf_12 26 (by decide) rfl wm_5_196 dX12_goesPairs_6 ?_
    refine q_jn (pc2 := 28) (fun H locs ls st => st = [] ∧ qW D (va_A (wk_f147cc4b8 cy h0 p3 h1 w0 w1 w2 p4 p5 p6 p7 p8 p9 p10 p11 p12 p13 p14 w3 w4 w5 h2 w6 p15 p16 w7 h3 h4 p17 p18 w8 w9 w10 w11 w12 p19 w13 w14 w15 h1 f0 h2 f1 h3 f2 h4 f3) sz) s.heap (wk_f147cc4b8 cy h0 p3 h1 w0 w1 w2 p4 p5 p6 p7 p8 p9 p10 p11 p12 p13 p14 w3 w4 w5 h2 w6 p15 p16 w7 h3 h4 p17 p18 w8 w9 w10 w11 w12 p19 w13 w14 w15 h1 f0 h2 f1 h3 f2 h4 f3) H locs ∧ lv_has ls 7 [(0, .ref h0), (1, .int p0), (2, .int p1), (3, .int p2)]) (fun H locs ls st hP => ?_) (fun J_28 => ?_)
    · obtain ⟨rfl, h, hl⟩ := hP
      exact q_vret X hr hlk hK h (fun _ => 0, (vcons (fun _ => p17) (vcons (fun _ => p18) (vcons f2 (vcons f3 (fun _ => (fun _ => 0)))))), fun _ _ => 0) ⟨hp17, hp18, trivial⟩ [0, 1, 2, 3, 4] rfl rfl dX12_goesPairs_28 (Nat.le_of_ble_eq_true rfl) (Nat.le_of_ble_eq_true rfl)
    · skip
      refine lv_icmp_lt (tgt := 28) hx hb dX12_goesPairs_9 (by decide) (fun c_43 => ?_) (fun c_43 => ?_)
      · replace c_43 := i_lt (x := p1) (y := p17) rfl rfl c_43
        exact J_28 _ _ _ _ ⟨rfl, h, (lv_sub hl [0, 1, 2, 3] rfl)⟩
      · replace c_43 := i_nlt (x := p1) (y := p17) rfl rfl c_43
        refine lv_iload_n hx hb dX12_goesPairs_12 rfl (lv_at hl 2 rfl) ?_
        refine lv_aload_n hx hb dX12_goesPairs_13 rfl (lv_at hl 0 rfl) ?_
        refine q_get X hK h 0 rfl rfl wf_12 26 (by decide) rfl wm_5_196 dX12_goesPairs_14 ?_
        refine q_jn (pc2 := 29) (fun H locs ls st => st = [] ∧ qW D (va_A (wk_f147cc4b8 cy h0 p3 h1 w0 w1 w2 p4 p5 p6 p7 p8 p9 p10 p11 p12 p13 p14 w3 w4 w5 h2 w6 p15 p16 w7 h3 h4 p17 p18 w8 w9 w10 w11 w12 p19 w13 w14 w15 h1 f0 h2 f1 h3 f2 h4 f3) sz) s.heap (wk_f147cc4b8 cy h0 p3 h1 w0 w1 w2 p4 p5 p6 p7 p8 p9 p10 p11 p12 p13 p14 w3 w4 w5 h2 w6 p15 p16 w7 h3 h4 p17 p18 w8 w9 w10 w11 w12 p19 w13 w14 w15 h1 f0 h2 f1 h3 f2 h4 f3) H locs ∧ lv_has ls 7 [(0, .ref h0), (1, .int p0), (2, .int p1), (3, .int p2)]) (fun H locs ls st hP => ?_) (fun J_29 => ?_)
        · obtain ⟨rfl, h, hl⟩ := hP
          refine lv_aload_n hx hb dX12_goesPairs_29 rfl (lv_at hl 0 rfl) ?_
          refine lv_iload_n hx hb dX12_goesPairs_30 rfl (lv_at hl 2 rfl) ?_
          refine q_put (v := .int p1) X hK h 0 rfl rfl wf_12 tyX12 tyX12_ok nmX12 26 (by decide) wm_5_196 rfl rfl rfl (Nat.le_of_ble_eq_true rfl) dX12_goesPairs_31 (fun H locs h_45 => ?_)
          clear h
          replace h_45 : qW D _ _ (wk_f147cc4b8 cy h0 p3 h1 w0 w1 w2 p4 p5 p6 p7 p8 p9 p10 p11 p12 p13 p14 w3 w4 w5 h2 w6 p15 p16 w7 h3 h4 p1 p18 w8 w9 w10 w11 w12 p19 w13 w14 w15 h1 f0 h2 f1 h3 f2 h4 f3) _ _ := h_45
          refine lv_aload_n hx hb dX12_goesPairs_34 rfl (lv_at hl 0 rfl) ?_
          refine lv_iload_n hx hb dX12_goesPairs_35 rfl (lv_at hl 3 rfl) ?_
          refine q_put (v := .int p2) X hK h_45 0 rfl rfl wf_12 tyX12 tyX12_ok nmX12 27 (by decide) wm_5_197 rfl rfl rfl (Nat.le_of_ble_eq_true rfl) dX12_goesPairs_36 (fun H locs h_46 => ?_)
          clear h_45
          replace h_46 : qW D _ _ (wk_f147cc4b8 cy h0 p3 h1 w0 w1 w2 p4 p5 p6 p7 p8 p9 p10 p11 p12 p13 p14 w3 w4 w5 h2 w6 p15 p16 w7 h3 h4 p1 p2 w8 w9 w10 w11 w12 p19 w13 w14 w15 h1 f0 h2 f1 h3 f2 h4 f3) _ _ := h_46
          refine lv_iconst (v := 0) hx hb dX12_goesPairs_39 (by decide) ?_
          refine lv_istore (lv' := [(4, .int 0), (0, .ref h0), (1, .int p0), (2, .int p1), (3, .int p2)]) hx hb dX12_goesPairs_40 hl (by decide) rfl (fun ls_47 hl_47 => ?_)
          clear hl
          refine q_wl (fun (v42_48_0 : Int32) H locs ls => ∃ v42_48_1 : Nat → Int32, (0 ≤ (v42_48_0).toInt ∧ (v42_48_0).toInt ≤ 10) ∧ qW D (va_A (wk_f147cc4b8 cy h0 p3 h1 w0 w1 w2 p4 p5 p6 p7 p8 p9 p10 p11 p12 p13 p14 w3 w4 w5 h2 w6 p15 p16 w7 h3 h4 p17 p18 w8 w9 w10 w11 w12 p19 w13 w14 w15 h1 f0 h2 f1 h3 f2 h4 f3) sz) s.heap (wk_f147cc4b8 cy h0 p3 h1 w0 w1 w2 p4 p5 p6 p7 p8 p9 p10 p11 p12 p13 p14 w3 w4 w5 h2 w6 p15 p16 w7 h3 h4 p1 p2 w8 w9 w10 w11 w12 p19 w13 w14 w15 h1 f0 h2 f1 h3 f2 h4 v42_48_1) H locs ∧ lv_has ls 7 [(0, .ref h0), (1, .int p0), (2, .int p1), (3, .int p2), (4, .int v42_48_0)]) (fun (v42_48_0 : Int32) => (11 - (v42_48_0).toInt).toNat) (fun q_42 ih_42 H locs ls hP => ?_) 0 ⟨f3, ⟨by decide +kernel, by decide +kernel⟩, h_46, (lv_sub hl_47 [1, 2, 3, 4, 0] rfl)⟩
          obtain ⟨v42_48_0, rfl⟩ : ∃ z, z = q_42 := ⟨_, rfl⟩
          obtain ⟨v42_48_1, hv42_48_0, h, hl⟩ := hP
          refine lv_iload hx hb dX12_goesPairs_42 (lv_at hl 4 rfl) ?_
          refine lv_bipush (v := 10) hx hb dX12_goesPairs_44 (by decide) ?_
          refine lv_icmp_ge (tgt := 69) hx hb dX12_goesPairs_46 (by decide) (fun c_49 => ?_) (fun c_49 => ?_)
          · replace c_49 := i_le (x := 10) (y := v42_48_0) (show (10 : Int32).toInt = 10 by decide) rfl c_49
            exact q_vret X hr hlk hK h (fun _ => 0, (vcons (fun _ => p1) (vcons (fun _ => p2) (vcons f2 (vcons v42_48_1 (fun _ => (fun _ => 0)))))), fun _ _ => 0) ⟨(bw hp1 (by decide) (by decide)), hp2, trivial⟩ [0, 1, 2, 3, 4] rfl rfl dX12_goesPairs_69 (Nat.le_of_ble_eq_true rfl) (Nat.le_of_ble_eq_true rfl)
          · replace c_49 := i_nle (x := 10) (y := v42_48_0) (show (10 : Int32).toInt = 10 by decide) rfl c_49
            refine lv_aload_n hx hb dX12_goesPairs_49 rfl (lv_at hl 0 rfl) ?_
            refine q_get X hK h 0 rfl rfl wf_12 25 (by decide) rfl wm_5_195 dX12_goesPairs_50 ?_
            refine lv_iload hx hb dX12_goesPairs_53 (lv_at hl 4 rfl) ?_
            refine lv_aload_n hx hb dX12_goesPairs_55 rfl (lv_at hl 0 rfl) ?_
            refine q_get X hK h 0 rfl rfl wf_12 24 (by decide) rfl wm_5_194 dX12_goesPairs_56 ?_
            refine lv_iload hx hb dX12_goesPairs_59 (lv_at hl 4 rfl) ?_
            refine q_iald X hK h 3 rfl (i_in rfl (by omega) (by omega)) dX12_goesPairs_61 ?_
            refine q_any (fun z_50 hz_50 => ?_)
            refine q_iast X hK h 4 rfl (i_in rfl (by omega) (by omega)) dX12_goesPairs_62 (fun H locs h_52 => ?_)
            clear h
            replace h_52 : qW D _ _ (wk_f147cc4b8 cy h0 p3 h1 w0 w1 w2 p4 p5 p6 p7 p8 p9 p10 p11 p12 p13 p14 w3 w4 w5 h2 w6 p15 p16 w7 h3 h4 p1 p2 w8 w9 w10 w11 w12 p19 w13 w14 w15 h1 f0 h2 f1 h3 f2 h4 (upd v42_48_1 (Int32.toNatClampNeg v42_48_0) z_50)) _ _ := h_52
            obtain ⟨F_51, eF_51⟩ : ∃ z, (upd v42_48_1 (Int32.toNatClampNeg v42_48_0) z_50) = z := ⟨_, rfl⟩
            rw [eF_51] at h_52
            clear eF_51
            obtain ⟨z_53, ez_53, hz_53⟩ := e_add (x := v42_48_0) (y := Int32.ofInt 1) rfl (b := 1) (by decide) (by omega) (by omega)
            refine lv_iinc (v := z_53) (lv' := [(4, .int z_53), (0, .ref h0), (1, .int p0), (2, .int p1), (3, .int p2)]) hx hb dX12_goesPairs_63 hl (k := 4) rfl ez_53 (by decide) rfl (fun ls_53 hl_53 => ?_)
            clear hl
            refine lv_goto (tgt := 42) hx hb dX12_goesPairs_66 (by decide) ?_
            exact ih_42 z_53 (by show (11 - (z_53).toInt).toNat < (11 - (v42_48_0).toInt).toNat; omega) _ _ _ ⟨F_51, ⟨by omega, by omega⟩, h_52, (lv_sub hl_53 [1, 2, 3, 4, 0] rfl)⟩
        · skip
          refine lv_icmp_ne (tgt := 29) hx hb dX12_goesPairs_17 (by decide) (fun c_54 => ?_) (fun c_54 => ?_)
          · replace c_54 := i_ne (x := p1) (y := p17) rfl rfl c_54
            exact J_29 _ _ _ _ ⟨rfl, h, (lv_sub hl [0, 1, 2, 3] rfl)⟩
          · replace c_54 := i_eq (x := p1) (y := p17) rfl rfl c_54
            refine lv_iload_n hx hb dX12_goesPairs_20 rfl (lv_at hl 3 rfl) ?_
            refine lv_aload_n hx hb dX12_goesPairs_21 rfl (lv_at hl 0 rfl) ?_
            refine q_get X hK h 0 rfl rfl wf_12 27 (by decide) rfl wm_5_197 dX12_goesPairs_22 ?_
            refine lv_icmp_gt (tgt := 29) hx hb dX12_goesPairs_25 (by decide) (fun c_55 => ?_) (fun c_55 => ?_)
            · replace c_55 := i_lt (x := p18) (y := p2) rfl rfl c_55
              exact J_29 _ _ _ _ ⟨rfl, h, (lv_sub hl [0, 1, 2, 3] rfl)⟩
            · replace c_55 := i_nlt (x := p18) (y := p2) rfl rfl c_55
              exact J_28 _ _ _ _ ⟨rfl, h, (lv_sub hl [0, 1, 2, 3] rfl)⟩
set_option maxHeartbeats 4000000 in
set_option maxRecDepth 100000 in
theorem gX12_goesPairs_bfead1d (l : Launch) (D : va_G) (cy : Nat → ClassId) (h0 : Nat) (h1 : Nat) (h2 : Nat) (h3 : Nat) (h4 : Nat) (p0 : Int32) (p1 : Int32) (p2 : Int32) (p3 : Int32) (w0 : Value) (w1 : Value) (w2 : Value) (p4 : Int32) (p5 : Int32) (p6 : Int32) (p7 : Int32) (p8 : Int32) (p9 : Int32) (p10 : Int32) (p11 : Int32) (p12 : Int32) (p13 : Int32) (p14 : Int32) (w3 : Value) (w4 : Value) (w5 : Value) (w6 : Value) (p15 : Int32) (p16 : Int32) (w7 : Value) (p17 : Int32) (p18 : Int32) (w8 : Value) (w9 : Value) (w10 : Value) (w11 : Value) (w12 : Value) (p19 : Int32) (w13 : Value) (w14 : Value) (w15 : Value) (f0 : Nat → Int32) (p20 : Int32) (f1 : Nat → Int32) (f2 : Nat → Int32) (f3 : Nat → Int32) (hp0 : 0 ≤ (p0).toInt ∧ (p0).toInt ≤ 1023) (hp1 : 0 ≤ (p1).toInt ∧ (p1).toInt ≤ 1) (hp2 : (-2147483648) ≤ (p2).toInt ∧ (p2).toInt ≤ 2147483647) (hp3 : 0 ≤ (p3).toInt ∧ (p3).toInt ≤ 0) (hp4 : 0 ≤ (p4).toInt ∧ (p4).toInt ≤ 900) (hp5 : 0 ≤ (p5).toInt ∧ (p5).toInt ≤ 900) (hp6 : 0 ≤ (p6).toInt ∧ (p6).toInt ≤ 900) (hp7 : 0 ≤ (p7).toInt ∧ (p7).toInt ≤ 900) (hp8 : (-2147483648) ≤ (p8).toInt ∧ (p8).toInt ≤ 2147483647) (hp9 : 0 ≤ (p9).toInt ∧ (p9).toInt ≤ 999) (hp10 : (-2147483648) ≤ (p10).toInt ∧ (p10).toInt ≤ 2147483647) (hp11 : (-2147483648) ≤ (p11).toInt ∧ (p11).toInt ≤ 2147483647) (hp12 : (-2147483648) ≤ (p12).toInt ∧ (p12).toInt ≤ 2147483647) (hp13 : (-2147483648) ≤ (p13).toInt ∧ (p13).toInt ≤ 2147483647) (hp14 : (-2147483648) ≤ (p14).toInt ∧ (p14).toInt ≤ 2147483647) (hp15 : (-2147483648) ≤ (p15).toInt ∧ (p15).toInt ≤ 2147483647) (hp16 : (-2147483648) ≤ (p16).toInt ∧ (p16).toInt ≤ 2147483647) (hp17 : (-1) ≤ (p17).toInt ∧ (p17).toInt ≤ 10) (hp18 : (-2147483648) ≤ (p18).toInt ∧ (p18).toInt ≤ 2147483647) (hp19 : (-2147483648) ≤ (p19).toInt ∧ (p19).toInt ≤ 2147483647) (hp20 : 0 ≤ (p20).toInt ∧ (p20).toInt ≤ 10) (htf0_84 : f0 84 = p20) (rf0 : AL f0) (rf1 : RG f1 10 0 1023) (hpre0 : (p0 : Int32).toInt % 2 = 0) (sz : Nat) : MV l yX12_goesPairs cX12_goesPairs 7 { frames := 10, cells := 0, slots := 0, locals := 251 } [.ref h0, .int p0, .int p1, .int p2] D cy (wk_f147cc4b8 cy h0 p3 h1 w0 w1 w2 p4 p5 p6 p7 p8 p9 p10 p11 p12 p13 p14 w3 w4 w5 h2 w6 p15 p16 w7 h3 h4 p17 p18 w8 w9 w10 w11 w12 p19 w13 w14 w15 h1 f0 h2 f1 h3 f2 h4 f3) sz (fun u => ((-1) ≤ (u.2.1 0 0).toInt ∧ (u.2.1 0 0).toInt ≤ 10) ∧ ((-2147483648) ≤ (u.2.1 1 0).toInt ∧ (u.2.1 1 0).toInt ≤ 2147483647) ∧ True) (fun u => (wk_f147cc4b8 cy h0 p3 h1 w0 w1 w2 p4 p5 p6 p7 p8 p9 p10 p11 p12 p13 p14 w3 w4 w5 h2 w6 p15 p16 w7 h3 h4 (u.2.1 0 0) (u.2.1 1 0) w8 w9 w10 w11 w12 p19 w13 w14 w15 h1 f0 h2 f1 h3 (u.2.1 2) h4 (u.2.1 3))) 0 0 := by
  refine q_ent (own := RX12) (by decide) rfl (Nat.le_of_ble_eq_true rfl) (fun p e s m below meth c ls X hr hlk hnm hK hT h hA hl => ?_)
  obtain ⟨hx, hb, hml, hown, ht⟩ := id X
  replace hl : lv_has ls 7 [(0, .ref h0), (1, .int p0), (2, .int p1), (3, .int p2)] := hl
  refine lv_iload_n hx hb dX12_goesPairs_0 rfl (lv_at hl 1 rfl) ?_
  refine lv_if_ne (tgt := 70) hx hb dX12_goesPairs_1 (by decide) (fun c_1 => ?_) (fun c_1 => ?_)
  · replace c_1 := i_ne (x := p0) (y := 0) rfl (show (0 : Int32).toInt = 0 by decide) c_1
    refine lv_iload_n hx hb dX12_goesPairs_70 rfl (lv_at hl 1 rfl) ?_
    refine q_callSi (rest := []) (wr := (wk_f147cc4b8 cy h0 p3 h1 w0 w1 w2 p4 p5 p6 p7 p8 p9 p10 p11 p12 p13 p14 w3 w4 w5 h2 w6 p15 p16 w7 h3 h4 p17 p18 w8 w9 w10 w11 w12 p19 w13 w14 w15 h1 f0 h2 f1 h3 f2 h4 f3)) X hK hT hA h (fun sz => gX12_lowest_51df8cb l D cy p0 ⟨by omega, by omega⟩ sz) wm_7_67 wm_7_69 wm_1_12 hd_X12_lowest wm_7_68 ⟨Nat.le_of_ble_eq_true rfl, Nat.le_of_ble_eq_true rfl⟩ hl.1 rfl (Nat.le_of_ble_eq_true rfl) dX12_goesPairs_71 ⟨Nat.le_of_ble_eq_true rfl, Nat.le_of_ble_eq_true rfl⟩ [] [0, 1, 2, 3, 4] rfl rfl (by decide) rfl rfl (fun r_2 u_2 H locs w_2 h_2 => ?_)
    clear h
    obtain ⟨wr_2, y2_0, _⟩ := w_2
    replace h_2 : qW D _ _ (wk_f147cc4b8 cy h0 p3 h1 w0 w1 w2 p4 p5 p6 p7 p8 p9 p10 p11 p12 p13 p14 w3 w4 w5 h2 w6 p15 p16 w7 h3 h4 p17 p18 w8 w9 w10 w11 w12 p19 w13 w14 w15 h1 f0 h2 f1 h3 f2 h4 f3) _ _ := h_2
    refine lv_istore (lv' := [(4, .int r_2), (0, .ref h0), (1, .int p0), (2, .int p1), (3, .int p2)]) hx hb dX12_goesPairs_74 hl (by decide) rfl (fun ls_3 hl_3 => ?_)
    clear hl
    refine lv_iload_n hx hb dX12_goesPairs_76 rfl (lv_at hl_3 2 rfl) ?_
    refine lv_iconst (v := 1) hx hb dX12_goesPairs_77 (by decide) ?_
    refine lv_iload hx hb dX12_goesPairs_78 (lv_at hl_3 0 rfl) ?_
    refine lv_ishl hx hb dX12_goesPairs_80 ?_
    obtain ⟨z_4, ez_4, hz_4⟩ := e_shlk (p := r_2) 9 (by decide) rfl (by omega) (by omega)
    refine q_c z_4 ez_4 ?_
    refine lv_iconst (v := (-1)) hx hb dX12_goesPairs_81 (by decide) ?_
    refine lv_ixor hx hb dX12_goesPairs_82 ?_
    obtain ⟨z_5, ez_5, hz_5⟩ := e_any (z_4 ^^^ (-1))
    refine q_c z_5 ez_5 ?_
    refine lv_iand hx hb dX12_goesPairs_83 ?_
    obtain ⟨z_6, ez_6, hz_6⟩ := e_and1 (x := p0) (y := z_5) rfl (by omega)
    refine q_c z_6 ez_6 ?_
    have rs_7 := rest_low 1 (by omega) y2_0 (by omega) ez_4 ez_5 ez_6
    refine lv_istore (lv' := [(5, .int z_6), (4, .int r_2), (0, .ref h0), (1, .int p0), (2, .int p1), (3, .int p2)]) hx hb dX12_goesPairs_84 hl_3 (by decide) rfl (fun ls_8 hl_8 => ?_)
    clear hl_3
    refine lv_iload hx hb dX12_goesPairs_86 (lv_at hl_8 1 rfl) ?_
    refine lv_iconst (v := 1) hx hb dX12_goesPairs_88 (by decide) ?_
    refine lv_iadd hx hb dX12_goesPairs_89 ?_
    obtain ⟨z_9, ez_9, hz_9⟩ := e_add (x := r_2) (y := 1) rfl (show (1 : Int32).toInt = 1 by decide) (by omega) (by omega)
    refine q_c z_9 ez_9 ?_
    clear ez_9
    refine lv_istore (lv' := [(6, .int z_9), (5, .int z_6), (4, .int r_2), (0, .ref h0), (1, .int p0), (2, .int p1), (3, .int p2)]) hx hb dX12_goesPairs_90 hl_8 (by decide) rfl (fun ls_10 hl_10 => ?_)
    clear hl_8
    refine q_wl (fun (q : Int32 × Int32 × Int32) H locs ls => match q with | (v92_11_0, v92_11_1, v92_11_2) => ∃ v92_11_3 : Nat → Int32, ∃ v92_11_4 : Nat → Int32, (1 ≤ (v92_11_0).toInt ∧ (v92_11_0).toInt ≤ 10) ∧ ((-1) ≤ (v92_11_1).toInt ∧ (v92_11_1).toInt ≤ 10) ∧ ((-2147483648) ≤ (v92_11_2).toInt ∧ (v92_11_2).toInt ≤ 2147483647) ∧ qW D (va_A (wk_f147cc4b8 cy h0 p3 h1 w0 w1 w2 p4 p5 p6 p7 p8 p9 p10 p11 p12 p13 p14 w3 w4 w5 h2 w6 p15 p16 w7 h3 h4 p17 p18 w8 w9 w10 w11 w12 p19 w13 w14 w15 h1 f0 h2 f1 h3 f2 h4 f3) sz) s.heap (wk_f147cc4b8 cy h0 p3 h1 w0 w1 w2 p4 p5 p6 p7 p8 p9 p10 p11 p12 p13 p14 w3 w4 w5 h2 w6 p15 p16 w7 h3 h4 v92_11_1 v92_11_2 w8 w9 w10 w11 w12 p19 w13 w14 w15 h1 f0 h2 f1 h3 v92_11_3 h4 v92_11_4) H locs ∧ lv_has ls 7 [(0, .ref h0), (1, .int p0), (2, .int p1), (3, .int p2), (4, .int r_2), (5, .int z_6), (6, .int v92_11_0)]) (fun (q : Int32 × Int32 × Int32) => match q with | (v92_11_0, v92_11_1, v92_11_2) => (11 - (v92_11_0).toInt).toNat) (fun q_92 ih_92 H locs ls hP => ?_) (z_9, p17, p18) ⟨f2, f3, ⟨by omega, by omega⟩, hp17, hp18, h_2, (lv_sub hl_10 [3, 4, 5, 6, 2, 1, 0] rfl)⟩
    obtain ⟨v92_11_0, v92_11_1, v92_11_2⟩ := q_92
    obtain ⟨v92_11_3, v92_11_4, hv92_11_0, hv92_11_1, hv92_11_2, h, hl⟩ := hP
    refine lv_iload hx hb dX12_goesPairs_92 (lv_at hl 6 rfl) ?_
    refine lv_aload_n hx hb dX12_goesPairs_94 rfl (lv_at hl 0 rfl) ?_
    refine q_get X hK h 0 rfl rfl wf_12 1 (by decide) rfl wm_5_171 dX12_goesPairs_95 ?_
    refine lv_iconst (v := 2) hx hb dX12_goesPairs_98 (by decide) ?_
    refine q_iald X hK h 1 rfl (q_in (by decide +kernel)) dX12_goesPairs_99 ?_
    obtain ⟨z_12, ez_12, hz_12⟩ := al_P rf0 (x := 2) (show (2 : Int32).toInt = 2 by decide) (by omega) (by omega)
    refine q_c z_12 ez_12 ?_
    clear ez_12
    refine lv_icmp_ge (tgt := 196) hx hb dX12_goesPairs_100 (by decide) (fun c_13 => ?_) (fun c_13 => ?_)
    · replace c_13 := i_le (x := z_12) (y := v92_11_0) rfl rfl c_13
      refine lv_aload_n hx hb dX12_goesPairs_196 rfl (lv_at hl 0 rfl) ?_
      refine q_get X hK h 0 rfl rfl wf_12 24 (by decide) rfl wm_5_194 dX12_goesPairs_197 ?_
      refine lv_iload hx hb dX12_goesPairs_200 (lv_at hl 4 rfl) ?_
      refine lv_iconst (v := (-1)) hx hb dX12_goesPairs_202 (by decide) ?_
      refine q_iast X hK h 3 rfl (i_in rfl (by omega) (by omega)) dX12_goesPairs_203 (fun H locs h_15 => ?_)
      clear h
      replace h_15 : qW D _ _ (wk_f147cc4b8 cy h0 p3 h1 w0 w1 w2 p4 p5 p6 p7 p8 p9 p10 p11 p12 p13 p14 w3 w4 w5 h2 w6 p15 p16 w7 h3 h4 v92_11_1 v92_11_2 w8 w9 w10 w11 w12 p19 w13 w14 w15 h1 f0 h2 f1 h3 (upd v92_11_3 (Int32.toNatClampNeg r_2) (-1)) h4 v92_11_4) _ _ := h_15
      obtain ⟨F_14, eF_14⟩ : ∃ z, (upd v92_11_3 (Int32.toNatClampNeg r_2) (-1)) = z := ⟨_, rfl⟩
      rw [eF_14] at h_15
      clear eF_14
      refine lv_aload_n hx hb dX12_goesPairs_204 rfl (lv_at hl 0 rfl) ?_
      refine lv_iload hx hb dX12_goesPairs_205 (lv_at hl 5 rfl) ?_
      refine lv_iload_n hx hb dX12_goesPairs_207 rfl (lv_at hl 2 rfl) ?_
      refine lv_iload_n hx hb dX12_goesPairs_208 rfl (lv_at hl 3 rfl) ?_
      refine q_callVv (rest := []) (wr := []) X hK hT hA h_15 (fun sz => gX12_goesPairs_524dcef l D cy h0 h1 h2 h3 h4 z_6 p1 p2 p3 w0 w1 w2 p4 p5 p6 p7 p8 p9 p10 p11 p12 p13 p14 w3 w4 w5 w6 p15 p16 w7 v92_11_1 v92_11_2 w8 w9 w10 w11 w12 p19 w13 w14 w15 f0 p20 f1 F_14 v92_11_4 ⟨by omega, by omega⟩ (bw hp1 (by decide) (by decide)) (i_rng _) hp3 hp4 hp5 hp6 hp7 (i_rng _) hp9 (i_rng _) (i_rng _) (i_rng _) (i_rng _) (i_rng _) (i_rng _) (i_rng _) hv92_11_1 (i_rng _) (i_rng _) hp20 htf0_84 rf0 (rg_wide rf1 (by decide) (by decide)) ((show _ % 4 = 0 from rs_7.1)) sz) wm_7_116 wm_7_119 wm_1_12 hd_X12_goesPairs wm_7_118 wp_7_4 (ci := 12) (q0 := 0) rfl rfl ⟨Nat.le_of_ble_eq_true rfl, Nat.le_of_ble_eq_true rfl⟩ hl.1 rfl (Nat.le_of_ble_eq_true rfl) dX12_goesPairs_209 ⟨Nat.le_of_ble_eq_true rfl, Nat.le_of_ble_eq_true rfl⟩ [0, 1, 2, 3, 4] [] rfl rfl (by decide) rfl rfl (fun u_16 H locs w_16 h_16 => ?_)
      clear h_15
      obtain ⟨w16_0, w16_1, _⟩ := w_16
      replace h_16 : qW D _ _ (wk_f147cc4b8 cy h0 p3 h1 w0 w1 w2 p4 p5 p6 p7 p8 p9 p10 p11 p12 p13 p14 w3 w4 w5 h2 w6 p15 p16 w7 h3 h4 (u_16.2.1 0 0) (u_16.2.1 1 0) w8 w9 w10 w11 w12 p19 w13 w14 w15 h1 f0 h2 f1 h3 (u_16.2.1 2) h4 (u_16.2.1 3)) _ _ := h_16
      exact q_vret X hr hlk hK h_16 (fun _ => 0, (vcons (fun _ => (u_16.2.1 0 0)) (vcons (fun _ => (u_16.2.1 1 0)) (vcons (u_16.2.1 2) (vcons (u_16.2.1 3) (fun _ => (fun _ => 0)))))), fun _ _ => 0) ⟨w16_0, w16_1, trivial⟩ [0, 1, 2, 3, 4] rfl rfl dX12_goesPairs_212 (Nat.le_of_ble_eq_true rfl) (Nat.le_of_ble_eq_true rfl)
    · replace c_13 := i_nle (x := z_12) (y := v92_11_0) rfl rfl c_13
      refine lv_iload hx hb dX12_goesPairs_103 (lv_at hl 5 rfl) ?_
      refine lv_aload_n hx hb dX12_goesPairs_105 rfl (lv_at hl 0 rfl) ?_
      refine q_get X hK h 0 rfl rfl wf_12 19 (by decide) rfl wm_5_189 dX12_goesPairs_106 ?_
      refine lv_iload hx hb dX12_goesPairs_109 (lv_at hl 4 rfl) ?_
      refine q_iald X hK h 2 rfl (i_in rfl (by omega) (by omega)) dX12_goesPairs_111 ?_
      obtain ⟨z_17, ez_17, hz_17⟩ := rg_get rf1 (x := r_2) rfl (by omega) (by omega)
      refine q_c z_17 ez_17 ?_
      clear ez_17
      refine lv_iand hx hb dX12_goesPairs_112 ?_
      obtain ⟨z_18, ez_18, hz_18⟩ := e_and2 (x := z_6) (y := z_17) rfl (by omega)
      refine q_c z_18 ez_18 ?_
      clear ez_18
      refine lv_i2l hx hb dX12_goesPairs_113 rfl ?_
      obtain ⟨z_19, ez_19, hz_19⟩ := e_i2l (x := z_18) rfl
      refine q_cl z_19 ez_19 ?_
      clear ez_19
      refine lv_iload hx hb dX12_goesPairs_114 (lv_at hl 6 rfl) ?_
      refine q_callSi (rest := []) (wr := (wk_f147cc4b8 cy h0 p3 h1 w0 w1 w2 p4 p5 p6 p7 p8 p9 p10 p11 p12 p13 p14 w3 w4 w5 h2 w6 p15 p16 w7 h3 h4 v92_11_1 v92_11_2 w8 w9 w10 w11 w12 p19 w13 w14 w15 h1 f0 h2 f1 h3 v92_11_3 h4 v92_11_4)) X hK hT hA h (fun sz => gX12_isIn_b0455a8 l D cy z_19 v92_11_0 ⟨by omega, by omega⟩ ⟨by omega, by omega⟩ sz) wm_6_167 wm_6_169 wm_1_12 hd_X12_isIn wm_6_168 ⟨Nat.le_of_ble_eq_true rfl, Nat.le_of_ble_eq_true rfl⟩ hl.1 rfl (Nat.le_of_ble_eq_true rfl) dX12_goesPairs_116 ⟨Nat.le_of_ble_eq_true rfl, Nat.le_of_ble_eq_true rfl⟩ [] [0, 1, 2, 3, 4] rfl rfl (by decide) rfl rfl (fun r_20 u_20 H locs w_20 h_20 => ?_)
      clear h
      obtain ⟨wr_20, _⟩ := w_20
      replace h_20 : qW D _ _ (wk_f147cc4b8 cy h0 p3 h1 w0 w1 w2 p4 p5 p6 p7 p8 p9 p10 p11 p12 p13 p14 w3 w4 w5 h2 w6 p15 p16 w7 h3 h4 v92_11_1 v92_11_2 w8 w9 w10 w11 w12 p19 w13 w14 w15 h1 f0 h2 f1 h3 v92_11_3 h4 v92_11_4) _ _ := h_20
      refine q_jn (pc2 := 190) (fun H locs ls st => ∃ v190_21_0 : Int32, ∃ v190_21_1 : Int32, ∃ v190_21_2 : Nat → Int32, ∃ v190_21_3 : Nat → Int32, ((-1) ≤ (v190_21_0).toInt ∧ (v190_21_0).toInt ≤ 10) ∧ ((-2147483648) ≤ (v190_21_1).toInt ∧ (v190_21_1).toInt ≤ 2147483647) ∧ st = [] ∧ qW D (va_A (wk_f147cc4b8 cy h0 p3 h1 w0 w1 w2 p4 p5 p6 p7 p8 p9 p10 p11 p12 p13 p14 w3 w4 w5 h2 w6 p15 p16 w7 h3 h4 p17 p18 w8 w9 w10 w11 w12 p19 w13 w14 w15 h1 f0 h2 f1 h3 f2 h4 f3) sz) s.heap (wk_f147cc4b8 cy h0 p3 h1 w0 w1 w2 p4 p5 p6 p7 p8 p9 p10 p11 p12 p13 p14 w3 w4 w5 h2 w6 p15 p16 w7 h3 h4 v190_21_0 v190_21_1 w8 w9 w10 w11 w12 p19 w13 w14 w15 h1 f0 h2 f1 h3 v190_21_2 h4 v190_21_3) H locs ∧ lv_has ls 7 [(0, .ref h0), (1, .int p0), (2, .int p1), (3, .int p2), (4, .int r_2), (5, .int z_6), (6, .int v92_11_0)]) (fun H locs ls st hP => ?_) (fun J_190 => ?_)
      · obtain ⟨v190_21_0, v190_21_1, v190_21_2, v190_21_3, hv190_21_0, hv190_21_1, rfl, h, hl⟩ := hP
        obtain ⟨z_22, ez_22, hz_22⟩ := e_add (x := v92_11_0) (y := Int32.ofInt 1) rfl (b := 1) (by decide) (by omega) (by omega)
        refine lv_iinc (v := z_22) (lv' := [(6, .int z_22), (0, .ref h0), (1, .int p0), (2, .int p1), (3, .int p2), (4, .int r_2), (5, .int z_6)]) hx hb dX12_goesPairs_190 hl (k := 6) rfl ez_22 (by decide) rfl (fun ls_22 hl_22 => ?_)
        clear hl
        refine lv_goto (tgt := 92) hx hb dX12_goesPairs_193 (by decide) ?_
        exact ih_92 (z_22, v190_21_0, v190_21_1) (by show (11 - (z_22).toInt).toNat < (11 - (v92_11_0).toInt).toNat; omega) _ _ _ ⟨v190_21_2, v190_21_3, ⟨by omega, by omega⟩, hv190_21_0, hv190_21_1, h, (lv_sub hl_22 [1, 2, 3, 4, 5, 6, 0] rfl)⟩
      · skip
        refine lv_if_ne (tgt := 125) hx hb dX12_goesPairs_119 (by decide) (fun c_23 => ?_) (fun c_23 => ?_)
        · replace c_23 := i_ne (x := r_20) (y := 0) rfl (show (0 : Int32).toInt = 0 by decide) c_23
          refine lv_aload_n hx hb dX12_goesPairs_125 rfl (lv_at hl 0 rfl) ?_
          refine q_get X hK h_20 0 rfl rfl wf_12 24 (by decide) rfl wm_5_194 dX12_goesPairs_126 ?_
          refine lv_iload hx hb dX12_goesPairs_129 (lv_at hl 4 rfl) ?_
          refine lv_iload hx hb dX12_goesPairs_131 (lv_at hl 6 rfl) ?_
          refine q_iast X hK h_20 3 rfl (i_in rfl (by omega) (by omega)) dX12_goesPairs_133 (fun H locs h_25 => ?_)
          clear h_20
          replace h_25 : qW D _ _ (wk_f147cc4b8 cy h0 p3 h1 w0 w1 w2 p4 p5 p6 p7 p8 p9 p10 p11 p12 p13 p14 w3 w4 w5 h2 w6 p15 p16 w7 h3 h4 v92_11_1 v92_11_2 w8 w9 w10 w11 w12 p19 w13 w14 w15 h1 f0 h2 f1 h3 (upd v92_11_3 (Int32.toNatClampNeg r_2) v92_11_0) h4 v92_11_4) _ _ := h_25
          obtain ⟨F_24, eF_24⟩ : ∃ z, (upd v92_11_3 (Int32.toNatClampNeg r_2) v92_11_0) = z := ⟨_, rfl⟩
          rw [eF_24] at h_25
          clear eF_24
          refine lv_aload_n hx hb dX12_goesPairs_134 rfl (lv_at hl 0 rfl) ?_
          refine q_get X hK h_25 0 rfl rfl wf_12 24 (by decide) rfl wm_5_194 dX12_goesPairs_135 ?_
          refine lv_iload hx hb dX12_goesPairs_138 (lv_at hl 6 rfl) ?_
          refine lv_iload hx hb dX12_goesPairs_140 (lv_at hl 4 rfl) ?_
          refine q_iast X hK h_25 3 rfl (i_in rfl (by omega) (by omega)) dX12_goesPairs_142 (fun H locs h_27 => ?_)
          clear h_25
          replace h_27 : qW D _ _ (wk_f147cc4b8 cy h0 p3 h1 w0 w1 w2 p4 p5 p6 p7 p8 p9 p10 p11 p12 p13 p14 w3 w4 w5 h2 w6 p15 p16 w7 h3 h4 v92_11_1 v92_11_2 w8 w9 w10 w11 w12 p19 w13 w14 w15 h1 f0 h2 f1 h3 (upd F_24 (Int32.toNatClampNeg v92_11_0) r_2) h4 v92_11_4) _ _ := h_27
          obtain ⟨F_26, eF_26⟩ : ∃ z, (upd F_24 (Int32.toNatClampNeg v92_11_0) r_2) = z := ⟨_, rfl⟩
          rw [eF_26] at h_27
          clear eF_26
          refine lv_aload_n hx hb dX12_goesPairs_143 rfl (lv_at hl 0 rfl) ?_
          refine lv_iload hx hb dX12_goesPairs_144 (lv_at hl 5 rfl) ?_
          refine lv_iconst (v := 1) hx hb dX12_goesPairs_146 (by decide) ?_
          refine lv_iload hx hb dX12_goesPairs_147 (lv_at hl 6 rfl) ?_
          refine lv_ishl hx hb dX12_goesPairs_149 ?_
          obtain ⟨z_28, ez_28, hz_28⟩ := e_shlk (p := v92_11_0) 9 (by decide) rfl (by omega) (by omega)
          refine q_c z_28 ez_28 ?_
          clear ez_28
          refine lv_iconst (v := (-1)) hx hb dX12_goesPairs_150 (by decide) ?_
          refine lv_ixor hx hb dX12_goesPairs_151 ?_
          refine q_any (fun z_29 hz_29 => ?_)
          refine lv_iand hx hb dX12_goesPairs_152 ?_
          obtain ⟨z_30, ez_30, hz_30⟩ := e_and1 (x := z_6) (y := z_29) rfl (by omega)
          refine q_c z_30 ez_30 ?_
          have ad_31 := and_div 2 (by omega) rs_7.1 ez_30
          refine lv_iload_n hx hb dX12_goesPairs_153 rfl (lv_at hl 2 rfl) ?_
          refine lv_iconst (v := 1) hx hb dX12_goesPairs_154 (by decide) ?_
          refine lv_iadd hx hb dX12_goesPairs_155 ?_
          obtain ⟨z_32, ez_32, hz_32⟩ := e_add (x := p1) (y := 1) rfl (show (1 : Int32).toInt = 1 by decide) (by omega) (by omega)
          refine q_c z_32 ez_32 ?_
          clear ez_32
          refine lv_iload_n hx hb dX12_goesPairs_156 rfl (lv_at hl 3 rfl) ?_
          refine lv_aload_n hx hb dX12_goesPairs_157 rfl (lv_at hl 0 rfl) ?_
          refine q_get X hK h_27 0 rfl rfl wf_12 1 (by decide) rfl wm_5_171 dX12_goesPairs_158 ?_
          refine lv_bipush (v := 42) hx hb dX12_goesPairs_161 (by decide) ?_
          refine lv_iload hx hb dX12_goesPairs_163 (lv_at hl 4 rfl) ?_
          refine lv_iadd hx hb dX12_goesPairs_165 ?_
          obtain ⟨z_33, ez_33, hz_33⟩ := e_add (x := 42) (y := r_2) (show (42 : Int32).toInt = 42 by decide) rfl (by omega) (by omega)
          refine q_c z_33 ez_33 ?_
          clear ez_33
          refine q_iald X hK h_27 1 rfl (i_in rfl (by omega) (by omega)) dX12_goesPairs_166 ?_
          refine q_any (fun z_34 hz_34 => ?_)
          refine lv_iadd hx hb dX12_goesPairs_167 ?_
          refine q_any (fun z_35 hz_35 => ?_)
          refine lv_aload_n hx hb dX12_goesPairs_168 rfl (lv_at hl 0 rfl) ?_
          refine q_get X hK h_27 0 rfl rfl wf_12 1 (by decide) rfl wm_5_171 dX12_goesPairs_169 ?_
          refine lv_bipush (v := 42) hx hb dX12_goesPairs_172 (by decide) ?_
          refine lv_iload hx hb dX12_goesPairs_174 (lv_at hl 6 rfl) ?_
          refine lv_iadd hx hb dX12_goesPairs_176 ?_
          obtain ⟨z_36, ez_36, hz_36⟩ := e_add (x := 42) (y := v92_11_0) (show (42 : Int32).toInt = 42 by decide) rfl (by omega) (by omega)
          refine q_c z_36 ez_36 ?_
          clear ez_36
          refine q_iald X hK h_27 1 rfl (i_in rfl (by omega) (by omega)) dX12_goesPairs_177 ?_
          refine q_any (fun z_37 hz_37 => ?_)
          refine lv_iadd hx hb dX12_goesPairs_178 ?_
          refine q_any (fun z_38 hz_38 => ?_)
          refine q_callVv (rest := []) (wr := []) X hK hT hA h_27 (fun sz => gX12_goesPairs_524dcef l D cy h0 h1 h2 h3 h4 z_30 z_32 z_38 p3 w0 w1 w2 p4 p5 p6 p7 p8 p9 p10 p11 p12 p13 p14 w3 w4 w5 w6 p15 p16 w7 v92_11_1 v92_11_2 w8 w9 w10 w11 w12 p19 w13 w14 w15 f0 p20 f1 F_26 v92_11_4 ⟨by omega, by omega⟩ ⟨by omega, by omega⟩ (i_rng _) hp3 hp4 hp5 hp6 hp7 (i_rng _) hp9 (i_rng _) (i_rng _) (i_rng _) (i_rng _) (i_rng _) (i_rng _) (i_rng _) hv92_11_1 (i_rng _) (i_rng _) hp20 htf0_84 rf0 (rg_wide rf1 (by decide) (by decide)) ((show _ % 4 = 0 from ad_31)) sz) wm_7_116 wm_7_119 wm_1_12 hd_X12_goesPairs wm_7_118 wp_7_4 (ci := 12) (q0 := 0) rfl rfl ⟨Nat.le_of_ble_eq_true rfl, Nat.le_of_ble_eq_true rfl⟩ hl.1 rfl (Nat.le_of_ble_eq_true rfl) dX12_goesPairs_179 ⟨Nat.le_of_ble_eq_true rfl, Nat.le_of_ble_eq_true rfl⟩ [0, 1, 2, 3, 4] [] rfl rfl (by decide) rfl rfl (fun u_39 H locs w_39 h_39 => ?_)
          clear h_27
          obtain ⟨w39_0, w39_1, _⟩ := w_39
          replace h_39 : qW D _ _ (wk_f147cc4b8 cy h0 p3 h1 w0 w1 w2 p4 p5 p6 p7 p8 p9 p10 p11 p12 p13 p14 w3 w4 w5 h2 w6 p15 p16 w7 h3 h4 (u_39.2.1 0 0) (u_39.2.1 1 0) w8 w9 w10 w11 w12 p19 w13 w14 w15 h1 f0 h2 f1 h3 (u_39.2.1 2) h4 (u_39.2.1 3)) _ _ := h_39
          refine lv_aload_n hx hb dX12_goesPairs_182 rfl (lv_at hl 0 rfl) ?_
          refine q_get X hK h_39 0 rfl rfl wf_12 24 (by decide) rfl wm_5_194 dX12_goesPairs_183 ?_
          refine lv_iload hx hb dX12_goesPairs_186 (lv_at hl 6 rfl) ?_
          refine lv_iconst (v := (-1)) hx hb dX12_goesPairs_188 (by decide) ?_
          refine q_iast X hK h_39 3 rfl (i_in rfl (by omega) (by omega)) dX12_goesPairs_189 (fun H locs h_41 => ?_)
          clear h_39
          replace h_41 : qW D _ _ (wk_f147cc4b8 cy h0 p3 h1 w0 w1 w2 p4 p5 p6 p7 p8 p9 p10 p11 p12 p13 p14 w3 w4 w5 h2 w6 p15 p16 w7 h3 h4 (u_39.2.1 0 0) (u_39.2.1 1 0) w8 w9 w10 w11 w12 p19 w13 w14 w15 h1 f0 h2 f1 h3 (upd (u_39.2.1 2) (Int32.toNatClampNeg v92_11_0) (-1)) h4 (u_39.2.1 3)) _ _ := h_41
          obtain ⟨F_40, eF_40⟩ : ∃ z, (upd (u_39.2.1 2) (Int32.toNatClampNeg v92_11_0) (-1)) = z := ⟨_, rfl⟩
          rw [eF_40] at h_41
          clear eF_40
          exact J_190 _ _ _ _ ⟨(u_39.2.1 0 0), (u_39.2.1 1 0), F_40, (u_39.2.1 3), w39_0, w39_1, rfl, h_41, (lv_sub hl [0, 1, 2, 3, 4, 5, 6] rfl)⟩
        · replace c_23 := i_eq (x := r_20) (y := 0) rfl (show (0 : Int32).toInt = 0 by decide) c_23
          refine lv_goto (tgt := 190) hx hb dX12_goesPairs_122 (by decide) ?_
          exact J_190 _ _ _ _ ⟨v92_11_1, v92_11_2, v92_11_3, v92_11_4, hv92_11_1, hv92_11_2, rfl, h_20, (lv_sub hl [0, 1, 2, 3, 4, 5, 6] rfl)⟩
  · replace c_1 := i_eq (x := p0) (y := 0) rfl (show (0 : Int32).toInt = 0 by decide) c_1
    refine lv_iload_n hx hb dX12_goesPairs_4 rfl (lv_at hl 2 rfl) ?_
    refine lv_aload_n hx hb dX12_goesPairs_5 rfl (lv_at hl 0 rfl) ?_
    refine q_get X hK h 0 rfl rfl wf_12 26 (by decide) rfl wm_5_196 dX12_goesPairs_6 ?_
    refine q_jn (pc2 := 28) (fun H locs ls st => st = [] ∧ qW D (va_A (wk_f147cc4b8 cy h0 p3 h1 w0 w1 w2 p4 p5 p6 p7 p8 p9 p10 p11 p12 p13 p14 w3 w4 w5 h2 w6 p15 p16 w7 h3 h4 p17 p18 w8 w9 w10 w11 w12 p19 w13 w14 w15 h1 f0 h2 f1 h3 f2 h4 f3) sz) s.heap (wk_f147cc4b8 cy h0 p3 h1 w0 w1 w2 p4 p5 p6 p7 p8 p9 p10 p11 p12 p13 p14 w3 w4 w5 h2 w6 p15 p16 w7 h3 h4 p17 p18 w8 w9 w10 w11 w12 p19 w13 w14 w15 h1 f0 h2 f1 h3 f2 h4 f3) H locs ∧ lv_has ls 7 [(0, .ref h0), (1, .int p0), (2, .int p1), (3, .int p2)]) (fun H locs ls st hP => ?_) (fun J_28 => ?_)
    · obtain ⟨rfl, h, hl⟩ := hP
      exact q_vret X hr hlk hK h (fun _ => 0, (vcons (fun _ => p17) (vcons (fun _ => p18) (vcons f2 (vcons f3 (fun _ => (fun _ => 0)))))), fun _ _ => 0) ⟨hp17, hp18, trivial⟩ [0, 1, 2, 3, 4] rfl rfl dX12_goesPairs_28 (Nat.le_of_ble_eq_true rfl) (Nat.le_of_ble_eq_true rfl)
    · skip
      refine lv_icmp_lt (tgt := 28) hx hb dX12_goesPairs_9 (by decide) (fun c_43 => ?_) (fun c_43 => ?_)
      · replace c_43 := i_lt (x := p1) (y := p17) rfl rfl c_43
        exact J_28 _ _ _ _ ⟨rfl, h, (lv_sub hl [0, 1, 2, 3] rfl)⟩
      · replace c_43 := i_nlt (x := p1) (y := p17) rfl rfl c_43
        refine lv_iload_n hx hb dX12_goesPairs_12 rfl (lv_at hl 2 rfl) ?_
        refine lv_aload_n hx hb dX12_goesPairs_13 rfl (lv_at hl 0 rfl) ?_
        refine q_get X hK h 0 rfl rfl wf_12 26 (by decide) rfl wm_5_196 dX12_goesPairs_14 ?_
        refine q_jn (pc2 := 29) (fun H locs ls st => st = [] ∧ qW D (va_A (wk_f147cc4b8 cy h0 p3 h1 w0 w1 w2 p4 p5 p6 p7 p8 p9 p10 p11 p12 p13 p14 w3 w4 w5 h2 w6 p15 p16 w7 h3 h4 p17 p18 w8 w9 w10 w11 w12 p19 w13 w14 w15 h1 f0 h2 f1 h3 f2 h4 f3) sz) s.heap (wk_f147cc4b8 cy h0 p3 h1 w0 w1 w2 p4 p5 p6 p7 p8 p9 p10 p11 p12 p13 p14 w3 w4 w5 h2 w6 p15 p16 w7 h3 h4 p17 p18 w8 w9 w10 w11 w12 p19 w13 w14 w15 h1 f0 h2 f1 h3 f2 h4 f3) H locs ∧ lv_has ls 7 [(0, .ref h0), (1, .int p0), (2, .int p1), (3, .int p2)]) (fun H locs ls st hP => ?_) (fun J_29 => ?_)
        · obtain ⟨rfl, h, hl⟩ := hP
          refine lv_aload_n hx hb dX12_goesPairs_29 rfl (lv_at hl 0 rfl) ?_
          refine lv_iload_n hx hb dX12_goesPairs_30 rfl (lv_at hl 2 rfl) ?_
          refine q_put (v := .int p1) X hK h 0 rfl rfl wf_12 tyX12 tyX12_ok nmX12 26 (by decide) wm_5_196 rfl rfl rfl (Nat.le_of_ble_eq_true rfl) dX12_goesPairs_31 (fun H locs h_45 => ?_)
          clear h
          replace h_45 : qW D _ _ (wk_f147cc4b8 cy h0 p3 h1 w0 w1 w2 p4 p5 p6 p7 p8 p9 p10 p11 p12 p13 p14 w3 w4 w5 h2 w6 p15 p16 w7 h3 h4 p1 p18 w8 w9 w10 w11 w12 p19 w13 w14 w15 h1 f0 h2 f1 h3 f2 h4 f3) _ _ := h_45
          refine lv_aload_n hx hb dX12_goesPairs_34 rfl (lv_at hl 0 rfl) ?_
          refine lv_iload_n hx hb dX12_goesPairs_35 rfl (lv_at hl 3 rfl) ?_
          refine q_put (v := .int p2) X hK h_45 0 rfl rfl wf_12 tyX12 tyX12_ok nmX12 27 (by decide) wm_5_197 rfl rfl rfl (Nat.le_of_ble_eq_true rfl) dX12_goesPairs_36 (fun H locs h_46 => ?_)
          clear h_45
          replace h_46 : qW D _ _ (wk_f147cc4b8 cy h0 p3 h1 w0 w1 w2 p4 p5 p6 p7 p8 p9 p10 p11 p12 p13 p14 w3 w4 w5 h2 w6 p15 p16 w7 h3 h4 p1 p2 w8 w9 w10 w11 w12 p19 w13 w14 w15 h1 f0 h2 f1 h3 f2 h4 f3) _ _ := h_46
          refine lv_iconst (v := 0) hx hb dX12_goesPairs_39 (by decide) ?_
          refine lv_istore (lv' := [(4, .int 0), (0, .ref h0), (1, .int p0), (2, .int p1), (3, .int p2)]) hx hb dX12_goesPairs_40 hl (by decide) rfl (fun ls_47 hl_47 => ?_)
          clear hl
          refine q_wl (fun (v42_48_0 : Int32) H locs ls => ∃ v42_48_1 : Nat → Int32, (0 ≤ (v42_48_0).toInt ∧ (v42_48_0).toInt ≤ 10) ∧ qW D (va_A (wk_f147cc4b8 cy h0 p3 h1 w0 w1 w2 p4 p5 p6 p7 p8 p9 p10 p11 p12 p13 p14 w3 w4 w5 h2 w6 p15 p16 w7 h3 h4 p17 p18 w8 w9 w10 w11 w12 p19 w13 w14 w15 h1 f0 h2 f1 h3 f2 h4 f3) sz) s.heap (wk_f147cc4b8 cy h0 p3 h1 w0 w1 w2 p4 p5 p6 p7 p8 p9 p10 p11 p12 p13 p14 w3 w4 w5 h2 w6 p15 p16 w7 h3 h4 p1 p2 w8 w9 w10 w11 w12 p19 w13 w14 w15 h1 f0 h2 f1 h3 f2 h4 v42_48_1) H locs ∧ lv_has ls 7 [(0, .ref h0), (1, .int p0), (2, .int p1), (3, .int p2), (4, .int v42_48_0)]) (fun (v42_48_0 : Int32) => (11 - (v42_48_0).toInt).toNat) (fun q_42 ih_42 H locs ls hP => ?_) 0 ⟨f3, ⟨by decide +kernel, by decide +kernel⟩, h_46, (lv_sub hl_47 [1, 2, 3, 4, 0] rfl)⟩
          obtain ⟨v42_48_0, rfl⟩ : ∃ z, z = q_42 := ⟨_, rfl⟩
          obtain ⟨v42_48_1, hv42_48_0, h, hl⟩ := hP
          refine lv_iload hx hb dX12_goesPairs_42 (lv_at hl 4 rfl) ?_
          refine lv_bipush (v := 10) hx hb dX12_goesPairs_44 (by decide) ?_
          refine lv_icmp_ge (tgt := 69) hx hb dX12_goesPairs_46 (by decide) (fun c_49 => ?_) (fun c_49 => ?_)
          · replace c_49 := i_le (x := 10) (y := v42_48_0) (show (10 : Int32).toInt = 10 by decide) rfl c_49
            exact q_vret X hr hlk hK h (fun _ => 0, (vcons (fun _ => p1) (vcons (fun _ => p2) (vcons f2 (vcons v42_48_1 (fun _ => (fun _ => 0)))))), fun _ _ => 0) ⟨(bw hp1 (by decide) (by decide)), hp2, trivial⟩ [0, 1, 2, 3, 4] rfl rfl dX12_goesPairs_69 (Nat.le_of_ble_eq_true rfl) (Nat.le_of_ble_eq_true rfl)
          · replace c_49 := i_nle (x := 10) (y := v42_48_0) (show (10 : Int32).toInt = 10 by decide) rfl c_49
            refine lv_aload_n hx hb dX12_goesPairs_49 rfl (lv_at hl 0 rfl) ?_
            refine q_get X hK h 0 rfl rfl wf_12 25 (by decide) rfl wm_5_195 dX12_goesPairs_50 ?_
            refine lv_iload hx hb dX12_goesPairs_53 (lv_at hl 4 rfl) ?_
            refine lv_aload_n hx hb dX12_goesPairs_55 rfl (lv_at hl 0 rfl) ?_
            refine q_get X hK h 0 rfl rfl wf_12 24 (by decide) rfl wm_5_194 dX12_goesPairs_56 ?_
            refine lv_iload hx hb dX12_goesPairs_59 (lv_at hl 4 rfl) ?_
            refine q_iald X hK h 3 rfl (i_in rfl (by omega) (by omega)) dX12_goesPairs_61 ?_
            refine q_any (fun z_50 hz_50 => ?_)
            refine q_iast X hK h 4 rfl (i_in rfl (by omega) (by omega)) dX12_goesPairs_62 (fun H locs h_52 => ?_)
            clear h
            replace h_52 : qW D _ _ (wk_f147cc4b8 cy h0 p3 h1 w0 w1 w2 p4 p5 p6 p7 p8 p9 p10 p11 p12 p13 p14 w3 w4 w5 h2 w6 p15 p16 w7 h3 h4 p1 p2 w8 w9 w10 w11 w12 p19 w13 w14 w15 h1 f0 h2 f1 h3 f2 h4 (upd v42_48_1 (Int32.toNatClampNeg v42_48_0) z_50)) _ _ := h_52
            obtain ⟨F_51, eF_51⟩ : ∃ z, (upd v42_48_1 (Int32.toNatClampNeg v42_48_0) z_50) = z := ⟨_, rfl⟩
            rw [eF_51] at h_52
            clear eF_51
            obtain ⟨z_53, ez_53, hz_53⟩ := e_add (x := v42_48_0) (y := Int32.ofInt 1) rfl (b := 1) (by decide) (by omega) (by omega)
            refine lv_iinc (v := z_53) (lv' := [(4, .int z_53), (0, .ref h0), (1, .int p0), (2, .int p1), (3, .int p2)]) hx hb dX12_goesPairs_63 hl (k := 4) rfl ez_53 (by decide) rfl (fun ls_53 hl_53 => ?_)
            clear hl
            refine lv_goto (tgt := 42) hx hb dX12_goesPairs_66 (by decide) ?_
            exact ih_42 z_53 (by show (11 - (z_53).toInt).toNat < (11 - (v42_48_0).toInt).toNat; omega) _ _ _ ⟨F_51, ⟨by omega, by omega⟩, h_52, (lv_sub hl_53 [1, 2, 3, 4, 0] rfl)⟩
        · skip
          refine lv_icmp_ne (tgt := 29) hx hb dX12_goesPairs_17 (by decide) (fun c_54 => ?_) (fun c_54 => ?_)
          · replace c_54 := i_ne (x := p1) (y := p17) rfl rfl c_54
            exact J_29 _ _ _ _ ⟨rfl, h, (lv_sub hl [0, 1, 2, 3] rfl)⟩
          · replace c_54 := i_eq (x := p1) (y := p17) rfl rfl c_54
            refine lv_iload_n hx hb dX12_goesPairs_20 rfl (lv_at hl 3 rfl) ?_
            refine lv_aload_n hx hb dX12_goesPairs_21 rfl (lv_at hl 0 rfl) ?_
            refine q_get X hK h 0 rfl rfl wf_12 27 (by decide) rfl wm_5_197 dX12_goesPairs_22 ?_
            refine lv_icmp_gt (tgt := 29) hx hb dX12_goesPairs_25 (by decide) (fun c_55 => ?_) (fun c_55 => ?_)
            · replace c_55 := i_lt (x := p18) (y := p2) rfl rfl c_55
              exact J_29 _ _ _ _ ⟨rfl, h, (lv_sub hl [0, 1, 2, 3] rfl)⟩
            · replace c_55 := i_nlt (x := p18) (y := p2) rfl rfl c_55
              exact J_28 _ _ _ _ ⟨rfl, h, (lv_sub hl [0, 1, 2, 3] rfl)⟩
set_option maxHeartbeats 4000000 in
set_option maxRecDepth 100000 in
theorem gX12_goesPairs_7cb8c5d (l : Launch) (D : va_G) (cy : Nat → ClassId) (h0 : Nat) (h1 : Nat) (h2 : Nat) (h3 : Nat) (h4 : Nat) (p0 : Int32) (p1 : Int32) (p2 : Int32) (p3 : Int32) (w0 : Value) (w1 : Value) (w2 : Value) (p4 : Int32) (p5 : Int32) (p6 : Int32) (p7 : Int32) (p8 : Int32) (p9 : Int32) (p10 : Int32) (p11 : Int32) (p12 : Int32) (p13 : Int32) (p14 : Int32) (w3 : Value) (w4 : Value) (w5 : Value) (w6 : Value) (p15 : Int32) (p16 : Int32) (w7 : Value) (p17 : Int32) (p18 : Int32) (w8 : Value) (w9 : Value) (w10 : Value) (w11 : Value) (w12 : Value) (p19 : Int32) (w13 : Value) (w14 : Value) (w15 : Value) (f0 : Nat → Int32) (p20 : Int32) (f1 : Nat → Int32) (f2 : Nat → Int32) (f3 : Nat → Int32) (hp0 : 0 ≤ (p0).toInt ∧ (p0).toInt ≤ 1023) (hp1 : 0 ≤ (p1).toInt ∧ (p1).toInt ≤ 0) (hp2 : 0 ≤ (p2).toInt ∧ (p2).toInt ≤ 0) (hp3 : 0 ≤ (p3).toInt ∧ (p3).toInt ≤ 0) (hp4 : 0 ≤ (p4).toInt ∧ (p4).toInt ≤ 900) (hp5 : 0 ≤ (p5).toInt ∧ (p5).toInt ≤ 900) (hp6 : 0 ≤ (p6).toInt ∧ (p6).toInt ≤ 900) (hp7 : 0 ≤ (p7).toInt ∧ (p7).toInt ≤ 900) (hp8 : (-2147483648) ≤ (p8).toInt ∧ (p8).toInt ≤ 2147483647) (hp9 : 0 ≤ (p9).toInt ∧ (p9).toInt ≤ 999) (hp10 : (-2147483648) ≤ (p10).toInt ∧ (p10).toInt ≤ 2147483647) (hp11 : (-2147483648) ≤ (p11).toInt ∧ (p11).toInt ≤ 2147483647) (hp12 : (-2147483648) ≤ (p12).toInt ∧ (p12).toInt ≤ 2147483647) (hp13 : (-2147483648) ≤ (p13).toInt ∧ (p13).toInt ≤ 2147483647) (hp14 : (-2147483648) ≤ (p14).toInt ∧ (p14).toInt ≤ 2147483647) (hp15 : (-2147483648) ≤ (p15).toInt ∧ (p15).toInt ≤ 2147483647) (hp16 : (-2147483648) ≤ (p16).toInt ∧ (p16).toInt ≤ 2147483647) (hp17 : (-1) ≤ (p17).toInt ∧ (p17).toInt ≤ (-1)) (hp18 : (-1) ≤ (p18).toInt ∧ (p18).toInt ≤ (-1)) (hp19 : (-2147483648) ≤ (p19).toInt ∧ (p19).toInt ≤ 2147483647) (hp20 : 0 ≤ (p20).toInt ∧ (p20).toInt ≤ 10) (htf0_84 : f0 84 = p20) (rf0 : AL f0) (rf1 : RG f1 10 0 1023) (hpre0 : (p0 : Int32).toInt % 1 = 0) (sz : Nat) : MV l yX12_goesPairs cX12_goesPairs 7 { frames := 11, cells := 0, slots := 0, locals := 277 } [.ref h0, .int p0, .int p1, .int p2] D cy (wk_f147cc4b8 cy h0 p3 h1 w0 w1 w2 p4 p5 p6 p7 p8 p9 p10 p11 p12 p13 p14 w3 w4 w5 h2 w6 p15 p16 w7 h3 h4 p17 p18 w8 w9 w10 w11 w12 p19 w13 w14 w15 h1 f0 h2 f1 h3 f2 h4 f3) sz (fun u => ((-1) ≤ (u.2.1 0 0).toInt ∧ (u.2.1 0 0).toInt ≤ 10) ∧ ((-2147483648) ≤ (u.2.1 1 0).toInt ∧ (u.2.1 1 0).toInt ≤ 2147483647) ∧ True) (fun u => (wk_f147cc4b8 cy h0 p3 h1 w0 w1 w2 p4 p5 p6 p7 p8 p9 p10 p11 p12 p13 p14 w3 w4 w5 h2 w6 p15 p16 w7 h3 h4 (u.2.1 0 0) (u.2.1 1 0) w8 w9 w10 w11 w12 p19 w13 w14 w15 h1 f0 h2 f1 h3 (u.2.1 2) h4 (u.2.1 3))) 0 0 := by
  refine q_ent (own := RX12) (by decide) rfl (Nat.le_of_ble_eq_true rfl) (fun p e s m below meth c ls X hr hlk hnm hK hT h hA hl => ?_)
  obtain ⟨hx, hb, hml, hown, ht⟩ := id X
  replace hl : lv_has ls 7 [(0, .ref h0), (1, .int p0), (2, .int p1), (3, .int p2)] := hl
  refine lv_iload_n hx hb dX12_goesPairs_0 rfl (lv_at hl 1 rfl) ?_
  refine lv_if_ne (tgt := 70) hx hb dX12_goesPairs_1 (by decide) (fun c_1 => ?_) (fun c_1 => ?_)
  · replace c_1 := i_ne (x := p0) (y := 0) rfl (show (0 : Int32).toInt = 0 by decide) c_1
    refine lv_iload_n hx hb dX12_goesPairs_70 rfl (lv_at hl 1 rfl) ?_
    refine q_callSi (rest := []) (wr := (wk_f147cc4b8 cy h0 p3 h1 w0 w1 w2 p4 p5 p6 p7 p8 p9 p10 p11 p12 p13 p14 w3 w4 w5 h2 w6 p15 p16 w7 h3 h4 p17 p18 w8 w9 w10 w11 w12 p19 w13 w14 w15 h1 f0 h2 f1 h3 f2 h4 f3)) X hK hT hA h (fun sz => gX12_lowest_51df8cb l D cy p0 ⟨by omega, by omega⟩ sz) wm_7_67 wm_7_69 wm_1_12 hd_X12_lowest wm_7_68 ⟨Nat.le_of_ble_eq_true rfl, Nat.le_of_ble_eq_true rfl⟩ hl.1 rfl (Nat.le_of_ble_eq_true rfl) dX12_goesPairs_71 ⟨Nat.le_of_ble_eq_true rfl, Nat.le_of_ble_eq_true rfl⟩ [] [0, 1, 2, 3, 4] rfl rfl (by decide) rfl rfl (fun r_2 u_2 H locs w_2 h_2 => ?_)
    clear h
    obtain ⟨wr_2, y2_0, _⟩ := w_2
    replace h_2 : qW D _ _ (wk_f147cc4b8 cy h0 p3 h1 w0 w1 w2 p4 p5 p6 p7 p8 p9 p10 p11 p12 p13 p14 w3 w4 w5 h2 w6 p15 p16 w7 h3 h4 p17 p18 w8 w9 w10 w11 w12 p19 w13 w14 w15 h1 f0 h2 f1 h3 f2 h4 f3) _ _ := h_2
    refine lv_istore (lv' := [(4, .int r_2), (0, .ref h0), (1, .int p0), (2, .int p1), (3, .int p2)]) hx hb dX12_goesPairs_74 hl (by decide) rfl (fun ls_3 hl_3 => ?_)
    clear hl
    refine lv_iload_n hx hb dX12_goesPairs_76 rfl (lv_at hl_3 2 rfl) ?_
    refine lv_iconst (v := 1) hx hb dX12_goesPairs_77 (by decide) ?_
    refine lv_iload hx hb dX12_goesPairs_78 (lv_at hl_3 0 rfl) ?_
    refine lv_ishl hx hb dX12_goesPairs_80 ?_
    obtain ⟨z_4, ez_4, hz_4⟩ := e_shlk (p := r_2) 9 (by decide) rfl (by omega) (by omega)
    refine q_c z_4 ez_4 ?_
    refine lv_iconst (v := (-1)) hx hb dX12_goesPairs_81 (by decide) ?_
    refine lv_ixor hx hb dX12_goesPairs_82 ?_
    obtain ⟨z_5, ez_5, hz_5⟩ := e_any (z_4 ^^^ (-1))
    refine q_c z_5 ez_5 ?_
    refine lv_iand hx hb dX12_goesPairs_83 ?_
    obtain ⟨z_6, ez_6, hz_6⟩ := e_and1 (x := p0) (y := z_5) rfl (by omega)
    refine q_c z_6 ez_6 ?_
    have rs_7 := rest_low 0 (by omega) y2_0 (by omega) ez_4 ez_5 ez_6
    refine lv_istore (lv' := [(5, .int z_6), (4, .int r_2), (0, .ref h0), (1, .int p0), (2, .int p1), (3, .int p2)]) hx hb dX12_goesPairs_84 hl_3 (by decide) rfl (fun ls_8 hl_8 => ?_)
    clear hl_3
    refine lv_iload hx hb dX12_goesPairs_86 (lv_at hl_8 1 rfl) ?_
    refine lv_iconst (v := 1) hx hb dX12_goesPairs_88 (by decide) ?_
    refine lv_iadd hx hb dX12_goesPairs_89 ?_
    obtain ⟨z_9, ez_9, hz_9⟩ := e_add (x := r_2) (y := 1) rfl (show (1 : Int32).toInt = 1 by decide) (by omega) (by omega)
    refine q_c z_9 ez_9 ?_
    clear ez_9
    refine lv_istore (lv' := [(6, .int z_9), (5, .int z_6), (4, .int r_2), (0, .ref h0), (1, .int p0), (2, .int p1), (3, .int p2)]) hx hb dX12_goesPairs_90 hl_8 (by decide) rfl (fun ls_10 hl_10 => ?_)
    clear hl_8
    refine q_wl (fun (q : Int32 × Int32 × Int32) H locs ls => match q with | (v92_11_0, v92_11_1, v92_11_2) => ∃ v92_11_3 : Nat → Int32, ∃ v92_11_4 : Nat → Int32, (1 ≤ (v92_11_0).toInt ∧ (v92_11_0).toInt ≤ 10) ∧ ((-1) ≤ (v92_11_1).toInt ∧ (v92_11_1).toInt ≤ 10) ∧ ((-2147483648) ≤ (v92_11_2).toInt ∧ (v92_11_2).toInt ≤ 2147483647) ∧ qW D (va_A (wk_f147cc4b8 cy h0 p3 h1 w0 w1 w2 p4 p5 p6 p7 p8 p9 p10 p11 p12 p13 p14 w3 w4 w5 h2 w6 p15 p16 w7 h3 h4 p17 p18 w8 w9 w10 w11 w12 p19 w13 w14 w15 h1 f0 h2 f1 h3 f2 h4 f3) sz) s.heap (wk_f147cc4b8 cy h0 p3 h1 w0 w1 w2 p4 p5 p6 p7 p8 p9 p10 p11 p12 p13 p14 w3 w4 w5 h2 w6 p15 p16 w7 h3 h4 v92_11_1 v92_11_2 w8 w9 w10 w11 w12 p19 w13 w14 w15 h1 f0 h2 f1 h3 v92_11_3 h4 v92_11_4) H locs ∧ lv_has ls 7 [(0, .ref h0), (1, .int p0), (2, .int p1), (3, .int p2), (4, .int r_2), (5, .int z_6), (6, .int v92_11_0)]) (fun (q : Int32 × Int32 × Int32) => match q with | (v92_11_0, v92_11_1, v92_11_2) => (11 - (v92_11_0).toInt).toNat) (fun q_92 ih_92 H locs ls hP => ?_) (z_9, p17, p18) ⟨f2, f3, ⟨by omega, by omega⟩, (bw hp17 (by decide) (by decide)), (bw hp18 (by decide) (by decide)), h_2, (lv_sub hl_10 [3, 4, 5, 6, 2, 1, 0] rfl)⟩
    obtain ⟨v92_11_0, v92_11_1, v92_11_2⟩ := q_92
    obtain ⟨v92_11_3, v92_11_4, hv92_11_0, hv92_11_1, hv92_11_2, h, hl⟩ := hP
    refine lv_iload hx hb dX12_goesPairs_92 (lv_at hl 6 rfl) ?_
    refine lv_aload_n hx hb dX12_goesPairs_94 rfl (lv_at hl 0 rfl) ?_
    refine q_get X hK h 0 rfl rfl wf_12 1 (by decide) rfl wm_5_171 dX12_goesPairs_95 ?_
    refine lv_iconst (v := 2) hx hb dX12_goesPairs_98 (by decide) ?_
    refine q_iald X hK h 1 rfl (q_in (by decide +kernel)) dX12_goesPairs_99 ?_
    obtain ⟨z_12, ez_12, hz_12⟩ := al_P rf0 (x := 2) (show (2 : Int32).toInt = 2 by decide) (by omega) (by omega)
    refine q_c z_12 ez_12 ?_
    clear ez_12
    refine lv_icmp_ge (tgt := 196) hx hb dX12_goesPairs_100 (by decide) (fun c_13 => ?_) (fun c_13 => ?_)
    · replace c_13 := i_le (x := z_12) (y := v92_11_0) rfl rfl c_13
      refine lv_aload_n hx hb dX12_goesPairs_196 rfl (lv_at hl 0 rfl) ?_
      refine q_get X hK h 0 rfl rfl wf_12 24 (by decide) rfl wm_5_194 dX12_goesPairs_197 ?_
      refine lv_iload hx hb dX12_goesPairs_200 (lv_at hl 4 rfl) ?_
      refine lv_iconst (v := (-1)) hx hb dX12_goesPairs_202 (by decide) ?_
      refine q_iast X hK h 3 rfl (i_in rfl (by omega) (by omega)) dX12_goesPairs_203 (fun H locs h_15 => ?_)
      clear h
      replace h_15 : qW D _ _ (wk_f147cc4b8 cy h0 p3 h1 w0 w1 w2 p4 p5 p6 p7 p8 p9 p10 p11 p12 p13 p14 w3 w4 w5 h2 w6 p15 p16 w7 h3 h4 v92_11_1 v92_11_2 w8 w9 w10 w11 w12 p19 w13 w14 w15 h1 f0 h2 f1 h3 (upd v92_11_3 (Int32.toNatClampNeg r_2) (-1)) h4 v92_11_4) _ _ := h_15
      obtain ⟨F_14, eF_14⟩ : ∃ z, (upd v92_11_3 (Int32.toNatClampNeg r_2) (-1)) = z := ⟨_, rfl⟩
      rw [eF_14] at h_15
      clear eF_14
      refine lv_aload_n hx hb dX12_goesPairs_204 rfl (lv_at hl 0 rfl) ?_
      refine lv_iload hx hb dX12_goesPairs_205 (lv_at hl 5 rfl) ?_
      refine lv_iload_n hx hb dX12_goesPairs_207 rfl (lv_at hl 2 rfl) ?_
      refine lv_iload_n hx hb dX12_goesPairs_208 rfl (lv_at hl 3 rfl) ?_
      refine q_callVv (rest := []) (wr := []) X hK hT hA h_15 (fun sz => gX12_goesPairs_bfead1d l D cy h0 h1 h2 h3 h4 z_6 p1 p2 p3 w0 w1 w2 p4 p5 p6 p7 p8 p9 p10 p11 p12 p13 p14 w3 w4 w5 w6 p15 p16 w7 v92_11_1 v92_11_2 w8 w9 w10 w11 w12 p19 w13 w14 w15 f0 p20 f1 F_14 v92_11_4 ⟨by omega, by omega⟩ (bw hp1 (by decide) (by decide)) (i_rng _) hp3 hp4 hp5 hp6 hp7 (i_rng _) hp9 (i_rng _) (i_rng _) (i_rng _) (i_rng _) (i_rng _) (i_rng _) (i_rng _) hv92_11_1 (i_rng _) (i_rng _) hp20 htf0_84 rf0 (rg_wide rf1 (by decide) (by decide)) ((show _ % 2 = 0 from rs_7.1)) sz) wm_7_116 wm_7_119 wm_1_12 hd_X12_goesPairs wm_7_118 wp_7_4 (ci := 12) (q0 := 0) rfl rfl ⟨Nat.le_of_ble_eq_true rfl, Nat.le_of_ble_eq_true rfl⟩ hl.1 rfl (Nat.le_of_ble_eq_true rfl) dX12_goesPairs_209 ⟨Nat.le_of_ble_eq_true rfl, Nat.le_of_ble_eq_true rfl⟩ [0, 1, 2, 3, 4] [] rfl rfl (by decide) rfl rfl (fun u_16 H locs w_16 h_16 => ?_)
      clear h_15
      obtain ⟨w16_0, w16_1, _⟩ := w_16
      replace h_16 : qW D _ _ (wk_f147cc4b8 cy h0 p3 h1 w0 w1 w2 p4 p5 p6 p7 p8 p9 p10 p11 p12 p13 p14 w3 w4 w5 h2 w6 p15 p16 w7 h3 h4 (u_16.2.1 0 0) (u_16.2.1 1 0) w8 w9 w10 w11 w12 p19 w13 w14 w15 h1 f0 h2 f1 h3 (u_16.2.1 2) h4 (u_16.2.1 3)) _ _ := h_16
      exact q_vret X hr hlk hK h_16 (fun _ => 0, (vcons (fun _ => (u_16.2.1 0 0)) (vcons (fun _ => (u_16.2.1 1 0)) (vcons (u_16.2.1 2) (vcons (u_16.2.1 3) (fun _ => (fun _ => 0)))))), fun _ _ => 0) ⟨w16_0, w16_1, trivial⟩ [0, 1, 2, 3, 4] rfl rfl dX12_goesPairs_212 (Nat.le_of_ble_eq_true rfl) (Nat.le_of_ble_eq_true rfl)
    · replace c_13 := i_nle (x := z_12) (y := v92_11_0) rfl rfl c_13
      refine lv_iload hx hb dX12_goesPairs_103 (lv_at hl 5 rfl) ?_
      refine lv_aload_n hx hb dX12_goesPairs_105 rfl (lv_at hl 0 rfl) ?_
      refine q_get X hK h 0 rfl rfl wf_12 19 (by decide) rfl wm_5_189 dX12_goesPairs_106 ?_
      refine lv_iload hx hb dX12_goesPairs_109 (lv_at hl 4 rfl) ?_
      refine q_iald X hK h 2 rfl (i_in rfl (by omega) (by omega)) dX12_goesPairs_111 ?_
      obtain ⟨z_17, ez_17, hz_17⟩ := rg_get rf1 (x := r_2) rfl (by omega) (by omega)
      refine q_c z_17 ez_17 ?_
      clear ez_17
      refine lv_iand hx hb dX12_goesPairs_112 ?_
      obtain ⟨z_18, ez_18, hz_18⟩ := e_and2 (x := z_6) (y := z_17) rfl (by omega)
      refine q_c z_18 ez_18 ?_
      clear ez_18
      refine lv_i2l hx hb dX12_goesPairs_113 rfl ?_
      obtain ⟨z_19, ez_19, hz_19⟩ := e_i2l (x := z_18) rfl
      refine q_cl z_19 ez_19 ?_
      clear ez_19
      refine lv_iload hx hb dX12_goesPairs_114 (lv_at hl 6 rfl) ?_
      refine q_callSi (rest := []) (wr := (wk_f147cc4b8 cy h0 p3 h1 w0 w1 w2 p4 p5 p6 p7 p8 p9 p10 p11 p12 p13 p14 w3 w4 w5 h2 w6 p15 p16 w7 h3 h4 v92_11_1 v92_11_2 w8 w9 w10 w11 w12 p19 w13 w14 w15 h1 f0 h2 f1 h3 v92_11_3 h4 v92_11_4)) X hK hT hA h (fun sz => gX12_isIn_b0455a8 l D cy z_19 v92_11_0 ⟨by omega, by omega⟩ ⟨by omega, by omega⟩ sz) wm_6_167 wm_6_169 wm_1_12 hd_X12_isIn wm_6_168 ⟨Nat.le_of_ble_eq_true rfl, Nat.le_of_ble_eq_true rfl⟩ hl.1 rfl (Nat.le_of_ble_eq_true rfl) dX12_goesPairs_116 ⟨Nat.le_of_ble_eq_true rfl, Nat.le_of_ble_eq_true rfl⟩ [] [0, 1, 2, 3, 4] rfl rfl (by decide) rfl rfl (fun r_20 u_20 H locs w_20 h_20 => ?_)
      clear h
      obtain ⟨wr_20, _⟩ := w_20
      replace h_20 : qW D _ _ (wk_f147cc4b8 cy h0 p3 h1 w0 w1 w2 p4 p5 p6 p7 p8 p9 p10 p11 p12 p13 p14 w3 w4 w5 h2 w6 p15 p16 w7 h3 h4 v92_11_1 v92_11_2 w8 w9 w10 w11 w12 p19 w13 w14 w15 h1 f0 h2 f1 h3 v92_11_3 h4 v92_11_4) _ _ := h_20
      refine q_jn (pc2 := 190) (fun H locs ls st => ∃ v190_21_0 : Int32, ∃ v190_21_1 : Int32, ∃ v190_21_2 : Nat → Int32, ∃ v190_21_3 : Nat → Int32, ((-1) ≤ (v190_21_0).toInt ∧ (v190_21_0).toInt ≤ 10) ∧ ((-2147483648) ≤ (v190_21_1).toInt ∧ (v190_21_1).toInt ≤ 2147483647) ∧ st = [] ∧ qW D (va_A (wk_f147cc4b8 cy h0 p3 h1 w0 w1 w2 p4 p5 p6 p7 p8 p9 p10 p11 p12 p13 p14 w3 w4 w5 h2 w6 p15 p16 w7 h3 h4 p17 p18 w8 w9 w10 w11 w12 p19 w13 w14 w15 h1 f0 h2 f1 h3 f2 h4 f3) sz) s.heap (wk_f147cc4b8 cy h0 p3 h1 w0 w1 w2 p4 p5 p6 p7 p8 p9 p10 p11 p12 p13 p14 w3 w4 w5 h2 w6 p15 p16 w7 h3 h4 v190_21_0 v190_21_1 w8 w9 w10 w11 w12 p19 w13 w14 w15 h1 f0 h2 f1 h3 v190_21_2 h4 v190_21_3) H locs ∧ lv_has ls 7 [(0, .ref h0), (1, .int p0), (2, .int p1), (3, .int p2), (4, .int r_2), (5, .int z_6), (6, .int v92_11_0)]) (fun H locs ls st hP => ?_) (fun J_190 => ?_)
      · obtain ⟨v190_21_0, v190_21_1, v190_21_2, v190_21_3, hv190_21_0, hv190_21_1, rfl, h, hl⟩ := hP
        obtain ⟨z_22, ez_22, hz_22⟩ := e_add (x := v92_11_0) (y := Int32.ofInt 1) rfl (b := 1) (by decide) (by omega) (by omega)
        refine lv_iinc (v := z_22) (lv' := [(6, .int z_22), (0, .ref h0), (1, .int p0), (2, .int p1), (3, .int p2), (4, .int r_2), (5, .int z_6)]) hx hb dX12_goesPairs_190 hl (k := 6) rfl ez_22 (by decide) rfl (fun ls_22 hl_22 => ?_)
        clear hl
        refine lv_goto (tgt := 92) hx hb dX12_goesPairs_193 (by decide) ?_
        exact ih_92 (z_22, v190_21_0, v190_21_1) (by show (11 - (z_22).toInt).toNat < (11 - (v92_11_0).toInt).toNat; omega) _ _ _ ⟨v190_21_2, v190_21_3, ⟨by omega, by omega⟩, hv190_21_0, hv190_21_1, h, (lv_sub hl_22 [1, 2, 3, 4, 5, 6, 0] rfl)⟩
      · skip
        refine lv_if_ne (tgt := 125) hx hb dX12_goesPairs_119 (by decide) (fun c_23 => ?_) (fun c_23 => ?_)
        · replace c_23 := i_ne (x := r_20) (y := 0) rfl (show (0 : Int32).toInt = 0 by decide) c_23
          refine lv_aload_n hx hb dX12_goesPairs_125 rfl (lv_at hl 0 rfl) ?_
          refine q_get X hK h_20 0 rfl rfl wf_12 24 (by decide) rfl wm_5_194 dX12_goesPairs_126 ?_
          refine lv_iload hx hb dX12_goesPairs_129 (lv_at hl 4 rfl) ?_
          refine lv_iload hx hb dX12_goesPairs_131 (lv_at hl 6 rfl) ?_
          refine q_iast X hK h_20 3 rfl (i_in rfl (by omega) (by omega)) dX12_goesPairs_133 (fun H locs h_25 => ?_)
          clear h_20
          replace h_25 : qW D _ _ (wk_f147cc4b8 cy h0 p3 h1 w0 w1 w2 p4 p5 p6 p7 p8 p9 p10 p11 p12 p13 p14 w3 w4 w5 h2 w6 p15 p16 w7 h3 h4 v92_11_1 v92_11_2 w8 w9 w10 w11 w12 p19 w13 w14 w15 h1 f0 h2 f1 h3 (upd v92_11_3 (Int32.toNatClampNeg r_2) v92_11_0) h4 v92_11_4) _ _ := h_25
          obtain ⟨F_24, eF_24⟩ : ∃ z, (upd v92_11_3 (Int32.toNatClampNeg r_2) v92_11_0) = z := ⟨_, rfl⟩
          rw [eF_24] at h_25
          clear eF_24
          refine lv_aload_n hx hb dX12_goesPairs_134 rfl (lv_at hl 0 rfl) ?_
          refine q_get X hK h_25 0 rfl rfl wf_12 24 (by decide) rfl wm_5_194 dX12_goesPairs_135 ?_
          refine lv_iload hx hb dX12_goesPairs_138 (lv_at hl 6 rfl) ?_
          refine lv_iload hx hb dX12_goesPairs_140 (lv_at hl 4 rfl) ?_
          refine q_iast X hK h_25 3 rfl (i_in rfl (by omega) (by omega)) dX12_goesPairs_142 (fun H locs h_27 => ?_)
          clear h_25
          replace h_27 : qW D _ _ (wk_f147cc4b8 cy h0 p3 h1 w0 w1 w2 p4 p5 p6 p7 p8 p9 p10 p11 p12 p13 p14 w3 w4 w5 h2 w6 p15 p16 w7 h3 h4 v92_11_1 v92_11_2 w8 w9 w10 w11 w12 p19 w13 w14 w15 h1 f0 h2 f1 h3 (upd F_24 (Int32.toNatClampNeg v92_11_0) r_2) h4 v92_11_4) _ _ := h_27
          obtain ⟨F_26, eF_26⟩ : ∃ z, (upd F_24 (Int32.toNatClampNeg v92_11_0) r_2) = z := ⟨_, rfl⟩
          rw [eF_26] at h_27
          clear eF_26
          refine lv_aload_n hx hb dX12_goesPairs_143 rfl (lv_at hl 0 rfl) ?_
          refine lv_iload hx hb dX12_goesPairs_144 (lv_at hl 5 rfl) ?_
          refine lv_iconst (v := 1) hx hb dX12_goesPairs_146 (by decide) ?_
          refine lv_iload hx hb dX12_goesPairs_147 (lv_at hl 6 rfl) ?_
          refine lv_ishl hx hb dX12_goesPairs_149 ?_
          obtain ⟨z_28, ez_28, hz_28⟩ := e_shlk (p := v92_11_0) 9 (by decide) rfl (by omega) (by omega)
          refine q_c z_28 ez_28 ?_
          clear ez_28
          refine lv_iconst (v := (-1)) hx hb dX12_goesPairs_150 (by decide) ?_
          refine lv_ixor hx hb dX12_goesPairs_151 ?_
          refine q_any (fun z_29 hz_29 => ?_)
          refine lv_iand hx hb dX12_goesPairs_152 ?_
          obtain ⟨z_30, ez_30, hz_30⟩ := e_and1 (x := z_6) (y := z_29) rfl (by omega)
          refine q_c z_30 ez_30 ?_
          have ad_31 := and_div 1 (by omega) rs_7.1 ez_30
          refine lv_iload_n hx hb dX12_goesPairs_153 rfl (lv_at hl 2 rfl) ?_
          refine lv_iconst (v := 1) hx hb dX12_goesPairs_154 (by decide) ?_
          refine lv_iadd hx hb dX12_goesPairs_155 ?_
          obtain ⟨z_32, ez_32, hz_32⟩ := e_add (x := p1) (y := 1) rfl (show (1 : Int32).toInt = 1 by decide) (by omega) (by omega)
          refine q_c z_32 ez_32 ?_
          clear ez_32
          refine lv_iload_n hx hb dX12_goesPairs_156 rfl (lv_at hl 3 rfl) ?_
          refine lv_aload_n hx hb dX12_goesPairs_157 rfl (lv_at hl 0 rfl) ?_
          refine q_get X hK h_27 0 rfl rfl wf_12 1 (by decide) rfl wm_5_171 dX12_goesPairs_158 ?_
          refine lv_bipush (v := 42) hx hb dX12_goesPairs_161 (by decide) ?_
          refine lv_iload hx hb dX12_goesPairs_163 (lv_at hl 4 rfl) ?_
          refine lv_iadd hx hb dX12_goesPairs_165 ?_
          obtain ⟨z_33, ez_33, hz_33⟩ := e_add (x := 42) (y := r_2) (show (42 : Int32).toInt = 42 by decide) rfl (by omega) (by omega)
          refine q_c z_33 ez_33 ?_
          clear ez_33
          refine q_iald X hK h_27 1 rfl (i_in rfl (by omega) (by omega)) dX12_goesPairs_166 ?_
          refine q_any (fun z_34 hz_34 => ?_)
          refine lv_iadd hx hb dX12_goesPairs_167 ?_
          obtain ⟨z_35, ez_35, hz_35⟩ := e_add (x := p2) (y := z_34) rfl rfl (by omega) (by omega)
          refine q_c z_35 ez_35 ?_
          clear ez_35
          refine lv_aload_n hx hb dX12_goesPairs_168 rfl (lv_at hl 0 rfl) ?_
          refine q_get X hK h_27 0 rfl rfl wf_12 1 (by decide) rfl wm_5_171 dX12_goesPairs_169 ?_
          refine lv_bipush (v := 42) hx hb dX12_goesPairs_172 (by decide) ?_
          refine lv_iload hx hb dX12_goesPairs_174 (lv_at hl 6 rfl) ?_
          refine lv_iadd hx hb dX12_goesPairs_176 ?_
          obtain ⟨z_36, ez_36, hz_36⟩ := e_add (x := 42) (y := v92_11_0) (show (42 : Int32).toInt = 42 by decide) rfl (by omega) (by omega)
          refine q_c z_36 ez_36 ?_
          clear ez_36
          refine q_iald X hK h_27 1 rfl (i_in rfl (by omega) (by omega)) dX12_goesPairs_177 ?_
          refine q_any (fun z_37 hz_37 => ?_)
          refine lv_iadd hx hb dX12_goesPairs_178 ?_
          refine q_any (fun z_38 hz_38 => ?_)
          refine q_callVv (rest := []) (wr := []) X hK hT hA h_27 (fun sz => gX12_goesPairs_bfead1d l D cy h0 h1 h2 h3 h4 z_30 z_32 z_38 p3 w0 w1 w2 p4 p5 p6 p7 p8 p9 p10 p11 p12 p13 p14 w3 w4 w5 w6 p15 p16 w7 v92_11_1 v92_11_2 w8 w9 w10 w11 w12 p19 w13 w14 w15 f0 p20 f1 F_26 v92_11_4 ⟨by omega, by omega⟩ ⟨by omega, by omega⟩ (i_rng _) hp3 hp4 hp5 hp6 hp7 (i_rng _) hp9 (i_rng _) (i_rng _) (i_rng _) (i_rng _) (i_rng _) (i_rng _) (i_rng _) hv92_11_1 (i_rng _) (i_rng _) hp20 htf0_84 rf0 (rg_wide rf1 (by decide) (by decide)) ((show _ % 2 = 0 from ad_31)) sz) wm_7_116 wm_7_119 wm_1_12 hd_X12_goesPairs wm_7_118 wp_7_4 (ci := 12) (q0 := 0) rfl rfl ⟨Nat.le_of_ble_eq_true rfl, Nat.le_of_ble_eq_true rfl⟩ hl.1 rfl (Nat.le_of_ble_eq_true rfl) dX12_goesPairs_179 ⟨Nat.le_of_ble_eq_true rfl, Nat.le_of_ble_eq_true rfl⟩ [0, 1, 2, 3, 4] [] rfl rfl (by decide) rfl rfl (fun u_39 H locs w_39 h_39 => ?_)
          clear h_27
          obtain ⟨w39_0, w39_1, _⟩ := w_39
          replace h_39 : qW D _ _ (wk_f147cc4b8 cy h0 p3 h1 w0 w1 w2 p4 p5 p6 p7 p8 p9 p10 p11 p12 p13 p14 w3 w4 w5 h2 w6 p15 p16 w7 h3 h4 (u_39.2.1 0 0) (u_39.2.1 1 0) w8 w9 w10 w11 w12 p19 w13 w14 w15 h1 f0 h2 f1 h3 (u_39.2.1 2) h4 (u_39.2.1 3)) _ _ := h_39
          refine lv_aload_n hx hb dX12_goesPairs_182 rfl (lv_at hl 0 rfl) ?_
          refine q_get X hK h_39 0 rfl rfl wf_12 24 (by decide) rfl wm_5_194 dX12_goesPairs_183 ?_
          refine lv_iload hx hb dX12_goesPairs_186 (lv_at hl 6 rfl) ?_
          refine lv_iconst (v := (-1)) hx hb dX12_goesPairs_188 (by decide) ?_
          refine q_iast X hK h_39 3 rfl (i_in rfl (by omega) (by omega)) dX12_goesPairs_189 (fun H locs h_41 => ?_)
          clear h_39
          replace h_41 : qW D _ _ (wk_f147cc4b8 cy h0 p3 h1 w0 w1 w2 p4 p5 p6 p7 p8 p9 p10 p11 p12 p13 p14 w3 w4 w5 h2 w6 p15 p16 w7 h3 h4 (u_39.2.1 0 0) (u_39.2.1 1 0) w8 w9 w10 w11 w12 p19 w13 w14 w15 h1 f0 h2 f1 h3 (upd (u_39.2.1 2) (Int32.toNatClampNeg v92_11_0) (-1)) h4 (u_39.2.1 3)) _ _ := h_41
          obtain ⟨F_40, eF_40⟩ : ∃ z, (upd (u_39.2.1 2) (Int32.toNatClampNeg v92_11_0) (-1)) = z := ⟨_, rfl⟩
          rw [eF_40] at h_41
          clear eF_40
          exact J_190 _ _ _ _ ⟨(u_39.2.1 0 0), (u_39.2.1 1 0), F_40, (u_39.2.1 3), w39_0, w39_1, rfl, h_41, (lv_sub hl [0, 1, 2, 3, 4, 5, 6] rfl)⟩
        · replace c_23 := i_eq (x := r_20) (y := 0) rfl (show (0 : Int32).toInt = 0 by decide) c_23
          refine lv_goto (tgt := 190) hx hb dX12_goesPairs_122 (by decide) ?_
          exact J_190 _ _ _ _ ⟨v92_11_1, v92_11_2, v92_11_3, v92_11_4, hv92_11_1, hv92_11_2, rfl, h_20, (lv_sub hl [0, 1, 2, 3, 4, 5, 6] rfl)⟩
  · replace c_1 := i_eq (x := p0) (y := 0) rfl (show (0 : Int32).toInt = 0 by decide) c_1
    refine lv_iload_n hx hb dX12_goesPairs_4 rfl (lv_at hl 2 rfl) ?_
    refine lv_aload_n hx hb dX12_goesPairs_5 rfl (lv_at hl 0 rfl) ?_
    refine q_get X hK h 0 rfl rfl wf_12 26 (by decide) rfl wm_5_196 dX12_goesPairs_6 ?_
    refine lv_icmp_lt (tgt := 28) hx hb dX12_goesPairs_9 (by decide) (fun c_42 => ?_) (fun c_42 => ?_)
    · replace c_42 := i_lt (x := p1) (y := p17) rfl rfl c_42
      exfalso
      omega
    · replace c_42 := i_nlt (x := p1) (y := p17) rfl rfl c_42
      refine lv_iload_n hx hb dX12_goesPairs_12 rfl (lv_at hl 2 rfl) ?_
      refine lv_aload_n hx hb dX12_goesPairs_13 rfl (lv_at hl 0 rfl) ?_
      refine q_get X hK h 0 rfl rfl wf_12 26 (by decide) rfl wm_5_196 dX12_goesPairs_14 ?_
      refine q_jn (pc2 := 29) (fun H locs ls st => st = [] ∧ qW D (va_A (wk_f147cc4b8 cy h0 p3 h1 w0 w1 w2 p4 p5 p6 p7 p8 p9 p10 p11 p12 p13 p14 w3 w4 w5 h2 w6 p15 p16 w7 h3 h4 p17 p18 w8 w9 w10 w11 w12 p19 w13 w14 w15 h1 f0 h2 f1 h3 f2 h4 f3) sz) s.heap (wk_f147cc4b8 cy h0 p3 h1 w0 w1 w2 p4 p5 p6 p7 p8 p9 p10 p11 p12 p13 p14 w3 w4 w5 h2 w6 p15 p16 w7 h3 h4 p17 p18 w8 w9 w10 w11 w12 p19 w13 w14 w15 h1 f0 h2 f1 h3 f2 h4 f3) H locs ∧ lv_has ls 7 [(0, .ref h0), (1, .int p0), (2, .int p1), (3, .int p2)]) (fun H locs ls st hP => ?_) (fun J_29 => ?_)
      · obtain ⟨rfl, h, hl⟩ := hP
        refine lv_aload_n hx hb dX12_goesPairs_29 rfl (lv_at hl 0 rfl) ?_
        refine lv_iload_n hx hb dX12_goesPairs_30 rfl (lv_at hl 2 rfl) ?_
        refine q_put (v := .int p1) X hK h 0 rfl rfl wf_12 tyX12 tyX12_ok nmX12 26 (by decide) wm_5_196 rfl rfl rfl (Nat.le_of_ble_eq_true rfl) dX12_goesPairs_31 (fun H locs h_44 => ?_)
        clear h
        replace h_44 : qW D _ _ (wk_f147cc4b8 cy h0 p3 h1 w0 w1 w2 p4 p5 p6 p7 p8 p9 p10 p11 p12 p13 p14 w3 w4 w5 h2 w6 p15 p16 w7 h3 h4 p1 p18 w8 w9 w10 w11 w12 p19 w13 w14 w15 h1 f0 h2 f1 h3 f2 h4 f3) _ _ := h_44
        refine lv_aload_n hx hb dX12_goesPairs_34 rfl (lv_at hl 0 rfl) ?_
        refine lv_iload_n hx hb dX12_goesPairs_35 rfl (lv_at hl 3 rfl) ?_
        refine q_put (v := .int p2) X hK h_44 0 rfl rfl wf_12 tyX12 tyX12_ok nmX12 27 (by decide) wm_5_197 rfl rfl rfl (Nat.le_of_ble_eq_true rfl) dX12_goesPairs_36 (fun H locs h_45 => ?_)
        clear h_44
        replace h_45 : qW D _ _ (wk_f147cc4b8 cy h0 p3 h1 w0 w1 w2 p4 p5 p6 p7 p8 p9 p10 p11 p12 p13 p14 w3 w4 w5 h2 w6 p15 p16 w7 h3 h4 p1 p2 w8 w9 w10 w11 w12 p19 w13 w14 w15 h1 f0 h2 f1 h3 f2 h4 f3) _ _ := h_45
        refine lv_iconst (v := 0) hx hb dX12_goesPairs_39 (by decide) ?_
        refine lv_istore (lv' := [(4, .int 0), (0, .ref h0), (1, .int p0), (2, .int p1), (3, .int p2)]) hx hb dX12_goesPairs_40 hl (by decide) rfl (fun ls_46 hl_46 => ?_)
        clear hl
        refine q_wl (fun (v42_47_0 : Int32) H locs ls => ∃ v42_47_1 : Nat → Int32, (0 ≤ (v42_47_0).toInt ∧ (v42_47_0).toInt ≤ 10) ∧ qW D (va_A (wk_f147cc4b8 cy h0 p3 h1 w0 w1 w2 p4 p5 p6 p7 p8 p9 p10 p11 p12 p13 p14 w3 w4 w5 h2 w6 p15 p16 w7 h3 h4 p17 p18 w8 w9 w10 w11 w12 p19 w13 w14 w15 h1 f0 h2 f1 h3 f2 h4 f3) sz) s.heap (wk_f147cc4b8 cy h0 p3 h1 w0 w1 w2 p4 p5 p6 p7 p8 p9 p10 p11 p12 p13 p14 w3 w4 w5 h2 w6 p15 p16 w7 h3 h4 p1 p2 w8 w9 w10 w11 w12 p19 w13 w14 w15 h1 f0 h2 f1 h3 f2 h4 v42_47_1) H locs ∧ lv_has ls 7 [(0, .ref h0), (1, .int p0), (2, .int p1), (3, .int p2), (4, .int v42_47_0)]) (fun (v42_47_0 : Int32) => (11 - (v42_47_0).toInt).toNat) (fun q_42 ih_42 H locs ls hP => ?_) 0 ⟨f3, ⟨by decide +kernel, by decide +kernel⟩, h_45, (lv_sub hl_46 [1, 2, 3, 4, 0] rfl)⟩
        obtain ⟨v42_47_0, rfl⟩ : ∃ z, z = q_42 := ⟨_, rfl⟩
        obtain ⟨v42_47_1, hv42_47_0, h, hl⟩ := hP
        refine lv_iload hx hb dX12_goesPairs_42 (lv_at hl 4 rfl) ?_
        refine lv_bipush (v := 10) hx hb dX12_goesPairs_44 (by decide) ?_
        refine lv_icmp_ge (tgt := 69) hx hb dX12_goesPairs_46 (by decide) (fun c_48 => ?_) (fun c_48 => ?_)
        · replace c_48 := i_le (x := 10) (y := v42_47_0) (show (10 : Int32).toInt = 10 by decide) rfl c_48
          exact q_vret X hr hlk hK h (fun _ => 0, (vcons (fun _ => p1) (vcons (fun _ => p2) (vcons f2 (vcons v42_47_1 (fun _ => (fun _ => 0)))))), fun _ _ => 0) ⟨(bw hp1 (by decide) (by decide)), (bw hp2 (by decide) (by decide)), trivial⟩ [0, 1, 2, 3, 4] rfl rfl dX12_goesPairs_69 (Nat.le_of_ble_eq_true rfl) (Nat.le_of_ble_eq_true rfl)
        · replace c_48 := i_nle (x := 10) (y := v42_47_0) (show (10 : Int32).toInt = 10 by decide) rfl c_48
          refine lv_aload_n hx hb dX12_goesPairs_49 rfl (lv_at hl 0 rfl) ?_
          refine q_get X hK h 0 rfl rfl wf_12 25 (by decide) rfl wm_5_195 dX12_goesPairs_50 ?_
          refine lv_iload hx hb dX12_goesPairs_53 (lv_at hl 4 rfl) ?_
          refine lv_aload_n hx hb dX12_goesPairs_55 rfl (lv_at hl 0 rfl) ?_
          refine q_get X hK h 0 rfl rfl wf_12 24 (by decide) rfl wm_5_194 dX12_goesPairs_56 ?_
          refine lv_iload hx hb dX12_goesPairs_59 (lv_at hl 4 rfl) ?_
          refine q_iald X hK h 3 rfl (i_in rfl (by omega) (by omega)) dX12_goesPairs_61 ?_
          refine q_any (fun z_49 hz_49 => ?_)
          refine q_iast X hK h 4 rfl (i_in rfl (by omega) (by omega)) dX12_goesPairs_62 (fun H locs h_51 => ?_)
          clear h
          replace h_51 : qW D _ _ (wk_f147cc4b8 cy h0 p3 h1 w0 w1 w2 p4 p5 p6 p7 p8 p9 p10 p11 p12 p13 p14 w3 w4 w5 h2 w6 p15 p16 w7 h3 h4 p1 p2 w8 w9 w10 w11 w12 p19 w13 w14 w15 h1 f0 h2 f1 h3 f2 h4 (upd v42_47_1 (Int32.toNatClampNeg v42_47_0) z_49)) _ _ := h_51
          obtain ⟨F_50, eF_50⟩ : ∃ z, (upd v42_47_1 (Int32.toNatClampNeg v42_47_0) z_49) = z := ⟨_, rfl⟩
          rw [eF_50] at h_51
          clear eF_50
          obtain ⟨z_52, ez_52, hz_52⟩ := e_add (x := v42_47_0) (y := Int32.ofInt 1) rfl (b := 1) (by decide) (by omega) (by omega)
          refine lv_iinc (v := z_52) (lv' := [(4, .int z_52), (0, .ref h0), (1, .int p0), (2, .int p1), (3, .int p2)]) hx hb dX12_goesPairs_63 hl (k := 4) rfl ez_52 (by decide) rfl (fun ls_52 hl_52 => ?_)
          clear hl
          refine lv_goto (tgt := 42) hx hb dX12_goesPairs_66 (by decide) ?_
          exact ih_42 z_52 (by show (11 - (z_52).toInt).toNat < (11 - (v42_47_0).toInt).toNat; omega) _ _ _ ⟨F_50, ⟨by omega, by omega⟩, h_51, (lv_sub hl_52 [1, 2, 3, 4, 0] rfl)⟩
      · skip
        refine lv_icmp_ne (tgt := 29) hx hb dX12_goesPairs_17 (by decide) (fun c_53 => ?_) (fun c_53 => ?_)
        · replace c_53 := i_ne (x := p1) (y := p17) rfl rfl c_53
          exact J_29 _ _ _ _ ⟨rfl, h, (lv_sub hl [0, 1, 2, 3] rfl)⟩
        · replace c_53 := i_eq (x := p1) (y := p17) rfl rfl c_53
          exfalso
          omega
set_option maxHeartbeats 4000000 in
set_option maxRecDepth 100000 in
theorem gX12_laysPairs_e0c774e (l : Launch) (D : va_G) (cy : Nat → ClassId) (h0 : Nat) (h1 : Nat) (h2 : Nat) (h3 : Nat) (h4 : Nat) (p0 : Int32) (p1 : Int32) (w0 : Value) (w1 : Value) (w2 : Value) (p2 : Int32) (p3 : Int32) (p4 : Int32) (p5 : Int32) (p6 : Int32) (p7 : Int32) (p8 : Int32) (p9 : Int32) (p10 : Int32) (p11 : Int32) (p12 : Int32) (w3 : Value) (w4 : Value) (w5 : Value) (w6 : Value) (p13 : Int32) (p14 : Int32) (w7 : Value) (p15 : Int32) (p16 : Int32) (w8 : Value) (w9 : Value) (w10 : Value) (w11 : Value) (w12 : Value) (p17 : Int32) (w13 : Value) (w14 : Value) (w15 : Value) (f0 : Nat → Int32) (p18 : Int32) (f1 : Nat → Int32) (f2 : Nat → Int32) (f3 : Nat → Int32) (hp0 : 0 ≤ (p0).toInt ∧ (p0).toInt ≤ 1023) (hp1 : 0 ≤ (p1).toInt ∧ (p1).toInt ≤ 0) (hp2 : 0 ≤ (p2).toInt ∧ (p2).toInt ≤ 900) (hp3 : 0 ≤ (p3).toInt ∧ (p3).toInt ≤ 900) (hp4 : 0 ≤ (p4).toInt ∧ (p4).toInt ≤ 900) (hp5 : 0 ≤ (p5).toInt ∧ (p5).toInt ≤ 900) (hp6 : (-2147483648) ≤ (p6).toInt ∧ (p6).toInt ≤ 2147483647) (hp7 : 0 ≤ (p7).toInt ∧ (p7).toInt ≤ 999) (hp8 : (-2147483648) ≤ (p8).toInt ∧ (p8).toInt ≤ 2147483647) (hp9 : (-2147483648) ≤ (p9).toInt ∧ (p9).toInt ≤ 2147483647) (hp10 : (-2147483648) ≤ (p10).toInt ∧ (p10).toInt ≤ 2147483647) (hp11 : (-2147483648) ≤ (p11).toInt ∧ (p11).toInt ≤ 2147483647) (hp12 : (-2147483648) ≤ (p12).toInt ∧ (p12).toInt ≤ 2147483647) (hp13 : (-2147483648) ≤ (p13).toInt ∧ (p13).toInt ≤ 2147483647) (hp14 : (-2147483648) ≤ (p14).toInt ∧ (p14).toInt ≤ 2147483647) (hp15 : (-2147483648) ≤ (p15).toInt ∧ (p15).toInt ≤ 2147483647) (hp16 : (-2147483648) ≤ (p16).toInt ∧ (p16).toInt ≤ 2147483647) (hp17 : (-2147483648) ≤ (p17).toInt ∧ (p17).toInt ≤ 2147483647) (hp18 : 0 ≤ (p18).toInt ∧ (p18).toInt ≤ 10) (htf0_84 : f0 84 = p18) (rf0 : AL f0) (rf1 : RG f1 10 0 1023) (sz : Nat) : MV l yX12_laysPairs cX12_laysPairs 3 { frames := 12, cells := 0, slots := 0, locals := 303 } [.ref h0, .int p0] D cy (wk_f147cc4b8 cy h0 p1 h1 w0 w1 w2 p2 p3 p4 p5 p6 p7 p8 p9 p10 p11 p12 w3 w4 w5 h2 w6 p13 p14 w7 h3 h4 p15 p16 w8 w9 w10 w11 w12 p17 w13 w14 w15 h1 f0 h2 f1 h3 f2 h4 f3) sz (fun u => ((-1) ≤ (u.2.1 0 0).toInt ∧ (u.2.1 0 0).toInt ≤ 10) ∧ ((-2147483648) ≤ (u.2.1 1 0).toInt ∧ (u.2.1 1 0).toInt ≤ 2147483647) ∧ True) (fun u => (wk_f147cc4b8 cy h0 p1 h1 w0 w1 w2 p2 p3 p4 p5 p6 p7 p8 p9 p10 p11 p12 w3 w4 w5 h2 w6 p13 p14 w7 h3 h4 (u.2.1 0 0) (u.2.1 1 0) w8 w9 w10 w11 w12 p17 w13 w14 w15 h1 f0 h2 f1 h3 (u.2.1 2) h4 (u.2.1 3))) 0 0 := by
  refine q_ent (own := RX12) (by decide) rfl (Nat.le_of_ble_eq_true rfl) (fun p e s m below meth c ls X hr hlk hnm hK hT h hA hl => ?_)
  obtain ⟨hx, hb, hml, hown, ht⟩ := id X
  replace hl : lv_has ls 3 [(0, .ref h0), (1, .int p0)] := hl
  refine lv_aload_n hx hb dX12_laysPairs_0 rfl (lv_at hl 0 rfl) ?_
  refine lv_iconst (v := (-1)) hx hb dX12_laysPairs_1 (by decide) ?_
  refine q_put (v := .int (-1)) X hK h 0 rfl rfl wf_12 tyX12 tyX12_ok nmX12 26 (by decide) wm_5_196 rfl rfl rfl (Nat.le_of_ble_eq_true rfl) dX12_laysPairs_2 (fun H locs h_1 => ?_)
  clear h
  replace h_1 : qW D _ _ (wk_f147cc4b8 cy h0 p1 h1 w0 w1 w2 p2 p3 p4 p5 p6 p7 p8 p9 p10 p11 p12 w3 w4 w5 h2 w6 p13 p14 w7 h3 h4 (-1) p16 w8 w9 w10 w11 w12 p17 w13 w14 w15 h1 f0 h2 f1 h3 f2 h4 f3) _ _ := h_1
  refine lv_aload_n hx hb dX12_laysPairs_5 rfl (lv_at hl 0 rfl) ?_
  refine lv_iconst (v := (-1)) hx hb dX12_laysPairs_6 (by decide) ?_
  refine q_put (v := .int (-1)) X hK h_1 0 rfl rfl wf_12 tyX12 tyX12_ok nmX12 27 (by decide) wm_5_197 rfl rfl rfl (Nat.le_of_ble_eq_true rfl) dX12_laysPairs_7 (fun H locs h_2 => ?_)
  clear h_1
  replace h_2 : qW D _ _ (wk_f147cc4b8 cy h0 p1 h1 w0 w1 w2 p2 p3 p4 p5 p6 p7 p8 p9 p10 p11 p12 w3 w4 w5 h2 w6 p13 p14 w7 h3 h4 (-1) (-1) w8 w9 w10 w11 w12 p17 w13 w14 w15 h1 f0 h2 f1 h3 f2 h4 f3) _ _ := h_2
  refine lv_iconst (v := 0) hx hb dX12_laysPairs_10 (by decide) ?_
  refine lv_istore_n (lv' := [(2, .int 0), (0, .ref h0), (1, .int p0)]) hx hb dX12_laysPairs_11 rfl hl (by decide) rfl (fun ls_3 hl_3 => ?_)
  clear hl
  refine q_wl (fun (v12_4_0 : Int32) H locs ls => ∃ v12_4_1 : Nat → Int32, (0 ≤ (v12_4_0).toInt ∧ (v12_4_0).toInt ≤ 10) ∧ qW D (va_A (wk_f147cc4b8 cy h0 p1 h1 w0 w1 w2 p2 p3 p4 p5 p6 p7 p8 p9 p10 p11 p12 w3 w4 w5 h2 w6 p13 p14 w7 h3 h4 p15 p16 w8 w9 w10 w11 w12 p17 w13 w14 w15 h1 f0 h2 f1 h3 f2 h4 f3) sz) s.heap (wk_f147cc4b8 cy h0 p1 h1 w0 w1 w2 p2 p3 p4 p5 p6 p7 p8 p9 p10 p11 p12 w3 w4 w5 h2 w6 p13 p14 w7 h3 h4 (-1) (-1) w8 w9 w10 w11 w12 p17 w13 w14 w15 h1 f0 h2 f1 h3 v12_4_1 h4 f3) H locs ∧ lv_has ls 3 [(0, .ref h0), (1, .int p0), (2, .int v12_4_0)]) (fun (v12_4_0 : Int32) => (11 - (v12_4_0).toInt).toNat) (fun q_12 ih_12 H locs ls hP => ?_) 0 ⟨f2, ⟨by decide +kernel, by decide +kernel⟩, h_2, (lv_sub hl_3 [1, 2, 0] rfl)⟩
  obtain ⟨v12_4_0, rfl⟩ : ∃ z, z = q_12 := ⟨_, rfl⟩
  obtain ⟨v12_4_1, hv12_4_0, h, hl⟩ := hP
  refine lv_iload_n hx hb dX12_laysPairs_12 rfl (lv_at hl 2 rfl) ?_
  refine lv_bipush (v := 10) hx hb dX12_laysPairs_13 (by decide) ?_
  refine lv_icmp_ge (tgt := 31) hx hb dX12_laysPairs_15 (by decide) (fun c_5 => ?_) (fun c_5 => ?_)
  · replace c_5 := i_le (x := 10) (y := v12_4_0) (show (10 : Int32).toInt = 10 by decide) rfl c_5
    refine lv_aload_n hx hb dX12_laysPairs_31 rfl (lv_at hl 0 rfl) ?_
    refine lv_iload_n hx hb dX12_laysPairs_32 rfl (lv_at hl 1 rfl) ?_
    refine lv_iconst (v := 0) hx hb dX12_laysPairs_33 (by decide) ?_
    refine lv_iconst (v := 0) hx hb dX12_laysPairs_34 (by decide) ?_
    refine q_callVv (rest := []) (wr := []) X hK hT hA h (fun sz => gX12_goesPairs_7cb8c5d l D cy h0 h1 h2 h3 h4 p0 (0 : Int32) (0 : Int32) p1 w0 w1 w2 p2 p3 p4 p5 p6 p7 p8 p9 p10 p11 p12 w3 w4 w5 w6 p13 p14 w7 ((-1) : Int32) ((-1) : Int32) w8 w9 w10 w11 w12 p17 w13 w14 w15 f0 p18 f1 v12_4_1 f3 hp0 ⟨by decide +kernel, by decide +kernel⟩ ⟨by decide +kernel, by decide +kernel⟩ hp1 hp2 hp3 hp4 hp5 (i_rng _) hp7 (i_rng _) (i_rng _) (i_rng _) (i_rng _) (i_rng _) (i_rng _) (i_rng _) ⟨by decide +kernel, by decide +kernel⟩ ⟨by decide +kernel, by decide +kernel⟩ (i_rng _) hp18 htf0_84 rf0 (rg_wide rf1 (by decide) (by decide)) ((by (first | assumption | omega))) sz) wm_7_116 wm_7_119 wm_1_12 hd_X12_goesPairs wm_7_118 wp_7_4 (ci := 12) (q0 := 0) rfl rfl ⟨Nat.le_of_ble_eq_true rfl, Nat.le_of_ble_eq_true rfl⟩ hl.1 rfl (Nat.le_of_ble_eq_true rfl) dX12_laysPairs_35 ⟨Nat.le_of_ble_eq_true rfl, Nat.le_of_ble_eq_true rfl⟩ [0, 1, 2, 3, 4] [] rfl rfl (by decide) rfl rfl (fun u_6 H locs w_6 h_6 => ?_)
    clear h
    obtain ⟨w6_0, w6_1, _⟩ := w_6
    replace h_6 : qW D _ _ (wk_f147cc4b8 cy h0 p1 h1 w0 w1 w2 p2 p3 p4 p5 p6 p7 p8 p9 p10 p11 p12 w3 w4 w5 h2 w6 p13 p14 w7 h3 h4 (u_6.2.1 0 0) (u_6.2.1 1 0) w8 w9 w10 w11 w12 p17 w13 w14 w15 h1 f0 h2 f1 h3 (u_6.2.1 2) h4 (u_6.2.1 3)) _ _ := h_6
    exact q_vret X hr hlk hK h_6 (fun _ => 0, (vcons (fun _ => (u_6.2.1 0 0)) (vcons (fun _ => (u_6.2.1 1 0)) (vcons (u_6.2.1 2) (vcons (u_6.2.1 3) (fun _ => (fun _ => 0)))))), fun _ _ => 0) ⟨w6_0, w6_1, trivial⟩ [0, 1, 2, 3, 4] rfl rfl dX12_laysPairs_38 (Nat.le_of_ble_eq_true rfl) (Nat.le_of_ble_eq_true rfl)
  · replace c_5 := i_nle (x := 10) (y := v12_4_0) (show (10 : Int32).toInt = 10 by decide) rfl c_5
    refine lv_aload_n hx hb dX12_laysPairs_18 rfl (lv_at hl 0 rfl) ?_
    refine q_get X hK h 0 rfl rfl wf_12 24 (by decide) rfl wm_5_194 dX12_laysPairs_19 ?_
    refine lv_iload_n hx hb dX12_laysPairs_22 rfl (lv_at hl 2 rfl) ?_
    refine lv_iconst (v := (-1)) hx hb dX12_laysPairs_23 (by decide) ?_
    refine q_iast X hK h 3 rfl (i_in rfl (by omega) (by omega)) dX12_laysPairs_24 (fun H locs h_8 => ?_)
    clear h
    replace h_8 : qW D _ _ (wk_f147cc4b8 cy h0 p1 h1 w0 w1 w2 p2 p3 p4 p5 p6 p7 p8 p9 p10 p11 p12 w3 w4 w5 h2 w6 p13 p14 w7 h3 h4 (-1) (-1) w8 w9 w10 w11 w12 p17 w13 w14 w15 h1 f0 h2 f1 h3 (upd v12_4_1 (Int32.toNatClampNeg v12_4_0) (-1)) h4 f3) _ _ := h_8
    obtain ⟨F_7, eF_7⟩ : ∃ z, (upd v12_4_1 (Int32.toNatClampNeg v12_4_0) (-1)) = z := ⟨_, rfl⟩
    rw [eF_7] at h_8
    clear eF_7
    obtain ⟨z_9, ez_9, hz_9⟩ := e_add (x := v12_4_0) (y := Int32.ofInt 1) rfl (b := 1) (by decide) (by omega) (by omega)
    refine lv_iinc (v := z_9) (lv' := [(2, .int z_9), (0, .ref h0), (1, .int p0)]) hx hb dX12_laysPairs_25 hl (k := 2) rfl ez_9 (by decide) rfl (fun ls_9 hl_9 => ?_)
    clear hl
    refine lv_goto (tgt := 12) hx hb dX12_laysPairs_28 (by decide) ?_
    exact ih_12 z_9 (by show (11 - (z_9).toInt).toNat < (11 - (v12_4_0).toInt).toNat; omega) _ _ _ ⟨F_7, ⟨by omega, by omega⟩, h_8, (lv_sub hl_9 [1, 2, 0] rfl)⟩
set_option maxHeartbeats 4000000 in
set_option maxRecDepth 100000 in
theorem gX12_pairs_629056d (l : Launch) (D : va_G) (cy : Nat → ClassId) (h0 : Nat) (h1 : Nat) (h2 : Nat) (h3 : Nat) (h4 : Nat) (h5 : Nat) (h6 : Nat) (p0 : Int32) (p1 : Int32) (p2 : Int32) (w0 : Value) (w1 : Value) (w2 : Value) (p3 : Int32) (p4 : Int32) (p5 : Int32) (p6 : Int32) (p7 : Int32) (p8 : Int32) (p9 : Int32) (p10 : Int32) (p11 : Int32) (p12 : Int32) (p13 : Int32) (w3 : Value) (w4 : Value) (p14 : Int32) (p15 : Int32) (w5 : Value) (p16 : Int32) (p17 : Int32) (w6 : Value) (w7 : Value) (w8 : Value) (w9 : Value) (w10 : Value) (p18 : Int32) (w11 : Value) (w12 : Value) (w13 : Value) (f0 : Nat → Int32) (p19 : Int32) (f1 : Nat → Int32) (f2 : Nat → Int32) (f3 : Nat → Int32) (f4 : Nat → Int32) (f5 : Nat → Int32) (hp0 : (-2147483648) ≤ (p0).toInt ∧ (p0).toInt ≤ 2147483647) (hp1 : (-2147483648) ≤ (p1).toInt ∧ (p1).toInt ≤ 2147483647) (hp2 : (-2147483648) ≤ (p2).toInt ∧ (p2).toInt ≤ 2147483647) (hp3 : 0 ≤ (p3).toInt ∧ (p3).toInt ≤ 900) (hp4 : 0 ≤ (p4).toInt ∧ (p4).toInt ≤ 900) (hp5 : 0 ≤ (p5).toInt ∧ (p5).toInt ≤ 900) (hp6 : 0 ≤ (p6).toInt ∧ (p6).toInt ≤ 900) (hp7 : (-2147483648) ≤ (p7).toInt ∧ (p7).toInt ≤ 2147483647) (hp8 : 0 ≤ (p8).toInt ∧ (p8).toInt ≤ 999) (hp9 : (-2147483648) ≤ (p9).toInt ∧ (p9).toInt ≤ 2147483647) (hp10 : (-2147483648) ≤ (p10).toInt ∧ (p10).toInt ≤ 2147483647) (hp11 : (-2147483648) ≤ (p11).toInt ∧ (p11).toInt ≤ 2147483647) (hp12 : (-2147483648) ≤ (p12).toInt ∧ (p12).toInt ≤ 2147483647) (hp13 : (-2147483648) ≤ (p13).toInt ∧ (p13).toInt ≤ 2147483647) (hp14 : (-2147483648) ≤ (p14).toInt ∧ (p14).toInt ≤ 2147483647) (hp15 : (-2147483648) ≤ (p15).toInt ∧ (p15).toInt ≤ 2147483647) (hp16 : (-2147483648) ≤ (p16).toInt ∧ (p16).toInt ≤ 2147483647) (hp17 : (-2147483648) ≤ (p17).toInt ∧ (p17).toInt ≤ 2147483647) (hp18 : (-2147483648) ≤ (p18).toInt ∧ (p18).toInt ≤ 2147483647) (hp19 : 0 ≤ (p19).toInt ∧ (p19).toInt ≤ 10) (htf0_84 : f0 84 = p19) (rf0 : AL f0) (rf3 : RG f3 10 0 1023) (sz : Nat) : MI l yX12_pairs cX12_pairs 3 .int { frames := 13, cells := 0, slots := 0, locals := 325 } [.ref h0, .int p0, .int p1] D cy (wk_69ec1558b cy h0 p2 h1 w0 w1 w2 p3 p4 p5 p6 p7 p8 p9 p10 p11 p12 p13 h2 h3 w3 h4 w4 p14 p15 w5 h5 h6 p16 p17 w6 w7 w8 w9 w10 p18 w11 w12 w13 h1 f0 h2 f1 h3 f2 h4 f3 h5 f4 h6 f5) sz (fun r u => ((-2147483648) ≤ r.toInt ∧ r.toInt ≤ 2147483647) ∧ (0 ≤ (u.2.1 2 0).toInt ∧ (u.2.1 2 0).toInt ≤ 0) ∧ ((-2147483648) ≤ (u.2.1 3 0).toInt ∧ (u.2.1 3 0).toInt ≤ 2147483647) ∧ ((-2147483648) ≤ (u.2.1 4 0).toInt ∧ (u.2.1 4 0).toInt ≤ 2147483647) ∧ RG (u.2.1 5) 10 0 1023 ∧ True) (fun u => (wk_69ec1558b cy h0 (u.2.1 2 0) h1 w0 w1 w2 p3 p4 p5 p6 p7 p8 p9 p10 p11 p12 p13 h2 h3 w3 h4 w4 p14 p15 w5 h5 h6 (u.2.1 3 0) (u.2.1 4 0) w6 w7 w8 w9 w10 p18 w11 w12 w13 h1 f0 h2 (u.2.1 0) h3 (u.2.1 1) h4 (u.2.1 5) h5 (u.2.1 6) h6 (u.2.1 7))) 0 0 := by
  refine q_ent (own := RX12) (by decide) rfl (Nat.le_of_ble_eq_true rfl) (fun p e s m below meth c ls X hr hlk hnm hK hT h hA hl => ?_)
  obtain ⟨hx, hb, hml, hown, ht⟩ := id X
  replace hl : lv_has ls 3 [(0, .ref h0), (1, .int p0), (2, .int p1)] := hl
  refine lv_aload_n hx hb dX12_pairs_0 rfl (lv_at hl 0 rfl) ?_
  refine lv_iconst (v := 0) hx hb dX12_pairs_1 (by decide) ?_
  refine q_put (v := .int 0) X hK h 0 rfl rfl wf_12 tyX12 tyX12_ok nmX12 0 (by decide) wm_5_170 rfl rfl rfl (Nat.le_of_ble_eq_true rfl) dX12_pairs_2 (fun H locs h_1 => ?_)
  clear h
  replace h_1 : qW D _ _ (wk_69ec1558b cy h0 0 h1 w0 w1 w2 p3 p4 p5 p6 p7 p8 p9 p10 p11 p12 p13 h2 h3 w3 h4 w4 p14 p15 w5 h5 h6 p16 p17 w6 w7 w8 w9 w10 p18 w11 w12 w13 h1 f0 h2 f1 h3 f2 h4 f3 h5 f4 h6 f5) _ _ := h_1
  refine lv_iload_n hx hb dX12_pairs_5 rfl (lv_at hl 2 rfl) ?_
  refine lv_i2l hx hb dX12_pairs_6 rfl ?_
  obtain ⟨z_2, ez_2, hz_2⟩ := e_i2l (x := p1) rfl
  refine q_cl z_2 ez_2 ?_
  clear ez_2
  refine lv_lconst (v := 0) hx hb dX12_pairs_7 (by decide) ?_
  refine lv_lconst (v := 1) hx hb dX12_pairs_8 (by decide) ?_
  refine q_callSi (rest := []) (wr := (wk_69ec1558b cy h0 0 h1 w0 w1 w2 p3 p4 p5 p6 p7 p8 p9 p10 p11 p12 p13 h2 h3 w3 h4 w4 p14 p15 w5 h5 h6 p16 p17 w6 w7 w8 w9 w10 p18 w11 w12 w13 h1 f0 h2 f1 h3 f2 h4 f3 h5 f4 h6 f5)) X hK hT hA h_1 (fun sz => gX12_within_00c7897 l D cy z_2 (0 : Int64) (1 : Int64) (j_rng _) ⟨by decide +kernel, by decide +kernel⟩ ⟨by decide +kernel, by decide +kernel⟩ sz) wm_6_50 wm_6_52 wm_1_12 hd_X12_within wm_6_51 ⟨Nat.le_of_ble_eq_true rfl, Nat.le_of_ble_eq_true rfl⟩ hl.1 rfl (Nat.le_of_ble_eq_true rfl) dX12_pairs_9 ⟨Nat.le_of_ble_eq_true rfl, Nat.le_of_ble_eq_true rfl⟩ [] [0, 1, 2, 3, 4, 5, 6] rfl rfl (by decide) rfl rfl (fun r_3 u_3 H locs w_3 h_3 => ?_)
  clear h_1
  obtain ⟨wr_3, y3_0, _⟩ := w_3
  have lq_3_1 : (0 : Int64).toInt = 0 := (by decide)
  have lq_3_2 : (1 : Int64).toInt = 1 := (by decide)
  replace h_3 : qW D _ _ (wk_69ec1558b cy h0 0 h1 w0 w1 w2 p3 p4 p5 p6 p7 p8 p9 p10 p11 p12 p13 h2 h3 w3 h4 w4 p14 p15 w5 h5 h6 p16 p17 w6 w7 w8 w9 w10 p18 w11 w12 w13 h1 f0 h2 f1 h3 f2 h4 f3 h5 f4 h6 f5) _ _ := h_3
  refine lv_if_ne (tgt := 36) hx hb dX12_pairs_12 (by decide) (fun c_4 => ?_) (fun c_4 => ?_)
  · replace c_4 := i_ne (x := r_3) (y := 0) rfl (show (0 : Int32).toInt = 0 by decide) c_4
    replace y3_0 := a10_1 y3_0 c_4
    refine lv_aload_n hx hb dX12_pairs_36 rfl (lv_at hl 0 rfl) ?_
    refine lv_iload_n hx hb dX12_pairs_37 rfl (lv_at hl 1 rfl) ?_
    refine q_callVi (rest := []) (wr := (wk_794ff6232 cy h2 f1 h3 f2 h4 f3 h5 f4 h6 f5)) X hK hT hA h_3 (fun sz => gX12_isSet_9166d70 l D cy h0 h1 p0 (0 : Int32) w0 w1 w2 p3 p4 p5 p6 p7 p8 p9 p10 p11 p12 p13 (.ref h2) (.ref h3) w3 (.ref h4) w4 p14 p15 w5 (.ref h5) (.ref h6) p16 p17 w6 w7 w8 w9 w10 p18 w11 w12 w13 f0 p19 (i_rng _) ⟨by decide +kernel, by decide +kernel⟩ hp3 hp4 hp5 hp6 (i_rng _) hp8 (i_rng _) (i_rng _) (i_rng _) (i_rng _) (i_rng _) (i_rng _) (i_rng _) (i_rng _) (i_rng _) (i_rng _) hp19 htf0_84 rf0 sz) wm_7_96 wm_7_99 wm_1_12 hd_X12_isSet wm_7_98 wp_7_1 (ci := 12) (q0 := 0) rfl rfl ⟨Nat.le_of_ble_eq_true rfl, Nat.le_of_ble_eq_true rfl⟩ hl.1 rfl (Nat.le_of_ble_eq_true rfl) dX12_pairs_38 ⟨Nat.le_of_ble_eq_true rfl, Nat.le_of_ble_eq_true rfl⟩ [0, 1] [2, 3, 4, 5, 6] rfl rfl (by decide) rfl rfl (fun r_5 u_5 H locs w_5 h_5 => ?_)
    clear h_3
    obtain ⟨wr_5, y5_0, _⟩ := w_5
    replace h_5 : qW D _ _ (wk_8e370af72 cy h2 f1 h3 f2 h4 f3 h5 f4 h6 f5 h0 0 h1 w0 w1 w2 p3 p4 p5 p6 p7 p8 p9 p10 p11 p12 p13 h2 h3 w3 h4 w4 p14 p15 w5 h5 h6 p16 p17 w6 w7 w8 w9 w10 p18 w11 w12 w13 h1 f0) _ _ := h_5
    refine lv_if_ne (tgt := 47) hx hb dX12_pairs_41 (by decide) (fun c_6 => ?_) (fun c_6 => ?_)
    · replace c_6 := i_ne (x := r_5) (y := 0) rfl (show (0 : Int32).toInt = 0 by decide) c_6
      refine lv_aload_n hx hb dX12_pairs_47 rfl (lv_at hl 0 rfl) ?_
      refine lv_aload_n hx hb dX12_pairs_48 rfl (lv_at hl 0 rfl) ?_
      refine q_get X hK h_5 5 rfl rfl wf_12 1 (by decide) rfl wm_5_171 dX12_pairs_49 ?_
      refine lv_bipush (v := 52) hx hb dX12_pairs_52 (by decide) ?_
      refine q_iald X hK h_5 6 rfl (q_in (by decide +kernel)) dX12_pairs_54 ?_
      refine q_any (fun z_7 hz_7 => ?_)
      refine q_callVv (rest := []) (wr := (wk_acf3c80ad cy h5 f4 h6 f5)) X hK hT hA h_5 (fun sz => gX12_laysOpposed_6a814f8 l D cy h0 h1 h2 h3 h4 z_7 (0 : Int32) w0 w1 w2 p3 p4 p5 p6 p7 p8 p9 p10 p11 p12 p13 w3 w4 p14 p15 w5 (.ref h5) (.ref h6) p16 p17 w6 w7 w8 w9 w10 p18 w11 w12 w13 f0 p19 f1 f2 f3 (i_rng _) ⟨by decide +kernel, by decide +kernel⟩ hp3 hp4 hp5 hp6 (i_rng _) hp8 (i_rng _) (i_rng _) (i_rng _) (i_rng _) (i_rng _) (i_rng _) (i_rng _) (i_rng _) (i_rng _) (i_rng _) hp19 htf0_84 rf0 (rg_wide rf3 (by decide) (by decide)) sz) wm_7_59 wm_7_62 wm_1_12 hd_X12_laysOpposed wm_7_61 wp_6_12 (ci := 12) (q0 := 0) rfl rfl ⟨Nat.le_of_ble_eq_true rfl, Nat.le_of_ble_eq_true rfl⟩ hl.1 rfl (Nat.le_of_ble_eq_true rfl) dX12_pairs_55 ⟨Nat.le_of_ble_eq_true rfl, Nat.le_of_ble_eq_true rfl⟩ [5, 6, 0, 1, 2] [3, 4] rfl rfl (by decide) rfl rfl (fun u_8 H locs w_8 h_8 => ?_)
      clear h_5
      obtain ⟨w8_0, _⟩ := w_8
      replace h_8 : qW D _ _ (wk_46efe495a cy h5 f4 h6 f5 h0 0 h1 w0 w1 w2 p3 p4 p5 p6 p7 p8 p9 p10 p11 p12 p13 h2 h3 w3 h4 w4 p14 p15 w5 h5 h6 p16 p17 w6 w7 w8 w9 w10 p18 w11 w12 w13 h1 f0 h2 (u_8.2.1 0) h3 (u_8.2.1 1) h4 (u_8.2.1 2)) _ _ := h_8
      refine lv_aload_n hx hb dX12_pairs_58 rfl (lv_at hl 0 rfl) ?_
      refine lv_iload_n hx hb dX12_pairs_59 rfl (lv_at hl 1 rfl) ?_
      refine q_callVv (rest := []) (wr := (wk_3fb6de35f cy h2 (u_8.2.1 0) h3 (u_8.2.1 1))) X hK hT hA h_8 (fun sz => gX12_laysPairs_e0c774e l D cy h0 h1 h4 h5 h6 p0 (0 : Int32) w0 w1 w2 p3 p4 p5 p6 p7 p8 p9 p10 p11 p12 p13 (.ref h2) (.ref h3) w3 w4 p14 p15 w5 p16 p17 w6 w7 w8 w9 w10 p18 w11 w12 w13 f0 p19 (u_8.2.1 2) f4 f5 ⟨by omega, by omega⟩ ⟨by decide +kernel, by decide +kernel⟩ hp3 hp4 hp5 hp6 (i_rng _) hp8 (i_rng _) (i_rng _) (i_rng _) (i_rng _) (i_rng _) (i_rng _) (i_rng _) (i_rng _) (i_rng _) (i_rng _) hp19 htf0_84 rf0 (rg_wide w8_0 (by decide) (by decide)) sz) wm_7_112 wm_7_115 wm_1_12 hd_X12_laysPairs wm_7_114 wp_7_3 (ci := 12) (q0 := 0) rfl rfl ⟨Nat.le_of_ble_eq_true rfl, Nat.le_of_ble_eq_true rfl⟩ hl.1 rfl (Nat.le_of_ble_eq_true rfl) dX12_pairs_60 ⟨Nat.le_of_ble_eq_true rfl, Nat.le_of_ble_eq_true rfl⟩ [2, 3, 6, 0, 1] [4, 5] rfl rfl (by decide) rfl rfl (fun u_9 H locs w_9 h_9 => ?_)
      clear h_8
      obtain ⟨w9_0, w9_1, _⟩ := w_9
      replace h_9 : qW D _ _ (wk_d169974a4 cy h2 (u_8.2.1 0) h3 (u_8.2.1 1) h0 0 h1 w0 w1 w2 p3 p4 p5 p6 p7 p8 p9 p10 p11 p12 p13 h2 h3 w3 h4 w4 p14 p15 w5 h5 h6 (u_9.2.1 0 0) (u_9.2.1 1 0) w6 w7 w8 w9 w10 p18 w11 w12 w13 h1 f0 h4 (u_8.2.1 2) h5 (u_9.2.1 2) h6 (u_9.2.1 3)) _ _ := h_9
      refine lv_iload_n hx hb dX12_pairs_63 rfl (lv_at hl 2 rfl) ?_
      refine q_jn (pc2 := 95) (fun H locs ls st => ∃ v95_10_0 : Int32, ((-2147483648) ≤ (v95_10_0).toInt ∧ (v95_10_0).toInt ≤ 2147483647) ∧ st = [.int v95_10_0] ∧ qW D (va_A (wk_69ec1558b cy h0 p2 h1 w0 w1 w2 p3 p4 p5 p6 p7 p8 p9 p10 p11 p12 p13 h2 h3 w3 h4 w4 p14 p15 w5 h5 h6 p16 p17 w6 w7 w8 w9 w10 p18 w11 w12 w13 h1 f0 h2 f1 h3 f2 h4 f3 h5 f4 h6 f5) sz) s.heap (wk_d169974a4 cy h2 (u_8.2.1 0) h3 (u_8.2.1 1) h0 0 h1 w0 w1 w2 p3 p4 p5 p6 p7 p8 p9 p10 p11 p12 p13 h2 h3 w3 h4 w4 p14 p15 w5 h5 h6 (u_9.2.1 0 0) (u_9.2.1 1 0) w6 w7 w8 w9 w10 p18 w11 w12 w13 h1 f0 h4 (u_8.2.1 2) h5 (u_9.2.1 2) h6 (u_9.2.1 3)) H locs ∧ lv_has ls 3 [(0, .ref h0), (1, .int p0), (2, .int p1)]) (fun H locs ls st hP => ?_) (fun J_95 => ?_)
      · obtain ⟨v95_10_0, hv95_10_0, rfl, h, hl⟩ := hP
        exact q_iret X hr hlk hK h rfl (fun _ => 0, (vcons (u_8.2.1 0) (vcons (u_8.2.1 1) (vcons (fun _ => 0) (vcons (fun _ => (u_9.2.1 0 0)) (vcons (fun _ => (u_9.2.1 1 0)) (vcons (u_8.2.1 2) (vcons (u_9.2.1 2) (vcons (u_9.2.1 3) (fun _ => (fun _ => 0)))))))))), fun _ _ => 0) ⟨hv95_10_0, (⟨by decide +kernel, by decide +kernel⟩ : 0 ≤ (0 : Int32).toInt ∧ (0 : Int32).toInt ≤ 0), (bw w9_0 (by decide) (by decide)), w9_1, (rg_wide w8_0 (by decide) (by decide)), trivial⟩ [2, 3, 0, 1, 4, 5, 6] rfl rfl dX12_pairs_95 (Nat.le_of_ble_eq_true rfl) (Nat.le_of_ble_eq_true rfl)
      · skip
        refine lv_if_ne (tgt := 74) hx hb dX12_pairs_64 (by decide) (fun c_11 => ?_) (fun c_11 => ?_)
        · replace c_11 := i_ne (x := p1) (y := 0) rfl (show (0 : Int32).toInt = 0 by decide) c_11
          refine lv_iload_n hx hb dX12_pairs_74 rfl (lv_at hl 2 rfl) ?_
          refine lv_iconst (v := 1) hx hb dX12_pairs_75 (by decide) ?_
          refine lv_icmp_ne (tgt := 86) hx hb dX12_pairs_76 (by decide) (fun c_12 => ?_) (fun c_12 => ?_)
          · replace c_12 := i_ne (x := p1) (y := 1) rfl (show (1 : Int32).toInt = 1 by decide) c_12
            exfalso
            omega
          · replace c_12 := i_eq (x := p1) (y := 1) rfl (show (1 : Int32).toInt = 1 by decide) c_12
            refine lv_aload_n hx hb dX12_pairs_79 rfl (lv_at hl 0 rfl) ?_
            refine q_get X hK h_9 2 rfl rfl wf_12 27 (by decide) rfl wm_5_197 dX12_pairs_80 ?_
            refine lv_goto (tgt := 95) hx hb dX12_pairs_83 (by decide) ?_
            exact J_95 _ _ _ _ ⟨(u_9.2.1 1 0), w9_1, rfl, h_9, (lv_sub hl [0, 1, 2] rfl)⟩
        · replace c_11 := i_eq (x := p1) (y := 0) rfl (show (0 : Int32).toInt = 0 by decide) c_11
          refine lv_aload_n hx hb dX12_pairs_67 rfl (lv_at hl 0 rfl) ?_
          refine q_get X hK h_9 2 rfl rfl wf_12 26 (by decide) rfl wm_5_196 dX12_pairs_68 ?_
          refine lv_goto (tgt := 95) hx hb dX12_pairs_71 (by decide) ?_
          exact J_95 _ _ _ _ ⟨(u_9.2.1 0 0), (bw w9_0 (by decide) (by decide)), rfl, h_9, (lv_sub hl [0, 1, 2] rfl)⟩
    · replace c_6 := i_eq (x := r_5) (y := 0) rfl (show (0 : Int32).toInt = 0 by decide) c_6
      refine lv_bipush (v := (-3)) hx hb dX12_pairs_44 (by decide) ?_
      exact q_iret X hr hlk hK h_5 rfl (fun _ => 0, (vcons f1 (vcons f2 (vcons (fun _ => 0) (vcons (fun _ => p16) (vcons (fun _ => p17) (vcons f3 (vcons f4 (vcons f5 (fun _ => (fun _ => 0)))))))))), fun _ _ => 0) ⟨⟨by decide +kernel, by decide +kernel⟩, (⟨by decide +kernel, by decide +kernel⟩ : 0 ≤ (0 : Int32).toInt ∧ (0 : Int32).toInt ≤ 0), hp16, hp17, (rg_wide rf3 (by decide) (by decide)), trivial⟩ [5, 6, 0, 1, 2, 3, 4] rfl rfl dX12_pairs_46 (Nat.le_of_ble_eq_true rfl) (Nat.le_of_ble_eq_true rfl)
  · replace c_4 := i_eq (x := r_3) (y := 0) rfl (show (0 : Int32).toInt = 0 by decide) c_4
    replace y3_0 := a10_0 y3_0 c_4
    refine lv_iload_n hx hb dX12_pairs_15 rfl (lv_at hl 2 rfl) ?_
    refine lv_bipush (v := 10) hx hb dX12_pairs_16 (by decide) ?_
    refine lv_icmp_lt (tgt := 33) hx hb dX12_pairs_18 (by decide) (fun c_13 => ?_) (fun c_13 => ?_)
    · replace c_13 := i_lt (x := p1) (y := 10) rfl (show (10 : Int32).toInt = 10 by decide) c_13
      refine lv_bipush (v := (-2)) hx hb dX12_pairs_33 (by decide) ?_
      exact q_iret X hr hlk hK h_3 rfl (fun _ => 0, (vcons f1 (vcons f2 (vcons (fun _ => 0) (vcons (fun _ => p16) (vcons (fun _ => p17) (vcons f3 (vcons f4 (vcons f5 (fun _ => (fun _ => 0)))))))))), fun _ _ => 0) ⟨⟨by decide +kernel, by decide +kernel⟩, (⟨by decide +kernel, by decide +kernel⟩ : 0 ≤ (0 : Int32).toInt ∧ (0 : Int32).toInt ≤ 0), hp16, hp17, (rg_wide rf3 (by decide) (by decide)), trivial⟩ [0, 1, 2, 3, 4, 5, 6] rfl rfl dX12_pairs_35 (Nat.le_of_ble_eq_true rfl) (Nat.le_of_ble_eq_true rfl)
    · replace c_13 := i_nlt (x := p1) (y := 10) rfl (show (10 : Int32).toInt = 10 by decide) c_13
      refine lv_aload_n hx hb dX12_pairs_21 rfl (lv_at hl 0 rfl) ?_
      refine lv_iload_n hx hb dX12_pairs_22 rfl (lv_at hl 2 rfl) ?_
      refine lv_bipush (v := 10) hx hb dX12_pairs_23 (by decide) ?_
      refine lv_isub hx hb dX12_pairs_25 ?_
      obtain ⟨z_14, ez_14, hz_14⟩ := e_sub (x := p1) (y := 10) rfl (show (10 : Int32).toInt = 10 by decide) (by omega) (by omega)
      refine q_c z_14 ez_14 ?_
      clear ez_14
      refine lv_i2l hx hb dX12_pairs_26 rfl ?_
      obtain ⟨z_15, ez_15, hz_15⟩ := e_i2l (x := z_14) rfl
      refine q_cl z_15 ez_15 ?_
      clear ez_15
      refine q_callVi (rest := []) (wr := (wk_794ff6232 cy h2 f1 h3 f2 h4 f3 h5 f4 h6 f5)) X hK hT hA h_3 (fun sz => gX12_isPerson_039c8d6 l D cy h0 h1 z_15 (0 : Int32) w0 w1 w2 p3 p4 p5 p6 p7 p8 p9 p10 p11 p12 p13 (.ref h2) (.ref h3) w3 (.ref h4) w4 p14 p15 w5 (.ref h5) (.ref h6) p16 p17 w6 w7 w8 w9 w10 p18 w11 w12 w13 f0 p19 ⟨by omega, by omega⟩ ⟨by decide +kernel, by decide +kernel⟩ hp3 hp4 hp5 hp6 (i_rng _) hp8 (i_rng _) (i_rng _) (i_rng _) (i_rng _) (i_rng _) (i_rng _) (i_rng _) (i_rng _) (i_rng _) (i_rng _) hp19 htf0_84 rf0 sz) wm_6_162 wm_6_165 wm_1_12 hd_X12_isPerson wm_6_164 wp_5_8 (ci := 12) (q0 := 0) rfl rfl ⟨Nat.le_of_ble_eq_true rfl, Nat.le_of_ble_eq_true rfl⟩ hl.1 rfl (Nat.le_of_ble_eq_true rfl) dX12_pairs_27 ⟨Nat.le_of_ble_eq_true rfl, Nat.le_of_ble_eq_true rfl⟩ [0, 1] [2, 3, 4, 5, 6] rfl rfl (by decide) rfl rfl (fun r_16 u_16 H locs w_16 h_16 => ?_)
      clear h_3
      obtain ⟨wr_16, y16_0, _⟩ := w_16
      replace h_16 : qW D _ _ (wk_8e370af72 cy h2 f1 h3 f2 h4 f3 h5 f4 h6 f5 h0 0 h1 w0 w1 w2 p3 p4 p5 p6 p7 p8 p9 p10 p11 p12 p13 h2 h3 w3 h4 w4 p14 p15 w5 h5 h6 p16 p17 w6 w7 w8 w9 w10 p18 w11 w12 w13 h1 f0) _ _ := h_16
      refine lv_if_ne (tgt := 36) hx hb dX12_pairs_30 (by decide) (fun c_17 => ?_) (fun c_17 => ?_)
      · replace c_17 := i_ne (x := r_16) (y := 0) rfl (show (0 : Int32).toInt = 0 by decide) c_17
        refine lv_aload_n hx hb dX12_pairs_36 rfl (lv_at hl 0 rfl) ?_
        refine lv_iload_n hx hb dX12_pairs_37 rfl (lv_at hl 1 rfl) ?_
        refine q_callVi (rest := []) (wr := (wk_794ff6232 cy h2 f1 h3 f2 h4 f3 h5 f4 h6 f5)) X hK hT hA h_16 (fun sz => gX12_isSet_9166d70 l D cy h0 h1 p0 (0 : Int32) w0 w1 w2 p3 p4 p5 p6 p7 p8 p9 p10 p11 p12 p13 (.ref h2) (.ref h3) w3 (.ref h4) w4 p14 p15 w5 (.ref h5) (.ref h6) p16 p17 w6 w7 w8 w9 w10 p18 w11 w12 w13 f0 p19 (i_rng _) ⟨by decide +kernel, by decide +kernel⟩ hp3 hp4 hp5 hp6 (i_rng _) hp8 (i_rng _) (i_rng _) (i_rng _) (i_rng _) (i_rng _) (i_rng _) (i_rng _) (i_rng _) (i_rng _) (i_rng _) hp19 htf0_84 rf0 sz) wm_7_96 wm_7_99 wm_1_12 hd_X12_isSet wm_7_98 wp_7_1 (ci := 12) (q0 := 0) rfl rfl ⟨Nat.le_of_ble_eq_true rfl, Nat.le_of_ble_eq_true rfl⟩ hl.1 rfl (Nat.le_of_ble_eq_true rfl) dX12_pairs_38 ⟨Nat.le_of_ble_eq_true rfl, Nat.le_of_ble_eq_true rfl⟩ [5, 6] [0, 1, 2, 3, 4] rfl rfl (by decide) rfl rfl (fun r_18 u_18 H locs w_18 h_18 => ?_)
        clear h_16
        obtain ⟨wr_18, y18_0, _⟩ := w_18
        replace h_18 : qW D _ _ (wk_8e370af72 cy h2 f1 h3 f2 h4 f3 h5 f4 h6 f5 h0 0 h1 w0 w1 w2 p3 p4 p5 p6 p7 p8 p9 p10 p11 p12 p13 h2 h3 w3 h4 w4 p14 p15 w5 h5 h6 p16 p17 w6 w7 w8 w9 w10 p18 w11 w12 w13 h1 f0) _ _ := h_18
        refine lv_if_ne (tgt := 47) hx hb dX12_pairs_41 (by decide) (fun c_19 => ?_) (fun c_19 => ?_)
        · replace c_19 := i_ne (x := r_18) (y := 0) rfl (show (0 : Int32).toInt = 0 by decide) c_19
          refine lv_aload_n hx hb dX12_pairs_47 rfl (lv_at hl 0 rfl) ?_
          refine lv_aload_n hx hb dX12_pairs_48 rfl (lv_at hl 0 rfl) ?_
          refine q_get X hK h_18 5 rfl rfl wf_12 1 (by decide) rfl wm_5_171 dX12_pairs_49 ?_
          refine lv_bipush (v := 52) hx hb dX12_pairs_52 (by decide) ?_
          refine q_iald X hK h_18 6 rfl (q_in (by decide +kernel)) dX12_pairs_54 ?_
          refine q_any (fun z_20 hz_20 => ?_)
          refine q_callVv (rest := []) (wr := (wk_acf3c80ad cy h5 f4 h6 f5)) X hK hT hA h_18 (fun sz => gX12_laysOpposed_6a814f8 l D cy h0 h1 h2 h3 h4 z_20 (0 : Int32) w0 w1 w2 p3 p4 p5 p6 p7 p8 p9 p10 p11 p12 p13 w3 w4 p14 p15 w5 (.ref h5) (.ref h6) p16 p17 w6 w7 w8 w9 w10 p18 w11 w12 w13 f0 p19 f1 f2 f3 (i_rng _) ⟨by decide +kernel, by decide +kernel⟩ hp3 hp4 hp5 hp6 (i_rng _) hp8 (i_rng _) (i_rng _) (i_rng _) (i_rng _) (i_rng _) (i_rng _) (i_rng _) (i_rng _) (i_rng _) (i_rng _) hp19 htf0_84 rf0 (rg_wide rf3 (by decide) (by decide)) sz) wm_7_59 wm_7_62 wm_1_12 hd_X12_laysOpposed wm_7_61 wp_6_12 (ci := 12) (q0 := 0) rfl rfl ⟨Nat.le_of_ble_eq_true rfl, Nat.le_of_ble_eq_true rfl⟩ hl.1 rfl (Nat.le_of_ble_eq_true rfl) dX12_pairs_55 ⟨Nat.le_of_ble_eq_true rfl, Nat.le_of_ble_eq_true rfl⟩ [5, 6, 0, 1, 2] [3, 4] rfl rfl (by decide) rfl rfl (fun u_21 H locs w_21 h_21 => ?_)
          clear h_18
          obtain ⟨w21_0, _⟩ := w_21
          replace h_21 : qW D _ _ (wk_46efe495a cy h5 f4 h6 f5 h0 0 h1 w0 w1 w2 p3 p4 p5 p6 p7 p8 p9 p10 p11 p12 p13 h2 h3 w3 h4 w4 p14 p15 w5 h5 h6 p16 p17 w6 w7 w8 w9 w10 p18 w11 w12 w13 h1 f0 h2 (u_21.2.1 0) h3 (u_21.2.1 1) h4 (u_21.2.1 2)) _ _ := h_21
          refine lv_aload_n hx hb dX12_pairs_58 rfl (lv_at hl 0 rfl) ?_
          refine lv_iload_n hx hb dX12_pairs_59 rfl (lv_at hl 1 rfl) ?_
          refine q_callVv (rest := []) (wr := (wk_3fb6de35f cy h2 (u_21.2.1 0) h3 (u_21.2.1 1))) X hK hT hA h_21 (fun sz => gX12_laysPairs_e0c774e l D cy h0 h1 h4 h5 h6 p0 (0 : Int32) w0 w1 w2 p3 p4 p5 p6 p7 p8 p9 p10 p11 p12 p13 (.ref h2) (.ref h3) w3 w4 p14 p15 w5 p16 p17 w6 w7 w8 w9 w10 p18 w11 w12 w13 f0 p19 (u_21.2.1 2) f4 f5 ⟨by omega, by omega⟩ ⟨by decide +kernel, by decide +kernel⟩ hp3 hp4 hp5 hp6 (i_rng _) hp8 (i_rng _) (i_rng _) (i_rng _) (i_rng _) (i_rng _) (i_rng _) (i_rng _) (i_rng _) (i_rng _) (i_rng _) hp19 htf0_84 rf0 (rg_wide w21_0 (by decide) (by decide)) sz) wm_7_112 wm_7_115 wm_1_12 hd_X12_laysPairs wm_7_114 wp_7_3 (ci := 12) (q0 := 0) rfl rfl ⟨Nat.le_of_ble_eq_true rfl, Nat.le_of_ble_eq_true rfl⟩ hl.1 rfl (Nat.le_of_ble_eq_true rfl) dX12_pairs_60 ⟨Nat.le_of_ble_eq_true rfl, Nat.le_of_ble_eq_true rfl⟩ [2, 3, 6, 0, 1] [4, 5] rfl rfl (by decide) rfl rfl (fun u_22 H locs w_22 h_22 => ?_)
          clear h_21
          obtain ⟨w22_0, w22_1, _⟩ := w_22
          replace h_22 : qW D _ _ (wk_d169974a4 cy h2 (u_21.2.1 0) h3 (u_21.2.1 1) h0 0 h1 w0 w1 w2 p3 p4 p5 p6 p7 p8 p9 p10 p11 p12 p13 h2 h3 w3 h4 w4 p14 p15 w5 h5 h6 (u_22.2.1 0 0) (u_22.2.1 1 0) w6 w7 w8 w9 w10 p18 w11 w12 w13 h1 f0 h4 (u_21.2.1 2) h5 (u_22.2.1 2) h6 (u_22.2.1 3)) _ _ := h_22
          refine lv_iload_n hx hb dX12_pairs_63 rfl (lv_at hl 2 rfl) ?_
          refine q_jn (pc2 := 95) (fun H locs ls st => ∃ v95_23_0 : Int32, ((-2147483648) ≤ (v95_23_0).toInt ∧ (v95_23_0).toInt ≤ 2147483647) ∧ st = [.int v95_23_0] ∧ qW D (va_A (wk_69ec1558b cy h0 p2 h1 w0 w1 w2 p3 p4 p5 p6 p7 p8 p9 p10 p11 p12 p13 h2 h3 w3 h4 w4 p14 p15 w5 h5 h6 p16 p17 w6 w7 w8 w9 w10 p18 w11 w12 w13 h1 f0 h2 f1 h3 f2 h4 f3 h5 f4 h6 f5) sz) s.heap (wk_d169974a4 cy h2 (u_21.2.1 0) h3 (u_21.2.1 1) h0 0 h1 w0 w1 w2 p3 p4 p5 p6 p7 p8 p9 p10 p11 p12 p13 h2 h3 w3 h4 w4 p14 p15 w5 h5 h6 (u_22.2.1 0 0) (u_22.2.1 1 0) w6 w7 w8 w9 w10 p18 w11 w12 w13 h1 f0 h4 (u_21.2.1 2) h5 (u_22.2.1 2) h6 (u_22.2.1 3)) H locs ∧ lv_has ls 3 [(0, .ref h0), (1, .int p0), (2, .int p1)]) (fun H locs ls st hP => ?_) (fun J_95 => ?_)
          · obtain ⟨v95_23_0, hv95_23_0, rfl, h, hl⟩ := hP
            exact q_iret X hr hlk hK h rfl (fun _ => 0, (vcons (u_21.2.1 0) (vcons (u_21.2.1 1) (vcons (fun _ => 0) (vcons (fun _ => (u_22.2.1 0 0)) (vcons (fun _ => (u_22.2.1 1 0)) (vcons (u_21.2.1 2) (vcons (u_22.2.1 2) (vcons (u_22.2.1 3) (fun _ => (fun _ => 0)))))))))), fun _ _ => 0) ⟨hv95_23_0, (⟨by decide +kernel, by decide +kernel⟩ : 0 ≤ (0 : Int32).toInt ∧ (0 : Int32).toInt ≤ 0), (bw w22_0 (by decide) (by decide)), w22_1, (rg_wide w21_0 (by decide) (by decide)), trivial⟩ [2, 3, 0, 1, 4, 5, 6] rfl rfl dX12_pairs_95 (Nat.le_of_ble_eq_true rfl) (Nat.le_of_ble_eq_true rfl)
          · skip
            refine lv_if_ne (tgt := 74) hx hb dX12_pairs_64 (by decide) (fun c_24 => ?_) (fun c_24 => ?_)
            · replace c_24 := i_ne (x := p1) (y := 0) rfl (show (0 : Int32).toInt = 0 by decide) c_24
              refine lv_iload_n hx hb dX12_pairs_74 rfl (lv_at hl 2 rfl) ?_
              refine lv_iconst (v := 1) hx hb dX12_pairs_75 (by decide) ?_
              refine lv_icmp_ne (tgt := 86) hx hb dX12_pairs_76 (by decide) (fun c_25 => ?_) (fun c_25 => ?_)
              · replace c_25 := i_ne (x := p1) (y := 1) rfl (show (1 : Int32).toInt = 1 by decide) c_25
                refine lv_aload_n hx hb dX12_pairs_86 rfl (lv_at hl 0 rfl) ?_
                refine q_get X hK h_22 2 rfl rfl wf_12 25 (by decide) rfl wm_5_195 dX12_pairs_87 ?_
                refine lv_iload_n hx hb dX12_pairs_90 rfl (lv_at hl 2 rfl) ?_
                refine lv_bipush (v := 10) hx hb dX12_pairs_91 (by decide) ?_
                refine lv_isub hx hb dX12_pairs_93 ?_
                obtain ⟨z_26, ez_26, hz_26⟩ := e_sub (x := p1) (y := 10) rfl (show (10 : Int32).toInt = 10 by decide) (by omega) (by omega)
                refine q_c z_26 ez_26 ?_
                clear ez_26
                refine q_iald X hK h_22 6 rfl (i_in rfl (by omega) (by omega)) dX12_pairs_94 ?_
                refine q_any (fun z_27 hz_27 => ?_)
                exact J_95 _ _ _ _ ⟨z_27, ⟨by omega, by omega⟩, rfl, h_22, (lv_sub hl [0, 1, 2] rfl)⟩
              · replace c_25 := i_eq (x := p1) (y := 1) rfl (show (1 : Int32).toInt = 1 by decide) c_25
                exfalso
                omega
            · replace c_24 := i_eq (x := p1) (y := 0) rfl (show (0 : Int32).toInt = 0 by decide) c_24
              exfalso
              omega
        · replace c_19 := i_eq (x := r_18) (y := 0) rfl (show (0 : Int32).toInt = 0 by decide) c_19
          refine lv_bipush (v := (-3)) hx hb dX12_pairs_44 (by decide) ?_
          exact q_iret X hr hlk hK h_18 rfl (fun _ => 0, (vcons f1 (vcons f2 (vcons (fun _ => 0) (vcons (fun _ => p16) (vcons (fun _ => p17) (vcons f3 (vcons f4 (vcons f5 (fun _ => (fun _ => 0)))))))))), fun _ _ => 0) ⟨⟨by decide +kernel, by decide +kernel⟩, (⟨by decide +kernel, by decide +kernel⟩ : 0 ≤ (0 : Int32).toInt ∧ (0 : Int32).toInt ≤ 0), hp16, hp17, (rg_wide rf3 (by decide) (by decide)), trivial⟩ [5, 6, 0, 1, 2, 3, 4] rfl rfl dX12_pairs_46 (Nat.le_of_ble_eq_true rfl) (Nat.le_of_ble_eq_true rfl)
      · replace c_17 := i_eq (x := r_16) (y := 0) rfl (show (0 : Int32).toInt = 0 by decide) c_17
        refine lv_bipush (v := (-2)) hx hb dX12_pairs_33 (by decide) ?_
        exact q_iret X hr hlk hK h_16 rfl (fun _ => 0, (vcons f1 (vcons f2 (vcons (fun _ => 0) (vcons (fun _ => p16) (vcons (fun _ => p17) (vcons f3 (vcons f4 (vcons f5 (fun _ => (fun _ => 0)))))))))), fun _ _ => 0) ⟨⟨by decide +kernel, by decide +kernel⟩, (⟨by decide +kernel, by decide +kernel⟩ : 0 ≤ (0 : Int32).toInt ∧ (0 : Int32).toInt ≤ 0), hp16, hp17, (rg_wide rf3 (by decide) (by decide)), trivial⟩ [5, 6, 0, 1, 2, 3, 4] rfl rfl dX12_pairs_35 (Nat.le_of_ble_eq_true rfl) (Nat.le_of_ble_eq_true rfl)
set_option maxHeartbeats 4000000 in
set_option maxRecDepth 100000 in
theorem gX12_ways_aee7924 (l : Launch) (D : va_G) (cy : Nat → ClassId) (h0 : Nat) (h1 : Nat) (h2 : Nat) (h3 : Nat) (h4 : Nat) (h5 : Nat) (p0 : Int32) (p1 : Int32) (w0 : Value) (w1 : Value) (w2 : Value) (p2 : Int32) (p3 : Int32) (p4 : Int32) (p5 : Int32) (p6 : Int32) (p7 : Int32) (p8 : Int32) (p9 : Int32) (p10 : Int32) (p11 : Int32) (p12 : Int32) (w3 : Value) (w4 : Value) (p13 : Int32) (p14 : Int32) (w5 : Value) (w6 : Value) (p15 : Int32) (p16 : Int32) (w7 : Value) (w8 : Value) (w9 : Value) (w10 : Value) (w11 : Value) (p17 : Int32) (w12 : Value) (w13 : Value) (w14 : Value) (f0 : Nat → Int32) (p18 : Int32) (f1 : Nat → Int32) (f2 : Nat → Int32) (f3 : Nat → Int32) (f4 : Nat → Int32) (hp0 : (-2147483648) ≤ (p0).toInt ∧ (p0).toInt ≤ 2147483647) (hp1 : (-2147483648) ≤ (p1).toInt ∧ (p1).toInt ≤ 2147483647) (hp2 : 0 ≤ (p2).toInt ∧ (p2).toInt ≤ 900) (hp3 : 0 ≤ (p3).toInt ∧ (p3).toInt ≤ 900) (hp4 : 0 ≤ (p4).toInt ∧ (p4).toInt ≤ 900) (hp5 : 0 ≤ (p5).toInt ∧ (p5).toInt ≤ 900) (hp6 : (-2147483648) ≤ (p6).toInt ∧ (p6).toInt ≤ 2147483647) (hp7 : 0 ≤ (p7).toInt ∧ (p7).toInt ≤ 999) (hp8 : (-2147483648) ≤ (p8).toInt ∧ (p8).toInt ≤ 2147483647) (hp9 : (-2147483648) ≤ (p9).toInt ∧ (p9).toInt ≤ 2147483647) (hp10 : (-2147483648) ≤ (p10).toInt ∧ (p10).toInt ≤ 2147483647) (hp11 : (-2147483648) ≤ (p11).toInt ∧ (p11).toInt ≤ 2147483647) (hp12 : (-2147483648) ≤ (p12).toInt ∧ (p12).toInt ≤ 2147483647) (hp13 : (-2147483648) ≤ (p13).toInt ∧ (p13).toInt ≤ 2147483647) (hp14 : (-2147483648) ≤ (p14).toInt ∧ (p14).toInt ≤ 2147483647) (hp15 : (-2147483648) ≤ (p15).toInt ∧ (p15).toInt ≤ 2147483647) (hp16 : (-2147483648) ≤ (p16).toInt ∧ (p16).toInt ≤ 2147483647) (hp17 : (-2147483648) ≤ (p17).toInt ∧ (p17).toInt ≤ 2147483647) (hp18 : 0 ≤ (p18).toInt ∧ (p18).toInt ≤ 10) (htf0_84 : f0 84 = p18) (rf0 : AL f0) (rf3 : RG f3 10 0 1023) (sz : Nat) : MI l yX12_ways cX12_ways 2 .int { frames := 5, cells := 0, slots := 0, locals := 114 } [.ref h0, .int p0] D cy (wk_eecab3214 cy h0 p1 h1 w0 w1 w2 p2 p3 p4 p5 p6 p7 p8 p9 p10 p11 p12 h2 h3 w3 h4 w4 p13 p14 h5 w5 w6 p15 p16 w7 w8 w9 w10 w11 p17 w12 w13 w14 h1 f0 h2 f1 h3 f2 h4 f3 h5 f4) sz (fun r u => ((-2147483648) ≤ r.toInt ∧ r.toInt ≤ 2147483647) ∧ (0 ≤ (u.2.1 0 0).toInt ∧ (u.2.1 0 0).toInt ≤ 0) ∧ RG (u.2.1 3) 10 0 1023 ∧ True) (fun u => (wk_eecab3214 cy h0 (u.2.1 0 0) h1 w0 w1 w2 p2 p3 p4 p5 p6 p7 p8 p9 p10 p11 p12 h2 h3 w3 h4 w4 p13 p14 h5 w5 w6 p15 p16 w7 w8 w9 w10 w11 p17 w12 w13 w14 h1 f0 h2 (u.2.1 1) h3 (u.2.1 2) h4 (u.2.1 3) h5 (u.2.1 4))) 0 0 := by
  refine q_ent (own := RX12) (by decide) rfl (Nat.le_of_ble_eq_true rfl) (fun p e s m below meth c ls X hr hlk hnm hK hT h hA hl => ?_)
  obtain ⟨hx, hb, hml, hown, ht⟩ := id X
  replace hl : lv_has ls 2 [(0, .ref h0), (1, .int p0)] := hl
  refine lv_aload_n hx hb dX12_ways_0 rfl (lv_at hl 0 rfl) ?_
  refine lv_iconst (v := 0) hx hb dX12_ways_1 (by decide) ?_
  refine q_put (v := .int 0) X hK h 0 rfl rfl wf_12 tyX12 tyX12_ok nmX12 0 (by decide) wm_5_170 rfl rfl rfl (Nat.le_of_ble_eq_true rfl) dX12_ways_2 (fun H locs h_1 => ?_)
  clear h
  replace h_1 : qW D _ _ (wk_eecab3214 cy h0 0 h1 w0 w1 w2 p2 p3 p4 p5 p6 p7 p8 p9 p10 p11 p12 h2 h3 w3 h4 w4 p13 p14 h5 w5 w6 p15 p16 w7 w8 w9 w10 w11 p17 w12 w13 w14 h1 f0 h2 f1 h3 f2 h4 f3 h5 f4) _ _ := h_1
  refine lv_aload_n hx hb dX12_ways_5 rfl (lv_at hl 0 rfl) ?_
  refine lv_iload_n hx hb dX12_ways_6 rfl (lv_at hl 1 rfl) ?_
  refine q_callVi (rest := []) (wr := (wk_1ed1fcc35 cy h2 f1 h3 f2 h4 f3 h5 f4)) X hK hT hA h_1 (fun sz => gX12_isSet_9166d70 l D cy h0 h1 p0 (0 : Int32) w0 w1 w2 p2 p3 p4 p5 p6 p7 p8 p9 p10 p11 p12 (.ref h2) (.ref h3) w3 (.ref h4) w4 p13 p14 (.ref h5) w5 w6 p15 p16 w7 w8 w9 w10 w11 p17 w12 w13 w14 f0 p18 (i_rng _) ⟨by decide +kernel, by decide +kernel⟩ hp2 hp3 hp4 hp5 (i_rng _) hp7 (i_rng _) (i_rng _) (i_rng _) (i_rng _) (i_rng _) (i_rng _) (i_rng _) (i_rng _) (i_rng _) (i_rng _) hp18 htf0_84 rf0 sz) wm_7_96 wm_7_99 wm_1_12 hd_X12_isSet wm_7_98 wp_7_1 (ci := 12) (q0 := 0) rfl rfl ⟨Nat.le_of_ble_eq_true rfl, Nat.le_of_ble_eq_true rfl⟩ hl.1 rfl (Nat.le_of_ble_eq_true rfl) dX12_ways_7 ⟨Nat.le_of_ble_eq_true rfl, Nat.le_of_ble_eq_true rfl⟩ [0, 1] [2, 3, 4, 5] rfl rfl (by decide) rfl rfl (fun r_2 u_2 H locs w_2 h_2 => ?_)
  clear h_1
  obtain ⟨wr_2, y2_0, _⟩ := w_2
  replace h_2 : qW D _ _ (wk_143caa1ee cy h2 f1 h3 f2 h4 f3 h5 f4 h0 0 h1 w0 w1 w2 p2 p3 p4 p5 p6 p7 p8 p9 p10 p11 p12 h2 h3 w3 h4 w4 p13 p14 h5 w5 w6 p15 p16 w7 w8 w9 w10 w11 p17 w12 w13 w14 h1 f0) _ _ := h_2
  refine lv_if_ne (tgt := 16) hx hb dX12_ways_10 (by decide) (fun c_3 => ?_) (fun c_3 => ?_)
  · replace c_3 := i_ne (x := r_2) (y := 0) rfl (show (0 : Int32).toInt = 0 by decide) c_3
    refine lv_aload_n hx hb dX12_ways_16 rfl (lv_at hl 0 rfl) ?_
    refine q_callVv (rest := []) (wr := []) X hK hT hA h_2 (fun sz => gX12_laysNow_7e7bd2c l D cy h0 h1 h2 h3 h4 h5 (0 : Int32) w0 w1 w2 p2 p3 p4 p5 p6 p7 p8 p9 p10 p11 p12 w3 w4 p13 p14 w5 w6 p15 p16 w7 w8 w9 w10 w11 p17 w12 w13 w14 f0 p18 f1 f2 f3 f4 ⟨by decide +kernel, by decide +kernel⟩ hp2 hp3 hp4 hp5 (i_rng _) hp7 (i_rng _) (i_rng _) (i_rng _) (i_rng _) (i_rng _) (i_rng _) (i_rng _) (i_rng _) (i_rng _) (i_rng _) hp18 htf0_84 rf0 (rg_wide rf3 (by decide) (by decide)) sz) wm_7_55 wm_7_58 wm_1_12 hd_X12_laysNow wm_7_57 wp_6_11 (ci := 12) (q0 := 0) rfl rfl ⟨Nat.le_of_ble_eq_true rfl, Nat.le_of_ble_eq_true rfl⟩ hl.1 rfl (Nat.le_of_ble_eq_true rfl) dX12_ways_17 ⟨Nat.le_of_ble_eq_true rfl, Nat.le_of_ble_eq_true rfl⟩ [4, 5, 0, 1, 2, 3] [] rfl rfl (by decide) rfl rfl (fun u_4 H locs w_4 h_4 => ?_)
    clear h_2
    obtain ⟨w4_0, _⟩ := w_4
    replace h_4 : qW D _ _ (wk_eecab3214 cy h0 0 h1 w0 w1 w2 p2 p3 p4 p5 p6 p7 p8 p9 p10 p11 p12 h2 h3 w3 h4 w4 p13 p14 h5 w5 w6 p15 p16 w7 w8 w9 w10 w11 p17 w12 w13 w14 h1 f0 h2 (u_4.2.1 0) h3 (u_4.2.1 1) h4 (u_4.2.1 2) h5 (u_4.2.1 3)) _ _ := h_4
    refine lv_aload_n hx hb dX12_ways_20 rfl (lv_at hl 0 rfl) ?_
    refine q_get X hK h_4 0 rfl rfl wf_12 23 (by decide) rfl wm_5_193 dX12_ways_21 ?_
    refine lv_iload_n hx hb dX12_ways_24 rfl (lv_at hl 1 rfl) ?_
    refine q_iald X hK h_4 5 rfl (i_in rfl (by omega) (by omega)) dX12_ways_25 ?_
    refine q_any (fun z_5 hz_5 => ?_)
    exact q_iret X hr hlk hK h_4 rfl (fun _ => 0, (vcons (fun _ => 0) (vcons (u_4.2.1 0) (vcons (u_4.2.1 1) (vcons (u_4.2.1 2) (vcons (u_4.2.1 3) (fun _ => (fun _ => 0))))))), fun _ _ => 0) ⟨⟨by omega, by omega⟩, (⟨by decide +kernel, by decide +kernel⟩ : 0 ≤ (0 : Int32).toInt ∧ (0 : Int32).toInt ≤ 0), (rg_wide w4_0 (by decide) (by decide)), trivial⟩ [0, 1, 2, 3, 4, 5] rfl rfl dX12_ways_26 (Nat.le_of_ble_eq_true rfl) (Nat.le_of_ble_eq_true rfl)
  · replace c_3 := i_eq (x := r_2) (y := 0) rfl (show (0 : Int32).toInt = 0 by decide) c_3
    refine lv_bipush (v := (-3)) hx hb dX12_ways_13 (by decide) ?_
    exact q_iret X hr hlk hK h_2 rfl (fun _ => 0, (vcons (fun _ => 0) (vcons f1 (vcons f2 (vcons f3 (vcons f4 (fun _ => (fun _ => 0))))))), fun _ _ => 0) ⟨⟨by decide +kernel, by decide +kernel⟩, (⟨by decide +kernel, by decide +kernel⟩ : 0 ≤ (0 : Int32).toInt ∧ (0 : Int32).toInt ≤ 0), (rg_wide rf3 (by decide) (by decide)), trivial⟩ [4, 5, 0, 1, 2, 3] rfl rfl dX12_ways_15 (Nat.le_of_ble_eq_true rfl) (Nat.le_of_ble_eq_true rfl)
set_option maxHeartbeats 4000000 in
set_option maxRecDepth 100000 in
theorem gX12_pieceOf_7d33966 (l : Launch) (D : va_G) (cy : Nat → ClassId) (h0 : Nat) (h1 : Nat) (h2 : Nat) (p0 : Int32) (p1 : Int32) (p2 : Int32) (w0 : Value) (w1 : Value) (w2 : Value) (p3 : Int32) (p4 : Int32) (p5 : Int32) (p6 : Int32) (p7 : Int32) (p8 : Int32) (p9 : Int32) (p10 : Int32) (p11 : Int32) (p12 : Int32) (p13 : Int32) (w3 : Value) (w4 : Value) (w5 : Value) (w6 : Value) (p14 : Int32) (p15 : Int32) (w7 : Value) (w8 : Value) (w9 : Value) (p16 : Int32) (p17 : Int32) (w10 : Value) (w11 : Value) (w12 : Value) (w13 : Value) (w14 : Value) (p18 : Int32) (w15 : Value) (w16 : Value) (w17 : Value) (f0 : Nat → Int32) (p19 : Int32) (f1 : Nat → Int32) (hp0 : 0 ≤ (p0).toInt ∧ (p0).toInt ≤ 9) (hp1 : 0 ≤ (p1).toInt ∧ (p1).toInt ≤ 1023) (hp2 : 0 ≤ (p2).toInt ∧ (p2).toInt ≤ 0) (hp3 : 0 ≤ (p3).toInt ∧ (p3).toInt ≤ 900) (hp4 : 0 ≤ (p4).toInt ∧ (p4).toInt ≤ 900) (hp5 : 0 ≤ (p5).toInt ∧ (p5).toInt ≤ 900) (hp6 : 0 ≤ (p6).toInt ∧ (p6).toInt ≤ 900) (hp7 : (-2147483648) ≤ (p7).toInt ∧ (p7).toInt ≤ 2147483647) (hp8 : 0 ≤ (p8).toInt ∧ (p8).toInt ≤ 999) (hp9 : (-2147483648) ≤ (p9).toInt ∧ (p9).toInt ≤ 2147483647) (hp10 : (-2147483648) ≤ (p10).toInt ∧ (p10).toInt ≤ 2147483647) (hp11 : (-2147483648) ≤ (p11).toInt ∧ (p11).toInt ≤ 2147483647) (hp12 : (-2147483648) ≤ (p12).toInt ∧ (p12).toInt ≤ 2147483647) (hp13 : (-2147483648) ≤ (p13).toInt ∧ (p13).toInt ≤ 2147483647) (hp14 : (-2147483648) ≤ (p14).toInt ∧ (p14).toInt ≤ 2147483647) (hp15 : (-2147483648) ≤ (p15).toInt ∧ (p15).toInt ≤ 2147483647) (hp16 : (-2147483648) ≤ (p16).toInt ∧ (p16).toInt ≤ 2147483647) (hp17 : (-2147483648) ≤ (p17).toInt ∧ (p17).toInt ≤ 2147483647) (hp18 : (-2147483648) ≤ (p18).toInt ∧ (p18).toInt ≤ 2147483647) (hp19 : 0 ≤ (p19).toInt ∧ (p19).toInt ≤ 10) (htf0_84 : f0 84 = p19) (rf0 : AL f0) (rf1 : RG f1 10 0 1023) (sz : Nat) : MI l yX12_pieceOf cX12_pieceOf 6 .int { frames := 1, cells := 0, slots := 0, locals := 22 } [.ref h0, .int p0, .int p1] D cy (wk_e3ea295b8 cy h0 p2 h1 w0 w1 w2 p3 p4 p5 p6 p7 p8 p9 p10 p11 p12 p13 w3 w4 w5 h2 w6 p14 p15 w7 w8 w9 p16 p17 w10 w11 w12 w13 w14 p18 w15 w16 w17 h1 f0 h2 f1) sz (fun r u => (1 ≤ r.toInt ∧ r.toInt ≤ 1023) ∧ (PB r p0) ∧ True) (fun u => (wk_e3ea295b8 cy h0 p2 h1 w0 w1 w2 p3 p4 p5 p6 p7 p8 p9 p10 p11 p12 p13 w3 w4 w5 h2 w6 p14 p15 w7 w8 w9 p16 p17 w10 w11 w12 w13 w14 p18 w15 w16 w17 h1 f0 h2 f1)) 0 0 := by
  refine q_ent (own := RX12) (by decide) rfl (Nat.le_of_ble_eq_true rfl) (fun p e s m below meth c ls X hr hlk hnm hK hT h hA hl => ?_)
  obtain ⟨hx, hb, hml, hown, ht⟩ := id X
  replace hl : lv_has ls 6 [(0, .ref h0), (1, .int p0), (2, .int p1)] := hl
  refine lv_iconst (v := 0) hx hb dX12_pieceOf_0 (by decide) ?_
  refine lv_istore_n (lv' := [(3, .int 0), (0, .ref h0), (1, .int p0), (2, .int p1)]) hx hb dX12_pieceOf_1 rfl hl (by decide) rfl (fun ls_1 hl_1 => ?_)
  clear hl
  refine lv_iconst (v := 1) hx hb dX12_pieceOf_2 (by decide) ?_
  refine lv_iload_n hx hb dX12_pieceOf_3 rfl (lv_at hl_1 2 rfl) ?_
  refine lv_ishl hx hb dX12_pieceOf_4 ?_
  obtain ⟨z_2, ez_2, hz_2⟩ := e_shlk (p := p0) 9 (by decide) rfl (by omega) (by omega)
  refine q_c z_2 ez_2 ?_
  refine lv_istore (lv' := [(4, .int z_2), (3, .int 0), (0, .ref h0), (1, .int p0), (2, .int p1)]) hx hb dX12_pieceOf_5 hl_1 (by decide) rfl (fun ls_3 hl_3 => ?_)
  clear hl_1
  refine q_wl (fun (q : Int32 × Int32) H locs ls => match q with | (v7_4_0, v7_4_1) => (0 ≤ (v7_4_0).toInt ∧ (v7_4_0).toInt ≤ 1023) ∧ (1 ≤ (v7_4_1).toInt ∧ (v7_4_1).toInt ≤ 1023) ∧ ((v7_4_0 : Int32).toInt ≤ (v7_4_1 : Int32).toInt) ∧ (v7_4_1 &&& z_2 = z_2) ∧ qW D (va_A (wk_e3ea295b8 cy h0 p2 h1 w0 w1 w2 p3 p4 p5 p6 p7 p8 p9 p10 p11 p12 p13 w3 w4 w5 h2 w6 p14 p15 w7 w8 w9 p16 p17 w10 w11 w12 w13 w14 p18 w15 w16 w17 h1 f0 h2 f1) sz) s.heap (wk_e3ea295b8 cy h0 p2 h1 w0 w1 w2 p3 p4 p5 p6 p7 p8 p9 p10 p11 p12 p13 w3 w4 w5 h2 w6 p14 p15 w7 w8 w9 p16 p17 w10 w11 w12 w13 w14 p18 w15 w16 w17 h1 f0 h2 f1) H locs ∧ lv_has ls 6 [(0, .ref h0), (1, .int p0), (2, .int p1), (3, .int v7_4_0), (4, .int v7_4_1)]) (fun (q : Int32 × Int32) => match q with | (v7_4_0, v7_4_1) => (1024 - (v7_4_0).toInt).toNat) (fun q_7 ih_7 H locs ls hP => ?_) (0, z_2) ⟨⟨by decide +kernel, by decide +kernel⟩, ⟨by omega, by omega⟩, (by have q0 : (0 : Int32).toInt = 0 := (by decide); omega), (and_self32 _), h, (lv_sub hl_3 [2, 3, 4, 1, 0] rfl)⟩
  obtain ⟨v7_4_0, v7_4_1⟩ := q_7
  obtain ⟨hv7_4_0, hv7_4_1, x5_0, x6_1, h, hl⟩ := hP
  refine lv_iload hx hb dX12_pieceOf_7 (lv_at hl 4 rfl) ?_
  refine lv_iload_n hx hb dX12_pieceOf_9 rfl (lv_at hl 3 rfl) ?_
  refine lv_icmp_eq (tgt := 63) hx hb dX12_pieceOf_10 (by decide) (fun c_7 => ?_) (fun c_7 => ?_)
  · replace c_7 := i_eq (x := v7_4_1) (y := v7_4_0) rfl rfl c_7
    refine lv_iload_n hx hb dX12_pieceOf_63 rfl (lv_at hl 3 rfl) ?_
    exact q_iret X hr hlk hK h rfl (fun _ => 0, fun _ _ => 0, fun _ _ => 0) ⟨⟨by omega, by omega⟩, (show PB v7_4_0 p0 from pb_mk x6_1 ez_2 (by (first | assumption | omega))), trivial⟩ [0, 1, 2] rfl rfl dX12_pieceOf_64 (Nat.le_of_ble_eq_true rfl) (Nat.le_of_ble_eq_true rfl)
  · replace c_7 := i_ne (x := v7_4_1) (y := v7_4_0) rfl rfl c_7
    refine lv_iload hx hb dX12_pieceOf_13 (lv_at hl 4 rfl) ?_
    refine lv_istore_n (lv' := [(3, .int v7_4_1), (0, .ref h0), (1, .int p0), (2, .int p1), (4, .int v7_4_1)]) hx hb dX12_pieceOf_15 rfl hl (by decide) rfl (fun ls_8 hl_8 => ?_)
    clear hl
    refine lv_iconst (v := 0) hx hb dX12_pieceOf_16 (by decide) ?_
    refine lv_istore (lv' := [(5, .int 0), (3, .int v7_4_1), (0, .ref h0), (1, .int p0), (2, .int p1), (4, .int v7_4_1)]) hx hb dX12_pieceOf_17 hl_8 (by decide) rfl (fun ls_9 hl_9 => ?_)
    clear hl_8
    refine q_wl (fun (q : Int32 × Int32) H locs ls => match q with | (v19_10_0, v19_10_1) => (0 ≤ (v19_10_0).toInt ∧ (v19_10_0).toInt ≤ 10) ∧ (1 ≤ (v19_10_1).toInt ∧ (v19_10_1).toInt ≤ 1023) ∧ ((v7_4_1 : Int32).toInt ≤ (v19_10_1 : Int32).toInt) ∧ (v19_10_1 &&& z_2 = z_2) ∧ qW D (va_A (wk_e3ea295b8 cy h0 p2 h1 w0 w1 w2 p3 p4 p5 p6 p7 p8 p9 p10 p11 p12 p13 w3 w4 w5 h2 w6 p14 p15 w7 w8 w9 p16 p17 w10 w11 w12 w13 w14 p18 w15 w16 w17 h1 f0 h2 f1) sz) s.heap (wk_e3ea295b8 cy h0 p2 h1 w0 w1 w2 p3 p4 p5 p6 p7 p8 p9 p10 p11 p12 p13 w3 w4 w5 h2 w6 p14 p15 w7 w8 w9 p16 p17 w10 w11 w12 w13 w14 p18 w15 w16 w17 h1 f0 h2 f1) H locs ∧ lv_has ls 6 [(0, .ref h0), (1, .int p0), (2, .int p1), (3, .int v7_4_1), (4, .int v19_10_1), (5, .int v19_10_0)]) (fun (q : Int32 × Int32) => match q with | (v19_10_0, v19_10_1) => (11 - (v19_10_0).toInt).toNat) (fun q_19 ih_19 H locs ls hP => ?_) (0, v7_4_1) ⟨⟨by decide +kernel, by decide +kernel⟩, hv7_4_1, ((Int.le_refl _)), (x6_1), h, (lv_sub hl_9 [2, 3, 4, 1, 5, 0] rfl)⟩
    obtain ⟨v19_10_0, v19_10_1⟩ := q_19
    obtain ⟨hv19_10_0, hv19_10_1, x11_0, x12_1, h, hl⟩ := hP
    refine lv_iload hx hb dX12_pieceOf_19 (lv_at hl 5 rfl) ?_
    refine lv_aload_n hx hb dX12_pieceOf_21 rfl (lv_at hl 0 rfl) ?_
    refine q_get X hK h 0 rfl rfl wf_12 1 (by decide) rfl wm_5_171 dX12_pieceOf_22 ?_
    refine lv_iconst (v := 2) hx hb dX12_pieceOf_25 (by decide) ?_
    refine q_iald X hK h 1 rfl (q_in (by decide +kernel)) dX12_pieceOf_26 ?_
    obtain ⟨z_13, ez_13, hz_13⟩ := al_P rf0 (x := 2) (show (2 : Int32).toInt = 2 by decide) (by omega) (by omega)
    refine q_c z_13 ez_13 ?_
    clear ez_13
    refine lv_icmp_ge (tgt := 60) hx hb dX12_pieceOf_27 (by decide) (fun c_14 => ?_) (fun c_14 => ?_)
    · replace c_14 := i_le (x := z_13) (y := v19_10_0) rfl rfl c_14
      refine lv_goto (tgt := 7) hx hb dX12_pieceOf_60 (by decide) ?_
      exact ih_7 (v7_4_1, v19_10_1) (by show (1024 - (v7_4_1).toInt).toNat < (1024 - (v7_4_0).toInt).toNat; omega) _ _ _ ⟨(bw hv7_4_1 (by decide) (by decide)), hv19_10_1, (x11_0), (x12_1), h, (lv_sub hl [0, 1, 2, 3, 4] rfl)⟩
    · replace c_14 := i_nle (x := z_13) (y := v19_10_0) rfl rfl c_14
      refine lv_iload_n hx hb dX12_pieceOf_30 rfl (lv_at hl 3 rfl) ?_
      refine lv_i2l hx hb dX12_pieceOf_31 rfl ?_
      obtain ⟨z_15, ez_15, hz_15⟩ := e_i2l (x := v7_4_1) rfl
      refine q_cl z_15 ez_15 ?_
      clear ez_15
      refine lv_iload hx hb dX12_pieceOf_32 (lv_at hl 5 rfl) ?_
      refine q_callSi (rest := []) (wr := (wk_e3ea295b8 cy h0 p2 h1 w0 w1 w2 p3 p4 p5 p6 p7 p8 p9 p10 p11 p12 p13 w3 w4 w5 h2 w6 p14 p15 w7 w8 w9 p16 p17 w10 w11 w12 w13 w14 p18 w15 w16 w17 h1 f0 h2 f1)) X hK hT hA h (fun sz => gX12_isIn_b0455a8 l D cy z_15 v19_10_0 ⟨by omega, by omega⟩ ⟨by omega, by omega⟩ sz) wm_6_167 wm_6_169 wm_1_12 hd_X12_isIn wm_6_168 ⟨Nat.le_of_ble_eq_true rfl, Nat.le_of_ble_eq_true rfl⟩ hl.1 rfl (Nat.le_of_ble_eq_true rfl) dX12_pieceOf_34 ⟨Nat.le_of_ble_eq_true rfl, Nat.le_of_ble_eq_true rfl⟩ [] [0, 1, 2] rfl rfl (by decide) rfl rfl (fun r_16 u_16 H locs w_16 h_16 => ?_)
      clear h
      obtain ⟨wr_16, _⟩ := w_16
      replace h_16 : qW D _ _ (wk_e3ea295b8 cy h0 p2 h1 w0 w1 w2 p3 p4 p5 p6 p7 p8 p9 p10 p11 p12 p13 w3 w4 w5 h2 w6 p14 p15 w7 w8 w9 p16 p17 w10 w11 w12 w13 w14 p18 w15 w16 w17 h1 f0 h2 f1) _ _ := h_16
      refine q_jn (pc2 := 54) (fun H locs ls st => ∃ v54_17_0 : Int32, (1 ≤ (v54_17_0).toInt ∧ (v54_17_0).toInt ≤ 1023) ∧ ((v7_4_1 : Int32).toInt ≤ (v54_17_0 : Int32).toInt) ∧ (v54_17_0 &&& z_2 = z_2) ∧ st = [] ∧ qW D (va_A (wk_e3ea295b8 cy h0 p2 h1 w0 w1 w2 p3 p4 p5 p6 p7 p8 p9 p10 p11 p12 p13 w3 w4 w5 h2 w6 p14 p15 w7 w8 w9 p16 p17 w10 w11 w12 w13 w14 p18 w15 w16 w17 h1 f0 h2 f1) sz) s.heap (wk_e3ea295b8 cy h0 p2 h1 w0 w1 w2 p3 p4 p5 p6 p7 p8 p9 p10 p11 p12 p13 w3 w4 w5 h2 w6 p14 p15 w7 w8 w9 p16 p17 w10 w11 w12 w13 w14 p18 w15 w16 w17 h1 f0 h2 f1) H locs ∧ lv_has ls 6 [(0, .ref h0), (1, .int p0), (2, .int p1), (3, .int v7_4_1), (4, .int v54_17_0), (5, .int v19_10_0)]) (fun H locs ls st hP => ?_) (fun J_54 => ?_)
      · obtain ⟨v54_17_0, hv54_17_0, x18_0, x19_1, rfl, h, hl⟩ := hP
        obtain ⟨z_20, ez_20, hz_20⟩ := e_add (x := v19_10_0) (y := Int32.ofInt 1) rfl (b := 1) (by decide) (by omega) (by omega)
        refine lv_iinc (v := z_20) (lv' := [(5, .int z_20), (0, .ref h0), (1, .int p0), (2, .int p1), (3, .int v7_4_1), (4, .int v54_17_0)]) hx hb dX12_pieceOf_54 hl (k := 5) rfl ez_20 (by decide) rfl (fun ls_20 hl_20 => ?_)
        clear hl
        refine lv_goto (tgt := 19) hx hb dX12_pieceOf_57 (by decide) ?_
        exact ih_19 (z_20, v54_17_0) (by show (11 - (z_20).toInt).toNat < (11 - (v19_10_0).toInt).toNat; omega) _ _ _ ⟨⟨by omega, by omega⟩, hv54_17_0, (x18_0), (x19_1), h, (lv_sub hl_20 [1, 2, 3, 4, 5, 0] rfl)⟩
      · skip
        refine lv_if_eq (tgt := 54) hx hb dX12_pieceOf_37 (by decide) (fun c_21 => ?_) (fun c_21 => ?_)
        · replace c_21 := i_eq (x := r_16) (y := 0) rfl (show (0 : Int32).toInt = 0 by decide) c_21
          exact J_54 _ _ _ _ ⟨v19_10_1, hv19_10_1, (x11_0), (x12_1), rfl, h_16, (lv_sub hl [0, 1, 2, 3, 4, 5] rfl)⟩
        · replace c_21 := i_ne (x := r_16) (y := 0) rfl (show (0 : Int32).toInt = 0 by decide) c_21
          refine lv_iload hx hb dX12_pieceOf_40 (lv_at hl 4 rfl) ?_
          refine lv_aload_n hx hb dX12_pieceOf_42 rfl (lv_at hl 0 rfl) ?_
          refine q_get X hK h_16 0 rfl rfl wf_12 19 (by decide) rfl wm_5_189 dX12_pieceOf_43 ?_
          refine lv_iload hx hb dX12_pieceOf_46 (lv_at hl 5 rfl) ?_
          refine q_iald X hK h_16 2 rfl (i_in rfl (by omega) (by omega)) dX12_pieceOf_48 ?_
          obtain ⟨z_22, ez_22, hz_22⟩ := rg_get rf1 (x := v19_10_0) rfl (by omega) (by omega)
          refine q_c z_22 ez_22 ?_
          clear ez_22
          refine lv_iload_n hx hb dX12_pieceOf_49 rfl (lv_at hl 2 rfl) ?_
          refine lv_iand hx hb dX12_pieceOf_50 ?_
          obtain ⟨z_23, ez_23, hz_23⟩ := e_and2 (x := z_22) (y := p1) rfl (by omega)
          refine q_c z_23 ez_23 ?_
          clear ez_23
          refine lv_ior hx hb dX12_pieceOf_51 ?_
          obtain ⟨z_24, ez_24, hz_24⟩ := e_orm (x := v19_10_1) (y := z_23) 10 (by decide) rfl rfl (by omega) (by omega) (by omega) (by omega)
          refine q_c z_24 ez_24 ?_
          have ob_25 := or_bit x12_1 ez_24
          refine lv_istore (lv' := [(4, .int z_24), (0, .ref h0), (1, .int p0), (2, .int p1), (3, .int v7_4_1), (5, .int v19_10_0)]) hx hb dX12_pieceOf_52 hl (by decide) rfl (fun ls_26 hl_26 => ?_)
          clear hl
          exact J_54 _ _ _ _ ⟨z_24, ⟨by omega, by omega⟩, (by omega), (ob_25), rfl, h_16, (lv_sub hl_26 [1, 2, 3, 4, 0, 5] rfl)⟩
set_option maxHeartbeats 4000000 in
set_option maxRecDepth 100000 in
theorem gX12_piecesOf_88acc35 (l : Launch) (D : va_G) (cy : Nat → ClassId) (h0 : Nat) (h1 : Nat) (h2 : Nat) (p0 : Int32) (p1 : Int32) (p2 : Int32) (w0 : Value) (w1 : Value) (w2 : Value) (p3 : Int32) (p4 : Int32) (p5 : Int32) (p6 : Int32) (p7 : Int32) (p8 : Int32) (p9 : Int32) (p10 : Int32) (p11 : Int32) (p12 : Int32) (p13 : Int32) (w3 : Value) (w4 : Value) (w5 : Value) (w6 : Value) (p14 : Int32) (p15 : Int32) (w7 : Value) (w8 : Value) (w9 : Value) (p16 : Int32) (p17 : Int32) (w10 : Value) (w11 : Value) (w12 : Value) (w13 : Value) (w14 : Value) (p18 : Int32) (w15 : Value) (w16 : Value) (w17 : Value) (f0 : Nat → Int32) (p19 : Int32) (f1 : Nat → Int32) (hp0 : 0 ≤ (p0).toInt ∧ (p0).toInt ≤ 1023) (hp1 : 0 ≤ (p1).toInt ∧ (p1).toInt ≤ 1) (hp2 : 0 ≤ (p2).toInt ∧ (p2).toInt ≤ 0) (hp3 : 0 ≤ (p3).toInt ∧ (p3).toInt ≤ 900) (hp4 : 0 ≤ (p4).toInt ∧ (p4).toInt ≤ 900) (hp5 : 0 ≤ (p5).toInt ∧ (p5).toInt ≤ 900) (hp6 : 0 ≤ (p6).toInt ∧ (p6).toInt ≤ 900) (hp7 : (-2147483648) ≤ (p7).toInt ∧ (p7).toInt ≤ 2147483647) (hp8 : 0 ≤ (p8).toInt ∧ (p8).toInt ≤ 999) (hp9 : (-2147483648) ≤ (p9).toInt ∧ (p9).toInt ≤ 2147483647) (hp10 : (-2147483648) ≤ (p10).toInt ∧ (p10).toInt ≤ 2147483647) (hp11 : (-2147483648) ≤ (p11).toInt ∧ (p11).toInt ≤ 2147483647) (hp12 : (-2147483648) ≤ (p12).toInt ∧ (p12).toInt ≤ 2147483647) (hp13 : (-2147483648) ≤ (p13).toInt ∧ (p13).toInt ≤ 2147483647) (hp14 : (-2147483648) ≤ (p14).toInt ∧ (p14).toInt ≤ 2147483647) (hp15 : (-2147483648) ≤ (p15).toInt ∧ (p15).toInt ≤ 2147483647) (hp16 : (-2147483648) ≤ (p16).toInt ∧ (p16).toInt ≤ 2147483647) (hp17 : (-2147483648) ≤ (p17).toInt ∧ (p17).toInt ≤ 2147483647) (hp18 : (-2147483648) ≤ (p18).toInt ∧ (p18).toInt ≤ 2147483647) (hp19 : 0 ≤ (p19).toInt ∧ (p19).toInt ≤ 10) (htf0_84 : f0 84 = p19) (rf0 : AL f0) (rf1 : RG f1 10 0 1023) (sz : Nat) : MI l yX12_piecesOf cX12_piecesOf 6 .int { frames := 2, cells := 0, slots := 0, locals := 47 } [.ref h0, .int p0, .int p1] D cy (wk_e3ea295b8 cy h0 p2 h1 w0 w1 w2 p3 p4 p5 p6 p7 p8 p9 p10 p11 p12 p13 w3 w4 w5 h2 w6 p14 p15 w7 w8 w9 p16 p17 w10 w11 w12 w13 w14 p18 w15 w16 w17 h1 f0 h2 f1) sz (fun r u => ((-2147483648) ≤ r.toInt ∧ r.toInt ≤ 2147483647) ∧ True) (fun u => (wk_e3ea295b8 cy h0 p2 h1 w0 w1 w2 p3 p4 p5 p6 p7 p8 p9 p10 p11 p12 p13 w3 w4 w5 h2 w6 p14 p15 w7 w8 w9 p16 p17 w10 w11 w12 w13 w14 p18 w15 w16 w17 h1 f0 h2 f1)) 0 0 := by
  refine q_ent (own := RX12) (by decide) rfl (Nat.le_of_ble_eq_true rfl) (fun p e s m below meth c ls X hr hlk hnm hK hT h hA hl => ?_)
  obtain ⟨hx, hb, hml, hown, ht⟩ := id X
  replace hl : lv_has ls 6 [(0, .ref h0), (1, .int p0), (2, .int p1)] := hl
  refine lv_iconst (v := 0) hx hb dX12_piecesOf_0 (by decide) ?_
  refine lv_istore_n (lv' := [(3, .int 0), (0, .ref h0), (1, .int p0), (2, .int p1)]) hx hb dX12_piecesOf_1 rfl hl (by decide) rfl (fun ls_1 hl_1 => ?_)
  clear hl
  refine lv_iload_n hx hb dX12_piecesOf_2 rfl (lv_at hl_1 2 rfl) ?_
  refine lv_istore (lv' := [(4, .int p0), (3, .int 0), (0, .ref h0), (1, .int p0), (2, .int p1)]) hx hb dX12_piecesOf_3 hl_1 (by decide) rfl (fun ls_2 hl_2 => ?_)
  clear hl_1
  refine q_wl (fun (q : Int32 × Int32) H locs ls => match q with | (v5_3_0, v5_3_1) => (0 ≤ (v5_3_0).toInt ∧ (v5_3_0).toInt ≤ 1023) ∧ ((-2147483648) ≤ (v5_3_1).toInt ∧ (v5_3_1).toInt ≤ 2147483647) ∧ qW D (va_A (wk_e3ea295b8 cy h0 p2 h1 w0 w1 w2 p3 p4 p5 p6 p7 p8 p9 p10 p11 p12 p13 w3 w4 w5 h2 w6 p14 p15 w7 w8 w9 p16 p17 w10 w11 w12 w13 w14 p18 w15 w16 w17 h1 f0 h2 f1) sz) s.heap (wk_e3ea295b8 cy h0 p2 h1 w0 w1 w2 p3 p4 p5 p6 p7 p8 p9 p10 p11 p12 p13 w3 w4 w5 h2 w6 p14 p15 w7 w8 w9 p16 p17 w10 w11 w12 w13 w14 p18 w15 w16 w17 h1 f0 h2 f1) H locs ∧ lv_has ls 6 [(0, .ref h0), (1, .int p0), (2, .int p1), (3, .int v5_3_1), (4, .int v5_3_0)]) (fun (q : Int32 × Int32) => match q with | (v5_3_0, v5_3_1) => ((v5_3_0).toInt).toNat) (fun q_5 ih_5 H locs ls hP => ?_) (p0, 0) ⟨hp0, ⟨by decide +kernel, by decide +kernel⟩, h, (lv_sub hl_2 [2, 3, 4, 1, 0] rfl)⟩
  obtain ⟨v5_3_0, v5_3_1⟩ := q_5
  obtain ⟨hv5_3_0, hv5_3_1, h, hl⟩ := hP
  refine lv_iload hx hb dX12_piecesOf_5 (lv_at hl 4 rfl) ?_
  refine lv_if_eq (tgt := 52) hx hb dX12_piecesOf_7 (by decide) (fun c_4 => ?_) (fun c_4 => ?_)
  · replace c_4 := i_eq (x := v5_3_0) (y := 0) rfl (show (0 : Int32).toInt = 0 by decide) c_4
    refine lv_iload_n hx hb dX12_piecesOf_52 rfl (lv_at hl 3 rfl) ?_
    exact q_iret X hr hlk hK h rfl (fun _ => 0, fun _ _ => 0, fun _ _ => 0) ⟨hv5_3_1, trivial⟩ [0, 1, 2] rfl rfl dX12_piecesOf_53 (Nat.le_of_ble_eq_true rfl) (Nat.le_of_ble_eq_true rfl)
  · replace c_4 := i_ne (x := v5_3_0) (y := 0) rfl (show (0 : Int32).toInt = 0 by decide) c_4
    refine lv_aload_n hx hb dX12_piecesOf_10 rfl (lv_at hl 0 rfl) ?_
    refine lv_iload hx hb dX12_piecesOf_11 (lv_at hl 4 rfl) ?_
    refine q_callSi (rest := [.ref h0]) (wr := (wk_e3ea295b8 cy h0 p2 h1 w0 w1 w2 p3 p4 p5 p6 p7 p8 p9 p10 p11 p12 p13 w3 w4 w5 h2 w6 p14 p15 w7 w8 w9 p16 p17 w10 w11 w12 w13 w14 p18 w15 w16 w17 h1 f0 h2 f1)) X hK hT hA h (fun sz => gX12_lowest_51df8cb l D cy v5_3_0 ⟨by omega, by omega⟩ sz) wm_7_67 wm_7_69 wm_1_12 hd_X12_lowest wm_7_68 ⟨Nat.le_of_ble_eq_true rfl, Nat.le_of_ble_eq_true rfl⟩ hl.1 rfl (Nat.le_of_ble_eq_true rfl) dX12_piecesOf_13 ⟨Nat.le_of_ble_eq_true rfl, Nat.le_of_ble_eq_true rfl⟩ [] [0, 1, 2] rfl rfl (by decide) rfl rfl (fun r_5 u_5 H locs w_5 h_5 => ?_)
    clear h
    obtain ⟨wr_5, y5_0, _⟩ := w_5
    replace h_5 : qW D _ _ (wk_e3ea295b8 cy h0 p2 h1 w0 w1 w2 p3 p4 p5 p6 p7 p8 p9 p10 p11 p12 p13 w3 w4 w5 h2 w6 p14 p15 w7 w8 w9 p16 p17 w10 w11 w12 w13 w14 p18 w15 w16 w17 h1 f0 h2 f1) _ _ := h_5
    refine lv_iload_n hx hb dX12_piecesOf_16 rfl (lv_at hl 1 rfl) ?_
    refine q_callVi (rest := []) (wr := []) X hK hT hA h_5 (fun sz => gX12_pieceOf_7d33966 l D cy h0 h1 h2 r_5 p0 p2 w0 w1 w2 p3 p4 p5 p6 p7 p8 p9 p10 p11 p12 p13 w3 w4 w5 w6 p14 p15 w7 w8 w9 p16 p17 w10 w11 w12 w13 w14 p18 w15 w16 w17 f0 p19 f1 wr_5 hp0 hp2 hp3 hp4 hp5 hp6 (i_rng _) hp8 (i_rng _) (i_rng _) (i_rng _) (i_rng _) (i_rng _) (i_rng _) (i_rng _) (i_rng _) (i_rng _) (i_rng _) hp19 htf0_84 rf0 (rg_wide rf1 (by decide) (by decide)) sz) wm_7_128 wm_7_131 wm_1_12 hd_X12_pieceOf wm_7_130 wp_7_6 (ci := 12) (q0 := 0) rfl rfl ⟨Nat.le_of_ble_eq_true rfl, Nat.le_of_ble_eq_true rfl⟩ hl.1 rfl (Nat.le_of_ble_eq_true rfl) dX12_piecesOf_17 ⟨Nat.le_of_ble_eq_true rfl, Nat.le_of_ble_eq_true rfl⟩ [0, 1, 2] [] rfl rfl (by decide) rfl rfl (fun r_6 u_6 H locs w_6 h_6 => ?_)
    clear h_5
    obtain ⟨wr_6, y6_0, _⟩ := w_6
    replace h_6 : qW D _ _ (wk_e3ea295b8 cy h0 p2 h1 w0 w1 w2 p3 p4 p5 p6 p7 p8 p9 p10 p11 p12 p13 w3 w4 w5 h2 w6 p14 p15 w7 w8 w9 p16 p17 w10 w11 w12 w13 w14 p18 w15 w16 w17 h1 f0 h2 f1) _ _ := h_6
    refine lv_istore (lv' := [(5, .int r_6), (0, .ref h0), (1, .int p0), (2, .int p1), (3, .int v5_3_1), (4, .int v5_3_0)]) hx hb dX12_piecesOf_20 hl (by decide) rfl (fun ls_7 hl_7 => ?_)
    clear hl
    refine lv_iload_n hx hb dX12_piecesOf_22 rfl (lv_at hl_7 4 rfl) ?_
    refine lv_iload_n hx hb dX12_piecesOf_23 rfl (lv_at hl_7 3 rfl) ?_
    refine q_jn (pc2 := 38) (fun H locs ls st => ∃ v38_8_0 : Int32, (0 ≤ (v38_8_0).toInt ∧ (v38_8_0).toInt ≤ 1) ∧ st = [.int v38_8_0, .int v5_3_1] ∧ qW D (va_A (wk_e3ea295b8 cy h0 p2 h1 w0 w1 w2 p3 p4 p5 p6 p7 p8 p9 p10 p11 p12 p13 w3 w4 w5 h2 w6 p14 p15 w7 w8 w9 p16 p17 w10 w11 w12 w13 w14 p18 w15 w16 w17 h1 f0 h2 f1) sz) s.heap (wk_e3ea295b8 cy h0 p2 h1 w0 w1 w2 p3 p4 p5 p6 p7 p8 p9 p10 p11 p12 p13 w3 w4 w5 h2 w6 p14 p15 w7 w8 w9 p16 p17 w10 w11 w12 w13 w14 p18 w15 w16 w17 h1 f0 h2 f1) H locs ∧ lv_has ls 6 [(0, .ref h0), (1, .int p0), (2, .int p1), (3, .int v5_3_1), (4, .int v5_3_0), (5, .int r_6)]) (fun H locs ls st hP => ?_) (fun J_38 => ?_)
    · obtain ⟨v38_8_0, hv38_8_0, rfl, h, hl⟩ := hP
      refine lv_iadd hx hb dX12_piecesOf_38 ?_
      refine q_any (fun z_9 hz_9 => ?_)
      refine lv_istore_n (lv' := [(3, .int z_9), (0, .ref h0), (1, .int p0), (2, .int p1), (4, .int v5_3_0), (5, .int r_6)]) hx hb dX12_piecesOf_39 rfl hl (by decide) rfl (fun ls_10 hl_10 => ?_)
      clear hl
      refine lv_iload hx hb dX12_piecesOf_40 (lv_at hl_10 4 rfl) ?_
      refine lv_iload hx hb dX12_piecesOf_42 (lv_at hl_10 5 rfl) ?_
      refine lv_iconst (v := (-1)) hx hb dX12_piecesOf_44 (by decide) ?_
      refine lv_ixor hx hb dX12_piecesOf_45 ?_
      obtain ⟨z_11, ez_11, hz_11⟩ := e_any (r_6 ^^^ (-1))
      refine q_c z_11 ez_11 ?_
      refine lv_iand hx hb dX12_piecesOf_46 ?_
      obtain ⟨z_12, ez_12, hz_12⟩ := e_and1 (x := v5_3_0) (y := z_11) rfl (by omega)
      refine q_c z_12 ez_12 ?_
      have pl_13 := piece_lt (by omega) y5_0 y6_0 ez_11 ez_12
      refine lv_istore (lv' := [(4, .int z_12), (3, .int z_9), (0, .ref h0), (1, .int p0), (2, .int p1), (5, .int r_6)]) hx hb dX12_piecesOf_47 hl_10 (by decide) rfl (fun ls_14 hl_14 => ?_)
      clear hl_10
      refine lv_goto (tgt := 5) hx hb dX12_piecesOf_49 (by decide) ?_
      exact ih_5 (z_12, z_9) (by show ((z_12).toInt).toNat < ((v5_3_0).toInt).toNat; omega) _ _ _ ⟨⟨by omega, by omega⟩, ⟨by omega, by omega⟩, h, (lv_sub hl_14 [2, 3, 4, 1, 0] rfl)⟩
    · skip
      refine lv_if_eq (tgt := 37) hx hb dX12_piecesOf_24 (by decide) (fun c_15 => ?_) (fun c_15 => ?_)
      · replace c_15 := i_eq (x := p1) (y := 0) rfl (show (0 : Int32).toInt = 0 by decide) c_15
        refine lv_iconst (v := 1) hx hb dX12_piecesOf_37 (by decide) ?_
        exact J_38 _ _ _ _ ⟨1, ⟨by decide +kernel, by decide +kernel⟩, rfl, h_6, (lv_sub hl_7 [1, 2, 3, 4, 5, 0] rfl)⟩
      · replace c_15 := i_ne (x := p1) (y := 0) rfl (show (0 : Int32).toInt = 0 by decide) c_15
        refine lv_iload hx hb dX12_piecesOf_27 (lv_at hl_7 0 rfl) ?_
        refine q_callSi (rest := [.int v5_3_1]) (wr := (wk_e3ea295b8 cy h0 p2 h1 w0 w1 w2 p3 p4 p5 p6 p7 p8 p9 p10 p11 p12 p13 w3 w4 w5 h2 w6 p14 p15 w7 w8 w9 p16 p17 w10 w11 w12 w13 w14 p18 w15 w16 w17 h1 f0 h2 f1)) X hK hT hA h_6 (fun sz => gX12_bitsOf_5a43b1c l D cy r_6 (i_rng _) sz) wm_7_8 wm_7_10 wm_1_12 hd_X12_bitsOf wm_7_9 ⟨Nat.le_of_ble_eq_true rfl, Nat.le_of_ble_eq_true rfl⟩ hl_7.1 rfl (Nat.le_of_ble_eq_true rfl) dX12_piecesOf_29 ⟨Nat.le_of_ble_eq_true rfl, Nat.le_of_ble_eq_true rfl⟩ [] [0, 1, 2] rfl rfl (by decide) rfl rfl (fun r_16 u_16 H locs w_16 h_16 => ?_)
        clear h_6
        obtain ⟨wr_16, _⟩ := w_16
        replace h_16 : qW D _ _ (wk_e3ea295b8 cy h0 p2 h1 w0 w1 w2 p3 p4 p5 p6 p7 p8 p9 p10 p11 p12 p13 w3 w4 w5 h2 w6 p14 p15 w7 w8 w9 p16 p17 w10 w11 w12 w13 w14 p18 w15 w16 w17 h1 f0 h2 f1) _ _ := h_16
        refine lv_iconst (v := 2) hx hb dX12_piecesOf_32 (by decide) ?_
        refine lv_irem hx hb dX12_piecesOf_33 (by decide) ?_
        obtain ⟨z_17, ez_17, hz_17⟩ := e_rem (x := r_16) (y := 2) rfl (show (2 : Int32).toInt = 2 by decide) (by omega) (by omega)
        refine q_c z_17 ez_17 ?_
        clear ez_17
        refine lv_goto (tgt := 38) hx hb dX12_piecesOf_34 (by decide) ?_
        exact J_38 _ _ _ _ ⟨z_17, ⟨by omega, by omega⟩, rfl, h_16, (lv_sub hl_7 [1, 2, 3, 4, 5, 0] rfl)⟩
set_option maxHeartbeats 4000000 in
set_option maxRecDepth 100000 in
theorem gX12_bar_0b47dc0 (l : Launch) (D : va_G) (cy : Nat → ClassId) (h0 : Nat) (h1 : Nat) (h2 : Nat) (h3 : Nat) (h4 : Nat) (h5 : Nat) (h6 : Nat) (p0 : Int32) (p1 : Int32) (p2 : Int32) (w0 : Value) (w1 : Value) (w2 : Value) (p3 : Int32) (p4 : Int32) (p5 : Int32) (p6 : Int32) (p7 : Int32) (p8 : Int32) (p9 : Int32) (p10 : Int32) (p11 : Int32) (p12 : Int32) (p13 : Int32) (w3 : Value) (w4 : Value) (p14 : Int32) (p15 : Int32) (w5 : Value) (p16 : Int32) (p17 : Int32) (w6 : Value) (w7 : Value) (w8 : Value) (w9 : Value) (w10 : Value) (p18 : Int32) (w11 : Value) (w12 : Value) (w13 : Value) (f0 : Nat → Int32) (p19 : Int32) (f1 : Nat → Int32) (f2 : Nat → Int32) (f3 : Nat → Int32) (f4 : Nat → Int32) (f5 : Nat → Int32) (hp0 : (-2147483648) ≤ (p0).toInt ∧ (p0).toInt ≤ 2147483647) (hp1 : (-2147483648) ≤ (p1).toInt ∧ (p1).toInt ≤ 2147483647) (hp2 : (-2147483648) ≤ (p2).toInt ∧ (p2).toInt ≤ 2147483647) (hp3 : 0 ≤ (p3).toInt ∧ (p3).toInt ≤ 900) (hp4 : 0 ≤ (p4).toInt ∧ (p4).toInt ≤ 900) (hp5 : 0 ≤ (p5).toInt ∧ (p5).toInt ≤ 900) (hp6 : 0 ≤ (p6).toInt ∧ (p6).toInt ≤ 900) (hp7 : (-2147483648) ≤ (p7).toInt ∧ (p7).toInt ≤ 2147483647) (hp8 : 0 ≤ (p8).toInt ∧ (p8).toInt ≤ 999) (hp9 : (-2147483648) ≤ (p9).toInt ∧ (p9).toInt ≤ 2147483647) (hp10 : (-2147483648) ≤ (p10).toInt ∧ (p10).toInt ≤ 2147483647) (hp11 : (-2147483648) ≤ (p11).toInt ∧ (p11).toInt ≤ 2147483647) (hp12 : (-2147483648) ≤ (p12).toInt ∧ (p12).toInt ≤ 2147483647) (hp13 : (-2147483648) ≤ (p13).toInt ∧ (p13).toInt ≤ 2147483647) (hp14 : (-2147483648) ≤ (p14).toInt ∧ (p14).toInt ≤ 2147483647) (hp15 : (-2147483648) ≤ (p15).toInt ∧ (p15).toInt ≤ 2147483647) (hp16 : (-2147483648) ≤ (p16).toInt ∧ (p16).toInt ≤ 2147483647) (hp17 : (-2147483648) ≤ (p17).toInt ∧ (p17).toInt ≤ 2147483647) (hp18 : (-2147483648) ≤ (p18).toInt ∧ (p18).toInt ≤ 2147483647) (hp19 : 0 ≤ (p19).toInt ∧ (p19).toInt ≤ 10) (htf0_84 : f0 84 = p19) (rf0 : AL f0) (rf3 : RG f3 10 0 1023) (sz : Nat) : MI l yX12_bar cX12_bar 6 .int { frames := 13, cells := 0, slots := 0, locals := 325 } [.ref h0, .int p0, .int p1] D cy (wk_69ec1558b cy h0 p2 h1 w0 w1 w2 p3 p4 p5 p6 p7 p8 p9 p10 p11 p12 p13 h2 h3 w3 h4 w4 p14 p15 w5 h5 h6 p16 p17 w6 w7 w8 w9 w10 p18 w11 w12 w13 h1 f0 h2 f1 h3 f2 h4 f3 h5 f4 h6 f5) sz (fun r u => ((-3) ≤ r.toInt ∧ r.toInt ≤ 1023) ∧ (0 ≤ (u.2.1 2 0).toInt ∧ (u.2.1 2 0).toInt ≤ 0) ∧ ((-2147483648) ≤ (u.2.1 3 0).toInt ∧ (u.2.1 3 0).toInt ≤ 2147483647) ∧ ((-2147483648) ≤ (u.2.1 4 0).toInt ∧ (u.2.1 4 0).toInt ≤ 2147483647) ∧ RG (u.2.1 5) 10 0 1023 ∧ True) (fun u => (wk_69ec1558b cy h0 (u.2.1 2 0) h1 w0 w1 w2 p3 p4 p5 p6 p7 p8 p9 p10 p11 p12 p13 h2 h3 w3 h4 w4 p14 p15 w5 h5 h6 (u.2.1 3 0) (u.2.1 4 0) w6 w7 w8 w9 w10 p18 w11 w12 w13 h1 f0 h2 (u.2.1 0) h3 (u.2.1 1) h4 (u.2.1 5) h5 (u.2.1 6) h6 (u.2.1 7))) 0 0 := by
  refine q_ent (own := RX12) (by decide) rfl (Nat.le_of_ble_eq_true rfl) (fun p e s m below meth c ls X hr hlk hnm hK hT h hA hl => ?_)
  obtain ⟨hx, hb, hml, hown, ht⟩ := id X
  replace hl : lv_has ls 6 [(0, .ref h0), (1, .int p0), (2, .int p1)] := hl
  refine lv_aload_n hx hb dX12_bar_0 rfl (lv_at hl 0 rfl) ?_
  refine lv_iconst (v := 0) hx hb dX12_bar_1 (by decide) ?_
  refine q_put (v := .int 0) X hK h 0 rfl rfl wf_12 tyX12 tyX12_ok nmX12 0 (by decide) wm_5_170 rfl rfl rfl (Nat.le_of_ble_eq_true rfl) dX12_bar_2 (fun H locs h_1 => ?_)
  clear h
  replace h_1 : qW D _ _ (wk_69ec1558b cy h0 0 h1 w0 w1 w2 p3 p4 p5 p6 p7 p8 p9 p10 p11 p12 p13 h2 h3 w3 h4 w4 p14 p15 w5 h5 h6 p16 p17 w6 w7 w8 w9 w10 p18 w11 w12 w13 h1 f0 h2 f1 h3 f2 h4 f3 h5 f4 h6 f5) _ _ := h_1
  refine lv_iload_n hx hb dX12_bar_5 rfl (lv_at hl 2 rfl) ?_
  refine lv_i2l hx hb dX12_bar_6 rfl ?_
  obtain ⟨z_2, ez_2, hz_2⟩ := e_i2l (x := p1) rfl
  refine q_cl z_2 ez_2 ?_
  clear ez_2
  refine lv_lconst (v := 0) hx hb dX12_bar_7 (by decide) ?_
  refine lv_lconst (v := 1) hx hb dX12_bar_8 (by decide) ?_
  refine q_callSi (rest := []) (wr := (wk_69ec1558b cy h0 0 h1 w0 w1 w2 p3 p4 p5 p6 p7 p8 p9 p10 p11 p12 p13 h2 h3 w3 h4 w4 p14 p15 w5 h5 h6 p16 p17 w6 w7 w8 w9 w10 p18 w11 w12 w13 h1 f0 h2 f1 h3 f2 h4 f3 h5 f4 h6 f5)) X hK hT hA h_1 (fun sz => gX12_within_00c7897 l D cy z_2 (0 : Int64) (1 : Int64) (j_rng _) ⟨by decide +kernel, by decide +kernel⟩ ⟨by decide +kernel, by decide +kernel⟩ sz) wm_6_50 wm_6_52 wm_1_12 hd_X12_within wm_6_51 ⟨Nat.le_of_ble_eq_true rfl, Nat.le_of_ble_eq_true rfl⟩ hl.1 rfl (Nat.le_of_ble_eq_true rfl) dX12_bar_9 ⟨Nat.le_of_ble_eq_true rfl, Nat.le_of_ble_eq_true rfl⟩ [] [0, 1, 2, 3, 4, 5, 6] rfl rfl (by decide) rfl rfl (fun r_3 u_3 H locs w_3 h_3 => ?_)
  clear h_1
  obtain ⟨wr_3, y3_0, _⟩ := w_3
  have lq_3_1 : (0 : Int64).toInt = 0 := (by decide)
  have lq_3_2 : (1 : Int64).toInt = 1 := (by decide)
  replace h_3 : qW D _ _ (wk_69ec1558b cy h0 0 h1 w0 w1 w2 p3 p4 p5 p6 p7 p8 p9 p10 p11 p12 p13 h2 h3 w3 h4 w4 p14 p15 w5 h5 h6 p16 p17 w6 w7 w8 w9 w10 p18 w11 w12 w13 h1 f0 h2 f1 h3 f2 h4 f3 h5 f4 h6 f5) _ _ := h_3
  refine lv_if_ne (tgt := 18) hx hb dX12_bar_12 (by decide) (fun c_4 => ?_) (fun c_4 => ?_)
  · replace c_4 := i_ne (x := r_3) (y := 0) rfl (show (0 : Int32).toInt = 0 by decide) c_4
    replace y3_0 := a10_1 y3_0 c_4
    refine lv_aload_n hx hb dX12_bar_18 rfl (lv_at hl 0 rfl) ?_
    refine lv_iload_n hx hb dX12_bar_19 rfl (lv_at hl 1 rfl) ?_
    refine q_callVi (rest := []) (wr := (wk_794ff6232 cy h2 f1 h3 f2 h4 f3 h5 f4 h6 f5)) X hK hT hA h_3 (fun sz => gX12_isSet_9166d70 l D cy h0 h1 p0 (0 : Int32) w0 w1 w2 p3 p4 p5 p6 p7 p8 p9 p10 p11 p12 p13 (.ref h2) (.ref h3) w3 (.ref h4) w4 p14 p15 w5 (.ref h5) (.ref h6) p16 p17 w6 w7 w8 w9 w10 p18 w11 w12 w13 f0 p19 (i_rng _) ⟨by decide +kernel, by decide +kernel⟩ hp3 hp4 hp5 hp6 (i_rng _) hp8 (i_rng _) (i_rng _) (i_rng _) (i_rng _) (i_rng _) (i_rng _) (i_rng _) (i_rng _) (i_rng _) (i_rng _) hp19 htf0_84 rf0 sz) wm_7_96 wm_7_99 wm_1_12 hd_X12_isSet wm_7_98 wp_7_1 (ci := 12) (q0 := 0) rfl rfl ⟨Nat.le_of_ble_eq_true rfl, Nat.le_of_ble_eq_true rfl⟩ hl.1 rfl (Nat.le_of_ble_eq_true rfl) dX12_bar_20 ⟨Nat.le_of_ble_eq_true rfl, Nat.le_of_ble_eq_true rfl⟩ [0, 1] [2, 3, 4, 5, 6] rfl rfl (by decide) rfl rfl (fun r_5 u_5 H locs w_5 h_5 => ?_)
    clear h_3
    obtain ⟨wr_5, y5_0, _⟩ := w_5
    replace h_5 : qW D _ _ (wk_8e370af72 cy h2 f1 h3 f2 h4 f3 h5 f4 h6 f5 h0 0 h1 w0 w1 w2 p3 p4 p5 p6 p7 p8 p9 p10 p11 p12 p13 h2 h3 w3 h4 w4 p14 p15 w5 h5 h6 p16 p17 w6 w7 w8 w9 w10 p18 w11 w12 w13 h1 f0) _ _ := h_5
    refine lv_if_ne (tgt := 29) hx hb dX12_bar_23 (by decide) (fun c_6 => ?_) (fun c_6 => ?_)
    · replace c_6 := i_ne (x := r_5) (y := 0) rfl (show (0 : Int32).toInt = 0 by decide) c_6
      refine lv_aload_n hx hb dX12_bar_29 rfl (lv_at hl 0 rfl) ?_
      refine lv_aload_n hx hb dX12_bar_30 rfl (lv_at hl 0 rfl) ?_
      refine q_get X hK h_5 5 rfl rfl wf_12 1 (by decide) rfl wm_5_171 dX12_bar_31 ?_
      refine lv_bipush (v := 52) hx hb dX12_bar_34 (by decide) ?_
      refine q_iald X hK h_5 6 rfl (q_in (by decide +kernel)) dX12_bar_36 ?_
      refine q_any (fun z_7 hz_7 => ?_)
      refine q_callVv (rest := []) (wr := (wk_acf3c80ad cy h5 f4 h6 f5)) X hK hT hA h_5 (fun sz => gX12_laysOpposed_6a814f8 l D cy h0 h1 h2 h3 h4 z_7 (0 : Int32) w0 w1 w2 p3 p4 p5 p6 p7 p8 p9 p10 p11 p12 p13 w3 w4 p14 p15 w5 (.ref h5) (.ref h6) p16 p17 w6 w7 w8 w9 w10 p18 w11 w12 w13 f0 p19 f1 f2 f3 (i_rng _) ⟨by decide +kernel, by decide +kernel⟩ hp3 hp4 hp5 hp6 (i_rng _) hp8 (i_rng _) (i_rng _) (i_rng _) (i_rng _) (i_rng _) (i_rng _) (i_rng _) (i_rng _) (i_rng _) (i_rng _) hp19 htf0_84 rf0 (rg_wide rf3 (by decide) (by decide)) sz) wm_7_59 wm_7_62 wm_1_12 hd_X12_laysOpposed wm_7_61 wp_6_12 (ci := 12) (q0 := 0) rfl rfl ⟨Nat.le_of_ble_eq_true rfl, Nat.le_of_ble_eq_true rfl⟩ hl.1 rfl (Nat.le_of_ble_eq_true rfl) dX12_bar_37 ⟨Nat.le_of_ble_eq_true rfl, Nat.le_of_ble_eq_true rfl⟩ [5, 6, 0, 1, 2] [3, 4] rfl rfl (by decide) rfl rfl (fun u_8 H locs w_8 h_8 => ?_)
      clear h_5
      obtain ⟨w8_0, _⟩ := w_8
      replace h_8 : qW D _ _ (wk_46efe495a cy h5 f4 h6 f5 h0 0 h1 w0 w1 w2 p3 p4 p5 p6 p7 p8 p9 p10 p11 p12 p13 h2 h3 w3 h4 w4 p14 p15 w5 h5 h6 p16 p17 w6 w7 w8 w9 w10 p18 w11 w12 w13 h1 f0 h2 (u_8.2.1 0) h3 (u_8.2.1 1) h4 (u_8.2.1 2)) _ _ := h_8
      refine lv_aload_n hx hb dX12_bar_40 rfl (lv_at hl 0 rfl) ?_
      refine lv_iload_n hx hb dX12_bar_41 rfl (lv_at hl 1 rfl) ?_
      refine q_callVv (rest := []) (wr := (wk_3fb6de35f cy h2 (u_8.2.1 0) h3 (u_8.2.1 1))) X hK hT hA h_8 (fun sz => gX12_laysPairs_e0c774e l D cy h0 h1 h4 h5 h6 p0 (0 : Int32) w0 w1 w2 p3 p4 p5 p6 p7 p8 p9 p10 p11 p12 p13 (.ref h2) (.ref h3) w3 w4 p14 p15 w5 p16 p17 w6 w7 w8 w9 w10 p18 w11 w12 w13 f0 p19 (u_8.2.1 2) f4 f5 ⟨by omega, by omega⟩ ⟨by decide +kernel, by decide +kernel⟩ hp3 hp4 hp5 hp6 (i_rng _) hp8 (i_rng _) (i_rng _) (i_rng _) (i_rng _) (i_rng _) (i_rng _) (i_rng _) (i_rng _) (i_rng _) (i_rng _) hp19 htf0_84 rf0 (rg_wide w8_0 (by decide) (by decide)) sz) wm_7_112 wm_7_115 wm_1_12 hd_X12_laysPairs wm_7_114 wp_7_3 (ci := 12) (q0 := 0) rfl rfl ⟨Nat.le_of_ble_eq_true rfl, Nat.le_of_ble_eq_true rfl⟩ hl.1 rfl (Nat.le_of_ble_eq_true rfl) dX12_bar_42 ⟨Nat.le_of_ble_eq_true rfl, Nat.le_of_ble_eq_true rfl⟩ [2, 3, 6, 0, 1] [4, 5] rfl rfl (by decide) rfl rfl (fun u_9 H locs w_9 h_9 => ?_)
      clear h_8
      obtain ⟨w9_0, w9_1, _⟩ := w_9
      replace h_9 : qW D _ _ (wk_d169974a4 cy h2 (u_8.2.1 0) h3 (u_8.2.1 1) h0 0 h1 w0 w1 w2 p3 p4 p5 p6 p7 p8 p9 p10 p11 p12 p13 h2 h3 w3 h4 w4 p14 p15 w5 h5 h6 (u_9.2.1 0 0) (u_9.2.1 1 0) w6 w7 w8 w9 w10 p18 w11 w12 w13 h1 f0 h4 (u_8.2.1 2) h5 (u_9.2.1 2) h6 (u_9.2.1 3)) _ _ := h_9
      refine lv_iload_n hx hb dX12_bar_45 rfl (lv_at hl 1 rfl) ?_
      refine q_callSi (rest := []) (wr := (wk_d169974a4 cy h2 (u_8.2.1 0) h3 (u_8.2.1 1) h0 0 h1 w0 w1 w2 p3 p4 p5 p6 p7 p8 p9 p10 p11 p12 p13 h2 h3 w3 h4 w4 p14 p15 w5 h5 h6 (u_9.2.1 0 0) (u_9.2.1 1 0) w6 w7 w8 w9 w10 p18 w11 w12 w13 h1 f0 h4 (u_8.2.1 2) h5 (u_9.2.1 2) h6 (u_9.2.1 3))) X hK hT hA h_9 (fun sz => gX12_bitsOf_5a43b1c l D cy p0 (i_rng _) sz) wm_7_8 wm_7_10 wm_1_12 hd_X12_bitsOf wm_7_9 ⟨Nat.le_of_ble_eq_true rfl, Nat.le_of_ble_eq_true rfl⟩ hl.1 rfl (Nat.le_of_ble_eq_true rfl) dX12_bar_46 ⟨Nat.le_of_ble_eq_true rfl, Nat.le_of_ble_eq_true rfl⟩ [] [0, 1, 2, 3, 4, 5, 6] rfl rfl (by decide) rfl rfl (fun r_10 u_10 H locs w_10 h_10 => ?_)
      clear h_9
      obtain ⟨wr_10, _⟩ := w_10
      replace h_10 : qW D _ _ (wk_d169974a4 cy h2 (u_8.2.1 0) h3 (u_8.2.1 1) h0 0 h1 w0 w1 w2 p3 p4 p5 p6 p7 p8 p9 p10 p11 p12 p13 h2 h3 w3 h4 w4 p14 p15 w5 h5 h6 (u_9.2.1 0 0) (u_9.2.1 1 0) w6 w7 w8 w9 w10 p18 w11 w12 w13 h1 f0 h4 (u_8.2.1 2) h5 (u_9.2.1 2) h6 (u_9.2.1 3)) _ _ := h_10
      refine lv_iconst (v := 2) hx hb dX12_bar_49 (by decide) ?_
      refine lv_aload_n hx hb dX12_bar_50 rfl (lv_at hl 0 rfl) ?_
      refine q_get X hK h_10 2 rfl rfl wf_12 26 (by decide) rfl wm_5_196 dX12_bar_51 ?_
      refine lv_imul hx hb dX12_bar_54 ?_
      obtain ⟨z_11, ez_11, hz_11⟩ := e_mul (x := 2) (y := (u_9.2.1 0 0)) (show (2 : Int32).toInt = 2 by decide) rfl (by omega) (by omega)
      refine q_c z_11 ez_11 ?_
      clear ez_11
      refine lv_isub hx hb dX12_bar_55 ?_
      obtain ⟨z_12, ez_12, hz_12⟩ := e_sub (x := r_10) (y := z_11) rfl rfl (by omega) (by omega)
      refine q_c z_12 ez_12 ?_
      clear ez_12
      refine lv_istore_n (lv' := [(3, .int z_12), (0, .ref h0), (1, .int p0), (2, .int p1)]) hx hb dX12_bar_56 rfl hl (by decide) rfl (fun ls_13 hl_13 => ?_)
      clear hl
      refine lv_iconst (v := (-1)) hx hb dX12_bar_57 (by decide) ?_
      refine lv_istore (lv' := [(4, .int (-1)), (3, .int z_12), (0, .ref h0), (1, .int p0), (2, .int p1)]) hx hb dX12_bar_58 hl_13 (by decide) rfl (fun ls_14 hl_14 => ?_)
      clear hl_13
      refine lv_iconst (v := 0) hx hb dX12_bar_60 (by decide) ?_
      refine lv_istore (lv' := [(5, .int 0), (4, .int (-1)), (3, .int z_12), (0, .ref h0), (1, .int p0), (2, .int p1)]) hx hb dX12_bar_61 hl_14 (by decide) rfl (fun ls_15 hl_15 => ?_)
      clear hl_14
      refine q_wl (fun (q : Int32 × Int32) H locs ls => match q with | (v63_16_0, v63_16_1) => (0 ≤ (v63_16_0).toInt ∧ (v63_16_0).toInt ≤ 1024) ∧ ((-1) ≤ (v63_16_1).toInt ∧ (v63_16_1).toInt ≤ 1023) ∧ qW D (va_A (wk_69ec1558b cy h0 p2 h1 w0 w1 w2 p3 p4 p5 p6 p7 p8 p9 p10 p11 p12 p13 h2 h3 w3 h4 w4 p14 p15 w5 h5 h6 p16 p17 w6 w7 w8 w9 w10 p18 w11 w12 w13 h1 f0 h2 f1 h3 f2 h4 f3 h5 f4 h6 f5) sz) s.heap (wk_d169974a4 cy h2 (u_8.2.1 0) h3 (u_8.2.1 1) h0 0 h1 w0 w1 w2 p3 p4 p5 p6 p7 p8 p9 p10 p11 p12 p13 h2 h3 w3 h4 w4 p14 p15 w5 h5 h6 (u_9.2.1 0 0) (u_9.2.1 1 0) w6 w7 w8 w9 w10 p18 w11 w12 w13 h1 f0 h4 (u_8.2.1 2) h5 (u_9.2.1 2) h6 (u_9.2.1 3)) H locs ∧ lv_has ls 6 [(0, .ref h0), (1, .int p0), (2, .int p1), (3, .int z_12), (4, .int v63_16_1), (5, .int v63_16_0)]) (fun (q : Int32 × Int32) => match q with | (v63_16_0, v63_16_1) => (1025 - (v63_16_0).toInt).toNat) (fun q_63 ih_63 H locs ls hP => ?_) (0, (-1)) ⟨⟨by decide +kernel, by decide +kernel⟩, ⟨by decide +kernel, by decide +kernel⟩, h_10, (lv_sub hl_15 [3, 4, 5, 2, 1, 0] rfl)⟩
      obtain ⟨v63_16_0, v63_16_1⟩ := q_63
      obtain ⟨hv63_16_0, hv63_16_1, h, hl⟩ := hP
      refine lv_iload hx hb dX12_bar_63 (lv_at hl 5 rfl) ?_
      refine lv_iload_n hx hb dX12_bar_65 rfl (lv_at hl 1 rfl) ?_
      refine lv_icmp_gt (tgt := 131) hx hb dX12_bar_66 (by decide) (fun c_17 => ?_) (fun c_17 => ?_)
      · replace c_17 := i_lt (x := p0) (y := v63_16_0) rfl rfl c_17
        refine lv_iload_n hx hb dX12_bar_131 rfl (lv_at hl 2 rfl) ?_
        refine q_jn (pc2 := 145) (fun H locs ls st => ∃ v145_18_0 : Int32, ((-1) ≤ (v145_18_0).toInt ∧ (v145_18_0).toInt ≤ 1023) ∧ st = [.int v145_18_0] ∧ qW D (va_A (wk_69ec1558b cy h0 p2 h1 w0 w1 w2 p3 p4 p5 p6 p7 p8 p9 p10 p11 p12 p13 h2 h3 w3 h4 w4 p14 p15 w5 h5 h6 p16 p17 w6 w7 w8 w9 w10 p18 w11 w12 w13 h1 f0 h2 f1 h3 f2 h4 f3 h5 f4 h6 f5) sz) s.heap (wk_d169974a4 cy h2 (u_8.2.1 0) h3 (u_8.2.1 1) h0 0 h1 w0 w1 w2 p3 p4 p5 p6 p7 p8 p9 p10 p11 p12 p13 h2 h3 w3 h4 w4 p14 p15 w5 h5 h6 (u_9.2.1 0 0) (u_9.2.1 1 0) w6 w7 w8 w9 w10 p18 w11 w12 w13 h1 f0 h4 (u_8.2.1 2) h5 (u_9.2.1 2) h6 (u_9.2.1 3)) H locs ∧ lv_has ls 6 [(0, .ref h0), (1, .int p0), (2, .int p1), (3, .int z_12), (4, .int v63_16_1), (5, .int v63_16_0)]) (fun H locs ls st hP => ?_) (fun J_145 => ?_)
        · obtain ⟨v145_18_0, hv145_18_0, rfl, h, hl⟩ := hP
          exact q_iret X hr hlk hK h rfl (fun _ => 0, (vcons (u_8.2.1 0) (vcons (u_8.2.1 1) (vcons (fun _ => 0) (vcons (fun _ => (u_9.2.1 0 0)) (vcons (fun _ => (u_9.2.1 1 0)) (vcons (u_8.2.1 2) (vcons (u_9.2.1 2) (vcons (u_9.2.1 3) (fun _ => (fun _ => 0)))))))))), fun _ _ => 0) ⟨(bw hv145_18_0 (by decide) (by decide)), (⟨by decide +kernel, by decide +kernel⟩ : 0 ≤ (0 : Int32).toInt ∧ (0 : Int32).toInt ≤ 0), (bw w9_0 (by decide) (by decide)), w9_1, (rg_wide w8_0 (by decide) (by decide)), trivial⟩ [2, 3, 0, 1, 4, 5, 6] rfl rfl dX12_bar_145 (Nat.le_of_ble_eq_true rfl) (Nat.le_of_ble_eq_true rfl)
        · skip
          refine lv_if_ne (tgt := 143) hx hb dX12_bar_132 (by decide) (fun c_19 => ?_) (fun c_19 => ?_)
          · replace c_19 := i_ne (x := p1) (y := 0) rfl (show (0 : Int32).toInt = 0 by decide) c_19
            refine lv_iload hx hb dX12_bar_143 (lv_at hl 4 rfl) ?_
            exact J_145 _ _ _ _ ⟨v63_16_1, hv63_16_1, rfl, h, (lv_sub hl [0, 1, 2, 3, 4, 5] rfl)⟩
          · replace c_19 := i_eq (x := p1) (y := 0) rfl (show (0 : Int32).toInt = 0 by decide) c_19
            refine lv_iload hx hb dX12_bar_135 (lv_at hl 4 rfl) ?_
            refine q_callSi (rest := []) (wr := (wk_d169974a4 cy h2 (u_8.2.1 0) h3 (u_8.2.1 1) h0 0 h1 w0 w1 w2 p3 p4 p5 p6 p7 p8 p9 p10 p11 p12 p13 h2 h3 w3 h4 w4 p14 p15 w5 h5 h6 (u_9.2.1 0 0) (u_9.2.1 1 0) w6 w7 w8 w9 w10 p18 w11 w12 w13 h1 f0 h4 (u_8.2.1 2) h5 (u_9.2.1 2) h6 (u_9.2.1 3))) X hK hT hA h (fun sz => gX12_bitsOf_5a43b1c l D cy v63_16_1 (i_rng _) sz) wm_7_8 wm_7_10 wm_1_12 hd_X12_bitsOf wm_7_9 ⟨Nat.le_of_ble_eq_true rfl, Nat.le_of_ble_eq_true rfl⟩ hl.1 rfl (Nat.le_of_ble_eq_true rfl) dX12_bar_137 ⟨Nat.le_of_ble_eq_true rfl, Nat.le_of_ble_eq_true rfl⟩ [] [0, 1, 2, 3, 4, 5, 6] rfl rfl (by decide) rfl rfl (fun r_20 u_20 H locs w_20 h_20 => ?_)
            clear h
            obtain ⟨wr_20, _⟩ := w_20
            replace h_20 : qW D _ _ (wk_d169974a4 cy h2 (u_8.2.1 0) h3 (u_8.2.1 1) h0 0 h1 w0 w1 w2 p3 p4 p5 p6 p7 p8 p9 p10 p11 p12 p13 h2 h3 w3 h4 w4 p14 p15 w5 h5 h6 (u_9.2.1 0 0) (u_9.2.1 1 0) w6 w7 w8 w9 w10 p18 w11 w12 w13 h1 f0 h4 (u_8.2.1 2) h5 (u_9.2.1 2) h6 (u_9.2.1 3)) _ _ := h_20
            refine lv_goto (tgt := 145) hx hb dX12_bar_140 (by decide) ?_
            exact J_145 _ _ _ _ ⟨r_20, (bw wr_20 (by decide) (by decide)), rfl, h_20, (lv_sub hl [0, 1, 2, 3, 4, 5] rfl)⟩
      · replace c_17 := i_nlt (x := p0) (y := v63_16_0) rfl rfl c_17
        refine lv_iload hx hb dX12_bar_69 (lv_at hl 5 rfl) ?_
        refine lv_iload_n hx hb dX12_bar_71 rfl (lv_at hl 1 rfl) ?_
        refine lv_iconst (v := (-1)) hx hb dX12_bar_72 (by decide) ?_
        refine lv_ixor hx hb dX12_bar_73 ?_
        refine q_any (fun z_21 hz_21 => ?_)
        refine lv_iand hx hb dX12_bar_74 ?_
        obtain ⟨z_22, ez_22, hz_22⟩ := e_and1 (x := v63_16_0) (y := z_21) rfl (by omega)
        refine q_c z_22 ez_22 ?_
        clear ez_22
        refine q_jn (pc2 := 125) (fun H locs ls st => ∃ v125_23_0 : Int32, ((-1) ≤ (v125_23_0).toInt ∧ (v125_23_0).toInt ≤ 1023) ∧ st = [] ∧ qW D (va_A (wk_69ec1558b cy h0 p2 h1 w0 w1 w2 p3 p4 p5 p6 p7 p8 p9 p10 p11 p12 p13 h2 h3 w3 h4 w4 p14 p15 w5 h5 h6 p16 p17 w6 w7 w8 w9 w10 p18 w11 w12 w13 h1 f0 h2 f1 h3 f2 h4 f3 h5 f4 h6 f5) sz) s.heap (wk_d169974a4 cy h2 (u_8.2.1 0) h3 (u_8.2.1 1) h0 0 h1 w0 w1 w2 p3 p4 p5 p6 p7 p8 p9 p10 p11 p12 p13 h2 h3 w3 h4 w4 p14 p15 w5 h5 h6 (u_9.2.1 0 0) (u_9.2.1 1 0) w6 w7 w8 w9 w10 p18 w11 w12 w13 h1 f0 h4 (u_8.2.1 2) h5 (u_9.2.1 2) h6 (u_9.2.1 3)) H locs ∧ lv_has ls 6 [(0, .ref h0), (1, .int p0), (2, .int p1), (3, .int z_12), (4, .int v125_23_0), (5, .int v63_16_0)]) (fun H locs ls st hP => ?_) (fun J_125 => ?_)
        · obtain ⟨v125_23_0, hv125_23_0, rfl, h, hl⟩ := hP
          obtain ⟨z_24, ez_24, hz_24⟩ := e_add (x := v63_16_0) (y := Int32.ofInt 1) rfl (b := 1) (by decide) (by omega) (by omega)
          refine lv_iinc (v := z_24) (lv' := [(5, .int z_24), (0, .ref h0), (1, .int p0), (2, .int p1), (3, .int z_12), (4, .int v125_23_0)]) hx hb dX12_bar_125 hl (k := 5) rfl ez_24 (by decide) rfl (fun ls_24 hl_24 => ?_)
          clear hl
          refine lv_goto (tgt := 63) hx hb dX12_bar_128 (by decide) ?_
          exact ih_63 (z_24, v125_23_0) (by show (1025 - (z_24).toInt).toNat < (1025 - (v63_16_0).toInt).toNat; omega) _ _ _ ⟨⟨by omega, by omega⟩, hv125_23_0, h, (lv_sub hl_24 [1, 2, 3, 4, 5, 0] rfl)⟩
        · skip
          refine lv_if_ne (tgt := 125) hx hb dX12_bar_75 (by decide) (fun c_25 => ?_) (fun c_25 => ?_)
          · replace c_25 := i_ne (x := z_22) (y := 0) rfl (show (0 : Int32).toInt = 0 by decide) c_25
            exact J_125 _ _ _ _ ⟨v63_16_1, hv63_16_1, rfl, h, (lv_sub hl [0, 1, 2, 3, 4, 5] rfl)⟩
          · replace c_25 := i_eq (x := z_22) (y := 0) rfl (show (0 : Int32).toInt = 0 by decide) c_25
            refine lv_iload hx hb dX12_bar_78 (lv_at hl 4 rfl) ?_
            refine lv_iconst (v := (-1)) hx hb dX12_bar_80 (by decide) ?_
            refine q_jn (pc2 := 100) (fun H locs ls st => st = [] ∧ qW D (va_A (wk_69ec1558b cy h0 p2 h1 w0 w1 w2 p3 p4 p5 p6 p7 p8 p9 p10 p11 p12 p13 h2 h3 w3 h4 w4 p14 p15 w5 h5 h6 p16 p17 w6 w7 w8 w9 w10 p18 w11 w12 w13 h1 f0 h2 f1 h3 f2 h4 f3 h5 f4 h6 f5) sz) s.heap (wk_d169974a4 cy h2 (u_8.2.1 0) h3 (u_8.2.1 1) h0 0 h1 w0 w1 w2 p3 p4 p5 p6 p7 p8 p9 p10 p11 p12 p13 h2 h3 w3 h4 w4 p14 p15 w5 h5 h6 (u_9.2.1 0 0) (u_9.2.1 1 0) w6 w7 w8 w9 w10 p18 w11 w12 w13 h1 f0 h4 (u_8.2.1 2) h5 (u_9.2.1 2) h6 (u_9.2.1 3)) H locs ∧ lv_has ls 6 [(0, .ref h0), (1, .int p0), (2, .int p1), (3, .int z_12), (4, .int v63_16_1), (5, .int v63_16_0)]) (fun H locs ls st hP => ?_) (fun J_100 => ?_)
            · obtain ⟨rfl, h, hl⟩ := hP
              refine lv_aload_n hx hb dX12_bar_100 rfl (lv_at hl 0 rfl) ?_
              refine lv_iload_n hx hb dX12_bar_101 rfl (lv_at hl 1 rfl) ?_
              refine lv_iload hx hb dX12_bar_102 (lv_at hl 5 rfl) ?_
              refine lv_iconst (v := (-1)) hx hb dX12_bar_104 (by decide) ?_
              refine lv_ixor hx hb dX12_bar_105 ?_
              refine q_any (fun z_27 hz_27 => ?_)
              refine lv_iand hx hb dX12_bar_106 ?_
              obtain ⟨z_28, ez_28, hz_28⟩ := e_and1 (x := p0) (y := z_27) rfl (by omega)
              refine q_c z_28 ez_28 ?_
              clear ez_28
              refine lv_iconst (v := 1) hx hb dX12_bar_107 (by decide) ?_
              refine q_callVi (rest := []) (wr := [(h2, .inl (cy 1, 900, .inl (u_8.2.1 0))), (h3, .inl (cy 1, 11, .inl (u_8.2.1 1))), (h5, .inl (cy 1, 10, .inl (u_9.2.1 2))), (h6, .inl (cy 1, 10, .inl (u_9.2.1 3)))]) X hK hT hA h (fun sz => gX12_piecesOf_88acc35 l D cy h0 h1 h4 z_28 (1 : Int32) (0 : Int32) w0 w1 w2 p3 p4 p5 p6 p7 p8 p9 p10 p11 p12 p13 (.ref h2) (.ref h3) w3 w4 p14 p15 w5 (.ref h5) (.ref h6) (u_9.2.1 0 0) (u_9.2.1 1 0) w6 w7 w8 w9 w10 p18 w11 w12 w13 f0 p19 (u_8.2.1 2) ⟨by omega, by omega⟩ ⟨by decide +kernel, by decide +kernel⟩ ⟨by decide +kernel, by decide +kernel⟩ hp3 hp4 hp5 hp6 (i_rng _) hp8 (i_rng _) (i_rng _) (i_rng _) (i_rng _) (i_rng _) (i_rng _) (i_rng _) (i_rng _) (i_rng _) (i_rng _) hp19 htf0_84 rf0 (rg_wide w8_0 (by decide) (by decide)) sz) wm_7_124 wm_7_127 wm_1_12 hd_X12_piecesOf wm_7_126 wp_7_5 (ci := 12) (q0 := 0) rfl rfl ⟨Nat.le_of_ble_eq_true rfl, Nat.le_of_ble_eq_true rfl⟩ hl.1 rfl (Nat.le_of_ble_eq_true rfl) dX12_bar_108 ⟨Nat.le_of_ble_eq_true rfl, Nat.le_of_ble_eq_true rfl⟩ [2, 3, 4] [0, 1, 5, 6] rfl rfl (by decide) rfl rfl (fun r_29 u_29 H locs w_29 h_29 => ?_)
              clear h
              obtain ⟨wr_29, _⟩ := w_29
              replace h_29 : qW D _ _ (wk_6f53864da cy h2 (u_8.2.1 0) h3 (u_8.2.1 1) h5 (u_9.2.1 2) h6 (u_9.2.1 3) h0 0 h1 w0 w1 w2 p3 p4 p5 p6 p7 p8 p9 p10 p11 p12 p13 h2 h3 w3 h4 w4 p14 p15 w5 h5 h6 (u_9.2.1 0 0) (u_9.2.1 1 0) w6 w7 w8 w9 w10 p18 w11 w12 w13 h1 f0 h4 (u_8.2.1 2)) _ _ := h_29
              refine lv_iload hx hb dX12_bar_111 (lv_at hl 5 rfl) ?_
              refine q_callSi (rest := [.int r_29]) (wr := (wk_6f53864da cy h2 (u_8.2.1 0) h3 (u_8.2.1 1) h5 (u_9.2.1 2) h6 (u_9.2.1 3) h0 0 h1 w0 w1 w2 p3 p4 p5 p6 p7 p8 p9 p10 p11 p12 p13 h2 h3 w3 h4 w4 p14 p15 w5 h5 h6 (u_9.2.1 0 0) (u_9.2.1 1 0) w6 w7 w8 w9 w10 p18 w11 w12 w13 h1 f0 h4 (u_8.2.1 2))) X hK hT hA h_29 (fun sz => gX12_bitsOf_5a43b1c l D cy v63_16_0 (i_rng _) sz) wm_7_8 wm_7_10 wm_1_12 hd_X12_bitsOf wm_7_9 ⟨Nat.le_of_ble_eq_true rfl, Nat.le_of_ble_eq_true rfl⟩ hl.1 rfl (Nat.le_of_ble_eq_true rfl) dX12_bar_113 ⟨Nat.le_of_ble_eq_true rfl, Nat.le_of_ble_eq_true rfl⟩ [] [0, 1, 2, 3, 4, 5, 6] rfl rfl (by decide) rfl rfl (fun r_30 u_30 H locs w_30 h_30 => ?_)
              clear h_29
              obtain ⟨wr_30, _⟩ := w_30
              replace h_30 : qW D _ _ (wk_6f53864da cy h2 (u_8.2.1 0) h3 (u_8.2.1 1) h5 (u_9.2.1 2) h6 (u_9.2.1 3) h0 0 h1 w0 w1 w2 p3 p4 p5 p6 p7 p8 p9 p10 p11 p12 p13 h2 h3 w3 h4 w4 p14 p15 w5 h5 h6 (u_9.2.1 0 0) (u_9.2.1 1 0) w6 w7 w8 w9 w10 p18 w11 w12 w13 h1 f0 h4 (u_8.2.1 2)) _ _ := h_30
              refine lv_isub hx hb dX12_bar_116 ?_
              refine q_any (fun z_31 hz_31 => ?_)
              refine lv_iload_n hx hb dX12_bar_117 rfl (lv_at hl 3 rfl) ?_
              refine lv_icmp_ne (tgt := 125) hx hb dX12_bar_118 (by decide) (fun c_32 => ?_) (fun c_32 => ?_)
              · replace c_32 := i_ne (x := z_31) (y := z_12) rfl rfl c_32
                exact J_125 _ _ _ _ ⟨v63_16_1, hv63_16_1, rfl, (q_re h_30 [0, 1, 4, 5, 6, 2, 3] rfl rfl), (lv_sub hl [0, 1, 2, 3, 4, 5] rfl)⟩
              · replace c_32 := i_eq (x := z_31) (y := z_12) rfl rfl c_32
                refine lv_iload hx hb dX12_bar_121 (lv_at hl 5 rfl) ?_
                refine lv_istore (lv' := [(4, .int v63_16_0), (0, .ref h0), (1, .int p0), (2, .int p1), (3, .int z_12), (5, .int v63_16_0)]) hx hb dX12_bar_123 hl (by decide) rfl (fun ls_33 hl_33 => ?_)
                clear hl
                exact J_125 _ _ _ _ ⟨v63_16_0, ⟨by omega, by omega⟩, rfl, (q_re h_30 [0, 1, 4, 5, 6, 2, 3] rfl rfl), (lv_sub hl_33 [1, 2, 3, 4, 0, 5] rfl)⟩
            · skip
              refine lv_icmp_eq (tgt := 100) hx hb dX12_bar_81 (by decide) (fun c_34 => ?_) (fun c_34 => ?_)
              · replace c_34 := i_eq (x := v63_16_1) (y := (-1)) rfl (show ((-1) : Int32).toInt = -1 by decide) c_34
                exact J_100 _ _ _ _ ⟨rfl, h, (lv_sub hl [0, 1, 2, 3, 4, 5] rfl)⟩
              · replace c_34 := i_ne (x := v63_16_1) (y := (-1)) rfl (show ((-1) : Int32).toInt = -1 by decide) c_34
                refine lv_iload hx hb dX12_bar_84 (lv_at hl 5 rfl) ?_
                refine q_callSi (rest := []) (wr := (wk_d169974a4 cy h2 (u_8.2.1 0) h3 (u_8.2.1 1) h0 0 h1 w0 w1 w2 p3 p4 p5 p6 p7 p8 p9 p10 p11 p12 p13 h2 h3 w3 h4 w4 p14 p15 w5 h5 h6 (u_9.2.1 0 0) (u_9.2.1 1 0) w6 w7 w8 w9 w10 p18 w11 w12 w13 h1 f0 h4 (u_8.2.1 2) h5 (u_9.2.1 2) h6 (u_9.2.1 3))) X hK hT hA h (fun sz => gX12_bitsOf_5a43b1c l D cy v63_16_0 (i_rng _) sz) wm_7_8 wm_7_10 wm_1_12 hd_X12_bitsOf wm_7_9 ⟨Nat.le_of_ble_eq_true rfl, Nat.le_of_ble_eq_true rfl⟩ hl.1 rfl (Nat.le_of_ble_eq_true rfl) dX12_bar_86 ⟨Nat.le_of_ble_eq_true rfl, Nat.le_of_ble_eq_true rfl⟩ [] [0, 1, 2, 3, 4, 5, 6] rfl rfl (by decide) rfl rfl (fun r_35 u_35 H locs w_35 h_35 => ?_)
                clear h
                obtain ⟨wr_35, _⟩ := w_35
                replace h_35 : qW D _ _ (wk_d169974a4 cy h2 (u_8.2.1 0) h3 (u_8.2.1 1) h0 0 h1 w0 w1 w2 p3 p4 p5 p6 p7 p8 p9 p10 p11 p12 p13 h2 h3 w3 h4 w4 p14 p15 w5 h5 h6 (u_9.2.1 0 0) (u_9.2.1 1 0) w6 w7 w8 w9 w10 p18 w11 w12 w13 h1 f0 h4 (u_8.2.1 2) h5 (u_9.2.1 2) h6 (u_9.2.1 3)) _ _ := h_35
                refine lv_iload hx hb dX12_bar_89 (lv_at hl 4 rfl) ?_
                refine q_callSi (rest := [.int r_35]) (wr := (wk_d169974a4 cy h2 (u_8.2.1 0) h3 (u_8.2.1 1) h0 0 h1 w0 w1 w2 p3 p4 p5 p6 p7 p8 p9 p10 p11 p12 p13 h2 h3 w3 h4 w4 p14 p15 w5 h5 h6 (u_9.2.1 0 0) (u_9.2.1 1 0) w6 w7 w8 w9 w10 p18 w11 w12 w13 h1 f0 h4 (u_8.2.1 2) h5 (u_9.2.1 2) h6 (u_9.2.1 3))) X hK hT hA h_35 (fun sz => gX12_bitsOf_5a43b1c l D cy v63_16_1 (i_rng _) sz) wm_7_8 wm_7_10 wm_1_12 hd_X12_bitsOf wm_7_9 ⟨Nat.le_of_ble_eq_true rfl, Nat.le_of_ble_eq_true rfl⟩ hl.1 rfl (Nat.le_of_ble_eq_true rfl) dX12_bar_91 ⟨Nat.le_of_ble_eq_true rfl, Nat.le_of_ble_eq_true rfl⟩ [] [0, 1, 2, 3, 4, 5, 6] rfl rfl (by decide) rfl rfl (fun r_36 u_36 H locs w_36 h_36 => ?_)
                clear h_35
                obtain ⟨wr_36, _⟩ := w_36
                replace h_36 : qW D _ _ (wk_d169974a4 cy h2 (u_8.2.1 0) h3 (u_8.2.1 1) h0 0 h1 w0 w1 w2 p3 p4 p5 p6 p7 p8 p9 p10 p11 p12 p13 h2 h3 w3 h4 w4 p14 p15 w5 h5 h6 (u_9.2.1 0 0) (u_9.2.1 1 0) w6 w7 w8 w9 w10 p18 w11 w12 w13 h1 f0 h4 (u_8.2.1 2) h5 (u_9.2.1 2) h6 (u_9.2.1 3)) _ _ := h_36
                refine lv_icmp_lt (tgt := 100) hx hb dX12_bar_94 (by decide) (fun c_37 => ?_) (fun c_37 => ?_)
                · replace c_37 := i_lt (x := r_35) (y := r_36) rfl rfl c_37
                  exact J_100 _ _ _ _ ⟨rfl, h_36, (lv_sub hl [0, 1, 2, 3, 4, 5] rfl)⟩
                · replace c_37 := i_nlt (x := r_35) (y := r_36) rfl rfl c_37
                  refine lv_goto (tgt := 125) hx hb dX12_bar_97 (by decide) ?_
                  exact J_125 _ _ _ _ ⟨v63_16_1, hv63_16_1, rfl, h_36, (lv_sub hl [0, 1, 2, 3, 4, 5] rfl)⟩
    · replace c_6 := i_eq (x := r_5) (y := 0) rfl (show (0 : Int32).toInt = 0 by decide) c_6
      refine lv_bipush (v := (-3)) hx hb dX12_bar_26 (by decide) ?_
      exact q_iret X hr hlk hK h_5 rfl (fun _ => 0, (vcons f1 (vcons f2 (vcons (fun _ => 0) (vcons (fun _ => p16) (vcons (fun _ => p17) (vcons f3 (vcons f4 (vcons f5 (fun _ => (fun _ => 0)))))))))), fun _ _ => 0) ⟨⟨by decide +kernel, by decide +kernel⟩, (⟨by decide +kernel, by decide +kernel⟩ : 0 ≤ (0 : Int32).toInt ∧ (0 : Int32).toInt ≤ 0), hp16, hp17, (rg_wide rf3 (by decide) (by decide)), trivial⟩ [5, 6, 0, 1, 2, 3, 4] rfl rfl dX12_bar_28 (Nat.le_of_ble_eq_true rfl) (Nat.le_of_ble_eq_true rfl)
  · replace c_4 := i_eq (x := r_3) (y := 0) rfl (show (0 : Int32).toInt = 0 by decide) c_4
    replace y3_0 := a10_0 y3_0 c_4
    refine lv_bipush (v := (-2)) hx hb dX12_bar_15 (by decide) ?_
    exact q_iret X hr hlk hK h_3 rfl (fun _ => 0, (vcons f1 (vcons f2 (vcons (fun _ => 0) (vcons (fun _ => p16) (vcons (fun _ => p17) (vcons f3 (vcons f4 (vcons f5 (fun _ => (fun _ => 0)))))))))), fun _ _ => 0) ⟨⟨by decide +kernel, by decide +kernel⟩, (⟨by decide +kernel, by decide +kernel⟩ : 0 ≤ (0 : Int32).toInt ∧ (0 : Int32).toInt ≤ 0), hp16, hp17, (rg_wide rf3 (by decide) (by decide)), trivial⟩ [0, 1, 2, 3, 4, 5, 6] rfl rfl dX12_bar_17 (Nat.le_of_ble_eq_true rfl) (Nat.le_of_ble_eq_true rfl)
set_option maxHeartbeats 4000000 in
set_option maxRecDepth 100000 in
theorem gX12_pieces_6657e86 (l : Launch) (D : va_G) (cy : Nat → ClassId) (h0 : Nat) (h1 : Nat) (h2 : Nat) (h3 : Nat) (h4 : Nat) (p0 : Int32) (p1 : Int32) (w0 : Value) (w1 : Value) (w2 : Value) (p2 : Int32) (p3 : Int32) (p4 : Int32) (p5 : Int32) (p6 : Int32) (p7 : Int32) (p8 : Int32) (p9 : Int32) (p10 : Int32) (p11 : Int32) (p12 : Int32) (w3 : Value) (w4 : Value) (p13 : Int32) (p14 : Int32) (w5 : Value) (w6 : Value) (w7 : Value) (p15 : Int32) (p16 : Int32) (w8 : Value) (w9 : Value) (w10 : Value) (w11 : Value) (w12 : Value) (p17 : Int32) (w13 : Value) (w14 : Value) (w15 : Value) (f0 : Nat → Int32) (p18 : Int32) (f1 : Nat → Int32) (f2 : Nat → Int32) (f3 : Nat → Int32) (hp0 : (-2147483648) ≤ (p0).toInt ∧ (p0).toInt ≤ 2147483647) (hp1 : (-2147483648) ≤ (p1).toInt ∧ (p1).toInt ≤ 2147483647) (hp2 : 0 ≤ (p2).toInt ∧ (p2).toInt ≤ 900) (hp3 : 0 ≤ (p3).toInt ∧ (p3).toInt ≤ 900) (hp4 : 0 ≤ (p4).toInt ∧ (p4).toInt ≤ 900) (hp5 : 0 ≤ (p5).toInt ∧ (p5).toInt ≤ 900) (hp6 : (-2147483648) ≤ (p6).toInt ∧ (p6).toInt ≤ 2147483647) (hp7 : 0 ≤ (p7).toInt ∧ (p7).toInt ≤ 999) (hp8 : (-2147483648) ≤ (p8).toInt ∧ (p8).toInt ≤ 2147483647) (hp9 : (-2147483648) ≤ (p9).toInt ∧ (p9).toInt ≤ 2147483647) (hp10 : (-2147483648) ≤ (p10).toInt ∧ (p10).toInt ≤ 2147483647) (hp11 : (-2147483648) ≤ (p11).toInt ∧ (p11).toInt ≤ 2147483647) (hp12 : (-2147483648) ≤ (p12).toInt ∧ (p12).toInt ≤ 2147483647) (hp13 : (-2147483648) ≤ (p13).toInt ∧ (p13).toInt ≤ 2147483647) (hp14 : (-2147483648) ≤ (p14).toInt ∧ (p14).toInt ≤ 2147483647) (hp15 : (-2147483648) ≤ (p15).toInt ∧ (p15).toInt ≤ 2147483647) (hp16 : (-2147483648) ≤ (p16).toInt ∧ (p16).toInt ≤ 2147483647) (hp17 : (-2147483648) ≤ (p17).toInt ∧ (p17).toInt ≤ 2147483647) (hp18 : 0 ≤ (p18).toInt ∧ (p18).toInt ≤ 10) (htf0_84 : f0 84 = p18) (rf0 : AL f0) (rf3 : RG f3 10 0 1023) (sz : Nat) : MI l yX12_pieces cX12_pieces 2 .int { frames := 4, cells := 0, slots := 0, locals := 94 } [.ref h0, .int p0] D cy (wk_8b19a8a79 cy h0 p1 h1 w0 w1 w2 p2 p3 p4 p5 p6 p7 p8 p9 p10 p11 p12 h2 h3 w3 h4 w4 p13 p14 w5 w6 w7 p15 p16 w8 w9 w10 w11 w12 p17 w13 w14 w15 h1 f0 h2 f1 h3 f2 h4 f3) sz (fun r u => ((-2147483648) ≤ r.toInt ∧ r.toInt ≤ 2147483647) ∧ (0 ≤ (u.2.1 2 0).toInt ∧ (u.2.1 2 0).toInt ≤ 0) ∧ RG (u.2.1 3) 10 0 1023 ∧ True) (fun u => (wk_8b19a8a79 cy h0 (u.2.1 2 0) h1 w0 w1 w2 p2 p3 p4 p5 p6 p7 p8 p9 p10 p11 p12 h2 h3 w3 h4 w4 p13 p14 w5 w6 w7 p15 p16 w8 w9 w10 w11 w12 p17 w13 w14 w15 h1 f0 h2 (u.2.1 0) h3 (u.2.1 1) h4 (u.2.1 3))) 0 0 := by
  refine q_ent (own := RX12) (by decide) rfl (Nat.le_of_ble_eq_true rfl) (fun p e s m below meth c ls X hr hlk hnm hK hT h hA hl => ?_)
  obtain ⟨hx, hb, hml, hown, ht⟩ := id X
  replace hl : lv_has ls 2 [(0, .ref h0), (1, .int p0)] := hl
  refine lv_aload_n hx hb dX12_pieces_0 rfl (lv_at hl 0 rfl) ?_
  refine lv_iconst (v := 0) hx hb dX12_pieces_1 (by decide) ?_
  refine q_put (v := .int 0) X hK h 0 rfl rfl wf_12 tyX12 tyX12_ok nmX12 0 (by decide) wm_5_170 rfl rfl rfl (Nat.le_of_ble_eq_true rfl) dX12_pieces_2 (fun H locs h_1 => ?_)
  clear h
  replace h_1 : qW D _ _ (wk_8b19a8a79 cy h0 0 h1 w0 w1 w2 p2 p3 p4 p5 p6 p7 p8 p9 p10 p11 p12 h2 h3 w3 h4 w4 p13 p14 w5 w6 w7 p15 p16 w8 w9 w10 w11 w12 p17 w13 w14 w15 h1 f0 h2 f1 h3 f2 h4 f3) _ _ := h_1
  refine lv_aload_n hx hb dX12_pieces_5 rfl (lv_at hl 0 rfl) ?_
  refine lv_iload_n hx hb dX12_pieces_6 rfl (lv_at hl 1 rfl) ?_
  refine q_callVi (rest := []) (wr := (wk_ce6a1f133 cy h2 f1 h3 f2 h4 f3)) X hK hT hA h_1 (fun sz => gX12_isSet_9166d70 l D cy h0 h1 p0 (0 : Int32) w0 w1 w2 p2 p3 p4 p5 p6 p7 p8 p9 p10 p11 p12 (.ref h2) (.ref h3) w3 (.ref h4) w4 p13 p14 w5 w6 w7 p15 p16 w8 w9 w10 w11 w12 p17 w13 w14 w15 f0 p18 (i_rng _) ⟨by decide +kernel, by decide +kernel⟩ hp2 hp3 hp4 hp5 (i_rng _) hp7 (i_rng _) (i_rng _) (i_rng _) (i_rng _) (i_rng _) (i_rng _) (i_rng _) (i_rng _) (i_rng _) (i_rng _) hp18 htf0_84 rf0 sz) wm_7_96 wm_7_99 wm_1_12 hd_X12_isSet wm_7_98 wp_7_1 (ci := 12) (q0 := 0) rfl rfl ⟨Nat.le_of_ble_eq_true rfl, Nat.le_of_ble_eq_true rfl⟩ hl.1 rfl (Nat.le_of_ble_eq_true rfl) dX12_pieces_7 ⟨Nat.le_of_ble_eq_true rfl, Nat.le_of_ble_eq_true rfl⟩ [0, 1] [2, 3, 4] rfl rfl (by decide) rfl rfl (fun r_2 u_2 H locs w_2 h_2 => ?_)
  clear h_1
  obtain ⟨wr_2, y2_0, _⟩ := w_2
  replace h_2 : qW D _ _ (wk_6bef7693d cy h2 f1 h3 f2 h4 f3 h0 0 h1 w0 w1 w2 p2 p3 p4 p5 p6 p7 p8 p9 p10 p11 p12 h2 h3 w3 h4 w4 p13 p14 w5 w6 w7 p15 p16 w8 w9 w10 w11 w12 p17 w13 w14 w15 h1 f0) _ _ := h_2
  refine lv_if_ne (tgt := 16) hx hb dX12_pieces_10 (by decide) (fun c_3 => ?_) (fun c_3 => ?_)
  · replace c_3 := i_ne (x := r_2) (y := 0) rfl (show (0 : Int32).toInt = 0 by decide) c_3
    refine lv_aload_n hx hb dX12_pieces_16 rfl (lv_at hl 0 rfl) ?_
    refine lv_aload_n hx hb dX12_pieces_17 rfl (lv_at hl 0 rfl) ?_
    refine q_get X hK h_2 3 rfl rfl wf_12 1 (by decide) rfl wm_5_171 dX12_pieces_18 ?_
    refine lv_bipush (v := 52) hx hb dX12_pieces_21 (by decide) ?_
    refine q_iald X hK h_2 4 rfl (q_in (by decide +kernel)) dX12_pieces_23 ?_
    refine q_any (fun z_4 hz_4 => ?_)
    refine q_callVv (rest := []) (wr := []) X hK hT hA h_2 (fun sz => gX12_laysOpposed_6a814f8 l D cy h0 h1 h2 h3 h4 z_4 (0 : Int32) w0 w1 w2 p2 p3 p4 p5 p6 p7 p8 p9 p10 p11 p12 w3 w4 p13 p14 w5 w6 w7 p15 p16 w8 w9 w10 w11 w12 p17 w13 w14 w15 f0 p18 f1 f2 f3 (i_rng _) ⟨by decide +kernel, by decide +kernel⟩ hp2 hp3 hp4 hp5 (i_rng _) hp7 (i_rng _) (i_rng _) (i_rng _) (i_rng _) (i_rng _) (i_rng _) (i_rng _) (i_rng _) (i_rng _) (i_rng _) hp18 htf0_84 rf0 (rg_wide rf3 (by decide) (by decide)) sz) wm_7_59 wm_7_62 wm_1_12 hd_X12_laysOpposed wm_7_61 wp_6_12 (ci := 12) (q0 := 0) rfl rfl ⟨Nat.le_of_ble_eq_true rfl, Nat.le_of_ble_eq_true rfl⟩ hl.1 rfl (Nat.le_of_ble_eq_true rfl) dX12_pieces_24 ⟨Nat.le_of_ble_eq_true rfl, Nat.le_of_ble_eq_true rfl⟩ [3, 4, 0, 1, 2] [] rfl rfl (by decide) rfl rfl (fun u_5 H locs w_5 h_5 => ?_)
    clear h_2
    obtain ⟨w5_0, _⟩ := w_5
    replace h_5 : qW D _ _ (wk_8b19a8a79 cy h0 0 h1 w0 w1 w2 p2 p3 p4 p5 p6 p7 p8 p9 p10 p11 p12 h2 h3 w3 h4 w4 p13 p14 w5 w6 w7 p15 p16 w8 w9 w10 w11 w12 p17 w13 w14 w15 h1 f0 h2 (u_5.2.1 0) h3 (u_5.2.1 1) h4 (u_5.2.1 2)) _ _ := h_5
    refine lv_aload_n hx hb dX12_pieces_27 rfl (lv_at hl 0 rfl) ?_
    refine lv_iload_n hx hb dX12_pieces_28 rfl (lv_at hl 1 rfl) ?_
    refine lv_iconst (v := 0) hx hb dX12_pieces_29 (by decide) ?_
    refine q_callVi (rest := []) (wr := (wk_3fb6de35f cy h2 (u_5.2.1 0) h3 (u_5.2.1 1))) X hK hT hA h_5 (fun sz => gX12_piecesOf_88acc35 l D cy h0 h1 h4 p0 (0 : Int32) (0 : Int32) w0 w1 w2 p2 p3 p4 p5 p6 p7 p8 p9 p10 p11 p12 (.ref h2) (.ref h3) w3 w4 p13 p14 w5 w6 w7 p15 p16 w8 w9 w10 w11 w12 p17 w13 w14 w15 f0 p18 (u_5.2.1 2) ⟨by omega, by omega⟩ ⟨by decide +kernel, by decide +kernel⟩ ⟨by decide +kernel, by decide +kernel⟩ hp2 hp3 hp4 hp5 (i_rng _) hp7 (i_rng _) (i_rng _) (i_rng _) (i_rng _) (i_rng _) (i_rng _) (i_rng _) (i_rng _) (i_rng _) (i_rng _) hp18 htf0_84 rf0 (rg_wide w5_0 (by decide) (by decide)) sz) wm_7_124 wm_7_127 wm_1_12 hd_X12_piecesOf wm_7_126 wp_7_5 (ci := 12) (q0 := 0) rfl rfl ⟨Nat.le_of_ble_eq_true rfl, Nat.le_of_ble_eq_true rfl⟩ hl.1 rfl (Nat.le_of_ble_eq_true rfl) dX12_pieces_30 ⟨Nat.le_of_ble_eq_true rfl, Nat.le_of_ble_eq_true rfl⟩ [0, 1, 4] [2, 3] rfl rfl (by decide) rfl rfl (fun r_6 u_6 H locs w_6 h_6 => ?_)
    clear h_5
    obtain ⟨wr_6, _⟩ := w_6
    replace h_6 : qW D _ _ (wk_a841d4271 cy h2 (u_5.2.1 0) h3 (u_5.2.1 1) h0 0 h1 w0 w1 w2 p2 p3 p4 p5 p6 p7 p8 p9 p10 p11 p12 h2 h3 w3 h4 w4 p13 p14 w5 w6 w7 p15 p16 w8 w9 w10 w11 w12 p17 w13 w14 w15 h1 f0 h4 (u_5.2.1 2)) _ _ := h_6
    exact q_iret X hr hlk hK h_6 rfl (fun _ => 0, (vcons (u_5.2.1 0) (vcons (u_5.2.1 1) (vcons (fun _ => 0) (vcons (u_5.2.1 2) (fun _ => (fun _ => 0)))))), fun _ _ => 0) ⟨wr_6, (⟨by decide +kernel, by decide +kernel⟩ : 0 ≤ (0 : Int32).toInt ∧ (0 : Int32).toInt ≤ 0), (rg_wide w5_0 (by decide) (by decide)), trivial⟩ [2, 3, 0, 1, 4] rfl rfl dX12_pieces_33 (Nat.le_of_ble_eq_true rfl) (Nat.le_of_ble_eq_true rfl)
  · replace c_3 := i_eq (x := r_2) (y := 0) rfl (show (0 : Int32).toInt = 0 by decide) c_3
    refine lv_bipush (v := (-3)) hx hb dX12_pieces_13 (by decide) ?_
    exact q_iret X hr hlk hK h_2 rfl (fun _ => 0, (vcons f1 (vcons f2 (vcons (fun _ => 0) (vcons f3 (fun _ => (fun _ => 0)))))), fun _ _ => 0) ⟨⟨by decide +kernel, by decide +kernel⟩, (⟨by decide +kernel, by decide +kernel⟩ : 0 ≤ (0 : Int32).toInt ∧ (0 : Int32).toInt ≤ 0), (rg_wide rf3 (by decide) (by decide)), trivial⟩ [3, 4, 0, 1, 2] rfl rfl dX12_pieces_15 (Nat.le_of_ble_eq_true rfl) (Nat.le_of_ble_eq_true rfl)
set_option maxHeartbeats 4000000 in
set_option maxRecDepth 100000 in
theorem gX12_bestDay_00ade85 (l : Launch) (D : va_G) (cy : Nat → ClassId) (h0 : Nat) (h1 : Nat) (h2 : Nat) (h3 : Nat) (h4 : Nat) (h5 : Nat) (h6 : Nat) (p0 : Int32) (w0 : Value) (w1 : Value) (w2 : Value) (p1 : Int32) (p2 : Int32) (p3 : Int32) (p4 : Int32) (p5 : Int32) (p6 : Int32) (p7 : Int32) (p8 : Int32) (p9 : Int32) (p10 : Int32) (p11 : Int32) (w3 : Value) (w4 : Value) (p12 : Int32) (p13 : Int32) (w5 : Value) (p14 : Int32) (p15 : Int32) (w6 : Value) (w7 : Value) (w8 : Value) (w9 : Value) (w10 : Value) (p16 : Int32) (w11 : Value) (w12 : Value) (w13 : Value) (f0 : Nat → Int32) (p17 : Int32) (f1 : Nat → Int32) (f2 : Nat → Int32) (f3 : Nat → Int32) (f4 : Nat → Int32) (f5 : Nat → Int32) (hp0 : (-2147483648) ≤ (p0).toInt ∧ (p0).toInt ≤ 2147483647) (hp1 : 0 ≤ (p1).toInt ∧ (p1).toInt ≤ 900) (hp2 : 0 ≤ (p2).toInt ∧ (p2).toInt ≤ 900) (hp3 : 0 ≤ (p3).toInt ∧ (p3).toInt ≤ 900) (hp4 : 0 ≤ (p4).toInt ∧ (p4).toInt ≤ 900) (hp5 : (-2147483648) ≤ (p5).toInt ∧ (p5).toInt ≤ 2147483647) (hp6 : 0 ≤ (p6).toInt ∧ (p6).toInt ≤ 999) (hp7 : (-2147483648) ≤ (p7).toInt ∧ (p7).toInt ≤ 2147483647) (hp8 : (-2147483648) ≤ (p8).toInt ∧ (p8).toInt ≤ 2147483647) (hp9 : (-2147483648) ≤ (p9).toInt ∧ (p9).toInt ≤ 2147483647) (hp10 : (-2147483648) ≤ (p10).toInt ∧ (p10).toInt ≤ 2147483647) (hp11 : (-2147483648) ≤ (p11).toInt ∧ (p11).toInt ≤ 2147483647) (hp12 : (-2147483648) ≤ (p12).toInt ∧ (p12).toInt ≤ 2147483647) (hp13 : (-2147483648) ≤ (p13).toInt ∧ (p13).toInt ≤ 2147483647) (hp14 : (-2147483648) ≤ (p14).toInt ∧ (p14).toInt ≤ 2147483647) (hp15 : (-2147483648) ≤ (p15).toInt ∧ (p15).toInt ≤ 2147483647) (hp16 : (-2147483648) ≤ (p16).toInt ∧ (p16).toInt ≤ 2147483647) (hp17 : 0 ≤ (p17).toInt ∧ (p17).toInt ≤ 10) (htf0_84 : f0 84 = p17) (rf0 : AL f0) (rf3 : RG f3 10 0 1023) (sz : Nat) : MI l yX12_bestDay cX12_bestDay 4 .int { frames := 13, cells := 0, slots := 0, locals := 325 } [.ref h0] D cy (wk_69ec1558b cy h0 p0 h1 w0 w1 w2 p1 p2 p3 p4 p5 p6 p7 p8 p9 p10 p11 h2 h3 w3 h4 w4 p12 p13 w5 h5 h6 p14 p15 w6 w7 w8 w9 w10 p16 w11 w12 w13 h1 f0 h2 f1 h3 f2 h4 f3 h5 f4 h6 f5) sz (fun r u => (0 ≤ r.toInt ∧ r.toInt ≤ 99) ∧ (0 ≤ (u.2.1 0 0).toInt ∧ (u.2.1 0 0).toInt ≤ 0) ∧ ((-2147483648) ≤ (u.2.1 1 0).toInt ∧ (u.2.1 1 0).toInt ≤ 2147483647) ∧ ((-2147483648) ≤ (u.2.1 2 0).toInt ∧ (u.2.1 2 0).toInt ≤ 2147483647) ∧ RG (u.2.1 5) 10 0 1023 ∧ True) (fun u => (wk_69ec1558b cy h0 (u.2.1 0 0) h1 w0 w1 w2 p1 p2 p3 p4 p5 p6 p7 p8 p9 p10 p11 h2 h3 w3 h4 w4 p12 p13 w5 h5 h6 (u.2.1 1 0) (u.2.1 2 0) w6 w7 w8 w9 w10 p16 w11 w12 w13 h1 f0 h2 (u.2.1 3) h3 (u.2.1 4) h4 (u.2.1 5) h5 (u.2.1 6) h6 (u.2.1 7))) 0 0 := by
  refine q_ent (own := RX12) (by decide) rfl (Nat.le_of_ble_eq_true rfl) (fun p e s m below meth c ls X hr hlk hnm hK hT h hA hl => ?_)
  obtain ⟨hx, hb, hml, hown, ht⟩ := id X
  replace hl : lv_has ls 4 [(0, .ref h0)] := hl
  refine lv_aload_n hx hb dX12_bestDay_0 rfl (lv_at hl 0 rfl) ?_
  refine lv_iconst (v := 0) hx hb dX12_bestDay_1 (by decide) ?_
  refine q_put (v := .int 0) X hK h 0 rfl rfl wf_12 tyX12 tyX12_ok nmX12 0 (by decide) wm_5_170 rfl rfl rfl (Nat.le_of_ble_eq_true rfl) dX12_bestDay_2 (fun H locs h_1 => ?_)
  clear h
  replace h_1 : qW D _ _ (wk_69ec1558b cy h0 0 h1 w0 w1 w2 p1 p2 p3 p4 p5 p6 p7 p8 p9 p10 p11 h2 h3 w3 h4 w4 p12 p13 w5 h5 h6 p14 p15 w6 w7 w8 w9 w10 p16 w11 w12 w13 h1 f0 h2 f1 h3 f2 h4 f3 h5 f4 h6 f5) _ _ := h_1
  refine lv_iconst (v := 0) hx hb dX12_bestDay_5 (by decide) ?_
  refine lv_istore_n (lv' := [(1, .int 0), (0, .ref h0)]) hx hb dX12_bestDay_6 rfl hl (by decide) rfl (fun ls_2 hl_2 => ?_)
  clear hl
  refine lv_iconst (v := (-1)) hx hb dX12_bestDay_7 (by decide) ?_
  refine lv_istore_n (lv' := [(2, .int (-1)), (1, .int 0), (0, .ref h0)]) hx hb dX12_bestDay_8 rfl hl_2 (by decide) rfl (fun ls_3 hl_3 => ?_)
  clear hl_2
  refine lv_iconst (v := 0) hx hb dX12_bestDay_9 (by decide) ?_
  refine lv_istore_n (lv' := [(3, .int 0), (2, .int (-1)), (1, .int 0), (0, .ref h0)]) hx hb dX12_bestDay_10 rfl hl_3 (by decide) rfl (fun ls_4 hl_4 => ?_)
  clear hl_3
  refine q_wl (fun (q : Int32 × Int32 × Int32 × Int32 × Int32) H locs ls => match q with | (v11_5_0, v11_5_1, v11_5_4, v11_5_5, v11_5_9) => ∃ v11_5_2 : Nat → Int32, ∃ v11_5_3 : Nat → Int32, ∃ v11_5_6 : Nat → Int32, ∃ v11_5_7 : Nat → Int32, ∃ v11_5_8 : Nat → Int32, (0 ≤ (v11_5_0).toInt ∧ (v11_5_0).toInt ≤ 100) ∧ ((-1) ≤ (v11_5_1).toInt ∧ (v11_5_1).toInt ≤ 10) ∧ ((-2147483648) ≤ (v11_5_4).toInt ∧ (v11_5_4).toInt ≤ 2147483647) ∧ ((-2147483648) ≤ (v11_5_5).toInt ∧ (v11_5_5).toInt ≤ 2147483647) ∧ (0 ≤ (v11_5_9).toInt ∧ (v11_5_9).toInt ≤ 99) ∧ RG v11_5_6 10 0 1023 ∧ qW D (va_A (wk_69ec1558b cy h0 p0 h1 w0 w1 w2 p1 p2 p3 p4 p5 p6 p7 p8 p9 p10 p11 h2 h3 w3 h4 w4 p12 p13 w5 h5 h6 p14 p15 w6 w7 w8 w9 w10 p16 w11 w12 w13 h1 f0 h2 f1 h3 f2 h4 f3 h5 f4 h6 f5) sz) s.heap (wk_69ec1558b cy h0 0 h1 w0 w1 w2 p1 p2 p3 p4 p5 p6 p7 p8 p9 p10 p11 h2 h3 w3 h4 w4 p12 p13 w5 h5 h6 v11_5_4 v11_5_5 w6 w7 w8 w9 w10 p16 w11 w12 w13 h1 f0 h2 v11_5_2 h3 v11_5_3 h4 v11_5_6 h5 v11_5_7 h6 v11_5_8) H locs ∧ lv_has ls 4 [(0, .ref h0), (1, .int v11_5_9), (2, .int v11_5_1), (3, .int v11_5_0)]) (fun (q : Int32 × Int32 × Int32 × Int32 × Int32) => match q with | (v11_5_0, v11_5_1, v11_5_4, v11_5_5, v11_5_9) => (101 - (v11_5_0).toInt).toNat) (fun q_11 ih_11 H locs ls hP => ?_) (0, (-1), p14, p15, 0) ⟨f1, f2, f3, f4, f5, ⟨by decide +kernel, by decide +kernel⟩, ⟨by decide +kernel, by decide +kernel⟩, hp14, hp15, ⟨by decide +kernel, by decide +kernel⟩, (rg_wide rf3 (by decide) (by decide)), h_1, (lv_sub hl_4 [3, 2, 1, 0] rfl)⟩
  obtain ⟨v11_5_0, v11_5_1, v11_5_4, v11_5_5, v11_5_9⟩ := q_11
  obtain ⟨v11_5_2, v11_5_3, v11_5_6, v11_5_7, v11_5_8, hv11_5_0, hv11_5_1, hv11_5_4, hv11_5_5, hv11_5_9, rv11_5_6, h, hl⟩ := hP
  refine lv_iload_n hx hb dX12_bestDay_11 rfl (lv_at hl 3 rfl) ?_
  refine lv_bipush (v := 99) hx hb dX12_bestDay_12 (by decide) ?_
  refine lv_icmp_gt (tgt := 71) hx hb dX12_bestDay_14 (by decide) (fun c_6 => ?_) (fun c_6 => ?_)
  · replace c_6 := i_lt (x := 99) (y := v11_5_0) (show (99 : Int32).toInt = 99 by decide) rfl c_6
    refine lv_iload_n hx hb dX12_bestDay_71 rfl (lv_at hl 1 rfl) ?_
    exact q_iret X hr hlk hK h rfl (fun _ => 0, (vcons (fun _ => 0) (vcons (fun _ => v11_5_4) (vcons (fun _ => v11_5_5) (vcons v11_5_2 (vcons v11_5_3 (vcons v11_5_6 (vcons v11_5_7 (vcons v11_5_8 (fun _ => (fun _ => 0)))))))))), fun _ _ => 0) ⟨hv11_5_9, (⟨by decide +kernel, by decide +kernel⟩ : 0 ≤ (0 : Int32).toInt ∧ (0 : Int32).toInt ≤ 0), hv11_5_4, hv11_5_5, (rg_wide rv11_5_6 (by decide) (by decide)), trivial⟩ [0, 1, 2, 3, 4, 5, 6] rfl rfl dX12_bestDay_72 (Nat.le_of_ble_eq_true rfl) (Nat.le_of_ble_eq_true rfl)
  · replace c_6 := i_nlt (x := 99) (y := v11_5_0) (show (99 : Int32).toInt = 99 by decide) rfl c_6
    refine lv_aload_n hx hb dX12_bestDay_17 rfl (lv_at hl 0 rfl) ?_
    refine lv_aload_n hx hb dX12_bestDay_18 rfl (lv_at hl 0 rfl) ?_
    refine q_get X hK h 0 rfl rfl wf_12 1 (by decide) rfl wm_5_171 dX12_bestDay_19 ?_
    refine lv_bipush (v := 52) hx hb dX12_bestDay_22 (by decide) ?_
    refine q_iald X hK h 1 rfl (q_in (by decide +kernel)) dX12_bestDay_24 ?_
    refine q_any (fun z_7 hz_7 => ?_)
    refine lv_iload_n hx hb dX12_bestDay_25 rfl (lv_at hl 3 rfl) ?_
    refine lv_iadd hx hb dX12_bestDay_26 ?_
    refine q_any (fun z_8 hz_8 => ?_)
    refine q_callVv (rest := []) (wr := (wk_acf3c80ad cy h5 v11_5_7 h6 v11_5_8)) X hK hT hA h (fun sz => gX12_laysOpposed_6a814f8 l D cy h0 h1 h2 h3 h4 z_8 (0 : Int32) w0 w1 w2 p1 p2 p3 p4 p5 p6 p7 p8 p9 p10 p11 w3 w4 p12 p13 w5 (.ref h5) (.ref h6) v11_5_4 v11_5_5 w6 w7 w8 w9 w10 p16 w11 w12 w13 f0 p17 v11_5_2 v11_5_3 v11_5_6 (i_rng _) ⟨by decide +kernel, by decide +kernel⟩ hp1 hp2 hp3 hp4 (i_rng _) hp6 (i_rng _) (i_rng _) (i_rng _) (i_rng _) (i_rng _) (i_rng _) (i_rng _) (i_rng _) (i_rng _) (i_rng _) hp17 htf0_84 rf0 (rg_wide rv11_5_6 (by decide) (by decide)) sz) wm_7_59 wm_7_62 wm_1_12 hd_X12_laysOpposed wm_7_61 wp_6_12 (ci := 12) (q0 := 0) rfl rfl ⟨Nat.le_of_ble_eq_true rfl, Nat.le_of_ble_eq_true rfl⟩ hl.1 rfl (Nat.le_of_ble_eq_true rfl) dX12_bestDay_27 ⟨Nat.le_of_ble_eq_true rfl, Nat.le_of_ble_eq_true rfl⟩ [0, 1, 2, 3, 4] [5, 6] rfl rfl (by decide) rfl rfl (fun u_9 H locs w_9 h_9 => ?_)
    clear h
    obtain ⟨w9_0, _⟩ := w_9
    replace h_9 : qW D _ _ (wk_46efe495a cy h5 v11_5_7 h6 v11_5_8 h0 0 h1 w0 w1 w2 p1 p2 p3 p4 p5 p6 p7 p8 p9 p10 p11 h2 h3 w3 h4 w4 p12 p13 w5 h5 h6 v11_5_4 v11_5_5 w6 w7 w8 w9 w10 p16 w11 w12 w13 h1 f0 h2 (u_9.2.1 0) h3 (u_9.2.1 1) h4 (u_9.2.1 2)) _ _ := h_9
    refine lv_aload_n hx hb dX12_bestDay_30 rfl (lv_at hl 0 rfl) ?_
    refine lv_aload_n hx hb dX12_bestDay_31 rfl (lv_at hl 0 rfl) ?_
    refine lv_aload_n hx hb dX12_bestDay_32 rfl (lv_at hl 0 rfl) ?_
    refine q_get X hK h_9 2 rfl rfl wf_12 1 (by decide) rfl wm_5_171 dX12_bestDay_33 ?_
    refine lv_bipush (v := 52) hx hb dX12_bestDay_36 (by decide) ?_
    refine q_iald X hK h_9 3 rfl (q_in (by decide +kernel)) dX12_bestDay_38 ?_
    refine q_any (fun z_10 hz_10 => ?_)
    refine lv_iload_n hx hb dX12_bestDay_39 rfl (lv_at hl 3 rfl) ?_
    refine lv_iadd hx hb dX12_bestDay_40 ?_
    refine q_any (fun z_11 hz_11 => ?_)
    refine q_callVi (rest := [.ref h0]) (wr := [(h5, .inl (cy 1, 10, .inl v11_5_7)), (h6, .inl (cy 1, 10, .inl v11_5_8)), (h2, .inl (cy 1, 900, .inl (u_9.2.1 0))), (h3, .inl (cy 1, 11, .inl (u_9.2.1 1))), (h4, .inl (cy 1, 10, .inl (u_9.2.1 2)))]) X hK hT hA h_9 (fun sz => gX12_townOn_aa3becc l D cy h0 h1 z_11 (0 : Int32) w0 w1 w2 p1 p2 p3 p4 p5 p6 p7 p8 p9 p10 p11 (.ref h2) (.ref h3) w3 (.ref h4) w4 p12 p13 w5 (.ref h5) (.ref h6) v11_5_4 v11_5_5 w6 w7 w8 w9 w10 p16 w11 w12 w13 f0 p17 (i_rng _) ⟨by decide +kernel, by decide +kernel⟩ hp1 hp2 hp3 hp4 (i_rng _) hp6 (i_rng _) (i_rng _) (i_rng _) (i_rng _) (i_rng _) (i_rng _) (i_rng _) (i_rng _) (i_rng _) (i_rng _) hp17 htf0_84 rf0 sz) wm_6_174 wm_6_177 wm_1_12 hd_X12_townOn wm_6_176 wp_5_10 (ci := 12) (q0 := 0) rfl rfl ⟨Nat.le_of_ble_eq_true rfl, Nat.le_of_ble_eq_true rfl⟩ hl.1 rfl (Nat.le_of_ble_eq_true rfl) dX12_bestDay_41 ⟨Nat.le_of_ble_eq_true rfl, Nat.le_of_ble_eq_true rfl⟩ [2, 3] [0, 1, 4, 5, 6] rfl rfl (by decide) rfl rfl (fun r_12 u_12 H locs w_12 h_12 => ?_)
    clear h_9
    obtain ⟨wr_12, _⟩ := w_12
    replace h_12 : qW D _ _ [(h5, .inl (cy 1, 10, .inl v11_5_7)), (h6, .inl (cy 1, 10, .inl v11_5_8)), (h2, .inl (cy 1, 900, .inl (u_9.2.1 0))), (h3, .inl (cy 1, 11, .inl (u_9.2.1 1))), (h4, .inl (cy 1, 10, .inl (u_9.2.1 2))), (h0, .inr (12, [.int 0, .ref h1, w0, w1, w2, .int p1, .int p2, .int p3, .int p4, .int p5, .int p6, .int p7, .int p8, .int p9, .int p10, .int p11, .ref h2, .ref h3, w3, .ref h4, w4, .int p12, .int p13, w5, .ref h5, .ref h6, .int v11_5_4, .int v11_5_5, w6, w7, w8, w9, w10, .int p16, w11, w12, w13])), (h1, .inl (cy 1, 3918, .inl f0))] _ _ := h_12
    refine q_callVv (rest := []) (wr := (wk_3fb6de35f cy h2 (u_9.2.1 0) h3 (u_9.2.1 1))) X hK hT hA h_12 (fun sz => gX12_laysPairs_e0c774e l D cy h0 h1 h4 h5 h6 r_12 (0 : Int32) w0 w1 w2 p1 p2 p3 p4 p5 p6 p7 p8 p9 p10 p11 (.ref h2) (.ref h3) w3 w4 p12 p13 w5 v11_5_4 v11_5_5 w6 w7 w8 w9 w10 p16 w11 w12 w13 f0 p17 (u_9.2.1 2) v11_5_7 v11_5_8 wr_12 ⟨by decide +kernel, by decide +kernel⟩ hp1 hp2 hp3 hp4 (i_rng _) hp6 (i_rng _) (i_rng _) (i_rng _) (i_rng _) (i_rng _) (i_rng _) (i_rng _) (i_rng _) (i_rng _) (i_rng _) hp17 htf0_84 rf0 (rg_wide w9_0 (by decide) (by decide)) sz) wm_7_112 wm_7_115 wm_1_12 hd_X12_laysPairs wm_7_114 wp_7_3 (ci := 12) (q0 := 0) rfl rfl ⟨Nat.le_of_ble_eq_true rfl, Nat.le_of_ble_eq_true rfl⟩ hl.1 rfl (Nat.le_of_ble_eq_true rfl) dX12_bestDay_44 ⟨Nat.le_of_ble_eq_true rfl, Nat.le_of_ble_eq_true rfl⟩ [5, 6, 4, 0, 1] [2, 3] rfl rfl (by decide) rfl rfl (fun u_13 H locs w_13 h_13 => ?_)
    clear h_12
    obtain ⟨w13_0, w13_1, _⟩ := w_13
    replace h_13 : qW D _ _ (wk_d169974a4 cy h2 (u_9.2.1 0) h3 (u_9.2.1 1) h0 0 h1 w0 w1 w2 p1 p2 p3 p4 p5 p6 p7 p8 p9 p10 p11 h2 h3 w3 h4 w4 p12 p13 w5 h5 h6 (u_13.2.1 0 0) (u_13.2.1 1 0) w6 w7 w8 w9 w10 p16 w11 w12 w13 h1 f0 h4 (u_9.2.1 2) h5 (u_13.2.1 2) h6 (u_13.2.1 3)) _ _ := h_13
    refine lv_aload_n hx hb dX12_bestDay_47 rfl (lv_at hl 0 rfl) ?_
    refine q_get X hK h_13 2 rfl rfl wf_12 26 (by decide) rfl wm_5_196 dX12_bestDay_48 ?_
    refine lv_iload_n hx hb dX12_bestDay_51 rfl (lv_at hl 2 rfl) ?_
    refine q_jn (pc2 := 65) (fun H locs ls st => ∃ v65_14_0 : Int32, ∃ v65_14_1 : Int32, ((-1) ≤ (v65_14_0).toInt ∧ (v65_14_0).toInt ≤ 10) ∧ (0 ≤ (v65_14_1).toInt ∧ (v65_14_1).toInt ≤ 99) ∧ st = [] ∧ qW D (va_A (wk_69ec1558b cy h0 p0 h1 w0 w1 w2 p1 p2 p3 p4 p5 p6 p7 p8 p9 p10 p11 h2 h3 w3 h4 w4 p12 p13 w5 h5 h6 p14 p15 w6 w7 w8 w9 w10 p16 w11 w12 w13 h1 f0 h2 f1 h3 f2 h4 f3 h5 f4 h6 f5) sz) s.heap (wk_d169974a4 cy h2 (u_9.2.1 0) h3 (u_9.2.1 1) h0 0 h1 w0 w1 w2 p1 p2 p3 p4 p5 p6 p7 p8 p9 p10 p11 h2 h3 w3 h4 w4 p12 p13 w5 h5 h6 (u_13.2.1 0 0) (u_13.2.1 1 0) w6 w7 w8 w9 w10 p16 w11 w12 w13 h1 f0 h4 (u_9.2.1 2) h5 (u_13.2.1 2) h6 (u_13.2.1 3)) H locs ∧ lv_has ls 4 [(0, .ref h0), (1, .int v65_14_1), (2, .int v65_14_0), (3, .int v11_5_0)]) (fun H locs ls st hP => ?_) (fun J_65 => ?_)
    · obtain ⟨v65_14_0, v65_14_1, hv65_14_0, hv65_14_1, rfl, h, hl⟩ := hP
      obtain ⟨z_15, ez_15, hz_15⟩ := e_add (x := v11_5_0) (y := Int32.ofInt 1) rfl (b := 1) (by decide) (by omega) (by omega)
      refine lv_iinc (v := z_15) (lv' := [(3, .int z_15), (0, .ref h0), (1, .int v65_14_1), (2, .int v65_14_0)]) hx hb dX12_bestDay_65 hl (k := 3) rfl ez_15 (by decide) rfl (fun ls_15 hl_15 => ?_)
      clear hl
      refine lv_goto (tgt := 11) hx hb dX12_bestDay_68 (by decide) ?_
      exact ih_11 (z_15, v65_14_0, (u_13.2.1 0 0), (u_13.2.1 1 0), v65_14_1) (by show (101 - (z_15).toInt).toNat < (101 - (v11_5_0).toInt).toNat; omega) _ _ _ ⟨(u_9.2.1 0), (u_9.2.1 1), (u_9.2.1 2), (u_13.2.1 2), (u_13.2.1 3), ⟨by omega, by omega⟩, hv65_14_0, (bw w13_0 (by decide) (by decide)), w13_1, hv65_14_1, (rg_wide w9_0 (by decide) (by decide)), (q_re h [2, 3, 0, 1, 4, 5, 6] rfl rfl), (lv_sub hl_15 [1, 2, 3, 0] rfl)⟩
    · skip
      refine lv_icmp_gt (tgt := 58) hx hb dX12_bestDay_52 (by decide) (fun c_16 => ?_) (fun c_16 => ?_)
      · replace c_16 := i_lt (x := v11_5_1) (y := (u_13.2.1 0 0)) rfl rfl c_16
        refine lv_iload_n hx hb dX12_bestDay_58 rfl (lv_at hl 3 rfl) ?_
        refine lv_istore_n (lv' := [(1, .int v11_5_0), (0, .ref h0), (2, .int v11_5_1), (3, .int v11_5_0)]) hx hb dX12_bestDay_59 rfl hl (by decide) rfl (fun ls_17 hl_17 => ?_)
        clear hl
        refine lv_aload_n hx hb dX12_bestDay_60 rfl (lv_at hl_17 1 rfl) ?_
        refine q_get X hK h_13 2 rfl rfl wf_12 26 (by decide) rfl wm_5_196 dX12_bestDay_61 ?_
        refine lv_istore_n (lv' := [(2, .int (u_13.2.1 0 0)), (1, .int v11_5_0), (0, .ref h0), (3, .int v11_5_0)]) hx hb dX12_bestDay_64 rfl hl_17 (by decide) rfl (fun ls_18 hl_18 => ?_)
        clear hl_17
        exact J_65 _ _ _ _ ⟨(u_13.2.1 0 0), v11_5_0, w13_0, ⟨by omega, by omega⟩, rfl, h_13, (lv_sub hl_18 [2, 1, 0, 3] rfl)⟩
      · replace c_16 := i_nlt (x := v11_5_1) (y := (u_13.2.1 0 0)) rfl rfl c_16
        refine lv_goto (tgt := 65) hx hb dX12_bestDay_55 (by decide) ?_
        exact J_65 _ _ _ _ ⟨v11_5_1, v11_5_9, hv11_5_1, hv11_5_9, rfl, h_13, (lv_sub hl [0, 1, 2, 3] rfl)⟩
set_option maxHeartbeats 4000000 in
set_option maxRecDepth 100000 in
theorem gX12_firstDay_81e8bf1 (l : Launch) (D : va_G) (cy : Nat → ClassId) (h0 : Nat) (h1 : Nat) (h2 : Nat) (h3 : Nat) (h4 : Nat) (h5 : Nat) (p0 : Int32) (w0 : Value) (w1 : Value) (w2 : Value) (p1 : Int32) (p2 : Int32) (p3 : Int32) (p4 : Int32) (p5 : Int32) (p6 : Int32) (p7 : Int32) (p8 : Int32) (p9 : Int32) (p10 : Int32) (p11 : Int32) (w3 : Value) (w4 : Value) (p12 : Int32) (p13 : Int32) (w5 : Value) (w6 : Value) (p14 : Int32) (p15 : Int32) (w7 : Value) (w8 : Value) (w9 : Value) (w10 : Value) (w11 : Value) (p16 : Int32) (w12 : Value) (w13 : Value) (w14 : Value) (f0 : Nat → Int32) (p17 : Int32) (f1 : Nat → Int32) (f2 : Nat → Int32) (f3 : Nat → Int32) (f4 : Nat → Int32) (hp0 : (-2147483648) ≤ (p0).toInt ∧ (p0).toInt ≤ 2147483647) (hp1 : 0 ≤ (p1).toInt ∧ (p1).toInt ≤ 900) (hp2 : 0 ≤ (p2).toInt ∧ (p2).toInt ≤ 900) (hp3 : 0 ≤ (p3).toInt ∧ (p3).toInt ≤ 900) (hp4 : 0 ≤ (p4).toInt ∧ (p4).toInt ≤ 900) (hp5 : (-2147483648) ≤ (p5).toInt ∧ (p5).toInt ≤ 2147483647) (hp6 : 0 ≤ (p6).toInt ∧ (p6).toInt ≤ 999) (hp7 : (-2147483648) ≤ (p7).toInt ∧ (p7).toInt ≤ 2147483647) (hp8 : (-2147483648) ≤ (p8).toInt ∧ (p8).toInt ≤ 2147483647) (hp9 : (-2147483648) ≤ (p9).toInt ∧ (p9).toInt ≤ 2147483647) (hp10 : (-2147483648) ≤ (p10).toInt ∧ (p10).toInt ≤ 2147483647) (hp11 : (-2147483648) ≤ (p11).toInt ∧ (p11).toInt ≤ 2147483647) (hp12 : (-2147483648) ≤ (p12).toInt ∧ (p12).toInt ≤ 2147483647) (hp13 : (-2147483648) ≤ (p13).toInt ∧ (p13).toInt ≤ 2147483647) (hp14 : (-2147483648) ≤ (p14).toInt ∧ (p14).toInt ≤ 2147483647) (hp15 : (-2147483648) ≤ (p15).toInt ∧ (p15).toInt ≤ 2147483647) (hp16 : (-2147483648) ≤ (p16).toInt ∧ (p16).toInt ≤ 2147483647) (hp17 : 0 ≤ (p17).toInt ∧ (p17).toInt ≤ 10) (htf0_84 : f0 84 = p17) (rf0 : AL f0) (rf3 : RG f3 10 0 1023) (sz : Nat) : MI l yX12_firstDay cX12_firstDay 3 .int { frames := 4, cells := 0, slots := 0, locals := 94 } [.ref h0] D cy (wk_eecab3214 cy h0 p0 h1 w0 w1 w2 p1 p2 p3 p4 p5 p6 p7 p8 p9 p10 p11 h2 h3 w3 h4 w4 p12 p13 h5 w5 w6 p14 p15 w7 w8 w9 w10 w11 p16 w12 w13 w14 h1 f0 h2 f1 h3 f2 h4 f3 h5 f4) sz (fun r u => ((-1) ≤ r.toInt ∧ r.toInt ≤ 99) ∧ (0 ≤ (u.2.1 0 0).toInt ∧ (u.2.1 0 0).toInt ≤ 0) ∧ RG (u.2.1 3) 10 0 1023 ∧ True) (fun u => (wk_eecab3214 cy h0 (u.2.1 0 0) h1 w0 w1 w2 p1 p2 p3 p4 p5 p6 p7 p8 p9 p10 p11 h2 h3 w3 h4 w4 p12 p13 h5 w5 w6 p14 p15 w7 w8 w9 w10 w11 p16 w12 w13 w14 h1 f0 h2 (u.2.1 1) h3 (u.2.1 2) h4 (u.2.1 3) h5 (u.2.1 4))) 0 0 := by
  refine q_ent (own := RX12) (by decide) rfl (Nat.le_of_ble_eq_true rfl) (fun p e s m below meth c ls X hr hlk hnm hK hT h hA hl => ?_)
  obtain ⟨hx, hb, hml, hown, ht⟩ := id X
  replace hl : lv_has ls 3 [(0, .ref h0)] := hl
  refine lv_aload_n hx hb dX12_firstDay_0 rfl (lv_at hl 0 rfl) ?_
  refine lv_iconst (v := 0) hx hb dX12_firstDay_1 (by decide) ?_
  refine q_put (v := .int 0) X hK h 0 rfl rfl wf_12 tyX12 tyX12_ok nmX12 0 (by decide) wm_5_170 rfl rfl rfl (Nat.le_of_ble_eq_true rfl) dX12_firstDay_2 (fun H locs h_1 => ?_)
  clear h
  replace h_1 : qW D _ _ (wk_eecab3214 cy h0 0 h1 w0 w1 w2 p1 p2 p3 p4 p5 p6 p7 p8 p9 p10 p11 h2 h3 w3 h4 w4 p12 p13 h5 w5 w6 p14 p15 w7 w8 w9 w10 w11 p16 w12 w13 w14 h1 f0 h2 f1 h3 f2 h4 f3 h5 f4) _ _ := h_1
  refine lv_iconst (v := 0) hx hb dX12_firstDay_5 (by decide) ?_
  refine lv_istore_n (lv' := [(1, .int 0), (0, .ref h0)]) hx hb dX12_firstDay_6 rfl hl (by decide) rfl (fun ls_2 hl_2 => ?_)
  clear hl
  refine q_wl (fun (v7_3_0 : Int32) H locs ls => ∃ v7_3_1 : Nat → Int32, ∃ v7_3_2 : Nat → Int32, ∃ v7_3_3 : Nat → Int32, ∃ v7_3_4 : Nat → Int32, (0 ≤ (v7_3_0).toInt ∧ (v7_3_0).toInt ≤ 100) ∧ RG v7_3_3 10 0 1023 ∧ qW D (va_A (wk_eecab3214 cy h0 p0 h1 w0 w1 w2 p1 p2 p3 p4 p5 p6 p7 p8 p9 p10 p11 h2 h3 w3 h4 w4 p12 p13 h5 w5 w6 p14 p15 w7 w8 w9 w10 w11 p16 w12 w13 w14 h1 f0 h2 f1 h3 f2 h4 f3 h5 f4) sz) s.heap (wk_eecab3214 cy h0 0 h1 w0 w1 w2 p1 p2 p3 p4 p5 p6 p7 p8 p9 p10 p11 h2 h3 w3 h4 w4 p12 p13 h5 w5 w6 p14 p15 w7 w8 w9 w10 w11 p16 w12 w13 w14 h1 f0 h2 v7_3_1 h3 v7_3_2 h4 v7_3_3 h5 v7_3_4) H locs ∧ lv_has ls 3 [(0, .ref h0), (1, .int v7_3_0)]) (fun (v7_3_0 : Int32) => (101 - (v7_3_0).toInt).toNat) (fun q_7 ih_7 H locs ls hP => ?_) 0 ⟨f1, f2, f3, f4, ⟨by decide +kernel, by decide +kernel⟩, (rg_wide rf3 (by decide) (by decide)), h_1, (lv_sub hl_2 [1, 0] rfl)⟩
  obtain ⟨v7_3_0, rfl⟩ : ∃ z, z = q_7 := ⟨_, rfl⟩
  obtain ⟨v7_3_1, v7_3_2, v7_3_3, v7_3_4, hv7_3_0, rv7_3_3, h, hl⟩ := hP
  refine lv_iload_n hx hb dX12_firstDay_7 rfl (lv_at hl 1 rfl) ?_
  refine lv_bipush (v := 99) hx hb dX12_firstDay_8 (by decide) ?_
  refine lv_icmp_gt (tgt := 72) hx hb dX12_firstDay_10 (by decide) (fun c_4 => ?_) (fun c_4 => ?_)
  · replace c_4 := i_lt (x := 99) (y := v7_3_0) (show (99 : Int32).toInt = 99 by decide) rfl c_4
    refine lv_iconst (v := (-1)) hx hb dX12_firstDay_72 (by decide) ?_
    exact q_iret X hr hlk hK h rfl (fun _ => 0, (vcons (fun _ => 0) (vcons v7_3_1 (vcons v7_3_2 (vcons v7_3_3 (vcons v7_3_4 (fun _ => (fun _ => 0))))))), fun _ _ => 0) ⟨⟨by decide +kernel, by decide +kernel⟩, (⟨by decide +kernel, by decide +kernel⟩ : 0 ≤ (0 : Int32).toInt ∧ (0 : Int32).toInt ≤ 0), (rg_wide rv7_3_3 (by decide) (by decide)), trivial⟩ [0, 1, 2, 3, 4, 5] rfl rfl dX12_firstDay_73 (Nat.le_of_ble_eq_true rfl) (Nat.le_of_ble_eq_true rfl)
  · replace c_4 := i_nlt (x := 99) (y := v7_3_0) (show (99 : Int32).toInt = 99 by decide) rfl c_4
    refine lv_aload_n hx hb dX12_firstDay_13 rfl (lv_at hl 0 rfl) ?_
    refine lv_aload_n hx hb dX12_firstDay_14 rfl (lv_at hl 0 rfl) ?_
    refine q_get X hK h 0 rfl rfl wf_12 1 (by decide) rfl wm_5_171 dX12_firstDay_15 ?_
    refine lv_bipush (v := 52) hx hb dX12_firstDay_18 (by decide) ?_
    refine q_iald X hK h 1 rfl (q_in (by decide +kernel)) dX12_firstDay_20 ?_
    refine q_any (fun z_5 hz_5 => ?_)
    refine lv_iload_n hx hb dX12_firstDay_21 rfl (lv_at hl 1 rfl) ?_
    refine lv_iadd hx hb dX12_firstDay_22 ?_
    refine q_any (fun z_6 hz_6 => ?_)
    refine q_callVi (rest := []) (wr := (wk_1ed1fcc35 cy h2 v7_3_1 h3 v7_3_2 h4 v7_3_3 h5 v7_3_4)) X hK hT hA h (fun sz => gX12_townOn_aa3becc l D cy h0 h1 z_6 (0 : Int32) w0 w1 w2 p1 p2 p3 p4 p5 p6 p7 p8 p9 p10 p11 (.ref h2) (.ref h3) w3 (.ref h4) w4 p12 p13 (.ref h5) w5 w6 p14 p15 w7 w8 w9 w10 w11 p16 w12 w13 w14 f0 p17 (i_rng _) ⟨by decide +kernel, by decide +kernel⟩ hp1 hp2 hp3 hp4 (i_rng _) hp6 (i_rng _) (i_rng _) (i_rng _) (i_rng _) (i_rng _) (i_rng _) (i_rng _) (i_rng _) (i_rng _) (i_rng _) hp17 htf0_84 rf0 sz) wm_6_174 wm_6_177 wm_1_12 hd_X12_townOn wm_6_176 wp_5_10 (ci := 12) (q0 := 0) rfl rfl ⟨Nat.le_of_ble_eq_true rfl, Nat.le_of_ble_eq_true rfl⟩ hl.1 rfl (Nat.le_of_ble_eq_true rfl) dX12_firstDay_23 ⟨Nat.le_of_ble_eq_true rfl, Nat.le_of_ble_eq_true rfl⟩ [0, 1] [2, 3, 4, 5] rfl rfl (by decide) rfl rfl (fun r_7 u_7 H locs w_7 h_7 => ?_)
    clear h
    obtain ⟨wr_7, _⟩ := w_7
    replace h_7 : qW D _ _ (wk_143caa1ee cy h2 v7_3_1 h3 v7_3_2 h4 v7_3_3 h5 v7_3_4 h0 0 h1 w0 w1 w2 p1 p2 p3 p4 p5 p6 p7 p8 p9 p10 p11 h2 h3 w3 h4 w4 p12 p13 h5 w5 w6 p14 p15 w7 w8 w9 w10 w11 p16 w12 w13 w14 h1 f0) _ _ := h_7
    refine lv_istore_n (lv' := [(2, .int r_7), (0, .ref h0), (1, .int v7_3_0)]) hx hb dX12_firstDay_26 rfl hl (by decide) rfl (fun ls_8 hl_8 => ?_)
    clear hl
    refine lv_iload_n hx hb dX12_firstDay_27 rfl (lv_at hl_8 0 rfl) ?_
    refine q_callSi (rest := []) (wr := (wk_143caa1ee cy h2 v7_3_1 h3 v7_3_2 h4 v7_3_3 h5 v7_3_4 h0 0 h1 w0 w1 w2 p1 p2 p3 p4 p5 p6 p7 p8 p9 p10 p11 h2 h3 w3 h4 w4 p12 p13 h5 w5 w6 p14 p15 w7 w8 w9 w10 w11 p16 w12 w13 w14 h1 f0)) X hK hT hA h_7 (fun sz => gX12_bitsOf_5a43b1c l D cy r_7 (i_rng _) sz) wm_7_8 wm_7_10 wm_1_12 hd_X12_bitsOf wm_7_9 ⟨Nat.le_of_ble_eq_true rfl, Nat.le_of_ble_eq_true rfl⟩ hl_8.1 rfl (Nat.le_of_ble_eq_true rfl) dX12_firstDay_28 ⟨Nat.le_of_ble_eq_true rfl, Nat.le_of_ble_eq_true rfl⟩ [] [0, 1, 2, 3, 4, 5] rfl rfl (by decide) rfl rfl (fun r_9 u_9 H locs w_9 h_9 => ?_)
    clear h_7
    obtain ⟨wr_9, _⟩ := w_9
    replace h_9 : qW D _ _ (wk_143caa1ee cy h2 v7_3_1 h3 v7_3_2 h4 v7_3_3 h5 v7_3_4 h0 0 h1 w0 w1 w2 p1 p2 p3 p4 p5 p6 p7 p8 p9 p10 p11 h2 h3 w3 h4 w4 p12 p13 h5 w5 w6 p14 p15 w7 w8 w9 w10 w11 p16 w12 w13 w14 h1 f0) _ _ := h_9
    refine lv_iconst (v := 2) hx hb dX12_firstDay_31 (by decide) ?_
    refine q_jn (pc2 := 66) (fun H locs ls st => ∃ v66_10_0 : Nat → Int32, ∃ v66_10_1 : Nat → Int32, ∃ v66_10_2 : Nat → Int32, ∃ v66_10_3 : Nat → Int32, RG v66_10_2 10 0 1023 ∧ st = [] ∧ qW D (va_A (wk_eecab3214 cy h0 p0 h1 w0 w1 w2 p1 p2 p3 p4 p5 p6 p7 p8 p9 p10 p11 h2 h3 w3 h4 w4 p12 p13 h5 w5 w6 p14 p15 w7 w8 w9 w10 w11 p16 w12 w13 w14 h1 f0 h2 f1 h3 f2 h4 f3 h5 f4) sz) s.heap (wk_143caa1ee cy h2 v66_10_0 h3 v66_10_1 h4 v66_10_2 h5 v66_10_3 h0 0 h1 w0 w1 w2 p1 p2 p3 p4 p5 p6 p7 p8 p9 p10 p11 h2 h3 w3 h4 w4 p12 p13 h5 w5 w6 p14 p15 w7 w8 w9 w10 w11 p16 w12 w13 w14 h1 f0) H locs ∧ lv_has ls 3 [(0, .ref h0), (1, .int v7_3_0), (2, .int r_7)]) (fun H locs ls st hP => ?_) (fun J_66 => ?_)
    · obtain ⟨v66_10_0, v66_10_1, v66_10_2, v66_10_3, rv66_10_2, rfl, h, hl⟩ := hP
      obtain ⟨z_11, ez_11, hz_11⟩ := e_add (x := v7_3_0) (y := Int32.ofInt 1) rfl (b := 1) (by decide) (by omega) (by omega)
      refine lv_iinc (v := z_11) (lv' := [(1, .int z_11), (0, .ref h0), (2, .int r_7)]) hx hb dX12_firstDay_66 hl (k := 1) rfl ez_11 (by decide) rfl (fun ls_11 hl_11 => ?_)
      clear hl
      refine lv_goto (tgt := 7) hx hb dX12_firstDay_69 (by decide) ?_
      exact ih_7 z_11 (by show (101 - (z_11).toInt).toNat < (101 - (v7_3_0).toInt).toNat; omega) _ _ _ ⟨v66_10_0, v66_10_1, v66_10_2, v66_10_3, ⟨by omega, by omega⟩, (rg_wide rv66_10_2 (by decide) (by decide)), (q_re h [4, 5, 0, 1, 2, 3] rfl rfl), (lv_sub hl_11 [1, 0] rfl)⟩
    · skip
      refine lv_icmp_ge (tgt := 38) hx hb dX12_firstDay_32 (by decide) (fun c_12 => ?_) (fun c_12 => ?_)
      · replace c_12 := i_le (x := 2) (y := r_9) (show (2 : Int32).toInt = 2 by decide) rfl c_12
        refine lv_aload_n hx hb dX12_firstDay_38 rfl (lv_at hl_8 1 rfl) ?_
        refine lv_aload_n hx hb dX12_firstDay_39 rfl (lv_at hl_8 1 rfl) ?_
        refine q_get X hK h_9 4 rfl rfl wf_12 1 (by decide) rfl wm_5_171 dX12_firstDay_40 ?_
        refine lv_bipush (v := 52) hx hb dX12_firstDay_43 (by decide) ?_
        refine q_iald X hK h_9 5 rfl (q_in (by decide +kernel)) dX12_firstDay_45 ?_
        refine q_any (fun z_13 hz_13 => ?_)
        refine lv_iload_n hx hb dX12_firstDay_46 rfl (lv_at hl_8 2 rfl) ?_
        refine lv_iadd hx hb dX12_firstDay_47 ?_
        refine q_any (fun z_14 hz_14 => ?_)
        refine q_callVv (rest := []) (wr := [(h5, .inl (cy 1, 1024, .inl v7_3_4))]) X hK hT hA h_9 (fun sz => gX12_laysOpposed_6a814f8 l D cy h0 h1 h2 h3 h4 z_14 (0 : Int32) w0 w1 w2 p1 p2 p3 p4 p5 p6 p7 p8 p9 p10 p11 w3 w4 p12 p13 (.ref h5) w5 w6 p14 p15 w7 w8 w9 w10 w11 p16 w12 w13 w14 f0 p17 v7_3_1 v7_3_2 v7_3_3 (i_rng _) ⟨by decide +kernel, by decide +kernel⟩ hp1 hp2 hp3 hp4 (i_rng _) hp6 (i_rng _) (i_rng _) (i_rng _) (i_rng _) (i_rng _) (i_rng _) (i_rng _) (i_rng _) (i_rng _) (i_rng _) hp17 htf0_84 rf0 (rg_wide rv7_3_3 (by decide) (by decide)) sz) wm_7_59 wm_7_62 wm_1_12 hd_X12_laysOpposed wm_7_61 wp_6_12 (ci := 12) (q0 := 0) rfl rfl ⟨Nat.le_of_ble_eq_true rfl, Nat.le_of_ble_eq_true rfl⟩ hl_8.1 rfl (Nat.le_of_ble_eq_true rfl) dX12_firstDay_48 ⟨Nat.le_of_ble_eq_true rfl, Nat.le_of_ble_eq_true rfl⟩ [4, 5, 0, 1, 2] [3] rfl rfl (by decide) rfl rfl (fun u_15 H locs w_15 h_15 => ?_)
        clear h_9
        obtain ⟨w15_0, _⟩ := w_15
        replace h_15 : qW D _ _ (wk_330e90bb2 cy h5 v7_3_4 h0 0 h1 w0 w1 w2 p1 p2 p3 p4 p5 p6 p7 p8 p9 p10 p11 h2 h3 w3 h4 w4 p12 p13 h5 w5 w6 p14 p15 w7 w8 w9 w10 w11 p16 w12 w13 w14 h1 f0 h2 (u_15.2.1 0) h3 (u_15.2.1 1) h4 (u_15.2.1 2)) _ _ := h_15
        refine lv_aload_n hx hb dX12_firstDay_51 rfl (lv_at hl_8 1 rfl) ?_
        refine q_callVv (rest := []) (wr := (wk_3fb6de35f cy h2 (u_15.2.1 0) h3 (u_15.2.1 1))) X hK hT hA h_15 (fun sz => gX12_laysParted_f6bf834 l D cy h0 h1 h4 h5 (0 : Int32) w0 w1 w2 p1 p2 p3 p4 p5 p6 p7 p8 p9 p10 p11 (.ref h2) (.ref h3) w3 w4 p12 p13 w5 w6 p14 p15 w7 w8 w9 w10 w11 p16 w12 w13 w14 f0 p17 (u_15.2.1 2) v7_3_4 ⟨by decide +kernel, by decide +kernel⟩ hp1 hp2 hp3 hp4 (i_rng _) hp6 (i_rng _) (i_rng _) (i_rng _) (i_rng _) (i_rng _) (i_rng _) (i_rng _) (i_rng _) (i_rng _) (i_rng _) hp17 htf0_84 rf0 (rg_wide w15_0 (by decide) (by decide)) sz) wm_7_63 wm_7_66 wm_1_12 hd_X12_laysParted wm_7_65 wp_6_13 (ci := 12) (q0 := 0) rfl rfl ⟨Nat.le_of_ble_eq_true rfl, Nat.le_of_ble_eq_true rfl⟩ hl_8.1 rfl (Nat.le_of_ble_eq_true rfl) dX12_firstDay_52 ⟨Nat.le_of_ble_eq_true rfl, Nat.le_of_ble_eq_true rfl⟩ [1, 2, 5, 0] [3, 4] rfl rfl (by decide) rfl rfl (fun u_16 H locs w_16 h_16 => ?_)
        clear h_15
        clear w_16
        replace h_16 : qW D _ _ (wk_e86de3109 cy h2 (u_15.2.1 0) h3 (u_15.2.1 1) h0 0 h1 w0 w1 w2 p1 p2 p3 p4 p5 p6 p7 p8 p9 p10 p11 h2 h3 w3 h4 w4 p12 p13 h5 w5 w6 p14 p15 w7 w8 w9 w10 w11 p16 w12 w13 w14 h1 f0 h4 (u_15.2.1 2) h5 (u_16.2.1 0)) _ _ := h_16
        refine lv_aload_n hx hb dX12_firstDay_55 rfl (lv_at hl_8 1 rfl) ?_
        refine q_get X hK h_16 2 rfl rfl wf_12 23 (by decide) rfl wm_5_193 dX12_firstDay_56 ?_
        refine lv_iload_n hx hb dX12_firstDay_59 rfl (lv_at hl_8 0 rfl) ?_
        refine q_iald X hK h_16 5 rfl (i_in rfl (by omega) (by omega)) dX12_firstDay_60 ?_
        refine q_any (fun z_17 hz_17 => ?_)
        refine lv_if_le (tgt := 66) hx hb dX12_firstDay_61 (by decide) (fun c_18 => ?_) (fun c_18 => ?_)
        · replace c_18 := i_le (x := z_17) (y := 0) rfl (show (0 : Int32).toInt = 0 by decide) c_18
          exact J_66 _ _ _ _ ⟨(u_15.2.1 0), (u_15.2.1 1), (u_15.2.1 2), (u_16.2.1 0), (rg_wide w15_0 (by decide) (by decide)), rfl, (q_re h_16 [0, 1, 4, 5, 2, 3] rfl rfl), (lv_sub hl_8 [1, 2, 0] rfl)⟩
        · replace c_18 := i_nle (x := z_17) (y := 0) rfl (show (0 : Int32).toInt = 0 by decide) c_18
          refine lv_iload_n hx hb dX12_firstDay_64 rfl (lv_at hl_8 2 rfl) ?_
          exact q_iret X hr hlk hK h_16 rfl (fun _ => 0, (vcons (fun _ => 0) (vcons (u_15.2.1 0) (vcons (u_15.2.1 1) (vcons (u_15.2.1 2) (vcons (u_16.2.1 0) (fun _ => (fun _ => 0))))))), fun _ _ => 0) ⟨⟨by omega, by omega⟩, (⟨by decide +kernel, by decide +kernel⟩ : 0 ≤ (0 : Int32).toInt ∧ (0 : Int32).toInt ≤ 0), (rg_wide w15_0 (by decide) (by decide)), trivial⟩ [2, 3, 0, 1, 4, 5] rfl rfl dX12_firstDay_65 (Nat.le_of_ble_eq_true rfl) (Nat.le_of_ble_eq_true rfl)
      · replace c_12 := i_nle (x := 2) (y := r_9) (show (2 : Int32).toInt = 2 by decide) rfl c_12
        refine lv_goto (tgt := 66) hx hb dX12_firstDay_35 (by decide) ?_
        exact J_66 _ _ _ _ ⟨v7_3_1, v7_3_2, v7_3_3, v7_3_4, (rg_wide rv7_3_3 (by decide) (by decide)), rfl, h_9, (lv_sub hl_8 [1, 2, 0] rfl)⟩
set_option maxHeartbeats 4000000 in
set_option maxRecDepth 100000 in
theorem gX12_quorum_38e63f5 (l : Launch) (D : va_G) (cy : Nat → ClassId) (h0 : Nat) (h1 : Nat) (h2 : Nat) (h3 : Nat) (h4 : Nat) (h5 : Nat) (p0 : Int32) (w0 : Value) (w1 : Value) (w2 : Value) (p1 : Int32) (p2 : Int32) (p3 : Int32) (p4 : Int32) (p5 : Int32) (p6 : Int32) (p7 : Int32) (p8 : Int32) (p9 : Int32) (p10 : Int32) (p11 : Int32) (w3 : Value) (w4 : Value) (p12 : Int32) (p13 : Int32) (w5 : Value) (w6 : Value) (p14 : Int32) (p15 : Int32) (w7 : Value) (w8 : Value) (w9 : Value) (w10 : Value) (w11 : Value) (p16 : Int32) (w12 : Value) (w13 : Value) (w14 : Value) (f0 : Nat → Int32) (p17 : Int32) (f1 : Nat → Int32) (f2 : Nat → Int32) (f3 : Nat → Int32) (f4 : Nat → Int32) (hp0 : (-2147483648) ≤ (p0).toInt ∧ (p0).toInt ≤ 2147483647) (hp1 : 0 ≤ (p1).toInt ∧ (p1).toInt ≤ 900) (hp2 : 0 ≤ (p2).toInt ∧ (p2).toInt ≤ 900) (hp3 : 0 ≤ (p3).toInt ∧ (p3).toInt ≤ 900) (hp4 : 0 ≤ (p4).toInt ∧ (p4).toInt ≤ 900) (hp5 : (-2147483648) ≤ (p5).toInt ∧ (p5).toInt ≤ 2147483647) (hp6 : 0 ≤ (p6).toInt ∧ (p6).toInt ≤ 999) (hp7 : (-2147483648) ≤ (p7).toInt ∧ (p7).toInt ≤ 2147483647) (hp8 : (-2147483648) ≤ (p8).toInt ∧ (p8).toInt ≤ 2147483647) (hp9 : (-2147483648) ≤ (p9).toInt ∧ (p9).toInt ≤ 2147483647) (hp10 : (-2147483648) ≤ (p10).toInt ∧ (p10).toInt ≤ 2147483647) (hp11 : (-2147483648) ≤ (p11).toInt ∧ (p11).toInt ≤ 2147483647) (hp12 : (-2147483648) ≤ (p12).toInt ∧ (p12).toInt ≤ 2147483647) (hp13 : (-2147483648) ≤ (p13).toInt ∧ (p13).toInt ≤ 2147483647) (hp14 : (-2147483648) ≤ (p14).toInt ∧ (p14).toInt ≤ 2147483647) (hp15 : (-2147483648) ≤ (p15).toInt ∧ (p15).toInt ≤ 2147483647) (hp16 : (-2147483648) ≤ (p16).toInt ∧ (p16).toInt ≤ 2147483647) (hp17 : 0 ≤ (p17).toInt ∧ (p17).toInt ≤ 10) (htf0_84 : f0 84 = p17) (rf0 : AL f0) (rf3 : RG f3 10 0 1023) (sz : Nat) : MI l yX12_quorum cX12_quorum 4 .int { frames := 5, cells := 0, slots := 0, locals := 114 } [.ref h0] D cy (wk_eecab3214 cy h0 p0 h1 w0 w1 w2 p1 p2 p3 p4 p5 p6 p7 p8 p9 p10 p11 h2 h3 w3 h4 w4 p12 p13 h5 w5 w6 p14 p15 w7 w8 w9 w10 w11 p16 w12 w13 w14 h1 f0 h2 f1 h3 f2 h4 f3 h5 f4) sz (fun r u => (0 ≤ r.toInt ∧ r.toInt ≤ 1023) ∧ RG (u.2.1 2) 10 0 1023 ∧ (0 ≤ (u.2.1 4 0).toInt ∧ (u.2.1 4 0).toInt ≤ 0) ∧ True) (fun u => (wk_eecab3214 cy h0 (u.2.1 4 0) h1 w0 w1 w2 p1 p2 p3 p4 p5 p6 p7 p8 p9 p10 p11 h2 h3 w3 h4 w4 p12 p13 h5 w5 w6 p14 p15 w7 w8 w9 w10 w11 p16 w12 w13 w14 h1 f0 h2 (u.2.1 0) h3 (u.2.1 1) h4 (u.2.1 2) h5 (u.2.1 3))) 0 0 := by
  refine q_ent (own := RX12) (by decide) rfl (Nat.le_of_ble_eq_true rfl) (fun p e s m below meth c ls X hr hlk hnm hK hT h hA hl => ?_)
  obtain ⟨hx, hb, hml, hown, ht⟩ := id X
  replace hl : lv_has ls 4 [(0, .ref h0)] := hl
  refine lv_aload_n hx hb dX12_quorum_0 rfl (lv_at hl 0 rfl) ?_
  refine lv_iconst (v := 0) hx hb dX12_quorum_1 (by decide) ?_
  refine q_put (v := .int 0) X hK h 0 rfl rfl wf_12 tyX12 tyX12_ok nmX12 0 (by decide) wm_5_170 rfl rfl rfl (Nat.le_of_ble_eq_true rfl) dX12_quorum_2 (fun H locs h_1 => ?_)
  clear h
  replace h_1 : qW D _ _ (wk_eecab3214 cy h0 0 h1 w0 w1 w2 p1 p2 p3 p4 p5 p6 p7 p8 p9 p10 p11 h2 h3 w3 h4 w4 p12 p13 h5 w5 w6 p14 p15 w7 w8 w9 w10 w11 p16 w12 w13 w14 h1 f0 h2 f1 h3 f2 h4 f3 h5 f4) _ _ := h_1
  refine lv_aload_n hx hb dX12_quorum_5 rfl (lv_at hl 0 rfl) ?_
  refine q_callVv (rest := []) (wr := []) X hK hT hA h_1 (fun sz => gX12_laysNow_7e7bd2c l D cy h0 h1 h2 h3 h4 h5 (0 : Int32) w0 w1 w2 p1 p2 p3 p4 p5 p6 p7 p8 p9 p10 p11 w3 w4 p12 p13 w5 w6 p14 p15 w7 w8 w9 w10 w11 p16 w12 w13 w14 f0 p17 f1 f2 f3 f4 ⟨by decide +kernel, by decide +kernel⟩ hp1 hp2 hp3 hp4 (i_rng _) hp6 (i_rng _) (i_rng _) (i_rng _) (i_rng _) (i_rng _) (i_rng _) (i_rng _) (i_rng _) (i_rng _) (i_rng _) hp17 htf0_84 rf0 (rg_wide rf3 (by decide) (by decide)) sz) wm_7_55 wm_7_58 wm_1_12 hd_X12_laysNow wm_7_57 wp_6_11 (ci := 12) (q0 := 0) rfl rfl ⟨Nat.le_of_ble_eq_true rfl, Nat.le_of_ble_eq_true rfl⟩ hl.1 rfl (Nat.le_of_ble_eq_true rfl) dX12_quorum_6 ⟨Nat.le_of_ble_eq_true rfl, Nat.le_of_ble_eq_true rfl⟩ [0, 1, 2, 3, 4, 5] [] rfl rfl (by decide) rfl rfl (fun u_2 H locs w_2 h_2 => ?_)
  clear h_1
  obtain ⟨w2_0, _⟩ := w_2
  replace h_2 : qW D _ _ (wk_eecab3214 cy h0 0 h1 w0 w1 w2 p1 p2 p3 p4 p5 p6 p7 p8 p9 p10 p11 h2 h3 w3 h4 w4 p12 p13 h5 w5 w6 p14 p15 w7 w8 w9 w10 w11 p16 w12 w13 w14 h1 f0 h2 (u_2.2.1 0) h3 (u_2.2.1 1) h4 (u_2.2.1 2) h5 (u_2.2.1 3)) _ _ := h_2
  refine lv_aload_n hx hb dX12_quorum_9 rfl (lv_at hl 0 rfl) ?_
  refine q_callVi (rest := []) (wr := (wk_1ed1fcc35 cy h2 (u_2.2.1 0) h3 (u_2.2.1 1) h4 (u_2.2.1 2) h5 (u_2.2.1 3))) X hK hT hA h_2 (fun sz => gX12_townNow_2907b4b l D cy h0 h1 (0 : Int32) w0 w1 w2 p1 p2 p3 p4 p5 p6 p7 p8 p9 p10 p11 (.ref h2) (.ref h3) w3 (.ref h4) w4 p12 p13 (.ref h5) w5 w6 p14 p15 w7 w8 w9 w10 w11 p16 w12 w13 w14 f0 p17 ⟨by decide +kernel, by decide +kernel⟩ hp1 hp2 hp3 hp4 (i_rng _) hp6 (i_rng _) (i_rng _) (i_rng _) (i_rng _) (i_rng _) (i_rng _) (i_rng _) (i_rng _) (i_rng _) (i_rng _) hp17 htf0_84 rf0 sz) wm_6_170 wm_6_173 wm_1_12 hd_X12_townNow wm_6_172 wp_5_9 (ci := 12) (q0 := 0) rfl rfl ⟨Nat.le_of_ble_eq_true rfl, Nat.le_of_ble_eq_true rfl⟩ hl.1 rfl (Nat.le_of_ble_eq_true rfl) dX12_quorum_10 ⟨Nat.le_of_ble_eq_true rfl, Nat.le_of_ble_eq_true rfl⟩ [0, 1] [2, 3, 4, 5] rfl rfl (by decide) rfl rfl (fun r_3 u_3 H locs w_3 h_3 => ?_)
  clear h_2
  obtain ⟨wr_3, _⟩ := w_3
  replace h_3 : qW D _ _ (wk_143caa1ee cy h2 (u_2.2.1 0) h3 (u_2.2.1 1) h4 (u_2.2.1 2) h5 (u_2.2.1 3) h0 0 h1 w0 w1 w2 p1 p2 p3 p4 p5 p6 p7 p8 p9 p10 p11 h2 h3 w3 h4 w4 p12 p13 h5 w5 w6 p14 p15 w7 w8 w9 w10 w11 p16 w12 w13 w14 h1 f0) _ _ := h_3
  refine lv_istore_n (lv' := [(1, .int r_3), (0, .ref h0)]) hx hb dX12_quorum_13 rfl hl (by decide) rfl (fun ls_4 hl_4 => ?_)
  clear hl
  refine lv_iconst (v := 0) hx hb dX12_quorum_14 (by decide) ?_
  refine lv_istore_n (lv' := [(2, .int 0), (1, .int r_3), (0, .ref h0)]) hx hb dX12_quorum_15 rfl hl_4 (by decide) rfl (fun ls_5 hl_5 => ?_)
  clear hl_4
  refine lv_iconst (v := 0) hx hb dX12_quorum_16 (by decide) ?_
  refine lv_istore_n (lv' := [(3, .int 0), (2, .int 0), (1, .int r_3), (0, .ref h0)]) hx hb dX12_quorum_17 rfl hl_5 (by decide) rfl (fun ls_6 hl_6 => ?_)
  clear hl_5
  refine q_wl (fun (q : Int32 × Int32) H locs ls => match q with | (v18_7_0, v18_7_1) => (0 ≤ (v18_7_0).toInt ∧ (v18_7_0).toInt ≤ 1024) ∧ (0 ≤ (v18_7_1).toInt ∧ (v18_7_1).toInt ≤ 1023) ∧ qW D (va_A (wk_eecab3214 cy h0 p0 h1 w0 w1 w2 p1 p2 p3 p4 p5 p6 p7 p8 p9 p10 p11 h2 h3 w3 h4 w4 p12 p13 h5 w5 w6 p14 p15 w7 w8 w9 w10 w11 p16 w12 w13 w14 h1 f0 h2 f1 h3 f2 h4 f3 h5 f4) sz) s.heap (wk_143caa1ee cy h2 (u_2.2.1 0) h3 (u_2.2.1 1) h4 (u_2.2.1 2) h5 (u_2.2.1 3) h0 0 h1 w0 w1 w2 p1 p2 p3 p4 p5 p6 p7 p8 p9 p10 p11 h2 h3 w3 h4 w4 p12 p13 h5 w5 w6 p14 p15 w7 w8 w9 w10 w11 p16 w12 w13 w14 h1 f0) H locs ∧ lv_has ls 4 [(0, .ref h0), (1, .int r_3), (2, .int v18_7_1), (3, .int v18_7_0)]) (fun (q : Int32 × Int32) => match q with | (v18_7_0, v18_7_1) => (1025 - (v18_7_0).toInt).toNat) (fun q_18 ih_18 H locs ls hP => ?_) (0, 0) ⟨⟨by decide +kernel, by decide +kernel⟩, ⟨by decide +kernel, by decide +kernel⟩, h_3, (lv_sub hl_6 [3, 2, 1, 0] rfl)⟩
  obtain ⟨v18_7_0, v18_7_1⟩ := q_18
  obtain ⟨hv18_7_0, hv18_7_1, h, hl⟩ := hP
  refine lv_iload_n hx hb dX12_quorum_18 rfl (lv_at hl 3 rfl) ?_
  refine lv_iload_n hx hb dX12_quorum_19 rfl (lv_at hl 1 rfl) ?_
  refine lv_icmp_gt (tgt := 59) hx hb dX12_quorum_20 (by decide) (fun c_8 => ?_) (fun c_8 => ?_)
  · replace c_8 := i_lt (x := r_3) (y := v18_7_0) rfl rfl c_8
    refine lv_iload_n hx hb dX12_quorum_59 rfl (lv_at hl 2 rfl) ?_
    exact q_iret X hr hlk hK h rfl (fun _ => 0, (vcons (u_2.2.1 0) (vcons (u_2.2.1 1) (vcons (u_2.2.1 2) (vcons (u_2.2.1 3) (vcons (fun _ => 0) (fun _ => (fun _ => 0))))))), fun _ _ => 0) ⟨hv18_7_1, (rg_wide w2_0 (by decide) (by decide)), (⟨by decide +kernel, by decide +kernel⟩ : 0 ≤ (0 : Int32).toInt ∧ (0 : Int32).toInt ≤ 0), trivial⟩ [4, 5, 0, 1, 2, 3] rfl rfl dX12_quorum_60 (Nat.le_of_ble_eq_true rfl) (Nat.le_of_ble_eq_true rfl)
  · replace c_8 := i_nlt (x := r_3) (y := v18_7_0) rfl rfl c_8
    refine lv_iload_n hx hb dX12_quorum_23 rfl (lv_at hl 3 rfl) ?_
    refine lv_iload_n hx hb dX12_quorum_24 rfl (lv_at hl 1 rfl) ?_
    refine lv_iconst (v := (-1)) hx hb dX12_quorum_25 (by decide) ?_
    refine lv_ixor hx hb dX12_quorum_26 ?_
    refine q_any (fun z_9 hz_9 => ?_)
    refine lv_iand hx hb dX12_quorum_27 ?_
    obtain ⟨z_10, ez_10, hz_10⟩ := e_and1 (x := v18_7_0) (y := z_9) rfl (by omega)
    refine q_c z_10 ez_10 ?_
    clear ez_10
    refine q_jn (pc2 := 53) (fun H locs ls st => ∃ v53_11_0 : Int32, (0 ≤ (v53_11_0).toInt ∧ (v53_11_0).toInt ≤ 1023) ∧ st = [] ∧ qW D (va_A (wk_eecab3214 cy h0 p0 h1 w0 w1 w2 p1 p2 p3 p4 p5 p6 p7 p8 p9 p10 p11 h2 h3 w3 h4 w4 p12 p13 h5 w5 w6 p14 p15 w7 w8 w9 w10 w11 p16 w12 w13 w14 h1 f0 h2 f1 h3 f2 h4 f3 h5 f4) sz) s.heap (wk_143caa1ee cy h2 (u_2.2.1 0) h3 (u_2.2.1 1) h4 (u_2.2.1 2) h5 (u_2.2.1 3) h0 0 h1 w0 w1 w2 p1 p2 p3 p4 p5 p6 p7 p8 p9 p10 p11 h2 h3 w3 h4 w4 p12 p13 h5 w5 w6 p14 p15 w7 w8 w9 w10 w11 p16 w12 w13 w14 h1 f0) H locs ∧ lv_has ls 4 [(0, .ref h0), (1, .int r_3), (2, .int v53_11_0), (3, .int v18_7_0)]) (fun H locs ls st hP => ?_) (fun J_53 => ?_)
    · obtain ⟨v53_11_0, hv53_11_0, rfl, h, hl⟩ := hP
      obtain ⟨z_12, ez_12, hz_12⟩ := e_add (x := v18_7_0) (y := Int32.ofInt 1) rfl (b := 1) (by decide) (by omega) (by omega)
      refine lv_iinc (v := z_12) (lv' := [(3, .int z_12), (0, .ref h0), (1, .int r_3), (2, .int v53_11_0)]) hx hb dX12_quorum_53 hl (k := 3) rfl ez_12 (by decide) rfl (fun ls_12 hl_12 => ?_)
      clear hl
      refine lv_goto (tgt := 18) hx hb dX12_quorum_56 (by decide) ?_
      exact ih_18 (z_12, v53_11_0) (by show (1025 - (z_12).toInt).toNat < (1025 - (v18_7_0).toInt).toNat; omega) _ _ _ ⟨⟨by omega, by omega⟩, hv53_11_0, h, (lv_sub hl_12 [1, 2, 3, 0] rfl)⟩
    · skip
      refine lv_if_ne (tgt := 53) hx hb dX12_quorum_28 (by decide) (fun c_13 => ?_) (fun c_13 => ?_)
      · replace c_13 := i_ne (x := z_10) (y := 0) rfl (show (0 : Int32).toInt = 0 by decide) c_13
        exact J_53 _ _ _ _ ⟨v18_7_1, hv18_7_1, rfl, h, (lv_sub hl [0, 1, 2, 3] rfl)⟩
      · replace c_13 := i_eq (x := z_10) (y := 0) rfl (show (0 : Int32).toInt = 0 by decide) c_13
        refine lv_aload_n hx hb dX12_quorum_31 rfl (lv_at hl 0 rfl) ?_
        refine q_get X hK h 4 rfl rfl wf_12 23 (by decide) rfl wm_5_193 dX12_quorum_32 ?_
        refine lv_iload_n hx hb dX12_quorum_35 rfl (lv_at hl 3 rfl) ?_
        refine q_iald X hK h 3 rfl (i_in rfl (by omega) (by omega)) dX12_quorum_36 ?_
        refine q_any (fun z_14 hz_14 => ?_)
        refine lv_if_le (tgt := 53) hx hb dX12_quorum_37 (by decide) (fun c_15 => ?_) (fun c_15 => ?_)
        · replace c_15 := i_le (x := z_14) (y := 0) rfl (show (0 : Int32).toInt = 0 by decide) c_15
          exact J_53 _ _ _ _ ⟨v18_7_1, hv18_7_1, rfl, h, (lv_sub hl [0, 1, 2, 3] rfl)⟩
        · replace c_15 := i_nle (x := z_14) (y := 0) rfl (show (0 : Int32).toInt = 0 by decide) c_15
          refine lv_iload_n hx hb dX12_quorum_40 rfl (lv_at hl 3 rfl) ?_
          refine q_callSi (rest := []) (wr := (wk_143caa1ee cy h2 (u_2.2.1 0) h3 (u_2.2.1 1) h4 (u_2.2.1 2) h5 (u_2.2.1 3) h0 0 h1 w0 w1 w2 p1 p2 p3 p4 p5 p6 p7 p8 p9 p10 p11 h2 h3 w3 h4 w4 p12 p13 h5 w5 w6 p14 p15 w7 w8 w9 w10 w11 p16 w12 w13 w14 h1 f0)) X hK hT hA h (fun sz => gX12_bitsOf_5a43b1c l D cy v18_7_0 (i_rng _) sz) wm_7_8 wm_7_10 wm_1_12 hd_X12_bitsOf wm_7_9 ⟨Nat.le_of_ble_eq_true rfl, Nat.le_of_ble_eq_true rfl⟩ hl.1 rfl (Nat.le_of_ble_eq_true rfl) dX12_quorum_41 ⟨Nat.le_of_ble_eq_true rfl, Nat.le_of_ble_eq_true rfl⟩ [] [0, 1, 2, 3, 4, 5] rfl rfl (by decide) rfl rfl (fun r_16 u_16 H locs w_16 h_16 => ?_)
          clear h
          obtain ⟨wr_16, _⟩ := w_16
          replace h_16 : qW D _ _ (wk_143caa1ee cy h2 (u_2.2.1 0) h3 (u_2.2.1 1) h4 (u_2.2.1 2) h5 (u_2.2.1 3) h0 0 h1 w0 w1 w2 p1 p2 p3 p4 p5 p6 p7 p8 p9 p10 p11 h2 h3 w3 h4 w4 p12 p13 h5 w5 w6 p14 p15 w7 w8 w9 w10 w11 p16 w12 w13 w14 h1 f0) _ _ := h_16
          refine lv_iload_n hx hb dX12_quorum_44 rfl (lv_at hl 2 rfl) ?_
          refine q_callSi (rest := [.int r_16]) (wr := (wk_143caa1ee cy h2 (u_2.2.1 0) h3 (u_2.2.1 1) h4 (u_2.2.1 2) h5 (u_2.2.1 3) h0 0 h1 w0 w1 w2 p1 p2 p3 p4 p5 p6 p7 p8 p9 p10 p11 h2 h3 w3 h4 w4 p12 p13 h5 w5 w6 p14 p15 w7 w8 w9 w10 w11 p16 w12 w13 w14 h1 f0)) X hK hT hA h_16 (fun sz => gX12_bitsOf_5a43b1c l D cy v18_7_1 (i_rng _) sz) wm_7_8 wm_7_10 wm_1_12 hd_X12_bitsOf wm_7_9 ⟨Nat.le_of_ble_eq_true rfl, Nat.le_of_ble_eq_true rfl⟩ hl.1 rfl (Nat.le_of_ble_eq_true rfl) dX12_quorum_45 ⟨Nat.le_of_ble_eq_true rfl, Nat.le_of_ble_eq_true rfl⟩ [] [0, 1, 2, 3, 4, 5] rfl rfl (by decide) rfl rfl (fun r_17 u_17 H locs w_17 h_17 => ?_)
          clear h_16
          obtain ⟨wr_17, _⟩ := w_17
          replace h_17 : qW D _ _ (wk_143caa1ee cy h2 (u_2.2.1 0) h3 (u_2.2.1 1) h4 (u_2.2.1 2) h5 (u_2.2.1 3) h0 0 h1 w0 w1 w2 p1 p2 p3 p4 p5 p6 p7 p8 p9 p10 p11 h2 h3 w3 h4 w4 p12 p13 h5 w5 w6 p14 p15 w7 w8 w9 w10 w11 p16 w12 w13 w14 h1 f0) _ _ := h_17
          refine lv_icmp_le (tgt := 53) hx hb dX12_quorum_48 (by decide) (fun c_18 => ?_) (fun c_18 => ?_)
          · replace c_18 := i_le (x := r_16) (y := r_17) rfl rfl c_18
            exact J_53 _ _ _ _ ⟨v18_7_1, hv18_7_1, rfl, h_17, (lv_sub hl [0, 1, 2, 3] rfl)⟩
          · replace c_18 := i_nle (x := r_16) (y := r_17) rfl rfl c_18
            refine lv_iload_n hx hb dX12_quorum_51 rfl (lv_at hl 3 rfl) ?_
            refine lv_istore_n (lv' := [(2, .int v18_7_0), (0, .ref h0), (1, .int r_3), (3, .int v18_7_0)]) hx hb dX12_quorum_52 rfl hl (by decide) rfl (fun ls_19 hl_19 => ?_)
            clear hl
            exact J_53 _ _ _ _ ⟨v18_7_0, ⟨by omega, by omega⟩, rfl, h_17, (lv_sub hl_19 [1, 2, 0, 3] rfl)⟩
set_option maxHeartbeats 4000000 in
set_option maxRecDepth 100000 in
theorem gX12_isCovered_05a556d (l : Launch) (D : va_G) (cy : Nat → ClassId) (h0 : Nat) (h1 : Nat) (h2 : Nat) (p0 : Int32) (p1 : Int32) (p2 : Int32) (w0 : Value) (w1 : Value) (w2 : Value) (p3 : Int32) (p4 : Int32) (p5 : Int32) (p6 : Int32) (p7 : Int32) (p8 : Int32) (p9 : Int32) (p10 : Int32) (p11 : Int32) (p12 : Int32) (p13 : Int32) (w3 : Value) (w4 : Value) (w5 : Value) (w6 : Value) (p14 : Int32) (p15 : Int32) (w7 : Value) (w8 : Value) (w9 : Value) (p16 : Int32) (p17 : Int32) (w10 : Value) (w11 : Value) (w12 : Value) (w13 : Value) (w14 : Value) (p18 : Int32) (w15 : Value) (w16 : Value) (w17 : Value) (f0 : Nat → Int32) (p19 : Int32) (f1 : Nat → Int32) (hp0 : 0 ≤ (p0).toInt ∧ (p0).toInt ≤ 1023) (hp1 : 0 ≤ (p1).toInt ∧ (p1).toInt ≤ 1023) (hp2 : 0 ≤ (p2).toInt ∧ (p2).toInt ≤ 0) (hp3 : 0 ≤ (p3).toInt ∧ (p3).toInt ≤ 900) (hp4 : 0 ≤ (p4).toInt ∧ (p4).toInt ≤ 900) (hp5 : 0 ≤ (p5).toInt ∧ (p5).toInt ≤ 900) (hp6 : 0 ≤ (p6).toInt ∧ (p6).toInt ≤ 900) (hp7 : (-2147483648) ≤ (p7).toInt ∧ (p7).toInt ≤ 2147483647) (hp8 : 0 ≤ (p8).toInt ∧ (p8).toInt ≤ 999) (hp9 : (-2147483648) ≤ (p9).toInt ∧ (p9).toInt ≤ 2147483647) (hp10 : (-2147483648) ≤ (p10).toInt ∧ (p10).toInt ≤ 2147483647) (hp11 : (-2147483648) ≤ (p11).toInt ∧ (p11).toInt ≤ 2147483647) (hp12 : (-2147483648) ≤ (p12).toInt ∧ (p12).toInt ≤ 2147483647) (hp13 : (-2147483648) ≤ (p13).toInt ∧ (p13).toInt ≤ 2147483647) (hp14 : (-2147483648) ≤ (p14).toInt ∧ (p14).toInt ≤ 2147483647) (hp15 : (-2147483648) ≤ (p15).toInt ∧ (p15).toInt ≤ 2147483647) (hp16 : (-2147483648) ≤ (p16).toInt ∧ (p16).toInt ≤ 2147483647) (hp17 : (-2147483648) ≤ (p17).toInt ∧ (p17).toInt ≤ 2147483647) (hp18 : (-2147483648) ≤ (p18).toInt ∧ (p18).toInt ≤ 2147483647) (hp19 : 0 ≤ (p19).toInt ∧ (p19).toInt ≤ 10) (htf0_84 : f0 84 = p19) (rf0 : AL f0) (rf1 : RG f1 10 0 1023) (sz : Nat) : MI l yX12_isCovered cX12_isCovered 4 .boolean { frames := 1, cells := 0, slots := 0, locals := 22 } [.ref h0, .int p0, .int p1] D cy (wk_e3ea295b8 cy h0 p2 h1 w0 w1 w2 p3 p4 p5 p6 p7 p8 p9 p10 p11 p12 p13 w3 w4 w5 h2 w6 p14 p15 w7 w8 w9 p16 p17 w10 w11 w12 w13 w14 p18 w15 w16 w17 h1 f0 h2 f1) sz (fun r u => (0 ≤ r.toInt ∧ r.toInt ≤ 1) ∧ True) (fun u => (wk_e3ea295b8 cy h0 p2 h1 w0 w1 w2 p3 p4 p5 p6 p7 p8 p9 p10 p11 p12 p13 w3 w4 w5 h2 w6 p14 p15 w7 w8 w9 p16 p17 w10 w11 w12 w13 w14 p18 w15 w16 w17 h1 f0 h2 f1)) 0 0 := by
  refine q_ent (own := RX12) (by decide) rfl (Nat.le_of_ble_eq_true rfl) (fun p e s m below meth c ls X hr hlk hnm hK hT h hA hl => ?_)
  obtain ⟨hx, hb, hml, hown, ht⟩ := id X
  replace hl : lv_has ls 4 [(0, .ref h0), (1, .int p0), (2, .int p1)] := hl
  refine lv_iconst (v := 0) hx hb dX12_isCovered_0 (by decide) ?_
  refine lv_istore_n (lv' := [(3, .int 0), (0, .ref h0), (1, .int p0), (2, .int p1)]) hx hb dX12_isCovered_1 rfl hl (by decide) rfl (fun ls_1 hl_1 => ?_)
  clear hl
  refine q_wl (fun (v2_2_0 : Int32) H locs ls => (0 ≤ (v2_2_0).toInt ∧ (v2_2_0).toInt ≤ 10) ∧ qW D (va_A (wk_e3ea295b8 cy h0 p2 h1 w0 w1 w2 p3 p4 p5 p6 p7 p8 p9 p10 p11 p12 p13 w3 w4 w5 h2 w6 p14 p15 w7 w8 w9 p16 p17 w10 w11 w12 w13 w14 p18 w15 w16 w17 h1 f0 h2 f1) sz) s.heap (wk_e3ea295b8 cy h0 p2 h1 w0 w1 w2 p3 p4 p5 p6 p7 p8 p9 p10 p11 p12 p13 w3 w4 w5 h2 w6 p14 p15 w7 w8 w9 p16 p17 w10 w11 w12 w13 w14 p18 w15 w16 w17 h1 f0 h2 f1) H locs ∧ lv_has ls 4 [(0, .ref h0), (1, .int p0), (2, .int p1), (3, .int v2_2_0)]) (fun (v2_2_0 : Int32) => (11 - (v2_2_0).toInt).toNat) (fun q_2 ih_2 H locs ls hP => ?_) 0 ⟨⟨by decide +kernel, by decide +kernel⟩, h, (lv_sub hl_1 [1, 2, 3, 0] rfl)⟩
  obtain ⟨v2_2_0, rfl⟩ : ∃ z, z = q_2 := ⟨_, rfl⟩
  obtain ⟨hv2_2_0, h, hl⟩ := hP
  refine lv_iload_n hx hb dX12_isCovered_2 rfl (lv_at hl 3 rfl) ?_
  refine lv_aload_n hx hb dX12_isCovered_3 rfl (lv_at hl 0 rfl) ?_
  refine q_get X hK h 0 rfl rfl wf_12 1 (by decide) rfl wm_5_171 dX12_isCovered_4 ?_
  refine lv_iconst (v := 2) hx hb dX12_isCovered_7 (by decide) ?_
  refine q_iald X hK h 1 rfl (q_in (by decide +kernel)) dX12_isCovered_8 ?_
  obtain ⟨z_3, ez_3, hz_3⟩ := al_P rf0 (x := 2) (show (2 : Int32).toInt = 2 by decide) (by omega) (by omega)
  refine q_c z_3 ez_3 ?_
  clear ez_3
  refine lv_icmp_ge (tgt := 40) hx hb dX12_isCovered_9 (by decide) (fun c_4 => ?_) (fun c_4 => ?_)
  · replace c_4 := i_le (x := z_3) (y := v2_2_0) rfl rfl c_4
    refine lv_iconst (v := 1) hx hb dX12_isCovered_40 (by decide) ?_
    exact q_iret X hr hlk hK h rfl (fun _ => 0, fun _ _ => 0, fun _ _ => 0) ⟨⟨by decide +kernel, by decide +kernel⟩, trivial⟩ [0, 1, 2] rfl rfl dX12_isCovered_41 (Nat.le_of_ble_eq_true rfl) (Nat.le_of_ble_eq_true rfl)
  · replace c_4 := i_nle (x := z_3) (y := v2_2_0) rfl rfl c_4
    refine lv_iload_n hx hb dX12_isCovered_12 rfl (lv_at hl 1 rfl) ?_
    refine lv_i2l hx hb dX12_isCovered_13 rfl ?_
    obtain ⟨z_5, ez_5, hz_5⟩ := e_i2l (x := p0) rfl
    refine q_cl z_5 ez_5 ?_
    clear ez_5
    refine lv_iload_n hx hb dX12_isCovered_14 rfl (lv_at hl 3 rfl) ?_
    refine q_callSi (rest := []) (wr := (wk_e3ea295b8 cy h0 p2 h1 w0 w1 w2 p3 p4 p5 p6 p7 p8 p9 p10 p11 p12 p13 w3 w4 w5 h2 w6 p14 p15 w7 w8 w9 p16 p17 w10 w11 w12 w13 w14 p18 w15 w16 w17 h1 f0 h2 f1)) X hK hT hA h (fun sz => gX12_isIn_b0455a8 l D cy z_5 v2_2_0 ⟨by omega, by omega⟩ ⟨by omega, by omega⟩ sz) wm_6_167 wm_6_169 wm_1_12 hd_X12_isIn wm_6_168 ⟨Nat.le_of_ble_eq_true rfl, Nat.le_of_ble_eq_true rfl⟩ hl.1 rfl (Nat.le_of_ble_eq_true rfl) dX12_isCovered_15 ⟨Nat.le_of_ble_eq_true rfl, Nat.le_of_ble_eq_true rfl⟩ [] [0, 1, 2] rfl rfl (by decide) rfl rfl (fun r_6 u_6 H locs w_6 h_6 => ?_)
    clear h
    obtain ⟨wr_6, _⟩ := w_6
    replace h_6 : qW D _ _ (wk_e3ea295b8 cy h0 p2 h1 w0 w1 w2 p3 p4 p5 p6 p7 p8 p9 p10 p11 p12 p13 w3 w4 w5 h2 w6 p14 p15 w7 w8 w9 p16 p17 w10 w11 w12 w13 w14 p18 w15 w16 w17 h1 f0 h2 f1) _ _ := h_6
    refine q_jn (pc2 := 34) (fun H locs ls st => st = [] ∧ qW D (va_A (wk_e3ea295b8 cy h0 p2 h1 w0 w1 w2 p3 p4 p5 p6 p7 p8 p9 p10 p11 p12 p13 w3 w4 w5 h2 w6 p14 p15 w7 w8 w9 p16 p17 w10 w11 w12 w13 w14 p18 w15 w16 w17 h1 f0 h2 f1) sz) s.heap (wk_e3ea295b8 cy h0 p2 h1 w0 w1 w2 p3 p4 p5 p6 p7 p8 p9 p10 p11 p12 p13 w3 w4 w5 h2 w6 p14 p15 w7 w8 w9 p16 p17 w10 w11 w12 w13 w14 p18 w15 w16 w17 h1 f0 h2 f1) H locs ∧ lv_has ls 4 [(0, .ref h0), (1, .int p0), (2, .int p1), (3, .int v2_2_0)]) (fun H locs ls st hP => ?_) (fun J_34 => ?_)
    · obtain ⟨rfl, h, hl⟩ := hP
      obtain ⟨z_8, ez_8, hz_8⟩ := e_add (x := v2_2_0) (y := Int32.ofInt 1) rfl (b := 1) (by decide) (by omega) (by omega)
      refine lv_iinc (v := z_8) (lv' := [(3, .int z_8), (0, .ref h0), (1, .int p0), (2, .int p1)]) hx hb dX12_isCovered_34 hl (k := 3) rfl ez_8 (by decide) rfl (fun ls_8 hl_8 => ?_)
      clear hl
      refine lv_goto (tgt := 2) hx hb dX12_isCovered_37 (by decide) ?_
      exact ih_2 z_8 (by show (11 - (z_8).toInt).toNat < (11 - (v2_2_0).toInt).toNat; omega) _ _ _ ⟨⟨by omega, by omega⟩, h, (lv_sub hl_8 [1, 2, 3, 0] rfl)⟩
    · skip
      refine lv_if_eq (tgt := 34) hx hb dX12_isCovered_18 (by decide) (fun c_9 => ?_) (fun c_9 => ?_)
      · replace c_9 := i_eq (x := r_6) (y := 0) rfl (show (0 : Int32).toInt = 0 by decide) c_9
        exact J_34 _ _ _ _ ⟨rfl, h_6, (lv_sub hl [0, 1, 2, 3] rfl)⟩
      · replace c_9 := i_ne (x := r_6) (y := 0) rfl (show (0 : Int32).toInt = 0 by decide) c_9
        refine lv_aload_n hx hb dX12_isCovered_21 rfl (lv_at hl 0 rfl) ?_
        refine q_get X hK h_6 0 rfl rfl wf_12 19 (by decide) rfl wm_5_189 dX12_isCovered_22 ?_
        refine lv_iload_n hx hb dX12_isCovered_25 rfl (lv_at hl 3 rfl) ?_
        refine q_iald X hK h_6 2 rfl (i_in rfl (by omega) (by omega)) dX12_isCovered_26 ?_
        obtain ⟨z_10, ez_10, hz_10⟩ := rg_get rf1 (x := v2_2_0) rfl (by omega) (by omega)
        refine q_c z_10 ez_10 ?_
        clear ez_10
        refine lv_iload_n hx hb dX12_isCovered_27 rfl (lv_at hl 2 rfl) ?_
        refine lv_iand hx hb dX12_isCovered_28 ?_
        obtain ⟨z_11, ez_11, hz_11⟩ := e_and2 (x := z_10) (y := p1) rfl (by omega)
        refine q_c z_11 ez_11 ?_
        clear ez_11
        refine lv_if_ne (tgt := 34) hx hb dX12_isCovered_29 (by decide) (fun c_12 => ?_) (fun c_12 => ?_)
        · replace c_12 := i_ne (x := z_11) (y := 0) rfl (show (0 : Int32).toInt = 0 by decide) c_12
          exact J_34 _ _ _ _ ⟨rfl, h_6, (lv_sub hl [0, 1, 2, 3] rfl)⟩
        · replace c_12 := i_eq (x := z_11) (y := 0) rfl (show (0 : Int32).toInt = 0 by decide) c_12
          refine lv_iconst (v := 0) hx hb dX12_isCovered_32 (by decide) ?_
          exact q_iret X hr hlk hK h_6 rfl (fun _ => 0, fun _ _ => 0, fun _ _ => 0) ⟨⟨by decide +kernel, by decide +kernel⟩, trivial⟩ [0, 1, 2] rfl rfl dX12_isCovered_33 (Nat.le_of_ble_eq_true rfl) (Nat.le_of_ble_eq_true rfl)
set_option maxHeartbeats 4000000 in
set_option maxRecDepth 100000 in
theorem gX12_cover_d5ae595 (l : Launch) (D : va_G) (cy : Nat → ClassId) (h0 : Nat) (h1 : Nat) (h2 : Nat) (h3 : Nat) (h4 : Nat) (p0 : Int32) (p1 : Int32) (p2 : Int32) (w0 : Value) (w1 : Value) (w2 : Value) (p3 : Int32) (p4 : Int32) (p5 : Int32) (p6 : Int32) (p7 : Int32) (p8 : Int32) (p9 : Int32) (p10 : Int32) (p11 : Int32) (p12 : Int32) (p13 : Int32) (w3 : Value) (w4 : Value) (p14 : Int32) (p15 : Int32) (w5 : Value) (w6 : Value) (w7 : Value) (p16 : Int32) (p17 : Int32) (w8 : Value) (w9 : Value) (w10 : Value) (w11 : Value) (w12 : Value) (p18 : Int32) (w13 : Value) (w14 : Value) (w15 : Value) (f0 : Nat → Int32) (p19 : Int32) (f1 : Nat → Int32) (f2 : Nat → Int32) (f3 : Nat → Int32) (hp0 : (-2147483648) ≤ (p0).toInt ∧ (p0).toInt ≤ 2147483647) (hp1 : (-2147483648) ≤ (p1).toInt ∧ (p1).toInt ≤ 2147483647) (hp2 : (-2147483648) ≤ (p2).toInt ∧ (p2).toInt ≤ 2147483647) (hp3 : 0 ≤ (p3).toInt ∧ (p3).toInt ≤ 900) (hp4 : 0 ≤ (p4).toInt ∧ (p4).toInt ≤ 900) (hp5 : 0 ≤ (p5).toInt ∧ (p5).toInt ≤ 900) (hp6 : 0 ≤ (p6).toInt ∧ (p6).toInt ≤ 900) (hp7 : (-2147483648) ≤ (p7).toInt ∧ (p7).toInt ≤ 2147483647) (hp8 : 0 ≤ (p8).toInt ∧ (p8).toInt ≤ 999) (hp9 : (-2147483648) ≤ (p9).toInt ∧ (p9).toInt ≤ 2147483647) (hp10 : (-2147483648) ≤ (p10).toInt ∧ (p10).toInt ≤ 2147483647) (hp11 : (-2147483648) ≤ (p11).toInt ∧ (p11).toInt ≤ 2147483647) (hp12 : (-2147483648) ≤ (p12).toInt ∧ (p12).toInt ≤ 2147483647) (hp13 : (-2147483648) ≤ (p13).toInt ∧ (p13).toInt ≤ 2147483647) (hp14 : (-2147483648) ≤ (p14).toInt ∧ (p14).toInt ≤ 2147483647) (hp15 : (-2147483648) ≤ (p15).toInt ∧ (p15).toInt ≤ 2147483647) (hp16 : (-2147483648) ≤ (p16).toInt ∧ (p16).toInt ≤ 2147483647) (hp17 : (-2147483648) ≤ (p17).toInt ∧ (p17).toInt ≤ 2147483647) (hp18 : (-2147483648) ≤ (p18).toInt ∧ (p18).toInt ≤ 2147483647) (hp19 : 0 ≤ (p19).toInt ∧ (p19).toInt ≤ 10) (htf0_84 : f0 84 = p19) (rf0 : AL f0) (rf3 : RG f3 10 0 1023) (sz : Nat) : MI l yX12_cover cX12_cover 6 .int { frames := 4, cells := 0, slots := 0, locals := 94 } [.ref h0, .int p0, .int p1] D cy (wk_8b19a8a79 cy h0 p2 h1 w0 w1 w2 p3 p4 p5 p6 p7 p8 p9 p10 p11 p12 p13 h2 h3 w3 h4 w4 p14 p15 w5 w6 w7 p16 p17 w8 w9 w10 w11 w12 p18 w13 w14 w15 h1 f0 h2 f1 h3 f2 h4 f3) sz (fun r u => ((-3) ≤ r.toInt ∧ r.toInt ≤ 1023) ∧ RG (u.2.1 2) 10 0 1023 ∧ (0 ≤ (u.2.1 3 0).toInt ∧ (u.2.1 3 0).toInt ≤ 0) ∧ True) (fun u => (wk_8b19a8a79 cy h0 (u.2.1 3 0) h1 w0 w1 w2 p3 p4 p5 p6 p7 p8 p9 p10 p11 p12 p13 h2 h3 w3 h4 w4 p14 p15 w5 w6 w7 p16 p17 w8 w9 w10 w11 w12 p18 w13 w14 w15 h1 f0 h2 (u.2.1 0) h3 (u.2.1 1) h4 (u.2.1 2))) 0 0 := by
  refine q_ent (own := RX12) (by decide) rfl (Nat.le_of_ble_eq_true rfl) (fun p e s m below meth c ls X hr hlk hnm hK hT h hA hl => ?_)
  obtain ⟨hx, hb, hml, hown, ht⟩ := id X
  replace hl : lv_has ls 6 [(0, .ref h0), (1, .int p0), (2, .int p1)] := hl
  refine lv_aload_n hx hb dX12_cover_0 rfl (lv_at hl 0 rfl) ?_
  refine lv_iconst (v := 0) hx hb dX12_cover_1 (by decide) ?_
  refine q_put (v := .int 0) X hK h 0 rfl rfl wf_12 tyX12 tyX12_ok nmX12 0 (by decide) wm_5_170 rfl rfl rfl (Nat.le_of_ble_eq_true rfl) dX12_cover_2 (fun H locs h_1 => ?_)
  clear h
  replace h_1 : qW D _ _ (wk_8b19a8a79 cy h0 0 h1 w0 w1 w2 p3 p4 p5 p6 p7 p8 p9 p10 p11 p12 p13 h2 h3 w3 h4 w4 p14 p15 w5 w6 w7 p16 p17 w8 w9 w10 w11 w12 p18 w13 w14 w15 h1 f0 h2 f1 h3 f2 h4 f3) _ _ := h_1
  refine lv_iload_n hx hb dX12_cover_5 rfl (lv_at hl 2 rfl) ?_
  refine lv_i2l hx hb dX12_cover_6 rfl ?_
  obtain ⟨z_2, ez_2, hz_2⟩ := e_i2l (x := p1) rfl
  refine q_cl z_2 ez_2 ?_
  clear ez_2
  refine lv_lconst (v := 0) hx hb dX12_cover_7 (by decide) ?_
  refine lv_lconst (v := 1) hx hb dX12_cover_8 (by decide) ?_
  refine q_callSi (rest := []) (wr := (wk_8b19a8a79 cy h0 0 h1 w0 w1 w2 p3 p4 p5 p6 p7 p8 p9 p10 p11 p12 p13 h2 h3 w3 h4 w4 p14 p15 w5 w6 w7 p16 p17 w8 w9 w10 w11 w12 p18 w13 w14 w15 h1 f0 h2 f1 h3 f2 h4 f3)) X hK hT hA h_1 (fun sz => gX12_within_00c7897 l D cy z_2 (0 : Int64) (1 : Int64) (j_rng _) ⟨by decide +kernel, by decide +kernel⟩ ⟨by decide +kernel, by decide +kernel⟩ sz) wm_6_50 wm_6_52 wm_1_12 hd_X12_within wm_6_51 ⟨Nat.le_of_ble_eq_true rfl, Nat.le_of_ble_eq_true rfl⟩ hl.1 rfl (Nat.le_of_ble_eq_true rfl) dX12_cover_9 ⟨Nat.le_of_ble_eq_true rfl, Nat.le_of_ble_eq_true rfl⟩ [] [0, 1, 2, 3, 4] rfl rfl (by decide) rfl rfl (fun r_3 u_3 H locs w_3 h_3 => ?_)
  clear h_1
  obtain ⟨wr_3, y3_0, _⟩ := w_3
  have lq_3_1 : (0 : Int64).toInt = 0 := (by decide)
  have lq_3_2 : (1 : Int64).toInt = 1 := (by decide)
  replace h_3 : qW D _ _ (wk_8b19a8a79 cy h0 0 h1 w0 w1 w2 p3 p4 p5 p6 p7 p8 p9 p10 p11 p12 p13 h2 h3 w3 h4 w4 p14 p15 w5 w6 w7 p16 p17 w8 w9 w10 w11 w12 p18 w13 w14 w15 h1 f0 h2 f1 h3 f2 h4 f3) _ _ := h_3
  refine lv_if_ne (tgt := 18) hx hb dX12_cover_12 (by decide) (fun c_4 => ?_) (fun c_4 => ?_)
  · replace c_4 := i_ne (x := r_3) (y := 0) rfl (show (0 : Int32).toInt = 0 by decide) c_4
    replace y3_0 := a10_1 y3_0 c_4
    refine lv_aload_n hx hb dX12_cover_18 rfl (lv_at hl 0 rfl) ?_
    refine lv_iload_n hx hb dX12_cover_19 rfl (lv_at hl 1 rfl) ?_
    refine q_callVi (rest := []) (wr := (wk_ce6a1f133 cy h2 f1 h3 f2 h4 f3)) X hK hT hA h_3 (fun sz => gX12_isSet_9166d70 l D cy h0 h1 p0 (0 : Int32) w0 w1 w2 p3 p4 p5 p6 p7 p8 p9 p10 p11 p12 p13 (.ref h2) (.ref h3) w3 (.ref h4) w4 p14 p15 w5 w6 w7 p16 p17 w8 w9 w10 w11 w12 p18 w13 w14 w15 f0 p19 (i_rng _) ⟨by decide +kernel, by decide +kernel⟩ hp3 hp4 hp5 hp6 (i_rng _) hp8 (i_rng _) (i_rng _) (i_rng _) (i_rng _) (i_rng _) (i_rng _) (i_rng _) (i_rng _) (i_rng _) (i_rng _) hp19 htf0_84 rf0 sz) wm_7_96 wm_7_99 wm_1_12 hd_X12_isSet wm_7_98 wp_7_1 (ci := 12) (q0 := 0) rfl rfl ⟨Nat.le_of_ble_eq_true rfl, Nat.le_of_ble_eq_true rfl⟩ hl.1 rfl (Nat.le_of_ble_eq_true rfl) dX12_cover_20 ⟨Nat.le_of_ble_eq_true rfl, Nat.le_of_ble_eq_true rfl⟩ [0, 1] [2, 3, 4] rfl rfl (by decide) rfl rfl (fun r_5 u_5 H locs w_5 h_5 => ?_)
    clear h_3
    obtain ⟨wr_5, y5_0, _⟩ := w_5
    replace h_5 : qW D _ _ (wk_6bef7693d cy h2 f1 h3 f2 h4 f3 h0 0 h1 w0 w1 w2 p3 p4 p5 p6 p7 p8 p9 p10 p11 p12 p13 h2 h3 w3 h4 w4 p14 p15 w5 w6 w7 p16 p17 w8 w9 w10 w11 w12 p18 w13 w14 w15 h1 f0) _ _ := h_5
    refine lv_if_ne (tgt := 29) hx hb dX12_cover_23 (by decide) (fun c_6 => ?_) (fun c_6 => ?_)
    · replace c_6 := i_ne (x := r_5) (y := 0) rfl (show (0 : Int32).toInt = 0 by decide) c_6
      refine lv_aload_n hx hb dX12_cover_29 rfl (lv_at hl 0 rfl) ?_
      refine lv_aload_n hx hb dX12_cover_30 rfl (lv_at hl 0 rfl) ?_
      refine q_get X hK h_5 3 rfl rfl wf_12 1 (by decide) rfl wm_5_171 dX12_cover_31 ?_
      refine lv_bipush (v := 52) hx hb dX12_cover_34 (by decide) ?_
      refine q_iald X hK h_5 4 rfl (q_in (by decide +kernel)) dX12_cover_36 ?_
      refine q_any (fun z_7 hz_7 => ?_)
      refine q_callVv (rest := []) (wr := []) X hK hT hA h_5 (fun sz => gX12_laysOpposed_6a814f8 l D cy h0 h1 h2 h3 h4 z_7 (0 : Int32) w0 w1 w2 p3 p4 p5 p6 p7 p8 p9 p10 p11 p12 p13 w3 w4 p14 p15 w5 w6 w7 p16 p17 w8 w9 w10 w11 w12 p18 w13 w14 w15 f0 p19 f1 f2 f3 (i_rng _) ⟨by decide +kernel, by decide +kernel⟩ hp3 hp4 hp5 hp6 (i_rng _) hp8 (i_rng _) (i_rng _) (i_rng _) (i_rng _) (i_rng _) (i_rng _) (i_rng _) (i_rng _) (i_rng _) (i_rng _) hp19 htf0_84 rf0 (rg_wide rf3 (by decide) (by decide)) sz) wm_7_59 wm_7_62 wm_1_12 hd_X12_laysOpposed wm_7_61 wp_6_12 (ci := 12) (q0 := 0) rfl rfl ⟨Nat.le_of_ble_eq_true rfl, Nat.le_of_ble_eq_true rfl⟩ hl.1 rfl (Nat.le_of_ble_eq_true rfl) dX12_cover_37 ⟨Nat.le_of_ble_eq_true rfl, Nat.le_of_ble_eq_true rfl⟩ [3, 4, 0, 1, 2] [] rfl rfl (by decide) rfl rfl (fun u_8 H locs w_8 h_8 => ?_)
      clear h_5
      obtain ⟨w8_0, _⟩ := w_8
      replace h_8 : qW D _ _ (wk_8b19a8a79 cy h0 0 h1 w0 w1 w2 p3 p4 p5 p6 p7 p8 p9 p10 p11 p12 p13 h2 h3 w3 h4 w4 p14 p15 w5 w6 w7 p16 p17 w8 w9 w10 w11 w12 p18 w13 w14 w15 h1 f0 h2 (u_8.2.1 0) h3 (u_8.2.1 1) h4 (u_8.2.1 2)) _ _ := h_8
      refine lv_aload_n hx hb dX12_cover_40 rfl (lv_at hl 0 rfl) ?_
      refine q_callVi (rest := []) (wr := (wk_ce6a1f133 cy h2 (u_8.2.1 0) h3 (u_8.2.1 1) h4 (u_8.2.1 2))) X hK hT hA h_8 (fun sz => gX12_townNow_2907b4b l D cy h0 h1 (0 : Int32) w0 w1 w2 p3 p4 p5 p6 p7 p8 p9 p10 p11 p12 p13 (.ref h2) (.ref h3) w3 (.ref h4) w4 p14 p15 w5 w6 w7 p16 p17 w8 w9 w10 w11 w12 p18 w13 w14 w15 f0 p19 ⟨by decide +kernel, by decide +kernel⟩ hp3 hp4 hp5 hp6 (i_rng _) hp8 (i_rng _) (i_rng _) (i_rng _) (i_rng _) (i_rng _) (i_rng _) (i_rng _) (i_rng _) (i_rng _) (i_rng _) hp19 htf0_84 rf0 sz) wm_6_170 wm_6_173 wm_1_12 hd_X12_townNow wm_6_172 wp_5_9 (ci := 12) (q0 := 0) rfl rfl ⟨Nat.le_of_ble_eq_true rfl, Nat.le_of_ble_eq_true rfl⟩ hl.1 rfl (Nat.le_of_ble_eq_true rfl) dX12_cover_41 ⟨Nat.le_of_ble_eq_true rfl, Nat.le_of_ble_eq_true rfl⟩ [0, 1] [2, 3, 4] rfl rfl (by decide) rfl rfl (fun r_9 u_9 H locs w_9 h_9 => ?_)
      clear h_8
      obtain ⟨wr_9, _⟩ := w_9
      replace h_9 : qW D _ _ (wk_6bef7693d cy h2 (u_8.2.1 0) h3 (u_8.2.1 1) h4 (u_8.2.1 2) h0 0 h1 w0 w1 w2 p3 p4 p5 p6 p7 p8 p9 p10 p11 p12 p13 h2 h3 w3 h4 w4 p14 p15 w5 w6 w7 p16 p17 w8 w9 w10 w11 w12 p18 w13 w14 w15 h1 f0) _ _ := h_9
      refine lv_iload_n hx hb dX12_cover_44 rfl (lv_at hl 1 rfl) ?_
      refine lv_iconst (v := (-1)) hx hb dX12_cover_45 (by decide) ?_
      refine lv_ixor hx hb dX12_cover_46 ?_
      refine q_any (fun z_10 hz_10 => ?_)
      refine lv_iand hx hb dX12_cover_47 ?_
      obtain ⟨z_11, ez_11, hz_11⟩ := e_and1 (x := r_9) (y := z_10) rfl (by omega)
      refine q_c z_11 ez_11 ?_
      clear ez_11
      refine lv_istore_n (lv' := [(3, .int z_11), (0, .ref h0), (1, .int p0), (2, .int p1)]) hx hb dX12_cover_48 rfl hl (by decide) rfl (fun ls_12 hl_12 => ?_)
      clear hl
      refine lv_iconst (v := (-1)) hx hb dX12_cover_49 (by decide) ?_
      refine lv_istore (lv' := [(4, .int (-1)), (3, .int z_11), (0, .ref h0), (1, .int p0), (2, .int p1)]) hx hb dX12_cover_50 hl_12 (by decide) rfl (fun ls_13 hl_13 => ?_)
      clear hl_12
      refine lv_iconst (v := 0) hx hb dX12_cover_52 (by decide) ?_
      refine lv_istore (lv' := [(5, .int 0), (4, .int (-1)), (3, .int z_11), (0, .ref h0), (1, .int p0), (2, .int p1)]) hx hb dX12_cover_53 hl_13 (by decide) rfl (fun ls_14 hl_14 => ?_)
      clear hl_13
      refine q_wl (fun (q : Int32 × Int32) H locs ls => match q with | (v55_15_0, v55_15_1) => (0 ≤ (v55_15_0).toInt ∧ (v55_15_0).toInt ≤ 1024) ∧ ((-1) ≤ (v55_15_1).toInt ∧ (v55_15_1).toInt ≤ 1023) ∧ qW D (va_A (wk_8b19a8a79 cy h0 p2 h1 w0 w1 w2 p3 p4 p5 p6 p7 p8 p9 p10 p11 p12 p13 h2 h3 w3 h4 w4 p14 p15 w5 w6 w7 p16 p17 w8 w9 w10 w11 w12 p18 w13 w14 w15 h1 f0 h2 f1 h3 f2 h4 f3) sz) s.heap (wk_6bef7693d cy h2 (u_8.2.1 0) h3 (u_8.2.1 1) h4 (u_8.2.1 2) h0 0 h1 w0 w1 w2 p3 p4 p5 p6 p7 p8 p9 p10 p11 p12 p13 h2 h3 w3 h4 w4 p14 p15 w5 w6 w7 p16 p17 w8 w9 w10 w11 w12 p18 w13 w14 w15 h1 f0) H locs ∧ lv_has ls 6 [(0, .ref h0), (1, .int p0), (2, .int p1), (3, .int z_11), (4, .int v55_15_1), (5, .int v55_15_0)]) (fun (q : Int32 × Int32) => match q with | (v55_15_0, v55_15_1) => (1025 - (v55_15_0).toInt).toNat) (fun q_55 ih_55 H locs ls hP => ?_) (0, (-1)) ⟨⟨by decide +kernel, by decide +kernel⟩, ⟨by decide +kernel, by decide +kernel⟩, h_9, (lv_sub hl_14 [3, 4, 5, 2, 1, 0] rfl)⟩
      obtain ⟨v55_15_0, v55_15_1⟩ := q_55
      obtain ⟨hv55_15_0, hv55_15_1, h, hl⟩ := hP
      refine lv_iload hx hb dX12_cover_55 (lv_at hl 5 rfl) ?_
      refine lv_iload_n hx hb dX12_cover_57 rfl (lv_at hl 3 rfl) ?_
      refine lv_icmp_gt (tgt := 109) hx hb dX12_cover_58 (by decide) (fun c_16 => ?_) (fun c_16 => ?_)
      · replace c_16 := i_lt (x := z_11) (y := v55_15_0) rfl rfl c_16
        refine lv_iload hx hb dX12_cover_109 (lv_at hl 4 rfl) ?_
        refine lv_iconst (v := (-1)) hx hb dX12_cover_111 (by decide) ?_
        refine q_jn (pc2 := 130) (fun H locs ls st => ∃ v130_17_0 : Int32, ((-1) ≤ (v130_17_0).toInt ∧ (v130_17_0).toInt ≤ 1023) ∧ st = [.int v130_17_0] ∧ qW D (va_A (wk_8b19a8a79 cy h0 p2 h1 w0 w1 w2 p3 p4 p5 p6 p7 p8 p9 p10 p11 p12 p13 h2 h3 w3 h4 w4 p14 p15 w5 w6 w7 p16 p17 w8 w9 w10 w11 w12 p18 w13 w14 w15 h1 f0 h2 f1 h3 f2 h4 f3) sz) s.heap (wk_6bef7693d cy h2 (u_8.2.1 0) h3 (u_8.2.1 1) h4 (u_8.2.1 2) h0 0 h1 w0 w1 w2 p3 p4 p5 p6 p7 p8 p9 p10 p11 p12 p13 h2 h3 w3 h4 w4 p14 p15 w5 w6 w7 p16 p17 w8 w9 w10 w11 w12 p18 w13 w14 w15 h1 f0) H locs ∧ lv_has ls 6 [(0, .ref h0), (1, .int p0), (2, .int p1), (3, .int z_11), (4, .int v55_15_1), (5, .int v55_15_0)]) (fun H locs ls st hP => ?_) (fun J_130 => ?_)
        · obtain ⟨v130_17_0, hv130_17_0, rfl, h, hl⟩ := hP
          exact q_iret X hr hlk hK h rfl (fun _ => 0, (vcons (u_8.2.1 0) (vcons (u_8.2.1 1) (vcons (u_8.2.1 2) (vcons (fun _ => 0) (fun _ => (fun _ => 0)))))), fun _ _ => 0) ⟨(bw hv130_17_0 (by decide) (by decide)), (rg_wide w8_0 (by decide) (by decide)), (⟨by decide +kernel, by decide +kernel⟩ : 0 ≤ (0 : Int32).toInt ∧ (0 : Int32).toInt ≤ 0), trivial⟩ [3, 4, 0, 1, 2] rfl rfl dX12_cover_130 (Nat.le_of_ble_eq_true rfl) (Nat.le_of_ble_eq_true rfl)
        · skip
          refine q_jn (pc2 := 120) (fun H locs ls st => st = [] ∧ qW D (va_A (wk_8b19a8a79 cy h0 p2 h1 w0 w1 w2 p3 p4 p5 p6 p7 p8 p9 p10 p11 p12 p13 h2 h3 w3 h4 w4 p14 p15 w5 w6 w7 p16 p17 w8 w9 w10 w11 w12 p18 w13 w14 w15 h1 f0 h2 f1 h3 f2 h4 f3) sz) s.heap (wk_6bef7693d cy h2 (u_8.2.1 0) h3 (u_8.2.1 1) h4 (u_8.2.1 2) h0 0 h1 w0 w1 w2 p3 p4 p5 p6 p7 p8 p9 p10 p11 p12 p13 h2 h3 w3 h4 w4 p14 p15 w5 w6 w7 p16 p17 w8 w9 w10 w11 w12 p18 w13 w14 w15 h1 f0) H locs ∧ lv_has ls 6 [(0, .ref h0), (1, .int p0), (2, .int p1), (3, .int z_11), (4, .int v55_15_1), (5, .int v55_15_0)]) (fun H locs ls st hP => ?_) (fun J_120 => ?_)
          · obtain ⟨rfl, h, hl⟩ := hP
            refine lv_iload hx hb dX12_cover_120 (lv_at hl 4 rfl) ?_
            refine lv_goto (tgt := 130) hx hb dX12_cover_122 (by decide) ?_
            exact J_130 _ _ _ _ ⟨v55_15_1, hv55_15_1, rfl, h, (lv_sub hl [0, 1, 2, 3, 4, 5] rfl)⟩
          · skip
            refine lv_icmp_eq (tgt := 120) hx hb dX12_cover_112 (by decide) (fun c_19 => ?_) (fun c_19 => ?_)
            · replace c_19 := i_eq (x := v55_15_1) (y := (-1)) rfl (show ((-1) : Int32).toInt = -1 by decide) c_19
              exact J_120 _ _ _ _ ⟨rfl, h, (lv_sub hl [0, 1, 2, 3, 4, 5] rfl)⟩
            · replace c_19 := i_ne (x := v55_15_1) (y := (-1)) rfl (show ((-1) : Int32).toInt = -1 by decide) c_19
              refine lv_iload_n hx hb dX12_cover_115 rfl (lv_at hl 2 rfl) ?_
              refine lv_iconst (v := 1) hx hb dX12_cover_116 (by decide) ?_
              refine lv_icmp_ne (tgt := 125) hx hb dX12_cover_117 (by decide) (fun c_20 => ?_) (fun c_20 => ?_)
              · replace c_20 := i_ne (x := p1) (y := 1) rfl (show (1 : Int32).toInt = 1 by decide) c_20
                refine lv_iload hx hb dX12_cover_125 (lv_at hl 4 rfl) ?_
                refine q_callSi (rest := []) (wr := (wk_6bef7693d cy h2 (u_8.2.1 0) h3 (u_8.2.1 1) h4 (u_8.2.1 2) h0 0 h1 w0 w1 w2 p3 p4 p5 p6 p7 p8 p9 p10 p11 p12 p13 h2 h3 w3 h4 w4 p14 p15 w5 w6 w7 p16 p17 w8 w9 w10 w11 w12 p18 w13 w14 w15 h1 f0)) X hK hT hA h (fun sz => gX12_bitsOf_5a43b1c l D cy v55_15_1 (i_rng _) sz) wm_7_8 wm_7_10 wm_1_12 hd_X12_bitsOf wm_7_9 ⟨Nat.le_of_ble_eq_true rfl, Nat.le_of_ble_eq_true rfl⟩ hl.1 rfl (Nat.le_of_ble_eq_true rfl) dX12_cover_127 ⟨Nat.le_of_ble_eq_true rfl, Nat.le_of_ble_eq_true rfl⟩ [] [0, 1, 2, 3, 4] rfl rfl (by decide) rfl rfl (fun r_21 u_21 H locs w_21 h_21 => ?_)
                clear h
                obtain ⟨wr_21, _⟩ := w_21
                replace h_21 : qW D _ _ (wk_6bef7693d cy h2 (u_8.2.1 0) h3 (u_8.2.1 1) h4 (u_8.2.1 2) h0 0 h1 w0 w1 w2 p3 p4 p5 p6 p7 p8 p9 p10 p11 p12 p13 h2 h3 w3 h4 w4 p14 p15 w5 w6 w7 p16 p17 w8 w9 w10 w11 w12 p18 w13 w14 w15 h1 f0) _ _ := h_21
                exact J_130 _ _ _ _ ⟨r_21, (bw wr_21 (by decide) (by decide)), rfl, h_21, (lv_sub hl [0, 1, 2, 3, 4, 5] rfl)⟩
              · replace c_20 := i_eq (x := p1) (y := 1) rfl (show (1 : Int32).toInt = 1 by decide) c_20
                exact J_120 _ _ _ _ ⟨rfl, h, (lv_sub hl [0, 1, 2, 3, 4, 5] rfl)⟩
      · replace c_16 := i_nlt (x := z_11) (y := v55_15_0) rfl rfl c_16
        refine lv_iload hx hb dX12_cover_61 (lv_at hl 5 rfl) ?_
        refine lv_iload_n hx hb dX12_cover_63 rfl (lv_at hl 3 rfl) ?_
        refine lv_iconst (v := (-1)) hx hb dX12_cover_64 (by decide) ?_
        refine lv_ixor hx hb dX12_cover_65 ?_
        refine q_any (fun z_22 hz_22 => ?_)
        refine lv_iand hx hb dX12_cover_66 ?_
        obtain ⟨z_23, ez_23, hz_23⟩ := e_and1 (x := v55_15_0) (y := z_22) rfl (by omega)
        refine q_c z_23 ez_23 ?_
        clear ez_23
        refine q_jn (pc2 := 103) (fun H locs ls st => ∃ v103_24_0 : Int32, ((-1) ≤ (v103_24_0).toInt ∧ (v103_24_0).toInt ≤ 1023) ∧ st = [] ∧ qW D (va_A (wk_8b19a8a79 cy h0 p2 h1 w0 w1 w2 p3 p4 p5 p6 p7 p8 p9 p10 p11 p12 p13 h2 h3 w3 h4 w4 p14 p15 w5 w6 w7 p16 p17 w8 w9 w10 w11 w12 p18 w13 w14 w15 h1 f0 h2 f1 h3 f2 h4 f3) sz) s.heap (wk_6bef7693d cy h2 (u_8.2.1 0) h3 (u_8.2.1 1) h4 (u_8.2.1 2) h0 0 h1 w0 w1 w2 p3 p4 p5 p6 p7 p8 p9 p10 p11 p12 p13 h2 h3 w3 h4 w4 p14 p15 w5 w6 w7 p16 p17 w8 w9 w10 w11 w12 p18 w13 w14 w15 h1 f0) H locs ∧ lv_has ls 6 [(0, .ref h0), (1, .int p0), (2, .int p1), (3, .int z_11), (4, .int v103_24_0), (5, .int v55_15_0)]) (fun H locs ls st hP => ?_) (fun J_103 => ?_)
        · obtain ⟨v103_24_0, hv103_24_0, rfl, h, hl⟩ := hP
          obtain ⟨z_25, ez_25, hz_25⟩ := e_add (x := v55_15_0) (y := Int32.ofInt 1) rfl (b := 1) (by decide) (by omega) (by omega)
          refine lv_iinc (v := z_25) (lv' := [(5, .int z_25), (0, .ref h0), (1, .int p0), (2, .int p1), (3, .int z_11), (4, .int v103_24_0)]) hx hb dX12_cover_103 hl (k := 5) rfl ez_25 (by decide) rfl (fun ls_25 hl_25 => ?_)
          clear hl
          refine lv_goto (tgt := 55) hx hb dX12_cover_106 (by decide) ?_
          exact ih_55 (z_25, v103_24_0) (by show (1025 - (z_25).toInt).toNat < (1025 - (v55_15_0).toInt).toNat; omega) _ _ _ ⟨⟨by omega, by omega⟩, hv103_24_0, h, (lv_sub hl_25 [1, 2, 3, 4, 5, 0] rfl)⟩
        · skip
          refine lv_if_ne (tgt := 103) hx hb dX12_cover_67 (by decide) (fun c_26 => ?_) (fun c_26 => ?_)
          · replace c_26 := i_ne (x := z_23) (y := 0) rfl (show (0 : Int32).toInt = 0 by decide) c_26
            exact J_103 _ _ _ _ ⟨v55_15_1, hv55_15_1, rfl, h, (lv_sub hl [0, 1, 2, 3, 4, 5] rfl)⟩
          · replace c_26 := i_eq (x := z_23) (y := 0) rfl (show (0 : Int32).toInt = 0 by decide) c_26
            refine lv_iload hx hb dX12_cover_70 (lv_at hl 4 rfl) ?_
            refine lv_iconst (v := (-1)) hx hb dX12_cover_72 (by decide) ?_
            refine q_jn (pc2 := 89) (fun H locs ls st => st = [] ∧ qW D (va_A (wk_8b19a8a79 cy h0 p2 h1 w0 w1 w2 p3 p4 p5 p6 p7 p8 p9 p10 p11 p12 p13 h2 h3 w3 h4 w4 p14 p15 w5 w6 w7 p16 p17 w8 w9 w10 w11 w12 p18 w13 w14 w15 h1 f0 h2 f1 h3 f2 h4 f3) sz) s.heap (wk_6bef7693d cy h2 (u_8.2.1 0) h3 (u_8.2.1 1) h4 (u_8.2.1 2) h0 0 h1 w0 w1 w2 p3 p4 p5 p6 p7 p8 p9 p10 p11 p12 p13 h2 h3 w3 h4 w4 p14 p15 w5 w6 w7 p16 p17 w8 w9 w10 w11 w12 p18 w13 w14 w15 h1 f0) H locs ∧ lv_has ls 6 [(0, .ref h0), (1, .int p0), (2, .int p1), (3, .int z_11), (4, .int v55_15_1), (5, .int v55_15_0)]) (fun H locs ls st hP => ?_) (fun J_89 => ?_)
            · obtain ⟨rfl, h, hl⟩ := hP
              refine lv_aload_n hx hb dX12_cover_89 rfl (lv_at hl 0 rfl) ?_
              refine lv_iload_n hx hb dX12_cover_90 rfl (lv_at hl 1 rfl) ?_
              refine lv_iload hx hb dX12_cover_91 (lv_at hl 5 rfl) ?_
              refine q_callVi (rest := []) (wr := (wk_3fb6de35f cy h2 (u_8.2.1 0) h3 (u_8.2.1 1))) X hK hT hA h (fun sz => gX12_isCovered_05a556d l D cy h0 h1 h4 p0 v55_15_0 (0 : Int32) w0 w1 w2 p3 p4 p5 p6 p7 p8 p9 p10 p11 p12 p13 (.ref h2) (.ref h3) w3 w4 p14 p15 w5 w6 w7 p16 p17 w8 w9 w10 w11 w12 p18 w13 w14 w15 f0 p19 (u_8.2.1 2) ⟨by omega, by omega⟩ ⟨by omega, by omega⟩ ⟨by decide +kernel, by decide +kernel⟩ hp3 hp4 hp5 hp6 (i_rng _) hp8 (i_rng _) (i_rng _) (i_rng _) (i_rng _) (i_rng _) (i_rng _) (i_rng _) (i_rng _) (i_rng _) (i_rng _) hp19 htf0_84 rf0 (rg_wide w8_0 (by decide) (by decide)) sz) wm_7_152 wm_7_155 wm_1_12 hd_X12_isCovered wm_7_154 wp_7_7 (ci := 12) (q0 := 0) rfl rfl ⟨Nat.le_of_ble_eq_true rfl, Nat.le_of_ble_eq_true rfl⟩ hl.1 rfl (Nat.le_of_ble_eq_true rfl) dX12_cover_93 ⟨Nat.le_of_ble_eq_true rfl, Nat.le_of_ble_eq_true rfl⟩ [3, 4, 2] [0, 1] rfl rfl (by decide) rfl rfl (fun r_28 u_28 H locs w_28 h_28 => ?_)
              clear h
              obtain ⟨wr_28, _⟩ := w_28
              replace h_28 : qW D _ _ (wk_a841d4271 cy h2 (u_8.2.1 0) h3 (u_8.2.1 1) h0 0 h1 w0 w1 w2 p3 p4 p5 p6 p7 p8 p9 p10 p11 p12 p13 h2 h3 w3 h4 w4 p14 p15 w5 w6 w7 p16 p17 w8 w9 w10 w11 w12 p18 w13 w14 w15 h1 f0 h4 (u_8.2.1 2)) _ _ := h_28
              refine lv_if_eq (tgt := 103) hx hb dX12_cover_96 (by decide) (fun c_29 => ?_) (fun c_29 => ?_)
              · replace c_29 := i_eq (x := r_28) (y := 0) rfl (show (0 : Int32).toInt = 0 by decide) c_29
                exact J_103 _ _ _ _ ⟨v55_15_1, hv55_15_1, rfl, (q_re h_28 [0, 1, 4, 2, 3] rfl rfl), (lv_sub hl [0, 1, 2, 3, 4, 5] rfl)⟩
              · replace c_29 := i_ne (x := r_28) (y := 0) rfl (show (0 : Int32).toInt = 0 by decide) c_29
                refine lv_iload hx hb dX12_cover_99 (lv_at hl 5 rfl) ?_
                refine lv_istore (lv' := [(4, .int v55_15_0), (0, .ref h0), (1, .int p0), (2, .int p1), (3, .int z_11), (5, .int v55_15_0)]) hx hb dX12_cover_101 hl (by decide) rfl (fun ls_30 hl_30 => ?_)
                clear hl
                exact J_103 _ _ _ _ ⟨v55_15_0, ⟨by omega, by omega⟩, rfl, (q_re h_28 [0, 1, 4, 2, 3] rfl rfl), (lv_sub hl_30 [1, 2, 3, 4, 0, 5] rfl)⟩
            · skip
              refine lv_icmp_eq (tgt := 89) hx hb dX12_cover_73 (by decide) (fun c_31 => ?_) (fun c_31 => ?_)
              · replace c_31 := i_eq (x := v55_15_1) (y := (-1)) rfl (show ((-1) : Int32).toInt = -1 by decide) c_31
                exact J_89 _ _ _ _ ⟨rfl, h, (lv_sub hl [0, 1, 2, 3, 4, 5] rfl)⟩
              · replace c_31 := i_ne (x := v55_15_1) (y := (-1)) rfl (show ((-1) : Int32).toInt = -1 by decide) c_31
                refine lv_iload hx hb dX12_cover_76 (lv_at hl 5 rfl) ?_
                refine q_callSi (rest := []) (wr := (wk_6bef7693d cy h2 (u_8.2.1 0) h3 (u_8.2.1 1) h4 (u_8.2.1 2) h0 0 h1 w0 w1 w2 p3 p4 p5 p6 p7 p8 p9 p10 p11 p12 p13 h2 h3 w3 h4 w4 p14 p15 w5 w6 w7 p16 p17 w8 w9 w10 w11 w12 p18 w13 w14 w15 h1 f0)) X hK hT hA h (fun sz => gX12_bitsOf_5a43b1c l D cy v55_15_0 (i_rng _) sz) wm_7_8 wm_7_10 wm_1_12 hd_X12_bitsOf wm_7_9 ⟨Nat.le_of_ble_eq_true rfl, Nat.le_of_ble_eq_true rfl⟩ hl.1 rfl (Nat.le_of_ble_eq_true rfl) dX12_cover_78 ⟨Nat.le_of_ble_eq_true rfl, Nat.le_of_ble_eq_true rfl⟩ [] [0, 1, 2, 3, 4] rfl rfl (by decide) rfl rfl (fun r_32 u_32 H locs w_32 h_32 => ?_)
                clear h
                obtain ⟨wr_32, _⟩ := w_32
                replace h_32 : qW D _ _ (wk_6bef7693d cy h2 (u_8.2.1 0) h3 (u_8.2.1 1) h4 (u_8.2.1 2) h0 0 h1 w0 w1 w2 p3 p4 p5 p6 p7 p8 p9 p10 p11 p12 p13 h2 h3 w3 h4 w4 p14 p15 w5 w6 w7 p16 p17 w8 w9 w10 w11 w12 p18 w13 w14 w15 h1 f0) _ _ := h_32
                refine lv_iload hx hb dX12_cover_81 (lv_at hl 4 rfl) ?_
                refine q_callSi (rest := [.int r_32]) (wr := (wk_6bef7693d cy h2 (u_8.2.1 0) h3 (u_8.2.1 1) h4 (u_8.2.1 2) h0 0 h1 w0 w1 w2 p3 p4 p5 p6 p7 p8 p9 p10 p11 p12 p13 h2 h3 w3 h4 w4 p14 p15 w5 w6 w7 p16 p17 w8 w9 w10 w11 w12 p18 w13 w14 w15 h1 f0)) X hK hT hA h_32 (fun sz => gX12_bitsOf_5a43b1c l D cy v55_15_1 (i_rng _) sz) wm_7_8 wm_7_10 wm_1_12 hd_X12_bitsOf wm_7_9 ⟨Nat.le_of_ble_eq_true rfl, Nat.le_of_ble_eq_true rfl⟩ hl.1 rfl (Nat.le_of_ble_eq_true rfl) dX12_cover_83 ⟨Nat.le_of_ble_eq_true rfl, Nat.le_of_ble_eq_true rfl⟩ [] [0, 1, 2, 3, 4] rfl rfl (by decide) rfl rfl (fun r_33 u_33 H locs w_33 h_33 => ?_)
                clear h_32
                obtain ⟨wr_33, _⟩ := w_33
                replace h_33 : qW D _ _ (wk_6bef7693d cy h2 (u_8.2.1 0) h3 (u_8.2.1 1) h4 (u_8.2.1 2) h0 0 h1 w0 w1 w2 p3 p4 p5 p6 p7 p8 p9 p10 p11 p12 p13 h2 h3 w3 h4 w4 p14 p15 w5 w6 w7 p16 p17 w8 w9 w10 w11 w12 p18 w13 w14 w15 h1 f0) _ _ := h_33
                refine lv_icmp_ge (tgt := 103) hx hb dX12_cover_86 (by decide) (fun c_34 => ?_) (fun c_34 => ?_)
                · replace c_34 := i_le (x := r_33) (y := r_32) rfl rfl c_34
                  exact J_103 _ _ _ _ ⟨v55_15_1, hv55_15_1, rfl, h_33, (lv_sub hl [0, 1, 2, 3, 4, 5] rfl)⟩
                · replace c_34 := i_nle (x := r_33) (y := r_32) rfl rfl c_34
                  exact J_89 _ _ _ _ ⟨rfl, h_33, (lv_sub hl [0, 1, 2, 3, 4, 5] rfl)⟩
    · replace c_6 := i_eq (x := r_5) (y := 0) rfl (show (0 : Int32).toInt = 0 by decide) c_6
      refine lv_bipush (v := (-3)) hx hb dX12_cover_26 (by decide) ?_
      exact q_iret X hr hlk hK h_5 rfl (fun _ => 0, (vcons f1 (vcons f2 (vcons f3 (vcons (fun _ => 0) (fun _ => (fun _ => 0)))))), fun _ _ => 0) ⟨⟨by decide +kernel, by decide +kernel⟩, (rg_wide rf3 (by decide) (by decide)), (⟨by decide +kernel, by decide +kernel⟩ : 0 ≤ (0 : Int32).toInt ∧ (0 : Int32).toInt ≤ 0), trivial⟩ [3, 4, 0, 1, 2] rfl rfl dX12_cover_28 (Nat.le_of_ble_eq_true rfl) (Nat.le_of_ble_eq_true rfl)
  · replace c_4 := i_eq (x := r_3) (y := 0) rfl (show (0 : Int32).toInt = 0 by decide) c_4
    replace y3_0 := a10_0 y3_0 c_4
    refine lv_bipush (v := (-2)) hx hb dX12_cover_15 (by decide) ?_
    exact q_iret X hr hlk hK h_3 rfl (fun _ => 0, (vcons f1 (vcons f2 (vcons f3 (vcons (fun _ => 0) (fun _ => (fun _ => 0)))))), fun _ _ => 0) ⟨⟨by decide +kernel, by decide +kernel⟩, (rg_wide rf3 (by decide) (by decide)), (⟨by decide +kernel, by decide +kernel⟩ : 0 ≤ (0 : Int32).toInt ∧ (0 : Int32).toInt ≤ 0), trivial⟩ [0, 1, 2, 3, 4] rfl rfl dX12_cover_17 (Nat.le_of_ble_eq_true rfl) (Nat.le_of_ble_eq_true rfl)
set_option maxHeartbeats 4000000 in
set_option maxRecDepth 100000 in
theorem gX12_laundress_296ccea (l : Launch) (D : va_G) (cy : Nat → ClassId) (h0 : Nat) (h1 : Nat) (h2 : Nat) (h3 : Nat) (h4 : Nat) (p0 : Int32) (p1 : Int32) (w0 : Value) (w1 : Value) (w2 : Value) (p2 : Int32) (p3 : Int32) (p4 : Int32) (p5 : Int32) (p6 : Int32) (p7 : Int32) (p8 : Int32) (p9 : Int32) (p10 : Int32) (p11 : Int32) (p12 : Int32) (w3 : Value) (w4 : Value) (p13 : Int32) (p14 : Int32) (w5 : Value) (w6 : Value) (w7 : Value) (p15 : Int32) (p16 : Int32) (w8 : Value) (w9 : Value) (w10 : Value) (w11 : Value) (w12 : Value) (p17 : Int32) (w13 : Value) (w14 : Value) (w15 : Value) (f0 : Nat → Int32) (p18 : Int32) (f1 : Nat → Int32) (f2 : Nat → Int32) (f3 : Nat → Int32) (hp0 : (-2147483648) ≤ (p0).toInt ∧ (p0).toInt ≤ 2147483647) (hp1 : (-2147483648) ≤ (p1).toInt ∧ (p1).toInt ≤ 2147483647) (hp2 : 0 ≤ (p2).toInt ∧ (p2).toInt ≤ 900) (hp3 : 0 ≤ (p3).toInt ∧ (p3).toInt ≤ 900) (hp4 : 0 ≤ (p4).toInt ∧ (p4).toInt ≤ 900) (hp5 : 0 ≤ (p5).toInt ∧ (p5).toInt ≤ 900) (hp6 : (-2147483648) ≤ (p6).toInt ∧ (p6).toInt ≤ 2147483647) (hp7 : 0 ≤ (p7).toInt ∧ (p7).toInt ≤ 999) (hp8 : (-2147483648) ≤ (p8).toInt ∧ (p8).toInt ≤ 2147483647) (hp9 : (-2147483648) ≤ (p9).toInt ∧ (p9).toInt ≤ 2147483647) (hp10 : (-2147483648) ≤ (p10).toInt ∧ (p10).toInt ≤ 2147483647) (hp11 : (-2147483648) ≤ (p11).toInt ∧ (p11).toInt ≤ 2147483647) (hp12 : (-2147483648) ≤ (p12).toInt ∧ (p12).toInt ≤ 2147483647) (hp13 : (-2147483648) ≤ (p13).toInt ∧ (p13).toInt ≤ 2147483647) (hp14 : (-2147483648) ≤ (p14).toInt ∧ (p14).toInt ≤ 2147483647) (hp15 : (-2147483648) ≤ (p15).toInt ∧ (p15).toInt ≤ 2147483647) (hp16 : (-2147483648) ≤ (p16).toInt ∧ (p16).toInt ≤ 2147483647) (hp17 : (-2147483648) ≤ (p17).toInt ∧ (p17).toInt ≤ 2147483647) (hp18 : 0 ≤ (p18).toInt ∧ (p18).toInt ≤ 10) (htf0_84 : f0 84 = p18) (rf0 : AL f0) (rf3 : RG f3 10 0 1023) (sz : Nat) : MI l yX12_laundress cX12_laundress 5 .int { frames := 4, cells := 0, slots := 0, locals := 94 } [.ref h0, .int p0] D cy (wk_8b19a8a79 cy h0 p1 h1 w0 w1 w2 p2 p3 p4 p5 p6 p7 p8 p9 p10 p11 p12 h2 h3 w3 h4 w4 p13 p14 w5 w6 w7 p15 p16 w8 w9 w10 w11 w12 p17 w13 w14 w15 h1 f0 h2 f1 h3 f2 h4 f3) sz (fun r u => ((-3) ≤ r.toInt ∧ r.toInt ≤ 9) ∧ RG (u.2.1 2) 10 0 1023 ∧ (0 ≤ (u.2.1 3 0).toInt ∧ (u.2.1 3 0).toInt ≤ 0) ∧ True) (fun u => (wk_8b19a8a79 cy h0 (u.2.1 3 0) h1 w0 w1 w2 p2 p3 p4 p5 p6 p7 p8 p9 p10 p11 p12 h2 h3 w3 h4 w4 p13 p14 w5 w6 w7 p15 p16 w8 w9 w10 w11 w12 p17 w13 w14 w15 h1 f0 h2 (u.2.1 0) h3 (u.2.1 1) h4 (u.2.1 2))) 0 0 := by
  refine q_ent (own := RX12) (by decide) rfl (Nat.le_of_ble_eq_true rfl) (fun p e s m below meth c ls X hr hlk hnm hK hT h hA hl => ?_)
  obtain ⟨hx, hb, hml, hown, ht⟩ := id X
  replace hl : lv_has ls 5 [(0, .ref h0), (1, .int p0)] := hl
  refine lv_aload_n hx hb dX12_laundress_0 rfl (lv_at hl 0 rfl) ?_
  refine lv_iconst (v := 0) hx hb dX12_laundress_1 (by decide) ?_
  refine q_put (v := .int 0) X hK h 0 rfl rfl wf_12 tyX12 tyX12_ok nmX12 0 (by decide) wm_5_170 rfl rfl rfl (Nat.le_of_ble_eq_true rfl) dX12_laundress_2 (fun H locs h_1 => ?_)
  clear h
  replace h_1 : qW D _ _ (wk_8b19a8a79 cy h0 0 h1 w0 w1 w2 p2 p3 p4 p5 p6 p7 p8 p9 p10 p11 p12 h2 h3 w3 h4 w4 p13 p14 w5 w6 w7 p15 p16 w8 w9 w10 w11 w12 p17 w13 w14 w15 h1 f0 h2 f1 h3 f2 h4 f3) _ _ := h_1
  refine lv_aload_n hx hb dX12_laundress_5 rfl (lv_at hl 0 rfl) ?_
  refine lv_iload_n hx hb dX12_laundress_6 rfl (lv_at hl 1 rfl) ?_
  refine q_callVi (rest := []) (wr := (wk_ce6a1f133 cy h2 f1 h3 f2 h4 f3)) X hK hT hA h_1 (fun sz => gX12_isSet_9166d70 l D cy h0 h1 p0 (0 : Int32) w0 w1 w2 p2 p3 p4 p5 p6 p7 p8 p9 p10 p11 p12 (.ref h2) (.ref h3) w3 (.ref h4) w4 p13 p14 w5 w6 w7 p15 p16 w8 w9 w10 w11 w12 p17 w13 w14 w15 f0 p18 (i_rng _) ⟨by decide +kernel, by decide +kernel⟩ hp2 hp3 hp4 hp5 (i_rng _) hp7 (i_rng _) (i_rng _) (i_rng _) (i_rng _) (i_rng _) (i_rng _) (i_rng _) (i_rng _) (i_rng _) (i_rng _) hp18 htf0_84 rf0 sz) wm_7_96 wm_7_99 wm_1_12 hd_X12_isSet wm_7_98 wp_7_1 (ci := 12) (q0 := 0) rfl rfl ⟨Nat.le_of_ble_eq_true rfl, Nat.le_of_ble_eq_true rfl⟩ hl.1 rfl (Nat.le_of_ble_eq_true rfl) dX12_laundress_7 ⟨Nat.le_of_ble_eq_true rfl, Nat.le_of_ble_eq_true rfl⟩ [0, 1] [2, 3, 4] rfl rfl (by decide) rfl rfl (fun r_2 u_2 H locs w_2 h_2 => ?_)
  clear h_1
  obtain ⟨wr_2, y2_0, _⟩ := w_2
  replace h_2 : qW D _ _ (wk_6bef7693d cy h2 f1 h3 f2 h4 f3 h0 0 h1 w0 w1 w2 p2 p3 p4 p5 p6 p7 p8 p9 p10 p11 p12 h2 h3 w3 h4 w4 p13 p14 w5 w6 w7 p15 p16 w8 w9 w10 w11 w12 p17 w13 w14 w15 h1 f0) _ _ := h_2
  refine lv_if_ne (tgt := 16) hx hb dX12_laundress_10 (by decide) (fun c_3 => ?_) (fun c_3 => ?_)
  · replace c_3 := i_ne (x := r_2) (y := 0) rfl (show (0 : Int32).toInt = 0 by decide) c_3
    refine lv_aload_n hx hb dX12_laundress_16 rfl (lv_at hl 0 rfl) ?_
    refine lv_aload_n hx hb dX12_laundress_17 rfl (lv_at hl 0 rfl) ?_
    refine q_get X hK h_2 3 rfl rfl wf_12 1 (by decide) rfl wm_5_171 dX12_laundress_18 ?_
    refine lv_bipush (v := 52) hx hb dX12_laundress_21 (by decide) ?_
    refine q_iald X hK h_2 4 rfl (q_in (by decide +kernel)) dX12_laundress_23 ?_
    refine q_any (fun z_4 hz_4 => ?_)
    refine q_callVv (rest := []) (wr := []) X hK hT hA h_2 (fun sz => gX12_laysOpposed_6a814f8 l D cy h0 h1 h2 h3 h4 z_4 (0 : Int32) w0 w1 w2 p2 p3 p4 p5 p6 p7 p8 p9 p10 p11 p12 w3 w4 p13 p14 w5 w6 w7 p15 p16 w8 w9 w10 w11 w12 p17 w13 w14 w15 f0 p18 f1 f2 f3 (i_rng _) ⟨by decide +kernel, by decide +kernel⟩ hp2 hp3 hp4 hp5 (i_rng _) hp7 (i_rng _) (i_rng _) (i_rng _) (i_rng _) (i_rng _) (i_rng _) (i_rng _) (i_rng _) (i_rng _) (i_rng _) hp18 htf0_84 rf0 (rg_wide rf3 (by decide) (by decide)) sz) wm_7_59 wm_7_62 wm_1_12 hd_X12_laysOpposed wm_7_61 wp_6_12 (ci := 12) (q0 := 0) rfl rfl ⟨Nat.le_of_ble_eq_true rfl, Nat.le_of_ble_eq_true rfl⟩ hl.1 rfl (Nat.le_of_ble_eq_true rfl) dX12_laundress_24 ⟨Nat.le_of_ble_eq_true rfl, Nat.le_of_ble_eq_true rfl⟩ [3, 4, 0, 1, 2] [] rfl rfl (by decide) rfl rfl (fun u_5 H locs w_5 h_5 => ?_)
    clear h_2
    obtain ⟨w5_0, _⟩ := w_5
    replace h_5 : qW D _ _ (wk_8b19a8a79 cy h0 0 h1 w0 w1 w2 p2 p3 p4 p5 p6 p7 p8 p9 p10 p11 p12 h2 h3 w3 h4 w4 p13 p14 w5 w6 w7 p15 p16 w8 w9 w10 w11 w12 p17 w13 w14 w15 h1 f0 h2 (u_5.2.1 0) h3 (u_5.2.1 1) h4 (u_5.2.1 2)) _ _ := h_5
    refine lv_aload_n hx hb dX12_laundress_27 rfl (lv_at hl 0 rfl) ?_
    refine q_callVi (rest := []) (wr := (wk_ce6a1f133 cy h2 (u_5.2.1 0) h3 (u_5.2.1 1) h4 (u_5.2.1 2))) X hK hT hA h_5 (fun sz => gX12_townNow_2907b4b l D cy h0 h1 (0 : Int32) w0 w1 w2 p2 p3 p4 p5 p6 p7 p8 p9 p10 p11 p12 (.ref h2) (.ref h3) w3 (.ref h4) w4 p13 p14 w5 w6 w7 p15 p16 w8 w9 w10 w11 w12 p17 w13 w14 w15 f0 p18 ⟨by decide +kernel, by decide +kernel⟩ hp2 hp3 hp4 hp5 (i_rng _) hp7 (i_rng _) (i_rng _) (i_rng _) (i_rng _) (i_rng _) (i_rng _) (i_rng _) (i_rng _) (i_rng _) (i_rng _) hp18 htf0_84 rf0 sz) wm_6_170 wm_6_173 wm_1_12 hd_X12_townNow wm_6_172 wp_5_9 (ci := 12) (q0 := 0) rfl rfl ⟨Nat.le_of_ble_eq_true rfl, Nat.le_of_ble_eq_true rfl⟩ hl.1 rfl (Nat.le_of_ble_eq_true rfl) dX12_laundress_28 ⟨Nat.le_of_ble_eq_true rfl, Nat.le_of_ble_eq_true rfl⟩ [0, 1] [2, 3, 4] rfl rfl (by decide) rfl rfl (fun r_6 u_6 H locs w_6 h_6 => ?_)
    clear h_5
    obtain ⟨wr_6, _⟩ := w_6
    replace h_6 : qW D _ _ (wk_6bef7693d cy h2 (u_5.2.1 0) h3 (u_5.2.1 1) h4 (u_5.2.1 2) h0 0 h1 w0 w1 w2 p2 p3 p4 p5 p6 p7 p8 p9 p10 p11 p12 h2 h3 w3 h4 w4 p13 p14 w5 w6 w7 p15 p16 w8 w9 w10 w11 w12 p17 w13 w14 w15 h1 f0) _ _ := h_6
    refine lv_iload_n hx hb dX12_laundress_31 rfl (lv_at hl 1 rfl) ?_
    refine lv_iconst (v := (-1)) hx hb dX12_laundress_32 (by decide) ?_
    refine lv_ixor hx hb dX12_laundress_33 ?_
    refine q_any (fun z_7 hz_7 => ?_)
    refine lv_iand hx hb dX12_laundress_34 ?_
    obtain ⟨z_8, ez_8, hz_8⟩ := e_and1 (x := r_6) (y := z_7) rfl (by omega)
    refine q_c z_8 ez_8 ?_
    clear ez_8
    refine lv_istore_n (lv' := [(2, .int z_8), (0, .ref h0), (1, .int p0)]) hx hb dX12_laundress_35 rfl hl (by decide) rfl (fun ls_9 hl_9 => ?_)
    clear hl
    refine lv_iconst (v := (-1)) hx hb dX12_laundress_36 (by decide) ?_
    refine lv_istore_n (lv' := [(3, .int (-1)), (2, .int z_8), (0, .ref h0), (1, .int p0)]) hx hb dX12_laundress_37 rfl hl_9 (by decide) rfl (fun ls_10 hl_10 => ?_)
    clear hl_9
    refine lv_iconst (v := 0) hx hb dX12_laundress_38 (by decide) ?_
    refine lv_istore (lv' := [(4, .int 0), (3, .int (-1)), (2, .int z_8), (0, .ref h0), (1, .int p0)]) hx hb dX12_laundress_39 hl_10 (by decide) rfl (fun ls_11 hl_11 => ?_)
    clear hl_10
    refine q_wl (fun (q : Int32 × Int32) H locs ls => match q with | (v41_12_0, v41_12_1) => (0 ≤ (v41_12_0).toInt ∧ (v41_12_0).toInt ≤ 10) ∧ ((-1) ≤ (v41_12_1).toInt ∧ (v41_12_1).toInt ≤ 9) ∧ qW D (va_A (wk_8b19a8a79 cy h0 p1 h1 w0 w1 w2 p2 p3 p4 p5 p6 p7 p8 p9 p10 p11 p12 h2 h3 w3 h4 w4 p13 p14 w5 w6 w7 p15 p16 w8 w9 w10 w11 w12 p17 w13 w14 w15 h1 f0 h2 f1 h3 f2 h4 f3) sz) s.heap (wk_6bef7693d cy h2 (u_5.2.1 0) h3 (u_5.2.1 1) h4 (u_5.2.1 2) h0 0 h1 w0 w1 w2 p2 p3 p4 p5 p6 p7 p8 p9 p10 p11 p12 h2 h3 w3 h4 w4 p13 p14 w5 w6 w7 p15 p16 w8 w9 w10 w11 w12 p17 w13 w14 w15 h1 f0) H locs ∧ lv_has ls 5 [(0, .ref h0), (1, .int p0), (2, .int z_8), (3, .int v41_12_1), (4, .int v41_12_0)]) (fun (q : Int32 × Int32) => match q with | (v41_12_0, v41_12_1) => (11 - (v41_12_0).toInt).toNat) (fun q_41 ih_41 H locs ls hP => ?_) (0, (-1)) ⟨⟨by decide +kernel, by decide +kernel⟩, ⟨by decide +kernel, by decide +kernel⟩, h_6, (lv_sub hl_11 [3, 4, 2, 1, 0] rfl)⟩
    obtain ⟨v41_12_0, v41_12_1⟩ := q_41
    obtain ⟨hv41_12_0, hv41_12_1, h, hl⟩ := hP
    refine lv_iload hx hb dX12_laundress_41 (lv_at hl 4 rfl) ?_
    refine lv_aload_n hx hb dX12_laundress_43 rfl (lv_at hl 0 rfl) ?_
    refine q_get X hK h 3 rfl rfl wf_12 1 (by decide) rfl wm_5_171 dX12_laundress_44 ?_
    refine lv_iconst (v := 2) hx hb dX12_laundress_47 (by decide) ?_
    refine q_iald X hK h 4 rfl (q_in (by decide +kernel)) dX12_laundress_48 ?_
    obtain ⟨z_13, ez_13, hz_13⟩ := al_P rf0 (x := 2) (show (2 : Int32).toInt = 2 by decide) (by omega) (by omega)
    refine q_c z_13 ez_13 ?_
    clear ez_13
    refine lv_icmp_ge (tgt := 102) hx hb dX12_laundress_49 (by decide) (fun c_14 => ?_) (fun c_14 => ?_)
    · replace c_14 := i_le (x := z_13) (y := v41_12_0) rfl rfl c_14
      refine lv_iload_n hx hb dX12_laundress_102 rfl (lv_at hl 3 rfl) ?_
      exact q_iret X hr hlk hK h rfl (fun _ => 0, (vcons (u_5.2.1 0) (vcons (u_5.2.1 1) (vcons (u_5.2.1 2) (vcons (fun _ => 0) (fun _ => (fun _ => 0)))))), fun _ _ => 0) ⟨(bw hv41_12_1 (by decide) (by decide)), (rg_wide w5_0 (by decide) (by decide)), (⟨by decide +kernel, by decide +kernel⟩ : 0 ≤ (0 : Int32).toInt ∧ (0 : Int32).toInt ≤ 0), trivial⟩ [3, 4, 0, 1, 2] rfl rfl dX12_laundress_103 (Nat.le_of_ble_eq_true rfl) (Nat.le_of_ble_eq_true rfl)
    · replace c_14 := i_nle (x := z_13) (y := v41_12_0) rfl rfl c_14
      refine lv_iload_n hx hb dX12_laundress_52 rfl (lv_at hl 2 rfl) ?_
      refine lv_i2l hx hb dX12_laundress_53 rfl ?_
      obtain ⟨z_15, ez_15, hz_15⟩ := e_i2l (x := z_8) rfl
      refine q_cl z_15 ez_15 ?_
      clear ez_15
      refine lv_iload hx hb dX12_laundress_54 (lv_at hl 4 rfl) ?_
      refine q_callSi (rest := []) (wr := (wk_6bef7693d cy h2 (u_5.2.1 0) h3 (u_5.2.1 1) h4 (u_5.2.1 2) h0 0 h1 w0 w1 w2 p2 p3 p4 p5 p6 p7 p8 p9 p10 p11 p12 h2 h3 w3 h4 w4 p13 p14 w5 w6 w7 p15 p16 w8 w9 w10 w11 w12 p17 w13 w14 w15 h1 f0)) X hK hT hA h (fun sz => gX12_isIn_b0455a8 l D cy z_15 v41_12_0 ⟨by omega, by omega⟩ ⟨by omega, by omega⟩ sz) wm_6_167 wm_6_169 wm_1_12 hd_X12_isIn wm_6_168 ⟨Nat.le_of_ble_eq_true rfl, Nat.le_of_ble_eq_true rfl⟩ hl.1 rfl (Nat.le_of_ble_eq_true rfl) dX12_laundress_56 ⟨Nat.le_of_ble_eq_true rfl, Nat.le_of_ble_eq_true rfl⟩ [] [0, 1, 2, 3, 4] rfl rfl (by decide) rfl rfl (fun r_16 u_16 H locs w_16 h_16 => ?_)
      clear h
      obtain ⟨wr_16, _⟩ := w_16
      replace h_16 : qW D _ _ (wk_6bef7693d cy h2 (u_5.2.1 0) h3 (u_5.2.1 1) h4 (u_5.2.1 2) h0 0 h1 w0 w1 w2 p2 p3 p4 p5 p6 p7 p8 p9 p10 p11 p12 h2 h3 w3 h4 w4 p13 p14 w5 w6 w7 p15 p16 w8 w9 w10 w11 w12 p17 w13 w14 w15 h1 f0) _ _ := h_16
      refine q_jn (pc2 := 96) (fun H locs ls st => ∃ v96_17_0 : Int32, ((-1) ≤ (v96_17_0).toInt ∧ (v96_17_0).toInt ≤ 9) ∧ st = [] ∧ qW D (va_A (wk_8b19a8a79 cy h0 p1 h1 w0 w1 w2 p2 p3 p4 p5 p6 p7 p8 p9 p10 p11 p12 h2 h3 w3 h4 w4 p13 p14 w5 w6 w7 p15 p16 w8 w9 w10 w11 w12 p17 w13 w14 w15 h1 f0 h2 f1 h3 f2 h4 f3) sz) s.heap (wk_6bef7693d cy h2 (u_5.2.1 0) h3 (u_5.2.1 1) h4 (u_5.2.1 2) h0 0 h1 w0 w1 w2 p2 p3 p4 p5 p6 p7 p8 p9 p10 p11 p12 h2 h3 w3 h4 w4 p13 p14 w5 w6 w7 p15 p16 w8 w9 w10 w11 w12 p17 w13 w14 w15 h1 f0) H locs ∧ lv_has ls 5 [(0, .ref h0), (1, .int p0), (2, .int z_8), (3, .int v96_17_0), (4, .int v41_12_0)]) (fun H locs ls st hP => ?_) (fun J_96 => ?_)
      · obtain ⟨v96_17_0, hv96_17_0, rfl, h, hl⟩ := hP
        obtain ⟨z_18, ez_18, hz_18⟩ := e_add (x := v41_12_0) (y := Int32.ofInt 1) rfl (b := 1) (by decide) (by omega) (by omega)
        refine lv_iinc (v := z_18) (lv' := [(4, .int z_18), (0, .ref h0), (1, .int p0), (2, .int z_8), (3, .int v96_17_0)]) hx hb dX12_laundress_96 hl (k := 4) rfl ez_18 (by decide) rfl (fun ls_18 hl_18 => ?_)
        clear hl
        refine lv_goto (tgt := 41) hx hb dX12_laundress_99 (by decide) ?_
        exact ih_41 (z_18, v96_17_0) (by show (11 - (z_18).toInt).toNat < (11 - (v41_12_0).toInt).toNat; omega) _ _ _ ⟨⟨by omega, by omega⟩, hv96_17_0, h, (lv_sub hl_18 [1, 2, 3, 4, 0] rfl)⟩
      · skip
        refine lv_if_eq (tgt := 96) hx hb dX12_laundress_59 (by decide) (fun c_19 => ?_) (fun c_19 => ?_)
        · replace c_19 := i_eq (x := r_16) (y := 0) rfl (show (0 : Int32).toInt = 0 by decide) c_19
          exact J_96 _ _ _ _ ⟨v41_12_1, hv41_12_1, rfl, h_16, (lv_sub hl [0, 1, 2, 3, 4] rfl)⟩
        · replace c_19 := i_ne (x := r_16) (y := 0) rfl (show (0 : Int32).toInt = 0 by decide) c_19
          refine lv_iload_n hx hb dX12_laundress_62 rfl (lv_at hl 3 rfl) ?_
          refine lv_iconst (v := (-1)) hx hb dX12_laundress_63 (by decide) ?_
          refine q_jn (pc2 := 93) (fun H locs ls st => st = [] ∧ qW D (va_A (wk_8b19a8a79 cy h0 p1 h1 w0 w1 w2 p2 p3 p4 p5 p6 p7 p8 p9 p10 p11 p12 h2 h3 w3 h4 w4 p13 p14 w5 w6 w7 p15 p16 w8 w9 w10 w11 w12 p17 w13 w14 w15 h1 f0 h2 f1 h3 f2 h4 f3) sz) s.heap (wk_6bef7693d cy h2 (u_5.2.1 0) h3 (u_5.2.1 1) h4 (u_5.2.1 2) h0 0 h1 w0 w1 w2 p2 p3 p4 p5 p6 p7 p8 p9 p10 p11 p12 h2 h3 w3 h4 w4 p13 p14 w5 w6 w7 p15 p16 w8 w9 w10 w11 w12 p17 w13 w14 w15 h1 f0) H locs ∧ lv_has ls 5 [(0, .ref h0), (1, .int p0), (2, .int z_8), (3, .int v41_12_1), (4, .int v41_12_0)]) (fun H locs ls st hP => ?_) (fun J_93 => ?_)
          · obtain ⟨rfl, h, hl⟩ := hP
            refine lv_iload hx hb dX12_laundress_93 (lv_at hl 4 rfl) ?_
            refine lv_istore_n (lv' := [(3, .int v41_12_0), (0, .ref h0), (1, .int p0), (2, .int z_8), (4, .int v41_12_0)]) hx hb dX12_laundress_95 rfl hl (by decide) rfl (fun ls_21 hl_21 => ?_)
            clear hl
            exact J_96 _ _ _ _ ⟨v41_12_0, ⟨by omega, by omega⟩, rfl, h, (lv_sub hl_21 [1, 2, 3, 0, 4] rfl)⟩
          · skip
            refine lv_icmp_eq (tgt := 93) hx hb dX12_laundress_64 (by decide) (fun c_22 => ?_) (fun c_22 => ?_)
            · replace c_22 := i_eq (x := v41_12_1) (y := (-1)) rfl (show ((-1) : Int32).toInt = -1 by decide) c_22
              exact J_93 _ _ _ _ ⟨rfl, h_16, (lv_sub hl [0, 1, 2, 3, 4] rfl)⟩
            · replace c_22 := i_ne (x := v41_12_1) (y := (-1)) rfl (show ((-1) : Int32).toInt = -1 by decide) c_22
              refine lv_aload_n hx hb dX12_laundress_67 rfl (lv_at hl 0 rfl) ?_
              refine q_get X hK h_16 3 rfl rfl wf_12 19 (by decide) rfl wm_5_189 dX12_laundress_68 ?_
              refine lv_iload hx hb dX12_laundress_71 (lv_at hl 4 rfl) ?_
              refine q_iald X hK h_16 2 rfl (i_in rfl (by omega) (by omega)) dX12_laundress_73 ?_
              obtain ⟨z_23, ez_23, hz_23⟩ := rg_get w5_0 (x := v41_12_0) rfl (by omega) (by omega)
              refine q_c z_23 ez_23 ?_
              clear ez_23
              refine lv_iload_n hx hb dX12_laundress_74 rfl (lv_at hl 1 rfl) ?_
              refine lv_iand hx hb dX12_laundress_75 ?_
              obtain ⟨z_24, ez_24, hz_24⟩ := e_and2 (x := z_23) (y := p0) rfl (by omega)
              refine q_c z_24 ez_24 ?_
              clear ez_24
              refine q_callSi (rest := []) (wr := (wk_6bef7693d cy h2 (u_5.2.1 0) h3 (u_5.2.1 1) h4 (u_5.2.1 2) h0 0 h1 w0 w1 w2 p2 p3 p4 p5 p6 p7 p8 p9 p10 p11 p12 h2 h3 w3 h4 w4 p13 p14 w5 w6 w7 p15 p16 w8 w9 w10 w11 w12 p17 w13 w14 w15 h1 f0)) X hK hT hA h_16 (fun sz => gX12_bitsOf_5a43b1c l D cy z_24 (i_rng _) sz) wm_7_8 wm_7_10 wm_1_12 hd_X12_bitsOf wm_7_9 ⟨Nat.le_of_ble_eq_true rfl, Nat.le_of_ble_eq_true rfl⟩ hl.1 rfl (Nat.le_of_ble_eq_true rfl) dX12_laundress_76 ⟨Nat.le_of_ble_eq_true rfl, Nat.le_of_ble_eq_true rfl⟩ [] [0, 1, 2, 3, 4] rfl rfl (by decide) rfl rfl (fun r_25 u_25 H locs w_25 h_25 => ?_)
              clear h_16
              obtain ⟨wr_25, _⟩ := w_25
              replace h_25 : qW D _ _ (wk_6bef7693d cy h2 (u_5.2.1 0) h3 (u_5.2.1 1) h4 (u_5.2.1 2) h0 0 h1 w0 w1 w2 p2 p3 p4 p5 p6 p7 p8 p9 p10 p11 p12 h2 h3 w3 h4 w4 p13 p14 w5 w6 w7 p15 p16 w8 w9 w10 w11 w12 p17 w13 w14 w15 h1 f0) _ _ := h_25
              refine lv_aload_n hx hb dX12_laundress_79 rfl (lv_at hl 0 rfl) ?_
              refine q_get X hK h_25 3 rfl rfl wf_12 19 (by decide) rfl wm_5_189 dX12_laundress_80 ?_
              refine lv_iload_n hx hb dX12_laundress_83 rfl (lv_at hl 3 rfl) ?_
              refine q_iald X hK h_25 2 rfl (i_in rfl (by omega) (by omega)) dX12_laundress_84 ?_
              obtain ⟨z_26, ez_26, hz_26⟩ := rg_get w5_0 (x := v41_12_1) rfl (by omega) (by omega)
              refine q_c z_26 ez_26 ?_
              clear ez_26
              refine lv_iload_n hx hb dX12_laundress_85 rfl (lv_at hl 1 rfl) ?_
              refine lv_iand hx hb dX12_laundress_86 ?_
              obtain ⟨z_27, ez_27, hz_27⟩ := e_and2 (x := z_26) (y := p0) rfl (by omega)
              refine q_c z_27 ez_27 ?_
              clear ez_27
              refine q_callSi (rest := [.int r_25]) (wr := (wk_6bef7693d cy h2 (u_5.2.1 0) h3 (u_5.2.1 1) h4 (u_5.2.1 2) h0 0 h1 w0 w1 w2 p2 p3 p4 p5 p6 p7 p8 p9 p10 p11 p12 h2 h3 w3 h4 w4 p13 p14 w5 w6 w7 p15 p16 w8 w9 w10 w11 w12 p17 w13 w14 w15 h1 f0)) X hK hT hA h_25 (fun sz => gX12_bitsOf_5a43b1c l D cy z_27 (i_rng _) sz) wm_7_8 wm_7_10 wm_1_12 hd_X12_bitsOf wm_7_9 ⟨Nat.le_of_ble_eq_true rfl, Nat.le_of_ble_eq_true rfl⟩ hl.1 rfl (Nat.le_of_ble_eq_true rfl) dX12_laundress_87 ⟨Nat.le_of_ble_eq_true rfl, Nat.le_of_ble_eq_true rfl⟩ [] [0, 1, 2, 3, 4] rfl rfl (by decide) rfl rfl (fun r_28 u_28 H locs w_28 h_28 => ?_)
              clear h_25
              obtain ⟨wr_28, _⟩ := w_28
              replace h_28 : qW D _ _ (wk_6bef7693d cy h2 (u_5.2.1 0) h3 (u_5.2.1 1) h4 (u_5.2.1 2) h0 0 h1 w0 w1 w2 p2 p3 p4 p5 p6 p7 p8 p9 p10 p11 p12 h2 h3 w3 h4 w4 p13 p14 w5 w6 w7 p15 p16 w8 w9 w10 w11 w12 p17 w13 w14 w15 h1 f0) _ _ := h_28
              refine lv_icmp_le (tgt := 96) hx hb dX12_laundress_90 (by decide) (fun c_29 => ?_) (fun c_29 => ?_)
              · replace c_29 := i_le (x := r_25) (y := r_28) rfl rfl c_29
                exact J_96 _ _ _ _ ⟨v41_12_1, hv41_12_1, rfl, h_28, (lv_sub hl [0, 1, 2, 3, 4] rfl)⟩
              · replace c_29 := i_nle (x := r_25) (y := r_28) rfl rfl c_29
                exact J_93 _ _ _ _ ⟨rfl, h_28, (lv_sub hl [0, 1, 2, 3, 4] rfl)⟩
  · replace c_3 := i_eq (x := r_2) (y := 0) rfl (show (0 : Int32).toInt = 0 by decide) c_3
    refine lv_bipush (v := (-3)) hx hb dX12_laundress_13 (by decide) ?_
    exact q_iret X hr hlk hK h_2 rfl (fun _ => 0, (vcons f1 (vcons f2 (vcons f3 (vcons (fun _ => 0) (fun _ => (fun _ => 0)))))), fun _ _ => 0) ⟨⟨by decide +kernel, by decide +kernel⟩, (rg_wide rf3 (by decide) (by decide)), (⟨by decide +kernel, by decide +kernel⟩ : 0 ≤ (0 : Int32).toInt ∧ (0 : Int32).toInt ≤ 0), trivial⟩ [3, 4, 0, 1, 2] rfl rfl dX12_laundress_15 (Nat.le_of_ble_eq_true rfl) (Nat.le_of_ble_eq_true rfl)
set_option maxHeartbeats 4000000 in
set_option maxRecDepth 100000 in
theorem gX12_areTwo_839642f (l : Launch) (D : va_G) (cy : Nat → ClassId) (h0 : Nat) (h1 : Nat) (p0 : Int32) (p1 : Int32) (p2 : Int32) (w0 : Value) (w1 : Value) (w2 : Value) (p3 : Int32) (p4 : Int32) (p5 : Int32) (p6 : Int32) (p7 : Int32) (p8 : Int32) (p9 : Int32) (p10 : Int32) (p11 : Int32) (p12 : Int32) (p13 : Int32) (w3 : Value) (w4 : Value) (w5 : Value) (w6 : Value) (w7 : Value) (p14 : Int32) (p15 : Int32) (w8 : Value) (w9 : Value) (w10 : Value) (p16 : Int32) (p17 : Int32) (w11 : Value) (w12 : Value) (w13 : Value) (w14 : Value) (w15 : Value) (p18 : Int32) (w16 : Value) (w17 : Value) (w18 : Value) (f0 : Nat → Int32) (p19 : Int32) (hp0 : (-2147483648) ≤ (p0).toInt ∧ (p0).toInt ≤ 2147483647) (hp1 : (-2147483648) ≤ (p1).toInt ∧ (p1).toInt ≤ 2147483647) (hp2 : 0 ≤ (p2).toInt ∧ (p2).toInt ≤ 0) (hp3 : 0 ≤ (p3).toInt ∧ (p3).toInt ≤ 900) (hp4 : 0 ≤ (p4).toInt ∧ (p4).toInt ≤ 900) (hp5 : 0 ≤ (p5).toInt ∧ (p5).toInt ≤ 900) (hp6 : 0 ≤ (p6).toInt ∧ (p6).toInt ≤ 900) (hp7 : (-2147483648) ≤ (p7).toInt ∧ (p7).toInt ≤ 2147483647) (hp8 : 0 ≤ (p8).toInt ∧ (p8).toInt ≤ 999) (hp9 : (-2147483648) ≤ (p9).toInt ∧ (p9).toInt ≤ 2147483647) (hp10 : (-2147483648) ≤ (p10).toInt ∧ (p10).toInt ≤ 2147483647) (hp11 : (-2147483648) ≤ (p11).toInt ∧ (p11).toInt ≤ 2147483647) (hp12 : (-2147483648) ≤ (p12).toInt ∧ (p12).toInt ≤ 2147483647) (hp13 : (-2147483648) ≤ (p13).toInt ∧ (p13).toInt ≤ 2147483647) (hp14 : (-2147483648) ≤ (p14).toInt ∧ (p14).toInt ≤ 2147483647) (hp15 : (-2147483648) ≤ (p15).toInt ∧ (p15).toInt ≤ 2147483647) (hp16 : (-2147483648) ≤ (p16).toInt ∧ (p16).toInt ≤ 2147483647) (hp17 : (-2147483648) ≤ (p17).toInt ∧ (p17).toInt ≤ 2147483647) (hp18 : (-2147483648) ≤ (p18).toInt ∧ (p18).toInt ≤ 2147483647) (hp19 : 0 ≤ (p19).toInt ∧ (p19).toInt ≤ 10) (htf0_84 : f0 84 = p19) (rf0 : AL f0) (sz : Nat) : MI l yX12_areTwo cX12_areTwo 3 .boolean { frames := 2, cells := 0, slots := 0, locals := 47 } [.ref h0, .int p0, .int p1] D cy (wk_e1f596b07 cy h0 p2 h1 w0 w1 w2 p3 p4 p5 p6 p7 p8 p9 p10 p11 p12 p13 w3 w4 w5 w6 w7 p14 p15 w8 w9 w10 p16 p17 w11 w12 w13 w14 w15 p18 w16 w17 w18 h1 f0) sz (fun r u => (0 ≤ r.toInt ∧ r.toInt ≤ 1) ∧ ((r : Int32).toInt = 0 ∨ (0 ≤ (p0 : Int32).toInt ∧ (p0 : Int32).toInt ≤ 9 ∧ 0 ≤ (p1 : Int32).toInt ∧ (p1 : Int32).toInt ≤ 9)) ∧ True) (fun u => (wk_e1f596b07 cy h0 p2 h1 w0 w1 w2 p3 p4 p5 p6 p7 p8 p9 p10 p11 p12 p13 w3 w4 w5 w6 w7 p14 p15 w8 w9 w10 p16 p17 w11 w12 w13 w14 w15 p18 w16 w17 w18 h1 f0)) 0 0 := by
  refine q_ent (own := RX12) (by decide) rfl (Nat.le_of_ble_eq_true rfl) (fun p e s m below meth c ls X hr hlk hnm hK hT h hA hl => ?_)
  obtain ⟨hx, hb, hml, hown, ht⟩ := id X
  replace hl : lv_has ls 3 [(0, .ref h0), (1, .int p0), (2, .int p1)] := hl
  refine lv_aload_n hx hb dX12_areTwo_0 rfl (lv_at hl 0 rfl) ?_
  refine lv_iload_n hx hb dX12_areTwo_1 rfl (lv_at hl 1 rfl) ?_
  refine lv_i2l hx hb dX12_areTwo_2 rfl ?_
  obtain ⟨z_1, ez_1, hz_1⟩ := e_i2l (x := p0) rfl
  refine q_cl z_1 ez_1 ?_
  clear ez_1
  refine q_callVi (rest := []) (wr := []) X hK hT hA h (fun sz => gX12_isPerson_039c8d6 l D cy h0 h1 z_1 p2 w0 w1 w2 p3 p4 p5 p6 p7 p8 p9 p10 p11 p12 p13 w3 w4 w5 w6 w7 p14 p15 w8 w9 w10 p16 p17 w11 w12 w13 w14 w15 p18 w16 w17 w18 f0 p19 ⟨by omega, by omega⟩ hp2 hp3 hp4 hp5 hp6 (i_rng _) hp8 (i_rng _) (i_rng _) (i_rng _) (i_rng _) (i_rng _) (i_rng _) (i_rng _) (i_rng _) (i_rng _) (i_rng _) hp19 htf0_84 rf0 sz) wm_6_162 wm_6_165 wm_1_12 hd_X12_isPerson wm_6_164 wp_5_8 (ci := 12) (q0 := 0) rfl rfl ⟨Nat.le_of_ble_eq_true rfl, Nat.le_of_ble_eq_true rfl⟩ hl.1 rfl (Nat.le_of_ble_eq_true rfl) dX12_areTwo_3 ⟨Nat.le_of_ble_eq_true rfl, Nat.le_of_ble_eq_true rfl⟩ [0, 1] [] rfl rfl (by decide) rfl rfl (fun r_2 u_2 H locs w_2 h_2 => ?_)
  clear h
  obtain ⟨wr_2, y2_0, _⟩ := w_2
  replace h_2 : qW D _ _ (wk_e1f596b07 cy h0 p2 h1 w0 w1 w2 p3 p4 p5 p6 p7 p8 p9 p10 p11 p12 p13 w3 w4 w5 w6 w7 p14 p15 w8 w9 w10 p16 p17 w11 w12 w13 w14 w15 p18 w16 w17 w18 h1 f0) _ _ := h_2
  refine lv_if_eq (tgt := 27) hx hb dX12_areTwo_6 (by decide) (fun c_3 => ?_) (fun c_3 => ?_)
  · replace c_3 := i_eq (x := r_2) (y := 0) rfl (show (0 : Int32).toInt = 0 by decide) c_3
    refine lv_iconst (v := 0) hx hb dX12_areTwo_27 (by decide) ?_
    exact q_iret X hr hlk hK h_2 rfl (fun _ => 0, fun _ _ => 0, fun _ _ => 0) ⟨⟨by decide +kernel, by decide +kernel⟩, (show (0 : Int32).toInt = 0 ∨ (0 ≤ (p0 : Int32).toInt ∧ (p0 : Int32).toInt ≤ 9 ∧ 0 ≤ (p1 : Int32).toInt ∧ (p1 : Int32).toInt ≤ 9) from by have q0 : (0 : Int32).toInt = 0 := (by decide); (first | (clear y2_0; omega) | omega)), trivial⟩ [0, 1] rfl rfl dX12_areTwo_28 (Nat.le_of_ble_eq_true rfl) (Nat.le_of_ble_eq_true rfl)
  · replace c_3 := i_ne (x := r_2) (y := 0) rfl (show (0 : Int32).toInt = 0 by decide) c_3
    refine lv_aload_n hx hb dX12_areTwo_9 rfl (lv_at hl 0 rfl) ?_
    refine lv_iload_n hx hb dX12_areTwo_10 rfl (lv_at hl 2 rfl) ?_
    refine lv_i2l hx hb dX12_areTwo_11 rfl ?_
    obtain ⟨z_4, ez_4, hz_4⟩ := e_i2l (x := p1) rfl
    refine q_cl z_4 ez_4 ?_
    clear ez_4
    refine q_callVi (rest := []) (wr := []) X hK hT hA h_2 (fun sz => gX12_isPerson_039c8d6 l D cy h0 h1 z_4 p2 w0 w1 w2 p3 p4 p5 p6 p7 p8 p9 p10 p11 p12 p13 w3 w4 w5 w6 w7 p14 p15 w8 w9 w10 p16 p17 w11 w12 w13 w14 w15 p18 w16 w17 w18 f0 p19 ⟨by omega, by omega⟩ hp2 hp3 hp4 hp5 hp6 (i_rng _) hp8 (i_rng _) (i_rng _) (i_rng _) (i_rng _) (i_rng _) (i_rng _) (i_rng _) (i_rng _) (i_rng _) (i_rng _) hp19 htf0_84 rf0 sz) wm_6_162 wm_6_165 wm_1_12 hd_X12_isPerson wm_6_164 wp_5_8 (ci := 12) (q0 := 0) rfl rfl ⟨Nat.le_of_ble_eq_true rfl, Nat.le_of_ble_eq_true rfl⟩ hl.1 rfl (Nat.le_of_ble_eq_true rfl) dX12_areTwo_12 ⟨Nat.le_of_ble_eq_true rfl, Nat.le_of_ble_eq_true rfl⟩ [0, 1] [] rfl rfl (by decide) rfl rfl (fun r_5 u_5 H locs w_5 h_5 => ?_)
    clear h_2
    obtain ⟨wr_5, y5_0, _⟩ := w_5
    replace h_5 : qW D _ _ (wk_e1f596b07 cy h0 p2 h1 w0 w1 w2 p3 p4 p5 p6 p7 p8 p9 p10 p11 p12 p13 w3 w4 w5 w6 w7 p14 p15 w8 w9 w10 p16 p17 w11 w12 w13 w14 w15 p18 w16 w17 w18 h1 f0) _ _ := h_5
    refine lv_if_eq (tgt := 27) hx hb dX12_areTwo_15 (by decide) (fun c_6 => ?_) (fun c_6 => ?_)
    · replace c_6 := i_eq (x := r_5) (y := 0) rfl (show (0 : Int32).toInt = 0 by decide) c_6
      refine lv_iconst (v := 0) hx hb dX12_areTwo_27 (by decide) ?_
      exact q_iret X hr hlk hK h_5 rfl (fun _ => 0, fun _ _ => 0, fun _ _ => 0) ⟨⟨by decide +kernel, by decide +kernel⟩, (show (0 : Int32).toInt = 0 ∨ (0 ≤ (p0 : Int32).toInt ∧ (p0 : Int32).toInt ≤ 9 ∧ 0 ≤ (p1 : Int32).toInt ∧ (p1 : Int32).toInt ≤ 9) from by have q0 : (0 : Int32).toInt = 0 := (by decide); (first | (clear y2_0 y5_0; omega) | omega)), trivial⟩ [0, 1] rfl rfl dX12_areTwo_28 (Nat.le_of_ble_eq_true rfl) (Nat.le_of_ble_eq_true rfl)
    · replace c_6 := i_ne (x := r_5) (y := 0) rfl (show (0 : Int32).toInt = 0 by decide) c_6
      refine lv_iload_n hx hb dX12_areTwo_18 rfl (lv_at hl 1 rfl) ?_
      refine lv_iload_n hx hb dX12_areTwo_19 rfl (lv_at hl 2 rfl) ?_
      refine lv_icmp_eq (tgt := 27) hx hb dX12_areTwo_20 (by decide) (fun c_7 => ?_) (fun c_7 => ?_)
      · replace c_7 := i_eq (x := p0) (y := p1) rfl rfl c_7
        refine lv_iconst (v := 0) hx hb dX12_areTwo_27 (by decide) ?_
        exact q_iret X hr hlk hK h_5 rfl (fun _ => 0, fun _ _ => 0, fun _ _ => 0) ⟨⟨by decide +kernel, by decide +kernel⟩, (show (0 : Int32).toInt = 0 ∨ (0 ≤ (p0 : Int32).toInt ∧ (p0 : Int32).toInt ≤ 9 ∧ 0 ≤ (p1 : Int32).toInt ∧ (p1 : Int32).toInt ≤ 9) from by have q0 : (0 : Int32).toInt = 0 := (by decide); (first | (clear y2_0 y5_0; omega) | omega)), trivial⟩ [0, 1] rfl rfl dX12_areTwo_28 (Nat.le_of_ble_eq_true rfl) (Nat.le_of_ble_eq_true rfl)
      · replace c_7 := i_ne (x := p0) (y := p1) rfl rfl c_7
        refine lv_iconst (v := 1) hx hb dX12_areTwo_23 (by decide) ?_
        refine lv_goto (tgt := 28) hx hb dX12_areTwo_24 (by decide) ?_
        exact q_iret X hr hlk hK h_5 rfl (fun _ => 0, fun _ _ => 0, fun _ _ => 0) ⟨⟨by decide +kernel, by decide +kernel⟩, (show (1 : Int32).toInt = 0 ∨ (0 ≤ (p0 : Int32).toInt ∧ (p0 : Int32).toInt ≤ 9 ∧ 0 ≤ (p1 : Int32).toInt ∧ (p1 : Int32).toInt ≤ 9) from by have q0 : (1 : Int32).toInt = 1 := (by decide); (first | (clear y2_0 y5_0; omega) | omega)), trivial⟩ [0, 1] rfl rfl dX12_areTwo_28 (Nat.le_of_ble_eq_true rfl) (Nat.le_of_ble_eq_true rfl)
set_option maxHeartbeats 4000000 in
set_option maxRecDepth 100000 in
theorem gX12_viewsOf_bc3d930 (l : Launch) (D : va_G) (cy : Nat → ClassId) (h0 : Nat) (h1 : Nat) (p0 : Int32) (p1 : Int32) (w0 : Value) (w1 : Value) (w2 : Value) (p2 : Int32) (p3 : Int32) (p4 : Int32) (p5 : Int32) (p6 : Int32) (p7 : Int32) (p8 : Int32) (p9 : Int32) (p10 : Int32) (p11 : Int32) (p12 : Int32) (w3 : Value) (w4 : Value) (w5 : Value) (w6 : Value) (w7 : Value) (p13 : Int32) (p14 : Int32) (w8 : Value) (w9 : Value) (w10 : Value) (p15 : Int32) (p16 : Int32) (w11 : Value) (w12 : Value) (w13 : Value) (w14 : Value) (w15 : Value) (p17 : Int32) (w16 : Value) (w17 : Value) (w18 : Value) (f0 : Nat → Int32) (p18 : Int32) (hp0 : 0 ≤ (p0).toInt ∧ (p0).toInt ≤ 9) (hp1 : 0 ≤ (p1).toInt ∧ (p1).toInt ≤ 0) (hp2 : 0 ≤ (p2).toInt ∧ (p2).toInt ≤ 900) (hp3 : 0 ≤ (p3).toInt ∧ (p3).toInt ≤ 900) (hp4 : 0 ≤ (p4).toInt ∧ (p4).toInt ≤ 900) (hp5 : 0 ≤ (p5).toInt ∧ (p5).toInt ≤ 900) (hp6 : (-2147483648) ≤ (p6).toInt ∧ (p6).toInt ≤ 2147483647) (hp7 : 0 ≤ (p7).toInt ∧ (p7).toInt ≤ 999) (hp8 : (-2147483648) ≤ (p8).toInt ∧ (p8).toInt ≤ 2147483647) (hp9 : (-2147483648) ≤ (p9).toInt ∧ (p9).toInt ≤ 2147483647) (hp10 : (-2147483648) ≤ (p10).toInt ∧ (p10).toInt ≤ 2147483647) (hp11 : (-2147483648) ≤ (p11).toInt ∧ (p11).toInt ≤ 2147483647) (hp12 : (-2147483648) ≤ (p12).toInt ∧ (p12).toInt ≤ 2147483647) (hp13 : (-2147483648) ≤ (p13).toInt ∧ (p13).toInt ≤ 2147483647) (hp14 : (-2147483648) ≤ (p14).toInt ∧ (p14).toInt ≤ 2147483647) (hp15 : (-2147483648) ≤ (p15).toInt ∧ (p15).toInt ≤ 2147483647) (hp16 : (-2147483648) ≤ (p16).toInt ∧ (p16).toInt ≤ 2147483647) (hp17 : (-2147483648) ≤ (p17).toInt ∧ (p17).toInt ≤ 2147483647) (hp18 : 0 ≤ (p18).toInt ∧ (p18).toInt ≤ 10) (htf0_84 : f0 84 = p18) (rf0 : AL f0) (sz : Nat) : MI l yX12_viewsOf cX12_viewsOf 2 .int { frames := 0, cells := 0, slots := 0, locals := 0 } [.ref h0, .int p0] D cy (wk_e1f596b07 cy h0 p1 h1 w0 w1 w2 p2 p3 p4 p5 p6 p7 p8 p9 p10 p11 p12 w3 w4 w5 w6 w7 p13 p14 w8 w9 w10 p15 p16 w11 w12 w13 w14 w15 p17 w16 w17 w18 h1 f0) sz (fun r u => (0 ≤ r.toInt ∧ r.toInt ≤ 999) ∧ True) (fun u => (wk_e1f596b07 cy h0 p1 h1 w0 w1 w2 p2 p3 p4 p5 p6 p7 p8 p9 p10 p11 p12 w3 w4 w5 w6 w7 p13 p14 w8 w9 w10 p15 p16 w11 w12 w13 w14 w15 p17 w16 w17 w18 h1 f0)) 0 0 := by
  refine q_ent (own := RX12) (by decide) rfl (Nat.le_of_ble_eq_true rfl) (fun p e s m below meth c ls X hr hlk hnm hK hT h hA hl => ?_)
  obtain ⟨hx, hb, hml, hown, ht⟩ := id X
  replace hl : lv_has ls 2 [(0, .ref h0), (1, .int p0)] := hl
  refine lv_bipush (v := 100) hx hb dX12_viewsOf_0 (by decide) ?_
  refine lv_aload_n hx hb dX12_viewsOf_2 rfl (lv_at hl 0 rfl) ?_
  refine q_get X hK h 0 rfl rfl wf_12 1 (by decide) rfl wm_5_171 dX12_viewsOf_3 ?_
  refine lv_bipush (v := 54) hx hb dX12_viewsOf_6 (by decide) ?_
  refine lv_iconst (v := 3) hx hb dX12_viewsOf_8 (by decide) ?_
  refine lv_iload_n hx hb dX12_viewsOf_9 rfl (lv_at hl 1 rfl) ?_
  refine lv_imul hx hb dX12_viewsOf_10 ?_
  obtain ⟨z_1, ez_1, hz_1⟩ := e_mul (x := 3) (y := p0) (show (3 : Int32).toInt = 3 by decide) rfl (by omega) (by omega)
  refine q_c z_1 ez_1 ?_
  clear ez_1
  refine lv_iadd hx hb dX12_viewsOf_11 ?_
  obtain ⟨z_2, ez_2, hz_2⟩ := e_add (x := 54) (y := z_1) (show (54 : Int32).toInt = 54 by decide) rfl (by omega) (by omega)
  refine q_c z_2 ez_2 ?_
  clear ez_2
  refine q_iald X hK h 1 rfl (i_in rfl (by omega) (by omega)) dX12_viewsOf_12 ?_
  obtain ⟨z_3, ez_3, hz_3⟩ := al_W rf0 (x := z_2) rfl (by omega) (by omega)
  refine q_c z_3 ez_3 ?_
  clear ez_3
  refine lv_imul hx hb dX12_viewsOf_13 ?_
  obtain ⟨z_4, ez_4, hz_4⟩ := e_mul (x := 100) (y := z_3) (show (100 : Int32).toInt = 100 by decide) rfl (by omega) (by omega)
  refine q_c z_4 ez_4 ?_
  clear ez_4
  refine lv_bipush (v := 10) hx hb dX12_viewsOf_14 (by decide) ?_
  refine lv_aload_n hx hb dX12_viewsOf_16 rfl (lv_at hl 0 rfl) ?_
  refine q_get X hK h 0 rfl rfl wf_12 1 (by decide) rfl wm_5_171 dX12_viewsOf_17 ?_
  refine lv_bipush (v := 54) hx hb dX12_viewsOf_20 (by decide) ?_
  refine lv_iconst (v := 3) hx hb dX12_viewsOf_22 (by decide) ?_
  refine lv_iload_n hx hb dX12_viewsOf_23 rfl (lv_at hl 1 rfl) ?_
  refine lv_imul hx hb dX12_viewsOf_24 ?_
  obtain ⟨z_5, ez_5, hz_5⟩ := e_mul (x := 3) (y := p0) (show (3 : Int32).toInt = 3 by decide) rfl (by omega) (by omega)
  refine q_c z_5 ez_5 ?_
  clear ez_5
  refine lv_iadd hx hb dX12_viewsOf_25 ?_
  obtain ⟨z_6, ez_6, hz_6⟩ := e_add (x := 54) (y := z_5) (show (54 : Int32).toInt = 54 by decide) rfl (by omega) (by omega)
  refine q_c z_6 ez_6 ?_
  clear ez_6
  refine lv_iconst (v := 1) hx hb dX12_viewsOf_26 (by decide) ?_
  refine lv_iadd hx hb dX12_viewsOf_27 ?_
  obtain ⟨z_7, ez_7, hz_7⟩ := e_add (x := z_6) (y := 1) rfl (show (1 : Int32).toInt = 1 by decide) (by omega) (by omega)
  refine q_c z_7 ez_7 ?_
  clear ez_7
  refine q_iald X hK h 1 rfl (i_in rfl (by omega) (by omega)) dX12_viewsOf_28 ?_
  obtain ⟨z_8, ez_8, hz_8⟩ := al_W rf0 (x := z_7) rfl (by omega) (by omega)
  refine q_c z_8 ez_8 ?_
  clear ez_8
  refine lv_imul hx hb dX12_viewsOf_29 ?_
  obtain ⟨z_9, ez_9, hz_9⟩ := e_mul (x := 10) (y := z_8) (show (10 : Int32).toInt = 10 by decide) rfl (by omega) (by omega)
  refine q_c z_9 ez_9 ?_
  clear ez_9
  refine lv_iadd hx hb dX12_viewsOf_30 ?_
  obtain ⟨z_10, ez_10, hz_10⟩ := e_add (x := z_4) (y := z_9) rfl rfl (by omega) (by omega)
  refine q_c z_10 ez_10 ?_
  clear ez_10
  refine lv_aload_n hx hb dX12_viewsOf_31 rfl (lv_at hl 0 rfl) ?_
  refine q_get X hK h 0 rfl rfl wf_12 1 (by decide) rfl wm_5_171 dX12_viewsOf_32 ?_
  refine lv_bipush (v := 54) hx hb dX12_viewsOf_35 (by decide) ?_
  refine lv_iconst (v := 3) hx hb dX12_viewsOf_37 (by decide) ?_
  refine lv_iload_n hx hb dX12_viewsOf_38 rfl (lv_at hl 1 rfl) ?_
  refine lv_imul hx hb dX12_viewsOf_39 ?_
  obtain ⟨z_11, ez_11, hz_11⟩ := e_mul (x := 3) (y := p0) (show (3 : Int32).toInt = 3 by decide) rfl (by omega) (by omega)
  refine q_c z_11 ez_11 ?_
  clear ez_11
  refine lv_iadd hx hb dX12_viewsOf_40 ?_
  obtain ⟨z_12, ez_12, hz_12⟩ := e_add (x := 54) (y := z_11) (show (54 : Int32).toInt = 54 by decide) rfl (by omega) (by omega)
  refine q_c z_12 ez_12 ?_
  clear ez_12
  refine lv_iconst (v := 2) hx hb dX12_viewsOf_41 (by decide) ?_
  refine lv_iadd hx hb dX12_viewsOf_42 ?_
  obtain ⟨z_13, ez_13, hz_13⟩ := e_add (x := z_12) (y := 2) rfl (show (2 : Int32).toInt = 2 by decide) (by omega) (by omega)
  refine q_c z_13 ez_13 ?_
  clear ez_13
  refine q_iald X hK h 1 rfl (i_in rfl (by omega) (by omega)) dX12_viewsOf_43 ?_
  obtain ⟨z_14, ez_14, hz_14⟩ := al_W rf0 (x := z_13) rfl (by omega) (by omega)
  refine q_c z_14 ez_14 ?_
  clear ez_14
  refine lv_iadd hx hb dX12_viewsOf_44 ?_
  obtain ⟨z_15, ez_15, hz_15⟩ := e_add (x := z_10) (y := z_14) rfl rfl (by omega) (by omega)
  refine q_c z_15 ez_15 ?_
  clear ez_15
  exact q_iret X hr hlk hK h rfl (fun _ => 0, fun _ _ => 0, fun _ _ => 0) ⟨⟨by omega, by omega⟩, trivial⟩ [0, 1] rfl rfl dX12_viewsOf_45 (Nat.le_of_ble_eq_true rfl) (Nat.le_of_ble_eq_true rfl)
set_option maxHeartbeats 4000000 in
set_option maxRecDepth 100000 in
theorem gX12_puts_2de0910 (l : Launch) (D : va_G) (cy : Nat → ClassId) (h0 : Nat) (h1 : Nat) (p0 : Int32) (p1 : Int32) (p2 : Int32) (w0 : Value) (w1 : Value) (w2 : Value) (p3 : Int32) (p4 : Int32) (p5 : Int32) (p6 : Int32) (p7 : Int32) (p8 : Int32) (p9 : Int32) (p10 : Int32) (p11 : Int32) (p12 : Int32) (p13 : Int32) (w3 : Value) (w4 : Value) (w5 : Value) (w6 : Value) (w7 : Value) (p14 : Int32) (p15 : Int32) (w8 : Value) (w9 : Value) (w10 : Value) (p16 : Int32) (p17 : Int32) (w11 : Value) (w12 : Value) (w13 : Value) (w14 : Value) (w15 : Value) (p18 : Int32) (w16 : Value) (w17 : Value) (w18 : Value) (f0 : Nat → Int32) (p19 : Int32) (hp0 : 0 ≤ (p0).toInt ∧ (p0).toInt ≤ 9) (hp1 : 0 ≤ (p1).toInt ∧ (p1).toInt ≤ 999) (hp2 : 0 ≤ (p2).toInt ∧ (p2).toInt ≤ 0) (hp3 : 0 ≤ (p3).toInt ∧ (p3).toInt ≤ 900) (hp4 : 0 ≤ (p4).toInt ∧ (p4).toInt ≤ 900) (hp5 : 0 ≤ (p5).toInt ∧ (p5).toInt ≤ 900) (hp6 : 0 ≤ (p6).toInt ∧ (p6).toInt ≤ 900) (hp7 : (-2147483648) ≤ (p7).toInt ∧ (p7).toInt ≤ 2147483647) (hp8 : 0 ≤ (p8).toInt ∧ (p8).toInt ≤ 999) (hp9 : (-2147483648) ≤ (p9).toInt ∧ (p9).toInt ≤ 2147483647) (hp10 : (-2147483648) ≤ (p10).toInt ∧ (p10).toInt ≤ 2147483647) (hp11 : (-2147483648) ≤ (p11).toInt ∧ (p11).toInt ≤ 2147483647) (hp12 : (-2147483648) ≤ (p12).toInt ∧ (p12).toInt ≤ 2147483647) (hp13 : (-2147483648) ≤ (p13).toInt ∧ (p13).toInt ≤ 2147483647) (hp14 : (-2147483648) ≤ (p14).toInt ∧ (p14).toInt ≤ 2147483647) (hp15 : (-2147483648) ≤ (p15).toInt ∧ (p15).toInt ≤ 2147483647) (hp16 : (-2147483648) ≤ (p16).toInt ∧ (p16).toInt ≤ 2147483647) (hp17 : (-2147483648) ≤ (p17).toInt ∧ (p17).toInt ≤ 2147483647) (hp18 : (-2147483648) ≤ (p18).toInt ∧ (p18).toInt ≤ 2147483647) (hp19 : 0 ≤ (p19).toInt ∧ (p19).toInt ≤ 10) (htf0_84 : f0 84 = p19) (rf0 : AL f0) (sz : Nat) : MV l yX12_puts cX12_puts 3 { frames := 0, cells := 0, slots := 0, locals := 0 } [.ref h0, .int p0, .int p1] D cy (wk_e1f596b07 cy h0 p2 h1 w0 w1 w2 p3 p4 p5 p6 p7 p8 p9 p10 p11 p12 p13 w3 w4 w5 w6 w7 p14 p15 w8 w9 w10 p16 p17 w11 w12 w13 w14 w15 p18 w16 w17 w18 h1 f0) sz (fun u => AL (u.2.1 0) ∧ (u.2.1 0) 84 = p19 ∧ True) (fun u => (wk_e1f596b07 cy h0 p2 h1 w0 w1 w2 p3 p4 p5 p6 p7 p8 p9 p10 p11 p12 p13 w3 w4 w5 w6 w7 p14 p15 w8 w9 w10 p16 p17 w11 w12 w13 w14 w15 p18 w16 w17 w18 h1 (u.2.1 0))) 0 0 := by
  refine q_ent (own := RX12) (by decide) rfl (Nat.le_of_ble_eq_true rfl) (fun p e s m below meth c ls X hr hlk hnm hK hT h hA hl => ?_)
  obtain ⟨hx, hb, hml, hown, ht⟩ := id X
  replace hl : lv_has ls 3 [(0, .ref h0), (1, .int p0), (2, .int p1)] := hl
  refine lv_aload_n hx hb dX12_puts_0 rfl (lv_at hl 0 rfl) ?_
  refine q_get X hK h 0 rfl rfl wf_12 1 (by decide) rfl wm_5_171 dX12_puts_1 ?_
  refine lv_bipush (v := 54) hx hb dX12_puts_4 (by decide) ?_
  refine lv_iconst (v := 3) hx hb dX12_puts_6 (by decide) ?_
  refine lv_iload_n hx hb dX12_puts_7 rfl (lv_at hl 1 rfl) ?_
  refine lv_imul hx hb dX12_puts_8 ?_
  obtain ⟨z_1, ez_1, hz_1⟩ := e_mul (x := 3) (y := p0) (show (3 : Int32).toInt = 3 by decide) rfl (by omega) (by omega)
  refine q_c z_1 ez_1 ?_
  clear ez_1
  refine lv_iadd hx hb dX12_puts_9 ?_
  obtain ⟨z_2, ez_2, hz_2⟩ := e_add (x := 54) (y := z_1) (show (54 : Int32).toInt = 54 by decide) rfl (by omega) (by omega)
  refine q_c z_2 ez_2 ?_
  clear ez_2
  refine lv_iload_n hx hb dX12_puts_10 rfl (lv_at hl 2 rfl) ?_
  refine lv_bipush (v := 100) hx hb dX12_puts_11 (by decide) ?_
  refine lv_idiv hx hb dX12_puts_13 (by decide) ?_
  obtain ⟨z_3, ez_3, hz_3⟩ := e_div (x := p1) (y := 100) rfl (show (100 : Int32).toInt = 100 by decide) (by omega) (by omega)
  refine q_c z_3 ez_3 ?_
  clear ez_3
  refine q_iast X hK h 1 rfl (i_in rfl (by omega) (by omega)) dX12_puts_14 (fun H locs h_5 => ?_)
  clear h
  replace h_5 : qW D _ _ (wk_e1f596b07 cy h0 p2 h1 w0 w1 w2 p3 p4 p5 p6 p7 p8 p9 p10 p11 p12 p13 w3 w4 w5 w6 w7 p14 p15 w8 w9 w10 p16 p17 w11 w12 w13 w14 w15 p18 w16 w17 w18 h1 (upd f0 (Int32.toNatClampNeg z_2) z_3)) _ _ := h_5
  obtain ⟨F_4, eF_4, rF_4⟩ := al_upd rf0 (i := z_2) (x := z_3) rfl rfl (by omega)
  have trF_4_84 := (tr_ne eF_4 htf0_84 rfl (by omega))
  rw [eF_4] at h_5
  clear eF_4
  refine lv_aload_n hx hb dX12_puts_15 rfl (lv_at hl 0 rfl) ?_
  refine q_get X hK h_5 0 rfl rfl wf_12 1 (by decide) rfl wm_5_171 dX12_puts_16 ?_
  refine lv_bipush (v := 54) hx hb dX12_puts_19 (by decide) ?_
  refine lv_iconst (v := 3) hx hb dX12_puts_21 (by decide) ?_
  refine lv_iload_n hx hb dX12_puts_22 rfl (lv_at hl 1 rfl) ?_
  refine lv_imul hx hb dX12_puts_23 ?_
  obtain ⟨z_6, ez_6, hz_6⟩ := e_mul (x := 3) (y := p0) (show (3 : Int32).toInt = 3 by decide) rfl (by omega) (by omega)
  refine q_c z_6 ez_6 ?_
  clear ez_6
  refine lv_iadd hx hb dX12_puts_24 ?_
  obtain ⟨z_7, ez_7, hz_7⟩ := e_add (x := 54) (y := z_6) (show (54 : Int32).toInt = 54 by decide) rfl (by omega) (by omega)
  refine q_c z_7 ez_7 ?_
  clear ez_7
  refine lv_iconst (v := 1) hx hb dX12_puts_25 (by decide) ?_
  refine lv_iadd hx hb dX12_puts_26 ?_
  obtain ⟨z_8, ez_8, hz_8⟩ := e_add (x := z_7) (y := 1) rfl (show (1 : Int32).toInt = 1 by decide) (by omega) (by omega)
  refine q_c z_8 ez_8 ?_
  clear ez_8
  refine lv_iload_n hx hb dX12_puts_27 rfl (lv_at hl 2 rfl) ?_
  refine lv_bipush (v := 10) hx hb dX12_puts_28 (by decide) ?_
  refine lv_idiv hx hb dX12_puts_30 (by decide) ?_
  obtain ⟨z_9, ez_9, hz_9⟩ := e_div (x := p1) (y := 10) rfl (show (10 : Int32).toInt = 10 by decide) (by omega) (by omega)
  refine q_c z_9 ez_9 ?_
  clear ez_9
  refine lv_bipush (v := 10) hx hb dX12_puts_31 (by decide) ?_
  refine lv_irem hx hb dX12_puts_33 (by decide) ?_
  obtain ⟨z_10, ez_10, hz_10⟩ := e_rem (x := z_9) (y := 10) rfl (show (10 : Int32).toInt = 10 by decide) (by omega) (by omega)
  refine q_c z_10 ez_10 ?_
  clear ez_10
  refine q_iast X hK h_5 1 rfl (i_in rfl (by omega) (by omega)) dX12_puts_34 (fun H locs h_12 => ?_)
  clear h_5
  replace h_12 : qW D _ _ (wk_e1f596b07 cy h0 p2 h1 w0 w1 w2 p3 p4 p5 p6 p7 p8 p9 p10 p11 p12 p13 w3 w4 w5 w6 w7 p14 p15 w8 w9 w10 p16 p17 w11 w12 w13 w14 w15 p18 w16 w17 w18 h1 (upd F_4 (Int32.toNatClampNeg z_8) z_10)) _ _ := h_12
  obtain ⟨F_11, eF_11, rF_11⟩ := al_upd rF_4 (i := z_8) (x := z_10) rfl rfl (by omega)
  have trF_11_84 := (tr_ne eF_11 trF_4_84 rfl (by omega))
  rw [eF_11] at h_12
  clear eF_11
  refine lv_aload_n hx hb dX12_puts_35 rfl (lv_at hl 0 rfl) ?_
  refine q_get X hK h_12 0 rfl rfl wf_12 1 (by decide) rfl wm_5_171 dX12_puts_36 ?_
  refine lv_bipush (v := 54) hx hb dX12_puts_39 (by decide) ?_
  refine lv_iconst (v := 3) hx hb dX12_puts_41 (by decide) ?_
  refine lv_iload_n hx hb dX12_puts_42 rfl (lv_at hl 1 rfl) ?_
  refine lv_imul hx hb dX12_puts_43 ?_
  obtain ⟨z_13, ez_13, hz_13⟩ := e_mul (x := 3) (y := p0) (show (3 : Int32).toInt = 3 by decide) rfl (by omega) (by omega)
  refine q_c z_13 ez_13 ?_
  clear ez_13
  refine lv_iadd hx hb dX12_puts_44 ?_
  obtain ⟨z_14, ez_14, hz_14⟩ := e_add (x := 54) (y := z_13) (show (54 : Int32).toInt = 54 by decide) rfl (by omega) (by omega)
  refine q_c z_14 ez_14 ?_
  clear ez_14
  refine lv_iconst (v := 2) hx hb dX12_puts_45 (by decide) ?_
  refine lv_iadd hx hb dX12_puts_46 ?_
  obtain ⟨z_15, ez_15, hz_15⟩ := e_add (x := z_14) (y := 2) rfl (show (2 : Int32).toInt = 2 by decide) (by omega) (by omega)
  refine q_c z_15 ez_15 ?_
  clear ez_15
  refine lv_iload_n hx hb dX12_puts_47 rfl (lv_at hl 2 rfl) ?_
  refine lv_bipush (v := 10) hx hb dX12_puts_48 (by decide) ?_
  refine lv_irem hx hb dX12_puts_50 (by decide) ?_
  obtain ⟨z_16, ez_16, hz_16⟩ := e_rem (x := p1) (y := 10) rfl (show (10 : Int32).toInt = 10 by decide) (by omega) (by omega)
  refine q_c z_16 ez_16 ?_
  clear ez_16
  refine q_iast X hK h_12 1 rfl (i_in rfl (by omega) (by omega)) dX12_puts_51 (fun H locs h_18 => ?_)
  clear h_12
  replace h_18 : qW D _ _ (wk_e1f596b07 cy h0 p2 h1 w0 w1 w2 p3 p4 p5 p6 p7 p8 p9 p10 p11 p12 p13 w3 w4 w5 w6 w7 p14 p15 w8 w9 w10 p16 p17 w11 w12 w13 w14 w15 p18 w16 w17 w18 h1 (upd F_11 (Int32.toNatClampNeg z_15) z_16)) _ _ := h_18
  obtain ⟨F_17, eF_17, rF_17⟩ := al_upd rF_11 (i := z_15) (x := z_16) rfl rfl (by omega)
  have trF_17_84 := (tr_ne eF_17 trF_11_84 rfl (by omega))
  rw [eF_17] at h_18
  clear eF_17
  exact q_vret X hr hlk hK h_18 (fun _ => 0, (vcons F_17 (fun _ => (fun _ => 0))), fun _ _ => 0) ⟨rF_17, trF_17_84, trivial⟩ [0, 1] rfl rfl dX12_puts_52 (Nat.le_of_ble_eq_true rfl) (Nat.le_of_ble_eq_true rfl)
