def wk_ae6db6c48 (cy : Nat → ClassId) (a0 : Nat) (a1 : Nat → Int32) (a2 : Nat) (a3 : Nat → Int32) (a4 : Nat) (a5 : Nat → Int32) (a6 : Nat) (a7 : Int32) (a8 : Nat) (a9 a10 a11 : Value) (a12 a13 a14 a15 a16 a17 a18 a19 a20 a21 a22 : Int32) (a23 a24 : Nat) (a25 : Value) (a26 : Nat) (a27 : Value) (a28 a29 : Int32) (a30 : Nat) (a31 a32 : Value) (a33 a34 : Int32) (a35 a36 a37 a38 a39 : Value) (a40 : Int32) (a41 a42 a43 : Value) (a44 : Nat) (a45 : Nat → Int32) (a46 : Nat) (a47 : Nat → Int32) : va_W := [(a0, .inl (cy 1, 900, .inl a1)), (a2, .inl (cy 1, 11, .inl a3)), (a4, .inl (cy 1, 10, .inl a5)), (a6, .inr (12, [.int a7, .ref a8, a9, a10, a11, .int a12, .int a13, .int a14, .int a15, .int a16, .int a17, .int a18, .int a19, .int a20, .int a21, .int a22, .ref a23, .ref a24, a25, .ref a26, a27, .int a28, .int a29, .ref a30, a31, a32, .int a33, .int a34, a35, a36, a37, a38, a39, .int a40, a41, a42, a43])), (a44, .inl (cy 1, 3918, .inl a45)), (a46, .inl (cy 1, 1024, .inl a47))]
def wk_34f117831 (cy : Nat → ClassId) (a0 : Nat) (a1 : Int32) (a2 a3 a4 a5 : Value) (a6 a7 a8 a9 a10 a11 a12 a13 a14 a15 a16 : Int32) (a17 a18 a19 a20 a21 : Value) (a22 a23 : Int32) (a24 a25 a26 : Value) (a27 a28 : Int32) (a29 a30 a31 a32 a33 : Value) (a34 : Int32) (a35 a36 a37 a38 : Nat) (a39 : Nat → Int32) (a40 : Nat) (a41 : Nat → Int32) (a42 : Nat) (a43 : Nat → Int64) : va_W := [(a0, .inr (12, [.int a1, a2, a3, a4, a5, .int a6, .int a7, .int a8, .int a9, .int a10, .int a11, .int a12, .int a13, .int a14, .int a15, .int a16, a17, a18, a19, a20, a21, .int a22, .int a23, a24, a25, a26, .int a27, .int a28, a29, a30, a31, a32, a33, .int a34, .ref a35, .ref a36, .ref a37])), (a38, .inl (cy 1, 4, .inl a39)), (a40, .inl (cy 1, 4, .inl a41)), (a42, .inl (cy 2, 160, .inr (.inl a43)))]
def wk_2871eb639 (cy : Nat → ClassId) (a0 : Nat) (a1 : Nat → Int32) (a2 : Nat) (a3 : Nat → Int64) (a4 : Nat) (a5 : Int32) (a6 a7 a8 a9 : Value) (a10 a11 a12 a13 a14 a15 a16 a17 a18 a19 a20 : Int32) (a21 a22 a23 a24 a25 : Value) (a26 a27 : Int32) (a28 a29 a30 : Value) (a31 a32 : Int32) (a33 a34 a35 a36 a37 : Value) (a38 : Int32) (a39 a40 a41 a42 : Nat) (a43 : Nat → Int32) : va_W := [(a0, .inl (cy 1, 4, .inl a1)), (a2, .inl (cy 2, 160, .inr (.inl a3))), (a4, .inr (12, [.int a5, a6, a7, a8, a9, .int a10, .int a11, .int a12, .int a13, .int a14, .int a15, .int a16, .int a17, .int a18, .int a19, .int a20, a21, a22, a23, a24, a25, .int a26, .int a27, a28, a29, a30, .int a31, .int a32, a33, a34, a35, a36, a37, .int a38, .ref a39, .ref a40, .ref a41])), (a42, .inl (cy 1, 4, .inl a43))]
def wk_2f75b658b (cy : Nat → ClassId) (a0 : Nat) (a1 : Int32) (a2 : Nat) (a3 a4 a5 : Value) (a6 a7 a8 a9 a10 a11 a12 a13 a14 a15 a16 : Int32) (a17 a18 a19 : Nat) (a20 a21 : Value) (a22 a23 : Int32) (a24 a25 a26 : Value) (a27 a28 : Int32) (a29 a30 a31 a32 a33 : Nat) (a34 : Int32) (a35 a36 a37 a38 : Nat) (a39 : Nat → Int32) (a40 : Nat) (a41 : Nat → Int32) (a42 : Nat) (a43 : Nat → Int32) (a44 : Nat) (a45 : Nat → Int32) (a46 : Nat) (a47 : Nat → Int32) (a48 : Nat) (a49 : Nat → Int32) (a50 : Nat) (a51 : Nat → Int32) (a52 : Nat) (a53 : Nat → Int32) (a54 : Nat) (a55 : Nat → Int32) (a56 : Nat) (a57 : Nat → Int32) (a58 : Nat) (a59 : Nat → Int32) (a60 : Nat) (a61 : Nat → Int64) : va_W := [(a0, .inr (12, [.int a1, .ref a2, a3, a4, a5, .int a6, .int a7, .int a8, .int a9, .int a10, .int a11, .int a12, .int a13, .int a14, .int a15, .int a16, .ref a17, .ref a18, .ref a19, a20, a21, .int a22, .int a23, a24, a25, a26, .int a27, .int a28, .ref a29, .ref a30, .ref a31, .ref a32, .ref a33, .int a34, .ref a35, .ref a36, .ref a37])), (a38, .inl (cy 1, 3918, .inl a39)), (a40, .inl (cy 1, 900, .inl a41)), (a42, .inl (cy 1, 11, .inl a43)), (a44, .inl (cy 1, 3, .inl a45)), (a46, .inl (cy 1, 1000, .inl a47)), (a48, .inl (cy 1, 1000, .inl a49)), (a50, .inl (cy 1, 1000, .inl a51)), (a52, .inl (cy 1, 1000, .inl a53)), (a54, .inl (cy 3, 1000, .inl a55)), (a56, .inl (cy 1, 4, .inl a57)), (a58, .inl (cy 1, 4, .inl a59)), (a60, .inl (cy 2, 160, .inr (.inl a61)))]
def wk_21aebff3a (cy : Nat → ClassId) (a0 : Nat) (a1 : Nat → Int32) (a2 : Nat) (a3 : Nat → Int64) (a4 : Nat) (a5 : Nat → Int32) (a6 : Nat) (a7 : Int32) (a8 : Nat) (a9 a10 a11 : Value) (a12 a13 a14 a15 a16 a17 a18 a19 a20 a21 a22 : Int32) (a23 a24 a25 : Nat) (a26 a27 : Value) (a28 a29 : Int32) (a30 a31 a32 : Value) (a33 a34 : Int32) (a35 a36 a37 a38 a39 : Nat) (a40 : Int32) (a41 a42 a43 a44 : Nat) (a45 : Nat → Int32) (a46 : Nat) (a47 : Nat → Int32) (a48 : Nat) (a49 : Nat → Int32) (a50 : Nat) (a51 : Nat → Int32) (a52 : Nat) (a53 : Nat → Int32) (a54 : Nat) (a55 : Nat → Int32) (a56 : Nat) (a57 : Nat → Int32) (a58 : Nat) (a59 : Nat → Int32) (a60 : Nat) (a61 : Nat → Int32) : va_W := [(a0, .inl (cy 1, 4, .inl a1)), (a2, .inl (cy 2, 160, .inr (.inl a3))), (a4, .inl (cy 1, 4, .inl a5)), (a6, .inr (12, [.int a7, .ref a8, a9, a10, a11, .int a12, .int a13, .int a14, .int a15, .int a16, .int a17, .int a18, .int a19, .int a20, .int a21, .int a22, .ref a23, .ref a24, .ref a25, a26, a27, .int a28, .int a29, a30, a31, a32, .int a33, .int a34, .ref a35, .ref a36, .ref a37, .ref a38, .ref a39, .int a40, .ref a41, .ref a42, .ref a43])), (a44, .inl (cy 1, 3918, .inl a45)), (a46, .inl (cy 1, 900, .inl a47)), (a48, .inl (cy 1, 11, .inl a49)), (a50, .inl (cy 1, 3, .inl a51)), (a52, .inl (cy 1, 1000, .inl a53)), (a54, .inl (cy 1, 1000, .inl a55)), (a56, .inl (cy 1, 1000, .inl a57)), (a58, .inl (cy 1, 1000, .inl a59)), (a60, .inl (cy 3, 1000, .inl a61))]
def wk_6d10e025c (cy : Nat → ClassId) (a0 : Nat) (a1 : Int32) (a2 a3 : Nat) (a4 a5 : Value) (a6 a7 a8 a9 a10 a11 a12 a13 a14 a15 a16 : Int32) (a17 a18 a19 a20 a21 : Value) (a22 a23 : Int32) (a24 a25 a26 : Value) (a27 a28 : Int32) (a29 a30 a31 a32 a33 : Value) (a34 : Int32) (a35 a36 a37 : Value) (a38 : Nat) (a39 : Nat → Int32) (a40 : Nat) (a41 : Nat → Int32) : va_W := [(a0, .inr (12, [.int a1, .ref a2, .ref a3, a4, a5, .int a6, .int a7, .int a8, .int a9, .int a10, .int a11, .int a12, .int a13, .int a14, .int a15, .int a16, a17, a18, a19, a20, a21, .int a22, .int a23, a24, a25, a26, .int a27, .int a28, a29, a30, a31, a32, a33, .int a34, a35, a36, a37])), (a38, .inl (cy 1, 3918, .inl a39)), (a40, .inl (cy 3, 2, .inl a41))]
theorem wm_8_13 : Cond.methodLink RX12 422 yX12_chanceOf ∈ WG := wg_t8 (List.mem_of_getElem? (i := 13) rfl) rfl
theorem wm_8_16 : Cond.code yX12_chanceOf cX12_chanceOf 8 (some .long) ∈ WG := wg_t8 (List.mem_of_getElem? (i := 16) rfl) rfl
theorem wm_8_15 : Cond.instanceMethod yX12_chanceOf ∈ WG := wg_t8 (List.mem_of_getElem? (i := 15) rfl) rfl
theorem wp_8_3 : Cond.selects RX12 yX12_chanceOf yX12_chanceOf ∈ WG := wg_p (q := (yX12_chanceOf, 37)) (wg_p8 (List.mem_of_getElem? (i := 3) rfl)) rfl
theorem wm_8_17 : Cond.methodLink RX12 426 yX12_tens ∈ WG := wg_t8 (List.mem_of_getElem? (i := 17) rfl) rfl
theorem wm_8_19 : Cond.code yX12_tens cX12_tens 4 (some .long) ∈ WG := wg_t8 (List.mem_of_getElem? (i := 19) rfl) rfl
theorem wm_8_18 : Cond.static yX12_tens ∈ WG := wg_t8 (List.mem_of_getElem? (i := 18) rfl) rfl
theorem wm_8_12 : Cond.constantLong RX12 420 (-3) ∈ WG := wg_t8 (List.mem_of_getElem? (i := 12) rfl) rfl
theorem wm_8_11 : Cond.constantLong RX12 418 (-2) ∈ WG := wg_t8 (List.mem_of_getElem? (i := 11) rfl) rfl
theorem wm_8_36 : Cond.methodLink RX12 431 yX12_cut ∈ WG := wg_t8 (List.mem_of_getElem? (i := 36) rfl) rfl
theorem wm_8_38 : Cond.code yX12_cut cX12_cut 3 (some .long) ∈ WG := wg_t8 (List.mem_of_getElem? (i := 38) rfl) rfl
theorem wm_8_37 : Cond.static yX12_cut ∈ WG := wg_t8 (List.mem_of_getElem? (i := 37) rfl) rfl
theorem wm_8_35 : Cond.constantLong RX12 429 (-7) ∈ WG := wg_t8 (List.mem_of_getElem? (i := 35) rfl) rfl
theorem wm_5_172 : Cond.fieldLink RX12 17 "OppositeHouseModel" "hasImage" "[Z" ∈ WG := wg_t5 (List.mem_of_getElem? (i := 172) rfl) rfl
theorem wm_8_55 : Cond.methodLink RX12 435 yX12_twosNow ∈ WG := wg_t8 (List.mem_of_getElem? (i := 55) rfl) rfl
theorem wm_8_58 : Cond.code yX12_twosNow cX12_twosNow 3 (some .int) ∈ WG := wg_t8 (List.mem_of_getElem? (i := 58) rfl) rfl
theorem wm_8_57 : Cond.instanceMethod yX12_twosNow ∈ WG := wg_t8 (List.mem_of_getElem? (i := 57) rfl) rfl
theorem wp_8_4 : Cond.selects RX12 yX12_twosNow yX12_twosNow ∈ WG := wg_p (q := (yX12_twosNow, 37)) (wg_p8 (List.mem_of_getElem? (i := 4) rfl)) rfl
theorem hd_X12_chanceOf : yX12_chanceOf.cls ≠ "java/lang/invoke/MethodHandle" ∧ yX12_chanceOf.cls ≠ "java/lang/invoke/VarHandle" ∧ (parseMethodDescriptor yX12_chanceOf.desc).map (fun d => d.parameters.length) = some 1 := by decide +kernel
theorem hd_X12_tens : yX12_tens.cls ≠ "java/lang/invoke/MethodHandle" ∧ yX12_tens.cls ≠ "java/lang/invoke/VarHandle" ∧ (parseMethodDescriptor yX12_tens.desc).map (fun d => d.parameters.length) = some 1 := by decide +kernel
theorem hd_X12_cut : yX12_cut.cls ≠ "java/lang/invoke/MethodHandle" ∧ yX12_cut.cls ≠ "java/lang/invoke/VarHandle" ∧ (parseMethodDescriptor yX12_cut.desc).map (fun d => d.parameters.length) = some 2 := by decide +kernel
theorem hd_X12_twosNow : yX12_twosNow.cls ≠ "java/lang/invoke/MethodHandle" ∧ yX12_twosNow.cls ≠ "java/lang/invoke/VarHandle" ∧ (parseMethodDescriptor yX12_twosNow.desc).map (fun d => d.parameters.length) = some 0 := by decide +kernel
theorem dX12_chance_0 : decode cX12_chance 0 = .ok (.aload_n 0, 1) := by decide +kernel
theorem dX12_chance_1 : decode cX12_chance 1 = .ok (.iconst 0, 1) := by decide +kernel
theorem dX12_chance_2 : decode cX12_chance 2 = .ok (.putfield 1, 3) := by decide +kernel
theorem dX12_chance_5 : decode cX12_chance 5 = .ok (.iload_n 2, 1) := by decide +kernel
theorem dX12_chance_6 : decode cX12_chance 6 = .ok (.i2l, 1) := by decide +kernel
theorem dX12_chance_7 : decode cX12_chance 7 = .ok (.lconst 0, 1) := by decide +kernel
theorem dX12_chance_8 : decode cX12_chance 8 = .ok (.lconst 1, 1) := by decide +kernel
theorem dX12_chance_9 : decode cX12_chance 9 = .ok (.invokestatic 145, 3) := by decide +kernel
theorem dX12_chance_12 : decode cX12_chance 12 = .ok (.ifCond .ne 7, 3) := by decide +kernel
theorem dX12_chance_15 : decode cX12_chance 15 = .ok (.ldc2_w 418, 3) := by decide +kernel
theorem dX12_chance_18 : decode cX12_chance 18 = .ok (.lreturn, 1) := by decide +kernel
theorem dX12_chance_19 : decode cX12_chance 19 = .ok (.aload_n 0, 1) := by decide +kernel
theorem dX12_chance_20 : decode cX12_chance 20 = .ok (.iload_n 1, 1) := by decide +kernel
theorem dX12_chance_21 : decode cX12_chance 21 = .ok (.invokevirtual 349, 3) := by decide +kernel
theorem dX12_chance_24 : decode cX12_chance 24 = .ok (.ifCond .ne 7, 3) := by decide +kernel
theorem dX12_chance_27 : decode cX12_chance 27 = .ok (.ldc2_w 420, 3) := by decide +kernel
theorem dX12_chance_30 : decode cX12_chance 30 = .ok (.lreturn, 1) := by decide +kernel
theorem dX12_chance_31 : decode cX12_chance 31 = .ok (.aload_n 0, 1) := by decide +kernel
theorem dX12_chance_32 : decode cX12_chance 32 = .ok (.invokevirtual 346, 3) := by decide +kernel
theorem dX12_chance_35 : decode cX12_chance 35 = .ok (.aload_n 0, 1) := by decide +kernel
theorem dX12_chance_36 : decode cX12_chance 36 = .ok (.iload_n 1, 1) := by decide +kernel
theorem dX12_chance_37 : decode cX12_chance 37 = .ok (.invokevirtual 422, 3) := by decide +kernel
theorem dX12_chance_40 : decode cX12_chance 40 = .ok (.lstore_n 3, 1) := by decide +kernel
theorem dX12_chance_41 : decode cX12_chance 41 = .ok (.iload_n 1, 1) := by decide +kernel
theorem dX12_chance_42 : decode cX12_chance 42 = .ok (.invokestatic 281, 3) := by decide +kernel
theorem dX12_chance_45 : decode cX12_chance 45 = .ok (.invokestatic 426, 3) := by decide +kernel
theorem dX12_chance_48 : decode cX12_chance 48 = .ok (.lstore 5, 2) := by decide +kernel
theorem dX12_chance_50 : decode cX12_chance 50 = .ok (.lload_n 3, 1) := by decide +kernel
theorem dX12_chance_51 : decode cX12_chance 51 = .ok (.lload 5, 2) := by decide +kernel
theorem dX12_chance_53 : decode cX12_chance 53 = .ok (.invokestatic 414, 3) := by decide +kernel
theorem dX12_chance_56 : decode cX12_chance 56 = .ok (.lstore 7, 2) := by decide +kernel
theorem dX12_chance_58 : decode cX12_chance 58 = .ok (.iload_n 2, 1) := by decide +kernel
theorem dX12_chance_59 : decode cX12_chance 59 = .ok (.ifCond .ne 7, 3) := by decide +kernel
theorem dX12_chance_62 : decode cX12_chance 62 = .ok (.lload_n 3, 1) := by decide +kernel
theorem dX12_chance_63 : decode cX12_chance 63 = .ok (.goto 5, 3) := by decide +kernel
theorem dX12_chance_66 : decode cX12_chance 66 = .ok (.lload 5, 2) := by decide +kernel
theorem dX12_chance_68 : decode cX12_chance 68 = .ok (.lload 7, 2) := by decide +kernel
theorem dX12_chance_70 : decode cX12_chance 70 = .ok (.ldiv, 1) := by decide +kernel
theorem dX12_chance_71 : decode cX12_chance 71 = .ok (.lreturn, 1) := by decide +kernel
theorem dX12_count_0 : decode cX12_count 0 = .ok (.aload_n 0, 1) := by decide +kernel
theorem dX12_count_1 : decode cX12_count 1 = .ok (.iconst 0, 1) := by decide +kernel
theorem dX12_count_2 : decode cX12_count 2 = .ok (.putfield 1, 3) := by decide +kernel
theorem dX12_count_5 : decode cX12_count 5 = .ok (.iload_n 1, 1) := by decide +kernel
theorem dX12_count_6 : decode cX12_count 6 = .ok (.tableswitch 110 0 8 #[50, 57, 64, 69, 77, 85, 90, 98, 103], 50) := by decide +kernel
theorem dX12_count_56 : decode cX12_count 56 = .ok (.aload_n 0, 1) := by decide +kernel
theorem dX12_count_57 : decode cX12_count 57 = .ok (.getfield 13, 3) := by decide +kernel
theorem dX12_count_60 : decode cX12_count 60 = .ok (.iconst 1, 1) := by decide +kernel
theorem dX12_count_61 : decode cX12_count 61 = .ok (.iaload, 1) := by decide +kernel
theorem dX12_count_62 : decode cX12_count 62 = .ok (.ireturn, 1) := by decide +kernel
theorem dX12_count_63 : decode cX12_count 63 = .ok (.aload_n 0, 1) := by decide +kernel
theorem dX12_count_64 : decode cX12_count 64 = .ok (.getfield 13, 3) := by decide +kernel
theorem dX12_count_67 : decode cX12_count 67 = .ok (.iconst 2, 1) := by decide +kernel
theorem dX12_count_68 : decode cX12_count 68 = .ok (.iaload, 1) := by decide +kernel
theorem dX12_count_69 : decode cX12_count 69 = .ok (.ireturn, 1) := by decide +kernel
theorem dX12_count_70 : decode cX12_count 70 = .ok (.aload_n 0, 1) := by decide +kernel
theorem dX12_count_71 : decode cX12_count 71 = .ok (.invokevirtual 255, 3) := by decide +kernel
theorem dX12_count_74 : decode cX12_count 74 = .ok (.ireturn, 1) := by decide +kernel
theorem dX12_count_75 : decode cX12_count 75 = .ok (.aload_n 0, 1) := by decide +kernel
theorem dX12_count_76 : decode cX12_count 76 = .ok (.getfield 13, 3) := by decide +kernel
theorem dX12_count_79 : decode cX12_count 79 = .ok (.bipush 53, 2) := by decide +kernel
theorem dX12_count_81 : decode cX12_count 81 = .ok (.iaload, 1) := by decide +kernel
theorem dX12_count_82 : decode cX12_count 82 = .ok (.ireturn, 1) := by decide +kernel
theorem dX12_count_83 : decode cX12_count 83 = .ok (.aload_n 0, 1) := by decide +kernel
theorem dX12_count_84 : decode cX12_count 84 = .ok (.getfield 13, 3) := by decide +kernel
theorem dX12_count_87 : decode cX12_count 87 = .ok (.bipush 52, 2) := by decide +kernel
theorem dX12_count_89 : decode cX12_count 89 = .ok (.iaload, 1) := by decide +kernel
theorem dX12_count_90 : decode cX12_count 90 = .ok (.ireturn, 1) := by decide +kernel
theorem dX12_count_91 : decode cX12_count 91 = .ok (.aload_n 0, 1) := by decide +kernel
theorem dX12_count_92 : decode cX12_count 92 = .ok (.invokevirtual 435, 3) := by decide +kernel
theorem dX12_count_95 : decode cX12_count 95 = .ok (.ireturn, 1) := by decide +kernel
theorem dX12_count_96 : decode cX12_count 96 = .ok (.aload_n 0, 1) := by decide +kernel
theorem dX12_count_97 : decode cX12_count 97 = .ok (.getfield 13, 3) := by decide +kernel
theorem dX12_count_100 : decode cX12_count 100 = .ok (.bipush 84, 2) := by decide +kernel
theorem dX12_count_102 : decode cX12_count 102 = .ok (.iaload, 1) := by decide +kernel
theorem dX12_count_103 : decode cX12_count 103 = .ok (.ireturn, 1) := by decide +kernel
theorem dX12_count_104 : decode cX12_count 104 = .ok (.aload_n 0, 1) := by decide +kernel
theorem dX12_count_105 : decode cX12_count 105 = .ok (.getfield 83, 3) := by decide +kernel
theorem dX12_count_108 : decode cX12_count 108 = .ok (.ireturn, 1) := by decide +kernel
theorem dX12_count_109 : decode cX12_count 109 = .ok (.aload_n 0, 1) := by decide +kernel
theorem dX12_count_110 : decode cX12_count 110 = .ok (.getfield 13, 3) := by decide +kernel
theorem dX12_count_113 : decode cX12_count 113 = .ok (.iconst 0, 1) := by decide +kernel
theorem dX12_count_114 : decode cX12_count 114 = .ok (.iaload, 1) := by decide +kernel
theorem dX12_count_115 : decode cX12_count 115 = .ok (.ireturn, 1) := by decide +kernel
theorem dX12_count_116 : decode cX12_count 116 = .ok (.iconst (-1), 1) := by decide +kernel
theorem dX12_count_117 : decode cX12_count 117 = .ok (.ireturn, 1) := by decide +kernel
theorem dX12_cut_0 : decode cX12_cut 0 = .ok (.iload_n 2, 1) := by decide +kernel
theorem dX12_cut_1 : decode cX12_cut 1 = .ok (.ifCond .ne 10, 3) := by decide +kernel
theorem dX12_cut_4 : decode cX12_cut 4 = .ok (.lload_n 0, 1) := by decide +kernel
theorem dX12_cut_5 : decode cX12_cut 5 = .ok (.l2i, 1) := by decide +kernel
theorem dX12_cut_6 : decode cX12_cut 6 = .ok (.i2b, 1) := by decide +kernel
theorem dX12_cut_7 : decode cX12_cut 7 = .ok (.i2l, 1) := by decide +kernel
theorem dX12_cut_8 : decode cX12_cut 8 = .ok (.goto 27, 3) := by decide +kernel
theorem dX12_cut_11 : decode cX12_cut 11 = .ok (.iload_n 2, 1) := by decide +kernel
theorem dX12_cut_12 : decode cX12_cut 12 = .ok (.iconst 1, 1) := by decide +kernel
theorem dX12_cut_13 : decode cX12_cut 13 = .ok (.if_icmp .ne 10, 3) := by decide +kernel
theorem dX12_cut_16 : decode cX12_cut 16 = .ok (.lload_n 0, 1) := by decide +kernel
theorem dX12_cut_17 : decode cX12_cut 17 = .ok (.l2i, 1) := by decide +kernel
theorem dX12_cut_18 : decode cX12_cut 18 = .ok (.i2s, 1) := by decide +kernel
theorem dX12_cut_19 : decode cX12_cut 19 = .ok (.i2l, 1) := by decide +kernel
theorem dX12_cut_20 : decode cX12_cut 20 = .ok (.goto 15, 3) := by decide +kernel
theorem dX12_cut_23 : decode cX12_cut 23 = .ok (.iload_n 2, 1) := by decide +kernel
theorem dX12_cut_24 : decode cX12_cut 24 = .ok (.iconst 2, 1) := by decide +kernel
theorem dX12_cut_25 : decode cX12_cut 25 = .ok (.if_icmp .ne 9, 3) := by decide +kernel
theorem dX12_cut_28 : decode cX12_cut 28 = .ok (.lload_n 0, 1) := by decide +kernel
theorem dX12_cut_29 : decode cX12_cut 29 = .ok (.l2i, 1) := by decide +kernel
theorem dX12_cut_30 : decode cX12_cut 30 = .ok (.i2l, 1) := by decide +kernel
theorem dX12_cut_31 : decode cX12_cut 31 = .ok (.goto 4, 3) := by decide +kernel
theorem dX12_cut_34 : decode cX12_cut 34 = .ok (.lload_n 0, 1) := by decide +kernel
theorem dX12_cut_35 : decode cX12_cut 35 = .ok (.lreturn, 1) := by decide +kernel
theorem dX12_image_0 : decode cX12_image 0 = .ok (.aload_n 0, 1) := by decide +kernel
theorem dX12_image_1 : decode cX12_image 1 = .ok (.iconst 0, 1) := by decide +kernel
theorem dX12_image_2 : decode cX12_image 2 = .ok (.putfield 1, 3) := by decide +kernel
theorem dX12_image_5 : decode cX12_image 5 = .ok (.iload_n 1, 1) := by decide +kernel
theorem dX12_image_6 : decode cX12_image 6 = .ok (.i2l, 1) := by decide +kernel
theorem dX12_image_7 : decode cX12_image 7 = .ok (.lconst 0, 1) := by decide +kernel
theorem dX12_image_8 : decode cX12_image 8 = .ok (.lconst 1, 1) := by decide +kernel
theorem dX12_image_9 : decode cX12_image 9 = .ok (.invokestatic 145, 3) := by decide +kernel
theorem dX12_image_12 : decode cX12_image 12 = .ok (.ifCond .ne 6, 3) := by decide +kernel
theorem dX12_image_15 : decode cX12_image 15 = .ok (.bipush (-2), 2) := by decide +kernel
theorem dX12_image_17 : decode cX12_image 17 = .ok (.ireturn, 1) := by decide +kernel
theorem dX12_image_18 : decode cX12_image 18 = .ok (.iconst 0, 1) := by decide +kernel
theorem dX12_image_19 : decode cX12_image 19 = .ok (.istore_n 2, 1) := by decide +kernel
theorem dX12_image_20 : decode cX12_image 20 = .ok (.iload_n 2, 1) := by decide +kernel
theorem dX12_image_21 : decode cX12_image 21 = .ok (.sipush 1306, 3) := by decide +kernel
theorem dX12_image_24 : decode cX12_image 24 = .ok (.if_icmp .ge 29, 3) := by decide +kernel
theorem dX12_image_27 : decode cX12_image 27 = .ok (.aload_n 0, 1) := by decide +kernel
theorem dX12_image_28 : decode cX12_image 28 = .ok (.getfield 13, 3) := by decide +kernel
theorem dX12_image_31 : decode cX12_image 31 = .ok (.sipush 1306, 3) := by decide +kernel
theorem dX12_image_34 : decode cX12_image 34 = .ok (.iload_n 1, 1) := by decide +kernel
theorem dX12_image_35 : decode cX12_image 35 = .ok (.iconst 1, 1) := by decide +kernel
theorem dX12_image_36 : decode cX12_image 36 = .ok (.iadd, 1) := by decide +kernel
theorem dX12_image_37 : decode cX12_image 37 = .ok (.imul, 1) := by decide +kernel
theorem dX12_image_38 : decode cX12_image 38 = .ok (.iload_n 2, 1) := by decide +kernel
theorem dX12_image_39 : decode cX12_image 39 = .ok (.iadd, 1) := by decide +kernel
theorem dX12_image_40 : decode cX12_image 40 = .ok (.aload_n 0, 1) := by decide +kernel
theorem dX12_image_41 : decode cX12_image 41 = .ok (.getfield 13, 3) := by decide +kernel
theorem dX12_image_44 : decode cX12_image 44 = .ok (.iload_n 2, 1) := by decide +kernel
theorem dX12_image_45 : decode cX12_image 45 = .ok (.iaload, 1) := by decide +kernel
theorem dX12_image_46 : decode cX12_image 46 = .ok (.iastore, 1) := by decide +kernel
theorem dX12_image_47 : decode cX12_image 47 = .ok (.iinc 2 1, 3) := by decide +kernel
theorem dX12_image_50 : decode cX12_image 50 = .ok (.goto (-30), 3) := by decide +kernel
theorem dX12_image_53 : decode cX12_image 53 = .ok (.aload_n 0, 1) := by decide +kernel
theorem dX12_image_54 : decode cX12_image 54 = .ok (.getfield 17, 3) := by decide +kernel
theorem dX12_image_57 : decode cX12_image 57 = .ok (.iload_n 1, 1) := by decide +kernel
theorem dX12_image_58 : decode cX12_image 58 = .ok (.iconst 1, 1) := by decide +kernel
theorem dX12_image_59 : decode cX12_image 59 = .ok (.bastore, 1) := by decide +kernel
theorem dX12_image_60 : decode cX12_image 60 = .ok (.iconst 0, 1) := by decide +kernel
theorem dX12_image_61 : decode cX12_image 61 = .ok (.ireturn, 1) := by decide +kernel
theorem dX12_lists_0 : decode cX12_lists 0 = .ok (.aload_n 0, 1) := by decide +kernel
theorem dX12_lists_1 : decode cX12_lists 1 = .ok (.iconst 0, 1) := by decide +kernel
theorem dX12_lists_2 : decode cX12_lists 2 = .ok (.putfield 1, 3) := by decide +kernel
theorem dX12_lists_5 : decode cX12_lists 5 = .ok (.iload_n 1, 1) := by decide +kernel
theorem dX12_lists_6 : decode cX12_lists 6 = .ok (.i2l, 1) := by decide +kernel
theorem dX12_lists_7 : decode cX12_lists 7 = .ok (.lconst 0, 1) := by decide +kernel
theorem dX12_lists_8 : decode cX12_lists 8 = .ok (.ldc2_w 311, 3) := by decide +kernel
theorem dX12_lists_11 : decode cX12_lists 11 = .ok (.invokestatic 145, 3) := by decide +kernel
theorem dX12_lists_14 : decode cX12_lists 14 = .ok (.ifCond .eq 12, 3) := by decide +kernel
theorem dX12_lists_17 : decode cX12_lists 17 = .ok (.aload_n 0, 1) := by decide +kernel
theorem dX12_lists_18 : decode cX12_lists 18 = .ok (.iload_n 2, 1) := by decide +kernel
theorem dX12_lists_19 : decode cX12_lists 19 = .ok (.iload_n 3, 1) := by decide +kernel
theorem dX12_lists_20 : decode cX12_lists 20 = .ok (.invokevirtual 384, 3) := by decide +kernel
theorem dX12_lists_23 : decode cX12_lists 23 = .ok (.ifCond .ne 6, 3) := by decide +kernel
theorem dX12_lists_26 : decode cX12_lists 26 = .ok (.bipush (-2), 2) := by decide +kernel
theorem dX12_lists_28 : decode cX12_lists 28 = .ok (.ireturn, 1) := by decide +kernel
theorem dX12_lists_29 : decode cX12_lists 29 = .ok (.aload_n 0, 1) := by decide +kernel
theorem dX12_lists_30 : decode cX12_lists 30 = .ok (.iload_n 1, 1) := by decide +kernel
theorem dX12_lists_31 : decode cX12_lists 31 = .ok (.invokevirtual 313, 3) := by decide +kernel
theorem dX12_lists_34 : decode cX12_lists 34 = .ok (.istore 4, 2) := by decide +kernel
theorem dX12_lists_36 : decode cX12_lists 36 = .ok (.iload 4, 2) := by decide +kernel
theorem dX12_lists_38 : decode cX12_lists 38 = .ok (.ifCond .eq 6, 3) := by decide +kernel
theorem dX12_lists_41 : decode cX12_lists 41 = .ok (.iload 4, 2) := by decide +kernel
theorem dX12_lists_43 : decode cX12_lists 43 = .ok (.ireturn, 1) := by decide +kernel
theorem dX12_lists_44 : decode cX12_lists 44 = .ok (.aload_n 0, 1) := by decide +kernel
theorem dX12_lists_45 : decode cX12_lists 45 = .ok (.iload_n 2, 1) := by decide +kernel
theorem dX12_lists_46 : decode cX12_lists 46 = .ok (.iload_n 3, 1) := by decide +kernel
theorem dX12_lists_47 : decode cX12_lists 47 = .ok (.invokevirtual 387, 3) := by decide +kernel
theorem dX12_lists_50 : decode cX12_lists 50 = .ok (.istore 5, 2) := by decide +kernel
theorem dX12_lists_52 : decode cX12_lists 52 = .ok (.iload 5, 2) := by decide +kernel
theorem dX12_lists_54 : decode cX12_lists 54 = .ok (.iconst (-1), 1) := by decide +kernel
theorem dX12_lists_55 : decode cX12_lists 55 = .ok (.if_icmp .ne 6, 3) := by decide +kernel
theorem dX12_lists_58 : decode cX12_lists 58 = .ok (.bipush (-5), 2) := by decide +kernel
theorem dX12_lists_60 : decode cX12_lists 60 = .ok (.ireturn, 1) := by decide +kernel
theorem dX12_lists_61 : decode cX12_lists 61 = .ok (.iload 5, 2) := by decide +kernel
theorem dX12_lists_63 : decode cX12_lists 63 = .ok (.aload_n 0, 1) := by decide +kernel
theorem dX12_lists_64 : decode cX12_lists 64 = .ok (.getfield 72, 3) := by decide +kernel
theorem dX12_lists_67 : decode cX12_lists 67 = .ok (.iload_n 1, 1) := by decide +kernel
theorem dX12_lists_68 : decode cX12_lists 68 = .ok (.iaload, 1) := by decide +kernel
theorem dX12_lists_69 : decode cX12_lists 69 = .ok (.if_icmp .ge 8, 3) := by decide +kernel
theorem dX12_lists_72 : decode cX12_lists 72 = .ok (.iload 5, 2) := by decide +kernel
theorem dX12_lists_74 : decode cX12_lists 74 = .ok (.goto 9, 3) := by decide +kernel
theorem dX12_lists_77 : decode cX12_lists 77 = .ok (.aload_n 0, 1) := by decide +kernel
theorem dX12_lists_78 : decode cX12_lists 78 = .ok (.getfield 72, 3) := by decide +kernel
theorem dX12_lists_81 : decode cX12_lists 81 = .ok (.iload_n 1, 1) := by decide +kernel
theorem dX12_lists_82 : decode cX12_lists 82 = .ok (.iaload, 1) := by decide +kernel
theorem dX12_lists_83 : decode cX12_lists 83 = .ok (.istore 6, 2) := by decide +kernel
theorem dX12_lists_85 : decode cX12_lists 85 = .ok (.iconst 0, 1) := by decide +kernel
theorem dX12_lists_86 : decode cX12_lists 86 = .ok (.istore 7, 2) := by decide +kernel
theorem dX12_lists_88 : decode cX12_lists 88 = .ok (.iload 7, 2) := by decide +kernel
theorem dX12_lists_90 : decode cX12_lists 90 = .ok (.iload 6, 2) := by decide +kernel
theorem dX12_lists_92 : decode cX12_lists 92 = .ok (.if_icmp .ge 43, 3) := by decide +kernel
theorem dX12_lists_95 : decode cX12_lists 95 = .ok (.aload_n 0, 1) := by decide +kernel
theorem dX12_lists_96 : decode cX12_lists 96 = .ok (.getfield 75, 3) := by decide +kernel
theorem dX12_lists_99 : decode cX12_lists 99 = .ok (.bipush 40, 2) := by decide +kernel
theorem dX12_lists_101 : decode cX12_lists 101 = .ok (.iload_n 1, 1) := by decide +kernel
theorem dX12_lists_102 : decode cX12_lists 102 = .ok (.imul, 1) := by decide +kernel
theorem dX12_lists_103 : decode cX12_lists 103 = .ok (.iload 7, 2) := by decide +kernel
theorem dX12_lists_105 : decode cX12_lists 105 = .ok (.iadd, 1) := by decide +kernel
theorem dX12_lists_106 : decode cX12_lists 106 = .ok (.bipush 10, 2) := by decide +kernel
theorem dX12_lists_108 : decode cX12_lists 108 = .ok (.iload_n 2, 1) := by decide +kernel
theorem dX12_lists_109 : decode cX12_lists 109 = .ok (.imul, 1) := by decide +kernel
theorem dX12_lists_110 : decode cX12_lists 110 = .ok (.aload_n 0, 1) := by decide +kernel
theorem dX12_lists_111 : decode cX12_lists 111 = .ok (.getfield 63, 3) := by decide +kernel
theorem dX12_lists_114 : decode cX12_lists 114 = .ok (.iload 7, 2) := by decide +kernel
theorem dX12_lists_116 : decode cX12_lists 116 = .ok (.iaload, 1) := by decide +kernel
theorem dX12_lists_117 : decode cX12_lists 117 = .ok (.iadd, 1) := by decide +kernel
theorem dX12_lists_118 : decode cX12_lists 118 = .ok (.i2l, 1) := by decide +kernel
theorem dX12_lists_119 : decode cX12_lists 119 = .ok (.aload_n 0, 1) := by decide +kernel
theorem dX12_lists_120 : decode cX12_lists 120 = .ok (.getfield 69, 3) := by decide +kernel
theorem dX12_lists_123 : decode cX12_lists 123 = .ok (.iload_n 1, 1) := by decide +kernel
theorem dX12_lists_124 : decode cX12_lists 124 = .ok (.iaload, 1) := by decide +kernel
theorem dX12_lists_125 : decode cX12_lists 125 = .ok (.invokestatic 431, 3) := by decide +kernel
theorem dX12_lists_128 : decode cX12_lists 128 = .ok (.lastore, 1) := by decide +kernel
theorem dX12_lists_129 : decode cX12_lists 129 = .ok (.iinc 7 1, 3) := by decide +kernel
theorem dX12_lists_132 : decode cX12_lists 132 = .ok (.goto (-44), 3) := by decide +kernel
theorem dX12_lists_135 : decode cX12_lists 135 = .ok (.iload 6, 2) := by decide +kernel
theorem dX12_lists_137 : decode cX12_lists 137 = .ok (.ireturn, 1) := by decide +kernel
theorem dX12_numbers_0 : decode cX12_numbers 0 = .ok (.aload_n 0, 1) := by decide +kernel
theorem dX12_numbers_1 : decode cX12_numbers 1 = .ok (.iconst 0, 1) := by decide +kernel
theorem dX12_numbers_2 : decode cX12_numbers 2 = .ok (.putfield 1, 3) := by decide +kernel
theorem dX12_numbers_5 : decode cX12_numbers 5 = .ok (.iload_n 1, 1) := by decide +kernel
theorem dX12_numbers_6 : decode cX12_numbers 6 = .ok (.i2l, 1) := by decide +kernel
theorem dX12_numbers_7 : decode cX12_numbers 7 = .ok (.lconst 0, 1) := by decide +kernel
theorem dX12_numbers_8 : decode cX12_numbers 8 = .ok (.ldc2_w 311, 3) := by decide +kernel
theorem dX12_numbers_11 : decode cX12_numbers 11 = .ok (.invokestatic 145, 3) := by decide +kernel
theorem dX12_numbers_14 : decode cX12_numbers 14 = .ok (.ifCond .eq 15, 3) := by decide +kernel
theorem dX12_numbers_17 : decode cX12_numbers 17 = .ok (.iload_n 2, 1) := by decide +kernel
theorem dX12_numbers_18 : decode cX12_numbers 18 = .ok (.i2l, 1) := by decide +kernel
theorem dX12_numbers_19 : decode cX12_numbers 19 = .ok (.lconst 0, 1) := by decide +kernel
theorem dX12_numbers_20 : decode cX12_numbers 20 = .ok (.ldc2_w 311, 3) := by decide +kernel
theorem dX12_numbers_23 : decode cX12_numbers 23 = .ok (.invokestatic 145, 3) := by decide +kernel
theorem dX12_numbers_26 : decode cX12_numbers 26 = .ok (.ifCond .ne 6, 3) := by decide +kernel
theorem dX12_numbers_29 : decode cX12_numbers 29 = .ok (.bipush (-2), 2) := by decide +kernel
theorem dX12_numbers_31 : decode cX12_numbers 31 = .ok (.ireturn, 1) := by decide +kernel
theorem dX12_numbers_32 : decode cX12_numbers 32 = .ok (.iload_n 3, 1) := by decide +kernel
theorem dX12_numbers_33 : decode cX12_numbers 33 = .ok (.i2l, 1) := by decide +kernel
theorem dX12_numbers_34 : decode cX12_numbers 34 = .ok (.lconst 0, 1) := by decide +kernel
theorem dX12_numbers_35 : decode cX12_numbers 35 = .ok (.ldc2_w 332, 3) := by decide +kernel
theorem dX12_numbers_38 : decode cX12_numbers 38 = .ok (.invokestatic 145, 3) := by decide +kernel
theorem dX12_numbers_41 : decode cX12_numbers 41 = .ok (.ifCond .ne 6, 3) := by decide +kernel
theorem dX12_numbers_44 : decode cX12_numbers 44 = .ok (.bipush (-3), 2) := by decide +kernel
theorem dX12_numbers_46 : decode cX12_numbers 46 = .ok (.ireturn, 1) := by decide +kernel
theorem dX12_numbers_47 : decode cX12_numbers 47 = .ok (.aload_n 0, 1) := by decide +kernel
theorem dX12_numbers_48 : decode cX12_numbers 48 = .ok (.getfield 69, 3) := by decide +kernel
theorem dX12_numbers_51 : decode cX12_numbers 51 = .ok (.iload_n 1, 1) := by decide +kernel
theorem dX12_numbers_52 : decode cX12_numbers 52 = .ok (.iload_n 2, 1) := by decide +kernel
theorem dX12_numbers_53 : decode cX12_numbers 53 = .ok (.iastore, 1) := by decide +kernel
theorem dX12_numbers_54 : decode cX12_numbers 54 = .ok (.aload_n 0, 1) := by decide +kernel
theorem dX12_numbers_55 : decode cX12_numbers 55 = .ok (.getfield 72, 3) := by decide +kernel
theorem dX12_numbers_58 : decode cX12_numbers 58 = .ok (.iload_n 1, 1) := by decide +kernel
theorem dX12_numbers_59 : decode cX12_numbers 59 = .ok (.iload_n 3, 1) := by decide +kernel
theorem dX12_numbers_60 : decode cX12_numbers 60 = .ok (.iastore, 1) := by decide +kernel
theorem dX12_numbers_61 : decode cX12_numbers 61 = .ok (.iconst 0, 1) := by decide +kernel
theorem dX12_numbers_62 : decode cX12_numbers 62 = .ok (.istore 4, 2) := by decide +kernel
theorem dX12_numbers_64 : decode cX12_numbers 64 = .ok (.iload 4, 2) := by decide +kernel
theorem dX12_numbers_66 : decode cX12_numbers 66 = .ok (.iload_n 3, 1) := by decide +kernel
theorem dX12_numbers_67 : decode cX12_numbers 67 = .ok (.if_icmp .ge 22, 3) := by decide +kernel
theorem dX12_numbers_70 : decode cX12_numbers 70 = .ok (.aload_n 0, 1) := by decide +kernel
theorem dX12_numbers_71 : decode cX12_numbers 71 = .ok (.getfield 75, 3) := by decide +kernel
theorem dX12_numbers_74 : decode cX12_numbers 74 = .ok (.bipush 40, 2) := by decide +kernel
theorem dX12_numbers_76 : decode cX12_numbers 76 = .ok (.iload_n 1, 1) := by decide +kernel
theorem dX12_numbers_77 : decode cX12_numbers 77 = .ok (.imul, 1) := by decide +kernel
theorem dX12_numbers_78 : decode cX12_numbers 78 = .ok (.iload 4, 2) := by decide +kernel
theorem dX12_numbers_80 : decode cX12_numbers 80 = .ok (.iadd, 1) := by decide +kernel
theorem dX12_numbers_81 : decode cX12_numbers 81 = .ok (.lconst 0, 1) := by decide +kernel
theorem dX12_numbers_82 : decode cX12_numbers 82 = .ok (.lastore, 1) := by decide +kernel
theorem dX12_numbers_83 : decode cX12_numbers 83 = .ok (.iinc 4 1, 3) := by decide +kernel
theorem dX12_numbers_86 : decode cX12_numbers 86 = .ok (.goto (-22), 3) := by decide +kernel
theorem dX12_numbers_89 : decode cX12_numbers 89 = .ok (.iconst 0, 1) := by decide +kernel
theorem dX12_numbers_90 : decode cX12_numbers 90 = .ok (.ireturn, 1) := by decide +kernel
theorem dX12_reserve_0 : decode cX12_reserve 0 = .ok (.aload_n 0, 1) := by decide +kernel
theorem dX12_reserve_1 : decode cX12_reserve 1 = .ok (.iconst 0, 1) := by decide +kernel
theorem dX12_reserve_2 : decode cX12_reserve 2 = .ok (.putfield 1, 3) := by decide +kernel
theorem dX12_reserve_5 : decode cX12_reserve 5 = .ok (.aload_n 0, 1) := by decide +kernel
theorem dX12_reserve_6 : decode cX12_reserve 6 = .ok (.iload_n 1, 1) := by decide +kernel
theorem dX12_reserve_7 : decode cX12_reserve 7 = .ok (.invokevirtual 349, 3) := by decide +kernel
theorem dX12_reserve_10 : decode cX12_reserve 10 = .ok (.ifCond .ne 6, 3) := by decide +kernel
theorem dX12_reserve_13 : decode cX12_reserve 13 = .ok (.bipush (-3), 2) := by decide +kernel
theorem dX12_reserve_15 : decode cX12_reserve 15 = .ok (.ireturn, 1) := by decide +kernel
theorem dX12_reserve_16 : decode cX12_reserve 16 = .ok (.aload_n 0, 1) := by decide +kernel
theorem dX12_reserve_17 : decode cX12_reserve 17 = .ok (.invokevirtual 346, 3) := by decide +kernel
theorem dX12_reserve_20 : decode cX12_reserve 20 = .ok (.aload_n 0, 1) := by decide +kernel
theorem dX12_reserve_21 : decode cX12_reserve 21 = .ok (.invokevirtual 255, 3) := by decide +kernel
theorem dX12_reserve_24 : decode cX12_reserve 24 = .ok (.iload_n 1, 1) := by decide +kernel
theorem dX12_reserve_25 : decode cX12_reserve 25 = .ok (.iconst (-1), 1) := by decide +kernel
theorem dX12_reserve_26 : decode cX12_reserve 26 = .ok (.ixor, 1) := by decide +kernel
theorem dX12_reserve_27 : decode cX12_reserve 27 = .ok (.iand, 1) := by decide +kernel
theorem dX12_reserve_28 : decode cX12_reserve 28 = .ok (.istore_n 2, 1) := by decide +kernel
theorem dX12_reserve_29 : decode cX12_reserve 29 = .ok (.iconst (-1), 1) := by decide +kernel
theorem dX12_reserve_30 : decode cX12_reserve 30 = .ok (.istore_n 3, 1) := by decide +kernel
theorem dX12_reserve_31 : decode cX12_reserve 31 = .ok (.ldc2_w 289, 3) := by decide +kernel
theorem dX12_reserve_34 : decode cX12_reserve 34 = .ok (.aload_n 0, 1) := by decide +kernel
theorem dX12_reserve_35 : decode cX12_reserve 35 = .ok (.iload_n 1, 1) := by decide +kernel
theorem dX12_reserve_36 : decode cX12_reserve 36 = .ok (.invokevirtual 422, 3) := by decide +kernel
theorem dX12_reserve_39 : decode cX12_reserve 39 = .ok (.lmul, 1) := by decide +kernel
theorem dX12_reserve_40 : decode cX12_reserve 40 = .ok (.lstore 4, 2) := by decide +kernel
theorem dX12_reserve_42 : decode cX12_reserve 42 = .ok (.iconst 0, 1) := by decide +kernel
theorem dX12_reserve_43 : decode cX12_reserve 43 = .ok (.istore 6, 2) := by decide +kernel
theorem dX12_reserve_45 : decode cX12_reserve 45 = .ok (.iload 6, 2) := by decide +kernel
theorem dX12_reserve_47 : decode cX12_reserve 47 = .ok (.aload_n 0, 1) := by decide +kernel
theorem dX12_reserve_48 : decode cX12_reserve 48 = .ok (.getfield 13, 3) := by decide +kernel
theorem dX12_reserve_51 : decode cX12_reserve 51 = .ok (.iconst 2, 1) := by decide +kernel
theorem dX12_reserve_52 : decode cX12_reserve 52 = .ok (.iaload, 1) := by decide +kernel
theorem dX12_reserve_53 : decode cX12_reserve 53 = .ok (.if_icmp .ge 55, 3) := by decide +kernel
theorem dX12_reserve_56 : decode cX12_reserve 56 = .ok (.iload_n 2, 1) := by decide +kernel
theorem dX12_reserve_57 : decode cX12_reserve 57 = .ok (.i2l, 1) := by decide +kernel
theorem dX12_reserve_58 : decode cX12_reserve 58 = .ok (.iload 6, 2) := by decide +kernel
theorem dX12_reserve_60 : decode cX12_reserve 60 = .ok (.invokestatic 251, 3) := by decide +kernel
theorem dX12_reserve_63 : decode cX12_reserve 63 = .ok (.ifCond .eq 16, 3) := by decide +kernel
theorem dX12_reserve_66 : decode cX12_reserve 66 = .ok (.aload_n 0, 1) := by decide +kernel
theorem dX12_reserve_67 : decode cX12_reserve 67 = .ok (.iload_n 1, 1) := by decide +kernel
theorem dX12_reserve_68 : decode cX12_reserve 68 = .ok (.iconst 1, 1) := by decide +kernel
theorem dX12_reserve_69 : decode cX12_reserve 69 = .ok (.iload 6, 2) := by decide +kernel
theorem dX12_reserve_71 : decode cX12_reserve 71 = .ok (.ishl, 1) := by decide +kernel
theorem dX12_reserve_72 : decode cX12_reserve 72 = .ok (.ior, 1) := by decide +kernel
theorem dX12_reserve_73 : decode cX12_reserve 73 = .ok (.invokevirtual 422, 3) := by decide +kernel
theorem dX12_reserve_76 : decode cX12_reserve 76 = .ok (.goto 6, 3) := by decide +kernel
theorem dX12_reserve_79 : decode cX12_reserve 79 = .ok (.ldc2_w 291, 3) := by decide +kernel
theorem dX12_reserve_82 : decode cX12_reserve 82 = .ok (.lstore 7, 2) := by decide +kernel
theorem dX12_reserve_84 : decode cX12_reserve 84 = .ok (.lload 7, 2) := by decide +kernel
theorem dX12_reserve_86 : decode cX12_reserve 86 = .ok (.lload 4, 2) := by decide +kernel
theorem dX12_reserve_88 : decode cX12_reserve 88 = .ok (.lcmp, 1) := by decide +kernel
theorem dX12_reserve_89 : decode cX12_reserve 89 = .ok (.ifCond .gt 6, 3) := by decide +kernel
theorem dX12_reserve_92 : decode cX12_reserve 92 = .ok (.goto 10, 3) := by decide +kernel
theorem dX12_reserve_95 : decode cX12_reserve 95 = .ok (.iload 6, 2) := by decide +kernel
theorem dX12_reserve_97 : decode cX12_reserve 97 = .ok (.istore_n 3, 1) := by decide +kernel
theorem dX12_reserve_98 : decode cX12_reserve 98 = .ok (.lload 7, 2) := by decide +kernel
theorem dX12_reserve_100 : decode cX12_reserve 100 = .ok (.lstore 4, 2) := by decide +kernel
theorem dX12_reserve_102 : decode cX12_reserve 102 = .ok (.iinc 6 1, 3) := by decide +kernel
theorem dX12_reserve_105 : decode cX12_reserve 105 = .ok (.goto (-60), 3) := by decide +kernel
theorem dX12_reserve_108 : decode cX12_reserve 108 = .ok (.iload_n 3, 1) := by decide +kernel
theorem dX12_reserve_109 : decode cX12_reserve 109 = .ok (.ireturn, 1) := by decide +kernel
theorem dX12_restore_0 : decode cX12_restore 0 = .ok (.aload_n 0, 1) := by decide +kernel
theorem dX12_restore_1 : decode cX12_restore 1 = .ok (.iconst 0, 1) := by decide +kernel
theorem dX12_restore_2 : decode cX12_restore 2 = .ok (.putfield 1, 3) := by decide +kernel
theorem dX12_restore_5 : decode cX12_restore 5 = .ok (.iload_n 1, 1) := by decide +kernel
theorem dX12_restore_6 : decode cX12_restore 6 = .ok (.i2l, 1) := by decide +kernel
theorem dX12_restore_7 : decode cX12_restore 7 = .ok (.lconst 0, 1) := by decide +kernel
theorem dX12_restore_8 : decode cX12_restore 8 = .ok (.lconst 1, 1) := by decide +kernel
theorem dX12_restore_9 : decode cX12_restore 9 = .ok (.invokestatic 145, 3) := by decide +kernel
theorem dX12_restore_12 : decode cX12_restore 12 = .ok (.ifCond .ne 6, 3) := by decide +kernel
theorem dX12_restore_15 : decode cX12_restore 15 = .ok (.bipush (-2), 2) := by decide +kernel
theorem dX12_restore_17 : decode cX12_restore 17 = .ok (.ireturn, 1) := by decide +kernel
theorem dX12_restore_18 : decode cX12_restore 18 = .ok (.aload_n 0, 1) := by decide +kernel
theorem dX12_restore_19 : decode cX12_restore 19 = .ok (.getfield 17, 3) := by decide +kernel
theorem dX12_restore_22 : decode cX12_restore 22 = .ok (.iload_n 1, 1) := by decide +kernel
theorem dX12_restore_23 : decode cX12_restore 23 = .ok (.baload, 1) := by decide +kernel
theorem dX12_restore_24 : decode cX12_restore 24 = .ok (.ifCond .ne 6, 3) := by decide +kernel
theorem dX12_restore_27 : decode cX12_restore 27 = .ok (.bipush (-5), 2) := by decide +kernel
theorem dX12_restore_29 : decode cX12_restore 29 = .ok (.ireturn, 1) := by decide +kernel
theorem dX12_restore_30 : decode cX12_restore 30 = .ok (.iconst 0, 1) := by decide +kernel
theorem dX12_restore_31 : decode cX12_restore 31 = .ok (.istore_n 2, 1) := by decide +kernel
theorem dX12_restore_32 : decode cX12_restore 32 = .ok (.iload_n 2, 1) := by decide +kernel
theorem dX12_restore_33 : decode cX12_restore 33 = .ok (.sipush 1306, 3) := by decide +kernel
theorem dX12_restore_36 : decode cX12_restore 36 = .ok (.if_icmp .ge 29, 3) := by decide +kernel
theorem dX12_restore_39 : decode cX12_restore 39 = .ok (.aload_n 0, 1) := by decide +kernel
theorem dX12_restore_40 : decode cX12_restore 40 = .ok (.getfield 13, 3) := by decide +kernel
theorem dX12_restore_43 : decode cX12_restore 43 = .ok (.iload_n 2, 1) := by decide +kernel
theorem dX12_restore_44 : decode cX12_restore 44 = .ok (.aload_n 0, 1) := by decide +kernel
theorem dX12_restore_45 : decode cX12_restore 45 = .ok (.getfield 13, 3) := by decide +kernel
theorem dX12_restore_48 : decode cX12_restore 48 = .ok (.sipush 1306, 3) := by decide +kernel
theorem dX12_restore_51 : decode cX12_restore 51 = .ok (.iload_n 1, 1) := by decide +kernel
theorem dX12_restore_52 : decode cX12_restore 52 = .ok (.iconst 1, 1) := by decide +kernel
theorem dX12_restore_53 : decode cX12_restore 53 = .ok (.iadd, 1) := by decide +kernel
theorem dX12_restore_54 : decode cX12_restore 54 = .ok (.imul, 1) := by decide +kernel
theorem dX12_restore_55 : decode cX12_restore 55 = .ok (.iload_n 2, 1) := by decide +kernel
theorem dX12_restore_56 : decode cX12_restore 56 = .ok (.iadd, 1) := by decide +kernel
theorem dX12_restore_57 : decode cX12_restore 57 = .ok (.iaload, 1) := by decide +kernel
theorem dX12_restore_58 : decode cX12_restore 58 = .ok (.iastore, 1) := by decide +kernel
theorem dX12_restore_59 : decode cX12_restore 59 = .ok (.iinc 2 1, 3) := by decide +kernel
theorem dX12_restore_62 : decode cX12_restore 62 = .ok (.goto (-30), 3) := by decide +kernel
theorem dX12_restore_65 : decode cX12_restore 65 = .ok (.aload_n 0, 1) := by decide +kernel
theorem dX12_restore_66 : decode cX12_restore 66 = .ok (.getfield 13, 3) := by decide +kernel
theorem dX12_restore_69 : decode cX12_restore 69 = .ok (.bipush 84, 2) := by decide +kernel
theorem dX12_restore_71 : decode cX12_restore 71 = .ok (.iconst 0, 1) := by decide +kernel
theorem dX12_restore_72 : decode cX12_restore 72 = .ok (.iastore, 1) := by decide +kernel
theorem dX12_restore_73 : decode cX12_restore 73 = .ok (.iconst 0, 1) := by decide +kernel
theorem dX12_restore_74 : decode cX12_restore 74 = .ok (.ireturn, 1) := by decide +kernel
theorem dX12_twosNow_0 : decode cX12_twosNow 0 = .ok (.aload_n 0, 1) := by decide +kernel
theorem dX12_twosNow_1 : decode cX12_twosNow 1 = .ok (.aload_n 0, 1) := by decide +kernel
theorem dX12_twosNow_2 : decode cX12_twosNow 2 = .ok (.getfield 13, 3) := by decide +kernel
theorem dX12_twosNow_5 : decode cX12_twosNow 5 = .ok (.bipush 52, 2) := by decide +kernel
theorem dX12_twosNow_7 : decode cX12_twosNow 7 = .ok (.iaload, 1) := by decide +kernel
theorem dX12_twosNow_8 : decode cX12_twosNow 8 = .ok (.invokevirtual 340, 3) := by decide +kernel
theorem dX12_twosNow_11 : decode cX12_twosNow 11 = .ok (.iconst 0, 1) := by decide +kernel
theorem dX12_twosNow_12 : decode cX12_twosNow 12 = .ok (.istore_n 1, 1) := by decide +kernel
theorem dX12_twosNow_13 : decode cX12_twosNow 13 = .ok (.iconst 0, 1) := by decide +kernel
theorem dX12_twosNow_14 : decode cX12_twosNow 14 = .ok (.istore_n 2, 1) := by decide +kernel
theorem dX12_twosNow_15 : decode cX12_twosNow 15 = .ok (.iload_n 2, 1) := by decide +kernel
theorem dX12_twosNow_16 : decode cX12_twosNow 16 = .ok (.aload_n 0, 1) := by decide +kernel
theorem dX12_twosNow_17 : decode cX12_twosNow 17 = .ok (.getfield 13, 3) := by decide +kernel
theorem dX12_twosNow_20 : decode cX12_twosNow 20 = .ok (.iconst 2, 1) := by decide +kernel
theorem dX12_twosNow_21 : decode cX12_twosNow 21 = .ok (.iaload, 1) := by decide +kernel
theorem dX12_twosNow_22 : decode cX12_twosNow 22 = .ok (.if_icmp .ge 21, 3) := by decide +kernel
theorem dX12_twosNow_25 : decode cX12_twosNow 25 = .ok (.iload_n 1, 1) := by decide +kernel
theorem dX12_twosNow_26 : decode cX12_twosNow 26 = .ok (.aload_n 0, 1) := by decide +kernel
theorem dX12_twosNow_27 : decode cX12_twosNow 27 = .ok (.getfield 39, 3) := by decide +kernel
theorem dX12_twosNow_30 : decode cX12_twosNow 30 = .ok (.iload_n 2, 1) := by decide +kernel
theorem dX12_twosNow_31 : decode cX12_twosNow 31 = .ok (.iaload, 1) := by decide +kernel
theorem dX12_twosNow_32 : decode cX12_twosNow 32 = .ok (.invokestatic 281, 3) := by decide +kernel
theorem dX12_twosNow_35 : decode cX12_twosNow 35 = .ok (.iadd, 1) := by decide +kernel
theorem dX12_twosNow_36 : decode cX12_twosNow 36 = .ok (.istore_n 1, 1) := by decide +kernel
theorem dX12_twosNow_37 : decode cX12_twosNow 37 = .ok (.iinc 2 1, 3) := by decide +kernel
theorem dX12_twosNow_40 : decode cX12_twosNow 40 = .ok (.goto (-25), 3) := by decide +kernel
theorem dX12_twosNow_43 : decode cX12_twosNow 43 = .ok (.iload_n 1, 1) := by decide +kernel
theorem dX12_twosNow_44 : decode cX12_twosNow 44 = .ok (.iconst 2, 1) := by decide +kernel
theorem dX12_twosNow_45 : decode cX12_twosNow 45 = .ok (.idiv, 1) := by decide +kernel
theorem dX12_twosNow_46 : decode cX12_twosNow 46 = .ok (.ireturn, 1) := by decide +kernel
theorem dX12_write_0 : decode cX12_write 0 = .ok (.aload_n 0, 1) := by decide +kernel
theorem dX12_write_1 : decode cX12_write 1 = .ok (.iconst 0, 1) := by decide +kernel
theorem dX12_write_2 : decode cX12_write 2 = .ok (.putfield 1, 3) := by decide +kernel
theorem dX12_write_5 : decode cX12_write 5 = .ok (.aload_n 0, 1) := by decide +kernel
theorem dX12_write_6 : decode cX12_write 6 = .ok (.iload_n 1, 1) := by decide +kernel
theorem dX12_write_7 : decode cX12_write 7 = .ok (.invokevirtual 313, 3) := by decide +kernel
theorem dX12_write_10 : decode cX12_write 10 = .ok (.istore 5, 2) := by decide +kernel
theorem dX12_write_12 : decode cX12_write 12 = .ok (.iload 5, 2) := by decide +kernel
theorem dX12_write_14 : decode cX12_write 14 = .ok (.ifCond .eq 7, 3) := by decide +kernel
theorem dX12_write_17 : decode cX12_write 17 = .ok (.iload 5, 2) := by decide +kernel
theorem dX12_write_19 : decode cX12_write 19 = .ok (.i2l, 1) := by decide +kernel
theorem dX12_write_20 : decode cX12_write 20 = .ok (.lreturn, 1) := by decide +kernel
theorem dX12_write_21 : decode cX12_write 21 = .ok (.iload_n 2, 1) := by decide +kernel
theorem dX12_write_22 : decode cX12_write 22 = .ok (.i2l, 1) := by decide +kernel
theorem dX12_write_23 : decode cX12_write 23 = .ok (.lconst 0, 1) := by decide +kernel
theorem dX12_write_24 : decode cX12_write 24 = .ok (.aload_n 0, 1) := by decide +kernel
theorem dX12_write_25 : decode cX12_write 25 = .ok (.getfield 72, 3) := by decide +kernel
theorem dX12_write_28 : decode cX12_write 28 = .ok (.iload_n 1, 1) := by decide +kernel
theorem dX12_write_29 : decode cX12_write 29 = .ok (.iaload, 1) := by decide +kernel
theorem dX12_write_30 : decode cX12_write 30 = .ok (.iconst 1, 1) := by decide +kernel
theorem dX12_write_31 : decode cX12_write 31 = .ok (.isub, 1) := by decide +kernel
theorem dX12_write_32 : decode cX12_write 32 = .ok (.i2l, 1) := by decide +kernel
theorem dX12_write_33 : decode cX12_write 33 = .ok (.invokestatic 145, 3) := by decide +kernel
theorem dX12_write_36 : decode cX12_write 36 = .ok (.ifCond .ne 7, 3) := by decide +kernel
theorem dX12_write_39 : decode cX12_write 39 = .ok (.ldc2_w 429, 3) := by decide +kernel
theorem dX12_write_42 : decode cX12_write 42 = .ok (.lreturn, 1) := by decide +kernel
theorem dX12_write_43 : decode cX12_write 43 = .ok (.aload_n 0, 1) := by decide +kernel
theorem dX12_write_44 : decode cX12_write 44 = .ok (.getfield 75, 3) := by decide +kernel
theorem dX12_write_47 : decode cX12_write 47 = .ok (.bipush 40, 2) := by decide +kernel
theorem dX12_write_49 : decode cX12_write 49 = .ok (.iload_n 1, 1) := by decide +kernel
theorem dX12_write_50 : decode cX12_write 50 = .ok (.imul, 1) := by decide +kernel
theorem dX12_write_51 : decode cX12_write 51 = .ok (.iload_n 2, 1) := by decide +kernel
theorem dX12_write_52 : decode cX12_write 52 = .ok (.iadd, 1) := by decide +kernel
theorem dX12_write_53 : decode cX12_write 53 = .ok (.lload_n 3, 1) := by decide +kernel
theorem dX12_write_54 : decode cX12_write 54 = .ok (.aload_n 0, 1) := by decide +kernel
theorem dX12_write_55 : decode cX12_write 55 = .ok (.getfield 69, 3) := by decide +kernel
theorem dX12_write_58 : decode cX12_write 58 = .ok (.iload_n 1, 1) := by decide +kernel
theorem dX12_write_59 : decode cX12_write 59 = .ok (.iaload, 1) := by decide +kernel
theorem dX12_write_60 : decode cX12_write 60 = .ok (.invokestatic 431, 3) := by decide +kernel
theorem dX12_write_63 : decode cX12_write 63 = .ok (.lastore, 1) := by decide +kernel
theorem dX12_write_64 : decode cX12_write 64 = .ok (.aload_n 0, 1) := by decide +kernel
theorem dX12_write_65 : decode cX12_write 65 = .ok (.getfield 75, 3) := by decide +kernel
theorem dX12_write_68 : decode cX12_write 68 = .ok (.bipush 40, 2) := by decide +kernel
theorem dX12_write_70 : decode cX12_write 70 = .ok (.iload_n 1, 1) := by decide +kernel
theorem dX12_write_71 : decode cX12_write 71 = .ok (.imul, 1) := by decide +kernel
theorem dX12_write_72 : decode cX12_write 72 = .ok (.iload_n 2, 1) := by decide +kernel
theorem dX12_write_73 : decode cX12_write 73 = .ok (.iadd, 1) := by decide +kernel
theorem dX12_write_74 : decode cX12_write 74 = .ok (.laload, 1) := by decide +kernel
theorem dX12_write_75 : decode cX12_write 75 = .ok (.lreturn, 1) := by decide +kernel
set_option maxHeartbeats 4000000 in
set_option maxRecDepth 100000 in
theorem gX12_common_450f168 (l : Launch) (D : va_G) (cy : Nat → ClassId) (j0 : Int64) (j1 : Int64) (hj0 : (-305175) ≤ (j0).toInt ∧ (j0).toInt ≤ 305175) (hj1 : (-152587) ≤ (j1).toInt ∧ (j1).toInt ≤ 152587) (hpre0 : CM 152587 305175 (j0 : Int64).toInt (j1 : Int64).toInt) (sz : Nat) : ML l yX12_common cX12_common 4 { frames := 36, cells := 0, slots := 0, locals := 828 } [.long j0, .long j1] D cy [] sz (fun r u => ((-305175) ≤ r.toInt ∧ r.toInt ≤ 305175) ∧ ((r : Int64).toInt ≠ 0 ∨ ((j0 : Int64).toInt = 0 ∧ (j1 : Int64).toInt = 0)) ∧ True) (fun u => []) 0 0 := by
  refine q_ent (own := RX12) (by decide) rfl (Nat.le_of_ble_eq_true rfl) (fun p e s m below meth c ls X hr hlk hnm hK hT h hA hl => ?_)
  obtain ⟨hx, hb, hml, hown, ht⟩ := id X
  replace hl : lv_has ls 4 [(0, .long j0), (2, .long j1)] := hl
  refine lv_lload_n hx hb dX12_common_0 rfl (lv_at hl 1 rfl) ?_
  refine lv_lconst (v := 0) hx hb dX12_common_1 (by decide) ?_
  refine W.lcmp hx hb dX12_common_2 ?_
  refine lv_if_ne (tgt := 10) hx hb dX12_common_3 (by decide) (fun c_1 => ?_) (fun c_1 => ?_)
  · replace c_1 := j_neq (x := j1) (y := 0) rfl (show (0 : Int64).toInt = 0 by decide) c_1
    refine lv_lload_n hx hb dX12_common_10 rfl (lv_at hl 1 rfl) ?_
    refine lv_lload_n hx hb dX12_common_11 rfl (lv_at hl 0 rfl) ?_
    refine lv_lload_n hx hb dX12_common_12 rfl (lv_at hl 1 rfl) ?_
    refine lv_lrem hx hb dX12_common_13 (j_nz (by omega)) ?_
    obtain ⟨z_2, ez_2, hz_2⟩ := e_anyJ (j0 - j0 / j1 * j1)
    refine q_cl z_2 ez_2 ?_
    have cm_3 : CM 152587 152587 _ _ := cm_s (by decide) hpre0 (by omega) ez_2
    have cr_3 := cm_r cm_3
    refine q_callSl (rest := []) (wr := []) X hK hT hA h (fun sz => gX12_common_5c1daf1 l D cy j1 z_2 hj1 ⟨by omega, by omega⟩ (cm_3) sz) wm_8_20 wm_8_22 wm_1_12 hd_X12_common wm_8_21 ⟨Nat.le_of_ble_eq_true rfl, Nat.le_of_ble_eq_true rfl⟩ hl.1 rfl (Nat.le_of_ble_eq_true rfl) dX12_common_14 ⟨Nat.le_of_ble_eq_true rfl, Nat.le_of_ble_eq_true rfl⟩ [] [] rfl rfl (by decide) rfl rfl (fun r_4 u_4 H locs w_4 h_4 => ?_)
    clear h
    obtain ⟨wr_4, y4_0, _⟩ := w_4
    replace h_4 : qW D _ _ [] _ _ := h_4
    exact q_lret X hr hlk hK h_4 (fun _ => 0, fun _ _ => 0, fun _ _ => 0) ⟨(bw wr_4 (by decide) (by decide)), (show (r_4 : Int64).toInt ≠ 0 ∨ ((j0 : Int64).toInt = 0 ∧ (j1 : Int64).toInt = 0) from by (first | (clear y4_0; omega) | omega)), trivial⟩ [] rfl rfl dX12_common_17 (Nat.le_of_ble_eq_true rfl) (Nat.le_of_ble_eq_true rfl)
  · replace c_1 := j_eq (x := j1) (y := 0) rfl (show (0 : Int64).toInt = 0 by decide) c_1
    refine lv_lload_n hx hb dX12_common_6 rfl (lv_at hl 0 rfl) ?_
    refine lv_goto (tgt := 17) hx hb dX12_common_7 (by decide) ?_
    exact q_lret X hr hlk hK h (fun _ => 0, fun _ _ => 0, fun _ _ => 0) ⟨hj0, (show (j0 : Int64).toInt ≠ 0 ∨ ((j0 : Int64).toInt = 0 ∧ (j1 : Int64).toInt = 0) from by omega), trivial⟩ [] rfl rfl dX12_common_17 (Nat.le_of_ble_eq_true rfl) (Nat.le_of_ble_eq_true rfl)
set_option maxHeartbeats 4000000 in
set_option maxRecDepth 100000 in
theorem gX12_common_52d1f75 (l : Launch) (D : va_G) (cy : Nat → ClassId) (j0 : Int64) (j1 : Int64) (hj0 : (-305175) ≤ (j0).toInt ∧ (j0).toInt ≤ 305175) (hj1 : (-305175) ≤ (j1).toInt ∧ (j1).toInt ≤ 305175) (hpre0 : CM 305175 305175 (j0 : Int64).toInt (j1 : Int64).toInt) (sz : Nat) : ML l yX12_common cX12_common 4 { frames := 37, cells := 0, slots := 0, locals := 851 } [.long j0, .long j1] D cy [] sz (fun r u => ((-305175) ≤ r.toInt ∧ r.toInt ≤ 305175) ∧ ((r : Int64).toInt ≠ 0 ∨ ((j0 : Int64).toInt = 0 ∧ (j1 : Int64).toInt = 0)) ∧ True) (fun u => []) 0 0 := by
  refine q_ent (own := RX12) (by decide) rfl (Nat.le_of_ble_eq_true rfl) (fun p e s m below meth c ls X hr hlk hnm hK hT h hA hl => ?_)
  obtain ⟨hx, hb, hml, hown, ht⟩ := id X
  replace hl : lv_has ls 4 [(0, .long j0), (2, .long j1)] := hl
  refine lv_lload_n hx hb dX12_common_0 rfl (lv_at hl 1 rfl) ?_
  refine lv_lconst (v := 0) hx hb dX12_common_1 (by decide) ?_
  refine W.lcmp hx hb dX12_common_2 ?_
  refine lv_if_ne (tgt := 10) hx hb dX12_common_3 (by decide) (fun c_1 => ?_) (fun c_1 => ?_)
  · replace c_1 := j_neq (x := j1) (y := 0) rfl (show (0 : Int64).toInt = 0 by decide) c_1
    refine lv_lload_n hx hb dX12_common_10 rfl (lv_at hl 1 rfl) ?_
    refine lv_lload_n hx hb dX12_common_11 rfl (lv_at hl 0 rfl) ?_
    refine lv_lload_n hx hb dX12_common_12 rfl (lv_at hl 1 rfl) ?_
    refine lv_lrem hx hb dX12_common_13 (j_nz (by omega)) ?_
    obtain ⟨z_2, ez_2, hz_2⟩ := e_anyJ (j0 - j0 / j1 * j1)
    refine q_cl z_2 ez_2 ?_
    have cm_3 : CM 152587 305175 _ _ := cm_s (by decide) hpre0 (by omega) ez_2
    have cr_3 := cm_r cm_3
    refine q_callSl (rest := []) (wr := []) X hK hT hA h (fun sz => gX12_common_450f168 l D cy j1 z_2 hj1 ⟨by omega, by omega⟩ (cm_3) sz) wm_8_20 wm_8_22 wm_1_12 hd_X12_common wm_8_21 ⟨Nat.le_of_ble_eq_true rfl, Nat.le_of_ble_eq_true rfl⟩ hl.1 rfl (Nat.le_of_ble_eq_true rfl) dX12_common_14 ⟨Nat.le_of_ble_eq_true rfl, Nat.le_of_ble_eq_true rfl⟩ [] [] rfl rfl (by decide) rfl rfl (fun r_4 u_4 H locs w_4 h_4 => ?_)
    clear h
    obtain ⟨wr_4, y4_0, _⟩ := w_4
    replace h_4 : qW D _ _ [] _ _ := h_4
    exact q_lret X hr hlk hK h_4 (fun _ => 0, fun _ _ => 0, fun _ _ => 0) ⟨wr_4, (show (r_4 : Int64).toInt ≠ 0 ∨ ((j0 : Int64).toInt = 0 ∧ (j1 : Int64).toInt = 0) from by (first | (clear y4_0; omega) | omega)), trivial⟩ [] rfl rfl dX12_common_17 (Nat.le_of_ble_eq_true rfl) (Nat.le_of_ble_eq_true rfl)
  · replace c_1 := j_eq (x := j1) (y := 0) rfl (show (0 : Int64).toInt = 0 by decide) c_1
    refine lv_lload_n hx hb dX12_common_6 rfl (lv_at hl 0 rfl) ?_
    refine lv_goto (tgt := 17) hx hb dX12_common_7 (by decide) ?_
    exact q_lret X hr hlk hK h (fun _ => 0, fun _ _ => 0, fun _ _ => 0) ⟨hj0, (show (j0 : Int64).toInt ≠ 0 ∨ ((j0 : Int64).toInt = 0 ∧ (j1 : Int64).toInt = 0) from by omega), trivial⟩ [] rfl rfl dX12_common_17 (Nat.le_of_ble_eq_true rfl) (Nat.le_of_ble_eq_true rfl)
set_option maxHeartbeats 4000000 in
set_option maxRecDepth 100000 in
theorem gX12_common_c828d64 (l : Launch) (D : va_G) (cy : Nat → ClassId) (j0 : Int64) (j1 : Int64) (hj0 : (-610351) ≤ (j0).toInt ∧ (j0).toInt ≤ 610351) (hj1 : (-305175) ≤ (j1).toInt ∧ (j1).toInt ≤ 305175) (hpre0 : CM 305175 610351 (j0 : Int64).toInt (j1 : Int64).toInt) (sz : Nat) : ML l yX12_common cX12_common 4 { frames := 38, cells := 0, slots := 0, locals := 874 } [.long j0, .long j1] D cy [] sz (fun r u => ((-610351) ≤ r.toInt ∧ r.toInt ≤ 610351) ∧ ((r : Int64).toInt ≠ 0 ∨ ((j0 : Int64).toInt = 0 ∧ (j1 : Int64).toInt = 0)) ∧ True) (fun u => []) 0 0 := by
  refine q_ent (own := RX12) (by decide) rfl (Nat.le_of_ble_eq_true rfl) (fun p e s m below meth c ls X hr hlk hnm hK hT h hA hl => ?_)
  obtain ⟨hx, hb, hml, hown, ht⟩ := id X
  replace hl : lv_has ls 4 [(0, .long j0), (2, .long j1)] := hl
  refine lv_lload_n hx hb dX12_common_0 rfl (lv_at hl 1 rfl) ?_
  refine lv_lconst (v := 0) hx hb dX12_common_1 (by decide) ?_
  refine W.lcmp hx hb dX12_common_2 ?_
  refine lv_if_ne (tgt := 10) hx hb dX12_common_3 (by decide) (fun c_1 => ?_) (fun c_1 => ?_)
  · replace c_1 := j_neq (x := j1) (y := 0) rfl (show (0 : Int64).toInt = 0 by decide) c_1
    refine lv_lload_n hx hb dX12_common_10 rfl (lv_at hl 1 rfl) ?_
    refine lv_lload_n hx hb dX12_common_11 rfl (lv_at hl 0 rfl) ?_
    refine lv_lload_n hx hb dX12_common_12 rfl (lv_at hl 1 rfl) ?_
    refine lv_lrem hx hb dX12_common_13 (j_nz (by omega)) ?_
    obtain ⟨z_2, ez_2, hz_2⟩ := e_anyJ (j0 - j0 / j1 * j1)
    refine q_cl z_2 ez_2 ?_
    have cm_3 : CM 305175 305175 _ _ := cm_s (by decide) hpre0 (by omega) ez_2
    have cr_3 := cm_r cm_3
    refine q_callSl (rest := []) (wr := []) X hK hT hA h (fun sz => gX12_common_52d1f75 l D cy j1 z_2 hj1 ⟨by omega, by omega⟩ (cm_3) sz) wm_8_20 wm_8_22 wm_1_12 hd_X12_common wm_8_21 ⟨Nat.le_of_ble_eq_true rfl, Nat.le_of_ble_eq_true rfl⟩ hl.1 rfl (Nat.le_of_ble_eq_true rfl) dX12_common_14 ⟨Nat.le_of_ble_eq_true rfl, Nat.le_of_ble_eq_true rfl⟩ [] [] rfl rfl (by decide) rfl rfl (fun r_4 u_4 H locs w_4 h_4 => ?_)
    clear h
    obtain ⟨wr_4, y4_0, _⟩ := w_4
    replace h_4 : qW D _ _ [] _ _ := h_4
    exact q_lret X hr hlk hK h_4 (fun _ => 0, fun _ _ => 0, fun _ _ => 0) ⟨(bw wr_4 (by decide) (by decide)), (show (r_4 : Int64).toInt ≠ 0 ∨ ((j0 : Int64).toInt = 0 ∧ (j1 : Int64).toInt = 0) from by (first | (clear y4_0; omega) | omega)), trivial⟩ [] rfl rfl dX12_common_17 (Nat.le_of_ble_eq_true rfl) (Nat.le_of_ble_eq_true rfl)
  · replace c_1 := j_eq (x := j1) (y := 0) rfl (show (0 : Int64).toInt = 0 by decide) c_1
    refine lv_lload_n hx hb dX12_common_6 rfl (lv_at hl 0 rfl) ?_
    refine lv_goto (tgt := 17) hx hb dX12_common_7 (by decide) ?_
    exact q_lret X hr hlk hK h (fun _ => 0, fun _ _ => 0, fun _ _ => 0) ⟨hj0, (show (j0 : Int64).toInt ≠ 0 ∨ ((j0 : Int64).toInt = 0 ∧ (j1 : Int64).toInt = 0) from by omega), trivial⟩ [] rfl rfl dX12_common_17 (Nat.le_of_ble_eq_true rfl) (Nat.le_of_ble_eq_true rfl)
set_option maxHeartbeats 4000000 in
set_option maxRecDepth 100000 in
theorem gX12_common_90642f0 (l : Launch) (D : va_G) (cy : Nat → ClassId) (j0 : Int64) (j1 : Int64) (hj0 : (-610351) ≤ (j0).toInt ∧ (j0).toInt ≤ 610351) (hj1 : (-610351) ≤ (j1).toInt ∧ (j1).toInt ≤ 610351) (hpre0 : CM 610351 610351 (j0 : Int64).toInt (j1 : Int64).toInt) (sz : Nat) : ML l yX12_common cX12_common 4 { frames := 39, cells := 0, slots := 0, locals := 897 } [.long j0, .long j1] D cy [] sz (fun r u => ((-610351) ≤ r.toInt ∧ r.toInt ≤ 610351) ∧ ((r : Int64).toInt ≠ 0 ∨ ((j0 : Int64).toInt = 0 ∧ (j1 : Int64).toInt = 0)) ∧ True) (fun u => []) 0 0 := by
  refine q_ent (own := RX12) (by decide) rfl (Nat.le_of_ble_eq_true rfl) (fun p e s m below meth c ls X hr hlk hnm hK hT h hA hl => ?_)
  obtain ⟨hx, hb, hml, hown, ht⟩ := id X
  replace hl : lv_has ls 4 [(0, .long j0), (2, .long j1)] := hl
  refine lv_lload_n hx hb dX12_common_0 rfl (lv_at hl 1 rfl) ?_
  refine lv_lconst (v := 0) hx hb dX12_common_1 (by decide) ?_
  refine W.lcmp hx hb dX12_common_2 ?_
  refine lv_if_ne (tgt := 10) hx hb dX12_common_3 (by decide) (fun c_1 => ?_) (fun c_1 => ?_)
  · replace c_1 := j_neq (x := j1) (y := 0) rfl (show (0 : Int64).toInt = 0 by decide) c_1
    refine lv_lload_n hx hb dX12_common_10 rfl (lv_at hl 1 rfl) ?_
    refine lv_lload_n hx hb dX12_common_11 rfl (lv_at hl 0 rfl) ?_
    refine lv_lload_n hx hb dX12_common_12 rfl (lv_at hl 1 rfl) ?_
    refine lv_lrem hx hb dX12_common_13 (j_nz (by omega)) ?_
    obtain ⟨z_2, ez_2, hz_2⟩ := e_anyJ (j0 - j0 / j1 * j1)
    refine q_cl z_2 ez_2 ?_
    have cm_3 : CM 305175 610351 _ _ := cm_s (by decide) hpre0 (by omega) ez_2
    have cr_3 := cm_r cm_3
    refine q_callSl (rest := []) (wr := []) X hK hT hA h (fun sz => gX12_common_c828d64 l D cy j1 z_2 hj1 ⟨by omega, by omega⟩ (cm_3) sz) wm_8_20 wm_8_22 wm_1_12 hd_X12_common wm_8_21 ⟨Nat.le_of_ble_eq_true rfl, Nat.le_of_ble_eq_true rfl⟩ hl.1 rfl (Nat.le_of_ble_eq_true rfl) dX12_common_14 ⟨Nat.le_of_ble_eq_true rfl, Nat.le_of_ble_eq_true rfl⟩ [] [] rfl rfl (by decide) rfl rfl (fun r_4 u_4 H locs w_4 h_4 => ?_)
    clear h
    obtain ⟨wr_4, y4_0, _⟩ := w_4
    replace h_4 : qW D _ _ [] _ _ := h_4
    exact q_lret X hr hlk hK h_4 (fun _ => 0, fun _ _ => 0, fun _ _ => 0) ⟨wr_4, (show (r_4 : Int64).toInt ≠ 0 ∨ ((j0 : Int64).toInt = 0 ∧ (j1 : Int64).toInt = 0) from by (first | (clear y4_0; omega) | omega)), trivial⟩ [] rfl rfl dX12_common_17 (Nat.le_of_ble_eq_true rfl) (Nat.le_of_ble_eq_true rfl)
  · replace c_1 := j_eq (x := j1) (y := 0) rfl (show (0 : Int64).toInt = 0 by decide) c_1
    refine lv_lload_n hx hb dX12_common_6 rfl (lv_at hl 0 rfl) ?_
    refine lv_goto (tgt := 17) hx hb dX12_common_7 (by decide) ?_
    exact q_lret X hr hlk hK h (fun _ => 0, fun _ _ => 0, fun _ _ => 0) ⟨hj0, (show (j0 : Int64).toInt ≠ 0 ∨ ((j0 : Int64).toInt = 0 ∧ (j1 : Int64).toInt = 0) from by omega), trivial⟩ [] rfl rfl dX12_common_17 (Nat.le_of_ble_eq_true rfl) (Nat.le_of_ble_eq_true rfl)
set_option maxHeartbeats 4000000 in
set_option maxRecDepth 100000 in
theorem gX12_common_95cc9e1 (l : Launch) (D : va_G) (cy : Nat → ClassId) (j0 : Int64) (j1 : Int64) (hj0 : (-1220703) ≤ (j0).toInt ∧ (j0).toInt ≤ 1220703) (hj1 : (-610351) ≤ (j1).toInt ∧ (j1).toInt ≤ 610351) (hpre0 : CM 610351 1220703 (j0 : Int64).toInt (j1 : Int64).toInt) (sz : Nat) : ML l yX12_common cX12_common 4 { frames := 40, cells := 0, slots := 0, locals := 920 } [.long j0, .long j1] D cy [] sz (fun r u => ((-1220703) ≤ r.toInt ∧ r.toInt ≤ 1220703) ∧ ((r : Int64).toInt ≠ 0 ∨ ((j0 : Int64).toInt = 0 ∧ (j1 : Int64).toInt = 0)) ∧ True) (fun u => []) 0 0 := by
  refine q_ent (own := RX12) (by decide) rfl (Nat.le_of_ble_eq_true rfl) (fun p e s m below meth c ls X hr hlk hnm hK hT h hA hl => ?_)
  obtain ⟨hx, hb, hml, hown, ht⟩ := id X
  replace hl : lv_has ls 4 [(0, .long j0), (2, .long j1)] := hl
  refine lv_lload_n hx hb dX12_common_0 rfl (lv_at hl 1 rfl) ?_
  refine lv_lconst (v := 0) hx hb dX12_common_1 (by decide) ?_
  refine W.lcmp hx hb dX12_common_2 ?_
  refine lv_if_ne (tgt := 10) hx hb dX12_common_3 (by decide) (fun c_1 => ?_) (fun c_1 => ?_)
  · replace c_1 := j_neq (x := j1) (y := 0) rfl (show (0 : Int64).toInt = 0 by decide) c_1
    refine lv_lload_n hx hb dX12_common_10 rfl (lv_at hl 1 rfl) ?_
    refine lv_lload_n hx hb dX12_common_11 rfl (lv_at hl 0 rfl) ?_
    refine lv_lload_n hx hb dX12_common_12 rfl (lv_at hl 1 rfl) ?_
    refine lv_lrem hx hb dX12_common_13 (j_nz (by omega)) ?_
    obtain ⟨z_2, ez_2, hz_2⟩ := e_anyJ (j0 - j0 / j1 * j1)
    refine q_cl z_2 ez_2 ?_
    have cm_3 : CM 610351 610351 _ _ := cm_s (by decide) hpre0 (by omega) ez_2
    have cr_3 := cm_r cm_3
    refine q_callSl (rest := []) (wr := []) X hK hT hA h (fun sz => gX12_common_90642f0 l D cy j1 z_2 hj1 ⟨by omega, by omega⟩ (cm_3) sz) wm_8_20 wm_8_22 wm_1_12 hd_X12_common wm_8_21 ⟨Nat.le_of_ble_eq_true rfl, Nat.le_of_ble_eq_true rfl⟩ hl.1 rfl (Nat.le_of_ble_eq_true rfl) dX12_common_14 ⟨Nat.le_of_ble_eq_true rfl, Nat.le_of_ble_eq_true rfl⟩ [] [] rfl rfl (by decide) rfl rfl (fun r_4 u_4 H locs w_4 h_4 => ?_)
    clear h
    obtain ⟨wr_4, y4_0, _⟩ := w_4
    replace h_4 : qW D _ _ [] _ _ := h_4
    exact q_lret X hr hlk hK h_4 (fun _ => 0, fun _ _ => 0, fun _ _ => 0) ⟨(bw wr_4 (by decide) (by decide)), (show (r_4 : Int64).toInt ≠ 0 ∨ ((j0 : Int64).toInt = 0 ∧ (j1 : Int64).toInt = 0) from by (first | (clear y4_0; omega) | omega)), trivial⟩ [] rfl rfl dX12_common_17 (Nat.le_of_ble_eq_true rfl) (Nat.le_of_ble_eq_true rfl)
  · replace c_1 := j_eq (x := j1) (y := 0) rfl (show (0 : Int64).toInt = 0 by decide) c_1
    refine lv_lload_n hx hb dX12_common_6 rfl (lv_at hl 0 rfl) ?_
    refine lv_goto (tgt := 17) hx hb dX12_common_7 (by decide) ?_
    exact q_lret X hr hlk hK h (fun _ => 0, fun _ _ => 0, fun _ _ => 0) ⟨hj0, (show (j0 : Int64).toInt ≠ 0 ∨ ((j0 : Int64).toInt = 0 ∧ (j1 : Int64).toInt = 0) from by omega), trivial⟩ [] rfl rfl dX12_common_17 (Nat.le_of_ble_eq_true rfl) (Nat.le_of_ble_eq_true rfl)
set_option maxHeartbeats 4000000 in
set_option maxRecDepth 100000 in
theorem gX12_common_ae74265 (l : Launch) (D : va_G) (cy : Nat → ClassId) (j0 : Int64) (j1 : Int64) (hj0 : (-1220703) ≤ (j0).toInt ∧ (j0).toInt ≤ 1220703) (hj1 : (-1220703) ≤ (j1).toInt ∧ (j1).toInt ≤ 1220703) (hpre0 : CM 1220703 1220703 (j0 : Int64).toInt (j1 : Int64).toInt) (sz : Nat) : ML l yX12_common cX12_common 4 { frames := 41, cells := 0, slots := 0, locals := 943 } [.long j0, .long j1] D cy [] sz (fun r u => ((-1220703) ≤ r.toInt ∧ r.toInt ≤ 1220703) ∧ ((r : Int64).toInt ≠ 0 ∨ ((j0 : Int64).toInt = 0 ∧ (j1 : Int64).toInt = 0)) ∧ True) (fun u => []) 0 0 := by
  refine q_ent (own := RX12) (by decide) rfl (Nat.le_of_ble_eq_true rfl) (fun p e s m below meth c ls X hr hlk hnm hK hT h hA hl => ?_)
  obtain ⟨hx, hb, hml, hown, ht⟩ := id X
  replace hl : lv_has ls 4 [(0, .long j0), (2, .long j1)] := hl
  refine lv_lload_n hx hb dX12_common_0 rfl (lv_at hl 1 rfl) ?_
  refine lv_lconst (v := 0) hx hb dX12_common_1 (by decide) ?_
  refine W.lcmp hx hb dX12_common_2 ?_
  refine lv_if_ne (tgt := 10) hx hb dX12_common_3 (by decide) (fun c_1 => ?_) (fun c_1 => ?_)
  · replace c_1 := j_neq (x := j1) (y := 0) rfl (show (0 : Int64).toInt = 0 by decide) c_1
    refine lv_lload_n hx hb dX12_common_10 rfl (lv_at hl 1 rfl) ?_
    refine lv_lload_n hx hb dX12_common_11 rfl (lv_at hl 0 rfl) ?_
    refine lv_lload_n hx hb dX12_common_12 rfl (lv_at hl 1 rfl) ?_
    refine lv_lrem hx hb dX12_common_13 (j_nz (by omega)) ?_
    obtain ⟨z_2, ez_2, hz_2⟩ := e_anyJ (j0 - j0 / j1 * j1)
    refine q_cl z_2 ez_2 ?_
    have cm_3 : CM 610351 1220703 _ _ := cm_s (by decide) hpre0 (by omega) ez_2
    have cr_3 := cm_r cm_3
    refine q_callSl (rest := []) (wr := []) X hK hT hA h (fun sz => gX12_common_95cc9e1 l D cy j1 z_2 hj1 ⟨by omega, by omega⟩ (cm_3) sz) wm_8_20 wm_8_22 wm_1_12 hd_X12_common wm_8_21 ⟨Nat.le_of_ble_eq_true rfl, Nat.le_of_ble_eq_true rfl⟩ hl.1 rfl (Nat.le_of_ble_eq_true rfl) dX12_common_14 ⟨Nat.le_of_ble_eq_true rfl, Nat.le_of_ble_eq_true rfl⟩ [] [] rfl rfl (by decide) rfl rfl (fun r_4 u_4 H locs w_4 h_4 => ?_)
    clear h
    obtain ⟨wr_4, y4_0, _⟩ := w_4
    replace h_4 : qW D _ _ [] _ _ := h_4
    exact q_lret X hr hlk hK h_4 (fun _ => 0, fun _ _ => 0, fun _ _ => 0) ⟨wr_4, (show (r_4 : Int64).toInt ≠ 0 ∨ ((j0 : Int64).toInt = 0 ∧ (j1 : Int64).toInt = 0) from by (first | (clear y4_0; omega) | omega)), trivial⟩ [] rfl rfl dX12_common_17 (Nat.le_of_ble_eq_true rfl) (Nat.le_of_ble_eq_true rfl)
  · replace c_1 := j_eq (x := j1) (y := 0) rfl (show (0 : Int64).toInt = 0 by decide) c_1
    refine lv_lload_n hx hb dX12_common_6 rfl (lv_at hl 0 rfl) ?_
    refine lv_goto (tgt := 17) hx hb dX12_common_7 (by decide) ?_
    exact q_lret X hr hlk hK h (fun _ => 0, fun _ _ => 0, fun _ _ => 0) ⟨hj0, (show (j0 : Int64).toInt ≠ 0 ∨ ((j0 : Int64).toInt = 0 ∧ (j1 : Int64).toInt = 0) from by omega), trivial⟩ [] rfl rfl dX12_common_17 (Nat.le_of_ble_eq_true rfl) (Nat.le_of_ble_eq_true rfl)
set_option maxHeartbeats 4000000 in
set_option maxRecDepth 100000 in
theorem gX12_common_b8ddbd5 (l : Launch) (D : va_G) (cy : Nat → ClassId) (j0 : Int64) (j1 : Int64) (hj0 : (-2441406) ≤ (j0).toInt ∧ (j0).toInt ≤ 2441406) (hj1 : (-1220703) ≤ (j1).toInt ∧ (j1).toInt ≤ 1220703) (hpre0 : CM 1220703 2441406 (j0 : Int64).toInt (j1 : Int64).toInt) (sz : Nat) : ML l yX12_common cX12_common 4 { frames := 42, cells := 0, slots := 0, locals := 966 } [.long j0, .long j1] D cy [] sz (fun r u => ((-2441406) ≤ r.toInt ∧ r.toInt ≤ 2441406) ∧ ((r : Int64).toInt ≠ 0 ∨ ((j0 : Int64).toInt = 0 ∧ (j1 : Int64).toInt = 0)) ∧ True) (fun u => []) 0 0 := by
  refine q_ent (own := RX12) (by decide) rfl (Nat.le_of_ble_eq_true rfl) (fun p e s m below meth c ls X hr hlk hnm hK hT h hA hl => ?_)
  obtain ⟨hx, hb, hml, hown, ht⟩ := id X
  replace hl : lv_has ls 4 [(0, .long j0), (2, .long j1)] := hl
  refine lv_lload_n hx hb dX12_common_0 rfl (lv_at hl 1 rfl) ?_
  refine lv_lconst (v := 0) hx hb dX12_common_1 (by decide) ?_
  refine W.lcmp hx hb dX12_common_2 ?_
  refine lv_if_ne (tgt := 10) hx hb dX12_common_3 (by decide) (fun c_1 => ?_) (fun c_1 => ?_)
  · replace c_1 := j_neq (x := j1) (y := 0) rfl (show (0 : Int64).toInt = 0 by decide) c_1
    refine lv_lload_n hx hb dX12_common_10 rfl (lv_at hl 1 rfl) ?_
    refine lv_lload_n hx hb dX12_common_11 rfl (lv_at hl 0 rfl) ?_
    refine lv_lload_n hx hb dX12_common_12 rfl (lv_at hl 1 rfl) ?_
    refine lv_lrem hx hb dX12_common_13 (j_nz (by omega)) ?_
    obtain ⟨z_2, ez_2, hz_2⟩ := e_anyJ (j0 - j0 / j1 * j1)
    refine q_cl z_2 ez_2 ?_
    have cm_3 : CM 1220703 1220703 _ _ := cm_s (by decide) hpre0 (by omega) ez_2
    have cr_3 := cm_r cm_3
    refine q_callSl (rest := []) (wr := []) X hK hT hA h (fun sz => gX12_common_ae74265 l D cy j1 z_2 hj1 ⟨by omega, by omega⟩ (cm_3) sz) wm_8_20 wm_8_22 wm_1_12 hd_X12_common wm_8_21 ⟨Nat.le_of_ble_eq_true rfl, Nat.le_of_ble_eq_true rfl⟩ hl.1 rfl (Nat.le_of_ble_eq_true rfl) dX12_common_14 ⟨Nat.le_of_ble_eq_true rfl, Nat.le_of_ble_eq_true rfl⟩ [] [] rfl rfl (by decide) rfl rfl (fun r_4 u_4 H locs w_4 h_4 => ?_)
    clear h
    obtain ⟨wr_4, y4_0, _⟩ := w_4
    replace h_4 : qW D _ _ [] _ _ := h_4
    exact q_lret X hr hlk hK h_4 (fun _ => 0, fun _ _ => 0, fun _ _ => 0) ⟨(bw wr_4 (by decide) (by decide)), (show (r_4 : Int64).toInt ≠ 0 ∨ ((j0 : Int64).toInt = 0 ∧ (j1 : Int64).toInt = 0) from by (first | (clear y4_0; omega) | omega)), trivial⟩ [] rfl rfl dX12_common_17 (Nat.le_of_ble_eq_true rfl) (Nat.le_of_ble_eq_true rfl)
  · replace c_1 := j_eq (x := j1) (y := 0) rfl (show (0 : Int64).toInt = 0 by decide) c_1
    refine lv_lload_n hx hb dX12_common_6 rfl (lv_at hl 0 rfl) ?_
    refine lv_goto (tgt := 17) hx hb dX12_common_7 (by decide) ?_
    exact q_lret X hr hlk hK h (fun _ => 0, fun _ _ => 0, fun _ _ => 0) ⟨hj0, (show (j0 : Int64).toInt ≠ 0 ∨ ((j0 : Int64).toInt = 0 ∧ (j1 : Int64).toInt = 0) from by omega), trivial⟩ [] rfl rfl dX12_common_17 (Nat.le_of_ble_eq_true rfl) (Nat.le_of_ble_eq_true rfl)
set_option maxHeartbeats 4000000 in
set_option maxRecDepth 100000 in
theorem gX12_common_38ce1ad (l : Launch) (D : va_G) (cy : Nat → ClassId) (j0 : Int64) (j1 : Int64) (hj0 : (-2441406) ≤ (j0).toInt ∧ (j0).toInt ≤ 2441406) (hj1 : (-2441406) ≤ (j1).toInt ∧ (j1).toInt ≤ 2441406) (hpre0 : CM 2441406 2441406 (j0 : Int64).toInt (j1 : Int64).toInt) (sz : Nat) : ML l yX12_common cX12_common 4 { frames := 43, cells := 0, slots := 0, locals := 989 } [.long j0, .long j1] D cy [] sz (fun r u => ((-2441406) ≤ r.toInt ∧ r.toInt ≤ 2441406) ∧ ((r : Int64).toInt ≠ 0 ∨ ((j0 : Int64).toInt = 0 ∧ (j1 : Int64).toInt = 0)) ∧ True) (fun u => []) 0 0 := by
  refine q_ent (own := RX12) (by decide) rfl (Nat.le_of_ble_eq_true rfl) (fun p e s m below meth c ls X hr hlk hnm hK hT h hA hl => ?_)
  obtain ⟨hx, hb, hml, hown, ht⟩ := id X
  replace hl : lv_has ls 4 [(0, .long j0), (2, .long j1)] := hl
  refine lv_lload_n hx hb dX12_common_0 rfl (lv_at hl 1 rfl) ?_
  refine lv_lconst (v := 0) hx hb dX12_common_1 (by decide) ?_
  refine W.lcmp hx hb dX12_common_2 ?_
  refine lv_if_ne (tgt := 10) hx hb dX12_common_3 (by decide) (fun c_1 => ?_) (fun c_1 => ?_)
  · replace c_1 := j_neq (x := j1) (y := 0) rfl (show (0 : Int64).toInt = 0 by decide) c_1
    refine lv_lload_n hx hb dX12_common_10 rfl (lv_at hl 1 rfl) ?_
    refine lv_lload_n hx hb dX12_common_11 rfl (lv_at hl 0 rfl) ?_
    refine lv_lload_n hx hb dX12_common_12 rfl (lv_at hl 1 rfl) ?_
    refine lv_lrem hx hb dX12_common_13 (j_nz (by omega)) ?_
    obtain ⟨z_2, ez_2, hz_2⟩ := e_anyJ (j0 - j0 / j1 * j1)
    refine q_cl z_2 ez_2 ?_
    have cm_3 : CM 1220703 2441406 _ _ := cm_s (by decide) hpre0 (by omega) ez_2
    have cr_3 := cm_r cm_3
    refine q_callSl (rest := []) (wr := []) X hK hT hA h (fun sz => gX12_common_b8ddbd5 l D cy j1 z_2 hj1 ⟨by omega, by omega⟩ (cm_3) sz) wm_8_20 wm_8_22 wm_1_12 hd_X12_common wm_8_21 ⟨Nat.le_of_ble_eq_true rfl, Nat.le_of_ble_eq_true rfl⟩ hl.1 rfl (Nat.le_of_ble_eq_true rfl) dX12_common_14 ⟨Nat.le_of_ble_eq_true rfl, Nat.le_of_ble_eq_true rfl⟩ [] [] rfl rfl (by decide) rfl rfl (fun r_4 u_4 H locs w_4 h_4 => ?_)
    clear h
    obtain ⟨wr_4, y4_0, _⟩ := w_4
    replace h_4 : qW D _ _ [] _ _ := h_4
    exact q_lret X hr hlk hK h_4 (fun _ => 0, fun _ _ => 0, fun _ _ => 0) ⟨wr_4, (show (r_4 : Int64).toInt ≠ 0 ∨ ((j0 : Int64).toInt = 0 ∧ (j1 : Int64).toInt = 0) from by (first | (clear y4_0; omega) | omega)), trivial⟩ [] rfl rfl dX12_common_17 (Nat.le_of_ble_eq_true rfl) (Nat.le_of_ble_eq_true rfl)
  · replace c_1 := j_eq (x := j1) (y := 0) rfl (show (0 : Int64).toInt = 0 by decide) c_1
    refine lv_lload_n hx hb dX12_common_6 rfl (lv_at hl 0 rfl) ?_
    refine lv_goto (tgt := 17) hx hb dX12_common_7 (by decide) ?_
    exact q_lret X hr hlk hK h (fun _ => 0, fun _ _ => 0, fun _ _ => 0) ⟨hj0, (show (j0 : Int64).toInt ≠ 0 ∨ ((j0 : Int64).toInt = 0 ∧ (j1 : Int64).toInt = 0) from by omega), trivial⟩ [] rfl rfl dX12_common_17 (Nat.le_of_ble_eq_true rfl) (Nat.le_of_ble_eq_true rfl)
set_option maxHeartbeats 4000000 in
set_option maxRecDepth 100000 in
theorem gX12_common_ea509c9 (l : Launch) (D : va_G) (cy : Nat → ClassId) (j0 : Int64) (j1 : Int64) (hj0 : (-4882812) ≤ (j0).toInt ∧ (j0).toInt ≤ 4882812) (hj1 : (-2441406) ≤ (j1).toInt ∧ (j1).toInt ≤ 2441406) (hpre0 : CM 2441406 4882812 (j0 : Int64).toInt (j1 : Int64).toInt) (sz : Nat) : ML l yX12_common cX12_common 4 { frames := 44, cells := 0, slots := 0, locals := 1012 } [.long j0, .long j1] D cy [] sz (fun r u => ((-4882812) ≤ r.toInt ∧ r.toInt ≤ 4882812) ∧ ((r : Int64).toInt ≠ 0 ∨ ((j0 : Int64).toInt = 0 ∧ (j1 : Int64).toInt = 0)) ∧ True) (fun u => []) 0 0 := by
  refine q_ent (own := RX12) (by decide) rfl (Nat.le_of_ble_eq_true rfl) (fun p e s m below meth c ls X hr hlk hnm hK hT h hA hl => ?_)
  obtain ⟨hx, hb, hml, hown, ht⟩ := id X
  replace hl : lv_has ls 4 [(0, .long j0), (2, .long j1)] := hl
  refine lv_lload_n hx hb dX12_common_0 rfl (lv_at hl 1 rfl) ?_
  refine lv_lconst (v := 0) hx hb dX12_common_1 (by decide) ?_
  refine W.lcmp hx hb dX12_common_2 ?_
  refine lv_if_ne (tgt := 10) hx hb dX12_common_3 (by decide) (fun c_1 => ?_) (fun c_1 => ?_)
  · replace c_1 := j_neq (x := j1) (y := 0) rfl (show (0 : Int64).toInt = 0 by decide) c_1
    refine lv_lload_n hx hb dX12_common_10 rfl (lv_at hl 1 rfl) ?_
    refine lv_lload_n hx hb dX12_common_11 rfl (lv_at hl 0 rfl) ?_
    refine lv_lload_n hx hb dX12_common_12 rfl (lv_at hl 1 rfl) ?_
    refine lv_lrem hx hb dX12_common_13 (j_nz (by omega)) ?_
    obtain ⟨z_2, ez_2, hz_2⟩ := e_anyJ (j0 - j0 / j1 * j1)
    refine q_cl z_2 ez_2 ?_
    have cm_3 : CM 2441406 2441406 _ _ := cm_s (by decide) hpre0 (by omega) ez_2
    have cr_3 := cm_r cm_3
    refine q_callSl (rest := []) (wr := []) X hK hT hA h (fun sz => gX12_common_38ce1ad l D cy j1 z_2 hj1 ⟨by omega, by omega⟩ (cm_3) sz) wm_8_20 wm_8_22 wm_1_12 hd_X12_common wm_8_21 ⟨Nat.le_of_ble_eq_true rfl, Nat.le_of_ble_eq_true rfl⟩ hl.1 rfl (Nat.le_of_ble_eq_true rfl) dX12_common_14 ⟨Nat.le_of_ble_eq_true rfl, Nat.le_of_ble_eq_true rfl⟩ [] [] rfl rfl (by decide) rfl rfl (fun r_4 u_4 H locs w_4 h_4 => ?_)
    clear h
    obtain ⟨wr_4, y4_0, _⟩ := w_4
    replace h_4 : qW D _ _ [] _ _ := h_4
    exact q_lret X hr hlk hK h_4 (fun _ => 0, fun _ _ => 0, fun _ _ => 0) ⟨(bw wr_4 (by decide) (by decide)), (show (r_4 : Int64).toInt ≠ 0 ∨ ((j0 : Int64).toInt = 0 ∧ (j1 : Int64).toInt = 0) from by (first | (clear y4_0; omega) | omega)), trivial⟩ [] rfl rfl dX12_common_17 (Nat.le_of_ble_eq_true rfl) (Nat.le_of_ble_eq_true rfl)
  · replace c_1 := j_eq (x := j1) (y := 0) rfl (show (0 : Int64).toInt = 0 by decide) c_1
    refine lv_lload_n hx hb dX12_common_6 rfl (lv_at hl 0 rfl) ?_
    refine lv_goto (tgt := 17) hx hb dX12_common_7 (by decide) ?_
    exact q_lret X hr hlk hK h (fun _ => 0, fun _ _ => 0, fun _ _ => 0) ⟨hj0, (show (j0 : Int64).toInt ≠ 0 ∨ ((j0 : Int64).toInt = 0 ∧ (j1 : Int64).toInt = 0) from by omega), trivial⟩ [] rfl rfl dX12_common_17 (Nat.le_of_ble_eq_true rfl) (Nat.le_of_ble_eq_true rfl)
set_option maxHeartbeats 4000000 in
set_option maxRecDepth 100000 in
theorem gX12_common_6a01d7d (l : Launch) (D : va_G) (cy : Nat → ClassId) (j0 : Int64) (j1 : Int64) (hj0 : (-4882812) ≤ (j0).toInt ∧ (j0).toInt ≤ 4882812) (hj1 : (-4882812) ≤ (j1).toInt ∧ (j1).toInt ≤ 4882812) (hpre0 : CM 4882812 4882812 (j0 : Int64).toInt (j1 : Int64).toInt) (sz : Nat) : ML l yX12_common cX12_common 4 { frames := 45, cells := 0, slots := 0, locals := 1035 } [.long j0, .long j1] D cy [] sz (fun r u => ((-4882812) ≤ r.toInt ∧ r.toInt ≤ 4882812) ∧ ((r : Int64).toInt ≠ 0 ∨ ((j0 : Int64).toInt = 0 ∧ (j1 : Int64).toInt = 0)) ∧ True) (fun u => []) 0 0 := by
  refine q_ent (own := RX12) (by decide) rfl (Nat.le_of_ble_eq_true rfl) (fun p e s m below meth c ls X hr hlk hnm hK hT h hA hl => ?_)
  obtain ⟨hx, hb, hml, hown, ht⟩ := id X
  replace hl : lv_has ls 4 [(0, .long j0), (2, .long j1)] := hl
  refine lv_lload_n hx hb dX12_common_0 rfl (lv_at hl 1 rfl) ?_
  refine lv_lconst (v := 0) hx hb dX12_common_1 (by decide) ?_
  refine W.lcmp hx hb dX12_common_2 ?_
  refine lv_if_ne (tgt := 10) hx hb dX12_common_3 (by decide) (fun c_1 => ?_) (fun c_1 => ?_)
  · replace c_1 := j_neq (x := j1) (y := 0) rfl (show (0 : Int64).toInt = 0 by decide) c_1
    refine lv_lload_n hx hb dX12_common_10 rfl (lv_at hl 1 rfl) ?_
    refine lv_lload_n hx hb dX12_common_11 rfl (lv_at hl 0 rfl) ?_
    refine lv_lload_n hx hb dX12_common_12 rfl (lv_at hl 1 rfl) ?_
    refine lv_lrem hx hb dX12_common_13 (j_nz (by omega)) ?_
    obtain ⟨z_2, ez_2, hz_2⟩ := e_anyJ (j0 - j0 / j1 * j1)
    refine q_cl z_2 ez_2 ?_
    have cm_3 : CM 2441406 4882812 _ _ := cm_s (by decide) hpre0 (by omega) ez_2
    have cr_3 := cm_r cm_3
    refine q_callSl (rest := []) (wr := []) X hK hT hA h (fun sz => gX12_common_ea509c9 l D cy j1 z_2 hj1 ⟨by omega, by omega⟩ (cm_3) sz) wm_8_20 wm_8_22 wm_1_12 hd_X12_common wm_8_21 ⟨Nat.le_of_ble_eq_true rfl, Nat.le_of_ble_eq_true rfl⟩ hl.1 rfl (Nat.le_of_ble_eq_true rfl) dX12_common_14 ⟨Nat.le_of_ble_eq_true rfl, Nat.le_of_ble_eq_true rfl⟩ [] [] rfl rfl (by decide) rfl rfl (fun r_4 u_4 H locs w_4 h_4 => ?_)
    clear h
    obtain ⟨wr_4, y4_0, _⟩ := w_4
    replace h_4 : qW D _ _ [] _ _ := h_4
    exact q_lret X hr hlk hK h_4 (fun _ => 0, fun _ _ => 0, fun _ _ => 0) ⟨wr_4, (show (r_4 : Int64).toInt ≠ 0 ∨ ((j0 : Int64).toInt = 0 ∧ (j1 : Int64).toInt = 0) from by (first | (clear y4_0; omega) | omega)), trivial⟩ [] rfl rfl dX12_common_17 (Nat.le_of_ble_eq_true rfl) (Nat.le_of_ble_eq_true rfl)
  · replace c_1 := j_eq (x := j1) (y := 0) rfl (show (0 : Int64).toInt = 0 by decide) c_1
    refine lv_lload_n hx hb dX12_common_6 rfl (lv_at hl 0 rfl) ?_
    refine lv_goto (tgt := 17) hx hb dX12_common_7 (by decide) ?_
    exact q_lret X hr hlk hK h (fun _ => 0, fun _ _ => 0, fun _ _ => 0) ⟨hj0, (show (j0 : Int64).toInt ≠ 0 ∨ ((j0 : Int64).toInt = 0 ∧ (j1 : Int64).toInt = 0) from by omega), trivial⟩ [] rfl rfl dX12_common_17 (Nat.le_of_ble_eq_true rfl) (Nat.le_of_ble_eq_true rfl)
set_option maxHeartbeats 4000000 in
set_option maxRecDepth 100000 in
theorem gX12_common_e16b3cb (l : Launch) (D : va_G) (cy : Nat → ClassId) (j0 : Int64) (j1 : Int64) (hj0 : (-9765624) ≤ (j0).toInt ∧ (j0).toInt ≤ 9765624) (hj1 : (-4882812) ≤ (j1).toInt ∧ (j1).toInt ≤ 4882812) (hpre0 : CM 4882812 9765624 (j0 : Int64).toInt (j1 : Int64).toInt) (sz : Nat) : ML l yX12_common cX12_common 4 { frames := 46, cells := 0, slots := 0, locals := 1058 } [.long j0, .long j1] D cy [] sz (fun r u => ((-9765624) ≤ r.toInt ∧ r.toInt ≤ 9765624) ∧ ((r : Int64).toInt ≠ 0 ∨ ((j0 : Int64).toInt = 0 ∧ (j1 : Int64).toInt = 0)) ∧ True) (fun u => []) 0 0 := by
  refine q_ent (own := RX12) (by decide) rfl (Nat.le_of_ble_eq_true rfl) (fun p e s m below meth c ls X hr hlk hnm hK hT h hA hl => ?_)
  obtain ⟨hx, hb, hml, hown, ht⟩ := id X
  replace hl : lv_has ls 4 [(0, .long j0), (2, .long j1)] := hl
  refine lv_lload_n hx hb dX12_common_0 rfl (lv_at hl 1 rfl) ?_
  refine lv_lconst (v := 0) hx hb dX12_common_1 (by decide) ?_
  refine W.lcmp hx hb dX12_common_2 ?_
  refine lv_if_ne (tgt := 10) hx hb dX12_common_3 (by decide) (fun c_1 => ?_) (fun c_1 => ?_)
  · replace c_1 := j_neq (x := j1) (y := 0) rfl (show (0 : Int64).toInt = 0 by decide) c_1
    refine lv_lload_n hx hb dX12_common_10 rfl (lv_at hl 1 rfl) ?_
    refine lv_lload_n hx hb dX12_common_11 rfl (lv_at hl 0 rfl) ?_
    refine lv_lload_n hx hb dX12_common_12 rfl (lv_at hl 1 rfl) ?_
    refine lv_lrem hx hb dX12_common_13 (j_nz (by omega)) ?_
    obtain ⟨z_2, ez_2, hz_2⟩ := e_anyJ (j0 - j0 / j1 * j1)
    refine q_cl z_2 ez_2 ?_
    have cm_3 : CM 4882812 4882812 _ _ := cm_s (by decide) hpre0 (by omega) ez_2
    have cr_3 := cm_r cm_3
    refine q_callSl (rest := []) (wr := []) X hK hT hA h (fun sz => gX12_common_6a01d7d l D cy j1 z_2 hj1 ⟨by omega, by omega⟩ (cm_3) sz) wm_8_20 wm_8_22 wm_1_12 hd_X12_common wm_8_21 ⟨Nat.le_of_ble_eq_true rfl, Nat.le_of_ble_eq_true rfl⟩ hl.1 rfl (Nat.le_of_ble_eq_true rfl) dX12_common_14 ⟨Nat.le_of_ble_eq_true rfl, Nat.le_of_ble_eq_true rfl⟩ [] [] rfl rfl (by decide) rfl rfl (fun r_4 u_4 H locs w_4 h_4 => ?_)
    clear h
    obtain ⟨wr_4, y4_0, _⟩ := w_4
    replace h_4 : qW D _ _ [] _ _ := h_4
    exact q_lret X hr hlk hK h_4 (fun _ => 0, fun _ _ => 0, fun _ _ => 0) ⟨(bw wr_4 (by decide) (by decide)), (show (r_4 : Int64).toInt ≠ 0 ∨ ((j0 : Int64).toInt = 0 ∧ (j1 : Int64).toInt = 0) from by (first | (clear y4_0; omega) | omega)), trivial⟩ [] rfl rfl dX12_common_17 (Nat.le_of_ble_eq_true rfl) (Nat.le_of_ble_eq_true rfl)
  · replace c_1 := j_eq (x := j1) (y := 0) rfl (show (0 : Int64).toInt = 0 by decide) c_1
    refine lv_lload_n hx hb dX12_common_6 rfl (lv_at hl 0 rfl) ?_
    refine lv_goto (tgt := 17) hx hb dX12_common_7 (by decide) ?_
    exact q_lret X hr hlk hK h (fun _ => 0, fun _ _ => 0, fun _ _ => 0) ⟨hj0, (show (j0 : Int64).toInt ≠ 0 ∨ ((j0 : Int64).toInt = 0 ∧ (j1 : Int64).toInt = 0) from by omega), trivial⟩ [] rfl rfl dX12_common_17 (Nat.le_of_ble_eq_true rfl) (Nat.le_of_ble_eq_true rfl)
set_option maxHeartbeats 4000000 in
set_option maxRecDepth 100000 in
theorem gX12_common_08e3292 (l : Launch) (D : va_G) (cy : Nat → ClassId) (j0 : Int64) (j1 : Int64) (hj0 : (-9765625) ≤ (j0).toInt ∧ (j0).toInt ≤ 9765625) (hj1 : (-9765624) ≤ (j1).toInt ∧ (j1).toInt ≤ 9765624) (hpre0 : CM 9765624 9765625 (j0 : Int64).toInt (j1 : Int64).toInt) (sz : Nat) : ML l yX12_common cX12_common 4 { frames := 47, cells := 0, slots := 0, locals := 1081 } [.long j0, .long j1] D cy [] sz (fun r u => ((-9765625) ≤ r.toInt ∧ r.toInt ≤ 9765625) ∧ ((r : Int64).toInt ≠ 0 ∨ ((j0 : Int64).toInt = 0 ∧ (j1 : Int64).toInt = 0)) ∧ True) (fun u => []) 0 0 := by
  refine q_ent (own := RX12) (by decide) rfl (Nat.le_of_ble_eq_true rfl) (fun p e s m below meth c ls X hr hlk hnm hK hT h hA hl => ?_)
  obtain ⟨hx, hb, hml, hown, ht⟩ := id X
  replace hl : lv_has ls 4 [(0, .long j0), (2, .long j1)] := hl
  refine lv_lload_n hx hb dX12_common_0 rfl (lv_at hl 1 rfl) ?_
  refine lv_lconst (v := 0) hx hb dX12_common_1 (by decide) ?_
  refine W.lcmp hx hb dX12_common_2 ?_
  refine lv_if_ne (tgt := 10) hx hb dX12_common_3 (by decide) (fun c_1 => ?_) (fun c_1 => ?_)
  · replace c_1 := j_neq (x := j1) (y := 0) rfl (show (0 : Int64).toInt = 0 by decide) c_1
    refine lv_lload_n hx hb dX12_common_10 rfl (lv_at hl 1 rfl) ?_
    refine lv_lload_n hx hb dX12_common_11 rfl (lv_at hl 0 rfl) ?_
    refine lv_lload_n hx hb dX12_common_12 rfl (lv_at hl 1 rfl) ?_
    refine lv_lrem hx hb dX12_common_13 (j_nz (by omega)) ?_
    obtain ⟨z_2, ez_2, hz_2⟩ := e_anyJ (j0 - j0 / j1 * j1)
    refine q_cl z_2 ez_2 ?_
    have cm_3 : CM 4882812 9765624 _ _ := cm_s (by decide) hpre0 (by omega) ez_2
    have cr_3 := cm_r cm_3
    refine q_callSl (rest := []) (wr := []) X hK hT hA h (fun sz => gX12_common_e16b3cb l D cy j1 z_2 hj1 ⟨by omega, by omega⟩ (cm_3) sz) wm_8_20 wm_8_22 wm_1_12 hd_X12_common wm_8_21 ⟨Nat.le_of_ble_eq_true rfl, Nat.le_of_ble_eq_true rfl⟩ hl.1 rfl (Nat.le_of_ble_eq_true rfl) dX12_common_14 ⟨Nat.le_of_ble_eq_true rfl, Nat.le_of_ble_eq_true rfl⟩ [] [] rfl rfl (by decide) rfl rfl (fun r_4 u_4 H locs w_4 h_4 => ?_)
    clear h
    obtain ⟨wr_4, y4_0, _⟩ := w_4
    replace h_4 : qW D _ _ [] _ _ := h_4
    exact q_lret X hr hlk hK h_4 (fun _ => 0, fun _ _ => 0, fun _ _ => 0) ⟨(bw wr_4 (by decide) (by decide)), (show (r_4 : Int64).toInt ≠ 0 ∨ ((j0 : Int64).toInt = 0 ∧ (j1 : Int64).toInt = 0) from by (first | (clear y4_0; omega) | omega)), trivial⟩ [] rfl rfl dX12_common_17 (Nat.le_of_ble_eq_true rfl) (Nat.le_of_ble_eq_true rfl)
  · replace c_1 := j_eq (x := j1) (y := 0) rfl (show (0 : Int64).toInt = 0 by decide) c_1
    refine lv_lload_n hx hb dX12_common_6 rfl (lv_at hl 0 rfl) ?_
    refine lv_goto (tgt := 17) hx hb dX12_common_7 (by decide) ?_
    exact q_lret X hr hlk hK h (fun _ => 0, fun _ _ => 0, fun _ _ => 0) ⟨hj0, (show (j0 : Int64).toInt ≠ 0 ∨ ((j0 : Int64).toInt = 0 ∧ (j1 : Int64).toInt = 0) from by omega), trivial⟩ [] rfl rfl dX12_common_17 (Nat.le_of_ble_eq_true rfl) (Nat.le_of_ble_eq_true rfl)
set_option maxHeartbeats 4000000 in
set_option maxRecDepth 100000 in
theorem gX12_common_0fa82ba (l : Launch) (D : va_G) (cy : Nat → ClassId) (j0 : Int64) (j1 : Int64) (hj0 : (-19531249) ≤ (j0).toInt ∧ (j0).toInt ≤ 19531249) (hj1 : (-9765625) ≤ (j1).toInt ∧ (j1).toInt ≤ 9765625) (hpre0 : CM 9765625 19531249 (j0 : Int64).toInt (j1 : Int64).toInt) (sz : Nat) : ML l yX12_common cX12_common 4 { frames := 48, cells := 0, slots := 0, locals := 1104 } [.long j0, .long j1] D cy [] sz (fun r u => ((-19531249) ≤ r.toInt ∧ r.toInt ≤ 19531249) ∧ ((r : Int64).toInt ≠ 0 ∨ ((j0 : Int64).toInt = 0 ∧ (j1 : Int64).toInt = 0)) ∧ True) (fun u => []) 0 0 := by
  refine q_ent (own := RX12) (by decide) rfl (Nat.le_of_ble_eq_true rfl) (fun p e s m below meth c ls X hr hlk hnm hK hT h hA hl => ?_)
  obtain ⟨hx, hb, hml, hown, ht⟩ := id X
  replace hl : lv_has ls 4 [(0, .long j0), (2, .long j1)] := hl
  refine lv_lload_n hx hb dX12_common_0 rfl (lv_at hl 1 rfl) ?_
  refine lv_lconst (v := 0) hx hb dX12_common_1 (by decide) ?_
  refine W.lcmp hx hb dX12_common_2 ?_
  refine lv_if_ne (tgt := 10) hx hb dX12_common_3 (by decide) (fun c_1 => ?_) (fun c_1 => ?_)
  · replace c_1 := j_neq (x := j1) (y := 0) rfl (show (0 : Int64).toInt = 0 by decide) c_1
    refine lv_lload_n hx hb dX12_common_10 rfl (lv_at hl 1 rfl) ?_
    refine lv_lload_n hx hb dX12_common_11 rfl (lv_at hl 0 rfl) ?_
    refine lv_lload_n hx hb dX12_common_12 rfl (lv_at hl 1 rfl) ?_
    refine lv_lrem hx hb dX12_common_13 (j_nz (by omega)) ?_
    obtain ⟨z_2, ez_2, hz_2⟩ := e_anyJ (j0 - j0 / j1 * j1)
    refine q_cl z_2 ez_2 ?_
    have cm_3 : CM 9765624 9765625 _ _ := cm_s (by decide) hpre0 (by omega) ez_2
    have cr_3 := cm_r cm_3
    refine q_callSl (rest := []) (wr := []) X hK hT hA h (fun sz => gX12_common_08e3292 l D cy j1 z_2 hj1 ⟨by omega, by omega⟩ (cm_3) sz) wm_8_20 wm_8_22 wm_1_12 hd_X12_common wm_8_21 ⟨Nat.le_of_ble_eq_true rfl, Nat.le_of_ble_eq_true rfl⟩ hl.1 rfl (Nat.le_of_ble_eq_true rfl) dX12_common_14 ⟨Nat.le_of_ble_eq_true rfl, Nat.le_of_ble_eq_true rfl⟩ [] [] rfl rfl (by decide) rfl rfl (fun r_4 u_4 H locs w_4 h_4 => ?_)
    clear h
    obtain ⟨wr_4, y4_0, _⟩ := w_4
    replace h_4 : qW D _ _ [] _ _ := h_4
    exact q_lret X hr hlk hK h_4 (fun _ => 0, fun _ _ => 0, fun _ _ => 0) ⟨(bw wr_4 (by decide) (by decide)), (show (r_4 : Int64).toInt ≠ 0 ∨ ((j0 : Int64).toInt = 0 ∧ (j1 : Int64).toInt = 0) from by (first | (clear y4_0; omega) | omega)), trivial⟩ [] rfl rfl dX12_common_17 (Nat.le_of_ble_eq_true rfl) (Nat.le_of_ble_eq_true rfl)
  · replace c_1 := j_eq (x := j1) (y := 0) rfl (show (0 : Int64).toInt = 0 by decide) c_1
    refine lv_lload_n hx hb dX12_common_6 rfl (lv_at hl 0 rfl) ?_
    refine lv_goto (tgt := 17) hx hb dX12_common_7 (by decide) ?_
    exact q_lret X hr hlk hK h (fun _ => 0, fun _ _ => 0, fun _ _ => 0) ⟨hj0, (show (j0 : Int64).toInt ≠ 0 ∨ ((j0 : Int64).toInt = 0 ∧ (j1 : Int64).toInt = 0) from by omega), trivial⟩ [] rfl rfl dX12_common_17 (Nat.le_of_ble_eq_true rfl) (Nat.le_of_ble_eq_true rfl)
set_option maxHeartbeats 4000000 in
set_option maxRecDepth 100000 in
theorem gX12_common_58ce12f (l : Launch) (D : va_G) (cy : Nat → ClassId) (j0 : Int64) (j1 : Int64) (hj0 : (-19531250) ≤ (j0).toInt ∧ (j0).toInt ≤ 19531250) (hj1 : (-19531249) ≤ (j1).toInt ∧ (j1).toInt ≤ 19531249) (hpre0 : CM 19531249 19531250 (j0 : Int64).toInt (j1 : Int64).toInt) (sz : Nat) : ML l yX12_common cX12_common 4 { frames := 49, cells := 0, slots := 0, locals := 1127 } [.long j0, .long j1] D cy [] sz (fun r u => ((-19531250) ≤ r.toInt ∧ r.toInt ≤ 19531250) ∧ ((r : Int64).toInt ≠ 0 ∨ ((j0 : Int64).toInt = 0 ∧ (j1 : Int64).toInt = 0)) ∧ True) (fun u => []) 0 0 := by
  refine q_ent (own := RX12) (by decide) rfl (Nat.le_of_ble_eq_true rfl) (fun p e s m below meth c ls X hr hlk hnm hK hT h hA hl => ?_)
  obtain ⟨hx, hb, hml, hown, ht⟩ := id X
  replace hl : lv_has ls 4 [(0, .long j0), (2, .long j1)] := hl
  refine lv_lload_n hx hb dX12_common_0 rfl (lv_at hl 1 rfl) ?_
  refine lv_lconst (v := 0) hx hb dX12_common_1 (by decide) ?_
  refine W.lcmp hx hb dX12_common_2 ?_
  refine lv_if_ne (tgt := 10) hx hb dX12_common_3 (by decide) (fun c_1 => ?_) (fun c_1 => ?_)
  · replace c_1 := j_neq (x := j1) (y := 0) rfl (show (0 : Int64).toInt = 0 by decide) c_1
    refine lv_lload_n hx hb dX12_common_10 rfl (lv_at hl 1 rfl) ?_
    refine lv_lload_n hx hb dX12_common_11 rfl (lv_at hl 0 rfl) ?_
    refine lv_lload_n hx hb dX12_common_12 rfl (lv_at hl 1 rfl) ?_
    refine lv_lrem hx hb dX12_common_13 (j_nz (by omega)) ?_
    obtain ⟨z_2, ez_2, hz_2⟩ := e_anyJ (j0 - j0 / j1 * j1)
    refine q_cl z_2 ez_2 ?_
    have cm_3 : CM 9765625 19531249 _ _ := cm_s (by decide) hpre0 (by omega) ez_2
    have cr_3 := cm_r cm_3
    refine q_callSl (rest := []) (wr := []) X hK hT hA h (fun sz => gX12_common_0fa82ba l D cy j1 z_2 hj1 ⟨by omega, by omega⟩ (cm_3) sz) wm_8_20 wm_8_22 wm_1_12 hd_X12_common wm_8_21 ⟨Nat.le_of_ble_eq_true rfl, Nat.le_of_ble_eq_true rfl⟩ hl.1 rfl (Nat.le_of_ble_eq_true rfl) dX12_common_14 ⟨Nat.le_of_ble_eq_true rfl, Nat.le_of_ble_eq_true rfl⟩ [] [] rfl rfl (by decide) rfl rfl (fun r_4 u_4 H locs w_4 h_4 => ?_)
    clear h
    obtain ⟨wr_4, y4_0, _⟩ := w_4
    replace h_4 : qW D _ _ [] _ _ := h_4
    exact q_lret X hr hlk hK h_4 (fun _ => 0, fun _ _ => 0, fun _ _ => 0) ⟨(bw wr_4 (by decide) (by decide)), (show (r_4 : Int64).toInt ≠ 0 ∨ ((j0 : Int64).toInt = 0 ∧ (j1 : Int64).toInt = 0) from by (first | (clear y4_0; omega) | omega)), trivial⟩ [] rfl rfl dX12_common_17 (Nat.le_of_ble_eq_true rfl) (Nat.le_of_ble_eq_true rfl)
  · replace c_1 := j_eq (x := j1) (y := 0) rfl (show (0 : Int64).toInt = 0 by decide) c_1
    refine lv_lload_n hx hb dX12_common_6 rfl (lv_at hl 0 rfl) ?_
    refine lv_goto (tgt := 17) hx hb dX12_common_7 (by decide) ?_
    exact q_lret X hr hlk hK h (fun _ => 0, fun _ _ => 0, fun _ _ => 0) ⟨hj0, (show (j0 : Int64).toInt ≠ 0 ∨ ((j0 : Int64).toInt = 0 ∧ (j1 : Int64).toInt = 0) from by omega), trivial⟩ [] rfl rfl dX12_common_17 (Nat.le_of_ble_eq_true rfl) (Nat.le_of_ble_eq_true rfl)
set_option maxHeartbeats 4000000 in
set_option maxRecDepth 100000 in
theorem gX12_common_24bbc95 (l : Launch) (D : va_G) (cy : Nat → ClassId) (j0 : Int64) (j1 : Int64) (hj0 : (-39062499) ≤ (j0).toInt ∧ (j0).toInt ≤ 39062499) (hj1 : (-19531250) ≤ (j1).toInt ∧ (j1).toInt ≤ 19531250) (hpre0 : CM 19531250 39062499 (j0 : Int64).toInt (j1 : Int64).toInt) (sz : Nat) : ML l yX12_common cX12_common 4 { frames := 50, cells := 0, slots := 0, locals := 1150 } [.long j0, .long j1] D cy [] sz (fun r u => ((-39062499) ≤ r.toInt ∧ r.toInt ≤ 39062499) ∧ ((r : Int64).toInt ≠ 0 ∨ ((j0 : Int64).toInt = 0 ∧ (j1 : Int64).toInt = 0)) ∧ True) (fun u => []) 0 0 := by
  refine q_ent (own := RX12) (by decide) rfl (Nat.le_of_ble_eq_true rfl) (fun p e s m below meth c ls X hr hlk hnm hK hT h hA hl => ?_)
  obtain ⟨hx, hb, hml, hown, ht⟩ := id X
  replace hl : lv_has ls 4 [(0, .long j0), (2, .long j1)] := hl
  refine lv_lload_n hx hb dX12_common_0 rfl (lv_at hl 1 rfl) ?_
  refine lv_lconst (v := 0) hx hb dX12_common_1 (by decide) ?_
  refine W.lcmp hx hb dX12_common_2 ?_
  refine lv_if_ne (tgt := 10) hx hb dX12_common_3 (by decide) (fun c_1 => ?_) (fun c_1 => ?_)
  · replace c_1 := j_neq (x := j1) (y := 0) rfl (show (0 : Int64).toInt = 0 by decide) c_1
    refine lv_lload_n hx hb dX12_common_10 rfl (lv_at hl 1 rfl) ?_
    refine lv_lload_n hx hb dX12_common_11 rfl (lv_at hl 0 rfl) ?_
    refine lv_lload_n hx hb dX12_common_12 rfl (lv_at hl 1 rfl) ?_
    refine lv_lrem hx hb dX12_common_13 (j_nz (by omega)) ?_
    obtain ⟨z_2, ez_2, hz_2⟩ := e_anyJ (j0 - j0 / j1 * j1)
    refine q_cl z_2 ez_2 ?_
    have cm_3 : CM 19531249 19531250 _ _ := cm_s (by decide) hpre0 (by omega) ez_2
    have cr_3 := cm_r cm_3
    refine q_callSl (rest := []) (wr := []) X hK hT hA h (fun sz => gX12_common_58ce12f l D cy j1 z_2 hj1 ⟨by omega, by omega⟩ (cm_3) sz) wm_8_20 wm_8_22 wm_1_12 hd_X12_common wm_8_21 ⟨Nat.le_of_ble_eq_true rfl, Nat.le_of_ble_eq_true rfl⟩ hl.1 rfl (Nat.le_of_ble_eq_true rfl) dX12_common_14 ⟨Nat.le_of_ble_eq_true rfl, Nat.le_of_ble_eq_true rfl⟩ [] [] rfl rfl (by decide) rfl rfl (fun r_4 u_4 H locs w_4 h_4 => ?_)
    clear h
    obtain ⟨wr_4, y4_0, _⟩ := w_4
    replace h_4 : qW D _ _ [] _ _ := h_4
    exact q_lret X hr hlk hK h_4 (fun _ => 0, fun _ _ => 0, fun _ _ => 0) ⟨(bw wr_4 (by decide) (by decide)), (show (r_4 : Int64).toInt ≠ 0 ∨ ((j0 : Int64).toInt = 0 ∧ (j1 : Int64).toInt = 0) from by (first | (clear y4_0; omega) | omega)), trivial⟩ [] rfl rfl dX12_common_17 (Nat.le_of_ble_eq_true rfl) (Nat.le_of_ble_eq_true rfl)
  · replace c_1 := j_eq (x := j1) (y := 0) rfl (show (0 : Int64).toInt = 0 by decide) c_1
    refine lv_lload_n hx hb dX12_common_6 rfl (lv_at hl 0 rfl) ?_
    refine lv_goto (tgt := 17) hx hb dX12_common_7 (by decide) ?_
    exact q_lret X hr hlk hK h (fun _ => 0, fun _ _ => 0, fun _ _ => 0) ⟨hj0, (show (j0 : Int64).toInt ≠ 0 ∨ ((j0 : Int64).toInt = 0 ∧ (j1 : Int64).toInt = 0) from by omega), trivial⟩ [] rfl rfl dX12_common_17 (Nat.le_of_ble_eq_true rfl) (Nat.le_of_ble_eq_true rfl)
set_option maxHeartbeats 4000000 in
set_option maxRecDepth 100000 in
theorem gX12_common_3c630fd (l : Launch) (D : va_G) (cy : Nat → ClassId) (j0 : Int64) (j1 : Int64) (hj0 : (-39062500) ≤ (j0).toInt ∧ (j0).toInt ≤ 39062500) (hj1 : (-39062499) ≤ (j1).toInt ∧ (j1).toInt ≤ 39062499) (hpre0 : CM 39062499 39062500 (j0 : Int64).toInt (j1 : Int64).toInt) (sz : Nat) : ML l yX12_common cX12_common 4 { frames := 51, cells := 0, slots := 0, locals := 1173 } [.long j0, .long j1] D cy [] sz (fun r u => ((-39062500) ≤ r.toInt ∧ r.toInt ≤ 39062500) ∧ ((r : Int64).toInt ≠ 0 ∨ ((j0 : Int64).toInt = 0 ∧ (j1 : Int64).toInt = 0)) ∧ True) (fun u => []) 0 0 := by
  refine q_ent (own := RX12) (by decide) rfl (Nat.le_of_ble_eq_true rfl) (fun p e s m below meth c ls X hr hlk hnm hK hT h hA hl => ?_)
  obtain ⟨hx, hb, hml, hown, ht⟩ := id X
  replace hl : lv_has ls 4 [(0, .long j0), (2, .long j1)] := hl
  refine lv_lload_n hx hb dX12_common_0 rfl (lv_at hl 1 rfl) ?_
  refine lv_lconst (v := 0) hx hb dX12_common_1 (by decide) ?_
  refine W.lcmp hx hb dX12_common_2 ?_
  refine lv_if_ne (tgt := 10) hx hb dX12_common_3 (by decide) (fun c_1 => ?_) (fun c_1 => ?_)
  · replace c_1 := j_neq (x := j1) (y := 0) rfl (show (0 : Int64).toInt = 0 by decide) c_1
    refine lv_lload_n hx hb dX12_common_10 rfl (lv_at hl 1 rfl) ?_
    refine lv_lload_n hx hb dX12_common_11 rfl (lv_at hl 0 rfl) ?_
    refine lv_lload_n hx hb dX12_common_12 rfl (lv_at hl 1 rfl) ?_
    refine lv_lrem hx hb dX12_common_13 (j_nz (by omega)) ?_
    obtain ⟨z_2, ez_2, hz_2⟩ := e_anyJ (j0 - j0 / j1 * j1)
    refine q_cl z_2 ez_2 ?_
    have cm_3 : CM 19531250 39062499 _ _ := cm_s (by decide) hpre0 (by omega) ez_2
    have cr_3 := cm_r cm_3
    refine q_callSl (rest := []) (wr := []) X hK hT hA h (fun sz => gX12_common_24bbc95 l D cy j1 z_2 hj1 ⟨by omega, by omega⟩ (cm_3) sz) wm_8_20 wm_8_22 wm_1_12 hd_X12_common wm_8_21 ⟨Nat.le_of_ble_eq_true rfl, Nat.le_of_ble_eq_true rfl⟩ hl.1 rfl (Nat.le_of_ble_eq_true rfl) dX12_common_14 ⟨Nat.le_of_ble_eq_true rfl, Nat.le_of_ble_eq_true rfl⟩ [] [] rfl rfl (by decide) rfl rfl (fun r_4 u_4 H locs w_4 h_4 => ?_)
    clear h
    obtain ⟨wr_4, y4_0, _⟩ := w_4
    replace h_4 : qW D _ _ [] _ _ := h_4
    exact q_lret X hr hlk hK h_4 (fun _ => 0, fun _ _ => 0, fun _ _ => 0) ⟨(bw wr_4 (by decide) (by decide)), (show (r_4 : Int64).toInt ≠ 0 ∨ ((j0 : Int64).toInt = 0 ∧ (j1 : Int64).toInt = 0) from by (first | (clear y4_0; omega) | omega)), trivial⟩ [] rfl rfl dX12_common_17 (Nat.le_of_ble_eq_true rfl) (Nat.le_of_ble_eq_true rfl)
  · replace c_1 := j_eq (x := j1) (y := 0) rfl (show (0 : Int64).toInt = 0 by decide) c_1
    refine lv_lload_n hx hb dX12_common_6 rfl (lv_at hl 0 rfl) ?_
    refine lv_goto (tgt := 17) hx hb dX12_common_7 (by decide) ?_
    exact q_lret X hr hlk hK h (fun _ => 0, fun _ _ => 0, fun _ _ => 0) ⟨hj0, (show (j0 : Int64).toInt ≠ 0 ∨ ((j0 : Int64).toInt = 0 ∧ (j1 : Int64).toInt = 0) from by omega), trivial⟩ [] rfl rfl dX12_common_17 (Nat.le_of_ble_eq_true rfl) (Nat.le_of_ble_eq_true rfl)
set_option maxHeartbeats 4000000 in
set_option maxRecDepth 100000 in
theorem gX12_common_bc5dc6c (l : Launch) (D : va_G) (cy : Nat → ClassId) (j0 : Int64) (j1 : Int64) (hj0 : (-78124999) ≤ (j0).toInt ∧ (j0).toInt ≤ 78124999) (hj1 : (-39062500) ≤ (j1).toInt ∧ (j1).toInt ≤ 39062500) (hpre0 : CM 39062500 78124999 (j0 : Int64).toInt (j1 : Int64).toInt) (sz : Nat) : ML l yX12_common cX12_common 4 { frames := 52, cells := 0, slots := 0, locals := 1196 } [.long j0, .long j1] D cy [] sz (fun r u => ((-78124999) ≤ r.toInt ∧ r.toInt ≤ 78124999) ∧ ((r : Int64).toInt ≠ 0 ∨ ((j0 : Int64).toInt = 0 ∧ (j1 : Int64).toInt = 0)) ∧ True) (fun u => []) 0 0 := by
  refine q_ent (own := RX12) (by decide) rfl (Nat.le_of_ble_eq_true rfl) (fun p e s m below meth c ls X hr hlk hnm hK hT h hA hl => ?_)
  obtain ⟨hx, hb, hml, hown, ht⟩ := id X
  replace hl : lv_has ls 4 [(0, .long j0), (2, .long j1)] := hl
  refine lv_lload_n hx hb dX12_common_0 rfl (lv_at hl 1 rfl) ?_
  refine lv_lconst (v := 0) hx hb dX12_common_1 (by decide) ?_
  refine W.lcmp hx hb dX12_common_2 ?_
  refine lv_if_ne (tgt := 10) hx hb dX12_common_3 (by decide) (fun c_1 => ?_) (fun c_1 => ?_)
  · replace c_1 := j_neq (x := j1) (y := 0) rfl (show (0 : Int64).toInt = 0 by decide) c_1
    refine lv_lload_n hx hb dX12_common_10 rfl (lv_at hl 1 rfl) ?_
    refine lv_lload_n hx hb dX12_common_11 rfl (lv_at hl 0 rfl) ?_
    refine lv_lload_n hx hb dX12_common_12 rfl (lv_at hl 1 rfl) ?_
    refine lv_lrem hx hb dX12_common_13 (j_nz (by omega)) ?_
    obtain ⟨z_2, ez_2, hz_2⟩ := e_anyJ (j0 - j0 / j1 * j1)
    refine q_cl z_2 ez_2 ?_
    have cm_3 : CM 39062499 39062500 _ _ := cm_s (by decide) hpre0 (by omega) ez_2
    have cr_3 := cm_r cm_3
    refine q_callSl (rest := []) (wr := []) X hK hT hA h (fun sz => gX12_common_3c630fd l D cy j1 z_2 hj1 ⟨by omega, by omega⟩ (cm_3) sz) wm_8_20 wm_8_22 wm_1_12 hd_X12_common wm_8_21 ⟨Nat.le_of_ble_eq_true rfl, Nat.le_of_ble_eq_true rfl⟩ hl.1 rfl (Nat.le_of_ble_eq_true rfl) dX12_common_14 ⟨Nat.le_of_ble_eq_true rfl, Nat.le_of_ble_eq_true rfl⟩ [] [] rfl rfl (by decide) rfl rfl (fun r_4 u_4 H locs w_4 h_4 => ?_)
    clear h
    obtain ⟨wr_4, y4_0, _⟩ := w_4
    replace h_4 : qW D _ _ [] _ _ := h_4
    exact q_lret X hr hlk hK h_4 (fun _ => 0, fun _ _ => 0, fun _ _ => 0) ⟨(bw wr_4 (by decide) (by decide)), (show (r_4 : Int64).toInt ≠ 0 ∨ ((j0 : Int64).toInt = 0 ∧ (j1 : Int64).toInt = 0) from by (first | (clear y4_0; omega) | omega)), trivial⟩ [] rfl rfl dX12_common_17 (Nat.le_of_ble_eq_true rfl) (Nat.le_of_ble_eq_true rfl)
  · replace c_1 := j_eq (x := j1) (y := 0) rfl (show (0 : Int64).toInt = 0 by decide) c_1
    refine lv_lload_n hx hb dX12_common_6 rfl (lv_at hl 0 rfl) ?_
    refine lv_goto (tgt := 17) hx hb dX12_common_7 (by decide) ?_
    exact q_lret X hr hlk hK h (fun _ => 0, fun _ _ => 0, fun _ _ => 0) ⟨hj0, (show (j0 : Int64).toInt ≠ 0 ∨ ((j0 : Int64).toInt = 0 ∧ (j1 : Int64).toInt = 0) from by omega), trivial⟩ [] rfl rfl dX12_common_17 (Nat.le_of_ble_eq_true rfl) (Nat.le_of_ble_eq_true rfl)
set_option maxHeartbeats 4000000 in
set_option maxRecDepth 100000 in
theorem gX12_common_bd035fc (l : Launch) (D : va_G) (cy : Nat → ClassId) (j0 : Int64) (j1 : Int64) (hj0 : (-78125000) ≤ (j0).toInt ∧ (j0).toInt ≤ 78125000) (hj1 : (-78124999) ≤ (j1).toInt ∧ (j1).toInt ≤ 78124999) (hpre0 : CM 78124999 78125000 (j0 : Int64).toInt (j1 : Int64).toInt) (sz : Nat) : ML l yX12_common cX12_common 4 { frames := 53, cells := 0, slots := 0, locals := 1219 } [.long j0, .long j1] D cy [] sz (fun r u => ((-78125000) ≤ r.toInt ∧ r.toInt ≤ 78125000) ∧ ((r : Int64).toInt ≠ 0 ∨ ((j0 : Int64).toInt = 0 ∧ (j1 : Int64).toInt = 0)) ∧ True) (fun u => []) 0 0 := by
  refine q_ent (own := RX12) (by decide) rfl (Nat.le_of_ble_eq_true rfl) (fun p e s m below meth c ls X hr hlk hnm hK hT h hA hl => ?_)
  obtain ⟨hx, hb, hml, hown, ht⟩ := id X
  replace hl : lv_has ls 4 [(0, .long j0), (2, .long j1)] := hl
  refine lv_lload_n hx hb dX12_common_0 rfl (lv_at hl 1 rfl) ?_
  refine lv_lconst (v := 0) hx hb dX12_common_1 (by decide) ?_
  refine W.lcmp hx hb dX12_common_2 ?_
  refine lv_if_ne (tgt := 10) hx hb dX12_common_3 (by decide) (fun c_1 => ?_) (fun c_1 => ?_)
  · replace c_1 := j_neq (x := j1) (y := 0) rfl (show (0 : Int64).toInt = 0 by decide) c_1
    refine lv_lload_n hx hb dX12_common_10 rfl (lv_at hl 1 rfl) ?_
    refine lv_lload_n hx hb dX12_common_11 rfl (lv_at hl 0 rfl) ?_
    refine lv_lload_n hx hb dX12_common_12 rfl (lv_at hl 1 rfl) ?_
    refine lv_lrem hx hb dX12_common_13 (j_nz (by omega)) ?_
    obtain ⟨z_2, ez_2, hz_2⟩ := e_anyJ (j0 - j0 / j1 * j1)
    refine q_cl z_2 ez_2 ?_
    have cm_3 : CM 39062500 78124999 _ _ := cm_s (by decide) hpre0 (by omega) ez_2
    have cr_3 := cm_r cm_3
    refine q_callSl (rest := []) (wr := []) X hK hT hA h (fun sz => gX12_common_bc5dc6c l D cy j1 z_2 hj1 ⟨by omega, by omega⟩ (cm_3) sz) wm_8_20 wm_8_22 wm_1_12 hd_X12_common wm_8_21 ⟨Nat.le_of_ble_eq_true rfl, Nat.le_of_ble_eq_true rfl⟩ hl.1 rfl (Nat.le_of_ble_eq_true rfl) dX12_common_14 ⟨Nat.le_of_ble_eq_true rfl, Nat.le_of_ble_eq_true rfl⟩ [] [] rfl rfl (by decide) rfl rfl (fun r_4 u_4 H locs w_4 h_4 => ?_)
    clear h
    obtain ⟨wr_4, y4_0, _⟩ := w_4
    replace h_4 : qW D _ _ [] _ _ := h_4
    exact q_lret X hr hlk hK h_4 (fun _ => 0, fun _ _ => 0, fun _ _ => 0) ⟨(bw wr_4 (by decide) (by decide)), (show (r_4 : Int64).toInt ≠ 0 ∨ ((j0 : Int64).toInt = 0 ∧ (j1 : Int64).toInt = 0) from by (first | (clear y4_0; omega) | omega)), trivial⟩ [] rfl rfl dX12_common_17 (Nat.le_of_ble_eq_true rfl) (Nat.le_of_ble_eq_true rfl)
  · replace c_1 := j_eq (x := j1) (y := 0) rfl (show (0 : Int64).toInt = 0 by decide) c_1
    refine lv_lload_n hx hb dX12_common_6 rfl (lv_at hl 0 rfl) ?_
    refine lv_goto (tgt := 17) hx hb dX12_common_7 (by decide) ?_
    exact q_lret X hr hlk hK h (fun _ => 0, fun _ _ => 0, fun _ _ => 0) ⟨hj0, (show (j0 : Int64).toInt ≠ 0 ∨ ((j0 : Int64).toInt = 0 ∧ (j1 : Int64).toInt = 0) from by omega), trivial⟩ [] rfl rfl dX12_common_17 (Nat.le_of_ble_eq_true rfl) (Nat.le_of_ble_eq_true rfl)
set_option maxHeartbeats 4000000 in
set_option maxRecDepth 100000 in
theorem gX12_common_e9510b5 (l : Launch) (D : va_G) (cy : Nat → ClassId) (j0 : Int64) (j1 : Int64) (hj0 : (-156249999) ≤ (j0).toInt ∧ (j0).toInt ≤ 156249999) (hj1 : (-78125000) ≤ (j1).toInt ∧ (j1).toInt ≤ 78125000) (hpre0 : CM 78125000 156249999 (j0 : Int64).toInt (j1 : Int64).toInt) (sz : Nat) : ML l yX12_common cX12_common 4 { frames := 54, cells := 0, slots := 0, locals := 1242 } [.long j0, .long j1] D cy [] sz (fun r u => ((-156249999) ≤ r.toInt ∧ r.toInt ≤ 156249999) ∧ ((r : Int64).toInt ≠ 0 ∨ ((j0 : Int64).toInt = 0 ∧ (j1 : Int64).toInt = 0)) ∧ True) (fun u => []) 0 0 := by
  refine q_ent (own := RX12) (by decide) rfl (Nat.le_of_ble_eq_true rfl) (fun p e s m below meth c ls X hr hlk hnm hK hT h hA hl => ?_)
  obtain ⟨hx, hb, hml, hown, ht⟩ := id X
  replace hl : lv_has ls 4 [(0, .long j0), (2, .long j1)] := hl
  refine lv_lload_n hx hb dX12_common_0 rfl (lv_at hl 1 rfl) ?_
  refine lv_lconst (v := 0) hx hb dX12_common_1 (by decide) ?_
  refine W.lcmp hx hb dX12_common_2 ?_
  refine lv_if_ne (tgt := 10) hx hb dX12_common_3 (by decide) (fun c_1 => ?_) (fun c_1 => ?_)
  · replace c_1 := j_neq (x := j1) (y := 0) rfl (show (0 : Int64).toInt = 0 by decide) c_1
    refine lv_lload_n hx hb dX12_common_10 rfl (lv_at hl 1 rfl) ?_
    refine lv_lload_n hx hb dX12_common_11 rfl (lv_at hl 0 rfl) ?_
    refine lv_lload_n hx hb dX12_common_12 rfl (lv_at hl 1 rfl) ?_
    refine lv_lrem hx hb dX12_common_13 (j_nz (by omega)) ?_
    obtain ⟨z_2, ez_2, hz_2⟩ := e_anyJ (j0 - j0 / j1 * j1)
    refine q_cl z_2 ez_2 ?_
    have cm_3 : CM 78124999 78125000 _ _ := cm_s (by decide) hpre0 (by omega) ez_2
    have cr_3 := cm_r cm_3
    refine q_callSl (rest := []) (wr := []) X hK hT hA h (fun sz => gX12_common_bd035fc l D cy j1 z_2 hj1 ⟨by omega, by omega⟩ (cm_3) sz) wm_8_20 wm_8_22 wm_1_12 hd_X12_common wm_8_21 ⟨Nat.le_of_ble_eq_true rfl, Nat.le_of_ble_eq_true rfl⟩ hl.1 rfl (Nat.le_of_ble_eq_true rfl) dX12_common_14 ⟨Nat.le_of_ble_eq_true rfl, Nat.le_of_ble_eq_true rfl⟩ [] [] rfl rfl (by decide) rfl rfl (fun r_4 u_4 H locs w_4 h_4 => ?_)
    clear h
    obtain ⟨wr_4, y4_0, _⟩ := w_4
    replace h_4 : qW D _ _ [] _ _ := h_4
    exact q_lret X hr hlk hK h_4 (fun _ => 0, fun _ _ => 0, fun _ _ => 0) ⟨(bw wr_4 (by decide) (by decide)), (show (r_4 : Int64).toInt ≠ 0 ∨ ((j0 : Int64).toInt = 0 ∧ (j1 : Int64).toInt = 0) from by (first | (clear y4_0; omega) | omega)), trivial⟩ [] rfl rfl dX12_common_17 (Nat.le_of_ble_eq_true rfl) (Nat.le_of_ble_eq_true rfl)
  · replace c_1 := j_eq (x := j1) (y := 0) rfl (show (0 : Int64).toInt = 0 by decide) c_1
    refine lv_lload_n hx hb dX12_common_6 rfl (lv_at hl 0 rfl) ?_
    refine lv_goto (tgt := 17) hx hb dX12_common_7 (by decide) ?_
    exact q_lret X hr hlk hK h (fun _ => 0, fun _ _ => 0, fun _ _ => 0) ⟨hj0, (show (j0 : Int64).toInt ≠ 0 ∨ ((j0 : Int64).toInt = 0 ∧ (j1 : Int64).toInt = 0) from by omega), trivial⟩ [] rfl rfl dX12_common_17 (Nat.le_of_ble_eq_true rfl) (Nat.le_of_ble_eq_true rfl)
set_option maxHeartbeats 4000000 in
set_option maxRecDepth 100000 in
theorem gX12_common_ea6d81a (l : Launch) (D : va_G) (cy : Nat → ClassId) (j0 : Int64) (j1 : Int64) (hj0 : (-156250000) ≤ (j0).toInt ∧ (j0).toInt ≤ 156250000) (hj1 : (-156249999) ≤ (j1).toInt ∧ (j1).toInt ≤ 156249999) (hpre0 : CM 156249999 156250000 (j0 : Int64).toInt (j1 : Int64).toInt) (sz : Nat) : ML l yX12_common cX12_common 4 { frames := 55, cells := 0, slots := 0, locals := 1265 } [.long j0, .long j1] D cy [] sz (fun r u => ((-156250000) ≤ r.toInt ∧ r.toInt ≤ 156250000) ∧ ((r : Int64).toInt ≠ 0 ∨ ((j0 : Int64).toInt = 0 ∧ (j1 : Int64).toInt = 0)) ∧ True) (fun u => []) 0 0 := by
  refine q_ent (own := RX12) (by decide) rfl (Nat.le_of_ble_eq_true rfl) (fun p e s m below meth c ls X hr hlk hnm hK hT h hA hl => ?_)
  obtain ⟨hx, hb, hml, hown, ht⟩ := id X
  replace hl : lv_has ls 4 [(0, .long j0), (2, .long j1)] := hl
  refine lv_lload_n hx hb dX12_common_0 rfl (lv_at hl 1 rfl) ?_
  refine lv_lconst (v := 0) hx hb dX12_common_1 (by decide) ?_
  refine W.lcmp hx hb dX12_common_2 ?_
  refine lv_if_ne (tgt := 10) hx hb dX12_common_3 (by decide) (fun c_1 => ?_) (fun c_1 => ?_)
  · replace c_1 := j_neq (x := j1) (y := 0) rfl (show (0 : Int64).toInt = 0 by decide) c_1
    refine lv_lload_n hx hb dX12_common_10 rfl (lv_at hl 1 rfl) ?_
    refine lv_lload_n hx hb dX12_common_11 rfl (lv_at hl 0 rfl) ?_
    refine lv_lload_n hx hb dX12_common_12 rfl (lv_at hl 1 rfl) ?_
    refine lv_lrem hx hb dX12_common_13 (j_nz (by omega)) ?_
    obtain ⟨z_2, ez_2, hz_2⟩ := e_anyJ (j0 - j0 / j1 * j1)
    refine q_cl z_2 ez_2 ?_
    have cm_3 : CM 78125000 156249999 _ _ := cm_s (by decide) hpre0 (by omega) ez_2
    have cr_3 := cm_r cm_3
    refine q_callSl (rest := []) (wr := []) X hK hT hA h (fun sz => gX12_common_e9510b5 l D cy j1 z_2 hj1 ⟨by omega, by omega⟩ (cm_3) sz) wm_8_20 wm_8_22 wm_1_12 hd_X12_common wm_8_21 ⟨Nat.le_of_ble_eq_true rfl, Nat.le_of_ble_eq_true rfl⟩ hl.1 rfl (Nat.le_of_ble_eq_true rfl) dX12_common_14 ⟨Nat.le_of_ble_eq_true rfl, Nat.le_of_ble_eq_true rfl⟩ [] [] rfl rfl (by decide) rfl rfl (fun r_4 u_4 H locs w_4 h_4 => ?_)
    clear h
    obtain ⟨wr_4, y4_0, _⟩ := w_4
    replace h_4 : qW D _ _ [] _ _ := h_4
    exact q_lret X hr hlk hK h_4 (fun _ => 0, fun _ _ => 0, fun _ _ => 0) ⟨(bw wr_4 (by decide) (by decide)), (show (r_4 : Int64).toInt ≠ 0 ∨ ((j0 : Int64).toInt = 0 ∧ (j1 : Int64).toInt = 0) from by (first | (clear y4_0; omega) | omega)), trivial⟩ [] rfl rfl dX12_common_17 (Nat.le_of_ble_eq_true rfl) (Nat.le_of_ble_eq_true rfl)
  · replace c_1 := j_eq (x := j1) (y := 0) rfl (show (0 : Int64).toInt = 0 by decide) c_1
    refine lv_lload_n hx hb dX12_common_6 rfl (lv_at hl 0 rfl) ?_
    refine lv_goto (tgt := 17) hx hb dX12_common_7 (by decide) ?_
    exact q_lret X hr hlk hK h (fun _ => 0, fun _ _ => 0, fun _ _ => 0) ⟨hj0, (show (j0 : Int64).toInt ≠ 0 ∨ ((j0 : Int64).toInt = 0 ∧ (j1 : Int64).toInt = 0) from by omega), trivial⟩ [] rfl rfl dX12_common_17 (Nat.le_of_ble_eq_true rfl) (Nat.le_of_ble_eq_true rfl)
set_option maxHeartbeats 4000000 in
set_option maxRecDepth 100000 in
theorem gX12_common_e313f30 (l : Launch) (D : va_G) (cy : Nat → ClassId) (j0 : Int64) (j1 : Int64) (hj0 : (-312499999) ≤ (j0).toInt ∧ (j0).toInt ≤ 312499999) (hj1 : (-156250000) ≤ (j1).toInt ∧ (j1).toInt ≤ 156250000) (hpre0 : CM 156250000 312499999 (j0 : Int64).toInt (j1 : Int64).toInt) (sz : Nat) : ML l yX12_common cX12_common 4 { frames := 56, cells := 0, slots := 0, locals := 1288 } [.long j0, .long j1] D cy [] sz (fun r u => ((-312499999) ≤ r.toInt ∧ r.toInt ≤ 312499999) ∧ ((r : Int64).toInt ≠ 0 ∨ ((j0 : Int64).toInt = 0 ∧ (j1 : Int64).toInt = 0)) ∧ True) (fun u => []) 0 0 := by
  refine q_ent (own := RX12) (by decide) rfl (Nat.le_of_ble_eq_true rfl) (fun p e s m below meth c ls X hr hlk hnm hK hT h hA hl => ?_)
  obtain ⟨hx, hb, hml, hown, ht⟩ := id X
  replace hl : lv_has ls 4 [(0, .long j0), (2, .long j1)] := hl
  refine lv_lload_n hx hb dX12_common_0 rfl (lv_at hl 1 rfl) ?_
  refine lv_lconst (v := 0) hx hb dX12_common_1 (by decide) ?_
  refine W.lcmp hx hb dX12_common_2 ?_
  refine lv_if_ne (tgt := 10) hx hb dX12_common_3 (by decide) (fun c_1 => ?_) (fun c_1 => ?_)
  · replace c_1 := j_neq (x := j1) (y := 0) rfl (show (0 : Int64).toInt = 0 by decide) c_1
    refine lv_lload_n hx hb dX12_common_10 rfl (lv_at hl 1 rfl) ?_
    refine lv_lload_n hx hb dX12_common_11 rfl (lv_at hl 0 rfl) ?_
    refine lv_lload_n hx hb dX12_common_12 rfl (lv_at hl 1 rfl) ?_
    refine lv_lrem hx hb dX12_common_13 (j_nz (by omega)) ?_
    obtain ⟨z_2, ez_2, hz_2⟩ := e_anyJ (j0 - j0 / j1 * j1)
    refine q_cl z_2 ez_2 ?_
    have cm_3 : CM 156249999 156250000 _ _ := cm_s (by decide) hpre0 (by omega) ez_2
    have cr_3 := cm_r cm_3
    refine q_callSl (rest := []) (wr := []) X hK hT hA h (fun sz => gX12_common_ea6d81a l D cy j1 z_2 hj1 ⟨by omega, by omega⟩ (cm_3) sz) wm_8_20 wm_8_22 wm_1_12 hd_X12_common wm_8_21 ⟨Nat.le_of_ble_eq_true rfl, Nat.le_of_ble_eq_true rfl⟩ hl.1 rfl (Nat.le_of_ble_eq_true rfl) dX12_common_14 ⟨Nat.le_of_ble_eq_true rfl, Nat.le_of_ble_eq_true rfl⟩ [] [] rfl rfl (by decide) rfl rfl (fun r_4 u_4 H locs w_4 h_4 => ?_)
    clear h
    obtain ⟨wr_4, y4_0, _⟩ := w_4
    replace h_4 : qW D _ _ [] _ _ := h_4
    exact q_lret X hr hlk hK h_4 (fun _ => 0, fun _ _ => 0, fun _ _ => 0) ⟨(bw wr_4 (by decide) (by decide)), (show (r_4 : Int64).toInt ≠ 0 ∨ ((j0 : Int64).toInt = 0 ∧ (j1 : Int64).toInt = 0) from by (first | (clear y4_0; omega) | omega)), trivial⟩ [] rfl rfl dX12_common_17 (Nat.le_of_ble_eq_true rfl) (Nat.le_of_ble_eq_true rfl)
  · replace c_1 := j_eq (x := j1) (y := 0) rfl (show (0 : Int64).toInt = 0 by decide) c_1
    refine lv_lload_n hx hb dX12_common_6 rfl (lv_at hl 0 rfl) ?_
    refine lv_goto (tgt := 17) hx hb dX12_common_7 (by decide) ?_
    exact q_lret X hr hlk hK h (fun _ => 0, fun _ _ => 0, fun _ _ => 0) ⟨hj0, (show (j0 : Int64).toInt ≠ 0 ∨ ((j0 : Int64).toInt = 0 ∧ (j1 : Int64).toInt = 0) from by omega), trivial⟩ [] rfl rfl dX12_common_17 (Nat.le_of_ble_eq_true rfl) (Nat.le_of_ble_eq_true rfl)
set_option maxHeartbeats 4000000 in
set_option maxRecDepth 100000 in
theorem gX12_common_fdd73f3 (l : Launch) (D : va_G) (cy : Nat → ClassId) (j0 : Int64) (j1 : Int64) (hj0 : (-312500000) ≤ (j0).toInt ∧ (j0).toInt ≤ 312500000) (hj1 : (-312499999) ≤ (j1).toInt ∧ (j1).toInt ≤ 312499999) (hpre0 : CM 312499999 312500000 (j0 : Int64).toInt (j1 : Int64).toInt) (sz : Nat) : ML l yX12_common cX12_common 4 { frames := 57, cells := 0, slots := 0, locals := 1311 } [.long j0, .long j1] D cy [] sz (fun r u => ((-312500000) ≤ r.toInt ∧ r.toInt ≤ 312500000) ∧ ((r : Int64).toInt ≠ 0 ∨ ((j0 : Int64).toInt = 0 ∧ (j1 : Int64).toInt = 0)) ∧ True) (fun u => []) 0 0 := by
  refine q_ent (own := RX12) (by decide) rfl (Nat.le_of_ble_eq_true rfl) (fun p e s m below meth c ls X hr hlk hnm hK hT h hA hl => ?_)
  obtain ⟨hx, hb, hml, hown, ht⟩ := id X
  replace hl : lv_has ls 4 [(0, .long j0), (2, .long j1)] := hl
  refine lv_lload_n hx hb dX12_common_0 rfl (lv_at hl 1 rfl) ?_
  refine lv_lconst (v := 0) hx hb dX12_common_1 (by decide) ?_
  refine W.lcmp hx hb dX12_common_2 ?_
  refine lv_if_ne (tgt := 10) hx hb dX12_common_3 (by decide) (fun c_1 => ?_) (fun c_1 => ?_)
  · replace c_1 := j_neq (x := j1) (y := 0) rfl (show (0 : Int64).toInt = 0 by decide) c_1
    refine lv_lload_n hx hb dX12_common_10 rfl (lv_at hl 1 rfl) ?_
    refine lv_lload_n hx hb dX12_common_11 rfl (lv_at hl 0 rfl) ?_
    refine lv_lload_n hx hb dX12_common_12 rfl (lv_at hl 1 rfl) ?_
    refine lv_lrem hx hb dX12_common_13 (j_nz (by omega)) ?_
    obtain ⟨z_2, ez_2, hz_2⟩ := e_anyJ (j0 - j0 / j1 * j1)
    refine q_cl z_2 ez_2 ?_
    have cm_3 : CM 156250000 312499999 _ _ := cm_s (by decide) hpre0 (by omega) ez_2
    have cr_3 := cm_r cm_3
    refine q_callSl (rest := []) (wr := []) X hK hT hA h (fun sz => gX12_common_e313f30 l D cy j1 z_2 hj1 ⟨by omega, by omega⟩ (cm_3) sz) wm_8_20 wm_8_22 wm_1_12 hd_X12_common wm_8_21 ⟨Nat.le_of_ble_eq_true rfl, Nat.le_of_ble_eq_true rfl⟩ hl.1 rfl (Nat.le_of_ble_eq_true rfl) dX12_common_14 ⟨Nat.le_of_ble_eq_true rfl, Nat.le_of_ble_eq_true rfl⟩ [] [] rfl rfl (by decide) rfl rfl (fun r_4 u_4 H locs w_4 h_4 => ?_)
    clear h
    obtain ⟨wr_4, y4_0, _⟩ := w_4
    replace h_4 : qW D _ _ [] _ _ := h_4
    exact q_lret X hr hlk hK h_4 (fun _ => 0, fun _ _ => 0, fun _ _ => 0) ⟨(bw wr_4 (by decide) (by decide)), (show (r_4 : Int64).toInt ≠ 0 ∨ ((j0 : Int64).toInt = 0 ∧ (j1 : Int64).toInt = 0) from by (first | (clear y4_0; omega) | omega)), trivial⟩ [] rfl rfl dX12_common_17 (Nat.le_of_ble_eq_true rfl) (Nat.le_of_ble_eq_true rfl)
  · replace c_1 := j_eq (x := j1) (y := 0) rfl (show (0 : Int64).toInt = 0 by decide) c_1
    refine lv_lload_n hx hb dX12_common_6 rfl (lv_at hl 0 rfl) ?_
    refine lv_goto (tgt := 17) hx hb dX12_common_7 (by decide) ?_
    exact q_lret X hr hlk hK h (fun _ => 0, fun _ _ => 0, fun _ _ => 0) ⟨hj0, (show (j0 : Int64).toInt ≠ 0 ∨ ((j0 : Int64).toInt = 0 ∧ (j1 : Int64).toInt = 0) from by omega), trivial⟩ [] rfl rfl dX12_common_17 (Nat.le_of_ble_eq_true rfl) (Nat.le_of_ble_eq_true rfl)
set_option maxHeartbeats 4000000 in
set_option maxRecDepth 100000 in
theorem gX12_common_b3b1016 (l : Launch) (D : va_G) (cy : Nat → ClassId) (j0 : Int64) (j1 : Int64) (hj0 : (-624999999) ≤ (j0).toInt ∧ (j0).toInt ≤ 624999999) (hj1 : (-312500000) ≤ (j1).toInt ∧ (j1).toInt ≤ 312500000) (hpre0 : CM 312500000 624999999 (j0 : Int64).toInt (j1 : Int64).toInt) (sz : Nat) : ML l yX12_common cX12_common 4 { frames := 58, cells := 0, slots := 0, locals := 1334 } [.long j0, .long j1] D cy [] sz (fun r u => ((-624999999) ≤ r.toInt ∧ r.toInt ≤ 624999999) ∧ ((r : Int64).toInt ≠ 0 ∨ ((j0 : Int64).toInt = 0 ∧ (j1 : Int64).toInt = 0)) ∧ True) (fun u => []) 0 0 := by
  refine q_ent (own := RX12) (by decide) rfl (Nat.le_of_ble_eq_true rfl) (fun p e s m below meth c ls X hr hlk hnm hK hT h hA hl => ?_)
  obtain ⟨hx, hb, hml, hown, ht⟩ := id X
  replace hl : lv_has ls 4 [(0, .long j0), (2, .long j1)] := hl
  refine lv_lload_n hx hb dX12_common_0 rfl (lv_at hl 1 rfl) ?_
  refine lv_lconst (v := 0) hx hb dX12_common_1 (by decide) ?_
  refine W.lcmp hx hb dX12_common_2 ?_
  refine lv_if_ne (tgt := 10) hx hb dX12_common_3 (by decide) (fun c_1 => ?_) (fun c_1 => ?_)
  · replace c_1 := j_neq (x := j1) (y := 0) rfl (show (0 : Int64).toInt = 0 by decide) c_1
    refine lv_lload_n hx hb dX12_common_10 rfl (lv_at hl 1 rfl) ?_
    refine lv_lload_n hx hb dX12_common_11 rfl (lv_at hl 0 rfl) ?_
    refine lv_lload_n hx hb dX12_common_12 rfl (lv_at hl 1 rfl) ?_
    refine lv_lrem hx hb dX12_common_13 (j_nz (by omega)) ?_
    obtain ⟨z_2, ez_2, hz_2⟩ := e_anyJ (j0 - j0 / j1 * j1)
    refine q_cl z_2 ez_2 ?_
    have cm_3 : CM 312499999 312500000 _ _ := cm_s (by decide) hpre0 (by omega) ez_2
    have cr_3 := cm_r cm_3
    refine q_callSl (rest := []) (wr := []) X hK hT hA h (fun sz => gX12_common_fdd73f3 l D cy j1 z_2 hj1 ⟨by omega, by omega⟩ (cm_3) sz) wm_8_20 wm_8_22 wm_1_12 hd_X12_common wm_8_21 ⟨Nat.le_of_ble_eq_true rfl, Nat.le_of_ble_eq_true rfl⟩ hl.1 rfl (Nat.le_of_ble_eq_true rfl) dX12_common_14 ⟨Nat.le_of_ble_eq_true rfl, Nat.le_of_ble_eq_true rfl⟩ [] [] rfl rfl (by decide) rfl rfl (fun r_4 u_4 H locs w_4 h_4 => ?_)
    clear h
    obtain ⟨wr_4, y4_0, _⟩ := w_4
    replace h_4 : qW D _ _ [] _ _ := h_4
    exact q_lret X hr hlk hK h_4 (fun _ => 0, fun _ _ => 0, fun _ _ => 0) ⟨(bw wr_4 (by decide) (by decide)), (show (r_4 : Int64).toInt ≠ 0 ∨ ((j0 : Int64).toInt = 0 ∧ (j1 : Int64).toInt = 0) from by (first | (clear y4_0; omega) | omega)), trivial⟩ [] rfl rfl dX12_common_17 (Nat.le_of_ble_eq_true rfl) (Nat.le_of_ble_eq_true rfl)
  · replace c_1 := j_eq (x := j1) (y := 0) rfl (show (0 : Int64).toInt = 0 by decide) c_1
    refine lv_lload_n hx hb dX12_common_6 rfl (lv_at hl 0 rfl) ?_
    refine lv_goto (tgt := 17) hx hb dX12_common_7 (by decide) ?_
    exact q_lret X hr hlk hK h (fun _ => 0, fun _ _ => 0, fun _ _ => 0) ⟨hj0, (show (j0 : Int64).toInt ≠ 0 ∨ ((j0 : Int64).toInt = 0 ∧ (j1 : Int64).toInt = 0) from by omega), trivial⟩ [] rfl rfl dX12_common_17 (Nat.le_of_ble_eq_true rfl) (Nat.le_of_ble_eq_true rfl)
set_option maxHeartbeats 4000000 in
set_option maxRecDepth 100000 in
theorem gX12_common_3133aa1 (l : Launch) (D : va_G) (cy : Nat → ClassId) (j0 : Int64) (j1 : Int64) (hj0 : (-625000000) ≤ (j0).toInt ∧ (j0).toInt ≤ 625000000) (hj1 : (-624999999) ≤ (j1).toInt ∧ (j1).toInt ≤ 624999999) (hpre0 : CM 624999999 625000000 (j0 : Int64).toInt (j1 : Int64).toInt) (sz : Nat) : ML l yX12_common cX12_common 4 { frames := 59, cells := 0, slots := 0, locals := 1357 } [.long j0, .long j1] D cy [] sz (fun r u => ((-625000000) ≤ r.toInt ∧ r.toInt ≤ 625000000) ∧ ((r : Int64).toInt ≠ 0 ∨ ((j0 : Int64).toInt = 0 ∧ (j1 : Int64).toInt = 0)) ∧ True) (fun u => []) 0 0 := by
  refine q_ent (own := RX12) (by decide) rfl (Nat.le_of_ble_eq_true rfl) (fun p e s m below meth c ls X hr hlk hnm hK hT h hA hl => ?_)
  obtain ⟨hx, hb, hml, hown, ht⟩ := id X
  replace hl : lv_has ls 4 [(0, .long j0), (2, .long j1)] := hl
  refine lv_lload_n hx hb dX12_common_0 rfl (lv_at hl 1 rfl) ?_
  refine lv_lconst (v := 0) hx hb dX12_common_1 (by decide) ?_
  refine W.lcmp hx hb dX12_common_2 ?_
  refine lv_if_ne (tgt := 10) hx hb dX12_common_3 (by decide) (fun c_1 => ?_) (fun c_1 => ?_)
  · replace c_1 := j_neq (x := j1) (y := 0) rfl (show (0 : Int64).toInt = 0 by decide) c_1
    refine lv_lload_n hx hb dX12_common_10 rfl (lv_at hl 1 rfl) ?_
    refine lv_lload_n hx hb dX12_common_11 rfl (lv_at hl 0 rfl) ?_
    refine lv_lload_n hx hb dX12_common_12 rfl (lv_at hl 1 rfl) ?_
    refine lv_lrem hx hb dX12_common_13 (j_nz (by omega)) ?_
    obtain ⟨z_2, ez_2, hz_2⟩ := e_anyJ (j0 - j0 / j1 * j1)
    refine q_cl z_2 ez_2 ?_
    have cm_3 : CM 312500000 624999999 _ _ := cm_s (by decide) hpre0 (by omega) ez_2
    have cr_3 := cm_r cm_3
    refine q_callSl (rest := []) (wr := []) X hK hT hA h (fun sz => gX12_common_b3b1016 l D cy j1 z_2 hj1 ⟨by omega, by omega⟩ (cm_3) sz) wm_8_20 wm_8_22 wm_1_12 hd_X12_common wm_8_21 ⟨Nat.le_of_ble_eq_true rfl, Nat.le_of_ble_eq_true rfl⟩ hl.1 rfl (Nat.le_of_ble_eq_true rfl) dX12_common_14 ⟨Nat.le_of_ble_eq_true rfl, Nat.le_of_ble_eq_true rfl⟩ [] [] rfl rfl (by decide) rfl rfl (fun r_4 u_4 H locs w_4 h_4 => ?_)
    clear h
    obtain ⟨wr_4, y4_0, _⟩ := w_4
    replace h_4 : qW D _ _ [] _ _ := h_4
    exact q_lret X hr hlk hK h_4 (fun _ => 0, fun _ _ => 0, fun _ _ => 0) ⟨(bw wr_4 (by decide) (by decide)), (show (r_4 : Int64).toInt ≠ 0 ∨ ((j0 : Int64).toInt = 0 ∧ (j1 : Int64).toInt = 0) from by (first | (clear y4_0; omega) | omega)), trivial⟩ [] rfl rfl dX12_common_17 (Nat.le_of_ble_eq_true rfl) (Nat.le_of_ble_eq_true rfl)
  · replace c_1 := j_eq (x := j1) (y := 0) rfl (show (0 : Int64).toInt = 0 by decide) c_1
    refine lv_lload_n hx hb dX12_common_6 rfl (lv_at hl 0 rfl) ?_
    refine lv_goto (tgt := 17) hx hb dX12_common_7 (by decide) ?_
    exact q_lret X hr hlk hK h (fun _ => 0, fun _ _ => 0, fun _ _ => 0) ⟨hj0, (show (j0 : Int64).toInt ≠ 0 ∨ ((j0 : Int64).toInt = 0 ∧ (j1 : Int64).toInt = 0) from by omega), trivial⟩ [] rfl rfl dX12_common_17 (Nat.le_of_ble_eq_true rfl) (Nat.le_of_ble_eq_true rfl)
set_option maxHeartbeats 4000000 in
set_option maxRecDepth 100000 in
theorem gX12_common_f8c9e6a (l : Launch) (D : va_G) (cy : Nat → ClassId) (j0 : Int64) (j1 : Int64) (hj0 : (-1249999999) ≤ (j0).toInt ∧ (j0).toInt ≤ 1249999999) (hj1 : (-625000000) ≤ (j1).toInt ∧ (j1).toInt ≤ 625000000) (hpre0 : CM 625000000 1249999999 (j0 : Int64).toInt (j1 : Int64).toInt) (sz : Nat) : ML l yX12_common cX12_common 4 { frames := 60, cells := 0, slots := 0, locals := 1380 } [.long j0, .long j1] D cy [] sz (fun r u => ((-1249999999) ≤ r.toInt ∧ r.toInt ≤ 1249999999) ∧ ((r : Int64).toInt ≠ 0 ∨ ((j0 : Int64).toInt = 0 ∧ (j1 : Int64).toInt = 0)) ∧ True) (fun u => []) 0 0 := by
  refine q_ent (own := RX12) (by decide) rfl (Nat.le_of_ble_eq_true rfl) (fun p e s m below meth c ls X hr hlk hnm hK hT h hA hl => ?_)
  obtain ⟨hx, hb, hml, hown, ht⟩ := id X
  replace hl : lv_has ls 4 [(0, .long j0), (2, .long j1)] := hl
  refine lv_lload_n hx hb dX12_common_0 rfl (lv_at hl 1 rfl) ?_
  refine lv_lconst (v := 0) hx hb dX12_common_1 (by decide) ?_
  refine W.lcmp hx hb dX12_common_2 ?_
  refine lv_if_ne (tgt := 10) hx hb dX12_common_3 (by decide) (fun c_1 => ?_) (fun c_1 => ?_)
  · replace c_1 := j_neq (x := j1) (y := 0) rfl (show (0 : Int64).toInt = 0 by decide) c_1
    refine lv_lload_n hx hb dX12_common_10 rfl (lv_at hl 1 rfl) ?_
    refine lv_lload_n hx hb dX12_common_11 rfl (lv_at hl 0 rfl) ?_
    refine lv_lload_n hx hb dX12_common_12 rfl (lv_at hl 1 rfl) ?_
    refine lv_lrem hx hb dX12_common_13 (j_nz (by omega)) ?_
    obtain ⟨z_2, ez_2, hz_2⟩ := e_anyJ (j0 - j0 / j1 * j1)
    refine q_cl z_2 ez_2 ?_
    have cm_3 : CM 624999999 625000000 _ _ := cm_s (by decide) hpre0 (by omega) ez_2
    have cr_3 := cm_r cm_3
    refine q_callSl (rest := []) (wr := []) X hK hT hA h (fun sz => gX12_common_3133aa1 l D cy j1 z_2 hj1 ⟨by omega, by omega⟩ (cm_3) sz) wm_8_20 wm_8_22 wm_1_12 hd_X12_common wm_8_21 ⟨Nat.le_of_ble_eq_true rfl, Nat.le_of_ble_eq_true rfl⟩ hl.1 rfl (Nat.le_of_ble_eq_true rfl) dX12_common_14 ⟨Nat.le_of_ble_eq_true rfl, Nat.le_of_ble_eq_true rfl⟩ [] [] rfl rfl (by decide) rfl rfl (fun r_4 u_4 H locs w_4 h_4 => ?_)
    clear h
    obtain ⟨wr_4, y4_0, _⟩ := w_4
    replace h_4 : qW D _ _ [] _ _ := h_4
    exact q_lret X hr hlk hK h_4 (fun _ => 0, fun _ _ => 0, fun _ _ => 0) ⟨(bw wr_4 (by decide) (by decide)), (show (r_4 : Int64).toInt ≠ 0 ∨ ((j0 : Int64).toInt = 0 ∧ (j1 : Int64).toInt = 0) from by (first | (clear y4_0; omega) | omega)), trivial⟩ [] rfl rfl dX12_common_17 (Nat.le_of_ble_eq_true rfl) (Nat.le_of_ble_eq_true rfl)
  · replace c_1 := j_eq (x := j1) (y := 0) rfl (show (0 : Int64).toInt = 0 by decide) c_1
    refine lv_lload_n hx hb dX12_common_6 rfl (lv_at hl 0 rfl) ?_
    refine lv_goto (tgt := 17) hx hb dX12_common_7 (by decide) ?_
    exact q_lret X hr hlk hK h (fun _ => 0, fun _ _ => 0, fun _ _ => 0) ⟨hj0, (show (j0 : Int64).toInt ≠ 0 ∨ ((j0 : Int64).toInt = 0 ∧ (j1 : Int64).toInt = 0) from by omega), trivial⟩ [] rfl rfl dX12_common_17 (Nat.le_of_ble_eq_true rfl) (Nat.le_of_ble_eq_true rfl)
set_option maxHeartbeats 4000000 in
set_option maxRecDepth 100000 in
theorem gX12_common_a9864a9 (l : Launch) (D : va_G) (cy : Nat → ClassId) (j0 : Int64) (j1 : Int64) (hj0 : (-1250000000) ≤ (j0).toInt ∧ (j0).toInt ≤ 1250000000) (hj1 : (-1249999999) ≤ (j1).toInt ∧ (j1).toInt ≤ 1249999999) (hpre0 : CM 1249999999 1250000000 (j0 : Int64).toInt (j1 : Int64).toInt) (sz : Nat) : ML l yX12_common cX12_common 4 { frames := 61, cells := 0, slots := 0, locals := 1403 } [.long j0, .long j1] D cy [] sz (fun r u => ((-1250000000) ≤ r.toInt ∧ r.toInt ≤ 1250000000) ∧ ((r : Int64).toInt ≠ 0 ∨ ((j0 : Int64).toInt = 0 ∧ (j1 : Int64).toInt = 0)) ∧ True) (fun u => []) 0 0 := by
  refine q_ent (own := RX12) (by decide) rfl (Nat.le_of_ble_eq_true rfl) (fun p e s m below meth c ls X hr hlk hnm hK hT h hA hl => ?_)
  obtain ⟨hx, hb, hml, hown, ht⟩ := id X
  replace hl : lv_has ls 4 [(0, .long j0), (2, .long j1)] := hl
  refine lv_lload_n hx hb dX12_common_0 rfl (lv_at hl 1 rfl) ?_
  refine lv_lconst (v := 0) hx hb dX12_common_1 (by decide) ?_
  refine W.lcmp hx hb dX12_common_2 ?_
  refine lv_if_ne (tgt := 10) hx hb dX12_common_3 (by decide) (fun c_1 => ?_) (fun c_1 => ?_)
  · replace c_1 := j_neq (x := j1) (y := 0) rfl (show (0 : Int64).toInt = 0 by decide) c_1
    refine lv_lload_n hx hb dX12_common_10 rfl (lv_at hl 1 rfl) ?_
    refine lv_lload_n hx hb dX12_common_11 rfl (lv_at hl 0 rfl) ?_
    refine lv_lload_n hx hb dX12_common_12 rfl (lv_at hl 1 rfl) ?_
    refine lv_lrem hx hb dX12_common_13 (j_nz (by omega)) ?_
    obtain ⟨z_2, ez_2, hz_2⟩ := e_anyJ (j0 - j0 / j1 * j1)
    refine q_cl z_2 ez_2 ?_
    have cm_3 : CM 625000000 1249999999 _ _ := cm_s (by decide) hpre0 (by omega) ez_2
    have cr_3 := cm_r cm_3
    refine q_callSl (rest := []) (wr := []) X hK hT hA h (fun sz => gX12_common_f8c9e6a l D cy j1 z_2 hj1 ⟨by omega, by omega⟩ (cm_3) sz) wm_8_20 wm_8_22 wm_1_12 hd_X12_common wm_8_21 ⟨Nat.le_of_ble_eq_true rfl, Nat.le_of_ble_eq_true rfl⟩ hl.1 rfl (Nat.le_of_ble_eq_true rfl) dX12_common_14 ⟨Nat.le_of_ble_eq_true rfl, Nat.le_of_ble_eq_true rfl⟩ [] [] rfl rfl (by decide) rfl rfl (fun r_4 u_4 H locs w_4 h_4 => ?_)
    clear h
    obtain ⟨wr_4, y4_0, _⟩ := w_4
    replace h_4 : qW D _ _ [] _ _ := h_4
    exact q_lret X hr hlk hK h_4 (fun _ => 0, fun _ _ => 0, fun _ _ => 0) ⟨(bw wr_4 (by decide) (by decide)), (show (r_4 : Int64).toInt ≠ 0 ∨ ((j0 : Int64).toInt = 0 ∧ (j1 : Int64).toInt = 0) from by (first | (clear y4_0; omega) | omega)), trivial⟩ [] rfl rfl dX12_common_17 (Nat.le_of_ble_eq_true rfl) (Nat.le_of_ble_eq_true rfl)
  · replace c_1 := j_eq (x := j1) (y := 0) rfl (show (0 : Int64).toInt = 0 by decide) c_1
    refine lv_lload_n hx hb dX12_common_6 rfl (lv_at hl 0 rfl) ?_
    refine lv_goto (tgt := 17) hx hb dX12_common_7 (by decide) ?_
    exact q_lret X hr hlk hK h (fun _ => 0, fun _ _ => 0, fun _ _ => 0) ⟨hj0, (show (j0 : Int64).toInt ≠ 0 ∨ ((j0 : Int64).toInt = 0 ∧ (j1 : Int64).toInt = 0) from by omega), trivial⟩ [] rfl rfl dX12_common_17 (Nat.le_of_ble_eq_true rfl) (Nat.le_of_ble_eq_true rfl)
set_option maxHeartbeats 4000000 in
set_option maxRecDepth 100000 in
theorem gX12_common_da70615 (l : Launch) (D : va_G) (cy : Nat → ClassId) (j0 : Int64) (j1 : Int64) (hj0 : (-2499999999) ≤ (j0).toInt ∧ (j0).toInt ≤ 2499999999) (hj1 : (-1250000000) ≤ (j1).toInt ∧ (j1).toInt ≤ 1250000000) (hpre0 : CM 1250000000 2499999999 (j0 : Int64).toInt (j1 : Int64).toInt) (sz : Nat) : ML l yX12_common cX12_common 4 { frames := 62, cells := 0, slots := 0, locals := 1426 } [.long j0, .long j1] D cy [] sz (fun r u => ((-2499999999) ≤ r.toInt ∧ r.toInt ≤ 2499999999) ∧ ((r : Int64).toInt ≠ 0 ∨ ((j0 : Int64).toInt = 0 ∧ (j1 : Int64).toInt = 0)) ∧ True) (fun u => []) 0 0 := by
  refine q_ent (own := RX12) (by decide) rfl (Nat.le_of_ble_eq_true rfl) (fun p e s m below meth c ls X hr hlk hnm hK hT h hA hl => ?_)
  obtain ⟨hx, hb, hml, hown, ht⟩ := id X
  replace hl : lv_has ls 4 [(0, .long j0), (2, .long j1)] := hl
  refine lv_lload_n hx hb dX12_common_0 rfl (lv_at hl 1 rfl) ?_
  refine lv_lconst (v := 0) hx hb dX12_common_1 (by decide) ?_
  refine W.lcmp hx hb dX12_common_2 ?_
  refine lv_if_ne (tgt := 10) hx hb dX12_common_3 (by decide) (fun c_1 => ?_) (fun c_1 => ?_)
  · replace c_1 := j_neq (x := j1) (y := 0) rfl (show (0 : Int64).toInt = 0 by decide) c_1
    refine lv_lload_n hx hb dX12_common_10 rfl (lv_at hl 1 rfl) ?_
    refine lv_lload_n hx hb dX12_common_11 rfl (lv_at hl 0 rfl) ?_
    refine lv_lload_n hx hb dX12_common_12 rfl (lv_at hl 1 rfl) ?_
    refine lv_lrem hx hb dX12_common_13 (j_nz (by omega)) ?_
    obtain ⟨z_2, ez_2, hz_2⟩ := e_anyJ (j0 - j0 / j1 * j1)
    refine q_cl z_2 ez_2 ?_
    have cm_3 : CM 1249999999 1250000000 _ _ := cm_s (by decide) hpre0 (by omega) ez_2
    have cr_3 := cm_r cm_3
    refine q_callSl (rest := []) (wr := []) X hK hT hA h (fun sz => gX12_common_a9864a9 l D cy j1 z_2 hj1 ⟨by omega, by omega⟩ (cm_3) sz) wm_8_20 wm_8_22 wm_1_12 hd_X12_common wm_8_21 ⟨Nat.le_of_ble_eq_true rfl, Nat.le_of_ble_eq_true rfl⟩ hl.1 rfl (Nat.le_of_ble_eq_true rfl) dX12_common_14 ⟨Nat.le_of_ble_eq_true rfl, Nat.le_of_ble_eq_true rfl⟩ [] [] rfl rfl (by decide) rfl rfl (fun r_4 u_4 H locs w_4 h_4 => ?_)
    clear h
    obtain ⟨wr_4, y4_0, _⟩ := w_4
    replace h_4 : qW D _ _ [] _ _ := h_4
    exact q_lret X hr hlk hK h_4 (fun _ => 0, fun _ _ => 0, fun _ _ => 0) ⟨(bw wr_4 (by decide) (by decide)), (show (r_4 : Int64).toInt ≠ 0 ∨ ((j0 : Int64).toInt = 0 ∧ (j1 : Int64).toInt = 0) from by (first | (clear y4_0; omega) | omega)), trivial⟩ [] rfl rfl dX12_common_17 (Nat.le_of_ble_eq_true rfl) (Nat.le_of_ble_eq_true rfl)
  · replace c_1 := j_eq (x := j1) (y := 0) rfl (show (0 : Int64).toInt = 0 by decide) c_1
    refine lv_lload_n hx hb dX12_common_6 rfl (lv_at hl 0 rfl) ?_
    refine lv_goto (tgt := 17) hx hb dX12_common_7 (by decide) ?_
    exact q_lret X hr hlk hK h (fun _ => 0, fun _ _ => 0, fun _ _ => 0) ⟨hj0, (show (j0 : Int64).toInt ≠ 0 ∨ ((j0 : Int64).toInt = 0 ∧ (j1 : Int64).toInt = 0) from by omega), trivial⟩ [] rfl rfl dX12_common_17 (Nat.le_of_ble_eq_true rfl) (Nat.le_of_ble_eq_true rfl)
set_option maxHeartbeats 4000000 in
set_option maxRecDepth 100000 in
theorem gX12_common_6fe0117 (l : Launch) (D : va_G) (cy : Nat → ClassId) (j0 : Int64) (j1 : Int64) (hj0 : (-2500000000) ≤ (j0).toInt ∧ (j0).toInt ≤ 2500000000) (hj1 : (-2499999999) ≤ (j1).toInt ∧ (j1).toInt ≤ 2499999999) (hpre0 : CM 2499999999 2500000000 (j0 : Int64).toInt (j1 : Int64).toInt) (sz : Nat) : ML l yX12_common cX12_common 4 { frames := 63, cells := 0, slots := 0, locals := 1449 } [.long j0, .long j1] D cy [] sz (fun r u => ((-2500000000) ≤ r.toInt ∧ r.toInt ≤ 2500000000) ∧ ((r : Int64).toInt ≠ 0 ∨ ((j0 : Int64).toInt = 0 ∧ (j1 : Int64).toInt = 0)) ∧ True) (fun u => []) 0 0 := by
  refine q_ent (own := RX12) (by decide) rfl (Nat.le_of_ble_eq_true rfl) (fun p e s m below meth c ls X hr hlk hnm hK hT h hA hl => ?_)
  obtain ⟨hx, hb, hml, hown, ht⟩ := id X
  replace hl : lv_has ls 4 [(0, .long j0), (2, .long j1)] := hl
  refine lv_lload_n hx hb dX12_common_0 rfl (lv_at hl 1 rfl) ?_
  refine lv_lconst (v := 0) hx hb dX12_common_1 (by decide) ?_
  refine W.lcmp hx hb dX12_common_2 ?_
  refine lv_if_ne (tgt := 10) hx hb dX12_common_3 (by decide) (fun c_1 => ?_) (fun c_1 => ?_)
  · replace c_1 := j_neq (x := j1) (y := 0) rfl (show (0 : Int64).toInt = 0 by decide) c_1
    refine lv_lload_n hx hb dX12_common_10 rfl (lv_at hl 1 rfl) ?_
    refine lv_lload_n hx hb dX12_common_11 rfl (lv_at hl 0 rfl) ?_
    refine lv_lload_n hx hb dX12_common_12 rfl (lv_at hl 1 rfl) ?_
    refine lv_lrem hx hb dX12_common_13 (j_nz (by omega)) ?_
    obtain ⟨z_2, ez_2, hz_2⟩ := e_anyJ (j0 - j0 / j1 * j1)
    refine q_cl z_2 ez_2 ?_
    have cm_3 : CM 1250000000 2499999999 _ _ := cm_s (by decide) hpre0 (by omega) ez_2
    have cr_3 := cm_r cm_3
    refine q_callSl (rest := []) (wr := []) X hK hT hA h (fun sz => gX12_common_da70615 l D cy j1 z_2 hj1 ⟨by omega, by omega⟩ (cm_3) sz) wm_8_20 wm_8_22 wm_1_12 hd_X12_common wm_8_21 ⟨Nat.le_of_ble_eq_true rfl, Nat.le_of_ble_eq_true rfl⟩ hl.1 rfl (Nat.le_of_ble_eq_true rfl) dX12_common_14 ⟨Nat.le_of_ble_eq_true rfl, Nat.le_of_ble_eq_true rfl⟩ [] [] rfl rfl (by decide) rfl rfl (fun r_4 u_4 H locs w_4 h_4 => ?_)
    clear h
    obtain ⟨wr_4, y4_0, _⟩ := w_4
    replace h_4 : qW D _ _ [] _ _ := h_4
    exact q_lret X hr hlk hK h_4 (fun _ => 0, fun _ _ => 0, fun _ _ => 0) ⟨(bw wr_4 (by decide) (by decide)), (show (r_4 : Int64).toInt ≠ 0 ∨ ((j0 : Int64).toInt = 0 ∧ (j1 : Int64).toInt = 0) from by (first | (clear y4_0; omega) | omega)), trivial⟩ [] rfl rfl dX12_common_17 (Nat.le_of_ble_eq_true rfl) (Nat.le_of_ble_eq_true rfl)
  · replace c_1 := j_eq (x := j1) (y := 0) rfl (show (0 : Int64).toInt = 0 by decide) c_1
    refine lv_lload_n hx hb dX12_common_6 rfl (lv_at hl 0 rfl) ?_
    refine lv_goto (tgt := 17) hx hb dX12_common_7 (by decide) ?_
    exact q_lret X hr hlk hK h (fun _ => 0, fun _ _ => 0, fun _ _ => 0) ⟨hj0, (show (j0 : Int64).toInt ≠ 0 ∨ ((j0 : Int64).toInt = 0 ∧ (j1 : Int64).toInt = 0) from by omega), trivial⟩ [] rfl rfl dX12_common_17 (Nat.le_of_ble_eq_true rfl) (Nat.le_of_ble_eq_true rfl)
set_option maxHeartbeats 4000000 in
set_option maxRecDepth 100000 in
theorem gX12_common_dc79104 (l : Launch) (D : va_G) (cy : Nat → ClassId) (j0 : Int64) (j1 : Int64) (hj0 : (-4999999999) ≤ (j0).toInt ∧ (j0).toInt ≤ 4999999999) (hj1 : (-2500000000) ≤ (j1).toInt ∧ (j1).toInt ≤ 2500000000) (hpre0 : CM 2500000000 4999999999 (j0 : Int64).toInt (j1 : Int64).toInt) (sz : Nat) : ML l yX12_common cX12_common 4 { frames := 64, cells := 0, slots := 0, locals := 1472 } [.long j0, .long j1] D cy [] sz (fun r u => ((-4999999999) ≤ r.toInt ∧ r.toInt ≤ 4999999999) ∧ ((r : Int64).toInt ≠ 0 ∨ ((j0 : Int64).toInt = 0 ∧ (j1 : Int64).toInt = 0)) ∧ True) (fun u => []) 0 0 := by
  refine q_ent (own := RX12) (by decide) rfl (Nat.le_of_ble_eq_true rfl) (fun p e s m below meth c ls X hr hlk hnm hK hT h hA hl => ?_)
  obtain ⟨hx, hb, hml, hown, ht⟩ := id X
  replace hl : lv_has ls 4 [(0, .long j0), (2, .long j1)] := hl
  refine lv_lload_n hx hb dX12_common_0 rfl (lv_at hl 1 rfl) ?_
  refine lv_lconst (v := 0) hx hb dX12_common_1 (by decide) ?_
  refine W.lcmp hx hb dX12_common_2 ?_
  refine lv_if_ne (tgt := 10) hx hb dX12_common_3 (by decide) (fun c_1 => ?_) (fun c_1 => ?_)
  · replace c_1 := j_neq (x := j1) (y := 0) rfl (show (0 : Int64).toInt = 0 by decide) c_1
    refine lv_lload_n hx hb dX12_common_10 rfl (lv_at hl 1 rfl) ?_
    refine lv_lload_n hx hb dX12_common_11 rfl (lv_at hl 0 rfl) ?_
    refine lv_lload_n hx hb dX12_common_12 rfl (lv_at hl 1 rfl) ?_
    refine lv_lrem hx hb dX12_common_13 (j_nz (by omega)) ?_
    obtain ⟨z_2, ez_2, hz_2⟩ := e_anyJ (j0 - j0 / j1 * j1)
    refine q_cl z_2 ez_2 ?_
    have cm_3 : CM 2499999999 2500000000 _ _ := cm_s (by decide) hpre0 (by omega) ez_2
    have cr_3 := cm_r cm_3
    refine q_callSl (rest := []) (wr := []) X hK hT hA h (fun sz => gX12_common_6fe0117 l D cy j1 z_2 hj1 ⟨by omega, by omega⟩ (cm_3) sz) wm_8_20 wm_8_22 wm_1_12 hd_X12_common wm_8_21 ⟨Nat.le_of_ble_eq_true rfl, Nat.le_of_ble_eq_true rfl⟩ hl.1 rfl (Nat.le_of_ble_eq_true rfl) dX12_common_14 ⟨Nat.le_of_ble_eq_true rfl, Nat.le_of_ble_eq_true rfl⟩ [] [] rfl rfl (by decide) rfl rfl (fun r_4 u_4 H locs w_4 h_4 => ?_)
    clear h
    obtain ⟨wr_4, y4_0, _⟩ := w_4
    replace h_4 : qW D _ _ [] _ _ := h_4
    exact q_lret X hr hlk hK h_4 (fun _ => 0, fun _ _ => 0, fun _ _ => 0) ⟨(bw wr_4 (by decide) (by decide)), (show (r_4 : Int64).toInt ≠ 0 ∨ ((j0 : Int64).toInt = 0 ∧ (j1 : Int64).toInt = 0) from by (first | (clear y4_0; omega) | omega)), trivial⟩ [] rfl rfl dX12_common_17 (Nat.le_of_ble_eq_true rfl) (Nat.le_of_ble_eq_true rfl)
  · replace c_1 := j_eq (x := j1) (y := 0) rfl (show (0 : Int64).toInt = 0 by decide) c_1
    refine lv_lload_n hx hb dX12_common_6 rfl (lv_at hl 0 rfl) ?_
    refine lv_goto (tgt := 17) hx hb dX12_common_7 (by decide) ?_
    exact q_lret X hr hlk hK h (fun _ => 0, fun _ _ => 0, fun _ _ => 0) ⟨hj0, (show (j0 : Int64).toInt ≠ 0 ∨ ((j0 : Int64).toInt = 0 ∧ (j1 : Int64).toInt = 0) from by omega), trivial⟩ [] rfl rfl dX12_common_17 (Nat.le_of_ble_eq_true rfl) (Nat.le_of_ble_eq_true rfl)
set_option maxHeartbeats 4000000 in
set_option maxRecDepth 100000 in
theorem gX12_common_3881220 (l : Launch) (D : va_G) (cy : Nat → ClassId) (j0 : Int64) (j1 : Int64) (hj0 : (-5000000000) ≤ (j0).toInt ∧ (j0).toInt ≤ 5000000000) (hj1 : (-4999999999) ≤ (j1).toInt ∧ (j1).toInt ≤ 4999999999) (hpre0 : CM 4999999999 5000000000 (j0 : Int64).toInt (j1 : Int64).toInt) (sz : Nat) : ML l yX12_common cX12_common 4 { frames := 65, cells := 0, slots := 0, locals := 1495 } [.long j0, .long j1] D cy [] sz (fun r u => ((-5000000000) ≤ r.toInt ∧ r.toInt ≤ 5000000000) ∧ ((r : Int64).toInt ≠ 0 ∨ ((j0 : Int64).toInt = 0 ∧ (j1 : Int64).toInt = 0)) ∧ True) (fun u => []) 0 0 := by
  refine q_ent (own := RX12) (by decide) rfl (Nat.le_of_ble_eq_true rfl) (fun p e s m below meth c ls X hr hlk hnm hK hT h hA hl => ?_)
  obtain ⟨hx, hb, hml, hown, ht⟩ := id X
  replace hl : lv_has ls 4 [(0, .long j0), (2, .long j1)] := hl
  refine lv_lload_n hx hb dX12_common_0 rfl (lv_at hl 1 rfl) ?_
  refine lv_lconst (v := 0) hx hb dX12_common_1 (by decide) ?_
  refine W.lcmp hx hb dX12_common_2 ?_
  refine lv_if_ne (tgt := 10) hx hb dX12_common_3 (by decide) (fun c_1 => ?_) (fun c_1 => ?_)
  · replace c_1 := j_neq (x := j1) (y := 0) rfl (show (0 : Int64).toInt = 0 by decide) c_1
    refine lv_lload_n hx hb dX12_common_10 rfl (lv_at hl 1 rfl) ?_
    refine lv_lload_n hx hb dX12_common_11 rfl (lv_at hl 0 rfl) ?_
    refine lv_lload_n hx hb dX12_common_12 rfl (lv_at hl 1 rfl) ?_
    refine lv_lrem hx hb dX12_common_13 (j_nz (by omega)) ?_
    obtain ⟨z_2, ez_2, hz_2⟩ := e_anyJ (j0 - j0 / j1 * j1)
    refine q_cl z_2 ez_2 ?_
    have cm_3 : CM 2500000000 4999999999 _ _ := cm_s (by decide) hpre0 (by omega) ez_2
    have cr_3 := cm_r cm_3
    refine q_callSl (rest := []) (wr := []) X hK hT hA h (fun sz => gX12_common_dc79104 l D cy j1 z_2 hj1 ⟨by omega, by omega⟩ (cm_3) sz) wm_8_20 wm_8_22 wm_1_12 hd_X12_common wm_8_21 ⟨Nat.le_of_ble_eq_true rfl, Nat.le_of_ble_eq_true rfl⟩ hl.1 rfl (Nat.le_of_ble_eq_true rfl) dX12_common_14 ⟨Nat.le_of_ble_eq_true rfl, Nat.le_of_ble_eq_true rfl⟩ [] [] rfl rfl (by decide) rfl rfl (fun r_4 u_4 H locs w_4 h_4 => ?_)
    clear h
    obtain ⟨wr_4, y4_0, _⟩ := w_4
    replace h_4 : qW D _ _ [] _ _ := h_4
    exact q_lret X hr hlk hK h_4 (fun _ => 0, fun _ _ => 0, fun _ _ => 0) ⟨(bw wr_4 (by decide) (by decide)), (show (r_4 : Int64).toInt ≠ 0 ∨ ((j0 : Int64).toInt = 0 ∧ (j1 : Int64).toInt = 0) from by (first | (clear y4_0; omega) | omega)), trivial⟩ [] rfl rfl dX12_common_17 (Nat.le_of_ble_eq_true rfl) (Nat.le_of_ble_eq_true rfl)
  · replace c_1 := j_eq (x := j1) (y := 0) rfl (show (0 : Int64).toInt = 0 by decide) c_1
    refine lv_lload_n hx hb dX12_common_6 rfl (lv_at hl 0 rfl) ?_
    refine lv_goto (tgt := 17) hx hb dX12_common_7 (by decide) ?_
    exact q_lret X hr hlk hK h (fun _ => 0, fun _ _ => 0, fun _ _ => 0) ⟨hj0, (show (j0 : Int64).toInt ≠ 0 ∨ ((j0 : Int64).toInt = 0 ∧ (j1 : Int64).toInt = 0) from by omega), trivial⟩ [] rfl rfl dX12_common_17 (Nat.le_of_ble_eq_true rfl) (Nat.le_of_ble_eq_true rfl)
set_option maxHeartbeats 4000000 in
set_option maxRecDepth 100000 in
theorem gX12_common_36a6529 (l : Launch) (D : va_G) (cy : Nat → ClassId) (j0 : Int64) (j1 : Int64) (hj0 : (-9999999999) ≤ (j0).toInt ∧ (j0).toInt ≤ 9999999999) (hj1 : (-5000000000) ≤ (j1).toInt ∧ (j1).toInt ≤ 5000000000) (hpre0 : CM 5000000000 9999999999 (j0 : Int64).toInt (j1 : Int64).toInt) (sz : Nat) : ML l yX12_common cX12_common 4 { frames := 66, cells := 0, slots := 0, locals := 1518 } [.long j0, .long j1] D cy [] sz (fun r u => ((-9999999999) ≤ r.toInt ∧ r.toInt ≤ 9999999999) ∧ ((r : Int64).toInt ≠ 0 ∨ ((j0 : Int64).toInt = 0 ∧ (j1 : Int64).toInt = 0)) ∧ True) (fun u => []) 0 0 := by
  refine q_ent (own := RX12) (by decide) rfl (Nat.le_of_ble_eq_true rfl) (fun p e s m below meth c ls X hr hlk hnm hK hT h hA hl => ?_)
  obtain ⟨hx, hb, hml, hown, ht⟩ := id X
  replace hl : lv_has ls 4 [(0, .long j0), (2, .long j1)] := hl
  refine lv_lload_n hx hb dX12_common_0 rfl (lv_at hl 1 rfl) ?_
  refine lv_lconst (v := 0) hx hb dX12_common_1 (by decide) ?_
  refine W.lcmp hx hb dX12_common_2 ?_
  refine lv_if_ne (tgt := 10) hx hb dX12_common_3 (by decide) (fun c_1 => ?_) (fun c_1 => ?_)
  · replace c_1 := j_neq (x := j1) (y := 0) rfl (show (0 : Int64).toInt = 0 by decide) c_1
    refine lv_lload_n hx hb dX12_common_10 rfl (lv_at hl 1 rfl) ?_
    refine lv_lload_n hx hb dX12_common_11 rfl (lv_at hl 0 rfl) ?_
    refine lv_lload_n hx hb dX12_common_12 rfl (lv_at hl 1 rfl) ?_
    refine lv_lrem hx hb dX12_common_13 (j_nz (by omega)) ?_
    obtain ⟨z_2, ez_2, hz_2⟩ := e_anyJ (j0 - j0 / j1 * j1)
    refine q_cl z_2 ez_2 ?_
    have cm_3 : CM 4999999999 5000000000 _ _ := cm_s (by decide) hpre0 (by omega) ez_2
    have cr_3 := cm_r cm_3
    refine q_callSl (rest := []) (wr := []) X hK hT hA h (fun sz => gX12_common_3881220 l D cy j1 z_2 hj1 ⟨by omega, by omega⟩ (cm_3) sz) wm_8_20 wm_8_22 wm_1_12 hd_X12_common wm_8_21 ⟨Nat.le_of_ble_eq_true rfl, Nat.le_of_ble_eq_true rfl⟩ hl.1 rfl (Nat.le_of_ble_eq_true rfl) dX12_common_14 ⟨Nat.le_of_ble_eq_true rfl, Nat.le_of_ble_eq_true rfl⟩ [] [] rfl rfl (by decide) rfl rfl (fun r_4 u_4 H locs w_4 h_4 => ?_)
    clear h
    obtain ⟨wr_4, y4_0, _⟩ := w_4
    replace h_4 : qW D _ _ [] _ _ := h_4
    exact q_lret X hr hlk hK h_4 (fun _ => 0, fun _ _ => 0, fun _ _ => 0) ⟨(bw wr_4 (by decide) (by decide)), (show (r_4 : Int64).toInt ≠ 0 ∨ ((j0 : Int64).toInt = 0 ∧ (j1 : Int64).toInt = 0) from by (first | (clear y4_0; omega) | omega)), trivial⟩ [] rfl rfl dX12_common_17 (Nat.le_of_ble_eq_true rfl) (Nat.le_of_ble_eq_true rfl)
  · replace c_1 := j_eq (x := j1) (y := 0) rfl (show (0 : Int64).toInt = 0 by decide) c_1
    refine lv_lload_n hx hb dX12_common_6 rfl (lv_at hl 0 rfl) ?_
    refine lv_goto (tgt := 17) hx hb dX12_common_7 (by decide) ?_
    exact q_lret X hr hlk hK h (fun _ => 0, fun _ _ => 0, fun _ _ => 0) ⟨hj0, (show (j0 : Int64).toInt ≠ 0 ∨ ((j0 : Int64).toInt = 0 ∧ (j1 : Int64).toInt = 0) from by omega), trivial⟩ [] rfl rfl dX12_common_17 (Nat.le_of_ble_eq_true rfl) (Nat.le_of_ble_eq_true rfl)
set_option maxHeartbeats 4000000 in
set_option maxRecDepth 100000 in
theorem gX12_common_97ca09e (l : Launch) (D : va_G) (cy : Nat → ClassId) (j0 : Int64) (j1 : Int64) (hj0 : 1 ≤ (j0).toInt ∧ (j0).toInt ≤ 10000000000) (hj1 : (-9999999999) ≤ (j1).toInt ∧ (j1).toInt ≤ 9999999999) (hpre0 : CM 9999999999 10000000000 (j0 : Int64).toInt (j1 : Int64).toInt) (sz : Nat) : ML l yX12_common cX12_common 4 { frames := 67, cells := 0, slots := 0, locals := 1541 } [.long j0, .long j1] D cy [] sz (fun r u => ((-9999999999) ≤ r.toInt ∧ r.toInt ≤ 10000000000) ∧ ((r : Int64).toInt ≠ 0 ∨ ((j0 : Int64).toInt = 0 ∧ (j1 : Int64).toInt = 0)) ∧ True) (fun u => []) 0 0 := by
  refine q_ent (own := RX12) (by decide) rfl (Nat.le_of_ble_eq_true rfl) (fun p e s m below meth c ls X hr hlk hnm hK hT h hA hl => ?_)
  obtain ⟨hx, hb, hml, hown, ht⟩ := id X
  replace hl : lv_has ls 4 [(0, .long j0), (2, .long j1)] := hl
  refine lv_lload_n hx hb dX12_common_0 rfl (lv_at hl 1 rfl) ?_
  refine lv_lconst (v := 0) hx hb dX12_common_1 (by decide) ?_
  refine W.lcmp hx hb dX12_common_2 ?_
  refine lv_if_ne (tgt := 10) hx hb dX12_common_3 (by decide) (fun c_1 => ?_) (fun c_1 => ?_)
  · replace c_1 := j_neq (x := j1) (y := 0) rfl (show (0 : Int64).toInt = 0 by decide) c_1
    refine lv_lload_n hx hb dX12_common_10 rfl (lv_at hl 1 rfl) ?_
    refine lv_lload_n hx hb dX12_common_11 rfl (lv_at hl 0 rfl) ?_
    refine lv_lload_n hx hb dX12_common_12 rfl (lv_at hl 1 rfl) ?_
    refine lv_lrem hx hb dX12_common_13 (j_nz (by omega)) ?_
    obtain ⟨z_2, ez_2, hz_2⟩ := e_anyJ (j0 - j0 / j1 * j1)
    refine q_cl z_2 ez_2 ?_
    have cm_3 : CM 5000000000 9999999999 _ _ := cm_s (by decide) hpre0 (by omega) ez_2
    have cr_3 := cm_r cm_3
    refine q_callSl (rest := []) (wr := []) X hK hT hA h (fun sz => gX12_common_36a6529 l D cy j1 z_2 hj1 ⟨by omega, by omega⟩ (cm_3) sz) wm_8_20 wm_8_22 wm_1_12 hd_X12_common wm_8_21 ⟨Nat.le_of_ble_eq_true rfl, Nat.le_of_ble_eq_true rfl⟩ hl.1 rfl (Nat.le_of_ble_eq_true rfl) dX12_common_14 ⟨Nat.le_of_ble_eq_true rfl, Nat.le_of_ble_eq_true rfl⟩ [] [] rfl rfl (by decide) rfl rfl (fun r_4 u_4 H locs w_4 h_4 => ?_)
    clear h
    obtain ⟨wr_4, y4_0, _⟩ := w_4
    replace h_4 : qW D _ _ [] _ _ := h_4
    exact q_lret X hr hlk hK h_4 (fun _ => 0, fun _ _ => 0, fun _ _ => 0) ⟨(bw wr_4 (by decide) (by decide)), (show (r_4 : Int64).toInt ≠ 0 ∨ ((j0 : Int64).toInt = 0 ∧ (j1 : Int64).toInt = 0) from by (first | (clear y4_0; omega) | omega)), trivial⟩ [] rfl rfl dX12_common_17 (Nat.le_of_ble_eq_true rfl) (Nat.le_of_ble_eq_true rfl)
  · replace c_1 := j_eq (x := j1) (y := 0) rfl (show (0 : Int64).toInt = 0 by decide) c_1
    refine lv_lload_n hx hb dX12_common_6 rfl (lv_at hl 0 rfl) ?_
    refine lv_goto (tgt := 17) hx hb dX12_common_7 (by decide) ?_
    exact q_lret X hr hlk hK h (fun _ => 0, fun _ _ => 0, fun _ _ => 0) ⟨(bw hj0 (by decide) (by decide)), (show (j0 : Int64).toInt ≠ 0 ∨ ((j0 : Int64).toInt = 0 ∧ (j1 : Int64).toInt = 0) from by omega), trivial⟩ [] rfl rfl dX12_common_17 (Nat.le_of_ble_eq_true rfl) (Nat.le_of_ble_eq_true rfl)
set_option maxHeartbeats 4000000 in
set_option maxRecDepth 100000 in
theorem gX12_common_0e81e8e (l : Launch) (D : va_G) (cy : Nat → ClassId) (j0 : Int64) (j1 : Int64) (hj0 : (-9223372036854775808) ≤ (j0).toInt ∧ (j0).toInt ≤ 9223372036854775807) (hj1 : 1 ≤ (j1).toInt ∧ (j1).toInt ≤ 10000000000) (hpre0 : 1 ≤ (j1 : Int64).toInt ∧ (j1 : Int64).toInt ≤ 10000000000) (sz : Nat) : ML l yX12_common cX12_common 4 { frames := 68, cells := 0, slots := 0, locals := 1564 } [.long j0, .long j1] D cy [] sz (fun r u => ((-9999999999) ≤ r.toInt ∧ r.toInt ≤ 10000000000) ∧ ((r : Int64).toInt ≠ 0 ∨ ((j0 : Int64).toInt = 0 ∧ (j1 : Int64).toInt = 0)) ∧ True) (fun u => []) 0 0 := by
  refine q_ent (own := RX12) (by decide) rfl (Nat.le_of_ble_eq_true rfl) (fun p e s m below meth c ls X hr hlk hnm hK hT h hA hl => ?_)
  obtain ⟨hx, hb, hml, hown, ht⟩ := id X
  replace hl : lv_has ls 4 [(0, .long j0), (2, .long j1)] := hl
  refine lv_lload_n hx hb dX12_common_0 rfl (lv_at hl 1 rfl) ?_
  refine lv_lconst (v := 0) hx hb dX12_common_1 (by decide) ?_
  refine W.lcmp hx hb dX12_common_2 ?_
  refine lv_if_ne (tgt := 10) hx hb dX12_common_3 (by decide) (fun c_1 => ?_) (fun c_1 => ?_)
  · replace c_1 := j_neq (x := j1) (y := 0) rfl (show (0 : Int64).toInt = 0 by decide) c_1
    refine lv_lload_n hx hb dX12_common_10 rfl (lv_at hl 1 rfl) ?_
    refine lv_lload_n hx hb dX12_common_11 rfl (lv_at hl 0 rfl) ?_
    refine lv_lload_n hx hb dX12_common_12 rfl (lv_at hl 1 rfl) ?_
    refine lv_lrem hx hb dX12_common_13 (j_nz (by omega)) ?_
    obtain ⟨z_2, ez_2, hz_2⟩ := e_anyJ (j0 - j0 / j1 * j1)
    refine q_cl z_2 ez_2 ?_
    have cm_3 : CM 9999999999 10000000000 _ _ := cm_0 (by decide) (by omega) (by omega) ez_2
    have cr_3 := cm_r cm_3
    refine q_callSl (rest := []) (wr := []) X hK hT hA h (fun sz => gX12_common_97ca09e l D cy j1 z_2 hj1 ⟨by omega, by omega⟩ (cm_3) sz) wm_8_20 wm_8_22 wm_1_12 hd_X12_common wm_8_21 ⟨Nat.le_of_ble_eq_true rfl, Nat.le_of_ble_eq_true rfl⟩ hl.1 rfl (Nat.le_of_ble_eq_true rfl) dX12_common_14 ⟨Nat.le_of_ble_eq_true rfl, Nat.le_of_ble_eq_true rfl⟩ [] [] rfl rfl (by decide) rfl rfl (fun r_4 u_4 H locs w_4 h_4 => ?_)
    clear h
    obtain ⟨wr_4, y4_0, _⟩ := w_4
    replace h_4 : qW D _ _ [] _ _ := h_4
    exact q_lret X hr hlk hK h_4 (fun _ => 0, fun _ _ => 0, fun _ _ => 0) ⟨wr_4, (show (r_4 : Int64).toInt ≠ 0 ∨ ((j0 : Int64).toInt = 0 ∧ (j1 : Int64).toInt = 0) from by (first | (clear y4_0; omega) | omega)), trivial⟩ [] rfl rfl dX12_common_17 (Nat.le_of_ble_eq_true rfl) (Nat.le_of_ble_eq_true rfl)
  · replace c_1 := j_eq (x := j1) (y := 0) rfl (show (0 : Int64).toInt = 0 by decide) c_1
    exfalso
    omega
set_option maxHeartbeats 4000000 in
set_option maxRecDepth 100000 in
theorem gX12_chance_87b66e9 (l : Launch) (D : va_G) (cy : Nat → ClassId) (h0 : Nat) (h1 : Nat) (h2 : Nat) (h3 : Nat) (h4 : Nat) (h5 : Nat) (p0 : Int32) (p1 : Int32) (p2 : Int32) (w0 : Value) (w1 : Value) (w2 : Value) (p3 : Int32) (p4 : Int32) (p5 : Int32) (p6 : Int32) (p7 : Int32) (p8 : Int32) (p9 : Int32) (p10 : Int32) (p11 : Int32) (p12 : Int32) (p13 : Int32) (w3 : Value) (w4 : Value) (p14 : Int32) (p15 : Int32) (w5 : Value) (w6 : Value) (p16 : Int32) (p17 : Int32) (w7 : Value) (w8 : Value) (w9 : Value) (w10 : Value) (w11 : Value) (p18 : Int32) (w12 : Value) (w13 : Value) (w14 : Value) (f0 : Nat → Int32) (p19 : Int32) (f1 : Nat → Int32) (f2 : Nat → Int32) (f3 : Nat → Int32) (f4 : Nat → Int32) (hp0 : (-2147483648) ≤ (p0).toInt ∧ (p0).toInt ≤ 2147483647) (hp1 : (-2147483648) ≤ (p1).toInt ∧ (p1).toInt ≤ 2147483647) (hp2 : (-2147483648) ≤ (p2).toInt ∧ (p2).toInt ≤ 2147483647) (hp3 : 0 ≤ (p3).toInt ∧ (p3).toInt ≤ 900) (hp4 : 0 ≤ (p4).toInt ∧ (p4).toInt ≤ 900) (hp5 : 0 ≤ (p5).toInt ∧ (p5).toInt ≤ 900) (hp6 : 0 ≤ (p6).toInt ∧ (p6).toInt ≤ 900) (hp7 : (-2147483648) ≤ (p7).toInt ∧ (p7).toInt ≤ 2147483647) (hp8 : 0 ≤ (p8).toInt ∧ (p8).toInt ≤ 999) (hp9 : (-2147483648) ≤ (p9).toInt ∧ (p9).toInt ≤ 2147483647) (hp10 : (-2147483648) ≤ (p10).toInt ∧ (p10).toInt ≤ 2147483647) (hp11 : (-2147483648) ≤ (p11).toInt ∧ (p11).toInt ≤ 2147483647) (hp12 : (-2147483648) ≤ (p12).toInt ∧ (p12).toInt ≤ 2147483647) (hp13 : (-2147483648) ≤ (p13).toInt ∧ (p13).toInt ≤ 2147483647) (hp14 : (-2147483648) ≤ (p14).toInt ∧ (p14).toInt ≤ 2147483647) (hp15 : (-2147483648) ≤ (p15).toInt ∧ (p15).toInt ≤ 2147483647) (hp16 : (-2147483648) ≤ (p16).toInt ∧ (p16).toInt ≤ 2147483647) (hp17 : (-2147483648) ≤ (p17).toInt ∧ (p17).toInt ≤ 2147483647) (hp18 : (-2147483648) ≤ (p18).toInt ∧ (p18).toInt ≤ 2147483647) (hp19 : 0 ≤ (p19).toInt ∧ (p19).toInt ≤ 10) (htf0_84 : f0 84 = p19) (rf0 : AL f0) (rf3 : RG f3 10 0 1023) (sz : Nat) : ML l yX12_chance cX12_chance 9 { frames := 69, cells := 0, slots := 0, locals := 1587 } [.ref h0, .int p0, .int p1] D cy (wk_eecab3214 cy h0 p2 h1 w0 w1 w2 p3 p4 p5 p6 p7 p8 p9 p10 p11 p12 p13 h2 h3 w3 h4 w4 p14 p15 h5 w5 w6 p16 p17 w7 w8 w9 w10 w11 p18 w12 w13 w14 h1 f0 h2 f1 h3 f2 h4 f3 h5 f4) sz (fun r u => ((-9223372036854775808) ≤ r.toInt ∧ r.toInt ≤ 9223372036854775807) ∧ RG (u.2.1 2) 10 0 1023 ∧ (0 ≤ (u.2.1 3 0).toInt ∧ (u.2.1 3 0).toInt ≤ 0) ∧ True) (fun u => (wk_eecab3214 cy h0 (u.2.1 3 0) h1 w0 w1 w2 p3 p4 p5 p6 p7 p8 p9 p10 p11 p12 p13 h2 h3 w3 h4 w4 p14 p15 h5 w5 w6 p16 p17 w7 w8 w9 w10 w11 p18 w12 w13 w14 h1 f0 h2 (u.2.1 0) h3 (u.2.1 1) h4 (u.2.1 2) h5 (u.2.1 4))) 0 0 := by
  refine q_ent (own := RX12) (by decide) rfl (Nat.le_of_ble_eq_true rfl) (fun p e s m below meth c ls X hr hlk hnm hK hT h hA hl => ?_)
  obtain ⟨hx, hb, hml, hown, ht⟩ := id X
  replace hl : lv_has ls 9 [(0, .ref h0), (1, .int p0), (2, .int p1)] := hl
  refine lv_aload_n hx hb dX12_chance_0 rfl (lv_at hl 0 rfl) ?_
  refine lv_iconst (v := 0) hx hb dX12_chance_1 (by decide) ?_
  refine q_put (v := .int 0) X hK h 0 rfl rfl wf_12 tyX12 tyX12_ok nmX12 0 (by decide) wm_5_170 rfl rfl rfl (Nat.le_of_ble_eq_true rfl) dX12_chance_2 (fun H locs h_1 => ?_)
  clear h
  replace h_1 : qW D _ _ (wk_eecab3214 cy h0 0 h1 w0 w1 w2 p3 p4 p5 p6 p7 p8 p9 p10 p11 p12 p13 h2 h3 w3 h4 w4 p14 p15 h5 w5 w6 p16 p17 w7 w8 w9 w10 w11 p18 w12 w13 w14 h1 f0 h2 f1 h3 f2 h4 f3 h5 f4) _ _ := h_1
  refine lv_iload_n hx hb dX12_chance_5 rfl (lv_at hl 2 rfl) ?_
  refine lv_i2l hx hb dX12_chance_6 rfl ?_
  obtain ⟨z_2, ez_2, hz_2⟩ := e_i2l (x := p1) rfl
  refine q_cl z_2 ez_2 ?_
  clear ez_2
  refine lv_lconst (v := 0) hx hb dX12_chance_7 (by decide) ?_
  refine lv_lconst (v := 1) hx hb dX12_chance_8 (by decide) ?_
  refine q_callSi (rest := []) (wr := (wk_eecab3214 cy h0 0 h1 w0 w1 w2 p3 p4 p5 p6 p7 p8 p9 p10 p11 p12 p13 h2 h3 w3 h4 w4 p14 p15 h5 w5 w6 p16 p17 w7 w8 w9 w10 w11 p18 w12 w13 w14 h1 f0 h2 f1 h3 f2 h4 f3 h5 f4)) X hK hT hA h_1 (fun sz => gX12_within_00c7897 l D cy z_2 (0 : Int64) (1 : Int64) (j_rng _) ⟨by decide +kernel, by decide +kernel⟩ ⟨by decide +kernel, by decide +kernel⟩ sz) wm_6_50 wm_6_52 wm_1_12 hd_X12_within wm_6_51 ⟨Nat.le_of_ble_eq_true rfl, Nat.le_of_ble_eq_true rfl⟩ hl.1 rfl (Nat.le_of_ble_eq_true rfl) dX12_chance_9 ⟨Nat.le_of_ble_eq_true rfl, Nat.le_of_ble_eq_true rfl⟩ [] [0, 1, 2, 3, 4, 5] rfl rfl (by decide) rfl rfl (fun r_3 u_3 H locs w_3 h_3 => ?_)
  clear h_1
  obtain ⟨wr_3, y3_0, _⟩ := w_3
  have lq_3_1 : (0 : Int64).toInt = 0 := (by decide)
  have lq_3_2 : (1 : Int64).toInt = 1 := (by decide)
  replace h_3 : qW D _ _ (wk_eecab3214 cy h0 0 h1 w0 w1 w2 p3 p4 p5 p6 p7 p8 p9 p10 p11 p12 p13 h2 h3 w3 h4 w4 p14 p15 h5 w5 w6 p16 p17 w7 w8 w9 w10 w11 p18 w12 w13 w14 h1 f0 h2 f1 h3 f2 h4 f3 h5 f4) _ _ := h_3
  refine lv_if_ne (tgt := 19) hx hb dX12_chance_12 (by decide) (fun c_4 => ?_) (fun c_4 => ?_)
  · replace c_4 := i_ne (x := r_3) (y := 0) rfl (show (0 : Int32).toInt = 0 by decide) c_4
    replace y3_0 := a10_1 y3_0 c_4
    refine lv_aload_n hx hb dX12_chance_19 rfl (lv_at hl 0 rfl) ?_
    refine lv_iload_n hx hb dX12_chance_20 rfl (lv_at hl 1 rfl) ?_
    refine q_callVi (rest := []) (wr := (wk_1ed1fcc35 cy h2 f1 h3 f2 h4 f3 h5 f4)) X hK hT hA h_3 (fun sz => gX12_isSet_9166d70 l D cy h0 h1 p0 (0 : Int32) w0 w1 w2 p3 p4 p5 p6 p7 p8 p9 p10 p11 p12 p13 (.ref h2) (.ref h3) w3 (.ref h4) w4 p14 p15 (.ref h5) w5 w6 p16 p17 w7 w8 w9 w10 w11 p18 w12 w13 w14 f0 p19 (i_rng _) ⟨by decide +kernel, by decide +kernel⟩ hp3 hp4 hp5 hp6 (i_rng _) hp8 (i_rng _) (i_rng _) (i_rng _) (i_rng _) (i_rng _) (i_rng _) (i_rng _) (i_rng _) (i_rng _) (i_rng _) hp19 htf0_84 rf0 sz) wm_7_96 wm_7_99 wm_1_12 hd_X12_isSet wm_7_98 wp_7_1 (ci := 12) (q0 := 0) rfl rfl ⟨Nat.le_of_ble_eq_true rfl, Nat.le_of_ble_eq_true rfl⟩ hl.1 rfl (Nat.le_of_ble_eq_true rfl) dX12_chance_21 ⟨Nat.le_of_ble_eq_true rfl, Nat.le_of_ble_eq_true rfl⟩ [0, 1] [2, 3, 4, 5] rfl rfl (by decide) rfl rfl (fun r_5 u_5 H locs w_5 h_5 => ?_)
    clear h_3
    obtain ⟨wr_5, y5_0, _⟩ := w_5
    replace h_5 : qW D _ _ (wk_143caa1ee cy h2 f1 h3 f2 h4 f3 h5 f4 h0 0 h1 w0 w1 w2 p3 p4 p5 p6 p7 p8 p9 p10 p11 p12 p13 h2 h3 w3 h4 w4 p14 p15 h5 w5 w6 p16 p17 w7 w8 w9 w10 w11 p18 w12 w13 w14 h1 f0) _ _ := h_5
    refine lv_if_ne (tgt := 31) hx hb dX12_chance_24 (by decide) (fun c_6 => ?_) (fun c_6 => ?_)
    · replace c_6 := i_ne (x := r_5) (y := 0) rfl (show (0 : Int32).toInt = 0 by decide) c_6
      refine lv_aload_n hx hb dX12_chance_31 rfl (lv_at hl 0 rfl) ?_
      refine q_callVv (rest := []) (wr := []) X hK hT hA h_5 (fun sz => gX12_laysNow_7e7bd2c l D cy h0 h1 h2 h3 h4 h5 (0 : Int32) w0 w1 w2 p3 p4 p5 p6 p7 p8 p9 p10 p11 p12 p13 w3 w4 p14 p15 w5 w6 p16 p17 w7 w8 w9 w10 w11 p18 w12 w13 w14 f0 p19 f1 f2 f3 f4 ⟨by decide +kernel, by decide +kernel⟩ hp3 hp4 hp5 hp6 (i_rng _) hp8 (i_rng _) (i_rng _) (i_rng _) (i_rng _) (i_rng _) (i_rng _) (i_rng _) (i_rng _) (i_rng _) (i_rng _) hp19 htf0_84 rf0 (rg_wide rf3 (by decide) (by decide)) sz) wm_7_55 wm_7_58 wm_1_12 hd_X12_laysNow wm_7_57 wp_6_11 (ci := 12) (q0 := 0) rfl rfl ⟨Nat.le_of_ble_eq_true rfl, Nat.le_of_ble_eq_true rfl⟩ hl.1 rfl (Nat.le_of_ble_eq_true rfl) dX12_chance_32 ⟨Nat.le_of_ble_eq_true rfl, Nat.le_of_ble_eq_true rfl⟩ [4, 5, 0, 1, 2, 3] [] rfl rfl (by decide) rfl rfl (fun u_7 H locs w_7 h_7 => ?_)
      clear h_5
      obtain ⟨w7_0, _⟩ := w_7
      replace h_7 : qW D _ _ (wk_eecab3214 cy h0 0 h1 w0 w1 w2 p3 p4 p5 p6 p7 p8 p9 p10 p11 p12 p13 h2 h3 w3 h4 w4 p14 p15 h5 w5 w6 p16 p17 w7 w8 w9 w10 w11 p18 w12 w13 w14 h1 f0 h2 (u_7.2.1 0) h3 (u_7.2.1 1) h4 (u_7.2.1 2) h5 (u_7.2.1 3)) _ _ := h_7
      refine lv_aload_n hx hb dX12_chance_35 rfl (lv_at hl 0 rfl) ?_
      refine lv_iload_n hx hb dX12_chance_36 rfl (lv_at hl 1 rfl) ?_
      refine q_callVl (rest := []) (wr := (wk_ce6a1f133 cy h2 (u_7.2.1 0) h3 (u_7.2.1 1) h4 (u_7.2.1 2))) X hK hT hA h_7 (fun sz => gX12_chanceOf_39433c5 l D cy h0 h1 h5 p0 (0 : Int32) w0 w1 w2 p3 p4 p5 p6 p7 p8 p9 p10 p11 p12 p13 (.ref h2) (.ref h3) w3 (.ref h4) w4 p14 p15 w5 w6 p16 p17 w7 w8 w9 w10 w11 p18 w12 w13 w14 f0 p19 (u_7.2.1 3) ⟨by omega, by omega⟩ ⟨by decide +kernel, by decide +kernel⟩ hp3 hp4 hp5 hp6 (i_rng _) hp8 (i_rng _) (i_rng _) (i_rng _) (i_rng _) (i_rng _) (i_rng _) (i_rng _) (i_rng _) (i_rng _) (i_rng _) hp19 htf0_84 rf0 sz) wm_8_13 wm_8_16 wm_1_12 hd_X12_chanceOf wm_8_15 wp_8_3 (ci := 12) (q0 := 0) rfl rfl ⟨Nat.le_of_ble_eq_true rfl, Nat.le_of_ble_eq_true rfl⟩ hl.1 rfl (Nat.le_of_ble_eq_true rfl) dX12_chance_37 ⟨Nat.le_of_ble_eq_true rfl, Nat.le_of_ble_eq_true rfl⟩ [0, 1, 5] [2, 3, 4] rfl rfl (by decide) rfl rfl (fun r_8 u_8 H locs w_8 h_8 => ?_)
      clear h_7
      obtain ⟨wr_8, _⟩ := w_8
      replace h_8 : qW D _ _ (wk_ae6db6c48 cy h2 (u_7.2.1 0) h3 (u_7.2.1 1) h4 (u_7.2.1 2) h0 0 h1 w0 w1 w2 p3 p4 p5 p6 p7 p8 p9 p10 p11 p12 p13 h2 h3 w3 h4 w4 p14 p15 h5 w5 w6 p16 p17 w7 w8 w9 w10 w11 p18 w12 w13 w14 h1 f0 h5 (u_7.2.1 3)) _ _ := h_8
      refine lv_lstore_n (lv' := [(3, .long r_8), (0, .ref h0), (1, .int p0), (2, .int p1)]) hx hb dX12_chance_40 rfl hl (by decide) rfl (fun ls_9 hl_9 => ?_)
      clear hl
      refine lv_iload_n hx hb dX12_chance_41 rfl (lv_at hl_9 2 rfl) ?_
      refine q_callSi (rest := []) (wr := (wk_ae6db6c48 cy h2 (u_7.2.1 0) h3 (u_7.2.1 1) h4 (u_7.2.1 2) h0 0 h1 w0 w1 w2 p3 p4 p5 p6 p7 p8 p9 p10 p11 p12 p13 h2 h3 w3 h4 w4 p14 p15 h5 w5 w6 p16 p17 w7 w8 w9 w10 w11 p18 w12 w13 w14 h1 f0 h5 (u_7.2.1 3))) X hK hT hA h_8 (fun sz => gX12_bitsOf_5a43b1c l D cy p0 (i_rng _) sz) wm_7_8 wm_7_10 wm_1_12 hd_X12_bitsOf wm_7_9 ⟨Nat.le_of_ble_eq_true rfl, Nat.le_of_ble_eq_true rfl⟩ hl_9.1 rfl (Nat.le_of_ble_eq_true rfl) dX12_chance_42 ⟨Nat.le_of_ble_eq_true rfl, Nat.le_of_ble_eq_true rfl⟩ [] [0, 1, 2, 3, 4, 5] rfl rfl (by decide) rfl rfl (fun r_10 u_10 H locs w_10 h_10 => ?_)
      clear h_8
      obtain ⟨wr_10, _⟩ := w_10
      replace h_10 : qW D _ _ (wk_ae6db6c48 cy h2 (u_7.2.1 0) h3 (u_7.2.1 1) h4 (u_7.2.1 2) h0 0 h1 w0 w1 w2 p3 p4 p5 p6 p7 p8 p9 p10 p11 p12 p13 h2 h3 w3 h4 w4 p14 p15 h5 w5 w6 p16 p17 w7 w8 w9 w10 w11 p18 w12 w13 w14 h1 f0 h5 (u_7.2.1 3)) _ _ := h_10
      refine q_callSl (rest := []) (wr := (wk_ae6db6c48 cy h2 (u_7.2.1 0) h3 (u_7.2.1 1) h4 (u_7.2.1 2) h0 0 h1 w0 w1 w2 p3 p4 p5 p6 p7 p8 p9 p10 p11 p12 p13 h2 h3 w3 h4 w4 p14 p15 h5 w5 w6 p16 p17 w7 w8 w9 w10 w11 p18 w12 w13 w14 h1 f0 h5 (u_7.2.1 3))) X hK hT hA h_10 (fun sz => gX12_tens_dd3db09 l D cy r_10 wr_10 sz) wm_8_17 wm_8_19 wm_1_12 hd_X12_tens wm_8_18 ⟨Nat.le_of_ble_eq_true rfl, Nat.le_of_ble_eq_true rfl⟩ hl_9.1 rfl (Nat.le_of_ble_eq_true rfl) dX12_chance_45 ⟨Nat.le_of_ble_eq_true rfl, Nat.le_of_ble_eq_true rfl⟩ [] [0, 1, 2, 3, 4, 5] rfl rfl (by decide) rfl rfl (fun r_11 u_11 H locs w_11 h_11 => ?_)
      clear h_10
      obtain ⟨wr_11, y11_0, _⟩ := w_11
      replace h_11 : qW D _ _ (wk_ae6db6c48 cy h2 (u_7.2.1 0) h3 (u_7.2.1 1) h4 (u_7.2.1 2) h0 0 h1 w0 w1 w2 p3 p4 p5 p6 p7 p8 p9 p10 p11 p12 p13 h2 h3 w3 h4 w4 p14 p15 h5 w5 w6 p16 p17 w7 w8 w9 w10 w11 p18 w12 w13 w14 h1 f0 h5 (u_7.2.1 3)) _ _ := h_11
      refine lv_lstore (lv' := [(5, .long r_11), (3, .long r_8), (0, .ref h0), (1, .int p0), (2, .int p1)]) hx hb dX12_chance_48 hl_9 (by decide) rfl (fun ls_12 hl_12 => ?_)
      clear hl_9
      refine lv_lload_n hx hb dX12_chance_50 rfl (lv_at hl_12 1 rfl) ?_
      refine lv_lload hx hb dX12_chance_51 (lv_at hl_12 0 rfl) ?_
      refine q_callSl (rest := []) (wr := (wk_ae6db6c48 cy h2 (u_7.2.1 0) h3 (u_7.2.1 1) h4 (u_7.2.1 2) h0 0 h1 w0 w1 w2 p3 p4 p5 p6 p7 p8 p9 p10 p11 p12 p13 h2 h3 w3 h4 w4 p14 p15 h5 w5 w6 p16 p17 w7 w8 w9 w10 w11 p18 w12 w13 w14 h1 f0 h5 (u_7.2.1 3))) X hK hT hA h_11 (fun sz => gX12_common_0e81e8e l D cy r_8 r_11 (j_rng _) wr_11 (y11_0) sz) wm_8_20 wm_8_22 wm_1_12 hd_X12_common wm_8_21 ⟨Nat.le_of_ble_eq_true rfl, Nat.le_of_ble_eq_true rfl⟩ hl_12.1 rfl (Nat.le_of_ble_eq_true rfl) dX12_chance_53 ⟨Nat.le_of_ble_eq_true rfl, Nat.le_of_ble_eq_true rfl⟩ [] [0, 1, 2, 3, 4, 5] rfl rfl (by decide) rfl rfl (fun r_13 u_13 H locs w_13 h_13 => ?_)
      clear h_11
      obtain ⟨wr_13, y13_0, _⟩ := w_13
      replace h_13 : qW D _ _ (wk_ae6db6c48 cy h2 (u_7.2.1 0) h3 (u_7.2.1 1) h4 (u_7.2.1 2) h0 0 h1 w0 w1 w2 p3 p4 p5 p6 p7 p8 p9 p10 p11 p12 p13 h2 h3 w3 h4 w4 p14 p15 h5 w5 w6 p16 p17 w7 w8 w9 w10 w11 p18 w12 w13 w14 h1 f0 h5 (u_7.2.1 3)) _ _ := h_13
      refine lv_lstore (lv' := [(7, .long r_13), (5, .long r_11), (3, .long r_8), (0, .ref h0), (1, .int p0), (2, .int p1)]) hx hb dX12_chance_56 hl_12 (by decide) rfl (fun ls_14 hl_14 => ?_)
      clear hl_12
      refine lv_iload_n hx hb dX12_chance_58 rfl (lv_at hl_14 5 rfl) ?_
      refine q_jn (pc2 := 68) (fun H locs ls st => ∃ v68_15_0 : Int64, ((-9223372036854775808) ≤ (v68_15_0).toInt ∧ (v68_15_0).toInt ≤ 9223372036854775807) ∧ st = [.long v68_15_0] ∧ qW D (va_A (wk_eecab3214 cy h0 p2 h1 w0 w1 w2 p3 p4 p5 p6 p7 p8 p9 p10 p11 p12 p13 h2 h3 w3 h4 w4 p14 p15 h5 w5 w6 p16 p17 w7 w8 w9 w10 w11 p18 w12 w13 w14 h1 f0 h2 f1 h3 f2 h4 f3 h5 f4) sz) s.heap (wk_ae6db6c48 cy h2 (u_7.2.1 0) h3 (u_7.2.1 1) h4 (u_7.2.1 2) h0 0 h1 w0 w1 w2 p3 p4 p5 p6 p7 p8 p9 p10 p11 p12 p13 h2 h3 w3 h4 w4 p14 p15 h5 w5 w6 p16 p17 w7 w8 w9 w10 w11 p18 w12 w13 w14 h1 f0 h5 (u_7.2.1 3)) H locs ∧ lv_has ls 9 [(0, .ref h0), (1, .int p0), (2, .int p1), (3, .long r_8), (5, .long r_11), (7, .long r_13)]) (fun H locs ls st hP => ?_) (fun J_68 => ?_)
      · obtain ⟨v68_15_0, hv68_15_0, rfl, h, hl⟩ := hP
        refine lv_lload hx hb dX12_chance_68 (lv_at hl 5 rfl) ?_
        refine lv_ldiv hx hb dX12_chance_70 (j_nz (by omega)) ?_
        refine q_anyJ (fun z_16 hz_16 => ?_)
        exact q_lret X hr hlk hK h (fun _ => 0, (vcons (u_7.2.1 0) (vcons (u_7.2.1 1) (vcons (u_7.2.1 2) (vcons (fun _ => 0) (vcons (u_7.2.1 3) (fun _ => (fun _ => 0))))))), fun _ _ => 0) ⟨⟨by omega, by omega⟩, (rg_wide w7_0 (by decide) (by decide)), (⟨by decide +kernel, by decide +kernel⟩ : 0 ≤ (0 : Int32).toInt ∧ (0 : Int32).toInt ≤ 0), trivial⟩ [3, 4, 0, 1, 2, 5] rfl rfl dX12_chance_71 (Nat.le_of_ble_eq_true rfl) (Nat.le_of_ble_eq_true rfl)
      · skip
        refine lv_if_ne (tgt := 66) hx hb dX12_chance_59 (by decide) (fun c_17 => ?_) (fun c_17 => ?_)
        · replace c_17 := i_ne (x := p1) (y := 0) rfl (show (0 : Int32).toInt = 0 by decide) c_17
          refine lv_lload hx hb dX12_chance_66 (lv_at hl_14 1 rfl) ?_
          exact J_68 _ _ _ _ ⟨r_11, (bw wr_11 (by decide) (by decide)), rfl, h_13, (lv_sub hl_14 [3, 4, 5, 2, 1, 0] rfl)⟩
        · replace c_17 := i_eq (x := p1) (y := 0) rfl (show (0 : Int32).toInt = 0 by decide) c_17
          refine lv_lload_n hx hb dX12_chance_62 rfl (lv_at hl_14 2 rfl) ?_
          refine lv_goto (tgt := 68) hx hb dX12_chance_63 (by decide) ?_
          exact J_68 _ _ _ _ ⟨r_8, wr_8, rfl, h_13, (lv_sub hl_14 [3, 4, 5, 2, 1, 0] rfl)⟩
    · replace c_6 := i_eq (x := r_5) (y := 0) rfl (show (0 : Int32).toInt = 0 by decide) c_6
      refine lv_ldc2 hx hb hown (ht _ wm_8_12) dX12_chance_27 ?_
      exact q_lret X hr hlk hK h_5 (fun _ => 0, (vcons f1 (vcons f2 (vcons f3 (vcons (fun _ => 0) (vcons f4 (fun _ => (fun _ => 0))))))), fun _ _ => 0) ⟨⟨by decide +kernel, by decide +kernel⟩, (rg_wide rf3 (by decide) (by decide)), (⟨by decide +kernel, by decide +kernel⟩ : 0 ≤ (0 : Int32).toInt ∧ (0 : Int32).toInt ≤ 0), trivial⟩ [4, 5, 0, 1, 2, 3] rfl rfl dX12_chance_30 (Nat.le_of_ble_eq_true rfl) (Nat.le_of_ble_eq_true rfl)
  · replace c_4 := i_eq (x := r_3) (y := 0) rfl (show (0 : Int32).toInt = 0 by decide) c_4
    replace y3_0 := a10_0 y3_0 c_4
    refine lv_ldc2 hx hb hown (ht _ wm_8_11) dX12_chance_15 ?_
    exact q_lret X hr hlk hK h_3 (fun _ => 0, (vcons f1 (vcons f2 (vcons f3 (vcons (fun _ => 0) (vcons f4 (fun _ => (fun _ => 0))))))), fun _ _ => 0) ⟨⟨by decide +kernel, by decide +kernel⟩, (rg_wide rf3 (by decide) (by decide)), (⟨by decide +kernel, by decide +kernel⟩ : 0 ≤ (0 : Int32).toInt ∧ (0 : Int32).toInt ≤ 0), trivial⟩ [0, 1, 2, 3, 4, 5] rfl rfl dX12_chance_18 (Nat.le_of_ble_eq_true rfl) (Nat.le_of_ble_eq_true rfl)
set_option maxHeartbeats 4000000 in
set_option maxRecDepth 100000 in
theorem gX12_reserve_90a1450 (l : Launch) (D : va_G) (cy : Nat → ClassId) (h0 : Nat) (h1 : Nat) (h2 : Nat) (h3 : Nat) (h4 : Nat) (h5 : Nat) (p0 : Int32) (p1 : Int32) (w0 : Value) (w1 : Value) (w2 : Value) (p2 : Int32) (p3 : Int32) (p4 : Int32) (p5 : Int32) (p6 : Int32) (p7 : Int32) (p8 : Int32) (p9 : Int32) (p10 : Int32) (p11 : Int32) (p12 : Int32) (w3 : Value) (w4 : Value) (p13 : Int32) (p14 : Int32) (w5 : Value) (w6 : Value) (p15 : Int32) (p16 : Int32) (w7 : Value) (w8 : Value) (w9 : Value) (w10 : Value) (w11 : Value) (p17 : Int32) (w12 : Value) (w13 : Value) (w14 : Value) (f0 : Nat → Int32) (p18 : Int32) (f1 : Nat → Int32) (f2 : Nat → Int32) (f3 : Nat → Int32) (f4 : Nat → Int32) (hp0 : (-2147483648) ≤ (p0).toInt ∧ (p0).toInt ≤ 2147483647) (hp1 : (-2147483648) ≤ (p1).toInt ∧ (p1).toInt ≤ 2147483647) (hp2 : 0 ≤ (p2).toInt ∧ (p2).toInt ≤ 900) (hp3 : 0 ≤ (p3).toInt ∧ (p3).toInt ≤ 900) (hp4 : 0 ≤ (p4).toInt ∧ (p4).toInt ≤ 900) (hp5 : 0 ≤ (p5).toInt ∧ (p5).toInt ≤ 900) (hp6 : (-2147483648) ≤ (p6).toInt ∧ (p6).toInt ≤ 2147483647) (hp7 : 0 ≤ (p7).toInt ∧ (p7).toInt ≤ 999) (hp8 : (-2147483648) ≤ (p8).toInt ∧ (p8).toInt ≤ 2147483647) (hp9 : (-2147483648) ≤ (p9).toInt ∧ (p9).toInt ≤ 2147483647) (hp10 : (-2147483648) ≤ (p10).toInt ∧ (p10).toInt ≤ 2147483647) (hp11 : (-2147483648) ≤ (p11).toInt ∧ (p11).toInt ≤ 2147483647) (hp12 : (-2147483648) ≤ (p12).toInt ∧ (p12).toInt ≤ 2147483647) (hp13 : (-2147483648) ≤ (p13).toInt ∧ (p13).toInt ≤ 2147483647) (hp14 : (-2147483648) ≤ (p14).toInt ∧ (p14).toInt ≤ 2147483647) (hp15 : (-2147483648) ≤ (p15).toInt ∧ (p15).toInt ≤ 2147483647) (hp16 : (-2147483648) ≤ (p16).toInt ∧ (p16).toInt ≤ 2147483647) (hp17 : (-2147483648) ≤ (p17).toInt ∧ (p17).toInt ≤ 2147483647) (hp18 : 0 ≤ (p18).toInt ∧ (p18).toInt ≤ 10) (htf0_84 : f0 84 = p18) (rf0 : AL f0) (rf3 : RG f3 10 0 1023) (sz : Nat) : MI l yX12_reserve cX12_reserve 9 .int { frames := 5, cells := 0, slots := 0, locals := 114 } [.ref h0, .int p0] D cy (wk_eecab3214 cy h0 p1 h1 w0 w1 w2 p2 p3 p4 p5 p6 p7 p8 p9 p10 p11 p12 h2 h3 w3 h4 w4 p13 p14 h5 w5 w6 p15 p16 w7 w8 w9 w10 w11 p17 w12 w13 w14 h1 f0 h2 f1 h3 f2 h4 f3 h5 f4) sz (fun r u => ((-3) ≤ r.toInt ∧ r.toInt ≤ 9) ∧ RG (u.2.1 2) 10 0 1023 ∧ (0 ≤ (u.2.1 3 0).toInt ∧ (u.2.1 3 0).toInt ≤ 0) ∧ True) (fun u => (wk_eecab3214 cy h0 (u.2.1 3 0) h1 w0 w1 w2 p2 p3 p4 p5 p6 p7 p8 p9 p10 p11 p12 h2 h3 w3 h4 w4 p13 p14 h5 w5 w6 p15 p16 w7 w8 w9 w10 w11 p17 w12 w13 w14 h1 f0 h2 (u.2.1 0) h3 (u.2.1 1) h4 (u.2.1 2) h5 (u.2.1 4))) 0 0 := by
  refine q_ent (own := RX12) (by decide) rfl (Nat.le_of_ble_eq_true rfl) (fun p e s m below meth c ls X hr hlk hnm hK hT h hA hl => ?_)
  obtain ⟨hx, hb, hml, hown, ht⟩ := id X
  replace hl : lv_has ls 9 [(0, .ref h0), (1, .int p0)] := hl
  refine lv_aload_n hx hb dX12_reserve_0 rfl (lv_at hl 0 rfl) ?_
  refine lv_iconst (v := 0) hx hb dX12_reserve_1 (by decide) ?_
  refine q_put (v := .int 0) X hK h 0 rfl rfl wf_12 tyX12 tyX12_ok nmX12 0 (by decide) wm_5_170 rfl rfl rfl (Nat.le_of_ble_eq_true rfl) dX12_reserve_2 (fun H locs h_1 => ?_)
  clear h
  replace h_1 : qW D _ _ (wk_eecab3214 cy h0 0 h1 w0 w1 w2 p2 p3 p4 p5 p6 p7 p8 p9 p10 p11 p12 h2 h3 w3 h4 w4 p13 p14 h5 w5 w6 p15 p16 w7 w8 w9 w10 w11 p17 w12 w13 w14 h1 f0 h2 f1 h3 f2 h4 f3 h5 f4) _ _ := h_1
  refine lv_aload_n hx hb dX12_reserve_5 rfl (lv_at hl 0 rfl) ?_
  refine lv_iload_n hx hb dX12_reserve_6 rfl (lv_at hl 1 rfl) ?_
  refine q_callVi (rest := []) (wr := (wk_1ed1fcc35 cy h2 f1 h3 f2 h4 f3 h5 f4)) X hK hT hA h_1 (fun sz => gX12_isSet_9166d70 l D cy h0 h1 p0 (0 : Int32) w0 w1 w2 p2 p3 p4 p5 p6 p7 p8 p9 p10 p11 p12 (.ref h2) (.ref h3) w3 (.ref h4) w4 p13 p14 (.ref h5) w5 w6 p15 p16 w7 w8 w9 w10 w11 p17 w12 w13 w14 f0 p18 (i_rng _) ⟨by decide +kernel, by decide +kernel⟩ hp2 hp3 hp4 hp5 (i_rng _) hp7 (i_rng _) (i_rng _) (i_rng _) (i_rng _) (i_rng _) (i_rng _) (i_rng _) (i_rng _) (i_rng _) (i_rng _) hp18 htf0_84 rf0 sz) wm_7_96 wm_7_99 wm_1_12 hd_X12_isSet wm_7_98 wp_7_1 (ci := 12) (q0 := 0) rfl rfl ⟨Nat.le_of_ble_eq_true rfl, Nat.le_of_ble_eq_true rfl⟩ hl.1 rfl (Nat.le_of_ble_eq_true rfl) dX12_reserve_7 ⟨Nat.le_of_ble_eq_true rfl, Nat.le_of_ble_eq_true rfl⟩ [0, 1] [2, 3, 4, 5] rfl rfl (by decide) rfl rfl (fun r_2 u_2 H locs w_2 h_2 => ?_)
  clear h_1
  obtain ⟨wr_2, y2_0, _⟩ := w_2
  replace h_2 : qW D _ _ (wk_143caa1ee cy h2 f1 h3 f2 h4 f3 h5 f4 h0 0 h1 w0 w1 w2 p2 p3 p4 p5 p6 p7 p8 p9 p10 p11 p12 h2 h3 w3 h4 w4 p13 p14 h5 w5 w6 p15 p16 w7 w8 w9 w10 w11 p17 w12 w13 w14 h1 f0) _ _ := h_2
  refine lv_if_ne (tgt := 16) hx hb dX12_reserve_10 (by decide) (fun c_3 => ?_) (fun c_3 => ?_)
  · replace c_3 := i_ne (x := r_2) (y := 0) rfl (show (0 : Int32).toInt = 0 by decide) c_3
    refine lv_aload_n hx hb dX12_reserve_16 rfl (lv_at hl 0 rfl) ?_
    refine q_callVv (rest := []) (wr := []) X hK hT hA h_2 (fun sz => gX12_laysNow_7e7bd2c l D cy h0 h1 h2 h3 h4 h5 (0 : Int32) w0 w1 w2 p2 p3 p4 p5 p6 p7 p8 p9 p10 p11 p12 w3 w4 p13 p14 w5 w6 p15 p16 w7 w8 w9 w10 w11 p17 w12 w13 w14 f0 p18 f1 f2 f3 f4 ⟨by decide +kernel, by decide +kernel⟩ hp2 hp3 hp4 hp5 (i_rng _) hp7 (i_rng _) (i_rng _) (i_rng _) (i_rng _) (i_rng _) (i_rng _) (i_rng _) (i_rng _) (i_rng _) (i_rng _) hp18 htf0_84 rf0 (rg_wide rf3 (by decide) (by decide)) sz) wm_7_55 wm_7_58 wm_1_12 hd_X12_laysNow wm_7_57 wp_6_11 (ci := 12) (q0 := 0) rfl rfl ⟨Nat.le_of_ble_eq_true rfl, Nat.le_of_ble_eq_true rfl⟩ hl.1 rfl (Nat.le_of_ble_eq_true rfl) dX12_reserve_17 ⟨Nat.le_of_ble_eq_true rfl, Nat.le_of_ble_eq_true rfl⟩ [4, 5, 0, 1, 2, 3] [] rfl rfl (by decide) rfl rfl (fun u_4 H locs w_4 h_4 => ?_)
    clear h_2
    obtain ⟨w4_0, _⟩ := w_4
    replace h_4 : qW D _ _ (wk_eecab3214 cy h0 0 h1 w0 w1 w2 p2 p3 p4 p5 p6 p7 p8 p9 p10 p11 p12 h2 h3 w3 h4 w4 p13 p14 h5 w5 w6 p15 p16 w7 w8 w9 w10 w11 p17 w12 w13 w14 h1 f0 h2 (u_4.2.1 0) h3 (u_4.2.1 1) h4 (u_4.2.1 2) h5 (u_4.2.1 3)) _ _ := h_4
    refine lv_aload_n hx hb dX12_reserve_20 rfl (lv_at hl 0 rfl) ?_
    refine q_callVi (rest := []) (wr := (wk_1ed1fcc35 cy h2 (u_4.2.1 0) h3 (u_4.2.1 1) h4 (u_4.2.1 2) h5 (u_4.2.1 3))) X hK hT hA h_4 (fun sz => gX12_townNow_2907b4b l D cy h0 h1 (0 : Int32) w0 w1 w2 p2 p3 p4 p5 p6 p7 p8 p9 p10 p11 p12 (.ref h2) (.ref h3) w3 (.ref h4) w4 p13 p14 (.ref h5) w5 w6 p15 p16 w7 w8 w9 w10 w11 p17 w12 w13 w14 f0 p18 ⟨by decide +kernel, by decide +kernel⟩ hp2 hp3 hp4 hp5 (i_rng _) hp7 (i_rng _) (i_rng _) (i_rng _) (i_rng _) (i_rng _) (i_rng _) (i_rng _) (i_rng _) (i_rng _) (i_rng _) hp18 htf0_84 rf0 sz) wm_6_170 wm_6_173 wm_1_12 hd_X12_townNow wm_6_172 wp_5_9 (ci := 12) (q0 := 0) rfl rfl ⟨Nat.le_of_ble_eq_true rfl, Nat.le_of_ble_eq_true rfl⟩ hl.1 rfl (Nat.le_of_ble_eq_true rfl) dX12_reserve_21 ⟨Nat.le_of_ble_eq_true rfl, Nat.le_of_ble_eq_true rfl⟩ [0, 1] [2, 3, 4, 5] rfl rfl (by decide) rfl rfl (fun r_5 u_5 H locs w_5 h_5 => ?_)
    clear h_4
    obtain ⟨wr_5, _⟩ := w_5
    replace h_5 : qW D _ _ (wk_143caa1ee cy h2 (u_4.2.1 0) h3 (u_4.2.1 1) h4 (u_4.2.1 2) h5 (u_4.2.1 3) h0 0 h1 w0 w1 w2 p2 p3 p4 p5 p6 p7 p8 p9 p10 p11 p12 h2 h3 w3 h4 w4 p13 p14 h5 w5 w6 p15 p16 w7 w8 w9 w10 w11 p17 w12 w13 w14 h1 f0) _ _ := h_5
    refine lv_iload_n hx hb dX12_reserve_24 rfl (lv_at hl 1 rfl) ?_
    refine lv_iconst (v := (-1)) hx hb dX12_reserve_25 (by decide) ?_
    refine lv_ixor hx hb dX12_reserve_26 ?_
    refine q_any (fun z_6 hz_6 => ?_)
    refine lv_iand hx hb dX12_reserve_27 ?_
    obtain ⟨z_7, ez_7, hz_7⟩ := e_and1 (x := r_5) (y := z_6) rfl (by omega)
    refine q_c z_7 ez_7 ?_
    clear ez_7
    refine lv_istore_n (lv' := [(2, .int z_7), (0, .ref h0), (1, .int p0)]) hx hb dX12_reserve_28 rfl hl (by decide) rfl (fun ls_8 hl_8 => ?_)
    clear hl
    refine lv_iconst (v := (-1)) hx hb dX12_reserve_29 (by decide) ?_
    refine lv_istore_n (lv' := [(3, .int (-1)), (2, .int z_7), (0, .ref h0), (1, .int p0)]) hx hb dX12_reserve_30 rfl hl_8 (by decide) rfl (fun ls_9 hl_9 => ?_)
    clear hl_8
    refine lv_ldc2 hx hb hown (ht _ wm_7_24) dX12_reserve_31 ?_
    refine lv_aload_n hx hb dX12_reserve_34 rfl (lv_at hl_9 2 rfl) ?_
    refine lv_iload_n hx hb dX12_reserve_35 rfl (lv_at hl_9 3 rfl) ?_
    refine q_callVl (rest := [.long 10]) (wr := (wk_ce6a1f133 cy h2 (u_4.2.1 0) h3 (u_4.2.1 1) h4 (u_4.2.1 2))) X hK hT hA h_5 (fun sz => gX12_chanceOf_39433c5 l D cy h0 h1 h5 p0 (0 : Int32) w0 w1 w2 p2 p3 p4 p5 p6 p7 p8 p9 p10 p11 p12 (.ref h2) (.ref h3) w3 (.ref h4) w4 p13 p14 w5 w6 p15 p16 w7 w8 w9 w10 w11 p17 w12 w13 w14 f0 p18 (u_4.2.1 3) ⟨by omega, by omega⟩ ⟨by decide +kernel, by decide +kernel⟩ hp2 hp3 hp4 hp5 (i_rng _) hp7 (i_rng _) (i_rng _) (i_rng _) (i_rng _) (i_rng _) (i_rng _) (i_rng _) (i_rng _) (i_rng _) (i_rng _) hp18 htf0_84 rf0 sz) wm_8_13 wm_8_16 wm_1_12 hd_X12_chanceOf wm_8_15 wp_8_3 (ci := 12) (q0 := 0) rfl rfl ⟨Nat.le_of_ble_eq_true rfl, Nat.le_of_ble_eq_true rfl⟩ hl_9.1 rfl (Nat.le_of_ble_eq_true rfl) dX12_reserve_36 ⟨Nat.le_of_ble_eq_true rfl, Nat.le_of_ble_eq_true rfl⟩ [4, 5, 3] [0, 1, 2] rfl rfl (by decide) rfl rfl (fun r_10 u_10 H locs w_10 h_10 => ?_)
    clear h_5
    obtain ⟨wr_10, _⟩ := w_10
    replace h_10 : qW D _ _ (wk_ae6db6c48 cy h2 (u_4.2.1 0) h3 (u_4.2.1 1) h4 (u_4.2.1 2) h0 0 h1 w0 w1 w2 p2 p3 p4 p5 p6 p7 p8 p9 p10 p11 p12 h2 h3 w3 h4 w4 p13 p14 h5 w5 w6 p15 p16 w7 w8 w9 w10 w11 p17 w12 w13 w14 h1 f0 h5 (u_4.2.1 3)) _ _ := h_10
    refine lv_lmul hx hb dX12_reserve_39 ?_
    refine q_anyJ (fun z_11 hz_11 => ?_)
    refine lv_lstore (lv' := [(4, .long z_11), (3, .int (-1)), (2, .int z_7), (0, .ref h0), (1, .int p0)]) hx hb dX12_reserve_40 hl_9 (by decide) rfl (fun ls_12 hl_12 => ?_)
    clear hl_9
    refine lv_iconst (v := 0) hx hb dX12_reserve_42 (by decide) ?_
    refine lv_istore (lv' := [(6, .int 0), (4, .long z_11), (3, .int (-1)), (2, .int z_7), (0, .ref h0), (1, .int p0)]) hx hb dX12_reserve_43 hl_12 (by decide) rfl (fun ls_13 hl_13 => ?_)
    clear hl_12
    refine q_wl (fun (q : Int32 × Int32 × Int64) H locs ls => match q with | (v45_14_0, v45_14_1, v45_14_2) => (0 ≤ (v45_14_0).toInt ∧ (v45_14_0).toInt ≤ 10) ∧ ((-1) ≤ (v45_14_1).toInt ∧ (v45_14_1).toInt ≤ 9) ∧ ((-9223372036854775808) ≤ (v45_14_2).toInt ∧ (v45_14_2).toInt ≤ 9223372036854775807) ∧ qW D (va_A (wk_eecab3214 cy h0 p1 h1 w0 w1 w2 p2 p3 p4 p5 p6 p7 p8 p9 p10 p11 p12 h2 h3 w3 h4 w4 p13 p14 h5 w5 w6 p15 p16 w7 w8 w9 w10 w11 p17 w12 w13 w14 h1 f0 h2 f1 h3 f2 h4 f3 h5 f4) sz) s.heap (wk_ae6db6c48 cy h2 (u_4.2.1 0) h3 (u_4.2.1 1) h4 (u_4.2.1 2) h0 0 h1 w0 w1 w2 p2 p3 p4 p5 p6 p7 p8 p9 p10 p11 p12 h2 h3 w3 h4 w4 p13 p14 h5 w5 w6 p15 p16 w7 w8 w9 w10 w11 p17 w12 w13 w14 h1 f0 h5 (u_4.2.1 3)) H locs ∧ lv_has ls 9 [(0, .ref h0), (1, .int p0), (2, .int z_7), (3, .int v45_14_1), (4, .long v45_14_2), (6, .int v45_14_0)]) (fun (q : Int32 × Int32 × Int64) => match q with | (v45_14_0, v45_14_1, v45_14_2) => (11 - (v45_14_0).toInt).toNat) (fun q_45 ih_45 H locs ls hP => ?_) (0, (-1), z_11) ⟨⟨by decide +kernel, by decide +kernel⟩, ⟨by decide +kernel, by decide +kernel⟩, ⟨by omega, by omega⟩, h_10, (lv_sub hl_13 [4, 5, 3, 2, 1, 0] rfl)⟩
    obtain ⟨v45_14_0, v45_14_1, v45_14_2⟩ := q_45
    obtain ⟨hv45_14_0, hv45_14_1, hv45_14_2, h, hl⟩ := hP
    refine lv_iload hx hb dX12_reserve_45 (lv_at hl 5 rfl) ?_
    refine lv_aload_n hx hb dX12_reserve_47 rfl (lv_at hl 0 rfl) ?_
    refine q_get X hK h 3 rfl rfl wf_12 1 (by decide) rfl wm_5_171 dX12_reserve_48 ?_
    refine lv_iconst (v := 2) hx hb dX12_reserve_51 (by decide) ?_
    refine q_iald X hK h 4 rfl (q_in (by decide +kernel)) dX12_reserve_52 ?_
    obtain ⟨z_15, ez_15, hz_15⟩ := al_P rf0 (x := 2) (show (2 : Int32).toInt = 2 by decide) (by omega) (by omega)
    refine q_c z_15 ez_15 ?_
    clear ez_15
    refine lv_icmp_ge (tgt := 108) hx hb dX12_reserve_53 (by decide) (fun c_16 => ?_) (fun c_16 => ?_)
    · replace c_16 := i_le (x := z_15) (y := v45_14_0) rfl rfl c_16
      refine lv_iload_n hx hb dX12_reserve_108 rfl (lv_at hl 3 rfl) ?_
      exact q_iret X hr hlk hK h rfl (fun _ => 0, (vcons (u_4.2.1 0) (vcons (u_4.2.1 1) (vcons (u_4.2.1 2) (vcons (fun _ => 0) (vcons (u_4.2.1 3) (fun _ => (fun _ => 0))))))), fun _ _ => 0) ⟨(bw hv45_14_1 (by decide) (by decide)), (rg_wide w4_0 (by decide) (by decide)), (⟨by decide +kernel, by decide +kernel⟩ : 0 ≤ (0 : Int32).toInt ∧ (0 : Int32).toInt ≤ 0), trivial⟩ [3, 4, 0, 1, 2, 5] rfl rfl dX12_reserve_109 (Nat.le_of_ble_eq_true rfl) (Nat.le_of_ble_eq_true rfl)
    · replace c_16 := i_nle (x := z_15) (y := v45_14_0) rfl rfl c_16
      refine lv_iload_n hx hb dX12_reserve_56 rfl (lv_at hl 2 rfl) ?_
      refine lv_i2l hx hb dX12_reserve_57 rfl ?_
      obtain ⟨z_17, ez_17, hz_17⟩ := e_i2l (x := z_7) rfl
      refine q_cl z_17 ez_17 ?_
      clear ez_17
      refine lv_iload hx hb dX12_reserve_58 (lv_at hl 5 rfl) ?_
      refine q_callSi (rest := []) (wr := (wk_ae6db6c48 cy h2 (u_4.2.1 0) h3 (u_4.2.1 1) h4 (u_4.2.1 2) h0 0 h1 w0 w1 w2 p2 p3 p4 p5 p6 p7 p8 p9 p10 p11 p12 h2 h3 w3 h4 w4 p13 p14 h5 w5 w6 p15 p16 w7 w8 w9 w10 w11 p17 w12 w13 w14 h1 f0 h5 (u_4.2.1 3))) X hK hT hA h (fun sz => gX12_isIn_b0455a8 l D cy z_17 v45_14_0 ⟨by omega, by omega⟩ ⟨by omega, by omega⟩ sz) wm_6_167 wm_6_169 wm_1_12 hd_X12_isIn wm_6_168 ⟨Nat.le_of_ble_eq_true rfl, Nat.le_of_ble_eq_true rfl⟩ hl.1 rfl (Nat.le_of_ble_eq_true rfl) dX12_reserve_60 ⟨Nat.le_of_ble_eq_true rfl, Nat.le_of_ble_eq_true rfl⟩ [] [0, 1, 2, 3, 4, 5] rfl rfl (by decide) rfl rfl (fun r_18 u_18 H locs w_18 h_18 => ?_)
      clear h
      obtain ⟨wr_18, _⟩ := w_18
      replace h_18 : qW D _ _ (wk_ae6db6c48 cy h2 (u_4.2.1 0) h3 (u_4.2.1 1) h4 (u_4.2.1 2) h0 0 h1 w0 w1 w2 p2 p3 p4 p5 p6 p7 p8 p9 p10 p11 p12 h2 h3 w3 h4 w4 p13 p14 h5 w5 w6 p15 p16 w7 w8 w9 w10 w11 p17 w12 w13 w14 h1 f0 h5 (u_4.2.1 3)) _ _ := h_18
      refine q_jn (pc2 := 82) (fun H locs ls st => ∃ v82_19_0 : Int64, ((-9223372036854775808) ≤ (v82_19_0).toInt ∧ (v82_19_0).toInt ≤ 9223372036854775807) ∧ st = [.long v82_19_0] ∧ qW D (va_A (wk_eecab3214 cy h0 p1 h1 w0 w1 w2 p2 p3 p4 p5 p6 p7 p8 p9 p10 p11 p12 h2 h3 w3 h4 w4 p13 p14 h5 w5 w6 p15 p16 w7 w8 w9 w10 w11 p17 w12 w13 w14 h1 f0 h2 f1 h3 f2 h4 f3 h5 f4) sz) s.heap (wk_ae6db6c48 cy h2 (u_4.2.1 0) h3 (u_4.2.1 1) h4 (u_4.2.1 2) h0 0 h1 w0 w1 w2 p2 p3 p4 p5 p6 p7 p8 p9 p10 p11 p12 h2 h3 w3 h4 w4 p13 p14 h5 w5 w6 p15 p16 w7 w8 w9 w10 w11 p17 w12 w13 w14 h1 f0 h5 (u_4.2.1 3)) H locs ∧ lv_has ls 9 [(0, .ref h0), (1, .int p0), (2, .int z_7), (3, .int v45_14_1), (4, .long v45_14_2), (6, .int v45_14_0)]) (fun H locs ls st hP => ?_) (fun J_82 => ?_)
      · obtain ⟨v82_19_0, hv82_19_0, rfl, h, hl⟩ := hP
        refine lv_lstore (lv' := [(7, .long v82_19_0), (0, .ref h0), (1, .int p0), (2, .int z_7), (3, .int v45_14_1), (4, .long v45_14_2), (6, .int v45_14_0)]) hx hb dX12_reserve_82 hl (by decide) rfl (fun ls_20 hl_20 => ?_)
        clear hl
        refine lv_lload hx hb dX12_reserve_84 (lv_at hl_20 0 rfl) ?_
        refine lv_lload hx hb dX12_reserve_86 (lv_at hl_20 5 rfl) ?_
        refine W.lcmp hx hb dX12_reserve_88 ?_
        refine q_jn (pc2 := 102) (fun H locs ls st => ∃ v102_21_0 : Int64, ∃ v102_21_1 : Int32, ((-9223372036854775808) ≤ (v102_21_0).toInt ∧ (v102_21_0).toInt ≤ 9223372036854775807) ∧ ((-1) ≤ (v102_21_1).toInt ∧ (v102_21_1).toInt ≤ 9) ∧ st = [] ∧ qW D (va_A (wk_eecab3214 cy h0 p1 h1 w0 w1 w2 p2 p3 p4 p5 p6 p7 p8 p9 p10 p11 p12 h2 h3 w3 h4 w4 p13 p14 h5 w5 w6 p15 p16 w7 w8 w9 w10 w11 p17 w12 w13 w14 h1 f0 h2 f1 h3 f2 h4 f3 h5 f4) sz) s.heap (wk_ae6db6c48 cy h2 (u_4.2.1 0) h3 (u_4.2.1 1) h4 (u_4.2.1 2) h0 0 h1 w0 w1 w2 p2 p3 p4 p5 p6 p7 p8 p9 p10 p11 p12 h2 h3 w3 h4 w4 p13 p14 h5 w5 w6 p15 p16 w7 w8 w9 w10 w11 p17 w12 w13 w14 h1 f0 h5 (u_4.2.1 3)) H locs ∧ lv_has ls 9 [(0, .ref h0), (1, .int p0), (2, .int z_7), (3, .int v102_21_1), (4, .long v102_21_0), (6, .int v45_14_0), (7, .long v82_19_0)]) (fun H locs ls st hP => ?_) (fun J_102 => ?_)
        · obtain ⟨v102_21_0, v102_21_1, hv102_21_0, hv102_21_1, rfl, h, hl⟩ := hP
          obtain ⟨z_22, ez_22, hz_22⟩ := e_add (x := v45_14_0) (y := Int32.ofInt 1) rfl (b := 1) (by decide) (by omega) (by omega)
          refine lv_iinc (v := z_22) (lv' := [(6, .int z_22), (0, .ref h0), (1, .int p0), (2, .int z_7), (3, .int v102_21_1), (4, .long v102_21_0), (7, .long v82_19_0)]) hx hb dX12_reserve_102 hl (k := 5) rfl ez_22 (by decide) rfl (fun ls_22 hl_22 => ?_)
          clear hl
          refine lv_goto (tgt := 45) hx hb dX12_reserve_105 (by decide) ?_
          exact ih_45 (z_22, v102_21_1, v102_21_0) (by show (11 - (z_22).toInt).toNat < (11 - (v45_14_0).toInt).toNat; omega) _ _ _ ⟨⟨by omega, by omega⟩, hv102_21_1, hv102_21_0, h, (lv_sub hl_22 [1, 2, 3, 4, 5, 0] rfl)⟩
        · skip
          refine lv_if_gt (tgt := 95) hx hb dX12_reserve_89 (by decide) (fun c_23 => ?_) (fun c_23 => ?_)
          · replace c_23 := j_gt (x := v82_19_0) (y := v45_14_2) rfl rfl c_23
            refine lv_iload hx hb dX12_reserve_95 (lv_at hl_20 6 rfl) ?_
            refine lv_istore_n (lv' := [(3, .int v45_14_0), (7, .long v82_19_0), (0, .ref h0), (1, .int p0), (2, .int z_7), (4, .long v45_14_2), (6, .int v45_14_0)]) hx hb dX12_reserve_97 rfl hl_20 (by decide) rfl (fun ls_24 hl_24 => ?_)
            clear hl_20
            refine lv_lload hx hb dX12_reserve_98 (lv_at hl_24 1 rfl) ?_
            refine lv_lstore (lv' := [(4, .long v82_19_0), (3, .int v45_14_0), (7, .long v82_19_0), (0, .ref h0), (1, .int p0), (2, .int z_7), (6, .int v45_14_0)]) hx hb dX12_reserve_100 hl_24 (by decide) rfl (fun ls_25 hl_25 => ?_)
            clear hl_24
            exact J_102 _ _ _ _ ⟨v82_19_0, v45_14_0, hv82_19_0, ⟨by omega, by omega⟩, rfl, h, (lv_sub hl_25 [3, 4, 5, 1, 0, 6, 2] rfl)⟩
          · replace c_23 := j_ngt (x := v82_19_0) (y := v45_14_2) rfl rfl c_23
            refine lv_goto (tgt := 102) hx hb dX12_reserve_92 (by decide) ?_
            exact J_102 _ _ _ _ ⟨v45_14_2, v45_14_1, hv45_14_2, hv45_14_1, rfl, h, (lv_sub hl_20 [1, 2, 3, 4, 5, 6, 0] rfl)⟩
      · skip
        refine lv_if_eq (tgt := 79) hx hb dX12_reserve_63 (by decide) (fun c_26 => ?_) (fun c_26 => ?_)
        · replace c_26 := i_eq (x := r_18) (y := 0) rfl (show (0 : Int32).toInt = 0 by decide) c_26
          refine lv_ldc2 hx hb hown (ht _ wm_7_42) dX12_reserve_79 ?_
          exact J_82 _ _ _ _ ⟨(-1), ⟨by decide +kernel, by decide +kernel⟩, rfl, h_18, (lv_sub hl [0, 1, 2, 3, 4, 5] rfl)⟩
        · replace c_26 := i_ne (x := r_18) (y := 0) rfl (show (0 : Int32).toInt = 0 by decide) c_26
          refine lv_aload_n hx hb dX12_reserve_66 rfl (lv_at hl 0 rfl) ?_
          refine lv_iload_n hx hb dX12_reserve_67 rfl (lv_at hl 1 rfl) ?_
          refine lv_iconst (v := 1) hx hb dX12_reserve_68 (by decide) ?_
          refine lv_iload hx hb dX12_reserve_69 (lv_at hl 5 rfl) ?_
          refine lv_ishl hx hb dX12_reserve_71 ?_
          obtain ⟨z_27, ez_27, hz_27⟩ := e_shlk (p := v45_14_0) 9 (by decide) rfl (by omega) (by omega)
          refine q_c z_27 ez_27 ?_
          clear ez_27
          refine lv_ior hx hb dX12_reserve_72 ?_
          obtain ⟨z_28, ez_28, hz_28⟩ := e_orm (x := p0) (y := z_27) 10 (by decide) rfl rfl (by omega) (by omega) (by omega) (by omega)
          refine q_c z_28 ez_28 ?_
          clear ez_28
          refine q_callVl (rest := []) (wr := (wk_ce6a1f133 cy h2 (u_4.2.1 0) h3 (u_4.2.1 1) h4 (u_4.2.1 2))) X hK hT hA h_18 (fun sz => gX12_chanceOf_39433c5 l D cy h0 h1 h5 z_28 (0 : Int32) w0 w1 w2 p2 p3 p4 p5 p6 p7 p8 p9 p10 p11 p12 (.ref h2) (.ref h3) w3 (.ref h4) w4 p13 p14 w5 w6 p15 p16 w7 w8 w9 w10 w11 p17 w12 w13 w14 f0 p18 (u_4.2.1 3) ⟨by omega, by omega⟩ ⟨by decide +kernel, by decide +kernel⟩ hp2 hp3 hp4 hp5 (i_rng _) hp7 (i_rng _) (i_rng _) (i_rng _) (i_rng _) (i_rng _) (i_rng _) (i_rng _) (i_rng _) (i_rng _) (i_rng _) hp18 htf0_84 rf0 sz) wm_8_13 wm_8_16 wm_1_12 hd_X12_chanceOf wm_8_15 wp_8_3 (ci := 12) (q0 := 0) rfl rfl ⟨Nat.le_of_ble_eq_true rfl, Nat.le_of_ble_eq_true rfl⟩ hl.1 rfl (Nat.le_of_ble_eq_true rfl) dX12_reserve_73 ⟨Nat.le_of_ble_eq_true rfl, Nat.le_of_ble_eq_true rfl⟩ [3, 4, 5] [0, 1, 2] rfl rfl (by decide) rfl rfl (fun r_29 u_29 H locs w_29 h_29 => ?_)
          clear h_18
          obtain ⟨wr_29, _⟩ := w_29
          replace h_29 : qW D _ _ (wk_ae6db6c48 cy h2 (u_4.2.1 0) h3 (u_4.2.1 1) h4 (u_4.2.1 2) h0 0 h1 w0 w1 w2 p2 p3 p4 p5 p6 p7 p8 p9 p10 p11 p12 h2 h3 w3 h4 w4 p13 p14 h5 w5 w6 p15 p16 w7 w8 w9 w10 w11 p17 w12 w13 w14 h1 f0 h5 (u_4.2.1 3)) _ _ := h_29
          refine lv_goto (tgt := 82) hx hb dX12_reserve_76 (by decide) ?_
          exact J_82 _ _ _ _ ⟨r_29, wr_29, rfl, h_29, (lv_sub hl [0, 1, 2, 3, 4, 5] rfl)⟩
  · replace c_3 := i_eq (x := r_2) (y := 0) rfl (show (0 : Int32).toInt = 0 by decide) c_3
    refine lv_bipush (v := (-3)) hx hb dX12_reserve_13 (by decide) ?_
    exact q_iret X hr hlk hK h_2 rfl (fun _ => 0, (vcons f1 (vcons f2 (vcons f3 (vcons (fun _ => 0) (vcons f4 (fun _ => (fun _ => 0))))))), fun _ _ => 0) ⟨⟨by decide +kernel, by decide +kernel⟩, (rg_wide rf3 (by decide) (by decide)), (⟨by decide +kernel, by decide +kernel⟩ : 0 ≤ (0 : Int32).toInt ∧ (0 : Int32).toInt ≤ 0), trivial⟩ [4, 5, 0, 1, 2, 3] rfl rfl dX12_reserve_15 (Nat.le_of_ble_eq_true rfl) (Nat.le_of_ble_eq_true rfl)
set_option maxHeartbeats 4000000 in
set_option maxRecDepth 100000 in
theorem gX12_numbers_2c4018e (l : Launch) (D : va_G) (cy : Nat → ClassId) (h0 : Nat) (h1 : Nat) (h2 : Nat) (h3 : Nat) (p0 : Int32) (p1 : Int32) (p2 : Int32) (p3 : Int32) (w0 : Value) (w1 : Value) (w2 : Value) (w3 : Value) (p4 : Int32) (p5 : Int32) (p6 : Int32) (p7 : Int32) (p8 : Int32) (p9 : Int32) (p10 : Int32) (p11 : Int32) (p12 : Int32) (p13 : Int32) (p14 : Int32) (w4 : Value) (w5 : Value) (w6 : Value) (w7 : Value) (w8 : Value) (p15 : Int32) (p16 : Int32) (w9 : Value) (w10 : Value) (w11 : Value) (p17 : Int32) (p18 : Int32) (w12 : Value) (w13 : Value) (w14 : Value) (w15 : Value) (w16 : Value) (p19 : Int32) (f0 : Nat → Int32) (f1 : Nat → Int32) (g0 : Nat → Int64) (hp0 : (-2147483648) ≤ (p0).toInt ∧ (p0).toInt ≤ 2147483647) (hp1 : (-2147483648) ≤ (p1).toInt ∧ (p1).toInt ≤ 2147483647) (hp2 : (-2147483648) ≤ (p2).toInt ∧ (p2).toInt ≤ 2147483647) (hp3 : (-2147483648) ≤ (p3).toInt ∧ (p3).toInt ≤ 2147483647) (hp4 : 0 ≤ (p4).toInt ∧ (p4).toInt ≤ 900) (hp5 : 0 ≤ (p5).toInt ∧ (p5).toInt ≤ 900) (hp6 : 0 ≤ (p6).toInt ∧ (p6).toInt ≤ 900) (hp7 : 0 ≤ (p7).toInt ∧ (p7).toInt ≤ 900) (hp8 : (-2147483648) ≤ (p8).toInt ∧ (p8).toInt ≤ 2147483647) (hp9 : 0 ≤ (p9).toInt ∧ (p9).toInt ≤ 999) (hp10 : (-2147483648) ≤ (p10).toInt ∧ (p10).toInt ≤ 2147483647) (hp11 : (-2147483648) ≤ (p11).toInt ∧ (p11).toInt ≤ 2147483647) (hp12 : (-2147483648) ≤ (p12).toInt ∧ (p12).toInt ≤ 2147483647) (hp13 : (-2147483648) ≤ (p13).toInt ∧ (p13).toInt ≤ 2147483647) (hp14 : (-2147483648) ≤ (p14).toInt ∧ (p14).toInt ≤ 2147483647) (hp15 : (-2147483648) ≤ (p15).toInt ∧ (p15).toInt ≤ 2147483647) (hp16 : (-2147483648) ≤ (p16).toInt ∧ (p16).toInt ≤ 2147483647) (hp17 : (-2147483648) ≤ (p17).toInt ∧ (p17).toInt ≤ 2147483647) (hp18 : (-2147483648) ≤ (p18).toInt ∧ (p18).toInt ≤ 2147483647) (hp19 : (-2147483648) ≤ (p19).toInt ∧ (p19).toInt ≤ 2147483647) (rf1 : RG f1 4 0 40) (sz : Nat) : MI l yX12_numbers cX12_numbers 5 .int { frames := 1, cells := 0, slots := 0, locals := 25 } [.ref h0, .int p0, .int p1, .int p2] D cy (wk_34f117831 cy h0 p3 w0 w1 w2 w3 p4 p5 p6 p7 p8 p9 p10 p11 p12 p13 p14 w4 w5 w6 w7 w8 p15 p16 w9 w10 w11 p17 p18 w12 w13 w14 w15 w16 p19 h1 h2 h3 h1 f0 h2 f1 h3 g0) sz (fun r u => ((-3) ≤ r.toInt ∧ r.toInt ≤ 0) ∧ (0 ≤ (u.2.1 0 0).toInt ∧ (u.2.1 0 0).toInt ≤ 0) ∧ RG (u.2.1 2) 4 0 40 ∧ True) (fun u => (wk_34f117831 cy h0 (u.2.1 0 0) w0 w1 w2 w3 p4 p5 p6 p7 p8 p9 p10 p11 p12 p13 p14 w4 w5 w6 w7 w8 p15 p16 w9 w10 w11 p17 p18 w12 w13 w14 w15 w16 p19 h1 h2 h3 h1 (u.2.1 1) h2 (u.2.1 2) h3 (u.2.2 0))) 0 0 := by
  refine q_ent (own := RX12) (by decide) rfl (Nat.le_of_ble_eq_true rfl) (fun p e s m below meth c ls X hr hlk hnm hK hT h hA hl => ?_)
  obtain ⟨hx, hb, hml, hown, ht⟩ := id X
  replace hl : lv_has ls 5 [(0, .ref h0), (1, .int p0), (2, .int p1), (3, .int p2)] := hl
  refine lv_aload_n hx hb dX12_numbers_0 rfl (lv_at hl 0 rfl) ?_
  refine lv_iconst (v := 0) hx hb dX12_numbers_1 (by decide) ?_
  refine q_put (v := .int 0) X hK h 0 rfl rfl wf_12 tyX12 tyX12_ok nmX12 0 (by decide) wm_5_170 rfl rfl rfl (Nat.le_of_ble_eq_true rfl) dX12_numbers_2 (fun H locs h_1 => ?_)
  clear h
  replace h_1 : qW D _ _ (wk_34f117831 cy h0 0 w0 w1 w2 w3 p4 p5 p6 p7 p8 p9 p10 p11 p12 p13 p14 w4 w5 w6 w7 w8 p15 p16 w9 w10 w11 p17 p18 w12 w13 w14 w15 w16 p19 h1 h2 h3 h1 f0 h2 f1 h3 g0) _ _ := h_1
  refine lv_iload_n hx hb dX12_numbers_5 rfl (lv_at hl 1 rfl) ?_
  refine lv_i2l hx hb dX12_numbers_6 rfl ?_
  obtain ⟨z_2, ez_2, hz_2⟩ := e_i2l (x := p0) rfl
  refine q_cl z_2 ez_2 ?_
  clear ez_2
  refine lv_lconst (v := 0) hx hb dX12_numbers_7 (by decide) ?_
  refine lv_ldc2 hx hb hown (ht _ wm_7_29) dX12_numbers_8 ?_
  refine q_callSi (rest := []) (wr := (wk_34f117831 cy h0 0 w0 w1 w2 w3 p4 p5 p6 p7 p8 p9 p10 p11 p12 p13 p14 w4 w5 w6 w7 w8 p15 p16 w9 w10 w11 p17 p18 w12 w13 w14 w15 w16 p19 h1 h2 h3 h1 f0 h2 f1 h3 g0)) X hK hT hA h_1 (fun sz => gX12_within_00c7897 l D cy z_2 (0 : Int64) (3 : Int64) (j_rng _) ⟨by decide +kernel, by decide +kernel⟩ ⟨by decide +kernel, by decide +kernel⟩ sz) wm_6_50 wm_6_52 wm_1_12 hd_X12_within wm_6_51 ⟨Nat.le_of_ble_eq_true rfl, Nat.le_of_ble_eq_true rfl⟩ hl.1 rfl (Nat.le_of_ble_eq_true rfl) dX12_numbers_11 ⟨Nat.le_of_ble_eq_true rfl, Nat.le_of_ble_eq_true rfl⟩ [] [0, 1, 2, 3] rfl rfl (by decide) rfl rfl (fun r_3 u_3 H locs w_3 h_3 => ?_)
  clear h_1
  obtain ⟨wr_3, y3_0, _⟩ := w_3
  have lq_3_1 : (0 : Int64).toInt = 0 := (by decide)
  have lq_3_2 : (3 : Int64).toInt = 3 := (by decide)
  replace h_3 : qW D _ _ (wk_34f117831 cy h0 0 w0 w1 w2 w3 p4 p5 p6 p7 p8 p9 p10 p11 p12 p13 p14 w4 w5 w6 w7 w8 p15 p16 w9 w10 w11 p17 p18 w12 w13 w14 w15 w16 p19 h1 h2 h3 h1 f0 h2 f1 h3 g0) _ _ := h_3
  refine q_jn (pc2 := 29) (fun H locs ls st => st = [] ∧ qW D (va_A (wk_34f117831 cy h0 p3 w0 w1 w2 w3 p4 p5 p6 p7 p8 p9 p10 p11 p12 p13 p14 w4 w5 w6 w7 w8 p15 p16 w9 w10 w11 p17 p18 w12 w13 w14 w15 w16 p19 h1 h2 h3 h1 f0 h2 f1 h3 g0) sz) s.heap (wk_34f117831 cy h0 0 w0 w1 w2 w3 p4 p5 p6 p7 p8 p9 p10 p11 p12 p13 p14 w4 w5 w6 w7 w8 p15 p16 w9 w10 w11 p17 p18 w12 w13 w14 w15 w16 p19 h1 h2 h3 h1 f0 h2 f1 h3 g0) H locs ∧ lv_has ls 5 [(0, .ref h0), (1, .int p0), (2, .int p1), (3, .int p2)]) (fun H locs ls st hP => ?_) (fun J_29 => ?_)
  · obtain ⟨rfl, h, hl⟩ := hP
    refine lv_bipush (v := (-2)) hx hb dX12_numbers_29 (by decide) ?_
    exact q_iret X hr hlk hK h rfl (fun _ => 0, (vcons (fun _ => 0) (vcons f0 (vcons f1 (fun _ => (fun _ => 0))))), (vcons g0 (fun _ => (fun _ => 0)))) ⟨⟨by decide +kernel, by decide +kernel⟩, (⟨by decide +kernel, by decide +kernel⟩ : 0 ≤ (0 : Int32).toInt ∧ (0 : Int32).toInt ≤ 0), (rg_wide rf1 (by decide) (by decide)), trivial⟩ [0, 1, 2, 3] rfl rfl dX12_numbers_31 (Nat.le_of_ble_eq_true rfl) (Nat.le_of_ble_eq_true rfl)
  · skip
    refine lv_if_eq (tgt := 29) hx hb dX12_numbers_14 (by decide) (fun c_5 => ?_) (fun c_5 => ?_)
    · replace c_5 := i_eq (x := r_3) (y := 0) rfl (show (0 : Int32).toInt = 0 by decide) c_5
      replace y3_0 := a10_0 y3_0 c_5
      exact J_29 _ _ _ _ ⟨rfl, h_3, (lv_sub hl [0, 1, 2, 3] rfl)⟩
    · replace c_5 := i_ne (x := r_3) (y := 0) rfl (show (0 : Int32).toInt = 0 by decide) c_5
      replace y3_0 := a10_1 y3_0 c_5
      refine lv_iload_n hx hb dX12_numbers_17 rfl (lv_at hl 2 rfl) ?_
      refine lv_i2l hx hb dX12_numbers_18 rfl ?_
      obtain ⟨z_6, ez_6, hz_6⟩ := e_i2l (x := p1) rfl
      refine q_cl z_6 ez_6 ?_
      clear ez_6
      refine lv_lconst (v := 0) hx hb dX12_numbers_19 (by decide) ?_
      refine lv_ldc2 hx hb hown (ht _ wm_7_29) dX12_numbers_20 ?_
      refine q_callSi (rest := []) (wr := (wk_34f117831 cy h0 0 w0 w1 w2 w3 p4 p5 p6 p7 p8 p9 p10 p11 p12 p13 p14 w4 w5 w6 w7 w8 p15 p16 w9 w10 w11 p17 p18 w12 w13 w14 w15 w16 p19 h1 h2 h3 h1 f0 h2 f1 h3 g0)) X hK hT hA h_3 (fun sz => gX12_within_00c7897 l D cy z_6 (0 : Int64) (3 : Int64) (j_rng _) ⟨by decide +kernel, by decide +kernel⟩ ⟨by decide +kernel, by decide +kernel⟩ sz) wm_6_50 wm_6_52 wm_1_12 hd_X12_within wm_6_51 ⟨Nat.le_of_ble_eq_true rfl, Nat.le_of_ble_eq_true rfl⟩ hl.1 rfl (Nat.le_of_ble_eq_true rfl) dX12_numbers_23 ⟨Nat.le_of_ble_eq_true rfl, Nat.le_of_ble_eq_true rfl⟩ [] [0, 1, 2, 3] rfl rfl (by decide) rfl rfl (fun r_7 u_7 H locs w_7 h_7 => ?_)
      clear h_3
      obtain ⟨wr_7, y7_0, _⟩ := w_7
      have lq_7_1 : (0 : Int64).toInt = 0 := (by decide)
      have lq_7_2 : (3 : Int64).toInt = 3 := (by decide)
      replace h_7 : qW D _ _ (wk_34f117831 cy h0 0 w0 w1 w2 w3 p4 p5 p6 p7 p8 p9 p10 p11 p12 p13 p14 w4 w5 w6 w7 w8 p15 p16 w9 w10 w11 p17 p18 w12 w13 w14 w15 w16 p19 h1 h2 h3 h1 f0 h2 f1 h3 g0) _ _ := h_7
      refine lv_if_ne (tgt := 32) hx hb dX12_numbers_26 (by decide) (fun c_8 => ?_) (fun c_8 => ?_)
      · replace c_8 := i_ne (x := r_7) (y := 0) rfl (show (0 : Int32).toInt = 0 by decide) c_8
        replace y7_0 := a10_1 y7_0 c_8
        refine lv_iload_n hx hb dX12_numbers_32 rfl (lv_at hl 3 rfl) ?_
        refine lv_i2l hx hb dX12_numbers_33 rfl ?_
        obtain ⟨z_9, ez_9, hz_9⟩ := e_i2l (x := p2) rfl
        refine q_cl z_9 ez_9 ?_
        clear ez_9
        refine lv_lconst (v := 0) hx hb dX12_numbers_34 (by decide) ?_
        refine lv_ldc2 hx hb hown (ht _ wm_7_82) dX12_numbers_35 ?_
        refine q_callSi (rest := []) (wr := (wk_34f117831 cy h0 0 w0 w1 w2 w3 p4 p5 p6 p7 p8 p9 p10 p11 p12 p13 p14 w4 w5 w6 w7 w8 p15 p16 w9 w10 w11 p17 p18 w12 w13 w14 w15 w16 p19 h1 h2 h3 h1 f0 h2 f1 h3 g0)) X hK hT hA h_7 (fun sz => gX12_within_00c7897 l D cy z_9 (0 : Int64) (40 : Int64) (j_rng _) ⟨by decide +kernel, by decide +kernel⟩ ⟨by decide +kernel, by decide +kernel⟩ sz) wm_6_50 wm_6_52 wm_1_12 hd_X12_within wm_6_51 ⟨Nat.le_of_ble_eq_true rfl, Nat.le_of_ble_eq_true rfl⟩ hl.1 rfl (Nat.le_of_ble_eq_true rfl) dX12_numbers_38 ⟨Nat.le_of_ble_eq_true rfl, Nat.le_of_ble_eq_true rfl⟩ [] [0, 1, 2, 3] rfl rfl (by decide) rfl rfl (fun r_10 u_10 H locs w_10 h_10 => ?_)
        clear h_7
        obtain ⟨wr_10, y10_0, _⟩ := w_10
        have lq_10_1 : (0 : Int64).toInt = 0 := (by decide)
        have lq_10_2 : (40 : Int64).toInt = 40 := (by decide)
        replace h_10 : qW D _ _ (wk_34f117831 cy h0 0 w0 w1 w2 w3 p4 p5 p6 p7 p8 p9 p10 p11 p12 p13 p14 w4 w5 w6 w7 w8 p15 p16 w9 w10 w11 p17 p18 w12 w13 w14 w15 w16 p19 h1 h2 h3 h1 f0 h2 f1 h3 g0) _ _ := h_10
        refine lv_if_ne (tgt := 47) hx hb dX12_numbers_41 (by decide) (fun c_11 => ?_) (fun c_11 => ?_)
        · replace c_11 := i_ne (x := r_10) (y := 0) rfl (show (0 : Int32).toInt = 0 by decide) c_11
          replace y10_0 := a10_1 y10_0 c_11
          refine lv_aload_n hx hb dX12_numbers_47 rfl (lv_at hl 0 rfl) ?_
          refine q_get X hK h_10 0 rfl rfl wf_12 34 (by decide) rfl wm_5_204 dX12_numbers_48 ?_
          refine lv_iload_n hx hb dX12_numbers_51 rfl (lv_at hl 1 rfl) ?_
          refine lv_iload_n hx hb dX12_numbers_52 rfl (lv_at hl 2 rfl) ?_
          refine q_iast X hK h_10 1 rfl (i_in rfl (by omega) (by omega)) dX12_numbers_53 (fun H locs h_13 => ?_)
          clear h_10
          replace h_13 : qW D _ _ (wk_34f117831 cy h0 0 w0 w1 w2 w3 p4 p5 p6 p7 p8 p9 p10 p11 p12 p13 p14 w4 w5 w6 w7 w8 p15 p16 w9 w10 w11 p17 p18 w12 w13 w14 w15 w16 p19 h1 h2 h3 h1 (upd f0 (Int32.toNatClampNeg p0) p1) h2 f1 h3 g0) _ _ := h_13
          obtain ⟨F_12, eF_12⟩ : ∃ z, (upd f0 (Int32.toNatClampNeg p0) p1) = z := ⟨_, rfl⟩
          rw [eF_12] at h_13
          clear eF_12
          refine lv_aload_n hx hb dX12_numbers_54 rfl (lv_at hl 0 rfl) ?_
          refine q_get X hK h_13 0 rfl rfl wf_12 35 (by decide) rfl wm_5_205 dX12_numbers_55 ?_
          refine lv_iload_n hx hb dX12_numbers_58 rfl (lv_at hl 1 rfl) ?_
          refine lv_iload_n hx hb dX12_numbers_59 rfl (lv_at hl 3 rfl) ?_
          refine q_iast X hK h_13 2 rfl (i_in rfl (by omega) (by omega)) dX12_numbers_60 (fun H locs h_15 => ?_)
          clear h_13
          replace h_15 : qW D _ _ (wk_34f117831 cy h0 0 w0 w1 w2 w3 p4 p5 p6 p7 p8 p9 p10 p11 p12 p13 p14 w4 w5 w6 w7 w8 p15 p16 w9 w10 w11 p17 p18 w12 w13 w14 w15 w16 p19 h1 h2 h3 h1 F_12 h2 (upd f1 (Int32.toNatClampNeg p0) p2) h3 g0) _ _ := h_15
          obtain ⟨F_14, eF_14, rF_14⟩ := rg_upd rf1 (Int32.toNatClampNeg p0) (x := p2) rfl (by omega) (by omega)
          rw [eF_14] at h_15
          clear eF_14
          refine lv_iconst (v := 0) hx hb dX12_numbers_61 (by decide) ?_
          refine lv_istore (lv' := [(4, .int 0), (0, .ref h0), (1, .int p0), (2, .int p1), (3, .int p2)]) hx hb dX12_numbers_62 hl (by decide) rfl (fun ls_16 hl_16 => ?_)
          clear hl
          refine q_wl (fun (v64_17_0 : Int32) H locs ls => ∃ v64_17_1 : Nat → Int64, (0 ≤ (v64_17_0).toInt ∧ (v64_17_0).toInt ≤ 40) ∧ qW D (va_A (wk_34f117831 cy h0 p3 w0 w1 w2 w3 p4 p5 p6 p7 p8 p9 p10 p11 p12 p13 p14 w4 w5 w6 w7 w8 p15 p16 w9 w10 w11 p17 p18 w12 w13 w14 w15 w16 p19 h1 h2 h3 h1 f0 h2 f1 h3 g0) sz) s.heap (wk_34f117831 cy h0 0 w0 w1 w2 w3 p4 p5 p6 p7 p8 p9 p10 p11 p12 p13 p14 w4 w5 w6 w7 w8 p15 p16 w9 w10 w11 p17 p18 w12 w13 w14 w15 w16 p19 h1 h2 h3 h1 F_12 h2 F_14 h3 v64_17_1) H locs ∧ lv_has ls 5 [(0, .ref h0), (1, .int p0), (2, .int p1), (3, .int p2), (4, .int v64_17_0)]) (fun (v64_17_0 : Int32) => (41 - (v64_17_0).toInt).toNat) (fun q_64 ih_64 H locs ls hP => ?_) 0 ⟨g0, ⟨by decide +kernel, by decide +kernel⟩, h_15, (lv_sub hl_16 [1, 2, 3, 4, 0] rfl)⟩
          obtain ⟨v64_17_0, rfl⟩ : ∃ z, z = q_64 := ⟨_, rfl⟩
          obtain ⟨v64_17_1, hv64_17_0, h, hl⟩ := hP
          refine lv_iload hx hb dX12_numbers_64 (lv_at hl 4 rfl) ?_
          refine lv_iload_n hx hb dX12_numbers_66 rfl (lv_at hl 3 rfl) ?_
          refine lv_icmp_ge (tgt := 89) hx hb dX12_numbers_67 (by decide) (fun c_18 => ?_) (fun c_18 => ?_)
          · replace c_18 := i_le (x := p2) (y := v64_17_0) rfl rfl c_18
            refine lv_iconst (v := 0) hx hb dX12_numbers_89 (by decide) ?_
            exact q_iret X hr hlk hK h rfl (fun _ => 0, (vcons (fun _ => 0) (vcons F_12 (vcons F_14 (fun _ => (fun _ => 0))))), (vcons v64_17_1 (fun _ => (fun _ => 0)))) ⟨⟨by decide +kernel, by decide +kernel⟩, (⟨by decide +kernel, by decide +kernel⟩ : 0 ≤ (0 : Int32).toInt ∧ (0 : Int32).toInt ≤ 0), (rg_wide rF_14 (by decide) (by decide)), trivial⟩ [0, 1, 2, 3] rfl rfl dX12_numbers_90 (Nat.le_of_ble_eq_true rfl) (Nat.le_of_ble_eq_true rfl)
          · replace c_18 := i_nle (x := p2) (y := v64_17_0) rfl rfl c_18
            refine lv_aload_n hx hb dX12_numbers_70 rfl (lv_at hl 0 rfl) ?_
            refine q_get X hK h 0 rfl rfl wf_12 36 (by decide) rfl wm_5_206 dX12_numbers_71 ?_
            refine lv_bipush (v := 40) hx hb dX12_numbers_74 (by decide) ?_
            refine lv_iload_n hx hb dX12_numbers_76 rfl (lv_at hl 1 rfl) ?_
            refine lv_imul hx hb dX12_numbers_77 ?_
            obtain ⟨z_19, ez_19, hz_19⟩ := e_mul (x := 40) (y := p0) (show (40 : Int32).toInt = 40 by decide) rfl (by omega) (by omega)
            refine q_c z_19 ez_19 ?_
            clear ez_19
            refine lv_iload hx hb dX12_numbers_78 (lv_at hl 4 rfl) ?_
            refine lv_iadd hx hb dX12_numbers_80 ?_
            obtain ⟨z_20, ez_20, hz_20⟩ := e_add (x := z_19) (y := v64_17_0) rfl rfl (by omega) (by omega)
            refine q_c z_20 ez_20 ?_
            clear ez_20
            refine lv_lconst (v := 0) hx hb dX12_numbers_81 (by decide) ?_
            refine q_last X hK h 3 rfl (i_in rfl (by omega) (by omega)) dX12_numbers_82 (fun H locs h_22 => ?_)
            clear h
            replace h_22 : qW D _ _ (wk_34f117831 cy h0 0 w0 w1 w2 w3 p4 p5 p6 p7 p8 p9 p10 p11 p12 p13 p14 w4 w5 w6 w7 w8 p15 p16 w9 w10 w11 p17 p18 w12 w13 w14 w15 w16 p19 h1 h2 h3 h1 F_12 h2 F_14 h3 (vp_updL v64_17_1 (Int32.toNatClampNeg z_20) 0)) _ _ := h_22
            obtain ⟨F_21, eF_21⟩ : ∃ z, (vp_updL v64_17_1 (Int32.toNatClampNeg z_20) 0) = z := ⟨_, rfl⟩
            rw [eF_21] at h_22
            clear eF_21
            obtain ⟨z_23, ez_23, hz_23⟩ := e_add (x := v64_17_0) (y := Int32.ofInt 1) rfl (b := 1) (by decide) (by omega) (by omega)
            refine lv_iinc (v := z_23) (lv' := [(4, .int z_23), (0, .ref h0), (1, .int p0), (2, .int p1), (3, .int p2)]) hx hb dX12_numbers_83 hl (k := 4) rfl ez_23 (by decide) rfl (fun ls_23 hl_23 => ?_)
            clear hl
            refine lv_goto (tgt := 64) hx hb dX12_numbers_86 (by decide) ?_
            exact ih_64 z_23 (by show (41 - (z_23).toInt).toNat < (41 - (v64_17_0).toInt).toNat; omega) _ _ _ ⟨F_21, ⟨by omega, by omega⟩, h_22, (lv_sub hl_23 [1, 2, 3, 4, 0] rfl)⟩
        · replace c_11 := i_eq (x := r_10) (y := 0) rfl (show (0 : Int32).toInt = 0 by decide) c_11
          replace y10_0 := a10_0 y10_0 c_11
          refine lv_bipush (v := (-3)) hx hb dX12_numbers_44 (by decide) ?_
          exact q_iret X hr hlk hK h_10 rfl (fun _ => 0, (vcons (fun _ => 0) (vcons f0 (vcons f1 (fun _ => (fun _ => 0))))), (vcons g0 (fun _ => (fun _ => 0)))) ⟨⟨by decide +kernel, by decide +kernel⟩, (⟨by decide +kernel, by decide +kernel⟩ : 0 ≤ (0 : Int32).toInt ∧ (0 : Int32).toInt ≤ 0), (rg_wide rf1 (by decide) (by decide)), trivial⟩ [0, 1, 2, 3] rfl rfl dX12_numbers_46 (Nat.le_of_ble_eq_true rfl) (Nat.le_of_ble_eq_true rfl)
      · replace c_8 := i_eq (x := r_7) (y := 0) rfl (show (0 : Int32).toInt = 0 by decide) c_8
        replace y7_0 := a10_0 y7_0 c_8
        exact J_29 _ _ _ _ ⟨rfl, h_7, (lv_sub hl [0, 1, 2, 3] rfl)⟩
set_option maxHeartbeats 4000000 in
set_option maxRecDepth 100000 in
theorem gX12_cut_22e574e (l : Launch) (D : va_G) (cy : Nat → ClassId) (j0 : Int64) (p0 : Int32) (hj0 : (-9223372036854775808) ≤ (j0).toInt ∧ (j0).toInt ≤ 9223372036854775807) (hp0 : (-2147483648) ≤ (p0).toInt ∧ (p0).toInt ≤ 2147483647) (sz : Nat) : ML l yX12_cut cX12_cut 3 { frames := 0, cells := 0, slots := 0, locals := 0 } [.long j0, .int p0] D cy [] sz (fun r u => ((-9223372036854775808) ≤ r.toInt ∧ r.toInt ≤ 9223372036854775807) ∧ True) (fun u => []) 0 0 := by
  refine q_ent (own := RX12) (by decide) rfl (Nat.le_of_ble_eq_true rfl) (fun p e s m below meth c ls X hr hlk hnm hK hT h hA hl => ?_)
  obtain ⟨hx, hb, hml, hown, ht⟩ := id X
  replace hl : lv_has ls 3 [(0, .long j0), (2, .int p0)] := hl
  refine lv_iload_n hx hb dX12_cut_0 rfl (lv_at hl 1 rfl) ?_
  refine q_jn (pc2 := 35) (fun H locs ls st => ∃ v35_1_0 : Int64, ((-9223372036854775808) ≤ (v35_1_0).toInt ∧ (v35_1_0).toInt ≤ 9223372036854775807) ∧ st = [.long v35_1_0] ∧ qW D (va_A [] sz) s.heap [] H locs ∧ lv_has ls 3 [(0, .long j0), (2, .int p0)]) (fun H locs ls st hP => ?_) (fun J_35 => ?_)
  · obtain ⟨v35_1_0, hv35_1_0, rfl, h, hl⟩ := hP
    exact q_lret X hr hlk hK h (fun _ => 0, fun _ _ => 0, fun _ _ => 0) ⟨hv35_1_0, trivial⟩ [] rfl rfl dX12_cut_35 (Nat.le_of_ble_eq_true rfl) (Nat.le_of_ble_eq_true rfl)
  · skip
    refine lv_if_ne (tgt := 11) hx hb dX12_cut_1 (by decide) (fun c_2 => ?_) (fun c_2 => ?_)
    · replace c_2 := i_ne (x := p0) (y := 0) rfl (show (0 : Int32).toInt = 0 by decide) c_2
      refine lv_iload_n hx hb dX12_cut_11 rfl (lv_at hl 1 rfl) ?_
      refine lv_iconst (v := 1) hx hb dX12_cut_12 (by decide) ?_
      refine lv_icmp_ne (tgt := 23) hx hb dX12_cut_13 (by decide) (fun c_3 => ?_) (fun c_3 => ?_)
      · replace c_3 := i_ne (x := p0) (y := 1) rfl (show (1 : Int32).toInt = 1 by decide) c_3
        refine lv_iload_n hx hb dX12_cut_23 rfl (lv_at hl 1 rfl) ?_
        refine lv_iconst (v := 2) hx hb dX12_cut_24 (by decide) ?_
        refine lv_icmp_ne (tgt := 34) hx hb dX12_cut_25 (by decide) (fun c_4 => ?_) (fun c_4 => ?_)
        · replace c_4 := i_ne (x := p0) (y := 2) rfl (show (2 : Int32).toInt = 2 by decide) c_4
          refine lv_lload_n hx hb dX12_cut_34 rfl (lv_at hl 0 rfl) ?_
          exact J_35 _ _ _ _ ⟨j0, hj0, rfl, h, (lv_sub hl [0, 1] rfl)⟩
        · replace c_4 := i_eq (x := p0) (y := 2) rfl (show (2 : Int32).toInt = 2 by decide) c_4
          refine lv_lload_n hx hb dX12_cut_28 rfl (lv_at hl 0 rfl) ?_
          refine lv_l2i hx hb dX12_cut_29 rfl ?_
          refine q_any (fun z_5 hz_5 => ?_)
          refine lv_i2l hx hb dX12_cut_30 rfl ?_
          obtain ⟨z_6, ez_6, hz_6⟩ := e_i2l (x := z_5) rfl
          refine q_cl z_6 ez_6 ?_
          clear ez_6
          refine lv_goto (tgt := 35) hx hb dX12_cut_31 (by decide) ?_
          exact J_35 _ _ _ _ ⟨z_6, ⟨by omega, by omega⟩, rfl, h, (lv_sub hl [0, 1] rfl)⟩
      · replace c_3 := i_eq (x := p0) (y := 1) rfl (show (1 : Int32).toInt = 1 by decide) c_3
        refine lv_lload_n hx hb dX12_cut_16 rfl (lv_at hl 0 rfl) ?_
        refine lv_l2i hx hb dX12_cut_17 rfl ?_
        refine q_any (fun z_7 hz_7 => ?_)
        refine lv_i2s hx hb dX12_cut_18 rfl ?_
        refine q_any (fun z_8 hz_8 => ?_)
        refine lv_i2l hx hb dX12_cut_19 rfl ?_
        obtain ⟨z_9, ez_9, hz_9⟩ := e_i2l (x := z_8) rfl
        refine q_cl z_9 ez_9 ?_
        clear ez_9
        refine lv_goto (tgt := 35) hx hb dX12_cut_20 (by decide) ?_
        exact J_35 _ _ _ _ ⟨z_9, ⟨by omega, by omega⟩, rfl, h, (lv_sub hl [0, 1] rfl)⟩
    · replace c_2 := i_eq (x := p0) (y := 0) rfl (show (0 : Int32).toInt = 0 by decide) c_2
      refine lv_lload_n hx hb dX12_cut_4 rfl (lv_at hl 0 rfl) ?_
      refine lv_l2i hx hb dX12_cut_5 rfl ?_
      refine q_any (fun z_10 hz_10 => ?_)
      refine lv_i2b hx hb dX12_cut_6 rfl ?_
      obtain ⟨z_11, ez_11, hz_11⟩ := e_i2b z_10
      refine q_c z_11 ez_11 ?_
      clear ez_11
      refine lv_i2l hx hb dX12_cut_7 rfl ?_
      obtain ⟨z_12, ez_12, hz_12⟩ := e_i2l (x := z_11) rfl
      refine q_cl z_12 ez_12 ?_
      clear ez_12
      refine lv_goto (tgt := 35) hx hb dX12_cut_8 (by decide) ?_
      exact J_35 _ _ _ _ ⟨z_12, ⟨by omega, by omega⟩, rfl, h, (lv_sub hl [0, 1] rfl)⟩
set_option maxHeartbeats 4000000 in
set_option maxRecDepth 100000 in
theorem gX12_write_c099510 (l : Launch) (D : va_G) (cy : Nat → ClassId) (h0 : Nat) (h1 : Nat) (h2 : Nat) (h3 : Nat) (p0 : Int32) (p1 : Int32) (j0 : Int64) (p2 : Int32) (w0 : Value) (w1 : Value) (w2 : Value) (w3 : Value) (p3 : Int32) (p4 : Int32) (p5 : Int32) (p6 : Int32) (p7 : Int32) (p8 : Int32) (p9 : Int32) (p10 : Int32) (p11 : Int32) (p12 : Int32) (p13 : Int32) (w4 : Value) (w5 : Value) (w6 : Value) (w7 : Value) (w8 : Value) (p14 : Int32) (p15 : Int32) (w9 : Value) (w10 : Value) (w11 : Value) (p16 : Int32) (p17 : Int32) (w12 : Value) (w13 : Value) (w14 : Value) (w15 : Value) (w16 : Value) (p18 : Int32) (f0 : Nat → Int32) (f1 : Nat → Int32) (g0 : Nat → Int64) (hp0 : (-2147483648) ≤ (p0).toInt ∧ (p0).toInt ≤ 2147483647) (hp1 : (-2147483648) ≤ (p1).toInt ∧ (p1).toInt ≤ 2147483647) (hj0 : (-9223372036854775808) ≤ (j0).toInt ∧ (j0).toInt ≤ 9223372036854775807) (hp2 : (-2147483648) ≤ (p2).toInt ∧ (p2).toInt ≤ 2147483647) (hp3 : 0 ≤ (p3).toInt ∧ (p3).toInt ≤ 900) (hp4 : 0 ≤ (p4).toInt ∧ (p4).toInt ≤ 900) (hp5 : 0 ≤ (p5).toInt ∧ (p5).toInt ≤ 900) (hp6 : 0 ≤ (p6).toInt ∧ (p6).toInt ≤ 900) (hp7 : (-2147483648) ≤ (p7).toInt ∧ (p7).toInt ≤ 2147483647) (hp8 : 0 ≤ (p8).toInt ∧ (p8).toInt ≤ 999) (hp9 : (-2147483648) ≤ (p9).toInt ∧ (p9).toInt ≤ 2147483647) (hp10 : (-2147483648) ≤ (p10).toInt ∧ (p10).toInt ≤ 2147483647) (hp11 : (-2147483648) ≤ (p11).toInt ∧ (p11).toInt ≤ 2147483647) (hp12 : (-2147483648) ≤ (p12).toInt ∧ (p12).toInt ≤ 2147483647) (hp13 : (-2147483648) ≤ (p13).toInt ∧ (p13).toInt ≤ 2147483647) (hp14 : (-2147483648) ≤ (p14).toInt ∧ (p14).toInt ≤ 2147483647) (hp15 : (-2147483648) ≤ (p15).toInt ∧ (p15).toInt ≤ 2147483647) (hp16 : (-2147483648) ≤ (p16).toInt ∧ (p16).toInt ≤ 2147483647) (hp17 : (-2147483648) ≤ (p17).toInt ∧ (p17).toInt ≤ 2147483647) (hp18 : (-2147483648) ≤ (p18).toInt ∧ (p18).toInt ≤ 2147483647) (rf1 : RG f1 4 0 40) (sz : Nat) : ML l yX12_write cX12_write 6 { frames := 2, cells := 0, slots := 0, locals := 46 } [.ref h0, .int p0, .int p1, .long j0] D cy (wk_34f117831 cy h0 p2 w0 w1 w2 w3 p3 p4 p5 p6 p7 p8 p9 p10 p11 p12 p13 w4 w5 w6 w7 w8 p14 p15 w9 w10 w11 p16 p17 w12 w13 w14 w15 w16 p18 h1 h2 h3 h1 f0 h2 f1 h3 g0) sz (fun r u => ((-9223372036854775808) ≤ r.toInt ∧ r.toInt ≤ 9223372036854775807) ∧ (0 ≤ (u.2.1 0 0).toInt ∧ (u.2.1 0 0).toInt ≤ 0) ∧ True) (fun u => (wk_34f117831 cy h0 (u.2.1 0 0) w0 w1 w2 w3 p3 p4 p5 p6 p7 p8 p9 p10 p11 p12 p13 w4 w5 w6 w7 w8 p14 p15 w9 w10 w11 p16 p17 w12 w13 w14 w15 w16 p18 h1 h2 h3 h1 f0 h2 f1 h3 (u.2.2 0))) 0 0 := by
  refine q_ent (own := RX12) (by decide) rfl (Nat.le_of_ble_eq_true rfl) (fun p e s m below meth c ls X hr hlk hnm hK hT h hA hl => ?_)
  obtain ⟨hx, hb, hml, hown, ht⟩ := id X
  replace hl : lv_has ls 6 [(0, .ref h0), (1, .int p0), (2, .int p1), (3, .long j0)] := hl
  refine lv_aload_n hx hb dX12_write_0 rfl (lv_at hl 0 rfl) ?_
  refine lv_iconst (v := 0) hx hb dX12_write_1 (by decide) ?_
  refine q_put (v := .int 0) X hK h 0 rfl rfl wf_12 tyX12 tyX12_ok nmX12 0 (by decide) wm_5_170 rfl rfl rfl (Nat.le_of_ble_eq_true rfl) dX12_write_2 (fun H locs h_1 => ?_)
  clear h
  replace h_1 : qW D _ _ (wk_34f117831 cy h0 0 w0 w1 w2 w3 p3 p4 p5 p6 p7 p8 p9 p10 p11 p12 p13 w4 w5 w6 w7 w8 p14 p15 w9 w10 w11 p16 p17 w12 w13 w14 w15 w16 p18 h1 h2 h3 h1 f0 h2 f1 h3 g0) _ _ := h_1
  refine lv_aload_n hx hb dX12_write_5 rfl (lv_at hl 0 rfl) ?_
  refine lv_iload_n hx hb dX12_write_6 rfl (lv_at hl 1 rfl) ?_
  refine q_callVi (rest := []) (wr := (wk_f48cbbbc0 cy h2 f1 h3 g0)) X hK hT hA h_1 (fun sz => gX12_noTray_c6f52ea l D cy h0 h1 p0 (0 : Int32) w0 w1 w2 w3 p3 p4 p5 p6 p7 p8 p9 p10 p11 p12 p13 w4 w5 w6 w7 w8 p14 p15 w9 w10 w11 p16 p17 w12 w13 w14 w15 w16 p18 (.ref h2) (.ref h3) f0 (i_rng _) ⟨by decide +kernel, by decide +kernel⟩ hp3 hp4 hp5 hp6 (i_rng _) hp8 (i_rng _) (i_rng _) (i_rng _) (i_rng _) (i_rng _) (i_rng _) (i_rng _) (i_rng _) (i_rng _) (i_rng _) sz) wm_7_30 wm_7_33 wm_1_12 hd_X12_noTray wm_7_32 wp_6_6 (ci := 12) (q0 := 0) rfl rfl ⟨Nat.le_of_ble_eq_true rfl, Nat.le_of_ble_eq_true rfl⟩ hl.1 rfl (Nat.le_of_ble_eq_true rfl) dX12_write_7 ⟨Nat.le_of_ble_eq_true rfl, Nat.le_of_ble_eq_true rfl⟩ [0, 1] [2, 3] rfl rfl (by decide) rfl rfl (fun r_2 u_2 H locs w_2 h_2 => ?_)
  clear h_1
  obtain ⟨wr_2, y2_0, _⟩ := w_2
  replace h_2 : qW D _ _ (wk_2871eb639 cy h2 f1 h3 g0 h0 0 w0 w1 w2 w3 p3 p4 p5 p6 p7 p8 p9 p10 p11 p12 p13 w4 w5 w6 w7 w8 p14 p15 w9 w10 w11 p16 p17 w12 w13 w14 w15 w16 p18 h1 h2 h3 h1 f0) _ _ := h_2
  refine lv_istore (lv' := [(5, .int r_2), (0, .ref h0), (1, .int p0), (2, .int p1), (3, .long j0)]) hx hb dX12_write_10 hl (by decide) rfl (fun ls_3 hl_3 => ?_)
  clear hl
  refine lv_iload hx hb dX12_write_12 (lv_at hl_3 0 rfl) ?_
  refine lv_if_eq (tgt := 21) hx hb dX12_write_14 (by decide) (fun c_4 => ?_) (fun c_4 => ?_)
  · replace c_4 := i_eq (x := r_2) (y := 0) rfl (show (0 : Int32).toInt = 0 by decide) c_4
    refine lv_iload_n hx hb dX12_write_21 rfl (lv_at hl_3 3 rfl) ?_
    refine lv_i2l hx hb dX12_write_22 rfl ?_
    obtain ⟨z_5, ez_5, hz_5⟩ := e_i2l (x := p1) rfl
    refine q_cl z_5 ez_5 ?_
    clear ez_5
    refine lv_lconst (v := 0) hx hb dX12_write_23 (by decide) ?_
    refine lv_aload_n hx hb dX12_write_24 rfl (lv_at hl_3 1 rfl) ?_
    refine q_get X hK h_2 2 rfl rfl wf_12 35 (by decide) rfl wm_5_205 dX12_write_25 ?_
    refine lv_iload_n hx hb dX12_write_28 rfl (lv_at hl_3 2 rfl) ?_
    refine q_iald X hK h_2 0 rfl (i_in rfl (by omega) (by omega)) dX12_write_29 ?_
    obtain ⟨z_6, ez_6, hz_6⟩ := rg_get rf1 (x := p0) rfl (by omega) (by omega)
    refine q_c z_6 ez_6 ?_
    clear ez_6
    refine lv_iconst (v := 1) hx hb dX12_write_30 (by decide) ?_
    refine lv_isub hx hb dX12_write_31 ?_
    obtain ⟨z_7, ez_7, hz_7⟩ := e_sub (x := z_6) (y := 1) rfl (show (1 : Int32).toInt = 1 by decide) (by omega) (by omega)
    refine q_c z_7 ez_7 ?_
    clear ez_7
    refine lv_i2l hx hb dX12_write_32 rfl ?_
    obtain ⟨z_8, ez_8, hz_8⟩ := e_i2l (x := z_7) rfl
    refine q_cl z_8 ez_8 ?_
    clear ez_8
    refine q_callSi (rest := []) (wr := (wk_2871eb639 cy h2 f1 h3 g0 h0 0 w0 w1 w2 w3 p3 p4 p5 p6 p7 p8 p9 p10 p11 p12 p13 w4 w5 w6 w7 w8 p14 p15 w9 w10 w11 p16 p17 w12 w13 w14 w15 w16 p18 h1 h2 h3 h1 f0)) X hK hT hA h_2 (fun sz => gX12_within_00c7897 l D cy z_5 (0 : Int64) z_8 (j_rng _) ⟨by decide +kernel, by decide +kernel⟩ ⟨by omega, by omega⟩ sz) wm_6_50 wm_6_52 wm_1_12 hd_X12_within wm_6_51 ⟨Nat.le_of_ble_eq_true rfl, Nat.le_of_ble_eq_true rfl⟩ hl_3.1 rfl (Nat.le_of_ble_eq_true rfl) dX12_write_33 ⟨Nat.le_of_ble_eq_true rfl, Nat.le_of_ble_eq_true rfl⟩ [] [0, 1, 2, 3] rfl rfl (by decide) rfl rfl (fun r_9 u_9 H locs w_9 h_9 => ?_)
    clear h_2
    obtain ⟨wr_9, y9_0, _⟩ := w_9
    have lq_9_1 : (0 : Int64).toInt = 0 := (by decide)
    replace h_9 : qW D _ _ (wk_2871eb639 cy h2 f1 h3 g0 h0 0 w0 w1 w2 w3 p3 p4 p5 p6 p7 p8 p9 p10 p11 p12 p13 w4 w5 w6 w7 w8 p14 p15 w9 w10 w11 p16 p17 w12 w13 w14 w15 w16 p18 h1 h2 h3 h1 f0) _ _ := h_9
    refine lv_if_ne (tgt := 43) hx hb dX12_write_36 (by decide) (fun c_10 => ?_) (fun c_10 => ?_)
    · replace c_10 := i_ne (x := r_9) (y := 0) rfl (show (0 : Int32).toInt = 0 by decide) c_10
      replace y9_0 := a10_1 y9_0 c_10
      refine lv_aload_n hx hb dX12_write_43 rfl (lv_at hl_3 1 rfl) ?_
      refine q_get X hK h_9 2 rfl rfl wf_12 36 (by decide) rfl wm_5_206 dX12_write_44 ?_
      refine lv_bipush (v := 40) hx hb dX12_write_47 (by decide) ?_
      refine lv_iload_n hx hb dX12_write_49 rfl (lv_at hl_3 2 rfl) ?_
      refine lv_imul hx hb dX12_write_50 ?_
      obtain ⟨z_11, ez_11, hz_11⟩ := e_mul (x := 40) (y := p0) (show (40 : Int32).toInt = 40 by decide) rfl (by omega) (by omega)
      refine q_c z_11 ez_11 ?_
      clear ez_11
      refine lv_iload_n hx hb dX12_write_51 rfl (lv_at hl_3 3 rfl) ?_
      refine lv_iadd hx hb dX12_write_52 ?_
      obtain ⟨z_12, ez_12, hz_12⟩ := e_add (x := z_11) (y := p1) rfl rfl (by omega) (by omega)
      refine q_c z_12 ez_12 ?_
      clear ez_12
      refine lv_lload_n hx hb dX12_write_53 rfl (lv_at hl_3 4 rfl) ?_
      refine lv_aload_n hx hb dX12_write_54 rfl (lv_at hl_3 1 rfl) ?_
      refine q_get X hK h_9 2 rfl rfl wf_12 34 (by decide) rfl wm_5_204 dX12_write_55 ?_
      refine lv_iload_n hx hb dX12_write_58 rfl (lv_at hl_3 2 rfl) ?_
      refine q_iald X hK h_9 3 rfl (i_in rfl (by omega) (by omega)) dX12_write_59 ?_
      refine q_any (fun z_13 hz_13 => ?_)
      refine q_callSl (rest := [.int z_12, .ref h3]) (wr := (wk_2871eb639 cy h2 f1 h3 g0 h0 0 w0 w1 w2 w3 p3 p4 p5 p6 p7 p8 p9 p10 p11 p12 p13 w4 w5 w6 w7 w8 p14 p15 w9 w10 w11 p16 p17 w12 w13 w14 w15 w16 p18 h1 h2 h3 h1 f0)) X hK hT hA h_9 (fun sz => gX12_cut_22e574e l D cy j0 z_13 (j_rng _) (i_rng _) sz) wm_8_36 wm_8_38 wm_1_12 hd_X12_cut wm_8_37 ⟨Nat.le_of_ble_eq_true rfl, Nat.le_of_ble_eq_true rfl⟩ hl_3.1 rfl (Nat.le_of_ble_eq_true rfl) dX12_write_60 ⟨Nat.le_of_ble_eq_true rfl, Nat.le_of_ble_eq_true rfl⟩ [] [0, 1, 2, 3] rfl rfl (by decide) rfl rfl (fun r_14 u_14 H locs w_14 h_14 => ?_)
      clear h_9
      obtain ⟨wr_14, _⟩ := w_14
      replace h_14 : qW D _ _ (wk_2871eb639 cy h2 f1 h3 g0 h0 0 w0 w1 w2 w3 p3 p4 p5 p6 p7 p8 p9 p10 p11 p12 p13 w4 w5 w6 w7 w8 p14 p15 w9 w10 w11 p16 p17 w12 w13 w14 w15 w16 p18 h1 h2 h3 h1 f0) _ _ := h_14
      refine q_last X hK h_14 1 rfl (i_in rfl (by omega) (by omega)) dX12_write_63 (fun H locs h_16 => ?_)
      clear h_14
      replace h_16 : qW D _ _ (wk_2871eb639 cy h2 f1 h3 (vp_updL g0 (Int32.toNatClampNeg z_12) r_14) h0 0 w0 w1 w2 w3 p3 p4 p5 p6 p7 p8 p9 p10 p11 p12 p13 w4 w5 w6 w7 w8 p14 p15 w9 w10 w11 p16 p17 w12 w13 w14 w15 w16 p18 h1 h2 h3 h1 f0) _ _ := h_16
      obtain ⟨F_15, eF_15⟩ : ∃ z, (vp_updL g0 (Int32.toNatClampNeg z_12) r_14) = z := ⟨_, rfl⟩
      rw [eF_15] at h_16
      clear eF_15
      refine lv_aload_n hx hb dX12_write_64 rfl (lv_at hl_3 1 rfl) ?_
      refine q_get X hK h_16 2 rfl rfl wf_12 36 (by decide) rfl wm_5_206 dX12_write_65 ?_
      refine lv_bipush (v := 40) hx hb dX12_write_68 (by decide) ?_
      refine lv_iload_n hx hb dX12_write_70 rfl (lv_at hl_3 2 rfl) ?_
      refine lv_imul hx hb dX12_write_71 ?_
      obtain ⟨z_17, ez_17, hz_17⟩ := e_mul (x := 40) (y := p0) (show (40 : Int32).toInt = 40 by decide) rfl (by omega) (by omega)
      refine q_c z_17 ez_17 ?_
      clear ez_17
      refine lv_iload_n hx hb dX12_write_72 rfl (lv_at hl_3 3 rfl) ?_
      refine lv_iadd hx hb dX12_write_73 ?_
      obtain ⟨z_18, ez_18, hz_18⟩ := e_add (x := z_17) (y := p1) rfl rfl (by omega) (by omega)
      refine q_c z_18 ez_18 ?_
      clear ez_18
      refine q_lald X hK h_16 1 rfl (i_in rfl (by omega) (by omega)) dX12_write_74 ?_
      refine q_anyJ (fun z_19 hz_19 => ?_)
      exact q_lret X hr hlk hK h_16 (fun _ => 0, (vcons (fun _ => 0) (fun _ => (fun _ => 0))), (vcons F_15 (fun _ => (fun _ => 0)))) ⟨⟨by omega, by omega⟩, (⟨by decide +kernel, by decide +kernel⟩ : 0 ≤ (0 : Int32).toInt ∧ (0 : Int32).toInt ≤ 0), trivial⟩ [2, 3, 0, 1] rfl rfl dX12_write_75 (Nat.le_of_ble_eq_true rfl) (Nat.le_of_ble_eq_true rfl)
    · replace c_10 := i_eq (x := r_9) (y := 0) rfl (show (0 : Int32).toInt = 0 by decide) c_10
      replace y9_0 := a10_0 y9_0 c_10
      refine lv_ldc2 hx hb hown (ht _ wm_8_35) dX12_write_39 ?_
      exact q_lret X hr hlk hK h_9 (fun _ => 0, (vcons (fun _ => 0) (fun _ => (fun _ => 0))), (vcons g0 (fun _ => (fun _ => 0)))) ⟨⟨by decide +kernel, by decide +kernel⟩, (⟨by decide +kernel, by decide +kernel⟩ : 0 ≤ (0 : Int32).toInt ∧ (0 : Int32).toInt ≤ 0), trivial⟩ [2, 3, 0, 1] rfl rfl dX12_write_42 (Nat.le_of_ble_eq_true rfl) (Nat.le_of_ble_eq_true rfl)
  · replace c_4 := i_ne (x := r_2) (y := 0) rfl (show (0 : Int32).toInt = 0 by decide) c_4
    refine lv_iload hx hb dX12_write_17 (lv_at hl_3 0 rfl) ?_
    refine lv_i2l hx hb dX12_write_19 rfl ?_
    obtain ⟨z_20, ez_20, hz_20⟩ := e_i2l (x := r_2) rfl
    refine q_cl z_20 ez_20 ?_
    clear ez_20
    exact q_lret X hr hlk hK h_2 (fun _ => 0, (vcons (fun _ => 0) (fun _ => (fun _ => 0))), (vcons g0 (fun _ => (fun _ => 0)))) ⟨⟨by omega, by omega⟩, (⟨by decide +kernel, by decide +kernel⟩ : 0 ≤ (0 : Int32).toInt ∧ (0 : Int32).toInt ≤ 0), trivial⟩ [2, 3, 0, 1] rfl rfl dX12_write_20 (Nat.le_of_ble_eq_true rfl) (Nat.le_of_ble_eq_true rfl)
set_option maxHeartbeats 4000000 in
set_option maxRecDepth 100000 in
theorem gX12_lists_0d6c489 (l : Launch) (D : va_G) (cy : Nat → ClassId) (h0 : Nat) (h1 : Nat) (h2 : Nat) (h3 : Nat) (h4 : Nat) (h5 : Nat) (h6 : Nat) (h7 : Nat) (h8 : Nat) (h9 : Nat) (h10 : Nat) (h11 : Nat) (h12 : Nat) (p0 : Int32) (p1 : Int32) (p2 : Int32) (p3 : Int32) (w0 : Value) (w1 : Value) (w2 : Value) (p4 : Int32) (p5 : Int32) (p6 : Int32) (p7 : Int32) (p8 : Int32) (p9 : Int32) (p10 : Int32) (p11 : Int32) (p12 : Int32) (p13 : Int32) (p14 : Int32) (w3 : Value) (w4 : Value) (p15 : Int32) (p16 : Int32) (w5 : Value) (w6 : Value) (w7 : Value) (p17 : Int32) (p18 : Int32) (p19 : Int32) (f0 : Nat → Int32) (p20 : Int32) (f1 : Nat → Int32) (f2 : Nat → Int32) (f3 : Nat → Int32) (f4 : Nat → Int32) (f5 : Nat → Int32) (f6 : Nat → Int32) (f7 : Nat → Int32) (f8 : Nat → Int32) (f9 : Nat → Int32) (f10 : Nat → Int32) (g0 : Nat → Int64) (hp0 : (-2147483648) ≤ (p0).toInt ∧ (p0).toInt ≤ 2147483647) (hp1 : (-2147483648) ≤ (p1).toInt ∧ (p1).toInt ≤ 2147483647) (hp2 : (-2147483648) ≤ (p2).toInt ∧ (p2).toInt ≤ 2147483647) (hp3 : (-2147483648) ≤ (p3).toInt ∧ (p3).toInt ≤ 2147483647) (hp4 : 0 ≤ (p4).toInt ∧ (p4).toInt ≤ 900) (hp5 : 0 ≤ (p5).toInt ∧ (p5).toInt ≤ 900) (hp6 : 0 ≤ (p6).toInt ∧ (p6).toInt ≤ 900) (hp7 : 0 ≤ (p7).toInt ∧ (p7).toInt ≤ 900) (hp8 : (-2147483648) ≤ (p8).toInt ∧ (p8).toInt ≤ 2147483647) (hp9 : 0 ≤ (p9).toInt ∧ (p9).toInt ≤ 999) (hp10 : (-2147483648) ≤ (p10).toInt ∧ (p10).toInt ≤ 2147483647) (hp11 : (-2147483648) ≤ (p11).toInt ∧ (p11).toInt ≤ 2147483647) (hp12 : (-2147483648) ≤ (p12).toInt ∧ (p12).toInt ≤ 2147483647) (hp13 : (-2147483648) ≤ (p13).toInt ∧ (p13).toInt ≤ 2147483647) (hp14 : (-2147483648) ≤ (p14).toInt ∧ (p14).toInt ≤ 2147483647) (hp15 : (-2147483648) ≤ (p15).toInt ∧ (p15).toInt ≤ 2147483647) (hp16 : (-2147483648) ≤ (p16).toInt ∧ (p16).toInt ≤ 2147483647) (hp17 : (-2147483648) ≤ (p17).toInt ∧ (p17).toInt ≤ 2147483647) (hp18 : (-2147483648) ≤ (p18).toInt ∧ (p18).toInt ≤ 2147483647) (hp19 : (-2147483648) ≤ (p19).toInt ∧ (p19).toInt ≤ 2147483647) (hp20 : 0 ≤ (p20).toInt ∧ (p20).toInt ≤ 10) (htf0_84 : f0 84 = p20) (rf0 : AL f0) (rf3 : RG f3 3 0 9) (rf4 : RG f4 1000 0 999) (rf10 : RG f10 4 0 40) (sz : Nat) : MI l yX12_lists cX12_lists 8 .int { frames := 5, cells := 0, slots := 0, locals := 125 } [.ref h0, .int p0, .int p1, .int p2] D cy (wk_2f75b658b cy h0 p3 h1 w0 w1 w2 p4 p5 p6 p7 p8 p9 p10 p11 p12 p13 p14 h2 h3 h4 w3 w4 p15 p16 w5 w6 w7 p17 p18 h5 h6 h7 h8 h9 p19 h10 h11 h12 h1 f0 h2 f1 h3 f2 h4 f3 h5 f4 h6 f5 h7 f6 h8 f7 h9 f8 h10 f9 h11 f10 h12 g0) sz (fun r u => ((-6) ≤ r.toInt ∧ r.toInt ≤ 40) ∧ (0 ≤ (u.2.1 0 0).toInt ∧ (u.2.1 0 0).toInt ≤ 0) ∧ ((-2147483648) ≤ (u.2.1 1 0).toInt ∧ (u.2.1 1 0).toInt ≤ 2147483647) ∧ AL (u.2.1 2) ∧ RG (u.2.1 5) 3 0 9 ∧ RG (u.2.1 6) 1000 0 999 ∧ (u.2.1 2) 84 = p20 ∧ True) (fun u => (wk_2f75b658b cy h0 (u.2.1 0 0) h1 w0 w1 w2 p4 p5 p6 p7 p8 p9 p10 p11 p12 p13 p14 h2 h3 h4 w3 w4 p15 p16 w5 w6 w7 p17 p18 h5 h6 h7 h8 h9 (u.2.1 1 0) h10 h11 h12 h1 (u.2.1 2) h2 (u.2.1 3) h3 (u.2.1 4) h4 (u.2.1 5) h5 (u.2.1 6) h6 (u.2.1 7) h7 (u.2.1 8) h8 (u.2.1 9) h9 (u.2.1 10) h10 f9 h11 f10 h12 (u.2.2 0))) 0 0 := by
  refine q_ent (own := RX12) (by decide) rfl (Nat.le_of_ble_eq_true rfl) (fun p e s m below meth c ls X hr hlk hnm hK hT h hA hl => ?_)
  obtain ⟨hx, hb, hml, hown, ht⟩ := id X
  replace hl : lv_has ls 8 [(0, .ref h0), (1, .int p0), (2, .int p1), (3, .int p2)] := hl
  refine lv_aload_n hx hb dX12_lists_0 rfl (lv_at hl 0 rfl) ?_
  refine lv_iconst (v := 0) hx hb dX12_lists_1 (by decide) ?_
  refine q_put (v := .int 0) X hK h 0 rfl rfl wf_12 tyX12 tyX12_ok nmX12 0 (by decide) wm_5_170 rfl rfl rfl (Nat.le_of_ble_eq_true rfl) dX12_lists_2 (fun H locs h_1 => ?_)
  clear h
  replace h_1 : qW D _ _ (wk_2f75b658b cy h0 0 h1 w0 w1 w2 p4 p5 p6 p7 p8 p9 p10 p11 p12 p13 p14 h2 h3 h4 w3 w4 p15 p16 w5 w6 w7 p17 p18 h5 h6 h7 h8 h9 p19 h10 h11 h12 h1 f0 h2 f1 h3 f2 h4 f3 h5 f4 h6 f5 h7 f6 h8 f7 h9 f8 h10 f9 h11 f10 h12 g0) _ _ := h_1
  refine lv_iload_n hx hb dX12_lists_5 rfl (lv_at hl 1 rfl) ?_
  refine lv_i2l hx hb dX12_lists_6 rfl ?_
  obtain ⟨z_2, ez_2, hz_2⟩ := e_i2l (x := p0) rfl
  refine q_cl z_2 ez_2 ?_
  clear ez_2
  refine lv_lconst (v := 0) hx hb dX12_lists_7 (by decide) ?_
  refine lv_ldc2 hx hb hown (ht _ wm_7_29) dX12_lists_8 ?_
  refine q_callSi (rest := []) (wr := (wk_2f75b658b cy h0 0 h1 w0 w1 w2 p4 p5 p6 p7 p8 p9 p10 p11 p12 p13 p14 h2 h3 h4 w3 w4 p15 p16 w5 w6 w7 p17 p18 h5 h6 h7 h8 h9 p19 h10 h11 h12 h1 f0 h2 f1 h3 f2 h4 f3 h5 f4 h6 f5 h7 f6 h8 f7 h9 f8 h10 f9 h11 f10 h12 g0)) X hK hT hA h_1 (fun sz => gX12_within_00c7897 l D cy z_2 (0 : Int64) (3 : Int64) (j_rng _) ⟨by decide +kernel, by decide +kernel⟩ ⟨by decide +kernel, by decide +kernel⟩ sz) wm_6_50 wm_6_52 wm_1_12 hd_X12_within wm_6_51 ⟨Nat.le_of_ble_eq_true rfl, Nat.le_of_ble_eq_true rfl⟩ hl.1 rfl (Nat.le_of_ble_eq_true rfl) dX12_lists_11 ⟨Nat.le_of_ble_eq_true rfl, Nat.le_of_ble_eq_true rfl⟩ [] [0, 1, 2, 3, 4, 5, 6, 7, 8, 9, 10, 11, 12] rfl rfl (by decide) rfl rfl (fun r_3 u_3 H locs w_3 h_3 => ?_)
  clear h_1
  obtain ⟨wr_3, y3_0, _⟩ := w_3
  have lq_3_1 : (0 : Int64).toInt = 0 := (by decide)
  have lq_3_2 : (3 : Int64).toInt = 3 := (by decide)
  replace h_3 : qW D _ _ (wk_2f75b658b cy h0 0 h1 w0 w1 w2 p4 p5 p6 p7 p8 p9 p10 p11 p12 p13 p14 h2 h3 h4 w3 w4 p15 p16 w5 w6 w7 p17 p18 h5 h6 h7 h8 h9 p19 h10 h11 h12 h1 f0 h2 f1 h3 f2 h4 f3 h5 f4 h6 f5 h7 f6 h8 f7 h9 f8 h10 f9 h11 f10 h12 g0) _ _ := h_3
  refine q_jn (pc2 := 26) (fun H locs ls st => st = [] ∧ qW D (va_A (wk_2f75b658b cy h0 p3 h1 w0 w1 w2 p4 p5 p6 p7 p8 p9 p10 p11 p12 p13 p14 h2 h3 h4 w3 w4 p15 p16 w5 w6 w7 p17 p18 h5 h6 h7 h8 h9 p19 h10 h11 h12 h1 f0 h2 f1 h3 f2 h4 f3 h5 f4 h6 f5 h7 f6 h8 f7 h9 f8 h10 f9 h11 f10 h12 g0) sz) s.heap (wk_2f75b658b cy h0 0 h1 w0 w1 w2 p4 p5 p6 p7 p8 p9 p10 p11 p12 p13 p14 h2 h3 h4 w3 w4 p15 p16 w5 w6 w7 p17 p18 h5 h6 h7 h8 h9 p19 h10 h11 h12 h1 f0 h2 f1 h3 f2 h4 f3 h5 f4 h6 f5 h7 f6 h8 f7 h9 f8 h10 f9 h11 f10 h12 g0) H locs ∧ lv_has ls 8 [(0, .ref h0), (1, .int p0), (2, .int p1), (3, .int p2)]) (fun H locs ls st hP => ?_) (fun J_26 => ?_)
  · obtain ⟨rfl, h, hl⟩ := hP
    refine lv_bipush (v := (-2)) hx hb dX12_lists_26 (by decide) ?_
    exact q_iret X hr hlk hK h rfl (fun _ => 0, (vcons (fun _ => 0) (vcons (fun _ => p19) (vcons f0 (vcons f1 (vcons f2 (vcons f3 (vcons f4 (vcons f5 (vcons f6 (vcons f7 (vcons f8 (fun _ => (fun _ => 0))))))))))))), (vcons g0 (fun _ => (fun _ => 0)))) ⟨⟨by decide +kernel, by decide +kernel⟩, (⟨by decide +kernel, by decide +kernel⟩ : 0 ≤ (0 : Int32).toInt ∧ (0 : Int32).toInt ≤ 0), hp19, rf0, (rg_wide rf3 (by decide) (by decide)), (rg_wide rf4 (by decide) (by decide)), htf0_84, trivial⟩ [0, 1, 2, 3, 4, 5, 6, 7, 8, 9, 10, 11, 12] rfl rfl dX12_lists_28 (Nat.le_of_ble_eq_true rfl) (Nat.le_of_ble_eq_true rfl)
  · skip
    refine lv_if_eq (tgt := 26) hx hb dX12_lists_14 (by decide) (fun c_5 => ?_) (fun c_5 => ?_)
    · replace c_5 := i_eq (x := r_3) (y := 0) rfl (show (0 : Int32).toInt = 0 by decide) c_5
      replace y3_0 := a10_0 y3_0 c_5
      exact J_26 _ _ _ _ ⟨rfl, h_3, (lv_sub hl [0, 1, 2, 3] rfl)⟩
    · replace c_5 := i_ne (x := r_3) (y := 0) rfl (show (0 : Int32).toInt = 0 by decide) c_5
      replace y3_0 := a10_1 y3_0 c_5
      refine lv_aload_n hx hb dX12_lists_17 rfl (lv_at hl 0 rfl) ?_
      refine lv_iload_n hx hb dX12_lists_18 rfl (lv_at hl 2 rfl) ?_
      refine lv_iload_n hx hb dX12_lists_19 rfl (lv_at hl 3 rfl) ?_
      refine q_callVi (rest := []) (wr := [(h2, .inl (cy 1, 900, .inl f1)), (h3, .inl (cy 1, 11, .inl f2)), (h4, .inl (cy 1, 3, .inl f3)), (h5, .inl (cy 1, 1000, .inl f4)), (h6, .inl (cy 1, 1000, .inl f5)), (h7, .inl (cy 1, 1000, .inl f6)), (h8, .inl (cy 1, 1000, .inl f7)), (h9, .inl (cy 3, 1000, .inl f8)), (h10, .inl (cy 1, 4, .inl f9)), (h11, .inl (cy 1, 4, .inl f10)), (h12, .inl (cy 2, 160, .inr (.inl g0)))]) X hK hT hA h_3 (fun sz => gX12_areTwo_839642f l D cy h0 h1 p1 p2 (0 : Int32) w0 w1 w2 p4 p5 p6 p7 p8 p9 p10 p11 p12 p13 p14 (.ref h2) (.ref h3) (.ref h4) w3 w4 p15 p16 w5 w6 w7 p17 p18 (.ref h5) (.ref h6) (.ref h7) (.ref h8) (.ref h9) p19 (.ref h10) (.ref h11) (.ref h12) f0 p20 (i_rng _) (i_rng _) ⟨by decide +kernel, by decide +kernel⟩ hp4 hp5 hp6 hp7 (i_rng _) hp9 (i_rng _) (i_rng _) (i_rng _) (i_rng _) (i_rng _) (i_rng _) (i_rng _) (i_rng _) (i_rng _) (i_rng _) hp20 htf0_84 rf0 sz) wm_7_164 wm_7_167 wm_1_12 hd_X12_areTwo wm_7_166 wp_7_8 (ci := 12) (q0 := 0) rfl rfl ⟨Nat.le_of_ble_eq_true rfl, Nat.le_of_ble_eq_true rfl⟩ hl.1 rfl (Nat.le_of_ble_eq_true rfl) dX12_lists_20 ⟨Nat.le_of_ble_eq_true rfl, Nat.le_of_ble_eq_true rfl⟩ [0, 1] [2, 3, 4, 5, 6, 7, 8, 9, 10, 11, 12] rfl rfl (by decide) rfl rfl (fun r_6 u_6 H locs w_6 h_6 => ?_)
      clear h_3
      obtain ⟨wr_6, y6_0, _⟩ := w_6
      replace h_6 : qW D _ _ [(h2, .inl (cy 1, 900, .inl f1)), (h3, .inl (cy 1, 11, .inl f2)), (h4, .inl (cy 1, 3, .inl f3)), (h5, .inl (cy 1, 1000, .inl f4)), (h6, .inl (cy 1, 1000, .inl f5)), (h7, .inl (cy 1, 1000, .inl f6)), (h8, .inl (cy 1, 1000, .inl f7)), (h9, .inl (cy 3, 1000, .inl f8)), (h10, .inl (cy 1, 4, .inl f9)), (h11, .inl (cy 1, 4, .inl f10)), (h12, .inl (cy 2, 160, .inr (.inl g0))), (h0, .inr (12, [.int 0, .ref h1, w0, w1, w2, .int p4, .int p5, .int p6, .int p7, .int p8, .int p9, .int p10, .int p11, .int p12, .int p13, .int p14, .ref h2, .ref h3, .ref h4, w3, w4, .int p15, .int p16, w5, w6, w7, .int p17, .int p18, .ref h5, .ref h6, .ref h7, .ref h8, .ref h9, .int p19, .ref h10, .ref h11, .ref h12])), (h1, .inl (cy 1, 3918, .inl f0))] _ _ := h_6
      refine lv_if_ne (tgt := 29) hx hb dX12_lists_23 (by decide) (fun c_7 => ?_) (fun c_7 => ?_)
      · replace c_7 := i_ne (x := r_6) (y := 0) rfl (show (0 : Int32).toInt = 0 by decide) c_7
        refine lv_aload_n hx hb dX12_lists_29 rfl (lv_at hl 0 rfl) ?_
        refine lv_iload_n hx hb dX12_lists_30 rfl (lv_at hl 1 rfl) ?_
        refine q_callVi (rest := []) (wr := [(h2, .inl (cy 1, 900, .inl f1)), (h3, .inl (cy 1, 11, .inl f2)), (h4, .inl (cy 1, 3, .inl f3)), (h5, .inl (cy 1, 1000, .inl f4)), (h6, .inl (cy 1, 1000, .inl f5)), (h7, .inl (cy 1, 1000, .inl f6)), (h8, .inl (cy 1, 1000, .inl f7)), (h9, .inl (cy 3, 1000, .inl f8)), (h11, .inl (cy 1, 4, .inl f10)), (h12, .inl (cy 2, 160, .inr (.inl g0))), (h1, .inl (cy 1, 3918, .inl f0))]) X hK hT hA h_6 (fun sz => gX12_noTray_c6f52ea l D cy h0 h10 p0 (0 : Int32) (.ref h1) w0 w1 w2 p4 p5 p6 p7 p8 p9 p10 p11 p12 p13 p14 (.ref h2) (.ref h3) (.ref h4) w3 w4 p15 p16 w5 w6 w7 p17 p18 (.ref h5) (.ref h6) (.ref h7) (.ref h8) (.ref h9) p19 (.ref h11) (.ref h12) f9 (i_rng _) ⟨by decide +kernel, by decide +kernel⟩ hp4 hp5 hp6 hp7 (i_rng _) hp9 (i_rng _) (i_rng _) (i_rng _) (i_rng _) (i_rng _) (i_rng _) (i_rng _) (i_rng _) (i_rng _) (i_rng _) sz) wm_7_30 wm_7_33 wm_1_12 hd_X12_noTray wm_7_32 wp_6_6 (ci := 12) (q0 := 0) rfl rfl ⟨Nat.le_of_ble_eq_true rfl, Nat.le_of_ble_eq_true rfl⟩ hl.1 rfl (Nat.le_of_ble_eq_true rfl) dX12_lists_31 ⟨Nat.le_of_ble_eq_true rfl, Nat.le_of_ble_eq_true rfl⟩ [11, 8] [0, 1, 2, 3, 4, 5, 6, 7, 9, 10, 12] rfl rfl (by decide) rfl rfl (fun r_8 u_8 H locs w_8 h_8 => ?_)
        clear h_6
        obtain ⟨wr_8, y8_0, _⟩ := w_8
        replace h_8 : qW D _ _ [(h2, .inl (cy 1, 900, .inl f1)), (h3, .inl (cy 1, 11, .inl f2)), (h4, .inl (cy 1, 3, .inl f3)), (h5, .inl (cy 1, 1000, .inl f4)), (h6, .inl (cy 1, 1000, .inl f5)), (h7, .inl (cy 1, 1000, .inl f6)), (h8, .inl (cy 1, 1000, .inl f7)), (h9, .inl (cy 3, 1000, .inl f8)), (h11, .inl (cy 1, 4, .inl f10)), (h12, .inl (cy 2, 160, .inr (.inl g0))), (h1, .inl (cy 1, 3918, .inl f0)), (h0, .inr (12, [.int 0, .ref h1, w0, w1, w2, .int p4, .int p5, .int p6, .int p7, .int p8, .int p9, .int p10, .int p11, .int p12, .int p13, .int p14, .ref h2, .ref h3, .ref h4, w3, w4, .int p15, .int p16, w5, w6, w7, .int p17, .int p18, .ref h5, .ref h6, .ref h7, .ref h8, .ref h9, .int p19, .ref h10, .ref h11, .ref h12])), (h10, .inl (cy 1, 4, .inl f9))] _ _ := h_8
        refine lv_istore (lv' := [(4, .int r_8), (0, .ref h0), (1, .int p0), (2, .int p1), (3, .int p2)]) hx hb dX12_lists_34 hl (by decide) rfl (fun ls_9 hl_9 => ?_)
        clear hl
        refine lv_iload hx hb dX12_lists_36 (lv_at hl_9 0 rfl) ?_
        refine lv_if_eq (tgt := 44) hx hb dX12_lists_38 (by decide) (fun c_10 => ?_) (fun c_10 => ?_)
        · replace c_10 := i_eq (x := r_8) (y := 0) rfl (show (0 : Int32).toInt = 0 by decide) c_10
          refine lv_aload_n hx hb dX12_lists_44 rfl (lv_at hl_9 1 rfl) ?_
          refine lv_iload_n hx hb dX12_lists_45 rfl (lv_at hl_9 3 rfl) ?_
          refine lv_iload_n hx hb dX12_lists_46 rfl (lv_at hl_9 4 rfl) ?_
          refine q_callVi (rest := []) (wr := [(h11, .inl (cy 1, 4, .inl f10)), (h12, .inl (cy 2, 160, .inr (.inl g0))), (h10, .inl (cy 1, 4, .inl f9))]) X hK hT hA h_8 (fun sz => gX12_laysTurning_b50106d l D cy h0 h1 h2 h3 h4 h5 h6 h7 h8 h9 p1 p2 (0 : Int32) w0 w1 w2 p4 p5 p6 p7 p8 p9 p10 p11 p12 p13 p14 w3 w4 p15 p16 w5 w6 w7 p17 p18 p19 (.ref h10) (.ref h11) (.ref h12) f0 p20 f1 f2 f3 f4 f5 f6 f7 f8 ⟨by omega, by omega⟩ ⟨by omega, by omega⟩ ⟨by decide +kernel, by decide +kernel⟩ hp4 hp5 hp6 hp7 (i_rng _) hp9 (i_rng _) (i_rng _) (i_rng _) (i_rng _) (i_rng _) (i_rng _) (i_rng _) (i_rng _) (i_rng _) (i_rng _) hp20 htf0_84 rf0 (rg_wide rf3 (by decide) (by decide)) (rg_wide rf4 (by decide) (by decide)) sz) wm_7_168 wm_7_171 wm_1_12 hd_X12_laysTurning wm_7_170 wp_7_9 (ci := 12) (q0 := 0) rfl rfl ⟨Nat.le_of_ble_eq_true rfl, Nat.le_of_ble_eq_true rfl⟩ hl_9.1 rfl (Nat.le_of_ble_eq_true rfl) dX12_lists_47 ⟨Nat.le_of_ble_eq_true rfl, Nat.le_of_ble_eq_true rfl⟩ [11, 10, 0, 1, 2, 3, 4, 5, 6, 7] [8, 9, 12] rfl rfl (by decide) rfl rfl (fun r_11 u_11 H locs w_11 h_11 => ?_)
          clear h_8
          obtain ⟨wr_11, w11_0, w11_1, w11_2, w11_3, w11_4, _⟩ := w_11
          replace h_11 : qW D _ _ (wk_21aebff3a cy h11 f10 h12 g0 h10 f9 h0 0 h1 w0 w1 w2 p4 p5 p6 p7 p8 p9 p10 p11 p12 p13 p14 h2 h3 h4 w3 w4 p15 p16 w5 w6 w7 p17 p18 h5 h6 h7 h8 h9 (u_11.2.1 8 0) h10 h11 h12 h1 (u_11.2.1 9) h2 (u_11.2.1 0) h3 (u_11.2.1 1) h4 (u_11.2.1 2) h5 (u_11.2.1 3) h6 (u_11.2.1 4) h7 (u_11.2.1 5) h8 (u_11.2.1 6) h9 (u_11.2.1 7)) _ _ := h_11
          refine lv_istore (lv' := [(5, .int r_11), (4, .int r_8), (0, .ref h0), (1, .int p0), (2, .int p1), (3, .int p2)]) hx hb dX12_lists_50 hl_9 (by decide) rfl (fun ls_12 hl_12 => ?_)
          clear hl_9
          refine lv_iload hx hb dX12_lists_52 (lv_at hl_12 0 rfl) ?_
          refine lv_iconst (v := (-1)) hx hb dX12_lists_54 (by decide) ?_
          refine lv_icmp_ne (tgt := 61) hx hb dX12_lists_55 (by decide) (fun c_13 => ?_) (fun c_13 => ?_)
          · replace c_13 := i_ne (x := r_11) (y := (-1)) rfl (show ((-1) : Int32).toInt = -1 by decide) c_13
            refine lv_iload hx hb dX12_lists_61 (lv_at hl_12 0 rfl) ?_
            refine lv_aload_n hx hb dX12_lists_63 rfl (lv_at hl_12 2 rfl) ?_
            refine q_get X hK h_11 3 rfl rfl wf_12 35 (by decide) rfl wm_5_205 dX12_lists_64 ?_
            refine lv_iload_n hx hb dX12_lists_67 rfl (lv_at hl_12 3 rfl) ?_
            refine q_iald X hK h_11 0 rfl (i_in rfl (by omega) (by omega)) dX12_lists_68 ?_
            obtain ⟨z_14, ez_14, hz_14⟩ := rg_get rf10 (x := p0) rfl (by omega) (by omega)
            refine q_c z_14 ez_14 ?_
            clear ez_14
            refine q_jn (pc2 := 83) (fun H locs ls st => ∃ v83_15_0 : Int32, (0 ≤ (v83_15_0).toInt ∧ (v83_15_0).toInt ≤ 40) ∧ st = [.int v83_15_0] ∧ qW D (va_A (wk_2f75b658b cy h0 p3 h1 w0 w1 w2 p4 p5 p6 p7 p8 p9 p10 p11 p12 p13 p14 h2 h3 h4 w3 w4 p15 p16 w5 w6 w7 p17 p18 h5 h6 h7 h8 h9 p19 h10 h11 h12 h1 f0 h2 f1 h3 f2 h4 f3 h5 f4 h6 f5 h7 f6 h8 f7 h9 f8 h10 f9 h11 f10 h12 g0) sz) s.heap (wk_21aebff3a cy h11 f10 h12 g0 h10 f9 h0 0 h1 w0 w1 w2 p4 p5 p6 p7 p8 p9 p10 p11 p12 p13 p14 h2 h3 h4 w3 w4 p15 p16 w5 w6 w7 p17 p18 h5 h6 h7 h8 h9 (u_11.2.1 8 0) h10 h11 h12 h1 (u_11.2.1 9) h2 (u_11.2.1 0) h3 (u_11.2.1 1) h4 (u_11.2.1 2) h5 (u_11.2.1 3) h6 (u_11.2.1 4) h7 (u_11.2.1 5) h8 (u_11.2.1 6) h9 (u_11.2.1 7)) H locs ∧ lv_has ls 8 [(0, .ref h0), (1, .int p0), (2, .int p1), (3, .int p2), (4, .int r_8), (5, .int r_11)]) (fun H locs ls st hP => ?_) (fun J_83 => ?_)
            · obtain ⟨v83_15_0, hv83_15_0, rfl, h, hl⟩ := hP
              refine lv_istore (lv' := [(6, .int v83_15_0), (0, .ref h0), (1, .int p0), (2, .int p1), (3, .int p2), (4, .int r_8), (5, .int r_11)]) hx hb dX12_lists_83 hl (by decide) rfl (fun ls_16 hl_16 => ?_)
              clear hl
              refine lv_iconst (v := 0) hx hb dX12_lists_85 (by decide) ?_
              refine lv_istore (lv' := [(7, .int 0), (6, .int v83_15_0), (0, .ref h0), (1, .int p0), (2, .int p1), (3, .int p2), (4, .int r_8), (5, .int r_11)]) hx hb dX12_lists_86 hl_16 (by decide) rfl (fun ls_17 hl_17 => ?_)
              clear hl_16
              refine q_wl (fun (v88_18_0 : Int32) H locs ls => ∃ v88_18_1 : Nat → Int64, (0 ≤ (v88_18_0).toInt ∧ (v88_18_0).toInt ≤ 40) ∧ qW D (va_A (wk_2f75b658b cy h0 p3 h1 w0 w1 w2 p4 p5 p6 p7 p8 p9 p10 p11 p12 p13 p14 h2 h3 h4 w3 w4 p15 p16 w5 w6 w7 p17 p18 h5 h6 h7 h8 h9 p19 h10 h11 h12 h1 f0 h2 f1 h3 f2 h4 f3 h5 f4 h6 f5 h7 f6 h8 f7 h9 f8 h10 f9 h11 f10 h12 g0) sz) s.heap (wk_21aebff3a cy h11 f10 h12 v88_18_1 h10 f9 h0 0 h1 w0 w1 w2 p4 p5 p6 p7 p8 p9 p10 p11 p12 p13 p14 h2 h3 h4 w3 w4 p15 p16 w5 w6 w7 p17 p18 h5 h6 h7 h8 h9 (u_11.2.1 8 0) h10 h11 h12 h1 (u_11.2.1 9) h2 (u_11.2.1 0) h3 (u_11.2.1 1) h4 (u_11.2.1 2) h5 (u_11.2.1 3) h6 (u_11.2.1 4) h7 (u_11.2.1 5) h8 (u_11.2.1 6) h9 (u_11.2.1 7)) H locs ∧ lv_has ls 8 [(0, .ref h0), (1, .int p0), (2, .int p1), (3, .int p2), (4, .int r_8), (5, .int r_11), (6, .int v83_15_0), (7, .int v88_18_0)]) (fun (v88_18_0 : Int32) => (41 - (v88_18_0).toInt).toNat) (fun q_88 ih_88 H locs ls hP => ?_) 0 ⟨g0, ⟨by decide +kernel, by decide +kernel⟩, h, (lv_sub hl_17 [2, 3, 4, 5, 6, 7, 1, 0] rfl)⟩
              obtain ⟨v88_18_0, rfl⟩ : ∃ z, z = q_88 := ⟨_, rfl⟩
              obtain ⟨v88_18_1, hv88_18_0, h, hl⟩ := hP
              refine lv_iload hx hb dX12_lists_88 (lv_at hl 7 rfl) ?_
              refine lv_iload hx hb dX12_lists_90 (lv_at hl 6 rfl) ?_
              refine lv_icmp_ge (tgt := 135) hx hb dX12_lists_92 (by decide) (fun c_19 => ?_) (fun c_19 => ?_)
              · replace c_19 := i_le (x := v83_15_0) (y := v88_18_0) rfl rfl c_19
                refine lv_iload hx hb dX12_lists_135 (lv_at hl 6 rfl) ?_
                exact q_iret X hr hlk hK h rfl (fun _ => 0, (vcons (fun _ => 0) (vcons (fun _ => (u_11.2.1 8 0)) (vcons (u_11.2.1 9) (vcons (u_11.2.1 0) (vcons (u_11.2.1 1) (vcons (u_11.2.1 2) (vcons (u_11.2.1 3) (vcons (u_11.2.1 4) (vcons (u_11.2.1 5) (vcons (u_11.2.1 6) (vcons (u_11.2.1 7) (fun _ => (fun _ => 0))))))))))))), (vcons v88_18_1 (fun _ => (fun _ => 0)))) ⟨(bw hv83_15_0 (by decide) (by decide)), (⟨by decide +kernel, by decide +kernel⟩ : 0 ≤ (0 : Int32).toInt ∧ (0 : Int32).toInt ≤ 0), w11_2, w11_3, (rg_wide w11_0 (by decide) (by decide)), (rg_wide w11_1 (by decide) (by decide)), w11_4, trivial⟩ [3, 4, 5, 6, 7, 8, 9, 10, 11, 12, 2, 0, 1] rfl rfl dX12_lists_137 (Nat.le_of_ble_eq_true rfl) (Nat.le_of_ble_eq_true rfl)
              · replace c_19 := i_nle (x := v83_15_0) (y := v88_18_0) rfl rfl c_19
                refine lv_aload_n hx hb dX12_lists_95 rfl (lv_at hl 0 rfl) ?_
                refine q_get X hK h 3 rfl rfl wf_12 36 (by decide) rfl wm_5_206 dX12_lists_96 ?_
                refine lv_bipush (v := 40) hx hb dX12_lists_99 (by decide) ?_
                refine lv_iload_n hx hb dX12_lists_101 rfl (lv_at hl 1 rfl) ?_
                refine lv_imul hx hb dX12_lists_102 ?_
                obtain ⟨z_20, ez_20, hz_20⟩ := e_mul (x := 40) (y := p0) (show (40 : Int32).toInt = 40 by decide) rfl (by omega) (by omega)
                refine q_c z_20 ez_20 ?_
                clear ez_20
                refine lv_iload hx hb dX12_lists_103 (lv_at hl 7 rfl) ?_
                refine lv_iadd hx hb dX12_lists_105 ?_
                obtain ⟨z_21, ez_21, hz_21⟩ := e_add (x := z_20) (y := v88_18_0) rfl rfl (by omega) (by omega)
                refine q_c z_21 ez_21 ?_
                clear ez_21
                refine lv_bipush (v := 10) hx hb dX12_lists_106 (by decide) ?_
                refine lv_iload_n hx hb dX12_lists_108 rfl (lv_at hl 2 rfl) ?_
                refine lv_imul hx hb dX12_lists_109 ?_
                obtain ⟨z_22, ez_22, hz_22⟩ := e_mul (x := 10) (y := p1) (show (10 : Int32).toInt = 10 by decide) rfl (by omega) (by omega)
                refine q_c z_22 ez_22 ?_
                clear ez_22
                refine lv_aload_n hx hb dX12_lists_110 rfl (lv_at hl 0 rfl) ?_
                refine q_get X hK h 3 rfl rfl wf_12 31 (by decide) rfl wm_5_201 dX12_lists_111 ?_
                refine lv_iload hx hb dX12_lists_114 (lv_at hl 7 rfl) ?_
                refine q_iald X hK h 11 rfl (i_in rfl (by omega) (by omega)) dX12_lists_116 ?_
                refine q_any (fun z_23 hz_23 => ?_)
                refine lv_iadd hx hb dX12_lists_117 ?_
                refine q_any (fun z_24 hz_24 => ?_)
                refine lv_i2l hx hb dX12_lists_118 rfl ?_
                obtain ⟨z_25, ez_25, hz_25⟩ := e_i2l (x := z_24) rfl
                refine q_cl z_25 ez_25 ?_
                clear ez_25
                refine lv_aload_n hx hb dX12_lists_119 rfl (lv_at hl 0 rfl) ?_
                refine q_get X hK h 3 rfl rfl wf_12 34 (by decide) rfl wm_5_204 dX12_lists_120 ?_
                refine lv_iload_n hx hb dX12_lists_123 rfl (lv_at hl 1 rfl) ?_
                refine q_iald X hK h 2 rfl (i_in rfl (by omega) (by omega)) dX12_lists_124 ?_
                refine q_any (fun z_26 hz_26 => ?_)
                refine q_callSl (rest := [.int z_21, .ref h12]) (wr := (wk_21aebff3a cy h11 f10 h12 v88_18_1 h10 f9 h0 0 h1 w0 w1 w2 p4 p5 p6 p7 p8 p9 p10 p11 p12 p13 p14 h2 h3 h4 w3 w4 p15 p16 w5 w6 w7 p17 p18 h5 h6 h7 h8 h9 (u_11.2.1 8 0) h10 h11 h12 h1 (u_11.2.1 9) h2 (u_11.2.1 0) h3 (u_11.2.1 1) h4 (u_11.2.1 2) h5 (u_11.2.1 3) h6 (u_11.2.1 4) h7 (u_11.2.1 5) h8 (u_11.2.1 6) h9 (u_11.2.1 7))) X hK hT hA h (fun sz => gX12_cut_22e574e l D cy z_25 z_26 (j_rng _) (i_rng _) sz) wm_8_36 wm_8_38 wm_1_12 hd_X12_cut wm_8_37 ⟨Nat.le_of_ble_eq_true rfl, Nat.le_of_ble_eq_true rfl⟩ hl.1 rfl (Nat.le_of_ble_eq_true rfl) dX12_lists_125 ⟨Nat.le_of_ble_eq_true rfl, Nat.le_of_ble_eq_true rfl⟩ [] [0, 1, 2, 3, 4, 5, 6, 7, 8, 9, 10, 11, 12] rfl rfl (by decide) rfl rfl (fun r_27 u_27 H locs w_27 h_27 => ?_)
                clear h
                obtain ⟨wr_27, _⟩ := w_27
                replace h_27 : qW D _ _ (wk_21aebff3a cy h11 f10 h12 v88_18_1 h10 f9 h0 0 h1 w0 w1 w2 p4 p5 p6 p7 p8 p9 p10 p11 p12 p13 p14 h2 h3 h4 w3 w4 p15 p16 w5 w6 w7 p17 p18 h5 h6 h7 h8 h9 (u_11.2.1 8 0) h10 h11 h12 h1 (u_11.2.1 9) h2 (u_11.2.1 0) h3 (u_11.2.1 1) h4 (u_11.2.1 2) h5 (u_11.2.1 3) h6 (u_11.2.1 4) h7 (u_11.2.1 5) h8 (u_11.2.1 6) h9 (u_11.2.1 7)) _ _ := h_27
                refine q_last X hK h_27 1 rfl (i_in rfl (by omega) (by omega)) dX12_lists_128 (fun H locs h_29 => ?_)
                clear h_27
                replace h_29 : qW D _ _ (wk_21aebff3a cy h11 f10 h12 (vp_updL v88_18_1 (Int32.toNatClampNeg z_21) r_27) h10 f9 h0 0 h1 w0 w1 w2 p4 p5 p6 p7 p8 p9 p10 p11 p12 p13 p14 h2 h3 h4 w3 w4 p15 p16 w5 w6 w7 p17 p18 h5 h6 h7 h8 h9 (u_11.2.1 8 0) h10 h11 h12 h1 (u_11.2.1 9) h2 (u_11.2.1 0) h3 (u_11.2.1 1) h4 (u_11.2.1 2) h5 (u_11.2.1 3) h6 (u_11.2.1 4) h7 (u_11.2.1 5) h8 (u_11.2.1 6) h9 (u_11.2.1 7)) _ _ := h_29
                obtain ⟨F_28, eF_28⟩ : ∃ z, (vp_updL v88_18_1 (Int32.toNatClampNeg z_21) r_27) = z := ⟨_, rfl⟩
                rw [eF_28] at h_29
                clear eF_28
                obtain ⟨z_30, ez_30, hz_30⟩ := e_add (x := v88_18_0) (y := Int32.ofInt 1) rfl (b := 1) (by decide) (by omega) (by omega)
                refine lv_iinc (v := z_30) (lv' := [(7, .int z_30), (0, .ref h0), (1, .int p0), (2, .int p1), (3, .int p2), (4, .int r_8), (5, .int r_11), (6, .int v83_15_0)]) hx hb dX12_lists_129 hl (k := 7) rfl ez_30 (by decide) rfl (fun ls_30 hl_30 => ?_)
                clear hl
                refine lv_goto (tgt := 88) hx hb dX12_lists_132 (by decide) ?_
                exact ih_88 z_30 (by show (41 - (z_30).toInt).toNat < (41 - (v88_18_0).toInt).toNat; omega) _ _ _ ⟨F_28, ⟨by omega, by omega⟩, h_29, (lv_sub hl_30 [1, 2, 3, 4, 5, 6, 7, 0] rfl)⟩
            · skip
              refine lv_icmp_ge (tgt := 77) hx hb dX12_lists_69 (by decide) (fun c_31 => ?_) (fun c_31 => ?_)
              · replace c_31 := i_le (x := z_14) (y := r_11) rfl rfl c_31
                refine lv_aload_n hx hb dX12_lists_77 rfl (lv_at hl_12 2 rfl) ?_
                refine q_get X hK h_11 3 rfl rfl wf_12 35 (by decide) rfl wm_5_205 dX12_lists_78 ?_
                refine lv_iload_n hx hb dX12_lists_81 rfl (lv_at hl_12 3 rfl) ?_
                refine q_iald X hK h_11 0 rfl (i_in rfl (by omega) (by omega)) dX12_lists_82 ?_
                obtain ⟨z_32, ez_32, hz_32⟩ := rg_get rf10 (x := p0) rfl (by omega) (by omega)
                refine q_c z_32 ez_32 ?_
                clear ez_32
                exact J_83 _ _ _ _ ⟨z_32, ⟨by omega, by omega⟩, rfl, h_11, (lv_sub hl_12 [2, 3, 4, 5, 1, 0] rfl)⟩
              · replace c_31 := i_nle (x := z_14) (y := r_11) rfl rfl c_31
                refine lv_iload hx hb dX12_lists_72 (lv_at hl_12 0 rfl) ?_
                refine lv_goto (tgt := 83) hx hb dX12_lists_74 (by decide) ?_
                exact J_83 _ _ _ _ ⟨r_11, ⟨by omega, by omega⟩, rfl, h_11, (lv_sub hl_12 [2, 3, 4, 5, 1, 0] rfl)⟩
          · replace c_13 := i_eq (x := r_11) (y := (-1)) rfl (show ((-1) : Int32).toInt = -1 by decide) c_13
            refine lv_bipush (v := (-5)) hx hb dX12_lists_58 (by decide) ?_
            exact q_iret X hr hlk hK h_11 rfl (fun _ => 0, (vcons (fun _ => 0) (vcons (fun _ => (u_11.2.1 8 0)) (vcons (u_11.2.1 9) (vcons (u_11.2.1 0) (vcons (u_11.2.1 1) (vcons (u_11.2.1 2) (vcons (u_11.2.1 3) (vcons (u_11.2.1 4) (vcons (u_11.2.1 5) (vcons (u_11.2.1 6) (vcons (u_11.2.1 7) (fun _ => (fun _ => 0))))))))))))), (vcons g0 (fun _ => (fun _ => 0)))) ⟨⟨by decide +kernel, by decide +kernel⟩, (⟨by decide +kernel, by decide +kernel⟩ : 0 ≤ (0 : Int32).toInt ∧ (0 : Int32).toInt ≤ 0), w11_2, w11_3, (rg_wide w11_0 (by decide) (by decide)), (rg_wide w11_1 (by decide) (by decide)), w11_4, trivial⟩ [3, 4, 5, 6, 7, 8, 9, 10, 11, 12, 2, 0, 1] rfl rfl dX12_lists_60 (Nat.le_of_ble_eq_true rfl) (Nat.le_of_ble_eq_true rfl)
        · replace c_10 := i_ne (x := r_8) (y := 0) rfl (show (0 : Int32).toInt = 0 by decide) c_10
          refine lv_iload hx hb dX12_lists_41 (lv_at hl_9 0 rfl) ?_
          exact q_iret X hr hlk hK h_8 rfl (fun _ => 0, (vcons (fun _ => 0) (vcons (fun _ => p19) (vcons f0 (vcons f1 (vcons f2 (vcons f3 (vcons f4 (vcons f5 (vcons f6 (vcons f7 (vcons f8 (fun _ => (fun _ => 0))))))))))))), (vcons g0 (fun _ => (fun _ => 0)))) ⟨(bw wr_8 (by decide) (by decide)), (⟨by decide +kernel, by decide +kernel⟩ : 0 ≤ (0 : Int32).toInt ∧ (0 : Int32).toInt ≤ 0), hp19, rf0, (rg_wide rf3 (by decide) (by decide)), (rg_wide rf4 (by decide) (by decide)), htf0_84, trivial⟩ [11, 10, 0, 1, 2, 3, 4, 5, 6, 7, 12, 8, 9] rfl rfl dX12_lists_43 (Nat.le_of_ble_eq_true rfl) (Nat.le_of_ble_eq_true rfl)
      · replace c_7 := i_eq (x := r_6) (y := 0) rfl (show (0 : Int32).toInt = 0 by decide) c_7
        exact J_26 _ _ _ _ ⟨rfl, (q_re h_6 [11, 12, 0, 1, 2, 3, 4, 5, 6, 7, 8, 9, 10] rfl rfl), (lv_sub hl [0, 1, 2, 3] rfl)⟩
set_option maxHeartbeats 4000000 in
set_option maxRecDepth 100000 in
theorem gX12_image_b9527e2 (l : Launch) (D : va_G) (cy : Nat → ClassId) (h0 : Nat) (h1 : Nat) (h2 : Nat) (p0 : Int32) (p1 : Int32) (w0 : Value) (w1 : Value) (p2 : Int32) (p3 : Int32) (p4 : Int32) (p5 : Int32) (p6 : Int32) (p7 : Int32) (p8 : Int32) (p9 : Int32) (p10 : Int32) (p11 : Int32) (p12 : Int32) (w2 : Value) (w3 : Value) (w4 : Value) (w5 : Value) (w6 : Value) (p13 : Int32) (p14 : Int32) (w7 : Value) (w8 : Value) (w9 : Value) (p15 : Int32) (p16 : Int32) (w10 : Value) (w11 : Value) (w12 : Value) (w13 : Value) (w14 : Value) (p17 : Int32) (w15 : Value) (w16 : Value) (w17 : Value) (f0 : Nat → Int32) (p18 : Int32) (f1 : Nat → Int32) (hp0 : (-2147483648) ≤ (p0).toInt ∧ (p0).toInt ≤ 2147483647) (hp1 : (-2147483648) ≤ (p1).toInt ∧ (p1).toInt ≤ 2147483647) (hp2 : 0 ≤ (p2).toInt ∧ (p2).toInt ≤ 900) (hp3 : 0 ≤ (p3).toInt ∧ (p3).toInt ≤ 900) (hp4 : 0 ≤ (p4).toInt ∧ (p4).toInt ≤ 900) (hp5 : 0 ≤ (p5).toInt ∧ (p5).toInt ≤ 900) (hp6 : (-2147483648) ≤ (p6).toInt ∧ (p6).toInt ≤ 2147483647) (hp7 : 0 ≤ (p7).toInt ∧ (p7).toInt ≤ 999) (hp8 : (-2147483648) ≤ (p8).toInt ∧ (p8).toInt ≤ 2147483647) (hp9 : (-2147483648) ≤ (p9).toInt ∧ (p9).toInt ≤ 2147483647) (hp10 : (-2147483648) ≤ (p10).toInt ∧ (p10).toInt ≤ 2147483647) (hp11 : (-2147483648) ≤ (p11).toInt ∧ (p11).toInt ≤ 2147483647) (hp12 : (-2147483648) ≤ (p12).toInt ∧ (p12).toInt ≤ 2147483647) (hp13 : (-2147483648) ≤ (p13).toInt ∧ (p13).toInt ≤ 2147483647) (hp14 : (-2147483648) ≤ (p14).toInt ∧ (p14).toInt ≤ 2147483647) (hp15 : (-2147483648) ≤ (p15).toInt ∧ (p15).toInt ≤ 2147483647) (hp16 : (-2147483648) ≤ (p16).toInt ∧ (p16).toInt ≤ 2147483647) (hp17 : (-2147483648) ≤ (p17).toInt ∧ (p17).toInt ≤ 2147483647) (hp18 : 0 ≤ (p18).toInt ∧ (p18).toInt ≤ 10) (htf0_84 : f0 84 = p18) (rf0 : AL f0) (sz : Nat) : MI l yX12_image cX12_image 3 .int { frames := 1, cells := 0, slots := 0, locals := 25 } [.ref h0, .int p0] D cy (wk_6d10e025c cy h0 p1 h1 h2 w0 w1 p2 p3 p4 p5 p6 p7 p8 p9 p10 p11 p12 w2 w3 w4 w5 w6 p13 p14 w7 w8 w9 p15 p16 w10 w11 w12 w13 w14 p17 w15 w16 w17 h1 f0 h2 f1) sz (fun r u => ((-2) ≤ r.toInt ∧ r.toInt ≤ 0) ∧ (0 ≤ (u.2.1 0 0).toInt ∧ (u.2.1 0 0).toInt ≤ 0) ∧ AL (u.2.1 1) ∧ (u.2.1 1) 84 = p18 ∧ True) (fun u => (wk_6d10e025c cy h0 (u.2.1 0 0) h1 h2 w0 w1 p2 p3 p4 p5 p6 p7 p8 p9 p10 p11 p12 w2 w3 w4 w5 w6 p13 p14 w7 w8 w9 p15 p16 w10 w11 w12 w13 w14 p17 w15 w16 w17 h1 (u.2.1 1) h2 (u.2.1 2))) 0 0 := by
  refine q_ent (own := RX12) (by decide) rfl (Nat.le_of_ble_eq_true rfl) (fun p e s m below meth c ls X hr hlk hnm hK hT h hA hl => ?_)
  obtain ⟨hx, hb, hml, hown, ht⟩ := id X
  replace hl : lv_has ls 3 [(0, .ref h0), (1, .int p0)] := hl
  refine lv_aload_n hx hb dX12_image_0 rfl (lv_at hl 0 rfl) ?_
  refine lv_iconst (v := 0) hx hb dX12_image_1 (by decide) ?_
  refine q_put (v := .int 0) X hK h 0 rfl rfl wf_12 tyX12 tyX12_ok nmX12 0 (by decide) wm_5_170 rfl rfl rfl (Nat.le_of_ble_eq_true rfl) dX12_image_2 (fun H locs h_1 => ?_)
  clear h
  replace h_1 : qW D _ _ (wk_6d10e025c cy h0 0 h1 h2 w0 w1 p2 p3 p4 p5 p6 p7 p8 p9 p10 p11 p12 w2 w3 w4 w5 w6 p13 p14 w7 w8 w9 p15 p16 w10 w11 w12 w13 w14 p17 w15 w16 w17 h1 f0 h2 f1) _ _ := h_1
  refine lv_iload_n hx hb dX12_image_5 rfl (lv_at hl 1 rfl) ?_
  refine lv_i2l hx hb dX12_image_6 rfl ?_
  obtain ⟨z_2, ez_2, hz_2⟩ := e_i2l (x := p0) rfl
  refine q_cl z_2 ez_2 ?_
  clear ez_2
  refine lv_lconst (v := 0) hx hb dX12_image_7 (by decide) ?_
  refine lv_lconst (v := 1) hx hb dX12_image_8 (by decide) ?_
  refine q_callSi (rest := []) (wr := (wk_6d10e025c cy h0 0 h1 h2 w0 w1 p2 p3 p4 p5 p6 p7 p8 p9 p10 p11 p12 w2 w3 w4 w5 w6 p13 p14 w7 w8 w9 p15 p16 w10 w11 w12 w13 w14 p17 w15 w16 w17 h1 f0 h2 f1)) X hK hT hA h_1 (fun sz => gX12_within_00c7897 l D cy z_2 (0 : Int64) (1 : Int64) (j_rng _) ⟨by decide +kernel, by decide +kernel⟩ ⟨by decide +kernel, by decide +kernel⟩ sz) wm_6_50 wm_6_52 wm_1_12 hd_X12_within wm_6_51 ⟨Nat.le_of_ble_eq_true rfl, Nat.le_of_ble_eq_true rfl⟩ hl.1 rfl (Nat.le_of_ble_eq_true rfl) dX12_image_9 ⟨Nat.le_of_ble_eq_true rfl, Nat.le_of_ble_eq_true rfl⟩ [] [0, 1, 2] rfl rfl (by decide) rfl rfl (fun r_3 u_3 H locs w_3 h_3 => ?_)
  clear h_1
  obtain ⟨wr_3, y3_0, _⟩ := w_3
  have lq_3_1 : (0 : Int64).toInt = 0 := (by decide)
  have lq_3_2 : (1 : Int64).toInt = 1 := (by decide)
  replace h_3 : qW D _ _ (wk_6d10e025c cy h0 0 h1 h2 w0 w1 p2 p3 p4 p5 p6 p7 p8 p9 p10 p11 p12 w2 w3 w4 w5 w6 p13 p14 w7 w8 w9 p15 p16 w10 w11 w12 w13 w14 p17 w15 w16 w17 h1 f0 h2 f1) _ _ := h_3
  refine lv_if_ne (tgt := 18) hx hb dX12_image_12 (by decide) (fun c_4 => ?_) (fun c_4 => ?_)
  · replace c_4 := i_ne (x := r_3) (y := 0) rfl (show (0 : Int32).toInt = 0 by decide) c_4
    replace y3_0 := a10_1 y3_0 c_4
    refine lv_iconst (v := 0) hx hb dX12_image_18 (by decide) ?_
    refine lv_istore_n (lv' := [(2, .int 0), (0, .ref h0), (1, .int p0)]) hx hb dX12_image_19 rfl hl (by decide) rfl (fun ls_5 hl_5 => ?_)
    clear hl
    refine q_wl (fun (v20_6_0 : Int32) H locs ls => ∃ v20_6_1 : Nat → Int32, (0 ≤ (v20_6_0).toInt ∧ (v20_6_0).toInt ≤ 1306) ∧ v20_6_1 84 = p18 ∧ (CPY v20_6_1 f0 (1306 * (((p0 : Int32).toInt).toNat + 1)) f0 0 ((v20_6_0 : Int32).toInt).toNat) ∧ qW D (va_A (wk_6d10e025c cy h0 p1 h1 h2 w0 w1 p2 p3 p4 p5 p6 p7 p8 p9 p10 p11 p12 w2 w3 w4 w5 w6 p13 p14 w7 w8 w9 p15 p16 w10 w11 w12 w13 w14 p17 w15 w16 w17 h1 f0 h2 f1) sz) s.heap (wk_6d10e025c cy h0 0 h1 h2 w0 w1 p2 p3 p4 p5 p6 p7 p8 p9 p10 p11 p12 w2 w3 w4 w5 w6 p13 p14 w7 w8 w9 p15 p16 w10 w11 w12 w13 w14 p17 w15 w16 w17 h1 v20_6_1 h2 f1) H locs ∧ lv_has ls 3 [(0, .ref h0), (1, .int p0), (2, .int v20_6_0)]) (fun (v20_6_0 : Int32) => (1307 - (v20_6_0).toInt).toNat) (fun q_20 ih_20 H locs ls hP => ?_) 0 ⟨f0, ⟨by decide +kernel, by decide +kernel⟩, htf0_84, (cp_0 (by decide)), h_3, (lv_sub hl_5 [1, 2, 0] rfl)⟩
    obtain ⟨v20_6_0, rfl⟩ : ∃ z, z = q_20 := ⟨_, rfl⟩
    obtain ⟨v20_6_1, hv20_6_0, trv20_6_1_84, x7_0, h, hl⟩ := hP
    refine lv_iload_n hx hb dX12_image_20 rfl (lv_at hl 2 rfl) ?_
    refine lv_sipush (v := 1306) hx hb dX12_image_21 (by decide) ?_
    refine lv_icmp_ge (tgt := 53) hx hb dX12_image_24 (by decide) (fun c_8 => ?_) (fun c_8 => ?_)
    · replace c_8 := i_le (x := 1306) (y := v20_6_0) (show (1306 : Int32).toInt = 1306 by decide) rfl c_8
      have cx_9 := al_image x7_0 (by omega) (by omega) rf0
      refine lv_aload_n hx hb dX12_image_53 rfl (lv_at hl 0 rfl) ?_
      refine q_get X hK h 0 rfl rfl wf_12 2 (by decide) rfl wm_5_172 dX12_image_54 ?_
      refine lv_iload_n hx hb dX12_image_57 rfl (lv_at hl 1 rfl) ?_
      refine lv_iconst (v := 1) hx hb dX12_image_58 (by decide) ?_
      refine q_zast X hK h 2 rfl (i_in rfl (by omega) (by omega)) dX12_image_59 (fun H locs h_11 => ?_)
      clear h
      replace h_11 : qW D _ _ (wk_6d10e025c cy h0 0 h1 h2 w0 w1 p2 p3 p4 p5 p6 p7 p8 p9 p10 p11 p12 w2 w3 w4 w5 w6 p13 p14 w7 w8 w9 p15 p16 w10 w11 w12 w13 w14 p17 w15 w16 w17 h1 v20_6_1 h2 (upd f1 (Int32.toNatClampNeg p0) (vp_nar .boolean 1))) _ _ := h_11
      obtain ⟨F_10, eF_10⟩ : ∃ z, (upd f1 (Int32.toNatClampNeg p0) (vp_nar .boolean 1)) = z := ⟨_, rfl⟩
      rw [eF_10] at h_11
      clear eF_10
      refine lv_iconst (v := 0) hx hb dX12_image_60 (by decide) ?_
      exact q_iret X hr hlk hK h_11 rfl (fun _ => 0, (vcons (fun _ => 0) (vcons v20_6_1 (vcons F_10 (fun _ => (fun _ => 0))))), fun _ _ => 0) ⟨⟨by decide +kernel, by decide +kernel⟩, (⟨by decide +kernel, by decide +kernel⟩ : 0 ≤ (0 : Int32).toInt ∧ (0 : Int32).toInt ≤ 0), cx_9, trv20_6_1_84, trivial⟩ [0, 1, 2] rfl rfl dX12_image_61 (Nat.le_of_ble_eq_true rfl) (Nat.le_of_ble_eq_true rfl)
    · replace c_8 := i_nle (x := 1306) (y := v20_6_0) (show (1306 : Int32).toInt = 1306 by decide) rfl c_8
      refine lv_aload_n hx hb dX12_image_27 rfl (lv_at hl 0 rfl) ?_
      refine q_get X hK h 0 rfl rfl wf_12 1 (by decide) rfl wm_5_171 dX12_image_28 ?_
      refine lv_sipush (v := 1306) hx hb dX12_image_31 (by decide) ?_
      refine lv_iload_n hx hb dX12_image_34 rfl (lv_at hl 1 rfl) ?_
      refine lv_iconst (v := 1) hx hb dX12_image_35 (by decide) ?_
      refine lv_iadd hx hb dX12_image_36 ?_
      obtain ⟨z_12, ez_12, hz_12⟩ := e_add (x := p0) (y := 1) rfl (show (1 : Int32).toInt = 1 by decide) (by omega) (by omega)
      refine q_c z_12 ez_12 ?_
      clear ez_12
      refine lv_imul hx hb dX12_image_37 ?_
      obtain ⟨z_13, ez_13, hz_13⟩ := e_mul (x := 1306) (y := z_12) (show (1306 : Int32).toInt = 1306 by decide) rfl (by omega) (by omega)
      refine q_c z_13 ez_13 ?_
      clear ez_13
      refine lv_iload_n hx hb dX12_image_38 rfl (lv_at hl 2 rfl) ?_
      refine lv_iadd hx hb dX12_image_39 ?_
      obtain ⟨z_14, ez_14, hz_14⟩ := e_add (x := z_13) (y := v20_6_0) rfl rfl (by omega) (by omega)
      refine q_c z_14 ez_14 ?_
      clear ez_14
      refine lv_aload_n hx hb dX12_image_40 rfl (lv_at hl 0 rfl) ?_
      refine q_get X hK h 0 rfl rfl wf_12 1 (by decide) rfl wm_5_171 dX12_image_41 ?_
      refine lv_iload_n hx hb dX12_image_44 rfl (lv_at hl 2 rfl) ?_
      refine q_iald X hK h 1 rfl (i_in rfl (by omega) (by omega)) dX12_image_45 ?_
      obtain ⟨z_15, ez_15, hz_15⟩ := e_any (v20_6_1 v20_6_0.toNatClampNeg)
      refine q_c z_15 ez_15 ?_
      refine q_iast X hK h 1 rfl (i_in rfl (by omega) (by omega)) dX12_image_46 (fun H locs h_17 => ?_)
      clear h
      replace h_17 : qW D _ _ (wk_6d10e025c cy h0 0 h1 h2 w0 w1 p2 p3 p4 p5 p6 p7 p8 p9 p10 p11 p12 w2 w3 w4 w5 w6 p13 p14 w7 w8 w9 p15 p16 w10 w11 w12 w13 w14 p17 w15 w16 w17 h1 (upd v20_6_1 (Int32.toNatClampNeg z_14) z_15) h2 f1) _ _ := h_17
      obtain ⟨F_16, eF_16⟩ : ∃ z, (upd v20_6_1 (Int32.toNatClampNeg z_14) z_15) = z := ⟨_, rfl⟩
      have trF_16_84 := (tr_ne eF_16 trv20_6_1_84 rfl (by omega))
      rw [eF_16] at h_17
      have cs_18 := cp_t x7_0 ez_15 eF_16 (by omega) (by omega) (by omega)
      obtain ⟨z_19, ez_19, hz_19⟩ := e_add (x := v20_6_0) (y := Int32.ofInt 1) rfl (b := 1) (by decide) (by omega) (by omega)
      refine lv_iinc (v := z_19) (lv' := [(2, .int z_19), (0, .ref h0), (1, .int p0)]) hx hb dX12_image_47 hl (k := 2) rfl ez_19 (by decide) rfl (fun ls_19 hl_19 => ?_)
      clear hl
      refine lv_goto (tgt := 20) hx hb dX12_image_50 (by decide) ?_
      exact ih_20 z_19 (by show (1307 - (z_19).toInt).toNat < (1307 - (v20_6_0).toInt).toNat; omega) _ _ _ ⟨F_16, ⟨by omega, by omega⟩, trF_16_84, (cp_n cs_18 (by (first | assumption | omega))), h_17, (lv_sub hl_19 [1, 2, 0] rfl)⟩
  · replace c_4 := i_eq (x := r_3) (y := 0) rfl (show (0 : Int32).toInt = 0 by decide) c_4
    replace y3_0 := a10_0 y3_0 c_4
    refine lv_bipush (v := (-2)) hx hb dX12_image_15 (by decide) ?_
    exact q_iret X hr hlk hK h_3 rfl (fun _ => 0, (vcons (fun _ => 0) (vcons f0 (vcons f1 (fun _ => (fun _ => 0))))), fun _ _ => 0) ⟨⟨by decide +kernel, by decide +kernel⟩, (⟨by decide +kernel, by decide +kernel⟩ : 0 ≤ (0 : Int32).toInt ∧ (0 : Int32).toInt ≤ 0), rf0, htf0_84, trivial⟩ [0, 1, 2] rfl rfl dX12_image_17 (Nat.le_of_ble_eq_true rfl) (Nat.le_of_ble_eq_true rfl)
set_option maxHeartbeats 4000000 in
set_option maxRecDepth 100000 in
theorem gX12_restore_ea9512c (l : Launch) (D : va_G) (cy : Nat → ClassId) (h0 : Nat) (h1 : Nat) (h2 : Nat) (p0 : Int32) (p1 : Int32) (w0 : Value) (w1 : Value) (p2 : Int32) (p3 : Int32) (p4 : Int32) (p5 : Int32) (p6 : Int32) (p7 : Int32) (p8 : Int32) (p9 : Int32) (p10 : Int32) (p11 : Int32) (p12 : Int32) (w2 : Value) (w3 : Value) (w4 : Value) (w5 : Value) (w6 : Value) (p13 : Int32) (p14 : Int32) (w7 : Value) (w8 : Value) (w9 : Value) (p15 : Int32) (p16 : Int32) (w10 : Value) (w11 : Value) (w12 : Value) (w13 : Value) (w14 : Value) (p17 : Int32) (w15 : Value) (w16 : Value) (w17 : Value) (f0 : Nat → Int32) (p18 : Int32) (f1 : Nat → Int32) (hp0 : (-2147483648) ≤ (p0).toInt ∧ (p0).toInt ≤ 2147483647) (hp1 : (-2147483648) ≤ (p1).toInt ∧ (p1).toInt ≤ 2147483647) (hp2 : 0 ≤ (p2).toInt ∧ (p2).toInt ≤ 900) (hp3 : 0 ≤ (p3).toInt ∧ (p3).toInt ≤ 900) (hp4 : 0 ≤ (p4).toInt ∧ (p4).toInt ≤ 900) (hp5 : 0 ≤ (p5).toInt ∧ (p5).toInt ≤ 900) (hp6 : (-2147483648) ≤ (p6).toInt ∧ (p6).toInt ≤ 2147483647) (hp7 : 0 ≤ (p7).toInt ∧ (p7).toInt ≤ 999) (hp8 : (-2147483648) ≤ (p8).toInt ∧ (p8).toInt ≤ 2147483647) (hp9 : (-2147483648) ≤ (p9).toInt ∧ (p9).toInt ≤ 2147483647) (hp10 : (-2147483648) ≤ (p10).toInt ∧ (p10).toInt ≤ 2147483647) (hp11 : (-2147483648) ≤ (p11).toInt ∧ (p11).toInt ≤ 2147483647) (hp12 : (-2147483648) ≤ (p12).toInt ∧ (p12).toInt ≤ 2147483647) (hp13 : (-2147483648) ≤ (p13).toInt ∧ (p13).toInt ≤ 2147483647) (hp14 : (-2147483648) ≤ (p14).toInt ∧ (p14).toInt ≤ 2147483647) (hp15 : (-2147483648) ≤ (p15).toInt ∧ (p15).toInt ≤ 2147483647) (hp16 : (-2147483648) ≤ (p16).toInt ∧ (p16).toInt ≤ 2147483647) (hp17 : (-2147483648) ≤ (p17).toInt ∧ (p17).toInt ≤ 2147483647) (hp18 : 0 ≤ (p18).toInt ∧ (p18).toInt ≤ 10) (htf0_84 : f0 84 = p18) (rf0 : AL f0) (sz : Nat) : MI l yX12_restore cX12_restore 3 .int { frames := 1, cells := 0, slots := 0, locals := 25 } [.ref h0, .int p0] D cy (wk_6d10e025c cy h0 p1 h1 h2 w0 w1 p2 p3 p4 p5 p6 p7 p8 p9 p10 p11 p12 w2 w3 w4 w5 w6 p13 p14 w7 w8 w9 p15 p16 w10 w11 w12 w13 w14 p17 w15 w16 w17 h1 f0 h2 f1) sz (fun r u => ((-5) ≤ r.toInt ∧ r.toInt ≤ 0) ∧ (0 ≤ (u.2.1 0 0).toInt ∧ (u.2.1 0 0).toInt ≤ 0) ∧ AL (u.2.1 1) ∧ (0 ≤ (u.2.1 2 0).toInt ∧ (u.2.1 2 0).toInt ≤ 10) ∧ (u.2.1 1) 84 = (u.2.1 2 0) ∧ True) (fun u => (wk_6d10e025c cy h0 (u.2.1 0 0) h1 h2 w0 w1 p2 p3 p4 p5 p6 p7 p8 p9 p10 p11 p12 w2 w3 w4 w5 w6 p13 p14 w7 w8 w9 p15 p16 w10 w11 w12 w13 w14 p17 w15 w16 w17 h1 (u.2.1 1) h2 f1)) 0 0 := by
  refine q_ent (own := RX12) (by decide) rfl (Nat.le_of_ble_eq_true rfl) (fun p e s m below meth c ls X hr hlk hnm hK hT h hA hl => ?_)
  obtain ⟨hx, hb, hml, hown, ht⟩ := id X
  replace hl : lv_has ls 3 [(0, .ref h0), (1, .int p0)] := hl
  refine lv_aload_n hx hb dX12_restore_0 rfl (lv_at hl 0 rfl) ?_
  refine lv_iconst (v := 0) hx hb dX12_restore_1 (by decide) ?_
  refine q_put (v := .int 0) X hK h 0 rfl rfl wf_12 tyX12 tyX12_ok nmX12 0 (by decide) wm_5_170 rfl rfl rfl (Nat.le_of_ble_eq_true rfl) dX12_restore_2 (fun H locs h_1 => ?_)
  clear h
  replace h_1 : qW D _ _ (wk_6d10e025c cy h0 0 h1 h2 w0 w1 p2 p3 p4 p5 p6 p7 p8 p9 p10 p11 p12 w2 w3 w4 w5 w6 p13 p14 w7 w8 w9 p15 p16 w10 w11 w12 w13 w14 p17 w15 w16 w17 h1 f0 h2 f1) _ _ := h_1
  refine lv_iload_n hx hb dX12_restore_5 rfl (lv_at hl 1 rfl) ?_
  refine lv_i2l hx hb dX12_restore_6 rfl ?_
  obtain ⟨z_2, ez_2, hz_2⟩ := e_i2l (x := p0) rfl
  refine q_cl z_2 ez_2 ?_
  clear ez_2
  refine lv_lconst (v := 0) hx hb dX12_restore_7 (by decide) ?_
  refine lv_lconst (v := 1) hx hb dX12_restore_8 (by decide) ?_
  refine q_callSi (rest := []) (wr := (wk_6d10e025c cy h0 0 h1 h2 w0 w1 p2 p3 p4 p5 p6 p7 p8 p9 p10 p11 p12 w2 w3 w4 w5 w6 p13 p14 w7 w8 w9 p15 p16 w10 w11 w12 w13 w14 p17 w15 w16 w17 h1 f0 h2 f1)) X hK hT hA h_1 (fun sz => gX12_within_00c7897 l D cy z_2 (0 : Int64) (1 : Int64) (j_rng _) ⟨by decide +kernel, by decide +kernel⟩ ⟨by decide +kernel, by decide +kernel⟩ sz) wm_6_50 wm_6_52 wm_1_12 hd_X12_within wm_6_51 ⟨Nat.le_of_ble_eq_true rfl, Nat.le_of_ble_eq_true rfl⟩ hl.1 rfl (Nat.le_of_ble_eq_true rfl) dX12_restore_9 ⟨Nat.le_of_ble_eq_true rfl, Nat.le_of_ble_eq_true rfl⟩ [] [0, 1, 2] rfl rfl (by decide) rfl rfl (fun r_3 u_3 H locs w_3 h_3 => ?_)
  clear h_1
  obtain ⟨wr_3, y3_0, _⟩ := w_3
  have lq_3_1 : (0 : Int64).toInt = 0 := (by decide)
  have lq_3_2 : (1 : Int64).toInt = 1 := (by decide)
  replace h_3 : qW D _ _ (wk_6d10e025c cy h0 0 h1 h2 w0 w1 p2 p3 p4 p5 p6 p7 p8 p9 p10 p11 p12 w2 w3 w4 w5 w6 p13 p14 w7 w8 w9 p15 p16 w10 w11 w12 w13 w14 p17 w15 w16 w17 h1 f0 h2 f1) _ _ := h_3
  refine lv_if_ne (tgt := 18) hx hb dX12_restore_12 (by decide) (fun c_4 => ?_) (fun c_4 => ?_)
  · replace c_4 := i_ne (x := r_3) (y := 0) rfl (show (0 : Int32).toInt = 0 by decide) c_4
    replace y3_0 := a10_1 y3_0 c_4
    refine lv_aload_n hx hb dX12_restore_18 rfl (lv_at hl 0 rfl) ?_
    refine q_get X hK h_3 0 rfl rfl wf_12 2 (by decide) rfl wm_5_172 dX12_restore_19 ?_
    refine lv_iload_n hx hb dX12_restore_22 rfl (lv_at hl 1 rfl) ?_
    refine q_zald X hK h_3 2 rfl (i_in rfl (by omega) (by omega)) dX12_restore_23 ?_
    refine q_any (fun z_5 hz_5 => ?_)
    refine lv_if_ne (tgt := 30) hx hb dX12_restore_24 (by decide) (fun c_6 => ?_) (fun c_6 => ?_)
    · replace c_6 := i_ne (x := z_5) (y := 0) rfl (show (0 : Int32).toInt = 0 by decide) c_6
      refine lv_iconst (v := 0) hx hb dX12_restore_30 (by decide) ?_
      refine lv_istore_n (lv' := [(2, .int 0), (0, .ref h0), (1, .int p0)]) hx hb dX12_restore_31 rfl hl (by decide) rfl (fun ls_7 hl_7 => ?_)
      clear hl
      refine q_wl (fun (v32_8_0 : Int32) H locs ls => ∃ v32_8_1 : Nat → Int32, (0 ≤ (v32_8_0).toInt ∧ (v32_8_0).toInt ≤ 1306) ∧ (CPY v32_8_1 f0 0 f0 (1306 * (((p0 : Int32).toInt).toNat + 1)) ((v32_8_0 : Int32).toInt).toNat) ∧ qW D (va_A (wk_6d10e025c cy h0 p1 h1 h2 w0 w1 p2 p3 p4 p5 p6 p7 p8 p9 p10 p11 p12 w2 w3 w4 w5 w6 p13 p14 w7 w8 w9 p15 p16 w10 w11 w12 w13 w14 p17 w15 w16 w17 h1 f0 h2 f1) sz) s.heap (wk_6d10e025c cy h0 0 h1 h2 w0 w1 p2 p3 p4 p5 p6 p7 p8 p9 p10 p11 p12 w2 w3 w4 w5 w6 p13 p14 w7 w8 w9 p15 p16 w10 w11 w12 w13 w14 p17 w15 w16 w17 h1 v32_8_1 h2 f1) H locs ∧ lv_has ls 3 [(0, .ref h0), (1, .int p0), (2, .int v32_8_0)]) (fun (v32_8_0 : Int32) => (1307 - (v32_8_0).toInt).toNat) (fun q_32 ih_32 H locs ls hP => ?_) 0 ⟨f0, ⟨by decide +kernel, by decide +kernel⟩, (cp_0 (by decide)), h_3, (lv_sub hl_7 [1, 2, 0] rfl)⟩
      obtain ⟨v32_8_0, rfl⟩ : ∃ z, z = q_32 := ⟨_, rfl⟩
      obtain ⟨v32_8_1, hv32_8_0, x9_0, h, hl⟩ := hP
      refine lv_iload_n hx hb dX12_restore_32 rfl (lv_at hl 2 rfl) ?_
      refine lv_sipush (v := 1306) hx hb dX12_restore_33 (by decide) ?_
      refine lv_icmp_ge (tgt := 65) hx hb dX12_restore_36 (by decide) (fun c_10 => ?_) (fun c_10 => ?_)
      · replace c_10 := i_le (x := 1306) (y := v32_8_0) (show (1306 : Int32).toInt = 1306 by decide) rfl c_10
        have cx_11 := al_restore x9_0 (by omega) (by omega) rf0
        obtain ⟨z_12, ez_12, hz_12⟩ := al_N84 cx_11
        refine lv_aload_n hx hb dX12_restore_65 rfl (lv_at hl 0 rfl) ?_
        refine q_get X hK h 0 rfl rfl wf_12 1 (by decide) rfl wm_5_171 dX12_restore_66 ?_
        refine lv_bipush (v := 84) hx hb dX12_restore_69 (by decide) ?_
        refine lv_iconst (v := 0) hx hb dX12_restore_71 (by decide) ?_
        refine q_iast X hK h 1 rfl (q_in (by decide +kernel)) dX12_restore_72 (fun H locs h_14 => ?_)
        clear h
        replace h_14 : qW D _ _ (wk_6d10e025c cy h0 0 h1 h2 w0 w1 p2 p3 p4 p5 p6 p7 p8 p9 p10 p11 p12 w2 w3 w4 w5 w6 p13 p14 w7 w8 w9 p15 p16 w10 w11 w12 w13 w14 p17 w15 w16 w17 h1 (upd v32_8_1 (Int32.toNatClampNeg 84) 0) h2 f1) _ _ := h_14
        obtain ⟨F_13, eF_13, rF_13⟩ := al_upd cx_11 (i := 84) (x := 0) (show (84 : Int32).toInt = 84 by decide) (show (0 : Int32).toInt = 0 by decide) (by omega)
        have trF_13_84 := (tr_eq eF_13 (k := 84) (x := 84) (by decide))
        rw [eF_13] at h_14
        clear eF_13
        refine lv_iconst (v := 0) hx hb dX12_restore_73 (by decide) ?_
        exact q_iret X hr hlk hK h_14 rfl (fun _ => 0, (vcons (fun _ => 0) (vcons F_13 (vcons (fun _ => 0) (fun _ => (fun _ => 0))))), fun _ _ => 0) ⟨⟨by decide +kernel, by decide +kernel⟩, (⟨by decide +kernel, by decide +kernel⟩ : 0 ≤ (0 : Int32).toInt ∧ (0 : Int32).toInt ≤ 0), rF_13, (⟨by decide +kernel, by decide +kernel⟩ : 0 ≤ (0 : Int32).toInt ∧ (0 : Int32).toInt ≤ 10), trF_13_84, trivial⟩ [0, 1, 2] rfl rfl dX12_restore_74 (Nat.le_of_ble_eq_true rfl) (Nat.le_of_ble_eq_true rfl)
      · replace c_10 := i_nle (x := 1306) (y := v32_8_0) (show (1306 : Int32).toInt = 1306 by decide) rfl c_10
        refine lv_aload_n hx hb dX12_restore_39 rfl (lv_at hl 0 rfl) ?_
        refine q_get X hK h 0 rfl rfl wf_12 1 (by decide) rfl wm_5_171 dX12_restore_40 ?_
        refine lv_iload_n hx hb dX12_restore_43 rfl (lv_at hl 2 rfl) ?_
        refine lv_aload_n hx hb dX12_restore_44 rfl (lv_at hl 0 rfl) ?_
        refine q_get X hK h 0 rfl rfl wf_12 1 (by decide) rfl wm_5_171 dX12_restore_45 ?_
        refine lv_sipush (v := 1306) hx hb dX12_restore_48 (by decide) ?_
        refine lv_iload_n hx hb dX12_restore_51 rfl (lv_at hl 1 rfl) ?_
        refine lv_iconst (v := 1) hx hb dX12_restore_52 (by decide) ?_
        refine lv_iadd hx hb dX12_restore_53 ?_
        obtain ⟨z_15, ez_15, hz_15⟩ := e_add (x := p0) (y := 1) rfl (show (1 : Int32).toInt = 1 by decide) (by omega) (by omega)
        refine q_c z_15 ez_15 ?_
        clear ez_15
        refine lv_imul hx hb dX12_restore_54 ?_
        obtain ⟨z_16, ez_16, hz_16⟩ := e_mul (x := 1306) (y := z_15) (show (1306 : Int32).toInt = 1306 by decide) rfl (by omega) (by omega)
        refine q_c z_16 ez_16 ?_
        clear ez_16
        refine lv_iload_n hx hb dX12_restore_55 rfl (lv_at hl 2 rfl) ?_
        refine lv_iadd hx hb dX12_restore_56 ?_
        obtain ⟨z_17, ez_17, hz_17⟩ := e_add (x := z_16) (y := v32_8_0) rfl rfl (by omega) (by omega)
        refine q_c z_17 ez_17 ?_
        clear ez_17
        refine q_iald X hK h 1 rfl (i_in rfl (by omega) (by omega)) dX12_restore_57 ?_
        obtain ⟨z_18, ez_18, hz_18⟩ := e_any (v32_8_1 z_17.toNatClampNeg)
        refine q_c z_18 ez_18 ?_
        refine q_iast X hK h 1 rfl (i_in rfl (by omega) (by omega)) dX12_restore_58 (fun H locs h_20 => ?_)
        clear h
        replace h_20 : qW D _ _ (wk_6d10e025c cy h0 0 h1 h2 w0 w1 p2 p3 p4 p5 p6 p7 p8 p9 p10 p11 p12 w2 w3 w4 w5 w6 p13 p14 w7 w8 w9 p15 p16 w10 w11 w12 w13 w14 p17 w15 w16 w17 h1 (upd v32_8_1 (Int32.toNatClampNeg v32_8_0) z_18) h2 f1) _ _ := h_20
        obtain ⟨F_19, eF_19⟩ : ∃ z, (upd v32_8_1 (Int32.toNatClampNeg v32_8_0) z_18) = z := ⟨_, rfl⟩
        rw [eF_19] at h_20
        have cs_21 := cp_t x9_0 ez_18 eF_19 (by omega) (by omega) (by omega)
        obtain ⟨z_22, ez_22, hz_22⟩ := e_add (x := v32_8_0) (y := Int32.ofInt 1) rfl (b := 1) (by decide) (by omega) (by omega)
        refine lv_iinc (v := z_22) (lv' := [(2, .int z_22), (0, .ref h0), (1, .int p0)]) hx hb dX12_restore_59 hl (k := 2) rfl ez_22 (by decide) rfl (fun ls_22 hl_22 => ?_)
        clear hl
        refine lv_goto (tgt := 32) hx hb dX12_restore_62 (by decide) ?_
        exact ih_32 z_22 (by show (1307 - (z_22).toInt).toNat < (1307 - (v32_8_0).toInt).toNat; omega) _ _ _ ⟨F_19, ⟨by omega, by omega⟩, (cp_n cs_21 (by (first | assumption | omega))), h_20, (lv_sub hl_22 [1, 2, 0] rfl)⟩
    · replace c_6 := i_eq (x := z_5) (y := 0) rfl (show (0 : Int32).toInt = 0 by decide) c_6
      refine lv_bipush (v := (-5)) hx hb dX12_restore_27 (by decide) ?_
      exact q_iret X hr hlk hK h_3 rfl (fun _ => 0, (vcons (fun _ => 0) (vcons f0 (vcons (fun _ => p18) (fun _ => (fun _ => 0))))), fun _ _ => 0) ⟨⟨by decide +kernel, by decide +kernel⟩, (⟨by decide +kernel, by decide +kernel⟩ : 0 ≤ (0 : Int32).toInt ∧ (0 : Int32).toInt ≤ 0), rf0, hp18, htf0_84, trivial⟩ [0, 1, 2] rfl rfl dX12_restore_29 (Nat.le_of_ble_eq_true rfl) (Nat.le_of_ble_eq_true rfl)
  · replace c_4 := i_eq (x := r_3) (y := 0) rfl (show (0 : Int32).toInt = 0 by decide) c_4
    replace y3_0 := a10_0 y3_0 c_4
    refine lv_bipush (v := (-2)) hx hb dX12_restore_15 (by decide) ?_
    exact q_iret X hr hlk hK h_3 rfl (fun _ => 0, (vcons (fun _ => 0) (vcons f0 (vcons (fun _ => p18) (fun _ => (fun _ => 0))))), fun _ _ => 0) ⟨⟨by decide +kernel, by decide +kernel⟩, (⟨by decide +kernel, by decide +kernel⟩ : 0 ≤ (0 : Int32).toInt ∧ (0 : Int32).toInt ≤ 0), rf0, hp18, htf0_84, trivial⟩ [0, 1, 2] rfl rfl dX12_restore_17 (Nat.le_of_ble_eq_true rfl) (Nat.le_of_ble_eq_true rfl)
set_option maxHeartbeats 4000000 in
set_option maxRecDepth 100000 in
theorem gX12_twosNow_e3aaf67 (l : Launch) (D : va_G) (cy : Nat → ClassId) (h0 : Nat) (h1 : Nat) (h2 : Nat) (h3 : Nat) (h4 : Nat) (p0 : Int32) (w0 : Value) (w1 : Value) (w2 : Value) (p1 : Int32) (p2 : Int32) (p3 : Int32) (p4 : Int32) (p5 : Int32) (p6 : Int32) (p7 : Int32) (p8 : Int32) (p9 : Int32) (p10 : Int32) (p11 : Int32) (w3 : Value) (w4 : Value) (p12 : Int32) (p13 : Int32) (w5 : Value) (w6 : Value) (w7 : Value) (p14 : Int32) (p15 : Int32) (w8 : Value) (w9 : Value) (w10 : Value) (w11 : Value) (w12 : Value) (p16 : Int32) (w13 : Value) (w14 : Value) (w15 : Value) (f0 : Nat → Int32) (p17 : Int32) (f1 : Nat → Int32) (f2 : Nat → Int32) (f3 : Nat → Int32) (hp0 : 0 ≤ (p0).toInt ∧ (p0).toInt ≤ 0) (hp1 : 0 ≤ (p1).toInt ∧ (p1).toInt ≤ 900) (hp2 : 0 ≤ (p2).toInt ∧ (p2).toInt ≤ 900) (hp3 : 0 ≤ (p3).toInt ∧ (p3).toInt ≤ 900) (hp4 : 0 ≤ (p4).toInt ∧ (p4).toInt ≤ 900) (hp5 : (-2147483648) ≤ (p5).toInt ∧ (p5).toInt ≤ 2147483647) (hp6 : 0 ≤ (p6).toInt ∧ (p6).toInt ≤ 999) (hp7 : (-2147483648) ≤ (p7).toInt ∧ (p7).toInt ≤ 2147483647) (hp8 : (-2147483648) ≤ (p8).toInt ∧ (p8).toInt ≤ 2147483647) (hp9 : (-2147483648) ≤ (p9).toInt ∧ (p9).toInt ≤ 2147483647) (hp10 : (-2147483648) ≤ (p10).toInt ∧ (p10).toInt ≤ 2147483647) (hp11 : (-2147483648) ≤ (p11).toInt ∧ (p11).toInt ≤ 2147483647) (hp12 : (-2147483648) ≤ (p12).toInt ∧ (p12).toInt ≤ 2147483647) (hp13 : (-2147483648) ≤ (p13).toInt ∧ (p13).toInt ≤ 2147483647) (hp14 : (-2147483648) ≤ (p14).toInt ∧ (p14).toInt ≤ 2147483647) (hp15 : (-2147483648) ≤ (p15).toInt ∧ (p15).toInt ≤ 2147483647) (hp16 : (-2147483648) ≤ (p16).toInt ∧ (p16).toInt ≤ 2147483647) (hp17 : 0 ≤ (p17).toInt ∧ (p17).toInt ≤ 10) (htf0_84 : f0 84 = p17) (rf0 : AL f0) (rf3 : RG f3 10 0 1023) (sz : Nat) : MI l yX12_twosNow cX12_twosNow 3 .int { frames := 4, cells := 0, slots := 0, locals := 94 } [.ref h0] D cy (wk_8b19a8a79 cy h0 p0 h1 w0 w1 w2 p1 p2 p3 p4 p5 p6 p7 p8 p9 p10 p11 h2 h3 w3 h4 w4 p12 p13 w5 w6 w7 p14 p15 w8 w9 w10 w11 w12 p16 w13 w14 w15 h1 f0 h2 f1 h3 f2 h4 f3) sz (fun r u => ((-2147483648) ≤ r.toInt ∧ r.toInt ≤ 2147483647) ∧ RG (u.2.1 2) 10 0 1023 ∧ True) (fun u => (wk_8b19a8a79 cy h0 p0 h1 w0 w1 w2 p1 p2 p3 p4 p5 p6 p7 p8 p9 p10 p11 h2 h3 w3 h4 w4 p12 p13 w5 w6 w7 p14 p15 w8 w9 w10 w11 w12 p16 w13 w14 w15 h1 f0 h2 (u.2.1 0) h3 (u.2.1 1) h4 (u.2.1 2))) 0 0 := by
  refine q_ent (own := RX12) (by decide) rfl (Nat.le_of_ble_eq_true rfl) (fun p e s m below meth c ls X hr hlk hnm hK hT h hA hl => ?_)
  obtain ⟨hx, hb, hml, hown, ht⟩ := id X
  replace hl : lv_has ls 3 [(0, .ref h0)] := hl
  refine lv_aload_n hx hb dX12_twosNow_0 rfl (lv_at hl 0 rfl) ?_
  refine lv_aload_n hx hb dX12_twosNow_1 rfl (lv_at hl 0 rfl) ?_
  refine q_get X hK h 0 rfl rfl wf_12 1 (by decide) rfl wm_5_171 dX12_twosNow_2 ?_
  refine lv_bipush (v := 52) hx hb dX12_twosNow_5 (by decide) ?_
  refine q_iald X hK h 1 rfl (q_in (by decide +kernel)) dX12_twosNow_7 ?_
  refine q_any (fun z_1 hz_1 => ?_)
  refine q_callVv (rest := []) (wr := []) X hK hT hA h (fun sz => gX12_laysOpposed_6a814f8 l D cy h0 h1 h2 h3 h4 z_1 p0 w0 w1 w2 p1 p2 p3 p4 p5 p6 p7 p8 p9 p10 p11 w3 w4 p12 p13 w5 w6 w7 p14 p15 w8 w9 w10 w11 w12 p16 w13 w14 w15 f0 p17 f1 f2 f3 (i_rng _) hp0 hp1 hp2 hp3 hp4 (i_rng _) hp6 (i_rng _) (i_rng _) (i_rng _) (i_rng _) (i_rng _) (i_rng _) (i_rng _) (i_rng _) (i_rng _) (i_rng _) hp17 htf0_84 rf0 (rg_wide rf3 (by decide) (by decide)) sz) wm_7_59 wm_7_62 wm_1_12 hd_X12_laysOpposed wm_7_61 wp_6_12 (ci := 12) (q0 := 0) rfl rfl ⟨Nat.le_of_ble_eq_true rfl, Nat.le_of_ble_eq_true rfl⟩ hl.1 rfl (Nat.le_of_ble_eq_true rfl) dX12_twosNow_8 ⟨Nat.le_of_ble_eq_true rfl, Nat.le_of_ble_eq_true rfl⟩ [0, 1, 2, 3, 4] [] rfl rfl (by decide) rfl rfl (fun u_2 H locs w_2 h_2 => ?_)
  clear h
  obtain ⟨w2_0, _⟩ := w_2
  replace h_2 : qW D _ _ (wk_8b19a8a79 cy h0 p0 h1 w0 w1 w2 p1 p2 p3 p4 p5 p6 p7 p8 p9 p10 p11 h2 h3 w3 h4 w4 p12 p13 w5 w6 w7 p14 p15 w8 w9 w10 w11 w12 p16 w13 w14 w15 h1 f0 h2 (u_2.2.1 0) h3 (u_2.2.1 1) h4 (u_2.2.1 2)) _ _ := h_2
  refine lv_iconst (v := 0) hx hb dX12_twosNow_11 (by decide) ?_
  refine lv_istore_n (lv' := [(1, .int 0), (0, .ref h0)]) hx hb dX12_twosNow_12 rfl hl (by decide) rfl (fun ls_3 hl_3 => ?_)
  clear hl
  refine lv_iconst (v := 0) hx hb dX12_twosNow_13 (by decide) ?_
  refine lv_istore_n (lv' := [(2, .int 0), (1, .int 0), (0, .ref h0)]) hx hb dX12_twosNow_14 rfl hl_3 (by decide) rfl (fun ls_4 hl_4 => ?_)
  clear hl_3
  refine q_wl (fun (q : Int32 × Int32) H locs ls => match q with | (v15_5_0, v15_5_1) => (0 ≤ (v15_5_0).toInt ∧ (v15_5_0).toInt ≤ 10) ∧ ((-2147483648) ≤ (v15_5_1).toInt ∧ (v15_5_1).toInt ≤ 2147483647) ∧ qW D (va_A (wk_8b19a8a79 cy h0 p0 h1 w0 w1 w2 p1 p2 p3 p4 p5 p6 p7 p8 p9 p10 p11 h2 h3 w3 h4 w4 p12 p13 w5 w6 w7 p14 p15 w8 w9 w10 w11 w12 p16 w13 w14 w15 h1 f0 h2 f1 h3 f2 h4 f3) sz) s.heap (wk_8b19a8a79 cy h0 p0 h1 w0 w1 w2 p1 p2 p3 p4 p5 p6 p7 p8 p9 p10 p11 h2 h3 w3 h4 w4 p12 p13 w5 w6 w7 p14 p15 w8 w9 w10 w11 w12 p16 w13 w14 w15 h1 f0 h2 (u_2.2.1 0) h3 (u_2.2.1 1) h4 (u_2.2.1 2)) H locs ∧ lv_has ls 3 [(0, .ref h0), (1, .int v15_5_1), (2, .int v15_5_0)]) (fun (q : Int32 × Int32) => match q with | (v15_5_0, v15_5_1) => (11 - (v15_5_0).toInt).toNat) (fun q_15 ih_15 H locs ls hP => ?_) (0, 0) ⟨⟨by decide +kernel, by decide +kernel⟩, ⟨by decide +kernel, by decide +kernel⟩, h_2, (lv_sub hl_4 [2, 1, 0] rfl)⟩
  obtain ⟨v15_5_0, v15_5_1⟩ := q_15
  obtain ⟨hv15_5_0, hv15_5_1, h, hl⟩ := hP
  refine lv_iload_n hx hb dX12_twosNow_15 rfl (lv_at hl 2 rfl) ?_
  refine lv_aload_n hx hb dX12_twosNow_16 rfl (lv_at hl 0 rfl) ?_
  refine q_get X hK h 0 rfl rfl wf_12 1 (by decide) rfl wm_5_171 dX12_twosNow_17 ?_
  refine lv_iconst (v := 2) hx hb dX12_twosNow_20 (by decide) ?_
  refine q_iald X hK h 1 rfl (q_in (by decide +kernel)) dX12_twosNow_21 ?_
  obtain ⟨z_6, ez_6, hz_6⟩ := al_P rf0 (x := 2) (show (2 : Int32).toInt = 2 by decide) (by omega) (by omega)
  refine q_c z_6 ez_6 ?_
  clear ez_6
  refine lv_icmp_ge (tgt := 43) hx hb dX12_twosNow_22 (by decide) (fun c_7 => ?_) (fun c_7 => ?_)
  · replace c_7 := i_le (x := z_6) (y := v15_5_0) rfl rfl c_7
    refine lv_iload_n hx hb dX12_twosNow_43 rfl (lv_at hl 1 rfl) ?_
    refine lv_iconst (v := 2) hx hb dX12_twosNow_44 (by decide) ?_
    refine lv_idiv hx hb dX12_twosNow_45 (by decide) ?_
    refine q_any (fun z_8 hz_8 => ?_)
    exact q_iret X hr hlk hK h rfl (fun _ => 0, (vcons (u_2.2.1 0) (vcons (u_2.2.1 1) (vcons (u_2.2.1 2) (fun _ => (fun _ => 0))))), fun _ _ => 0) ⟨⟨by omega, by omega⟩, (rg_wide w2_0 (by decide) (by decide)), trivial⟩ [0, 1, 2, 3, 4] rfl rfl dX12_twosNow_46 (Nat.le_of_ble_eq_true rfl) (Nat.le_of_ble_eq_true rfl)
  · replace c_7 := i_nle (x := z_6) (y := v15_5_0) rfl rfl c_7
    refine lv_iload_n hx hb dX12_twosNow_25 rfl (lv_at hl 1 rfl) ?_
    refine lv_aload_n hx hb dX12_twosNow_26 rfl (lv_at hl 0 rfl) ?_
    refine q_get X hK h 0 rfl rfl wf_12 19 (by decide) rfl wm_5_189 dX12_twosNow_27 ?_
    refine lv_iload_n hx hb dX12_twosNow_30 rfl (lv_at hl 2 rfl) ?_
    refine q_iald X hK h 4 rfl (i_in rfl (by omega) (by omega)) dX12_twosNow_31 ?_
    obtain ⟨z_9, ez_9, hz_9⟩ := rg_get w2_0 (x := v15_5_0) rfl (by omega) (by omega)
    refine q_c z_9 ez_9 ?_
    clear ez_9
    refine q_callSi (rest := [.int v15_5_1]) (wr := (wk_8b19a8a79 cy h0 p0 h1 w0 w1 w2 p1 p2 p3 p4 p5 p6 p7 p8 p9 p10 p11 h2 h3 w3 h4 w4 p12 p13 w5 w6 w7 p14 p15 w8 w9 w10 w11 w12 p16 w13 w14 w15 h1 f0 h2 (u_2.2.1 0) h3 (u_2.2.1 1) h4 (u_2.2.1 2))) X hK hT hA h (fun sz => gX12_bitsOf_5a43b1c l D cy z_9 (i_rng _) sz) wm_7_8 wm_7_10 wm_1_12 hd_X12_bitsOf wm_7_9 ⟨Nat.le_of_ble_eq_true rfl, Nat.le_of_ble_eq_true rfl⟩ hl.1 rfl (Nat.le_of_ble_eq_true rfl) dX12_twosNow_32 ⟨Nat.le_of_ble_eq_true rfl, Nat.le_of_ble_eq_true rfl⟩ [] [0, 1, 2, 3, 4] rfl rfl (by decide) rfl rfl (fun r_10 u_10 H locs w_10 h_10 => ?_)
    clear h
    obtain ⟨wr_10, _⟩ := w_10
    replace h_10 : qW D _ _ (wk_8b19a8a79 cy h0 p0 h1 w0 w1 w2 p1 p2 p3 p4 p5 p6 p7 p8 p9 p10 p11 h2 h3 w3 h4 w4 p12 p13 w5 w6 w7 p14 p15 w8 w9 w10 w11 w12 p16 w13 w14 w15 h1 f0 h2 (u_2.2.1 0) h3 (u_2.2.1 1) h4 (u_2.2.1 2)) _ _ := h_10
    refine lv_iadd hx hb dX12_twosNow_35 ?_
    refine q_any (fun z_11 hz_11 => ?_)
    refine lv_istore_n (lv' := [(1, .int z_11), (0, .ref h0), (2, .int v15_5_0)]) hx hb dX12_twosNow_36 rfl hl (by decide) rfl (fun ls_12 hl_12 => ?_)
    clear hl
    obtain ⟨z_13, ez_13, hz_13⟩ := e_add (x := v15_5_0) (y := Int32.ofInt 1) rfl (b := 1) (by decide) (by omega) (by omega)
    refine lv_iinc (v := z_13) (lv' := [(2, .int z_13), (1, .int z_11), (0, .ref h0)]) hx hb dX12_twosNow_37 hl_12 (k := 2) rfl ez_13 (by decide) rfl (fun ls_13 hl_13 => ?_)
    clear hl_12
    refine lv_goto (tgt := 15) hx hb dX12_twosNow_40 (by decide) ?_
    exact ih_15 (z_13, z_11) (by show (11 - (z_13).toInt).toNat < (11 - (v15_5_0).toInt).toNat; omega) _ _ _ ⟨⟨by omega, by omega⟩, ⟨by omega, by omega⟩, h_10, (lv_sub hl_13 [2, 1, 0] rfl)⟩
set_option maxHeartbeats 4000000 in
set_option maxRecDepth 100000 in
theorem gX12_count_ed51c5e (l : Launch) (D : va_G) (cy : Nat → ClassId) (h0 : Nat) (h1 : Nat) (h2 : Nat) (h3 : Nat) (h4 : Nat) (p0 : Int32) (p1 : Int32) (w0 : Value) (w1 : Value) (w2 : Value) (p2 : Int32) (p3 : Int32) (p4 : Int32) (p5 : Int32) (p6 : Int32) (p7 : Int32) (p8 : Int32) (p9 : Int32) (p10 : Int32) (p11 : Int32) (p12 : Int32) (w3 : Value) (w4 : Value) (p13 : Int32) (p14 : Int32) (w5 : Value) (w6 : Value) (w7 : Value) (p15 : Int32) (p16 : Int32) (w8 : Value) (w9 : Value) (w10 : Value) (w11 : Value) (w12 : Value) (p17 : Int32) (w13 : Value) (w14 : Value) (w15 : Value) (f0 : Nat → Int32) (p18 : Int32) (f1 : Nat → Int32) (f2 : Nat → Int32) (f3 : Nat → Int32) (hp0 : (-2147483648) ≤ (p0).toInt ∧ (p0).toInt ≤ 2147483647) (hp1 : (-2147483648) ≤ (p1).toInt ∧ (p1).toInt ≤ 2147483647) (hp2 : 0 ≤ (p2).toInt ∧ (p2).toInt ≤ 900) (hp3 : 0 ≤ (p3).toInt ∧ (p3).toInt ≤ 900) (hp4 : 0 ≤ (p4).toInt ∧ (p4).toInt ≤ 900) (hp5 : 0 ≤ (p5).toInt ∧ (p5).toInt ≤ 900) (hp6 : (-2147483648) ≤ (p6).toInt ∧ (p6).toInt ≤ 2147483647) (hp7 : 0 ≤ (p7).toInt ∧ (p7).toInt ≤ 999) (hp8 : (-2147483648) ≤ (p8).toInt ∧ (p8).toInt ≤ 2147483647) (hp9 : (-2147483648) ≤ (p9).toInt ∧ (p9).toInt ≤ 2147483647) (hp10 : (-2147483648) ≤ (p10).toInt ∧ (p10).toInt ≤ 2147483647) (hp11 : (-2147483648) ≤ (p11).toInt ∧ (p11).toInt ≤ 2147483647) (hp12 : (-2147483648) ≤ (p12).toInt ∧ (p12).toInt ≤ 2147483647) (hp13 : (-2147483648) ≤ (p13).toInt ∧ (p13).toInt ≤ 2147483647) (hp14 : (-2147483648) ≤ (p14).toInt ∧ (p14).toInt ≤ 2147483647) (hp15 : (-2147483648) ≤ (p15).toInt ∧ (p15).toInt ≤ 2147483647) (hp16 : (-2147483648) ≤ (p16).toInt ∧ (p16).toInt ≤ 2147483647) (hp17 : (-2147483648) ≤ (p17).toInt ∧ (p17).toInt ≤ 2147483647) (hp18 : 0 ≤ (p18).toInt ∧ (p18).toInt ≤ 10) (htf0_84 : f0 84 = p18) (rf0 : AL f0) (rf3 : RG f3 10 0 1023) (sz : Nat) : MI l yX12_count cX12_count 2 .int { frames := 5, cells := 0, slots := 0, locals := 116 } [.ref h0, .int p0] D cy (wk_8b19a8a79 cy h0 p1 h1 w0 w1 w2 p2 p3 p4 p5 p6 p7 p8 p9 p10 p11 p12 h2 h3 w3 h4 w4 p13 p14 w5 w6 w7 p15 p16 w8 w9 w10 w11 w12 p17 w13 w14 w15 h1 f0 h2 f1 h3 f2 h4 f3) sz (fun r u => ((-2147483648) ≤ r.toInt ∧ r.toInt ≤ 2147483647) ∧ (0 ≤ (u.2.1 0 0).toInt ∧ (u.2.1 0 0).toInt ≤ 0) ∧ RG (u.2.1 3) 10 0 1023 ∧ True) (fun u => (wk_8b19a8a79 cy h0 (u.2.1 0 0) h1 w0 w1 w2 p2 p3 p4 p5 p6 p7 p8 p9 p10 p11 p12 h2 h3 w3 h4 w4 p13 p14 w5 w6 w7 p15 p16 w8 w9 w10 w11 w12 p17 w13 w14 w15 h1 f0 h2 (u.2.1 1) h3 (u.2.1 2) h4 (u.2.1 3))) 0 0 := by
  refine q_ent (own := RX12) (by decide) rfl (Nat.le_of_ble_eq_true rfl) (fun p e s m below meth c ls X hr hlk hnm hK hT h hA hl => ?_)
  obtain ⟨hx, hb, hml, hown, ht⟩ := id X
  replace hl : lv_has ls 2 [(0, .ref h0), (1, .int p0)] := hl
  refine lv_aload_n hx hb dX12_count_0 rfl (lv_at hl 0 rfl) ?_
  refine lv_iconst (v := 0) hx hb dX12_count_1 (by decide) ?_
  refine q_put (v := .int 0) X hK h 0 rfl rfl wf_12 tyX12 tyX12_ok nmX12 0 (by decide) wm_5_170 rfl rfl rfl (Nat.le_of_ble_eq_true rfl) dX12_count_2 (fun H locs h_1 => ?_)
  clear h
  replace h_1 : qW D _ _ (wk_8b19a8a79 cy h0 0 h1 w0 w1 w2 p2 p3 p4 p5 p6 p7 p8 p9 p10 p11 p12 h2 h3 w3 h4 w4 p13 p14 w5 w6 w7 p15 p16 w8 w9 w10 w11 w12 p17 w13 w14 w15 h1 f0 h2 f1 h3 f2 h4 f3) _ _ := h_1
  refine lv_iload_n hx hb dX12_count_5 rfl (lv_at hl 1 rfl) ?_
  by_cases c_2 : p0 = 0
  · have ec_2 : (p0).toInt = 0 := by rw [c_2]; decide
    refine lv_tableIn (off := 50) (tgt := 56) hx hb dX12_count_6 (by rw [c_2]; decide +kernel) (by rw [c_2]; decide +kernel) (by rw [c_2]; decide +kernel) (by decide) ?_
    refine lv_aload_n hx hb dX12_count_56 rfl (lv_at hl 0 rfl) ?_
    refine q_get X hK h_1 0 rfl rfl wf_12 1 (by decide) rfl wm_5_171 dX12_count_57 ?_
    refine lv_iconst (v := 1) hx hb dX12_count_60 (by decide) ?_
    refine q_iald X hK h_1 1 rfl (q_in (by decide +kernel)) dX12_count_61 ?_
    obtain ⟨z_3, ez_3, hz_3⟩ := al_V rf0 (x := 1) (show (1 : Int32).toInt = 1 by decide) (by omega) (by omega)
    refine q_c z_3 ez_3 ?_
    clear ez_3
    exact q_iret X hr hlk hK h_1 rfl (fun _ => 0, (vcons (fun _ => 0) (vcons f1 (vcons f2 (vcons f3 (fun _ => (fun _ => 0)))))), fun _ _ => 0) ⟨⟨by omega, by omega⟩, (⟨by decide +kernel, by decide +kernel⟩ : 0 ≤ (0 : Int32).toInt ∧ (0 : Int32).toInt ≤ 0), (rg_wide rf3 (by decide) (by decide)), trivial⟩ [0, 1, 2, 3, 4] rfl rfl dX12_count_62 (Nat.le_of_ble_eq_true rfl) (Nat.le_of_ble_eq_true rfl)
  by_cases c_4 : p0 = 1
  · have ec_4 : (p0).toInt = 1 := by rw [c_4]; decide
    refine lv_tableIn (off := 57) (tgt := 63) hx hb dX12_count_6 (by rw [c_4]; decide +kernel) (by rw [c_4]; decide +kernel) (by rw [c_4]; decide +kernel) (by decide) ?_
    refine lv_aload_n hx hb dX12_count_63 rfl (lv_at hl 0 rfl) ?_
    refine q_get X hK h_1 0 rfl rfl wf_12 1 (by decide) rfl wm_5_171 dX12_count_64 ?_
    refine lv_iconst (v := 2) hx hb dX12_count_67 (by decide) ?_
    refine q_iald X hK h_1 1 rfl (q_in (by decide +kernel)) dX12_count_68 ?_
    obtain ⟨z_5, ez_5, hz_5⟩ := al_P rf0 (x := 2) (show (2 : Int32).toInt = 2 by decide) (by omega) (by omega)
    refine q_c z_5 ez_5 ?_
    clear ez_5
    exact q_iret X hr hlk hK h_1 rfl (fun _ => 0, (vcons (fun _ => 0) (vcons f1 (vcons f2 (vcons f3 (fun _ => (fun _ => 0)))))), fun _ _ => 0) ⟨⟨by omega, by omega⟩, (⟨by decide +kernel, by decide +kernel⟩ : 0 ≤ (0 : Int32).toInt ∧ (0 : Int32).toInt ≤ 0), (rg_wide rf3 (by decide) (by decide)), trivial⟩ [0, 1, 2, 3, 4] rfl rfl dX12_count_69 (Nat.le_of_ble_eq_true rfl) (Nat.le_of_ble_eq_true rfl)
  by_cases c_6 : p0 = 2
  · have ec_6 : (p0).toInt = 2 := by rw [c_6]; decide
    refine lv_tableIn (off := 64) (tgt := 70) hx hb dX12_count_6 (by rw [c_6]; decide +kernel) (by rw [c_6]; decide +kernel) (by rw [c_6]; decide +kernel) (by decide) ?_
    refine lv_aload_n hx hb dX12_count_70 rfl (lv_at hl 0 rfl) ?_
    refine q_callVi (rest := []) (wr := (wk_ce6a1f133 cy h2 f1 h3 f2 h4 f3)) X hK hT hA h_1 (fun sz => gX12_townNow_2907b4b l D cy h0 h1 (0 : Int32) w0 w1 w2 p2 p3 p4 p5 p6 p7 p8 p9 p10 p11 p12 (.ref h2) (.ref h3) w3 (.ref h4) w4 p13 p14 w5 w6 w7 p15 p16 w8 w9 w10 w11 w12 p17 w13 w14 w15 f0 p18 ⟨by decide +kernel, by decide +kernel⟩ hp2 hp3 hp4 hp5 (i_rng _) hp7 (i_rng _) (i_rng _) (i_rng _) (i_rng _) (i_rng _) (i_rng _) (i_rng _) (i_rng _) (i_rng _) (i_rng _) hp18 htf0_84 rf0 sz) wm_6_170 wm_6_173 wm_1_12 hd_X12_townNow wm_6_172 wp_5_9 (ci := 12) (q0 := 0) rfl rfl ⟨Nat.le_of_ble_eq_true rfl, Nat.le_of_ble_eq_true rfl⟩ hl.1 rfl (Nat.le_of_ble_eq_true rfl) dX12_count_71 ⟨Nat.le_of_ble_eq_true rfl, Nat.le_of_ble_eq_true rfl⟩ [0, 1] [2, 3, 4] rfl rfl (by decide) rfl rfl (fun r_7 u_7 H locs w_7 h_7 => ?_)
    clear h_1
    obtain ⟨wr_7, _⟩ := w_7
    replace h_7 : qW D _ _ (wk_6bef7693d cy h2 f1 h3 f2 h4 f3 h0 0 h1 w0 w1 w2 p2 p3 p4 p5 p6 p7 p8 p9 p10 p11 p12 h2 h3 w3 h4 w4 p13 p14 w5 w6 w7 p15 p16 w8 w9 w10 w11 w12 p17 w13 w14 w15 h1 f0) _ _ := h_7
    exact q_iret X hr hlk hK h_7 rfl (fun _ => 0, (vcons (fun _ => 0) (vcons f1 (vcons f2 (vcons f3 (fun _ => (fun _ => 0)))))), fun _ _ => 0) ⟨(bw wr_7 (by decide) (by decide)), (⟨by decide +kernel, by decide +kernel⟩ : 0 ≤ (0 : Int32).toInt ∧ (0 : Int32).toInt ≤ 0), (rg_wide rf3 (by decide) (by decide)), trivial⟩ [3, 4, 0, 1, 2] rfl rfl dX12_count_74 (Nat.le_of_ble_eq_true rfl) (Nat.le_of_ble_eq_true rfl)
  by_cases c_8 : p0 = 3
  · have ec_8 : (p0).toInt = 3 := by rw [c_8]; decide
    refine lv_tableIn (off := 69) (tgt := 75) hx hb dX12_count_6 (by rw [c_8]; decide +kernel) (by rw [c_8]; decide +kernel) (by rw [c_8]; decide +kernel) (by decide) ?_
    refine lv_aload_n hx hb dX12_count_75 rfl (lv_at hl 0 rfl) ?_
    refine q_get X hK h_1 0 rfl rfl wf_12 1 (by decide) rfl wm_5_171 dX12_count_76 ?_
    refine lv_bipush (v := 53) hx hb dX12_count_79 (by decide) ?_
    refine q_iald X hK h_1 1 rfl (q_in (by decide +kernel)) dX12_count_81 ?_
    refine q_any (fun z_9 hz_9 => ?_)
    exact q_iret X hr hlk hK h_1 rfl (fun _ => 0, (vcons (fun _ => 0) (vcons f1 (vcons f2 (vcons f3 (fun _ => (fun _ => 0)))))), fun _ _ => 0) ⟨⟨by omega, by omega⟩, (⟨by decide +kernel, by decide +kernel⟩ : 0 ≤ (0 : Int32).toInt ∧ (0 : Int32).toInt ≤ 0), (rg_wide rf3 (by decide) (by decide)), trivial⟩ [0, 1, 2, 3, 4] rfl rfl dX12_count_82 (Nat.le_of_ble_eq_true rfl) (Nat.le_of_ble_eq_true rfl)
  by_cases c_10 : p0 = 4
  · have ec_10 : (p0).toInt = 4 := by rw [c_10]; decide
    refine lv_tableIn (off := 77) (tgt := 83) hx hb dX12_count_6 (by rw [c_10]; decide +kernel) (by rw [c_10]; decide +kernel) (by rw [c_10]; decide +kernel) (by decide) ?_
    refine lv_aload_n hx hb dX12_count_83 rfl (lv_at hl 0 rfl) ?_
    refine q_get X hK h_1 0 rfl rfl wf_12 1 (by decide) rfl wm_5_171 dX12_count_84 ?_
    refine lv_bipush (v := 52) hx hb dX12_count_87 (by decide) ?_
    refine q_iald X hK h_1 1 rfl (q_in (by decide +kernel)) dX12_count_89 ?_
    refine q_any (fun z_11 hz_11 => ?_)
    exact q_iret X hr hlk hK h_1 rfl (fun _ => 0, (vcons (fun _ => 0) (vcons f1 (vcons f2 (vcons f3 (fun _ => (fun _ => 0)))))), fun _ _ => 0) ⟨⟨by omega, by omega⟩, (⟨by decide +kernel, by decide +kernel⟩ : 0 ≤ (0 : Int32).toInt ∧ (0 : Int32).toInt ≤ 0), (rg_wide rf3 (by decide) (by decide)), trivial⟩ [0, 1, 2, 3, 4] rfl rfl dX12_count_90 (Nat.le_of_ble_eq_true rfl) (Nat.le_of_ble_eq_true rfl)
  by_cases c_12 : p0 = 5
  · have ec_12 : (p0).toInt = 5 := by rw [c_12]; decide
    refine lv_tableIn (off := 85) (tgt := 91) hx hb dX12_count_6 (by rw [c_12]; decide +kernel) (by rw [c_12]; decide +kernel) (by rw [c_12]; decide +kernel) (by decide) ?_
    refine lv_aload_n hx hb dX12_count_91 rfl (lv_at hl 0 rfl) ?_
    refine q_callVi (rest := []) (wr := []) X hK hT hA h_1 (fun sz => gX12_twosNow_e3aaf67 l D cy h0 h1 h2 h3 h4 (0 : Int32) w0 w1 w2 p2 p3 p4 p5 p6 p7 p8 p9 p10 p11 p12 w3 w4 p13 p14 w5 w6 w7 p15 p16 w8 w9 w10 w11 w12 p17 w13 w14 w15 f0 p18 f1 f2 f3 ⟨by decide +kernel, by decide +kernel⟩ hp2 hp3 hp4 hp5 (i_rng _) hp7 (i_rng _) (i_rng _) (i_rng _) (i_rng _) (i_rng _) (i_rng _) (i_rng _) (i_rng _) (i_rng _) (i_rng _) hp18 htf0_84 rf0 (rg_wide rf3 (by decide) (by decide)) sz) wm_8_55 wm_8_58 wm_1_12 hd_X12_twosNow wm_8_57 wp_8_4 (ci := 12) (q0 := 0) rfl rfl ⟨Nat.le_of_ble_eq_true rfl, Nat.le_of_ble_eq_true rfl⟩ hl.1 rfl (Nat.le_of_ble_eq_true rfl) dX12_count_92 ⟨Nat.le_of_ble_eq_true rfl, Nat.le_of_ble_eq_true rfl⟩ [0, 1, 2, 3, 4] [] rfl rfl (by decide) rfl rfl (fun r_13 u_13 H locs w_13 h_13 => ?_)
    clear h_1
    obtain ⟨wr_13, w13_0, _⟩ := w_13
    replace h_13 : qW D _ _ (wk_8b19a8a79 cy h0 0 h1 w0 w1 w2 p2 p3 p4 p5 p6 p7 p8 p9 p10 p11 p12 h2 h3 w3 h4 w4 p13 p14 w5 w6 w7 p15 p16 w8 w9 w10 w11 w12 p17 w13 w14 w15 h1 f0 h2 (u_13.2.1 0) h3 (u_13.2.1 1) h4 (u_13.2.1 2)) _ _ := h_13
    exact q_iret X hr hlk hK h_13 rfl (fun _ => 0, (vcons (fun _ => 0) (vcons (u_13.2.1 0) (vcons (u_13.2.1 1) (vcons (u_13.2.1 2) (fun _ => (fun _ => 0)))))), fun _ _ => 0) ⟨wr_13, (⟨by decide +kernel, by decide +kernel⟩ : 0 ≤ (0 : Int32).toInt ∧ (0 : Int32).toInt ≤ 0), (rg_wide w13_0 (by decide) (by decide)), trivial⟩ [0, 1, 2, 3, 4] rfl rfl dX12_count_95 (Nat.le_of_ble_eq_true rfl) (Nat.le_of_ble_eq_true rfl)
  by_cases c_14 : p0 = 6
  · have ec_14 : (p0).toInt = 6 := by rw [c_14]; decide
    refine lv_tableIn (off := 90) (tgt := 96) hx hb dX12_count_6 (by rw [c_14]; decide +kernel) (by rw [c_14]; decide +kernel) (by rw [c_14]; decide +kernel) (by decide) ?_
    refine lv_aload_n hx hb dX12_count_96 rfl (lv_at hl 0 rfl) ?_
    refine q_get X hK h_1 0 rfl rfl wf_12 1 (by decide) rfl wm_5_171 dX12_count_97 ?_
    refine lv_bipush (v := 84) hx hb dX12_count_100 (by decide) ?_
    refine q_iald X hK h_1 1 rfl (q_in (by decide +kernel)) dX12_count_102 ?_
    refine q_c p18 htf0_84 ?_
    exact q_iret X hr hlk hK h_1 rfl (fun _ => 0, (vcons (fun _ => 0) (vcons f1 (vcons f2 (vcons f3 (fun _ => (fun _ => 0)))))), fun _ _ => 0) ⟨(bw hp18 (by decide) (by decide)), (⟨by decide +kernel, by decide +kernel⟩ : 0 ≤ (0 : Int32).toInt ∧ (0 : Int32).toInt ≤ 0), (rg_wide rf3 (by decide) (by decide)), trivial⟩ [0, 1, 2, 3, 4] rfl rfl dX12_count_103 (Nat.le_of_ble_eq_true rfl) (Nat.le_of_ble_eq_true rfl)
  by_cases c_15 : p0 = 7
  · have ec_15 : (p0).toInt = 7 := by rw [c_15]; decide
    refine lv_tableIn (off := 98) (tgt := 104) hx hb dX12_count_6 (by rw [c_15]; decide +kernel) (by rw [c_15]; decide +kernel) (by rw [c_15]; decide +kernel) (by decide) ?_
    refine lv_aload_n hx hb dX12_count_104 rfl (lv_at hl 0 rfl) ?_
    refine q_get X hK h_1 0 rfl rfl wf_12 5 (by decide) rfl wm_5_175 dX12_count_105 ?_
    exact q_iret X hr hlk hK h_1 rfl (fun _ => 0, (vcons (fun _ => 0) (vcons f1 (vcons f2 (vcons f3 (fun _ => (fun _ => 0)))))), fun _ _ => 0) ⟨(bw hp2 (by decide) (by decide)), (⟨by decide +kernel, by decide +kernel⟩ : 0 ≤ (0 : Int32).toInt ∧ (0 : Int32).toInt ≤ 0), (rg_wide rf3 (by decide) (by decide)), trivial⟩ [0, 1, 2, 3, 4] rfl rfl dX12_count_108 (Nat.le_of_ble_eq_true rfl) (Nat.le_of_ble_eq_true rfl)
  by_cases c_16 : p0 = 8
  · have ec_16 : (p0).toInt = 8 := by rw [c_16]; decide
    refine lv_tableIn (off := 103) (tgt := 109) hx hb dX12_count_6 (by rw [c_16]; decide +kernel) (by rw [c_16]; decide +kernel) (by rw [c_16]; decide +kernel) (by decide) ?_
    refine lv_aload_n hx hb dX12_count_109 rfl (lv_at hl 0 rfl) ?_
    refine q_get X hK h_1 0 rfl rfl wf_12 1 (by decide) rfl wm_5_171 dX12_count_110 ?_
    refine lv_iconst (v := 0) hx hb dX12_count_113 (by decide) ?_
    refine q_iald X hK h_1 1 rfl (q_in (by decide +kernel)) dX12_count_114 ?_
    refine q_any (fun z_17 hz_17 => ?_)
    exact q_iret X hr hlk hK h_1 rfl (fun _ => 0, (vcons (fun _ => 0) (vcons f1 (vcons f2 (vcons f3 (fun _ => (fun _ => 0)))))), fun _ _ => 0) ⟨⟨by omega, by omega⟩, (⟨by decide +kernel, by decide +kernel⟩ : 0 ≤ (0 : Int32).toInt ∧ (0 : Int32).toInt ≤ 0), (rg_wide rf3 (by decide) (by decide)), trivial⟩ [0, 1, 2, 3, 4] rfl rfl dX12_count_115 (Nat.le_of_ble_eq_true rfl) (Nat.le_of_ble_eq_true rfl)
  have nc_2 := lv_neT c_2 (show (0 : Int32).toInt = 0 by decide)
  have nc_4 := lv_neT c_4 (show (1 : Int32).toInt = 1 by decide)
  have nc_6 := lv_neT c_6 (show (2 : Int32).toInt = 2 by decide)
  have nc_8 := lv_neT c_8 (show (3 : Int32).toInt = 3 by decide)
  have nc_10 := lv_neT c_10 (show (4 : Int32).toInt = 4 by decide)
  have nc_12 := lv_neT c_12 (show (5 : Int32).toInt = 5 by decide)
  have nc_14 := lv_neT c_14 (show (6 : Int32).toInt = 6 by decide)
  have nc_15 := lv_neT c_15 (show (7 : Int32).toInt = 7 by decide)
  have nc_16 := lv_neT c_16 (show (8 : Int32).toInt = 8 by decide)
  refine lv_tableOut (tgt := 116) hx hb dX12_count_6 (by omega) (by decide) ?_
  refine lv_iconst (v := (-1)) hx hb dX12_count_116 (by decide) ?_
  exact q_iret X hr hlk hK h_1 rfl (fun _ => 0, (vcons (fun _ => 0) (vcons f1 (vcons f2 (vcons f3 (fun _ => (fun _ => 0)))))), fun _ _ => 0) ⟨⟨by decide +kernel, by decide +kernel⟩, (⟨by decide +kernel, by decide +kernel⟩ : 0 ≤ (0 : Int32).toInt ∧ (0 : Int32).toInt ≤ 0), (rg_wide rf3 (by decide) (by decide)), trivial⟩ [0, 1, 2, 3, 4] rfl rfl dX12_count_117 (Nat.le_of_ble_eq_true rfl) (Nat.le_of_ble_eq_true rfl)
