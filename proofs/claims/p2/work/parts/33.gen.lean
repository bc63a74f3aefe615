def wk_6d10e025c (cy : Nat → ClassId) (a0 : Nat) (a1 : Int32) (a2 a3 : Nat) (a4 a5 : Value) (a6 a7 a8 a9 a10 a11 a12 a13 a14 a15 a16 : Int32) (a17 a18 a19 a20 a21 : Value) (a22 a23 : Int32) (a24 a25 a26 : Value) (a27 a28 : Int32) (a29 a30 a31 a32 a33 : Value) (a34 : Int32) (a35 a36 a37 : Value) (a38 : Nat) (a39 : Nat → Int32) (a40 : Nat) (a41 : Nat → Int32) : va_W := [(a0, .inr (12, [.int a1, .ref a2, .ref a3, a4, a5, .int a6, .int a7, .int a8, .int a9, .int a10, .int a11, .int a12, .int a13, .int a14, .int a15, .int a16, a17, a18, a19, a20, a21, .int a22, .int a23, a24, a25, a26, .int a27, .int a28, a29, a30, a31, a32, a33, .int a34, a35, a36, a37])), (a38, .inl (cy 1, 3918, .inl a39)), (a40, .inl (cy 3, 2, .inl a41))]
theorem wm_5_172 : Cond.fieldLink RX12 17 "OppositeHouseModel" "hasImage" "[Z" ∈ WG := wg_t5 (List.mem_of_getElem? (i := 172) rfl) rfl
theorem wm_8_55 : Cond.methodLink RX12 435 yX12_twosNow ∈ WG := wg_t8 (List.mem_of_getElem? (i := 55) rfl) rfl
theorem wm_8_58 : Cond.code yX12_twosNow cX12_twosNow 3 (some .int) ∈ WG := wg_t8 (List.mem_of_getElem? (i := 58) rfl) rfl
theorem wm_8_57 : Cond.instanceMethod yX12_twosNow ∈ WG := wg_t8 (List.mem_of_getElem? (i := 57) rfl) rfl
theorem wp_8_4 : Cond.selects RX12 yX12_twosNow yX12_twosNow ∈ WG := wg_p (q := (yX12_twosNow, 37)) (wg_p8 (List.mem_of_getElem? (i := 4) rfl)) rfl
theorem hd_X12_twosNow : yX12_twosNow.cls ≠ "java/lang/invoke/MethodHandle" ∧ yX12_twosNow.cls ≠ "java/lang/invoke/VarHandle" ∧ (parseMethodDescriptor yX12_twosNow.desc).map (fun d => d.parameters.length) = some 0 := by decide +kernel
theorem dX12_count_0 : decode cX12_count 0 = .ok (.aload_n 0, 1) := by decide +kernel
theorem dX12_count_1 : decode cX12_count 1 = .ok (.iconst 0, 1) := by decide +kernel
theorem dX12_count_2 : decode cX12_count 2 = .ok (.putfield 1, 3) := by decide +kernel
theorem dX12_count_5 : decode cX12_count 5 = .ok (.iload_n 1, 1) := by decide +kernel
theorem dX12_count_6 : decode cX12_count 6 = .ok (.tableswitch 110 0 8 #[50, 57, 64, 69, 77, 85, 90, 98, 103], 50) := by decide +kernel
theorem dX12_count_56 : decode cX12_count 56 = .ok (.aload_n 0, 1) := by decide +kernel
theorem dX12_count_57 : decode cX12_count 57 = .ok (.getfield 13, 3) := by decide +kernel
theorem dX12_count_60 : decode cX12_count 60 = .ok (.iconst 1, 1) := by decide +kernel
theorem dX12_count_61 : decode cX12_count 61 = .ok (.iaload, 1) := by decide +kernel
theorem dX12_count_62 : decode cX12_count 62 = .ok (.ireturn, 1) := by decide +kernel
theorem dX12_count_63 : decode cX12_count 63 = .ok (.aload_n 0, 1) := by decide +kernel
theorem dX12_count_64 : decode cX12_count 64 = .ok (.getfield 13, 3) := by decide +kernel
theorem dX12_count_67 : decode cX12_count 67 = .ok (.iconst 2, 1) := by decide +kernel
theorem dX12_count_68 : decode cX12_count 68 = .ok (.iaload, 1) := by decide +kernel
theorem dX12_count_69 : decode cX12_count 69 = .ok (.ireturn, 1) := by decide +kernel
theorem dX12_count_70 : decode cX12_count 70 = .ok (.aload_n 0, 1) := by decide +kernel
theorem dX12_count_71 : decode cX12_count 71 = .ok (.invokevirtual 255, 3) := by decide +kernel
theorem dX12_count_74 : decode cX12_count 74 = .ok (.ireturn, 1) := by decide +kernel
theorem dX12_count_75 : decode cX12_count 75 = .ok (.aload_n 0, 1) := by decide +kernel
theorem dX12_count_76 : decode cX12_count 76 = .ok (.getfield 13, 3) := by decide +kernel
theorem dX12_count_79 : decode cX12_count 79 = .ok (.bipush 53, 2) := by decide +kernel
theorem dX12_count_81 : decode cX12_count 81 = .ok (.iaload, 1) := by decide +kernel
theorem dX12_count_82 : decode cX12_count 82 = .ok (.ireturn, 1) := by decide +kernel
theorem dX12_count_83 : decode cX12_count 83 = .ok (.aload_n 0, 1) := by decide +kernel
theorem dX12_count_84 : decode cX12_count 84 = .ok (.getfield 13, 3) := by decide +kernel
theorem dX12_count_87 : decode cX12_count 87 = .ok (.bipush 52, 2) := by decide +kernel
theorem dX12_count_89 : decode cX12_count 89 = .ok (.iaload, 1) := by decide +kernel
theorem dX12_count_90 : decode cX12_count 90 = .ok (.ireturn, 1) := by decide +kernel
theorem dX12_count_91 : decode cX12_count 91 = .ok (.aload_n 0, 1) := by decide +kernel
theorem dX12_count_92 : decode cX12_count 92 = .ok (.invokevirtual 435, 3) := by decide +kernel
theorem dX12_count_95 : decode cX12_count 95 = .ok (.ireturn, 1) := by decide +kernel
theorem dX12_count_96 : decode cX12_count 96 = .ok (.aload_n 0, 1) := by decide +kernel
theorem dX12_count_97 : decode cX12_count 97 = .ok (.getfield 13, 3) := by decide +kernel
theorem dX12_count_100 : decode cX12_count 100 = .ok (.bipush 84, 2) := by decide +kernel
theorem dX12_count_102 : decode cX12_count 102 = .ok (.iaload, 1) := by decide +kernel
theorem dX12_count_103 : decode cX12_count 103 = .ok (.ireturn, 1) := by decide +kernel
theorem dX12_count_104 : decode cX12_count 104 = .ok (.aload_n 0, 1) := by decide +kernel
theorem dX12_count_105 : decode cX12_count 105 = .ok (.getfield 83, 3) := by decide +kernel
theorem dX12_count_108 : decode cX12_count 108 = .ok (.ireturn, 1) := by decide +kernel
theorem dX12_count_109 : decode cX12_count 109 = .ok (.aload_n 0, 1) := by decide +kernel
theorem dX12_count_110 : decode cX12_count 110 = .ok (.getfield 13, 3) := by decide +kernel
theorem dX12_count_113 : decode cX12_count 113 = .ok (.iconst 0, 1) := by decide +kernel
theorem dX12_count_114 : decode cX12_count 114 = .ok (.iaload, 1) := by decide +kernel
theorem dX12_count_115 : decode cX12_count 115 = .ok (.ireturn, 1) := by decide +kernel
theorem dX12_count_116 : decode cX12_count 116 = .ok (.iconst (-1), 1) := by decide +kernel
theorem dX12_count_117 : decode cX12_count 117 = .ok (.ireturn, 1) := by decide +kernel
theorem dX12_image_0 : decode cX12_image 0 = .ok (.aload_n 0, 1) := by decide +kernel
theorem dX12_image_1 : decode cX12_image 1 = .ok (.iconst 0, 1) := by decide +kernel
theorem dX12_image_2 : decode cX12_image 2 = .ok (.putfield 1, 3) := by decide +kernel
theorem dX12_image_5 : decode cX12_image 5 = .ok (.iload_n 1, 1) := by decide +kernel
theorem dX12_image_6 : decode cX12_image 6 = .ok (.i2l, 1) := by decide +kernel
theorem dX12_image_7 : decode cX12_image 7 = .ok (.lconst 0, 1) := by decide +kernel
theorem dX12_image_8 : decode cX12_image 8 = .ok (.lconst 1, 1) := by decide +kernel
theorem dX12_image_9 : decode cX12_image 9 = .ok (.invokestatic 145, 3) := by decide +kernel
theorem dX12_image_12 : decode cX12_image 12 = .ok (.ifCond .ne 6, 3) := by decide +kernel
theorem dX12_image_15 : decode cX12_image 15 = .ok (.bipush (-2), 2) := by decide +kernel
theorem dX12_image_17 : decode cX12_image 17 = .ok (.ireturn, 1) := by decide +kernel
theorem dX12_image_18 : decode cX12_image 18 = .ok (.iconst 0, 1) := by decide +kernel
theorem dX12_image_19 : decode cX12_image 19 = .ok (.istore_n 2, 1) := by decide +kernel
theorem dX12_image_20 : decode cX12_image 20 = .ok (.iload_n 2, 1) := by decide +kernel
theorem dX12_image_21 : decode cX12_image 21 = .ok (.sipush 1306, 3) := by decide +kernel
theorem dX12_image_24 : decode cX12_image 24 = .ok (.if_icmp .ge 29, 3) := by decide +kernel
theorem dX12_image_27 : decode cX12_image 27 = .ok (.aload_n 0, 1) := by decide +kernel
theorem dX12_image_28 : decode cX12_image 28 = .ok (.getfield 13, 3) := by decide +kernel
theorem dX12_image_31 : decode cX12_image 31 = .ok (.sipush 1306, 3) := by decide +kernel
theorem dX12_image_34 : decode cX12_image 34 = .ok (.iload_n 1, 1) := by decide +kernel
theorem dX12_image_35 : decode cX12_image 35 = .ok (.iconst 1, 1) := by decide +kernel
theorem dX12_image_36 : decode cX12_image 36 = .ok (.iadd, 1) := by decide +kernel
theorem dX12_image_37 : decode cX12_image 37 = .ok (.imul, 1) := by decide +kernel
theorem dX12_image_38 : decode cX12_image 38 = .ok (.iload_n 2, 1) := by decide +kernel
theorem dX12_image_39 : decode cX12_image 39 = .ok (.iadd, 1) := by decide +kernel
theorem dX12_image_40 : decode cX12_image 40 = .ok (.aload_n 0, 1) := by decide +kernel
theorem dX12_image_41 : decode cX12_image 41 = .ok (.getfield 13, 3) := by decide +kernel
theorem dX12_image_44 : decode cX12_image 44 = .ok (.iload_n 2, 1) := by decide +kernel
theorem dX12_image_45 : decode cX12_image 45 = .ok (.iaload, 1) := by decide +kernel
theorem dX12_image_46 : decode cX12_image 46 = .ok (.iastore, 1) := by decide +kernel
theorem dX12_image_47 : decode cX12_image 47 = .ok (.iinc 2 1, 3) := by decide +kernel
theorem dX12_image_50 : decode cX12_image 50 = .ok (.goto (-30), 3) := by decide +kernel
theorem dX12_image_53 : decode cX12_image 53 = .ok (.aload_n 0, 1) := by decide +kernel
theorem dX12_image_54 : decode cX12_image 54 = .ok (.getfield 17, 3) := by decide +kernel
theorem dX12_image_57 : decode cX12_image 57 = .ok (.iload_n 1, 1) := by decide +kernel
theorem dX12_image_58 : decode cX12_image 58 = .ok (.iconst 1, 1) := by decide +kernel
theorem dX12_image_59 : decode cX12_image 59 = .ok (.bastore, 1) := by decide +kernel
theorem dX12_image_60 : decode cX12_image 60 = .ok (.iconst 0, 1) := by decide +kernel
theorem dX12_image_61 : decode cX12_image 61 = .ok (.ireturn, 1) := by decide +kernel
theorem dX12_restore_0 : decode cX12_restore 0 = .ok (.aload_n 0, 1) := by decide +kernel
theorem dX12_restore_1 : decode cX12_restore 1 = .ok (.iconst 0, 1) := by decide +kernel
theorem dX12_restore_2 : decode cX12_restore 2 = .ok (.putfield 1, 3) := by decide +kernel
theorem dX12_restore_5 : decode cX12_restore 5 = .ok (.iload_n 1, 1) := by decide +kernel
theorem dX12_restore_6 : decode cX12_restore 6 = .ok (.i2l, 1) := by decide +kernel
theorem dX12_restore_7 : decode cX12_restore 7 = .ok (.lconst 0, 1) := by decide +kernel
theorem dX12_restore_8 : decode cX12_restore 8 = .ok (.lconst 1, 1) := by decide +kernel
theorem dX12_restore_9 : decode cX12_restore 9 = .ok (.invokestatic 145, 3) := by decide +kernel
theorem dX12_restore_12 : decode cX12_restore 12 = .ok (.ifCond .ne 6, 3) := by decide +kernel
theorem dX12_restore_15 : decode cX12_restore 15 = .ok (.bipush (-2), 2) := by decide +kernel
theorem dX12_restore_17 : decode cX12_restore 17 = .ok (.ireturn, 1) := by decide +kernel
theorem dX12_restore_18 : decode cX12_restore 18 = .ok (.aload_n 0, 1) := by decide +kernel
theorem dX12_restore_19 : decode cX12_restore 19 = .ok (.getfield 17, 3) := by decide +kernel
theorem dX12_restore_22 : decode cX12_restore 22 = .ok (.iload_n 1, 1) := by decide +kernel
theorem dX12_restore_23 : decode cX12_restore 23 = .ok (.baload, 1) := by decide +kernel
theorem dX12_restore_24 : decode cX12_restore 24 = .ok (.ifCond .ne 6, 3) := by decide +kernel
theorem dX12_restore_27 : decode cX12_restore 27 = .ok (.bipush (-5), 2) := by decide +kernel
theorem dX12_restore_29 : decode cX12_restore 29 = .ok (.ireturn, 1) := by decide +kernel
theorem dX12_restore_30 : decode cX12_restore 30 = .ok (.iconst 0, 1) := by decide +kernel
theorem dX12_restore_31 : decode cX12_restore 31 = .ok (.istore_n 2, 1) := by decide +kernel
theorem dX12_restore_32 : decode cX12_restore 32 = .ok (.iload_n 2, 1) := by decide +kernel
theorem dX12_restore_33 : decode cX12_restore 33 = .ok (.sipush 1306, 3) := by decide +kernel
theorem dX12_restore_36 : decode cX12_restore 36 = .ok (.if_icmp .ge 29, 3) := by decide +kernel
theorem dX12_restore_39 : decode cX12_restore 39 = .ok (.aload_n 0, 1) := by decide +kernel
theorem dX12_restore_40 : decode cX12_restore 40 = .ok (.getfield 13, 3) := by decide +kernel
theorem dX12_restore_43 : decode cX12_restore 43 = .ok (.iload_n 2, 1) := by decide +kernel
theorem dX12_restore_44 : decode cX12_restore 44 = .ok (.aload_n 0, 1) := by decide +kernel
theorem dX12_restore_45 : decode cX12_restore 45 = .ok (.getfield 13, 3) := by decide +kernel
theorem dX12_restore_48 : decode cX12_restore 48 = .ok (.sipush 1306, 3) := by decide +kernel
theorem dX12_restore_51 : decode cX12_restore 51 = .ok (.iload_n 1, 1) := by decide +kernel
theorem dX12_restore_52 : decode cX12_restore 52 = .ok (.iconst 1, 1) := by decide +kernel
theorem dX12_restore_53 : decode cX12_restore 53 = .ok (.iadd, 1) := by decide +kernel
theorem dX12_restore_54 : decode cX12_restore 54 = .ok (.imul, 1) := by decide +kernel
theorem dX12_restore_55 : decode cX12_restore 55 = .ok (.iload_n 2, 1) := by decide +kernel
theorem dX12_restore_56 : decode cX12_restore 56 = .ok (.iadd, 1) := by decide +kernel
theorem dX12_restore_57 : decode cX12_restore 57 = .ok (.iaload, 1) := by decide +kernel
theorem dX12_restore_58 : decode cX12_restore 58 = .ok (.iastore, 1) := by decide +kernel
theorem dX12_restore_59 : decode cX12_restore 59 = .ok (.iinc 2 1, 3) := by decide +kernel
theorem dX12_restore_62 : decode cX12_restore 62 = .ok (.goto (-30), 3) := by decide +kernel
theorem dX12_restore_65 : decode cX12_restore 65 = .ok (.aload_n 0, 1) := by decide +kernel
theorem dX12_restore_66 : decode cX12_restore 66 = .ok (.getfield 13, 3) := by decide +kernel
theorem dX12_restore_69 : decode cX12_restore 69 = .ok (.bipush 84, 2) := by decide +kernel
theorem dX12_restore_71 : decode cX12_restore 71 = .ok (.iconst 0, 1) := by decide +kernel
theorem dX12_restore_72 : decode cX12_restore 72 = .ok (.iastore, 1) := by decide +kernel
theorem dX12_restore_73 : decode cX12_restore 73 = .ok (.iconst 0, 1) := by decide +kernel
theorem dX12_restore_74 : decode cX12_restore 74 = .ok (.ireturn, 1) := by decide +kernel
theorem dX12_twosNow_0 : decode cX12_twosNow 0 = .ok (.aload_n 0, 1) := by decide +kernel
theorem dX12_twosNow_1 : decode cX12_twosNow 1 = .ok (.aload_n 0, 1) := by decide +kernel
theorem dX12_twosNow_2 : decode cX12_twosNow 2 = .ok (.getfield 13, 3) := by decide +kernel
theorem dX12_twosNow_5 : decode cX12_twosNow 5 = .ok (.bipush 52, 2) := by decide +kernel
theorem dX12_twosNow_7 : decode cX12_twosNow 7 = .ok (.iaload, 1) := by decide +kernel
theorem dX12_twosNow_8 : decode cX12_twosNow 8 = .ok (.invokevirtual 340, 3) := by decide +kernel
theorem dX12_twosNow_11 : decode cX12_twosNow 11 = .ok (.iconst 0, 1) := by decide +kernel
theorem dX12_twosNow_12 : decode cX12_twosNow 12 = .ok (.istore_n 1, 1) := by decide +kernel
theorem dX12_twosNow_13 : decode cX12_twosNow 13 = .ok (.iconst 0, 1) := by decide +kernel
theorem dX12_twosNow_14 : decode cX12_twosNow 14 = .ok (.istore_n 2, 1) := by decide +kernel
theorem dX12_twosNow_15 : decode cX12_twosNow 15 = .ok (.iload_n 2, 1) := by decide +kernel
theorem dX12_twosNow_16 : decode cX12_twosNow 16 = .ok (.aload_n 0, 1) := by decide +kernel
theorem dX12_twosNow_17 : decode cX12_twosNow 17 = .ok (.getfield 13, 3) := by decide +kernel
theorem dX12_twosNow_20 : decode cX12_twosNow 20 = .ok (.iconst 2, 1) := by decide +kernel
theorem dX12_twosNow_21 : decode cX12_twosNow 21 = .ok (.iaload, 1) := by decide +kernel
theorem dX12_twosNow_22 : decode cX12_twosNow 22 = .ok (.if_icmp .ge 21, 3) := by decide +kernel
theorem dX12_twosNow_25 : decode cX12_twosNow 25 = .ok (.iload_n 1, 1) := by decide +kernel
theorem dX12_twosNow_26 : decode cX12_twosNow 26 = .ok (.aload_n 0, 1) := by decide +kernel
theorem dX12_twosNow_27 : decode cX12_twosNow 27 = .ok (.getfield 39, 3) := by decide +kernel
theorem dX12_twosNow_30 : decode cX12_twosNow 30 = .ok (.iload_n 2, 1) := by decide +kernel
theorem dX12_twosNow_31 : decode cX12_twosNow 31 = .ok (.iaload, 1) := by decide +kernel
theorem dX12_twosNow_32 : decode cX12_twosNow 32 = .ok (.invokestatic 281, 3) := by decide +kernel
theorem dX12_twosNow_35 : decode cX12_twosNow 35 = .ok (.iadd, 1) := by decide +kernel
theorem dX12_twosNow_36 : decode cX12_twosNow 36 = .ok (.istore_n 1, 1) := by decide +kernel
theorem dX12_twosNow_37 : decode cX12_twosNow 37 = .ok (.iinc 2 1, 3) := by decide +kernel
theorem dX12_twosNow_40 : decode cX12_twosNow 40 = .ok (.goto (-25), 3) := by decide +kernel
theorem dX12_twosNow_43 : decode cX12_twosNow 43 = .ok (.iload_n 1, 1) := by decide +kernel
theorem dX12_twosNow_44 : decode cX12_twosNow 44 = .ok (.iconst 2, 1) := by decide +kernel
theorem dX12_twosNow_45 : decode cX12_twosNow 45 = .ok (.idiv, 1) := by decide +kernel
theorem dX12_twosNow_46 : decode cX12_twosNow 46 = .ok (.ireturn, 1) := by decide +kernel
set_option maxHeartbeats 4000000 in
set_option maxRecDepth 100000 in
theorem gX12_image_b9527e2 (l : Launch) (D : va_G) (cy : Nat → ClassId) (h0 : Nat) (h1 : Nat) (h2 : Nat) (p0 : Int32) (p1 : Int32) (w0 : Value) (w1 : Value) (p2 : Int32) (p3 : Int32) (p4 : Int32) (p5 : Int32) (p6 : Int32) (p7 : Int32) (p8 : Int32) (p9 : Int32) (p10 : Int32) (p11 : Int32) (p12 : Int32) (w2 : Value) (w3 : Value) (w4 : Value) (w5 : Value) (w6 : Value) (p13 : Int32) (p14 : Int32) (w7 : Value) (w8 : Value) (w9 : Value) (p15 : Int32) (p16 : Int32) (w10 : Value) (w11 : Value) (w12 : Value) (w13 : Value) (w14 : Value) (p17 : Int32) (w15 : Value) (w16 : Value) (w17 : Value) (f0 : Nat → Int32) (p18 : Int32) (f1 : Nat → Int32) (hp0 : (-2147483648) ≤ (p0).toInt ∧ (p0).toInt ≤ 2147483647) (hp1 : (-2147483648) ≤ (p1).toInt ∧ (p1).toInt ≤ 2147483647) (hp2 : 0 ≤ (p2).toInt ∧ (p2).toInt ≤ 900) (hp3 : 0 ≤ (p3).toInt ∧ (p3).toInt ≤ 900) (hp4 : 0 ≤ (p4).toInt ∧ (p4).toInt ≤ 900) (hp5 : 0 ≤ (p5).toInt ∧ (p5).toInt ≤ 900) (hp6 : (-2147483648) ≤ (p6).toInt ∧ (p6).toInt ≤ 2147483647) (hp7 : 0 ≤ (p7).toInt ∧ (p7).toInt ≤ 999) (hp8 : (-2147483648) ≤ (p8).toInt ∧ (p8).toInt ≤ 2147483647) (hp9 : (-2147483648) ≤ (p9).toInt ∧ (p9).toInt ≤ 2147483647) (hp10 : (-2147483648) ≤ (p10).toInt ∧ (p10).toInt ≤ 2147483647) (hp11 : (-2147483648) ≤ (p11).toInt ∧ (p11).toInt ≤ 2147483647) (hp12 : (-2147483648) ≤ (p12).toInt ∧ (p12).toInt ≤ 2147483647) (hp13 : (-2147483648) ≤ (p13).toInt ∧ (p13).toInt ≤ 2147483647) (hp14 : (-2147483648) ≤ (p14).toInt ∧ (p14).toInt ≤ 2147483647) (hp15 : (-2147483648) ≤ (p15).toInt ∧ (p15).toInt ≤ 2147483647) (hp16 : (-2147483648) ≤ (p16).toInt ∧ (p16).toInt ≤ 2147483647) (hp17 : (-2147483648) ≤ (p17).toInt ∧ (p17).toInt ≤ 2147483647) (hp18 : 0 ≤ (p18).toInt ∧ (p18).toInt ≤ 10) (htf0_84 : f0 84 = p18) (rf0 : AL f0) (sz : Nat) : MI l yX12_image cX12_image 3 .int { frames := 1, cells := 0, slots := 0, locals := 25 } [.ref h0, .int p0] D cy (wk_6d10e025c cy h0 p1 h1 h2 w0 w1 p2 p3 p4 p5 p6 p7 p8 p9 p10 p11 p12 w2 w3 w4 w5 w6 p13 p14 w7 w8 w9 p15 p16 w10 w11 w12 w13 w14 p17 w15 w16 w17 h1 f0 h2 f1) sz (fun r u => ((-2) ≤ r.toInt ∧ r.toInt ≤ 0) ∧ (0 ≤ (u.2.1 0 0).toInt ∧ (u.2.1 0 0).toInt ≤ 0) ∧ AL (u.2.1 1) ∧ (u.2.1 1) 84 = p18 ∧ True) (fun u => (wk_6d10e025c cy h0 (u.2.1 0 0) h1 h2 w0 w1 p2 p3 p4 p5 p6 p7 p8 p9 p10 p11 p12 w2 w3 w4 w5 w6 p13 p14 w7 w8 w9 p15 p16 w10 w11 w12 w13 w14 p17 w15 w16 w17 h1 (u.2.1 1) h2 (u.2.1 2))) 0 0 := by
  refine q_ent (own := RX12) (by decide) rfl (Nat.le_of_ble_eq_true rfl) (fun p e s m below meth c ls X hr hlk hnm hK hT h hA hl => ?_)
  obtain ⟨hx, hb, hml, hown, ht⟩ := id X
  replace hl : lv_has ls 3 [(0, .ref h0), (1, .int p0)] := hl
  refine lv_aload_n hx hb dX12_image_0 rfl (lv_at hl 0 rfl) ?_
  refine lv_iconst (v := 0) hx hb dX12_image_1 (by decide) ?_
  refine q_put (v := .int 0) X hK h 0 rfl rfl wf_12 tyX12 tyX12_ok nmX12 0 (by decide) wm_5_170 rfl rfl rfl (Nat.le_of_ble_eq_true rfl) dX12_image_2 (fun H locs h_1 => ?_)
  clear h
  replace h_1 : qW D _ _ (wk_6d10e025c cy h0 0 h1 h2 w0 w1 p2 p3 p4 p5 p6 p7 p8 p9 p10 p11 p12 w2 w3 w4 w5 w6 p13 p14 w7 w8 w9 p15 p16 w10 w11 w12 w13 w14 p17 w15 w16 w17 h1 f0 h2 f1) _ _ := h_1
  refine lv_iload_n hx hb dX12_image_5 rfl (lv_at hl 1 rfl) ?_
  refine lv_i2l hx hb dX12_image_6 rfl ?_
  obtain ⟨z_2, ez_2, hz_2⟩ := e_i2l (x := p0) rfl
  refine q_cl z_2 ez_2 ?_
  clear ez_2
  refine lv_lconst (v := 0) hx hb dX12_image_7 (by decide) ?_
  refine lv_lconst (v := 1) hx hb dX12_image_8 (by decide) ?_
  refine q_callSi (rest := []) (wr := (wk_6d10e025c cy h0 0 h1 h2 w0 w1 p2 p3 p4 p5 p6 p7 p8 p9 p10 p11 p12 w2 w3 w4 w5 w6 p13 p14 w7 w8 w9 p15 p16 w10 w11 w12 w13 w14 p17 w15 w16 w17 h1 f0 h2 f1)) X hK hT hA h_1 (fun sz => gX12_within_00c7897 l D cy z_2 (0 : Int64) (1 : Int64) (j_rng _) ⟨by decide +kernel, by decide +kernel⟩ ⟨by decide +kernel, by decide +kernel⟩ sz) wm_6_50 wm_6_52 wm_1_12 hd_X12_within wm_6_51 ⟨Nat.le_of_ble_eq_true rfl, Nat.le_of_ble_eq_true rfl⟩ hl.1 rfl (Nat.le_of_ble_eq_true rfl) dX12_image_9 ⟨Nat.le_of_ble_eq_true rfl, Nat.le_of_ble_eq_true rfl⟩ [] [0, 1, 2] rfl rfl (by decide) rfl rfl (fun r_3 u_3 H locs w_3 h_3 => ?_)
  clear h_1
  obtain ⟨wr_3, y3_0, _⟩ := w_3
  have lq_3_1 : (0 : Int64).toInt = 0 := (by decide)
  have lq_3_2 : (1 : Int64).toInt = 1 := (by decide)
  replace h_3 : qW D _ _ (wk_6d10e025c cy h0 0 h1 h2 w0 w1 p2 p3 p4 p5 p6 p7 p8 p9 p10 p11 p12 w2 w3 w4 w5 w6 p13 p14 w7 w8 w9 p15 p16 w10 w11 w12 w13 w14 p17 w15 w16 w17 h1 f0 h2 f1) _ _ := h_3
  refine lv_if_ne (tgt := 18) hx hb dX12_image_12 (by decide) (fun c_4 => ?_) (fun c_4 => ?_)
  · replace c_4 := i_ne (x := r_3) (y := 0) rfl (show (0 : Int32).toInt = 0 by decide) c_4
    replace y3_0 := a10_1 y3_0 c_4
    refine lv_iconst (v := 0) hx hb dX12_image_18 (by decide) ?_
    refine lv_istore_n (lv' := [(2, .int 0), (0, .ref h0), (1, .int p0)]) hx hb dX12_image_19 rfl hl (by decide) rfl (fun ls_5 hl_5 => ?_)
    clear hl
    refine q_wl (fun (v20_6_0 : Int32) H locs ls => ∃ v20_6_1 : Nat → Int32, (0 ≤ (v20_6_0).toInt ∧ (v20_6_0).toInt ≤ 1306) ∧ v20_6_1 84 = p18 ∧ (CPY v20_6_1 f0 (1306 * (((p0 : Int32).toInt).toNat + 1)) f0 0 ((v20_6_0 : Int32).toInt).toNat) ∧ qW D (va_A (wk_6d10e025c cy h0 p1 h1 h2 w0 w1 p2 p3 p4 p5 p6 p7 p8 p9 p10 p11 p12 w2 w3 w4 w5 w6 p13 p14 w7 w8 w9 p15 p16 w10 w11 w12 w13 w14 p17 w15 w16 w17 h1 f0 h2 f1) sz) s.heap (wk_6d10e025c cy h0 0 h1 h2 w0 w1 p2 p3 p4 p5 p6 p7 p8 p9 p10 p11 p12 w2 w3 w4 w5 w6 p13 p14 w7 w8 w9 p15 p16 w10 w11 w12 w13 w14 p17 w15 w16 w17 h1 v20_6_1 h2 f1) H locs ∧ lv_has ls 3 [(0, .ref h0), (1, .int p0), (2, .int v20_6_0)]) (fun (v20_6_0 : Int32) => (1307 - (v20_6_0).toInt).toNat) (fun q_20 ih_20 H locs ls hP => ?_) 0 ⟨f0, ⟨by decide +kernel, by decide +kernel⟩, htf0_84, (cp_0 (by decide)), h_3, (lv_sub hl_5 [1, 2, 0] rfl)⟩
    obtain ⟨v20_6_0, rfl⟩ : ∃ z, z = q_20 := ⟨_, rfl⟩
    obtain ⟨v20_6_1, hv20_6_0, trv20_6_1_84, x7_0, h, hl⟩ := hP
    refine lv_iload_n hx hb dX12_image_20 rfl (lv_at hl 2 rfl) ?_
    refine lv_sipush (v := 1306) hx hb dX12_image_21 (by decide) ?_
    refine lv_icmp_ge (tgt := 53) hx hb dX12_image_24 (by decide) (fun c_8 => ?_) (fun c_8 => ?_)
    · replace c_8 := i_le (x := 1306) (y := v20_6_0) (show (1306 : Int32).toInt = 1306 by decide) rfl c_8
      have cx_9 := al_image x7_0 (by omega) (by omega) rf0
      refine lv_aload_n hx hb dX12_image_53 rfl (lv_at hl 0 rfl) ?_
      refine q_get X hK h 0 rfl rfl wf_12 2 (by decide) rfl wm_5_172 dX12_image_54 ?_
      refine lv_iload_n hx hb dX12_image_57 rfl (lv_at hl 1 rfl) ?_
      refine lv_iconst (v := 1) hx hb dX12_image_58 (by decide) ?_
      refine q_zast X hK h 2 rfl (i_in rfl (by omega) (by omega)) dX12_image_59 (fun H locs h_11 => ?_)
      clear h
      replace h_11 : qW D _ _ (wk_6d10e025c cy h0 0 h1 h2 w0 w1 p2 p3 p4 p5 p6 p7 p8 p9 p10 p11 p12 w2 w3 w4 w5 w6 p13 p14 w7 w8 w9 p15 p16 w10 w11 w12 w13 w14 p17 w15 w16 w17 h1 v20_6_1 h2 (upd f1 (Int32.toNatClampNeg p0) (vp_nar .boolean 1))) _ _ := h_11
      obtain ⟨F_10, eF_10⟩ : ∃ z, (upd f1 (Int32.toNatClampNeg p0) (vp_nar .boolean 1)) = z := ⟨_, rfl⟩
      rw [eF_10] at h_11
      clear eF_10
      refine lv_iconst (v := 0) hx hb dX12_image_60 (by decide) ?_
      exact q_iret X hr hlk hK h_11 rfl (fun _ => 0, (vcons (fun _ => 0) (vcons v20_6_1 (vcons F_10 (fun _ => (fun _ => 0))))), fun _ _ => 0) ⟨⟨by decide +kernel, by decide +kernel⟩, (⟨by decide +kernel, by decide +kernel⟩ : 0 ≤ (0 : Int32).toInt ∧ (0 : Int32).toInt ≤ 0), cx_9, trv20_6_1_84, trivial⟩ [0, 1, 2] rfl rfl dX12_image_61 (Nat.le_of_ble_eq_true rfl) (Nat.le_of_ble_eq_true rfl)
    · replace c_8 := i_nle (x := 1306) (y := v20_6_0) (show (1306 : Int32).toInt = 1306 by decide) rfl c_8
      refine lv_aload_n hx hb dX12_image_27 rfl (lv_at hl 0 rfl) ?_
      refine q_get X hK h 0 rfl rfl wf_12 1 (by decide) rfl wm_5_171 dX12_image_28 ?_
      refine lv_sipush (v := 1306) hx hb dX12_image_31 (by decide) ?_
      refine lv_iload_n hx hb dX12_image_34 rfl (lv_at hl 1 rfl) ?_
      refine lv_iconst (v := 1) hx hb dX12_image_35 (by decide) ?_
      refine lv_iadd hx hb dX12_image_36 ?_
      obtain ⟨z_12, ez_12, hz_12⟩ := e_add (x := p0) (y := 1) rfl (show (1 : Int32).toInt = 1 by decide) (by omega) (by omega)
      refine q_c z_12 ez_12 ?_
      clear ez_12
      refine lv_imul hx hb dX12_image_37 ?_
      obtain ⟨z_13, ez_13, hz_13⟩ := e_mul (x := 1306) (y := z_12) (show (1306 : Int32).toInt = 1306 by decide) rfl (by omega) (by omega)
      refine q_c z_13 ez_13 ?_
      clear ez_13
      refine lv_iload_n hx hb dX12_image_38 rfl (lv_at hl 2 rfl) ?_
      refine lv_iadd hx hb dX12_image_39 ?_
      obtain ⟨z_14, ez_14, hz_14⟩ := e_add (x := z_13) (y := v20_6_0) rfl rfl (by omega) (by omega)
      refine q_c z_14 ez_14 ?_
      clear ez_14
      refine lv_aload_n hx hb dX12_image_40 rfl (lv_at hl 0 rfl) ?_
      refine q_get X hK h 0 rfl rfl wf_12 1 (by decide) rfl wm_5_171 dX12_image_41 ?_
      refine lv_iload_n hx hb dX12_image_44 rfl (lv_at hl 2 rfl) ?_
      refine q_iald X hK h 1 rfl (i_in rfl (by omega) (by omega)) dX12_image_45 ?_
      obtain ⟨z_15, ez_15, hz_15⟩ := e_any (v20_6_1 v20_6_0.toNatClampNeg)
      refine q_c z_15 ez_15 ?_
      refine q_iast X hK h 1 rfl (i_in rfl (by omega) (by omega)) dX12_image_46 (fun H locs h_17 => ?_)
      clear h
      replace h_17 : qW D _ _ (wk_6d10e025c cy h0 0 h1 h2 w0 w1 p2 p3 p4 p5 p6 p7 p8 p9 p10 p11 p12 w2 w3 w4 w5 w6 p13 p14 w7 w8 w9 p15 p16 w10 w11 w12 w13 w14 p17 w15 w16 w17 h1 (upd v20_6_1 (Int32.toNatClampNeg z_14) z_15) h2 f1) _ _ := h_17
      obtain ⟨F_16, eF_16⟩ : ∃ z, (upd v20_6_1 (Int32.toNatClampNeg z_14) z_15) = z := ⟨_, rfl⟩
      have trF_16_84 := (tr_ne eF_16 trv20_6_1_84 rfl (by omega))
      rw [eF_16] at h_17
      have cs_18 := cp_t x7_0 ez_15 eF_16 (by omega) (by omega) (by omega)
      obtain ⟨z_19, ez_19, hz_19⟩ := e_add (x := v20_6_0) (y := Int32.ofInt 1) rfl (b := 1) (by decide) (by omega) (by omega)
      refine lv_iinc (v := z_19) (lv' := [(2, .int z_19), (0, .ref h0), (1, .int p0)]) hx hb dX12_image_47 hl (k := 2) rfl ez_19 (by decide) rfl (fun ls_19 hl_19 => ?_)
      clear hl
      refine lv_goto (tgt := 20) hx hb dX12_image_50 (by decide) ?_
      exact ih_20 z_19 (by show (1307 - (z_19).toInt).toNat < (1307 - (v20_6_0).toInt).toNat; omega) _ _ _ ⟨F_16, ⟨by omega, by omega⟩, trF_16_84, (cp_n cs_18 (by (first | assumption | omega))), h_17, (lv_sub hl_19 [1, 2, 0] rfl)⟩
  · replace c_4 := i_eq (x := r_3) (y := 0) rfl (show (0 : Int32).toInt = 0 by decide) c_4
    replace y3_0 := a10_0 y3_0 c_4
    refine lv_bipush (v := (-2)) hx hb dX12_image_15 (by decide) ?_
    exact q_iret X hr hlk hK h_3 rfl (fun _ => 0, (vcons (fun _ => 0) (vcons f0 (vcons f1 (fun _ => (fun _ => 0))))), fun _ _ => 0) ⟨⟨by decide +kernel, by decide +kernel⟩, (⟨by decide +kernel, by decide +kernel⟩ : 0 ≤ (0 : Int32).toInt ∧ (0 : Int32).toInt ≤ 0), rf0, htf0_84, trivial⟩ [0, 1, 2] rfl rfl dX12_image_17 (Nat.le_of_ble_eq_true rfl) (Nat.le_of_ble_eq_true rfl)
set_option maxHeartbeats 4000000 in
set_option maxRecDepth 100000 in
theorem gX12_restore_ea9512c (l : Launch) (D : va_G) (cy : Nat → ClassId) (h0 : Nat) (h1 : Nat) (h2 : Nat) (p0 : Int32) (p1 : Int32) (w0 : Value) (w1 : Value) (p2 : Int32) (p3 : Int32) (p4 : Int32) (p5 : Int32) (p6 : Int32) (p7 : Int32) (p8 : Int32) (p9 : Int32) (p10 : Int32) (p11 : Int32) (p12 : Int32) (w2 : Value) (w3 : Value) (w4 : Value) (w5 : Value) (w6 : Value) (p13 : Int32) (p14 : Int32) (w7 : Value) (w8 : Value) (w9 : Value) (p15 : Int32) (p16 : Int32) (w10 : Value) (w11 : Value) (w12 : Value) (w13 : Value) (w14 : Value) (p17 : Int32) (w15 : Value) (w16 : Value) (w17 : Value) (f0 : Nat → Int32) (p18 : Int32) (f1 : Nat → Int32) (hp0 : (-2147483648) ≤ (p0).toInt ∧ (p0).toInt ≤ 2147483647) (hp1 : (-2147483648) ≤ (p1).toInt ∧ (p1).toInt ≤ 2147483647) (hp2 : 0 ≤ (p2).toInt ∧ (p2).toInt ≤ 900) (hp3 : 0 ≤ (p3).toInt ∧ (p3).toInt ≤ 900) (hp4 : 0 ≤ (p4).toInt ∧ (p4).toInt ≤ 900) (hp5 : 0 ≤ (p5).toInt ∧ (p5).toInt ≤ 900) (hp6 : (-2147483648) ≤ (p6).toInt ∧ (p6).toInt ≤ 2147483647) (hp7 : 0 ≤ (p7).toInt ∧ (p7).toInt ≤ 999) (hp8 : (-2147483648) ≤ (p8).toInt ∧ (p8).toInt ≤ 2147483647) (hp9 : (-2147483648) ≤ (p9).toInt ∧ (p9).toInt ≤ 2147483647) (hp10 : (-2147483648) ≤ (p10).toInt ∧ (p10).toInt ≤ 2147483647) (hp11 : (-2147483648) ≤ (p11).toInt ∧ (p11).toInt ≤ 2147483647) (hp12 : (-2147483648) ≤ (p12).toInt ∧ (p12).toInt ≤ 2147483647) (hp13 : (-2147483648) ≤ (p13).toInt ∧ (p13).toInt ≤ 2147483647) (hp14 : (-2147483648) ≤ (p14).toInt ∧ (p14).toInt ≤ 2147483647) (hp15 : (-2147483648) ≤ (p15).toInt ∧ (p15).toInt ≤ 2147483647) (hp16 : (-2147483648) ≤ (p16).toInt ∧ (p16).toInt ≤ 2147483647) (hp17 : (-2147483648) ≤ (p17).toInt ∧ (p17).toInt ≤ 2147483647) (hp18 : 0 ≤ (p18).toInt ∧ (p18).toInt ≤ 10) (htf0_84 : f0 84 = p18) (rf0 : AL f0) (sz : Nat) : MI l yX12_restore cX12_restore 3 .int { frames := 1, cells := 0, slots := 0, locals := 25 } [.ref h0, .int p0] D cy (wk_6d10e025c cy h0 p1 h1 h2 w0 w1 p2 p3 p4 p5 p6 p7 p8 p9 p10 p11 p12 w2 w3 w4 w5 w6 p13 p14 w7 w8 w9 p15 p16 w10 w11 w12 w13 w14 p17 w15 w16 w17 h1 f0 h2 f1) sz (fun r u => ((-5) ≤ r.toInt ∧ r.toInt ≤ 0) ∧ (0 ≤ (u.2.1 0 0).toInt ∧ (u.2.1 0 0).toInt ≤ 0) ∧ AL (u.2.1 1) ∧ (0 ≤ (u.2.1 2 0).toInt ∧ (u.2.1 2 0).toInt ≤ 10) ∧ (u.2.1 1) 84 = (u.2.1 2 0) ∧ True) (fun u => (wk_6d10e025c cy h0 (u.2.1 0 0) h1 h2 w0 w1 p2 p3 p4 p5 p6 p7 p8 p9 p10 p11 p12 w2 w3 w4 w5 w6 p13 p14 w7 w8 w9 p15 p16 w10 w11 w12 w13 w14 p17 w15 w16 w17 h1 (u.2.1 1) h2 f1)) 0 0 := by
  refine q_ent (own := RX12) (by decide) rfl (Nat.le_of_ble_eq_true rfl) (fun p e s m below meth c ls X hr hlk hnm hK hT h hA hl => ?_)
  obtain ⟨hx, hb, hml, hown, ht⟩ := id X
  replace hl : lv_has ls 3 [(0, .ref h0), (1, .int p0)] := hl
  refine lv_aload_n hx hb dX12_restore_0 rfl (lv_at hl 0 rfl) ?_
  refine lv_iconst (v := 0) hx hb dX12_restore_1 (by decide) ?_
  refine q_put (v := .int 0) X hK h 0 rfl rfl wf_12 tyX12 tyX12_ok nmX12 0 (by decide) wm_5_170 rfl rfl rfl (Nat.le_of_ble_eq_true rfl) dX12_restore_2 (fun H locs h_1 => ?_)
  clear h
  replace h_1 : qW D _ _ (wk_6d10e025c cy h0 0 h1 h2 w0 w1 p2 p3 p4 p5 p6 p7 p8 p9 p10 p11 p12 w2 w3 w4 w5 w6 p13 p14 w7 w8 w9 p15 p16 w10 w11 w12 w13 w14 p17 w15 w16 w17 h1 f0 h2 f1) _ _ := h_1
  refine lv_iload_n hx hb dX12_restore_5 rfl (lv_at hl 1 rfl) ?_
  refine lv_i2l hx hb dX12_restore_6 rfl ?_
  obtain ⟨z_2, ez_2, hz_2⟩ := e_i2l (x := p0) rfl
  refine q_cl z_2 ez_2 ?_
  clear ez_2
  refine lv_lconst (v := 0) hx hb dX12_restore_7 (by decide) ?_
  refine lv_lconst (v := 1) hx hb dX12_restore_8 (by decide) ?_
  refine q_callSi (rest := []) (wr := (wk_6d10e025c cy h0 0 h1 h2 w0 w1 p2 p3 p4 p5 p6 p7 p8 p9 p10 p11 p12 w2 w3 w4 w5 w6 p13 p14 w7 w8 w9 p15 p16 w10 w11 w12 w13 w14 p17 w15 w16 w17 h1 f0 h2 f1)) X hK hT hA h_1 (fun sz => gX12_within_00c7897 l D cy z_2 (0 : Int64) (1 : Int64) (j_rng _) ⟨by decide +kernel, by decide +kernel⟩ ⟨by decide +kernel, by decide +kernel⟩ sz) wm_6_50 wm_6_52 wm_1_12 hd_X12_within wm_6_51 ⟨Nat.le_of_ble_eq_true rfl, Nat.le_of_ble_eq_true rfl⟩ hl.1 rfl (Nat.le_of_ble_eq_true rfl) dX12_restore_9 ⟨Nat.le_of_ble_eq_true rfl, Nat.le_of_ble_eq_true rfl⟩ [] [0, 1, 2] rfl rfl (by decide) rfl rfl (fun r_3 u_3 H locs w_3 h_3 => ?_)
  clear h_1
  obtain ⟨wr_3, y3_0, _⟩ := w_3
  have lq_3_1 : (0 : Int64).toInt = 0 := (by decide)
  have lq_3_2 : (1 : Int64).toInt = 1 := (by decide)
  replace h_3 : qW D _ _ (wk_6d10e025c cy h0 0 h1 h2 w0 w1 p2 p3 p4 p5 p6 p7 p8 p9 p10 p11 p12 w2 w3 w4 w5 w6 p13 p14 w7 w8 w9 p15 p16 w10 w11 w12 w13 w14 p17 w15 w16 w17 h1 f0 h2 f1) _ _ := h_3
  refine lv_if_ne (tgt := 18) hx hb dX12_restore_12 (by decide) (fun c_4 => ?_) (fun c_4 => ?_)
  · replace c_4 := i_ne (x := r_3) (y := 0) rfl (show (0 : Int32).toInt = 0 by decide) c_4
    replace y3_0 := a10_1 y3_0 c_4
    refine lv_aload_n hx hb dX12_restore_18 rfl (lv_at hl 0 rfl) ?_
    refine q_get X hK h_3 0 rfl rfl wf_12 2 (by decide) rfl wm_5_172 dX12_restore_19 ?_
    refine lv_iload_n hx hb dX12_restore_22 rfl (lv_at hl 1 rfl) ?_
    refine q_zald X hK h_3 2 rfl (i_in rfl (by omega) (by omega)) dX12_restore_23 ?_
    refine q_any (fun z_5 hz_5 => ?_)
    refine lv_if_ne (tgt := 30) hx hb dX12_restore_24 (by decide) (fun c_6 => ?_) (fun c_6 => ?_)
    · replace c_6 := i_ne (x := z_5) (y := 0) rfl (show (0 : Int32).toInt = 0 by decide) c_6
      refine lv_iconst (v := 0) hx hb dX12_restore_30 (by decide) ?_
      refine lv_istore_n (lv' := [(2, .int 0), (0, .ref h0), (1, .int p0)]) hx hb dX12_restore_31 rfl hl (by decide) rfl (fun ls_7 hl_7 => ?_)
      clear hl
      refine q_wl (fun (v32_8_0 : Int32) H locs ls => ∃ v32_8_1 : Nat → Int32, (0 ≤ (v32_8_0).toInt ∧ (v32_8_0).toInt ≤ 1306) ∧ (CPY v32_8_1 f0 0 f0 (1306 * (((p0 : Int32).toInt).toNat + 1)) ((v32_8_0 : Int32).toInt).toNat) ∧ qW D (va_A (wk_6d10e025c cy h0 p1 h1 h2 w0 w1 p2 p3 p4 p5 p6 p7 p8 p9 p10 p11 p12 w2 w3 w4 w5 w6 p13 p14 w7 w8 w9 p15 p16 w10 w11 w12 w13 w14 p17 w15 w16 w17 h1 f0 h2 f1) sz) s.heap (wk_6d10e025c cy h0 0 h1 h2 w0 w1 p2 p3 p4 p5 p6 p7 p8 p9 p10 p11 p12 w2 w3 w4 w5 w6 p13 p14 w7 w8 w9 p15 p16 w10 w11 w12 w13 w14 p17 w15 w16 w17 h1 v32_8_1 h2 f1) H locs ∧ lv_has ls 3 [(0, .ref h0), (1, .int p0), (2, .int v32_8_0)]) (fun (v32_8_0 : Int32) => (1307 - (v32_8_0).toInt).toNat) (fun q_32 ih_32 H locs ls hP => ?_) 0 ⟨f0, ⟨by decide +kernel, by decide +kernel⟩, (cp_0 (by decide)), h_3, (lv_sub hl_7 [1, 2, 0] rfl)⟩
      obtain ⟨v32_8_0, rfl⟩ : ∃ z, z = q_32 := ⟨_, rfl⟩
      obtain ⟨v32_8_1, hv32_8_0, x9_0, h, hl⟩ := hP
      refine lv_iload_n hx hb dX12_restore_32 rfl (lv_at hl 2 rfl) ?_
      refine lv_sipush (v := 1306) hx hb dX12_restore_33 (by decide) ?_
      refine lv_icmp_ge (tgt := 65) hx hb dX12_restore_36 (by decide) (fun c_10 => ?_) (fun c_10 => ?_)
      · replace c_10 := i_le (x := 1306) (y := v32_8_0) (show (1306 : Int32).toInt = 1306 by decide) rfl c_10
        have cx_11 := al_restore x9_0 (by omega) (by omega) rf0
        obtain ⟨z_12, ez_12, hz_12⟩ := al_N84 cx_11
        refine lv_aload_n hx hb dX12_restore_65 rfl (lv_at hl 0 rfl) ?_
        refine q_get X hK h 0 rfl rfl wf_12 1 (by decide) rfl wm_5_171 dX12_restore_66 ?_
        refine lv_bipush (v := 84) hx hb dX12_restore_69 (by decide) ?_
        refine lv_iconst (v := 0) hx hb dX12_restore_71 (by decide) ?_
        refine q_iast X hK h 1 rfl (q_in (by decide +kernel)) dX12_restore_72 (fun H locs h_14 => ?_)
        clear h
        replace h_14 : qW D _ _ (wk_6d10e025c cy h0 0 h1 h2 w0 w1 p2 p3 p4 p5 p6 p7 p8 p9 p10 p11 p12 w2 w3 w4 w5 w6 p13 p14 w7 w8 w9 p15 p16 w10 w11 w12 w13 w14 p17 w15 w16 w17 h1 (upd v32_8_1 (Int32.toNatClampNeg 84) 0) h2 f1) _ _ := h_14
        obtain ⟨F_13, eF_13, rF_13⟩ := al_upd cx_11 (i := 84) (x := 0) (show (84 : Int32).toInt = 84 by decide) (show (0 : Int32).toInt = 0 by decide) (by omega)
        have trF_13_84 := (tr_eq eF_13 (k := 84) (x := 84) (by decide))
        rw [eF_13] at h_14
        clear eF_13
        refine lv_iconst (v := 0) hx hb dX12_restore_73 (by decide) ?_
        exact q_iret X hr hlk hK h_14 rfl (fun _ => 0, (vcons (fun _ => 0) (vcons F_13 (vcons (fun _ => 0) (fun _ => (fun _ => 0))))), fun _ _ => 0) ⟨⟨by decide +kernel, by decide +kernel⟩, (⟨by decide +kernel, by decide +kernel⟩ : 0 ≤ (0 : Int32).toInt ∧ (0 : Int32).toInt ≤ 0), rF_13, (⟨by decide +kernel, by decide +kernel⟩ : 0 ≤ (0 : Int32).toInt ∧ (0 : Int32).toInt ≤ 10), trF_13_84, trivial⟩ [0, 1, 2] rfl rfl dX12_restore_74 (Nat.le_of_ble_eq_true rfl) (Nat.le_of_ble_eq_true rfl)
      · replace c_10 := i_nle (x := 1306) (y := v32_8_0) (show (1306 : Int32).toInt = 1306 by decide) rfl c_10
        refine lv_aload_n hx hb dX12_restore_39 rfl (lv_at hl 0 rfl) ?_
        refine q_get X hK h 0 rfl rfl wf_12 1 (by decide) rfl wm_5_171 dX12_restore_40 ?_
        refine lv_iload_n hx hb dX12_restore_43 rfl (lv_at hl 2 rfl) ?_
        refine lv_aload_n hx hb dX12_restore_44 rfl (lv_at hl 0 rfl) ?_
        refine q_get X hK h 0 rfl rfl wf_12 1 (by decide) rfl wm_5_171 dX12_restore_45 ?_
        refine lv_sipush (v := 1306) hx hb dX12_restore_48 (by decide) ?_
        refine lv_iload_n hx hb dX12_restore_51 rfl (lv_at hl 1 rfl) ?_
        refine lv_iconst (v := 1) hx hb dX12_restore_52 (by decide) ?_
        refine lv_iadd hx hb dX12_restore_53 ?_
        obtain ⟨z_15, ez_15, hz_15⟩ := e_add (x := p0) (y := 1) rfl (show (1 : Int32).toInt = 1 by decide) (by omega) (by omega)
        refine q_c z_15 ez_15 ?_
        clear ez_15
        refine lv_imul hx hb dX12_restore_54 ?_
        obtain ⟨z_16, ez_16, hz_16⟩ := e_mul (x := 1306) (y := z_15) (show (1306 : Int32).toInt = 1306 by decide) rfl (by omega) (by omega)
        refine q_c z_16 ez_16 ?_
        clear ez_16
        refine lv_iload_n hx hb dX12_restore_55 rfl (lv_at hl 2 rfl) ?_
        refine lv_iadd hx hb dX12_restore_56 ?_
        obtain ⟨z_17, ez_17, hz_17⟩ := e_add (x := z_16) (y := v32_8_0) rfl rfl (by omega) (by omega)
        refine q_c z_17 ez_17 ?_
        clear ez_17
        refine q_iald X hK h 1 rfl (i_in rfl (by omega) (by omega)) dX12_restore_57 ?_
        obtain ⟨z_18, ez_18, hz_18⟩ := e_any (v32_8_1 z_17.toNatClampNeg)
        refine q_c z_18 ez_18 ?_
        refine q_iast X hK h 1 rfl (i_in rfl (by omega) (by omega)) dX12_restore_58 (fun H locs h_20 => ?_)
        clear h
        replace h_20 : qW D _ _ (wk_6d10e025c cy h0 0 h1 h2 w0 w1 p2 p3 p4 p5 p6 p7 p8 p9 p10 p11 p12 w2 w3 w4 w5 w6 p13 p14 w7 w8 w9 p15 p16 w10 w11 w12 w13 w14 p17 w15 w16 w17 h1 (upd v32_8_1 (Int32.toNatClampNeg v32_8_0) z_18) h2 f1) _ _ := h_20
        obtain ⟨F_19, eF_19⟩ : ∃ z, (upd v32_8_1 (Int32.toNatClampNeg v32_8_0) z_18) = z := ⟨_, rfl⟩
        rw [eF_19] at h_20
        have cs_21 := cp_t x9_0 ez_18 eF_19 (by omega) (by omega) (by omega)
        obtain ⟨z_22, ez_22, hz_22⟩ := e_add (x := v32_8_0) (y := Int32.ofInt 1) rfl (b := 1) (by decide) (by omega) (by omega)
        refine lv_iinc (v := z_22) (lv' := [(2, .int z_22), (0, .ref h0), (1, .int p0)]) hx hb dX12_restore_59 hl (k := 2) rfl ez_22 (by decide) rfl (fun ls_22 hl_22 => ?_)
        clear hl
        refine lv_goto (tgt := 32) hx hb dX12_restore_62 (by decide) ?_
        exact ih_32 z_22 (by show (1307 - (z_22).toInt).toNat < (1307 - (v32_8_0).toInt).toNat; omega) _ _ _ ⟨F_19, ⟨by omega, by omega⟩, (cp_n cs_21 (by (first | assumption | omega))), h_20, (lv_sub hl_22 [1, 2, 0] rfl)⟩
    · replace c_6 := i_eq (x := z_5) (y := 0) rfl (show (0 : Int32).toInt = 0 by decide) c_6
      refine lv_bipush (v := (-5)) hx hb dX12_restore_27 (by decide) ?_
      exact q_iret X hr hlk hK h_3 rfl (fun _ => 0, (vcons (fun _ => 0) (vcons f0 (vcons (fun _ => p18) (fun _ => (fun _ => 0))))), fun _ _ => 0) ⟨⟨by decide +kernel, by decide +kernel⟩, (⟨by decide +kernel, by decide +kernel⟩ : 0 ≤ (0 : Int32).toInt ∧ (0 : Int32).toInt ≤ 0), rf0, hp18, htf0_84, trivial⟩ [0, 1, 2] rfl rfl dX12_restore_29 (Nat.le_of_ble_eq_true rfl) (Nat.le_of_ble_eq_true rfl)
  · replace c_4 := i_eq (x := r_3) (y := 0) rfl (show (0 : Int32).toInt = 0 by decide) c_4
    replace y3_0 := a10_0 y3_0 c_4
    refine lv_bipush (v := (-2)) hx hb dX12_restore_15 (by decide) ?_
    exact q_iret X hr hlk hK h_3 rfl (fun _ => 0, (vcons (fun _ => 0) (vcons f0 (vcons (fun _ => p18) (fun _ => (fun _ => 0))))), fun _ _ => 0) ⟨⟨by decide +kernel, by decide +kernel⟩, (⟨by decide +kernel, by decide +kernel⟩ : 0 ≤ (0 : Int32).toInt ∧ (0 : Int32).toInt ≤ 0), rf0, hp18, htf0_84, trivial⟩ [0, 1, 2] rfl rfl dX12_restore_17 (Nat.le_of_ble_eq_true rfl) (Nat.le_of_ble_eq_true rfl)
set_option maxHeartbeats 4000000 in
set_option maxRecDepth 100000 in
theorem gX12_twosNow_e3aaf67 (l : Launch) (D : va_G) (cy : Nat → ClassId) (h0 : Nat) (h1 : Nat) (h2 : Nat) (h3 : Nat) (h4 : Nat) (p0 : Int32) (w0 : Value) (w1 : Value) (w2 : Value) (p1 : Int32) (p2 : Int32) (p3 : Int32) (p4 : Int32) (p5 : Int32) (p6 : Int32) (p7 : Int32) (p8 : Int32) (p9 : Int32) (p10 : Int32) (p11 : Int32) (w3 : Value) (w4 : Value) (p12 : Int32) (p13 : Int32) (w5 : Value) (w6 : Value) (w7 : Value) (p14 : Int32) (p15 : Int32) (w8 : Value) (w9 : Value) (w10 : Value) (w11 : Value) (w12 : Value) (p16 : Int32) (w13 : Value) (w14 : Value) (w15 : Value) (f0 : Nat → Int32) (p17 : Int32) (f1 : Nat → Int32) (f2 : Nat → Int32) (f3 : Nat → Int32) (hp0 : 0 ≤ (p0).toInt ∧ (p0).toInt ≤ 0) (hp1 : 0 ≤ (p1).toInt ∧ (p1).toInt ≤ 900) (hp2 : 0 ≤ (p2).toInt ∧ (p2).toInt ≤ 900) (hp3 : 0 ≤ (p3).toInt ∧ (p3).toInt ≤ 900) (hp4 : 0 ≤ (p4).toInt ∧ (p4).toInt ≤ 900) (hp5 : (-2147483648) ≤ (p5).toInt ∧ (p5).toInt ≤ 2147483647) (hp6 : 0 ≤ (p6).toInt ∧ (p6).toInt ≤ 999) (hp7 : (-2147483648) ≤ (p7).toInt ∧ (p7).toInt ≤ 2147483647) (hp8 : (-2147483648) ≤ (p8).toInt ∧ (p8).toInt ≤ 2147483647) (hp9 : (-2147483648) ≤ (p9).toInt ∧ (p9).toInt ≤ 2147483647) (hp10 : (-2147483648) ≤ (p10).toInt ∧ (p10).toInt ≤ 2147483647) (hp11 : (-2147483648) ≤ (p11).toInt ∧ (p11).toInt ≤ 2147483647) (hp12 : (-2147483648) ≤ (p12).toInt ∧ (p12).toInt ≤ 2147483647) (hp13 : (-2147483648) ≤ (p13).toInt ∧ (p13).toInt ≤ 2147483647) (hp14 : (-2147483648) ≤ (p14).toInt ∧ (p14).toInt ≤ 2147483647) (hp15 : (-2147483648) ≤ (p15).toInt ∧ (p15).toInt ≤ 2147483647) (hp16 : (-2147483648) ≤ (p16).toInt ∧ (p16).toInt ≤ 2147483647) (hp17 : 0 ≤ (p17).toInt ∧ (p17).toInt ≤ 10) (htf0_84 : f0 84 = p17) (rf0 : AL f0) (rf3 : RG f3 10 0 1023) (sz : Nat) : MI l yX12_twosNow cX12_twosNow 3 .int { frames := 4, cells := 0, slots := 0, locals := 94 } [.ref h0] D cy (wk_8b19a8a79 cy h0 p0 h1 w0 w1 w2 p1 p2 p3 p4 p5 p6 p7 p8 p9 p10 p11 h2 h3 w3 h4 w4 p12 p13 w5 w6 w7 p14 p15 w8 w9 w10 w11 w12 p16 w13 w14 w15 h1 f0 h2 f1 h3 f2 h4 f3) sz (fun r u => ((-2147483648) ≤ r.toInt ∧ r.toInt ≤ 2147483647) ∧ RG (u.2.1 2) 10 0 1023 ∧ True) (fun u => (wk_8b19a8a79 cy h0 p0 h1 w0 w1 w2 p1 p2 p3 p4 p5 p6 p7 p8 p9 p10 p11 h2 h3 w3 h4 w4 p12 p13 w5 w6 w7 p14 p15 w8 w9 w10 w11 w12 p16 w13 w14 w15 h1 f0 h2 (u.2.1 0) h3 (u.2.1 1) h4 (u.2.1 2))) 0 0 := by
  refine q_ent (own := RX12) (by decide) rfl (Nat.le_of_ble_eq_true rfl) (fun p e s m below meth c ls X hr hlk hnm hK hT h hA hl => ?_)
  obtain ⟨hx, hb, hml, hown, ht⟩ := id X
  replace hl : lv_has ls 3 [(0, .ref h0)] := hl
  refine lv_aload_n hx hb dX12_twosNow_0 rfl (lv_at hl 0 rfl) ?_
  refine lv_aload_n hx hb dX12_twosNow_1 rfl (lv_at hl 0 rfl) ?_
  refine q_get X hK h 0 rfl rfl wf_12 1 (by decide) rfl wm_5_171 dX12_twosNow_2 ?_
  refine lv_bipush (v := 52) hx hb dX12_twosNow_5 (by decide) ?_
  refine q_iald X hK h 1 rfl (q_in (by decide +kernel)) dX12_twosNow_7 ?_
  refine q_any (fun z_1 hz_1 => ?_)
  refine q_callVv (rest := []) (wr := []) X hK hT hA h (fun sz => gX12_laysOpposed_6a814f8 l D cy h0 h1 h2 h3 h4 z_1 p0 w0 w1 w2 p1 p2 p3 p4 p5 p6 p7 p8 p9 p10 p11 w3 w4 p12 p13 w5 w6 w7 p14 p15 w8 w9 w10 w11 w12 p16 w13 w14 w15 f0 p17 f1 f2 f3 (i_rng _) hp0 hp1 hp2 hp3 hp4 (i_rng _) hp6 (i_rng _) (i_rng _) (i_rng _) (i_rng _) (i_rng _) (i_rng _) (i_rng _) (i_rng _) (i_rng _) (i_rng _) hp17 htf0_84 rf0 (rg_wide rf3 (by decide) (by decide)) sz) wm_7_59 wm_7_62 wm_1_12 hd_X12_laysOpposed wm_7_61 wp_6_12 (ci := 12) (q0 := 0) rfl rfl ⟨Nat.le_of_ble_eq_true rfl, Nat.le_of_ble_eq_true rfl⟩ hl.1 rfl (Nat.le_of_ble_eq_true rfl) dX12_twosNow_8 ⟨Nat.le_of_ble_eq_true rfl, Nat.le_of_ble_eq_true rfl⟩ [0, 1, 2, 3, 4] [] rfl rfl (by decide) rfl rfl (fun u_2 H locs w_2 h_2 => ?_)
  clear h
  obtain ⟨w2_0, _⟩ := w_2
  replace h_2 : qW D _ _ (wk_8b19a8a79 cy h0 p0 h1 w0 w1 w2 p1 p2 p3 p4 p5 p6 p7 p8 p9 p10 p11 h2 h3 w3 h4 w4 p12 p13 w5 w6 w7 p14 p15 w8 w9 w10 w11 w12 p16 w13 w14 w15 h1 f0 h2 (u_2.2.1 0) h3 (u_2.2.1 1) h4 (u_2.2.1 2)) _ _ := h_2
  refine lv_iconst (v := 0) hx hb dX12_twosNow_11 (by decide) ?_
  refine lv_istore_n (lv' := [(1, .int 0), (0, .ref h0)]) hx hb dX12_twosNow_12 rfl hl (by decide) rfl (fun ls_3 hl_3 => ?_)
  clear hl
  refine lv_iconst (v := 0) hx hb dX12_twosNow_13 (by decide) ?_
  refine lv_istore_n (lv' := [(2, .int 0), (1, .int 0), (0, .ref h0)]) hx hb dX12_twosNow_14 rfl hl_3 (by decide) rfl (fun ls_4 hl_4 => ?_)
  clear hl_3
  refine q_wl (fun (q : Int32 × Int32) H locs ls => match q with | (v15_5_0, v15_5_1) => (0 ≤ (v15_5_0).toInt ∧ (v15_5_0).toInt ≤ 10) ∧ ((-2147483648) ≤ (v15_5_1).toInt ∧ (v15_5_1).toInt ≤ 2147483647) ∧ qW D (va_A (wk_8b19a8a79 cy h0 p0 h1 w0 w1 w2 p1 p2 p3 p4 p5 p6 p7 p8 p9 p10 p11 h2 h3 w3 h4 w4 p12 p13 w5 w6 w7 p14 p15 w8 w9 w10 w11 w12 p16 w13 w14 w15 h1 f0 h2 f1 h3 f2 h4 f3) sz) s.heap (wk_8b19a8a79 cy h0 p0 h1 w0 w1 w2 p1 p2 p3 p4 p5 p6 p7 p8 p9 p10 p11 h2 h3 w3 h4 w4 p12 p13 w5 w6 w7 p14 p15 w8 w9 w10 w11 w12 p16 w13 w14 w15 h1 f0 h2 (u_2.2.1 0) h3 (u_2.2.1 1) h4 (u_2.2.1 2)) H locs ∧ lv_has ls 3 [(0, .ref h0), (1, .int v15_5_1), (2, .int v15_5_0)]) (fun (q : Int32 × Int32) => match q with | (v15_5_0, v15_5_1) => (11 - (v15_5_0).toInt).toNat) (fun q_15 ih_15 H locs ls hP => ?_) (0, 0) ⟨⟨by decide +kernel, by decide +kernel⟩, ⟨by decide +kernel, by decide +kernel⟩, h_2, (lv_sub hl_4 [2, 1, 0] rfl)⟩
  obtain ⟨v15_5_0, v15_5_1⟩ := q_15
  obtain ⟨hv15_5_0, hv15_5_1, h, hl⟩ := hP
  refine lv_iload_n hx hb dX12_twosNow_15 rfl (lv_at hl 2 rfl) ?_
  refine lv_aload_n hx hb dX12_twosNow_16 rfl (lv_at hl 0 rfl) ?_
  refine q_get X hK h 0 rfl rfl wf_12 1 (by decide) rfl wm_5_171 dX12_twosNow_17 ?_
  refine lv_iconst (v := 2) hx hb dX12_twosNow_20 (by decide) ?_
  refine q_iald X hK h 1 rfl (q_in (by decide +kernel)) dX12_twosNow_21 ?_
  obtain ⟨z_6, ez_6, hz_6⟩ := al_P rf0 (x := 2) (show (2 : Int32).toInt = 2 by decide) (by omega) (by omega)
  refine q_c z_6 ez_6 ?_
  clear ez_6
  refine lv_icmp_ge (tgt := 43) hx hb dX12_twosNow_22 (by decide) (fun c_7 => ?_) (fun c_7 => ?_)
  · replace c_7 := i_le (x := z_6) (y := v15_5_0) rfl rfl c_7
    refine lv_iload_n hx hb dX12_twosNow_43 rfl (lv_at hl 1 rfl) ?_
    refine lv_iconst (v := 2) hx hb dX12_twosNow_44 (by decide) ?_
    refine lv_idiv hx hb dX12_twosNow_45 (by decide) ?_
    refine q_any (fun z_8 hz_8 => ?_)
    exact q_iret X hr hlk hK h rfl (fun _ => 0, (vcons (u_2.2.1 0) (vcons (u_2.2.1 1) (vcons (u_2.2.1 2) (fun _ => (fun _ => 0))))), fun _ _ => 0) ⟨⟨by omega, by omega⟩, (rg_wide w2_0 (by decide) (by decide)), trivial⟩ [0, 1, 2, 3, 4] rfl rfl dX12_twosNow_46 (Nat.le_of_ble_eq_true rfl) (Nat.le_of_ble_eq_true rfl)
  · replace c_7 := i_nle (x := z_6) (y := v15_5_0) rfl rfl c_7
    refine lv_iload_n hx hb dX12_twosNow_25 rfl (lv_at hl 1 rfl) ?_
    refine lv_aload_n hx hb dX12_twosNow_26 rfl (lv_at hl 0 rfl) ?_
    refine q_get X hK h 0 rfl rfl wf_12 19 (by decide) rfl wm_5_189 dX12_twosNow_27 ?_
    refine lv_iload_n hx hb dX12_twosNow_30 rfl (lv_at hl 2 rfl) ?_
    refine q_iald X hK h 4 rfl (i_in rfl (by omega) (by omega)) dX12_twosNow_31 ?_
    obtain ⟨z_9, ez_9, hz_9⟩ := rg_get w2_0 (x := v15_5_0) rfl (by omega) (by omega)
    refine q_c z_9 ez_9 ?_
    clear ez_9
    refine q_callSi (rest := [.int v15_5_1]) (wr := (wk_8b19a8a79 cy h0 p0 h1 w0 w1 w2 p1 p2 p3 p4 p5 p6 p7 p8 p9 p10 p11 h2 h3 w3 h4 w4 p12 p13 w5 w6 w7 p14 p15 w8 w9 w10 w11 w12 p16 w13 w14 w15 h1 f0 h2 (u_2.2.1 0) h3 (u_2.2.1 1) h4 (u_2.2.1 2))) X hK hT hA h (fun sz => gX12_bitsOf_5a43b1c l D cy z_9 (i_rng _) sz) wm_7_8 wm_7_10 wm_1_12 hd_X12_bitsOf wm_7_9 ⟨Nat.le_of_ble_eq_true rfl, Nat.le_of_ble_eq_true rfl⟩ hl.1 rfl (Nat.le_of_ble_eq_true rfl) dX12_twosNow_32 ⟨Nat.le_of_ble_eq_true rfl, Nat.le_of_ble_eq_true rfl⟩ [] [0, 1, 2, 3, 4] rfl rfl (by decide) rfl rfl (fun r_10 u_10 H locs w_10 h_10 => ?_)
    clear h
    obtain ⟨wr_10, _⟩ := w_10
    replace h_10 : qW D _ _ (wk_8b19a8a79 cy h0 p0 h1 w0 w1 w2 p1 p2 p3 p4 p5 p6 p7 p8 p9 p10 p11 h2 h3 w3 h4 w4 p12 p13 w5 w6 w7 p14 p15 w8 w9 w10 w11 w12 p16 w13 w14 w15 h1 f0 h2 (u_2.2.1 0) h3 (u_2.2.1 1) h4 (u_2.2.1 2)) _ _ := h_10
    refine lv_iadd hx hb dX12_twosNow_35 ?_
    refine q_any (fun z_11 hz_11 => ?_)
    refine lv_istore_n (lv' := [(1, .int z_11), (0, .ref h0), (2, .int v15_5_0)]) hx hb dX12_twosNow_36 rfl hl (by decide) rfl (fun ls_12 hl_12 => ?_)
    clear hl
    obtain ⟨z_13, ez_13, hz_13⟩ := e_add (x := v15_5_0) (y := Int32.ofInt 1) rfl (b := 1) (by decide) (by omega) (by omega)
    refine lv_iinc (v := z_13) (lv' := [(2, .int z_13), (1, .int z_11), (0, .ref h0)]) hx hb dX12_twosNow_37 hl_12 (k := 2) rfl ez_13 (by decide) rfl (fun ls_13 hl_13 => ?_)
    clear hl_12
    refine lv_goto (tgt := 15) hx hb dX12_twosNow_40 (by decide) ?_
    exact ih_15 (z_13, z_11) (by show (11 - (z_13).toInt).toNat < (11 - (v15_5_0).toInt).toNat; omega) _ _ _ ⟨⟨by omega, by omega⟩, ⟨by omega, by omega⟩, h_10, (lv_sub hl_13 [2, 1, 0] rfl)⟩
set_option maxHeartbeats 4000000 in
set_option maxRecDepth 100000 in
theorem gX12_count_ed51c5e (l : Launch) (D : va_G) (cy : Nat → ClassId) (h0 : Nat) (h1 : Nat) (h2 : Nat) (h3 : Nat) (h4 : Nat) (p0 : Int32) (p1 : Int32) (w0 : Value) (w1 : Value) (w2 : Value) (p2 : Int32) (p3 : Int32) (p4 : Int32) (p5 : Int32) (p6 : Int32) (p7 : Int32) (p8 : Int32) (p9 : Int32) (p10 : Int32) (p11 : Int32) (p12 : Int32) (w3 : Value) (w4 : Value) (p13 : Int32) (p14 : Int32) (w5 : Value) (w6 : Value) (w7 : Value) (p15 : Int32) (p16 : Int32) (w8 : Value) (w9 : Value) (w10 : Value) (w11 : Value) (w12 : Value) (p17 : Int32) (w13 : Value) (w14 : Value) (w15 : Value) (f0 : Nat → Int32) (p18 : Int32) (f1 : Nat → Int32) (f2 : Nat → Int32) (f3 : Nat → Int32) (hp0 : (-2147483648) ≤ (p0).toInt ∧ (p0).toInt ≤ 2147483647) (hp1 : (-2147483648) ≤ (p1).toInt ∧ (p1).toInt ≤ 2147483647) (hp2 : 0 ≤ (p2).toInt ∧ (p2).toInt ≤ 900) (hp3 : 0 ≤ (p3).toInt ∧ (p3).toInt ≤ 900) (hp4 : 0 ≤ (p4).toInt ∧ (p4).toInt ≤ 900) (hp5 : 0 ≤ (p5).toInt ∧ (p5).toInt ≤ 900) (hp6 : (-2147483648) ≤ (p6).toInt ∧ (p6).toInt ≤ 2147483647) (hp7 : 0 ≤ (p7).toInt ∧ (p7).toInt ≤ 999) (hp8 : (-2147483648) ≤ (p8).toInt ∧ (p8).toInt ≤ 2147483647) (hp9 : (-2147483648) ≤ (p9).toInt ∧ (p9).toInt ≤ 2147483647) (hp10 : (-2147483648) ≤ (p10).toInt ∧ (p10).toInt ≤ 2147483647) (hp11 : (-2147483648) ≤ (p11).toInt ∧ (p11).toInt ≤ 2147483647) (hp12 : (-2147483648) ≤ (p12).toInt ∧ (p12).toInt ≤ 2147483647) (hp13 : (-2147483648) ≤ (p13).toInt ∧ (p13).toInt ≤ 2147483647) (hp14 : (-2147483648) ≤ (p14).toInt ∧ (p14).toInt ≤ 2147483647) (hp15 : (-2147483648) ≤ (p15).toInt ∧ (p15).toInt ≤ 2147483647) (hp16 : (-2147483648) ≤ (p16).toInt ∧ (p16).toInt ≤ 2147483647) (hp17 : (-2147483648) ≤ (p17).toInt ∧ (p17).toInt ≤ 2147483647) (hp18 : 0 ≤ (p18).toInt ∧ (p18).toInt ≤ 10) (htf0_84 : f0 84 = p18) (rf0 : AL f0) (rf3 : RG f3 10 0 1023) (sz : Nat) : MI l yX12_count cX12_count 2 .int { frames := 5, cells := 0, slots := 0, locals := 116 } [.ref h0, .int p0] D cy (wk_8b19a8a79 cy h0 p1 h1 w0 w1 w2 p2 p3 p4 p5 p6 p7 p8 p9 p10 p11 p12 h2 h3 w3 h4 w4 p13 p14 w5 w6 w7 p15 p16 w8 w9 w10 w11 w12 p17 w13 w14 w15 h1 f0 h2 f1 h3 f2 h4 f3) sz (fun r u => ((-2147483648) ≤ r.toInt ∧ r.toInt ≤ 2147483647) ∧ (0 ≤ (u.2.1 0 0).toInt ∧ (u.2.1 0 0).toInt ≤ 0) ∧ RG (u.2.1 3) 10 0 1023 ∧ True) (fun u => (wk_8b19a8a79 cy h0 (u.2.1 0 0) h1 w0 w1 w2 p2 p3 p4 p5 p6 p7 p8 p9 p10 p11 p12 h2 h3 w3 h4 w4 p13 p14 w5 w6 w7 p15 p16 w8 w9 w10 w11 w12 p17 w13 w14 w15 h1 f0 h2 (u.2.1 1) h3 (u.2.1 2) h4 (u.2.1 3))) 0 0 := by
  refine q_ent (own := RX12) (by decide) rfl (Nat.le_of_ble_eq_true rfl) (fun p e s m below meth c ls X hr hlk hnm hK hT h hA hl => ?_)
  obtain ⟨hx, hb, hml, hown, ht⟩ := id X
  replace hl : lv_has ls 2 [(0, .ref h0), (1, .int p0)] := hl
  refine lv_aload_n hx hb dX12_count_0 rfl (lv_at hl 0 rfl) ?_
  refine lv_iconst (v := 0) hx hb dX12_count_1 (by decide) ?_
  refine q_put (v := .int 0) X hK h 0 rfl rfl wf_12 tyX12 tyX12_ok nmX12 0 (by decide) wm_5_170 rfl rfl rfl (Nat.le_of_ble_eq_true rfl) dX12_count_2 (fun H locs h_1 => ?_)
  clear h
  replace h_1 : qW D _ _ (wk_8b19a8a79 cy h0 0 h1 w0 w1 w2 p2 p3 p4 p5 p6 p7 p8 p9 p10 p11 p12 h2 h3 w3 h4 w4 p13 p14 w5 w6 w7 p15 p16 w8 w9 w10 w11 w12 p17 w13 w14 w15 h1 f0 h2 f1 h3 f2 h4 f3) _ _ := h_1
  refine lv_iload_n hx hb dX12_count_5 rfl (lv_at hl 1 rfl) ?_
  by_cases c_2 : p0 = 0
  · have ec_2 : (p0).toInt = 0 := by rw [c_2]; decide
    refine lv_tableIn (off := 50) (tgt := 56) hx hb dX12_count_6 (by rw [c_2]; decide +kernel) (by rw [c_2]; decide +kernel) (by rw [c_2]; decide +kernel) (by decide) ?_
    refine lv_aload_n hx hb dX12_count_56 rfl (lv_at hl 0 rfl) ?_
    refine q_get X hK h_1 0 rfl rfl wf_12 1 (by decide) rfl wm_5_171 dX12_count_57 ?_
    refine lv_iconst (v := 1) hx hb dX12_count_60 (by decide) ?_
    refine q_iald X hK h_1 1 rfl (q_in (by decide +kernel)) dX12_count_61 ?_
    obtain ⟨z_3, ez_3, hz_3⟩ := al_V rf0 (x := 1) (show (1 : Int32).toInt = 1 by decide) (by omega) (by omega)
    refine q_c z_3 ez_3 ?_
    clear ez_3
    exact q_iret X hr hlk hK h_1 rfl (fun _ => 0, (vcons (fun _ => 0) (vcons f1 (vcons f2 (vcons f3 (fun _ => (fun _ => 0)))))), fun _ _ => 0) ⟨⟨by omega, by omega⟩, (⟨by decide +kernel, by decide +kernel⟩ : 0 ≤ (0 : Int32).toInt ∧ (0 : Int32).toInt ≤ 0), (rg_wide rf3 (by decide) (by decide)), trivial⟩ [0, 1, 2, 3, 4] rfl rfl dX12_count_62 (Nat.le_of_ble_eq_true rfl) (Nat.le_of_ble_eq_true rfl)
  by_cases c_4 : p0 = 1
  · have ec_4 : (p0).toInt = 1 := by rw [c_4]; decide
    refine lv_tableIn (off := 57) (tgt := 63) hx hb dX12_count_6 (by rw [c_4]; decide +kernel) (by rw [c_4]; decide +kernel) (by rw [c_4]; decide +kernel) (by decide) ?_
    refine lv_aload_n hx hb dX12_count_63 rfl (lv_at hl 0 rfl) ?_
    refine q_get X hK h_1 0 rfl rfl wf_12 1 (by decide) rfl wm_5_171 dX12_count_64 ?_
    refine lv_iconst (v := 2) hx hb dX12_count_67 (by decide) ?_
    refine q_iald X hK h_1 1 rfl (q_in (by decide +kernel)) dX12_count_68 ?_
    obtain ⟨z_5, ez_5, hz_5⟩ := al_P rf0 (x := 2) (show (2 : Int32).toInt = 2 by decide) (by omega) (by omega)
    refine q_c z_5 ez_5 ?_
    clear ez_5
    exact q_iret X hr hlk hK h_1 rfl (fun _ => 0, (vcons (fun _ => 0) (vcons f1 (vcons f2 (vcons f3 (fun _ => (fun _ => 0)))))), fun _ _ => 0) ⟨⟨by omega, by omega⟩, (⟨by decide +kernel, by decide +kernel⟩ : 0 ≤ (0 : Int32).toInt ∧ (0 : Int32).toInt ≤ 0), (rg_wide rf3 (by decide) (by decide)), trivial⟩ [0, 1, 2, 3, 4] rfl rfl dX12_count_69 (Nat.le_of_ble_eq_true rfl) (Nat.le_of_ble_eq_true rfl)
  by_cases c_6 : p0 = 2
  · have ec_6 : (p0).toInt = 2 := by rw [c_6]; decide
    refine lv_tableIn (off := 64) (tgt := 70) hx hb dX12_count_6 (by rw [c_6]; decide +kernel) (by rw [c_6]; decide +kernel) (by rw [c_6]; decide +kernel) (by decide) ?_
    refine lv_aload_n hx hb dX12_count_70 rfl (lv_at hl 0 rfl) ?_
    refine q_callVi (rest := []) (wr := (wk_ce6a1f133 cy h2 f1 h3 f2 h4 f3)) X hK hT hA h_1 (fun sz => gX12_townNow_2907b4b l D cy h0 h1 (0 : Int32) w0 w1 w2 p2 p3 p4 p5 p6 p7 p8 p9 p10 p11 p12 (.ref h2) (.ref h3) w3 (.ref h4) w4 p13 p14 w5 w6 w7 p15 p16 w8 w9 w10 w11 w12 p17 w13 w14 w15 f0 p18 ⟨by decide +kernel, by decide +kernel⟩ hp2 hp3 hp4 hp5 (i_rng _) hp7 (i_rng _) (i_rng _) (i_rng _) (i_rng _) (i_rng _) (i_rng _) (i_rng _) (i_rng _) (i_rng _) (i_rng _) hp18 htf0_84 rf0 sz) wm_6_170 wm_6_173 wm_1_12 hd_X12_townNow wm_6_172 wp_5_9 (ci := 12) (q0 := 0) rfl rfl ⟨Nat.le_of_ble_eq_true rfl, Nat.le_of_ble_eq_true rfl⟩ hl.1 rfl (Nat.le_of_ble_eq_true rfl) dX12_count_71 ⟨Nat.le_of_ble_eq_true rfl, Nat.le_of_ble_eq_true rfl⟩ [0, 1] [2, 3, 4] rfl rfl (by decide) rfl rfl (fun r_7 u_7 H locs w_7 h_7 => ?_)
    clear h_1
    obtain ⟨wr_7, _⟩ := w_7
    replace h_7 : qW D _ _ (wk_6bef7693d cy h2 f1 h3 f2 h4 f3 h0 0 h1 w0 w1 w2 p2 p3 p4 p5 p6 p7 p8 p9 p10 p11 p12 h2 h3 w3 h4 w4 p13 p14 w5 w6 w7 p15 p16 w8 w9 w10 w11 w12 p17 w13 w14 w15 h1 f0) _ _ := h_7
    exact q_iret X hr hlk hK h_7 rfl (fun _ => 0, (vcons (fun _ => 0) (vcons f1 (vcons f2 (vcons f3 (fun _ => (fun _ => 0)))))), fun _ _ => 0) ⟨(bw wr_7 (by decide) (by decide)), (⟨by decide +kernel, by decide +kernel⟩ : 0 ≤ (0 : Int32).toInt ∧ (0 : Int32).toInt ≤ 0), (rg_wide rf3 (by decide) (by decide)), trivial⟩ [3, 4, 0, 1, 2] rfl rfl dX12_count_74 (Nat.le_of_ble_eq_true rfl) (Nat.le_of_ble_eq_true rfl)
  by_cases c_8 : p0 = 3
  · have ec_8 : (p0).toInt = 3 := by rw [c_8]; decide
    refine lv_tableIn (off := 69) (tgt := 75) hx hb dX12_count_6 (by rw [c_8]; decide +kernel) (by rw [c_8]; decide +kernel) (by rw [c_8]; decide +kernel) (by decide) ?_
    refine lv_aload_n hx hb dX12_count_75 rfl (lv_at hl 0 rfl) ?_
    refine q_get X hK h_1 0 rfl rfl wf_12 1 (by decide) rfl wm_5_171 dX12_count_76 ?_
    refine lv_bipush (v := 53) hx hb dX12_count_79 (by decide) ?_
    refine q_iald X hK h_1 1 rfl (q_in (by decide +kernel)) dX12_count_81 ?_
    refine q_any (fun z_9 hz_9 => ?_)
    exact q_iret X hr hlk hK h_1 rfl (fun _ => 0, (vcons (fun _ => 0) (vcons f1 (vcons f2 (vcons f3 (fun _ => (fun _ => 0)))))), fun _ _ => 0) ⟨⟨by omega, by omega⟩, (⟨by decide +kernel, by decide +kernel⟩ : 0 ≤ (0 : Int32).toInt ∧ (0 : Int32).toInt ≤ 0), (rg_wide rf3 (by decide) (by decide)), trivial⟩ [0, 1, 2, 3, 4] rfl rfl dX12_count_82 (Nat.le_of_ble_eq_true rfl) (Nat.le_of_ble_eq_true rfl)
  by_cases c_10 : p0 = 4
  · have ec_10 : (p0).toInt = 4 := by rw [c_10]; decide
    refine lv_tableIn (off := 77) (tgt := 83) hx hb dX12_count_6 (by rw [c_10]; decide +kernel) (by rw [c_10]; decide +kernel) (by rw [c_10]; decide +kernel) (by decide) ?_
    refine lv_aload_n hx hb dX12_count_83 rfl (lv_at hl 0 rfl) ?_
    refine q_get X hK h_1 0 rfl rfl wf_12 1 (by decide) rfl wm_5_171 dX12_count_84 ?_
    refine lv_bipush (v := 52) hx hb dX12_count_87 (by decide) ?_
    refine q_iald X hK h_1 1 rfl (q_in (by decide +kernel)) dX12_count_89 ?_
    refine q_any (fun z_11 hz_11 => ?_)
    exact q_iret X hr hlk hK h_1 rfl (fun _ => 0, (vcons (fun _ => 0) (vcons f1 (vcons f2 (vcons f3 (fun _ => (fun _ => 0)))))), fun _ _ => 0) ⟨⟨by omega, by omega⟩, (⟨by decide +kernel, by decide +kernel⟩ : 0 ≤ (0 : Int32).toInt ∧ (0 : Int32).toInt ≤ 0), (rg_wide rf3 (by decide) (by decide)), trivial⟩ [0, 1, 2, 3, 4] rfl rfl dX12_count_90 (Nat.le_of_ble_eq_true rfl) (Nat.le_of_ble_eq_true rfl)
  by_cases c_12 : p0 = 5
  · have ec_12 : (p0).toInt = 5 := by rw [c_12]; decide
    refine lv_tableIn (off := 85) (tgt := 91) hx hb dX12_count_6 (by rw [c_12]; decide +kernel) (by rw [c_12]; decide +kernel) (by rw [c_12]; decide +kernel) (by decide) ?_
    refine lv_aload_n hx hb dX12_count_91 rfl (lv_at hl 0 rfl) ?_
    refine q_callVi (rest := []) (wr := []) X hK hT hA h_1 (fun sz => gX12_twosNow_e3aaf67 l D cy h0 h1 h2 h3 h4 (0 : Int32) w0 w1 w2 p2 p3 p4 p5 p6 p7 p8 p9 p10 p11 p12 w3 w4 p13 p14 w5 w6 w7 p15 p16 w8 w9 w10 w11 w12 p17 w13 w14 w15 f0 p18 f1 f2 f3 ⟨by decide +kernel, by decide +kernel⟩ hp2 hp3 hp4 hp5 (i_rng _) hp7 (i_rng _) (i_rng _) (i_rng _) (i_rng _) (i_rng _) (i_rng _) (i_rng _) (i_rng _) (i_rng _) (i_rng _) hp18 htf0_84 rf0 (rg_wide rf3 (by decide) (by decide)) sz) wm_8_55 wm_8_58 wm_1_12 hd_X12_twosNow wm_8_57 wp_8_4 (ci := 12) (q0 := 0) rfl rfl ⟨Nat.le_of_ble_eq_true rfl, Nat.le_of_ble_eq_true rfl⟩ hl.1 rfl (Nat.le_of_ble_eq_true rfl) dX12_count_92 ⟨Nat.le_of_ble_eq_true rfl, Nat.le_of_ble_eq_true rfl⟩ [0, 1, 2, 3, 4] [] rfl rfl (by decide) rfl rfl (fun r_13 u_13 H locs w_13 h_13 => ?_)
    clear h_1
    obtain ⟨wr_13, w13_0, _⟩ := w_13
    replace h_13 : qW D _ _ (wk_8b19a8a79 cy h0 0 h1 w0 w1 w2 p2 p3 p4 p5 p6 p7 p8 p9 p10 p11 p12 h2 h3 w3 h4 w4 p13 p14 w5 w6 w7 p15 p16 w8 w9 w10 w11 w12 p17 w13 w14 w15 h1 f0 h2 (u_13.2.1 0) h3 (u_13.2.1 1) h4 (u_13.2.1 2)) _ _ := h_13
    exact q_iret X hr hlk hK h_13 rfl (fun _ => 0, (vcons (fun _ => 0) (vcons (u_13.2.1 0) (vcons (u_13.2.1 1) (vcons (u_13.2.1 2) (fun _ => (fun _ => 0)))))), fun _ _ => 0) ⟨wr_13, (⟨by decide +kernel, by decide +kernel⟩ : 0 ≤ (0 : Int32).toInt ∧ (0 : Int32).toInt ≤ 0), (rg_wide w13_0 (by decide) (by decide)), trivial⟩ [0, 1, 2, 3, 4] rfl rfl dX12_count_95 (Nat.le_of_ble_eq_true rfl) (Nat.le_of_ble_eq_true rfl)
  by_cases c_14 : p0 = 6
  · have ec_14 : (p0).toInt = 6 := by rw [c_14]; decide
    refine lv_tableIn (off := 90) (tgt := 96) hx hb dX12_count_6 (by rw [c_14]; decide +kernel) (by rw [c_14]; decide +kernel) (by rw [c_14]; decide +kernel) (by decide) ?_
    refine lv_aload_n hx hb dX12_count_96 rfl (lv_at hl 0 rfl) ?_
    refine q_get X hK h_1 0 rfl rfl wf_12 1 (by decide) rfl wm_5_171 dX12_count_97 ?_
    refine lv_bipush (v := 84) hx hb dX12_count_100 (by decide) ?_
    refine q_iald X hK h_1 1 rfl (q_in (by decide +kernel)) dX12_count_102 ?_
    refine q_c p18 htf0_84 ?_
    exact q_iret X hr hlk hK h_1 rfl (fun _ => 0, (vcons (fun _ => 0) (vcons f1 (vcons f2 (vcons f3 (fun _ => (fun _ => 0)))))), fun _ _ => 0) ⟨(bw hp18 (by decide) (by decide)), (⟨by decide +kernel, by decide +kernel⟩ : 0 ≤ (0 : Int32).toInt ∧ (0 : Int32).toInt ≤ 0), (rg_wide rf3 (by decide) (by decide)), trivial⟩ [0, 1, 2, 3, 4] rfl rfl dX12_count_103 (Nat.le_of_ble_eq_true rfl) (Nat.le_of_ble_eq_true rfl)
  by_cases c_15 : p0 = 7
  · have ec_15 : (p0).toInt = 7 := by rw [c_15]; decide
    refine lv_tableIn (off := 98) (tgt := 104) hx hb dX12_count_6 (by rw [c_15]; decide +kernel) (by rw [c_15]; decide +kernel) (by rw [c_15]; decide +kernel) (by decide) ?_
    refine lv_aload_n hx hb dX12_count_104 rfl (lv_at hl 0 rfl) ?_
    refine q_get X hK h_1 0 rfl rfl wf_12 5 (by decide) rfl wm_5_175 dX12_count_105 ?_
    exact q_iret X hr hlk hK h_1 rfl (fun _ => 0, (vcons (fun _ => 0) (vcons f1 (vcons f2 (vcons f3 (fun _ => (fun _ => 0)))))), fun _ _ => 0) ⟨(bw hp2 (by decide) (by decide)), (⟨by decide +kernel, by decide +kernel⟩ : 0 ≤ (0 : Int32).toInt ∧ (0 : Int32).toInt ≤ 0), (rg_wide rf3 (by decide) (by decide)), trivial⟩ [0, 1, 2, 3, 4] rfl rfl dX12_count_108 (Nat.le_of_ble_eq_true rfl) (Nat.le_of_ble_eq_true rfl)
  by_cases c_16 : p0 = 8
  · have ec_16 : (p0).toInt = 8 := by rw [c_16]; decide
    refine lv_tableIn (off := 103) (tgt := 109) hx hb dX12_count_6 (by rw [c_16]; decide +kernel) (by rw [c_16]; decide +kernel) (by rw [c_16]; decide +kernel) (by decide) ?_
    refine lv_aload_n hx hb dX12_count_109 rfl (lv_at hl 0 rfl) ?_
    refine q_get X hK h_1 0 rfl rfl wf_12 1 (by decide) rfl wm_5_171 dX12_count_110 ?_
    refine lv_iconst (v := 0) hx hb dX12_count_113 (by decide) ?_
    refine q_iald X hK h_1 1 rfl (q_in (by decide +kernel)) dX12_count_114 ?_
    refine q_any (fun z_17 hz_17 => ?_)
    exact q_iret X hr hlk hK h_1 rfl (fun _ => 0, (vcons (fun _ => 0) (vcons f1 (vcons f2 (vcons f3 (fun _ => (fun _ => 0)))))), fun _ _ => 0) ⟨⟨by omega, by omega⟩, (⟨by decide +kernel, by decide +kernel⟩ : 0 ≤ (0 : Int32).toInt ∧ (0 : Int32).toInt ≤ 0), (rg_wide rf3 (by decide) (by decide)), trivial⟩ [0, 1, 2, 3, 4] rfl rfl dX12_count_115 (Nat.le_of_ble_eq_true rfl) (Nat.le_of_ble_eq_true rfl)
  have nc_2 := lv_neT c_2 (show (0 : Int32).toInt = 0 by decide)
  have nc_4 := lv_neT c_4 (show (1 : Int32).toInt = 1 by decide)
  have nc_6 := lv_neT c_6 (show (2 : Int32).toInt = 2 by decide)
  have nc_8 := lv_neT c_8 (show (3 : Int32).toInt = 3 by decide)
  have nc_10 := lv_neT c_10 (show (4 : Int32).toInt = 4 by decide)
  have nc_12 := lv_neT c_12 (show (5 : Int32).toInt = 5 by decide)
  have nc_14 := lv_neT c_14 (show (6 : Int32).toInt = 6 by decide)
  have nc_15 := lv_neT c_15 (show (7 : Int32).toInt = 7 by decide)
  have nc_16 := lv_neT c_16 (show (8 : Int32).toInt = 8 by decide)
  refine lv_tableOut (tgt := 116) hx hb dX12_count_6 (by omega) (by decide) ?_
  refine lv_iconst (v := (-1)) hx hb dX12_count_116 (by decide) ?_
  exact q_iret X hr hlk hK h_1 rfl (fun _ => 0, (vcons (fun _ => 0) (vcons f1 (vcons f2 (vcons f3 (fun _ => (fun _ => 0)))))), fun _ _ => 0) ⟨⟨by decide +kernel, by decide +kernel⟩, (⟨by decide +kernel, by decide +kernel⟩ : 0 ≤ (0 : Int32).toInt ∧ (0 : Int32).toInt ≤ 0), (rg_wide rf3 (by decide) (by decide)), trivial⟩ [0, 1, 2, 3, 4] rfl rfl dX12_count_117 (Nat.le_of_ble_eq_true rfl) (Nat.le_of_ble_eq_true rfl)
