def wk_a794cc59d (cy : Nat → ClassId) (a0 a1 : Nat) (a2 a3 a4 : Int32) (a5 a6 a7 a8 a9 a10 a11 a12 a13 a14 a15 a16 : Value) (a17 : Int32) (a18 : Nat) (a19 : Nat → Int32) : va_W := [(a0, .inr (11, [.ref a1, .int a2, .int a3, .int a4, a5, a6, a7, a8, a9, a10, a11, a12, a13, a14, a15, a16, .int a17])), (a18, .inl (cy 0, 900, .inl a19))]
theorem wm_2_99 : Cond.fieldLink RX11 13 "OppositeHouse" "tapeLength" "I" ∈ WG := wg_t2 (List.mem_of_getElem? (i := 99) rfl) rfl
theorem wm_2_98 : Cond.fieldLink RX11 9 "OppositeHouse" "tape" "[B" ∈ WG := wg_t2 (List.mem_of_getElem? (i := 98) rfl) rfl
theorem wm_2_154 : Cond.methodLink RX11 101 yX11_putOnTape ∈ WG := wg_t2 (List.mem_of_getElem? (i := 154) rfl) rfl
theorem wm_2_157 : Cond.code yX11_putOnTape cX11_putOnTape 3 none ∈ WG := wg_t2 (List.mem_of_getElem? (i := 157) rfl) rfl
theorem wm_1_1 : Cond.initialized RX11 ∈ WG := wg_t1 (List.mem_of_getElem? (i := 1) rfl) rfl
theorem wm_2_156 : Cond.instanceMethod yX11_putOnTape ∈ WG := wg_t2 (List.mem_of_getElem? (i := 156) rfl) rfl
theorem wp_1_0 : Cond.selects RX11 yX11_putOnTape yX11_putOnTape ∈ WG := wg_p (q := (yX11_putOnTape, 17)) (wg_p1 (List.mem_of_getElem? (i := 0) rfl)) rfl
theorem wm_2_101 : Cond.fieldLink RX11 20 "OppositeHouse" "faultPlace" "I" ∈ WG := wg_t2 (List.mem_of_getElem? (i := 101) rfl) rfl
theorem wm_2_100 : Cond.fieldLink RX11 17 "OppositeHouse" "faultKind" "I" ∈ WG := wg_t2 (List.mem_of_getElem? (i := 100) rfl) rfl
theorem wm_2_171 : Cond.static yJ9_min_7cf53 ∈ WG := wg_t2 (List.mem_of_getElem? (i := 171) rfl) rfl
theorem wm_1_13 : Cond.initialized RJ9 ∈ WG := wg_t1 (List.mem_of_getElem? (i := 13) rfl) rfl
theorem wm_2_172 : Cond.code yJ9_min_7cf53 cJ9_min_7cf53 2 (some .int) ∈ WG := wg_t2 (List.mem_of_getElem? (i := 172) rfl) rfl
theorem wm_3_23 : Cond.static yJ9_max_7cf53 ∈ WG := wg_t3 (List.mem_of_getElem? (i := 23) rfl) rfl
theorem wm_3_24 : Cond.code yJ9_max_7cf53 cJ9_max_7cf53 2 (some .int) ∈ WG := wg_t3 (List.mem_of_getElem? (i := 24) rfl) rfl
theorem wm_2_72 : Cond.fieldLink RX2 9 "OppositeHouse$History" "size" "I" ∈ WG := wg_t2 (List.mem_of_getElem? (i := 72) rfl) rfl
theorem wm_8_60 : Cond.fieldLink RJ0 9 "java/lang/String" "value" "[B" ∈ WG := wg_t8 (List.mem_of_getElem? (i := 60) rfl) rfl
theorem wm_2_202 : Cond.fieldLink RJ0 38 "java/lang/String" "COMPACT_STRINGS" "Z" ∈ WG := wg_t2 (List.mem_of_getElem? (i := 202) rfl) rfl
theorem wm_8_61 : Cond.fieldLink RJ0 15 "java/lang/String" "coder" "B" ∈ WG := wg_t8 (List.mem_of_getElem? (i := 61) rfl) rfl
theorem wm_2_198 : Cond.methodLink RJ0 335 yJ0_coder_7d493 ∈ WG := wg_t2 (List.mem_of_getElem? (i := 198) rfl) rfl
theorem wm_2_201 : Cond.code yJ0_coder_7d493 cJ0_coder_7d493 1 (some .byte) ∈ WG := wg_t2 (List.mem_of_getElem? (i := 201) rfl) rfl
theorem wm_1_14 : Cond.initialized RJ0 ∈ WG := wg_t1 (List.mem_of_getElem? (i := 14) rfl) rfl
theorem wm_2_199 : Cond.instanceMethod yJ0_coder_7d493 ∈ WG := wg_t2 (List.mem_of_getElem? (i := 199) rfl) rfl
theorem wm_2_200 : Cond.selects RJ0 yJ0_coder_7d493 yJ0_coder_7d493 ∈ WG := wg_t2 (List.mem_of_getElem? (i := 200) rfl) rfl
theorem wm_2_208 : Cond.methodLink RJ0 492 yJ0_isLatin1_aae02 ∈ WG := wg_t2 (List.mem_of_getElem? (i := 208) rfl) rfl
theorem wm_2_211 : Cond.code yJ0_isLatin1_aae02 cJ0_isLatin1_aae02 1 (some .boolean) ∈ WG := wg_t2 (List.mem_of_getElem? (i := 211) rfl) rfl
theorem wm_2_209 : Cond.instanceMethod yJ0_isLatin1_aae02 ∈ WG := wg_t2 (List.mem_of_getElem? (i := 209) rfl) rfl
theorem wm_2_210 : Cond.selects RJ0 yJ0_isLatin1_aae02 yJ0_isLatin1_aae02 ∈ WG := wg_t2 (List.mem_of_getElem? (i := 210) rfl) rfl
theorem wm_2_218 : Cond.fieldLink RJ0 1053 "jdk/internal/util/Preconditions" "SIOOBE_FORMATTER" "Ljava/util/function/BiFunction;" ∈ WG := wg_t2 (List.mem_of_getElem? (i := 218) rfl) rfl
theorem wm_2_220 : Cond.methodLink RJ0 1059 yJ3_checkIndex_8e157 ∈ WG := wg_t2 (List.mem_of_getElem? (i := 220) rfl) rfl
theorem wm_2_222 : Cond.code yJ3_checkIndex_8e157 cJ3_checkIndex_8e157 3 (some .int) ∈ WG := wg_t2 (List.mem_of_getElem? (i := 222) rfl) rfl
theorem wm_1_16 : Cond.initialized RJ3 ∈ WG := wg_t1 (List.mem_of_getElem? (i := 16) rfl) rfl
theorem wm_2_221 : Cond.static yJ3_checkIndex_8e157 ∈ WG := wg_t2 (List.mem_of_getElem? (i := 221) rfl) rfl
theorem wm_2_215 : Cond.methodLink RJ1 9 yJ0_checkIndex_df160 ∈ WG := wg_t2 (List.mem_of_getElem? (i := 215) rfl) rfl
theorem wm_2_217 : Cond.code yJ0_checkIndex_df160 cJ0_checkIndex_df160 2 none ∈ WG := wg_t2 (List.mem_of_getElem? (i := 217) rfl) rfl
theorem wm_2_216 : Cond.static yJ0_checkIndex_df160 ∈ WG := wg_t2 (List.mem_of_getElem? (i := 216) rfl) rfl
theorem wm_2_212 : Cond.methodLink RJ0 495 yJ1_charAt_3b067 ∈ WG := wg_t2 (List.mem_of_getElem? (i := 212) rfl) rfl
theorem wm_2_214 : Cond.code yJ1_charAt_3b067 cJ1_charAt_3b067 2 (some .char) ∈ WG := wg_t2 (List.mem_of_getElem? (i := 214) rfl) rfl
theorem wm_1_15 : Cond.initialized RJ1 ∈ WG := wg_t1 (List.mem_of_getElem? (i := 15) rfl) rfl
theorem wm_2_213 : Cond.static yJ1_charAt_3b067 ∈ WG := wg_t2 (List.mem_of_getElem? (i := 213) rfl) rfl
theorem wm_3_15 : Cond.methodLink RJ0 505 yJ0_length_8abf5 ∈ WG := wg_t3 (List.mem_of_getElem? (i := 15) rfl) rfl
theorem wm_2_197 : Cond.code yJ0_length_8abf5 cJ0_length_8abf5 1 (some .int) ∈ WG := wg_t2 (List.mem_of_getElem? (i := 197) rfl) rfl
theorem wm_2_195 : Cond.instanceMethod yJ0_length_8abf5 ∈ WG := wg_t2 (List.mem_of_getElem? (i := 195) rfl) rfl
theorem wm_2_196 : Cond.selects RJ0 yJ0_length_8abf5 yJ0_length_8abf5 ∈ WG := wg_t2 (List.mem_of_getElem? (i := 196) rfl) rfl
theorem wm_3_19 : Cond.methodLink RJ1 88 yJ1_canEncode_9a6ad ∈ WG := wg_t3 (List.mem_of_getElem? (i := 19) rfl) rfl
theorem wm_3_21 : Cond.code yJ1_canEncode_9a6ad cJ1_canEncode_9a6ad 1 (some .boolean) ∈ WG := wg_t3 (List.mem_of_getElem? (i := 21) rfl) rfl
theorem wm_3_20 : Cond.static yJ1_canEncode_9a6ad ∈ WG := wg_t3 (List.mem_of_getElem? (i := 20) rfl) rfl
theorem wm_3_22 : Cond.methodLink RJ1 92 yJ9_max_7cf53 ∈ WG := wg_t3 (List.mem_of_getElem? (i := 22) rfl) rfl
theorem wm_3_25 : Cond.methodLink RJ1 38 yJ9_min_7cf53 ∈ WG := wg_t3 (List.mem_of_getElem? (i := 25) rfl) rfl
theorem wm_3_26 : Cond.methodLink RJ1 95 yJ1_indexOfChar_4cfef ∈ WG := wg_t3 (List.mem_of_getElem? (i := 26) rfl) rfl
theorem wm_3_28 : Cond.code yJ1_indexOfChar_4cfef cJ1_indexOfChar_4cfef 6 (some .int) ∈ WG := wg_t3 (List.mem_of_getElem? (i := 28) rfl) rfl
theorem wm_3_27 : Cond.static yJ1_indexOfChar_4cfef ∈ WG := wg_t3 (List.mem_of_getElem? (i := 27) rfl) rfl
theorem wm_3_16 : Cond.methodLink RJ0 637 yJ1_indexOf_4cfef ∈ WG := wg_t3 (List.mem_of_getElem? (i := 16) rfl) rfl
theorem wm_3_18 : Cond.code yJ1_indexOf_4cfef cJ1_indexOf_4cfef 4 (some .int) ∈ WG := wg_t3 (List.mem_of_getElem? (i := 18) rfl) rfl
theorem wm_3_17 : Cond.static yJ1_indexOf_4cfef ∈ WG := wg_t3 (List.mem_of_getElem? (i := 17) rfl) rfl
theorem wm_3_11 : Cond.methodLink RJ0 633 yJ0_indexOf_7cf53 ∈ WG := wg_t3 (List.mem_of_getElem? (i := 11) rfl) rfl
theorem wm_3_14 : Cond.code yJ0_indexOf_7cf53 cJ0_indexOf_7cf53 3 (some .int) ∈ WG := wg_t3 (List.mem_of_getElem? (i := 14) rfl) rfl
theorem wm_3_12 : Cond.instanceMethod yJ0_indexOf_7cf53 ∈ WG := wg_t3 (List.mem_of_getElem? (i := 12) rfl) rfl
theorem wm_3_13 : Cond.selects RJ0 yJ0_indexOf_7cf53 yJ0_indexOf_7cf53 ∈ WG := wg_t3 (List.mem_of_getElem? (i := 13) rfl) rfl
theorem wf_2 : ∀ w ∈ u_ws RX2 TX2 2, w ∈ WG := sorry
theorem wf_11 : ∀ w ∈ u_ws RX11 TX11 17, w ∈ WG := sorry
theorem hd_X11_putOnTape : yX11_putOnTape.cls ≠ "java/lang/invoke/MethodHandle" ∧ yX11_putOnTape.cls ≠ "java/lang/invoke/VarHandle" ∧ (parseMethodDescriptor yX11_putOnTape.desc).map (fun d => d.parameters.length) = some 1 := by decide +kernel
theorem hd_J0_coder_7d493 : yJ0_coder_7d493.cls ≠ "java/lang/invoke/MethodHandle" ∧ yJ0_coder_7d493.cls ≠ "java/lang/invoke/VarHandle" ∧ (parseMethodDescriptor yJ0_coder_7d493.desc).map (fun d => d.parameters.length) = some 0 := by decide +kernel
theorem hd_J0_isLatin1_aae02 : yJ0_isLatin1_aae02.cls ≠ "java/lang/invoke/MethodHandle" ∧ yJ0_isLatin1_aae02.cls ≠ "java/lang/invoke/VarHandle" ∧ (parseMethodDescriptor yJ0_isLatin1_aae02.desc).map (fun d => d.parameters.length) = some 0 := by decide +kernel
theorem hd_J3_checkIndex_8e157 : yJ3_checkIndex_8e157.cls ≠ "java/lang/invoke/MethodHandle" ∧ yJ3_checkIndex_8e157.cls ≠ "java/lang/invoke/VarHandle" ∧ (parseMethodDescriptor yJ3_checkIndex_8e157.desc).map (fun d => d.parameters.length) = some 3 := by decide +kernel
theorem hd_J0_checkIndex_df160 : yJ0_checkIndex_df160.cls ≠ "java/lang/invoke/MethodHandle" ∧ yJ0_checkIndex_df160.cls ≠ "java/lang/invoke/VarHandle" ∧ (parseMethodDescriptor yJ0_checkIndex_df160.desc).map (fun d => d.parameters.length) = some 2 := by decide +kernel
theorem hd_J1_charAt_3b067 : yJ1_charAt_3b067.cls ≠ "java/lang/invoke/MethodHandle" ∧ yJ1_charAt_3b067.cls ≠ "java/lang/invoke/VarHandle" ∧ (parseMethodDescriptor yJ1_charAt_3b067.desc).map (fun d => d.parameters.length) = some 2 := by decide +kernel
theorem hd_J0_length_8abf5 : yJ0_length_8abf5.cls ≠ "java/lang/invoke/MethodHandle" ∧ yJ0_length_8abf5.cls ≠ "java/lang/invoke/VarHandle" ∧ (parseMethodDescriptor yJ0_length_8abf5.desc).map (fun d => d.parameters.length) = some 0 := by decide +kernel
theorem hd_J1_canEncode_9a6ad : yJ1_canEncode_9a6ad.cls ≠ "java/lang/invoke/MethodHandle" ∧ yJ1_canEncode_9a6ad.cls ≠ "java/lang/invoke/VarHandle" ∧ (parseMethodDescriptor yJ1_canEncode_9a6ad.desc).map (fun d => d.parameters.length) = some 1 := by decide +kernel
theorem hd_J1_indexOfChar_4cfef : yJ1_indexOfChar_4cfef.cls ≠ "java/lang/invoke/MethodHandle" ∧ yJ1_indexOfChar_4cfef.cls ≠ "java/lang/invoke/VarHandle" ∧ (parseMethodDescriptor yJ1_indexOfChar_4cfef.desc).map (fun d => d.parameters.length) = some 4 := by decide +kernel
theorem hd_J1_indexOf_4cfef : yJ1_indexOf_4cfef.cls ≠ "java/lang/invoke/MethodHandle" ∧ yJ1_indexOf_4cfef.cls ≠ "java/lang/invoke/VarHandle" ∧ (parseMethodDescriptor yJ1_indexOf_4cfef.desc).map (fun d => d.parameters.length) = some 4 := by decide +kernel
theorem hd_J0_indexOf_7cf53 : yJ0_indexOf_7cf53.cls ≠ "java/lang/invoke/MethodHandle" ∧ yJ0_indexOf_7cf53.cls ≠ "java/lang/invoke/VarHandle" ∧ (parseMethodDescriptor yJ0_indexOf_7cf53.desc).map (fun d => d.parameters.length) = some 2 := by decide +kernel
theorem dJ0_charAt_5068e_0 : decode cJ0_charAt_5068e 0 = .ok (.aload_n 0, 1) := sorry
theorem dJ0_charAt_5068e_1 : decode cJ0_charAt_5068e 1 = .ok (.invokevirtual 492, 3) := sorry
theorem dJ0_charAt_5068e_4 : decode cJ0_charAt_5068e 4 = .ok (.ifCond .eq 12, 3) := sorry
theorem dJ0_charAt_5068e_7 : decode cJ0_charAt_5068e 7 = .ok (.aload_n 0, 1) := sorry
theorem dJ0_charAt_5068e_8 : decode cJ0_charAt_5068e 8 = .ok (.getfield 9, 3) := sorry
theorem dJ0_charAt_5068e_11 : decode cJ0_charAt_5068e 11 = .ok (.iload_n 1, 1) := sorry
theorem dJ0_charAt_5068e_12 : decode cJ0_charAt_5068e 12 = .ok (.invokestatic 495, 3) := sorry
theorem dJ0_charAt_5068e_15 : decode cJ0_charAt_5068e 15 = .ok (.ireturn, 1) := sorry
theorem dJ0_charAt_5068e_16 : decode cJ0_charAt_5068e 16 = .ok (.aload_n 0, 1) := sorry
theorem dJ0_charAt_5068e_17 : decode cJ0_charAt_5068e 17 = .ok (.getfield 9, 3) := sorry
theorem dJ0_charAt_5068e_20 : decode cJ0_charAt_5068e 20 = .ok (.iload_n 1, 1) := sorry
theorem dJ0_charAt_5068e_21 : decode cJ0_charAt_5068e 21 = .ok (.invokestatic 498, 3) := sorry
theorem dJ0_charAt_5068e_24 : decode cJ0_charAt_5068e 24 = .ok (.ireturn, 1) := sorry
theorem dJ0_checkIndex_df160_0 : decode cJ0_checkIndex_df160 0 = .ok (.iload_n 0, 1) := sorry
theorem dJ0_checkIndex_df160_1 : decode cJ0_checkIndex_df160 1 = .ok (.iload_n 1, 1) := sorry
theorem dJ0_checkIndex_df160_2 : decode cJ0_checkIndex_df160 2 = .ok (.getstatic 1053, 3) := sorry
theorem dJ0_checkIndex_df160_5 : decode cJ0_checkIndex_df160 5 = .ok (.invokestatic 1059, 3) := sorry
theorem dJ0_checkIndex_df160_8 : decode cJ0_checkIndex_df160 8 = .ok (.pop, 1) := sorry
theorem dJ0_checkIndex_df160_9 : decode cJ0_checkIndex_df160 9 = .ok (.return_, 1) := sorry
theorem dJ0_coder_7d493_0 : decode cJ0_coder_7d493 0 = .ok (.getstatic 38, 3) := sorry
theorem dJ0_coder_7d493_3 : decode cJ0_coder_7d493 3 = .ok (.ifCond .eq 10, 3) := sorry
theorem dJ0_coder_7d493_6 : decode cJ0_coder_7d493 6 = .ok (.aload_n 0, 1) := sorry
theorem dJ0_coder_7d493_7 : decode cJ0_coder_7d493 7 = .ok (.getfield 15, 3) := sorry
theorem dJ0_coder_7d493_10 : decode cJ0_coder_7d493 10 = .ok (.goto 4, 3) := sorry
theorem dJ0_coder_7d493_13 : decode cJ0_coder_7d493 13 = .ok (.iconst 1, 1) := sorry
theorem dJ0_coder_7d493_14 : decode cJ0_coder_7d493 14 = .ok (.ireturn, 1) := sorry
theorem dJ0_indexOf_0f7a4_0 : decode cJ0_indexOf_0f7a4 0 = .ok (.aload_n 0, 1) := sorry
theorem dJ0_indexOf_0f7a4_1 : decode cJ0_indexOf_0f7a4 1 = .ok (.iload_n 1, 1) := sorry
theorem dJ0_indexOf_0f7a4_2 : decode cJ0_indexOf_0f7a4 2 = .ok (.iconst 0, 1) := sorry
theorem dJ0_indexOf_0f7a4_3 : decode cJ0_indexOf_0f7a4 3 = .ok (.invokevirtual 633, 3) := sorry
theorem dJ0_indexOf_0f7a4_6 : decode cJ0_indexOf_0f7a4 6 = .ok (.ireturn, 1) := sorry
theorem dJ0_indexOf_7cf53_0 : decode cJ0_indexOf_7cf53 0 = .ok (.aload_n 0, 1) := sorry
theorem dJ0_indexOf_7cf53_1 : decode cJ0_indexOf_7cf53 1 = .ok (.invokevirtual 492, 3) := sorry
theorem dJ0_indexOf_7cf53_4 : decode cJ0_indexOf_7cf53 4 = .ok (.ifCond .eq 19, 3) := sorry
theorem dJ0_indexOf_7cf53_7 : decode cJ0_indexOf_7cf53 7 = .ok (.aload_n 0, 1) := sorry
theorem dJ0_indexOf_7cf53_8 : decode cJ0_indexOf_7cf53 8 = .ok (.getfield 9, 3) := sorry
theorem dJ0_indexOf_7cf53_11 : decode cJ0_indexOf_7cf53 11 = .ok (.iload_n 1, 1) := sorry
theorem dJ0_indexOf_7cf53_12 : decode cJ0_indexOf_7cf53 12 = .ok (.iload_n 2, 1) := sorry
theorem dJ0_indexOf_7cf53_13 : decode cJ0_indexOf_7cf53 13 = .ok (.aload_n 0, 1) := sorry
theorem dJ0_indexOf_7cf53_14 : decode cJ0_indexOf_7cf53 14 = .ok (.invokevirtual 505, 3) := sorry
theorem dJ0_indexOf_7cf53_17 : decode cJ0_indexOf_7cf53 17 = .ok (.invokestatic 637, 3) := sorry
theorem dJ0_indexOf_7cf53_20 : decode cJ0_indexOf_7cf53 20 = .ok (.goto 16, 3) := sorry
theorem dJ0_indexOf_7cf53_23 : decode cJ0_indexOf_7cf53 23 = .ok (.aload_n 0, 1) := sorry
theorem dJ0_indexOf_7cf53_24 : decode cJ0_indexOf_7cf53 24 = .ok (.getfield 9, 3) := sorry
theorem dJ0_indexOf_7cf53_27 : decode cJ0_indexOf_7cf53 27 = .ok (.iload_n 1, 1) := sorry
theorem dJ0_indexOf_7cf53_28 : decode cJ0_indexOf_7cf53 28 = .ok (.iload_n 2, 1) := sorry
theorem dJ0_indexOf_7cf53_29 : decode cJ0_indexOf_7cf53 29 = .ok (.aload_n 0, 1) := sorry
theorem dJ0_indexOf_7cf53_30 : decode cJ0_indexOf_7cf53 30 = .ok (.invokevirtual 505, 3) := sorry
theorem dJ0_indexOf_7cf53_33 : decode cJ0_indexOf_7cf53 33 = .ok (.invokestatic 640, 3) := sorry
theorem dJ0_indexOf_7cf53_36 : decode cJ0_indexOf_7cf53 36 = .ok (.ireturn, 1) := sorry
theorem dJ0_isLatin1_aae02_0 : decode cJ0_isLatin1_aae02 0 = .ok (.getstatic 38, 3) := sorry
theorem dJ0_isLatin1_aae02_3 : decode cJ0_isLatin1_aae02 3 = .ok (.ifCond .eq 14, 3) := sorry
theorem dJ0_isLatin1_aae02_6 : decode cJ0_isLatin1_aae02 6 = .ok (.aload_n 0, 1) := sorry
theorem dJ0_isLatin1_aae02_7 : decode cJ0_isLatin1_aae02 7 = .ok (.getfield 15, 3) := sorry
theorem dJ0_isLatin1_aae02_10 : decode cJ0_isLatin1_aae02 10 = .ok (.ifCond .ne 7, 3) := sorry
theorem dJ0_isLatin1_aae02_13 : decode cJ0_isLatin1_aae02 13 = .ok (.iconst 1, 1) := sorry
theorem dJ0_isLatin1_aae02_14 : decode cJ0_isLatin1_aae02 14 = .ok (.goto 4, 3) := sorry
theorem dJ0_isLatin1_aae02_17 : decode cJ0_isLatin1_aae02 17 = .ok (.iconst 0, 1) := sorry
theorem dJ0_isLatin1_aae02_18 : decode cJ0_isLatin1_aae02 18 = .ok (.ireturn, 1) := sorry
theorem dJ0_length_8abf5_0 : decode cJ0_length_8abf5 0 = .ok (.aload_n 0, 1) := sorry
theorem dJ0_length_8abf5_1 : decode cJ0_length_8abf5 1 = .ok (.getfield 9, 3) := sorry
theorem dJ0_length_8abf5_4 : decode cJ0_length_8abf5 4 = .ok (.arraylength, 1) := sorry
theorem dJ0_length_8abf5_5 : decode cJ0_length_8abf5 5 = .ok (.aload_n 0, 1) := sorry
theorem dJ0_length_8abf5_6 : decode cJ0_length_8abf5 6 = .ok (.invokevirtual 335, 3) := sorry
theorem dJ0_length_8abf5_9 : decode cJ0_length_8abf5 9 = .ok (.ishr, 1) := sorry
theorem dJ0_length_8abf5_10 : decode cJ0_length_8abf5 10 = .ok (.ireturn, 1) := sorry
theorem dJ1_canEncode_9a6ad_0 : decode cJ1_canEncode_9a6ad 0 = .ok (.iload_n 0, 1) := sorry
theorem dJ1_canEncode_9a6ad_1 : decode cJ1_canEncode_9a6ad 1 = .ok (.ifCond .lt 14, 3) := sorry
theorem dJ1_canEncode_9a6ad_4 : decode cJ1_canEncode_9a6ad 4 = .ok (.iload_n 0, 1) := sorry
theorem dJ1_canEncode_9a6ad_5 : decode cJ1_canEncode_9a6ad 5 = .ok (.sipush 255, 3) := sorry
theorem dJ1_canEncode_9a6ad_8 : decode cJ1_canEncode_9a6ad 8 = .ok (.if_icmp .gt 7, 3) := sorry
theorem dJ1_canEncode_9a6ad_11 : decode cJ1_canEncode_9a6ad 11 = .ok (.iconst 1, 1) := sorry
theorem dJ1_canEncode_9a6ad_12 : decode cJ1_canEncode_9a6ad 12 = .ok (.goto 4, 3) := sorry
theorem dJ1_canEncode_9a6ad_15 : decode cJ1_canEncode_9a6ad 15 = .ok (.iconst 0, 1) := sorry
theorem dJ1_canEncode_9a6ad_16 : decode cJ1_canEncode_9a6ad 16 = .ok (.ireturn, 1) := sorry
theorem dJ1_charAt_3b067_0 : decode cJ1_charAt_3b067 0 = .ok (.iload_n 1, 1) := sorry
theorem dJ1_charAt_3b067_1 : decode cJ1_charAt_3b067 1 = .ok (.aload_n 0, 1) := sorry
theorem dJ1_charAt_3b067_2 : decode cJ1_charAt_3b067 2 = .ok (.arraylength, 1) := sorry
theorem dJ1_charAt_3b067_3 : decode cJ1_charAt_3b067 3 = .ok (.invokestatic 9, 3) := sorry
theorem dJ1_charAt_3b067_6 : decode cJ1_charAt_3b067 6 = .ok (.aload_n 0, 1) := sorry
theorem dJ1_charAt_3b067_7 : decode cJ1_charAt_3b067 7 = .ok (.iload_n 1, 1) := sorry
theorem dJ1_charAt_3b067_8 : decode cJ1_charAt_3b067 8 = .ok (.baload, 1) := sorry
theorem dJ1_charAt_3b067_9 : decode cJ1_charAt_3b067 9 = .ok (.sipush 255, 3) := sorry
theorem dJ1_charAt_3b067_12 : decode cJ1_charAt_3b067 12 = .ok (.iand, 1) := sorry
theorem dJ1_charAt_3b067_13 : decode cJ1_charAt_3b067 13 = .ok (.i2c, 1) := sorry
theorem dJ1_charAt_3b067_14 : decode cJ1_charAt_3b067 14 = .ok (.ireturn, 1) := sorry
theorem dJ1_indexOfChar_4cfef_0 : decode cJ1_indexOfChar_4cfef 0 = .ok (.iload_n 1, 1) := sorry
theorem dJ1_indexOfChar_4cfef_1 : decode cJ1_indexOfChar_4cfef 1 = .ok (.i2b, 1) := sorry
theorem dJ1_indexOfChar_4cfef_2 : decode cJ1_indexOfChar_4cfef 2 = .ok (.istore 4, 2) := sorry
theorem dJ1_indexOfChar_4cfef_4 : decode cJ1_indexOfChar_4cfef 4 = .ok (.iload_n 2, 1) := sorry
theorem dJ1_indexOfChar_4cfef_5 : decode cJ1_indexOfChar_4cfef 5 = .ok (.istore 5, 2) := sorry
theorem dJ1_indexOfChar_4cfef_7 : decode cJ1_indexOfChar_4cfef 7 = .ok (.iload 5, 2) := sorry
theorem dJ1_indexOfChar_4cfef_9 : decode cJ1_indexOfChar_4cfef 9 = .ok (.iload_n 3, 1) := sorry
theorem dJ1_indexOfChar_4cfef_10 : decode cJ1_indexOfChar_4cfef 10 = .ok (.if_icmp .ge 21, 3) := sorry
theorem dJ1_indexOfChar_4cfef_13 : decode cJ1_indexOfChar_4cfef 13 = .ok (.aload_n 0, 1) := sorry
theorem dJ1_indexOfChar_4cfef_14 : decode cJ1_indexOfChar_4cfef 14 = .ok (.iload 5, 2) := sorry
theorem dJ1_indexOfChar_4cfef_16 : decode cJ1_indexOfChar_4cfef 16 = .ok (.baload, 1) := sorry
theorem dJ1_indexOfChar_4cfef_17 : decode cJ1_indexOfChar_4cfef 17 = .ok (.iload 4, 2) := sorry
theorem dJ1_indexOfChar_4cfef_19 : decode cJ1_indexOfChar_4cfef 19 = .ok (.if_icmp .ne 6, 3) := sorry
theorem dJ1_indexOfChar_4cfef_22 : decode cJ1_indexOfChar_4cfef 22 = .ok (.iload 5, 2) := sorry
theorem dJ1_indexOfChar_4cfef_24 : decode cJ1_indexOfChar_4cfef 24 = .ok (.ireturn, 1) := sorry
theorem dJ1_indexOfChar_4cfef_25 : decode cJ1_indexOfChar_4cfef 25 = .ok (.iinc 5 1, 3) := sorry
theorem dJ1_indexOfChar_4cfef_28 : decode cJ1_indexOfChar_4cfef 28 = .ok (.goto (-21), 3) := sorry
theorem dJ1_indexOfChar_4cfef_31 : decode cJ1_indexOfChar_4cfef 31 = .ok (.iconst (-1), 1) := sorry
theorem dJ1_indexOfChar_4cfef_32 : decode cJ1_indexOfChar_4cfef 32 = .ok (.ireturn, 1) := sorry
theorem dJ1_indexOf_4cfef_0 : decode cJ1_indexOf_4cfef 0 = .ok (.iload_n 1, 1) := sorry
theorem dJ1_indexOf_4cfef_1 : decode cJ1_indexOf_4cfef 1 = .ok (.invokestatic 88, 3) := sorry
theorem dJ1_indexOf_4cfef_4 : decode cJ1_indexOf_4cfef 4 = .ok (.ifCond .ne 5, 3) := sorry
theorem dJ1_indexOf_4cfef_7 : decode cJ1_indexOf_4cfef 7 = .ok (.iconst (-1), 1) := sorry
theorem dJ1_indexOf_4cfef_8 : decode cJ1_indexOf_4cfef 8 = .ok (.ireturn, 1) := sorry
theorem dJ1_indexOf_4cfef_9 : decode cJ1_indexOf_4cfef 9 = .ok (.iload_n 2, 1) := sorry
theorem dJ1_indexOf_4cfef_10 : decode cJ1_indexOf_4cfef 10 = .ok (.iconst 0, 1) := sorry
theorem dJ1_indexOf_4cfef_11 : decode cJ1_indexOf_4cfef 11 = .ok (.invokestatic 92, 3) := sorry
theorem dJ1_indexOf_4cfef_14 : decode cJ1_indexOf_4cfef 14 = .ok (.istore_n 2, 1) := sorry
theorem dJ1_indexOf_4cfef_15 : decode cJ1_indexOf_4cfef 15 = .ok (.iload_n 3, 1) := sorry
theorem dJ1_indexOf_4cfef_16 : decode cJ1_indexOf_4cfef 16 = .ok (.aload_n 0, 1) := sorry
theorem dJ1_indexOf_4cfef_17 : decode cJ1_indexOf_4cfef 17 = .ok (.arraylength, 1) := sorry
theorem dJ1_indexOf_4cfef_18 : decode cJ1_indexOf_4cfef 18 = .ok (.invokestatic 38, 3) := sorry
theorem dJ1_indexOf_4cfef_21 : decode cJ1_indexOf_4cfef 21 = .ok (.istore_n 3, 1) := sorry
theorem dJ1_indexOf_4cfef_22 : decode cJ1_indexOf_4cfef 22 = .ok (.iload_n 2, 1) := sorry
theorem dJ1_indexOf_4cfef_23 : decode cJ1_indexOf_4cfef 23 = .ok (.iload_n 3, 1) := sorry
theorem dJ1_indexOf_4cfef_24 : decode cJ1_indexOf_4cfef 24 = .ok (.if_icmp .lt 5, 3) := sorry
theorem dJ1_indexOf_4cfef_27 : decode cJ1_indexOf_4cfef 27 = .ok (.iconst (-1), 1) := sorry
theorem dJ1_indexOf_4cfef_28 : decode cJ1_indexOf_4cfef 28 = .ok (.ireturn, 1) := sorry
theorem dJ1_indexOf_4cfef_29 : decode cJ1_indexOf_4cfef 29 = .ok (.aload_n 0, 1) := sorry
theorem dJ1_indexOf_4cfef_30 : decode cJ1_indexOf_4cfef 30 = .ok (.iload_n 1, 1) := sorry
theorem dJ1_indexOf_4cfef_31 : decode cJ1_indexOf_4cfef 31 = .ok (.iload_n 2, 1) := sorry
theorem dJ1_indexOf_4cfef_32 : decode cJ1_indexOf_4cfef 32 = .ok (.iload_n 3, 1) := sorry
theorem dJ1_indexOf_4cfef_33 : decode cJ1_indexOf_4cfef 33 = .ok (.invokestatic 95, 3) := sorry
theorem dJ1_indexOf_4cfef_36 : decode cJ1_indexOf_4cfef 36 = .ok (.ireturn, 1) := sorry
theorem dJ3_checkIndex_8e157_0 : decode cJ3_checkIndex_8e157 0 = .ok (.iload_n 0, 1) := sorry
theorem dJ3_checkIndex_8e157_1 : decode cJ3_checkIndex_8e157 1 = .ok (.ifCond .lt 8, 3) := sorry
theorem dJ3_checkIndex_8e157_4 : decode cJ3_checkIndex_8e157 4 = .ok (.iload_n 0, 1) := sorry
theorem dJ3_checkIndex_8e157_5 : decode cJ3_checkIndex_8e157 5 = .ok (.iload_n 1, 1) := sorry
theorem dJ3_checkIndex_8e157_6 : decode cJ3_checkIndex_8e157 6 = .ok (.if_icmp .lt 10, 3) := sorry
theorem dJ3_checkIndex_8e157_9 : decode cJ3_checkIndex_8e157 9 = .ok (.aload_n 2, 1) := sorry
theorem dJ3_checkIndex_8e157_10 : decode cJ3_checkIndex_8e157 10 = .ok (.iload_n 0, 1) := sorry
theorem dJ3_checkIndex_8e157_11 : decode cJ3_checkIndex_8e157 11 = .ok (.iload_n 1, 1) := sorry
theorem dJ3_checkIndex_8e157_12 : decode cJ3_checkIndex_8e157 12 = .ok (.invokestatic 95, 3) := sorry
theorem dJ3_checkIndex_8e157_15 : decode cJ3_checkIndex_8e157 15 = .ok (.athrow, 1) := sorry
theorem dJ3_checkIndex_8e157_16 : decode cJ3_checkIndex_8e157 16 = .ok (.iload_n 0, 1) := sorry
theorem dJ3_checkIndex_8e157_17 : decode cJ3_checkIndex_8e157 17 = .ok (.ireturn, 1) := sorry
theorem dX11_fault_0 : decode cX11_fault 0 = .ok (.iload_n 1, 1) := sorry
theorem dX11_fault_1 : decode cX11_fault 1 = .ok (.ifCond .ne 8, 3) := sorry
theorem dX11_fault_4 : decode cX11_fault 4 = .ok (.aload_n 0, 1) := sorry
theorem dX11_fault_5 : decode cX11_fault 5 = .ok (.getfield 17, 3) := sorry
theorem dX11_fault_8 : decode cX11_fault 8 = .ok (.ireturn, 1) := sorry
theorem dX11_fault_9 : decode cX11_fault 9 = .ok (.iload_n 1, 1) := sorry
theorem dX11_fault_10 : decode cX11_fault 10 = .ok (.iconst 1, 1) := sorry
theorem dX11_fault_11 : decode cX11_fault 11 = .ok (.if_icmp .ne 10, 3) := sorry
theorem dX11_fault_14 : decode cX11_fault 14 = .ok (.aload_n 0, 1) := sorry
theorem dX11_fault_15 : decode cX11_fault 15 = .ok (.getfield 20, 3) := sorry
theorem dX11_fault_18 : decode cX11_fault 18 = .ok (.goto 4, 3) := sorry
theorem dX11_fault_21 : decode cX11_fault 21 = .ok (.iconst (-1), 1) := sorry
theorem dX11_fault_22 : decode cX11_fault 22 = .ok (.ireturn, 1) := sorry
theorem dX11_feed_0 : decode cX11_feed 0 = .ok (.aload_n 0, 1) := sorry
theorem dX11_feed_1 : decode cX11_feed 1 = .ok (.getfield 13, 3) := sorry
theorem dX11_feed_4 : decode cX11_feed 4 = .ok (.bipush 20, 2) := sorry
theorem dX11_feed_6 : decode cX11_feed 6 = .ok (.iadd, 1) := sorry
theorem dX11_feed_7 : decode cX11_feed 7 = .ok (.sipush 900, 3) := sorry
theorem dX11_feed_10 : decode cX11_feed 10 = .ok (.if_icmp .le 6, 3) := sorry
theorem dX11_feed_13 : decode cX11_feed 13 = .ok (.bipush (-5), 2) := sorry
theorem dX11_feed_15 : decode cX11_feed 15 = .ok (.ireturn, 1) := sorry
theorem dX11_feed_16 : decode cX11_feed 16 = .ok (.aload_n 0, 1) := sorry
theorem dX11_feed_17 : decode cX11_feed 17 = .ok (.iload_n 1, 1) := sorry
theorem dX11_feed_18 : decode cX11_feed 18 = .ok (.invokevirtual 101, 3) := sorry
theorem dX11_feed_21 : decode cX11_feed 21 = .ok (.aload_n 0, 1) := sorry
theorem dX11_feed_22 : decode cX11_feed 22 = .ok (.iload_n 2, 1) := sorry
theorem dX11_feed_23 : decode cX11_feed 23 = .ok (.invokevirtual 101, 3) := sorry
theorem dX11_feed_26 : decode cX11_feed 26 = .ok (.aload_n 0, 1) := sorry
theorem dX11_feed_27 : decode cX11_feed 27 = .ok (.iload_n 3, 1) := sorry
theorem dX11_feed_28 : decode cX11_feed 28 = .ok (.invokevirtual 101, 3) := sorry
theorem dX11_feed_31 : decode cX11_feed 31 = .ok (.aload_n 0, 1) := sorry
theorem dX11_feed_32 : decode cX11_feed 32 = .ok (.iload 4, 2) := sorry
theorem dX11_feed_34 : decode cX11_feed 34 = .ok (.invokevirtual 101, 3) := sorry
theorem dX11_feed_37 : decode cX11_feed 37 = .ok (.aload_n 0, 1) := sorry
theorem dX11_feed_38 : decode cX11_feed 38 = .ok (.iload 5, 2) := sorry
theorem dX11_feed_40 : decode cX11_feed 40 = .ok (.invokevirtual 101, 3) := sorry
theorem dX11_feed_43 : decode cX11_feed 43 = .ok (.aload_n 0, 1) := sorry
theorem dX11_feed_44 : decode cX11_feed 44 = .ok (.getfield 13, 3) := sorry
theorem dX11_feed_47 : decode cX11_feed 47 = .ok (.ireturn, 1) := sorry
theorem dX11_putOnTape_0 : decode cX11_putOnTape 0 = .ok (.bipush 24, 2) := sorry
theorem dX11_putOnTape_2 : decode cX11_putOnTape 2 = .ok (.istore_n 2, 1) := sorry
theorem dX11_putOnTape_3 : decode cX11_putOnTape 3 = .ok (.iload_n 2, 1) := sorry
theorem dX11_putOnTape_4 : decode cX11_putOnTape 4 = .ok (.ifCond .lt 42, 3) := sorry
theorem dX11_putOnTape_7 : decode cX11_putOnTape 7 = .ok (.aload_n 0, 1) := sorry
theorem dX11_putOnTape_8 : decode cX11_putOnTape 8 = .ok (.getfield 13, 3) := sorry
theorem dX11_putOnTape_11 : decode cX11_putOnTape 11 = .ok (.sipush 900, 3) := sorry
theorem dX11_putOnTape_14 : decode cX11_putOnTape 14 = .ok (.if_icmp .ge 32, 3) := sorry
theorem dX11_putOnTape_17 : decode cX11_putOnTape 17 = .ok (.aload_n 0, 1) := sorry
theorem dX11_putOnTape_18 : decode cX11_putOnTape 18 = .ok (.getfield 9, 3) := sorry
theorem dX11_putOnTape_21 : decode cX11_putOnTape 21 = .ok (.aload_n 0, 1) := sorry
theorem dX11_putOnTape_22 : decode cX11_putOnTape 22 = .ok (.getfield 13, 3) := sorry
theorem dX11_putOnTape_25 : decode cX11_putOnTape 25 = .ok (.iload_n 1, 1) := sorry
theorem dX11_putOnTape_26 : decode cX11_putOnTape 26 = .ok (.iload_n 2, 1) := sorry
theorem dX11_putOnTape_27 : decode cX11_putOnTape 27 = .ok (.iushr, 1) := sorry
theorem dX11_putOnTape_28 : decode cX11_putOnTape 28 = .ok (.i2b, 1) := sorry
theorem dX11_putOnTape_29 : decode cX11_putOnTape 29 = .ok (.bastore, 1) := sorry
theorem dX11_putOnTape_30 : decode cX11_putOnTape 30 = .ok (.aload_n 0, 1) := sorry
theorem dX11_putOnTape_31 : decode cX11_putOnTape 31 = .ok (.dup, 1) := sorry
theorem dX11_putOnTape_32 : decode cX11_putOnTape 32 = .ok (.getfield 13, 3) := sorry
theorem dX11_putOnTape_35 : decode cX11_putOnTape 35 = .ok (.iconst 1, 1) := sorry
theorem dX11_putOnTape_36 : decode cX11_putOnTape 36 = .ok (.iadd, 1) := sorry
theorem dX11_putOnTape_37 : decode cX11_putOnTape 37 = .ok (.putfield 13, 3) := sorry
theorem dX11_putOnTape_40 : decode cX11_putOnTape 40 = .ok (.iinc 2 (-8), 3) := sorry
theorem dX11_putOnTape_43 : decode cX11_putOnTape 43 = .ok (.goto (-40), 3) := sorry
theorem dX11_putOnTape_46 : decode cX11_putOnTape 46 = .ok (.return_, 1) := sorry
theorem dX2_forget_0 : decode cX2_forget 0 = .ok (.aload_n 0, 1) := sorry
theorem dX2_forget_1 : decode cX2_forget 1 = .ok (.iconst 0, 1) := sorry
theorem dX2_forget_2 : decode cX2_forget 2 = .ok (.putfield 9, 3) := sorry
theorem dX2_forget_5 : decode cX2_forget 5 = .ok (.return_, 1) := sorry
set_option maxHeartbeats 4000000 in
set_option maxRecDepth 100000 in
theorem gX11_putOnTape_9d88fd1 (l : Launch) (D : va_G) (cy : Nat → ClassId) (h0 : Nat) (h1 : Nat) (p0 : Int32) (p1 : Int32) (p2 : Int32) (p3 : Int32) (w0 : Value) (w1 : Value) (w2 : Value) (w3 : Value) (w4 : Value) (w5 : Value) (w6 : Value) (w7 : Value) (w8 : Value) (w9 : Value) (w10 : Value) (w11 : Value) (p4 : Int32) (f0 : Nat → Int32) (hp0 : (-2147483648) ≤ (p0).toInt ∧ (p0).toInt ≤ 2147483647) (hp1 : 0 ≤ (p1).toInt ∧ (p1).toInt ≤ 900) (hp2 : (-2147483648) ≤ (p2).toInt ∧ (p2).toInt ≤ 2147483647) (hp3 : (-2147483648) ≤ (p3).toInt ∧ (p3).toInt ≤ 2147483647) (hp4 : (-2147483648) ≤ (p4).toInt ∧ (p4).toInt ≤ 2147483647) (rf0 : TB f0) (sz : Nat) : MV l yX11_putOnTape cX11_putOnTape 3 { frames := 0, cells := 0, slots := 0, locals := 0 } [.ref h0, .int p0] D cy (wk_a794cc59d cy h0 h1 p1 p2 p3 w0 w1 w2 w3 w4 w5 w6 w7 w8 w9 w10 w11 p4 h1 f0) sz (fun u => (4 ≤ (u.2.1 0 0).toInt ∧ (u.2.1 0 0).toInt ≤ 900) ∧ TB (u.2.1 1) ∧ (900 < (p1 : Int32).toInt + 4 ∨ ((u.2.1 0 0) : Int32).toInt = (p1 : Int32).toInt + 4) ∧ (900 < (p1 : Int32).toInt + 4 ∨ PTS f0 (u.2.1 1) (p1 : Int32).toInt (p0 : Int32).toInt 4) ∧ True) (fun u => (wk_a794cc59d cy h0 h1 (u.2.1 0 0) p2 p3 w0 w1 w2 w3 w4 w5 w6 w7 w8 w9 w10 w11 p4 h1 (u.2.1 1))) 0 0 := sorry
set_option maxHeartbeats 4000000 in
set_option maxRecDepth 100000 in
theorem gX11_feed_982a50c (l : Launch) (D : va_G) (cy : Nat → ClassId) (h0 : Nat) (h1 : Nat) (p0 : Int32) (p1 : Int32) (p2 : Int32) (p3 : Int32) (p4 : Int32) (p5 : Int32) (p6 : Int32) (p7 : Int32) (w0 : Value) (w1 : Value) (w2 : Value) (w3 : Value) (w4 : Value) (w5 : Value) (w6 : Value) (w7 : Value) (w8 : Value) (w9 : Value) (w10 : Value) (w11 : Value) (p8 : Int32) (f0 : Nat → Int32) (hp0 : (-2147483648) ≤ (p0).toInt ∧ (p0).toInt ≤ 2147483647) (hp1 : (-2147483648) ≤ (p1).toInt ∧ (p1).toInt ≤ 2147483647) (hp2 : (-2147483648) ≤ (p2).toInt ∧ (p2).toInt ≤ 2147483647) (hp3 : (-2147483648) ≤ (p3).toInt ∧ (p3).toInt ≤ 2147483647) (hp4 : (-2147483648) ≤ (p4).toInt ∧ (p4).toInt ≤ 2147483647) (hp5 : 0 ≤ (p5).toInt ∧ (p5).toInt ≤ 900) (hp6 : (-2147483648) ≤ (p6).toInt ∧ (p6).toInt ≤ 2147483647) (hp7 : (-2147483648) ≤ (p7).toInt ∧ (p7).toInt ≤ 2147483647) (hp8 : (-2147483648) ≤ (p8).toInt ∧ (p8).toInt ≤ 2147483647) (rf0 : TB f0) (sz : Nat) : MI l yX11_feed cX11_feed 6 .int { frames := 1, cells := 0, slots := 0, locals := 22 } [.ref h0, .int p0, .int p1, .int p2, .int p3, .int p4] D cy (wk_a794cc59d cy h0 h1 p5 p6 p7 w0 w1 w2 w3 w4 w5 w6 w7 w8 w9 w10 w11 p8 h1 f0) sz (fun r u => ((-5) ≤ r.toInt ∧ r.toInt ≤ 900) ∧ (0 ≤ (u.2.1 0 0).toInt ∧ (u.2.1 0 0).toInt ≤ 900) ∧ TB (u.2.1 1) ∧ (((r : Int32).toInt = -5 ∧ 900 < (p5 : Int32).toInt + 20 ∧ ((u.2.1 0 0) : Int32).toInt = (p5 : Int32).toInt) ∨ ((r : Int32).toInt = ((u.2.1 0 0) : Int32).toInt ∧ ((u.2.1 0 0) : Int32).toInt = (p5 : Int32).toInt + 20 ∧ ((u.2.1 0 0) : Int32).toInt ≤ 900)) ∧ (((r : Int32).toInt = -5 ∧ bB (u.2.1 1) = bB f0) ∨ ((r : Int32).toInt ≠ -5 ∧ bB (u.2.1 1) = fdB (bB f0) (p5 : Int32).toInt (pk5 (p0 : Int32).toInt (p1 : Int32).toInt (p2 : Int32).toInt (p3 : Int32).toInt (p4 : Int32).toInt))) ∧ True) (fun u => (wk_a794cc59d cy h0 h1 (u.2.1 0 0) p6 p7 w0 w1 w2 w3 w4 w5 w6 w7 w8 w9 w10 w11 p8 h1 (u.2.1 1))) 0 0 := sorry
set_option maxHeartbeats 4000000 in
set_option maxRecDepth 100000 in
theorem gJ0_isLatin1_aae02_bcca0b2 (l : Launch) (D : va_G) (cy : Nat → ClassId) (sz : Nat) : MI l yJ0_isLatin1_aae02 cJ0_isLatin1_aae02 1 .boolean { frames := 0, cells := 0, slots := 0, locals := 0 } [.ref (cy 11)] D cy [] sz (fun r u => r = 1 ∧ True) (fun u => []) 0 0 := sorry
set_option maxHeartbeats 4000000 in
set_option maxRecDepth 100000 in
theorem gJ0_coder_7d493_dd71dbc (l : Launch) (D : va_G) (cy : Nat → ClassId) (sz : Nat) : MI l yJ0_coder_7d493 cJ0_coder_7d493 1 .byte { frames := 0, cells := 0, slots := 0, locals := 0 } [.ref (cy 11)] D cy [] sz (fun r u => r = 0 ∧ True) (fun u => []) 0 0 := sorry
set_option maxHeartbeats 4000000 in
set_option maxRecDepth 100000 in
theorem gJ0_length_8abf5_5da51b3 (l : Launch) (D : va_G) (cy : Nat → ClassId) (sz : Nat) : MI l yJ0_length_8abf5 cJ0_length_8abf5 1 .int { frames := 1, cells := 0, slots := 0, locals := 20 } [.ref (cy 11)] D cy [] sz (fun r u => r = 12 ∧ True) (fun u => []) 0 0 := sorry
set_option maxHeartbeats 4000000 in
set_option maxRecDepth 100000 in
theorem gJ1_canEncode_9a6ad_b22b11e (l : Launch) (D : va_G) (cy : Nat → ClassId) (p0 : Int32) (hp0 : 0 ≤ (p0).toInt ∧ (p0).toInt ≤ 65535) (sz : Nat) : MI l yJ1_canEncode_9a6ad cJ1_canEncode_9a6ad 1 .boolean { frames := 0, cells := 0, slots := 0, locals := 0 } [.int p0] D cy [] sz (fun r u => (0 ≤ r.toInt ∧ r.toInt ≤ 1) ∧ (((r : Int32).toInt = 1 ∧ 0 ≤ (p0 : Int32).toInt ∧ (p0 : Int32).toInt ≤ 255) ∨ ((r : Int32).toInt = 0 ∧ ((p0 : Int32).toInt < 0 ∨ 255 < (p0 : Int32).toInt))) ∧ True) (fun u => []) 0 0 := sorry
set_option maxHeartbeats 4000000 in
set_option maxRecDepth 100000 in
theorem gJ1_indexOfChar_4cfef_863ec84 (l : Launch) (D : va_G) (cy : Nat → ClassId) (p0 : Int32) (p1 : Int32) (p2 : Int32) (hp0 : 0 ≤ (p0).toInt ∧ (p0).toInt ≤ 65535) (hp1 : 0 ≤ (p1).toInt ∧ (p1).toInt ≤ 0) (hp2 : 12 ≤ (p2).toInt ∧ (p2).toInt ≤ 12) (hpre0 : (p1 : Int32).toInt = 0 ∧ (p2 : Int32).toInt = 12 ∧ 0 ≤ (p0 : Int32).toInt ∧ (p0 : Int32).toInt ≤ 255) (sz : Nat) : MI l yJ1_indexOfChar_4cfef cJ1_indexOfChar_4cfef 6 .int { frames := 0, cells := 0, slots := 0, locals := 0 } [.ref (cy 15), .int p0, .int p1, .int p2] D cy [] sz (fun r u => ((-1) ≤ r.toInt ∧ r.toInt ≤ 11) ∧ (SG (r : Int32).toInt (p0 : Int32).toInt) ∧ True) (fun u => []) 0 0 := sorry
set_option maxHeartbeats 4000000 in
set_option maxRecDepth 100000 in
theorem gJ1_indexOf_4cfef_2606afe (l : Launch) (D : va_G) (cy : Nat → ClassId) (p0 : Int32) (p1 : Int32) (p2 : Int32) (hp0 : 0 ≤ (p0).toInt ∧ (p0).toInt ≤ 65535) (hp1 : 0 ≤ (p1).toInt ∧ (p1).toInt ≤ 0) (hp2 : 12 ≤ (p2).toInt ∧ (p2).toInt ≤ 12) (sz : Nat) : MI l yJ1_indexOf_4cfef cJ1_indexOf_4cfef 4 .int { frames := 1, cells := 0, slots := 0, locals := 25 } [.ref (cy 15), .int p0, .int p1, .int p2] D cy [] sz (fun r u => ((-1) ≤ r.toInt ∧ r.toInt ≤ 11) ∧ (SG (r : Int32).toInt (p0 : Int32).toInt) ∧ True) (fun u => []) 0 0 := sorry
set_option maxHeartbeats 4000000 in
set_option maxRecDepth 100000 in
theorem gJ0_indexOf_7cf53_c4be012 (l : Launch) (D : va_G) (cy : Nat → ClassId) (p0 : Int32) (p1 : Int32) (hp0 : 0 ≤ (p0).toInt ∧ (p0).toInt ≤ 65535) (hp1 : 0 ≤ (p1).toInt ∧ (p1).toInt ≤ 0) (sz : Nat) : MI l yJ0_indexOf_7cf53 cJ0_indexOf_7cf53 3 .int { frames := 2, cells := 0, slots := 0, locals := 48 } [.ref (cy 11), .int p0, .int p1] D cy [] sz (fun r u => ((-1) ≤ r.toInt ∧ r.toInt ≤ 11) ∧ (SG (r : Int32).toInt (p0 : Int32).toInt) ∧ True) (fun u => []) 0 0 := sorry
set_option maxHeartbeats 4000000 in
set_option maxRecDepth 100000 in
theorem gJ0_indexOf_0f7a4_3aaa59d (l : Launch) (D : va_G) (cy : Nat → ClassId) (p0 : Int32) (hp0 : 0 ≤ (p0).toInt ∧ (p0).toInt ≤ 65535) (sz : Nat) : MI l yJ0_indexOf_0f7a4 cJ0_indexOf_0f7a4 2 .int { frames := 3, cells := 0, slots := 0, locals := 70 } [.ref (cy 11), .int p0] D cy [] sz (fun r u => ((-1) ≤ r.toInt ∧ r.toInt ≤ 11) ∧ (SG (r : Int32).toInt (p0 : Int32).toInt) ∧ True) (fun u => []) 0 0 := sorry
set_option maxHeartbeats 4000000 in
set_option maxRecDepth 100000 in
theorem gJ0_coder_7d493_9242e02 (l : Launch) (D : va_G) (cy : Nat → ClassId) (sz : Nat) : MI l yJ0_coder_7d493 cJ0_coder_7d493 1 .byte { frames := 0, cells := 0, slots := 0, locals := 0 } [.ref (cy 10)] D cy [] sz (fun r u => r = 0 ∧ True) (fun u => []) 0 0 := sorry
set_option maxHeartbeats 4000000 in
set_option maxRecDepth 100000 in
theorem gJ0_length_8abf5_b47a5de (l : Launch) (D : va_G) (cy : Nat → ClassId) (sz : Nat) : MI l yJ0_length_8abf5 cJ0_length_8abf5 1 .int { frames := 1, cells := 0, slots := 0, locals := 20 } [.ref (cy 10)] D cy [] sz (fun r u => r = 128 ∧ True) (fun u => []) 0 0 := sorry
set_option maxHeartbeats 4000000 in
set_option maxRecDepth 100000 in
theorem gJ0_isLatin1_aae02_141d41a (l : Launch) (D : va_G) (cy : Nat → ClassId) (sz : Nat) : MI l yJ0_isLatin1_aae02 cJ0_isLatin1_aae02 1 .boolean { frames := 0, cells := 0, slots := 0, locals := 0 } [.ref (cy 10)] D cy [] sz (fun r u => r = 1 ∧ True) (fun u => []) 0 0 := sorry
set_option maxHeartbeats 4000000 in
set_option maxRecDepth 100000 in
theorem gJ3_checkIndex_8e157_c1e45df (l : Launch) (D : va_G) (cy : Nat → ClassId) (p0 : Int32) (p1 : Int32) (hp0 : 0 ≤ (p0).toInt ∧ (p0).toInt ≤ 127) (hp1 : 128 ≤ (p1).toInt ∧ (p1).toInt ≤ 128) (hpre0 : 0 ≤ (p0 : Int32).toInt ∧ (p0 : Int32).toInt < (p1 : Int32).toInt) (sz : Nat) : MI l yJ3_checkIndex_8e157 cJ3_checkIndex_8e157 3 .int { frames := 0, cells := 0, slots := 0, locals := 0 } [.int p0, .int p1, .null] D cy [] sz (fun r u => (0 ≤ r.toInt ∧ r.toInt ≤ 127) ∧ True) (fun u => []) 0 0 := sorry
set_option maxHeartbeats 4000000 in
set_option maxRecDepth 100000 in
theorem gJ3_checkIndex_8e157_1e643c6 (l : Launch) (D : va_G) (cy : Nat → ClassId) (p0 : Int32) (p1 : Int32) (h0 : Nat) (hp0 : 0 ≤ (p0).toInt ∧ (p0).toInt ≤ 127) (hp1 : 128 ≤ (p1).toInt ∧ (p1).toInt ≤ 128) (hpre0 : 0 ≤ (p0 : Int32).toInt ∧ (p0 : Int32).toInt < (p1 : Int32).toInt) (sz : Nat) : MI l yJ3_checkIndex_8e157 cJ3_checkIndex_8e157 3 .int { frames := 0, cells := 0, slots := 0, locals := 0 } [.int p0, .int p1, .ref h0] D cy [] sz (fun r u => (0 ≤ r.toInt ∧ r.toInt ≤ 127) ∧ True) (fun u => []) 0 0 := sorry
set_option maxHeartbeats 4000000 in
set_option maxRecDepth 100000 in
theorem gJ0_checkIndex_df160_1103648 (l : Launch) (D : va_G) (cy : Nat → ClassId) (p0 : Int32) (p1 : Int32) (hp0 : 0 ≤ (p0).toInt ∧ (p0).toInt ≤ 127) (hp1 : 128 ≤ (p1).toInt ∧ (p1).toInt ≤ 128) (hpre0 : 0 ≤ (p0 : Int32).toInt ∧ (p0 : Int32).toInt < (p1 : Int32).toInt) (sz : Nat) : MV l yJ0_checkIndex_df160 cJ0_checkIndex_df160 2 { frames := 1, cells := 0, slots := 0, locals := 22 } [.int p0, .int p1] D cy [] sz (fun u => True) (fun u => []) 0 0 := sorry
set_option maxHeartbeats 4000000 in
set_option maxRecDepth 100000 in
theorem gJ1_charAt_3b067_6800e1c (l : Launch) (D : va_G) (cy : Nat → ClassId) (p0 : Int32) (hp0 : 0 ≤ (p0).toInt ∧ (p0).toInt ≤ 127) (sz : Nat) : MI l yJ1_charAt_3b067 cJ1_charAt_3b067 2 .char { frames := 2, cells := 0, slots := 0, locals := 43 } [.ref (cy 14), .int p0] D cy [] sz (fun r u => (0 ≤ r.toInt ∧ r.toInt ≤ 65535) ∧ ((r : Int32).toInt = sW 0 (p0 : Int32).toNatClampNeg) ∧ True) (fun u => []) 0 0 := sorry
set_option maxHeartbeats 4000000 in
set_option maxRecDepth 100000 in
theorem gJ0_charAt_5068e_84d2329 (l : Launch) (D : va_G) (cy : Nat → ClassId) (p0 : Int32) (hp0 : 0 ≤ (p0).toInt ∧ (p0).toInt ≤ 127) (sz : Nat) : MI l yJ0_charAt_5068e cJ0_charAt_5068e 2 .char { frames := 3, cells := 0, slots := 0, locals := 64 } [.ref (cy 10), .int p0] D cy [] sz (fun r u => (0 ≤ r.toInt ∧ r.toInt ≤ 65535) ∧ ((r : Int32).toInt = sW 0 (p0 : Int32).toNatClampNeg) ∧ True) (fun u => []) 0 0 := sorry
set_option maxHeartbeats 4000000 in
set_option maxRecDepth 100000 in
theorem gX2_forget_062d4b6 (l : Launch) (D : va_G) (cy : Nat → ClassId) (h0 : Nat) (p0 : Int32) (w0 : Value) (hp0 : 0 ≤ (p0).toInt ∧ (p0).toInt ≤ 10) (sz : Nat) : MV l yX2_forget cX2_forget 1 { frames := 0, cells := 0, slots := 0, locals := 0 } [.ref h0] D cy [(h0, .inr (2, [.int p0, w0]))] sz (fun u => (0 ≤ (u.2.1 0 0).toInt ∧ (u.2.1 0 0).toInt ≤ 0) ∧ True) (fun u => [(h0, .inr (2, [.int (u.2.1 0 0), w0]))]) 0 0 := sorry
set_option maxHeartbeats 4000000 in
set_option maxRecDepth 100000 in
theorem gJ0_coder_7d493_16686df (l : Launch) (D : va_G) (cy : Nat → ClassId) (sz : Nat) : MI l yJ0_coder_7d493 cJ0_coder_7d493 1 .byte { frames := 0, cells := 0, slots := 0, locals := 0 } [.ref (cy 13)] D cy [] sz (fun r u => r = 0 ∧ True) (fun u => []) 0 0 := sorry
set_option maxHeartbeats 4000000 in
set_option maxRecDepth 100000 in
theorem gJ0_length_8abf5_3e0234a (l : Launch) (D : va_G) (cy : Nat → ClassId) (sz : Nat) : MI l yJ0_length_8abf5 cJ0_length_8abf5 1 .int { frames := 1, cells := 0, slots := 0, locals := 20 } [.ref (cy 13)] D cy [] sz (fun r u => r = 12 ∧ True) (fun u => []) 0 0 := sorry
set_option maxHeartbeats 4000000 in
set_option maxRecDepth 100000 in
theorem gJ0_isLatin1_aae02_0a74a4d (l : Launch) (D : va_G) (cy : Nat → ClassId) (sz : Nat) : MI l yJ0_isLatin1_aae02 cJ0_isLatin1_aae02 1 .boolean { frames := 0, cells := 0, slots := 0, locals := 0 } [.ref (cy 13)] D cy [] sz (fun r u => r = 1 ∧ True) (fun u => []) 0 0 := sorry
set_option maxHeartbeats 4000000 in
set_option maxRecDepth 100000 in
theorem gJ3_checkIndex_8e157_28479a9 (l : Launch) (D : va_G) (cy : Nat → ClassId) (p0 : Int32) (p1 : Int32) (hp0 : 0 ≤ (p0).toInt ∧ (p0).toInt ≤ 127) (hp1 : 11 ≤ (p1).toInt ∧ (p1).toInt ≤ 128) (hpre0 : 0 ≤ (p0 : Int32).toInt ∧ (p0 : Int32).toInt < (p1 : Int32).toInt) (sz : Nat) : MI l yJ3_checkIndex_8e157 cJ3_checkIndex_8e157 3 .int { frames := 0, cells := 0, slots := 0, locals := 0 } [.int p0, .int p1, .null] D cy [] sz (fun r u => (0 ≤ r.toInt ∧ r.toInt ≤ 127) ∧ True) (fun u => []) 0 0 := sorry
set_option maxHeartbeats 4000000 in
set_option maxRecDepth 100000 in
theorem gJ3_checkIndex_8e157_1577a27 (l : Launch) (D : va_G) (cy : Nat → ClassId) (p0 : Int32) (p1 : Int32) (h0 : Nat) (hp0 : 0 ≤ (p0).toInt ∧ (p0).toInt ≤ 127) (hp1 : 11 ≤ (p1).toInt ∧ (p1).toInt ≤ 128) (hpre0 : 0 ≤ (p0 : Int32).toInt ∧ (p0 : Int32).toInt < (p1 : Int32).toInt) (sz : Nat) : MI l yJ3_checkIndex_8e157 cJ3_checkIndex_8e157 3 .int { frames := 0, cells := 0, slots := 0, locals := 0 } [.int p0, .int p1, .ref h0] D cy [] sz (fun r u => (0 ≤ r.toInt ∧ r.toInt ≤ 127) ∧ True) (fun u => []) 0 0 := sorry
set_option maxHeartbeats 4000000 in
set_option maxRecDepth 100000 in
theorem gJ0_checkIndex_df160_93539af (l : Launch) (D : va_G) (cy : Nat → ClassId) (p0 : Int32) (p1 : Int32) (hp0 : 0 ≤ (p0).toInt ∧ (p0).toInt ≤ 127) (hp1 : 11 ≤ (p1).toInt ∧ (p1).toInt ≤ 128) (hpre0 : 0 ≤ (p0 : Int32).toInt ∧ (p0 : Int32).toInt < (p1 : Int32).toInt) (sz : Nat) : MV l yJ0_checkIndex_df160 cJ0_checkIndex_df160 2 { frames := 1, cells := 0, slots := 0, locals := 22 } [.int p0, .int p1] D cy [] sz (fun u => True) (fun u => []) 0 0 := sorry
set_option maxHeartbeats 4000000 in
set_option maxRecDepth 100000 in
theorem gJ1_charAt_3b067_fd9b7b7 (l : Launch) (D : va_G) (cy : Nat → ClassId) (p0 : Int32) (hp0 : 0 ≤ (p0).toInt ∧ (p0).toInt ≤ 11) (sz : Nat) : MI l yJ1_charAt_3b067 cJ1_charAt_3b067 2 .char { frames := 2, cells := 0, slots := 0, locals := 43 } [.ref (cy 17), .int p0] D cy [] sz (fun r u => (0 ≤ r.toInt ∧ r.toInt ≤ 65535) ∧ ((r : Int32).toInt = sW 3 (p0 : Int32).toNatClampNeg) ∧ True) (fun u => []) 0 0 := sorry
set_option maxHeartbeats 4000000 in
set_option maxRecDepth 100000 in
theorem gJ0_charAt_5068e_e322d56 (l : Launch) (D : va_G) (cy : Nat → ClassId) (p0 : Int32) (hp0 : 0 ≤ (p0).toInt ∧ (p0).toInt ≤ 11) (sz : Nat) : MI l yJ0_charAt_5068e cJ0_charAt_5068e 2 .char { frames := 3, cells := 0, slots := 0, locals := 64 } [.ref (cy 13), .int p0] D cy [] sz (fun r u => (0 ≤ r.toInt ∧ r.toInt ≤ 65535) ∧ ((r : Int32).toInt = sW 3 (p0 : Int32).toNatClampNeg) ∧ True) (fun u => []) 0 0 := sorry
set_option maxHeartbeats 4000000 in
set_option maxRecDepth 100000 in
theorem gJ0_coder_7d493_a60b70f (l : Launch) (D : va_G) (cy : Nat → ClassId) (sz : Nat) : MI l yJ0_coder_7d493 cJ0_coder_7d493 1 .byte { frames := 0, cells := 0, slots := 0, locals := 0 } [.ref (cy 12)] D cy [] sz (fun r u => r = 0 ∧ True) (fun u => []) 0 0 := sorry
set_option maxHeartbeats 4000000 in
set_option maxRecDepth 100000 in
theorem gJ0_length_8abf5_227ad04 (l : Launch) (D : va_G) (cy : Nat → ClassId) (sz : Nat) : MI l yJ0_length_8abf5 cJ0_length_8abf5 1 .int { frames := 1, cells := 0, slots := 0, locals := 20 } [.ref (cy 12)] D cy [] sz (fun r u => r = 130 ∧ True) (fun u => []) 0 0 := sorry
set_option maxHeartbeats 4000000 in
set_option maxRecDepth 100000 in
theorem gJ0_isLatin1_aae02_5602f73 (l : Launch) (D : va_G) (cy : Nat → ClassId) (sz : Nat) : MI l yJ0_isLatin1_aae02 cJ0_isLatin1_aae02 1 .boolean { frames := 0, cells := 0, slots := 0, locals := 0 } [.ref (cy 12)] D cy [] sz (fun r u => r = 1 ∧ True) (fun u => []) 0 0 := sorry
set_option maxHeartbeats 4000000 in
set_option maxRecDepth 100000 in
theorem gJ3_checkIndex_8e157_1956ee9 (l : Launch) (D : va_G) (cy : Nat → ClassId) (p0 : Int32) (p1 : Int32) (hp0 : 0 ≤ (p0).toInt ∧ (p0).toInt ≤ 129) (hp1 : 11 ≤ (p1).toInt ∧ (p1).toInt ≤ 255) (hpre0 : 0 ≤ (p0 : Int32).toInt ∧ (p0 : Int32).toInt < (p1 : Int32).toInt) (sz : Nat) : MI l yJ3_checkIndex_8e157 cJ3_checkIndex_8e157 3 .int { frames := 0, cells := 0, slots := 0, locals := 0 } [.int p0, .int p1, .null] D cy [] sz (fun r u => (0 ≤ r.toInt ∧ r.toInt ≤ 129) ∧ True) (fun u => []) 0 0 := sorry
set_option maxHeartbeats 4000000 in
set_option maxRecDepth 100000 in
theorem gJ3_checkIndex_8e157_5c1c6ab (l : Launch) (D : va_G) (cy : Nat → ClassId) (p0 : Int32) (p1 : Int32) (h0 : Nat) (hp0 : 0 ≤ (p0).toInt ∧ (p0).toInt ≤ 129) (hp1 : 11 ≤ (p1).toInt ∧ (p1).toInt ≤ 255) (hpre0 : 0 ≤ (p0 : Int32).toInt ∧ (p0 : Int32).toInt < (p1 : Int32).toInt) (sz : Nat) : MI l yJ3_checkIndex_8e157 cJ3_checkIndex_8e157 3 .int { frames := 0, cells := 0, slots := 0, locals := 0 } [.int p0, .int p1, .ref h0] D cy [] sz (fun r u => (0 ≤ r.toInt ∧ r.toInt ≤ 129) ∧ True) (fun u => []) 0 0 := sorry
set_option maxHeartbeats 4000000 in
set_option maxRecDepth 100000 in
theorem gJ0_checkIndex_df160_e8cd482 (l : Launch) (D : va_G) (cy : Nat → ClassId) (p0 : Int32) (p1 : Int32) (hp0 : 0 ≤ (p0).toInt ∧ (p0).toInt ≤ 129) (hp1 : 11 ≤ (p1).toInt ∧ (p1).toInt ≤ 255) (hpre0 : 0 ≤ (p0 : Int32).toInt ∧ (p0 : Int32).toInt < (p1 : Int32).toInt) (sz : Nat) : MV l yJ0_checkIndex_df160 cJ0_checkIndex_df160 2 { frames := 1, cells := 0, slots := 0, locals := 22 } [.int p0, .int p1] D cy [] sz (fun u => True) (fun u => []) 0 0 := sorry
set_option maxHeartbeats 4000000 in
set_option maxRecDepth 100000 in
theorem gJ1_charAt_3b067_cbd4617 (l : Launch) (D : va_G) (cy : Nat → ClassId) (p0 : Int32) (hp0 : 0 ≤ (p0).toInt ∧ (p0).toInt ≤ 129) (sz : Nat) : MI l yJ1_charAt_3b067 cJ1_charAt_3b067 2 .char { frames := 2, cells := 0, slots := 0, locals := 43 } [.ref (cy 16), .int p0] D cy [] sz (fun r u => (0 ≤ r.toInt ∧ r.toInt ≤ 65535) ∧ ((p0 : Int32).toInt ≠ 129 ∨ (r : Int32).toInt = 32) ∧ ((r : Int32).toInt = sW 2 (p0 : Int32).toNatClampNeg) ∧ True) (fun u => []) 0 0 := sorry
set_option maxHeartbeats 4000000 in
set_option maxRecDepth 100000 in
theorem gJ0_charAt_5068e_7fea22b (l : Launch) (D : va_G) (cy : Nat → ClassId) (p0 : Int32) (hp0 : 0 ≤ (p0).toInt ∧ (p0).toInt ≤ 129) (sz : Nat) : MI l yJ0_charAt_5068e cJ0_charAt_5068e 2 .char { frames := 3, cells := 0, slots := 0, locals := 64 } [.ref (cy 12), .int p0] D cy [] sz (fun r u => (0 ≤ r.toInt ∧ r.toInt ≤ 65535) ∧ ((p0 : Int32).toInt ≠ 129 ∨ (r : Int32).toInt = 32) ∧ ((r : Int32).toInt = sW 2 (p0 : Int32).toNatClampNeg) ∧ True) (fun u => []) 0 0 := sorry
set_option maxHeartbeats 4000000 in
set_option maxRecDepth 100000 in
theorem gX11_fault_c8137e1 (l : Launch) (D : va_G) (cy : Nat → ClassId) (h0 : Nat) (p0 : Int32) (w0 : Value) (p1 : Int32) (p2 : Int32) (p3 : Int32) (w1 : Value) (w2 : Value) (w3 : Value) (w4 : Value) (w5 : Value) (w6 : Value) (w7 : Value) (w8 : Value) (w9 : Value) (w10 : Value) (w11 : Value) (w12 : Value) (p4 : Int32) (hp0 : (-2147483648) ≤ (p0).toInt ∧ (p0).toInt ≤ 2147483647) (hp1 : 0 ≤ (p1).toInt ∧ (p1).toInt ≤ 900) (hp2 : (-2147483648) ≤ (p2).toInt ∧ (p2).toInt ≤ 2147483647) (hp3 : (-2147483648) ≤ (p3).toInt ∧ (p3).toInt ≤ 2147483647) (hp4 : (-2147483648) ≤ (p4).toInt ∧ (p4).toInt ≤ 2147483647) (sz : Nat) : MI l yX11_fault cX11_fault 2 .int { frames := 0, cells := 0, slots := 0, locals := 0 } [.ref h0, .int p0] D cy [(h0, .inr (11, [w0, .int p1, .int p2, .int p3, w1, w2, w3, w4, w5, w6, w7, w8, w9, w10, w11, w12, .int p4]))] sz (fun r u => ((-2147483648) ≤ r.toInt ∧ r.toInt ≤ 2147483647) ∧ (((p0 : Int32).toInt = 0 ∧ (r : Int32).toInt = (p2 : Int32).toInt) ∨ ((p0 : Int32).toInt = 1 ∧ (r : Int32).toInt = (p3 : Int32).toInt) ∨ ((p0 : Int32).toInt ≠ 0 ∧ (p0 : Int32).toInt ≠ 1 ∧ (r : Int32).toInt = -1)) ∧ True) (fun u => [(h0, .inr (11, [w0, .int p1, .int p2, .int p3, w1, w2, w3, w4, w5, w6, w7, w8, w9, w10, w11, w12, .int p4]))]) 0 0 := sorry