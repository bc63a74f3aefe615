theorem wm_8_60 : Cond.fieldLink RJ0 9 "java/lang/String" "value" "[B" ∈ WG := wg_t8 (List.mem_of_getElem? (i := 60) rfl) rfl
theorem wm_2_202 : Cond.fieldLink RJ0 38 "java/lang/String" "COMPACT_STRINGS" "Z" ∈ WG := wg_t2 (List.mem_of_getElem? (i := 202) rfl) rfl
theorem wm_8_61 : Cond.fieldLink RJ0 15 "java/lang/String" "coder" "B" ∈ WG := wg_t8 (List.mem_of_getElem? (i := 61) rfl) rfl
theorem wm_2_198 : Cond.methodLink RJ0 335 yJ0_coder_7d493 ∈ WG := wg_t2 (List.mem_of_getElem? (i := 198) rfl) rfl
theorem wm_2_201 : Cond.code yJ0_coder_7d493 cJ0_coder_7d493 1 (some .byte) ∈ WG := wg_t2 (List.mem_of_getElem? (i := 201) rfl) rfl
theorem wm_1_14 : Cond.initialized RJ0 ∈ WG := wg_t1 (List.mem_of_getElem? (i := 14) rfl) rfl
theorem wm_2_199 : Cond.instanceMethod yJ0_coder_7d493 ∈ WG := wg_t2 (List.mem_of_getElem? (i := 199) rfl) rfl
theorem wm_2_200 : Cond.selects RJ0 yJ0_coder_7d493 yJ0_coder_7d493 ∈ WG := wg_t2 (List.mem_of_getElem? (i := 200) rfl) rfl
theorem wm_2_208 : Cond.methodLink RJ0 492 yJ0_isLatin1_aae02 ∈ WG := wg_t2 (List.mem_of_getElem? (i := 208) rfl) rfl
theorem wm_2_211 : Cond.code yJ0_isLatin1_aae02 cJ0_isLatin1_aae02 1 (some .boolean) ∈ WG := wg_t2 (List.mem_of_getElem? (i := 211) rfl) rfl
theorem wm_2_209 : Cond.instanceMethod yJ0_isLatin1_aae02 ∈ WG := wg_t2 (List.mem_of_getElem? (i := 209) rfl) rfl
theorem wm_2_210 : Cond.selects RJ0 yJ0_isLatin1_aae02 yJ0_isLatin1_aae02 ∈ WG := wg_t2 (List.mem_of_getElem? (i := 210) rfl) rfl
theorem wm_2_218 : Cond.fieldLink RJ0 1053 "jdk/internal/util/Preconditions" "SIOOBE_FORMATTER" "Ljava/util/function/BiFunction;" ∈ WG := wg_t2 (List.mem_of_getElem? (i := 218) rfl) rfl
theorem wm_2_220 : Cond.methodLink RJ0 1059 yJ3_checkIndex_8e157 ∈ WG := wg_t2 (List.mem_of_getElem? (i := 220) rfl) rfl
theorem wm_2_222 : Cond.code yJ3_checkIndex_8e157 cJ3_checkIndex_8e157 3 (some .int) ∈ WG := wg_t2 (List.mem_of_getElem? (i := 222) rfl) rfl
theorem wm_1_16 : Cond.initialized RJ3 ∈ WG := wg_t1 (List.mem_of_getElem? (i := 16) rfl) rfl
theorem wm_2_221 : Cond.static yJ3_checkIndex_8e157 ∈ WG := wg_t2 (List.mem_of_getElem? (i := 221) rfl) rfl
theorem wm_2_215 : Cond.methodLink RJ1 9 yJ0_checkIndex_df160 ∈ WG := wg_t2 (List.mem_of_getElem? (i := 215) rfl) rfl
theorem wm_2_217 : Cond.code yJ0_checkIndex_df160 cJ0_checkIndex_df160 2 none ∈ WG := wg_t2 (List.mem_of_getElem? (i := 217) rfl) rfl
theorem wm_2_216 : Cond.static yJ0_checkIndex_df160 ∈ WG := wg_t2 (List.mem_of_getElem? (i := 216) rfl) rfl
theorem wm_2_212 : Cond.methodLink RJ0 495 yJ1_charAt_3b067 ∈ WG := wg_t2 (List.mem_of_getElem? (i := 212) rfl) rfl
theorem wm_2_214 : Cond.code yJ1_charAt_3b067 cJ1_charAt_3b067 2 (some .char) ∈ WG := wg_t2 (List.mem_of_getElem? (i := 214) rfl) rfl
theorem wm_1_15 : Cond.initialized RJ1 ∈ WG := wg_t1 (List.mem_of_getElem? (i := 15) rfl) rfl
theorem wm_2_213 : Cond.static yJ1_charAt_3b067 ∈ WG := wg_t2 (List.mem_of_getElem? (i := 213) rfl) rfl
theorem wm_3_15 : Cond.methodLink RJ0 505 yJ0_length_8abf5 ∈ WG := wg_t3 (List.mem_of_getElem? (i := 15) rfl) rfl
theorem wm_2_197 : Cond.code yJ0_length_8abf5 cJ0_length_8abf5 1 (some .int) ∈ WG := wg_t2 (List.mem_of_getElem? (i := 197) rfl) rfl
theorem wm_2_195 : Cond.instanceMethod yJ0_length_8abf5 ∈ WG := wg_t2 (List.mem_of_getElem? (i := 195) rfl) rfl
theorem wm_2_196 : Cond.selects RJ0 yJ0_length_8abf5 yJ0_length_8abf5 ∈ WG := wg_t2 (List.mem_of_getElem? (i := 196) rfl) rfl
theorem wm_3_19 : Cond.methodLink RJ1 88 yJ1_canEncode_9a6ad ∈ WG := wg_t3 (List.mem_of_getElem? (i := 19) rfl) rfl
theorem wm_3_21 : Cond.code yJ1_canEncode_9a6ad cJ1_canEncode_9a6ad 1 (some .boolean) ∈ WG := wg_t3 (List.mem_of_getElem? (i := 21) rfl) rfl
theorem wm_3_20 : Cond.static yJ1_canEncode_9a6ad ∈ WG := wg_t3 (List.mem_of_getElem? (i := 20) rfl) rfl
theorem wm_3_22 : Cond.methodLink RJ1 92 yJ9_max_7cf53 ∈ WG := wg_t3 (List.mem_of_getElem? (i := 22) rfl) rfl
theorem wm_3_25 : Cond.methodLink RJ1 38 yJ9_min_7cf53 ∈ WG := wg_t3 (List.mem_of_getElem? (i := 25) rfl) rfl
theorem wm_3_26 : Cond.methodLink RJ1 95 yJ1_indexOfChar_4cfef ∈ WG := wg_t3 (List.mem_of_getElem? (i := 26) rfl) rfl
theorem wm_3_28 : Cond.code yJ1_indexOfChar_4cfef cJ1_indexOfChar_4cfef 6 (some .int) ∈ WG := wg_t3 (List.mem_of_getElem? (i := 28) rfl) rfl
theorem wm_3_27 : Cond.static yJ1_indexOfChar_4cfef ∈ WG := wg_t3 (List.mem_of_getElem? (i := 27) rfl) rfl
theorem wm_3_16 : Cond.methodLink RJ0 637 yJ1_indexOf_4cfef ∈ WG := wg_t3 (List.mem_of_getElem? (i := 16) rfl) rfl
theorem wm_3_18 : Cond.code yJ1_indexOf_4cfef cJ1_indexOf_4cfef 4 (some .int) ∈ WG := wg_t3 (List.mem_of_getElem? (i := 18) rfl) rfl
theorem wm_3_17 : Cond.static yJ1_indexOf_4cfef ∈ WG := wg_t3 (List.mem_of_getElem? (i := 17) rfl) rfl
theorem wm_3_11 : Cond.methodLink RJ0 633 yJ0_indexOf_7cf53 ∈ WG := wg_t3 (List.mem_of_getElem? (i := 11) rfl) rfl
theorem wm_3_14 : Cond.code yJ0_indexOf_7cf53 cJ0_indexOf_7cf53 3 (some .int) ∈ WG := wg_t3 (List.mem_of_getElem? (i := 14) rfl) rfl
theorem wm_3_12 : Cond.instanceMethod yJ0_indexOf_7cf53 ∈ WG := wg_t3 (List.mem_of_getElem? (i := 12) rfl) rfl
theorem wm_3_13 : Cond.selects RJ0 yJ0_indexOf_7cf53 yJ0_indexOf_7cf53 ∈ WG := wg_t3 (List.mem_of_getElem? (i := 13) rfl) rfl
theorem hd_J0_coder_7d493 : yJ0_coder_7d493.cls ≠ "java/lang/invoke/MethodHandle" ∧ yJ0_coder_7d493.cls ≠ "java/lang/invoke/VarHandle" ∧ (parseMethodDescriptor yJ0_coder_7d493.desc).map (fun d => d.parameters.length) = some 0 := by decide +kernel
theorem hd_J0_isLatin1_aae02 : yJ0_isLatin1_aae02.cls ≠ "java/lang/invoke/MethodHandle" ∧ yJ0_isLatin1_aae02.cls ≠ "java/lang/invoke/VarHandle" ∧ (parseMethodDescriptor yJ0_isLatin1_aae02.desc).map (fun d => d.parameters.length) = some 0 := by decide +kernel
theorem hd_J3_checkIndex_8e157 : yJ3_checkIndex_8e157.cls ≠ "java/lang/invoke/MethodHandle" ∧ yJ3_checkIndex_8e157.cls ≠ "java/lang/invoke/VarHandle" ∧ (parseMethodDescriptor yJ3_checkIndex_8e157.desc).map (fun d => d.parameters.length) = some 3 := by decide +kernel
theorem hd_J0_checkIndex_df160 : yJ0_checkIndex_df160.cls ≠ "java/lang/invoke/MethodHandle" ∧ yJ0_checkIndex_df160.cls ≠ "java/lang/invoke/VarHandle" ∧ (parseMethodDescriptor yJ0_checkIndex_df160.desc).map (fun d => d.parameters.length) = some 2 := by decide +kernel
theorem hd_J1_charAt_3b067 : yJ1_charAt_3b067.cls ≠ "java/lang/invoke/MethodHandle" ∧ yJ1_charAt_3b067.cls ≠ "java/lang/invoke/VarHandle" ∧ (parseMethodDescriptor yJ1_charAt_3b067.desc).map (fun d => d.parameters.length) = some 2 := by decide +kernel
theorem hd_J0_length_8abf5 : yJ0_length_8abf5.cls ≠ "java/lang/invoke/MethodHandle" ∧ yJ0_length_8abf5.cls ≠ "java/lang/invoke/VarHandle" ∧ (parseMethodDescriptor yJ0_length_8abf5.desc).map (fun d => d.parameters.length) = some 0 := by decide +kernel
theorem hd_J1_canEncode_9a6ad : yJ1_canEncode_9a6ad.cls ≠ "java/lang/invoke/MethodHandle" ∧ yJ1_canEncode_9a6ad.cls ≠ "java/lang/invoke/VarHandle" ∧ (parseMethodDescriptor yJ1_canEncode_9a6ad.desc).map (fun d => d.parameters.length) = some 1 := by decide +kernel
theorem hd_J1_indexOfChar_4cfef : yJ1_indexOfChar_4cfef.cls ≠ "java/lang/invoke/MethodHandle" ∧ yJ1_indexOfChar_4cfef.cls ≠ "java/lang/invoke/VarHandle" ∧ (parseMethodDescriptor yJ1_indexOfChar_4cfef.desc).map (fun d => d.parameters.length) = some 4 := by decide +kernel
theorem hd_J1_indexOf_4cfef : yJ1_indexOf_4cfef.cls ≠ "java/lang/invoke/MethodHandle" ∧ yJ1_indexOf_4cfef.cls ≠ "java/lang/invoke/VarHandle" ∧ (parseMethodDescriptor yJ1_indexOf_4cfef.desc).map (fun d => d.parameters.length) = some 4 := by decide +kernel
theorem hd_J0_indexOf_7cf53 : yJ0_indexOf_7cf53.cls ≠ "java/lang/invoke/MethodHandle" ∧ yJ0_indexOf_7cf53.cls ≠ "java/lang/invoke/VarHandle" ∧ (parseMethodDescriptor yJ0_indexOf_7cf53.desc).map (fun d => d.parameters.length) = some 2 := by decide +kernel
theorem dJ0_charAt_5068e_0 : decode cJ0_charAt_5068e 0 = .ok (.aload_n 0, 1) := by decide +kernel
theorem dJ0_charAt_5068e_1 : decode cJ0_charAt_5068e 1 = .ok (.invokevirtual 492, 3) := by decide +kernel
theorem dJ0_charAt_5068e_4 : decode cJ0_charAt_5068e 4 = .ok (.ifCond .eq 12, 3) := by decide +kernel
theorem dJ0_charAt_5068e_7 : decode cJ0_charAt_5068e 7 = .ok (.aload_n 0, 1) := by decide +kernel
theorem dJ0_charAt_5068e_8 : decode cJ0_charAt_5068e 8 = .ok (.getfield 9, 3) := by decide +kernel
theorem dJ0_charAt_5068e_11 : decode cJ0_charAt_5068e 11 = .ok (.iload_n 1, 1) := by decide +kernel
theorem dJ0_charAt_5068e_12 : decode cJ0_charAt_5068e 12 = .ok (.invokestatic 495, 3) := by decide +kernel
theorem dJ0_charAt_5068e_15 : decode cJ0_charAt_5068e 15 = .ok (.ireturn, 1) := by decide +kernel
theorem dJ0_charAt_5068e_16 : decode cJ0_charAt_5068e 16 = .ok (.aload_n 0, 1) := by decide +kernel
theorem dJ0_charAt_5068e_17 : decode cJ0_charAt_5068e 17 = .ok (.getfield 9, 3) := by decide +kernel
theorem dJ0_charAt_5068e_20 : decode cJ0_charAt_5068e 20 = .ok (.iload_n 1, 1) := by decide +kernel
theorem dJ0_charAt_5068e_21 : decode cJ0_charAt_5068e 21 = .ok (.invokestatic 498, 3) := by decide +kernel
theorem dJ0_charAt_5068e_24 : decode cJ0_charAt_5068e 24 = .ok (.ireturn, 1) := by decide +kernel
theorem dJ0_checkIndex_df160_0 : decode cJ0_checkIndex_df160 0 = .ok (.iload_n 0, 1) := by decide +kernel
theorem dJ0_checkIndex_df160_1 : decode cJ0_checkIndex_df160 1 = .ok (.iload_n 1, 1) := by decide +kernel
theorem dJ0_checkIndex_df160_2 : decode cJ0_checkIndex_df160 2 = .ok (.getstatic 1053, 3) := by decide +kernel
theorem dJ0_checkIndex_df160_5 : decode cJ0_checkIndex_df160 5 = .ok (.invokestatic 1059, 3) := by decide +kernel
theorem dJ0_checkIndex_df160_8 : decode cJ0_checkIndex_df160 8 = .ok (.pop, 1) := by decide +kernel
theorem dJ0_checkIndex_df160_9 : decode cJ0_checkIndex_df160 9 = .ok (.return_, 1) := by decide +kernel
theorem dJ0_coder_7d493_0 : decode cJ0_coder_7d493 0 = .ok (.getstatic 38, 3) := by decide +kernel
theorem dJ0_coder_7d493_3 : decode cJ0_coder_7d493 3 = .ok (.ifCond .eq 10, 3) := by decide +kernel
theorem dJ0_coder_7d493_6 : decode cJ0_coder_7d493 6 = .ok (.aload_n 0, 1) := by decide +kernel
theorem dJ0_coder_7d493_7 : decode cJ0_coder_7d493 7 = .ok (.getfield 15, 3) := by decide +kernel
theorem dJ0_coder_7d493_10 : decode cJ0_coder_7d493 10 = .ok (.goto 4, 3) := by decide +kernel
theorem dJ0_coder_7d493_13 : decode cJ0_coder_7d493 13 = .ok (.iconst 1, 1) := by decide +kernel
theorem dJ0_coder_7d493_14 : decode cJ0_coder_7d493 14 = .ok (.ireturn, 1) := by decide +kernel
theorem dJ0_indexOf_0f7a4_0 : decode cJ0_indexOf_0f7a4 0 = .ok (.aload_n 0, 1) := by decide +kernel
theorem dJ0_indexOf_0f7a4_1 : decode cJ0_indexOf_0f7a4 1 = .ok (.iload_n 1, 1) := by decide +kernel
theorem dJ0_indexOf_0f7a4_2 : decode cJ0_indexOf_0f7a4 2 = .ok (.iconst 0, 1) := by decide +kernel
theorem dJ0_indexOf_0f7a4_3 : decode cJ0_indexOf_0f7a4 3 = .ok (.invokevirtual 633, 3) := by decide +kernel
theorem dJ0_indexOf_0f7a4_6 : decode cJ0_indexOf_0f7a4 6 = .ok (.ireturn, 1) := by decide +kernel
theorem dJ0_indexOf_7cf53_0 : decode cJ0_indexOf_7cf53 0 = .ok (.aload_n 0, 1) := by decide +kernel
theorem dJ0_indexOf_7cf53_1 : decode cJ0_indexOf_7cf53 1 = .ok (.invokevirtual 492, 3) := by decide +kernel
theorem dJ0_indexOf_7cf53_4 : decode cJ0_indexOf_7cf53 4 = .ok (.ifCond .eq 19, 3) := by decide +kernel
theorem dJ0_indexOf_7cf53_7 : decode cJ0_indexOf_7cf53 7 = .ok (.aload_n 0, 1) := by decide +kernel
theorem dJ0_indexOf_7cf53_8 : decode cJ0_indexOf_7cf53 8 = .ok (.getfield 9, 3) := by decide +kernel
theorem dJ0_indexOf_7cf53_11 : decode cJ0_indexOf_7cf53 11 = .ok (.iload_n 1, 1) := by decide +kernel
theorem dJ0_indexOf_7cf53_12 : decode cJ0_indexOf_7cf53 12 = .ok (.iload_n 2, 1) := by decide +kernel
theorem dJ0_indexOf_7cf53_13 : decode cJ0_indexOf_7cf53 13 = .ok (.aload_n 0, 1) := by decide +kernel
theorem dJ0_indexOf_7cf53_14 : decode cJ0_indexOf_7cf53 14 = .ok (.invokevirtual 505, 3) := by decide +kernel
theorem dJ0_indexOf_7cf53_17 : decode cJ0_indexOf_7cf53 17 = .ok (.invokestatic 637, 3) := by decide +kernel
theorem dJ0_indexOf_7cf53_20 : decode cJ0_indexOf_7cf53 20 = .ok (.goto 16, 3) := by decide +kernel
theorem dJ0_indexOf_7cf53_23 : decode cJ0_indexOf_7cf53 23 = .ok (.aload_n 0, 1) := by decide +kernel
theorem dJ0_indexOf_7cf53_24 : decode cJ0_indexOf_7cf53 24 = .ok (.getfield 9, 3) := by decide +kernel
theorem dJ0_indexOf_7cf53_27 : decode cJ0_indexOf_7cf53 27 = .ok (.iload_n 1, 1) := by decide +kernel
theorem dJ0_indexOf_7cf53_28 : decode cJ0_indexOf_7cf53 28 = .ok (.iload_n 2, 1) := by decide +kernel
theorem dJ0_indexOf_7cf53_29 : decode cJ0_indexOf_7cf53 29 = .ok (.aload_n 0, 1) := by decide +kernel
theorem dJ0_indexOf_7cf53_30 : decode cJ0_indexOf_7cf53 30 = .ok (.invokevirtual 505, 3) := by decide +kernel
theorem dJ0_indexOf_7cf53_33 : decode cJ0_indexOf_7cf53 33 = .ok (.invokestatic 640, 3) := by decide +kernel
theorem dJ0_indexOf_7cf53_36 : decode cJ0_indexOf_7cf53 36 = .ok (.ireturn, 1) := by decide +kernel
theorem dJ0_isLatin1_aae02_0 : decode cJ0_isLatin1_aae02 0 = .ok (.getstatic 38, 3) := by decide +kernel
theorem dJ0_isLatin1_aae02_3 : decode cJ0_isLatin1_aae02 3 = .ok (.ifCond .eq 14, 3) := by decide +kernel
theorem dJ0_isLatin1_aae02_6 : decode cJ0_isLatin1_aae02 6 = .ok (.aload_n 0, 1) := by decide +kernel
theorem dJ0_isLatin1_aae02_7 : decode cJ0_isLatin1_aae02 7 = .ok (.getfield 15, 3) := by decide +kernel
theorem dJ0_isLatin1_aae02_10 : decode cJ0_isLatin1_aae02 10 = .ok (.ifCond .ne 7, 3) := by decide +kernel
theorem dJ0_isLatin1_aae02_13 : decode cJ0_isLatin1_aae02 13 = .ok (.iconst 1, 1) := by decide +kernel
theorem dJ0_isLatin1_aae02_14 : decode cJ0_isLatin1_aae02 14 = .ok (.goto 4, 3) := by decide +kernel
theorem dJ0_isLatin1_aae02_17 : decode cJ0_isLatin1_aae02 17 = .ok (.iconst 0, 1) := by decide +kernel
theorem dJ0_isLatin1_aae02_18 : decode cJ0_isLatin1_aae02 18 = .ok (.ireturn, 1) := by decide +kernel
theorem dJ0_length_8abf5_0 : decode cJ0_length_8abf5 0 = .ok (.aload_n 0, 1) := by decide +kernel
theorem dJ0_length_8abf5_1 : decode cJ0_length_8abf5 1 = .ok (.getfield 9, 3) := by decide +kernel
theorem dJ0_length_8abf5_4 : decode cJ0_length_8abf5 4 = .ok (.arraylength, 1) := by decide +kernel
theorem dJ0_length_8abf5_5 : decode cJ0_length_8abf5 5 = .ok (.aload_n 0, 1) := by decide +kernel
theorem dJ0_length_8abf5_6 : decode cJ0_length_8abf5 6 = .ok (.invokevirtual 335, 3) := by decide +kernel
theorem dJ0_length_8abf5_9 : decode cJ0_length_8abf5 9 = .ok (.ishr, 1) := by decide +kernel
theorem dJ0_length_8abf5_10 : decode cJ0_length_8abf5 10 = .ok (.ireturn, 1) := by decide +kernel
theorem dJ1_canEncode_9a6ad_0 : decode cJ1_canEncode_9a6ad 0 = .ok (.iload_n 0, 1) := by decide +kernel
theorem dJ1_canEncode_9a6ad_1 : decode cJ1_canEncode_9a6ad 1 = .ok (.ifCond .lt 14, 3) := by decide +kernel
theorem dJ1_canEncode_9a6ad_4 : decode cJ1_canEncode_9a6ad 4 = .ok (.iload_n 0, 1) := by decide +kernel
theorem dJ1_canEncode_9a6ad_5 : decode cJ1_canEncode_9a6ad 5 = .ok (.sipush 255, 3) := by decide +kernel
theorem dJ1_canEncode_9a6ad_8 : decode cJ1_canEncode_9a6ad 8 = .ok (.if_icmp .gt 7, 3) := by decide +kernel
theorem dJ1_canEncode_9a6ad_11 : decode cJ1_canEncode_9a6ad 11 = .ok (.iconst 1, 1) := by decide +kernel
theorem dJ1_canEncode_9a6ad_12 : decode cJ1_canEncode_9a6ad 12 = .ok (.goto 4, 3) := by decide +kernel
theorem dJ1_canEncode_9a6ad_15 : decode cJ1_canEncode_9a6ad 15 = .ok (.iconst 0, 1) := by decide +kernel
theorem dJ1_canEncode_9a6ad_16 : decode cJ1_canEncode_9a6ad 16 = .ok (.ireturn, 1) := by decide +kernel
theorem dJ1_charAt_3b067_0 : decode cJ1_charAt_3b067 0 = .ok (.iload_n 1, 1) := by decide +kernel
theorem dJ1_charAt_3b067_1 : decode cJ1_charAt_3b067 1 = .ok (.aload_n 0, 1) := by decide +kernel
theorem dJ1_charAt_3b067_2 : decode cJ1_charAt_3b067 2 = .ok (.arraylength, 1) := by decide +kernel
theorem dJ1_charAt_3b067_3 : decode cJ1_charAt_3b067 3 = .ok (.invokestatic 9, 3) := by decide +kernel
theorem dJ1_charAt_3b067_6 : decode cJ1_charAt_3b067 6 = .ok (.aload_n 0, 1) := by decide +kernel
theorem dJ1_charAt_3b067_7 : decode cJ1_charAt_3b067 7 = .ok (.iload_n 1, 1) := by decide +kernel
theorem dJ1_charAt_3b067_8 : decode cJ1_charAt_3b067 8 = .ok (.baload, 1) := by decide +kernel
theorem dJ1_charAt_3b067_9 : decode cJ1_charAt_3b067 9 = .ok (.sipush 255, 3) := by decide +kernel
theorem dJ1_charAt_3b067_12 : decode cJ1_charAt_3b067 12 = .ok (.iand, 1) := by decide +kernel
theorem dJ1_charAt_3b067_13 : decode cJ1_charAt_3b067 13 = .ok (.i2c, 1) := by decide +kernel
theorem dJ1_charAt_3b067_14 : decode cJ1_charAt_3b067 14 = .ok (.ireturn, 1) := by decide +kernel
theorem dJ1_indexOfChar_4cfef_0 : decode cJ1_indexOfChar_4cfef 0 = .ok (.iload_n 1, 1) := by decide +kernel
theorem dJ1_indexOfChar_4cfef_1 : decode cJ1_indexOfChar_4cfef 1 = .ok (.i2b, 1) := by decide +kernel
theorem dJ1_indexOfChar_4cfef_2 : decode cJ1_indexOfChar_4cfef 2 = .ok (.istore 4, 2) := by decide +kernel
theorem dJ1_indexOfChar_4cfef_4 : decode cJ1_indexOfChar_4cfef 4 = .ok (.iload_n 2, 1) := by decide +kernel
theorem dJ1_indexOfChar_4cfef_5 : decode cJ1_indexOfChar_4cfef 5 = .ok (.istore 5, 2) := by decide +kernel
theorem dJ1_indexOfChar_4cfef_7 : decode cJ1_indexOfChar_4cfef 7 = .ok (.iload 5, 2) := by decide +kernel
theorem dJ1_indexOfChar_4cfef_9 : decode cJ1_indexOfChar_4cfef 9 = .ok (.iload_n 3, 1) := by decide +kernel
theorem dJ1_indexOfChar_4cfef_10 : decode cJ1_indexOfChar_4cfef 10 = .ok (.if_icmp .ge 21, 3) := by decide +kernel
theorem dJ1_indexOfChar_4cfef_13 : decode cJ1_indexOfChar_4cfef 13 = .ok (.aload_n 0, 1) := by decide +kernel
theorem dJ1_indexOfChar_4cfef_14 : decode cJ1_indexOfChar_4cfef 14 = .ok (.iload 5, 2) := by decide +kernel
theorem dJ1_indexOfChar_4cfef_16 : decode cJ1_indexOfChar_4cfef 16 = .ok (.baload, 1) := by decide +kernel
theorem dJ1_indexOfChar_4cfef_17 : decode cJ1_indexOfChar_4cfef 17 = .ok (.iload 4, 2) := by decide +kernel
theorem dJ1_indexOfChar_4cfef_19 : decode cJ1_indexOfChar_4cfef 19 = .ok (.if_icmp .ne 6, 3) := by decide +kernel
theorem dJ1_indexOfChar_4cfef_22 : decode cJ1_indexOfChar_4cfef 22 = .ok (.iload 5, 2) := by decide +kernel
theorem dJ1_indexOfChar_4cfef_24 : decode cJ1_indexOfChar_4cfef 24 = .ok (.ireturn, 1) := by decide +kernel
theorem dJ1_indexOfChar_4cfef_25 : decode cJ1_indexOfChar_4cfef 25 = .ok (.iinc 5 1, 3) := by decide +kernel
theorem dJ1_indexOfChar_4cfef_28 : decode cJ1_indexOfChar_4cfef 28 = .ok (.goto (-21), 3) := by decide +kernel
theorem dJ1_indexOfChar_4cfef_31 : decode cJ1_indexOfChar_4cfef 31 = .ok (.iconst (-1), 1) := by decide +kernel
theorem dJ1_indexOfChar_4cfef_32 : decode cJ1_indexOfChar_4cfef 32 = .ok (.ireturn, 1) := by decide +kernel
theorem dJ1_indexOf_4cfef_0 : decode cJ1_indexOf_4cfef 0 = .ok (.iload_n 1, 1) := by decide +kernel
theorem dJ1_indexOf_4cfef_1 : decode cJ1_indexOf_4cfef 1 = .ok (.invokestatic 88, 3) := by decide +kernel
theorem dJ1_indexOf_4cfef_4 : decode cJ1_indexOf_4cfef 4 = .ok (.ifCond .ne 5, 3) := by decide +kernel
theorem dJ1_indexOf_4cfef_7 : decode cJ1_indexOf_4cfef 7 = .ok (.iconst (-1), 1) := by decide +kernel
theorem dJ1_indexOf_4cfef_8 : decode cJ1_indexOf_4cfef 8 = .ok (.ireturn, 1) := by decide +kernel
theorem dJ1_indexOf_4cfef_9 : decode cJ1_indexOf_4cfef 9 = .ok (.iload_n 2, 1) := by decide +kernel
theorem dJ1_indexOf_4cfef_10 : decode cJ1_indexOf_4cfef 10 = .ok (.iconst 0, 1) := by decide +kernel
theorem dJ1_indexOf_4cfef_11 : decode cJ1_indexOf_4cfef 11 = .ok (.invokestatic 92, 3) := by decide +kernel
theorem dJ1_indexOf_4cfef_14 : decode cJ1_indexOf_4cfef 14 = .ok (.istore_n 2, 1) := by decide +kernel
theorem dJ1_indexOf_4cfef_15 : decode cJ1_indexOf_4cfef 15 = .ok (.iload_n 3, 1) := by decide +kernel
theorem dJ1_indexOf_4cfef_16 : decode cJ1_indexOf_4cfef 16 = .ok (.aload_n 0, 1) := by decide +kernel
theorem dJ1_indexOf_4cfef_17 : decode cJ1_indexOf_4cfef 17 = .ok (.arraylength, 1) := by decide +kernel
theorem dJ1_indexOf_4cfef_18 : decode cJ1_indexOf_4cfef 18 = .ok (.invokestatic 38, 3) := by decide +kernel
theorem dJ1_indexOf_4cfef_21 : decode cJ1_indexOf_4cfef 21 = .ok (.istore_n 3, 1) := by decide +kernel
theorem dJ1_indexOf_4cfef_22 : decode cJ1_indexOf_4cfef 22 = .ok (.iload_n 2, 1) := by decide +kernel
theorem dJ1_indexOf_4cfef_23 : decode cJ1_indexOf_4cfef 23 = .ok (.iload_n 3, 1) := by decide +kernel
theorem dJ1_indexOf_4cfef_24 : decode cJ1_indexOf_4cfef 24 = .ok (.if_icmp .lt 5, 3) := by decide +kernel
theorem dJ1_indexOf_4cfef_27 : decode cJ1_indexOf_4cfef 27 = .ok (.iconst (-1), 1) := by decide +kernel
theorem dJ1_indexOf_4cfef_28 : decode cJ1_indexOf_4cfef 28 = .ok (.ireturn, 1) := by decide +kernel
theorem dJ1_indexOf_4cfef_29 : decode cJ1_indexOf_4cfef 29 = .ok (.aload_n 0, 1) := by decide +kernel
theorem dJ1_indexOf_4cfef_30 : decode cJ1_indexOf_4cfef 30 = .ok (.iload_n 1, 1) := by decide +kernel
theorem dJ1_indexOf_4cfef_31 : decode cJ1_indexOf_4cfef 31 = .ok (.iload_n 2, 1) := by decide +kernel
theorem dJ1_indexOf_4cfef_32 : decode cJ1_indexOf_4cfef 32 = .ok (.iload_n 3, 1) := by decide +kernel
theorem dJ1_indexOf_4cfef_33 : decode cJ1_indexOf_4cfef 33 = .ok (.invokestatic 95, 3) := by decide +kernel
theorem dJ1_indexOf_4cfef_36 : decode cJ1_indexOf_4cfef 36 = .ok (.ireturn, 1) := by decide +kernel
theorem dJ3_checkIndex_8e157_0 : decode cJ3_checkIndex_8e157 0 = .ok (.iload_n 0, 1) := by decide +kernel
theorem dJ3_checkIndex_8e157_1 : decode cJ3_checkIndex_8e157 1 = .ok (.ifCond .lt 8, 3) := by decide +kernel
theorem dJ3_checkIndex_8e157_4 : decode cJ3_checkIndex_8e157 4 = .ok (.iload_n 0, 1) := by decide +kernel
theorem dJ3_checkIndex_8e157_5 : decode cJ3_checkIndex_8e157 5 = .ok (.iload_n 1, 1) := by decide +kernel
theorem dJ3_checkIndex_8e157_6 : decode cJ3_checkIndex_8e157 6 = .ok (.if_icmp .lt 10, 3) := by decide +kernel
theorem dJ3_checkIndex_8e157_9 : decode cJ3_checkIndex_8e157 9 = .ok (.aload_n 2, 1) := by decide +kernel
theorem dJ3_checkIndex_8e157_10 : decode cJ3_checkIndex_8e157 10 = .ok (.iload_n 0, 1) := by decide +kernel
theorem dJ3_checkIndex_8e157_11 : decode cJ3_checkIndex_8e157 11 = .ok (.iload_n 1, 1) := by decide +kernel
theorem dJ3_checkIndex_8e157_12 : decode cJ3_checkIndex_8e157 12 = .ok (.invokestatic 95, 3) := by decide +kernel
theorem dJ3_checkIndex_8e157_15 : decode cJ3_checkIndex_8e157 15 = .ok (.athrow, 1) := by decide +kernel
theorem dJ3_checkIndex_8e157_16 : decode cJ3_checkIndex_8e157 16 = .ok (.iload_n 0, 1) := by decide +kernel
theorem dJ3_checkIndex_8e157_17 : decode cJ3_checkIndex_8e157 17 = .ok (.ireturn, 1) := by decide +kernel
set_option maxHeartbeats 4000000 in
set_option maxRecDepth 100000 in
theorem gJ0_coder_7d493_9242e02 (l : Launch) (D : va_G) (cy : Nat → ClassId) (sz : Nat) : MI l yJ0_coder_7d493 cJ0_coder_7d493 1 .byte { frames := 0, cells := 0, slots := 0, locals := 0 } [.ref (cy 10)] D cy [] sz (fun r u => r = 0 ∧ True) (fun u => []) 0 0 := by
  refine q_ent (own := RJ0) (by decide) rfl (Nat.le_of_ble_eq_true rfl) (fun p e s m below meth c ls X hr hlk hnm hK hT h hA hl => ?_)
  obtain ⟨hx, hb, hml, hown, ht⟩ := id X
  replace hl : lv_has ls 1 [(0, .ref (cy 10))] := hl
  refine q_sgets X hT h wm_2_202 dJ0_coder_7d493_0 ?_
  refine lv_if_eq (tgt := 13) hx hb dJ0_coder_7d493_3 (by decide) (fun c => absurd c (by decide +kernel)) (fun _ => ?_)
  refine lv_aload_n hx hb dJ0_coder_7d493_6 rfl (lv_at hl 0 rfl) ?_
  refine q_scoder X hT h 0 (by decide) wm_8_61 dJ0_coder_7d493_7 ?_
  refine lv_goto (tgt := 14) hx hb dJ0_coder_7d493_10 (by decide) ?_
  exact q_iret X hr hlk hK h rfl (fun _ => 0, fun _ _ => 0, fun _ _ => 0) ⟨rfl, trivial⟩ [] rfl rfl dJ0_coder_7d493_14 (Nat.le_of_ble_eq_true rfl) (Nat.le_of_ble_eq_true rfl)
set_option maxHeartbeats 4000000 in
set_option maxRecDepth 100000 in
theorem gJ0_length_8abf5_b47a5de (l : Launch) (D : va_G) (cy : Nat → ClassId) (sz : Nat) : MI l yJ0_length_8abf5 cJ0_length_8abf5 1 .int { frames := 1, cells := 0, slots := 0, locals := 20 } [.ref (cy 10)] D cy [] sz (fun r u => r = 128 ∧ True) (fun u => []) 0 0 := by
  refine q_ent (own := RJ0) (by decide) rfl (Nat.le_of_ble_eq_true rfl) (fun p e s m below meth c ls X hr hlk hnm hK hT h hA hl => ?_)
  obtain ⟨hx, hb, hml, hown, ht⟩ := id X
  replace hl : lv_has ls 1 [(0, .ref (cy 10))] := hl
  refine lv_aload_n hx hb dJ0_length_8abf5_0 rfl (lv_at hl 0 rfl) ?_
  refine q_svalue X hT h 0 (by decide) wm_8_60 dJ0_length_8abf5_1 ?_
  refine q_slen X hT h 0 (by decide) (v := 128) (by decide) dJ0_length_8abf5_4 ?_
  refine lv_aload_n hx hb dJ0_length_8abf5_5 rfl (lv_at hl 0 rfl) ?_
  refine q_callGi (rest := [.int 128]) (wr := []) X hK hT hA h (fun sz => gJ0_coder_7d493_9242e02 l D cy   sz) wm_2_198 wm_2_201 wm_1_14 hd_J0_coder_7d493 rfl wm_2_199 wm_2_200 0 (by decide) rfl ⟨Nat.le_of_ble_eq_true rfl, Nat.le_of_ble_eq_true rfl⟩ hl.1 rfl (Nat.le_of_ble_eq_true rfl) dJ0_length_8abf5_6 ⟨Nat.le_of_ble_eq_true rfl, Nat.le_of_ble_eq_true rfl⟩ [] [] rfl rfl (by decide) rfl rfl (fun r_1 u_1 H locs w_1 h_1 => ?_)
  clear h
  obtain ⟨wr_1, _⟩ := w_1
  obtain rfl : r_1 = 0 := wr_1
  replace h_1 : qW D _ _ [] _ _ := h_1
  refine lv_ishr hx hb dJ0_length_8abf5_9 ?_
  refine q_c 128 (by decide +kernel) ?_
  exact q_iret X hr hlk hK h_1 rfl (fun _ => 0, fun _ _ => 0, fun _ _ => 0) ⟨rfl, trivial⟩ [] rfl rfl dJ0_length_8abf5_10 (Nat.le_of_ble_eq_true rfl) (Nat.le_of_ble_eq_true rfl)
set_option maxHeartbeats 4000000 in
set_option maxRecDepth 100000 in
theorem gJ0_isLatin1_aae02_141d41a (l : Launch) (D : va_G) (cy : Nat → ClassId) (sz : Nat) : MI l yJ0_isLatin1_aae02 cJ0_isLatin1_aae02 1 .boolean { frames := 0, cells := 0, slots := 0, locals := 0 } [.ref (cy 10)] D cy [] sz (fun r u => r = 1 ∧ True) (fun u => []) 0 0 := by
  refine q_ent (own := RJ0) (by decide) rfl (Nat.le_of_ble_eq_true rfl) (fun p e s m below meth c ls X hr hlk hnm hK hT h hA hl => ?_)
  obtain ⟨hx, hb, hml, hown, ht⟩ := id X
  replace hl : lv_has ls 1 [(0, .ref (cy 10))] := hl
  refine q_sgets X hT h wm_2_202 dJ0_isLatin1_aae02_0 ?_
  refine lv_if_eq (tgt := 17) hx hb dJ0_isLatin1_aae02_3 (by decide) (fun c => absurd c (by decide +kernel)) (fun _ => ?_)
  refine lv_aload_n hx hb dJ0_isLatin1_aae02_6 rfl (lv_at hl 0 rfl) ?_
  refine q_scoder X hT h 0 (by decide) wm_8_61 dJ0_isLatin1_aae02_7 ?_
  refine lv_if_ne (tgt := 17) hx hb dJ0_isLatin1_aae02_10 (by decide) (fun c => absurd c (by decide +kernel)) (fun _ => ?_)
  refine lv_iconst (v := 1) hx hb dJ0_isLatin1_aae02_13 (by decide) ?_
  refine lv_goto (tgt := 18) hx hb dJ0_isLatin1_aae02_14 (by decide) ?_
  exact q_iret X hr hlk hK h rfl (fun _ => 0, fun _ _ => 0, fun _ _ => 0) ⟨rfl, trivial⟩ [] rfl rfl dJ0_isLatin1_aae02_18 (Nat.le_of_ble_eq_true rfl) (Nat.le_of_ble_eq_true rfl)
set_option maxHeartbeats 4000000 in
set_option maxRecDepth 100000 in
theorem gJ3_checkIndex_8e157_1956ee9 (l : Launch) (D : va_G) (cy : Nat → ClassId) (p0 : Int32) (p1 : Int32) (hp0 : 0 ≤ (p0).toInt ∧ (p0).toInt ≤ 129) (hp1 : 11 ≤ (p1).toInt ∧ (p1).toInt ≤ 255) (hpre0 : 0 ≤ (p0 : Int32).toInt ∧ (p0 : Int32).toInt < (p1 : Int32).toInt) (sz : Nat) : MI l yJ3_checkIndex_8e157 cJ3_checkIndex_8e157 3 .int { frames := 0, cells := 0, slots := 0, locals := 0 } [.int p0, .int p1, .null] D cy [] sz (fun r u => (0 ≤ r.toInt ∧ r.toInt ≤ 129) ∧ True) (fun u => []) 0 0 := by
  refine q_ent (own := RJ3) (by decide) rfl (Nat.le_of_ble_eq_true rfl) (fun p e s m below meth c ls X hr hlk hnm hK hT h hA hl => ?_)
  obtain ⟨hx, hb, hml, hown, ht⟩ := id X
  replace hl : lv_has ls 3 [(0, .int p0), (1, .int p1), (2, .null)] := hl
  refine lv_iload_n hx hb dJ3_checkIndex_8e157_0 rfl (lv_at hl 0 rfl) ?_
  refine lv_if_lt (tgt := 9) hx hb dJ3_checkIndex_8e157_1 (by decide) (fun c_1 => ?_) (fun c_1 => ?_)
  · replace c_1 := i_lt (x := p0) (y := 0) rfl (show (0 : Int32).toInt = 0 by decide) c_1
    exfalso
    omega
  · replace c_1 := i_nlt (x := p0) (y := 0) rfl (show (0 : Int32).toInt = 0 by decide) c_1
    refine lv_iload_n hx hb dJ3_checkIndex_8e157_4 rfl (lv_at hl 0 rfl) ?_
    refine lv_iload_n hx hb dJ3_checkIndex_8e157_5 rfl (lv_at hl 1 rfl) ?_
    refine lv_icmp_lt (tgt := 16) hx hb dJ3_checkIndex_8e157_6 (by decide) (fun c_2 => ?_) (fun c_2 => ?_)
    · replace c_2 := i_lt (x := p0) (y := p1) rfl rfl c_2
      refine lv_iload_n hx hb dJ3_checkIndex_8e157_16 rfl (lv_at hl 0 rfl) ?_
      exact q_iret X hr hlk hK h rfl (fun _ => 0, fun _ _ => 0, fun _ _ => 0) ⟨hp0, trivial⟩ [] rfl rfl dJ3_checkIndex_8e157_17 (Nat.le_of_ble_eq_true rfl) (Nat.le_of_ble_eq_true rfl)
    · replace c_2 := i_nlt (x := p0) (y := p1) rfl rfl c_2
      exfalso
      omega
set_option maxHeartbeats 4000000 in
set_option maxRecDepth 100000 in
theorem gJ3_checkIndex_8e157_5c1c6ab (l : Launch) (D : va_G) (cy : Nat → ClassId) (p0 : Int32) (p1 : Int32) (h0 : Nat) (hp0 : 0 ≤ (p0).toInt ∧ (p0).toInt ≤ 129) (hp1 : 11 ≤ (p1).toInt ∧ (p1).toInt ≤ 255) (hpre0 : 0 ≤ (p0 : Int32).toInt ∧ (p0 : Int32).toInt < (p1 : Int32).toInt) (sz : Nat) : MI l yJ3_checkIndex_8e157 cJ3_checkIndex_8e157 3 .int { frames := 0, cells := 0, slots := 0, locals := 0 } [.int p0, .int p1, .ref h0] D cy [] sz (fun r u => (0 ≤ r.toInt ∧ r.toInt ≤ 129) ∧ True) (fun u => []) 0 0 := by
  refine q_ent (own := RJ3) (by decide) rfl (Nat.le_of_ble_eq_true rfl) (fun p e s m below meth c ls X hr hlk hnm hK hT h hA hl => ?_)
  obtain ⟨hx, hb, hml, hown, ht⟩ := id X
  replace hl : lv_has ls 3 [(0, .int p0), (1, .int p1), (2, .ref h0)] := hl
  refine lv_iload_n hx hb dJ3_checkIndex_8e157_0 rfl (lv_at hl 0 rfl) ?_
  refine lv_if_lt (tgt := 9) hx hb dJ3_checkIndex_8e157_1 (by decide) (fun c_1 => ?_) (fun c_1 => ?_)
  · replace c_1 := i_lt (x := p0) (y := 0) rfl (show (0 : Int32).toInt = 0 by decide) c_1
    exfalso
    omega
  · replace c_1 := i_nlt (x := p0) (y := 0) rfl (show (0 : Int32).toInt = 0 by decide) c_1
    refine lv_iload_n hx hb dJ3_checkIndex_8e157_4 rfl (lv_at hl 0 rfl) ?_
    refine lv_iload_n hx hb dJ3_checkIndex_8e157_5 rfl (lv_at hl 1 rfl) ?_
    refine lv_icmp_lt (tgt := 16) hx hb dJ3_checkIndex_8e157_6 (by decide) (fun c_2 => ?_) (fun c_2 => ?_)
    · replace c_2 := i_lt (x := p0) (y := p1) rfl rfl c_2
      refine lv_iload_n hx hb dJ3_checkIndex_8e157_16 rfl (lv_at hl 0 rfl) ?_
      exact q_iret X hr hlk hK h rfl (fun _ => 0, fun _ _ => 0, fun _ _ => 0) ⟨hp0, trivial⟩ [] rfl rfl dJ3_checkIndex_8e157_17 (Nat.le_of_ble_eq_true rfl) (Nat.le_of_ble_eq_true rfl)
    · replace c_2 := i_nlt (x := p0) (y := p1) rfl rfl c_2
      exfalso
      omega
set_option maxHeartbeats 4000000 in
set_option maxRecDepth 100000 in
theorem gJ0_checkIndex_df160_e8cd482 (l : Launch) (D : va_G) (cy : Nat → ClassId) (p0 : Int32) (p1 : Int32) (hp0 : 0 ≤ (p0).toInt ∧ (p0).toInt ≤ 129) (hp1 : 11 ≤ (p1).toInt ∧ (p1).toInt ≤ 255) (hpre0 : 0 ≤ (p0 : Int32).toInt ∧ (p0 : Int32).toInt < (p1 : Int32).toInt) (sz : Nat) : MV l yJ0_checkIndex_df160 cJ0_checkIndex_df160 2 { frames := 1, cells := 0, slots := 0, locals := 22 } [.int p0, .int p1] D cy [] sz (fun u => True) (fun u => []) 0 0 := by
  refine q_ent (own := RJ0) (by decide) rfl (Nat.le_of_ble_eq_true rfl) (fun p e s m below meth c ls X hr hlk hnm hK hT h hA hl => ?_)
  obtain ⟨hx, hb, hml, hown, ht⟩ := id X
  replace hl : lv_has ls 2 [(0, .int p0), (1, .int p1)] := hl
  refine lv_iload_n hx hb dJ0_checkIndex_df160_0 rfl (lv_at hl 0 rfl) ?_
  refine lv_iload_n hx hb dJ0_checkIndex_df160_1 rfl (lv_at hl 1 rfl) ?_
  refine q_sgetF X hT h wm_2_218 dJ0_checkIndex_df160_2 ?_ (fun t_1 => ?_)
  · skip
    refine q_callSi (rest := []) (wr := []) X hK hT hA h (fun sz => gJ3_checkIndex_8e157_1956ee9 l D cy p0 p1 hp0 hp1 (by omega) sz) wm_2_220 wm_2_222 wm_1_16 hd_J3_checkIndex_8e157 wm_2_221 ⟨Nat.le_of_ble_eq_true rfl, Nat.le_of_ble_eq_true rfl⟩ hl.1 rfl (Nat.le_of_ble_eq_true rfl) dJ0_checkIndex_df160_5 ⟨Nat.le_of_ble_eq_true rfl, Nat.le_of_ble_eq_true rfl⟩ [] [] rfl rfl (by decide) rfl rfl (fun r_2 u_2 H locs w_2 h_2 => ?_)
    clear h
    obtain ⟨wr_2, _⟩ := w_2
    replace h_2 : qW D _ _ [] _ _ := h_2
    refine lv_pop hx hb dJ0_checkIndex_df160_8 rfl ?_
    exact q_vret X hr hlk hK h_2 (fun _ => 0, fun _ _ => 0, fun _ _ => 0) trivial [] rfl rfl dJ0_checkIndex_df160_9 (Nat.le_of_ble_eq_true rfl) (Nat.le_of_ble_eq_true rfl)
  · skip
    refine q_callSi (rest := []) (wr := []) X hK hT hA h (fun sz => gJ3_checkIndex_8e157_5c1c6ab l D cy p0 p1 t_1 hp0 hp1 (by omega) sz) wm_2_220 wm_2_222 wm_1_16 hd_J3_checkIndex_8e157 wm_2_221 ⟨Nat.le_of_ble_eq_true rfl, Nat.le_of_ble_eq_true rfl⟩ hl.1 rfl (Nat.le_of_ble_eq_true rfl) dJ0_checkIndex_df160_5 ⟨Nat.le_of_ble_eq_true rfl, Nat.le_of_ble_eq_true rfl⟩ [] [] rfl rfl (by decide) rfl rfl (fun r_3 u_3 H locs w_3 h_3 => ?_)
    clear h
    obtain ⟨wr_3, _⟩ := w_3
    replace h_3 : qW D _ _ [] _ _ := h_3
    refine lv_pop hx hb dJ0_checkIndex_df160_8 rfl ?_
    exact q_vret X hr hlk hK h_3 (fun _ => 0, fun _ _ => 0, fun _ _ => 0) trivial [] rfl rfl dJ0_checkIndex_df160_9 (Nat.le_of_ble_eq_true rfl) (Nat.le_of_ble_eq_true rfl)
set_option maxHeartbeats 4000000 in
set_option maxRecDepth 100000 in
theorem gJ1_charAt_3b067_6800e1c (l : Launch) (D : va_G) (cy : Nat → ClassId) (p0 : Int32) (hp0 : 0 ≤ (p0).toInt ∧ (p0).toInt ≤ 127) (sz : Nat) : MI l yJ1_charAt_3b067 cJ1_charAt_3b067 2 .char { frames := 2, cells := 0, slots := 0, locals := 43 } [.ref (cy 14), .int p0] D cy [] sz (fun r u => (0 ≤ r.toInt ∧ r.toInt ≤ 65535) ∧ True) (fun u => []) 0 0 := by
  refine q_ent (own := RJ1) (by decide) rfl (Nat.le_of_ble_eq_true rfl) (fun p e s m below meth c ls X hr hlk hnm hK hT h hA hl => ?_)
  obtain ⟨hx, hb, hml, hown, ht⟩ := id X
  replace hl : lv_has ls 2 [(0, .ref (cy 14)), (1, .int p0)] := hl
  refine lv_iload_n hx hb dJ1_charAt_3b067_0 rfl (lv_at hl 1 rfl) ?_
  refine lv_aload_n hx hb dJ1_charAt_3b067_1 rfl (lv_at hl 0 rfl) ?_
  refine q_slen X hT h 0 (by decide) (v := 128) (by decide) dJ1_charAt_3b067_2 ?_
  refine q_callSv (rest := []) (wr := []) X hK hT hA h (fun sz => gJ0_checkIndex_df160_e8cd482 l D cy p0 (128 : Int32) (bw hp0 (by decide) (by decide)) ⟨by decide +kernel, by decide +kernel⟩ (by have q0 : (128 : Int32).toInt = 128 := (by decide); omega) sz) wm_2_215 wm_2_217 wm_1_14 hd_J0_checkIndex_df160 wm_2_216 ⟨Nat.le_of_ble_eq_true rfl, Nat.le_of_ble_eq_true rfl⟩ hl.1 rfl (Nat.le_of_ble_eq_true rfl) dJ1_charAt_3b067_3 ⟨Nat.le_of_ble_eq_true rfl, Nat.le_of_ble_eq_true rfl⟩ [] [] rfl rfl (by decide) rfl rfl (fun u_1 H locs w_1 h_1 => ?_)
  clear h
  clear w_1
  replace h_1 : qW D _ _ [] _ _ := h_1
  refine lv_aload_n hx hb dJ1_charAt_3b067_6 rfl (lv_at hl 0 rfl) ?_
  refine lv_iload_n hx hb dJ1_charAt_3b067_7 rfl (lv_at hl 1 rfl) ?_
  refine q_sbyte X hT h_1 0 (by decide) (show vp_in p0 128 from (i_in rfl (by omega) (by omega))) dJ1_charAt_3b067_8 ?_
  obtain ⟨z_2, ez_2, hz_2⟩ := e_sb 0 p0
  refine q_c z_2 ez_2 ?_
  refine lv_sipush (v := 255) hx hb dJ1_charAt_3b067_9 (by decide) ?_
  refine lv_iand hx hb dJ1_charAt_3b067_12 ?_
  obtain ⟨z_3, ez_3, hz_3⟩ := e_and2 (x := z_2) (y := 255) (show (255 : Int32).toInt = 255 by decide) (by omega)
  refine q_c z_3 ez_3 ?_
  refine lv_i2c hx hb dJ1_charAt_3b067_13 rfl ?_
  obtain ⟨z_4, ez_4, hz_4⟩ := e_i2c z_3
  refine q_c z_4 ez_4 ?_
  exact q_iret X hr hlk hK h_1 (q_nc (by omega) (by omega)) (fun _ => 0, fun _ _ => 0, fun _ _ => 0) ⟨⟨by omega, by omega⟩, trivial⟩ [] rfl rfl dJ1_charAt_3b067_14 (Nat.le_of_ble_eq_true rfl) (Nat.le_of_ble_eq_true rfl)
set_option maxHeartbeats 4000000 in
set_option maxRecDepth 100000 in
theorem gJ0_charAt_5068e_84d2329 (l : Launch) (D : va_G) (cy : Nat → ClassId) (p0 : Int32) (hp0 : 0 ≤ (p0).toInt ∧ (p0).toInt ≤ 127) (sz : Nat) : MI l yJ0_charAt_5068e cJ0_charAt_5068e 2 .char { frames := 3, cells := 0, slots := 0, locals := 64 } [.ref (cy 10), .int p0] D cy [] sz (fun r u => (0 ≤ r.toInt ∧ r.toInt ≤ 65535) ∧ True) (fun u => []) 0 0 := by
  refine q_ent (own := RJ0) (by decide) rfl (Nat.le_of_ble_eq_true rfl) (fun p e s m below meth c ls X hr hlk hnm hK hT h hA hl => ?_)
  obtain ⟨hx, hb, hml, hown, ht⟩ := id X
  replace hl : lv_has ls 2 [(0, .ref (cy 10)), (1, .int p0)] := hl
  refine lv_aload_n hx hb dJ0_charAt_5068e_0 rfl (lv_at hl 0 rfl) ?_
  refine q_callGi (rest := []) (wr := []) X hK hT hA h (fun sz => gJ0_isLatin1_aae02_141d41a l D cy   sz) wm_2_208 wm_2_211 wm_1_14 hd_J0_isLatin1_aae02 rfl wm_2_209 wm_2_210 0 (by decide) rfl ⟨Nat.le_of_ble_eq_true rfl, Nat.le_of_ble_eq_true rfl⟩ hl.1 rfl (Nat.le_of_ble_eq_true rfl) dJ0_charAt_5068e_1 ⟨Nat.le_of_ble_eq_true rfl, Nat.le_of_ble_eq_true rfl⟩ [] [] rfl rfl (by decide) rfl rfl (fun r_1 u_1 H locs w_1 h_1 => ?_)
  clear h
  obtain ⟨wr_1, _⟩ := w_1
  obtain rfl : r_1 = 1 := wr_1
  replace h_1 : qW D _ _ [] _ _ := h_1
  refine lv_if_eq (tgt := 16) hx hb dJ0_charAt_5068e_4 (by decide) (fun c => absurd c (by decide +kernel)) (fun _ => ?_)
  refine lv_aload_n hx hb dJ0_charAt_5068e_7 rfl (lv_at hl 0 rfl) ?_
  refine q_svalue X hT h_1 0 (by decide) wm_8_60 dJ0_charAt_5068e_8 ?_
  refine lv_iload_n hx hb dJ0_charAt_5068e_11 rfl (lv_at hl 1 rfl) ?_
  refine q_callSi (rest := []) (wr := []) X hK hT hA h_1 (fun sz => gJ1_charAt_3b067_6800e1c l D cy p0 hp0 sz) wm_2_212 wm_2_214 wm_1_15 hd_J1_charAt_3b067 wm_2_213 ⟨Nat.le_of_ble_eq_true rfl, Nat.le_of_ble_eq_true rfl⟩ hl.1 rfl (Nat.le_of_ble_eq_true rfl) dJ0_charAt_5068e_12 ⟨Nat.le_of_ble_eq_true rfl, Nat.le_of_ble_eq_true rfl⟩ [] [] rfl rfl (by decide) rfl rfl (fun r_2 u_2 H locs w_2 h_2 => ?_)
  clear h_1
  obtain ⟨wr_2, _⟩ := w_2
  replace h_2 : qW D _ _ [] _ _ := h_2
  exact q_iret X hr hlk hK h_2 (q_nc (by omega) (by omega)) (fun _ => 0, fun _ _ => 0, fun _ _ => 0) ⟨wr_2, trivial⟩ [] rfl rfl dJ0_charAt_5068e_15 (Nat.le_of_ble_eq_true rfl) (Nat.le_of_ble_eq_true rfl)
set_option maxHeartbeats 4000000 in
set_option maxRecDepth 100000 in
theorem gJ0_coder_7d493_dd71dbc (l : Launch) (D : va_G) (cy : Nat → ClassId) (sz : Nat) : MI l yJ0_coder_7d493 cJ0_coder_7d493 1 .byte { frames := 0, cells := 0, slots := 0, locals := 0 } [.ref (cy 11)] D cy [] sz (fun r u => r = 0 ∧ True) (fun u => []) 0 0 := by
  refine q_ent (own := RJ0) (by decide) rfl (Nat.le_of_ble_eq_true rfl) (fun p e s m below meth c ls X hr hlk hnm hK hT h hA hl => ?_)
  obtain ⟨hx, hb, hml, hown, ht⟩ := id X
  replace hl : lv_has ls 1 [(0, .ref (cy 11))] := hl
  refine q_sgets X hT h wm_2_202 dJ0_coder_7d493_0 ?_
  refine lv_if_eq (tgt := 13) hx hb dJ0_coder_7d493_3 (by decide) (fun c => absurd c (by decide +kernel)) (fun _ => ?_)
  refine lv_aload_n hx hb dJ0_coder_7d493_6 rfl (lv_at hl 0 rfl) ?_
  refine q_scoder X hT h 1 (by decide) wm_8_61 dJ0_coder_7d493_7 ?_
  refine lv_goto (tgt := 14) hx hb dJ0_coder_7d493_10 (by decide) ?_
  exact q_iret X hr hlk hK h rfl (fun _ => 0, fun _ _ => 0, fun _ _ => 0) ⟨rfl, trivial⟩ [] rfl rfl dJ0_coder_7d493_14 (Nat.le_of_ble_eq_true rfl) (Nat.le_of_ble_eq_true rfl)
set_option maxHeartbeats 4000000 in
set_option maxRecDepth 100000 in
theorem gJ0_length_8abf5_5da51b3 (l : Launch) (D : va_G) (cy : Nat → ClassId) (sz : Nat) : MI l yJ0_length_8abf5 cJ0_length_8abf5 1 .int { frames := 1, cells := 0, slots := 0, locals := 20 } [.ref (cy 11)] D cy [] sz (fun r u => r = 12 ∧ True) (fun u => []) 0 0 := by
  refine q_ent (own := RJ0) (by decide) rfl (Nat.le_of_ble_eq_true rfl) (fun p e s m below meth c ls X hr hlk hnm hK hT h hA hl => ?_)
  obtain ⟨hx, hb, hml, hown, ht⟩ := id X
  replace hl : lv_has ls 1 [(0, .ref (cy 11))] := hl
  refine lv_aload_n hx hb dJ0_length_8abf5_0 rfl (lv_at hl 0 rfl) ?_
  refine q_svalue X hT h 1 (by decide) wm_8_60 dJ0_length_8abf5_1 ?_
  refine q_slen X hT h 1 (by decide) (v := 12) (by decide) dJ0_length_8abf5_4 ?_
  refine lv_aload_n hx hb dJ0_length_8abf5_5 rfl (lv_at hl 0 rfl) ?_
  refine q_callGi (rest := [.int 12]) (wr := []) X hK hT hA h (fun sz => gJ0_coder_7d493_dd71dbc l D cy   sz) wm_2_198 wm_2_201 wm_1_14 hd_J0_coder_7d493 rfl wm_2_199 wm_2_200 1 (by decide) rfl ⟨Nat.le_of_ble_eq_true rfl, Nat.le_of_ble_eq_true rfl⟩ hl.1 rfl (Nat.le_of_ble_eq_true rfl) dJ0_length_8abf5_6 ⟨Nat.le_of_ble_eq_true rfl, Nat.le_of_ble_eq_true rfl⟩ [] [] rfl rfl (by decide) rfl rfl (fun r_1 u_1 H locs w_1 h_1 => ?_)
  clear h
  obtain ⟨wr_1, _⟩ := w_1
  obtain rfl : r_1 = 0 := wr_1
  replace h_1 : qW D _ _ [] _ _ := h_1
  refine lv_ishr hx hb dJ0_length_8abf5_9 ?_
  refine q_c 12 (by decide +kernel) ?_
  exact q_iret X hr hlk hK h_1 rfl (fun _ => 0, fun _ _ => 0, fun _ _ => 0) ⟨rfl, trivial⟩ [] rfl rfl dJ0_length_8abf5_10 (Nat.le_of_ble_eq_true rfl) (Nat.le_of_ble_eq_true rfl)
set_option maxHeartbeats 4000000 in
set_option maxRecDepth 100000 in
theorem gJ0_isLatin1_aae02_bcca0b2 (l : Launch) (D : va_G) (cy : Nat → ClassId) (sz : Nat) : MI l yJ0_isLatin1_aae02 cJ0_isLatin1_aae02 1 .boolean { frames := 0, cells := 0, slots := 0, locals := 0 } [.ref (cy 11)] D cy [] sz (fun r u => r = 1 ∧ True) (fun u => []) 0 0 := by
  refine q_ent (own := RJ0) (by decide) rfl (Nat.le_of_ble_eq_true rfl) (fun p e s m below meth c ls X hr hlk hnm hK hT h hA hl => ?_)
  obtain ⟨hx, hb, hml, hown, ht⟩ := id X
  replace hl : lv_has ls 1 [(0, .ref (cy 11))] := hl
  refine q_sgets X hT h wm_2_202 dJ0_isLatin1_aae02_0 ?_
  refine lv_if_eq (tgt := 17) hx hb dJ0_isLatin1_aae02_3 (by decide) (fun c => absurd c (by decide +kernel)) (fun _ => ?_)
  refine lv_aload_n hx hb dJ0_isLatin1_aae02_6 rfl (lv_at hl 0 rfl) ?_
  refine q_scoder X hT h 1 (by decide) wm_8_61 dJ0_isLatin1_aae02_7 ?_
  refine lv_if_ne (tgt := 17) hx hb dJ0_isLatin1_aae02_10 (by decide) (fun c => absurd c (by decide +kernel)) (fun _ => ?_)
  refine lv_iconst (v := 1) hx hb dJ0_isLatin1_aae02_13 (by decide) ?_
  refine lv_goto (tgt := 18) hx hb dJ0_isLatin1_aae02_14 (by decide) ?_
  exact q_iret X hr hlk hK h rfl (fun _ => 0, fun _ _ => 0, fun _ _ => 0) ⟨rfl, trivial⟩ [] rfl rfl dJ0_isLatin1_aae02_18 (Nat.le_of_ble_eq_true rfl) (Nat.le_of_ble_eq_true rfl)
set_option maxHeartbeats 4000000 in
set_option maxRecDepth 100000 in
theorem gJ1_charAt_3b067_12e71a8 (l : Launch) (D : va_G) (cy : Nat → ClassId) (p0 : Int32) (hp0 : 0 ≤ (p0).toInt ∧ (p0).toInt ≤ 11) (sz : Nat) : MI l yJ1_charAt_3b067 cJ1_charAt_3b067 2 .char { frames := 2, cells := 0, slots := 0, locals := 43 } [.ref (cy 15), .int p0] D cy [] sz (fun r u => (0 ≤ r.toInt ∧ r.toInt ≤ 65535) ∧ True) (fun u => []) 0 0 := by
  refine q_ent (own := RJ1) (by decide) rfl (Nat.le_of_ble_eq_true rfl) (fun p e s m below meth c ls X hr hlk hnm hK hT h hA hl => ?_)
  obtain ⟨hx, hb, hml, hown, ht⟩ := id X
  replace hl : lv_has ls 2 [(0, .ref (cy 15)), (1, .int p0)] := hl
  refine lv_iload_n hx hb dJ1_charAt_3b067_0 rfl (lv_at hl 1 rfl) ?_
  refine lv_aload_n hx hb dJ1_charAt_3b067_1 rfl (lv_at hl 0 rfl) ?_
  refine q_slen X hT h 1 (by decide) (v := 12) (by decide) dJ1_charAt_3b067_2 ?_
  refine q_callSv (rest := []) (wr := []) X hK hT hA h (fun sz => gJ0_checkIndex_df160_e8cd482 l D cy p0 (12 : Int32) (bw hp0 (by decide) (by decide)) ⟨by decide +kernel, by decide +kernel⟩ (by have q0 : (12 : Int32).toInt = 12 := (by decide); omega) sz) wm_2_215 wm_2_217 wm_1_14 hd_J0_checkIndex_df160 wm_2_216 ⟨Nat.le_of_ble_eq_true rfl, Nat.le_of_ble_eq_true rfl⟩ hl.1 rfl (Nat.le_of_ble_eq_true rfl) dJ1_charAt_3b067_3 ⟨Nat.le_of_ble_eq_true rfl, Nat.le_of_ble_eq_true rfl⟩ [] [] rfl rfl (by decide) rfl rfl (fun u_1 H locs w_1 h_1 => ?_)
  clear h
  clear w_1
  replace h_1 : qW D _ _ [] _ _ := h_1
  refine lv_aload_n hx hb dJ1_charAt_3b067_6 rfl (lv_at hl 0 rfl) ?_
  refine lv_iload_n hx hb dJ1_charAt_3b067_7 rfl (lv_at hl 1 rfl) ?_
  refine q_sbyte X hT h_1 1 (by decide) (show vp_in p0 12 from (i_in rfl (by omega) (by omega))) dJ1_charAt_3b067_8 ?_
  obtain ⟨z_2, ez_2, hz_2⟩ := e_sb 1 p0
  refine q_c z_2 ez_2 ?_
  refine lv_sipush (v := 255) hx hb dJ1_charAt_3b067_9 (by decide) ?_
  refine lv_iand hx hb dJ1_charAt_3b067_12 ?_
  obtain ⟨z_3, ez_3, hz_3⟩ := e_and2 (x := z_2) (y := 255) (show (255 : Int32).toInt = 255 by decide) (by omega)
  refine q_c z_3 ez_3 ?_
  refine lv_i2c hx hb dJ1_charAt_3b067_13 rfl ?_
  obtain ⟨z_4, ez_4, hz_4⟩ := e_i2c z_3
  refine q_c z_4 ez_4 ?_
  exact q_iret X hr hlk hK h_1 (q_nc (by omega) (by omega)) (fun _ => 0, fun _ _ => 0, fun _ _ => 0) ⟨⟨by omega, by omega⟩, trivial⟩ [] rfl rfl dJ1_charAt_3b067_14 (Nat.le_of_ble_eq_true rfl) (Nat.le_of_ble_eq_true rfl)
set_option maxHeartbeats 4000000 in
set_option maxRecDepth 100000 in
theorem gJ0_charAt_5068e_c3f27f5 (l : Launch) (D : va_G) (cy : Nat → ClassId) (p0 : Int32) (hp0 : 0 ≤ (p0).toInt ∧ (p0).toInt ≤ 11) (sz : Nat) : MI l yJ0_charAt_5068e cJ0_charAt_5068e 2 .char { frames := 3, cells := 0, slots := 0, locals := 64 } [.ref (cy 11), .int p0] D cy [] sz (fun r u => (0 ≤ r.toInt ∧ r.toInt ≤ 65535) ∧ True) (fun u => []) 0 0 := by
  refine q_ent (own := RJ0) (by decide) rfl (Nat.le_of_ble_eq_true rfl) (fun p e s m below meth c ls X hr hlk hnm hK hT h hA hl => ?_)
  obtain ⟨hx, hb, hml, hown, ht⟩ := id X
  replace hl : lv_has ls 2 [(0, .ref (cy 11)), (1, .int p0)] := hl
  refine lv_aload_n hx hb dJ0_charAt_5068e_0 rfl (lv_at hl 0 rfl) ?_
  refine q_callGi (rest := []) (wr := []) X hK hT hA h (fun sz => gJ0_isLatin1_aae02_bcca0b2 l D cy   sz) wm_2_208 wm_2_211 wm_1_14 hd_J0_isLatin1_aae02 rfl wm_2_209 wm_2_210 1 (by decide) rfl ⟨Nat.le_of_ble_eq_true rfl, Nat.le_of_ble_eq_true rfl⟩ hl.1 rfl (Nat.le_of_ble_eq_true rfl) dJ0_charAt_5068e_1 ⟨Nat.le_of_ble_eq_true rfl, Nat.le_of_ble_eq_true rfl⟩ [] [] rfl rfl (by decide) rfl rfl (fun r_1 u_1 H locs w_1 h_1 => ?_)
  clear h
  obtain ⟨wr_1, _⟩ := w_1
  obtain rfl : r_1 = 1 := wr_1
  replace h_1 : qW D _ _ [] _ _ := h_1
  refine lv_if_eq (tgt := 16) hx hb dJ0_charAt_5068e_4 (by decide) (fun c => absurd c (by decide +kernel)) (fun _ => ?_)
  refine lv_aload_n hx hb dJ0_charAt_5068e_7 rfl (lv_at hl 0 rfl) ?_
  refine q_svalue X hT h_1 1 (by decide) wm_8_60 dJ0_charAt_5068e_8 ?_
  refine lv_iload_n hx hb dJ0_charAt_5068e_11 rfl (lv_at hl 1 rfl) ?_
  refine q_callSi (rest := []) (wr := []) X hK hT hA h_1 (fun sz => gJ1_charAt_3b067_12e71a8 l D cy p0 hp0 sz) wm_2_212 wm_2_214 wm_1_15 hd_J1_charAt_3b067 wm_2_213 ⟨Nat.le_of_ble_eq_true rfl, Nat.le_of_ble_eq_true rfl⟩ hl.1 rfl (Nat.le_of_ble_eq_true rfl) dJ0_charAt_5068e_12 ⟨Nat.le_of_ble_eq_true rfl, Nat.le_of_ble_eq_true rfl⟩ [] [] rfl rfl (by decide) rfl rfl (fun r_2 u_2 H locs w_2 h_2 => ?_)
  clear h_1
  obtain ⟨wr_2, _⟩ := w_2
  replace h_2 : qW D _ _ [] _ _ := h_2
  exact q_iret X hr hlk hK h_2 (q_nc (by omega) (by omega)) (fun _ => 0, fun _ _ => 0, fun _ _ => 0) ⟨wr_2, trivial⟩ [] rfl rfl dJ0_charAt_5068e_15 (Nat.le_of_ble_eq_true rfl) (Nat.le_of_ble_eq_true rfl)
set_option maxHeartbeats 4000000 in
set_option maxRecDepth 100000 in
theorem gJ0_coder_7d493_a60b70f (l : Launch) (D : va_G) (cy : Nat → ClassId) (sz : Nat) : MI l yJ0_coder_7d493 cJ0_coder_7d493 1 .byte { frames := 0, cells := 0, slots := 0, locals := 0 } [.ref (cy 12)] D cy [] sz (fun r u => r = 0 ∧ True) (fun u => []) 0 0 := by
  refine q_ent (own := RJ0) (by decide) rfl (Nat.le_of_ble_eq_true rfl) (fun p e s m below meth c ls X hr hlk hnm hK hT h hA hl => ?_)
  obtain ⟨hx, hb, hml, hown, ht⟩ := id X
  replace hl : lv_has ls 1 [(0, .ref (cy 12))] := hl
  refine q_sgets X hT h wm_2_202 dJ0_coder_7d493_0 ?_
  refine lv_if_eq (tgt := 13) hx hb dJ0_coder_7d493_3 (by decide) (fun c => absurd c (by decide +kernel)) (fun _ => ?_)
  refine lv_aload_n hx hb dJ0_coder_7d493_6 rfl (lv_at hl 0 rfl) ?_
  refine q_scoder X hT h 2 (by decide) wm_8_61 dJ0_coder_7d493_7 ?_
  refine lv_goto (tgt := 14) hx hb dJ0_coder_7d493_10 (by decide) ?_
  exact q_iret X hr hlk hK h rfl (fun _ => 0, fun _ _ => 0, fun _ _ => 0) ⟨rfl, trivial⟩ [] rfl rfl dJ0_coder_7d493_14 (Nat.le_of_ble_eq_true rfl) (Nat.le_of_ble_eq_true rfl)
set_option maxHeartbeats 4000000 in
set_option maxRecDepth 100000 in
theorem gJ0_length_8abf5_227ad04 (l : Launch) (D : va_G) (cy : Nat → ClassId) (sz : Nat) : MI l yJ0_length_8abf5 cJ0_length_8abf5 1 .int { frames := 1, cells := 0, slots := 0, locals := 20 } [.ref (cy 12)] D cy [] sz (fun r u => r = 130 ∧ True) (fun u => []) 0 0 := by
  refine q_ent (own := RJ0) (by decide) rfl (Nat.le_of_ble_eq_true rfl) (fun p e s m below meth c ls X hr hlk hnm hK hT h hA hl => ?_)
  obtain ⟨hx, hb, hml, hown, ht⟩ := id X
  replace hl : lv_has ls 1 [(0, .ref (cy 12))] := hl
  refine lv_aload_n hx hb dJ0_length_8abf5_0 rfl (lv_at hl 0 rfl) ?_
  refine q_svalue X hT h 2 (by decide) wm_8_60 dJ0_length_8abf5_1 ?_
  refine q_slen X hT h 2 (by decide) (v := 130) (by decide) dJ0_length_8abf5_4 ?_
  refine lv_aload_n hx hb dJ0_length_8abf5_5 rfl (lv_at hl 0 rfl) ?_
  refine q_callGi (rest := [.int 130]) (wr := []) X hK hT hA h (fun sz => gJ0_coder_7d493_a60b70f l D cy   sz) wm_2_198 wm_2_201 wm_1_14 hd_J0_coder_7d493 rfl wm_2_199 wm_2_200 2 (by decide) rfl ⟨Nat.le_of_ble_eq_true rfl, Nat.le_of_ble_eq_true rfl⟩ hl.1 rfl (Nat.le_of_ble_eq_true rfl) dJ0_length_8abf5_6 ⟨Nat.le_of_ble_eq_true rfl, Nat.le_of_ble_eq_true rfl⟩ [] [] rfl rfl (by decide) rfl rfl (fun r_1 u_1 H locs w_1 h_1 => ?_)
  clear h
  obtain ⟨wr_1, _⟩ := w_1
  obtain rfl : r_1 = 0 := wr_1
  replace h_1 : qW D _ _ [] _ _ := h_1
  refine lv_ishr hx hb dJ0_length_8abf5_9 ?_
  refine q_c 130 (by decide +kernel) ?_
  exact q_iret X hr hlk hK h_1 rfl (fun _ => 0, fun _ _ => 0, fun _ _ => 0) ⟨rfl, trivial⟩ [] rfl rfl dJ0_length_8abf5_10 (Nat.le_of_ble_eq_true rfl) (Nat.le_of_ble_eq_true rfl)
set_option maxHeartbeats 4000000 in
set_option maxRecDepth 100000 in
theorem gJ0_isLatin1_aae02_5602f73 (l : Launch) (D : va_G) (cy : Nat → ClassId) (sz : Nat) : MI l yJ0_isLatin1_aae02 cJ0_isLatin1_aae02 1 .boolean { frames := 0, cells := 0, slots := 0, locals := 0 } [.ref (cy 12)] D cy [] sz (fun r u => r = 1 ∧ True) (fun u => []) 0 0 := by
  refine q_ent (own := RJ0) (by decide) rfl (Nat.le_of_ble_eq_true rfl) (fun p e s m below meth c ls X hr hlk hnm hK hT h hA hl => ?_)
  obtain ⟨hx, hb, hml, hown, ht⟩ := id X
  replace hl : lv_has ls 1 [(0, .ref (cy 12))] := hl
  refine q_sgets X hT h wm_2_202 dJ0_isLatin1_aae02_0 ?_
  refine lv_if_eq (tgt := 17) hx hb dJ0_isLatin1_aae02_3 (by decide) (fun c => absurd c (by decide +kernel)) (fun _ => ?_)
  refine lv_aload_n hx hb dJ0_isLatin1_aae02_6 rfl (lv_at hl 0 rfl) ?_
  refine q_scoder X hT h 2 (by decide) wm_8_61 dJ0_isLatin1_aae02_7 ?_
  refine lv_if_ne (tgt := 17) hx hb dJ0_isLatin1_aae02_10 (by decide) (fun c => absurd c (by decide +kernel)) (fun _ => ?_)
  refine lv_iconst (v := 1) hx hb dJ0_isLatin1_aae02_13 (by decide) ?_
  refine lv_goto (tgt := 18) hx hb dJ0_isLatin1_aae02_14 (by decide) ?_
  exact q_iret X hr hlk hK h rfl (fun _ => 0, fun _ _ => 0, fun _ _ => 0) ⟨rfl, trivial⟩ [] rfl rfl dJ0_isLatin1_aae02_18 (Nat.le_of_ble_eq_true rfl) (Nat.le_of_ble_eq_true rfl)
set_option maxHeartbeats 4000000 in
set_option maxRecDepth 100000 in
theorem gJ1_charAt_3b067_cbd4617 (l : Launch) (D : va_G) (cy : Nat → ClassId) (p0 : Int32) (hp0 : 0 ≤ (p0).toInt ∧ (p0).toInt ≤ 129) (sz : Nat) : MI l yJ1_charAt_3b067 cJ1_charAt_3b067 2 .char { frames := 2, cells := 0, slots := 0, locals := 43 } [.ref (cy 16), .int p0] D cy [] sz (fun r u => (0 ≤ r.toInt ∧ r.toInt ≤ 65535) ∧ ((p0 : Int32).toInt ≠ 129 ∨ (r : Int32).toInt = 32) ∧ True) (fun u => []) 0 0 := by
  refine q_ent (own := RJ1) (by decide) rfl (Nat.le_of_ble_eq_true rfl) (fun p e s m below meth c ls X hr hlk hnm hK hT h hA hl => ?_)
  obtain ⟨hx, hb, hml, hown, ht⟩ := id X
  replace hl : lv_has ls 2 [(0, .ref (cy 16)), (1, .int p0)] := hl
  refine lv_iload_n hx hb dJ1_charAt_3b067_0 rfl (lv_at hl 1 rfl) ?_
  refine lv_aload_n hx hb dJ1_charAt_3b067_1 rfl (lv_at hl 0 rfl) ?_
  refine q_slen X hT h 2 (by decide) (v := 130) (by decide) dJ1_charAt_3b067_2 ?_
  refine q_callSv (rest := []) (wr := []) X hK hT hA h (fun sz => gJ0_checkIndex_df160_e8cd482 l D cy p0 (130 : Int32) hp0 ⟨by decide +kernel, by decide +kernel⟩ (by have q0 : (130 : Int32).toInt = 130 := (by decide); omega) sz) wm_2_215 wm_2_217 wm_1_14 hd_J0_checkIndex_df160 wm_2_216 ⟨Nat.le_of_ble_eq_true rfl, Nat.le_of_ble_eq_true rfl⟩ hl.1 rfl (Nat.le_of_ble_eq_true rfl) dJ1_charAt_3b067_3 ⟨Nat.le_of_ble_eq_true rfl, Nat.le_of_ble_eq_true rfl⟩ [] [] rfl rfl (by decide) rfl rfl (fun u_1 H locs w_1 h_1 => ?_)
  clear h
  clear w_1
  replace h_1 : qW D _ _ [] _ _ := h_1
  refine lv_aload_n hx hb dJ1_charAt_3b067_6 rfl (lv_at hl 0 rfl) ?_
  refine lv_iload_n hx hb dJ1_charAt_3b067_7 rfl (lv_at hl 1 rfl) ?_
  refine q_sbyte X hT h_1 2 (by decide) (show vp_in p0 130 from (i_in rfl (by omega) (by omega))) dJ1_charAt_3b067_8 ?_
  obtain ⟨z_2, ez_2, hz_2⟩ := e_sb 2 p0
  refine q_c z_2 ez_2 ?_
  refine lv_sipush (v := 255) hx hb dJ1_charAt_3b067_9 (by decide) ?_
  refine lv_iand hx hb dJ1_charAt_3b067_12 ?_
  obtain ⟨z_3, ez_3, hz_3⟩ := e_and2 (x := z_2) (y := 255) (show (255 : Int32).toInt = 255 by decide) (by omega)
  refine q_c z_3 ez_3 ?_
  refine lv_i2c hx hb dJ1_charAt_3b067_13 rfl ?_
  obtain ⟨z_4, ez_4, hz_4⟩ := e_i2c z_3
  refine q_c z_4 ez_4 ?_
  have lc_5 := last_sp ez_2 ez_3 ez_4
  exact q_iret X hr hlk hK h_1 (q_nc (by omega) (by omega)) (fun _ => 0, fun _ _ => 0, fun _ _ => 0) ⟨⟨by omega, by omega⟩, (show (p0 : Int32).toInt ≠ 129 ∨ (z_4 : Int32).toInt = 32 from by omega), trivial⟩ [] rfl rfl dJ1_charAt_3b067_14 (Nat.le_of_ble_eq_true rfl) (Nat.le_of_ble_eq_true rfl)
set_option maxHeartbeats 4000000 in
set_option maxRecDepth 100000 in
theorem gJ0_charAt_5068e_7fea22b (l : Launch) (D : va_G) (cy : Nat → ClassId) (p0 : Int32) (hp0 : 0 ≤ (p0).toInt ∧ (p0).toInt ≤ 129) (sz : Nat) : MI l yJ0_charAt_5068e cJ0_charAt_5068e 2 .char { frames := 3, cells := 0, slots := 0, locals := 64 } [.ref (cy 12), .int p0] D cy [] sz (fun r u => (0 ≤ r.toInt ∧ r.toInt ≤ 65535) ∧ ((p0 : Int32).toInt ≠ 129 ∨ (r : Int32).toInt = 32) ∧ True) (fun u => []) 0 0 := by
  refine q_ent (own := RJ0) (by decide) rfl (Nat.le_of_ble_eq_true rfl) (fun p e s m below meth c ls X hr hlk hnm hK hT h hA hl => ?_)
  obtain ⟨hx, hb, hml, hown, ht⟩ := id X
  replace hl : lv_has ls 2 [(0, .ref (cy 12)), (1, .int p0)] := hl
  refine lv_aload_n hx hb dJ0_charAt_5068e_0 rfl (lv_at hl 0 rfl) ?_
  refine q_callGi (rest := []) (wr := []) X hK hT hA h (fun sz => gJ0_isLatin1_aae02_5602f73 l D cy   sz) wm_2_208 wm_2_211 wm_1_14 hd_J0_isLatin1_aae02 rfl wm_2_209 wm_2_210 2 (by decide) rfl ⟨Nat.le_of_ble_eq_true rfl, Nat.le_of_ble_eq_true rfl⟩ hl.1 rfl (Nat.le_of_ble_eq_true rfl) dJ0_charAt_5068e_1 ⟨Nat.le_of_ble_eq_true rfl, Nat.le_of_ble_eq_true rfl⟩ [] [] rfl rfl (by decide) rfl rfl (fun r_1 u_1 H locs w_1 h_1 => ?_)
  clear h
  obtain ⟨wr_1, _⟩ := w_1
  obtain rfl : r_1 = 1 := wr_1
  replace h_1 : qW D _ _ [] _ _ := h_1
  refine lv_if_eq (tgt := 16) hx hb dJ0_charAt_5068e_4 (by decide) (fun c => absurd c (by decide +kernel)) (fun _ => ?_)
  refine lv_aload_n hx hb dJ0_charAt_5068e_7 rfl (lv_at hl 0 rfl) ?_
  refine q_svalue X hT h_1 2 (by decide) wm_8_60 dJ0_charAt_5068e_8 ?_
  refine lv_iload_n hx hb dJ0_charAt_5068e_11 rfl (lv_at hl 1 rfl) ?_
  refine q_callSi (rest := []) (wr := []) X hK hT hA h_1 (fun sz => gJ1_charAt_3b067_cbd4617 l D cy p0 hp0 sz) wm_2_212 wm_2_214 wm_1_15 hd_J1_charAt_3b067 wm_2_213 ⟨Nat.le_of_ble_eq_true rfl, Nat.le_of_ble_eq_true rfl⟩ hl.1 rfl (Nat.le_of_ble_eq_true rfl) dJ0_charAt_5068e_12 ⟨Nat.le_of_ble_eq_true rfl, Nat.le_of_ble_eq_true rfl⟩ [] [] rfl rfl (by decide) rfl rfl (fun r_2 u_2 H locs w_2 h_2 => ?_)
  clear h_1
  obtain ⟨wr_2, y2_0, _⟩ := w_2
  replace h_2 : qW D _ _ [] _ _ := h_2
  exact q_iret X hr hlk hK h_2 (q_nc (by omega) (by omega)) (fun _ => 0, fun _ _ => 0, fun _ _ => 0) ⟨wr_2, (show (p0 : Int32).toInt ≠ 129 ∨ (r_2 : Int32).toInt = 32 from by omega), trivial⟩ [] rfl rfl dJ0_charAt_5068e_15 (Nat.le_of_ble_eq_true rfl) (Nat.le_of_ble_eq_true rfl)
set_option maxHeartbeats 4000000 in
set_option maxRecDepth 100000 in
theorem gJ0_coder_7d493_16686df (l : Launch) (D : va_G) (cy : Nat → ClassId) (sz : Nat) : MI l yJ0_coder_7d493 cJ0_coder_7d493 1 .byte { frames := 0, cells := 0, slots := 0, locals := 0 } [.ref (cy 13)] D cy [] sz (fun r u => r = 0 ∧ True) (fun u => []) 0 0 := by
  refine q_ent (own := RJ0) (by decide) rfl (Nat.le_of_ble_eq_true rfl) (fun p e s m below meth c ls X hr hlk hnm hK hT h hA hl => ?_)
  obtain ⟨hx, hb, hml, hown, ht⟩ := id X
  replace hl : lv_has ls 1 [(0, .ref (cy 13))] := hl
  refine q_sgets X hT h wm_2_202 dJ0_coder_7d493_0 ?_
  refine lv_if_eq (tgt := 13) hx hb dJ0_coder_7d493_3 (by decide) (fun c => absurd c (by decide +kernel)) (fun _ => ?_)
  refine lv_aload_n hx hb dJ0_coder_7d493_6 rfl (lv_at hl 0 rfl) ?_
  refine q_scoder X hT h 3 (by decide) wm_8_61 dJ0_coder_7d493_7 ?_
  refine lv_goto (tgt := 14) hx hb dJ0_coder_7d493_10 (by decide) ?_
  exact q_iret X hr hlk hK h rfl (fun _ => 0, fun _ _ => 0, fun _ _ => 0) ⟨rfl, trivial⟩ [] rfl rfl dJ0_coder_7d493_14 (Nat.le_of_ble_eq_true rfl) (Nat.le_of_ble_eq_true rfl)
set_option maxHeartbeats 4000000 in
set_option maxRecDepth 100000 in
theorem gJ0_length_8abf5_3e0234a (l : Launch) (D : va_G) (cy : Nat → ClassId) (sz : Nat) : MI l yJ0_length_8abf5 cJ0_length_8abf5 1 .int { frames := 1, cells := 0, slots := 0, locals := 20 } [.ref (cy 13)] D cy [] sz (fun r u => r = 12 ∧ True) (fun u => []) 0 0 := by
  refine q_ent (own := RJ0) (by decide) rfl (Nat.le_of_ble_eq_true rfl) (fun p e s m below meth c ls X hr hlk hnm hK hT h hA hl => ?_)
  obtain ⟨hx, hb, hml, hown, ht⟩ := id X
  replace hl : lv_has ls 1 [(0, .ref (cy 13))] := hl
  refine lv_aload_n hx hb dJ0_length_8abf5_0 rfl (lv_at hl 0 rfl) ?_
  refine q_svalue X hT h 3 (by decide) wm_8_60 dJ0_length_8abf5_1 ?_
  refine q_slen X hT h 3 (by decide) (v := 12) (by decide) dJ0_length_8abf5_4 ?_
  refine lv_aload_n hx hb dJ0_length_8abf5_5 rfl (lv_at hl 0 rfl) ?_
  refine q_callGi (rest := [.int 12]) (wr := []) X hK hT hA h (fun sz => gJ0_coder_7d493_16686df l D cy   sz) wm_2_198 wm_2_201 wm_1_14 hd_J0_coder_7d493 rfl wm_2_199 wm_2_200 3 (by decide) rfl ⟨Nat.le_of_ble_eq_true rfl, Nat.le_of_ble_eq_true rfl⟩ hl.1 rfl (Nat.le_of_ble_eq_true rfl) dJ0_length_8abf5_6 ⟨Nat.le_of_ble_eq_true rfl, Nat.le_of_ble_eq_true rfl⟩ [] [] rfl rfl (by decide) rfl rfl (fun r_1 u_1 H locs w_1 h_1 => ?_)
  clear h
  obtain ⟨wr_1, _⟩ := w_1
  obtain rfl : r_1 = 0 := wr_1
  replace h_1 : qW D _ _ [] _ _ := h_1
  refine lv_ishr hx hb dJ0_length_8abf5_9 ?_
  refine q_c 12 (by decide +kernel) ?_
  exact q_iret X hr hlk hK h_1 rfl (fun _ => 0, fun _ _ => 0, fun _ _ => 0) ⟨rfl, trivial⟩ [] rfl rfl dJ0_length_8abf5_10 (Nat.le_of_ble_eq_true rfl) (Nat.le_of_ble_eq_true rfl)
set_option maxHeartbeats 4000000 in
set_option maxRecDepth 100000 in
theorem gJ0_isLatin1_aae02_0a74a4d (l : Launch) (D : va_G) (cy : Nat → ClassId) (sz : Nat) : MI l yJ0_isLatin1_aae02 cJ0_isLatin1_aae02 1 .boolean { frames := 0, cells := 0, slots := 0, locals := 0 } [.ref (cy 13)] D cy [] sz (fun r u => r = 1 ∧ True) (fun u => []) 0 0 := by
  refine q_ent (own := RJ0) (by decide) rfl (Nat.le_of_ble_eq_true rfl) (fun p e s m below meth c ls X hr hlk hnm hK hT h hA hl => ?_)
  obtain ⟨hx, hb, hml, hown, ht⟩ := id X
  replace hl : lv_has ls 1 [(0, .ref (cy 13))] := hl
  refine q_sgets X hT h wm_2_202 dJ0_isLatin1_aae02_0 ?_
  refine lv_if_eq (tgt := 17) hx hb dJ0_isLatin1_aae02_3 (by decide) (fun c => absurd c (by decide +kernel)) (fun _ => ?_)
  refine lv_aload_n hx hb dJ0_isLatin1_aae02_6 rfl (lv_at hl 0 rfl) ?_
  refine q_scoder X hT h 3 (by decide) wm_8_61 dJ0_isLatin1_aae02_7 ?_
  refine lv_if_ne (tgt := 17) hx hb dJ0_isLatin1_aae02_10 (by decide) (fun c => absurd c (by decide +kernel)) (fun _ => ?_)
  refine lv_iconst (v := 1) hx hb dJ0_isLatin1_aae02_13 (by decide) ?_
  refine lv_goto (tgt := 18) hx hb dJ0_isLatin1_aae02_14 (by decide) ?_
  exact q_iret X hr hlk hK h rfl (fun _ => 0, fun _ _ => 0, fun _ _ => 0) ⟨rfl, trivial⟩ [] rfl rfl dJ0_isLatin1_aae02_18 (Nat.le_of_ble_eq_true rfl) (Nat.le_of_ble_eq_true rfl)
set_option maxHeartbeats 4000000 in
set_option maxRecDepth 100000 in
theorem gJ1_charAt_3b067_fd9b7b7 (l : Launch) (D : va_G) (cy : Nat → ClassId) (p0 : Int32) (hp0 : 0 ≤ (p0).toInt ∧ (p0).toInt ≤ 11) (sz : Nat) : MI l yJ1_charAt_3b067 cJ1_charAt_3b067 2 .char { frames := 2, cells := 0, slots := 0, locals := 43 } [.ref (cy 17), .int p0] D cy [] sz (fun r u => (0 ≤ r.toInt ∧ r.toInt ≤ 65535) ∧ True) (fun u => []) 0 0 := by
  refine q_ent (own := RJ1) (by decide) rfl (Nat.le_of_ble_eq_true rfl) (fun p e s m below meth c ls X hr hlk hnm hK hT h hA hl => ?_)
  obtain ⟨hx, hb, hml, hown, ht⟩ := id X
  replace hl : lv_has ls 2 [(0, .ref (cy 17)), (1, .int p0)] := hl
  refine lv_iload_n hx hb dJ1_charAt_3b067_0 rfl (lv_at hl 1 rfl) ?_
  refine lv_aload_n hx hb dJ1_charAt_3b067_1 rfl (lv_at hl 0 rfl) ?_
  refine q_slen X hT h 3 (by decide) (v := 12) (by decide) dJ1_charAt_3b067_2 ?_
  refine q_callSv (rest := []) (wr := []) X hK hT hA h (fun sz => gJ0_checkIndex_df160_e8cd482 l D cy p0 (12 : Int32) (bw hp0 (by decide) (by decide)) ⟨by decide +kernel, by decide +kernel⟩ (by have q0 : (12 : Int32).toInt = 12 := (by decide); omega) sz) wm_2_215 wm_2_217 wm_1_14 hd_J0_checkIndex_df160 wm_2_216 ⟨Nat.le_of_ble_eq_true rfl, Nat.le_of_ble_eq_true rfl⟩ hl.1 rfl (Nat.le_of_ble_eq_true rfl) dJ1_charAt_3b067_3 ⟨Nat.le_of_ble_eq_true rfl, Nat.le_of_ble_eq_true rfl⟩ [] [] rfl rfl (by decide) rfl rfl (fun u_1 H locs w_1 h_1 => ?_)
  clear h
  clear w_1
  replace h_1 : qW D _ _ [] _ _ := h_1
  refine lv_aload_n hx hb dJ1_charAt_3b067_6 rfl (lv_at hl 0 rfl) ?_
  refine lv_iload_n hx hb dJ1_charAt_3b067_7 rfl (lv_at hl 1 rfl) ?_
  refine q_sbyte X hT h_1 3 (by decide) (show vp_in p0 12 from (i_in rfl (by omega) (by omega))) dJ1_charAt_3b067_8 ?_
  obtain ⟨z_2, ez_2, hz_2⟩ := e_sb 3 p0
  refine q_c z_2 ez_2 ?_
  refine lv_sipush (v := 255) hx hb dJ1_charAt_3b067_9 (by decide) ?_
  refine lv_iand hx hb dJ1_charAt_3b067_12 ?_
  obtain ⟨z_3, ez_3, hz_3⟩ := e_and2 (x := z_2) (y := 255) (show (255 : Int32).toInt = 255 by decide) (by omega)
  refine q_c z_3 ez_3 ?_
  refine lv_i2c hx hb dJ1_charAt_3b067_13 rfl ?_
  obtain ⟨z_4, ez_4, hz_4⟩ := e_i2c z_3
  refine q_c z_4 ez_4 ?_
  exact q_iret X hr hlk hK h_1 (q_nc (by omega) (by omega)) (fun _ => 0, fun _ _ => 0, fun _ _ => 0) ⟨⟨by omega, by omega⟩, trivial⟩ [] rfl rfl dJ1_charAt_3b067_14 (Nat.le_of_ble_eq_true rfl) (Nat.le_of_ble_eq_true rfl)
set_option maxHeartbeats 4000000 in
set_option maxRecDepth 100000 in
theorem gJ0_charAt_5068e_e322d56 (l : Launch) (D : va_G) (cy : Nat → ClassId) (p0 : Int32) (hp0 : 0 ≤ (p0).toInt ∧ (p0).toInt ≤ 11) (sz : Nat) : MI l yJ0_charAt_5068e cJ0_charAt_5068e 2 .char { frames := 3, cells := 0, slots := 0, locals := 64 } [.ref (cy 13), .int p0] D cy [] sz (fun r u => (0 ≤ r.toInt ∧ r.toInt ≤ 65535) ∧ True) (fun u => []) 0 0 := by
  refine q_ent (own := RJ0) (by decide) rfl (Nat.le_of_ble_eq_true rfl) (fun p e s m below meth c ls X hr hlk hnm hK hT h hA hl => ?_)
  obtain ⟨hx, hb, hml, hown, ht⟩ := id X
  replace hl : lv_has ls 2 [(0, .ref (cy 13)), (1, .int p0)] := hl
  refine lv_aload_n hx hb dJ0_charAt_5068e_0 rfl (lv_at hl 0 rfl) ?_
  refine q_callGi (rest := []) (wr := []) X hK hT hA h (fun sz => gJ0_isLatin1_aae02_0a74a4d l D cy   sz) wm_2_208 wm_2_211 wm_1_14 hd_J0_isLatin1_aae02 rfl wm_2_209 wm_2_210 3 (by decide) rfl ⟨Nat.le_of_ble_eq_true rfl, Nat.le_of_ble_eq_true rfl⟩ hl.1 rfl (Nat.le_of_ble_eq_true rfl) dJ0_charAt_5068e_1 ⟨Nat.le_of_ble_eq_true rfl, Nat.le_of_ble_eq_true rfl⟩ [] [] rfl rfl (by decide) rfl rfl (fun r_1 u_1 H locs w_1 h_1 => ?_)
  clear h
  obtain ⟨wr_1, _⟩ := w_1
  obtain rfl : r_1 = 1 := wr_1
  replace h_1 : qW D _ _ [] _ _ := h_1
  refine lv_if_eq (tgt := 16) hx hb dJ0_charAt_5068e_4 (by decide) (fun c => absurd c (by decide +kernel)) (fun _ => ?_)
  refine lv_aload_n hx hb dJ0_charAt_5068e_7 rfl (lv_at hl 0 rfl) ?_
  refine q_svalue X hT h_1 3 (by decide) wm_8_60 dJ0_charAt_5068e_8 ?_
  refine lv_iload_n hx hb dJ0_charAt_5068e_11 rfl (lv_at hl 1 rfl) ?_
  refine q_callSi (rest := []) (wr := []) X hK hT hA h_1 (fun sz => gJ1_charAt_3b067_fd9b7b7 l D cy p0 hp0 sz) wm_2_212 wm_2_214 wm_1_15 hd_J1_charAt_3b067 wm_2_213 ⟨Nat.le_of_ble_eq_true rfl, Nat.le_of_ble_eq_true rfl⟩ hl.1 rfl (Nat.le_of_ble_eq_true rfl) dJ0_charAt_5068e_12 ⟨Nat.le_of_ble_eq_true rfl, Nat.le_of_ble_eq_true rfl⟩ [] [] rfl rfl (by decide) rfl rfl (fun r_2 u_2 H locs w_2 h_2 => ?_)
  clear h_1
  obtain ⟨wr_2, _⟩ := w_2
  replace h_2 : qW D _ _ [] _ _ := h_2
  exact q_iret X hr hlk hK h_2 (q_nc (by omega) (by omega)) (fun _ => 0, fun _ _ => 0, fun _ _ => 0) ⟨wr_2, trivial⟩ [] rfl rfl dJ0_charAt_5068e_15 (Nat.le_of_ble_eq_true rfl) (Nat.le_of_ble_eq_true rfl)
set_option maxHeartbeats 4000000 in
set_option maxRecDepth 100000 in
theorem gJ1_canEncode_9a6ad_c7fbe5d (l : Launch) (D : va_G) (cy : Nat → ClassId) (p0 : Int32) (hp0 : (-2147483648) ≤ (p0).toInt ∧ (p0).toInt ≤ 2147483647) (sz : Nat) : MI l yJ1_canEncode_9a6ad cJ1_canEncode_9a6ad 1 .boolean { frames := 0, cells := 0, slots := 0, locals := 0 } [.int p0] D cy [] sz (fun r u => (0 ≤ r.toInt ∧ r.toInt ≤ 1) ∧ True) (fun u => []) 0 0 := by
  refine q_ent (own := RJ1) (by decide) rfl (Nat.le_of_ble_eq_true rfl) (fun p e s m below meth c ls X hr hlk hnm hK hT h hA hl => ?_)
  obtain ⟨hx, hb, hml, hown, ht⟩ := id X
  replace hl : lv_has ls 1 [(0, .int p0)] := hl
  refine lv_iload_n hx hb dJ1_canEncode_9a6ad_0 rfl (lv_at hl 0 rfl) ?_
  refine q_jn (pc2 := 16) (fun H locs ls st => ∃ v16_1_0 : Int32, (0 ≤ (v16_1_0).toInt ∧ (v16_1_0).toInt ≤ 1) ∧ st = [.int v16_1_0] ∧ qW D (va_A [] sz) s.heap [] H locs ∧ lv_has ls 1 [(0, .int p0)]) (fun H locs ls st hP => ?_) (fun J_16 => ?_)
  · obtain ⟨v16_1_0, hv16_1_0, rfl, h, hl⟩ := hP
    exact q_iret X hr hlk hK h (q_nz (by omega) (by omega)) (fun _ => 0, fun _ _ => 0, fun _ _ => 0) ⟨hv16_1_0, trivial⟩ [] rfl rfl dJ1_canEncode_9a6ad_16 (Nat.le_of_ble_eq_true rfl) (Nat.le_of_ble_eq_true rfl)
  · skip
    refine q_jn (pc2 := 15) (fun H locs ls st => st = [] ∧ qW D (va_A [] sz) s.heap [] H locs ∧ lv_has ls 1 [(0, .int p0)]) (fun H locs ls st hP => ?_) (fun J_15 => ?_)
    · obtain ⟨rfl, h, hl⟩ := hP
      refine lv_iconst (v := 0) hx hb dJ1_canEncode_9a6ad_15 (by decide) ?_
      exact J_16 _ _ _ _ ⟨0, ⟨by decide +kernel, by decide +kernel⟩, rfl, h, (lv_sub hl [0] rfl)⟩
    · skip
      refine lv_if_lt (tgt := 15) hx hb dJ1_canEncode_9a6ad_1 (by decide) (fun c_3 => ?_) (fun c_3 => ?_)
      · replace c_3 := i_lt (x := p0) (y := 0) rfl (show (0 : Int32).toInt = 0 by decide) c_3
        exact J_15 _ _ _ _ ⟨rfl, h, (lv_sub hl [0] rfl)⟩
      · replace c_3 := i_nlt (x := p0) (y := 0) rfl (show (0 : Int32).toInt = 0 by decide) c_3
        refine lv_iload_n hx hb dJ1_canEncode_9a6ad_4 rfl (lv_at hl 0 rfl) ?_
        refine lv_sipush (v := 255) hx hb dJ1_canEncode_9a6ad_5 (by decide) ?_
        refine lv_icmp_gt (tgt := 15) hx hb dJ1_canEncode_9a6ad_8 (by decide) (fun c_4 => ?_) (fun c_4 => ?_)
        · replace c_4 := i_lt (x := 255) (y := p0) (show (255 : Int32).toInt = 255 by decide) rfl c_4
          exact J_15 _ _ _ _ ⟨rfl, h, (lv_sub hl [0] rfl)⟩
        · replace c_4 := i_nlt (x := 255) (y := p0) (show (255 : Int32).toInt = 255 by decide) rfl c_4
          refine lv_iconst (v := 1) hx hb dJ1_canEncode_9a6ad_11 (by decide) ?_
          refine lv_goto (tgt := 16) hx hb dJ1_canEncode_9a6ad_12 (by decide) ?_
          exact J_16 _ _ _ _ ⟨1, ⟨by decide +kernel, by decide +kernel⟩, rfl, h, (lv_sub hl [0] rfl)⟩
set_option maxHeartbeats 4000000 in
set_option maxRecDepth 100000 in
theorem gJ1_indexOfChar_4cfef_872148f (l : Launch) (D : va_G) (cy : Nat → ClassId) (p0 : Int32) (p1 : Int32) (p2 : Int32) (hp0 : (-2147483648) ≤ (p0).toInt ∧ (p0).toInt ≤ 2147483647) (hp1 : 0 ≤ (p1).toInt ∧ (p1).toInt ≤ 0) (hp2 : 12 ≤ (p2).toInt ∧ (p2).toInt ≤ 12) (sz : Nat) : MI l yJ1_indexOfChar_4cfef cJ1_indexOfChar_4cfef 6 .int { frames := 0, cells := 0, slots := 0, locals := 0 } [.ref (cy 15), .int p0, .int p1, .int p2] D cy [] sz (fun r u => ((-1) ≤ r.toInt ∧ r.toInt ≤ 11) ∧ True) (fun u => []) 0 0 := by
  refine q_ent (own := RJ1) (by decide) rfl (Nat.le_of_ble_eq_true rfl) (fun p e s m below meth c ls X hr hlk hnm hK hT h hA hl => ?_)
  obtain ⟨hx, hb, hml, hown, ht⟩ := id X
  replace hl : lv_has ls 6 [(0, .ref (cy 15)), (1, .int p0), (2, .int p1), (3, .int p2)] := hl
  refine lv_iload_n hx hb dJ1_indexOfChar_4cfef_0 rfl (lv_at hl 1 rfl) ?_
  refine lv_i2b hx hb dJ1_indexOfChar_4cfef_1 rfl ?_
  obtain ⟨z_1, ez_1, hz_1⟩ := e_i2b p0
  refine q_c z_1 ez_1 ?_
  clear ez_1
  refine lv_istore (lv' := [(4, .int z_1), (0, .ref (cy 15)), (1, .int p0), (2, .int p1), (3, .int p2)]) hx hb dJ1_indexOfChar_4cfef_2 hl (by decide) rfl (fun ls_2 hl_2 => ?_)
  clear hl
  refine lv_iload_n hx hb dJ1_indexOfChar_4cfef_4 rfl (lv_at hl_2 3 rfl) ?_
  refine lv_istore (lv' := [(5, .int p1), (4, .int z_1), (0, .ref (cy 15)), (1, .int p0), (2, .int p1), (3, .int p2)]) hx hb dJ1_indexOfChar_4cfef_5 hl_2 (by decide) rfl (fun ls_3 hl_3 => ?_)
  clear hl_2
  refine q_wl (fun (v7_4_0 : Int32) H locs ls => (0 ≤ (v7_4_0).toInt ∧ (v7_4_0).toInt ≤ 20) ∧ qW D (va_A [] sz) s.heap [] H locs ∧ lv_has ls 6 [(0, .ref (cy 15)), (1, .int p0), (2, .int p1), (3, .int p2), (4, .int z_1), (5, .int v7_4_0)]) (fun (v7_4_0 : Int32) => (21 - (v7_4_0).toInt).toNat) (fun q_7 ih_7 H locs ls hP => ?_) p1 ⟨(bw hp1 (by decide) (by decide)), h, (lv_sub hl_3 [2, 3, 4, 5, 1, 0] rfl)⟩
  obtain ⟨v7_4_0, rfl⟩ : ∃ z, z = q_7 := ⟨_, rfl⟩
  obtain ⟨hv7_4_0, h, hl⟩ := hP
  refine lv_iload hx hb dJ1_indexOfChar_4cfef_7 (lv_at hl 5 rfl) ?_
  refine lv_iload_n hx hb dJ1_indexOfChar_4cfef_9 rfl (lv_at hl 3 rfl) ?_
  refine lv_icmp_ge (tgt := 31) hx hb dJ1_indexOfChar_4cfef_10 (by decide) (fun c_5 => ?_) (fun c_5 => ?_)
  · replace c_5 := i_le (x := p2) (y := v7_4_0) rfl rfl c_5
    refine lv_iconst (v := (-1)) hx hb dJ1_indexOfChar_4cfef_31 (by decide) ?_
    exact q_iret X hr hlk hK h rfl (fun _ => 0, fun _ _ => 0, fun _ _ => 0) ⟨⟨by decide +kernel, by decide +kernel⟩, trivial⟩ [] rfl rfl dJ1_indexOfChar_4cfef_32 (Nat.le_of_ble_eq_true rfl) (Nat.le_of_ble_eq_true rfl)
  · replace c_5 := i_nle (x := p2) (y := v7_4_0) rfl rfl c_5
    refine lv_aload_n hx hb dJ1_indexOfChar_4cfef_13 rfl (lv_at hl 0 rfl) ?_
    refine lv_iload hx hb dJ1_indexOfChar_4cfef_14 (lv_at hl 5 rfl) ?_
    refine q_sbyte X hT h 1 (by decide) (show vp_in v7_4_0 12 from (i_in rfl (by omega) (by omega))) dJ1_indexOfChar_4cfef_16 ?_
    obtain ⟨z_6, ez_6, hz_6⟩ := e_sb 1 v7_4_0
    refine q_c z_6 ez_6 ?_
    clear ez_6
    refine lv_iload hx hb dJ1_indexOfChar_4cfef_17 (lv_at hl 4 rfl) ?_
    refine lv_icmp_ne (tgt := 25) hx hb dJ1_indexOfChar_4cfef_19 (by decide) (fun c_7 => ?_) (fun c_7 => ?_)
    · replace c_7 := i_ne (x := z_6) (y := z_1) rfl rfl c_7
      obtain ⟨z_8, ez_8, hz_8⟩ := e_add (x := v7_4_0) (y := Int32.ofInt 1) rfl (b := 1) (by decide) (by omega) (by omega)
      refine lv_iinc (v := z_8) (lv' := [(5, .int z_8), (0, .ref (cy 15)), (1, .int p0), (2, .int p1), (3, .int p2), (4, .int z_1)]) hx hb dJ1_indexOfChar_4cfef_25 hl (k := 5) rfl ez_8 (by decide) rfl (fun ls_8 hl_8 => ?_)
      clear hl
      refine lv_goto (tgt := 7) hx hb dJ1_indexOfChar_4cfef_28 (by decide) ?_
      exact ih_7 z_8 (by show (21 - (z_8).toInt).toNat < (21 - (v7_4_0).toInt).toNat; omega) _ _ _ ⟨⟨by omega, by omega⟩, h, (lv_sub hl_8 [1, 2, 3, 4, 5, 0] rfl)⟩
    · replace c_7 := i_eq (x := z_6) (y := z_1) rfl rfl c_7
      refine lv_iload hx hb dJ1_indexOfChar_4cfef_22 (lv_at hl 5 rfl) ?_
      exact q_iret X hr hlk hK h rfl (fun _ => 0, fun _ _ => 0, fun _ _ => 0) ⟨⟨by omega, by omega⟩, trivial⟩ [] rfl rfl dJ1_indexOfChar_4cfef_24 (Nat.le_of_ble_eq_true rfl) (Nat.le_of_ble_eq_true rfl)
set_option maxHeartbeats 4000000 in
set_option maxRecDepth 100000 in
theorem gJ1_indexOf_4cfef_3ebb620 (l : Launch) (D : va_G) (cy : Nat → ClassId) (p0 : Int32) (p1 : Int32) (p2 : Int32) (hp0 : (-2147483648) ≤ (p0).toInt ∧ (p0).toInt ≤ 2147483647) (hp1 : 0 ≤ (p1).toInt ∧ (p1).toInt ≤ 0) (hp2 : 12 ≤ (p2).toInt ∧ (p2).toInt ≤ 12) (sz : Nat) : MI l yJ1_indexOf_4cfef cJ1_indexOf_4cfef 4 .int { frames := 1, cells := 0, slots := 0, locals := 25 } [.ref (cy 15), .int p0, .int p1, .int p2] D cy [] sz (fun r u => ((-1) ≤ r.toInt ∧ r.toInt ≤ 11) ∧ True) (fun u => []) 0 0 := by
  refine q_ent (own := RJ1) (by decide) rfl (Nat.le_of_ble_eq_true rfl) (fun p e s m below meth c ls X hr hlk hnm hK hT h hA hl => ?_)
  obtain ⟨hx, hb, hml, hown, ht⟩ := id X
  replace hl : lv_has ls 4 [(0, .ref (cy 15)), (1, .int p0), (2, .int p1), (3, .int p2)] := hl
  refine lv_iload_n hx hb dJ1_indexOf_4cfef_0 rfl (lv_at hl 1 rfl) ?_
  refine q_callSi (rest := []) (wr := []) X hK hT hA h (fun sz => gJ1_canEncode_9a6ad_c7fbe5d l D cy p0 (i_rng _) sz) wm_3_19 wm_3_21 wm_1_15 hd_J1_canEncode_9a6ad wm_3_20 ⟨Nat.le_of_ble_eq_true rfl, Nat.le_of_ble_eq_true rfl⟩ hl.1 rfl (Nat.le_of_ble_eq_true rfl) dJ1_indexOf_4cfef_1 ⟨Nat.le_of_ble_eq_true rfl, Nat.le_of_ble_eq_true rfl⟩ [] [] rfl rfl (by decide) rfl rfl (fun r_1 u_1 H locs w_1 h_1 => ?_)
  clear h
  obtain ⟨wr_1, _⟩ := w_1
  replace h_1 : qW D _ _ [] _ _ := h_1
  refine lv_if_ne (tgt := 9) hx hb dJ1_indexOf_4cfef_4 (by decide) (fun c_2 => ?_) (fun c_2 => ?_)
  · replace c_2 := i_ne (x := r_1) (y := 0) rfl (show (0 : Int32).toInt = 0 by decide) c_2
    refine lv_iload_n hx hb dJ1_indexOf_4cfef_9 rfl (lv_at hl 2 rfl) ?_
    refine lv_iconst (v := 0) hx hb dJ1_indexOf_4cfef_10 (by decide) ?_
    refine va_mmax hx hb (hml.trans hl.1.symm) hown (ht _ wm_3_22) (ht _ wm_3_23) (ht _ wm_1_13) (ht _ wm_3_24) (Nat.le_of_ble_eq_true rfl) (Nat.le_of_ble_eq_true rfl) (Nat.le_of_ble_eq_true rfl) (Nat.le_of_ble_eq_true rfl) dJ1_indexOf_4cfef_11 ?_
    obtain ⟨z_3, ez_3, hz_3⟩ := e_max (x := p1) (y := 0) rfl (show (0 : Int32).toInt = 0 by decide)
    refine q_c z_3 ez_3 ?_
    clear ez_3
    refine lv_istore_n (lv' := [(2, .int z_3), (0, .ref (cy 15)), (1, .int p0), (3, .int p2)]) hx hb dJ1_indexOf_4cfef_14 rfl hl (by decide) rfl (fun ls_4 hl_4 => ?_)
    clear hl
    refine lv_iload_n hx hb dJ1_indexOf_4cfef_15 rfl (lv_at hl_4 3 rfl) ?_
    refine lv_aload_n hx hb dJ1_indexOf_4cfef_16 rfl (lv_at hl_4 1 rfl) ?_
    refine q_slen X hT h_1 1 (by decide) (v := 12) (by decide) dJ1_indexOf_4cfef_17 ?_
    refine va_mmin hx hb (hml.trans hl_4.1.symm) hown (ht _ wm_3_25) (ht _ wm_2_171) (ht _ wm_1_13) (ht _ wm_2_172) (Nat.le_of_ble_eq_true rfl) (Nat.le_of_ble_eq_true rfl) (Nat.le_of_ble_eq_true rfl) (Nat.le_of_ble_eq_true rfl) dJ1_indexOf_4cfef_18 ?_
    obtain ⟨z_5, ez_5, hz_5⟩ := e_min (x := p2) (y := 12) rfl (show (12 : Int32).toInt = 12 by decide)
    refine q_c z_5 ez_5 ?_
    clear ez_5
    refine lv_istore_n (lv' := [(3, .int z_5), (2, .int z_3), (0, .ref (cy 15)), (1, .int p0)]) hx hb dJ1_indexOf_4cfef_21 rfl hl_4 (by decide) rfl (fun ls_6 hl_6 => ?_)
    clear hl_4
    refine lv_iload_n hx hb dJ1_indexOf_4cfef_22 rfl (lv_at hl_6 1 rfl) ?_
    refine lv_iload_n hx hb dJ1_indexOf_4cfef_23 rfl (lv_at hl_6 0 rfl) ?_
    refine lv_icmp_lt (tgt := 29) hx hb dJ1_indexOf_4cfef_24 (by decide) (fun c_7 => ?_) (fun c_7 => ?_)
    · replace c_7 := i_lt (x := z_3) (y := z_5) rfl rfl c_7
      refine lv_aload_n hx hb dJ1_indexOf_4cfef_29 rfl (lv_at hl_6 2 rfl) ?_
      refine lv_iload_n hx hb dJ1_indexOf_4cfef_30 rfl (lv_at hl_6 3 rfl) ?_
      refine lv_iload_n hx hb dJ1_indexOf_4cfef_31 rfl (lv_at hl_6 1 rfl) ?_
      refine lv_iload_n hx hb dJ1_indexOf_4cfef_32 rfl (lv_at hl_6 0 rfl) ?_
      refine q_callSi (rest := []) (wr := []) X hK hT hA h_1 (fun sz => gJ1_indexOfChar_4cfef_872148f l D cy p0 z_3 z_5 (i_rng _) ⟨by omega, by omega⟩ ⟨by omega, by omega⟩ sz) wm_3_26 wm_3_28 wm_1_15 hd_J1_indexOfChar_4cfef wm_3_27 ⟨Nat.le_of_ble_eq_true rfl, Nat.le_of_ble_eq_true rfl⟩ hl_6.1 rfl (Nat.le_of_ble_eq_true rfl) dJ1_indexOf_4cfef_33 ⟨Nat.le_of_ble_eq_true rfl, Nat.le_of_ble_eq_true rfl⟩ [] [] rfl rfl (by decide) rfl rfl (fun r_8 u_8 H locs w_8 h_8 => ?_)
      clear h_1
      obtain ⟨wr_8, _⟩ := w_8
      replace h_8 : qW D _ _ [] _ _ := h_8
      exact q_iret X hr hlk hK h_8 rfl (fun _ => 0, fun _ _ => 0, fun _ _ => 0) ⟨wr_8, trivial⟩ [] rfl rfl dJ1_indexOf_4cfef_36 (Nat.le_of_ble_eq_true rfl) (Nat.le_of_ble_eq_true rfl)
    · replace c_7 := i_nlt (x := z_3) (y := z_5) rfl rfl c_7
      exfalso
      omega
  · replace c_2 := i_eq (x := r_1) (y := 0) rfl (show (0 : Int32).toInt = 0 by decide) c_2
    refine lv_iconst (v := (-1)) hx hb dJ1_indexOf_4cfef_7 (by decide) ?_
    exact q_iret X hr hlk hK h_1 rfl (fun _ => 0, fun _ _ => 0, fun _ _ => 0) ⟨⟨by decide +kernel, by decide +kernel⟩, trivial⟩ [] rfl rfl dJ1_indexOf_4cfef_8 (Nat.le_of_ble_eq_true rfl) (Nat.le_of_ble_eq_true rfl)
set_option maxHeartbeats 4000000 in
set_option maxRecDepth 100000 in
theorem gJ0_indexOf_7cf53_f97ee8a (l : Launch) (D : va_G) (cy : Nat → ClassId) (p0 : Int32) (p1 : Int32) (hp0 : (-2147483648) ≤ (p0).toInt ∧ (p0).toInt ≤ 2147483647) (hp1 : 0 ≤ (p1).toInt ∧ (p1).toInt ≤ 0) (sz : Nat) : MI l yJ0_indexOf_7cf53 cJ0_indexOf_7cf53 3 .int { frames := 2, cells := 0, slots := 0, locals := 48 } [.ref (cy 11), .int p0, .int p1] D cy [] sz (fun r u => ((-1) ≤ r.toInt ∧ r.toInt ≤ 11) ∧ True) (fun u => []) 0 0 := by
  refine q_ent (own := RJ0) (by decide) rfl (Nat.le_of_ble_eq_true rfl) (fun p e s m below meth c ls X hr hlk hnm hK hT h hA hl => ?_)
  obtain ⟨hx, hb, hml, hown, ht⟩ := id X
  replace hl : lv_has ls 3 [(0, .ref (cy 11)), (1, .int p0), (2, .int p1)] := hl
  refine lv_aload_n hx hb dJ0_indexOf_7cf53_0 rfl (lv_at hl 0 rfl) ?_
  refine q_callGi (rest := []) (wr := []) X hK hT hA h (fun sz => gJ0_isLatin1_aae02_bcca0b2 l D cy   sz) wm_2_208 wm_2_211 wm_1_14 hd_J0_isLatin1_aae02 rfl wm_2_209 wm_2_210 1 (by decide) rfl ⟨Nat.le_of_ble_eq_true rfl, Nat.le_of_ble_eq_true rfl⟩ hl.1 rfl (Nat.le_of_ble_eq_true rfl) dJ0_indexOf_7cf53_1 ⟨Nat.le_of_ble_eq_true rfl, Nat.le_of_ble_eq_true rfl⟩ [] [] rfl rfl (by decide) rfl rfl (fun r_1 u_1 H locs w_1 h_1 => ?_)
  clear h
  obtain ⟨wr_1, _⟩ := w_1
  obtain rfl : r_1 = 1 := wr_1
  replace h_1 : qW D _ _ [] _ _ := h_1
  refine lv_if_eq (tgt := 23) hx hb dJ0_indexOf_7cf53_4 (by decide) (fun c => absurd c (by decide +kernel)) (fun _ => ?_)
  refine lv_aload_n hx hb dJ0_indexOf_7cf53_7 rfl (lv_at hl 0 rfl) ?_
  refine q_svalue X hT h_1 1 (by decide) wm_8_60 dJ0_indexOf_7cf53_8 ?_
  refine lv_iload_n hx hb dJ0_indexOf_7cf53_11 rfl (lv_at hl 1 rfl) ?_
  refine lv_iload_n hx hb dJ0_indexOf_7cf53_12 rfl (lv_at hl 2 rfl) ?_
  refine lv_aload_n hx hb dJ0_indexOf_7cf53_13 rfl (lv_at hl 0 rfl) ?_
  refine q_callGi (rest := [.int p1, .int p0, .ref (cy 15)]) (wr := []) X hK hT hA h_1 (fun sz => gJ0_length_8abf5_5da51b3 l D cy   sz) wm_3_15 wm_2_197 wm_1_14 hd_J0_length_8abf5 rfl wm_2_195 wm_2_196 1 (by decide) rfl ⟨Nat.le_of_ble_eq_true rfl, Nat.le_of_ble_eq_true rfl⟩ hl.1 rfl (Nat.le_of_ble_eq_true rfl) dJ0_indexOf_7cf53_14 ⟨Nat.le_of_ble_eq_true rfl, Nat.le_of_ble_eq_true rfl⟩ [] [] rfl rfl (by decide) rfl rfl (fun r_2 u_2 H locs w_2 h_2 => ?_)
  clear h_1
  obtain ⟨wr_2, _⟩ := w_2
  obtain rfl : r_2 = 12 := wr_2
  replace h_2 : qW D _ _ [] _ _ := h_2
  refine q_callSi (rest := []) (wr := []) X hK hT hA h_2 (fun sz => gJ1_indexOf_4cfef_3ebb620 l D cy p0 p1 (12 : Int32) (i_rng _) hp1 ⟨by decide +kernel, by decide +kernel⟩ sz) wm_3_16 wm_3_18 wm_1_15 hd_J1_indexOf_4cfef wm_3_17 ⟨Nat.le_of_ble_eq_true rfl, Nat.le_of_ble_eq_true rfl⟩ hl.1 rfl (Nat.le_of_ble_eq_true rfl) dJ0_indexOf_7cf53_17 ⟨Nat.le_of_ble_eq_true rfl, Nat.le_of_ble_eq_true rfl⟩ [] [] rfl rfl (by decide) rfl rfl (fun r_3 u_3 H locs w_3 h_3 => ?_)
  clear h_2
  obtain ⟨wr_3, _⟩ := w_3
  replace h_3 : qW D _ _ [] _ _ := h_3
  refine lv_goto (tgt := 36) hx hb dJ0_indexOf_7cf53_20 (by decide) ?_
  exact q_iret X hr hlk hK h_3 rfl (fun _ => 0, fun _ _ => 0, fun _ _ => 0) ⟨wr_3, trivial⟩ [] rfl rfl dJ0_indexOf_7cf53_36 (Nat.le_of_ble_eq_true rfl) (Nat.le_of_ble_eq_true rfl)
set_option maxHeartbeats 4000000 in
set_option maxRecDepth 100000 in
theorem gJ0_indexOf_0f7a4_25691a2 (l : Launch) (D : va_G) (cy : Nat → ClassId) (p0 : Int32) (hp0 : (-2147483648) ≤ (p0).toInt ∧ (p0).toInt ≤ 2147483647) (sz : Nat) : MI l yJ0_indexOf_0f7a4 cJ0_indexOf_0f7a4 2 .int { frames := 3, cells := 0, slots := 0, locals := 70 } [.ref (cy 11), .int p0] D cy [] sz (fun r u => ((-1) ≤ r.toInt ∧ r.toInt ≤ 11) ∧ True) (fun u => []) 0 0 := by
  refine q_ent (own := RJ0) (by decide) rfl (Nat.le_of_ble_eq_true rfl) (fun p e s m below meth c ls X hr hlk hnm hK hT h hA hl => ?_)
  obtain ⟨hx, hb, hml, hown, ht⟩ := id X
  replace hl : lv_has ls 2 [(0, .ref (cy 11)), (1, .int p0)] := hl
  refine lv_aload_n hx hb dJ0_indexOf_0f7a4_0 rfl (lv_at hl 0 rfl) ?_
  refine lv_iload_n hx hb dJ0_indexOf_0f7a4_1 rfl (lv_at hl 1 rfl) ?_
  refine lv_iconst (v := 0) hx hb dJ0_indexOf_0f7a4_2 (by decide) ?_
  refine q_callGi (rest := []) (wr := []) X hK hT hA h (fun sz => gJ0_indexOf_7cf53_f97ee8a l D cy p0 (0 : Int32) (i_rng _) ⟨by decide +kernel, by decide +kernel⟩ sz) wm_3_11 wm_3_14 wm_1_14 hd_J0_indexOf_7cf53 rfl wm_3_12 wm_3_13 1 (by decide) rfl ⟨Nat.le_of_ble_eq_true rfl, Nat.le_of_ble_eq_true rfl⟩ hl.1 rfl (Nat.le_of_ble_eq_true rfl) dJ0_indexOf_0f7a4_3 ⟨Nat.le_of_ble_eq_true rfl, Nat.le_of_ble_eq_true rfl⟩ [] [] rfl rfl (by decide) rfl rfl (fun r_1 u_1 H locs w_1 h_1 => ?_)
  clear h
  obtain ⟨wr_1, _⟩ := w_1
  replace h_1 : qW D _ _ [] _ _ := h_1
  exact q_iret X hr hlk hK h_1 rfl (fun _ => 0, fun _ _ => 0, fun _ _ => 0) ⟨wr_1, trivial⟩ [] rfl rfl dJ0_indexOf_0f7a4_6 (Nat.le_of_ble_eq_true rfl) (Nat.le_of_ble_eq_true rfl)
