theorem wm_8_60 : Cond.fieldLink RJ0 9 "java/lang/String" "value" "[B" ∈ WG := wg_t8 (List.mem_of_getElem? (i := 60) rfl) rfl
theorem wm_2_202 : Cond.fieldLink RJ0 38 "java/lang/String" "COMPACT_STRINGS" "Z" ∈ WG := wg_t2 (List.mem_of_getElem? (i := 202) rfl) rfl
theorem wm_8_61 : Cond.fieldLink RJ0 15 "java/lang/String" "coder" "B" ∈ WG := wg_t8 (List.mem_of_getElem? (i := 61) rfl) rfl
theorem wm_2_198 : Cond.methodLink RJ0 335 yJ0_coder_7d493 ∈ WG := wg_t2 (List.mem_of_getElem? (i := 198) rfl) rfl
theorem wm_2_201 : Cond.code yJ0_coder_7d493 cJ0_coder_7d493 1 (some .byte) ∈ WG := wg_t2 (List.mem_of_getElem? (i := 201) rfl) rfl
theorem wm_1_14 : Cond.initialized RJ0 ∈ WG := wg_t1 (List.mem_of_getElem? (i := 14) rfl) rfl
theorem wm_2_199 : Cond.instanceMethod yJ0_coder_7d493 ∈ WG := wg_t2 (List.mem_of_getElem? (i := 199) rfl) rfl
theorem wm_2_200 : Cond.selects RJ0 yJ0_coder_7d493 yJ0_coder_7d493 ∈ WG := wg_t2 (List.mem_of_getElem? (i := 200) rfl) rfl
theorem wm_2_208 : Cond.methodLink RJ0 492 yJ0_isLatin1_aae02 ∈ WG := wg_t2 (List.mem_of_getElem? (i := 208) rfl) rfl
theorem wm_2_211 : Cond.code yJ0_isLatin1_aae02 cJ0_isLatin1_aae02 1 (some .boolean) ∈ WG := wg_t2 (List.mem_of_getElem? (i := 211) rfl) rfl
theorem wm_2_209 : Cond.instanceMethod yJ0_isLatin1_aae02 ∈ WG := wg_t2 (List.mem_of_getElem? (i := 209) rfl) rfl
theorem wm_2_210 : Cond.selects RJ0 yJ0_isLatin1_aae02 yJ0_isLatin1_aae02 ∈ WG := wg_t2 (List.mem_of_getElem? (i := 210) rfl) rfl
theorem wm_2_218 : Cond.fieldLink RJ0 1053 "jdk/internal/util/Preconditions" "SIOOBE_FORMATTER" "Ljava/util/function/BiFunction;" ∈ WG := wg_t2 (List.mem_of_getElem? (i := 218) rfl) rfl
theorem wm_2_220 : Cond.methodLink RJ0 1059 yJ3_checkIndex_8e157 ∈ WG := wg_t2 (List.mem_of_getElem? (i := 220) rfl) rfl
theorem wm_2_222 : Cond.code yJ3_checkIndex_8e157 cJ3_checkIndex_8e157 3 (some .int) ∈ WG := wg_t2 (List.mem_of_getElem? (i := 222) rfl) rfl
theorem wm_1_16 : Cond.initialized RJ3 ∈ WG := wg_t1 (List.mem_of_getElem? (i := 16) rfl) rfl
theorem wm_2_221 : Cond.static yJ3_checkIndex_8e157 ∈ WG := wg_t2 (List.mem_of_getElem? (i := 221) rfl) rfl
theorem wm_2_215 : Cond.methodLink RJ1 9 yJ0_checkIndex_df160 ∈ WG := wg_t2 (List.mem_of_getElem? (i := 215) rfl) rfl
theorem wm_2_217 : Cond.code yJ0_checkIndex_df160 cJ0_checkIndex_df160 2 none ∈ WG := wg_t2 (List.mem_of_getElem? (i := 217) rfl) rfl
theorem wm_2_216 : Cond.static yJ0_checkIndex_df160 ∈ WG := wg_t2 (List.mem_of_getElem? (i := 216) rfl) rfl
theorem wm_2_212 : Cond.methodLink RJ0 495 yJ1_charAt_3b067 ∈ WG := wg_t2 (List.mem_of_getElem? (i := 212) rfl) rfl
theorem wm_2_214 : Cond.code yJ1_charAt_3b067 cJ1_charAt_3b067 2 (some .char) ∈ WG := wg_t2 (List.mem_of_getElem? (i := 214) rfl) rfl
theorem wm_1_15 : Cond.initialized RJ1 ∈ WG := wg_t1 (List.mem_of_getElem? (i := 15) rfl) rfl
theorem wm_2_213 : Cond.static yJ1_charAt_3b067 ∈ WG := wg_t2 (List.mem_of_getElem? (i := 213) rfl) rfl
theorem hd_J0_coder_7d493 : yJ0_coder_7d493.cls ≠ "java/lang/invoke/MethodHandle" ∧ yJ0_coder_7d493.cls ≠ "java/lang/invoke/VarHandle" ∧ (parseMethodDescriptor yJ0_coder_7d493.desc).map (fun d => d.parameters.length) = some 0 := by decide +kernel
theorem hd_J0_isLatin1_aae02 : yJ0_isLatin1_aae02.cls ≠ "java/lang/invoke/MethodHandle" ∧ yJ0_isLatin1_aae02.cls ≠ "java/lang/invoke/VarHandle" ∧ (parseMethodDescriptor yJ0_isLatin1_aae02.desc).map (fun d => d.parameters.length) = some 0 := by decide +kernel
theorem hd_J3_checkIndex_8e157 : yJ3_checkIndex_8e157.cls ≠ "java/lang/invoke/MethodHandle" ∧ yJ3_checkIndex_8e157.cls ≠ "java/lang/invoke/VarHandle" ∧ (parseMethodDescriptor yJ3_checkIndex_8e157.desc).map (fun d => d.parameters.length) = some 3 := by decide +kernel
theorem hd_J0_checkIndex_df160 : yJ0_checkIndex_df160.cls ≠ "java/lang/invoke/MethodHandle" ∧ yJ0_checkIndex_df160.cls ≠ "java/lang/invoke/VarHandle" ∧ (parseMethodDescriptor yJ0_checkIndex_df160.desc).map (fun d => d.parameters.length) = some 2 := by decide +kernel
theorem hd_J1_charAt_3b067 : yJ1_charAt_3b067.cls ≠ "java/lang/invoke/MethodHandle" ∧ yJ1_charAt_3b067.cls ≠ "java/lang/invoke/VarHandle" ∧ (parseMethodDescriptor yJ1_charAt_3b067.desc).map (fun d => d.parameters.length) = some 2 := by decide +kernel
theorem dJ0_charAt_5068e_0 : decode cJ0_charAt_5068e 0 = .ok (.aload_n 0, 1) := sorry
theorem dJ0_charAt_5068e_1 : decode cJ0_charAt_5068e 1 = .ok (.invokevirtual 492, 3) := sorry
theorem dJ0_charAt_5068e_4 : decode cJ0_charAt_5068e 4 = .ok (.ifCond .eq 12, 3) := sorry
theorem dJ0_charAt_5068e_7 : decode cJ0_charAt_5068e 7 = .ok (.aload_n 0, 1) := sorry
theorem dJ0_charAt_5068e_8 : decode cJ0_charAt_5068e 8 = .ok (.getfield 9, 3) := sorry
theorem dJ0_charAt_5068e_11 : decode cJ0_charAt_5068e 11 = .ok (.iload_n 1, 1) := sorry
theorem dJ0_charAt_5068e_12 : decode cJ0_charAt_5068e 12 = .ok (.invokestatic 495, 3) := sorry
theorem dJ0_charAt_5068e_15 : decode cJ0_charAt_5068e 15 = .ok (.ireturn, 1) := sorry
theorem dJ0_charAt_5068e_16 : decode cJ0_charAt_5068e 16 = .ok (.aload_n 0, 1) := sorry
theorem dJ0_charAt_5068e_17 : decode cJ0_charAt_5068e 17 = .ok (.getfield 9, 3) := sorry
theorem dJ0_charAt_5068e_20 : decode cJ0_charAt_5068e 20 = .ok (.iload_n 1, 1) := sorry
theorem dJ0_charAt_5068e_21 : decode cJ0_charAt_5068e 21 = .ok (.invokestatic 498, 3) := sorry
theorem dJ0_charAt_5068e_24 : decode cJ0_charAt_5068e 24 = .ok (.ireturn, 1) := sorry
theorem dJ0_checkIndex_df160_0 : decode cJ0_checkIndex_df160 0 = .ok (.iload_n 0, 1) := sorry
theorem dJ0_checkIndex_df160_1 : decode cJ0_checkIndex_df160 1 = .ok (.iload_n 1, 1) := sorry
theorem dJ0_checkIndex_df160_2 : decode cJ0_checkIndex_df160 2 = .ok (.getstatic 1053, 3) := sorry
theorem dJ0_checkIndex_df160_5 : decode cJ0_checkIndex_df160 5 = .ok (.invokestatic 1059, 3) := sorry
theorem dJ0_checkIndex_df160_8 : decode cJ0_checkIndex_df160 8 = .ok (.pop, 1) := sorry
theorem dJ0_checkIndex_df160_9 : decode cJ0_checkIndex_df160 9 = .ok (.return_, 1) := sorry
theorem dJ0_coder_7d493_0 : decode cJ0_coder_7d493 0 = .ok (.getstatic 38, 3) := sorry
theorem dJ0_coder_7d493_3 : decode cJ0_coder_7d493 3 = .ok (.ifCond .eq 10, 3) := sorry
theorem dJ0_coder_7d493_6 : decode cJ0_coder_7d493 6 = .ok (.aload_n 0, 1) := sorry
theorem dJ0_coder_7d493_7 : decode cJ0_coder_7d493 7 = .ok (.getfield 15, 3) := sorry
theorem dJ0_coder_7d493_10 : decode cJ0_coder_7d493 10 = .ok (.goto 4, 3) := sorry
theorem dJ0_coder_7d493_13 : decode cJ0_coder_7d493 13 = .ok (.iconst 1, 1) := sorry
theorem dJ0_coder_7d493_14 : decode cJ0_coder_7d493 14 = .ok (.ireturn, 1) := sorry
theorem dJ0_isLatin1_aae02_0 : decode cJ0_isLatin1_aae02 0 = .ok (.getstatic 38, 3) := sorry
theorem dJ0_isLatin1_aae02_3 : decode cJ0_isLatin1_aae02 3 = .ok (.ifCond .eq 14, 3) := sorry
theorem dJ0_isLatin1_aae02_6 : decode cJ0_isLatin1_aae02 6 = .ok (.aload_n 0, 1) := sorry
theorem dJ0_isLatin1_aae02_7 : decode cJ0_isLatin1_aae02 7 = .ok (.getfield 15, 3) := sorry
theorem dJ0_isLatin1_aae02_10 : decode cJ0_isLatin1_aae02 10 = .ok (.ifCond .ne 7, 3) := sorry
theorem dJ0_isLatin1_aae02_13 : decode cJ0_isLatin1_aae02 13 = .ok (.iconst 1, 1) := sorry
theorem dJ0_isLatin1_aae02_14 : decode cJ0_isLatin1_aae02 14 = .ok (.goto 4, 3) := sorry
theorem dJ0_isLatin1_aae02_17 : decode cJ0_isLatin1_aae02 17 = .ok (.iconst 0, 1) := sorry
theorem dJ0_isLatin1_aae02_18 : decode cJ0_isLatin1_aae02 18 = .ok (.ireturn, 1) := sorry
theorem dJ0_length_8abf5_0 : decode cJ0_length_8abf5 0 = .ok (.aload_n 0, 1) := sorry
theorem dJ0_length_8abf5_1 : decode cJ0_length_8abf5 1 = .ok (.getfield 9, 3) := sorry
theorem dJ0_length_8abf5_4 : decode cJ0_length_8abf5 4 = .ok (.arraylength, 1) := sorry
theorem dJ0_length_8abf5_5 : decode cJ0_length_8abf5 5 = .ok (.aload_n 0, 1) := sorry
theorem dJ0_length_8abf5_6 : decode cJ0_length_8abf5 6 = .ok (.invokevirtual 335, 3) := sorry
theorem dJ0_length_8abf5_9 : decode cJ0_length_8abf5 9 = .ok (.ishr, 1) := sorry
theorem dJ0_length_8abf5_10 : decode cJ0_length_8abf5 10 = .ok (.ireturn, 1) := sorry
theorem dJ1_charAt_3b067_0 : decode cJ1_charAt_3b067 0 = .ok (.iload_n 1, 1) := sorry
theorem dJ1_charAt_3b067_1 : decode cJ1_charAt_3b067 1 = .ok (.aload_n 0, 1) := sorry
theorem dJ1_charAt_3b067_2 : decode cJ1_charAt_3b067 2 = .ok (.arraylength, 1) := sorry
theorem dJ1_charAt_3b067_3 : decode cJ1_charAt_3b067 3 = .ok (.invokestatic 9, 3) := sorry
theorem dJ1_charAt_3b067_6 : decode cJ1_charAt_3b067 6 = .ok (.aload_n 0, 1) := sorry
theorem dJ1_charAt_3b067_7 : decode cJ1_charAt_3b067 7 = .ok (.iload_n 1, 1) := sorry
theorem dJ1_charAt_3b067_8 : decode cJ1_charAt_3b067 8 = .ok (.baload, 1) := sorry
theorem dJ1_charAt_3b067_9 : decode cJ1_charAt_3b067 9 = .ok (.sipush 255, 3) := sorry
theorem dJ1_charAt_3b067_12 : decode cJ1_charAt_3b067 12 = .ok (.iand, 1) := sorry
theorem dJ1_charAt_3b067_13 : decode cJ1_charAt_3b067 13 = .ok (.i2c, 1) := sorry
theorem dJ1_charAt_3b067_14 : decode cJ1_charAt_3b067 14 = .ok (.ireturn, 1) := sorry
theorem dJ3_checkIndex_8e157_0 : decode cJ3_checkIndex_8e157 0 = .ok (.iload_n 0, 1) := sorry
theorem dJ3_checkIndex_8e157_1 : decode cJ3_checkIndex_8e157 1 = .ok (.ifCond .lt 8, 3) := sorry
theorem dJ3_checkIndex_8e157_4 : decode cJ3_checkIndex_8e157 4 = .ok (.iload_n 0, 1) := sorry
theorem dJ3_checkIndex_8e157_5 : decode cJ3_checkIndex_8e157 5 = .ok (.iload_n 1, 1) := sorry
theorem dJ3_checkIndex_8e157_6 : decode cJ3_checkIndex_8e157 6 = .ok (.if_icmp .lt 10, 3) := sorry
theorem dJ3_checkIndex_8e157_9 : decode cJ3_checkIndex_8e157 9 = .ok (.aload_n 2, 1) := sorry
theorem dJ3_checkIndex_8e157_10 : decode cJ3_checkIndex_8e157 10 = .ok (.iload_n 0, 1) := sorry
theorem dJ3_checkIndex_8e157_11 : decode cJ3_checkIndex_8e157 11 = .ok (.iload_n 1, 1) := sorry
theorem dJ3_checkIndex_8e157_12 : decode cJ3_checkIndex_8e157 12 = .ok (.invokestatic 95, 3) := sorry
theorem dJ3_checkIndex_8e157_15 : decode cJ3_checkIndex_8e157 15 = .ok (.athrow, 1) := sorry
theorem dJ3_checkIndex_8e157_16 : decode cJ3_checkIndex_8e157 16 = .ok (.iload_n 0, 1) := sorry
theorem dJ3_checkIndex_8e157_17 : decode cJ3_checkIndex_8e157 17 = .ok (.ireturn, 1) := sorry
set_option maxHeartbeats 4000000 in
set_option maxRecDepth 100000 in
theorem gJ0_isLatin1_aae02_bcca0b2 (l : Launch) (D : va_G) (cy : Nat → ClassId) (sz : Nat) : MI l yJ0_isLatin1_aae02 cJ0_isLatin1_aae02 1 .boolean { frames := 0, cells := 0, slots := 0, locals := 0 } [.ref (cy 11)] D cy [] sz (fun r u => r = 1 ∧ True) (fun u => []) 0 0 := sorry
set_option maxHeartbeats 4000000 in
set_option maxRecDepth 100000 in
theorem gJ0_coder_7d493_dd71dbc (l : Launch) (D : va_G) (cy : Nat → ClassId) (sz : Nat) : MI l yJ0_coder_7d493 cJ0_coder_7d493 1 .byte { frames := 0, cells := 0, slots := 0, locals := 0 } [.ref (cy 11)] D cy [] sz (fun r u => r = 0 ∧ True) (fun u => []) 0 0 := sorry
set_option maxHeartbeats 4000000 in
set_option maxRecDepth 100000 in
theorem gJ0_length_8abf5_5da51b3 (l : Launch) (D : va_G) (cy : Nat → ClassId) (sz : Nat) : MI l yJ0_length_8abf5 cJ0_length_8abf5 1 .int { frames := 1, cells := 0, slots := 0, locals := 20 } [.ref (cy 11)] D cy [] sz (fun r u => r = 12 ∧ True) (fun u => []) 0 0 := sorry
set_option maxHeartbeats 4000000 in
set_option maxRecDepth 100000 in
theorem gJ0_coder_7d493_9242e02 (l : Launch) (D : va_G) (cy : Nat → ClassId) (sz : Nat) : MI l yJ0_coder_7d493 cJ0_coder_7d493 1 .byte { frames := 0, cells := 0, slots := 0, locals := 0 } [.ref (cy 10)] D cy [] sz (fun r u => r = 0 ∧ True) (fun u => []) 0 0 := sorry
set_option maxHeartbeats 4000000 in
set_option maxRecDepth 100000 in
theorem gJ0_length_8abf5_b47a5de (l : Launch) (D : va_G) (cy : Nat → ClassId) (sz : Nat) : MI l yJ0_length_8abf5 cJ0_length_8abf5 1 .int { frames := 1, cells := 0, slots := 0, locals := 20 } [.ref (cy 10)] D cy [] sz (fun r u => r = 128 ∧ True) (fun u => []) 0 0 := sorry
set_option maxHeartbeats 4000000 in
set_option maxRecDepth 100000 in
theorem gJ0_isLatin1_aae02_141d41a (l : Launch) (D : va_G) (cy : Nat → ClassId) (sz : Nat) : MI l yJ0_isLatin1_aae02 cJ0_isLatin1_aae02 1 .boolean { frames := 0, cells := 0, slots := 0, locals := 0 } [.ref (cy 10)] D cy [] sz (fun r u => r = 1 ∧ True) (fun u => []) 0 0 := sorry
set_option maxHeartbeats 4000000 in
set_option maxRecDepth 100000 in
theorem gJ3_checkIndex_8e157_c1e45df (l : Launch) (D : va_G) (cy : Nat → ClassId) (p0 : Int32) (p1 : Int32) (hp0 : 0 ≤ (p0).toInt ∧ (p0).toInt ≤ 127) (hp1 : 128 ≤ (p1).toInt ∧ (p1).toInt ≤ 128) (hpre0 : 0 ≤ (p0 : Int32).toInt ∧ (p0 : Int32).toInt < (p1 : Int32).toInt) (sz : Nat) : MI l yJ3_checkIndex_8e157 cJ3_checkIndex_8e157 3 .int { frames := 0, cells := 0, slots := 0, locals := 0 } [.int p0, .int p1, .null] D cy [] sz (fun r u => (0 ≤ r.toInt ∧ r.toInt ≤ 127) ∧ True) (fun u => []) 0 0 := sorry
set_option maxHeartbeats 4000000 in
set_option maxRecDepth 100000 in
theorem gJ3_checkIndex_8e157_1e643c6 (l : Launch) (D : va_G) (cy : Nat → ClassId) (p0 : Int32) (p1 : Int32) (h0 : Nat) (hp0 : 0 ≤ (p0).toInt ∧ (p0).toInt ≤ 127) (hp1 : 128 ≤ (p1).toInt ∧ (p1).toInt ≤ 128) (hpre0 : 0 ≤ (p0 : Int32).toInt ∧ (p0 : Int32).toInt < (p1 : Int32).toInt) (sz : Nat) : MI l yJ3_checkIndex_8e157 cJ3_checkIndex_8e157 3 .int { frames := 0, cells := 0, slots := 0, locals := 0 } [.int p0, .int p1, .ref h0] D cy [] sz (fun r u => (0 ≤ r.toInt ∧ r.toInt ≤ 127) ∧ True) (fun u => []) 0 0 := sorry
set_option maxHeartbeats 4000000 in
set_option maxRecDepth 100000 in
theorem gJ0_checkIndex_df160_1103648 (l : Launch) (D : va_G) (cy : Nat → ClassId) (p0 : Int32) (p1 : Int32) (hp0 : 0 ≤ (p0).toInt ∧ (p0).toInt ≤ 127) (hp1 : 128 ≤ (p1).toInt ∧ (p1).toInt ≤ 128) (hpre0 : 0 ≤ (p0 : Int32).toInt ∧ (p0 : Int32).toInt < (p1 : Int32).toInt) (sz : Nat) : MV l yJ0_checkIndex_df160 cJ0_checkIndex_df160 2 { frames := 1, cells := 0, slots := 0, locals := 22 } [.int p0, .int p1] D cy [] sz (fun u => True) (fun u => []) 0 0 := sorry
set_option maxHeartbeats 4000000 in
set_option maxRecDepth 100000 in
theorem gJ1_charAt_3b067_6800e1c (l : Launch) (D : va_G) (cy : Nat → ClassId) (p0 : Int32) (hp0 : 0 ≤ (p0).toInt ∧ (p0).toInt ≤ 127) (sz : Nat) : MI l yJ1_charAt_3b067 cJ1_charAt_3b067 2 .char { frames := 2, cells := 0, slots := 0, locals := 43 } [.ref (cy 14), .int p0] D cy [] sz (fun r u => (0 ≤ r.toInt ∧ r.toInt ≤ 65535) ∧ ((r : Int32).toInt = sW 0 (p0 : Int32).toNatClampNeg) ∧ True) (fun u => []) 0 0 := sorry
set_option maxHeartbeats 4000000 in
set_option maxRecDepth 100000 in
theorem gJ0_charAt_5068e_84d2329 (l : Launch) (D : va_G) (cy : Nat → ClassId) (p0 : Int32) (hp0 : 0 ≤ (p0).toInt ∧ (p0).toInt ≤ 127) (sz : Nat) : MI l yJ0_charAt_5068e cJ0_charAt_5068e 2 .char { frames := 3, cells := 0, slots := 0, locals := 64 } [.ref (cy 10), .int p0] D cy [] sz (fun r u => (0 ≤ r.toInt ∧ r.toInt ≤ 65535) ∧ ((r : Int32).toInt = sW 0 (p0 : Int32).toNatClampNeg) ∧ True) (fun u => []) 0 0 := sorry
set_option maxHeartbeats 4000000 in
set_option maxRecDepth 100000 in
theorem gJ0_coder_7d493_16686df (l : Launch) (D : va_G) (cy : Nat → ClassId) (sz : Nat) : MI l yJ0_coder_7d493 cJ0_coder_7d493 1 .byte { frames := 0, cells := 0, slots := 0, locals := 0 } [.ref (cy 13)] D cy [] sz (fun r u => r = 0 ∧ True) (fun u => []) 0 0 := sorry
set_option maxHeartbeats 4000000 in
set_option maxRecDepth 100000 in
theorem gJ0_length_8abf5_3e0234a (l : Launch) (D : va_G) (cy : Nat → ClassId) (sz : Nat) : MI l yJ0_length_8abf5 cJ0_length_8abf5 1 .int { frames := 1, cells := 0, slots := 0, locals := 20 } [.ref (cy 13)] D cy [] sz (fun r u => r = 12 ∧ True) (fun u => []) 0 0 := sorry
set_option maxHeartbeats 4000000 in
set_option maxRecDepth 100000 in
theorem gJ0_isLatin1_aae02_0a74a4d (l : Launch) (D : va_G) (cy : Nat → ClassId) (sz : Nat) : MI l yJ0_isLatin1_aae02 cJ0_isLatin1_aae02 1 .boolean { frames := 0, cells := 0, slots := 0, locals := 0 } [.ref (cy 13)] D cy [] sz (fun r u => r = 1 ∧ True) (fun u => []) 0 0 := sorry
set_option maxHeartbeats 4000000 in
set_option maxRecDepth 100000 in
theorem gJ3_checkIndex_8e157_28479a9 (l : Launch) (D : va_G) (cy : Nat → ClassId) (p0 : Int32) (p1 : Int32) (hp0 : 0 ≤ (p0).toInt ∧ (p0).toInt ≤ 127) (hp1 : 11 ≤ (p1).toInt ∧ (p1).toInt ≤ 128) (hpre0 : 0 ≤ (p0 : Int32).toInt ∧ (p0 : Int32).toInt < (p1 : Int32).toInt) (sz : Nat) : MI l yJ3_checkIndex_8e157 cJ3_checkIndex_8e157 3 .int { frames := 0, cells := 0, slots := 0, locals := 0 } [.int p0, .int p1, .null] D cy [] sz (fun r u => (0 ≤ r.toInt ∧ r.toInt ≤ 127) ∧ True) (fun u => []) 0 0 := sorry
set_option maxHeartbeats 4000000 in
set_option maxRecDepth 100000 in
theorem gJ3_checkIndex_8e157_1577a27 (l : Launch) (D : va_G) (cy : Nat → ClassId) (p0 : Int32) (p1 : Int32) (h0 : Nat) (hp0 : 0 ≤ (p0).toInt ∧ (p0).toInt ≤ 127) (hp1 : 11 ≤ (p1).toInt ∧ (p1).toInt ≤ 128) (hpre0 : 0 ≤ (p0 : Int32).toInt ∧ (p0 : Int32).toInt < (p1 : Int32).toInt) (sz : Nat) : MI l yJ3_checkIndex_8e157 cJ3_checkIndex_8e157 3 .int { frames := 0, cells := 0, slots := 0, locals := 0 } [.int p0, .int p1, .ref h0] D cy [] sz (fun r u => (0 ≤ r.toInt ∧ r.toInt ≤ 127) ∧ True) (fun u => []) 0 0 := sorry
set_option maxHeartbeats 4000000 in
set_option maxRecDepth 100000 in
theorem gJ0_checkIndex_df160_93539af (l : Launch) (D : va_G) (cy : Nat → ClassId) (p0 : Int32) (p1 : Int32) (hp0 : 0 ≤ (p0).toInt ∧ (p0).toInt ≤ 127) (hp1 : 11 ≤ (p1).toInt ∧ (p1).toInt ≤ 128) (hpre0 : 0 ≤ (p0 : Int32).toInt ∧ (p0 : Int32).toInt < (p1 : Int32).toInt) (sz : Nat) : MV l yJ0_checkIndex_df160 cJ0_checkIndex_df160 2 { frames := 1, cells := 0, slots := 0, locals := 22 } [.int p0, .int p1] D cy [] sz (fun u => True) (fun u => []) 0 0 := sorry
set_option maxHeartbeats 4000000 in
set_option maxRecDepth 100000 in
theorem gJ1_charAt_3b067_fd9b7b7 (l : Launch) (D : va_G) (cy : Nat → ClassId) (p0 : Int32) (hp0 : 0 ≤ (p0).toInt ∧ (p0).toInt ≤ 11) (sz : Nat) : MI l yJ1_charAt_3b067 cJ1_charAt_3b067 2 .char { frames := 2, cells := 0, slots := 0, locals := 43 } [.ref (cy 17), .int p0] D cy [] sz (fun r u => (0 ≤ r.toInt ∧ r.toInt ≤ 65535) ∧ ((r : Int32).toInt = sW 3 (p0 : Int32).toNatClampNeg) ∧ True) (fun u => []) 0 0 := sorry
set_option maxHeartbeats 4000000 in
set_option maxRecDepth 100000 in
theorem gJ0_charAt_5068e_e322d56 (l : Launch) (D : va_G) (cy : Nat → ClassId) (p0 : Int32) (hp0 : 0 ≤ (p0).toInt ∧ (p0).toInt ≤ 11) (sz : Nat) : MI l yJ0_charAt_5068e cJ0_charAt_5068e 2 .char { frames := 3, cells := 0, slots := 0, locals := 64 } [.ref (cy 13), .int p0] D cy [] sz (fun r u => (0 ≤ r.toInt ∧ r.toInt ≤ 65535) ∧ ((r : Int32).toInt = sW 3 (p0 : Int32).toNatClampNeg) ∧ True) (fun u => []) 0 0 := sorry
set_option maxHeartbeats 4000000 in
set_option maxRecDepth 100000 in
theorem gJ0_coder_7d493_a60b70f (l : Launch) (D : va_G) (cy : Nat → ClassId) (sz : Nat) : MI l yJ0_coder_7d493 cJ0_coder_7d493 1 .byte { frames := 0, cells := 0, slots := 0, locals := 0 } [.ref (cy 12)] D cy [] sz (fun r u => r = 0 ∧ True) (fun u => []) 0 0 := sorry
set_option maxHeartbeats 4000000 in
set_option maxRecDepth 100000 in
theorem gJ0_length_8abf5_227ad04 (l : Launch) (D : va_G) (cy : Nat → ClassId) (sz : Nat) : MI l yJ0_length_8abf5 cJ0_length_8abf5 1 .int { frames := 1, cells := 0, slots := 0, locals := 20 } [.ref (cy 12)] D cy [] sz (fun r u => r = 130 ∧ True) (fun u => []) 0 0 := sorry
set_option maxHeartbeats 4000000 in
set_option maxRecDepth 100000 in
theorem gJ0_isLatin1_aae02_5602f73 (l : Launch) (D : va_G) (cy : Nat → ClassId) (sz : Nat) : MI l yJ0_isLatin1_aae02 cJ0_isLatin1_aae02 1 .boolean { frames := 0, cells := 0, slots := 0, locals := 0 } [.ref (cy 12)] D cy [] sz (fun r u => r = 1 ∧ True) (fun u => []) 0 0 := sorry
set_option maxHeartbeats 4000000 in
set_option maxRecDepth 100000 in
theorem gJ3_checkIndex_8e157_1956ee9 (l : Launch) (D : va_G) (cy : Nat → ClassId) (p0 : Int32) (p1 : Int32) (hp0 : 0 ≤ (p0).toInt ∧ (p0).toInt ≤ 129) (hp1 : 11 ≤ (p1).toInt ∧ (p1).toInt ≤ 255) (hpre0 : 0 ≤ (p0 : Int32).toInt ∧ (p0 : Int32).toInt < (p1 : Int32).toInt) (sz : Nat) : MI l yJ3_checkIndex_8e157 cJ3_checkIndex_8e157 3 .int { frames := 0, cells := 0, slots := 0, locals := 0 } [.int p0, .int p1, .null] D cy [] sz (fun r u => (0 ≤ r.toInt ∧ r.toInt ≤ 129) ∧ True) (fun u => []) 0 0 := sorry
set_option maxHeartbeats 4000000 in
set_option maxRecDepth 100000 in
theorem gJ3_checkIndex_8e157_5c1c6ab (l : Launch) (D : va_G) (cy : Nat → ClassId) (p0 : Int32) (p1 : Int32) (h0 : Nat) (hp0 : 0 ≤ (p0).toInt ∧ (p0).toInt ≤ 129) (hp1 : 11 ≤ (p1).toInt ∧ (p1).toInt ≤ 255) (hpre0 : 0 ≤ (p0 : Int32).toInt ∧ (p0 : Int32).toInt < (p1 : Int32).toInt) (sz : Nat) : MI l yJ3_checkIndex_8e157 cJ3_checkIndex_8e157 3 .int { frames := 0, cells := 0, slots := 0, locals := 0 } [.int p0, .int p1, .ref h0] D cy [] sz (fun r u => (0 ≤ r.toInt ∧ r.toInt ≤ 129) ∧ True) (fun u => []) 0 0 := sorry
set_option maxHeartbeats 4000000 in
set_option maxRecDepth 100000 in
theorem gJ0_checkIndex_df160_e8cd482 (l : Launch) (D : va_G) (cy : Nat → ClassId) (p0 : Int32) (p1 : Int32) (hp0 : 0 ≤ (p0).toInt ∧ (p0).toInt ≤ 129) (hp1 : 11 ≤ (p1).toInt ∧ (p1).toInt ≤ 255) (hpre0 : 0 ≤ (p0 : Int32).toInt ∧ (p0 : Int32).toInt < (p1 : Int32).toInt) (sz : Nat) : MV l yJ0_checkIndex_df160 cJ0_checkIndex_df160 2 { frames := 1, cells := 0, slots := 0, locals := 22 } [.int p0, .int p1] D cy [] sz (fun u => True) (fun u => []) 0 0 := sorry
set_option maxHeartbeats 4000000 in
set_option maxRecDepth 100000 in
theorem gJ1_charAt_3b067_cbd4617 (l : Launch) (D : va_G) (cy : Nat → ClassId) (p0 : Int32) (hp0 : 0 ≤ (p0).toInt ∧ (p0).toInt ≤ 129) (sz : Nat) : MI l yJ1_charAt_3b067 cJ1_charAt_3b067 2 .char { frames := 2, cells := 0, slots := 0, locals := 43 } [.ref (cy 16), .int p0] D cy [] sz (fun r u => (0 ≤ r.toInt ∧ r.toInt ≤ 65535) ∧ ((p0 : Int32).toInt ≠ 129 ∨ (r : Int32).toInt = 32) ∧ ((r : Int32).toInt = sW 2 (p0 : Int32).toNatClampNeg) ∧ True) (fun u => []) 0 0 := sorry
set_option maxHeartbeats 4000000 in
set_option maxRecDepth 100000 in
theorem gJ0_charAt_5068e_7fea22b (l : Launch) (D : va_G) (cy : Nat → ClassId) (p0 : Int32) (hp0 : 0 ≤ (p0).toInt ∧ (p0).toInt ≤ 129) (sz : Nat) : MI l yJ0_charAt_5068e cJ0_charAt_5068e 2 .char { frames := 3, cells := 0, slots := 0, locals := 64 } [.ref (cy 12), .int p0] D cy [] sz (fun r u => (0 ≤ r.toInt ∧ r.toInt ≤ 65535) ∧ ((p0 : Int32).toInt ≠ 129 ∨ (r : Int32).toInt = 32) ∧ ((r : Int32).toInt = sW 2 (p0 : Int32).toNatClampNeg) ∧ True) (fun u => []) 0 0 := sorry