theorem wm_2_150 : Cond.methodLink RL 13 yX11_feed ∈ WG := wg_t2 (List.mem_of_getElem? (i := 150) rfl) rfl
theorem wm_2_153 : Cond.code yX11_feed cX11_feed 6 (some .int) ∈ WG := wg_t2 (List.mem_of_getElem? (i := 153) rfl) rfl
theorem wm_2_151 : Cond.instanceMethod yX11_feed ∈ WG := wg_t2 (List.mem_of_getElem? (i := 151) rfl) rfl
theorem wm_2_152 : Cond.selects RX11 yX11_feed yX11_feed ∈ WG := wg_t2 (List.mem_of_getElem? (i := 152) rfl) rfl
theorem wm_6_42 : Cond.methodLink RL 17 yX12_feed ∈ WG := wg_t6 (List.mem_of_getElem? (i := 42) rfl) rfl
theorem wm_6_45 : Cond.code yX12_feed cX12_feed 8 (some .int) ∈ WG := wg_t6 (List.mem_of_getElem? (i := 45) rfl) rfl
theorem wm_6_43 : Cond.instanceMethod yX12_feed ∈ WG := wg_t6 (List.mem_of_getElem? (i := 43) rfl) rfl
theorem wm_6_44 : Cond.selects RX12 yX12_feed yX12_feed ∈ WG := wg_t6 (List.mem_of_getElem? (i := 44) rfl) rfl
theorem wm_2_158 : Cond.methodLink RL 18 yX11_house ∈ WG := wg_t2 (List.mem_of_getElem? (i := 158) rfl) rfl
theorem wm_2_161 : Cond.code yX11_house cX11_house 3 (some .int) ∈ WG := wg_t2 (List.mem_of_getElem? (i := 161) rfl) rfl
theorem wm_2_159 : Cond.instanceMethod yX11_house ∈ WG := wg_t2 (List.mem_of_getElem? (i := 159) rfl) rfl
theorem wm_2_160 : Cond.selects RX11 yX11_house yX11_house ∈ WG := wg_t2 (List.mem_of_getElem? (i := 160) rfl) rfl
theorem wm_6_46 : Cond.methodLink RL 22 yX12_house ∈ WG := wg_t6 (List.mem_of_getElem? (i := 46) rfl) rfl
theorem wm_6_49 : Cond.code yX12_house cX12_house 3 (some .int) ∈ WG := wg_t6 (List.mem_of_getElem? (i := 49) rfl) rfl
theorem wm_6_47 : Cond.instanceMethod yX12_house ∈ WG := wg_t6 (List.mem_of_getElem? (i := 47) rfl) rfl
theorem wm_6_48 : Cond.selects RX12 yX12_house yX12_house ∈ WG := wg_t6 (List.mem_of_getElem? (i := 48) rfl) rfl
theorem wm_3_166 : Cond.methodLink RL 23 yX11_fault ∈ WG := wg_t3 (List.mem_of_getElem? (i := 166) rfl) rfl
theorem wm_3_169 : Cond.code yX11_fault cX11_fault 2 (some .int) ∈ WG := wg_t3 (List.mem_of_getElem? (i := 169) rfl) rfl
theorem wm_3_167 : Cond.instanceMethod yX11_fault ∈ WG := wg_t3 (List.mem_of_getElem? (i := 167) rfl) rfl
theorem wm_3_168 : Cond.selects RX11 yX11_fault yX11_fault ∈ WG := wg_t3 (List.mem_of_getElem? (i := 168) rfl) rfl
theorem wm_6_154 : Cond.methodLink RL 26 yX12_fault ∈ WG := wg_t6 (List.mem_of_getElem? (i := 154) rfl) rfl
theorem wm_6_157 : Cond.code yX12_fault cX12_fault 2 (some .int) ∈ WG := wg_t6 (List.mem_of_getElem? (i := 157) rfl) rfl
theorem wm_6_155 : Cond.instanceMethod yX12_fault ∈ WG := wg_t6 (List.mem_of_getElem? (i := 155) rfl) rfl
theorem wm_6_156 : Cond.selects RX12 yX12_fault yX12_fault ∈ WG := wg_t6 (List.mem_of_getElem? (i := 156) rfl) rfl
theorem wm_3_170 : Cond.methodLink RL 27 yX11_person ∈ WG := wg_t3 (List.mem_of_getElem? (i := 170) rfl) rfl
theorem wm_3_173 : Cond.code yX11_person cX11_person 4 (some .int) ∈ WG := wg_t3 (List.mem_of_getElem? (i := 173) rfl) rfl
theorem wm_3_171 : Cond.instanceMethod yX11_person ∈ WG := wg_t3 (List.mem_of_getElem? (i := 171) rfl) rfl
theorem wm_3_172 : Cond.selects RX11 yX11_person yX11_person ∈ WG := wg_t3 (List.mem_of_getElem? (i := 172) rfl) rfl
theorem wm_6_158 : Cond.methodLink RL 31 yX12_person ∈ WG := wg_t6 (List.mem_of_getElem? (i := 158) rfl) rfl
theorem wm_6_161 : Cond.code yX12_person cX12_person 3 (some .int) ∈ WG := wg_t6 (List.mem_of_getElem? (i := 161) rfl) rfl
theorem wm_6_159 : Cond.instanceMethod yX12_person ∈ WG := wg_t6 (List.mem_of_getElem? (i := 159) rfl) rfl
theorem wm_6_160 : Cond.selects RX12 yX12_person yX12_person ∈ WG := wg_t6 (List.mem_of_getElem? (i := 160) rfl) rfl
theorem wm_3_187 : Cond.methodLink RL 32 yX11_town ∈ WG := wg_t3 (List.mem_of_getElem? (i := 187) rfl) rfl
theorem wm_3_190 : Cond.code yX11_town cX11_town 2 (some .int) ∈ WG := wg_t3 (List.mem_of_getElem? (i := 190) rfl) rfl
theorem wm_3_188 : Cond.instanceMethod yX11_town ∈ WG := wg_t3 (List.mem_of_getElem? (i := 188) rfl) rfl
theorem wm_3_189 : Cond.selects RX11 yX11_town yX11_town ∈ WG := wg_t3 (List.mem_of_getElem? (i := 189) rfl) rfl
theorem wm_6_178 : Cond.methodLink RL 35 yX12_town ∈ WG := wg_t6 (List.mem_of_getElem? (i := 178) rfl) rfl
theorem wm_6_181 : Cond.code yX12_town cX12_town 2 (some .int) ∈ WG := wg_t6 (List.mem_of_getElem? (i := 181) rfl) rfl
theorem wm_6_179 : Cond.instanceMethod yX12_town ∈ WG := wg_t6 (List.mem_of_getElem? (i := 179) rfl) rfl
theorem wm_6_180 : Cond.selects RX12 yX12_town yX12_town ∈ WG := wg_t6 (List.mem_of_getElem? (i := 180) rfl) rfl
theorem wm_3_192 : Cond.methodLink RL 36 yX11_opposed ∈ WG := wg_t3 (List.mem_of_getElem? (i := 192) rfl) rfl
theorem wm_3_195 : Cond.code yX11_opposed cX11_opposed 3 (some .int) ∈ WG := wg_t3 (List.mem_of_getElem? (i := 195) rfl) rfl
theorem wm_3_193 : Cond.instanceMethod yX11_opposed ∈ WG := wg_t3 (List.mem_of_getElem? (i := 193) rfl) rfl
theorem wm_3_194 : Cond.selects RX11 yX11_opposed yX11_opposed ∈ WG := wg_t3 (List.mem_of_getElem? (i := 194) rfl) rfl
theorem wm_6_183 : Cond.methodLink RL 39 yX12_opposed ∈ WG := wg_t6 (List.mem_of_getElem? (i := 183) rfl) rfl
theorem wm_6_186 : Cond.code yX12_opposed cX12_opposed 3 (some .int) ∈ WG := wg_t6 (List.mem_of_getElem? (i := 186) rfl) rfl
theorem wm_6_184 : Cond.instanceMethod yX12_opposed ∈ WG := wg_t6 (List.mem_of_getElem? (i := 184) rfl) rfl
theorem wm_6_185 : Cond.selects RX12 yX12_opposed yX12_opposed ∈ WG := wg_t6 (List.mem_of_getElem? (i := 185) rfl) rfl
theorem hd_X11_feed : yX11_feed.cls ≠ "java/lang/invoke/MethodHandle" ∧ yX11_feed.cls ≠ "java/lang/invoke/VarHandle" ∧ (parseMethodDescriptor yX11_feed.desc).map (fun d => d.parameters.length) = some 5 := by decide +kernel
theorem hd_X12_feed : yX12_feed.cls ≠ "java/lang/invoke/MethodHandle" ∧ yX12_feed.cls ≠ "java/lang/invoke/VarHandle" ∧ (parseMethodDescriptor yX12_feed.desc).map (fun d => d.parameters.length) = some 5 := by decide +kernel
theorem hd_X11_house : yX11_house.cls ≠ "java/lang/invoke/MethodHandle" ∧ yX11_house.cls ≠ "java/lang/invoke/VarHandle" ∧ (parseMethodDescriptor yX11_house.desc).map (fun d => d.parameters.length) = some 1 := by decide +kernel
theorem hd_X12_house : yX12_house.cls ≠ "java/lang/invoke/MethodHandle" ∧ yX12_house.cls ≠ "java/lang/invoke/VarHandle" ∧ (parseMethodDescriptor yX12_house.desc).map (fun d => d.parameters.length) = some 1 := by decide +kernel
theorem hd_X11_fault : yX11_fault.cls ≠ "java/lang/invoke/MethodHandle" ∧ yX11_fault.cls ≠ "java/lang/invoke/VarHandle" ∧ (parseMethodDescriptor yX11_fault.desc).map (fun d => d.parameters.length) = some 1 := by decide +kernel
theorem hd_X12_fault : yX12_fault.cls ≠ "java/lang/invoke/MethodHandle" ∧ yX12_fault.cls ≠ "java/lang/invoke/VarHandle" ∧ (parseMethodDescriptor yX12_fault.desc).map (fun d => d.parameters.length) = some 1 := by decide +kernel
theorem hd_X11_person : yX11_person.cls ≠ "java/lang/invoke/MethodHandle" ∧ yX11_person.cls ≠ "java/lang/invoke/VarHandle" ∧ (parseMethodDescriptor yX11_person.desc).map (fun d => d.parameters.length) = some 2 := by decide +kernel
theorem hd_X12_person : yX12_person.cls ≠ "java/lang/invoke/MethodHandle" ∧ yX12_person.cls ≠ "java/lang/invoke/VarHandle" ∧ (parseMethodDescriptor yX12_person.desc).map (fun d => d.parameters.length) = some 2 := by decide +kernel
theorem hd_X11_town : yX11_town.cls ≠ "java/lang/invoke/MethodHandle" ∧ yX11_town.cls ≠ "java/lang/invoke/VarHandle" ∧ (parseMethodDescriptor yX11_town.desc).map (fun d => d.parameters.length) = some 1 := by decide +kernel
theorem hd_X12_town : yX12_town.cls ≠ "java/lang/invoke/MethodHandle" ∧ yX12_town.cls ≠ "java/lang/invoke/VarHandle" ∧ (parseMethodDescriptor yX12_town.desc).map (fun d => d.parameters.length) = some 1 := by decide +kernel
theorem hd_X11_opposed : yX11_opposed.cls ≠ "java/lang/invoke/MethodHandle" ∧ yX11_opposed.cls ≠ "java/lang/invoke/VarHandle" ∧ (parseMethodDescriptor yX11_opposed.desc).map (fun d => d.parameters.length) = some 2 := by decide +kernel
theorem hd_X12_opposed : yX12_opposed.cls ≠ "java/lang/invoke/MethodHandle" ∧ yX12_opposed.cls ≠ "java/lang/invoke/VarHandle" ∧ (parseMethodDescriptor yX12_opposed.desc).map (fun d => d.parameters.length) = some 2 := by decide +kernel
theorem dL_law_0 : decode cL_law 0 = .ok (.new 7, 3) := by decide +kernel
theorem dL_law_3 : decode cL_law 3 = .ok (.dup, 1) := by decide +kernel
theorem dL_law_4 : decode cL_law 4 = .ok (.invokespecial 9, 3) := by decide +kernel
theorem dL_law_7 : decode cL_law 7 = .ok (.astore_n 1, 1) := by decide +kernel
theorem dL_law_8 : decode cL_law 8 = .ok (.new 10, 3) := by decide +kernel
theorem dL_law_11 : decode cL_law 11 = .ok (.dup, 1) := by decide +kernel
theorem dL_law_12 : decode cL_law 12 = .ok (.invokespecial 12, 3) := by decide +kernel
theorem dL_law_15 : decode cL_law 15 = .ok (.astore_n 2, 1) := by decide +kernel
theorem dL_law_16 : decode cL_law 16 = .ok (.iconst 0, 1) := by decide +kernel
theorem dL_law_17 : decode cL_law 17 = .ok (.istore_n 3, 1) := by decide +kernel
theorem dL_law_18 : decode cL_law 18 = .ok (.iload_n 3, 1) := by decide +kernel
theorem dL_law_19 : decode cL_law 19 = .ok (.aload_n 0, 1) := by decide +kernel
theorem dL_law_20 : decode cL_law 20 = .ok (.arraylength, 1) := by decide +kernel
theorem dL_law_21 : decode cL_law 21 = .ok (.bipush 6, 2) := by decide +kernel
theorem dL_law_23 : decode cL_law 23 = .ok (.isub, 1) := by decide +kernel
theorem dL_law_24 : decode cL_law 24 = .ok (.if_icmp .gt 1441, 3) := by decide +kernel
theorem dL_law_27 : decode cL_law 27 = .ok (.aload_n 0, 1) := by decide +kernel
theorem dL_law_28 : decode cL_law 28 = .ok (.iload_n 3, 1) := by decide +kernel
theorem dL_law_29 : decode cL_law 29 = .ok (.iaload, 1) := by decide +kernel
theorem dL_law_30 : decode cL_law 30 = .ok (.bipush 63, 2) := by decide +kernel
theorem dL_law_32 : decode cL_law 32 = .ok (.iand, 1) := by decide +kernel
theorem dL_law_33 : decode cL_law 33 = .ok (.tableswitch 1426 0 42 #[187, 250, 273, 296, 329, 352, 385, 408, 441, 464, 487, 510, 533, 566, 589, 622, 645, 678, 701, 734, 757, 770, 783, 796, 829, 852, 885, 928, 941, 964, 987, 1020, 1033, 1066, 1109, 1142, 1175, 1198, 1241, 1314, 1357, 1380, 1403], 187) := by decide +kernel
theorem dL_law_220 : decode cL_law 220 = .ok (.aload_n 1, 1) := by decide +kernel
theorem dL_law_221 : decode cL_law 221 = .ok (.aload_n 0, 1) := by decide +kernel
theorem dL_law_222 : decode cL_law 222 = .ok (.iload_n 3, 1) := by decide +kernel
theorem dL_law_223 : decode cL_law 223 = .ok (.iconst 1, 1) := by decide +kernel
theorem dL_law_224 : decode cL_law 224 = .ok (.iadd, 1) := by decide +kernel
theorem dL_law_225 : decode cL_law 225 = .ok (.iaload, 1) := by decide +kernel
theorem dL_law_226 : decode cL_law 226 = .ok (.aload_n 0, 1) := by decide +kernel
theorem dL_law_227 : decode cL_law 227 = .ok (.iload_n 3, 1) := by decide +kernel
theorem dL_law_228 : decode cL_law 228 = .ok (.iconst 2, 1) := by decide +kernel
theorem dL_law_229 : decode cL_law 229 = .ok (.iadd, 1) := by decide +kernel
theorem dL_law_230 : decode cL_law 230 = .ok (.iaload, 1) := by decide +kernel
theorem dL_law_231 : decode cL_law 231 = .ok (.aload_n 0, 1) := by decide +kernel
theorem dL_law_232 : decode cL_law 232 = .ok (.iload_n 3, 1) := by decide +kernel
theorem dL_law_233 : decode cL_law 233 = .ok (.iconst 3, 1) := by decide +kernel
theorem dL_law_234 : decode cL_law 234 = .ok (.iadd, 1) := by decide +kernel
theorem dL_law_235 : decode cL_law 235 = .ok (.iaload, 1) := by decide +kernel
theorem dL_law_236 : decode cL_law 236 = .ok (.aload_n 0, 1) := by decide +kernel
theorem dL_law_237 : decode cL_law 237 = .ok (.iload_n 3, 1) := by decide +kernel
theorem dL_law_238 : decode cL_law 238 = .ok (.iconst 4, 1) := by decide +kernel
theorem dL_law_239 : decode cL_law 239 = .ok (.iadd, 1) := by decide +kernel
theorem dL_law_240 : decode cL_law 240 = .ok (.iaload, 1) := by decide +kernel
theorem dL_law_241 : decode cL_law 241 = .ok (.aload_n 0, 1) := by decide +kernel
theorem dL_law_242 : decode cL_law 242 = .ok (.iload_n 3, 1) := by decide +kernel
theorem dL_law_243 : decode cL_law 243 = .ok (.iconst 5, 1) := by decide +kernel
theorem dL_law_244 : decode cL_law 244 = .ok (.iadd, 1) := by decide +kernel
theorem dL_law_245 : decode cL_law 245 = .ok (.iaload, 1) := by decide +kernel
theorem dL_law_246 : decode cL_law 246 = .ok (.invokevirtual 13, 3) := by decide +kernel
theorem dL_law_249 : decode cL_law 249 = .ok (.pop, 1) := by decide +kernel
theorem dL_law_250 : decode cL_law 250 = .ok (.aload_n 2, 1) := by decide +kernel
theorem dL_law_251 : decode cL_law 251 = .ok (.aload_n 0, 1) := by decide +kernel
theorem dL_law_252 : decode cL_law 252 = .ok (.iload_n 3, 1) := by decide +kernel
theorem dL_law_253 : decode cL_law 253 = .ok (.iconst 1, 1) := by decide +kernel
theorem dL_law_254 : decode cL_law 254 = .ok (.iadd, 1) := by decide +kernel
theorem dL_law_255 : decode cL_law 255 = .ok (.iaload, 1) := by decide +kernel
theorem dL_law_256 : decode cL_law 256 = .ok (.aload_n 0, 1) := by decide +kernel
theorem dL_law_257 : decode cL_law 257 = .ok (.iload_n 3, 1) := by decide +kernel
theorem dL_law_258 : decode cL_law 258 = .ok (.iconst 2, 1) := by decide +kernel
theorem dL_law_259 : decode cL_law 259 = .ok (.iadd, 1) := by decide +kernel
theorem dL_law_260 : decode cL_law 260 = .ok (.iaload, 1) := by decide +kernel
theorem dL_law_261 : decode cL_law 261 = .ok (.aload_n 0, 1) := by decide +kernel
theorem dL_law_262 : decode cL_law 262 = .ok (.iload_n 3, 1) := by decide +kernel
theorem dL_law_263 : decode cL_law 263 = .ok (.iconst 3, 1) := by decide +kernel
theorem dL_law_264 : decode cL_law 264 = .ok (.iadd, 1) := by decide +kernel
theorem dL_law_265 : decode cL_law 265 = .ok (.iaload, 1) := by decide +kernel
theorem dL_law_266 : decode cL_law 266 = .ok (.aload_n 0, 1) := by decide +kernel
theorem dL_law_267 : decode cL_law 267 = .ok (.iload_n 3, 1) := by decide +kernel
theorem dL_law_268 : decode cL_law 268 = .ok (.iconst 4, 1) := by decide +kernel
theorem dL_law_269 : decode cL_law 269 = .ok (.iadd, 1) := by decide +kernel
theorem dL_law_270 : decode cL_law 270 = .ok (.iaload, 1) := by decide +kernel
theorem dL_law_271 : decode cL_law 271 = .ok (.aload_n 0, 1) := by decide +kernel
theorem dL_law_272 : decode cL_law 272 = .ok (.iload_n 3, 1) := by decide +kernel
theorem dL_law_273 : decode cL_law 273 = .ok (.iconst 5, 1) := by decide +kernel
theorem dL_law_274 : decode cL_law 274 = .ok (.iadd, 1) := by decide +kernel
theorem dL_law_275 : decode cL_law 275 = .ok (.iaload, 1) := by decide +kernel
theorem dL_law_276 : decode cL_law 276 = .ok (.invokevirtual 17, 3) := by decide +kernel
theorem dL_law_279 : decode cL_law 279 = .ok (.pop, 1) := by decide +kernel
theorem dL_law_280 : decode cL_law 280 = .ok (.goto 1179, 3) := by decide +kernel
theorem dL_law_283 : decode cL_law 283 = .ok (.aload_n 1, 1) := by decide +kernel
theorem dL_law_284 : decode cL_law 284 = .ok (.aload_n 0, 1) := by decide +kernel
theorem dL_law_285 : decode cL_law 285 = .ok (.iload_n 3, 1) := by decide +kernel
theorem dL_law_286 : decode cL_law 286 = .ok (.iconst 1, 1) := by decide +kernel
theorem dL_law_287 : decode cL_law 287 = .ok (.iadd, 1) := by decide +kernel
theorem dL_law_288 : decode cL_law 288 = .ok (.iaload, 1) := by decide +kernel
theorem dL_law_289 : decode cL_law 289 = .ok (.invokevirtual 18, 3) := by decide +kernel
theorem dL_law_292 : decode cL_law 292 = .ok (.aload_n 2, 1) := by decide +kernel
theorem dL_law_293 : decode cL_law 293 = .ok (.aload_n 0, 1) := by decide +kernel
theorem dL_law_294 : decode cL_law 294 = .ok (.iload_n 3, 1) := by decide +kernel
theorem dL_law_295 : decode cL_law 295 = .ok (.iconst 1, 1) := by decide +kernel
theorem dL_law_296 : decode cL_law 296 = .ok (.iadd, 1) := by decide +kernel
theorem dL_law_297 : decode cL_law 297 = .ok (.iaload, 1) := by decide +kernel
theorem dL_law_298 : decode cL_law 298 = .ok (.invokevirtual 22, 3) := by decide +kernel
theorem dL_law_301 : decode cL_law 301 = .ok (.if_icmp .eq 1158, 3) := by decide +kernel
theorem dL_law_304 : decode cL_law 304 = .ok (.iconst 0, 1) := by decide +kernel
theorem dL_law_305 : decode cL_law 305 = .ok (.ireturn, 1) := by decide +kernel
theorem dL_law_306 : decode cL_law 306 = .ok (.aload_n 1, 1) := by decide +kernel
theorem dL_law_307 : decode cL_law 307 = .ok (.aload_n 0, 1) := by decide +kernel
theorem dL_law_308 : decode cL_law 308 = .ok (.iload_n 3, 1) := by decide +kernel
theorem dL_law_309 : decode cL_law 309 = .ok (.iconst 1, 1) := by decide +kernel
theorem dL_law_310 : decode cL_law 310 = .ok (.iadd, 1) := by decide +kernel
theorem dL_law_311 : decode cL_law 311 = .ok (.iaload, 1) := by decide +kernel
theorem dL_law_312 : decode cL_law 312 = .ok (.invokevirtual 23, 3) := by decide +kernel
theorem dL_law_315 : decode cL_law 315 = .ok (.pop, 1) := by decide +kernel
theorem dL_law_316 : decode cL_law 316 = .ok (.aload_n 2, 1) := by decide +kernel
theorem dL_law_317 : decode cL_law 317 = .ok (.aload_n 0, 1) := by decide +kernel
theorem dL_law_318 : decode cL_law 318 = .ok (.iload_n 3, 1) := by decide +kernel
theorem dL_law_319 : decode cL_law 319 = .ok (.iconst 1, 1) := by decide +kernel
theorem dL_law_320 : decode cL_law 320 = .ok (.iadd, 1) := by decide +kernel
theorem dL_law_321 : decode cL_law 321 = .ok (.iaload, 1) := by decide +kernel
theorem dL_law_322 : decode cL_law 322 = .ok (.invokevirtual 26, 3) := by decide +kernel
theorem dL_law_325 : decode cL_law 325 = .ok (.pop, 1) := by decide +kernel
theorem dL_law_326 : decode cL_law 326 = .ok (.goto 1133, 3) := by decide +kernel
theorem dL_law_329 : decode cL_law 329 = .ok (.aload_n 1, 1) := by decide +kernel
theorem dL_law_330 : decode cL_law 330 = .ok (.aload_n 0, 1) := by decide +kernel
theorem dL_law_331 : decode cL_law 331 = .ok (.iload_n 3, 1) := by decide +kernel
theorem dL_law_332 : decode cL_law 332 = .ok (.iconst 1, 1) := by decide +kernel
theorem dL_law_333 : decode cL_law 333 = .ok (.iadd, 1) := by decide +kernel
theorem dL_law_334 : decode cL_law 334 = .ok (.iaload, 1) := by decide +kernel
theorem dL_law_335 : decode cL_law 335 = .ok (.aload_n 0, 1) := by decide +kernel
theorem dL_law_336 : decode cL_law 336 = .ok (.iload_n 3, 1) := by decide +kernel
theorem dL_law_337 : decode cL_law 337 = .ok (.iconst 2, 1) := by decide +kernel
theorem dL_law_338 : decode cL_law 338 = .ok (.iadd, 1) := by decide +kernel
theorem dL_law_339 : decode cL_law 339 = .ok (.iaload, 1) := by decide +kernel
theorem dL_law_340 : decode cL_law 340 = .ok (.invokevirtual 27, 3) := by decide +kernel
theorem dL_law_343 : decode cL_law 343 = .ok (.pop, 1) := by decide +kernel
theorem dL_law_344 : decode cL_law 344 = .ok (.aload_n 2, 1) := by decide +kernel
theorem dL_law_345 : decode cL_law 345 = .ok (.aload_n 0, 1) := by decide +kernel
theorem dL_law_346 : decode cL_law 346 = .ok (.iload_n 3, 1) := by decide +kernel
theorem dL_law_347 : decode cL_law 347 = .ok (.iconst 1, 1) := by decide +kernel
theorem dL_law_348 : decode cL_law 348 = .ok (.iadd, 1) := by decide +kernel
theorem dL_law_349 : decode cL_law 349 = .ok (.iaload, 1) := by decide +kernel
theorem dL_law_350 : decode cL_law 350 = .ok (.aload_n 0, 1) := by decide +kernel
theorem dL_law_351 : decode cL_law 351 = .ok (.iload_n 3, 1) := by decide +kernel
theorem dL_law_352 : decode cL_law 352 = .ok (.iconst 2, 1) := by decide +kernel
theorem dL_law_353 : decode cL_law 353 = .ok (.iadd, 1) := by decide +kernel
theorem dL_law_354 : decode cL_law 354 = .ok (.iaload, 1) := by decide +kernel
theorem dL_law_355 : decode cL_law 355 = .ok (.invokevirtual 31, 3) := by decide +kernel
theorem dL_law_358 : decode cL_law 358 = .ok (.pop, 1) := by decide +kernel
theorem dL_law_359 : decode cL_law 359 = .ok (.goto 1100, 3) := by decide +kernel
theorem dL_law_362 : decode cL_law 362 = .ok (.aload_n 1, 1) := by decide +kernel
theorem dL_law_363 : decode cL_law 363 = .ok (.aload_n 0, 1) := by decide +kernel
theorem dL_law_364 : decode cL_law 364 = .ok (.iload_n 3, 1) := by decide +kernel
theorem dL_law_365 : decode cL_law 365 = .ok (.iconst 1, 1) := by decide +kernel
theorem dL_law_366 : decode cL_law 366 = .ok (.iadd, 1) := by decide +kernel
theorem dL_law_367 : decode cL_law 367 = .ok (.iaload, 1) := by decide +kernel
theorem dL_law_368 : decode cL_law 368 = .ok (.invokevirtual 32, 3) := by decide +kernel
theorem dL_law_371 : decode cL_law 371 = .ok (.pop, 1) := by decide +kernel
theorem dL_law_372 : decode cL_law 372 = .ok (.aload_n 2, 1) := by decide +kernel
theorem dL_law_373 : decode cL_law 373 = .ok (.aload_n 0, 1) := by decide +kernel
theorem dL_law_374 : decode cL_law 374 = .ok (.iload_n 3, 1) := by decide +kernel
theorem dL_law_375 : decode cL_law 375 = .ok (.iconst 1, 1) := by decide +kernel
theorem dL_law_376 : decode cL_law 376 = .ok (.iadd, 1) := by decide +kernel
theorem dL_law_377 : decode cL_law 377 = .ok (.iaload, 1) := by decide +kernel
theorem dL_law_378 : decode cL_law 378 = .ok (.invokevirtual 35, 3) := by decide +kernel
theorem dL_law_381 : decode cL_law 381 = .ok (.pop, 1) := by decide +kernel
theorem dL_law_382 : decode cL_law 382 = .ok (.goto 1077, 3) := by decide +kernel
theorem dL_law_385 : decode cL_law 385 = .ok (.aload_n 1, 1) := by decide +kernel
theorem dL_law_386 : decode cL_law 386 = .ok (.aload_n 0, 1) := by decide +kernel
theorem dL_law_387 : decode cL_law 387 = .ok (.iload_n 3, 1) := by decide +kernel
theorem dL_law_388 : decode cL_law 388 = .ok (.iconst 1, 1) := by decide +kernel
theorem dL_law_389 : decode cL_law 389 = .ok (.iadd, 1) := by decide +kernel
theorem dL_law_390 : decode cL_law 390 = .ok (.iaload, 1) := by decide +kernel
theorem dL_law_391 : decode cL_law 391 = .ok (.aload_n 0, 1) := by decide +kernel
theorem dL_law_392 : decode cL_law 392 = .ok (.iload_n 3, 1) := by decide +kernel
theorem dL_law_393 : decode cL_law 393 = .ok (.iconst 2, 1) := by decide +kernel
theorem dL_law_394 : decode cL_law 394 = .ok (.iadd, 1) := by decide +kernel
theorem dL_law_395 : decode cL_law 395 = .ok (.iaload, 1) := by decide +kernel
theorem dL_law_396 : decode cL_law 396 = .ok (.invokevirtual 36, 3) := by decide +kernel
theorem dL_law_399 : decode cL_law 399 = .ok (.pop, 1) := by decide +kernel
theorem dL_law_400 : decode cL_law 400 = .ok (.aload_n 2, 1) := by decide +kernel
theorem dL_law_401 : decode cL_law 401 = .ok (.aload_n 0, 1) := by decide +kernel
theorem dL_law_402 : decode cL_law 402 = .ok (.iload_n 3, 1) := by decide +kernel
theorem dL_law_403 : decode cL_law 403 = .ok (.iconst 1, 1) := by decide +kernel
theorem dL_law_404 : decode cL_law 404 = .ok (.iadd, 1) := by decide +kernel
theorem dL_law_405 : decode cL_law 405 = .ok (.iaload, 1) := by decide +kernel
theorem dL_law_406 : decode cL_law 406 = .ok (.aload_n 0, 1) := by decide +kernel
theorem dL_law_407 : decode cL_law 407 = .ok (.iload_n 3, 1) := by decide +kernel
theorem dL_law_408 : decode cL_law 408 = .ok (.iconst 2, 1) := by decide +kernel
theorem dL_law_409 : decode cL_law 409 = .ok (.iadd, 1) := by decide +kernel
theorem dL_law_410 : decode cL_law 410 = .ok (.iaload, 1) := by decide +kernel
theorem dL_law_411 : decode cL_law 411 = .ok (.invokevirtual 39, 3) := by decide +kernel
theorem dL_law_414 : decode cL_law 414 = .ok (.pop, 1) := by decide +kernel
theorem dL_law_415 : decode cL_law 415 = .ok (.goto 1044, 3) := by decide +kernel
theorem dL_law_418 : decode cL_law 418 = .ok (.aload_n 1, 1) := by decide +kernel
theorem dL_law_419 : decode cL_law 419 = .ok (.aload_n 0, 1) := by decide +kernel
theorem dL_law_420 : decode cL_law 420 = .ok (.iload_n 3, 1) := by decide +kernel
theorem dL_law_421 : decode cL_law 421 = .ok (.iconst 1, 1) := by decide +kernel
theorem dL_law_422 : decode cL_law 422 = .ok (.iadd, 1) := by decide +kernel
theorem dL_law_423 : decode cL_law 423 = .ok (.iaload, 1) := by decide +kernel
theorem dL_law_424 : decode cL_law 424 = .ok (.invokevirtual 40, 3) := by decide +kernel
theorem dL_law_427 : decode cL_law 427 = .ok (.pop, 1) := by decide +kernel
theorem dL_law_428 : decode cL_law 428 = .ok (.aload_n 2, 1) := by decide +kernel
theorem dL_law_429 : decode cL_law 429 = .ok (.aload_n 0, 1) := by decide +kernel
theorem dL_law_430 : decode cL_law 430 = .ok (.iload_n 3, 1) := by decide +kernel
theorem dL_law_431 : decode cL_law 431 = .ok (.iconst 1, 1) := by decide +kernel
theorem dL_law_432 : decode cL_law 432 = .ok (.iadd, 1) := by decide +kernel
theorem dL_law_433 : decode cL_law 433 = .ok (.iaload, 1) := by decide +kernel
theorem dL_law_434 : decode cL_law 434 = .ok (.invokevirtual 43, 3) := by decide +kernel
theorem dL_law_437 : decode cL_law 437 = .ok (.pop, 1) := by decide +kernel
theorem dL_law_438 : decode cL_law 438 = .ok (.goto 1021, 3) := by decide +kernel
theorem dL_law_441 : decode cL_law 441 = .ok (.aload_n 1, 1) := by decide +kernel
theorem dL_law_442 : decode cL_law 442 = .ok (.aload_n 0, 1) := by decide +kernel
theorem dL_law_443 : decode cL_law 443 = .ok (.iload_n 3, 1) := by decide +kernel
theorem dL_law_444 : decode cL_law 444 = .ok (.iconst 1, 1) := by decide +kernel
theorem dL_law_445 : decode cL_law 445 = .ok (.iadd, 1) := by decide +kernel
theorem dL_law_446 : decode cL_law 446 = .ok (.iaload, 1) := by decide +kernel
theorem dL_law_447 : decode cL_law 447 = .ok (.aload_n 0, 1) := by decide +kernel
theorem dL_law_448 : decode cL_law 448 = .ok (.iload_n 3, 1) := by decide +kernel
theorem dL_law_449 : decode cL_law 449 = .ok (.iconst 2, 1) := by decide +kernel
theorem dL_law_450 : decode cL_law 450 = .ok (.iadd, 1) := by decide +kernel
theorem dL_law_451 : decode cL_law 451 = .ok (.iaload, 1) := by decide +kernel
theorem dL_law_452 : decode cL_law 452 = .ok (.invokevirtual 44, 3) := by decide +kernel
theorem dL_law_455 : decode cL_law 455 = .ok (.pop, 1) := by decide +kernel
theorem dL_law_456 : decode cL_law 456 = .ok (.aload_n 2, 1) := by decide +kernel
theorem dL_law_457 : decode cL_law 457 = .ok (.aload_n 0, 1) := by decide +kernel
theorem dL_law_458 : decode cL_law 458 = .ok (.iload_n 3, 1) := by decide +kernel
theorem dL_law_459 : decode cL_law 459 = .ok (.iconst 1, 1) := by decide +kernel
theorem dL_law_460 : decode cL_law 460 = .ok (.iadd, 1) := by decide +kernel
theorem dL_law_461 : decode cL_law 461 = .ok (.iaload, 1) := by decide +kernel
theorem dL_law_462 : decode cL_law 462 = .ok (.aload_n 0, 1) := by decide +kernel
theorem dL_law_463 : decode cL_law 463 = .ok (.iload_n 3, 1) := by decide +kernel
theorem dL_law_464 : decode cL_law 464 = .ok (.iconst 2, 1) := by decide +kernel
theorem dL_law_465 : decode cL_law 465 = .ok (.iadd, 1) := by decide +kernel
theorem dL_law_466 : decode cL_law 466 = .ok (.iaload, 1) := by decide +kernel
theorem dL_law_467 : decode cL_law 467 = .ok (.invokevirtual 47, 3) := by decide +kernel
theorem dL_law_470 : decode cL_law 470 = .ok (.pop, 1) := by decide +kernel
theorem dL_law_471 : decode cL_law 471 = .ok (.goto 988, 3) := by decide +kernel
theorem dL_law_474 : decode cL_law 474 = .ok (.aload_n 1, 1) := by decide +kernel
theorem dL_law_475 : decode cL_law 475 = .ok (.aload_n 0, 1) := by decide +kernel
theorem dL_law_476 : decode cL_law 476 = .ok (.iload_n 3, 1) := by decide +kernel
theorem dL_law_477 : decode cL_law 477 = .ok (.iconst 1, 1) := by decide +kernel
theorem dL_law_478 : decode cL_law 478 = .ok (.iadd, 1) := by decide +kernel
theorem dL_law_479 : decode cL_law 479 = .ok (.iaload, 1) := by decide +kernel
theorem dL_law_480 : decode cL_law 480 = .ok (.invokevirtual 48, 3) := by decide +kernel
theorem dL_law_483 : decode cL_law 483 = .ok (.pop, 1) := by decide +kernel
theorem dL_law_484 : decode cL_law 484 = .ok (.aload_n 2, 1) := by decide +kernel
theorem dL_law_485 : decode cL_law 485 = .ok (.aload_n 0, 1) := by decide +kernel
theorem dL_law_486 : decode cL_law 486 = .ok (.iload_n 3, 1) := by decide +kernel
theorem dL_law_487 : decode cL_law 487 = .ok (.iconst 1, 1) := by decide +kernel
theorem dL_law_488 : decode cL_law 488 = .ok (.iadd, 1) := by decide +kernel
theorem dL_law_489 : decode cL_law 489 = .ok (.iaload, 1) := by decide +kernel
theorem dL_law_490 : decode cL_law 490 = .ok (.invokevirtual 51, 3) := by decide +kernel
theorem dL_law_493 : decode cL_law 493 = .ok (.pop, 1) := by decide +kernel
theorem dL_law_494 : decode cL_law 494 = .ok (.goto 965, 3) := by decide +kernel
theorem dL_law_497 : decode cL_law 497 = .ok (.aload_n 1, 1) := by decide +kernel
theorem dL_law_498 : decode cL_law 498 = .ok (.aload_n 0, 1) := by decide +kernel
theorem dL_law_499 : decode cL_law 499 = .ok (.iload_n 3, 1) := by decide +kernel
theorem dL_law_500 : decode cL_law 500 = .ok (.iconst 1, 1) := by decide +kernel
theorem dL_law_501 : decode cL_law 501 = .ok (.iadd, 1) := by decide +kernel
theorem dL_law_502 : decode cL_law 502 = .ok (.iaload, 1) := by decide +kernel
theorem dL_law_503 : decode cL_law 503 = .ok (.invokevirtual 52, 3) := by decide +kernel
theorem dL_law_506 : decode cL_law 506 = .ok (.pop, 1) := by decide +kernel
theorem dL_law_507 : decode cL_law 507 = .ok (.aload_n 2, 1) := by decide +kernel
theorem dL_law_508 : decode cL_law 508 = .ok (.aload_n 0, 1) := by decide +kernel
theorem dL_law_509 : decode cL_law 509 = .ok (.iload_n 3, 1) := by decide +kernel
theorem dL_law_510 : decode cL_law 510 = .ok (.iconst 1, 1) := by decide +kernel
theorem dL_law_511 : decode cL_law 511 = .ok (.iadd, 1) := by decide +kernel
theorem dL_law_512 : decode cL_law 512 = .ok (.iaload, 1) := by decide +kernel
theorem dL_law_513 : decode cL_law 513 = .ok (.invokevirtual 55, 3) := by decide +kernel
theorem dL_law_516 : decode cL_law 516 = .ok (.pop, 1) := by decide +kernel
theorem dL_law_517 : decode cL_law 517 = .ok (.goto 942, 3) := by decide +kernel
theorem dL_law_520 : decode cL_law 520 = .ok (.aload_n 1, 1) := by decide +kernel
theorem dL_law_521 : decode cL_law 521 = .ok (.aload_n 0, 1) := by decide +kernel
theorem dL_law_522 : decode cL_law 522 = .ok (.iload_n 3, 1) := by decide +kernel
theorem dL_law_523 : decode cL_law 523 = .ok (.iconst 1, 1) := by decide +kernel
theorem dL_law_524 : decode cL_law 524 = .ok (.iadd, 1) := by decide +kernel
theorem dL_law_525 : decode cL_law 525 = .ok (.iaload, 1) := by decide +kernel
theorem dL_law_526 : decode cL_law 526 = .ok (.invokevirtual 56, 3) := by decide +kernel
theorem dL_law_529 : decode cL_law 529 = .ok (.pop, 1) := by decide +kernel
theorem dL_law_530 : decode cL_law 530 = .ok (.aload_n 2, 1) := by decide +kernel
theorem dL_law_531 : decode cL_law 531 = .ok (.aload_n 0, 1) := by decide +kernel
theorem dL_law_532 : decode cL_law 532 = .ok (.iload_n 3, 1) := by decide +kernel
theorem dL_law_533 : decode cL_law 533 = .ok (.iconst 1, 1) := by decide +kernel
theorem dL_law_534 : decode cL_law 534 = .ok (.iadd, 1) := by decide +kernel
theorem dL_law_535 : decode cL_law 535 = .ok (.iaload, 1) := by decide +kernel
theorem dL_law_536 : decode cL_law 536 = .ok (.invokevirtual 59, 3) := by decide +kernel
theorem dL_law_539 : decode cL_law 539 = .ok (.pop, 1) := by decide +kernel
theorem dL_law_540 : decode cL_law 540 = .ok (.goto 919, 3) := by decide +kernel
theorem dL_law_543 : decode cL_law 543 = .ok (.aload_n 1, 1) := by decide +kernel
theorem dL_law_544 : decode cL_law 544 = .ok (.aload_n 0, 1) := by decide +kernel
theorem dL_law_545 : decode cL_law 545 = .ok (.iload_n 3, 1) := by decide +kernel
theorem dL_law_546 : decode cL_law 546 = .ok (.iconst 1, 1) := by decide +kernel
theorem dL_law_547 : decode cL_law 547 = .ok (.iadd, 1) := by decide +kernel
theorem dL_law_548 : decode cL_law 548 = .ok (.iaload, 1) := by decide +kernel
theorem dL_law_549 : decode cL_law 549 = .ok (.invokevirtual 60, 3) := by decide +kernel
theorem dL_law_552 : decode cL_law 552 = .ok (.pop, 1) := by decide +kernel
theorem dL_law_553 : decode cL_law 553 = .ok (.aload_n 2, 1) := by decide +kernel
theorem dL_law_554 : decode cL_law 554 = .ok (.aload_n 0, 1) := by decide +kernel
theorem dL_law_555 : decode cL_law 555 = .ok (.iload_n 3, 1) := by decide +kernel
theorem dL_law_556 : decode cL_law 556 = .ok (.iconst 1, 1) := by decide +kernel
theorem dL_law_557 : decode cL_law 557 = .ok (.iadd, 1) := by decide +kernel
theorem dL_law_558 : decode cL_law 558 = .ok (.iaload, 1) := by decide +kernel
theorem dL_law_559 : decode cL_law 559 = .ok (.invokevirtual 63, 3) := by decide +kernel
theorem dL_law_562 : decode cL_law 562 = .ok (.pop, 1) := by decide +kernel
theorem dL_law_563 : decode cL_law 563 = .ok (.goto 896, 3) := by decide +kernel
theorem dL_law_566 : decode cL_law 566 = .ok (.aload_n 1, 1) := by decide +kernel
theorem dL_law_567 : decode cL_law 567 = .ok (.aload_n 0, 1) := by decide +kernel
theorem dL_law_568 : decode cL_law 568 = .ok (.iload_n 3, 1) := by decide +kernel
theorem dL_law_569 : decode cL_law 569 = .ok (.iconst 1, 1) := by decide +kernel
theorem dL_law_570 : decode cL_law 570 = .ok (.iadd, 1) := by decide +kernel
theorem dL_law_571 : decode cL_law 571 = .ok (.iaload, 1) := by decide +kernel
theorem dL_law_572 : decode cL_law 572 = .ok (.aload_n 0, 1) := by decide +kernel
theorem dL_law_573 : decode cL_law 573 = .ok (.iload_n 3, 1) := by decide +kernel
theorem dL_law_574 : decode cL_law 574 = .ok (.iconst 2, 1) := by decide +kernel
theorem dL_law_575 : decode cL_law 575 = .ok (.iadd, 1) := by decide +kernel
theorem dL_law_576 : decode cL_law 576 = .ok (.iaload, 1) := by decide +kernel
theorem dL_law_577 : decode cL_law 577 = .ok (.invokevirtual 64, 3) := by decide +kernel
theorem dL_law_580 : decode cL_law 580 = .ok (.pop, 1) := by decide +kernel
theorem dL_law_581 : decode cL_law 581 = .ok (.aload_n 2, 1) := by decide +kernel
theorem dL_law_582 : decode cL_law 582 = .ok (.aload_n 0, 1) := by decide +kernel
theorem dL_law_583 : decode cL_law 583 = .ok (.iload_n 3, 1) := by decide +kernel
theorem dL_law_584 : decode cL_law 584 = .ok (.iconst 1, 1) := by decide +kernel
theorem dL_law_585 : decode cL_law 585 = .ok (.iadd, 1) := by decide +kernel
theorem dL_law_586 : decode cL_law 586 = .ok (.iaload, 1) := by decide +kernel
theorem dL_law_587 : decode cL_law 587 = .ok (.aload_n 0, 1) := by decide +kernel
theorem dL_law_588 : decode cL_law 588 = .ok (.iload_n 3, 1) := by decide +kernel
theorem dL_law_589 : decode cL_law 589 = .ok (.iconst 2, 1) := by decide +kernel
theorem dL_law_590 : decode cL_law 590 = .ok (.iadd, 1) := by decide +kernel
theorem dL_law_591 : decode cL_law 591 = .ok (.iaload, 1) := by decide +kernel
theorem dL_law_592 : decode cL_law 592 = .ok (.invokevirtual 67, 3) := by decide +kernel
theorem dL_law_595 : decode cL_law 595 = .ok (.pop, 1) := by decide +kernel
theorem dL_law_596 : decode cL_law 596 = .ok (.goto 863, 3) := by decide +kernel
theorem dL_law_599 : decode cL_law 599 = .ok (.aload_n 1, 1) := by decide +kernel
theorem dL_law_600 : decode cL_law 600 = .ok (.aload_n 0, 1) := by decide +kernel
theorem dL_law_601 : decode cL_law 601 = .ok (.iload_n 3, 1) := by decide +kernel
theorem dL_law_602 : decode cL_law 602 = .ok (.iconst 1, 1) := by decide +kernel
theorem dL_law_603 : decode cL_law 603 = .ok (.iadd, 1) := by decide +kernel
theorem dL_law_604 : decode cL_law 604 = .ok (.iaload, 1) := by decide +kernel
theorem dL_law_605 : decode cL_law 605 = .ok (.invokevirtual 68, 3) := by decide +kernel
theorem dL_law_608 : decode cL_law 608 = .ok (.pop, 1) := by decide +kernel
theorem dL_law_609 : decode cL_law 609 = .ok (.aload_n 2, 1) := by decide +kernel
theorem dL_law_610 : decode cL_law 610 = .ok (.aload_n 0, 1) := by decide +kernel
theorem dL_law_611 : decode cL_law 611 = .ok (.iload_n 3, 1) := by decide +kernel
theorem dL_law_612 : decode cL_law 612 = .ok (.iconst 1, 1) := by decide +kernel
theorem dL_law_613 : decode cL_law 613 = .ok (.iadd, 1) := by decide +kernel
theorem dL_law_614 : decode cL_law 614 = .ok (.iaload, 1) := by decide +kernel
theorem dL_law_615 : decode cL_law 615 = .ok (.invokevirtual 71, 3) := by decide +kernel
theorem dL_law_618 : decode cL_law 618 = .ok (.pop, 1) := by decide +kernel
theorem dL_law_619 : decode cL_law 619 = .ok (.goto 840, 3) := by decide +kernel
theorem dL_law_622 : decode cL_law 622 = .ok (.aload_n 1, 1) := by decide +kernel
theorem dL_law_623 : decode cL_law 623 = .ok (.aload_n 0, 1) := by decide +kernel
theorem dL_law_624 : decode cL_law 624 = .ok (.iload_n 3, 1) := by decide +kernel
theorem dL_law_625 : decode cL_law 625 = .ok (.iconst 1, 1) := by decide +kernel
theorem dL_law_626 : decode cL_law 626 = .ok (.iadd, 1) := by decide +kernel
theorem dL_law_627 : decode cL_law 627 = .ok (.iaload, 1) := by decide +kernel
theorem dL_law_628 : decode cL_law 628 = .ok (.aload_n 0, 1) := by decide +kernel
theorem dL_law_629 : decode cL_law 629 = .ok (.iload_n 3, 1) := by decide +kernel
theorem dL_law_630 : decode cL_law 630 = .ok (.iconst 2, 1) := by decide +kernel
theorem dL_law_631 : decode cL_law 631 = .ok (.iadd, 1) := by decide +kernel
theorem dL_law_632 : decode cL_law 632 = .ok (.iaload, 1) := by decide +kernel
theorem dL_law_633 : decode cL_law 633 = .ok (.invokevirtual 72, 3) := by decide +kernel
theorem dL_law_636 : decode cL_law 636 = .ok (.pop, 1) := by decide +kernel
theorem dL_law_637 : decode cL_law 637 = .ok (.aload_n 2, 1) := by decide +kernel
theorem dL_law_638 : decode cL_law 638 = .ok (.aload_n 0, 1) := by decide +kernel
theorem dL_law_639 : decode cL_law 639 = .ok (.iload_n 3, 1) := by decide +kernel
theorem dL_law_640 : decode cL_law 640 = .ok (.iconst 1, 1) := by decide +kernel
theorem dL_law_641 : decode cL_law 641 = .ok (.iadd, 1) := by decide +kernel
theorem dL_law_642 : decode cL_law 642 = .ok (.iaload, 1) := by decide +kernel
theorem dL_law_643 : decode cL_law 643 = .ok (.aload_n 0, 1) := by decide +kernel
theorem dL_law_644 : decode cL_law 644 = .ok (.iload_n 3, 1) := by decide +kernel
theorem dL_law_645 : decode cL_law 645 = .ok (.iconst 2, 1) := by decide +kernel
theorem dL_law_646 : decode cL_law 646 = .ok (.iadd, 1) := by decide +kernel
theorem dL_law_647 : decode cL_law 647 = .ok (.iaload, 1) := by decide +kernel
theorem dL_law_648 : decode cL_law 648 = .ok (.invokevirtual 75, 3) := by decide +kernel
theorem dL_law_651 : decode cL_law 651 = .ok (.pop, 1) := by decide +kernel
theorem dL_law_652 : decode cL_law 652 = .ok (.goto 807, 3) := by decide +kernel
theorem dL_law_655 : decode cL_law 655 = .ok (.aload_n 1, 1) := by decide +kernel
theorem dL_law_656 : decode cL_law 656 = .ok (.aload_n 0, 1) := by decide +kernel
theorem dL_law_657 : decode cL_law 657 = .ok (.iload_n 3, 1) := by decide +kernel
theorem dL_law_658 : decode cL_law 658 = .ok (.iconst 1, 1) := by decide +kernel
theorem dL_law_659 : decode cL_law 659 = .ok (.iadd, 1) := by decide +kernel
theorem dL_law_660 : decode cL_law 660 = .ok (.iaload, 1) := by decide +kernel
theorem dL_law_661 : decode cL_law 661 = .ok (.invokevirtual 76, 3) := by decide +kernel
theorem dL_law_664 : decode cL_law 664 = .ok (.pop, 1) := by decide +kernel
theorem dL_law_665 : decode cL_law 665 = .ok (.aload_n 2, 1) := by decide +kernel
theorem dL_law_666 : decode cL_law 666 = .ok (.aload_n 0, 1) := by decide +kernel
theorem dL_law_667 : decode cL_law 667 = .ok (.iload_n 3, 1) := by decide +kernel
theorem dL_law_668 : decode cL_law 668 = .ok (.iconst 1, 1) := by decide +kernel
theorem dL_law_669 : decode cL_law 669 = .ok (.iadd, 1) := by decide +kernel
theorem dL_law_670 : decode cL_law 670 = .ok (.iaload, 1) := by decide +kernel
theorem dL_law_671 : decode cL_law 671 = .ok (.invokevirtual 79, 3) := by decide +kernel
theorem dL_law_674 : decode cL_law 674 = .ok (.pop, 1) := by decide +kernel
theorem dL_law_675 : decode cL_law 675 = .ok (.goto 784, 3) := by decide +kernel
theorem dL_law_678 : decode cL_law 678 = .ok (.aload_n 1, 1) := by decide +kernel
theorem dL_law_679 : decode cL_law 679 = .ok (.aload_n 0, 1) := by decide +kernel
theorem dL_law_680 : decode cL_law 680 = .ok (.iload_n 3, 1) := by decide +kernel
theorem dL_law_681 : decode cL_law 681 = .ok (.iconst 1, 1) := by decide +kernel
theorem dL_law_682 : decode cL_law 682 = .ok (.iadd, 1) := by decide +kernel
theorem dL_law_683 : decode cL_law 683 = .ok (.iaload, 1) := by decide +kernel
theorem dL_law_684 : decode cL_law 684 = .ok (.aload_n 0, 1) := by decide +kernel
theorem dL_law_685 : decode cL_law 685 = .ok (.iload_n 3, 1) := by decide +kernel
theorem dL_law_686 : decode cL_law 686 = .ok (.iconst 2, 1) := by decide +kernel
theorem dL_law_687 : decode cL_law 687 = .ok (.iadd, 1) := by decide +kernel
theorem dL_law_688 : decode cL_law 688 = .ok (.iaload, 1) := by decide +kernel
theorem dL_law_689 : decode cL_law 689 = .ok (.invokevirtual 80, 3) := by decide +kernel
theorem dL_law_692 : decode cL_law 692 = .ok (.pop, 1) := by decide +kernel
theorem dL_law_693 : decode cL_law 693 = .ok (.aload_n 2, 1) := by decide +kernel
theorem dL_law_694 : decode cL_law 694 = .ok (.aload_n 0, 1) := by decide +kernel
theorem dL_law_695 : decode cL_law 695 = .ok (.iload_n 3, 1) := by decide +kernel
theorem dL_law_696 : decode cL_law 696 = .ok (.iconst 1, 1) := by decide +kernel
theorem dL_law_697 : decode cL_law 697 = .ok (.iadd, 1) := by decide +kernel
theorem dL_law_698 : decode cL_law 698 = .ok (.iaload, 1) := by decide +kernel
theorem dL_law_699 : decode cL_law 699 = .ok (.aload_n 0, 1) := by decide +kernel
theorem dL_law_700 : decode cL_law 700 = .ok (.iload_n 3, 1) := by decide +kernel
theorem dL_law_701 : decode cL_law 701 = .ok (.iconst 2, 1) := by decide +kernel
theorem dL_law_702 : decode cL_law 702 = .ok (.iadd, 1) := by decide +kernel
theorem dL_law_703 : decode cL_law 703 = .ok (.iaload, 1) := by decide +kernel
theorem dL_law_704 : decode cL_law 704 = .ok (.invokevirtual 83, 3) := by decide +kernel
theorem dL_law_707 : decode cL_law 707 = .ok (.pop, 1) := by decide +kernel
theorem dL_law_708 : decode cL_law 708 = .ok (.goto 751, 3) := by decide +kernel
theorem dL_law_711 : decode cL_law 711 = .ok (.aload_n 1, 1) := by decide +kernel
theorem dL_law_712 : decode cL_law 712 = .ok (.aload_n 0, 1) := by decide +kernel
theorem dL_law_713 : decode cL_law 713 = .ok (.iload_n 3, 1) := by decide +kernel
theorem dL_law_714 : decode cL_law 714 = .ok (.iconst 1, 1) := by decide +kernel
theorem dL_law_715 : decode cL_law 715 = .ok (.iadd, 1) := by decide +kernel
theorem dL_law_716 : decode cL_law 716 = .ok (.iaload, 1) := by decide +kernel
theorem dL_law_717 : decode cL_law 717 = .ok (.invokevirtual 84, 3) := by decide +kernel
theorem dL_law_720 : decode cL_law 720 = .ok (.pop, 1) := by decide +kernel
theorem dL_law_721 : decode cL_law 721 = .ok (.aload_n 2, 1) := by decide +kernel
theorem dL_law_722 : decode cL_law 722 = .ok (.aload_n 0, 1) := by decide +kernel
theorem dL_law_723 : decode cL_law 723 = .ok (.iload_n 3, 1) := by decide +kernel
theorem dL_law_724 : decode cL_law 724 = .ok (.iconst 1, 1) := by decide +kernel
theorem dL_law_725 : decode cL_law 725 = .ok (.iadd, 1) := by decide +kernel
theorem dL_law_726 : decode cL_law 726 = .ok (.iaload, 1) := by decide +kernel
theorem dL_law_727 : decode cL_law 727 = .ok (.invokevirtual 87, 3) := by decide +kernel
theorem dL_law_730 : decode cL_law 730 = .ok (.pop, 1) := by decide +kernel
theorem dL_law_731 : decode cL_law 731 = .ok (.goto 728, 3) := by decide +kernel
theorem dL_law_734 : decode cL_law 734 = .ok (.aload_n 1, 1) := by decide +kernel
theorem dL_law_735 : decode cL_law 735 = .ok (.aload_n 0, 1) := by decide +kernel
theorem dL_law_736 : decode cL_law 736 = .ok (.iload_n 3, 1) := by decide +kernel
theorem dL_law_737 : decode cL_law 737 = .ok (.iconst 1, 1) := by decide +kernel
theorem dL_law_738 : decode cL_law 738 = .ok (.iadd, 1) := by decide +kernel
theorem dL_law_739 : decode cL_law 739 = .ok (.iaload, 1) := by decide +kernel
theorem dL_law_740 : decode cL_law 740 = .ok (.aload_n 0, 1) := by decide +kernel
theorem dL_law_741 : decode cL_law 741 = .ok (.iload_n 3, 1) := by decide +kernel
theorem dL_law_742 : decode cL_law 742 = .ok (.iconst 2, 1) := by decide +kernel
theorem dL_law_743 : decode cL_law 743 = .ok (.iadd, 1) := by decide +kernel
theorem dL_law_744 : decode cL_law 744 = .ok (.iaload, 1) := by decide +kernel
theorem dL_law_745 : decode cL_law 745 = .ok (.invokevirtual 88, 3) := by decide +kernel
theorem dL_law_748 : decode cL_law 748 = .ok (.pop, 1) := by decide +kernel
theorem dL_law_749 : decode cL_law 749 = .ok (.aload_n 2, 1) := by decide +kernel
theorem dL_law_750 : decode cL_law 750 = .ok (.aload_n 0, 1) := by decide +kernel
theorem dL_law_751 : decode cL_law 751 = .ok (.iload_n 3, 1) := by decide +kernel
theorem dL_law_752 : decode cL_law 752 = .ok (.iconst 1, 1) := by decide +kernel
theorem dL_law_753 : decode cL_law 753 = .ok (.iadd, 1) := by decide +kernel
theorem dL_law_754 : decode cL_law 754 = .ok (.iaload, 1) := by decide +kernel
theorem dL_law_755 : decode cL_law 755 = .ok (.aload_n 0, 1) := by decide +kernel
theorem dL_law_756 : decode cL_law 756 = .ok (.iload_n 3, 1) := by decide +kernel
theorem dL_law_757 : decode cL_law 757 = .ok (.iconst 2, 1) := by decide +kernel
theorem dL_law_758 : decode cL_law 758 = .ok (.iadd, 1) := by decide +kernel
theorem dL_law_759 : decode cL_law 759 = .ok (.iaload, 1) := by decide +kernel
theorem dL_law_760 : decode cL_law 760 = .ok (.invokevirtual 91, 3) := by decide +kernel
theorem dL_law_763 : decode cL_law 763 = .ok (.pop, 1) := by decide +kernel
theorem dL_law_764 : decode cL_law 764 = .ok (.goto 695, 3) := by decide +kernel
theorem dL_law_767 : decode cL_law 767 = .ok (.aload_n 1, 1) := by decide +kernel
theorem dL_law_768 : decode cL_law 768 = .ok (.aload_n 0, 1) := by decide +kernel
theorem dL_law_769 : decode cL_law 769 = .ok (.iload_n 3, 1) := by decide +kernel
theorem dL_law_770 : decode cL_law 770 = .ok (.iconst 1, 1) := by decide +kernel
theorem dL_law_771 : decode cL_law 771 = .ok (.iadd, 1) := by decide +kernel
theorem dL_law_772 : decode cL_law 772 = .ok (.iaload, 1) := by decide +kernel
theorem dL_law_773 : decode cL_law 773 = .ok (.invokevirtual 92, 3) := by decide +kernel
theorem dL_law_776 : decode cL_law 776 = .ok (.pop, 1) := by decide +kernel
theorem dL_law_777 : decode cL_law 777 = .ok (.aload_n 2, 1) := by decide +kernel
theorem dL_law_778 : decode cL_law 778 = .ok (.aload_n 0, 1) := by decide +kernel
theorem dL_law_779 : decode cL_law 779 = .ok (.iload_n 3, 1) := by decide +kernel
theorem dL_law_780 : decode cL_law 780 = .ok (.iconst 1, 1) := by decide +kernel
theorem dL_law_781 : decode cL_law 781 = .ok (.iadd, 1) := by decide +kernel
theorem dL_law_782 : decode cL_law 782 = .ok (.iaload, 1) := by decide +kernel
theorem dL_law_783 : decode cL_law 783 = .ok (.invokevirtual 95, 3) := by decide +kernel
theorem dL_law_786 : decode cL_law 786 = .ok (.pop, 1) := by decide +kernel
theorem dL_law_787 : decode cL_law 787 = .ok (.goto 672, 3) := by decide +kernel
theorem dL_law_790 : decode cL_law 790 = .ok (.aload_n 1, 1) := by decide +kernel
theorem dL_law_791 : decode cL_law 791 = .ok (.invokevirtual 96, 3) := by decide +kernel
theorem dL_law_794 : decode cL_law 794 = .ok (.pop, 1) := by decide +kernel
theorem dL_law_795 : decode cL_law 795 = .ok (.aload_n 2, 1) := by decide +kernel
theorem dL_law_796 : decode cL_law 796 = .ok (.invokevirtual 100, 3) := by decide +kernel
theorem dL_law_799 : decode cL_law 799 = .ok (.pop, 1) := by decide +kernel
theorem dL_law_800 : decode cL_law 800 = .ok (.goto 659, 3) := by decide +kernel
theorem dL_law_803 : decode cL_law 803 = .ok (.aload_n 1, 1) := by decide +kernel
theorem dL_law_804 : decode cL_law 804 = .ok (.invokevirtual 101, 3) := by decide +kernel
theorem dL_law_807 : decode cL_law 807 = .ok (.pop, 1) := by decide +kernel
theorem dL_law_808 : decode cL_law 808 = .ok (.aload_n 2, 1) := by decide +kernel
theorem dL_law_809 : decode cL_law 809 = .ok (.invokevirtual 104, 3) := by decide +kernel
theorem dL_law_812 : decode cL_law 812 = .ok (.pop, 1) := by decide +kernel
theorem dL_law_813 : decode cL_law 813 = .ok (.goto 646, 3) := by decide +kernel
theorem dL_law_816 : decode cL_law 816 = .ok (.aload_n 1, 1) := by decide +kernel
theorem dL_law_817 : decode cL_law 817 = .ok (.invokevirtual 105, 3) := by decide +kernel
theorem dL_law_820 : decode cL_law 820 = .ok (.pop, 1) := by decide +kernel
theorem dL_law_821 : decode cL_law 821 = .ok (.aload_n 2, 1) := by decide +kernel
theorem dL_law_822 : decode cL_law 822 = .ok (.invokevirtual 108, 3) := by decide +kernel
theorem dL_law_825 : decode cL_law 825 = .ok (.pop, 1) := by decide +kernel
theorem dL_law_826 : decode cL_law 826 = .ok (.goto 633, 3) := by decide +kernel
theorem dL_law_829 : decode cL_law 829 = .ok (.aload_n 1, 1) := by decide +kernel
theorem dL_law_830 : decode cL_law 830 = .ok (.aload_n 0, 1) := by decide +kernel
theorem dL_law_831 : decode cL_law 831 = .ok (.iload_n 3, 1) := by decide +kernel
theorem dL_law_832 : decode cL_law 832 = .ok (.iconst 1, 1) := by decide +kernel
theorem dL_law_833 : decode cL_law 833 = .ok (.iadd, 1) := by decide +kernel
theorem dL_law_834 : decode cL_law 834 = .ok (.iaload, 1) := by decide +kernel
theorem dL_law_835 : decode cL_law 835 = .ok (.aload_n 0, 1) := by decide +kernel
theorem dL_law_836 : decode cL_law 836 = .ok (.iload_n 3, 1) := by decide +kernel
theorem dL_law_837 : decode cL_law 837 = .ok (.iconst 2, 1) := by decide +kernel
theorem dL_law_838 : decode cL_law 838 = .ok (.iadd, 1) := by decide +kernel
theorem dL_law_839 : decode cL_law 839 = .ok (.iaload, 1) := by decide +kernel
theorem dL_law_840 : decode cL_law 840 = .ok (.invokevirtual 109, 3) := by decide +kernel
theorem dL_law_843 : decode cL_law 843 = .ok (.pop, 1) := by decide +kernel
theorem dL_law_844 : decode cL_law 844 = .ok (.aload_n 2, 1) := by decide +kernel
theorem dL_law_845 : decode cL_law 845 = .ok (.aload_n 0, 1) := by decide +kernel
theorem dL_law_846 : decode cL_law 846 = .ok (.iload_n 3, 1) := by decide +kernel
theorem dL_law_847 : decode cL_law 847 = .ok (.iconst 1, 1) := by decide +kernel
theorem dL_law_848 : decode cL_law 848 = .ok (.iadd, 1) := by decide +kernel
theorem dL_law_849 : decode cL_law 849 = .ok (.iaload, 1) := by decide +kernel
theorem dL_law_850 : decode cL_law 850 = .ok (.aload_n 0, 1) := by decide +kernel
theorem dL_law_851 : decode cL_law 851 = .ok (.iload_n 3, 1) := by decide +kernel
theorem dL_law_852 : decode cL_law 852 = .ok (.iconst 2, 1) := by decide +kernel
theorem dL_law_853 : decode cL_law 853 = .ok (.iadd, 1) := by decide +kernel
theorem dL_law_854 : decode cL_law 854 = .ok (.iaload, 1) := by decide +kernel
theorem dL_law_855 : decode cL_law 855 = .ok (.invokevirtual 112, 3) := by decide +kernel
theorem dL_law_858 : decode cL_law 858 = .ok (.pop, 1) := by decide +kernel
theorem dL_law_859 : decode cL_law 859 = .ok (.goto 600, 3) := by decide +kernel
theorem dL_law_862 : decode cL_law 862 = .ok (.aload_n 1, 1) := by decide +kernel
theorem dL_law_863 : decode cL_law 863 = .ok (.aload_n 0, 1) := by decide +kernel
theorem dL_law_864 : decode cL_law 864 = .ok (.iload_n 3, 1) := by decide +kernel
theorem dL_law_865 : decode cL_law 865 = .ok (.iconst 1, 1) := by decide +kernel
theorem dL_law_866 : decode cL_law 866 = .ok (.iadd, 1) := by decide +kernel
theorem dL_law_867 : decode cL_law 867 = .ok (.iaload, 1) := by decide +kernel
theorem dL_law_868 : decode cL_law 868 = .ok (.invokevirtual 113, 3) := by decide +kernel
theorem dL_law_871 : decode cL_law 871 = .ok (.pop, 1) := by decide +kernel
theorem dL_law_872 : decode cL_law 872 = .ok (.aload_n 2, 1) := by decide +kernel
theorem dL_law_873 : decode cL_law 873 = .ok (.aload_n 0, 1) := by decide +kernel
theorem dL_law_874 : decode cL_law 874 = .ok (.iload_n 3, 1) := by decide +kernel
theorem dL_law_875 : decode cL_law 875 = .ok (.iconst 1, 1) := by decide +kernel
theorem dL_law_876 : decode cL_law 876 = .ok (.iadd, 1) := by decide +kernel
theorem dL_law_877 : decode cL_law 877 = .ok (.iaload, 1) := by decide +kernel
theorem dL_law_878 : decode cL_law 878 = .ok (.invokevirtual 116, 3) := by decide +kernel
theorem dL_law_881 : decode cL_law 881 = .ok (.pop, 1) := by decide +kernel
theorem dL_law_882 : decode cL_law 882 = .ok (.goto 577, 3) := by decide +kernel
theorem dL_law_885 : decode cL_law 885 = .ok (.aload_n 1, 1) := by decide +kernel
theorem dL_law_886 : decode cL_law 886 = .ok (.aload_n 0, 1) := by decide +kernel
theorem dL_law_887 : decode cL_law 887 = .ok (.iload_n 3, 1) := by decide +kernel
theorem dL_law_888 : decode cL_law 888 = .ok (.iconst 1, 1) := by decide +kernel
theorem dL_law_889 : decode cL_law 889 = .ok (.iadd, 1) := by decide +kernel
theorem dL_law_890 : decode cL_law 890 = .ok (.iaload, 1) := by decide +kernel
theorem dL_law_891 : decode cL_law 891 = .ok (.aload_n 0, 1) := by decide +kernel
theorem dL_law_892 : decode cL_law 892 = .ok (.iload_n 3, 1) := by decide +kernel
theorem dL_law_893 : decode cL_law 893 = .ok (.iconst 2, 1) := by decide +kernel
theorem dL_law_894 : decode cL_law 894 = .ok (.iadd, 1) := by decide +kernel
theorem dL_law_895 : decode cL_law 895 = .ok (.iaload, 1) := by decide +kernel
theorem dL_law_896 : decode cL_law 896 = .ok (.invokevirtual 117, 3) := by decide +kernel
theorem dL_law_899 : decode cL_law 899 = .ok (.pop, 1) := by decide +kernel
theorem dL_law_900 : decode cL_law 900 = .ok (.aload_n 2, 1) := by decide +kernel
theorem dL_law_901 : decode cL_law 901 = .ok (.aload_n 0, 1) := by decide +kernel
theorem dL_law_902 : decode cL_law 902 = .ok (.iload_n 3, 1) := by decide +kernel
theorem dL_law_903 : decode cL_law 903 = .ok (.iconst 1, 1) := by decide +kernel
theorem dL_law_904 : decode cL_law 904 = .ok (.iadd, 1) := by decide +kernel
theorem dL_law_905 : decode cL_law 905 = .ok (.iaload, 1) := by decide +kernel
theorem dL_law_906 : decode cL_law 906 = .ok (.aload_n 0, 1) := by decide +kernel
theorem dL_law_907 : decode cL_law 907 = .ok (.iload_n 3, 1) := by decide +kernel
theorem dL_law_908 : decode cL_law 908 = .ok (.iconst 2, 1) := by decide +kernel
theorem dL_law_909 : decode cL_law 909 = .ok (.iadd, 1) := by decide +kernel
theorem dL_law_910 : decode cL_law 910 = .ok (.iaload, 1) := by decide +kernel
theorem dL_law_911 : decode cL_law 911 = .ok (.invokevirtual 120, 3) := by decide +kernel
theorem dL_law_914 : decode cL_law 914 = .ok (.pop, 1) := by decide +kernel
theorem dL_law_915 : decode cL_law 915 = .ok (.goto 544, 3) := by decide +kernel
theorem dL_law_918 : decode cL_law 918 = .ok (.aload_n 1, 1) := by decide +kernel
theorem dL_law_919 : decode cL_law 919 = .ok (.aload_n 0, 1) := by decide +kernel
theorem dL_law_920 : decode cL_law 920 = .ok (.iload_n 3, 1) := by decide +kernel
theorem dL_law_921 : decode cL_law 921 = .ok (.iconst 1, 1) := by decide +kernel
theorem dL_law_922 : decode cL_law 922 = .ok (.iadd, 1) := by decide +kernel
theorem dL_law_923 : decode cL_law 923 = .ok (.iaload, 1) := by decide +kernel
theorem dL_law_924 : decode cL_law 924 = .ok (.aload_n 0, 1) := by decide +kernel
theorem dL_law_925 : decode cL_law 925 = .ok (.iload_n 3, 1) := by decide +kernel
theorem dL_law_926 : decode cL_law 926 = .ok (.iconst 2, 1) := by decide +kernel
theorem dL_law_927 : decode cL_law 927 = .ok (.iadd, 1) := by decide +kernel
theorem dL_law_928 : decode cL_law 928 = .ok (.iaload, 1) := by decide +kernel
theorem dL_law_929 : decode cL_law 929 = .ok (.aload_n 0, 1) := by decide +kernel
theorem dL_law_930 : decode cL_law 930 = .ok (.iload_n 3, 1) := by decide +kernel
theorem dL_law_931 : decode cL_law 931 = .ok (.iconst 3, 1) := by decide +kernel
theorem dL_law_932 : decode cL_law 932 = .ok (.iadd, 1) := by decide +kernel
theorem dL_law_933 : decode cL_law 933 = .ok (.iaload, 1) := by decide +kernel
theorem dL_law_934 : decode cL_law 934 = .ok (.invokevirtual 121, 3) := by decide +kernel
theorem dL_law_937 : decode cL_law 937 = .ok (.pop, 1) := by decide +kernel
theorem dL_law_938 : decode cL_law 938 = .ok (.aload_n 2, 1) := by decide +kernel
theorem dL_law_939 : decode cL_law 939 = .ok (.aload_n 0, 1) := by decide +kernel
theorem dL_law_940 : decode cL_law 940 = .ok (.iload_n 3, 1) := by decide +kernel
theorem dL_law_941 : decode cL_law 941 = .ok (.iconst 1, 1) := by decide +kernel
theorem dL_law_942 : decode cL_law 942 = .ok (.iadd, 1) := by decide +kernel
theorem dL_law_943 : decode cL_law 943 = .ok (.iaload, 1) := by decide +kernel
theorem dL_law_944 : decode cL_law 944 = .ok (.aload_n 0, 1) := by decide +kernel
theorem dL_law_945 : decode cL_law 945 = .ok (.iload_n 3, 1) := by decide +kernel
theorem dL_law_946 : decode cL_law 946 = .ok (.iconst 2, 1) := by decide +kernel
theorem dL_law_947 : decode cL_law 947 = .ok (.iadd, 1) := by decide +kernel
theorem dL_law_948 : decode cL_law 948 = .ok (.iaload, 1) := by decide +kernel
theorem dL_law_949 : decode cL_law 949 = .ok (.aload_n 0, 1) := by decide +kernel
theorem dL_law_950 : decode cL_law 950 = .ok (.iload_n 3, 1) := by decide +kernel
theorem dL_law_951 : decode cL_law 951 = .ok (.iconst 3, 1) := by decide +kernel
theorem dL_law_952 : decode cL_law 952 = .ok (.iadd, 1) := by decide +kernel
theorem dL_law_953 : decode cL_law 953 = .ok (.iaload, 1) := by decide +kernel
theorem dL_law_954 : decode cL_law 954 = .ok (.invokevirtual 125, 3) := by decide +kernel
theorem dL_law_957 : decode cL_law 957 = .ok (.pop, 1) := by decide +kernel
theorem dL_law_958 : decode cL_law 958 = .ok (.goto 501, 3) := by decide +kernel
theorem dL_law_961 : decode cL_law 961 = .ok (.aload_n 1, 1) := by decide +kernel
theorem dL_law_962 : decode cL_law 962 = .ok (.invokevirtual 126, 3) := by decide +kernel
theorem dL_law_965 : decode cL_law 965 = .ok (.pop, 1) := by decide +kernel
theorem dL_law_966 : decode cL_law 966 = .ok (.aload_n 2, 1) := by decide +kernel
theorem dL_law_967 : decode cL_law 967 = .ok (.invokevirtual 129, 3) := by decide +kernel
theorem dL_law_970 : decode cL_law 970 = .ok (.pop, 1) := by decide +kernel
theorem dL_law_971 : decode cL_law 971 = .ok (.goto 488, 3) := by decide +kernel
theorem dL_law_974 : decode cL_law 974 = .ok (.aload_n 1, 1) := by decide +kernel
theorem dL_law_975 : decode cL_law 975 = .ok (.aload_n 0, 1) := by decide +kernel
theorem dL_law_976 : decode cL_law 976 = .ok (.iload_n 3, 1) := by decide +kernel
theorem dL_law_977 : decode cL_law 977 = .ok (.iconst 1, 1) := by decide +kernel
theorem dL_law_978 : decode cL_law 978 = .ok (.iadd, 1) := by decide +kernel
theorem dL_law_979 : decode cL_law 979 = .ok (.iaload, 1) := by decide +kernel
theorem dL_law_980 : decode cL_law 980 = .ok (.invokevirtual 130, 3) := by decide +kernel
theorem dL_law_983 : decode cL_law 983 = .ok (.pop, 1) := by decide +kernel
theorem dL_law_984 : decode cL_law 984 = .ok (.aload_n 2, 1) := by decide +kernel
theorem dL_law_985 : decode cL_law 985 = .ok (.aload_n 0, 1) := by decide +kernel
theorem dL_law_986 : decode cL_law 986 = .ok (.iload_n 3, 1) := by decide +kernel
theorem dL_law_987 : decode cL_law 987 = .ok (.iconst 1, 1) := by decide +kernel
theorem dL_law_988 : decode cL_law 988 = .ok (.iadd, 1) := by decide +kernel
theorem dL_law_989 : decode cL_law 989 = .ok (.iaload, 1) := by decide +kernel
theorem dL_law_990 : decode cL_law 990 = .ok (.invokevirtual 133, 3) := by decide +kernel
theorem dL_law_993 : decode cL_law 993 = .ok (.pop, 1) := by decide +kernel
theorem dL_law_994 : decode cL_law 994 = .ok (.goto 465, 3) := by decide +kernel
theorem dL_law_997 : decode cL_law 997 = .ok (.aload_n 1, 1) := by decide +kernel
theorem dL_law_998 : decode cL_law 998 = .ok (.aload_n 0, 1) := by decide +kernel
theorem dL_law_999 : decode cL_law 999 = .ok (.iload_n 3, 1) := by decide +kernel
theorem dL_law_1000 : decode cL_law 1000 = .ok (.iconst 1, 1) := by decide +kernel
theorem dL_law_1001 : decode cL_law 1001 = .ok (.iadd, 1) := by decide +kernel
theorem dL_law_1002 : decode cL_law 1002 = .ok (.iaload, 1) := by decide +kernel
theorem dL_law_1003 : decode cL_law 1003 = .ok (.invokevirtual 134, 3) := by decide +kernel
theorem dL_law_1006 : decode cL_law 1006 = .ok (.pop, 1) := by decide +kernel
theorem dL_law_1007 : decode cL_law 1007 = .ok (.aload_n 2, 1) := by decide +kernel
theorem dL_law_1008 : decode cL_law 1008 = .ok (.aload_n 0, 1) := by decide +kernel
theorem dL_law_1009 : decode cL_law 1009 = .ok (.iload_n 3, 1) := by decide +kernel
theorem dL_law_1010 : decode cL_law 1010 = .ok (.iconst 1, 1) := by decide +kernel
theorem dL_law_1011 : decode cL_law 1011 = .ok (.iadd, 1) := by decide +kernel
theorem dL_law_1012 : decode cL_law 1012 = .ok (.iaload, 1) := by decide +kernel
theorem dL_law_1013 : decode cL_law 1013 = .ok (.invokevirtual 137, 3) := by decide +kernel
theorem dL_law_1016 : decode cL_law 1016 = .ok (.pop, 1) := by decide +kernel
theorem dL_law_1017 : decode cL_law 1017 = .ok (.goto 442, 3) := by decide +kernel
theorem dL_law_1020 : decode cL_law 1020 = .ok (.aload_n 1, 1) := by decide +kernel
theorem dL_law_1021 : decode cL_law 1021 = .ok (.aload_n 0, 1) := by decide +kernel
theorem dL_law_1022 : decode cL_law 1022 = .ok (.iload_n 3, 1) := by decide +kernel
theorem dL_law_1023 : decode cL_law 1023 = .ok (.iconst 1, 1) := by decide +kernel
theorem dL_law_1024 : decode cL_law 1024 = .ok (.iadd, 1) := by decide +kernel
theorem dL_law_1025 : decode cL_law 1025 = .ok (.iaload, 1) := by decide +kernel
theorem dL_law_1026 : decode cL_law 1026 = .ok (.aload_n 0, 1) := by decide +kernel
theorem dL_law_1027 : decode cL_law 1027 = .ok (.iload_n 3, 1) := by decide +kernel
theorem dL_law_1028 : decode cL_law 1028 = .ok (.iconst 2, 1) := by decide +kernel
theorem dL_law_1029 : decode cL_law 1029 = .ok (.iadd, 1) := by decide +kernel
theorem dL_law_1030 : decode cL_law 1030 = .ok (.iaload, 1) := by decide +kernel
theorem dL_law_1031 : decode cL_law 1031 = .ok (.invokevirtual 138, 3) := by decide +kernel
theorem dL_law_1034 : decode cL_law 1034 = .ok (.pop, 1) := by decide +kernel
theorem dL_law_1035 : decode cL_law 1035 = .ok (.aload_n 2, 1) := by decide +kernel
theorem dL_law_1036 : decode cL_law 1036 = .ok (.aload_n 0, 1) := by decide +kernel
theorem dL_law_1037 : decode cL_law 1037 = .ok (.iload_n 3, 1) := by decide +kernel
theorem dL_law_1038 : decode cL_law 1038 = .ok (.iconst 1, 1) := by decide +kernel
theorem dL_law_1039 : decode cL_law 1039 = .ok (.iadd, 1) := by decide +kernel
theorem dL_law_1040 : decode cL_law 1040 = .ok (.iaload, 1) := by decide +kernel
theorem dL_law_1041 : decode cL_law 1041 = .ok (.aload_n 0, 1) := by decide +kernel
theorem dL_law_1042 : decode cL_law 1042 = .ok (.iload_n 3, 1) := by decide +kernel
theorem dL_law_1043 : decode cL_law 1043 = .ok (.iconst 2, 1) := by decide +kernel
theorem dL_law_1044 : decode cL_law 1044 = .ok (.iadd, 1) := by decide +kernel
theorem dL_law_1045 : decode cL_law 1045 = .ok (.iaload, 1) := by decide +kernel
theorem dL_law_1046 : decode cL_law 1046 = .ok (.invokevirtual 141, 3) := by decide +kernel
theorem dL_law_1049 : decode cL_law 1049 = .ok (.pop, 1) := by decide +kernel
theorem dL_law_1050 : decode cL_law 1050 = .ok (.goto 409, 3) := by decide +kernel
theorem dL_law_1053 : decode cL_law 1053 = .ok (.aload_n 1, 1) := by decide +kernel
theorem dL_law_1054 : decode cL_law 1054 = .ok (.invokevirtual 142, 3) := by decide +kernel
theorem dL_law_1057 : decode cL_law 1057 = .ok (.pop, 1) := by decide +kernel
theorem dL_law_1058 : decode cL_law 1058 = .ok (.aload_n 2, 1) := by decide +kernel
theorem dL_law_1059 : decode cL_law 1059 = .ok (.invokevirtual 145, 3) := by decide +kernel
theorem dL_law_1062 : decode cL_law 1062 = .ok (.pop, 1) := by decide +kernel
theorem dL_law_1063 : decode cL_law 1063 = .ok (.goto 396, 3) := by decide +kernel
theorem dL_law_1066 : decode cL_law 1066 = .ok (.aload_n 1, 1) := by decide +kernel
theorem dL_law_1067 : decode cL_law 1067 = .ok (.aload_n 0, 1) := by decide +kernel
theorem dL_law_1068 : decode cL_law 1068 = .ok (.iload_n 3, 1) := by decide +kernel
theorem dL_law_1069 : decode cL_law 1069 = .ok (.iconst 1, 1) := by decide +kernel
theorem dL_law_1070 : decode cL_law 1070 = .ok (.iadd, 1) := by decide +kernel
theorem dL_law_1071 : decode cL_law 1071 = .ok (.iaload, 1) := by decide +kernel
theorem dL_law_1072 : decode cL_law 1072 = .ok (.aload_n 0, 1) := by decide +kernel
theorem dL_law_1073 : decode cL_law 1073 = .ok (.iload_n 3, 1) := by decide +kernel
theorem dL_law_1074 : decode cL_law 1074 = .ok (.iconst 2, 1) := by decide +kernel
theorem dL_law_1075 : decode cL_law 1075 = .ok (.iadd, 1) := by decide +kernel
theorem dL_law_1076 : decode cL_law 1076 = .ok (.iaload, 1) := by decide +kernel
theorem dL_law_1077 : decode cL_law 1077 = .ok (.invokevirtual 146, 3) := by decide +kernel
theorem dL_law_1080 : decode cL_law 1080 = .ok (.pop, 1) := by decide +kernel
theorem dL_law_1081 : decode cL_law 1081 = .ok (.aload_n 2, 1) := by decide +kernel
theorem dL_law_1082 : decode cL_law 1082 = .ok (.aload_n 0, 1) := by decide +kernel
theorem dL_law_1083 : decode cL_law 1083 = .ok (.iload_n 3, 1) := by decide +kernel
theorem dL_law_1084 : decode cL_law 1084 = .ok (.iconst 1, 1) := by decide +kernel
theorem dL_law_1085 : decode cL_law 1085 = .ok (.iadd, 1) := by decide +kernel
theorem dL_law_1086 : decode cL_law 1086 = .ok (.iaload, 1) := by decide +kernel
theorem dL_law_1087 : decode cL_law 1087 = .ok (.aload_n 0, 1) := by decide +kernel
theorem dL_law_1088 : decode cL_law 1088 = .ok (.iload_n 3, 1) := by decide +kernel
theorem dL_law_1089 : decode cL_law 1089 = .ok (.iconst 2, 1) := by decide +kernel
theorem dL_law_1090 : decode cL_law 1090 = .ok (.iadd, 1) := by decide +kernel
theorem dL_law_1091 : decode cL_law 1091 = .ok (.iaload, 1) := by decide +kernel
theorem dL_law_1092 : decode cL_law 1092 = .ok (.invokevirtual 149, 3) := by decide +kernel
theorem dL_law_1095 : decode cL_law 1095 = .ok (.pop, 1) := by decide +kernel
theorem dL_law_1096 : decode cL_law 1096 = .ok (.goto 363, 3) := by decide +kernel
theorem dL_law_1099 : decode cL_law 1099 = .ok (.aload_n 1, 1) := by decide +kernel
theorem dL_law_1100 : decode cL_law 1100 = .ok (.aload_n 0, 1) := by decide +kernel
theorem dL_law_1101 : decode cL_law 1101 = .ok (.iload_n 3, 1) := by decide +kernel
theorem dL_law_1102 : decode cL_law 1102 = .ok (.iconst 1, 1) := by decide +kernel
theorem dL_law_1103 : decode cL_law 1103 = .ok (.iadd, 1) := by decide +kernel
theorem dL_law_1104 : decode cL_law 1104 = .ok (.iaload, 1) := by decide +kernel
theorem dL_law_1105 : decode cL_law 1105 = .ok (.aload_n 0, 1) := by decide +kernel
theorem dL_law_1106 : decode cL_law 1106 = .ok (.iload_n 3, 1) := by decide +kernel
theorem dL_law_1107 : decode cL_law 1107 = .ok (.iconst 2, 1) := by decide +kernel
theorem dL_law_1108 : decode cL_law 1108 = .ok (.iadd, 1) := by decide +kernel
theorem dL_law_1109 : decode cL_law 1109 = .ok (.iaload, 1) := by decide +kernel
theorem dL_law_1110 : decode cL_law 1110 = .ok (.aload_n 0, 1) := by decide +kernel
theorem dL_law_1111 : decode cL_law 1111 = .ok (.iload_n 3, 1) := by decide +kernel
theorem dL_law_1112 : decode cL_law 1112 = .ok (.iconst 3, 1) := by decide +kernel
theorem dL_law_1113 : decode cL_law 1113 = .ok (.iadd, 1) := by decide +kernel
theorem dL_law_1114 : decode cL_law 1114 = .ok (.iaload, 1) := by decide +kernel
theorem dL_law_1115 : decode cL_law 1115 = .ok (.invokevirtual 150, 3) := by decide +kernel
theorem dL_law_1118 : decode cL_law 1118 = .ok (.pop, 1) := by decide +kernel
theorem dL_law_1119 : decode cL_law 1119 = .ok (.aload_n 2, 1) := by decide +kernel
theorem dL_law_1120 : decode cL_law 1120 = .ok (.aload_n 0, 1) := by decide +kernel
theorem dL_law_1121 : decode cL_law 1121 = .ok (.iload_n 3, 1) := by decide +kernel
theorem dL_law_1122 : decode cL_law 1122 = .ok (.iconst 1, 1) := by decide +kernel
theorem dL_law_1123 : decode cL_law 1123 = .ok (.iadd, 1) := by decide +kernel
theorem dL_law_1124 : decode cL_law 1124 = .ok (.iaload, 1) := by decide +kernel
theorem dL_law_1125 : decode cL_law 1125 = .ok (.aload_n 0, 1) := by decide +kernel
theorem dL_law_1126 : decode cL_law 1126 = .ok (.iload_n 3, 1) := by decide +kernel
theorem dL_law_1127 : decode cL_law 1127 = .ok (.iconst 2, 1) := by decide +kernel
theorem dL_law_1128 : decode cL_law 1128 = .ok (.iadd, 1) := by decide +kernel
theorem dL_law_1129 : decode cL_law 1129 = .ok (.iaload, 1) := by decide +kernel
theorem dL_law_1130 : decode cL_law 1130 = .ok (.aload_n 0, 1) := by decide +kernel
theorem dL_law_1131 : decode cL_law 1131 = .ok (.iload_n 3, 1) := by decide +kernel
theorem dL_law_1132 : decode cL_law 1132 = .ok (.iconst 3, 1) := by decide +kernel
theorem dL_law_1133 : decode cL_law 1133 = .ok (.iadd, 1) := by decide +kernel
theorem dL_law_1134 : decode cL_law 1134 = .ok (.iaload, 1) := by decide +kernel
theorem dL_law_1135 : decode cL_law 1135 = .ok (.invokevirtual 153, 3) := by decide +kernel
theorem dL_law_1138 : decode cL_law 1138 = .ok (.pop, 1) := by decide +kernel
theorem dL_law_1139 : decode cL_law 1139 = .ok (.goto 320, 3) := by decide +kernel
theorem dL_law_1142 : decode cL_law 1142 = .ok (.aload_n 1, 1) := by decide +kernel
theorem dL_law_1143 : decode cL_law 1143 = .ok (.aload_n 0, 1) := by decide +kernel
theorem dL_law_1144 : decode cL_law 1144 = .ok (.iload_n 3, 1) := by decide +kernel
theorem dL_law_1145 : decode cL_law 1145 = .ok (.iconst 1, 1) := by decide +kernel
theorem dL_law_1146 : decode cL_law 1146 = .ok (.iadd, 1) := by decide +kernel
theorem dL_law_1147 : decode cL_law 1147 = .ok (.iaload, 1) := by decide +kernel
theorem dL_law_1148 : decode cL_law 1148 = .ok (.aload_n 0, 1) := by decide +kernel
theorem dL_law_1149 : decode cL_law 1149 = .ok (.iload_n 3, 1) := by decide +kernel
theorem dL_law_1150 : decode cL_law 1150 = .ok (.iconst 2, 1) := by decide +kernel
theorem dL_law_1151 : decode cL_law 1151 = .ok (.iadd, 1) := by decide +kernel
theorem dL_law_1152 : decode cL_law 1152 = .ok (.iaload, 1) := by decide +kernel
theorem dL_law_1153 : decode cL_law 1153 = .ok (.invokevirtual 154, 3) := by decide +kernel
theorem dL_law_1156 : decode cL_law 1156 = .ok (.pop, 1) := by decide +kernel
theorem dL_law_1157 : decode cL_law 1157 = .ok (.aload_n 2, 1) := by decide +kernel
theorem dL_law_1158 : decode cL_law 1158 = .ok (.aload_n 0, 1) := by decide +kernel
theorem dL_law_1159 : decode cL_law 1159 = .ok (.iload_n 3, 1) := by decide +kernel
theorem dL_law_1160 : decode cL_law 1160 = .ok (.iconst 1, 1) := by decide +kernel
theorem dL_law_1161 : decode cL_law 1161 = .ok (.iadd, 1) := by decide +kernel
theorem dL_law_1162 : decode cL_law 1162 = .ok (.iaload, 1) := by decide +kernel
theorem dL_law_1163 : decode cL_law 1163 = .ok (.aload_n 0, 1) := by decide +kernel
theorem dL_law_1164 : decode cL_law 1164 = .ok (.iload_n 3, 1) := by decide +kernel
theorem dL_law_1165 : decode cL_law 1165 = .ok (.iconst 2, 1) := by decide +kernel
theorem dL_law_1166 : decode cL_law 1166 = .ok (.iadd, 1) := by decide +kernel
theorem dL_law_1167 : decode cL_law 1167 = .ok (.iaload, 1) := by decide +kernel
theorem dL_law_1168 : decode cL_law 1168 = .ok (.invokevirtual 157, 3) := by decide +kernel
theorem dL_law_1171 : decode cL_law 1171 = .ok (.pop, 1) := by decide +kernel
theorem dL_law_1172 : decode cL_law 1172 = .ok (.goto 287, 3) := by decide +kernel
theorem dL_law_1175 : decode cL_law 1175 = .ok (.aload_n 1, 1) := by decide +kernel
theorem dL_law_1176 : decode cL_law 1176 = .ok (.aload_n 0, 1) := by decide +kernel
theorem dL_law_1177 : decode cL_law 1177 = .ok (.iload_n 3, 1) := by decide +kernel
theorem dL_law_1178 : decode cL_law 1178 = .ok (.iconst 1, 1) := by decide +kernel
theorem dL_law_1179 : decode cL_law 1179 = .ok (.iadd, 1) := by decide +kernel
theorem dL_law_1180 : decode cL_law 1180 = .ok (.iaload, 1) := by decide +kernel
theorem dL_law_1181 : decode cL_law 1181 = .ok (.aload_n 0, 1) := by decide +kernel
theorem dL_law_1182 : decode cL_law 1182 = .ok (.iload_n 3, 1) := by decide +kernel
theorem dL_law_1183 : decode cL_law 1183 = .ok (.iconst 2, 1) := by decide +kernel
theorem dL_law_1184 : decode cL_law 1184 = .ok (.iadd, 1) := by decide +kernel
theorem dL_law_1185 : decode cL_law 1185 = .ok (.iaload, 1) := by decide +kernel
theorem dL_law_1186 : decode cL_law 1186 = .ok (.invokevirtual 158, 3) := by decide +kernel
theorem dL_law_1189 : decode cL_law 1189 = .ok (.pop2, 1) := by decide +kernel
theorem dL_law_1190 : decode cL_law 1190 = .ok (.aload_n 2, 1) := by decide +kernel
theorem dL_law_1191 : decode cL_law 1191 = .ok (.aload_n 0, 1) := by decide +kernel
theorem dL_law_1192 : decode cL_law 1192 = .ok (.iload_n 3, 1) := by decide +kernel
theorem dL_law_1193 : decode cL_law 1193 = .ok (.iconst 1, 1) := by decide +kernel
theorem dL_law_1194 : decode cL_law 1194 = .ok (.iadd, 1) := by decide +kernel
theorem dL_law_1195 : decode cL_law 1195 = .ok (.iaload, 1) := by decide +kernel
theorem dL_law_1196 : decode cL_law 1196 = .ok (.aload_n 0, 1) := by decide +kernel
theorem dL_law_1197 : decode cL_law 1197 = .ok (.iload_n 3, 1) := by decide +kernel
theorem dL_law_1198 : decode cL_law 1198 = .ok (.iconst 2, 1) := by decide +kernel
theorem dL_law_1199 : decode cL_law 1199 = .ok (.iadd, 1) := by decide +kernel
theorem dL_law_1200 : decode cL_law 1200 = .ok (.iaload, 1) := by decide +kernel
theorem dL_law_1201 : decode cL_law 1201 = .ok (.invokevirtual 162, 3) := by decide +kernel
theorem dL_law_1204 : decode cL_law 1204 = .ok (.pop2, 1) := by decide +kernel
theorem dL_law_1205 : decode cL_law 1205 = .ok (.goto 254, 3) := by decide +kernel
theorem dL_law_1208 : decode cL_law 1208 = .ok (.aload_n 1, 1) := by decide +kernel
theorem dL_law_1209 : decode cL_law 1209 = .ok (.aload_n 0, 1) := by decide +kernel
theorem dL_law_1210 : decode cL_law 1210 = .ok (.iload_n 3, 1) := by decide +kernel
theorem dL_law_1211 : decode cL_law 1211 = .ok (.iconst 1, 1) := by decide +kernel
theorem dL_law_1212 : decode cL_law 1212 = .ok (.iadd, 1) := by decide +kernel
theorem dL_law_1213 : decode cL_law 1213 = .ok (.iaload, 1) := by decide +kernel
theorem dL_law_1214 : decode cL_law 1214 = .ok (.invokevirtual 163, 3) := by decide +kernel
theorem dL_law_1217 : decode cL_law 1217 = .ok (.pop, 1) := by decide +kernel
theorem dL_law_1218 : decode cL_law 1218 = .ok (.aload_n 2, 1) := by decide +kernel
theorem dL_law_1219 : decode cL_law 1219 = .ok (.aload_n 0, 1) := by decide +kernel
theorem dL_law_1220 : decode cL_law 1220 = .ok (.iload_n 3, 1) := by decide +kernel
theorem dL_law_1221 : decode cL_law 1221 = .ok (.iconst 1, 1) := by decide +kernel
theorem dL_law_1222 : decode cL_law 1222 = .ok (.iadd, 1) := by decide +kernel
theorem dL_law_1223 : decode cL_law 1223 = .ok (.iaload, 1) := by decide +kernel
theorem dL_law_1224 : decode cL_law 1224 = .ok (.invokevirtual 166, 3) := by decide +kernel
theorem dL_law_1227 : decode cL_law 1227 = .ok (.pop, 1) := by decide +kernel
theorem dL_law_1228 : decode cL_law 1228 = .ok (.goto 231, 3) := by decide +kernel
theorem dL_law_1231 : decode cL_law 1231 = .ok (.aload_n 1, 1) := by decide +kernel
theorem dL_law_1232 : decode cL_law 1232 = .ok (.aload_n 0, 1) := by decide +kernel
theorem dL_law_1233 : decode cL_law 1233 = .ok (.iload_n 3, 1) := by decide +kernel
theorem dL_law_1234 : decode cL_law 1234 = .ok (.iconst 1, 1) := by decide +kernel
theorem dL_law_1235 : decode cL_law 1235 = .ok (.iadd, 1) := by decide +kernel
theorem dL_law_1236 : decode cL_law 1236 = .ok (.iaload, 1) := by decide +kernel
theorem dL_law_1237 : decode cL_law 1237 = .ok (.aload_n 0, 1) := by decide +kernel
theorem dL_law_1238 : decode cL_law 1238 = .ok (.iload_n 3, 1) := by decide +kernel
theorem dL_law_1239 : decode cL_law 1239 = .ok (.iconst 2, 1) := by decide +kernel
theorem dL_law_1240 : decode cL_law 1240 = .ok (.iadd, 1) := by decide +kernel
theorem dL_law_1241 : decode cL_law 1241 = .ok (.iaload, 1) := by decide +kernel
theorem dL_law_1242 : decode cL_law 1242 = .ok (.aload_n 0, 1) := by decide +kernel
theorem dL_law_1243 : decode cL_law 1243 = .ok (.iload_n 3, 1) := by decide +kernel
theorem dL_law_1244 : decode cL_law 1244 = .ok (.iconst 3, 1) := by decide +kernel
theorem dL_law_1245 : decode cL_law 1245 = .ok (.iadd, 1) := by decide +kernel
theorem dL_law_1246 : decode cL_law 1246 = .ok (.iaload, 1) := by decide +kernel
theorem dL_law_1247 : decode cL_law 1247 = .ok (.invokevirtual 167, 3) := by decide +kernel
theorem dL_law_1250 : decode cL_law 1250 = .ok (.pop, 1) := by decide +kernel
theorem dL_law_1251 : decode cL_law 1251 = .ok (.aload_n 2, 1) := by decide +kernel
theorem dL_law_1252 : decode cL_law 1252 = .ok (.aload_n 0, 1) := by decide +kernel
theorem dL_law_1253 : decode cL_law 1253 = .ok (.iload_n 3, 1) := by decide +kernel
theorem dL_law_1254 : decode cL_law 1254 = .ok (.iconst 1, 1) := by decide +kernel
theorem dL_law_1255 : decode cL_law 1255 = .ok (.iadd, 1) := by decide +kernel
theorem dL_law_1256 : decode cL_law 1256 = .ok (.iaload, 1) := by decide +kernel
theorem dL_law_1257 : decode cL_law 1257 = .ok (.aload_n 0, 1) := by decide +kernel
theorem dL_law_1258 : decode cL_law 1258 = .ok (.iload_n 3, 1) := by decide +kernel
theorem dL_law_1259 : decode cL_law 1259 = .ok (.iconst 2, 1) := by decide +kernel
theorem dL_law_1260 : decode cL_law 1260 = .ok (.iadd, 1) := by decide +kernel
theorem dL_law_1261 : decode cL_law 1261 = .ok (.iaload, 1) := by decide +kernel
theorem dL_law_1262 : decode cL_law 1262 = .ok (.aload_n 0, 1) := by decide +kernel
theorem dL_law_1263 : decode cL_law 1263 = .ok (.iload_n 3, 1) := by decide +kernel
theorem dL_law_1264 : decode cL_law 1264 = .ok (.iconst 3, 1) := by decide +kernel
theorem dL_law_1265 : decode cL_law 1265 = .ok (.iadd, 1) := by decide +kernel
theorem dL_law_1266 : decode cL_law 1266 = .ok (.iaload, 1) := by decide +kernel
theorem dL_law_1267 : decode cL_law 1267 = .ok (.invokevirtual 170, 3) := by decide +kernel
theorem dL_law_1270 : decode cL_law 1270 = .ok (.pop, 1) := by decide +kernel
theorem dL_law_1271 : decode cL_law 1271 = .ok (.goto 188, 3) := by decide +kernel
theorem dL_law_1274 : decode cL_law 1274 = .ok (.aload_n 1, 1) := by decide +kernel
theorem dL_law_1275 : decode cL_law 1275 = .ok (.aload_n 0, 1) := by decide +kernel
theorem dL_law_1276 : decode cL_law 1276 = .ok (.iload_n 3, 1) := by decide +kernel
theorem dL_law_1277 : decode cL_law 1277 = .ok (.iconst 1, 1) := by decide +kernel
theorem dL_law_1278 : decode cL_law 1278 = .ok (.iadd, 1) := by decide +kernel
theorem dL_law_1279 : decode cL_law 1279 = .ok (.iaload, 1) := by decide +kernel
theorem dL_law_1280 : decode cL_law 1280 = .ok (.aload_n 0, 1) := by decide +kernel
theorem dL_law_1281 : decode cL_law 1281 = .ok (.iload_n 3, 1) := by decide +kernel
theorem dL_law_1282 : decode cL_law 1282 = .ok (.iconst 2, 1) := by decide +kernel
theorem dL_law_1283 : decode cL_law 1283 = .ok (.iadd, 1) := by decide +kernel
theorem dL_law_1284 : decode cL_law 1284 = .ok (.iaload, 1) := by decide +kernel
theorem dL_law_1285 : decode cL_law 1285 = .ok (.aload_n 0, 1) := by decide +kernel
theorem dL_law_1286 : decode cL_law 1286 = .ok (.iload_n 3, 1) := by decide +kernel
theorem dL_law_1287 : decode cL_law 1287 = .ok (.iconst 3, 1) := by decide +kernel
theorem dL_law_1288 : decode cL_law 1288 = .ok (.iadd, 1) := by decide +kernel
theorem dL_law_1289 : decode cL_law 1289 = .ok (.iaload, 1) := by decide +kernel
theorem dL_law_1290 : decode cL_law 1290 = .ok (.i2l, 1) := by decide +kernel
theorem dL_law_1291 : decode cL_law 1291 = .ok (.bipush 32, 2) := by decide +kernel
theorem dL_law_1293 : decode cL_law 1293 = .ok (.lshl, 1) := by decide +kernel
theorem dL_law_1294 : decode cL_law 1294 = .ok (.aload_n 0, 1) := by decide +kernel
theorem dL_law_1295 : decode cL_law 1295 = .ok (.iload_n 3, 1) := by decide +kernel
theorem dL_law_1296 : decode cL_law 1296 = .ok (.iconst 4, 1) := by decide +kernel
theorem dL_law_1297 : decode cL_law 1297 = .ok (.iadd, 1) := by decide +kernel
theorem dL_law_1298 : decode cL_law 1298 = .ok (.iaload, 1) := by decide +kernel
theorem dL_law_1299 : decode cL_law 1299 = .ok (.i2l, 1) := by decide +kernel
theorem dL_law_1300 : decode cL_law 1300 = .ok (.ldc2_w 171, 3) := by decide +kernel
theorem dL_law_1303 : decode cL_law 1303 = .ok (.land, 1) := by decide +kernel
theorem dL_law_1304 : decode cL_law 1304 = .ok (.lor, 1) := by decide +kernel
theorem dL_law_1305 : decode cL_law 1305 = .ok (.invokevirtual 173, 3) := by decide +kernel
theorem dL_law_1308 : decode cL_law 1308 = .ok (.pop2, 1) := by decide +kernel
theorem dL_law_1309 : decode cL_law 1309 = .ok (.aload_n 2, 1) := by decide +kernel
theorem dL_law_1310 : decode cL_law 1310 = .ok (.aload_n 0, 1) := by decide +kernel
theorem dL_law_1311 : decode cL_law 1311 = .ok (.iload_n 3, 1) := by decide +kernel
theorem dL_law_1312 : decode cL_law 1312 = .ok (.iconst 1, 1) := by decide +kernel
theorem dL_law_1313 : decode cL_law 1313 = .ok (.iadd, 1) := by decide +kernel
theorem dL_law_1314 : decode cL_law 1314 = .ok (.iaload, 1) := by decide +kernel
theorem dL_law_1315 : decode cL_law 1315 = .ok (.aload_n 0, 1) := by decide +kernel
theorem dL_law_1316 : decode cL_law 1316 = .ok (.iload_n 3, 1) := by decide +kernel
theorem dL_law_1317 : decode cL_law 1317 = .ok (.iconst 2, 1) := by decide +kernel
theorem dL_law_1318 : decode cL_law 1318 = .ok (.iadd, 1) := by decide +kernel
theorem dL_law_1319 : decode cL_law 1319 = .ok (.iaload, 1) := by decide +kernel
theorem dL_law_1320 : decode cL_law 1320 = .ok (.aload_n 0, 1) := by decide +kernel
theorem dL_law_1321 : decode cL_law 1321 = .ok (.iload_n 3, 1) := by decide +kernel
theorem dL_law_1322 : decode cL_law 1322 = .ok (.iconst 3, 1) := by decide +kernel
theorem dL_law_1323 : decode cL_law 1323 = .ok (.iadd, 1) := by decide +kernel
theorem dL_law_1324 : decode cL_law 1324 = .ok (.iaload, 1) := by decide +kernel
theorem dL_law_1325 : decode cL_law 1325 = .ok (.i2l, 1) := by decide +kernel
theorem dL_law_1326 : decode cL_law 1326 = .ok (.bipush 32, 2) := by decide +kernel
theorem dL_law_1328 : decode cL_law 1328 = .ok (.lshl, 1) := by decide +kernel
theorem dL_law_1329 : decode cL_law 1329 = .ok (.aload_n 0, 1) := by decide +kernel
theorem dL_law_1330 : decode cL_law 1330 = .ok (.iload_n 3, 1) := by decide +kernel
theorem dL_law_1331 : decode cL_law 1331 = .ok (.iconst 4, 1) := by decide +kernel
theorem dL_law_1332 : decode cL_law 1332 = .ok (.iadd, 1) := by decide +kernel
theorem dL_law_1333 : decode cL_law 1333 = .ok (.iaload, 1) := by decide +kernel
theorem dL_law_1334 : decode cL_law 1334 = .ok (.i2l, 1) := by decide +kernel
theorem dL_law_1335 : decode cL_law 1335 = .ok (.ldc2_w 171, 3) := by decide +kernel
theorem dL_law_1338 : decode cL_law 1338 = .ok (.land, 1) := by decide +kernel
theorem dL_law_1339 : decode cL_law 1339 = .ok (.lor, 1) := by decide +kernel
theorem dL_law_1340 : decode cL_law 1340 = .ok (.invokevirtual 177, 3) := by decide +kernel
theorem dL_law_1343 : decode cL_law 1343 = .ok (.pop2, 1) := by decide +kernel
theorem dL_law_1344 : decode cL_law 1344 = .ok (.goto 115, 3) := by decide +kernel
theorem dL_law_1347 : decode cL_law 1347 = .ok (.aload_n 1, 1) := by decide +kernel
theorem dL_law_1348 : decode cL_law 1348 = .ok (.aload_n 0, 1) := by decide +kernel
theorem dL_law_1349 : decode cL_law 1349 = .ok (.iload_n 3, 1) := by decide +kernel
theorem dL_law_1350 : decode cL_law 1350 = .ok (.iconst 1, 1) := by decide +kernel
theorem dL_law_1351 : decode cL_law 1351 = .ok (.iadd, 1) := by decide +kernel
theorem dL_law_1352 : decode cL_law 1352 = .ok (.iaload, 1) := by decide +kernel
theorem dL_law_1353 : decode cL_law 1353 = .ok (.aload_n 0, 1) := by decide +kernel
theorem dL_law_1354 : decode cL_law 1354 = .ok (.iload_n 3, 1) := by decide +kernel
theorem dL_law_1355 : decode cL_law 1355 = .ok (.iconst 2, 1) := by decide +kernel
theorem dL_law_1356 : decode cL_law 1356 = .ok (.iadd, 1) := by decide +kernel
theorem dL_law_1357 : decode cL_law 1357 = .ok (.iaload, 1) := by decide +kernel
theorem dL_law_1358 : decode cL_law 1358 = .ok (.aload_n 0, 1) := by decide +kernel
theorem dL_law_1359 : decode cL_law 1359 = .ok (.iload_n 3, 1) := by decide +kernel
theorem dL_law_1360 : decode cL_law 1360 = .ok (.iconst 3, 1) := by decide +kernel
theorem dL_law_1361 : decode cL_law 1361 = .ok (.iadd, 1) := by decide +kernel
theorem dL_law_1362 : decode cL_law 1362 = .ok (.iaload, 1) := by decide +kernel
theorem dL_law_1363 : decode cL_law 1363 = .ok (.invokevirtual 178, 3) := by decide +kernel
theorem dL_law_1366 : decode cL_law 1366 = .ok (.pop, 1) := by decide +kernel
theorem dL_law_1367 : decode cL_law 1367 = .ok (.aload_n 2, 1) := by decide +kernel
theorem dL_law_1368 : decode cL_law 1368 = .ok (.aload_n 0, 1) := by decide +kernel
theorem dL_law_1369 : decode cL_law 1369 = .ok (.iload_n 3, 1) := by decide +kernel
theorem dL_law_1370 : decode cL_law 1370 = .ok (.iconst 1, 1) := by decide +kernel
theorem dL_law_1371 : decode cL_law 1371 = .ok (.iadd, 1) := by decide +kernel
theorem dL_law_1372 : decode cL_law 1372 = .ok (.iaload, 1) := by decide +kernel
theorem dL_law_1373 : decode cL_law 1373 = .ok (.aload_n 0, 1) := by decide +kernel
theorem dL_law_1374 : decode cL_law 1374 = .ok (.iload_n 3, 1) := by decide +kernel
theorem dL_law_1375 : decode cL_law 1375 = .ok (.iconst 2, 1) := by decide +kernel
theorem dL_law_1376 : decode cL_law 1376 = .ok (.iadd, 1) := by decide +kernel
theorem dL_law_1377 : decode cL_law 1377 = .ok (.iaload, 1) := by decide +kernel
theorem dL_law_1378 : decode cL_law 1378 = .ok (.aload_n 0, 1) := by decide +kernel
theorem dL_law_1379 : decode cL_law 1379 = .ok (.iload_n 3, 1) := by decide +kernel
theorem dL_law_1380 : decode cL_law 1380 = .ok (.iconst 3, 1) := by decide +kernel
theorem dL_law_1381 : decode cL_law 1381 = .ok (.iadd, 1) := by decide +kernel
theorem dL_law_1382 : decode cL_law 1382 = .ok (.iaload, 1) := by decide +kernel
theorem dL_law_1383 : decode cL_law 1383 = .ok (.invokevirtual 181, 3) := by decide +kernel
theorem dL_law_1386 : decode cL_law 1386 = .ok (.pop, 1) := by decide +kernel
theorem dL_law_1387 : decode cL_law 1387 = .ok (.goto 72, 3) := by decide +kernel
theorem dL_law_1390 : decode cL_law 1390 = .ok (.aload_n 1, 1) := by decide +kernel
theorem dL_law_1391 : decode cL_law 1391 = .ok (.aload_n 0, 1) := by decide +kernel
theorem dL_law_1392 : decode cL_law 1392 = .ok (.iload_n 3, 1) := by decide +kernel
theorem dL_law_1393 : decode cL_law 1393 = .ok (.iconst 1, 1) := by decide +kernel
theorem dL_law_1394 : decode cL_law 1394 = .ok (.iadd, 1) := by decide +kernel
theorem dL_law_1395 : decode cL_law 1395 = .ok (.iaload, 1) := by decide +kernel
theorem dL_law_1396 : decode cL_law 1396 = .ok (.invokevirtual 182, 3) := by decide +kernel
theorem dL_law_1399 : decode cL_law 1399 = .ok (.pop, 1) := by decide +kernel
theorem dL_law_1400 : decode cL_law 1400 = .ok (.aload_n 2, 1) := by decide +kernel
theorem dL_law_1401 : decode cL_law 1401 = .ok (.aload_n 0, 1) := by decide +kernel
theorem dL_law_1402 : decode cL_law 1402 = .ok (.iload_n 3, 1) := by decide +kernel
theorem dL_law_1403 : decode cL_law 1403 = .ok (.iconst 1, 1) := by decide +kernel
theorem dL_law_1404 : decode cL_law 1404 = .ok (.iadd, 1) := by decide +kernel
theorem dL_law_1405 : decode cL_law 1405 = .ok (.iaload, 1) := by decide +kernel
theorem dL_law_1406 : decode cL_law 1406 = .ok (.invokevirtual 185, 3) := by decide +kernel
theorem dL_law_1409 : decode cL_law 1409 = .ok (.pop, 1) := by decide +kernel
theorem dL_law_1410 : decode cL_law 1410 = .ok (.goto 49, 3) := by decide +kernel
theorem dL_law_1413 : decode cL_law 1413 = .ok (.aload_n 1, 1) := by decide +kernel
theorem dL_law_1414 : decode cL_law 1414 = .ok (.aload_n 0, 1) := by decide +kernel
theorem dL_law_1415 : decode cL_law 1415 = .ok (.iload_n 3, 1) := by decide +kernel
theorem dL_law_1416 : decode cL_law 1416 = .ok (.iconst 1, 1) := by decide +kernel
theorem dL_law_1417 : decode cL_law 1417 = .ok (.iadd, 1) := by decide +kernel
theorem dL_law_1418 : decode cL_law 1418 = .ok (.iaload, 1) := by decide +kernel
theorem dL_law_1419 : decode cL_law 1419 = .ok (.invokevirtual 186, 3) := by decide +kernel
theorem dL_law_1422 : decode cL_law 1422 = .ok (.pop, 1) := by decide +kernel
theorem dL_law_1423 : decode cL_law 1423 = .ok (.aload_n 2, 1) := by decide +kernel
theorem dL_law_1424 : decode cL_law 1424 = .ok (.aload_n 0, 1) := by decide +kernel
theorem dL_law_1425 : decode cL_law 1425 = .ok (.iload_n 3, 1) := by decide +kernel
theorem dL_law_1426 : decode cL_law 1426 = .ok (.iconst 1, 1) := by decide +kernel
theorem dL_law_1427 : decode cL_law 1427 = .ok (.iadd, 1) := by decide +kernel
theorem dL_law_1428 : decode cL_law 1428 = .ok (.iaload, 1) := by decide +kernel
theorem dL_law_1429 : decode cL_law 1429 = .ok (.invokevirtual 189, 3) := by decide +kernel
theorem dL_law_1432 : decode cL_law 1432 = .ok (.pop, 1) := by decide +kernel
theorem dL_law_1433 : decode cL_law 1433 = .ok (.goto 26, 3) := by decide +kernel
theorem dL_law_1436 : decode cL_law 1436 = .ok (.aload_n 1, 1) := by decide +kernel
theorem dL_law_1437 : decode cL_law 1437 = .ok (.aload_n 0, 1) := by decide +kernel
theorem dL_law_1438 : decode cL_law 1438 = .ok (.iload_n 3, 1) := by decide +kernel
theorem dL_law_1439 : decode cL_law 1439 = .ok (.iconst 1, 1) := by decide +kernel
theorem dL_law_1440 : decode cL_law 1440 = .ok (.iadd, 1) := by decide +kernel
theorem dL_law_1441 : decode cL_law 1441 = .ok (.iaload, 1) := by decide +kernel
theorem dL_law_1442 : decode cL_law 1442 = .ok (.invokevirtual 190, 3) := by decide +kernel
theorem dL_law_1445 : decode cL_law 1445 = .ok (.pop, 1) := by decide +kernel
theorem dL_law_1446 : decode cL_law 1446 = .ok (.aload_n 2, 1) := by decide +kernel
theorem dL_law_1447 : decode cL_law 1447 = .ok (.aload_n 0, 1) := by decide +kernel
theorem dL_law_1448 : decode cL_law 1448 = .ok (.iload_n 3, 1) := by decide +kernel
theorem dL_law_1449 : decode cL_law 1449 = .ok (.iconst 1, 1) := by decide +kernel
theorem dL_law_1450 : decode cL_law 1450 = .ok (.iadd, 1) := by decide +kernel
theorem dL_law_1451 : decode cL_law 1451 = .ok (.iaload, 1) := by decide +kernel
theorem dL_law_1452 : decode cL_law 1452 = .ok (.invokevirtual 193, 3) := by decide +kernel
theorem dL_law_1455 : decode cL_law 1455 = .ok (.pop, 1) := by decide +kernel
theorem dL_law_1456 : decode cL_law 1456 = .ok (.goto 3, 3) := by decide +kernel
theorem dL_law_1459 : decode cL_law 1459 = .ok (.iinc 3 6, 3) := by decide +kernel
theorem dL_law_1462 : decode cL_law 1462 = .ok (.goto (-1444), 3) := by decide +kernel
theorem dL_law_1465 : decode cL_law 1465 = .ok (.iconst 1, 1) := by decide +kernel
theorem dL_law_1466 : decode cL_law 1466 = .ok (.ireturn, 1) := by decide +kernel
theorem wm_3_223 : Cond.methodLink RL 40 yX11_opposites ∈ WG := wg_t3 (List.mem_of_getElem? (i := 223) rfl) rfl
theorem wm_6_204 : Cond.methodLink RL 43 yX12_opposites ∈ WG := wg_t6 (List.mem_of_getElem? (i := 204) rfl) rfl
theorem wm_6_207 : Cond.code yX12_opposites cX12_opposites 2 (some .int) ∈ WG := wg_t6 (List.mem_of_getElem? (i := 207) rfl) rfl
theorem wm_6_205 : Cond.instanceMethod yX12_opposites ∈ WG := wg_t6 (List.mem_of_getElem? (i := 205) rfl) rfl
theorem wm_6_206 : Cond.selects RX12 yX12_opposites yX12_opposites ∈ WG := wg_t6 (List.mem_of_getElem? (i := 206) rfl) rfl
theorem wm_3_232 : Cond.methodLink RL 44 yX11_talk ∈ WG := wg_t3 (List.mem_of_getElem? (i := 232) rfl) rfl
theorem wm_3_235 : Cond.code yX11_talk cX11_talk 4 (some .int) ∈ WG := wg_t3 (List.mem_of_getElem? (i := 235) rfl) rfl
theorem wm_3_233 : Cond.instanceMethod yX11_talk ∈ WG := wg_t3 (List.mem_of_getElem? (i := 233) rfl) rfl
theorem wm_3_234 : Cond.selects RX11 yX11_talk yX11_talk ∈ WG := wg_t3 (List.mem_of_getElem? (i := 234) rfl) rfl
theorem wm_6_212 : Cond.methodLink RL 47 yX12_talk ∈ WG := wg_t6 (List.mem_of_getElem? (i := 212) rfl) rfl
theorem wm_6_215 : Cond.code yX12_talk cX12_talk 4 (some .int) ∈ WG := wg_t6 (List.mem_of_getElem? (i := 215) rfl) rfl
theorem wm_6_213 : Cond.instanceMethod yX12_talk ∈ WG := wg_t6 (List.mem_of_getElem? (i := 213) rfl) rfl
theorem wm_6_214 : Cond.selects RX12 yX12_talk yX12_talk ∈ WG := wg_t6 (List.mem_of_getElem? (i := 214) rfl) rfl
theorem wm_4_49 : Cond.methodLink RL 48 yX11_send ∈ WG := wg_t4 (List.mem_of_getElem? (i := 49) rfl) rfl
theorem wm_4_52 : Cond.code yX11_send cX11_send 2 (some .int) ∈ WG := wg_t4 (List.mem_of_getElem? (i := 52) rfl) rfl
theorem wm_4_50 : Cond.instanceMethod yX11_send ∈ WG := wg_t4 (List.mem_of_getElem? (i := 50) rfl) rfl
theorem wm_4_51 : Cond.selects RX11 yX11_send yX11_send ∈ WG := wg_t4 (List.mem_of_getElem? (i := 51) rfl) rfl
theorem wm_6_236 : Cond.methodLink RL 51 yX12_send ∈ WG := wg_t6 (List.mem_of_getElem? (i := 236) rfl) rfl
theorem wm_6_239 : Cond.code yX12_send cX12_send 2 (some .int) ∈ WG := wg_t6 (List.mem_of_getElem? (i := 239) rfl) rfl
theorem wm_6_237 : Cond.instanceMethod yX12_send ∈ WG := wg_t6 (List.mem_of_getElem? (i := 237) rfl) rfl
theorem wm_6_238 : Cond.selects RX12 yX12_send yX12_send ∈ WG := wg_t6 (List.mem_of_getElem? (i := 238) rfl) rfl
theorem wm_4_63 : Cond.methodLink RL 52 yX11_call ∈ WG := wg_t4 (List.mem_of_getElem? (i := 63) rfl) rfl
theorem wm_4_66 : Cond.code yX11_call cX11_call 2 (some .int) ∈ WG := wg_t4 (List.mem_of_getElem? (i := 66) rfl) rfl
theorem wm_4_64 : Cond.instanceMethod yX11_call ∈ WG := wg_t4 (List.mem_of_getElem? (i := 64) rfl) rfl
theorem wm_4_65 : Cond.selects RX11 yX11_call yX11_call ∈ WG := wg_t4 (List.mem_of_getElem? (i := 65) rfl) rfl
theorem wm_7_11 : Cond.methodLink RL 55 yX12_call ∈ WG := wg_t7 (List.mem_of_getElem? (i := 11) rfl) rfl
theorem wm_7_14 : Cond.code yX12_call cX12_call 2 (some .int) ∈ WG := wg_t7 (List.mem_of_getElem? (i := 14) rfl) rfl
theorem wm_7_12 : Cond.instanceMethod yX12_call ∈ WG := wg_t7 (List.mem_of_getElem? (i := 12) rfl) rfl
theorem wm_7_13 : Cond.selects RX12 yX12_call yX12_call ∈ WG := wg_t7 (List.mem_of_getElem? (i := 13) rfl) rfl
theorem wm_4_67 : Cond.methodLink RL 56 yX11_days ∈ WG := wg_t4 (List.mem_of_getElem? (i := 67) rfl) rfl
theorem wm_4_70 : Cond.code yX11_days cX11_days 2 (some .int) ∈ WG := wg_t4 (List.mem_of_getElem? (i := 70) rfl) rfl
theorem wm_4_68 : Cond.instanceMethod yX11_days ∈ WG := wg_t4 (List.mem_of_getElem? (i := 68) rfl) rfl
theorem wm_4_69 : Cond.selects RX11 yX11_days yX11_days ∈ WG := wg_t4 (List.mem_of_getElem? (i := 69) rfl) rfl
theorem wm_7_15 : Cond.methodLink RL 59 yX12_days ∈ WG := wg_t7 (List.mem_of_getElem? (i := 15) rfl) rfl
theorem wm_7_18 : Cond.code yX12_days cX12_days 2 (some .int) ∈ WG := wg_t7 (List.mem_of_getElem? (i := 18) rfl) rfl
theorem wm_7_16 : Cond.instanceMethod yX12_days ∈ WG := wg_t7 (List.mem_of_getElem? (i := 16) rfl) rfl
theorem wm_7_17 : Cond.selects RX12 yX12_days yX12_days ∈ WG := wg_t7 (List.mem_of_getElem? (i := 17) rfl) rfl
theorem wm_4_71 : Cond.methodLink RL 60 yX11_undo ∈ WG := wg_t4 (List.mem_of_getElem? (i := 71) rfl) rfl
theorem wm_4_74 : Cond.code yX11_undo cX11_undo 2 (some .int) ∈ WG := wg_t4 (List.mem_of_getElem? (i := 74) rfl) rfl
theorem wm_4_72 : Cond.instanceMethod yX11_undo ∈ WG := wg_t4 (List.mem_of_getElem? (i := 72) rfl) rfl
theorem wm_4_73 : Cond.selects RX11 yX11_undo yX11_undo ∈ WG := wg_t4 (List.mem_of_getElem? (i := 73) rfl) rfl
theorem wm_7_20 : Cond.methodLink RL 63 yX12_undo ∈ WG := wg_t7 (List.mem_of_getElem? (i := 20) rfl) rfl
theorem wm_7_23 : Cond.code yX12_undo cX12_undo 3 (some .int) ∈ WG := wg_t7 (List.mem_of_getElem? (i := 23) rfl) rfl
theorem wm_7_21 : Cond.instanceMethod yX12_undo ∈ WG := wg_t7 (List.mem_of_getElem? (i := 21) rfl) rfl
theorem wm_7_22 : Cond.selects RX12 yX12_undo yX12_undo ∈ WG := wg_t7 (List.mem_of_getElem? (i := 22) rfl) rfl
theorem hd_X12_opposites : yX12_opposites.cls ≠ "java/lang/invoke/MethodHandle" ∧ yX12_opposites.cls ≠ "java/lang/invoke/VarHandle" ∧ (parseMethodDescriptor yX12_opposites.desc).map (fun d => d.parameters.length) = some 1 := by decide +kernel
theorem hd_X11_talk : yX11_talk.cls ≠ "java/lang/invoke/MethodHandle" ∧ yX11_talk.cls ≠ "java/lang/invoke/VarHandle" ∧ (parseMethodDescriptor yX11_talk.desc).map (fun d => d.parameters.length) = some 2 := by decide +kernel
theorem hd_X12_talk : yX12_talk.cls ≠ "java/lang/invoke/MethodHandle" ∧ yX12_talk.cls ≠ "java/lang/invoke/VarHandle" ∧ (parseMethodDescriptor yX12_talk.desc).map (fun d => d.parameters.length) = some 2 := by decide +kernel
theorem hd_X11_send : yX11_send.cls ≠ "java/lang/invoke/MethodHandle" ∧ yX11_send.cls ≠ "java/lang/invoke/VarHandle" ∧ (parseMethodDescriptor yX11_send.desc).map (fun d => d.parameters.length) = some 1 := by decide +kernel
theorem hd_X12_send : yX12_send.cls ≠ "java/lang/invoke/MethodHandle" ∧ yX12_send.cls ≠ "java/lang/invoke/VarHandle" ∧ (parseMethodDescriptor yX12_send.desc).map (fun d => d.parameters.length) = some 1 := by decide +kernel
theorem hd_X11_call : yX11_call.cls ≠ "java/lang/invoke/MethodHandle" ∧ yX11_call.cls ≠ "java/lang/invoke/VarHandle" ∧ (parseMethodDescriptor yX11_call.desc).map (fun d => d.parameters.length) = some 1 := by decide +kernel
theorem hd_X12_call : yX12_call.cls ≠ "java/lang/invoke/MethodHandle" ∧ yX12_call.cls ≠ "java/lang/invoke/VarHandle" ∧ (parseMethodDescriptor yX12_call.desc).map (fun d => d.parameters.length) = some 1 := by decide +kernel
theorem hd_X11_days : yX11_days.cls ≠ "java/lang/invoke/MethodHandle" ∧ yX11_days.cls ≠ "java/lang/invoke/VarHandle" ∧ (parseMethodDescriptor yX11_days.desc).map (fun d => d.parameters.length) = some 1 := by decide +kernel
theorem hd_X12_days : yX12_days.cls ≠ "java/lang/invoke/MethodHandle" ∧ yX12_days.cls ≠ "java/lang/invoke/VarHandle" ∧ (parseMethodDescriptor yX12_days.desc).map (fun d => d.parameters.length) = some 1 := by decide +kernel
theorem hd_X11_undo : yX11_undo.cls ≠ "java/lang/invoke/MethodHandle" ∧ yX11_undo.cls ≠ "java/lang/invoke/VarHandle" ∧ (parseMethodDescriptor yX11_undo.desc).map (fun d => d.parameters.length) = some 1 := by decide +kernel
theorem hd_X12_undo : yX12_undo.cls ≠ "java/lang/invoke/MethodHandle" ∧ yX12_undo.cls ≠ "java/lang/invoke/VarHandle" ∧ (parseMethodDescriptor yX12_undo.desc).map (fun d => d.parameters.length) = some 1 := by decide +kernel
theorem wm_4_79 : Cond.methodLink RL 64 yX11_judge ∈ WG := wg_t4 (List.mem_of_getElem? (i := 79) rfl) rfl
theorem wm_4_82 : Cond.code yX11_judge cX11_judge 5 (some .int) ∈ WG := wg_t4 (List.mem_of_getElem? (i := 82) rfl) rfl
theorem wm_4_80 : Cond.instanceMethod yX11_judge ∈ WG := wg_t4 (List.mem_of_getElem? (i := 80) rfl) rfl
theorem wm_4_81 : Cond.selects RX11 yX11_judge yX11_judge ∈ WG := wg_t4 (List.mem_of_getElem? (i := 81) rfl) rfl
theorem wm_7_25 : Cond.methodLink RL 67 yX12_judge ∈ WG := wg_t7 (List.mem_of_getElem? (i := 25) rfl) rfl
theorem wm_7_28 : Cond.code yX12_judge cX12_judge 7 (some .int) ∈ WG := wg_t7 (List.mem_of_getElem? (i := 28) rfl) rfl
theorem wm_7_26 : Cond.instanceMethod yX12_judge ∈ WG := wg_t7 (List.mem_of_getElem? (i := 26) rfl) rfl
theorem wm_7_27 : Cond.selects RX12 yX12_judge yX12_judge ∈ WG := wg_t7 (List.mem_of_getElem? (i := 27) rfl) rfl
theorem wm_4_118 : Cond.methodLink RL 68 yX11_perform ∈ WG := wg_t4 (List.mem_of_getElem? (i := 118) rfl) rfl
theorem wm_4_121 : Cond.code yX11_perform cX11_perform 3 (some .int) ∈ WG := wg_t4 (List.mem_of_getElem? (i := 121) rfl) rfl
theorem wm_4_119 : Cond.instanceMethod yX11_perform ∈ WG := wg_t4 (List.mem_of_getElem? (i := 119) rfl) rfl
theorem wm_4_120 : Cond.selects RX11 yX11_perform yX11_perform ∈ WG := wg_t4 (List.mem_of_getElem? (i := 120) rfl) rfl
theorem wm_7_74 : Cond.methodLink RL 71 yX12_perform ∈ WG := wg_t7 (List.mem_of_getElem? (i := 74) rfl) rfl
theorem wm_7_77 : Cond.code yX12_perform cX12_perform 4 (some .int) ∈ WG := wg_t7 (List.mem_of_getElem? (i := 77) rfl) rfl
theorem wm_7_75 : Cond.instanceMethod yX12_perform ∈ WG := wg_t7 (List.mem_of_getElem? (i := 75) rfl) rfl
theorem wm_7_76 : Cond.selects RX12 yX12_perform yX12_perform ∈ WG := wg_t7 (List.mem_of_getElem? (i := 76) rfl) rfl
theorem wm_4_122 : Cond.methodLink RL 72 yX11_year ∈ WG := wg_t4 (List.mem_of_getElem? (i := 122) rfl) rfl
theorem wm_4_125 : Cond.code yX11_year cX11_year 8 (some .int) ∈ WG := wg_t4 (List.mem_of_getElem? (i := 125) rfl) rfl
theorem wm_4_123 : Cond.instanceMethod yX11_year ∈ WG := wg_t4 (List.mem_of_getElem? (i := 123) rfl) rfl
theorem wm_4_124 : Cond.selects RX11 yX11_year yX11_year ∈ WG := wg_t4 (List.mem_of_getElem? (i := 124) rfl) rfl
theorem wm_7_78 : Cond.methodLink RL 75 yX12_year ∈ WG := wg_t7 (List.mem_of_getElem? (i := 78) rfl) rfl
theorem wm_7_81 : Cond.code yX12_year cX12_year 6 (some .int) ∈ WG := wg_t7 (List.mem_of_getElem? (i := 81) rfl) rfl
theorem wm_7_79 : Cond.instanceMethod yX12_year ∈ WG := wg_t7 (List.mem_of_getElem? (i := 79) rfl) rfl
theorem wm_7_80 : Cond.selects RX12 yX12_year yX12_year ∈ WG := wg_t7 (List.mem_of_getElem? (i := 80) rfl) rfl
theorem wm_4_133 : Cond.methodLink RL 76 yX11_sits ∈ WG := wg_t4 (List.mem_of_getElem? (i := 133) rfl) rfl
theorem wm_4_136 : Cond.code yX11_sits cX11_sits 2 (some .int) ∈ WG := wg_t4 (List.mem_of_getElem? (i := 136) rfl) rfl
theorem wm_4_134 : Cond.instanceMethod yX11_sits ∈ WG := wg_t4 (List.mem_of_getElem? (i := 134) rfl) rfl
theorem wm_4_135 : Cond.selects RX11 yX11_sits yX11_sits ∈ WG := wg_t4 (List.mem_of_getElem? (i := 135) rfl) rfl
theorem wm_7_92 : Cond.methodLink RL 79 yX12_sits ∈ WG := wg_t7 (List.mem_of_getElem? (i := 92) rfl) rfl
theorem wm_7_95 : Cond.code yX12_sits cX12_sits 2 (some .int) ∈ WG := wg_t7 (List.mem_of_getElem? (i := 95) rfl) rfl
theorem wm_7_93 : Cond.instanceMethod yX12_sits ∈ WG := wg_t7 (List.mem_of_getElem? (i := 93) rfl) rfl
theorem wm_7_94 : Cond.selects RX12 yX12_sits yX12_sits ∈ WG := wg_t7 (List.mem_of_getElem? (i := 94) rfl) rfl
theorem wm_4_149 : Cond.methodLink RL 80 yX11_pairs ∈ WG := wg_t4 (List.mem_of_getElem? (i := 149) rfl) rfl
theorem wm_4_152 : Cond.code yX11_pairs cX11_pairs 3 (some .int) ∈ WG := wg_t4 (List.mem_of_getElem? (i := 152) rfl) rfl
theorem wm_4_150 : Cond.instanceMethod yX11_pairs ∈ WG := wg_t4 (List.mem_of_getElem? (i := 150) rfl) rfl
theorem wm_4_151 : Cond.selects RX11 yX11_pairs yX11_pairs ∈ WG := wg_t4 (List.mem_of_getElem? (i := 151) rfl) rfl
theorem wm_7_108 : Cond.methodLink RL 83 yX12_pairs ∈ WG := wg_t7 (List.mem_of_getElem? (i := 108) rfl) rfl
theorem wm_7_111 : Cond.code yX12_pairs cX12_pairs 3 (some .int) ∈ WG := wg_t7 (List.mem_of_getElem? (i := 111) rfl) rfl
theorem wm_7_109 : Cond.instanceMethod yX12_pairs ∈ WG := wg_t7 (List.mem_of_getElem? (i := 109) rfl) rfl
theorem wm_7_110 : Cond.selects RX12 yX12_pairs yX12_pairs ∈ WG := wg_t7 (List.mem_of_getElem? (i := 110) rfl) rfl
theorem wm_4_178 : Cond.methodLink RL 84 yX11_ways ∈ WG := wg_t4 (List.mem_of_getElem? (i := 178) rfl) rfl
theorem wm_4_181 : Cond.code yX11_ways cX11_ways 2 (some .int) ∈ WG := wg_t4 (List.mem_of_getElem? (i := 181) rfl) rfl
theorem wm_4_179 : Cond.instanceMethod yX11_ways ∈ WG := wg_t4 (List.mem_of_getElem? (i := 179) rfl) rfl
theorem wm_4_180 : Cond.selects RX11 yX11_ways yX11_ways ∈ WG := wg_t4 (List.mem_of_getElem? (i := 180) rfl) rfl
theorem wm_7_104 : Cond.methodLink RL 87 yX12_ways ∈ WG := wg_t7 (List.mem_of_getElem? (i := 104) rfl) rfl
theorem wm_7_107 : Cond.code yX12_ways cX12_ways 2 (some .int) ∈ WG := wg_t7 (List.mem_of_getElem? (i := 107) rfl) rfl
theorem wm_7_105 : Cond.instanceMethod yX12_ways ∈ WG := wg_t7 (List.mem_of_getElem? (i := 105) rfl) rfl
theorem wm_7_106 : Cond.selects RX12 yX12_ways yX12_ways ∈ WG := wg_t7 (List.mem_of_getElem? (i := 106) rfl) rfl
theorem hd_X11_judge : yX11_judge.cls ≠ "java/lang/invoke/MethodHandle" ∧ yX11_judge.cls ≠ "java/lang/invoke/VarHandle" ∧ (parseMethodDescriptor yX11_judge.desc).map (fun d => d.parameters.length) = some 2 := by decide +kernel
theorem hd_X12_judge : yX12_judge.cls ≠ "java/lang/invoke/MethodHandle" ∧ yX12_judge.cls ≠ "java/lang/invoke/VarHandle" ∧ (parseMethodDescriptor yX12_judge.desc).map (fun d => d.parameters.length) = some 2 := by decide +kernel
theorem hd_X11_perform : yX11_perform.cls ≠ "java/lang/invoke/MethodHandle" ∧ yX11_perform.cls ≠ "java/lang/invoke/VarHandle" ∧ (parseMethodDescriptor yX11_perform.desc).map (fun d => d.parameters.length) = some 1 := by decide +kernel
theorem hd_X12_perform : yX12_perform.cls ≠ "java/lang/invoke/MethodHandle" ∧ yX12_perform.cls ≠ "java/lang/invoke/VarHandle" ∧ (parseMethodDescriptor yX12_perform.desc).map (fun d => d.parameters.length) = some 1 := by decide +kernel
theorem hd_X11_year : yX11_year.cls ≠ "java/lang/invoke/MethodHandle" ∧ yX11_year.cls ≠ "java/lang/invoke/VarHandle" ∧ (parseMethodDescriptor yX11_year.desc).map (fun d => d.parameters.length) = some 2 := by decide +kernel
theorem hd_X12_year : yX12_year.cls ≠ "java/lang/invoke/MethodHandle" ∧ yX12_year.cls ≠ "java/lang/invoke/VarHandle" ∧ (parseMethodDescriptor yX12_year.desc).map (fun d => d.parameters.length) = some 2 := by decide +kernel
theorem hd_X11_sits : yX11_sits.cls ≠ "java/lang/invoke/MethodHandle" ∧ yX11_sits.cls ≠ "java/lang/invoke/VarHandle" ∧ (parseMethodDescriptor yX11_sits.desc).map (fun d => d.parameters.length) = some 1 := by decide +kernel
theorem hd_X12_sits : yX12_sits.cls ≠ "java/lang/invoke/MethodHandle" ∧ yX12_sits.cls ≠ "java/lang/invoke/VarHandle" ∧ (parseMethodDescriptor yX12_sits.desc).map (fun d => d.parameters.length) = some 1 := by decide +kernel
theorem hd_X11_pairs : yX11_pairs.cls ≠ "java/lang/invoke/MethodHandle" ∧ yX11_pairs.cls ≠ "java/lang/invoke/VarHandle" ∧ (parseMethodDescriptor yX11_pairs.desc).map (fun d => d.parameters.length) = some 2 := by decide +kernel
theorem hd_X12_pairs : yX12_pairs.cls ≠ "java/lang/invoke/MethodHandle" ∧ yX12_pairs.cls ≠ "java/lang/invoke/VarHandle" ∧ (parseMethodDescriptor yX12_pairs.desc).map (fun d => d.parameters.length) = some 2 := by decide +kernel
theorem hd_X11_ways : yX11_ways.cls ≠ "java/lang/invoke/MethodHandle" ∧ yX11_ways.cls ≠ "java/lang/invoke/VarHandle" ∧ (parseMethodDescriptor yX11_ways.desc).map (fun d => d.parameters.length) = some 1 := by decide +kernel
theorem hd_X12_ways : yX12_ways.cls ≠ "java/lang/invoke/MethodHandle" ∧ yX12_ways.cls ≠ "java/lang/invoke/VarHandle" ∧ (parseMethodDescriptor yX12_ways.desc).map (fun d => d.parameters.length) = some 1 := by decide +kernel
theorem wm_4_186 : Cond.methodLink RL 88 yX11_bar ∈ WG := wg_t4 (List.mem_of_getElem? (i := 186) rfl) rfl
theorem wm_4_189 : Cond.code yX11_bar cX11_bar 4 (some .int) ∈ WG := wg_t4 (List.mem_of_getElem? (i := 189) rfl) rfl
theorem wm_4_187 : Cond.instanceMethod yX11_bar ∈ WG := wg_t4 (List.mem_of_getElem? (i := 187) rfl) rfl
theorem wm_4_188 : Cond.selects RX11 yX11_bar yX11_bar ∈ WG := wg_t4 (List.mem_of_getElem? (i := 188) rfl) rfl
theorem wm_7_120 : Cond.methodLink RL 91 yX12_bar ∈ WG := wg_t7 (List.mem_of_getElem? (i := 120) rfl) rfl
theorem wm_7_123 : Cond.code yX12_bar cX12_bar 6 (some .int) ∈ WG := wg_t7 (List.mem_of_getElem? (i := 123) rfl) rfl
theorem wm_7_121 : Cond.instanceMethod yX12_bar ∈ WG := wg_t7 (List.mem_of_getElem? (i := 121) rfl) rfl
theorem wm_7_122 : Cond.selects RX12 yX12_bar yX12_bar ∈ WG := wg_t7 (List.mem_of_getElem? (i := 122) rfl) rfl
theorem wm_4_203 : Cond.methodLink RL 92 yX11_pieces ∈ WG := wg_t4 (List.mem_of_getElem? (i := 203) rfl) rfl
theorem wm_4_206 : Cond.code yX11_pieces cX11_pieces 2 (some .int) ∈ WG := wg_t4 (List.mem_of_getElem? (i := 206) rfl) rfl
theorem wm_4_204 : Cond.instanceMethod yX11_pieces ∈ WG := wg_t4 (List.mem_of_getElem? (i := 204) rfl) rfl
theorem wm_4_205 : Cond.selects RX11 yX11_pieces yX11_pieces ∈ WG := wg_t4 (List.mem_of_getElem? (i := 205) rfl) rfl
theorem wm_7_132 : Cond.methodLink RL 95 yX12_pieces ∈ WG := wg_t7 (List.mem_of_getElem? (i := 132) rfl) rfl
theorem wm_7_135 : Cond.code yX12_pieces cX12_pieces 2 (some .int) ∈ WG := wg_t7 (List.mem_of_getElem? (i := 135) rfl) rfl
theorem wm_7_133 : Cond.instanceMethod yX12_pieces ∈ WG := wg_t7 (List.mem_of_getElem? (i := 133) rfl) rfl
theorem wm_7_134 : Cond.selects RX12 yX12_pieces yX12_pieces ∈ WG := wg_t7 (List.mem_of_getElem? (i := 134) rfl) rfl
theorem wm_4_208 : Cond.methodLink RL 96 yX11_bestDay ∈ WG := wg_t4 (List.mem_of_getElem? (i := 208) rfl) rfl
theorem wm_4_211 : Cond.code yX11_bestDay cX11_bestDay 6 (some .int) ∈ WG := wg_t4 (List.mem_of_getElem? (i := 211) rfl) rfl
theorem wm_4_209 : Cond.instanceMethod yX11_bestDay ∈ WG := wg_t4 (List.mem_of_getElem? (i := 209) rfl) rfl
theorem wm_4_210 : Cond.selects RX11 yX11_bestDay yX11_bestDay ∈ WG := wg_t4 (List.mem_of_getElem? (i := 210) rfl) rfl
theorem wm_7_136 : Cond.methodLink RL 100 yX12_bestDay ∈ WG := wg_t7 (List.mem_of_getElem? (i := 136) rfl) rfl
theorem wm_7_139 : Cond.code yX12_bestDay cX12_bestDay 4 (some .int) ∈ WG := wg_t7 (List.mem_of_getElem? (i := 139) rfl) rfl
theorem wm_7_137 : Cond.instanceMethod yX12_bestDay ∈ WG := wg_t7 (List.mem_of_getElem? (i := 137) rfl) rfl
theorem wm_7_138 : Cond.selects RX12 yX12_bestDay yX12_bestDay ∈ WG := wg_t7 (List.mem_of_getElem? (i := 138) rfl) rfl
theorem wm_4_212 : Cond.methodLink RL 101 yX11_firstDay ∈ WG := wg_t4 (List.mem_of_getElem? (i := 212) rfl) rfl
theorem wm_4_215 : Cond.code yX11_firstDay cX11_firstDay 5 (some .int) ∈ WG := wg_t4 (List.mem_of_getElem? (i := 215) rfl) rfl
theorem wm_4_213 : Cond.instanceMethod yX11_firstDay ∈ WG := wg_t4 (List.mem_of_getElem? (i := 213) rfl) rfl
theorem wm_4_214 : Cond.selects RX11 yX11_firstDay yX11_firstDay ∈ WG := wg_t4 (List.mem_of_getElem? (i := 214) rfl) rfl
theorem wm_7_140 : Cond.methodLink RL 104 yX12_firstDay ∈ WG := wg_t7 (List.mem_of_getElem? (i := 140) rfl) rfl
theorem wm_7_143 : Cond.code yX12_firstDay cX12_firstDay 3 (some .int) ∈ WG := wg_t7 (List.mem_of_getElem? (i := 143) rfl) rfl
theorem wm_7_141 : Cond.instanceMethod yX12_firstDay ∈ WG := wg_t7 (List.mem_of_getElem? (i := 141) rfl) rfl
theorem wm_7_142 : Cond.selects RX12 yX12_firstDay yX12_firstDay ∈ WG := wg_t7 (List.mem_of_getElem? (i := 142) rfl) rfl
theorem wm_4_216 : Cond.methodLink RL 105 yX11_quorum ∈ WG := wg_t4 (List.mem_of_getElem? (i := 216) rfl) rfl
theorem wm_4_219 : Cond.code yX11_quorum cX11_quorum 4 (some .int) ∈ WG := wg_t4 (List.mem_of_getElem? (i := 219) rfl) rfl
theorem wm_4_217 : Cond.instanceMethod yX11_quorum ∈ WG := wg_t4 (List.mem_of_getElem? (i := 217) rfl) rfl
theorem wm_4_218 : Cond.selects RX11 yX11_quorum yX11_quorum ∈ WG := wg_t4 (List.mem_of_getElem? (i := 218) rfl) rfl
theorem wm_7_144 : Cond.methodLink RL 108 yX12_quorum ∈ WG := wg_t7 (List.mem_of_getElem? (i := 144) rfl) rfl
theorem wm_7_147 : Cond.code yX12_quorum cX12_quorum 4 (some .int) ∈ WG := wg_t7 (List.mem_of_getElem? (i := 147) rfl) rfl
theorem wm_7_145 : Cond.instanceMethod yX12_quorum ∈ WG := wg_t7 (List.mem_of_getElem? (i := 145) rfl) rfl
theorem wm_7_146 : Cond.selects RX12 yX12_quorum yX12_quorum ∈ WG := wg_t7 (List.mem_of_getElem? (i := 146) rfl) rfl
theorem wm_4_220 : Cond.methodLink RL 109 yX11_cover ∈ WG := wg_t4 (List.mem_of_getElem? (i := 220) rfl) rfl
theorem wm_4_223 : Cond.code yX11_cover cX11_cover 3 (some .int) ∈ WG := wg_t4 (List.mem_of_getElem? (i := 223) rfl) rfl
theorem wm_4_221 : Cond.instanceMethod yX11_cover ∈ WG := wg_t4 (List.mem_of_getElem? (i := 221) rfl) rfl
theorem wm_4_222 : Cond.selects RX11 yX11_cover yX11_cover ∈ WG := wg_t4 (List.mem_of_getElem? (i := 222) rfl) rfl
theorem wm_7_148 : Cond.methodLink RL 112 yX12_cover ∈ WG := wg_t7 (List.mem_of_getElem? (i := 148) rfl) rfl
theorem wm_7_151 : Cond.code yX12_cover cX12_cover 6 (some .int) ∈ WG := wg_t7 (List.mem_of_getElem? (i := 151) rfl) rfl
theorem wm_7_149 : Cond.instanceMethod yX12_cover ∈ WG := wg_t7 (List.mem_of_getElem? (i := 149) rfl) rfl
theorem wm_7_150 : Cond.selects RX12 yX12_cover yX12_cover ∈ WG := wg_t7 (List.mem_of_getElem? (i := 150) rfl) rfl
theorem hd_X11_bar : yX11_bar.cls ≠ "java/lang/invoke/MethodHandle" ∧ yX11_bar.cls ≠ "java/lang/invoke/VarHandle" ∧ (parseMethodDescriptor yX11_bar.desc).map (fun d => d.parameters.length) = some 2 := by decide +kernel
theorem hd_X12_bar : yX12_bar.cls ≠ "java/lang/invoke/MethodHandle" ∧ yX12_bar.cls ≠ "java/lang/invoke/VarHandle" ∧ (parseMethodDescriptor yX12_bar.desc).map (fun d => d.parameters.length) = some 2 := by decide +kernel
theorem hd_X11_pieces : yX11_pieces.cls ≠ "java/lang/invoke/MethodHandle" ∧ yX11_pieces.cls ≠ "java/lang/invoke/VarHandle" ∧ (parseMethodDescriptor yX11_pieces.desc).map (fun d => d.parameters.length) = some 1 := by decide +kernel
theorem hd_X12_pieces : yX12_pieces.cls ≠ "java/lang/invoke/MethodHandle" ∧ yX12_pieces.cls ≠ "java/lang/invoke/VarHandle" ∧ (parseMethodDescriptor yX12_pieces.desc).map (fun d => d.parameters.length) = some 1 := by decide +kernel
theorem hd_X11_bestDay : yX11_bestDay.cls ≠ "java/lang/invoke/MethodHandle" ∧ yX11_bestDay.cls ≠ "java/lang/invoke/VarHandle" ∧ (parseMethodDescriptor yX11_bestDay.desc).map (fun d => d.parameters.length) = some 0 := by decide +kernel
theorem hd_X12_bestDay : yX12_bestDay.cls ≠ "java/lang/invoke/MethodHandle" ∧ yX12_bestDay.cls ≠ "java/lang/invoke/VarHandle" ∧ (parseMethodDescriptor yX12_bestDay.desc).map (fun d => d.parameters.length) = some 0 := by decide +kernel
theorem hd_X11_firstDay : yX11_firstDay.cls ≠ "java/lang/invoke/MethodHandle" ∧ yX11_firstDay.cls ≠ "java/lang/invoke/VarHandle" ∧ (parseMethodDescriptor yX11_firstDay.desc).map (fun d => d.parameters.length) = some 0 := by decide +kernel
theorem hd_X12_firstDay : yX12_firstDay.cls ≠ "java/lang/invoke/MethodHandle" ∧ yX12_firstDay.cls ≠ "java/lang/invoke/VarHandle" ∧ (parseMethodDescriptor yX12_firstDay.desc).map (fun d => d.parameters.length) = some 0 := by decide +kernel
theorem hd_X11_quorum : yX11_quorum.cls ≠ "java/lang/invoke/MethodHandle" ∧ yX11_quorum.cls ≠ "java/lang/invoke/VarHandle" ∧ (parseMethodDescriptor yX11_quorum.desc).map (fun d => d.parameters.length) = some 0 := by decide +kernel
theorem hd_X12_quorum : yX12_quorum.cls ≠ "java/lang/invoke/MethodHandle" ∧ yX12_quorum.cls ≠ "java/lang/invoke/VarHandle" ∧ (parseMethodDescriptor yX12_quorum.desc).map (fun d => d.parameters.length) = some 0 := by decide +kernel
theorem hd_X11_cover : yX11_cover.cls ≠ "java/lang/invoke/MethodHandle" ∧ yX11_cover.cls ≠ "java/lang/invoke/VarHandle" ∧ (parseMethodDescriptor yX11_cover.desc).map (fun d => d.parameters.length) = some 2 := by decide +kernel
theorem hd_X12_cover : yX12_cover.cls ≠ "java/lang/invoke/MethodHandle" ∧ yX12_cover.cls ≠ "java/lang/invoke/VarHandle" ∧ (parseMethodDescriptor yX12_cover.desc).map (fun d => d.parameters.length) = some 2 := by decide +kernel
theorem wm_4_235 : Cond.methodLink RL 113 yX11_laundress ∈ WG := wg_t4 (List.mem_of_getElem? (i := 235) rfl) rfl
theorem wm_4_238 : Cond.code yX11_laundress cX11_laundress 7 (some .int) ∈ WG := wg_t4 (List.mem_of_getElem? (i := 238) rfl) rfl
theorem wm_4_236 : Cond.instanceMethod yX11_laundress ∈ WG := wg_t4 (List.mem_of_getElem? (i := 236) rfl) rfl
theorem wm_4_237 : Cond.selects RX11 yX11_laundress yX11_laundress ∈ WG := wg_t4 (List.mem_of_getElem? (i := 237) rfl) rfl
theorem wm_7_156 : Cond.methodLink RL 116 yX12_laundress ∈ WG := wg_t7 (List.mem_of_getElem? (i := 156) rfl) rfl
theorem wm_7_159 : Cond.code yX12_laundress cX12_laundress 5 (some .int) ∈ WG := wg_t7 (List.mem_of_getElem? (i := 159) rfl) rfl
theorem wm_7_157 : Cond.instanceMethod yX12_laundress ∈ WG := wg_t7 (List.mem_of_getElem? (i := 157) rfl) rfl
theorem wm_7_158 : Cond.selects RX12 yX12_laundress yX12_laundress ∈ WG := wg_t7 (List.mem_of_getElem? (i := 158) rfl) rfl
theorem wm_4_239 : Cond.methodLink RL 117 yX11_talks ∈ WG := wg_t4 (List.mem_of_getElem? (i := 239) rfl) rfl
theorem wm_5_2 : Cond.code yX11_talks cX11_talks 3 (some .int) ∈ WG := wg_t5 (List.mem_of_getElem? (i := 2) rfl) rfl
theorem wm_5_0 : Cond.instanceMethod yX11_talks ∈ WG := wg_t5 (List.mem_of_getElem? (i := 0) rfl) rfl
theorem wm_5_1 : Cond.selects RX11 yX11_talks yX11_talks ∈ WG := wg_t5 (List.mem_of_getElem? (i := 1) rfl) rfl
theorem wm_7_160 : Cond.methodLink RL 120 yX12_talks ∈ WG := wg_t7 (List.mem_of_getElem? (i := 160) rfl) rfl
theorem wm_7_163 : Cond.code yX12_talks cX12_talks 3 (some .int) ∈ WG := wg_t7 (List.mem_of_getElem? (i := 163) rfl) rfl
theorem wm_7_161 : Cond.instanceMethod yX12_talks ∈ WG := wg_t7 (List.mem_of_getElem? (i := 161) rfl) rfl
theorem wm_7_162 : Cond.selects RX12 yX12_talks yX12_talks ∈ WG := wg_t7 (List.mem_of_getElem? (i := 162) rfl) rfl
theorem wm_5_19 : Cond.methodLink RL 121 yX11_talkBy ∈ WG := wg_t5 (List.mem_of_getElem? (i := 19) rfl) rfl
theorem wm_5_22 : Cond.code yX11_talkBy cX11_talkBy 4 (some .int) ∈ WG := wg_t5 (List.mem_of_getElem? (i := 22) rfl) rfl
theorem wm_5_20 : Cond.instanceMethod yX11_talkBy ∈ WG := wg_t5 (List.mem_of_getElem? (i := 20) rfl) rfl
theorem wm_5_21 : Cond.selects RX11 yX11_talkBy yX11_talkBy ∈ WG := wg_t5 (List.mem_of_getElem? (i := 21) rfl) rfl
theorem wm_7_180 : Cond.methodLink RL 125 yX12_talkBy ∈ WG := wg_t7 (List.mem_of_getElem? (i := 180) rfl) rfl
theorem wm_7_183 : Cond.code yX12_talkBy cX12_talkBy 5 (some .int) ∈ WG := wg_t7 (List.mem_of_getElem? (i := 183) rfl) rfl
theorem wm_7_181 : Cond.instanceMethod yX12_talkBy ∈ WG := wg_t7 (List.mem_of_getElem? (i := 181) rfl) rfl
theorem wm_7_182 : Cond.selects RX12 yX12_talkBy yX12_talkBy ∈ WG := wg_t7 (List.mem_of_getElem? (i := 182) rfl) rfl
theorem wm_5_23 : Cond.methodLink RL 126 yX11_word ∈ WG := wg_t5 (List.mem_of_getElem? (i := 23) rfl) rfl
theorem wm_5_26 : Cond.code yX11_word cX11_word 7 (some .int) ∈ WG := wg_t5 (List.mem_of_getElem? (i := 26) rfl) rfl
theorem wm_5_24 : Cond.instanceMethod yX11_word ∈ WG := wg_t5 (List.mem_of_getElem? (i := 24) rfl) rfl
theorem wm_5_25 : Cond.selects RX11 yX11_word yX11_word ∈ WG := wg_t5 (List.mem_of_getElem? (i := 25) rfl) rfl
theorem wm_7_184 : Cond.methodLink RL 129 yX12_word ∈ WG := wg_t7 (List.mem_of_getElem? (i := 184) rfl) rfl
theorem wm_7_187 : Cond.code yX12_word cX12_word 5 (some .int) ∈ WG := wg_t7 (List.mem_of_getElem? (i := 187) rfl) rfl
theorem wm_7_185 : Cond.instanceMethod yX12_word ∈ WG := wg_t7 (List.mem_of_getElem? (i := 185) rfl) rfl
theorem wm_7_186 : Cond.selects RX12 yX12_word yX12_word ∈ WG := wg_t7 (List.mem_of_getElem? (i := 186) rfl) rfl
theorem wm_5_32 : Cond.methodLink RL 130 yX11_ayes ∈ WG := wg_t5 (List.mem_of_getElem? (i := 32) rfl) rfl
theorem wm_5_35 : Cond.code yX11_ayes cX11_ayes 2 (some .int) ∈ WG := wg_t5 (List.mem_of_getElem? (i := 35) rfl) rfl
theorem wm_5_33 : Cond.instanceMethod yX11_ayes ∈ WG := wg_t5 (List.mem_of_getElem? (i := 33) rfl) rfl
theorem wm_5_34 : Cond.selects RX11 yX11_ayes yX11_ayes ∈ WG := wg_t5 (List.mem_of_getElem? (i := 34) rfl) rfl
theorem wm_7_188 : Cond.methodLink RL 133 yX12_ayes ∈ WG := wg_t7 (List.mem_of_getElem? (i := 188) rfl) rfl
theorem wm_7_191 : Cond.code yX12_ayes cX12_ayes 2 (some .int) ∈ WG := wg_t7 (List.mem_of_getElem? (i := 191) rfl) rfl
theorem wm_7_189 : Cond.instanceMethod yX12_ayes ∈ WG := wg_t7 (List.mem_of_getElem? (i := 189) rfl) rfl
theorem wm_7_190 : Cond.selects RX12 yX12_ayes yX12_ayes ∈ WG := wg_t7 (List.mem_of_getElem? (i := 190) rfl) rfl
theorem wm_5_48 : Cond.methodLink RL 134 yX11_passes ∈ WG := wg_t5 (List.mem_of_getElem? (i := 48) rfl) rfl
theorem wm_5_51 : Cond.code yX11_passes cX11_passes 2 (some .int) ∈ WG := wg_t5 (List.mem_of_getElem? (i := 51) rfl) rfl
theorem wm_5_49 : Cond.instanceMethod yX11_passes ∈ WG := wg_t5 (List.mem_of_getElem? (i := 49) rfl) rfl
theorem wm_5_50 : Cond.selects RX11 yX11_passes yX11_passes ∈ WG := wg_t5 (List.mem_of_getElem? (i := 50) rfl) rfl
theorem wm_7_203 : Cond.methodLink RL 137 yX12_passes ∈ WG := wg_t7 (List.mem_of_getElem? (i := 203) rfl) rfl
theorem wm_7_206 : Cond.code yX12_passes cX12_passes 2 (some .int) ∈ WG := wg_t7 (List.mem_of_getElem? (i := 206) rfl) rfl
theorem wm_7_204 : Cond.instanceMethod yX12_passes ∈ WG := wg_t7 (List.mem_of_getElem? (i := 204) rfl) rfl
theorem wm_7_205 : Cond.selects RX12 yX12_passes yX12_passes ∈ WG := wg_t7 (List.mem_of_getElem? (i := 205) rfl) rfl
theorem hd_X11_laundress : yX11_laundress.cls ≠ "java/lang/invoke/MethodHandle" ∧ yX11_laundress.cls ≠ "java/lang/invoke/VarHandle" ∧ (parseMethodDescriptor yX11_laundress.desc).map (fun d => d.parameters.length) = some 1 := by decide +kernel
theorem hd_X12_laundress : yX12_laundress.cls ≠ "java/lang/invoke/MethodHandle" ∧ yX12_laundress.cls ≠ "java/lang/invoke/VarHandle" ∧ (parseMethodDescriptor yX12_laundress.desc).map (fun d => d.parameters.length) = some 1 := by decide +kernel
theorem hd_X11_talks : yX11_talks.cls ≠ "java/lang/invoke/MethodHandle" ∧ yX11_talks.cls ≠ "java/lang/invoke/VarHandle" ∧ (parseMethodDescriptor yX11_talks.desc).map (fun d => d.parameters.length) = some 2 := by decide +kernel
theorem hd_X12_talks : yX12_talks.cls ≠ "java/lang/invoke/MethodHandle" ∧ yX12_talks.cls ≠ "java/lang/invoke/VarHandle" ∧ (parseMethodDescriptor yX12_talks.desc).map (fun d => d.parameters.length) = some 2 := by decide +kernel
theorem hd_X11_talkBy : yX11_talkBy.cls ≠ "java/lang/invoke/MethodHandle" ∧ yX11_talkBy.cls ≠ "java/lang/invoke/VarHandle" ∧ (parseMethodDescriptor yX11_talkBy.desc).map (fun d => d.parameters.length) = some 3 := by decide +kernel
theorem hd_X12_talkBy : yX12_talkBy.cls ≠ "java/lang/invoke/MethodHandle" ∧ yX12_talkBy.cls ≠ "java/lang/invoke/VarHandle" ∧ (parseMethodDescriptor yX12_talkBy.desc).map (fun d => d.parameters.length) = some 3 := by decide +kernel
theorem hd_X11_word : yX11_word.cls ≠ "java/lang/invoke/MethodHandle" ∧ yX11_word.cls ≠ "java/lang/invoke/VarHandle" ∧ (parseMethodDescriptor yX11_word.desc).map (fun d => d.parameters.length) = some 0 := by decide +kernel
theorem hd_X12_word : yX12_word.cls ≠ "java/lang/invoke/MethodHandle" ∧ yX12_word.cls ≠ "java/lang/invoke/VarHandle" ∧ (parseMethodDescriptor yX12_word.desc).map (fun d => d.parameters.length) = some 0 := by decide +kernel
theorem hd_X11_ayes : yX11_ayes.cls ≠ "java/lang/invoke/MethodHandle" ∧ yX11_ayes.cls ≠ "java/lang/invoke/VarHandle" ∧ (parseMethodDescriptor yX11_ayes.desc).map (fun d => d.parameters.length) = some 1 := by decide +kernel
theorem hd_X12_ayes : yX12_ayes.cls ≠ "java/lang/invoke/MethodHandle" ∧ yX12_ayes.cls ≠ "java/lang/invoke/VarHandle" ∧ (parseMethodDescriptor yX12_ayes.desc).map (fun d => d.parameters.length) = some 1 := by decide +kernel
theorem hd_X11_passes : yX11_passes.cls ≠ "java/lang/invoke/MethodHandle" ∧ yX11_passes.cls ≠ "java/lang/invoke/VarHandle" ∧ (parseMethodDescriptor yX11_passes.desc).map (fun d => d.parameters.length) = some 1 := by decide +kernel
theorem hd_X12_passes : yX12_passes.cls ≠ "java/lang/invoke/MethodHandle" ∧ yX12_passes.cls ≠ "java/lang/invoke/VarHandle" ∧ (parseMethodDescriptor yX12_passes.desc).map (fun d => d.parameters.length) = some 1 := by decide +kernel
theorem wm_5_55 : Cond.methodLink RL 138 yX11_passed ∈ WG := wg_t5 (List.mem_of_getElem? (i := 55) rfl) rfl
theorem wm_5_58 : Cond.code yX11_passed cX11_passed 3 (some .int) ∈ WG := wg_t5 (List.mem_of_getElem? (i := 58) rfl) rfl
theorem wm_5_56 : Cond.instanceMethod yX11_passed ∈ WG := wg_t5 (List.mem_of_getElem? (i := 56) rfl) rfl
theorem wm_5_57 : Cond.selects RX11 yX11_passed yX11_passed ∈ WG := wg_t5 (List.mem_of_getElem? (i := 57) rfl) rfl
theorem wm_7_211 : Cond.methodLink RL 141 yX12_passed ∈ WG := wg_t7 (List.mem_of_getElem? (i := 211) rfl) rfl
theorem wm_7_214 : Cond.code yX12_passed cX12_passed 4 (some .int) ∈ WG := wg_t7 (List.mem_of_getElem? (i := 214) rfl) rfl
theorem wm_7_212 : Cond.instanceMethod yX12_passed ∈ WG := wg_t7 (List.mem_of_getElem? (i := 212) rfl) rfl
theorem wm_7_213 : Cond.selects RX12 yX12_passed yX12_passed ∈ WG := wg_t7 (List.mem_of_getElem? (i := 213) rfl) rfl
theorem wm_5_63 : Cond.methodLink RL 142 yX11_easiest ∈ WG := wg_t5 (List.mem_of_getElem? (i := 63) rfl) rfl
theorem wm_5_66 : Cond.code yX11_easiest cX11_easiest 5 (some .int) ∈ WG := wg_t5 (List.mem_of_getElem? (i := 66) rfl) rfl
theorem wm_5_64 : Cond.instanceMethod yX11_easiest ∈ WG := wg_t5 (List.mem_of_getElem? (i := 64) rfl) rfl
theorem wm_5_65 : Cond.selects RX11 yX11_easiest yX11_easiest ∈ WG := wg_t5 (List.mem_of_getElem? (i := 65) rfl) rfl
theorem wm_7_215 : Cond.methodLink RL 145 yX12_easiest ∈ WG := wg_t7 (List.mem_of_getElem? (i := 215) rfl) rfl
theorem wm_7_218 : Cond.code yX12_easiest cX12_easiest 5 (some .int) ∈ WG := wg_t7 (List.mem_of_getElem? (i := 218) rfl) rfl
theorem wm_7_216 : Cond.instanceMethod yX12_easiest ∈ WG := wg_t7 (List.mem_of_getElem? (i := 216) rfl) rfl
theorem wm_7_217 : Cond.selects RX12 yX12_easiest yX12_easiest ∈ WG := wg_t7 (List.mem_of_getElem? (i := 217) rfl) rfl
theorem wm_5_67 : Cond.methodLink RL 146 yX11_hidden ∈ WG := wg_t5 (List.mem_of_getElem? (i := 67) rfl) rfl
theorem wm_5_70 : Cond.code yX11_hidden cX11_hidden 4 (some .int) ∈ WG := wg_t5 (List.mem_of_getElem? (i := 70) rfl) rfl
theorem wm_5_68 : Cond.instanceMethod yX11_hidden ∈ WG := wg_t5 (List.mem_of_getElem? (i := 68) rfl) rfl
theorem wm_5_69 : Cond.selects RX11 yX11_hidden yX11_hidden ∈ WG := wg_t5 (List.mem_of_getElem? (i := 69) rfl) rfl
theorem wm_7_219 : Cond.methodLink RL 149 yX12_hidden ∈ WG := wg_t7 (List.mem_of_getElem? (i := 219) rfl) rfl
theorem wm_7_222 : Cond.code yX12_hidden cX12_hidden 4 (some .int) ∈ WG := wg_t7 (List.mem_of_getElem? (i := 222) rfl) rfl
theorem wm_7_220 : Cond.instanceMethod yX12_hidden ∈ WG := wg_t7 (List.mem_of_getElem? (i := 220) rfl) rfl
theorem wm_7_221 : Cond.selects RX12 yX12_hidden yX12_hidden ∈ WG := wg_t7 (List.mem_of_getElem? (i := 221) rfl) rfl
theorem wm_5_85 : Cond.methodLink RL 150 yX11_hiddenAt ∈ WG := wg_t5 (List.mem_of_getElem? (i := 85) rfl) rfl
theorem wm_5_88 : Cond.code yX11_hiddenAt cX11_hiddenAt 5 (some .int) ∈ WG := wg_t5 (List.mem_of_getElem? (i := 88) rfl) rfl
theorem wm_5_86 : Cond.instanceMethod yX11_hiddenAt ∈ WG := wg_t5 (List.mem_of_getElem? (i := 86) rfl) rfl
theorem wm_5_87 : Cond.selects RX11 yX11_hiddenAt yX11_hiddenAt ∈ WG := wg_t5 (List.mem_of_getElem? (i := 87) rfl) rfl
theorem wm_7_239 : Cond.methodLink RL 153 yX12_hiddenAt ∈ WG := wg_t7 (List.mem_of_getElem? (i := 239) rfl) rfl
theorem wm_8_2 : Cond.code yX12_hiddenAt cX12_hiddenAt 5 (some .int) ∈ WG := wg_t8 (List.mem_of_getElem? (i := 2) rfl) rfl
theorem wm_8_0 : Cond.instanceMethod yX12_hiddenAt ∈ WG := wg_t8 (List.mem_of_getElem? (i := 0) rfl) rfl
theorem wm_8_1 : Cond.selects RX12 yX12_hiddenAt yX12_hiddenAt ∈ WG := wg_t8 (List.mem_of_getElem? (i := 1) rfl) rfl
theorem wm_5_89 : Cond.methodLink RL 154 yX11_probe ∈ WG := wg_t5 (List.mem_of_getElem? (i := 89) rfl) rfl
theorem wm_5_92 : Cond.code yX11_probe cX11_probe 4 (some .int) ∈ WG := wg_t5 (List.mem_of_getElem? (i := 92) rfl) rfl
theorem wm_5_90 : Cond.instanceMethod yX11_probe ∈ WG := wg_t5 (List.mem_of_getElem? (i := 90) rfl) rfl
theorem wm_5_91 : Cond.selects RX11 yX11_probe yX11_probe ∈ WG := wg_t5 (List.mem_of_getElem? (i := 91) rfl) rfl
theorem wm_8_3 : Cond.methodLink RL 157 yX12_probe ∈ WG := wg_t8 (List.mem_of_getElem? (i := 3) rfl) rfl
theorem wm_8_6 : Cond.code yX12_probe cX12_probe 11 (some .int) ∈ WG := wg_t8 (List.mem_of_getElem? (i := 6) rfl) rfl
theorem wm_8_4 : Cond.instanceMethod yX12_probe ∈ WG := wg_t8 (List.mem_of_getElem? (i := 4) rfl) rfl
theorem wm_8_5 : Cond.selects RX12 yX12_probe yX12_probe ∈ WG := wg_t8 (List.mem_of_getElem? (i := 5) rfl) rfl
theorem wm_5_102 : Cond.methodLink RL 158 yX11_chance ∈ WG := wg_t5 (List.mem_of_getElem? (i := 102) rfl) rfl
theorem wm_5_105 : Cond.code yX11_chance cX11_chance 9 (some .long) ∈ WG := wg_t5 (List.mem_of_getElem? (i := 105) rfl) rfl
theorem wm_5_103 : Cond.instanceMethod yX11_chance ∈ WG := wg_t5 (List.mem_of_getElem? (i := 103) rfl) rfl
theorem wm_5_104 : Cond.selects RX11 yX11_chance yX11_chance ∈ WG := wg_t5 (List.mem_of_getElem? (i := 104) rfl) rfl
theorem wm_8_7 : Cond.methodLink RL 162 yX12_chance ∈ WG := wg_t8 (List.mem_of_getElem? (i := 7) rfl) rfl
theorem wm_8_10 : Cond.code yX12_chance cX12_chance 9 (some .long) ∈ WG := wg_t8 (List.mem_of_getElem? (i := 10) rfl) rfl
theorem wm_8_8 : Cond.instanceMethod yX12_chance ∈ WG := wg_t8 (List.mem_of_getElem? (i := 8) rfl) rfl
theorem wm_8_9 : Cond.selects RX12 yX12_chance yX12_chance ∈ WG := wg_t8 (List.mem_of_getElem? (i := 9) rfl) rfl
theorem hd_X11_passed : yX11_passed.cls ≠ "java/lang/invoke/MethodHandle" ∧ yX11_passed.cls ≠ "java/lang/invoke/VarHandle" ∧ (parseMethodDescriptor yX11_passed.desc).map (fun d => d.parameters.length) = some 2 := by decide +kernel
theorem hd_X12_passed : yX12_passed.cls ≠ "java/lang/invoke/MethodHandle" ∧ yX12_passed.cls ≠ "java/lang/invoke/VarHandle" ∧ (parseMethodDescriptor yX12_passed.desc).map (fun d => d.parameters.length) = some 2 := by decide +kernel
theorem hd_X11_easiest : yX11_easiest.cls ≠ "java/lang/invoke/MethodHandle" ∧ yX11_easiest.cls ≠ "java/lang/invoke/VarHandle" ∧ (parseMethodDescriptor yX11_easiest.desc).map (fun d => d.parameters.length) = some 0 := by decide +kernel
theorem hd_X12_easiest : yX12_easiest.cls ≠ "java/lang/invoke/MethodHandle" ∧ yX12_easiest.cls ≠ "java/lang/invoke/VarHandle" ∧ (parseMethodDescriptor yX12_easiest.desc).map (fun d => d.parameters.length) = some 0 := by decide +kernel
theorem hd_X11_hidden : yX11_hidden.cls ≠ "java/lang/invoke/MethodHandle" ∧ yX11_hidden.cls ≠ "java/lang/invoke/VarHandle" ∧ (parseMethodDescriptor yX11_hidden.desc).map (fun d => d.parameters.length) = some 2 := by decide +kernel
theorem hd_X12_hidden : yX12_hidden.cls ≠ "java/lang/invoke/MethodHandle" ∧ yX12_hidden.cls ≠ "java/lang/invoke/VarHandle" ∧ (parseMethodDescriptor yX12_hidden.desc).map (fun d => d.parameters.length) = some 2 := by decide +kernel
theorem hd_X11_hiddenAt : yX11_hiddenAt.cls ≠ "java/lang/invoke/MethodHandle" ∧ yX11_hiddenAt.cls ≠ "java/lang/invoke/VarHandle" ∧ (parseMethodDescriptor yX11_hiddenAt.desc).map (fun d => d.parameters.length) = some 3 := by decide +kernel
theorem hd_X12_hiddenAt : yX12_hiddenAt.cls ≠ "java/lang/invoke/MethodHandle" ∧ yX12_hiddenAt.cls ≠ "java/lang/invoke/VarHandle" ∧ (parseMethodDescriptor yX12_hiddenAt.desc).map (fun d => d.parameters.length) = some 3 := by decide +kernel
theorem hd_X11_probe : yX11_probe.cls ≠ "java/lang/invoke/MethodHandle" ∧ yX11_probe.cls ≠ "java/lang/invoke/VarHandle" ∧ (parseMethodDescriptor yX11_probe.desc).map (fun d => d.parameters.length) = some 2 := by decide +kernel
theorem hd_X12_probe : yX12_probe.cls ≠ "java/lang/invoke/MethodHandle" ∧ yX12_probe.cls ≠ "java/lang/invoke/VarHandle" ∧ (parseMethodDescriptor yX12_probe.desc).map (fun d => d.parameters.length) = some 2 := by decide +kernel
theorem hd_X11_chance : yX11_chance.cls ≠ "java/lang/invoke/MethodHandle" ∧ yX11_chance.cls ≠ "java/lang/invoke/VarHandle" ∧ (parseMethodDescriptor yX11_chance.desc).map (fun d => d.parameters.length) = some 2 := by decide +kernel
theorem hd_X12_chance : yX12_chance.cls ≠ "java/lang/invoke/MethodHandle" ∧ yX12_chance.cls ≠ "java/lang/invoke/VarHandle" ∧ (parseMethodDescriptor yX12_chance.desc).map (fun d => d.parameters.length) = some 2 := by decide +kernel
theorem wm_5_116 : Cond.methodLink RL 163 yX11_reserve ∈ WG := wg_t5 (List.mem_of_getElem? (i := 116) rfl) rfl
theorem wm_5_119 : Cond.code yX11_reserve cX11_reserve 9 (some .int) ∈ WG := wg_t5 (List.mem_of_getElem? (i := 119) rfl) rfl
theorem wm_5_117 : Cond.instanceMethod yX11_reserve ∈ WG := wg_t5 (List.mem_of_getElem? (i := 117) rfl) rfl
theorem wm_5_118 : Cond.selects RX11 yX11_reserve yX11_reserve ∈ WG := wg_t5 (List.mem_of_getElem? (i := 118) rfl) rfl
theorem wm_8_23 : Cond.methodLink RL 166 yX12_reserve ∈ WG := wg_t8 (List.mem_of_getElem? (i := 23) rfl) rfl
theorem wm_8_26 : Cond.code yX12_reserve cX12_reserve 9 (some .int) ∈ WG := wg_t8 (List.mem_of_getElem? (i := 26) rfl) rfl
theorem wm_8_24 : Cond.instanceMethod yX12_reserve ∈ WG := wg_t8 (List.mem_of_getElem? (i := 24) rfl) rfl
theorem wm_8_25 : Cond.selects RX12 yX12_reserve yX12_reserve ∈ WG := wg_t8 (List.mem_of_getElem? (i := 25) rfl) rfl
theorem wm_5_120 : Cond.methodLink RL 167 yX11_numbers ∈ WG := wg_t5 (List.mem_of_getElem? (i := 120) rfl) rfl
theorem wm_5_123 : Cond.code yX11_numbers cX11_numbers 4 (some .int) ∈ WG := wg_t5 (List.mem_of_getElem? (i := 123) rfl) rfl
theorem wm_5_121 : Cond.instanceMethod yX11_numbers ∈ WG := wg_t5 (List.mem_of_getElem? (i := 121) rfl) rfl
theorem wm_5_122 : Cond.selects RX11 yX11_numbers yX11_numbers ∈ WG := wg_t5 (List.mem_of_getElem? (i := 122) rfl) rfl
theorem wm_8_27 : Cond.methodLink RL 170 yX12_numbers ∈ WG := wg_t8 (List.mem_of_getElem? (i := 27) rfl) rfl
theorem wm_8_30 : Cond.code yX12_numbers cX12_numbers 5 (some .int) ∈ WG := wg_t8 (List.mem_of_getElem? (i := 30) rfl) rfl
theorem wm_8_28 : Cond.instanceMethod yX12_numbers ∈ WG := wg_t8 (List.mem_of_getElem? (i := 28) rfl) rfl
theorem wm_8_29 : Cond.selects RX12 yX12_numbers yX12_numbers ∈ WG := wg_t8 (List.mem_of_getElem? (i := 29) rfl) rfl
theorem wm_5_131 : Cond.methodLink RL 173 yX11_write ∈ WG := wg_t5 (List.mem_of_getElem? (i := 131) rfl) rfl
theorem wm_5_134 : Cond.code yX11_write cX11_write 6 (some .long) ∈ WG := wg_t5 (List.mem_of_getElem? (i := 134) rfl) rfl
theorem wm_5_132 : Cond.instanceMethod yX11_write ∈ WG := wg_t5 (List.mem_of_getElem? (i := 132) rfl) rfl
theorem wm_5_133 : Cond.selects RX11 yX11_write yX11_write ∈ WG := wg_t5 (List.mem_of_getElem? (i := 133) rfl) rfl
theorem wm_8_31 : Cond.methodLink RL 177 yX12_write ∈ WG := wg_t8 (List.mem_of_getElem? (i := 31) rfl) rfl
theorem wm_8_34 : Cond.code yX12_write cX12_write 6 (some .long) ∈ WG := wg_t8 (List.mem_of_getElem? (i := 34) rfl) rfl
theorem wm_8_32 : Cond.instanceMethod yX12_write ∈ WG := wg_t8 (List.mem_of_getElem? (i := 32) rfl) rfl
theorem wm_8_33 : Cond.selects RX12 yX12_write yX12_write ∈ WG := wg_t8 (List.mem_of_getElem? (i := 33) rfl) rfl
theorem wm_8_59 : Cond.constantLong RL 171 (4294967295) ∈ WG := wg_t8 (List.mem_of_getElem? (i := 59) rfl) rfl
theorem wm_5_141 : Cond.methodLink RL 178 yX11_lists ∈ WG := wg_t5 (List.mem_of_getElem? (i := 141) rfl) rfl
theorem wm_5_144 : Cond.code yX11_lists cX11_lists 7 (some .int) ∈ WG := wg_t5 (List.mem_of_getElem? (i := 144) rfl) rfl
theorem wm_5_142 : Cond.instanceMethod yX11_lists ∈ WG := wg_t5 (List.mem_of_getElem? (i := 142) rfl) rfl
theorem wm_5_143 : Cond.selects RX11 yX11_lists yX11_lists ∈ WG := wg_t5 (List.mem_of_getElem? (i := 143) rfl) rfl
theorem wm_8_39 : Cond.methodLink RL 181 yX12_lists ∈ WG := wg_t8 (List.mem_of_getElem? (i := 39) rfl) rfl
theorem wm_8_42 : Cond.code yX12_lists cX12_lists 8 (some .int) ∈ WG := wg_t8 (List.mem_of_getElem? (i := 42) rfl) rfl
theorem wm_8_40 : Cond.instanceMethod yX12_lists ∈ WG := wg_t8 (List.mem_of_getElem? (i := 40) rfl) rfl
theorem wm_8_41 : Cond.selects RX12 yX12_lists yX12_lists ∈ WG := wg_t8 (List.mem_of_getElem? (i := 41) rfl) rfl
theorem wm_5_145 : Cond.methodLink RL 182 yX11_image ∈ WG := wg_t5 (List.mem_of_getElem? (i := 145) rfl) rfl
theorem wm_5_148 : Cond.code yX11_image cX11_image 2 (some .int) ∈ WG := wg_t5 (List.mem_of_getElem? (i := 148) rfl) rfl
theorem wm_5_146 : Cond.instanceMethod yX11_image ∈ WG := wg_t5 (List.mem_of_getElem? (i := 146) rfl) rfl
theorem wm_5_147 : Cond.selects RX11 yX11_image yX11_image ∈ WG := wg_t5 (List.mem_of_getElem? (i := 147) rfl) rfl
theorem wm_8_43 : Cond.methodLink RL 185 yX12_image ∈ WG := wg_t8 (List.mem_of_getElem? (i := 43) rfl) rfl
theorem wm_8_46 : Cond.code yX12_image cX12_image 3 (some .int) ∈ WG := wg_t8 (List.mem_of_getElem? (i := 46) rfl) rfl
theorem wm_8_44 : Cond.instanceMethod yX12_image ∈ WG := wg_t8 (List.mem_of_getElem? (i := 44) rfl) rfl
theorem wm_8_45 : Cond.selects RX12 yX12_image yX12_image ∈ WG := wg_t8 (List.mem_of_getElem? (i := 45) rfl) rfl
theorem wm_5_149 : Cond.methodLink RL 186 yX11_restore ∈ WG := wg_t5 (List.mem_of_getElem? (i := 149) rfl) rfl
theorem wm_5_152 : Cond.code yX11_restore cX11_restore 2 (some .int) ∈ WG := wg_t5 (List.mem_of_getElem? (i := 152) rfl) rfl
theorem wm_5_150 : Cond.instanceMethod yX11_restore ∈ WG := wg_t5 (List.mem_of_getElem? (i := 150) rfl) rfl
theorem wm_5_151 : Cond.selects RX11 yX11_restore yX11_restore ∈ WG := wg_t5 (List.mem_of_getElem? (i := 151) rfl) rfl
theorem wm_8_47 : Cond.methodLink RL 189 yX12_restore ∈ WG := wg_t8 (List.mem_of_getElem? (i := 47) rfl) rfl
theorem wm_8_50 : Cond.code yX12_restore cX12_restore 3 (some .int) ∈ WG := wg_t8 (List.mem_of_getElem? (i := 50) rfl) rfl
theorem wm_8_48 : Cond.instanceMethod yX12_restore ∈ WG := wg_t8 (List.mem_of_getElem? (i := 48) rfl) rfl
theorem wm_8_49 : Cond.selects RX12 yX12_restore yX12_restore ∈ WG := wg_t8 (List.mem_of_getElem? (i := 49) rfl) rfl
theorem hd_X11_reserve : yX11_reserve.cls ≠ "java/lang/invoke/MethodHandle" ∧ yX11_reserve.cls ≠ "java/lang/invoke/VarHandle" ∧ (parseMethodDescriptor yX11_reserve.desc).map (fun d => d.parameters.length) = some 1 := by decide +kernel
theorem hd_X12_reserve : yX12_reserve.cls ≠ "java/lang/invoke/MethodHandle" ∧ yX12_reserve.cls ≠ "java/lang/invoke/VarHandle" ∧ (parseMethodDescriptor yX12_reserve.desc).map (fun d => d.parameters.length) = some 1 := by decide +kernel
theorem hd_X11_numbers : yX11_numbers.cls ≠ "java/lang/invoke/MethodHandle" ∧ yX11_numbers.cls ≠ "java/lang/invoke/VarHandle" ∧ (parseMethodDescriptor yX11_numbers.desc).map (fun d => d.parameters.length) = some 3 := by decide +kernel
theorem hd_X12_numbers : yX12_numbers.cls ≠ "java/lang/invoke/MethodHandle" ∧ yX12_numbers.cls ≠ "java/lang/invoke/VarHandle" ∧ (parseMethodDescriptor yX12_numbers.desc).map (fun d => d.parameters.length) = some 3 := by decide +kernel
theorem hd_X11_write : yX11_write.cls ≠ "java/lang/invoke/MethodHandle" ∧ yX11_write.cls ≠ "java/lang/invoke/VarHandle" ∧ (parseMethodDescriptor yX11_write.desc).map (fun d => d.parameters.length) = some 3 := by decide +kernel
theorem hd_X12_write : yX12_write.cls ≠ "java/lang/invoke/MethodHandle" ∧ yX12_write.cls ≠ "java/lang/invoke/VarHandle" ∧ (parseMethodDescriptor yX12_write.desc).map (fun d => d.parameters.length) = some 3 := by decide +kernel
theorem hd_X11_lists : yX11_lists.cls ≠ "java/lang/invoke/MethodHandle" ∧ yX11_lists.cls ≠ "java/lang/invoke/VarHandle" ∧ (parseMethodDescriptor yX11_lists.desc).map (fun d => d.parameters.length) = some 3 := by decide +kernel
theorem hd_X12_lists : yX12_lists.cls ≠ "java/lang/invoke/MethodHandle" ∧ yX12_lists.cls ≠ "java/lang/invoke/VarHandle" ∧ (parseMethodDescriptor yX12_lists.desc).map (fun d => d.parameters.length) = some 3 := by decide +kernel
theorem hd_X11_image : yX11_image.cls ≠ "java/lang/invoke/MethodHandle" ∧ yX11_image.cls ≠ "java/lang/invoke/VarHandle" ∧ (parseMethodDescriptor yX11_image.desc).map (fun d => d.parameters.length) = some 1 := by decide +kernel
theorem hd_X12_image : yX12_image.cls ≠ "java/lang/invoke/MethodHandle" ∧ yX12_image.cls ≠ "java/lang/invoke/VarHandle" ∧ (parseMethodDescriptor yX12_image.desc).map (fun d => d.parameters.length) = some 1 := by decide +kernel
theorem hd_X11_restore : yX11_restore.cls ≠ "java/lang/invoke/MethodHandle" ∧ yX11_restore.cls ≠ "java/lang/invoke/VarHandle" ∧ (parseMethodDescriptor yX11_restore.desc).map (fun d => d.parameters.length) = some 1 := by decide +kernel
theorem hd_X12_restore : yX12_restore.cls ≠ "java/lang/invoke/MethodHandle" ∧ yX12_restore.cls ≠ "java/lang/invoke/VarHandle" ∧ (parseMethodDescriptor yX12_restore.desc).map (fun d => d.parameters.length) = some 1 := by decide +kernel
theorem wm_5_153 : Cond.methodLink RL 190 yX11_count ∈ WG := wg_t5 (List.mem_of_getElem? (i := 153) rfl) rfl
theorem wm_5_156 : Cond.code yX11_count cX11_count 2 (some .int) ∈ WG := wg_t5 (List.mem_of_getElem? (i := 156) rfl) rfl
theorem wm_5_154 : Cond.instanceMethod yX11_count ∈ WG := wg_t5 (List.mem_of_getElem? (i := 154) rfl) rfl
theorem wm_5_155 : Cond.selects RX11 yX11_count yX11_count ∈ WG := wg_t5 (List.mem_of_getElem? (i := 155) rfl) rfl
theorem wm_8_51 : Cond.methodLink RL 193 yX12_count ∈ WG := wg_t8 (List.mem_of_getElem? (i := 51) rfl) rfl
theorem wm_8_54 : Cond.code yX12_count cX12_count 2 (some .int) ∈ WG := wg_t8 (List.mem_of_getElem? (i := 54) rfl) rfl
theorem wm_8_52 : Cond.instanceMethod yX12_count ∈ WG := wg_t8 (List.mem_of_getElem? (i := 52) rfl) rfl
theorem wm_8_53 : Cond.selects RX12 yX12_count yX12_count ∈ WG := wg_t8 (List.mem_of_getElem? (i := 53) rfl) rfl
theorem hd_X11_count : yX11_count.cls ≠ "java/lang/invoke/MethodHandle" ∧ yX11_count.cls ≠ "java/lang/invoke/VarHandle" ∧ (parseMethodDescriptor yX11_count.desc).map (fun d => d.parameters.length) = some 1 := by decide +kernel
theorem hd_X12_count : yX12_count.cls ≠ "java/lang/invoke/MethodHandle" ∧ yX12_count.cls ≠ "java/lang/invoke/VarHandle" ∧ (parseMethodDescriptor yX12_count.desc).map (fun d => d.parameters.length) = some 1 := by decide +kernel
