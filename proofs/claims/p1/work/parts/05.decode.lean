theorem dJ6_bitCount_0f7a4_0 : decode cJ6_bitCount_0f7a4 0 = .ok (.iload_n 0, 1) := by decide +kernel
theorem dJ6_bitCount_0f7a4_1 : decode cJ6_bitCount_0f7a4 1 = .ok (.iload_n 0, 1) := by decide +kernel
theorem dJ6_bitCount_0f7a4_2 : decode cJ6_bitCount_0f7a4 2 = .ok (.iconst 1, 1) := by decide +kernel
theorem dJ6_bitCount_0f7a4_3 : decode cJ6_bitCount_0f7a4 3 = .ok (.iushr, 1) := by decide +kernel
theorem dJ6_bitCount_0f7a4_4 : decode cJ6_bitCount_0f7a4 4 = .ok (.ldc_w 265, 3) := by decide +kernel
theorem dJ6_bitCount_0f7a4_7 : decode cJ6_bitCount_0f7a4 7 = .ok (.iand, 1) := by decide +kernel
theorem dJ6_bitCount_0f7a4_8 : decode cJ6_bitCount_0f7a4 8 = .ok (.isub, 1) := by decide +kernel
theorem dJ6_bitCount_0f7a4_9 : decode cJ6_bitCount_0f7a4 9 = .ok (.istore_n 0, 1) := by decide +kernel
theorem dJ6_bitCount_0f7a4_10 : decode cJ6_bitCount_0f7a4 10 = .ok (.iload_n 0, 1) := by decide +kernel
theorem dJ6_bitCount_0f7a4_11 : decode cJ6_bitCount_0f7a4 11 = .ok (.ldc_w 266, 3) := by decide +kernel
theorem dJ6_bitCount_0f7a4_14 : decode cJ6_bitCount_0f7a4 14 = .ok (.iand, 1) := by decide +kernel
theorem dJ6_bitCount_0f7a4_15 : decode cJ6_bitCount_0f7a4 15 = .ok (.iload_n 0, 1) := by decide +kernel
theorem dJ6_bitCount_0f7a4_16 : decode cJ6_bitCount_0f7a4 16 = .ok (.iconst 2, 1) := by decide +kernel
theorem dJ6_bitCount_0f7a4_17 : decode cJ6_bitCount_0f7a4 17 = .ok (.iushr, 1) := by decide +kernel
theorem dJ6_bitCount_0f7a4_18 : decode cJ6_bitCount_0f7a4 18 = .ok (.ldc_w 266, 3) := by decide +kernel
theorem dJ6_bitCount_0f7a4_21 : decode cJ6_bitCount_0f7a4 21 = .ok (.iand, 1) := by decide +kernel
theorem dJ6_bitCount_0f7a4_22 : decode cJ6_bitCount_0f7a4 22 = .ok (.iadd, 1) := by decide +kernel
theorem dJ6_bitCount_0f7a4_23 : decode cJ6_bitCount_0f7a4 23 = .ok (.istore_n 0, 1) := by decide +kernel
theorem dJ6_bitCount_0f7a4_24 : decode cJ6_bitCount_0f7a4 24 = .ok (.iload_n 0, 1) := by decide +kernel
theorem dJ6_bitCount_0f7a4_25 : decode cJ6_bitCount_0f7a4 25 = .ok (.iload_n 0, 1) := by decide +kernel
theorem dJ6_bitCount_0f7a4_26 : decode cJ6_bitCount_0f7a4 26 = .ok (.iconst 4, 1) := by decide +kernel
theorem dJ6_bitCount_0f7a4_27 : decode cJ6_bitCount_0f7a4 27 = .ok (.iushr, 1) := by decide +kernel
theorem dJ6_bitCount_0f7a4_28 : decode cJ6_bitCount_0f7a4 28 = .ok (.iadd, 1) := by decide +kernel
theorem dJ6_bitCount_0f7a4_29 : decode cJ6_bitCount_0f7a4 29 = .ok (.ldc_w 267, 3) := by decide +kernel
theorem dJ6_bitCount_0f7a4_32 : decode cJ6_bitCount_0f7a4 32 = .ok (.iand, 1) := by decide +kernel
theorem dJ6_bitCount_0f7a4_33 : decode cJ6_bitCount_0f7a4 33 = .ok (.istore_n 0, 1) := by decide +kernel
theorem dJ6_bitCount_0f7a4_34 : decode cJ6_bitCount_0f7a4 34 = .ok (.iload_n 0, 1) := by decide +kernel
theorem dJ6_bitCount_0f7a4_35 : decode cJ6_bitCount_0f7a4 35 = .ok (.iload_n 0, 1) := by decide +kernel
theorem dJ6_bitCount_0f7a4_36 : decode cJ6_bitCount_0f7a4 36 = .ok (.bipush 8, 2) := by decide +kernel
theorem dJ6_bitCount_0f7a4_38 : decode cJ6_bitCount_0f7a4 38 = .ok (.iushr, 1) := by decide +kernel
theorem dJ6_bitCount_0f7a4_39 : decode cJ6_bitCount_0f7a4 39 = .ok (.iadd, 1) := by decide +kernel
theorem dJ6_bitCount_0f7a4_40 : decode cJ6_bitCount_0f7a4 40 = .ok (.istore_n 0, 1) := by decide +kernel
theorem dJ6_bitCount_0f7a4_41 : decode cJ6_bitCount_0f7a4 41 = .ok (.iload_n 0, 1) := by decide +kernel
theorem dJ6_bitCount_0f7a4_42 : decode cJ6_bitCount_0f7a4 42 = .ok (.iload_n 0, 1) := by decide +kernel
theorem dJ6_bitCount_0f7a4_43 : decode cJ6_bitCount_0f7a4 43 = .ok (.bipush 16, 2) := by decide +kernel
theorem dJ6_bitCount_0f7a4_45 : decode cJ6_bitCount_0f7a4 45 = .ok (.iushr, 1) := by decide +kernel
theorem dJ6_bitCount_0f7a4_46 : decode cJ6_bitCount_0f7a4 46 = .ok (.iadd, 1) := by decide +kernel
theorem dJ6_bitCount_0f7a4_47 : decode cJ6_bitCount_0f7a4 47 = .ok (.istore_n 0, 1) := by decide +kernel
theorem dJ6_bitCount_0f7a4_48 : decode cJ6_bitCount_0f7a4 48 = .ok (.iload_n 0, 1) := by decide +kernel
theorem dJ6_bitCount_0f7a4_49 : decode cJ6_bitCount_0f7a4 49 = .ok (.bipush 63, 2) := by decide +kernel
theorem dJ6_bitCount_0f7a4_51 : decode cJ6_bitCount_0f7a4 51 = .ok (.iand, 1) := by decide +kernel
theorem dJ6_bitCount_0f7a4_52 : decode cJ6_bitCount_0f7a4 52 = .ok (.ireturn, 1) := by decide +kernel
theorem dJ7_fill_53178_0 : decode cJ7_fill_53178 0 = .ok (.iconst 0, 1) := by decide +kernel
theorem dJ7_fill_53178_1 : decode cJ7_fill_53178 1 = .ok (.istore_n 2, 1) := by decide +kernel
theorem dJ7_fill_53178_2 : decode cJ7_fill_53178 2 = .ok (.aload_n 0, 1) := by decide +kernel
theorem dJ7_fill_53178_3 : decode cJ7_fill_53178 3 = .ok (.arraylength, 1) := by decide +kernel
theorem dJ7_fill_53178_4 : decode cJ7_fill_53178 4 = .ok (.istore_n 3, 1) := by decide +kernel
theorem dJ7_fill_53178_5 : decode cJ7_fill_53178 5 = .ok (.iload_n 2, 1) := by decide +kernel
theorem dJ7_fill_53178_6 : decode cJ7_fill_53178 6 = .ok (.iload_n 3, 1) := by decide +kernel
theorem dJ7_fill_53178_7 : decode cJ7_fill_53178 7 = .ok (.if_icmp .ge 13, 3) := by decide +kernel
theorem dJ7_fill_53178_10 : decode cJ7_fill_53178 10 = .ok (.aload_n 0, 1) := by decide +kernel
theorem dJ7_fill_53178_11 : decode cJ7_fill_53178 11 = .ok (.iload_n 2, 1) := by decide +kernel
theorem dJ7_fill_53178_12 : decode cJ7_fill_53178 12 = .ok (.iload_n 1, 1) := by decide +kernel
theorem dJ7_fill_53178_13 : decode cJ7_fill_53178 13 = .ok (.iastore, 1) := by decide +kernel
theorem dJ7_fill_53178_14 : decode cJ7_fill_53178 14 = .ok (.iinc 2 1, 3) := by decide +kernel
theorem dJ7_fill_53178_17 : decode cJ7_fill_53178 17 = .ok (.goto (-12), 3) := by decide +kernel
theorem dJ7_fill_53178_20 : decode cJ7_fill_53178 20 = .ok (.return_, 1) := by decide +kernel
theorem dJ7_fill_d0a16_0 : decode cJ7_fill_d0a16 0 = .ok (.iconst 0, 1) := by decide +kernel
theorem dJ7_fill_d0a16_1 : decode cJ7_fill_d0a16 1 = .ok (.istore_n 3, 1) := by decide +kernel
theorem dJ7_fill_d0a16_2 : decode cJ7_fill_d0a16 2 = .ok (.aload_n 0, 1) := by decide +kernel
theorem dJ7_fill_d0a16_3 : decode cJ7_fill_d0a16 3 = .ok (.arraylength, 1) := by decide +kernel
theorem dJ7_fill_d0a16_4 : decode cJ7_fill_d0a16 4 = .ok (.istore 4, 2) := by decide +kernel
theorem dJ7_fill_d0a16_6 : decode cJ7_fill_d0a16 6 = .ok (.iload_n 3, 1) := by decide +kernel
theorem dJ7_fill_d0a16_7 : decode cJ7_fill_d0a16 7 = .ok (.iload 4, 2) := by decide +kernel
theorem dJ7_fill_d0a16_9 : decode cJ7_fill_d0a16 9 = .ok (.if_icmp .ge 13, 3) := by decide +kernel
theorem dJ7_fill_d0a16_12 : decode cJ7_fill_d0a16 12 = .ok (.aload_n 0, 1) := by decide +kernel
theorem dJ7_fill_d0a16_13 : decode cJ7_fill_d0a16 13 = .ok (.iload_n 3, 1) := by decide +kernel
theorem dJ7_fill_d0a16_14 : decode cJ7_fill_d0a16 14 = .ok (.lload_n 1, 1) := by decide +kernel
theorem dJ7_fill_d0a16_15 : decode cJ7_fill_d0a16 15 = .ok (.lastore, 1) := by decide +kernel
theorem dJ7_fill_d0a16_16 : decode cJ7_fill_d0a16 16 = .ok (.iinc 3 1, 3) := by decide +kernel
theorem dJ7_fill_d0a16_19 : decode cJ7_fill_d0a16 19 = .ok (.goto (-13), 3) := by decide +kernel
theorem dJ7_fill_d0a16_22 : decode cJ7_fill_d0a16 22 = .ok (.return_, 1) := by decide +kernel
theorem dL_law_0 : decode cL_law 0 = .ok (.new 7, 3) := by decide +kernel
theorem dL_law_3 : decode cL_law 3 = .ok (.dup, 1) := by decide +kernel
theorem dL_law_4 : decode cL_law 4 = .ok (.invokespecial 9, 3) := by decide +kernel
theorem dL_law_7 : decode cL_law 7 = .ok (.astore_n 1, 1) := by decide +kernel
theorem dL_law_8 : decode cL_law 8 = .ok (.new 10, 3) := by decide +kernel
theorem dL_law_11 : decode cL_law 11 = .ok (.dup, 1) := by decide +kernel
theorem dL_law_12 : decode cL_law 12 = .ok (.invokespecial 12, 3) := by decide +kernel
theorem dL_law_15 : decode cL_law 15 = .ok (.astore_n 2, 1) := by decide +kernel
theorem dL_law_16 : decode cL_law 16 = .ok (.iconst 0, 1) := by decide +kernel
theorem dL_law_17 : decode cL_law 17 = .ok (.istore_n 3, 1) := by decide +kernel
theorem dL_law_18 : decode cL_law 18 = .ok (.iload_n 3, 1) := by decide +kernel
theorem dL_law_19 : decode cL_law 19 = .ok (.aload_n 0, 1) := by decide +kernel
theorem dL_law_20 : decode cL_law 20 = .ok (.arraylength, 1) := by decide +kernel
theorem dL_law_21 : decode cL_law 21 = .ok (.bipush 6, 2) := by decide +kernel
theorem dL_law_23 : decode cL_law 23 = .ok (.isub, 1) := by decide +kernel
theorem dL_law_24 : decode cL_law 24 = .ok (.if_icmp .gt 1443, 3) := by decide +kernel
theorem dL_law_27 : decode cL_law 27 = .ok (.aload_n 0, 1) := by decide +kernel
theorem dL_law_28 : decode cL_law 28 = .ok (.iload_n 3, 1) := by decide +kernel
theorem dL_law_29 : decode cL_law 29 = .ok (.iaload, 1) := by decide +kernel
theorem dL_law_30 : decode cL_law 30 = .ok (.bipush 63, 2) := by decide +kernel
theorem dL_law_32 : decode cL_law 32 = .ok (.iand, 1) := by decide +kernel
theorem dL_law_33 : decode cL_law 33 = .ok (.tableswitch 1428 0 42 #[187, 250, 273, 296, 329, 352, 385, 408, 441, 464, 487, 510, 533, 566, 589, 622, 645, 678, 701, 734, 757, 770, 783, 796, 829, 852, 885, 928, 941, 964, 987, 1020, 1033, 1066, 1109, 1142, 1176, 1199, 1242, 1316, 1359, 1382, 1405], 187) := by decide +kernel
theorem dL_law_220 : decode cL_law 220 = .ok (.aload_n 1, 1) := by decide +kernel
theorem dL_law_221 : decode cL_law 221 = .ok (.aload_n 0, 1) := by decide +kernel
theorem dL_law_222 : decode cL_law 222 = .ok (.iload_n 3, 1) := by decide +kernel
theorem dL_law_223 : decode cL_law 223 = .ok (.iconst 1, 1) := by decide +kernel
theorem dL_law_224 : decode cL_law 224 = .ok (.iadd, 1) := by decide +kernel
theorem dL_law_225 : decode cL_law 225 = .ok (.iaload, 1) := by decide +kernel
theorem dL_law_226 : decode cL_law 226 = .ok (.aload_n 0, 1) := by decide +kernel
theorem dL_law_227 : decode cL_law 227 = .ok (.iload_n 3, 1) := by decide +kernel
theorem dL_law_228 : decode cL_law 228 = .ok (.iconst 2, 1) := by decide +kernel
theorem dL_law_229 : decode cL_law 229 = .ok (.iadd, 1) := by decide +kernel
theorem dL_law_230 : decode cL_law 230 = .ok (.iaload, 1) := by decide +kernel
theorem dL_law_231 : decode cL_law 231 = .ok (.aload_n 0, 1) := by decide +kernel
theorem dL_law_232 : decode cL_law 232 = .ok (.iload_n 3, 1) := by decide +kernel
theorem dL_law_233 : decode cL_law 233 = .ok (.iconst 3, 1) := by decide +kernel
theorem dL_law_234 : decode cL_law 234 = .ok (.iadd, 1) := by decide +kernel
theorem dL_law_235 : decode cL_law 235 = .ok (.iaload, 1) := by decide +kernel
theorem dL_law_236 : decode cL_law 236 = .ok (.aload_n 0, 1) := by decide +kernel
theorem dL_law_237 : decode cL_law 237 = .ok (.iload_n 3, 1) := by decide +kernel
theorem dL_law_238 : decode cL_law 238 = .ok (.iconst 4, 1) := by decide +kernel
theorem dL_law_239 : decode cL_law 239 = .ok (.iadd, 1) := by decide +kernel
theorem dL_law_240 : decode cL_law 240 = .ok (.iaload, 1) := by decide +kernel
theorem dL_law_241 : decode cL_law 241 = .ok (.aload_n 0, 1) := by decide +kernel
theorem dL_law_242 : decode cL_law 242 = .ok (.iload_n 3, 1) := by decide +kernel
theorem dL_law_243 : decode cL_law 243 = .ok (.iconst 5, 1) := by decide +kernel
theorem dL_law_244 : decode cL_law 244 = .ok (.iadd, 1) := by decide +kernel
theorem dL_law_245 : decode cL_law 245 = .ok (.iaload, 1) := by decide +kernel
theorem dL_law_246 : decode cL_law 246 = .ok (.invokevirtual 13, 3) := by decide +kernel
theorem dL_law_249 : decode cL_law 249 = .ok (.aload_n 2, 1) := by decide +kernel
theorem dL_law_250 : decode cL_law 250 = .ok (.aload_n 0, 1) := by decide +kernel
theorem dL_law_251 : decode cL_law 251 = .ok (.iload_n 3, 1) := by decide +kernel
theorem dL_law_252 : decode cL_law 252 = .ok (.iconst 1, 1) := by decide +kernel
theorem dL_law_253 : decode cL_law 253 = .ok (.iadd, 1) := by decide +kernel
theorem dL_law_254 : decode cL_law 254 = .ok (.iaload, 1) := by decide +kernel
theorem dL_law_255 : decode cL_law 255 = .ok (.aload_n 0, 1) := by decide +kernel
theorem dL_law_256 : decode cL_law 256 = .ok (.iload_n 3, 1) := by decide +kernel
theorem dL_law_257 : decode cL_law 257 = .ok (.iconst 2, 1) := by decide +kernel
theorem dL_law_258 : decode cL_law 258 = .ok (.iadd, 1) := by decide +kernel
theorem dL_law_259 : decode cL_law 259 = .ok (.iaload, 1) := by decide +kernel
theorem dL_law_260 : decode cL_law 260 = .ok (.aload_n 0, 1) := by decide +kernel
theorem dL_law_261 : decode cL_law 261 = .ok (.iload_n 3, 1) := by decide +kernel
theorem dL_law_262 : decode cL_law 262 = .ok (.iconst 3, 1) := by decide +kernel
theorem dL_law_263 : decode cL_law 263 = .ok (.iadd, 1) := by decide +kernel
theorem dL_law_264 : decode cL_law 264 = .ok (.iaload, 1) := by decide +kernel
theorem dL_law_265 : decode cL_law 265 = .ok (.aload_n 0, 1) := by decide +kernel
theorem dL_law_266 : decode cL_law 266 = .ok (.iload_n 3, 1) := by decide +kernel
theorem dL_law_267 : decode cL_law 267 = .ok (.iconst 4, 1) := by decide +kernel
theorem dL_law_268 : decode cL_law 268 = .ok (.iadd, 1) := by decide +kernel
theorem dL_law_269 : decode cL_law 269 = .ok (.iaload, 1) := by decide +kernel
theorem dL_law_270 : decode cL_law 270 = .ok (.aload_n 0, 1) := by decide +kernel
theorem dL_law_271 : decode cL_law 271 = .ok (.iload_n 3, 1) := by decide +kernel
theorem dL_law_272 : decode cL_law 272 = .ok (.iconst 5, 1) := by decide +kernel
theorem dL_law_273 : decode cL_law 273 = .ok (.iadd, 1) := by decide +kernel
theorem dL_law_274 : decode cL_law 274 = .ok (.iaload, 1) := by decide +kernel
theorem dL_law_275 : decode cL_law 275 = .ok (.invokevirtual 17, 3) := by decide +kernel
theorem dL_law_278 : decode cL_law 278 = .ok (.if_icmp .eq 1183, 3) := by decide +kernel
theorem dL_law_283 : decode cL_law 283 = .ok (.aload_n 1, 1) := by decide +kernel
theorem dL_law_284 : decode cL_law 284 = .ok (.aload_n 0, 1) := by decide +kernel
theorem dL_law_285 : decode cL_law 285 = .ok (.iload_n 3, 1) := by decide +kernel
theorem dL_law_286 : decode cL_law 286 = .ok (.iconst 1, 1) := by decide +kernel
theorem dL_law_287 : decode cL_law 287 = .ok (.iadd, 1) := by decide +kernel
theorem dL_law_288 : decode cL_law 288 = .ok (.iaload, 1) := by decide +kernel
theorem dL_law_289 : decode cL_law 289 = .ok (.invokevirtual 18, 3) := by decide +kernel
theorem dL_law_292 : decode cL_law 292 = .ok (.aload_n 2, 1) := by decide +kernel
theorem dL_law_293 : decode cL_law 293 = .ok (.aload_n 0, 1) := by decide +kernel
theorem dL_law_294 : decode cL_law 294 = .ok (.iload_n 3, 1) := by decide +kernel
theorem dL_law_295 : decode cL_law 295 = .ok (.iconst 1, 1) := by decide +kernel
theorem dL_law_296 : decode cL_law 296 = .ok (.iadd, 1) := by decide +kernel
theorem dL_law_297 : decode cL_law 297 = .ok (.iaload, 1) := by decide +kernel
theorem dL_law_298 : decode cL_law 298 = .ok (.invokevirtual 22, 3) := by decide +kernel
theorem dL_law_301 : decode cL_law 301 = .ok (.if_icmp .eq 1160, 3) := by decide +kernel
theorem dL_law_306 : decode cL_law 306 = .ok (.aload_n 1, 1) := by decide +kernel
theorem dL_law_307 : decode cL_law 307 = .ok (.aload_n 0, 1) := by decide +kernel
theorem dL_law_308 : decode cL_law 308 = .ok (.iload_n 3, 1) := by decide +kernel
theorem dL_law_309 : decode cL_law 309 = .ok (.iconst 1, 1) := by decide +kernel
theorem dL_law_310 : decode cL_law 310 = .ok (.iadd, 1) := by decide +kernel
theorem dL_law_311 : decode cL_law 311 = .ok (.iaload, 1) := by decide +kernel
theorem dL_law_312 : decode cL_law 312 = .ok (.invokevirtual 23, 3) := by decide +kernel
theorem dL_law_315 : decode cL_law 315 = .ok (.aload_n 2, 1) := by decide +kernel
theorem dL_law_316 : decode cL_law 316 = .ok (.aload_n 0, 1) := by decide +kernel
theorem dL_law_317 : decode cL_law 317 = .ok (.iload_n 3, 1) := by decide +kernel
theorem dL_law_318 : decode cL_law 318 = .ok (.iconst 1, 1) := by decide +kernel
theorem dL_law_319 : decode cL_law 319 = .ok (.iadd, 1) := by decide +kernel
theorem dL_law_320 : decode cL_law 320 = .ok (.iaload, 1) := by decide +kernel
theorem dL_law_321 : decode cL_law 321 = .ok (.invokevirtual 26, 3) := by decide +kernel
theorem dL_law_324 : decode cL_law 324 = .ok (.if_icmp .eq 1137, 3) := by decide +kernel
theorem dL_law_329 : decode cL_law 329 = .ok (.aload_n 1, 1) := by decide +kernel
theorem dL_law_330 : decode cL_law 330 = .ok (.aload_n 0, 1) := by decide +kernel
theorem dL_law_331 : decode cL_law 331 = .ok (.iload_n 3, 1) := by decide +kernel
theorem dL_law_332 : decode cL_law 332 = .ok (.iconst 1, 1) := by decide +kernel
theorem dL_law_333 : decode cL_law 333 = .ok (.iadd, 1) := by decide +kernel
theorem dL_law_334 : decode cL_law 334 = .ok (.iaload, 1) := by decide +kernel
theorem dL_law_335 : decode cL_law 335 = .ok (.aload_n 0, 1) := by decide +kernel
theorem dL_law_336 : decode cL_law 336 = .ok (.iload_n 3, 1) := by decide +kernel
theorem dL_law_337 : decode cL_law 337 = .ok (.iconst 2, 1) := by decide +kernel
theorem dL_law_338 : decode cL_law 338 = .ok (.iadd, 1) := by decide +kernel
theorem dL_law_339 : decode cL_law 339 = .ok (.iaload, 1) := by decide +kernel
theorem dL_law_340 : decode cL_law 340 = .ok (.invokevirtual 27, 3) := by decide +kernel
theorem dL_law_343 : decode cL_law 343 = .ok (.aload_n 2, 1) := by decide +kernel
theorem dL_law_344 : decode cL_law 344 = .ok (.aload_n 0, 1) := by decide +kernel
theorem dL_law_345 : decode cL_law 345 = .ok (.iload_n 3, 1) := by decide +kernel
theorem dL_law_346 : decode cL_law 346 = .ok (.iconst 1, 1) := by decide +kernel
theorem dL_law_347 : decode cL_law 347 = .ok (.iadd, 1) := by decide +kernel
theorem dL_law_348 : decode cL_law 348 = .ok (.iaload, 1) := by decide +kernel
theorem dL_law_349 : decode cL_law 349 = .ok (.aload_n 0, 1) := by decide +kernel
theorem dL_law_350 : decode cL_law 350 = .ok (.iload_n 3, 1) := by decide +kernel
theorem dL_law_351 : decode cL_law 351 = .ok (.iconst 2, 1) := by decide +kernel
theorem dL_law_352 : decode cL_law 352 = .ok (.iadd, 1) := by decide +kernel
theorem dL_law_353 : decode cL_law 353 = .ok (.iaload, 1) := by decide +kernel
theorem dL_law_354 : decode cL_law 354 = .ok (.invokevirtual 31, 3) := by decide +kernel
theorem dL_law_357 : decode cL_law 357 = .ok (.if_icmp .eq 1104, 3) := by decide +kernel
theorem dL_law_362 : decode cL_law 362 = .ok (.aload_n 1, 1) := by decide +kernel
theorem dL_law_363 : decode cL_law 363 = .ok (.aload_n 0, 1) := by decide +kernel
theorem dL_law_364 : decode cL_law 364 = .ok (.iload_n 3, 1) := by decide +kernel
theorem dL_law_365 : decode cL_law 365 = .ok (.iconst 1, 1) := by decide +kernel
theorem dL_law_366 : decode cL_law 366 = .ok (.iadd, 1) := by decide +kernel
theorem dL_law_367 : decode cL_law 367 = .ok (.iaload, 1) := by decide +kernel
theorem dL_law_368 : decode cL_law 368 = .ok (.invokevirtual 32, 3) := by decide +kernel
theorem dL_law_371 : decode cL_law 371 = .ok (.aload_n 2, 1) := by decide +kernel
theorem dL_law_372 : decode cL_law 372 = .ok (.aload_n 0, 1) := by decide +kernel
theorem dL_law_373 : decode cL_law 373 = .ok (.iload_n 3, 1) := by decide +kernel
theorem dL_law_374 : decode cL_law 374 = .ok (.iconst 1, 1) := by decide +kernel
theorem dL_law_375 : decode cL_law 375 = .ok (.iadd, 1) := by decide +kernel
theorem dL_law_376 : decode cL_law 376 = .ok (.iaload, 1) := by decide +kernel
theorem dL_law_377 : decode cL_law 377 = .ok (.invokevirtual 35, 3) := by decide +kernel
theorem dL_law_380 : decode cL_law 380 = .ok (.if_icmp .eq 1081, 3) := by decide +kernel
theorem dL_law_385 : decode cL_law 385 = .ok (.aload_n 1, 1) := by decide +kernel
theorem dL_law_386 : decode cL_law 386 = .ok (.aload_n 0, 1) := by decide +kernel
theorem dL_law_387 : decode cL_law 387 = .ok (.iload_n 3, 1) := by decide +kernel
theorem dL_law_388 : decode cL_law 388 = .ok (.iconst 1, 1) := by decide +kernel
theorem dL_law_389 : decode cL_law 389 = .ok (.iadd, 1) := by decide +kernel
theorem dL_law_390 : decode cL_law 390 = .ok (.iaload, 1) := by decide +kernel
theorem dL_law_391 : decode cL_law 391 = .ok (.aload_n 0, 1) := by decide +kernel
theorem dL_law_392 : decode cL_law 392 = .ok (.iload_n 3, 1) := by decide +kernel
theorem dL_law_393 : decode cL_law 393 = .ok (.iconst 2, 1) := by decide +kernel
theorem dL_law_394 : decode cL_law 394 = .ok (.iadd, 1) := by decide +kernel
theorem dL_law_395 : decode cL_law 395 = .ok (.iaload, 1) := by decide +kernel
theorem dL_law_396 : decode cL_law 396 = .ok (.invokevirtual 36, 3) := by decide +kernel
theorem dL_law_399 : decode cL_law 399 = .ok (.aload_n 2, 1) := by decide +kernel
theorem dL_law_400 : decode cL_law 400 = .ok (.aload_n 0, 1) := by decide +kernel
theorem dL_law_401 : decode cL_law 401 = .ok (.iload_n 3, 1) := by decide +kernel
theorem dL_law_402 : decode cL_law 402 = .ok (.iconst 1, 1) := by decide +kernel
theorem dL_law_403 : decode cL_law 403 = .ok (.iadd, 1) := by decide +kernel
theorem dL_law_404 : decode cL_law 404 = .ok (.iaload, 1) := by decide +kernel
theorem dL_law_405 : decode cL_law 405 = .ok (.aload_n 0, 1) := by decide +kernel
theorem dL_law_406 : decode cL_law 406 = .ok (.iload_n 3, 1) := by decide +kernel
theorem dL_law_407 : decode cL_law 407 = .ok (.iconst 2, 1) := by decide +kernel
theorem dL_law_408 : decode cL_law 408 = .ok (.iadd, 1) := by decide +kernel
theorem dL_law_409 : decode cL_law 409 = .ok (.iaload, 1) := by decide +kernel
theorem dL_law_410 : decode cL_law 410 = .ok (.invokevirtual 39, 3) := by decide +kernel
theorem dL_law_413 : decode cL_law 413 = .ok (.if_icmp .eq 1048, 3) := by decide +kernel
theorem dL_law_418 : decode cL_law 418 = .ok (.aload_n 1, 1) := by decide +kernel
theorem dL_law_419 : decode cL_law 419 = .ok (.aload_n 0, 1) := by decide +kernel
theorem dL_law_420 : decode cL_law 420 = .ok (.iload_n 3, 1) := by decide +kernel
theorem dL_law_421 : decode cL_law 421 = .ok (.iconst 1, 1) := by decide +kernel
theorem dL_law_422 : decode cL_law 422 = .ok (.iadd, 1) := by decide +kernel
theorem dL_law_423 : decode cL_law 423 = .ok (.iaload, 1) := by decide +kernel
theorem dL_law_424 : decode cL_law 424 = .ok (.invokevirtual 40, 3) := by decide +kernel
theorem dL_law_427 : decode cL_law 427 = .ok (.aload_n 2, 1) := by decide +kernel
theorem dL_law_428 : decode cL_law 428 = .ok (.aload_n 0, 1) := by decide +kernel
theorem dL_law_429 : decode cL_law 429 = .ok (.iload_n 3, 1) := by decide +kernel
theorem dL_law_430 : decode cL_law 430 = .ok (.iconst 1, 1) := by decide +kernel
theorem dL_law_431 : decode cL_law 431 = .ok (.iadd, 1) := by decide +kernel
theorem dL_law_432 : decode cL_law 432 = .ok (.iaload, 1) := by decide +kernel
theorem dL_law_433 : decode cL_law 433 = .ok (.invokevirtual 43, 3) := by decide +kernel
theorem dL_law_436 : decode cL_law 436 = .ok (.if_icmp .eq 1025, 3) := by decide +kernel
theorem dL_law_441 : decode cL_law 441 = .ok (.aload_n 1, 1) := by decide +kernel
theorem dL_law_442 : decode cL_law 442 = .ok (.aload_n 0, 1) := by decide +kernel
theorem dL_law_443 : decode cL_law 443 = .ok (.iload_n 3, 1) := by decide +kernel
theorem dL_law_444 : decode cL_law 444 = .ok (.iconst 1, 1) := by decide +kernel
theorem dL_law_445 : decode cL_law 445 = .ok (.iadd, 1) := by decide +kernel
theorem dL_law_446 : decode cL_law 446 = .ok (.iaload, 1) := by decide +kernel
theorem dL_law_447 : decode cL_law 447 = .ok (.aload_n 0, 1) := by decide +kernel
theorem dL_law_448 : decode cL_law 448 = .ok (.iload_n 3, 1) := by decide +kernel
theorem dL_law_449 : decode cL_law 449 = .ok (.iconst 2, 1) := by decide +kernel
theorem dL_law_450 : decode cL_law 450 = .ok (.iadd, 1) := by decide +kernel
theorem dL_law_451 : decode cL_law 451 = .ok (.iaload, 1) := by decide +kernel
theorem dL_law_452 : decode cL_law 452 = .ok (.invokevirtual 44, 3) := by decide +kernel
theorem dL_law_455 : decode cL_law 455 = .ok (.aload_n 2, 1) := by decide +kernel
theorem dL_law_456 : decode cL_law 456 = .ok (.aload_n 0, 1) := by decide +kernel
theorem dL_law_457 : decode cL_law 457 = .ok (.iload_n 3, 1) := by decide +kernel
theorem dL_law_458 : decode cL_law 458 = .ok (.iconst 1, 1) := by decide +kernel
theorem dL_law_459 : decode cL_law 459 = .ok (.iadd, 1) := by decide +kernel
theorem dL_law_460 : decode cL_law 460 = .ok (.iaload, 1) := by decide +kernel
theorem dL_law_461 : decode cL_law 461 = .ok (.aload_n 0, 1) := by decide +kernel
theorem dL_law_462 : decode cL_law 462 = .ok (.iload_n 3, 1) := by decide +kernel
theorem dL_law_463 : decode cL_law 463 = .ok (.iconst 2, 1) := by decide +kernel
theorem dL_law_464 : decode cL_law 464 = .ok (.iadd, 1) := by decide +kernel
theorem dL_law_465 : decode cL_law 465 = .ok (.iaload, 1) := by decide +kernel
theorem dL_law_466 : decode cL_law 466 = .ok (.invokevirtual 47, 3) := by decide +kernel
theorem dL_law_469 : decode cL_law 469 = .ok (.if_icmp .eq 992, 3) := by decide +kernel
theorem dL_law_474 : decode cL_law 474 = .ok (.aload_n 1, 1) := by decide +kernel
theorem dL_law_475 : decode cL_law 475 = .ok (.aload_n 0, 1) := by decide +kernel
theorem dL_law_476 : decode cL_law 476 = .ok (.iload_n 3, 1) := by decide +kernel
theorem dL_law_477 : decode cL_law 477 = .ok (.iconst 1, 1) := by decide +kernel
theorem dL_law_478 : decode cL_law 478 = .ok (.iadd, 1) := by decide +kernel
theorem dL_law_479 : decode cL_law 479 = .ok (.iaload, 1) := by decide +kernel
theorem dL_law_480 : decode cL_law 480 = .ok (.invokevirtual 48, 3) := by decide +kernel
theorem dL_law_483 : decode cL_law 483 = .ok (.aload_n 2, 1) := by decide +kernel
theorem dL_law_484 : decode cL_law 484 = .ok (.aload_n 0, 1) := by decide +kernel
theorem dL_law_485 : decode cL_law 485 = .ok (.iload_n 3, 1) := by decide +kernel
theorem dL_law_486 : decode cL_law 486 = .ok (.iconst 1, 1) := by decide +kernel
theorem dL_law_487 : decode cL_law 487 = .ok (.iadd, 1) := by decide +kernel
theorem dL_law_488 : decode cL_law 488 = .ok (.iaload, 1) := by decide +kernel
theorem dL_law_489 : decode cL_law 489 = .ok (.invokevirtual 51, 3) := by decide +kernel
theorem dL_law_492 : decode cL_law 492 = .ok (.if_icmp .eq 969, 3) := by decide +kernel
theorem dL_law_497 : decode cL_law 497 = .ok (.aload_n 1, 1) := by decide +kernel
theorem dL_law_498 : decode cL_law 498 = .ok (.aload_n 0, 1) := by decide +kernel
theorem dL_law_499 : decode cL_law 499 = .ok (.iload_n 3, 1) := by decide +kernel
theorem dL_law_500 : decode cL_law 500 = .ok (.iconst 1, 1) := by decide +kernel
theorem dL_law_501 : decode cL_law 501 = .ok (.iadd, 1) := by decide +kernel
theorem dL_law_502 : decode cL_law 502 = .ok (.iaload, 1) := by decide +kernel
theorem dL_law_503 : decode cL_law 503 = .ok (.invokevirtual 52, 3) := by decide +kernel
theorem dL_law_506 : decode cL_law 506 = .ok (.aload_n 2, 1) := by decide +kernel
theorem dL_law_507 : decode cL_law 507 = .ok (.aload_n 0, 1) := by decide +kernel
theorem dL_law_508 : decode cL_law 508 = .ok (.iload_n 3, 1) := by decide +kernel
theorem dL_law_509 : decode cL_law 509 = .ok (.iconst 1, 1) := by decide +kernel
theorem dL_law_510 : decode cL_law 510 = .ok (.iadd, 1) := by decide +kernel
theorem dL_law_511 : decode cL_law 511 = .ok (.iaload, 1) := by decide +kernel
theorem dL_law_512 : decode cL_law 512 = .ok (.invokevirtual 55, 3) := by decide +kernel
theorem dL_law_515 : decode cL_law 515 = .ok (.if_icmp .eq 946, 3) := by decide +kernel
theorem dL_law_520 : decode cL_law 520 = .ok (.aload_n 1, 1) := by decide +kernel
theorem dL_law_521 : decode cL_law 521 = .ok (.aload_n 0, 1) := by decide +kernel
theorem dL_law_522 : decode cL_law 522 = .ok (.iload_n 3, 1) := by decide +kernel
theorem dL_law_523 : decode cL_law 523 = .ok (.iconst 1, 1) := by decide +kernel
theorem dL_law_524 : decode cL_law 524 = .ok (.iadd, 1) := by decide +kernel
theorem dL_law_525 : decode cL_law 525 = .ok (.iaload, 1) := by decide +kernel
theorem dL_law_526 : decode cL_law 526 = .ok (.invokevirtual 56, 3) := by decide +kernel
theorem dL_law_529 : decode cL_law 529 = .ok (.aload_n 2, 1) := by decide +kernel
theorem dL_law_530 : decode cL_law 530 = .ok (.aload_n 0, 1) := by decide +kernel
theorem dL_law_531 : decode cL_law 531 = .ok (.iload_n 3, 1) := by decide +kernel
theorem dL_law_532 : decode cL_law 532 = .ok (.iconst 1, 1) := by decide +kernel
theorem dL_law_533 : decode cL_law 533 = .ok (.iadd, 1) := by decide +kernel
theorem dL_law_534 : decode cL_law 534 = .ok (.iaload, 1) := by decide +kernel
theorem dL_law_535 : decode cL_law 535 = .ok (.invokevirtual 59, 3) := by decide +kernel
theorem dL_law_538 : decode cL_law 538 = .ok (.if_icmp .eq 923, 3) := by decide +kernel
theorem dL_law_543 : decode cL_law 543 = .ok (.aload_n 1, 1) := by decide +kernel
theorem dL_law_544 : decode cL_law 544 = .ok (.aload_n 0, 1) := by decide +kernel
theorem dL_law_545 : decode cL_law 545 = .ok (.iload_n 3, 1) := by decide +kernel
theorem dL_law_546 : decode cL_law 546 = .ok (.iconst 1, 1) := by decide +kernel
theorem dL_law_547 : decode cL_law 547 = .ok (.iadd, 1) := by decide +kernel
theorem dL_law_548 : decode cL_law 548 = .ok (.iaload, 1) := by decide +kernel
theorem dL_law_549 : decode cL_law 549 = .ok (.invokevirtual 60, 3) := by decide +kernel
theorem dL_law_552 : decode cL_law 552 = .ok (.aload_n 2, 1) := by decide +kernel
theorem dL_law_553 : decode cL_law 553 = .ok (.aload_n 0, 1) := by decide +kernel
theorem dL_law_554 : decode cL_law 554 = .ok (.iload_n 3, 1) := by decide +kernel
theorem dL_law_555 : decode cL_law 555 = .ok (.iconst 1, 1) := by decide +kernel
theorem dL_law_556 : decode cL_law 556 = .ok (.iadd, 1) := by decide +kernel
theorem dL_law_557 : decode cL_law 557 = .ok (.iaload, 1) := by decide +kernel
theorem dL_law_558 : decode cL_law 558 = .ok (.invokevirtual 63, 3) := by decide +kernel
theorem dL_law_561 : decode cL_law 561 = .ok (.if_icmp .eq 900, 3) := by decide +kernel
theorem dL_law_566 : decode cL_law 566 = .ok (.aload_n 1, 1) := by decide +kernel
theorem dL_law_567 : decode cL_law 567 = .ok (.aload_n 0, 1) := by decide +kernel
theorem dL_law_568 : decode cL_law 568 = .ok (.iload_n 3, 1) := by decide +kernel
theorem dL_law_569 : decode cL_law 569 = .ok (.iconst 1, 1) := by decide +kernel
theorem dL_law_570 : decode cL_law 570 = .ok (.iadd, 1) := by decide +kernel
theorem dL_law_571 : decode cL_law 571 = .ok (.iaload, 1) := by decide +kernel
theorem dL_law_572 : decode cL_law 572 = .ok (.aload_n 0, 1) := by decide +kernel
theorem dL_law_573 : decode cL_law 573 = .ok (.iload_n 3, 1) := by decide +kernel
theorem dL_law_574 : decode cL_law 574 = .ok (.iconst 2, 1) := by decide +kernel
theorem dL_law_575 : decode cL_law 575 = .ok (.iadd, 1) := by decide +kernel
theorem dL_law_576 : decode cL_law 576 = .ok (.iaload, 1) := by decide +kernel
theorem dL_law_577 : decode cL_law 577 = .ok (.invokevirtual 64, 3) := by decide +kernel
theorem dL_law_580 : decode cL_law 580 = .ok (.aload_n 2, 1) := by decide +kernel
theorem dL_law_581 : decode cL_law 581 = .ok (.aload_n 0, 1) := by decide +kernel
theorem dL_law_582 : decode cL_law 582 = .ok (.iload_n 3, 1) := by decide +kernel
theorem dL_law_583 : decode cL_law 583 = .ok (.iconst 1, 1) := by decide +kernel
theorem dL_law_584 : decode cL_law 584 = .ok (.iadd, 1) := by decide +kernel
theorem dL_law_585 : decode cL_law 585 = .ok (.iaload, 1) := by decide +kernel
theorem dL_law_586 : decode cL_law 586 = .ok (.aload_n 0, 1) := by decide +kernel
theorem dL_law_587 : decode cL_law 587 = .ok (.iload_n 3, 1) := by decide +kernel
theorem dL_law_588 : decode cL_law 588 = .ok (.iconst 2, 1) := by decide +kernel
theorem dL_law_589 : decode cL_law 589 = .ok (.iadd, 1) := by decide +kernel
theorem dL_law_590 : decode cL_law 590 = .ok (.iaload, 1) := by decide +kernel
theorem dL_law_591 : decode cL_law 591 = .ok (.invokevirtual 67, 3) := by decide +kernel
theorem dL_law_594 : decode cL_law 594 = .ok (.if_icmp .eq 867, 3) := by decide +kernel
theorem dL_law_599 : decode cL_law 599 = .ok (.aload_n 1, 1) := by decide +kernel
theorem dL_law_600 : decode cL_law 600 = .ok (.aload_n 0, 1) := by decide +kernel
theorem dL_law_601 : decode cL_law 601 = .ok (.iload_n 3, 1) := by decide +kernel
theorem dL_law_602 : decode cL_law 602 = .ok (.iconst 1, 1) := by decide +kernel
theorem dL_law_603 : decode cL_law 603 = .ok (.iadd, 1) := by decide +kernel
theorem dL_law_604 : decode cL_law 604 = .ok (.iaload, 1) := by decide +kernel
theorem dL_law_605 : decode cL_law 605 = .ok (.invokevirtual 68, 3) := by decide +kernel
theorem dL_law_608 : decode cL_law 608 = .ok (.aload_n 2, 1) := by decide +kernel
theorem dL_law_609 : decode cL_law 609 = .ok (.aload_n 0, 1) := by decide +kernel
theorem dL_law_610 : decode cL_law 610 = .ok (.iload_n 3, 1) := by decide +kernel
theorem dL_law_611 : decode cL_law 611 = .ok (.iconst 1, 1) := by decide +kernel
theorem dL_law_612 : decode cL_law 612 = .ok (.iadd, 1) := by decide +kernel
theorem dL_law_613 : decode cL_law 613 = .ok (.iaload, 1) := by decide +kernel
theorem dL_law_614 : decode cL_law 614 = .ok (.invokevirtual 71, 3) := by decide +kernel
theorem dL_law_617 : decode cL_law 617 = .ok (.if_icmp .eq 844, 3) := by decide +kernel
theorem dL_law_655 : decode cL_law 655 = .ok (.aload_n 1, 1) := by decide +kernel
theorem dL_law_656 : decode cL_law 656 = .ok (.aload_n 0, 1) := by decide +kernel
theorem dL_law_657 : decode cL_law 657 = .ok (.iload_n 3, 1) := by decide +kernel
theorem dL_law_658 : decode cL_law 658 = .ok (.iconst 1, 1) := by decide +kernel
theorem dL_law_659 : decode cL_law 659 = .ok (.iadd, 1) := by decide +kernel
theorem dL_law_660 : decode cL_law 660 = .ok (.iaload, 1) := by decide +kernel
theorem dL_law_661 : decode cL_law 661 = .ok (.invokevirtual 76, 3) := by decide +kernel
theorem dL_law_664 : decode cL_law 664 = .ok (.aload_n 2, 1) := by decide +kernel
theorem dL_law_665 : decode cL_law 665 = .ok (.aload_n 0, 1) := by decide +kernel
theorem dL_law_666 : decode cL_law 666 = .ok (.iload_n 3, 1) := by decide +kernel
theorem dL_law_667 : decode cL_law 667 = .ok (.iconst 1, 1) := by decide +kernel
theorem dL_law_668 : decode cL_law 668 = .ok (.iadd, 1) := by decide +kernel
theorem dL_law_669 : decode cL_law 669 = .ok (.iaload, 1) := by decide +kernel
theorem dL_law_670 : decode cL_law 670 = .ok (.invokevirtual 79, 3) := by decide +kernel
theorem dL_law_673 : decode cL_law 673 = .ok (.if_icmp .eq 788, 3) := by decide +kernel
theorem dL_law_678 : decode cL_law 678 = .ok (.aload_n 1, 1) := by decide +kernel
theorem dL_law_679 : decode cL_law 679 = .ok (.aload_n 0, 1) := by decide +kernel
theorem dL_law_680 : decode cL_law 680 = .ok (.iload_n 3, 1) := by decide +kernel
theorem dL_law_681 : decode cL_law 681 = .ok (.iconst 1, 1) := by decide +kernel
theorem dL_law_682 : decode cL_law 682 = .ok (.iadd, 1) := by decide +kernel
theorem dL_law_683 : decode cL_law 683 = .ok (.iaload, 1) := by decide +kernel
theorem dL_law_684 : decode cL_law 684 = .ok (.aload_n 0, 1) := by decide +kernel
theorem dL_law_685 : decode cL_law 685 = .ok (.iload_n 3, 1) := by decide +kernel
theorem dL_law_686 : decode cL_law 686 = .ok (.iconst 2, 1) := by decide +kernel
theorem dL_law_687 : decode cL_law 687 = .ok (.iadd, 1) := by decide +kernel
theorem dL_law_688 : decode cL_law 688 = .ok (.iaload, 1) := by decide +kernel
theorem dL_law_689 : decode cL_law 689 = .ok (.invokevirtual 80, 3) := by decide +kernel
theorem dL_law_692 : decode cL_law 692 = .ok (.aload_n 2, 1) := by decide +kernel
theorem dL_law_693 : decode cL_law 693 = .ok (.aload_n 0, 1) := by decide +kernel
theorem dL_law_694 : decode cL_law 694 = .ok (.iload_n 3, 1) := by decide +kernel
theorem dL_law_695 : decode cL_law 695 = .ok (.iconst 1, 1) := by decide +kernel
theorem dL_law_696 : decode cL_law 696 = .ok (.iadd, 1) := by decide +kernel
theorem dL_law_697 : decode cL_law 697 = .ok (.iaload, 1) := by decide +kernel
theorem dL_law_698 : decode cL_law 698 = .ok (.aload_n 0, 1) := by decide +kernel
theorem dL_law_699 : decode cL_law 699 = .ok (.iload_n 3, 1) := by decide +kernel
theorem dL_law_700 : decode cL_law 700 = .ok (.iconst 2, 1) := by decide +kernel
theorem dL_law_701 : decode cL_law 701 = .ok (.iadd, 1) := by decide +kernel
theorem dL_law_702 : decode cL_law 702 = .ok (.iaload, 1) := by decide +kernel
theorem dL_law_703 : decode cL_law 703 = .ok (.invokevirtual 83, 3) := by decide +kernel
theorem dL_law_706 : decode cL_law 706 = .ok (.if_icmp .eq 755, 3) := by decide +kernel
theorem dL_law_711 : decode cL_law 711 = .ok (.aload_n 1, 1) := by decide +kernel
theorem dL_law_712 : decode cL_law 712 = .ok (.aload_n 0, 1) := by decide +kernel
theorem dL_law_713 : decode cL_law 713 = .ok (.iload_n 3, 1) := by decide +kernel
theorem dL_law_714 : decode cL_law 714 = .ok (.iconst 1, 1) := by decide +kernel
theorem dL_law_715 : decode cL_law 715 = .ok (.iadd, 1) := by decide +kernel
theorem dL_law_716 : decode cL_law 716 = .ok (.iaload, 1) := by decide +kernel
theorem dL_law_717 : decode cL_law 717 = .ok (.invokevirtual 84, 3) := by decide +kernel
theorem dL_law_720 : decode cL_law 720 = .ok (.aload_n 2, 1) := by decide +kernel
theorem dL_law_721 : decode cL_law 721 = .ok (.aload_n 0, 1) := by decide +kernel
theorem dL_law_722 : decode cL_law 722 = .ok (.iload_n 3, 1) := by decide +kernel
theorem dL_law_723 : decode cL_law 723 = .ok (.iconst 1, 1) := by decide +kernel
theorem dL_law_724 : decode cL_law 724 = .ok (.iadd, 1) := by decide +kernel
theorem dL_law_725 : decode cL_law 725 = .ok (.iaload, 1) := by decide +kernel
theorem dL_law_726 : decode cL_law 726 = .ok (.invokevirtual 87, 3) := by decide +kernel
theorem dL_law_729 : decode cL_law 729 = .ok (.if_icmp .eq 732, 3) := by decide +kernel
theorem dL_law_734 : decode cL_law 734 = .ok (.aload_n 1, 1) := by decide +kernel
theorem dL_law_735 : decode cL_law 735 = .ok (.aload_n 0, 1) := by decide +kernel
theorem dL_law_736 : decode cL_law 736 = .ok (.iload_n 3, 1) := by decide +kernel
theorem dL_law_737 : decode cL_law 737 = .ok (.iconst 1, 1) := by decide +kernel
theorem dL_law_738 : decode cL_law 738 = .ok (.iadd, 1) := by decide +kernel
theorem dL_law_739 : decode cL_law 739 = .ok (.iaload, 1) := by decide +kernel
theorem dL_law_740 : decode cL_law 740 = .ok (.aload_n 0, 1) := by decide +kernel
theorem dL_law_741 : decode cL_law 741 = .ok (.iload_n 3, 1) := by decide +kernel
theorem dL_law_742 : decode cL_law 742 = .ok (.iconst 2, 1) := by decide +kernel
theorem dL_law_743 : decode cL_law 743 = .ok (.iadd, 1) := by decide +kernel
theorem dL_law_744 : decode cL_law 744 = .ok (.iaload, 1) := by decide +kernel
theorem dL_law_745 : decode cL_law 745 = .ok (.invokevirtual 88, 3) := by decide +kernel
theorem dL_law_748 : decode cL_law 748 = .ok (.aload_n 2, 1) := by decide +kernel
theorem dL_law_749 : decode cL_law 749 = .ok (.aload_n 0, 1) := by decide +kernel
theorem dL_law_750 : decode cL_law 750 = .ok (.iload_n 3, 1) := by decide +kernel
theorem dL_law_751 : decode cL_law 751 = .ok (.iconst 1, 1) := by decide +kernel
theorem dL_law_752 : decode cL_law 752 = .ok (.iadd, 1) := by decide +kernel
theorem dL_law_753 : decode cL_law 753 = .ok (.iaload, 1) := by decide +kernel
theorem dL_law_754 : decode cL_law 754 = .ok (.aload_n 0, 1) := by decide +kernel
theorem dL_law_755 : decode cL_law 755 = .ok (.iload_n 3, 1) := by decide +kernel
theorem dL_law_756 : decode cL_law 756 = .ok (.iconst 2, 1) := by decide +kernel
theorem dL_law_757 : decode cL_law 757 = .ok (.iadd, 1) := by decide +kernel
theorem dL_law_758 : decode cL_law 758 = .ok (.iaload, 1) := by decide +kernel
theorem dL_law_759 : decode cL_law 759 = .ok (.invokevirtual 91, 3) := by decide +kernel
theorem dL_law_762 : decode cL_law 762 = .ok (.if_icmp .eq 699, 3) := by decide +kernel
theorem dL_law_767 : decode cL_law 767 = .ok (.aload_n 1, 1) := by decide +kernel
theorem dL_law_768 : decode cL_law 768 = .ok (.aload_n 0, 1) := by decide +kernel
theorem dL_law_769 : decode cL_law 769 = .ok (.iload_n 3, 1) := by decide +kernel
theorem dL_law_770 : decode cL_law 770 = .ok (.iconst 1, 1) := by decide +kernel
theorem dL_law_771 : decode cL_law 771 = .ok (.iadd, 1) := by decide +kernel
theorem dL_law_772 : decode cL_law 772 = .ok (.iaload, 1) := by decide +kernel
theorem dL_law_773 : decode cL_law 773 = .ok (.invokevirtual 92, 3) := by decide +kernel
theorem dL_law_776 : decode cL_law 776 = .ok (.aload_n 2, 1) := by decide +kernel
theorem dL_law_777 : decode cL_law 777 = .ok (.aload_n 0, 1) := by decide +kernel
theorem dL_law_778 : decode cL_law 778 = .ok (.iload_n 3, 1) := by decide +kernel
theorem dL_law_779 : decode cL_law 779 = .ok (.iconst 1, 1) := by decide +kernel
theorem dL_law_780 : decode cL_law 780 = .ok (.iadd, 1) := by decide +kernel
theorem dL_law_781 : decode cL_law 781 = .ok (.iaload, 1) := by decide +kernel
theorem dL_law_782 : decode cL_law 782 = .ok (.invokevirtual 95, 3) := by decide +kernel
theorem dL_law_785 : decode cL_law 785 = .ok (.if_icmp .eq 676, 3) := by decide +kernel
theorem dL_law_790 : decode cL_law 790 = .ok (.aload_n 1, 1) := by decide +kernel
theorem dL_law_791 : decode cL_law 791 = .ok (.invokevirtual 96, 3) := by decide +kernel
theorem dL_law_794 : decode cL_law 794 = .ok (.aload_n 2, 1) := by decide +kernel
theorem dL_law_795 : decode cL_law 795 = .ok (.invokevirtual 100, 3) := by decide +kernel
theorem dL_law_798 : decode cL_law 798 = .ok (.if_icmp .eq 663, 3) := by decide +kernel
theorem dL_law_803 : decode cL_law 803 = .ok (.aload_n 1, 1) := by decide +kernel
theorem dL_law_804 : decode cL_law 804 = .ok (.invokevirtual 101, 3) := by decide +kernel
theorem dL_law_807 : decode cL_law 807 = .ok (.aload_n 2, 1) := by decide +kernel
theorem dL_law_808 : decode cL_law 808 = .ok (.invokevirtual 104, 3) := by decide +kernel
theorem dL_law_811 : decode cL_law 811 = .ok (.if_icmp .eq 650, 3) := by decide +kernel
theorem dL_law_816 : decode cL_law 816 = .ok (.aload_n 1, 1) := by decide +kernel
theorem dL_law_817 : decode cL_law 817 = .ok (.invokevirtual 105, 3) := by decide +kernel
theorem dL_law_820 : decode cL_law 820 = .ok (.aload_n 2, 1) := by decide +kernel
theorem dL_law_821 : decode cL_law 821 = .ok (.invokevirtual 108, 3) := by decide +kernel
theorem dL_law_824 : decode cL_law 824 = .ok (.if_icmp .eq 637, 3) := by decide +kernel
theorem dL_law_829 : decode cL_law 829 = .ok (.aload_n 1, 1) := by decide +kernel
theorem dL_law_830 : decode cL_law 830 = .ok (.aload_n 0, 1) := by decide +kernel
theorem dL_law_831 : decode cL_law 831 = .ok (.iload_n 3, 1) := by decide +kernel
theorem dL_law_832 : decode cL_law 832 = .ok (.iconst 1, 1) := by decide +kernel
theorem dL_law_833 : decode cL_law 833 = .ok (.iadd, 1) := by decide +kernel
theorem dL_law_834 : decode cL_law 834 = .ok (.iaload, 1) := by decide +kernel
theorem dL_law_835 : decode cL_law 835 = .ok (.aload_n 0, 1) := by decide +kernel
theorem dL_law_836 : decode cL_law 836 = .ok (.iload_n 3, 1) := by decide +kernel
theorem dL_law_837 : decode cL_law 837 = .ok (.iconst 2, 1) := by decide +kernel
theorem dL_law_838 : decode cL_law 838 = .ok (.iadd, 1) := by decide +kernel
theorem dL_law_839 : decode cL_law 839 = .ok (.iaload, 1) := by decide +kernel
theorem dL_law_840 : decode cL_law 840 = .ok (.invokevirtual 109, 3) := by decide +kernel
theorem dL_law_843 : decode cL_law 843 = .ok (.aload_n 2, 1) := by decide +kernel
theorem dL_law_844 : decode cL_law 844 = .ok (.aload_n 0, 1) := by decide +kernel
theorem dL_law_845 : decode cL_law 845 = .ok (.iload_n 3, 1) := by decide +kernel
theorem dL_law_846 : decode cL_law 846 = .ok (.iconst 1, 1) := by decide +kernel
theorem dL_law_847 : decode cL_law 847 = .ok (.iadd, 1) := by decide +kernel
theorem dL_law_848 : decode cL_law 848 = .ok (.iaload, 1) := by decide +kernel
theorem dL_law_849 : decode cL_law 849 = .ok (.aload_n 0, 1) := by decide +kernel
theorem dL_law_850 : decode cL_law 850 = .ok (.iload_n 3, 1) := by decide +kernel
theorem dL_law_851 : decode cL_law 851 = .ok (.iconst 2, 1) := by decide +kernel
theorem dL_law_852 : decode cL_law 852 = .ok (.iadd, 1) := by decide +kernel
theorem dL_law_853 : decode cL_law 853 = .ok (.iaload, 1) := by decide +kernel
theorem dL_law_854 : decode cL_law 854 = .ok (.invokevirtual 112, 3) := by decide +kernel
theorem dL_law_857 : decode cL_law 857 = .ok (.if_icmp .eq 604, 3) := by decide +kernel
theorem dL_law_862 : decode cL_law 862 = .ok (.aload_n 1, 1) := by decide +kernel
theorem dL_law_863 : decode cL_law 863 = .ok (.aload_n 0, 1) := by decide +kernel
theorem dL_law_864 : decode cL_law 864 = .ok (.iload_n 3, 1) := by decide +kernel
theorem dL_law_865 : decode cL_law 865 = .ok (.iconst 1, 1) := by decide +kernel
theorem dL_law_866 : decode cL_law 866 = .ok (.iadd, 1) := by decide +kernel
theorem dL_law_867 : decode cL_law 867 = .ok (.iaload, 1) := by decide +kernel
theorem dL_law_868 : decode cL_law 868 = .ok (.invokevirtual 113, 3) := by decide +kernel
theorem dL_law_871 : decode cL_law 871 = .ok (.aload_n 2, 1) := by decide +kernel
theorem dL_law_872 : decode cL_law 872 = .ok (.aload_n 0, 1) := by decide +kernel
theorem dL_law_873 : decode cL_law 873 = .ok (.iload_n 3, 1) := by decide +kernel
theorem dL_law_874 : decode cL_law 874 = .ok (.iconst 1, 1) := by decide +kernel
theorem dL_law_875 : decode cL_law 875 = .ok (.iadd, 1) := by decide +kernel
theorem dL_law_876 : decode cL_law 876 = .ok (.iaload, 1) := by decide +kernel
theorem dL_law_877 : decode cL_law 877 = .ok (.invokevirtual 116, 3) := by decide +kernel
theorem dL_law_880 : decode cL_law 880 = .ok (.if_icmp .eq 581, 3) := by decide +kernel
theorem dL_law_885 : decode cL_law 885 = .ok (.aload_n 1, 1) := by decide +kernel
theorem dL_law_886 : decode cL_law 886 = .ok (.aload_n 0, 1) := by decide +kernel
theorem dL_law_887 : decode cL_law 887 = .ok (.iload_n 3, 1) := by decide +kernel
theorem dL_law_888 : decode cL_law 888 = .ok (.iconst 1, 1) := by decide +kernel
theorem dL_law_889 : decode cL_law 889 = .ok (.iadd, 1) := by decide +kernel
theorem dL_law_890 : decode cL_law 890 = .ok (.iaload, 1) := by decide +kernel
theorem dL_law_891 : decode cL_law 891 = .ok (.aload_n 0, 1) := by decide +kernel
theorem dL_law_892 : decode cL_law 892 = .ok (.iload_n 3, 1) := by decide +kernel
theorem dL_law_893 : decode cL_law 893 = .ok (.iconst 2, 1) := by decide +kernel
theorem dL_law_894 : decode cL_law 894 = .ok (.iadd, 1) := by decide +kernel
theorem dL_law_895 : decode cL_law 895 = .ok (.iaload, 1) := by decide +kernel
theorem dL_law_896 : decode cL_law 896 = .ok (.invokevirtual 117, 3) := by decide +kernel
theorem dL_law_899 : decode cL_law 899 = .ok (.aload_n 2, 1) := by decide +kernel
theorem dL_law_900 : decode cL_law 900 = .ok (.aload_n 0, 1) := by decide +kernel
theorem dL_law_901 : decode cL_law 901 = .ok (.iload_n 3, 1) := by decide +kernel
theorem dL_law_902 : decode cL_law 902 = .ok (.iconst 1, 1) := by decide +kernel
theorem dL_law_903 : decode cL_law 903 = .ok (.iadd, 1) := by decide +kernel
theorem dL_law_904 : decode cL_law 904 = .ok (.iaload, 1) := by decide +kernel
theorem dL_law_905 : decode cL_law 905 = .ok (.aload_n 0, 1) := by decide +kernel
theorem dL_law_906 : decode cL_law 906 = .ok (.iload_n 3, 1) := by decide +kernel
theorem dL_law_907 : decode cL_law 907 = .ok (.iconst 2, 1) := by decide +kernel
theorem dL_law_908 : decode cL_law 908 = .ok (.iadd, 1) := by decide +kernel
theorem dL_law_909 : decode cL_law 909 = .ok (.iaload, 1) := by decide +kernel
theorem dL_law_910 : decode cL_law 910 = .ok (.invokevirtual 120, 3) := by decide +kernel
theorem dL_law_913 : decode cL_law 913 = .ok (.if_icmp .eq 548, 3) := by decide +kernel
theorem dL_law_918 : decode cL_law 918 = .ok (.aload_n 1, 1) := by decide +kernel
theorem dL_law_919 : decode cL_law 919 = .ok (.aload_n 0, 1) := by decide +kernel
theorem dL_law_920 : decode cL_law 920 = .ok (.iload_n 3, 1) := by decide +kernel
theorem dL_law_921 : decode cL_law 921 = .ok (.iconst 1, 1) := by decide +kernel
theorem dL_law_922 : decode cL_law 922 = .ok (.iadd, 1) := by decide +kernel
theorem dL_law_923 : decode cL_law 923 = .ok (.iaload, 1) := by decide +kernel
theorem dL_law_924 : decode cL_law 924 = .ok (.aload_n 0, 1) := by decide +kernel
theorem dL_law_925 : decode cL_law 925 = .ok (.iload_n 3, 1) := by decide +kernel
theorem dL_law_926 : decode cL_law 926 = .ok (.iconst 2, 1) := by decide +kernel
theorem dL_law_927 : decode cL_law 927 = .ok (.iadd, 1) := by decide +kernel
theorem dL_law_928 : decode cL_law 928 = .ok (.iaload, 1) := by decide +kernel
theorem dL_law_929 : decode cL_law 929 = .ok (.aload_n 0, 1) := by decide +kernel
theorem dL_law_930 : decode cL_law 930 = .ok (.iload_n 3, 1) := by decide +kernel
theorem dL_law_931 : decode cL_law 931 = .ok (.iconst 3, 1) := by decide +kernel
theorem dL_law_932 : decode cL_law 932 = .ok (.iadd, 1) := by decide +kernel
theorem dL_law_933 : decode cL_law 933 = .ok (.iaload, 1) := by decide +kernel
theorem dL_law_934 : decode cL_law 934 = .ok (.invokevirtual 121, 3) := by decide +kernel
theorem dL_law_937 : decode cL_law 937 = .ok (.aload_n 2, 1) := by decide +kernel
theorem dL_law_938 : decode cL_law 938 = .ok (.aload_n 0, 1) := by decide +kernel
theorem dL_law_939 : decode cL_law 939 = .ok (.iload_n 3, 1) := by decide +kernel
theorem dL_law_940 : decode cL_law 940 = .ok (.iconst 1, 1) := by decide +kernel
theorem dL_law_941 : decode cL_law 941 = .ok (.iadd, 1) := by decide +kernel
theorem dL_law_942 : decode cL_law 942 = .ok (.iaload, 1) := by decide +kernel
theorem dL_law_943 : decode cL_law 943 = .ok (.aload_n 0, 1) := by decide +kernel
theorem dL_law_944 : decode cL_law 944 = .ok (.iload_n 3, 1) := by decide +kernel
theorem dL_law_945 : decode cL_law 945 = .ok (.iconst 2, 1) := by decide +kernel
theorem dL_law_946 : decode cL_law 946 = .ok (.iadd, 1) := by decide +kernel
theorem dL_law_947 : decode cL_law 947 = .ok (.iaload, 1) := by decide +kernel
theorem dL_law_948 : decode cL_law 948 = .ok (.aload_n 0, 1) := by decide +kernel
theorem dL_law_949 : decode cL_law 949 = .ok (.iload_n 3, 1) := by decide +kernel
theorem dL_law_950 : decode cL_law 950 = .ok (.iconst 3, 1) := by decide +kernel
theorem dL_law_951 : decode cL_law 951 = .ok (.iadd, 1) := by decide +kernel
theorem dL_law_952 : decode cL_law 952 = .ok (.iaload, 1) := by decide +kernel
theorem dL_law_953 : decode cL_law 953 = .ok (.invokevirtual 125, 3) := by decide +kernel
theorem dL_law_956 : decode cL_law 956 = .ok (.if_icmp .eq 505, 3) := by decide +kernel
theorem dL_law_961 : decode cL_law 961 = .ok (.aload_n 1, 1) := by decide +kernel
theorem dL_law_962 : decode cL_law 962 = .ok (.invokevirtual 126, 3) := by decide +kernel
theorem dL_law_965 : decode cL_law 965 = .ok (.aload_n 2, 1) := by decide +kernel
theorem dL_law_966 : decode cL_law 966 = .ok (.invokevirtual 129, 3) := by decide +kernel
theorem dL_law_969 : decode cL_law 969 = .ok (.if_icmp .eq 492, 3) := by decide +kernel
theorem dL_law_974 : decode cL_law 974 = .ok (.aload_n 1, 1) := by decide +kernel
theorem dL_law_975 : decode cL_law 975 = .ok (.aload_n 0, 1) := by decide +kernel
theorem dL_law_976 : decode cL_law 976 = .ok (.iload_n 3, 1) := by decide +kernel
theorem dL_law_977 : decode cL_law 977 = .ok (.iconst 1, 1) := by decide +kernel
theorem dL_law_978 : decode cL_law 978 = .ok (.iadd, 1) := by decide +kernel
theorem dL_law_979 : decode cL_law 979 = .ok (.iaload, 1) := by decide +kernel
theorem dL_law_980 : decode cL_law 980 = .ok (.invokevirtual 130, 3) := by decide +kernel
theorem dL_law_983 : decode cL_law 983 = .ok (.aload_n 2, 1) := by decide +kernel
theorem dL_law_984 : decode cL_law 984 = .ok (.aload_n 0, 1) := by decide +kernel
theorem dL_law_985 : decode cL_law 985 = .ok (.iload_n 3, 1) := by decide +kernel
theorem dL_law_986 : decode cL_law 986 = .ok (.iconst 1, 1) := by decide +kernel
theorem dL_law_987 : decode cL_law 987 = .ok (.iadd, 1) := by decide +kernel
theorem dL_law_988 : decode cL_law 988 = .ok (.iaload, 1) := by decide +kernel
theorem dL_law_989 : decode cL_law 989 = .ok (.invokevirtual 133, 3) := by decide +kernel
theorem dL_law_992 : decode cL_law 992 = .ok (.if_icmp .eq 469, 3) := by decide +kernel
theorem dL_law_997 : decode cL_law 997 = .ok (.aload_n 1, 1) := by decide +kernel
theorem dL_law_998 : decode cL_law 998 = .ok (.aload_n 0, 1) := by decide +kernel
theorem dL_law_999 : decode cL_law 999 = .ok (.iload_n 3, 1) := by decide +kernel
theorem dL_law_1000 : decode cL_law 1000 = .ok (.iconst 1, 1) := by decide +kernel
theorem dL_law_1001 : decode cL_law 1001 = .ok (.iadd, 1) := by decide +kernel
theorem dL_law_1002 : decode cL_law 1002 = .ok (.iaload, 1) := by decide +kernel
theorem dL_law_1003 : decode cL_law 1003 = .ok (.invokevirtual 134, 3) := by decide +kernel
theorem dL_law_1006 : decode cL_law 1006 = .ok (.aload_n 2, 1) := by decide +kernel
theorem dL_law_1007 : decode cL_law 1007 = .ok (.aload_n 0, 1) := by decide +kernel
theorem dL_law_1008 : decode cL_law 1008 = .ok (.iload_n 3, 1) := by decide +kernel
theorem dL_law_1009 : decode cL_law 1009 = .ok (.iconst 1, 1) := by decide +kernel
theorem dL_law_1010 : decode cL_law 1010 = .ok (.iadd, 1) := by decide +kernel
theorem dL_law_1011 : decode cL_law 1011 = .ok (.iaload, 1) := by decide +kernel
theorem dL_law_1012 : decode cL_law 1012 = .ok (.invokevirtual 137, 3) := by decide +kernel
theorem dL_law_1015 : decode cL_law 1015 = .ok (.if_icmp .eq 446, 3) := by decide +kernel
theorem dL_law_1020 : decode cL_law 1020 = .ok (.aload_n 1, 1) := by decide +kernel
theorem dL_law_1021 : decode cL_law 1021 = .ok (.aload_n 0, 1) := by decide +kernel
theorem dL_law_1022 : decode cL_law 1022 = .ok (.iload_n 3, 1) := by decide +kernel
theorem dL_law_1023 : decode cL_law 1023 = .ok (.iconst 1, 1) := by decide +kernel
theorem dL_law_1024 : decode cL_law 1024 = .ok (.iadd, 1) := by decide +kernel
theorem dL_law_1025 : decode cL_law 1025 = .ok (.iaload, 1) := by decide +kernel
theorem dL_law_1026 : decode cL_law 1026 = .ok (.aload_n 0, 1) := by decide +kernel
theorem dL_law_1027 : decode cL_law 1027 = .ok (.iload_n 3, 1) := by decide +kernel
theorem dL_law_1028 : decode cL_law 1028 = .ok (.iconst 2, 1) := by decide +kernel
theorem dL_law_1029 : decode cL_law 1029 = .ok (.iadd, 1) := by decide +kernel
theorem dL_law_1030 : decode cL_law 1030 = .ok (.iaload, 1) := by decide +kernel
theorem dL_law_1031 : decode cL_law 1031 = .ok (.invokevirtual 138, 3) := by decide +kernel
theorem dL_law_1034 : decode cL_law 1034 = .ok (.aload_n 2, 1) := by decide +kernel
theorem dL_law_1035 : decode cL_law 1035 = .ok (.aload_n 0, 1) := by decide +kernel
theorem dL_law_1036 : decode cL_law 1036 = .ok (.iload_n 3, 1) := by decide +kernel
theorem dL_law_1037 : decode cL_law 1037 = .ok (.iconst 1, 1) := by decide +kernel
theorem dL_law_1038 : decode cL_law 1038 = .ok (.iadd, 1) := by decide +kernel
theorem dL_law_1039 : decode cL_law 1039 = .ok (.iaload, 1) := by decide +kernel
theorem dL_law_1040 : decode cL_law 1040 = .ok (.aload_n 0, 1) := by decide +kernel
theorem dL_law_1041 : decode cL_law 1041 = .ok (.iload_n 3, 1) := by decide +kernel
theorem dL_law_1042 : decode cL_law 1042 = .ok (.iconst 2, 1) := by decide +kernel
theorem dL_law_1043 : decode cL_law 1043 = .ok (.iadd, 1) := by decide +kernel
theorem dL_law_1044 : decode cL_law 1044 = .ok (.iaload, 1) := by decide +kernel
theorem dL_law_1045 : decode cL_law 1045 = .ok (.invokevirtual 141, 3) := by decide +kernel
theorem dL_law_1048 : decode cL_law 1048 = .ok (.if_icmp .eq 413, 3) := by decide +kernel
theorem dL_law_1053 : decode cL_law 1053 = .ok (.aload_n 1, 1) := by decide +kernel
theorem dL_law_1054 : decode cL_law 1054 = .ok (.invokevirtual 142, 3) := by decide +kernel
theorem dL_law_1057 : decode cL_law 1057 = .ok (.aload_n 2, 1) := by decide +kernel
theorem dL_law_1058 : decode cL_law 1058 = .ok (.invokevirtual 145, 3) := by decide +kernel
theorem dL_law_1061 : decode cL_law 1061 = .ok (.if_icmp .eq 400, 3) := by decide +kernel
theorem dL_law_1066 : decode cL_law 1066 = .ok (.aload_n 1, 1) := by decide +kernel
theorem dL_law_1067 : decode cL_law 1067 = .ok (.aload_n 0, 1) := by decide +kernel
theorem dL_law_1068 : decode cL_law 1068 = .ok (.iload_n 3, 1) := by decide +kernel
theorem dL_law_1069 : decode cL_law 1069 = .ok (.iconst 1, 1) := by decide +kernel
theorem dL_law_1070 : decode cL_law 1070 = .ok (.iadd, 1) := by decide +kernel
theorem dL_law_1071 : decode cL_law 1071 = .ok (.iaload, 1) := by decide +kernel
theorem dL_law_1072 : decode cL_law 1072 = .ok (.aload_n 0, 1) := by decide +kernel
theorem dL_law_1073 : decode cL_law 1073 = .ok (.iload_n 3, 1) := by decide +kernel
theorem dL_law_1074 : decode cL_law 1074 = .ok (.iconst 2, 1) := by decide +kernel
theorem dL_law_1075 : decode cL_law 1075 = .ok (.iadd, 1) := by decide +kernel
theorem dL_law_1076 : decode cL_law 1076 = .ok (.iaload, 1) := by decide +kernel
theorem dL_law_1077 : decode cL_law 1077 = .ok (.invokevirtual 146, 3) := by decide +kernel
theorem dL_law_1080 : decode cL_law 1080 = .ok (.aload_n 2, 1) := by decide +kernel
theorem dL_law_1081 : decode cL_law 1081 = .ok (.aload_n 0, 1) := by decide +kernel
theorem dL_law_1082 : decode cL_law 1082 = .ok (.iload_n 3, 1) := by decide +kernel
theorem dL_law_1083 : decode cL_law 1083 = .ok (.iconst 1, 1) := by decide +kernel
theorem dL_law_1084 : decode cL_law 1084 = .ok (.iadd, 1) := by decide +kernel
theorem dL_law_1085 : decode cL_law 1085 = .ok (.iaload, 1) := by decide +kernel
theorem dL_law_1086 : decode cL_law 1086 = .ok (.aload_n 0, 1) := by decide +kernel
theorem dL_law_1087 : decode cL_law 1087 = .ok (.iload_n 3, 1) := by decide +kernel
theorem dL_law_1088 : decode cL_law 1088 = .ok (.iconst 2, 1) := by decide +kernel
theorem dL_law_1089 : decode cL_law 1089 = .ok (.iadd, 1) := by decide +kernel
theorem dL_law_1090 : decode cL_law 1090 = .ok (.iaload, 1) := by decide +kernel
theorem dL_law_1091 : decode cL_law 1091 = .ok (.invokevirtual 149, 3) := by decide +kernel
theorem dL_law_1094 : decode cL_law 1094 = .ok (.if_icmp .eq 367, 3) := by decide +kernel
theorem dL_law_1099 : decode cL_law 1099 = .ok (.aload_n 1, 1) := by decide +kernel
theorem dL_law_1100 : decode cL_law 1100 = .ok (.aload_n 0, 1) := by decide +kernel
theorem dL_law_1101 : decode cL_law 1101 = .ok (.iload_n 3, 1) := by decide +kernel
theorem dL_law_1102 : decode cL_law 1102 = .ok (.iconst 1, 1) := by decide +kernel
theorem dL_law_1103 : decode cL_law 1103 = .ok (.iadd, 1) := by decide +kernel
theorem dL_law_1104 : decode cL_law 1104 = .ok (.iaload, 1) := by decide +kernel
theorem dL_law_1105 : decode cL_law 1105 = .ok (.aload_n 0, 1) := by decide +kernel
theorem dL_law_1106 : decode cL_law 1106 = .ok (.iload_n 3, 1) := by decide +kernel
theorem dL_law_1107 : decode cL_law 1107 = .ok (.iconst 2, 1) := by decide +kernel
theorem dL_law_1108 : decode cL_law 1108 = .ok (.iadd, 1) := by decide +kernel
theorem dL_law_1109 : decode cL_law 1109 = .ok (.iaload, 1) := by decide +kernel
theorem dL_law_1110 : decode cL_law 1110 = .ok (.aload_n 0, 1) := by decide +kernel
theorem dL_law_1111 : decode cL_law 1111 = .ok (.iload_n 3, 1) := by decide +kernel
theorem dL_law_1112 : decode cL_law 1112 = .ok (.iconst 3, 1) := by decide +kernel
theorem dL_law_1113 : decode cL_law 1113 = .ok (.iadd, 1) := by decide +kernel
theorem dL_law_1114 : decode cL_law 1114 = .ok (.iaload, 1) := by decide +kernel
theorem dL_law_1115 : decode cL_law 1115 = .ok (.invokevirtual 150, 3) := by decide +kernel
theorem dL_law_1118 : decode cL_law 1118 = .ok (.aload_n 2, 1) := by decide +kernel
theorem dL_law_1119 : decode cL_law 1119 = .ok (.aload_n 0, 1) := by decide +kernel
theorem dL_law_1120 : decode cL_law 1120 = .ok (.iload_n 3, 1) := by decide +kernel
theorem dL_law_1121 : decode cL_law 1121 = .ok (.iconst 1, 1) := by decide +kernel
theorem dL_law_1122 : decode cL_law 1122 = .ok (.iadd, 1) := by decide +kernel
theorem dL_law_1123 : decode cL_law 1123 = .ok (.iaload, 1) := by decide +kernel
theorem dL_law_1124 : decode cL_law 1124 = .ok (.aload_n 0, 1) := by decide +kernel
theorem dL_law_1125 : decode cL_law 1125 = .ok (.iload_n 3, 1) := by decide +kernel
theorem dL_law_1126 : decode cL_law 1126 = .ok (.iconst 2, 1) := by decide +kernel
theorem dL_law_1127 : decode cL_law 1127 = .ok (.iadd, 1) := by decide +kernel
theorem dL_law_1128 : decode cL_law 1128 = .ok (.iaload, 1) := by decide +kernel
theorem dL_law_1129 : decode cL_law 1129 = .ok (.aload_n 0, 1) := by decide +kernel
theorem dL_law_1130 : decode cL_law 1130 = .ok (.iload_n 3, 1) := by decide +kernel
theorem dL_law_1131 : decode cL_law 1131 = .ok (.iconst 3, 1) := by decide +kernel
theorem dL_law_1132 : decode cL_law 1132 = .ok (.iadd, 1) := by decide +kernel
theorem dL_law_1133 : decode cL_law 1133 = .ok (.iaload, 1) := by decide +kernel
theorem dL_law_1134 : decode cL_law 1134 = .ok (.invokevirtual 153, 3) := by decide +kernel
theorem dL_law_1137 : decode cL_law 1137 = .ok (.if_icmp .eq 324, 3) := by decide +kernel
theorem dL_law_1142 : decode cL_law 1142 = .ok (.aload_n 1, 1) := by decide +kernel
theorem dL_law_1143 : decode cL_law 1143 = .ok (.aload_n 0, 1) := by decide +kernel
theorem dL_law_1144 : decode cL_law 1144 = .ok (.iload_n 3, 1) := by decide +kernel
theorem dL_law_1145 : decode cL_law 1145 = .ok (.iconst 1, 1) := by decide +kernel
theorem dL_law_1146 : decode cL_law 1146 = .ok (.iadd, 1) := by decide +kernel
theorem dL_law_1147 : decode cL_law 1147 = .ok (.iaload, 1) := by decide +kernel
theorem dL_law_1148 : decode cL_law 1148 = .ok (.aload_n 0, 1) := by decide +kernel
theorem dL_law_1149 : decode cL_law 1149 = .ok (.iload_n 3, 1) := by decide +kernel
theorem dL_law_1150 : decode cL_law 1150 = .ok (.iconst 2, 1) := by decide +kernel
theorem dL_law_1151 : decode cL_law 1151 = .ok (.iadd, 1) := by decide +kernel
theorem dL_law_1152 : decode cL_law 1152 = .ok (.iaload, 1) := by decide +kernel
theorem dL_law_1153 : decode cL_law 1153 = .ok (.invokevirtual 154, 3) := by decide +kernel
theorem dL_law_1156 : decode cL_law 1156 = .ok (.aload_n 2, 1) := by decide +kernel
theorem dL_law_1157 : decode cL_law 1157 = .ok (.aload_n 0, 1) := by decide +kernel
theorem dL_law_1158 : decode cL_law 1158 = .ok (.iload_n 3, 1) := by decide +kernel
theorem dL_law_1159 : decode cL_law 1159 = .ok (.iconst 1, 1) := by decide +kernel
theorem dL_law_1160 : decode cL_law 1160 = .ok (.iadd, 1) := by decide +kernel
theorem dL_law_1161 : decode cL_law 1161 = .ok (.iaload, 1) := by decide +kernel
theorem dL_law_1162 : decode cL_law 1162 = .ok (.aload_n 0, 1) := by decide +kernel
theorem dL_law_1163 : decode cL_law 1163 = .ok (.iload_n 3, 1) := by decide +kernel
theorem dL_law_1164 : decode cL_law 1164 = .ok (.iconst 2, 1) := by decide +kernel
theorem dL_law_1165 : decode cL_law 1165 = .ok (.iadd, 1) := by decide +kernel
theorem dL_law_1166 : decode cL_law 1166 = .ok (.iaload, 1) := by decide +kernel
theorem dL_law_1167 : decode cL_law 1167 = .ok (.invokevirtual 157, 3) := by decide +kernel
theorem dL_law_1170 : decode cL_law 1170 = .ok (.if_icmp .eq 291, 3) := by decide +kernel
theorem dL_law_1175 : decode cL_law 1175 = .ok (.aload_n 1, 1) := by decide +kernel
theorem dL_law_1176 : decode cL_law 1176 = .ok (.aload_n 0, 1) := by decide +kernel
theorem dL_law_1177 : decode cL_law 1177 = .ok (.iload_n 3, 1) := by decide +kernel
theorem dL_law_1178 : decode cL_law 1178 = .ok (.iconst 1, 1) := by decide +kernel
theorem dL_law_1179 : decode cL_law 1179 = .ok (.iadd, 1) := by decide +kernel
theorem dL_law_1180 : decode cL_law 1180 = .ok (.iaload, 1) := by decide +kernel
theorem dL_law_1181 : decode cL_law 1181 = .ok (.aload_n 0, 1) := by decide +kernel
theorem dL_law_1182 : decode cL_law 1182 = .ok (.iload_n 3, 1) := by decide +kernel
theorem dL_law_1183 : decode cL_law 1183 = .ok (.iconst 2, 1) := by decide +kernel
theorem dL_law_1184 : decode cL_law 1184 = .ok (.iadd, 1) := by decide +kernel
theorem dL_law_1185 : decode cL_law 1185 = .ok (.iaload, 1) := by decide +kernel
theorem dL_law_1186 : decode cL_law 1186 = .ok (.invokevirtual 158, 3) := by decide +kernel
theorem dL_law_1189 : decode cL_law 1189 = .ok (.aload_n 2, 1) := by decide +kernel
theorem dL_law_1190 : decode cL_law 1190 = .ok (.aload_n 0, 1) := by decide +kernel
theorem dL_law_1191 : decode cL_law 1191 = .ok (.iload_n 3, 1) := by decide +kernel
theorem dL_law_1192 : decode cL_law 1192 = .ok (.iconst 1, 1) := by decide +kernel
theorem dL_law_1193 : decode cL_law 1193 = .ok (.iadd, 1) := by decide +kernel
theorem dL_law_1194 : decode cL_law 1194 = .ok (.iaload, 1) := by decide +kernel
theorem dL_law_1195 : decode cL_law 1195 = .ok (.aload_n 0, 1) := by decide +kernel
theorem dL_law_1196 : decode cL_law 1196 = .ok (.iload_n 3, 1) := by decide +kernel
theorem dL_law_1197 : decode cL_law 1197 = .ok (.iconst 2, 1) := by decide +kernel
theorem dL_law_1198 : decode cL_law 1198 = .ok (.iadd, 1) := by decide +kernel
theorem dL_law_1199 : decode cL_law 1199 = .ok (.iaload, 1) := by decide +kernel
theorem dL_law_1200 : decode cL_law 1200 = .ok (.invokevirtual 162, 3) := by decide +kernel
theorem dL_law_1203 : decode cL_law 1203 = .ok (.lcmp, 1) := by decide +kernel
theorem dL_law_1204 : decode cL_law 1204 = .ok (.ifCond .eq 257, 3) := by decide +kernel
theorem dL_law_1209 : decode cL_law 1209 = .ok (.aload_n 1, 1) := by decide +kernel
theorem dL_law_1210 : decode cL_law 1210 = .ok (.aload_n 0, 1) := by decide +kernel
theorem dL_law_1211 : decode cL_law 1211 = .ok (.iload_n 3, 1) := by decide +kernel
theorem dL_law_1212 : decode cL_law 1212 = .ok (.iconst 1, 1) := by decide +kernel
theorem dL_law_1213 : decode cL_law 1213 = .ok (.iadd, 1) := by decide +kernel
theorem dL_law_1214 : decode cL_law 1214 = .ok (.iaload, 1) := by decide +kernel
theorem dL_law_1215 : decode cL_law 1215 = .ok (.invokevirtual 163, 3) := by decide +kernel
theorem dL_law_1218 : decode cL_law 1218 = .ok (.aload_n 2, 1) := by decide +kernel
theorem dL_law_1219 : decode cL_law 1219 = .ok (.aload_n 0, 1) := by decide +kernel
theorem dL_law_1220 : decode cL_law 1220 = .ok (.iload_n 3, 1) := by decide +kernel
theorem dL_law_1221 : decode cL_law 1221 = .ok (.iconst 1, 1) := by decide +kernel
theorem dL_law_1222 : decode cL_law 1222 = .ok (.iadd, 1) := by decide +kernel
theorem dL_law_1223 : decode cL_law 1223 = .ok (.iaload, 1) := by decide +kernel
theorem dL_law_1224 : decode cL_law 1224 = .ok (.invokevirtual 166, 3) := by decide +kernel
theorem dL_law_1227 : decode cL_law 1227 = .ok (.if_icmp .eq 234, 3) := by decide +kernel
theorem dL_law_1232 : decode cL_law 1232 = .ok (.aload_n 1, 1) := by decide +kernel
theorem dL_law_1233 : decode cL_law 1233 = .ok (.aload_n 0, 1) := by decide +kernel
theorem dL_law_1234 : decode cL_law 1234 = .ok (.iload_n 3, 1) := by decide +kernel
theorem dL_law_1235 : decode cL_law 1235 = .ok (.iconst 1, 1) := by decide +kernel
theorem dL_law_1236 : decode cL_law 1236 = .ok (.iadd, 1) := by decide +kernel
theorem dL_law_1237 : decode cL_law 1237 = .ok (.iaload, 1) := by decide +kernel
theorem dL_law_1238 : decode cL_law 1238 = .ok (.aload_n 0, 1) := by decide +kernel
theorem dL_law_1239 : decode cL_law 1239 = .ok (.iload_n 3, 1) := by decide +kernel
theorem dL_law_1240 : decode cL_law 1240 = .ok (.iconst 2, 1) := by decide +kernel
theorem dL_law_1241 : decode cL_law 1241 = .ok (.iadd, 1) := by decide +kernel
theorem dL_law_1242 : decode cL_law 1242 = .ok (.iaload, 1) := by decide +kernel
theorem dL_law_1243 : decode cL_law 1243 = .ok (.aload_n 0, 1) := by decide +kernel
theorem dL_law_1244 : decode cL_law 1244 = .ok (.iload_n 3, 1) := by decide +kernel
theorem dL_law_1245 : decode cL_law 1245 = .ok (.iconst 3, 1) := by decide +kernel
theorem dL_law_1246 : decode cL_law 1246 = .ok (.iadd, 1) := by decide +kernel
theorem dL_law_1247 : decode cL_law 1247 = .ok (.iaload, 1) := by decide +kernel
theorem dL_law_1248 : decode cL_law 1248 = .ok (.invokevirtual 167, 3) := by decide +kernel
theorem dL_law_1251 : decode cL_law 1251 = .ok (.aload_n 2, 1) := by decide +kernel
theorem dL_law_1252 : decode cL_law 1252 = .ok (.aload_n 0, 1) := by decide +kernel
theorem dL_law_1253 : decode cL_law 1253 = .ok (.iload_n 3, 1) := by decide +kernel
theorem dL_law_1254 : decode cL_law 1254 = .ok (.iconst 1, 1) := by decide +kernel
theorem dL_law_1255 : decode cL_law 1255 = .ok (.iadd, 1) := by decide +kernel
theorem dL_law_1256 : decode cL_law 1256 = .ok (.iaload, 1) := by decide +kernel
theorem dL_law_1257 : decode cL_law 1257 = .ok (.aload_n 0, 1) := by decide +kernel
theorem dL_law_1258 : decode cL_law 1258 = .ok (.iload_n 3, 1) := by decide +kernel
theorem dL_law_1259 : decode cL_law 1259 = .ok (.iconst 2, 1) := by decide +kernel
theorem dL_law_1260 : decode cL_law 1260 = .ok (.iadd, 1) := by decide +kernel
theorem dL_law_1261 : decode cL_law 1261 = .ok (.iaload, 1) := by decide +kernel
theorem dL_law_1262 : decode cL_law 1262 = .ok (.aload_n 0, 1) := by decide +kernel
theorem dL_law_1263 : decode cL_law 1263 = .ok (.iload_n 3, 1) := by decide +kernel
theorem dL_law_1264 : decode cL_law 1264 = .ok (.iconst 3, 1) := by decide +kernel
theorem dL_law_1265 : decode cL_law 1265 = .ok (.iadd, 1) := by decide +kernel
theorem dL_law_1266 : decode cL_law 1266 = .ok (.iaload, 1) := by decide +kernel
theorem dL_law_1267 : decode cL_law 1267 = .ok (.invokevirtual 170, 3) := by decide +kernel
theorem dL_law_1270 : decode cL_law 1270 = .ok (.if_icmp .eq 191, 3) := by decide +kernel
theorem dL_law_1275 : decode cL_law 1275 = .ok (.aload_n 1, 1) := by decide +kernel
theorem dL_law_1276 : decode cL_law 1276 = .ok (.aload_n 0, 1) := by decide +kernel
theorem dL_law_1277 : decode cL_law 1277 = .ok (.iload_n 3, 1) := by decide +kernel
theorem dL_law_1278 : decode cL_law 1278 = .ok (.iconst 1, 1) := by decide +kernel
theorem dL_law_1279 : decode cL_law 1279 = .ok (.iadd, 1) := by decide +kernel
theorem dL_law_1280 : decode cL_law 1280 = .ok (.iaload, 1) := by decide +kernel
theorem dL_law_1281 : decode cL_law 1281 = .ok (.aload_n 0, 1) := by decide +kernel
theorem dL_law_1282 : decode cL_law 1282 = .ok (.iload_n 3, 1) := by decide +kernel
theorem dL_law_1283 : decode cL_law 1283 = .ok (.iconst 2, 1) := by decide +kernel
theorem dL_law_1284 : decode cL_law 1284 = .ok (.iadd, 1) := by decide +kernel
theorem dL_law_1285 : decode cL_law 1285 = .ok (.iaload, 1) := by decide +kernel
theorem dL_law_1286 : decode cL_law 1286 = .ok (.aload_n 0, 1) := by decide +kernel
theorem dL_law_1287 : decode cL_law 1287 = .ok (.iload_n 3, 1) := by decide +kernel
theorem dL_law_1288 : decode cL_law 1288 = .ok (.iconst 3, 1) := by decide +kernel
theorem dL_law_1289 : decode cL_law 1289 = .ok (.iadd, 1) := by decide +kernel
theorem dL_law_1290 : decode cL_law 1290 = .ok (.iaload, 1) := by decide +kernel
theorem dL_law_1291 : decode cL_law 1291 = .ok (.i2l, 1) := by decide +kernel
theorem dL_law_1292 : decode cL_law 1292 = .ok (.bipush 32, 2) := by decide +kernel
theorem dL_law_1294 : decode cL_law 1294 = .ok (.lshl, 1) := by decide +kernel
theorem dL_law_1295 : decode cL_law 1295 = .ok (.aload_n 0, 1) := by decide +kernel
theorem dL_law_1296 : decode cL_law 1296 = .ok (.iload_n 3, 1) := by decide +kernel
theorem dL_law_1297 : decode cL_law 1297 = .ok (.iconst 4, 1) := by decide +kernel
theorem dL_law_1298 : decode cL_law 1298 = .ok (.iadd, 1) := by decide +kernel
theorem dL_law_1299 : decode cL_law 1299 = .ok (.iaload, 1) := by decide +kernel
theorem dL_law_1300 : decode cL_law 1300 = .ok (.i2l, 1) := by decide +kernel
theorem dL_law_1301 : decode cL_law 1301 = .ok (.ldc2_w 171, 3) := by decide +kernel
theorem dL_law_1304 : decode cL_law 1304 = .ok (.land, 1) := by decide +kernel
theorem dL_law_1305 : decode cL_law 1305 = .ok (.lor, 1) := by decide +kernel
theorem dL_law_1306 : decode cL_law 1306 = .ok (.invokevirtual 173, 3) := by decide +kernel
theorem dL_law_1309 : decode cL_law 1309 = .ok (.aload_n 2, 1) := by decide +kernel
theorem dL_law_1310 : decode cL_law 1310 = .ok (.aload_n 0, 1) := by decide +kernel
theorem dL_law_1311 : decode cL_law 1311 = .ok (.iload_n 3, 1) := by decide +kernel
theorem dL_law_1312 : decode cL_law 1312 = .ok (.iconst 1, 1) := by decide +kernel
theorem dL_law_1313 : decode cL_law 1313 = .ok (.iadd, 1) := by decide +kernel
theorem dL_law_1314 : decode cL_law 1314 = .ok (.iaload, 1) := by decide +kernel
theorem dL_law_1315 : decode cL_law 1315 = .ok (.aload_n 0, 1) := by decide +kernel
theorem dL_law_1316 : decode cL_law 1316 = .ok (.iload_n 3, 1) := by decide +kernel
theorem dL_law_1317 : decode cL_law 1317 = .ok (.iconst 2, 1) := by decide +kernel
theorem dL_law_1318 : decode cL_law 1318 = .ok (.iadd, 1) := by decide +kernel
theorem dL_law_1319 : decode cL_law 1319 = .ok (.iaload, 1) := by decide +kernel
theorem dL_law_1320 : decode cL_law 1320 = .ok (.aload_n 0, 1) := by decide +kernel
theorem dL_law_1321 : decode cL_law 1321 = .ok (.iload_n 3, 1) := by decide +kernel
theorem dL_law_1322 : decode cL_law 1322 = .ok (.iconst 3, 1) := by decide +kernel
theorem dL_law_1323 : decode cL_law 1323 = .ok (.iadd, 1) := by decide +kernel
theorem dL_law_1324 : decode cL_law 1324 = .ok (.iaload, 1) := by decide +kernel
theorem dL_law_1325 : decode cL_law 1325 = .ok (.i2l, 1) := by decide +kernel
theorem dL_law_1326 : decode cL_law 1326 = .ok (.bipush 32, 2) := by decide +kernel
theorem dL_law_1328 : decode cL_law 1328 = .ok (.lshl, 1) := by decide +kernel
theorem dL_law_1329 : decode cL_law 1329 = .ok (.aload_n 0, 1) := by decide +kernel
theorem dL_law_1330 : decode cL_law 1330 = .ok (.iload_n 3, 1) := by decide +kernel
theorem dL_law_1331 : decode cL_law 1331 = .ok (.iconst 4, 1) := by decide +kernel
theorem dL_law_1332 : decode cL_law 1332 = .ok (.iadd, 1) := by decide +kernel
theorem dL_law_1333 : decode cL_law 1333 = .ok (.iaload, 1) := by decide +kernel
theorem dL_law_1334 : decode cL_law 1334 = .ok (.i2l, 1) := by decide +kernel
theorem dL_law_1335 : decode cL_law 1335 = .ok (.ldc2_w 171, 3) := by decide +kernel
theorem dL_law_1338 : decode cL_law 1338 = .ok (.land, 1) := by decide +kernel
theorem dL_law_1339 : decode cL_law 1339 = .ok (.lor, 1) := by decide +kernel
theorem dL_law_1340 : decode cL_law 1340 = .ok (.invokevirtual 177, 3) := by decide +kernel
theorem dL_law_1343 : decode cL_law 1343 = .ok (.lcmp, 1) := by decide +kernel
theorem dL_law_1344 : decode cL_law 1344 = .ok (.ifCond .eq 117, 3) := by decide +kernel
theorem dL_law_1349 : decode cL_law 1349 = .ok (.aload_n 1, 1) := by decide +kernel
theorem dL_law_1350 : decode cL_law 1350 = .ok (.aload_n 0, 1) := by decide +kernel
theorem dL_law_1351 : decode cL_law 1351 = .ok (.iload_n 3, 1) := by decide +kernel
theorem dL_law_1352 : decode cL_law 1352 = .ok (.iconst 1, 1) := by decide +kernel
theorem dL_law_1353 : decode cL_law 1353 = .ok (.iadd, 1) := by decide +kernel
theorem dL_law_1354 : decode cL_law 1354 = .ok (.iaload, 1) := by decide +kernel
theorem dL_law_1355 : decode cL_law 1355 = .ok (.aload_n 0, 1) := by decide +kernel
theorem dL_law_1356 : decode cL_law 1356 = .ok (.iload_n 3, 1) := by decide +kernel
theorem dL_law_1357 : decode cL_law 1357 = .ok (.iconst 2, 1) := by decide +kernel
theorem dL_law_1358 : decode cL_law 1358 = .ok (.iadd, 1) := by decide +kernel
theorem dL_law_1359 : decode cL_law 1359 = .ok (.iaload, 1) := by decide +kernel
theorem dL_law_1360 : decode cL_law 1360 = .ok (.aload_n 0, 1) := by decide +kernel
theorem dL_law_1361 : decode cL_law 1361 = .ok (.iload_n 3, 1) := by decide +kernel
theorem dL_law_1362 : decode cL_law 1362 = .ok (.iconst 3, 1) := by decide +kernel
theorem dL_law_1363 : decode cL_law 1363 = .ok (.iadd, 1) := by decide +kernel
theorem dL_law_1364 : decode cL_law 1364 = .ok (.iaload, 1) := by decide +kernel
theorem dL_law_1365 : decode cL_law 1365 = .ok (.invokevirtual 178, 3) := by decide +kernel
theorem dL_law_1368 : decode cL_law 1368 = .ok (.aload_n 2, 1) := by decide +kernel
theorem dL_law_1369 : decode cL_law 1369 = .ok (.aload_n 0, 1) := by decide +kernel
theorem dL_law_1370 : decode cL_law 1370 = .ok (.iload_n 3, 1) := by decide +kernel
theorem dL_law_1371 : decode cL_law 1371 = .ok (.iconst 1, 1) := by decide +kernel
theorem dL_law_1372 : decode cL_law 1372 = .ok (.iadd, 1) := by decide +kernel
theorem dL_law_1373 : decode cL_law 1373 = .ok (.iaload, 1) := by decide +kernel
theorem dL_law_1374 : decode cL_law 1374 = .ok (.aload_n 0, 1) := by decide +kernel
theorem dL_law_1375 : decode cL_law 1375 = .ok (.iload_n 3, 1) := by decide +kernel
theorem dL_law_1376 : decode cL_law 1376 = .ok (.iconst 2, 1) := by decide +kernel
theorem dL_law_1377 : decode cL_law 1377 = .ok (.iadd, 1) := by decide +kernel
theorem dL_law_1378 : decode cL_law 1378 = .ok (.iaload, 1) := by decide +kernel
theorem dL_law_1379 : decode cL_law 1379 = .ok (.aload_n 0, 1) := by decide +kernel
theorem dL_law_1380 : decode cL_law 1380 = .ok (.iload_n 3, 1) := by decide +kernel
theorem dL_law_1381 : decode cL_law 1381 = .ok (.iconst 3, 1) := by decide +kernel
theorem dL_law_1382 : decode cL_law 1382 = .ok (.iadd, 1) := by decide +kernel
theorem dL_law_1383 : decode cL_law 1383 = .ok (.iaload, 1) := by decide +kernel
theorem dL_law_1384 : decode cL_law 1384 = .ok (.invokevirtual 181, 3) := by decide +kernel
theorem dL_law_1387 : decode cL_law 1387 = .ok (.if_icmp .eq 74, 3) := by decide +kernel
theorem dL_law_1392 : decode cL_law 1392 = .ok (.aload_n 1, 1) := by decide +kernel
theorem dL_law_1393 : decode cL_law 1393 = .ok (.aload_n 0, 1) := by decide +kernel
theorem dL_law_1394 : decode cL_law 1394 = .ok (.iload_n 3, 1) := by decide +kernel
theorem dL_law_1395 : decode cL_law 1395 = .ok (.iconst 1, 1) := by decide +kernel
theorem dL_law_1396 : decode cL_law 1396 = .ok (.iadd, 1) := by decide +kernel
theorem dL_law_1397 : decode cL_law 1397 = .ok (.iaload, 1) := by decide +kernel
theorem dL_law_1398 : decode cL_law 1398 = .ok (.invokevirtual 182, 3) := by decide +kernel
theorem dL_law_1401 : decode cL_law 1401 = .ok (.aload_n 2, 1) := by decide +kernel
theorem dL_law_1402 : decode cL_law 1402 = .ok (.aload_n 0, 1) := by decide +kernel
theorem dL_law_1403 : decode cL_law 1403 = .ok (.iload_n 3, 1) := by decide +kernel
theorem dL_law_1404 : decode cL_law 1404 = .ok (.iconst 1, 1) := by decide +kernel
theorem dL_law_1405 : decode cL_law 1405 = .ok (.iadd, 1) := by decide +kernel
theorem dL_law_1406 : decode cL_law 1406 = .ok (.iaload, 1) := by decide +kernel
theorem dL_law_1407 : decode cL_law 1407 = .ok (.invokevirtual 185, 3) := by decide +kernel
theorem dL_law_1410 : decode cL_law 1410 = .ok (.if_icmp .eq 51, 3) := by decide +kernel
theorem dL_law_1415 : decode cL_law 1415 = .ok (.aload_n 1, 1) := by decide +kernel
theorem dL_law_1416 : decode cL_law 1416 = .ok (.aload_n 0, 1) := by decide +kernel
theorem dL_law_1417 : decode cL_law 1417 = .ok (.iload_n 3, 1) := by decide +kernel
theorem dL_law_1418 : decode cL_law 1418 = .ok (.iconst 1, 1) := by decide +kernel
theorem dL_law_1419 : decode cL_law 1419 = .ok (.iadd, 1) := by decide +kernel
theorem dL_law_1420 : decode cL_law 1420 = .ok (.iaload, 1) := by decide +kernel
theorem dL_law_1421 : decode cL_law 1421 = .ok (.invokevirtual 186, 3) := by decide +kernel
theorem dL_law_1424 : decode cL_law 1424 = .ok (.aload_n 2, 1) := by decide +kernel
theorem dL_law_1425 : decode cL_law 1425 = .ok (.aload_n 0, 1) := by decide +kernel
theorem dL_law_1426 : decode cL_law 1426 = .ok (.iload_n 3, 1) := by decide +kernel
theorem dL_law_1427 : decode cL_law 1427 = .ok (.iconst 1, 1) := by decide +kernel
theorem dL_law_1428 : decode cL_law 1428 = .ok (.iadd, 1) := by decide +kernel
theorem dL_law_1429 : decode cL_law 1429 = .ok (.iaload, 1) := by decide +kernel
theorem dL_law_1430 : decode cL_law 1430 = .ok (.invokevirtual 189, 3) := by decide +kernel
theorem dL_law_1433 : decode cL_law 1433 = .ok (.if_icmp .eq 28, 3) := by decide +kernel
theorem dL_law_1438 : decode cL_law 1438 = .ok (.aload_n 1, 1) := by decide +kernel
theorem dL_law_1439 : decode cL_law 1439 = .ok (.aload_n 0, 1) := by decide +kernel
theorem dL_law_1440 : decode cL_law 1440 = .ok (.iload_n 3, 1) := by decide +kernel
theorem dL_law_1441 : decode cL_law 1441 = .ok (.iconst 1, 1) := by decide +kernel
theorem dL_law_1442 : decode cL_law 1442 = .ok (.iadd, 1) := by decide +kernel
theorem dL_law_1443 : decode cL_law 1443 = .ok (.iaload, 1) := by decide +kernel
theorem dL_law_1444 : decode cL_law 1444 = .ok (.invokevirtual 190, 3) := by decide +kernel
theorem dL_law_1447 : decode cL_law 1447 = .ok (.aload_n 2, 1) := by decide +kernel
theorem dL_law_1448 : decode cL_law 1448 = .ok (.aload_n 0, 1) := by decide +kernel
theorem dL_law_1449 : decode cL_law 1449 = .ok (.iload_n 3, 1) := by decide +kernel
theorem dL_law_1450 : decode cL_law 1450 = .ok (.iconst 1, 1) := by decide +kernel
theorem dL_law_1451 : decode cL_law 1451 = .ok (.iadd, 1) := by decide +kernel
theorem dL_law_1452 : decode cL_law 1452 = .ok (.iaload, 1) := by decide +kernel
theorem dL_law_1453 : decode cL_law 1453 = .ok (.invokevirtual 193, 3) := by decide +kernel
theorem dL_law_1456 : decode cL_law 1456 = .ok (.if_icmp .eq 5, 3) := by decide +kernel
theorem dL_law_1461 : decode cL_law 1461 = .ok (.iinc 3 6, 3) := by decide +kernel
theorem dL_law_1464 : decode cL_law 1464 = .ok (.goto (-1446), 3) := by decide +kernel
theorem dL_law_1467 : decode cL_law 1467 = .ok (.iconst 1, 1) := by decide +kernel
theorem dL_law_1468 : decode cL_law 1468 = .ok (.ireturn, 1) := by decide +kernel
theorem dX0_canSit_0 : decode cX0_canSit 0 = .ok (.iload_n 1, 1) := by decide +kernel
theorem dX0_canSit_1 : decode cX0_canSit 1 = .ok (.ifCond .ne 5, 3) := by decide +kernel
theorem dX0_canSit_4 : decode cX0_canSit 4 = .ok (.iconst 1, 1) := by decide +kernel
theorem dX0_canSit_5 : decode cX0_canSit 5 = .ok (.ireturn, 1) := by decide +kernel
theorem dX0_countPartings_0 : decode cX0_countPartings 0 = .ok (.aload_n 0, 1) := by decide +kernel
theorem dX0_countPartings_1 : decode cX0_countPartings 1 = .ok (.getfield 19, 3) := by decide +kernel
theorem dX0_countPartings_4 : decode cX0_countPartings 4 = .ok (.iconst 0, 1) := by decide +kernel
theorem dX0_countPartings_5 : decode cX0_countPartings 5 = .ok (.iconst 1, 1) := by decide +kernel
theorem dX0_countPartings_6 : decode cX0_countPartings 6 = .ok (.iastore, 1) := by decide +kernel
theorem dX0_countPartings_7 : decode cX0_countPartings 7 = .ok (.iconst 1, 1) := by decide +kernel
theorem dX0_countPartings_8 : decode cX0_countPartings 8 = .ok (.istore_n 1, 1) := by decide +kernel
theorem dX0_countPartings_9 : decode cX0_countPartings 9 = .ok (.iload_n 1, 1) := by decide +kernel
theorem dX0_countPartings_10 : decode cX0_countPartings 10 = .ok (.iconst 1, 1) := by decide +kernel
theorem dX0_countPartings_11 : decode cX0_countPartings 11 = .ok (.aload_n 0, 1) := by decide +kernel
theorem dX0_countPartings_12 : decode cX0_countPartings 12 = .ok (.getfield 9, 3) := by decide +kernel
theorem dX0_countPartings_15 : decode cX0_countPartings 15 = .ok (.ishl, 1) := by decide +kernel
theorem dX0_countPartings_16 : decode cX0_countPartings 16 = .ok (.if_icmp .ge 86, 3) := by decide +kernel
theorem dX0_countPartings_102 : decode cX0_countPartings 102 = .ok (.return_, 1) := by decide +kernel
theorem dX0_countPieces_0 : decode cX0_countPieces 0 = .ok (.iload_n 1, 1) := by decide +kernel
theorem dX0_countPieces_1 : decode cX0_countPieces 1 = .ok (.istore_n 3, 1) := by decide +kernel
theorem dX0_countPieces_2 : decode cX0_countPieces 2 = .ok (.iconst 0, 1) := by decide +kernel
theorem dX0_countPieces_3 : decode cX0_countPieces 3 = .ok (.istore 4, 2) := by decide +kernel
theorem dX0_countPieces_5 : decode cX0_countPieces 5 = .ok (.iconst 0, 1) := by decide +kernel
theorem dX0_countPieces_6 : decode cX0_countPieces 6 = .ok (.istore 5, 2) := by decide +kernel
theorem dX0_countPieces_8 : decode cX0_countPieces 8 = .ok (.iload 5, 2) := by decide +kernel
theorem dX0_countPieces_10 : decode cX0_countPieces 10 = .ok (.aload_n 0, 1) := by decide +kernel
theorem dX0_countPieces_11 : decode cX0_countPieces 11 = .ok (.getfield 9, 3) := by decide +kernel
theorem dX0_countPieces_14 : decode cX0_countPieces 14 = .ok (.if_icmp .ge 49, 3) := by decide +kernel
theorem dX0_countPieces_63 : decode cX0_countPieces 63 = .ok (.iload 4, 2) := by decide +kernel
theorem dX0_countPieces_65 : decode cX0_countPieces 65 = .ok (.ireturn, 1) := by decide +kernel
theorem dX0_draw_0 : decode cX0_draw 0 = .ok (.aload_n 0, 1) := by decide +kernel
theorem dX0_draw_1 : decode cX0_draw 1 = .ok (.aload_n 1, 1) := by decide +kernel
theorem dX0_draw_2 : decode cX0_draw 2 = .ok (.getfield 25, 3) := by decide +kernel
theorem dX0_draw_5 : decode cX0_draw 5 = .ok (.getfield 31, 3) := by decide +kernel
theorem dX0_draw_8 : decode cX0_draw 8 = .ok (.putfield 9, 3) := by decide +kernel
theorem dX0_draw_11 : decode cX0_draw 11 = .ok (.aload_n 0, 1) := by decide +kernel
theorem dX0_draw_12 : decode cX0_draw 12 = .ok (.getfield 15, 3) := by decide +kernel
theorem dX0_draw_15 : decode cX0_draw 15 = .ok (.iconst 0, 1) := by decide +kernel
theorem dX0_draw_16 : decode cX0_draw 16 = .ok (.invokestatic 34, 3) := by decide +kernel
theorem dX0_draw_19 : decode cX0_draw 19 = .ok (.iconst 0, 1) := by decide +kernel
theorem dX0_draw_20 : decode cX0_draw 20 = .ok (.istore 4, 2) := by decide +kernel
theorem dX0_draw_22 : decode cX0_draw 22 = .ok (.iload 4, 2) := by decide +kernel
theorem dX0_draw_24 : decode cX0_draw 24 = .ok (.aload_n 0, 1) := by decide +kernel
theorem dX0_draw_25 : decode cX0_draw 25 = .ok (.getfield 9, 3) := by decide +kernel
theorem dX0_draw_28 : decode cX0_draw 28 = .ok (.if_icmp .ge 78, 3) := by decide +kernel
theorem dX0_draw_106 : decode cX0_draw 106 = .ok (.return_, 1) := by decide +kernel
theorem dX0_init_0 : decode cX0_init 0 = .ok (.aload_n 0, 1) := by decide +kernel
theorem dX0_init_1 : decode cX0_init 1 = .ok (.invokespecial 3, 3) := by decide +kernel
theorem dX0_init_4 : decode cX0_init 4 = .ok (.aload_n 0, 1) := by decide +kernel
theorem dX0_init_5 : decode cX0_init 5 = .ok (.iconst 0, 1) := by decide +kernel
theorem dX0_init_6 : decode cX0_init 6 = .ok (.putfield 9, 3) := by decide +kernel
theorem dX0_init_9 : decode cX0_init 9 = .ok (.aload_n 0, 1) := by decide +kernel
theorem dX0_init_10 : decode cX0_init 10 = .ok (.bipush 10, 2) := by decide +kernel
theorem dX0_init_12 : decode cX0_init 12 = .ok (.newarray .int, 2) := by decide +kernel
theorem dX0_init_14 : decode cX0_init 14 = .ok (.putfield 15, 3) := by decide +kernel
theorem dX0_init_17 : decode cX0_init 17 = .ok (.aload_n 0, 1) := by decide +kernel
theorem dX0_init_18 : decode cX0_init 18 = .ok (.sipush 1024, 3) := by decide +kernel
theorem dX0_init_21 : decode cX0_init 21 = .ok (.newarray .int, 2) := by decide +kernel
theorem dX0_init_23 : decode cX0_init 23 = .ok (.putfield 19, 3) := by decide +kernel
theorem dX0_init_26 : decode cX0_init 26 = .ok (.aload_n 0, 1) := by decide +kernel
theorem dX0_init_27 : decode cX0_init 27 = .ok (.sipush 1024, 3) := by decide +kernel
theorem dX0_init_30 : decode cX0_init 30 = .ok (.newarray .int, 2) := by decide +kernel
theorem dX0_init_32 : decode cX0_init 32 = .ok (.putfield 22, 3) := by decide +kernel
theorem dX0_init_35 : decode cX0_init 35 = .ok (.return_, 1) := by decide +kernel
theorem dX0_leastBar_0 : decode cX0_leastBar 0 = .ok (.iload_n 1, 1) := by decide +kernel
theorem dX0_leastBar_1 : decode cX0_leastBar 1 = .ok (.invokestatic 49, 3) := by decide +kernel
theorem dX0_leastBar_4 : decode cX0_leastBar 4 = .ok (.iconst 2, 1) := by decide +kernel
theorem dX0_leastBar_5 : decode cX0_leastBar 5 = .ok (.aload_n 0, 1) := by decide +kernel
theorem dX0_leastBar_6 : decode cX0_leastBar 6 = .ok (.iload_n 1, 1) := by decide +kernel
theorem dX0_leastBar_7 : decode cX0_leastBar 7 = .ok (.invokevirtual 79, 3) := by decide +kernel
theorem dX0_leastBar_10 : decode cX0_leastBar 10 = .ok (.imul, 1) := by decide +kernel
theorem dX0_leastBar_11 : decode cX0_leastBar 11 = .ok (.isub, 1) := by decide +kernel
theorem dX0_leastBar_12 : decode cX0_leastBar 12 = .ok (.istore_n 2, 1) := by decide +kernel
theorem dX0_leastBar_13 : decode cX0_leastBar 13 = .ok (.iconst 0, 1) := by decide +kernel
theorem dX0_leastBar_14 : decode cX0_leastBar 14 = .ok (.istore_n 3, 1) := by decide +kernel
theorem dX0_leastBar_15 : decode cX0_leastBar 15 = .ok (.bipush 11, 2) := by decide +kernel
theorem dX0_leastBar_17 : decode cX0_leastBar 17 = .ok (.istore 4, 2) := by decide +kernel
theorem dX0_leastBar_19 : decode cX0_leastBar 19 = .ok (.iconst 0, 1) := by decide +kernel
theorem dX0_leastBar_20 : decode cX0_leastBar 20 = .ok (.istore 5, 2) := by decide +kernel
theorem dX0_leastBar_22 : decode cX0_leastBar 22 = .ok (.iload 5, 2) := by decide +kernel
theorem dX0_leastBar_24 : decode cX0_leastBar 24 = .ok (.iload_n 1, 1) := by decide +kernel
theorem dX0_leastBar_25 : decode cX0_leastBar 25 = .ok (.if_icmp .gt 57, 3) := by decide +kernel
theorem dX0_leastBar_28 : decode cX0_leastBar 28 = .ok (.iload 5, 2) := by decide +kernel
theorem dX0_leastBar_30 : decode cX0_leastBar 30 = .ok (.invokestatic 49, 3) := by decide +kernel
theorem dX0_leastBar_33 : decode cX0_leastBar 33 = .ok (.istore 6, 2) := by decide +kernel
theorem dX0_leastBar_35 : decode cX0_leastBar 35 = .ok (.iload 5, 2) := by decide +kernel
theorem dX0_leastBar_37 : decode cX0_leastBar 37 = .ok (.iload_n 1, 1) := by decide +kernel
theorem dX0_leastBar_38 : decode cX0_leastBar 38 = .ok (.iconst (-1), 1) := by decide +kernel
theorem dX0_leastBar_39 : decode cX0_leastBar 39 = .ok (.ixor, 1) := by decide +kernel
theorem dX0_leastBar_40 : decode cX0_leastBar 40 = .ok (.iand, 1) := by decide +kernel
theorem dX0_leastBar_41 : decode cX0_leastBar 41 = .ok (.ifCond .ne 35, 3) := by decide +kernel
theorem dX0_leastBar_44 : decode cX0_leastBar 44 = .ok (.iload 6, 2) := by decide +kernel
theorem dX0_leastBar_46 : decode cX0_leastBar 46 = .ok (.iload 4, 2) := by decide +kernel
theorem dX0_leastBar_48 : decode cX0_leastBar 48 = .ok (.if_icmp .ge 28, 3) := by decide +kernel
theorem dX0_leastBar_51 : decode cX0_leastBar 51 = .ok (.aload_n 0, 1) := by decide +kernel
theorem dX0_leastBar_52 : decode cX0_leastBar 52 = .ok (.iload_n 1, 1) := by decide +kernel
theorem dX0_leastBar_53 : decode cX0_leastBar 53 = .ok (.iload 5, 2) := by decide +kernel
theorem dX0_leastBar_55 : decode cX0_leastBar 55 = .ok (.iconst (-1), 1) := by decide +kernel
theorem dX0_leastBar_56 : decode cX0_leastBar 56 = .ok (.ixor, 1) := by decide +kernel
theorem dX0_leastBar_57 : decode cX0_leastBar 57 = .ok (.iand, 1) := by decide +kernel
theorem dX0_leastBar_58 : decode cX0_leastBar 58 = .ok (.iconst 1, 1) := by decide +kernel
theorem dX0_leastBar_59 : decode cX0_leastBar 59 = .ok (.invokevirtual 82, 3) := by decide +kernel
theorem dX0_leastBar_62 : decode cX0_leastBar 62 = .ok (.iload 6, 2) := by decide +kernel
theorem dX0_leastBar_64 : decode cX0_leastBar 64 = .ok (.isub, 1) := by decide +kernel
theorem dX0_leastBar_65 : decode cX0_leastBar 65 = .ok (.iload_n 2, 1) := by decide +kernel
theorem dX0_leastBar_66 : decode cX0_leastBar 66 = .ok (.if_icmp .ne 10, 3) := by decide +kernel
theorem dX0_leastBar_69 : decode cX0_leastBar 69 = .ok (.iload 5, 2) := by decide +kernel
theorem dX0_leastBar_71 : decode cX0_leastBar 71 = .ok (.istore_n 3, 1) := by decide +kernel
theorem dX0_leastBar_72 : decode cX0_leastBar 72 = .ok (.iload 6, 2) := by decide +kernel
theorem dX0_leastBar_74 : decode cX0_leastBar 74 = .ok (.istore 4, 2) := by decide +kernel
theorem dX0_leastBar_76 : decode cX0_leastBar 76 = .ok (.iinc 5 1, 3) := by decide +kernel
theorem dX0_leastBar_79 : decode cX0_leastBar 79 = .ok (.goto (-57), 3) := by decide +kernel
theorem dX0_leastBar_82 : decode cX0_leastBar 82 = .ok (.iload_n 3, 1) := by decide +kernel
theorem dX0_leastBar_83 : decode cX0_leastBar 83 = .ok (.ireturn, 1) := by decide +kernel
theorem dX0_leastCover_0 : decode cX0_leastCover 0 = .ok (.iconst (-1), 1) := by decide +kernel
theorem dX0_leastCover_1 : decode cX0_leastCover 1 = .ok (.istore_n 3, 1) := by decide +kernel
theorem dX0_leastCover_2 : decode cX0_leastCover 2 = .ok (.bipush 11, 2) := by decide +kernel
theorem dX0_leastCover_4 : decode cX0_leastCover 4 = .ok (.istore 4, 2) := by decide +kernel
theorem dX0_leastCover_6 : decode cX0_leastCover 6 = .ok (.iconst 0, 1) := by decide +kernel
theorem dX0_leastCover_7 : decode cX0_leastCover 7 = .ok (.istore 5, 2) := by decide +kernel
theorem dX0_leastCover_9 : decode cX0_leastCover 9 = .ok (.iload 5, 2) := by decide +kernel
theorem dX0_leastCover_11 : decode cX0_leastCover 11 = .ok (.iload_n 2, 1) := by decide +kernel
theorem dX0_leastCover_12 : decode cX0_leastCover 12 = .ok (.if_icmp .gt 48, 3) := by decide +kernel
theorem dX0_leastCover_15 : decode cX0_leastCover 15 = .ok (.iload 5, 2) := by decide +kernel
theorem dX0_leastCover_17 : decode cX0_leastCover 17 = .ok (.iload_n 2, 1) := by decide +kernel
theorem dX0_leastCover_18 : decode cX0_leastCover 18 = .ok (.iconst (-1), 1) := by decide +kernel
theorem dX0_leastCover_19 : decode cX0_leastCover 19 = .ok (.ixor, 1) := by decide +kernel
theorem dX0_leastCover_20 : decode cX0_leastCover 20 = .ok (.iand, 1) := by decide +kernel
theorem dX0_leastCover_21 : decode cX0_leastCover 21 = .ok (.ifCond .ne 33, 3) := by decide +kernel
theorem dX0_leastCover_24 : decode cX0_leastCover 24 = .ok (.iload 5, 2) := by decide +kernel
theorem dX0_leastCover_26 : decode cX0_leastCover 26 = .ok (.invokestatic 49, 3) := by decide +kernel
theorem dX0_leastCover_29 : decode cX0_leastCover 29 = .ok (.iload 4, 2) := by decide +kernel
theorem dX0_leastCover_31 : decode cX0_leastCover 31 = .ok (.if_icmp .ge 23, 3) := by decide +kernel
theorem dX0_leastCover_34 : decode cX0_leastCover 34 = .ok (.aload_n 0, 1) := by decide +kernel
theorem dX0_leastCover_35 : decode cX0_leastCover 35 = .ok (.iload_n 1, 1) := by decide +kernel
theorem dX0_leastCover_36 : decode cX0_leastCover 36 = .ok (.iload 5, 2) := by decide +kernel
theorem dX0_leastCover_38 : decode cX0_leastCover 38 = .ok (.invokevirtual 86, 3) := by decide +kernel
theorem dX0_leastCover_41 : decode cX0_leastCover 41 = .ok (.ifCond .eq 13, 3) := by decide +kernel
theorem dX0_leastCover_44 : decode cX0_leastCover 44 = .ok (.iload 5, 2) := by decide +kernel
theorem dX0_leastCover_46 : decode cX0_leastCover 46 = .ok (.istore_n 3, 1) := by decide +kernel
theorem dX0_leastCover_47 : decode cX0_leastCover 47 = .ok (.iload 5, 2) := by decide +kernel
theorem dX0_leastCover_49 : decode cX0_leastCover 49 = .ok (.invokestatic 49, 3) := by decide +kernel
theorem dX0_leastCover_52 : decode cX0_leastCover 52 = .ok (.istore 4, 2) := by decide +kernel
theorem dX0_leastCover_54 : decode cX0_leastCover 54 = .ok (.iinc 5 1, 3) := by decide +kernel
theorem dX0_leastCover_57 : decode cX0_leastCover 57 = .ok (.goto (-48), 3) := by decide +kernel
theorem dX0_leastCover_60 : decode cX0_leastCover 60 = .ok (.iload_n 3, 1) := by decide +kernel
theorem dX0_leastCover_61 : decode cX0_leastCover 61 = .ok (.ireturn, 1) := by decide +kernel
theorem dX0_opposeAllOf_0 : decode cX0_opposeAllOf 0 = .ok (.iconst 0, 1) := by decide +kernel
theorem dX0_opposeAllOf_1 : decode cX0_opposeAllOf 1 = .ok (.istore_n 3, 1) := by decide +kernel
theorem dX0_opposeAllOf_2 : decode cX0_opposeAllOf 2 = .ok (.iload_n 3, 1) := by decide +kernel
theorem dX0_opposeAllOf_3 : decode cX0_opposeAllOf 3 = .ok (.aload_n 0, 1) := by decide +kernel
theorem dX0_opposeAllOf_4 : decode cX0_opposeAllOf 4 = .ok (.getfield 9, 3) := by decide +kernel
theorem dX0_opposeAllOf_7 : decode cX0_opposeAllOf 7 = .ok (.if_icmp .ge 31, 3) := by decide +kernel
theorem dX0_opposeAllOf_38 : decode cX0_opposeAllOf 38 = .ok (.iconst 1, 1) := by decide +kernel
theorem dX0_opposeAllOf_39 : decode cX0_opposeAllOf 39 = .ok (.ireturn, 1) := by decide +kernel
theorem dX0_shareOf_0 : decode cX0_shareOf 0 = .ok (.lconst 0, 1) := by decide +kernel
theorem dX0_shareOf_1 : decode cX0_shareOf 1 = .ok (.lstore_n 3, 1) := by decide +kernel
theorem dX0_shareOf_2 : decode cX0_shareOf 2 = .ok (.iconst 0, 1) := by decide +kernel
theorem dX0_shareOf_3 : decode cX0_shareOf 3 = .ok (.istore 5, 2) := by decide +kernel
theorem dX0_shareOf_5 : decode cX0_shareOf 5 = .ok (.iload 5, 2) := by decide +kernel
theorem dX0_shareOf_7 : decode cX0_shareOf 7 = .ok (.iload_n 1, 1) := by decide +kernel
theorem dX0_shareOf_8 : decode cX0_shareOf 8 = .ok (.if_icmp .gt 96, 3) := by decide +kernel
theorem dX0_shareOf_11 : decode cX0_shareOf 11 = .ok (.iload 5, 2) := by decide +kernel
theorem dX0_shareOf_13 : decode cX0_shareOf 13 = .ok (.iload_n 1, 1) := by decide +kernel
theorem dX0_shareOf_14 : decode cX0_shareOf 14 = .ok (.iconst (-1), 1) := by decide +kernel
theorem dX0_shareOf_15 : decode cX0_shareOf 15 = .ok (.ixor, 1) := by decide +kernel
theorem dX0_shareOf_16 : decode cX0_shareOf 16 = .ok (.iand, 1) := by decide +kernel
theorem dX0_shareOf_17 : decode cX0_shareOf 17 = .ok (.ifCond .ne 81, 3) := by decide +kernel
theorem dX0_shareOf_20 : decode cX0_shareOf 20 = .ok (.aload_n 0, 1) := by decide +kernel
theorem dX0_shareOf_21 : decode cX0_shareOf 21 = .ok (.getfield 19, 3) := by decide +kernel
theorem dX0_shareOf_24 : decode cX0_shareOf 24 = .ok (.iload 5, 2) := by decide +kernel
theorem dX0_shareOf_26 : decode cX0_shareOf 26 = .ok (.iaload, 1) := by decide +kernel
theorem dX0_shareOf_27 : decode cX0_shareOf 27 = .ok (.ifCond .le 71, 3) := by decide +kernel
theorem dX0_shareOf_30 : decode cX0_shareOf 30 = .ok (.lconst 1, 1) := by decide +kernel
theorem dX0_shareOf_31 : decode cX0_shareOf 31 = .ok (.lstore 6, 2) := by decide +kernel
theorem dX0_shareOf_33 : decode cX0_shareOf 33 = .ok (.iconst 0, 1) := by decide +kernel
theorem dX0_shareOf_34 : decode cX0_shareOf 34 = .ok (.istore 8, 2) := by decide +kernel
theorem dX0_shareOf_36 : decode cX0_shareOf 36 = .ok (.iload 8, 2) := by decide +kernel
theorem dX0_shareOf_38 : decode cX0_shareOf 38 = .ok (.aload_n 0, 1) := by decide +kernel
theorem dX0_shareOf_39 : decode cX0_shareOf 39 = .ok (.getfield 9, 3) := by decide +kernel
theorem dX0_shareOf_42 : decode cX0_shareOf 42 = .ok (.if_icmp .ge 51, 3) := by decide +kernel
theorem dX0_shareOf_93 : decode cX0_shareOf 93 = .ok (.lload_n 3, 1) := by decide +kernel
theorem dX0_shareOf_94 : decode cX0_shareOf 94 = .ok (.lload 6, 2) := by decide +kernel
theorem dX0_shareOf_96 : decode cX0_shareOf 96 = .ok (.ladd, 1) := by decide +kernel
theorem dX0_shareOf_97 : decode cX0_shareOf 97 = .ok (.lstore_n 3, 1) := by decide +kernel
theorem dX0_shareOf_98 : decode cX0_shareOf 98 = .ok (.iinc 5 1, 3) := by decide +kernel
theorem dX0_shareOf_101 : decode cX0_shareOf 101 = .ok (.goto (-96), 3) := by decide +kernel
theorem dX0_shareOf_104 : decode cX0_shareOf 104 = .ok (.lload_n 3, 1) := by decide +kernel
theorem dX0_shareOf_105 : decode cX0_shareOf 105 = .ok (.lreturn, 1) := by decide +kernel
theorem dX0_twosOf_0 : decode cX0_twosOf 0 = .ok (.aload_n 0, 1) := by decide +kernel
theorem dX0_twosOf_1 : decode cX0_twosOf 1 = .ok (.getfield 22, 3) := by decide +kernel
theorem dX0_twosOf_4 : decode cX0_twosOf 4 = .ok (.iload_n 1, 1) := by decide +kernel
theorem dX0_twosOf_5 : decode cX0_twosOf 5 = .ok (.iaload, 1) := by decide +kernel
theorem dX0_twosOf_6 : decode cX0_twosOf 6 = .ok (.sipush 1000, 3) := by decide +kernel
theorem dX0_twosOf_9 : decode cX0_twosOf 9 = .ok (.idiv, 1) := by decide +kernel
theorem dX0_twosOf_10 : decode cX0_twosOf 10 = .ok (.ireturn, 1) := by decide +kernel
theorem dX0_weighPairs_0 : decode cX0_weighPairs 0 = .ok (.aload_n 0, 1) := by decide +kernel
theorem dX0_weighPairs_1 : decode cX0_weighPairs 1 = .ok (.getfield 22, 3) := by decide +kernel
theorem dX0_weighPairs_4 : decode cX0_weighPairs 4 = .ok (.iconst 0, 1) := by decide +kernel
theorem dX0_weighPairs_5 : decode cX0_weighPairs 5 = .ok (.iconst 0, 1) := by decide +kernel
theorem dX0_weighPairs_6 : decode cX0_weighPairs 6 = .ok (.iastore, 1) := by decide +kernel
theorem dX0_weighPairs_7 : decode cX0_weighPairs 7 = .ok (.iconst 1, 1) := by decide +kernel
theorem dX0_weighPairs_8 : decode cX0_weighPairs 8 = .ok (.istore_n 2, 1) := by decide +kernel
theorem dX0_weighPairs_9 : decode cX0_weighPairs 9 = .ok (.iload_n 2, 1) := by decide +kernel
theorem dX0_weighPairs_10 : decode cX0_weighPairs 10 = .ok (.iconst 1, 1) := by decide +kernel
theorem dX0_weighPairs_11 : decode cX0_weighPairs 11 = .ok (.aload_n 0, 1) := by decide +kernel
theorem dX0_weighPairs_12 : decode cX0_weighPairs 12 = .ok (.getfield 9, 3) := by decide +kernel
theorem dX0_weighPairs_15 : decode cX0_weighPairs 15 = .ok (.ishl, 1) := by decide +kernel
theorem dX0_weighPairs_16 : decode cX0_weighPairs 16 = .ok (.if_icmp .ge 93, 3) := by decide +kernel
theorem dX0_weighPairs_109 : decode cX0_weighPairs 109 = .ok (.return_, 1) := by decide +kernel
theorem dX0_weightOf_0 : decode cX0_weightOf 0 = .ok (.aload_n 0, 1) := by decide +kernel
theorem dX0_weightOf_1 : decode cX0_weightOf 1 = .ok (.getfield 22, 3) := by decide +kernel
theorem dX0_weightOf_4 : decode cX0_weightOf 4 = .ok (.iload_n 1, 1) := by decide +kernel
theorem dX0_weightOf_5 : decode cX0_weightOf 5 = .ok (.iaload, 1) := by decide +kernel
theorem dX0_weightOf_6 : decode cX0_weightOf 6 = .ok (.sipush 1000, 3) := by decide +kernel
theorem dX0_weightOf_9 : decode cX0_weightOf 9 = .ok (.irem, 1) := by decide +kernel
theorem dX0_weightOf_10 : decode cX0_weightOf 10 = .ok (.ireturn, 1) := by decide +kernel
theorem dX10_init_0 : decode cX10_init 0 = .ok (.aload_n 0, 1) := by decide +kernel
theorem dX10_init_1 : decode cX10_init 1 = .ok (.invokespecial 3, 3) := by decide +kernel
theorem dX10_init_4 : decode cX10_init 4 = .ok (.aload_n 0, 1) := by decide +kernel
theorem dX10_init_5 : decode cX10_init 5 = .ok (.iconst (-1), 1) := by decide +kernel
theorem dX10_init_6 : decode cX10_init 6 = .ok (.putfield 9, 3) := by decide +kernel
theorem dX10_init_9 : decode cX10_init 9 = .ok (.aload_n 0, 1) := by decide +kernel
theorem dX10_init_10 : decode cX10_init 10 = .ok (.iconst (-1), 1) := by decide +kernel
theorem dX10_init_11 : decode cX10_init 11 = .ok (.putfield 15, 3) := by decide +kernel
theorem dX10_init_14 : decode cX10_init 14 = .ok (.aload_n 0, 1) := by decide +kernel
theorem dX10_init_15 : decode cX10_init 15 = .ok (.iconst (-1), 1) := by decide +kernel
theorem dX10_init_16 : decode cX10_init 16 = .ok (.putfield 18, 3) := by decide +kernel
theorem dX10_init_19 : decode cX10_init 19 = .ok (.aload_n 0, 1) := by decide +kernel
theorem dX10_init_20 : decode cX10_init 20 = .ok (.iconst (-1), 1) := by decide +kernel
theorem dX10_init_21 : decode cX10_init 21 = .ok (.putfield 21, 3) := by decide +kernel
theorem dX10_init_24 : decode cX10_init 24 = .ok (.aload_n 0, 1) := by decide +kernel
theorem dX10_init_25 : decode cX10_init 25 = .ok (.sipush 1000, 3) := by decide +kernel
theorem dX10_init_28 : decode cX10_init 28 = .ok (.newarray .int, 2) := by decide +kernel
theorem dX10_init_30 : decode cX10_init 30 = .ok (.putfield 24, 3) := by decide +kernel
theorem dX10_init_33 : decode cX10_init 33 = .ok (.aload_n 0, 1) := by decide +kernel
theorem dX10_init_34 : decode cX10_init 34 = .ok (.sipush 1000, 3) := by decide +kernel
theorem dX10_init_37 : decode cX10_init 37 = .ok (.newarray .int, 2) := by decide +kernel
theorem dX10_init_39 : decode cX10_init 39 = .ok (.putfield 28, 3) := by decide +kernel
theorem dX10_init_42 : decode cX10_init 42 = .ok (.aload_n 0, 1) := by decide +kernel
theorem dX10_init_43 : decode cX10_init 43 = .ok (.sipush 1000, 3) := by decide +kernel
theorem dX10_init_46 : decode cX10_init 46 = .ok (.newarray .int, 2) := by decide +kernel
theorem dX10_init_48 : decode cX10_init 48 = .ok (.putfield 31, 3) := by decide +kernel
theorem dX10_init_51 : decode cX10_init 51 = .ok (.aload_n 0, 1) := by decide +kernel
theorem dX10_init_52 : decode cX10_init 52 = .ok (.sipush 1000, 3) := by decide +kernel
theorem dX10_init_55 : decode cX10_init 55 = .ok (.newarray .int, 2) := by decide +kernel
theorem dX10_init_57 : decode cX10_init 57 = .ok (.putfield 34, 3) := by decide +kernel
theorem dX10_init_60 : decode cX10_init 60 = .ok (.return_, 1) := by decide +kernel
theorem dX11_areTwoPeople_0 : decode cX11_areTwoPeople 0 = .ok (.aload_n 0, 1) := by decide +kernel
theorem dX11_areTwoPeople_1 : decode cX11_areTwoPeople 1 = .ok (.iload_n 1, 1) := by decide +kernel
theorem dX11_areTwoPeople_2 : decode cX11_areTwoPeople 2 = .ok (.invokevirtual 122, 3) := by decide +kernel
theorem dX11_areTwoPeople_5 : decode cX11_areTwoPeople 5 = .ok (.ifCond .eq 20, 3) := by decide +kernel
theorem dX11_areTwoPeople_25 : decode cX11_areTwoPeople 25 = .ok (.iconst 0, 1) := by decide +kernel
theorem dX11_areTwoPeople_26 : decode cX11_areTwoPeople 26 = .ok (.ireturn, 1) := by decide +kernel
theorem dX11_ayes_0 : decode cX11_ayes 0 = .ok (.aload_n 0, 1) := by decide +kernel
theorem dX11_ayes_1 : decode cX11_ayes 1 = .ok (.iload_n 1, 1) := by decide +kernel
theorem dX11_ayes_2 : decode cX11_ayes 2 = .ok (.invokevirtual 316, 3) := by decide +kernel
theorem dX11_ayes_5 : decode cX11_ayes 5 = .ok (.ifCond .eq 11, 3) := by decide +kernel
theorem dX11_ayes_8 : decode cX11_ayes 8 = .ok (.aload_n 0, 1) := by decide +kernel
theorem dX11_ayes_9 : decode cX11_ayes 9 = .ok (.iload_n 1, 1) := by decide +kernel
theorem dX11_ayes_10 : decode cX11_ayes 10 = .ok (.invokevirtual 319, 3) := by decide +kernel
theorem dX11_ayes_13 : decode cX11_ayes 13 = .ok (.goto 5, 3) := by decide +kernel
theorem dX11_ayes_16 : decode cX11_ayes 16 = .ok (.bipush (-3), 2) := by decide +kernel
theorem dX11_ayes_18 : decode cX11_ayes 18 = .ok (.ireturn, 1) := by decide +kernel
theorem dX11_bar_0 : decode cX11_bar 0 = .ok (.iload_n 2, 1) := by decide +kernel
theorem dX11_bar_1 : decode cX11_bar 1 = .ok (.ifCond .eq 11, 3) := by decide +kernel
theorem dX11_bar_4 : decode cX11_bar 4 = .ok (.iload_n 2, 1) := by decide +kernel
theorem dX11_bar_5 : decode cX11_bar 5 = .ok (.iconst 1, 1) := by decide +kernel
theorem dX11_bar_6 : decode cX11_bar 6 = .ok (.if_icmp .eq 6, 3) := by decide +kernel
theorem dX11_bar_9 : decode cX11_bar 9 = .ok (.bipush (-2), 2) := by decide +kernel
theorem dX11_bar_11 : decode cX11_bar 11 = .ok (.ireturn, 1) := by decide +kernel
theorem dX11_bar_12 : decode cX11_bar 12 = .ok (.aload_n 0, 1) := by decide +kernel
theorem dX11_bar_13 : decode cX11_bar 13 = .ok (.iload_n 1, 1) := by decide +kernel
theorem dX11_bar_14 : decode cX11_bar 14 = .ok (.invokevirtual 257, 3) := by decide +kernel
theorem dX11_bar_17 : decode cX11_bar 17 = .ok (.ifCond .ne 6, 3) := by decide +kernel
theorem dX11_bar_20 : decode cX11_bar 20 = .ok (.bipush (-3), 2) := by decide +kernel
theorem dX11_bar_22 : decode cX11_bar 22 = .ok (.ireturn, 1) := by decide +kernel
theorem dX11_bar_23 : decode cX11_bar 23 = .ok (.aload_n 0, 1) := by decide +kernel
theorem dX11_bar_24 : decode cX11_bar 24 = .ok (.invokevirtual 260, 3) := by decide +kernel
theorem dX11_bar_27 : decode cX11_bar 27 = .ok (.aload_n 0, 1) := by decide +kernel
theorem dX11_bar_28 : decode cX11_bar 28 = .ok (.getfield 56, 3) := by decide +kernel
theorem dX11_bar_31 : decode cX11_bar 31 = .ok (.aload_n 0, 1) := by decide +kernel
theorem dX11_bar_32 : decode cX11_bar 32 = .ok (.getfield 83, 3) := by decide +kernel
theorem dX11_bar_35 : decode cX11_bar 35 = .ok (.getfield 126, 3) := by decide +kernel
theorem dX11_bar_38 : decode cX11_bar 38 = .ok (.getfield 149, 3) := by decide +kernel
theorem dX11_bar_41 : decode cX11_bar 41 = .ok (.invokevirtual 263, 3) := by decide +kernel
theorem dX11_bar_44 : decode cX11_bar 44 = .ok (.aload_n 0, 1) := by decide +kernel
theorem dX11_bar_45 : decode cX11_bar 45 = .ok (.getfield 56, 3) := by decide +kernel
theorem dX11_bar_48 : decode cX11_bar 48 = .ok (.iload_n 1, 1) := by decide +kernel
theorem dX11_bar_49 : decode cX11_bar 49 = .ok (.invokevirtual 283, 3) := by decide +kernel
theorem dX11_bar_52 : decode cX11_bar 52 = .ok (.istore_n 3, 1) := by decide +kernel
theorem dX11_bar_53 : decode cX11_bar 53 = .ok (.iload_n 2, 1) := by decide +kernel
theorem dX11_bar_54 : decode cX11_bar 54 = .ok (.ifCond .ne 10, 3) := by decide +kernel
theorem dX11_bar_57 : decode cX11_bar 57 = .ok (.iload_n 3, 1) := by decide +kernel
theorem dX11_bar_58 : decode cX11_bar 58 = .ok (.invokestatic 193, 3) := by decide +kernel
theorem dX11_bar_61 : decode cX11_bar 61 = .ok (.goto 4, 3) := by decide +kernel
theorem dX11_bar_64 : decode cX11_bar 64 = .ok (.iload_n 3, 1) := by decide +kernel
theorem dX11_bar_65 : decode cX11_bar 65 = .ok (.ireturn, 1) := by decide +kernel
theorem dX11_bestDay_0 : decode cX11_bestDay 0 = .ok (.iconst (-1), 1) := by decide +kernel
theorem dX11_bestDay_1 : decode cX11_bestDay 1 = .ok (.istore_n 1, 1) := by decide +kernel
theorem dX11_bestDay_2 : decode cX11_bestDay 2 = .ok (.iconst 0, 1) := by decide +kernel
theorem dX11_bestDay_3 : decode cX11_bestDay 3 = .ok (.istore_n 2, 1) := by decide +kernel
theorem dX11_bestDay_4 : decode cX11_bestDay 4 = .ok (.iconst 0, 1) := by decide +kernel
theorem dX11_bestDay_5 : decode cX11_bestDay 5 = .ok (.istore_n 3, 1) := by decide +kernel
theorem dX11_bestDay_6 : decode cX11_bestDay 6 = .ok (.iload_n 3, 1) := by decide +kernel
theorem dX11_bestDay_7 : decode cX11_bestDay 7 = .ok (.bipush 7, 2) := by decide +kernel
theorem dX11_bestDay_9 : decode cX11_bestDay 9 = .ok (.if_icmp .ge 116, 3) := by decide +kernel
theorem dX11_bestDay_12 : decode cX11_bestDay 12 = .ok (.aload_n 0, 1) := by decide +kernel
theorem dX11_bestDay_13 : decode cX11_bestDay 13 = .ok (.getfield 56, 3) := by decide +kernel
theorem dX11_bestDay_16 : decode cX11_bestDay 16 = .ok (.aload_n 0, 1) := by decide +kernel
theorem dX11_bestDay_17 : decode cX11_bestDay 17 = .ok (.getfield 83, 3) := by decide +kernel
theorem dX11_bestDay_20 : decode cX11_bestDay 20 = .ok (.aload_n 0, 1) := by decide +kernel
theorem dX11_bestDay_21 : decode cX11_bestDay 21 = .ok (.getfield 83, 3) := by decide +kernel
theorem dX11_bestDay_24 : decode cX11_bestDay 24 = .ok (.getfield 165, 3) := by decide +kernel
theorem dX11_bestDay_27 : decode cX11_bestDay 27 = .ok (.iload_n 3, 1) := by decide +kernel
theorem dX11_bestDay_28 : decode cX11_bestDay 28 = .ok (.iadd, 1) := by decide +kernel
theorem dX11_bestDay_29 : decode cX11_bestDay 29 = .ok (.aload_n 0, 1) := by decide +kernel
theorem dX11_bestDay_30 : decode cX11_bestDay 30 = .ok (.getfield 49, 3) := by decide +kernel
theorem dX11_bestDay_33 : decode cX11_bestDay 33 = .ok (.invokevirtual 243, 3) := by decide +kernel
theorem dX11_bestDay_36 : decode cX11_bestDay 36 = .ok (.aload_n 0, 1) := by decide +kernel
theorem dX11_bestDay_37 : decode cX11_bestDay 37 = .ok (.getfield 56, 3) := by decide +kernel
theorem dX11_bestDay_40 : decode cX11_bestDay 40 = .ok (.aload_n 0, 1) := by decide +kernel
theorem dX11_bestDay_41 : decode cX11_bestDay 41 = .ok (.getfield 83, 3) := by decide +kernel
theorem dX11_bestDay_44 : decode cX11_bestDay 44 = .ok (.getfield 126, 3) := by decide +kernel
theorem dX11_bestDay_47 : decode cX11_bestDay 47 = .ok (.getfield 149, 3) := by decide +kernel
theorem dX11_bestDay_50 : decode cX11_bestDay 50 = .ok (.invokevirtual 263, 3) := by decide +kernel
theorem dX11_bestDay_53 : decode cX11_bestDay 53 = .ok (.iload_n 3, 1) := by decide +kernel
theorem dX11_bestDay_54 : decode cX11_bestDay 54 = .ok (.istore 4, 2) := by decide +kernel
theorem dX11_bestDay_56 : decode cX11_bestDay 56 = .ok (.iload 4, 2) := by decide +kernel
theorem dX11_bestDay_58 : decode cX11_bestDay 58 = .ok (.bipush 100, 2) := by decide +kernel
theorem dX11_bestDay_60 : decode cX11_bestDay 60 = .ok (.if_icmp .ge 59, 3) := by decide +kernel
theorem dX11_bestDay_63 : decode cX11_bestDay 63 = .ok (.aload_n 0, 1) := by decide +kernel
theorem dX11_bestDay_64 : decode cX11_bestDay 64 = .ok (.getfield 56, 3) := by decide +kernel
theorem dX11_bestDay_67 : decode cX11_bestDay 67 = .ok (.aload_n 0, 1) := by decide +kernel
theorem dX11_bestDay_68 : decode cX11_bestDay 68 = .ok (.getfield 83, 3) := by decide +kernel
theorem dX11_bestDay_71 : decode cX11_bestDay 71 = .ok (.aload_n 0, 1) := by decide +kernel
theorem dX11_bestDay_72 : decode cX11_bestDay 72 = .ok (.getfield 83, 3) := by decide +kernel
theorem dX11_bestDay_75 : decode cX11_bestDay 75 = .ok (.getfield 165, 3) := by decide +kernel
theorem dX11_bestDay_78 : decode cX11_bestDay 78 = .ok (.iload 4, 2) := by decide +kernel
theorem dX11_bestDay_80 : decode cX11_bestDay 80 = .ok (.iadd, 1) := by decide +kernel
theorem dX11_bestDay_81 : decode cX11_bestDay 81 = .ok (.invokevirtual 168, 3) := by decide +kernel
theorem dX11_bestDay_84 : decode cX11_bestDay 84 = .ok (.invokevirtual 267, 3) := by decide +kernel
theorem dX11_bestDay_87 : decode cX11_bestDay 87 = .ok (.istore 5, 2) := by decide +kernel
theorem dX11_bestDay_89 : decode cX11_bestDay 89 = .ok (.iload 5, 2) := by decide +kernel
theorem dX11_bestDay_91 : decode cX11_bestDay 91 = .ok (.iload_n 1, 1) := by decide +kernel
theorem dX11_bestDay_92 : decode cX11_bestDay 92 = .ok (.if_icmp .gt 15, 3) := by decide +kernel
theorem dX11_bestDay_95 : decode cX11_bestDay 95 = .ok (.iload 5, 2) := by decide +kernel
theorem dX11_bestDay_97 : decode cX11_bestDay 97 = .ok (.iload_n 1, 1) := by decide +kernel
theorem dX11_bestDay_98 : decode cX11_bestDay 98 = .ok (.if_icmp .ne 15, 3) := by decide +kernel
theorem dX11_bestDay_101 : decode cX11_bestDay 101 = .ok (.iload 4, 2) := by decide +kernel
theorem dX11_bestDay_103 : decode cX11_bestDay 103 = .ok (.iload_n 2, 1) := by decide +kernel
theorem dX11_bestDay_104 : decode cX11_bestDay 104 = .ok (.if_icmp .ge 9, 3) := by decide +kernel
theorem dX11_bestDay_107 : decode cX11_bestDay 107 = .ok (.iload 5, 2) := by decide +kernel
theorem dX11_bestDay_109 : decode cX11_bestDay 109 = .ok (.istore_n 1, 1) := by decide +kernel
theorem dX11_bestDay_110 : decode cX11_bestDay 110 = .ok (.iload 4, 2) := by decide +kernel
theorem dX11_bestDay_112 : decode cX11_bestDay 112 = .ok (.istore_n 2, 1) := by decide +kernel
theorem dX11_bestDay_113 : decode cX11_bestDay 113 = .ok (.iinc 4 7, 3) := by decide +kernel
theorem dX11_bestDay_116 : decode cX11_bestDay 116 = .ok (.goto (-60), 3) := by decide +kernel
theorem dX11_bestDay_119 : decode cX11_bestDay 119 = .ok (.iinc 3 1, 3) := by decide +kernel
theorem dX11_bestDay_122 : decode cX11_bestDay 122 = .ok (.goto (-116), 3) := by decide +kernel
theorem dX11_bestDay_125 : decode cX11_bestDay 125 = .ok (.iload_n 2, 1) := by decide +kernel
theorem dX11_bestDay_126 : decode cX11_bestDay 126 = .ok (.ireturn, 1) := by decide +kernel
theorem dX11_call_0 : decode cX11_call 0 = .ok (.aload_n 0, 1) := by decide +kernel
theorem dX11_call_1 : decode cX11_call 1 = .ok (.sipush 200, 3) := by decide +kernel
theorem dX11_call_4 : decode cX11_call 4 = .ok (.iload_n 1, 1) := by decide +kernel
theorem dX11_call_5 : decode cX11_call 5 = .ok (.invokevirtual 190, 3) := by decide +kernel
theorem dX11_call_8 : decode cX11_call 8 = .ok (.ireturn, 1) := by decide +kernel
theorem dX11_chance_0 : decode cX11_chance 0 = .ok (.iload_n 2, 1) := by decide +kernel
theorem dX11_chance_1 : decode cX11_chance 1 = .ok (.ifCond .eq 12, 3) := by decide +kernel
theorem dX11_chance_4 : decode cX11_chance 4 = .ok (.iload_n 2, 1) := by decide +kernel
theorem dX11_chance_5 : decode cX11_chance 5 = .ok (.iconst 1, 1) := by decide +kernel
theorem dX11_chance_6 : decode cX11_chance 6 = .ok (.if_icmp .eq 7, 3) := by decide +kernel
theorem dX11_chance_9 : decode cX11_chance 9 = .ok (.ldc2_w 343, 3) := by decide +kernel
theorem dX11_chance_12 : decode cX11_chance 12 = .ok (.lreturn, 1) := by decide +kernel
theorem dX11_chance_13 : decode cX11_chance 13 = .ok (.aload_n 0, 1) := by decide +kernel
theorem dX11_chance_14 : decode cX11_chance 14 = .ok (.iload_n 1, 1) := by decide +kernel
theorem dX11_chance_15 : decode cX11_chance 15 = .ok (.invokevirtual 257, 3) := by decide +kernel
theorem dX11_chance_18 : decode cX11_chance 18 = .ok (.ifCond .ne 7, 3) := by decide +kernel
theorem dX11_chance_21 : decode cX11_chance 21 = .ok (.ldc2_w 345, 3) := by decide +kernel
theorem dX11_chance_24 : decode cX11_chance 24 = .ok (.lreturn, 1) := by decide +kernel
theorem dX11_chance_25 : decode cX11_chance 25 = .ok (.aload_n 0, 1) := by decide +kernel
theorem dX11_chance_26 : decode cX11_chance 26 = .ok (.invokevirtual 260, 3) := by decide +kernel
theorem dX11_chance_29 : decode cX11_chance 29 = .ok (.aload_n 0, 1) := by decide +kernel
theorem dX11_chance_30 : decode cX11_chance 30 = .ok (.getfield 56, 3) := by decide +kernel
theorem dX11_chance_33 : decode cX11_chance 33 = .ok (.invokevirtual 277, 3) := by decide +kernel
theorem dX11_chance_36 : decode cX11_chance 36 = .ok (.aload_n 0, 1) := by decide +kernel
theorem dX11_chance_37 : decode cX11_chance 37 = .ok (.getfield 56, 3) := by decide +kernel
theorem dX11_chance_40 : decode cX11_chance 40 = .ok (.iload_n 1, 1) := by decide +kernel
theorem dX11_chance_41 : decode cX11_chance 41 = .ok (.aload_n 0, 1) := by decide +kernel
theorem dX11_chance_42 : decode cX11_chance 42 = .ok (.getfield 83, 3) := by decide +kernel
theorem dX11_chance_45 : decode cX11_chance 45 = .ok (.getfield 126, 3) := by decide +kernel
theorem dX11_chance_48 : decode cX11_chance 48 = .ok (.getfield 146, 3) := by decide +kernel
theorem dX11_chance_51 : decode cX11_chance 51 = .ok (.invokevirtual 347, 3) := by decide +kernel
theorem dX11_chance_54 : decode cX11_chance 54 = .ok (.lstore_n 3, 1) := by decide +kernel
theorem dX11_chance_55 : decode cX11_chance 55 = .ok (.lconst 1, 1) := by decide +kernel
theorem dX11_chance_56 : decode cX11_chance 56 = .ok (.lstore 5, 2) := by decide +kernel
theorem dX11_chance_58 : decode cX11_chance 58 = .ok (.iload_n 1, 1) := by decide +kernel
theorem dX11_chance_59 : decode cX11_chance 59 = .ok (.invokestatic 193, 3) := by decide +kernel
theorem dX11_chance_62 : decode cX11_chance 62 = .ok (.istore 7, 2) := by decide +kernel
theorem dX11_chance_64 : decode cX11_chance 64 = .ok (.iload 7, 2) := by decide +kernel
theorem dX11_chance_66 : decode cX11_chance 66 = .ok (.ifCond .le 17, 3) := by decide +kernel
theorem dX11_chance_83 : decode cX11_chance 83 = .ok (.lload_n 3, 1) := by decide +kernel
theorem dX11_chance_84 : decode cX11_chance 84 = .ok (.lload 5, 2) := by decide +kernel
theorem dX11_chance_86 : decode cX11_chance 86 = .ok (.invokestatic 353, 3) := by decide +kernel
theorem dX11_chance_89 : decode cX11_chance 89 = .ok (.lstore 7, 2) := by decide +kernel
theorem dX11_chance_91 : decode cX11_chance 91 = .ok (.lload 7, 2) := by decide +kernel
theorem dX11_chance_93 : decode cX11_chance 93 = .ok (.lconst 0, 1) := by decide +kernel
theorem dX11_chance_94 : decode cX11_chance 94 = .ok (.lcmp, 1) := by decide +kernel
theorem dX11_chance_95 : decode cX11_chance 95 = .ok (.ifCond .ne 5, 3) := by decide +kernel
theorem dX11_chance_100 : decode cX11_chance 100 = .ok (.iload_n 2, 1) := by decide +kernel
theorem dX11_chance_101 : decode cX11_chance 101 = .ok (.ifCond .ne 10, 3) := by decide +kernel
theorem dX11_chance_104 : decode cX11_chance 104 = .ok (.lload_n 3, 1) := by decide +kernel
theorem dX11_chance_105 : decode cX11_chance 105 = .ok (.lload 7, 2) := by decide +kernel
theorem dX11_chance_107 : decode cX11_chance 107 = .ok (.ldiv, 1) := by decide +kernel
theorem dX11_chance_108 : decode cX11_chance 108 = .ok (.goto 8, 3) := by decide +kernel
theorem dX11_chance_111 : decode cX11_chance 111 = .ok (.lload 5, 2) := by decide +kernel
theorem dX11_chance_113 : decode cX11_chance 113 = .ok (.lload 7, 2) := by decide +kernel
theorem dX11_chance_115 : decode cX11_chance 115 = .ok (.ldiv, 1) := by decide +kernel
theorem dX11_chance_116 : decode cX11_chance 116 = .ok (.lreturn, 1) := by decide +kernel
theorem dX11_commonDivisor_0 : decode cX11_commonDivisor 0 = .ok (.lload_n 0, 1) := by decide +kernel
theorem dX11_commonDivisor_1 : decode cX11_commonDivisor 1 = .ok (.lstore 4, 2) := by decide +kernel
theorem dX11_commonDivisor_3 : decode cX11_commonDivisor 3 = .ok (.lload_n 2, 1) := by decide +kernel
theorem dX11_commonDivisor_4 : decode cX11_commonDivisor 4 = .ok (.lstore 6, 2) := by decide +kernel
theorem dX11_commonDivisor_6 : decode cX11_commonDivisor 6 = .ok (.iconst 0, 1) := by decide +kernel
theorem dX11_commonDivisor_7 : decode cX11_commonDivisor 7 = .ok (.istore 8, 2) := by decide +kernel
theorem dX11_commonDivisor_9 : decode cX11_commonDivisor 9 = .ok (.iload 8, 2) := by decide +kernel
theorem dX11_commonDivisor_11 : decode cX11_commonDivisor 11 = .ok (.sipush 200, 3) := by decide +kernel
theorem dX11_commonDivisor_14 : decode cX11_commonDivisor 14 = .ok (.if_icmp .ge 31, 3) := by decide +kernel
theorem dX11_commonDivisor_17 : decode cX11_commonDivisor 17 = .ok (.lload 6, 2) := by decide +kernel
theorem dX11_commonDivisor_19 : decode cX11_commonDivisor 19 = .ok (.lconst 0, 1) := by decide +kernel
theorem dX11_commonDivisor_20 : decode cX11_commonDivisor 20 = .ok (.lcmp, 1) := by decide +kernel
theorem dX11_commonDivisor_21 : decode cX11_commonDivisor 21 = .ok (.ifCond .eq 24, 3) := by decide +kernel
theorem dX11_commonDivisor_24 : decode cX11_commonDivisor 24 = .ok (.lload 4, 2) := by decide +kernel
theorem dX11_commonDivisor_26 : decode cX11_commonDivisor 26 = .ok (.lload 6, 2) := by decide +kernel
theorem dX11_commonDivisor_28 : decode cX11_commonDivisor 28 = .ok (.lrem, 1) := by decide +kernel
theorem dX11_commonDivisor_29 : decode cX11_commonDivisor 29 = .ok (.lstore 9, 2) := by decide +kernel
theorem dX11_commonDivisor_31 : decode cX11_commonDivisor 31 = .ok (.lload 6, 2) := by decide +kernel
theorem dX11_commonDivisor_33 : decode cX11_commonDivisor 33 = .ok (.lstore 4, 2) := by decide +kernel
theorem dX11_commonDivisor_35 : decode cX11_commonDivisor 35 = .ok (.lload 9, 2) := by decide +kernel
theorem dX11_commonDivisor_37 : decode cX11_commonDivisor 37 = .ok (.lstore 6, 2) := by decide +kernel
theorem dX11_commonDivisor_39 : decode cX11_commonDivisor 39 = .ok (.iinc 8 1, 3) := by decide +kernel
theorem dX11_commonDivisor_42 : decode cX11_commonDivisor 42 = .ok (.goto (-33), 3) := by decide +kernel
theorem dX11_commonDivisor_45 : decode cX11_commonDivisor 45 = .ok (.lload 4, 2) := by decide +kernel
theorem dX11_commonDivisor_47 : decode cX11_commonDivisor 47 = .ok (.lreturn, 1) := by decide +kernel
theorem dX11_count_0 : decode cX11_count 0 = .ok (.iload_n 1, 1) := by decide +kernel
theorem dX11_count_1 : decode cX11_count 1 = .ok (.tableswitch 126 0 8 #[51, 62, 73, 81, 89, 97, 102, 110, 115], 51) := by decide +kernel
theorem dX11_count_52 : decode cX11_count 52 = .ok (.aload_n 0, 1) := by decide +kernel
theorem dX11_count_53 : decode cX11_count 53 = .ok (.getfield 83, 3) := by decide +kernel
theorem dX11_count_56 : decode cX11_count 56 = .ok (.getfield 126, 3) := by decide +kernel
theorem dX11_count_59 : decode cX11_count 59 = .ok (.getfield 368, 3) := by decide +kernel
theorem dX11_count_62 : decode cX11_count 62 = .ok (.ireturn, 1) := by decide +kernel
theorem dX11_count_63 : decode cX11_count 63 = .ok (.aload_n 0, 1) := by decide +kernel
theorem dX11_count_64 : decode cX11_count 64 = .ok (.getfield 83, 3) := by decide +kernel
theorem dX11_count_67 : decode cX11_count 67 = .ok (.getfield 126, 3) := by decide +kernel
theorem dX11_count_70 : decode cX11_count 70 = .ok (.getfield 159, 3) := by decide +kernel
theorem dX11_count_73 : decode cX11_count 73 = .ok (.ireturn, 1) := by decide +kernel
theorem dX11_count_74 : decode cX11_count 74 = .ok (.aload_n 0, 1) := by decide +kernel
theorem dX11_count_75 : decode cX11_count 75 = .ok (.getfield 83, 3) := by decide +kernel
theorem dX11_count_78 : decode cX11_count 78 = .ok (.invokevirtual 155, 3) := by decide +kernel
theorem dX11_count_81 : decode cX11_count 81 = .ok (.ireturn, 1) := by decide +kernel
theorem dX11_count_82 : decode cX11_count 82 = .ok (.aload_n 0, 1) := by decide +kernel
theorem dX11_count_83 : decode cX11_count 83 = .ok (.getfield 83, 3) := by decide +kernel
theorem dX11_count_86 : decode cX11_count 86 = .ok (.getfield 152, 3) := by decide +kernel
theorem dX11_count_89 : decode cX11_count 89 = .ok (.ireturn, 1) := by decide +kernel
theorem dX11_count_90 : decode cX11_count 90 = .ok (.aload_n 0, 1) := by decide +kernel
theorem dX11_count_91 : decode cX11_count 91 = .ok (.getfield 83, 3) := by decide +kernel
theorem dX11_count_94 : decode cX11_count 94 = .ok (.getfield 165, 3) := by decide +kernel
theorem dX11_count_97 : decode cX11_count 97 = .ok (.ireturn, 1) := by decide +kernel
theorem dX11_count_98 : decode cX11_count 98 = .ok (.aload_n 0, 1) := by decide +kernel
theorem dX11_count_99 : decode cX11_count 99 = .ok (.invokevirtual 371, 3) := by decide +kernel
theorem dX11_count_102 : decode cX11_count 102 = .ok (.ireturn, 1) := by decide +kernel
theorem dX11_count_103 : decode cX11_count 103 = .ok (.aload_n 0, 1) := by decide +kernel
theorem dX11_count_104 : decode cX11_count 104 = .ok (.getfield 96, 3) := by decide +kernel
theorem dX11_count_107 : decode cX11_count 107 = .ok (.getfield 216, 3) := by decide +kernel
theorem dX11_count_110 : decode cX11_count 110 = .ok (.ireturn, 1) := by decide +kernel
theorem dX11_count_111 : decode cX11_count 111 = .ok (.aload_n 0, 1) := by decide +kernel
theorem dX11_count_112 : decode cX11_count 112 = .ok (.getfield 13, 3) := by decide +kernel
theorem dX11_count_115 : decode cX11_count 115 = .ok (.ireturn, 1) := by decide +kernel
theorem dX11_count_116 : decode cX11_count 116 = .ok (.aload_n 0, 1) := by decide +kernel
theorem dX11_count_117 : decode cX11_count 117 = .ok (.getfield 83, 3) := by decide +kernel
theorem dX11_count_120 : decode cX11_count 120 = .ok (.getfield 126, 3) := by decide +kernel
theorem dX11_count_123 : decode cX11_count 123 = .ok (.getfield 119, 3) := by decide +kernel
theorem dX11_count_126 : decode cX11_count 126 = .ok (.ireturn, 1) := by decide +kernel
theorem dX11_count_127 : decode cX11_count 127 = .ok (.iconst (-1), 1) := by decide +kernel
theorem dX11_count_128 : decode cX11_count 128 = .ok (.ireturn, 1) := by decide +kernel
theorem dX11_cover_0 : decode cX11_cover 0 = .ok (.iload_n 2, 1) := by decide +kernel
theorem dX11_cover_1 : decode cX11_cover 1 = .ok (.ifCond .eq 11, 3) := by decide +kernel
theorem dX11_cover_4 : decode cX11_cover 4 = .ok (.iload_n 2, 1) := by decide +kernel
theorem dX11_cover_5 : decode cX11_cover 5 = .ok (.iconst 1, 1) := by decide +kernel
theorem dX11_cover_6 : decode cX11_cover 6 = .ok (.if_icmp .eq 6, 3) := by decide +kernel
theorem dX11_cover_9 : decode cX11_cover 9 = .ok (.bipush (-2), 2) := by decide +kernel
theorem dX11_cover_11 : decode cX11_cover 11 = .ok (.ireturn, 1) := by decide +kernel
theorem dX11_cover_12 : decode cX11_cover 12 = .ok (.aload_n 0, 1) := by decide +kernel
theorem dX11_cover_13 : decode cX11_cover 13 = .ok (.iload_n 1, 1) := by decide +kernel
theorem dX11_cover_14 : decode cX11_cover 14 = .ok (.invokevirtual 257, 3) := by decide +kernel
theorem dX11_cover_17 : decode cX11_cover 17 = .ok (.ifCond .ne 6, 3) := by decide +kernel
theorem dX11_cover_20 : decode cX11_cover 20 = .ok (.bipush (-3), 2) := by decide +kernel
theorem dX11_cover_22 : decode cX11_cover 22 = .ok (.ireturn, 1) := by decide +kernel
theorem dX11_cover_23 : decode cX11_cover 23 = .ok (.aload_n 0, 1) := by decide +kernel
theorem dX11_cover_24 : decode cX11_cover 24 = .ok (.invokevirtual 260, 3) := by decide +kernel
theorem dX11_cover_27 : decode cX11_cover 27 = .ok (.aload_n 0, 1) := by decide +kernel
theorem dX11_cover_28 : decode cX11_cover 28 = .ok (.getfield 56, 3) := by decide +kernel
theorem dX11_cover_31 : decode cX11_cover 31 = .ok (.iload_n 1, 1) := by decide +kernel
theorem dX11_cover_32 : decode cX11_cover 32 = .ok (.aload_n 0, 1) := by decide +kernel
theorem dX11_cover_33 : decode cX11_cover 33 = .ok (.getfield 83, 3) := by decide +kernel
theorem dX11_cover_36 : decode cX11_cover 36 = .ok (.invokevirtual 155, 3) := by decide +kernel
theorem dX11_cover_39 : decode cX11_cover 39 = .ok (.iload_n 1, 1) := by decide +kernel
theorem dX11_cover_40 : decode cX11_cover 40 = .ok (.iconst (-1), 1) := by decide +kernel
theorem dX11_cover_41 : decode cX11_cover 41 = .ok (.ixor, 1) := by decide +kernel
theorem dX11_cover_42 : decode cX11_cover 42 = .ok (.iand, 1) := by decide +kernel
theorem dX11_cover_43 : decode cX11_cover 43 = .ok (.invokevirtual 290, 3) := by decide +kernel
theorem dX11_cover_46 : decode cX11_cover 46 = .ok (.iload_n 2, 1) := by decide +kernel
theorem dX11_cover_47 : decode cX11_cover 47 = .ok (.invokestatic 293, 3) := by decide +kernel
theorem dX11_cover_50 : decode cX11_cover 50 = .ok (.ireturn, 1) := by decide +kernel
theorem dX11_days_0 : decode cX11_days 0 = .ok (.iload_n 1, 1) := by decide +kernel
theorem dX11_days_1 : decode cX11_days 1 = .ok (.iconst 1, 1) := by decide +kernel
theorem dX11_days_2 : decode cX11_days 2 = .ok (.if_icmp .lt 9, 3) := by decide +kernel
theorem dX11_days_5 : decode cX11_days 5 = .ok (.iload_n 1, 1) := by decide +kernel
theorem dX11_days_6 : decode cX11_days 6 = .ok (.bipush 99, 2) := by decide +kernel
theorem dX11_days_8 : decode cX11_days 8 = .ok (.if_icmp .le 6, 3) := by decide +kernel
theorem dX11_days_11 : decode cX11_days 11 = .ok (.bipush (-3), 2) := by decide +kernel
theorem dX11_days_13 : decode cX11_days 13 = .ok (.ireturn, 1) := by decide +kernel
theorem dX11_days_14 : decode cX11_days 14 = .ok (.aload_n 0, 1) := by decide +kernel
theorem dX11_days_15 : decode cX11_days 15 = .ok (.getfield 87, 3) := by decide +kernel
theorem dX11_days_18 : decode cX11_days 18 = .ok (.aload_n 0, 1) := by decide +kernel
theorem dX11_days_19 : decode cX11_days 19 = .ok (.getfield 83, 3) := by decide +kernel
theorem dX11_days_22 : decode cX11_days 22 = .ok (.invokevirtual 202, 3) := by decide +kernel
theorem dX11_days_25 : decode cX11_days 25 = .ok (.aload_n 0, 1) := by decide +kernel
theorem dX11_days_26 : decode cX11_days 26 = .ok (.getfield 83, 3) := by decide +kernel
theorem dX11_days_29 : decode cX11_days 29 = .ok (.dup, 1) := by decide +kernel
theorem dX11_days_30 : decode cX11_days 30 = .ok (.getfield 165, 3) := by decide +kernel
theorem dX11_days_33 : decode cX11_days 33 = .ok (.iload_n 1, 1) := by decide +kernel
theorem dX11_days_34 : decode cX11_days 34 = .ok (.iadd, 1) := by decide +kernel
theorem dX11_days_35 : decode cX11_days 35 = .ok (.putfield 165, 3) := by decide +kernel
theorem dX11_days_38 : decode cX11_days 38 = .ok (.aload_n 0, 1) := by decide +kernel
theorem dX11_days_39 : decode cX11_days 39 = .ok (.invokevirtual 210, 3) := by decide +kernel
theorem dX11_days_42 : decode cX11_days 42 = .ok (.aload_n 0, 1) := by decide +kernel
theorem dX11_days_43 : decode cX11_days 43 = .ok (.getfield 83, 3) := by decide +kernel
theorem dX11_days_46 : decode cX11_days 46 = .ok (.invokevirtual 155, 3) := by decide +kernel
theorem dX11_days_49 : decode cX11_days 49 = .ok (.ireturn, 1) := by decide +kernel
theorem dX11_drawToday_0 : decode cX11_drawToday 0 = .ok (.aload_n 0, 1) := by decide +kernel
theorem dX11_drawToday_1 : decode cX11_drawToday 1 = .ok (.getfield 56, 3) := by decide +kernel
theorem dX11_drawToday_4 : decode cX11_drawToday 4 = .ok (.aload_n 0, 1) := by decide +kernel
theorem dX11_drawToday_5 : decode cX11_drawToday 5 = .ok (.getfield 83, 3) := by decide +kernel
theorem dX11_drawToday_8 : decode cX11_drawToday 8 = .ok (.aload_n 0, 1) := by decide +kernel
theorem dX11_drawToday_9 : decode cX11_drawToday 9 = .ok (.getfield 83, 3) := by decide +kernel
theorem dX11_drawToday_12 : decode cX11_drawToday 12 = .ok (.getfield 165, 3) := by decide +kernel
theorem dX11_drawToday_15 : decode cX11_drawToday 15 = .ok (.aload_n 0, 1) := by decide +kernel
theorem dX11_drawToday_16 : decode cX11_drawToday 16 = .ok (.getfield 49, 3) := by decide +kernel
theorem dX11_drawToday_19 : decode cX11_drawToday 19 = .ok (.invokevirtual 243, 3) := by decide +kernel
theorem dX11_drawToday_22 : decode cX11_drawToday 22 = .ok (.return_, 1) := by decide +kernel
theorem dX11_easiest_0 : decode cX11_easiest 0 = .ok (.aload_n 0, 1) := by decide +kernel
theorem dX11_easiest_1 : decode cX11_easiest 1 = .ok (.invokevirtual 260, 3) := by decide +kernel
theorem dX11_easiest_4 : decode cX11_easiest 4 = .ok (.aload_n 0, 1) := by decide +kernel
theorem dX11_easiest_5 : decode cX11_easiest 5 = .ok (.getfield 56, 3) := by decide +kernel
theorem dX11_easiest_8 : decode cX11_easiest 8 = .ok (.invokevirtual 277, 3) := by decide +kernel
theorem dX11_easiest_11 : decode cX11_easiest 11 = .ok (.iconst (-1), 1) := by decide +kernel
theorem dX11_easiest_12 : decode cX11_easiest 12 = .ok (.istore_n 1, 1) := by decide +kernel
theorem dX11_easiest_13 : decode cX11_easiest 13 = .ok (.bipush 11, 2) := by decide +kernel
theorem dX11_easiest_15 : decode cX11_easiest 15 = .ok (.istore_n 2, 1) := by decide +kernel
theorem dX11_easiest_16 : decode cX11_easiest 16 = .ok (.iconst 0, 1) := by decide +kernel
theorem dX11_easiest_17 : decode cX11_easiest 17 = .ok (.istore_n 3, 1) := by decide +kernel
theorem dX11_easiest_18 : decode cX11_easiest 18 = .ok (.iload_n 3, 1) := by decide +kernel
theorem dX11_easiest_19 : decode cX11_easiest 19 = .ok (.bipush 10, 2) := by decide +kernel
theorem dX11_easiest_21 : decode cX11_easiest 21 = .ok (.if_icmp .ge 39, 3) := by decide +kernel
theorem dX11_easiest_24 : decode cX11_easiest 24 = .ok (.aload_n 0, 1) := by decide +kernel
theorem dX11_easiest_25 : decode cX11_easiest 25 = .ok (.iload_n 3, 1) := by decide +kernel
theorem dX11_easiest_26 : decode cX11_easiest 26 = .ok (.invokevirtual 329, 3) := by decide +kernel
theorem dX11_easiest_29 : decode cX11_easiest 29 = .ok (.istore 4, 2) := by decide +kernel
theorem dX11_easiest_31 : decode cX11_easiest 31 = .ok (.iload 4, 2) := by decide +kernel
theorem dX11_easiest_33 : decode cX11_easiest 33 = .ok (.iconst (-1), 1) := by decide +kernel
theorem dX11_easiest_34 : decode cX11_easiest 34 = .ok (.if_icmp .eq 20, 3) := by decide +kernel
theorem dX11_easiest_54 : decode cX11_easiest 54 = .ok (.iinc 3 1, 3) := by decide +kernel
theorem dX11_easiest_57 : decode cX11_easiest 57 = .ok (.goto (-39), 3) := by decide +kernel
theorem dX11_easiest_60 : decode cX11_easiest 60 = .ok (.iload_n 1, 1) := by decide +kernel
theorem dX11_easiest_61 : decode cX11_easiest 61 = .ok (.ireturn, 1) := by decide +kernel
theorem dX11_everybody_0 : decode cX11_everybody 0 = .ok (.iconst 1, 1) := by decide +kernel
theorem dX11_everybody_1 : decode cX11_everybody 1 = .ok (.aload_n 0, 1) := by decide +kernel
theorem dX11_everybody_2 : decode cX11_everybody 2 = .ok (.getfield 83, 3) := by decide +kernel
theorem dX11_everybody_5 : decode cX11_everybody 5 = .ok (.getfield 126, 3) := by decide +kernel
theorem dX11_everybody_8 : decode cX11_everybody 8 = .ok (.getfield 159, 3) := by decide +kernel
theorem dX11_everybody_11 : decode cX11_everybody 11 = .ok (.ishl, 1) := by decide +kernel
theorem dX11_everybody_12 : decode cX11_everybody 12 = .ok (.iconst 1, 1) := by decide +kernel
theorem dX11_everybody_13 : decode cX11_everybody 13 = .ok (.isub, 1) := by decide +kernel
theorem dX11_everybody_14 : decode cX11_everybody 14 = .ok (.ireturn, 1) := by decide +kernel
theorem dX11_fault_0 : decode cX11_fault 0 = .ok (.iload_n 1, 1) := by decide +kernel
theorem dX11_fault_1 : decode cX11_fault 1 = .ok (.ifCond .ne 8, 3) := by decide +kernel
theorem dX11_fault_4 : decode cX11_fault 4 = .ok (.aload_n 0, 1) := by decide +kernel
theorem dX11_fault_5 : decode cX11_fault 5 = .ok (.getfield 17, 3) := by decide +kernel
theorem dX11_fault_8 : decode cX11_fault 8 = .ok (.ireturn, 1) := by decide +kernel
theorem dX11_fault_9 : decode cX11_fault 9 = .ok (.iload_n 1, 1) := by decide +kernel
theorem dX11_fault_10 : decode cX11_fault 10 = .ok (.iconst 1, 1) := by decide +kernel
theorem dX11_fault_11 : decode cX11_fault 11 = .ok (.if_icmp .ne 10, 3) := by decide +kernel
theorem dX11_fault_14 : decode cX11_fault 14 = .ok (.aload_n 0, 1) := by decide +kernel
theorem dX11_fault_15 : decode cX11_fault 15 = .ok (.getfield 20, 3) := by decide +kernel
theorem dX11_fault_18 : decode cX11_fault 18 = .ok (.goto 4, 3) := by decide +kernel
theorem dX11_fault_21 : decode cX11_fault 21 = .ok (.iconst (-1), 1) := by decide +kernel
theorem dX11_fault_22 : decode cX11_fault 22 = .ok (.ireturn, 1) := by decide +kernel
theorem dX11_feed_0 : decode cX11_feed 0 = .ok (.aload_n 0, 1) := by decide +kernel
theorem dX11_feed_1 : decode cX11_feed 1 = .ok (.getfield 13, 3) := by decide +kernel
theorem dX11_feed_4 : decode cX11_feed 4 = .ok (.bipush 20, 2) := by decide +kernel
theorem dX11_feed_6 : decode cX11_feed 6 = .ok (.iadd, 1) := by decide +kernel
theorem dX11_feed_7 : decode cX11_feed 7 = .ok (.sipush 900, 3) := by decide +kernel
theorem dX11_feed_10 : decode cX11_feed 10 = .ok (.if_icmp .le 6, 3) := by decide +kernel
theorem dX11_feed_16 : decode cX11_feed 16 = .ok (.aload_n 0, 1) := by decide +kernel
theorem dX11_feed_17 : decode cX11_feed 17 = .ok (.iload_n 1, 1) := by decide +kernel
theorem dX11_feed_18 : decode cX11_feed 18 = .ok (.invokevirtual 101, 3) := by decide +kernel
theorem dX11_feed_21 : decode cX11_feed 21 = .ok (.aload_n 0, 1) := by decide +kernel
theorem dX11_feed_22 : decode cX11_feed 22 = .ok (.iload_n 2, 1) := by decide +kernel
theorem dX11_feed_23 : decode cX11_feed 23 = .ok (.invokevirtual 101, 3) := by decide +kernel
theorem dX11_feed_26 : decode cX11_feed 26 = .ok (.aload_n 0, 1) := by decide +kernel
theorem dX11_feed_27 : decode cX11_feed 27 = .ok (.iload_n 3, 1) := by decide +kernel
theorem dX11_feed_28 : decode cX11_feed 28 = .ok (.invokevirtual 101, 3) := by decide +kernel
theorem dX11_feed_31 : decode cX11_feed 31 = .ok (.aload_n 0, 1) := by decide +kernel
theorem dX11_feed_32 : decode cX11_feed 32 = .ok (.iload 4, 2) := by decide +kernel
theorem dX11_feed_34 : decode cX11_feed 34 = .ok (.invokevirtual 101, 3) := by decide +kernel
theorem dX11_feed_37 : decode cX11_feed 37 = .ok (.aload_n 0, 1) := by decide +kernel
theorem dX11_feed_38 : decode cX11_feed 38 = .ok (.iload 5, 2) := by decide +kernel
theorem dX11_feed_40 : decode cX11_feed 40 = .ok (.invokevirtual 101, 3) := by decide +kernel
theorem dX11_feed_43 : decode cX11_feed 43 = .ok (.aload_n 0, 1) := by decide +kernel
theorem dX11_feed_44 : decode cX11_feed 44 = .ok (.getfield 13, 3) := by decide +kernel
theorem dX11_feed_47 : decode cX11_feed 47 = .ok (.ireturn, 1) := by decide +kernel
theorem dX11_fewestSent_0 : decode cX11_fewestSent 0 = .ok (.aload_n 0, 1) := by decide +kernel
theorem dX11_fewestSent_1 : decode cX11_fewestSent 1 = .ok (.getfield 83, 3) := by decide +kernel
theorem dX11_fewestSent_4 : decode cX11_fewestSent 4 = .ok (.invokevirtual 155, 3) := by decide +kernel
theorem dX11_fewestSent_7 : decode cX11_fewestSent 7 = .ok (.istore_n 2, 1) := by decide +kernel
theorem dX11_fewestSent_8 : decode cX11_fewestSent 8 = .ok (.aload_n 0, 1) := by decide +kernel
theorem dX11_fewestSent_9 : decode cX11_fewestSent 9 = .ok (.iload_n 1, 1) := by decide +kernel
theorem dX11_fewestSent_10 : decode cX11_fewestSent 10 = .ok (.invokevirtual 319, 3) := by decide +kernel
theorem dX11_fewestSent_13 : decode cX11_fewestSent 13 = .ok (.istore_n 3, 1) := by decide +kernel
theorem dX11_fewestSent_14 : decode cX11_fewestSent 14 = .ok (.iconst (-1), 1) := by decide +kernel
theorem dX11_fewestSent_15 : decode cX11_fewestSent 15 = .ok (.istore 4, 2) := by decide +kernel
theorem dX11_fewestSent_17 : decode cX11_fewestSent 17 = .ok (.bipush 11, 2) := by decide +kernel
theorem dX11_fewestSent_19 : decode cX11_fewestSent 19 = .ok (.istore 5, 2) := by decide +kernel
theorem dX11_fewestSent_21 : decode cX11_fewestSent 21 = .ok (.iconst 0, 1) := by decide +kernel
theorem dX11_fewestSent_22 : decode cX11_fewestSent 22 = .ok (.istore 6, 2) := by decide +kernel
theorem dX11_fewestSent_24 : decode cX11_fewestSent 24 = .ok (.iload 6, 2) := by decide +kernel
theorem dX11_fewestSent_26 : decode cX11_fewestSent 26 = .ok (.iload_n 2, 1) := by decide +kernel
theorem dX11_fewestSent_27 : decode cX11_fewestSent 27 = .ok (.if_icmp .gt 69, 3) := by decide +kernel
theorem dX11_fewestSent_30 : decode cX11_fewestSent 30 = .ok (.iload_n 2, 1) := by decide +kernel
theorem dX11_fewestSent_31 : decode cX11_fewestSent 31 = .ok (.iload 6, 2) := by decide +kernel
theorem dX11_fewestSent_33 : decode cX11_fewestSent 33 = .ok (.iconst (-1), 1) := by decide +kernel
theorem dX11_fewestSent_34 : decode cX11_fewestSent 34 = .ok (.ixor, 1) := by decide +kernel
theorem dX11_fewestSent_35 : decode cX11_fewestSent 35 = .ok (.iand, 1) := by decide +kernel
theorem dX11_fewestSent_36 : decode cX11_fewestSent 36 = .ok (.istore 7, 2) := by decide +kernel
theorem dX11_fewestSent_38 : decode cX11_fewestSent 38 = .ok (.iload 6, 2) := by decide +kernel
theorem dX11_fewestSent_40 : decode cX11_fewestSent 40 = .ok (.iload_n 2, 1) := by decide +kernel
theorem dX11_fewestSent_41 : decode cX11_fewestSent 41 = .ok (.iconst (-1), 1) := by decide +kernel
theorem dX11_fewestSent_42 : decode cX11_fewestSent 42 = .ok (.ixor, 1) := by decide +kernel
theorem dX11_fewestSent_43 : decode cX11_fewestSent 43 = .ok (.iand, 1) := by decide +kernel
theorem dX11_fewestSent_44 : decode cX11_fewestSent 44 = .ok (.ifCond .ne 46, 3) := by decide +kernel
theorem dX11_fewestSent_47 : decode cX11_fewestSent 47 = .ok (.iload 6, 2) := by decide +kernel
theorem dX11_fewestSent_49 : decode cX11_fewestSent 49 = .ok (.invokestatic 193, 3) := by decide +kernel
theorem dX11_fewestSent_52 : decode cX11_fewestSent 52 = .ok (.iload 5, 2) := by decide +kernel
theorem dX11_fewestSent_54 : decode cX11_fewestSent 54 = .ok (.if_icmp .ge 36, 3) := by decide +kernel
theorem dX11_fewestSent_57 : decode cX11_fewestSent 57 = .ok (.aload_n 0, 1) := by decide +kernel
theorem dX11_fewestSent_58 : decode cX11_fewestSent 58 = .ok (.getfield 56, 3) := by decide +kernel
theorem dX11_fewestSent_61 : decode cX11_fewestSent 61 = .ok (.getfield 280, 3) := by decide +kernel
theorem dX11_fewestSent_64 : decode cX11_fewestSent 64 = .ok (.iload 7, 2) := by decide +kernel
theorem dX11_fewestSent_66 : decode cX11_fewestSent 66 = .ok (.iaload, 1) := by decide +kernel
theorem dX11_fewestSent_67 : decode cX11_fewestSent 67 = .ok (.ifCond .le 23, 3) := by decide +kernel
theorem dX11_fewestSent_70 : decode cX11_fewestSent 70 = .ok (.iload_n 3, 1) := by decide +kernel
theorem dX11_fewestSent_71 : decode cX11_fewestSent 71 = .ok (.iload 7, 2) := by decide +kernel
theorem dX11_fewestSent_73 : decode cX11_fewestSent 73 = .ok (.invokestatic 326, 3) := by decide +kernel
theorem dX11_fewestSent_76 : decode cX11_fewestSent 76 = .ok (.ifCond .eq 14, 3) := by decide +kernel
theorem dX11_fewestSent_90 : decode cX11_fewestSent 90 = .ok (.iinc 6 1, 3) := by decide +kernel
theorem dX11_fewestSent_93 : decode cX11_fewestSent 93 = .ok (.goto (-69), 3) := by decide +kernel
theorem dX11_fewestSent_96 : decode cX11_fewestSent 96 = .ok (.iload 4, 2) := by decide +kernel
theorem dX11_fewestSent_98 : decode cX11_fewestSent 98 = .ok (.ireturn, 1) := by decide +kernel
theorem dX11_firstDay_0 : decode cX11_firstDay 0 = .ok (.bipush 100, 2) := by decide +kernel
theorem dX11_firstDay_2 : decode cX11_firstDay 2 = .ok (.istore_n 1, 1) := by decide +kernel
theorem dX11_firstDay_3 : decode cX11_firstDay 3 = .ok (.iconst 0, 1) := by decide +kernel
theorem dX11_firstDay_4 : decode cX11_firstDay 4 = .ok (.istore_n 2, 1) := by decide +kernel
theorem dX11_firstDay_5 : decode cX11_firstDay 5 = .ok (.iload_n 2, 1) := by decide +kernel
theorem dX11_firstDay_6 : decode cX11_firstDay 6 = .ok (.bipush 7, 2) := by decide +kernel
theorem dX11_firstDay_8 : decode cX11_firstDay 8 = .ok (.if_icmp .ge 84, 3) := by decide +kernel
theorem dX11_firstDay_11 : decode cX11_firstDay 11 = .ok (.aload_n 0, 1) := by decide +kernel
theorem dX11_firstDay_12 : decode cX11_firstDay 12 = .ok (.getfield 56, 3) := by decide +kernel
theorem dX11_firstDay_15 : decode cX11_firstDay 15 = .ok (.aload_n 0, 1) := by decide +kernel
theorem dX11_firstDay_16 : decode cX11_firstDay 16 = .ok (.getfield 83, 3) := by decide +kernel
theorem dX11_firstDay_19 : decode cX11_firstDay 19 = .ok (.aload_n 0, 1) := by decide +kernel
theorem dX11_firstDay_20 : decode cX11_firstDay 20 = .ok (.getfield 83, 3) := by decide +kernel
theorem dX11_firstDay_23 : decode cX11_firstDay 23 = .ok (.getfield 165, 3) := by decide +kernel
theorem dX11_firstDay_26 : decode cX11_firstDay 26 = .ok (.iload_n 2, 1) := by decide +kernel
theorem dX11_firstDay_27 : decode cX11_firstDay 27 = .ok (.iadd, 1) := by decide +kernel
theorem dX11_firstDay_28 : decode cX11_firstDay 28 = .ok (.aload_n 0, 1) := by decide +kernel
theorem dX11_firstDay_29 : decode cX11_firstDay 29 = .ok (.getfield 49, 3) := by decide +kernel
theorem dX11_firstDay_32 : decode cX11_firstDay 32 = .ok (.invokevirtual 243, 3) := by decide +kernel
theorem dX11_firstDay_35 : decode cX11_firstDay 35 = .ok (.iload_n 2, 1) := by decide +kernel
theorem dX11_firstDay_36 : decode cX11_firstDay 36 = .ok (.istore_n 3, 1) := by decide +kernel
theorem dX11_firstDay_37 : decode cX11_firstDay 37 = .ok (.iload_n 3, 1) := by decide +kernel
theorem dX11_firstDay_38 : decode cX11_firstDay 38 = .ok (.iload_n 1, 1) := by decide +kernel
theorem dX11_firstDay_39 : decode cX11_firstDay 39 = .ok (.if_icmp .ge 47, 3) := by decide +kernel
theorem dX11_firstDay_42 : decode cX11_firstDay 42 = .ok (.aload_n 0, 1) := by decide +kernel
theorem dX11_firstDay_43 : decode cX11_firstDay 43 = .ok (.getfield 83, 3) := by decide +kernel
theorem dX11_firstDay_46 : decode cX11_firstDay 46 = .ok (.aload_n 0, 1) := by decide +kernel
theorem dX11_firstDay_47 : decode cX11_firstDay 47 = .ok (.getfield 83, 3) := by decide +kernel
theorem dX11_firstDay_50 : decode cX11_firstDay 50 = .ok (.getfield 165, 3) := by decide +kernel
theorem dX11_firstDay_53 : decode cX11_firstDay 53 = .ok (.iload_n 3, 1) := by decide +kernel
theorem dX11_firstDay_54 : decode cX11_firstDay 54 = .ok (.iadd, 1) := by decide +kernel
theorem dX11_firstDay_55 : decode cX11_firstDay 55 = .ok (.invokevirtual 168, 3) := by decide +kernel
theorem dX11_firstDay_58 : decode cX11_firstDay 58 = .ok (.istore 4, 2) := by decide +kernel
theorem dX11_firstDay_60 : decode cX11_firstDay 60 = .ok (.iload 4, 2) := by decide +kernel
theorem dX11_firstDay_62 : decode cX11_firstDay 62 = .ok (.ifCond .eq 18, 3) := by decide +kernel
theorem dX11_firstDay_80 : decode cX11_firstDay 80 = .ok (.iinc 3 7, 3) := by decide +kernel
theorem dX11_firstDay_83 : decode cX11_firstDay 83 = .ok (.goto (-46), 3) := by decide +kernel
theorem dX11_firstDay_86 : decode cX11_firstDay 86 = .ok (.iinc 2 1, 3) := by decide +kernel
theorem dX11_firstDay_89 : decode cX11_firstDay 89 = .ok (.goto (-84), 3) := by decide +kernel
theorem dX11_firstDay_92 : decode cX11_firstDay 92 = .ok (.iload_n 1, 1) := by decide +kernel
theorem dX11_firstDay_93 : decode cX11_firstDay 93 = .ok (.bipush 100, 2) := by decide +kernel
theorem dX11_firstDay_95 : decode cX11_firstDay 95 = .ok (.if_icmp .ge 7, 3) := by decide +kernel
theorem dX11_firstDay_102 : decode cX11_firstDay 102 = .ok (.iconst (-1), 1) := by decide +kernel
theorem dX11_firstDay_103 : decode cX11_firstDay 103 = .ok (.ireturn, 1) := by decide +kernel
theorem dX11_hasMore_0 : decode cX11_hasMore 0 = .ok (.iconst 2, 1) := by decide +kernel
theorem dX11_hasMore_1 : decode cX11_hasMore 1 = .ok (.iload_n 0, 1) := by decide +kernel
theorem dX11_hasMore_2 : decode cX11_hasMore 2 = .ok (.iload_n 1, 1) := by decide +kernel
theorem dX11_hasMore_3 : decode cX11_hasMore 3 = .ok (.iand, 1) := by decide +kernel
theorem dX11_hasMore_4 : decode cX11_hasMore 4 = .ok (.invokestatic 193, 3) := by decide +kernel
theorem dX11_hasMore_7 : decode cX11_hasMore 7 = .ok (.imul, 1) := by decide +kernel
theorem dX11_hasMore_8 : decode cX11_hasMore 8 = .ok (.iload_n 1, 1) := by decide +kernel
theorem dX11_hasMore_9 : decode cX11_hasMore 9 = .ok (.invokestatic 193, 3) := by decide +kernel
theorem dX11_hasMore_12 : decode cX11_hasMore 12 = .ok (.if_icmp .le 7, 3) := by decide +kernel
theorem dX11_hasMore_19 : decode cX11_hasMore 19 = .ok (.iconst 0, 1) := by decide +kernel
theorem dX11_hasMore_20 : decode cX11_hasMore 20 = .ok (.ireturn, 1) := by decide +kernel
theorem dX11_hidden_0 : decode cX11_hidden 0 = .ok (.aload_n 0, 1) := by decide +kernel
theorem dX11_hidden_1 : decode cX11_hidden 1 = .ok (.iload_n 1, 1) := by decide +kernel
theorem dX11_hidden_2 : decode cX11_hidden 2 = .ok (.iload_n 2, 1) := by decide +kernel
theorem dX11_hidden_3 : decode cX11_hidden 3 = .ok (.invokevirtual 332, 3) := by decide +kernel
theorem dX11_hidden_6 : decode cX11_hidden 6 = .ok (.istore_n 3, 1) := by decide +kernel
theorem dX11_hidden_7 : decode cX11_hidden 7 = .ok (.iload_n 3, 1) := by decide +kernel
theorem dX11_hidden_8 : decode cX11_hidden 8 = .ok (.ifCond .eq 5, 3) := by decide +kernel
theorem dX11_hidden_11 : decode cX11_hidden 11 = .ok (.iload_n 3, 1) := by decide +kernel
theorem dX11_hidden_12 : decode cX11_hidden 12 = .ok (.ireturn, 1) := by decide +kernel
theorem dX11_hiddenAt_0 : decode cX11_hiddenAt 0 = .ok (.aload_n 0, 1) := by decide +kernel
theorem dX11_hiddenAt_1 : decode cX11_hiddenAt 1 = .ok (.iload_n 1, 1) := by decide +kernel
theorem dX11_hiddenAt_2 : decode cX11_hiddenAt 2 = .ok (.iload_n 2, 1) := by decide +kernel
theorem dX11_hiddenAt_3 : decode cX11_hiddenAt 3 = .ok (.invokevirtual 332, 3) := by decide +kernel
theorem dX11_hiddenAt_6 : decode cX11_hiddenAt 6 = .ok (.istore 4, 2) := by decide +kernel
theorem dX11_hiddenAt_8 : decode cX11_hiddenAt 8 = .ok (.iload 4, 2) := by decide +kernel
theorem dX11_hiddenAt_10 : decode cX11_hiddenAt 10 = .ok (.ifCond .eq 6, 3) := by decide +kernel
theorem dX11_hiddenAt_13 : decode cX11_hiddenAt 13 = .ok (.iload 4, 2) := by decide +kernel
theorem dX11_hiddenAt_15 : decode cX11_hiddenAt 15 = .ok (.ireturn, 1) := by decide +kernel
theorem dX11_house_0 : decode cX11_house 0 = .ok (.iload_n 1, 1) := by decide +kernel
theorem dX11_house_1 : decode cX11_house 1 = .ok (.ifCond .lt 11, 3) := by decide +kernel
theorem dX11_house_4 : decode cX11_house 4 = .ok (.iload_n 1, 1) := by decide +kernel
theorem dX11_house_5 : decode cX11_house 5 = .ok (.aload_n 0, 1) := by decide +kernel
theorem dX11_house_6 : decode cX11_house 6 = .ok (.getfield 13, 3) := by decide +kernel
theorem dX11_house_9 : decode cX11_house 9 = .ok (.if_icmp .le 6, 3) := by decide +kernel
theorem dX11_house_12 : decode cX11_house 12 = .ok (.bipush (-3), 2) := by decide +kernel
theorem dX11_house_14 : decode cX11_house 14 = .ok (.ireturn, 1) := by decide +kernel
theorem dX11_house_15 : decode cX11_house 15 = .ok (.aload_n 0, 1) := by decide +kernel
theorem dX11_house_16 : decode cX11_house 16 = .ok (.iconst 0, 1) := by decide +kernel
theorem dX11_house_17 : decode cX11_house 17 = .ok (.putfield 13, 3) := by decide +kernel
theorem dX11_house_20 : decode cX11_house 20 = .ok (.aload_n 0, 1) := by decide +kernel
theorem dX11_house_21 : decode cX11_house 21 = .ok (.getfield 26, 3) := by decide +kernel
theorem dX11_house_24 : decode cX11_house 24 = .ok (.aload_n 0, 1) := by decide +kernel
theorem dX11_house_25 : decode cX11_house 25 = .ok (.getfield 9, 3) := by decide +kernel
theorem dX11_house_28 : decode cX11_house 28 = .ok (.iload_n 1, 1) := by decide +kernel
theorem dX11_house_29 : decode cX11_house 29 = .ok (.invokevirtual 105, 3) := by decide +kernel
theorem dX11_house_32 : decode cX11_house 32 = .ok (.astore_n 2, 1) := by decide +kernel
theorem dX11_house_33 : decode cX11_house 33 = .ok (.aload_n 0, 1) := by decide +kernel
theorem dX11_house_34 : decode cX11_house 34 = .ok (.aload_n 0, 1) := by decide +kernel
theorem dX11_house_35 : decode cX11_house 35 = .ok (.getfield 26, 3) := by decide +kernel
theorem dX11_house_38 : decode cX11_house 38 = .ok (.getfield 109, 3) := by decide +kernel
theorem dX11_house_41 : decode cX11_house 41 = .ok (.putfield 17, 3) := by decide +kernel
theorem dX11_house_44 : decode cX11_house 44 = .ok (.aload_n 0, 1) := by decide +kernel
theorem dX11_house_45 : decode cX11_house 45 = .ok (.aload_n 0, 1) := by decide +kernel
theorem dX11_house_46 : decode cX11_house 46 = .ok (.getfield 26, 3) := by decide +kernel
theorem dX11_house_49 : decode cX11_house 49 = .ok (.getfield 112, 3) := by decide +kernel
theorem dX11_house_52 : decode cX11_house 52 = .ok (.putfield 20, 3) := by decide +kernel
theorem dX11_house_55 : decode cX11_house 55 = .ok (.aload_n 0, 1) := by decide +kernel
theorem dX11_house_56 : decode cX11_house 56 = .ok (.getfield 17, 3) := by decide +kernel
theorem dX11_house_59 : decode cX11_house 59 = .ok (.ifCond .eq 11, 3) := by decide +kernel
theorem dX11_house_62 : decode cX11_house 62 = .ok (.bipush (-30), 2) := by decide +kernel
theorem dX11_house_64 : decode cX11_house 64 = .ok (.aload_n 0, 1) := by decide +kernel
theorem dX11_house_65 : decode cX11_house 65 = .ok (.getfield 17, 3) := by decide +kernel
theorem dX11_house_68 : decode cX11_house 68 = .ok (.isub, 1) := by decide +kernel
theorem dX11_house_69 : decode cX11_house 69 = .ok (.ireturn, 1) := by decide +kernel
theorem dX11_image_0 : decode cX11_image 0 = .ok (.iload_n 1, 1) := by decide +kernel
theorem dX11_image_1 : decode cX11_image 1 = .ok (.ifCond .lt 8, 3) := by decide +kernel
theorem dX11_image_4 : decode cX11_image 4 = .ok (.iload_n 1, 1) := by decide +kernel
theorem dX11_image_5 : decode cX11_image 5 = .ok (.iconst 2, 1) := by decide +kernel
theorem dX11_image_6 : decode cX11_image 6 = .ok (.if_icmp .lt 6, 3) := by decide +kernel
theorem dX11_image_9 : decode cX11_image 9 = .ok (.bipush (-2), 2) := by decide +kernel
theorem dX11_image_11 : decode cX11_image 11 = .ok (.ireturn, 1) := by decide +kernel
theorem dX11_image_12 : decode cX11_image 12 = .ok (.aload_n 0, 1) := by decide +kernel
theorem dX11_image_13 : decode cX11_image 13 = .ok (.getfield 38, 3) := by decide +kernel
theorem dX11_image_16 : decode cX11_image 16 = .ok (.iload_n 1, 1) := by decide +kernel
theorem dX11_image_17 : decode cX11_image 17 = .ok (.aaload, 1) := by decide +kernel
theorem dX11_image_18 : decode cX11_image 18 = .ok (.aload_n 0, 1) := by decide +kernel
theorem dX11_image_19 : decode cX11_image 19 = .ok (.getfield 83, 3) := by decide +kernel
theorem dX11_image_22 : decode cX11_image 22 = .ok (.invokevirtual 202, 3) := by decide +kernel
theorem dX11_image_25 : decode cX11_image 25 = .ok (.aload_n 0, 1) := by decide +kernel
theorem dX11_image_26 : decode cX11_image 26 = .ok (.getfield 42, 3) := by decide +kernel
theorem dX11_image_29 : decode cX11_image 29 = .ok (.iload_n 1, 1) := by decide +kernel
theorem dX11_image_30 : decode cX11_image 30 = .ok (.iconst 1, 1) := by decide +kernel
theorem dX11_image_31 : decode cX11_image 31 = .ok (.bastore, 1) := by decide +kernel
theorem dX11_image_32 : decode cX11_image 32 = .ok (.iconst 0, 1) := by decide +kernel
theorem dX11_image_33 : decode cX11_image 33 = .ok (.ireturn, 1) := by decide +kernel
theorem dX11_init_0 : decode cX11_init 0 = .ok (.aload_n 0, 1) := by decide +kernel
theorem dX11_init_1 : decode cX11_init 1 = .ok (.invokespecial 1, 3) := by decide +kernel
theorem dX11_init_4 : decode cX11_init 4 = .ok (.aload_n 0, 1) := by decide +kernel
theorem dX11_init_5 : decode cX11_init 5 = .ok (.sipush 900, 3) := by decide +kernel
theorem dX11_init_8 : decode cX11_init 8 = .ok (.newarray .byte, 2) := by decide +kernel
theorem dX11_init_10 : decode cX11_init 10 = .ok (.putfield 9, 3) := by decide +kernel
theorem dX11_init_13 : decode cX11_init 13 = .ok (.aload_n 0, 1) := by decide +kernel
theorem dX11_init_14 : decode cX11_init 14 = .ok (.iconst 0, 1) := by decide +kernel
theorem dX11_init_15 : decode cX11_init 15 = .ok (.putfield 13, 3) := by decide +kernel
theorem dX11_init_18 : decode cX11_init 18 = .ok (.aload_n 0, 1) := by decide +kernel
theorem dX11_init_19 : decode cX11_init 19 = .ok (.iconst 0, 1) := by decide +kernel
theorem dX11_init_20 : decode cX11_init 20 = .ok (.putfield 17, 3) := by decide +kernel
theorem dX11_init_23 : decode cX11_init 23 = .ok (.aload_n 0, 1) := by decide +kernel
theorem dX11_init_24 : decode cX11_init 24 = .ok (.iconst (-1), 1) := by decide +kernel
theorem dX11_init_25 : decode cX11_init 25 = .ok (.putfield 20, 3) := by decide +kernel
theorem dX11_init_28 : decode cX11_init 28 = .ok (.aload_n 0, 1) := by decide +kernel
theorem dX11_init_29 : decode cX11_init 29 = .ok (.new 23, 3) := by decide +kernel
theorem dX11_init_32 : decode cX11_init 32 = .ok (.dup, 1) := by decide +kernel
theorem dX11_init_33 : decode cX11_init 33 = .ok (.invokespecial 25, 3) := by decide +kernel
theorem dX11_init_36 : decode cX11_init 36 = .ok (.putfield 26, 3) := by decide +kernel
theorem dX11_init_39 : decode cX11_init 39 = .ok (.aload_n 0, 1) := by decide +kernel
theorem dX11_init_40 : decode cX11_init 40 = .ok (.iconst 4, 1) := by decide +kernel
theorem dX11_init_41 : decode cX11_init 41 = .ok (.anewarray 30, 3) := by decide +kernel
theorem dX11_init_44 : decode cX11_init 44 = .ok (.putfield 32, 3) := by decide +kernel
theorem dX11_init_47 : decode cX11_init 47 = .ok (.aload_n 0, 1) := by decide +kernel
theorem dX11_init_48 : decode cX11_init 48 = .ok (.iconst 2, 1) := by decide +kernel
theorem dX11_init_49 : decode cX11_init 49 = .ok (.anewarray 36, 3) := by decide +kernel
theorem dX11_init_52 : decode cX11_init 52 = .ok (.putfield 38, 3) := by decide +kernel
theorem dX11_init_55 : decode cX11_init 55 = .ok (.aload_n 0, 1) := by decide +kernel
theorem dX11_init_56 : decode cX11_init 56 = .ok (.iconst 2, 1) := by decide +kernel
theorem dX11_init_57 : decode cX11_init 57 = .ok (.newarray .boolean, 2) := by decide +kernel
theorem dX11_init_59 : decode cX11_init 59 = .ok (.putfield 42, 3) := by decide +kernel
theorem dX11_init_62 : decode cX11_init 62 = .ok (.aload_n 0, 1) := by decide +kernel
theorem dX11_init_63 : decode cX11_init 63 = .ok (.new 46, 3) := by decide +kernel
theorem dX11_init_66 : decode cX11_init 66 = .ok (.dup, 1) := by decide +kernel
theorem dX11_init_67 : decode cX11_init 67 = .ok (.invokespecial 48, 3) := by decide +kernel
theorem dX11_init_70 : decode cX11_init 70 = .ok (.putfield 49, 3) := by decide +kernel
theorem dX11_init_73 : decode cX11_init 73 = .ok (.aload_n 0, 1) := by decide +kernel
theorem dX11_init_74 : decode cX11_init 74 = .ok (.new 53, 3) := by decide +kernel
theorem dX11_init_77 : decode cX11_init 77 = .ok (.dup, 1) := by decide +kernel
theorem dX11_init_78 : decode cX11_init 78 = .ok (.invokespecial 55, 3) := by decide +kernel
theorem dX11_init_81 : decode cX11_init 81 = .ok (.putfield 56, 3) := by decide +kernel
theorem dX11_init_84 : decode cX11_init 84 = .ok (.aload_n 0, 1) := by decide +kernel
theorem dX11_init_85 : decode cX11_init 85 = .ok (.new 60, 3) := by decide +kernel
theorem dX11_init_88 : decode cX11_init 88 = .ok (.dup, 1) := by decide +kernel
theorem dX11_init_89 : decode cX11_init 89 = .ok (.invokespecial 62, 3) := by decide +kernel
theorem dX11_init_92 : decode cX11_init 92 = .ok (.putfield 63, 3) := by decide +kernel
theorem dX11_init_95 : decode cX11_init 95 = .ok (.aload_n 0, 1) := by decide +kernel
theorem dX11_init_96 : decode cX11_init 96 = .ok (.new 67, 3) := by decide +kernel
theorem dX11_init_99 : decode cX11_init 99 = .ok (.dup, 1) := by decide +kernel
theorem dX11_init_100 : decode cX11_init 100 = .ok (.invokespecial 69, 3) := by decide +kernel
theorem dX11_init_103 : decode cX11_init 103 = .ok (.putfield 70, 3) := by decide +kernel
theorem dX11_init_106 : decode cX11_init 106 = .ok (.aload_n 0, 1) := by decide +kernel
theorem dX11_init_107 : decode cX11_init 107 = .ok (.iconst 0, 1) := by decide +kernel
theorem dX11_init_108 : decode cX11_init 108 = .ok (.putfield 74, 3) := by decide +kernel
theorem dX11_init_111 : decode cX11_init 111 = .ok (.new 77, 3) := by decide +kernel
theorem dX11_init_114 : decode cX11_init 114 = .ok (.dup, 1) := by decide +kernel
theorem dX11_init_115 : decode cX11_init 115 = .ok (.invokespecial 79, 3) := by decide +kernel
theorem dX11_init_118 : decode cX11_init 118 = .ok (.astore_n 1, 1) := by decide +kernel
theorem dX11_init_119 : decode cX11_init 119 = .ok (.aload_n 0, 1) := by decide +kernel
theorem dX11_init_120 : decode cX11_init 120 = .ok (.new 36, 3) := by decide +kernel
theorem dX11_init_123 : decode cX11_init 123 = .ok (.dup, 1) := by decide +kernel
theorem dX11_init_124 : decode cX11_init 124 = .ok (.aload_n 1, 1) := by decide +kernel
theorem dX11_init_125 : decode cX11_init 125 = .ok (.invokespecial 80, 3) := by decide +kernel
theorem dX11_init_128 : decode cX11_init 128 = .ok (.putfield 83, 3) := by decide +kernel
theorem dX11_init_131 : decode cX11_init 131 = .ok (.aload_n 0, 1) := by decide +kernel
theorem dX11_init_132 : decode cX11_init 132 = .ok (.new 36, 3) := by decide +kernel
theorem dX11_init_135 : decode cX11_init 135 = .ok (.dup, 1) := by decide +kernel
theorem dX11_init_136 : decode cX11_init 136 = .ok (.aload_n 1, 1) := by decide +kernel
theorem dX11_init_137 : decode cX11_init 137 = .ok (.invokespecial 80, 3) := by decide +kernel
theorem dX11_init_140 : decode cX11_init 140 = .ok (.putfield 87, 3) := by decide +kernel
theorem dX11_init_143 : decode cX11_init 143 = .ok (.aload_n 0, 1) := by decide +kernel
theorem dX11_init_144 : decode cX11_init 144 = .ok (.new 36, 3) := by decide +kernel
theorem dX11_init_147 : decode cX11_init 147 = .ok (.dup, 1) := by decide +kernel
theorem dX11_init_148 : decode cX11_init 148 = .ok (.aload_n 1, 1) := by decide +kernel
theorem dX11_init_149 : decode cX11_init 149 = .ok (.invokespecial 80, 3) := by decide +kernel
theorem dX11_init_152 : decode cX11_init 152 = .ok (.putfield 90, 3) := by decide +kernel
theorem dX11_init_155 : decode cX11_init 155 = .ok (.aload_n 0, 1) := by decide +kernel
theorem dX11_init_156 : decode cX11_init 156 = .ok (.new 93, 3) := by decide +kernel
theorem dX11_init_159 : decode cX11_init 159 = .ok (.dup, 1) := by decide +kernel
theorem dX11_init_160 : decode cX11_init 160 = .ok (.aload_n 1, 1) := by decide +kernel
theorem dX11_init_161 : decode cX11_init 161 = .ok (.invokespecial 95, 3) := by decide +kernel
theorem dX11_init_164 : decode cX11_init 164 = .ok (.putfield 96, 3) := by decide +kernel
theorem dX11_init_167 : decode cX11_init 167 = .ok (.iconst 0, 1) := by decide +kernel
theorem dX11_init_168 : decode cX11_init 168 = .ok (.istore_n 2, 1) := by decide +kernel
theorem dX11_init_169 : decode cX11_init 169 = .ok (.iload_n 2, 1) := by decide +kernel
theorem dX11_init_170 : decode cX11_init 170 = .ok (.iconst 4, 1) := by decide +kernel
theorem dX11_init_171 : decode cX11_init 171 = .ok (.if_icmp .ge 22, 3) := by decide +kernel
theorem dX11_init_174 : decode cX11_init 174 = .ok (.aload_n 0, 1) := by decide +kernel
theorem dX11_init_175 : decode cX11_init 175 = .ok (.getfield 32, 3) := by decide +kernel
theorem dX11_init_178 : decode cX11_init 178 = .ok (.iload_n 2, 1) := by decide +kernel
theorem dX11_init_179 : decode cX11_init 179 = .ok (.new 30, 3) := by decide +kernel
theorem dX11_init_182 : decode cX11_init 182 = .ok (.dup, 1) := by decide +kernel
theorem dX11_init_183 : decode cX11_init 183 = .ok (.invokespecial 100, 3) := by decide +kernel
theorem dX11_init_186 : decode cX11_init 186 = .ok (.aastore, 1) := by decide +kernel
theorem dX11_init_187 : decode cX11_init 187 = .ok (.iinc 2 1, 3) := by decide +kernel
theorem dX11_init_190 : decode cX11_init 190 = .ok (.goto (-21), 3) := by decide +kernel
theorem dX11_init_193 : decode cX11_init 193 = .ok (.iconst 0, 1) := by decide +kernel
theorem dX11_init_194 : decode cX11_init 194 = .ok (.istore_n 2, 1) := by decide +kernel
theorem dX11_init_195 : decode cX11_init 195 = .ok (.iload_n 2, 1) := by decide +kernel
theorem dX11_init_196 : decode cX11_init 196 = .ok (.iconst 2, 1) := by decide +kernel
theorem dX11_init_197 : decode cX11_init 197 = .ok (.if_icmp .ge 23, 3) := by decide +kernel
theorem dX11_init_200 : decode cX11_init 200 = .ok (.aload_n 0, 1) := by decide +kernel
theorem dX11_init_201 : decode cX11_init 201 = .ok (.getfield 38, 3) := by decide +kernel
theorem dX11_init_204 : decode cX11_init 204 = .ok (.iload_n 2, 1) := by decide +kernel
theorem dX11_init_205 : decode cX11_init 205 = .ok (.new 36, 3) := by decide +kernel
theorem dX11_init_208 : decode cX11_init 208 = .ok (.dup, 1) := by decide +kernel
theorem dX11_init_209 : decode cX11_init 209 = .ok (.aload_n 1, 1) := by decide +kernel
theorem dX11_init_210 : decode cX11_init 210 = .ok (.invokespecial 80, 3) := by decide +kernel
theorem dX11_init_213 : decode cX11_init 213 = .ok (.aastore, 1) := by decide +kernel
theorem dX11_init_214 : decode cX11_init 214 = .ok (.iinc 2 1, 3) := by decide +kernel
theorem dX11_init_217 : decode cX11_init 217 = .ok (.goto (-22), 3) := by decide +kernel
theorem dX11_init_220 : decode cX11_init 220 = .ok (.return_, 1) := by decide +kernel
theorem dX11_isBill_0 : decode cX11_isBill 0 = .ok (.iload_n 1, 1) := by decide +kernel
theorem dX11_isBill_1 : decode cX11_isBill 1 = .ok (.ifCond .lt 13, 3) := by decide +kernel
theorem dX11_isBill_4 : decode cX11_isBill 4 = .ok (.iload_n 1, 1) := by decide +kernel
theorem dX11_isBill_5 : decode cX11_isBill 5 = .ok (.bipush 10, 2) := by decide +kernel
theorem dX11_isBill_7 : decode cX11_isBill 7 = .ok (.if_icmp .ge 7, 3) := by decide +kernel
theorem dX11_isBill_10 : decode cX11_isBill 10 = .ok (.iconst 1, 1) := by decide +kernel
theorem dX11_isBill_11 : decode cX11_isBill 11 = .ok (.goto 4, 3) := by decide +kernel
theorem dX11_isBill_14 : decode cX11_isBill 14 = .ok (.iconst 0, 1) := by decide +kernel
theorem dX11_isBill_15 : decode cX11_isBill 15 = .ok (.ireturn, 1) := by decide +kernel
theorem dX11_isPerson_0 : decode cX11_isPerson 0 = .ok (.iload_n 1, 1) := by decide +kernel
theorem dX11_isPerson_1 : decode cX11_isPerson 1 = .ok (.ifCond .lt 21, 3) := by decide +kernel
theorem dX11_isPerson_4 : decode cX11_isPerson 4 = .ok (.iload_n 1, 1) := by decide +kernel
theorem dX11_isPerson_5 : decode cX11_isPerson 5 = .ok (.aload_n 0, 1) := by decide +kernel
theorem dX11_isPerson_6 : decode cX11_isPerson 6 = .ok (.getfield 83, 3) := by decide +kernel
theorem dX11_isPerson_9 : decode cX11_isPerson 9 = .ok (.getfield 126, 3) := by decide +kernel
theorem dX11_isPerson_12 : decode cX11_isPerson 12 = .ok (.getfield 159, 3) := by decide +kernel
theorem dX11_isPerson_15 : decode cX11_isPerson 15 = .ok (.if_icmp .ge 7, 3) := by decide +kernel
theorem dX11_isPerson_22 : decode cX11_isPerson 22 = .ok (.iconst 0, 1) := by decide +kernel
theorem dX11_isPerson_23 : decode cX11_isPerson 23 = .ok (.ireturn, 1) := by decide +kernel
theorem dX11_isSet_0 : decode cX11_isSet 0 = .ok (.iload_n 1, 1) := by decide +kernel
theorem dX11_isSet_1 : decode cX11_isSet 1 = .ok (.aload_n 0, 1) := by decide +kernel
theorem dX11_isSet_2 : decode cX11_isSet 2 = .ok (.invokevirtual 162, 3) := by decide +kernel
theorem dX11_isSet_5 : decode cX11_isSet 5 = .ok (.iconst (-1), 1) := by decide +kernel
theorem dX11_isSet_6 : decode cX11_isSet 6 = .ok (.ixor, 1) := by decide +kernel
theorem dX11_isSet_7 : decode cX11_isSet 7 = .ok (.iand, 1) := by decide +kernel
theorem dX11_isSet_8 : decode cX11_isSet 8 = .ok (.ifCond .ne 7, 3) := by decide +kernel
theorem dX11_isSet_11 : decode cX11_isSet 11 = .ok (.iconst 1, 1) := by decide +kernel
theorem dX11_isSet_12 : decode cX11_isSet 12 = .ok (.goto 4, 3) := by decide +kernel
theorem dX11_isSet_15 : decode cX11_isSet 15 = .ok (.iconst 0, 1) := by decide +kernel
theorem dX11_isSet_16 : decode cX11_isSet 16 = .ok (.ireturn, 1) := by decide +kernel
theorem dX11_isTray_0 : decode cX11_isTray 0 = .ok (.iload_n 1, 1) := by decide +kernel
theorem dX11_isTray_1 : decode cX11_isTray 1 = .ok (.ifCond .lt 12, 3) := by decide +kernel
theorem dX11_isTray_4 : decode cX11_isTray 4 = .ok (.iload_n 1, 1) := by decide +kernel
theorem dX11_isTray_5 : decode cX11_isTray 5 = .ok (.iconst 4, 1) := by decide +kernel
theorem dX11_isTray_6 : decode cX11_isTray 6 = .ok (.if_icmp .ge 7, 3) := by decide +kernel
theorem dX11_isTray_9 : decode cX11_isTray 9 = .ok (.iconst 1, 1) := by decide +kernel
theorem dX11_isTray_10 : decode cX11_isTray 10 = .ok (.goto 4, 3) := by decide +kernel
theorem dX11_isTray_13 : decode cX11_isTray 13 = .ok (.iconst 0, 1) := by decide +kernel
theorem dX11_isTray_14 : decode cX11_isTray 14 = .ok (.ireturn, 1) := by decide +kernel
theorem dX11_judge_0 : decode cX11_judge 0 = .ok (.aload_n 0, 1) := by decide +kernel
theorem dX11_judge_1 : decode cX11_judge 1 = .ok (.iload_n 1, 1) := by decide +kernel
theorem dX11_judge_2 : decode cX11_judge 2 = .ok (.invokevirtual 223, 3) := by decide +kernel
theorem dX11_judge_5 : decode cX11_judge 5 = .ok (.ifCond .eq 12, 3) := by decide +kernel
theorem dX11_judge_8 : decode cX11_judge 8 = .ok (.iload_n 2, 1) := by decide +kernel
theorem dX11_judge_9 : decode cX11_judge 9 = .ok (.ifCond .lt 8, 3) := by decide +kernel
theorem dX11_judge_12 : decode cX11_judge 12 = .ok (.iload_n 2, 1) := by decide +kernel
theorem dX11_judge_13 : decode cX11_judge 13 = .ok (.iconst 3, 1) := by decide +kernel
theorem dX11_judge_14 : decode cX11_judge 14 = .ok (.if_icmp .le 6, 3) := by decide +kernel
theorem dX11_judge_17 : decode cX11_judge 17 = .ok (.bipush (-2), 2) := by decide +kernel
theorem dX11_judge_19 : decode cX11_judge 19 = .ok (.ireturn, 1) := by decide +kernel
theorem dX11_judge_20 : decode cX11_judge 20 = .ok (.aload_n 0, 1) := by decide +kernel
theorem dX11_judge_21 : decode cX11_judge 21 = .ok (.getfield 32, 3) := by decide +kernel
theorem dX11_judge_24 : decode cX11_judge 24 = .ok (.iload_n 1, 1) := by decide +kernel
theorem dX11_judge_25 : decode cX11_judge 25 = .ok (.aaload, 1) := by decide +kernel
theorem dX11_judge_26 : decode cX11_judge 26 = .ok (.astore_n 3, 1) := by decide +kernel
theorem dX11_judge_27 : decode cX11_judge 27 = .ok (.aload_n 3, 1) := by decide +kernel
theorem dX11_judge_28 : decode cX11_judge 28 = .ok (.invokevirtual 226, 3) := by decide +kernel
theorem dX11_judge_31 : decode cX11_judge 31 = .ok (.ifCond .eq 6, 3) := by decide +kernel
theorem dX11_judge_34 : decode cX11_judge 34 = .ok (.bipush (-6), 2) := by decide +kernel
theorem dX11_judge_36 : decode cX11_judge 36 = .ok (.ireturn, 1) := by decide +kernel
theorem dX11_laundress_0 : decode cX11_laundress 0 = .ok (.aload_n 0, 1) := by decide +kernel
theorem dX11_laundress_1 : decode cX11_laundress 1 = .ok (.iload_n 1, 1) := by decide +kernel
theorem dX11_laundress_2 : decode cX11_laundress 2 = .ok (.invokevirtual 257, 3) := by decide +kernel
theorem dX11_laundress_5 : decode cX11_laundress 5 = .ok (.ifCond .ne 6, 3) := by decide +kernel
theorem dX11_laundress_8 : decode cX11_laundress 8 = .ok (.bipush (-3), 2) := by decide +kernel
theorem dX11_laundress_10 : decode cX11_laundress 10 = .ok (.ireturn, 1) := by decide +kernel
theorem dX11_laundress_11 : decode cX11_laundress 11 = .ok (.aload_n 0, 1) := by decide +kernel
theorem dX11_laundress_12 : decode cX11_laundress 12 = .ok (.invokevirtual 260, 3) := by decide +kernel
theorem dX11_laundress_15 : decode cX11_laundress 15 = .ok (.aload_n 0, 1) := by decide +kernel
theorem dX11_laundress_16 : decode cX11_laundress 16 = .ok (.getfield 83, 3) := by decide +kernel
theorem dX11_laundress_19 : decode cX11_laundress 19 = .ok (.invokevirtual 155, 3) := by decide +kernel
theorem dX11_laundress_22 : decode cX11_laundress 22 = .ok (.iload_n 1, 1) := by decide +kernel
theorem dX11_laundress_23 : decode cX11_laundress 23 = .ok (.iconst (-1), 1) := by decide +kernel
theorem dX11_laundress_24 : decode cX11_laundress 24 = .ok (.ixor, 1) := by decide +kernel
theorem dX11_laundress_25 : decode cX11_laundress 25 = .ok (.iand, 1) := by decide +kernel
theorem dX11_laundress_26 : decode cX11_laundress 26 = .ok (.istore_n 2, 1) := by decide +kernel
theorem dX11_laundress_27 : decode cX11_laundress 27 = .ok (.iconst (-1), 1) := by decide +kernel
theorem dX11_laundress_28 : decode cX11_laundress 28 = .ok (.istore_n 3, 1) := by decide +kernel
theorem dX11_laundress_29 : decode cX11_laundress 29 = .ok (.iconst (-1), 1) := by decide +kernel
theorem dX11_laundress_30 : decode cX11_laundress 30 = .ok (.istore 4, 2) := by decide +kernel
theorem dX11_laundress_32 : decode cX11_laundress 32 = .ok (.iconst 0, 1) := by decide +kernel
theorem dX11_laundress_33 : decode cX11_laundress 33 = .ok (.istore 5, 2) := by decide +kernel
theorem dX11_laundress_35 : decode cX11_laundress 35 = .ok (.iload 5, 2) := by decide +kernel
theorem dX11_laundress_37 : decode cX11_laundress 37 = .ok (.aload_n 0, 1) := by decide +kernel
theorem dX11_laundress_38 : decode cX11_laundress 38 = .ok (.getfield 83, 3) := by decide +kernel
theorem dX11_laundress_41 : decode cX11_laundress 41 = .ok (.getfield 126, 3) := by decide +kernel
theorem dX11_laundress_44 : decode cX11_laundress 44 = .ok (.getfield 159, 3) := by decide +kernel
theorem dX11_laundress_47 : decode cX11_laundress 47 = .ok (.if_icmp .ge 50, 3) := by decide +kernel
theorem dX11_laundress_97 : decode cX11_laundress 97 = .ok (.iload_n 3, 1) := by decide +kernel
theorem dX11_laundress_98 : decode cX11_laundress 98 = .ok (.ireturn, 1) := by decide +kernel
theorem dX11_lists_0 : decode cX11_lists 0 = .ok (.aload_n 0, 1) := by decide +kernel
theorem dX11_lists_1 : decode cX11_lists 1 = .ok (.iload_n 1, 1) := by decide +kernel
theorem dX11_lists_2 : decode cX11_lists 2 = .ok (.invokevirtual 223, 3) := by decide +kernel
theorem dX11_lists_5 : decode cX11_lists 5 = .ok (.ifCond .eq 12, 3) := by decide +kernel
theorem dX11_lists_8 : decode cX11_lists 8 = .ok (.aload_n 0, 1) := by decide +kernel
theorem dX11_lists_9 : decode cX11_lists 9 = .ok (.iload_n 2, 1) := by decide +kernel
theorem dX11_lists_10 : decode cX11_lists 10 = .ok (.iload_n 3, 1) := by decide +kernel
theorem dX11_lists_11 : decode cX11_lists 11 = .ok (.invokevirtual 180, 3) := by decide +kernel
theorem dX11_lists_14 : decode cX11_lists 14 = .ok (.ifCond .ne 6, 3) := by decide +kernel
theorem dX11_lists_17 : decode cX11_lists 17 = .ok (.bipush (-2), 2) := by decide +kernel
theorem dX11_lists_19 : decode cX11_lists 19 = .ok (.ireturn, 1) := by decide +kernel
theorem dX11_numberOrSet_0 : decode cX11_numberOrSet 0 = .ok (.iload_n 0, 1) := by decide +kernel
theorem dX11_numberOrSet_1 : decode cX11_numberOrSet 1 = .ok (.iconst (-1), 1) := by decide +kernel
theorem dX11_numberOrSet_2 : decode cX11_numberOrSet 2 = .ok (.if_icmp .ne 5, 3) := by decide +kernel
theorem dX11_numberOrSet_5 : decode cX11_numberOrSet 5 = .ok (.iconst (-1), 1) := by decide +kernel
theorem dX11_numberOrSet_6 : decode cX11_numberOrSet 6 = .ok (.ireturn, 1) := by decide +kernel
theorem dX11_numberOrSet_7 : decode cX11_numberOrSet 7 = .ok (.iload_n 1, 1) := by decide +kernel
theorem dX11_numberOrSet_8 : decode cX11_numberOrSet 8 = .ok (.ifCond .ne 10, 3) := by decide +kernel
theorem dX11_numberOrSet_11 : decode cX11_numberOrSet 11 = .ok (.iload_n 0, 1) := by decide +kernel
theorem dX11_numberOrSet_12 : decode cX11_numberOrSet 12 = .ok (.invokestatic 193, 3) := by decide +kernel
theorem dX11_numberOrSet_15 : decode cX11_numberOrSet 15 = .ok (.goto 4, 3) := by decide +kernel
theorem dX11_numberOrSet_18 : decode cX11_numberOrSet 18 = .ok (.iload_n 0, 1) := by decide +kernel
theorem dX11_numberOrSet_19 : decode cX11_numberOrSet 19 = .ok (.ireturn, 1) := by decide +kernel
theorem dX11_numbers_0 : decode cX11_numbers 0 = .ok (.aload_n 0, 1) := by decide +kernel
theorem dX11_numbers_1 : decode cX11_numbers 1 = .ok (.iload_n 1, 1) := by decide +kernel
theorem dX11_numbers_2 : decode cX11_numbers 2 = .ok (.invokevirtual 223, 3) := by decide +kernel
theorem dX11_numbers_5 : decode cX11_numbers 5 = .ok (.ifCond .eq 12, 3) := by decide +kernel
theorem dX11_numbers_8 : decode cX11_numbers 8 = .ok (.iload_n 2, 1) := by decide +kernel
theorem dX11_numbers_9 : decode cX11_numbers 9 = .ok (.ifCond .lt 8, 3) := by decide +kernel
theorem dX11_numbers_12 : decode cX11_numbers 12 = .ok (.iload_n 2, 1) := by decide +kernel
theorem dX11_numbers_13 : decode cX11_numbers 13 = .ok (.iconst 4, 1) := by decide +kernel
theorem dX11_numbers_14 : decode cX11_numbers 14 = .ok (.if_icmp .lt 6, 3) := by decide +kernel
theorem dX11_numbers_17 : decode cX11_numbers 17 = .ok (.bipush (-2), 2) := by decide +kernel
theorem dX11_numbers_19 : decode cX11_numbers 19 = .ok (.ireturn, 1) := by decide +kernel
theorem dX11_numbers_20 : decode cX11_numbers 20 = .ok (.iload_n 3, 1) := by decide +kernel
theorem dX11_numbers_21 : decode cX11_numbers 21 = .ok (.ifCond .lt 9, 3) := by decide +kernel
theorem dX11_numbers_24 : decode cX11_numbers 24 = .ok (.iload_n 3, 1) := by decide +kernel
theorem dX11_numbers_25 : decode cX11_numbers 25 = .ok (.bipush 40, 2) := by decide +kernel
theorem dX11_numbers_27 : decode cX11_numbers 27 = .ok (.if_icmp .le 6, 3) := by decide +kernel
theorem dX11_numbers_30 : decode cX11_numbers 30 = .ok (.bipush (-3), 2) := by decide +kernel
theorem dX11_numbers_32 : decode cX11_numbers 32 = .ok (.ireturn, 1) := by decide +kernel
theorem dX11_numbers_33 : decode cX11_numbers 33 = .ok (.aload_n 0, 1) := by decide +kernel
theorem dX11_numbers_34 : decode cX11_numbers 34 = .ok (.getfield 32, 3) := by decide +kernel
theorem dX11_numbers_37 : decode cX11_numbers 37 = .ok (.iload_n 1, 1) := by decide +kernel
theorem dX11_numbers_38 : decode cX11_numbers 38 = .ok (.aaload, 1) := by decide +kernel
theorem dX11_numbers_39 : decode cX11_numbers 39 = .ok (.iload_n 2, 1) := by decide +kernel
theorem dX11_numbers_40 : decode cX11_numbers 40 = .ok (.iload_n 3, 1) := by decide +kernel
theorem dX11_numbers_41 : decode cX11_numbers 41 = .ok (.invokevirtual 357, 3) := by decide +kernel
theorem dX11_numbers_44 : decode cX11_numbers 44 = .ok (.iconst 0, 1) := by decide +kernel
theorem dX11_numbers_45 : decode cX11_numbers 45 = .ok (.ireturn, 1) := by decide +kernel
theorem dX11_opposed_0 : decode cX11_opposed 0 = .ok (.aload_n 0, 1) := by decide +kernel
theorem dX11_opposed_1 : decode cX11_opposed 1 = .ok (.iload_n 1, 1) := by decide +kernel
theorem dX11_opposed_2 : decode cX11_opposed 2 = .ok (.invokevirtual 122, 3) := by decide +kernel
theorem dX11_opposed_5 : decode cX11_opposed 5 = .ok (.ifCond .eq 11, 3) := by decide +kernel
theorem dX11_opposed_16 : decode cX11_opposed 16 = .ok (.bipush (-2), 2) := by decide +kernel
theorem dX11_opposed_18 : decode cX11_opposed 18 = .ok (.ireturn, 1) := by decide +kernel
theorem dX11_opposedTwos_0 : decode cX11_opposedTwos 0 = .ok (.aload_n 0, 1) := by decide +kernel
theorem dX11_opposedTwos_1 : decode cX11_opposedTwos 1 = .ok (.invokevirtual 260, 3) := by decide +kernel
theorem dX11_opposedTwos_4 : decode cX11_opposedTwos 4 = .ok (.iconst 0, 1) := by decide +kernel
theorem dX11_opposedTwos_5 : decode cX11_opposedTwos 5 = .ok (.istore_n 1, 1) := by decide +kernel
theorem dX11_opposedTwos_6 : decode cX11_opposedTwos 6 = .ok (.iconst 0, 1) := by decide +kernel
theorem dX11_opposedTwos_7 : decode cX11_opposedTwos 7 = .ok (.istore_n 2, 1) := by decide +kernel
theorem dX11_opposedTwos_8 : decode cX11_opposedTwos 8 = .ok (.iload_n 2, 1) := by decide +kernel
theorem dX11_opposedTwos_9 : decode cX11_opposedTwos 9 = .ok (.aload_n 0, 1) := by decide +kernel
theorem dX11_opposedTwos_10 : decode cX11_opposedTwos 10 = .ok (.getfield 83, 3) := by decide +kernel
theorem dX11_opposedTwos_13 : decode cX11_opposedTwos 13 = .ok (.getfield 126, 3) := by decide +kernel
theorem dX11_opposedTwos_16 : decode cX11_opposedTwos 16 = .ok (.getfield 159, 3) := by decide +kernel
theorem dX11_opposedTwos_19 : decode cX11_opposedTwos 19 = .ok (.if_icmp .ge 24, 3) := by decide +kernel
theorem dX11_opposedTwos_43 : decode cX11_opposedTwos 43 = .ok (.iload_n 1, 1) := by decide +kernel
theorem dX11_opposedTwos_44 : decode cX11_opposedTwos 44 = .ok (.iconst 2, 1) := by decide +kernel
theorem dX11_opposedTwos_45 : decode cX11_opposedTwos 45 = .ok (.idiv, 1) := by decide +kernel
theorem dX11_opposedTwos_46 : decode cX11_opposedTwos 46 = .ok (.ireturn, 1) := by decide +kernel
theorem dX11_opposites_0 : decode cX11_opposites 0 = .ok (.aload_n 0, 1) := by decide +kernel
theorem dX11_opposites_1 : decode cX11_opposites 1 = .ok (.iload_n 1, 1) := by decide +kernel
theorem dX11_opposites_2 : decode cX11_opposites 2 = .ok (.invokevirtual 122, 3) := by decide +kernel
theorem dX11_opposites_5 : decode cX11_opposites 5 = .ok (.ifCond .ne 6, 3) := by decide +kernel
theorem dX11_opposites_8 : decode cX11_opposites 8 = .ok (.bipush (-2), 2) := by decide +kernel
theorem dX11_opposites_10 : decode cX11_opposites 10 = .ok (.ireturn, 1) := by decide +kernel
theorem dX11_pairs_0 : decode cX11_pairs 0 = .ok (.iload_n 2, 1) := by decide +kernel
theorem dX11_pairs_1 : decode cX11_pairs 1 = .ok (.ifCond .eq 28, 3) := by decide +kernel
theorem dX11_pairs_4 : decode cX11_pairs 4 = .ok (.iload_n 2, 1) := by decide +kernel
theorem dX11_pairs_5 : decode cX11_pairs 5 = .ok (.iconst 1, 1) := by decide +kernel
theorem dX11_pairs_6 : decode cX11_pairs 6 = .ok (.if_icmp .eq 23, 3) := by decide +kernel
theorem dX11_pairs_9 : decode cX11_pairs 9 = .ok (.iload_n 2, 1) := by decide +kernel
theorem dX11_pairs_10 : decode cX11_pairs 10 = .ok (.bipush 10, 2) := by decide +kernel
theorem dX11_pairs_12 : decode cX11_pairs 12 = .ok (.if_icmp .lt 14, 3) := by decide +kernel
theorem dX11_pairs_15 : decode cX11_pairs 15 = .ok (.aload_n 0, 1) := by decide +kernel
theorem dX11_pairs_16 : decode cX11_pairs 16 = .ok (.iload_n 2, 1) := by decide +kernel
theorem dX11_pairs_17 : decode cX11_pairs 17 = .ok (.bipush 10, 2) := by decide +kernel
theorem dX11_pairs_19 : decode cX11_pairs 19 = .ok (.isub, 1) := by decide +kernel
theorem dX11_pairs_20 : decode cX11_pairs 20 = .ok (.invokevirtual 122, 3) := by decide +kernel
theorem dX11_pairs_23 : decode cX11_pairs 23 = .ok (.ifCond .ne 6, 3) := by decide +kernel
theorem dX11_pairs_26 : decode cX11_pairs 26 = .ok (.bipush (-2), 2) := by decide +kernel
theorem dX11_pairs_28 : decode cX11_pairs 28 = .ok (.ireturn, 1) := by decide +kernel
theorem dX11_pairs_29 : decode cX11_pairs 29 = .ok (.aload_n 0, 1) := by decide +kernel
theorem dX11_pairs_30 : decode cX11_pairs 30 = .ok (.iload_n 1, 1) := by decide +kernel
theorem dX11_pairs_31 : decode cX11_pairs 31 = .ok (.invokevirtual 257, 3) := by decide +kernel
theorem dX11_pairs_34 : decode cX11_pairs 34 = .ok (.ifCond .ne 6, 3) := by decide +kernel
theorem dX11_pairs_37 : decode cX11_pairs 37 = .ok (.bipush (-3), 2) := by decide +kernel
theorem dX11_pairs_39 : decode cX11_pairs 39 = .ok (.ireturn, 1) := by decide +kernel
theorem dX11_pairs_40 : decode cX11_pairs 40 = .ok (.aload_n 0, 1) := by decide +kernel
theorem dX11_pairs_41 : decode cX11_pairs 41 = .ok (.invokevirtual 260, 3) := by decide +kernel
theorem dX11_pairs_44 : decode cX11_pairs 44 = .ok (.aload_n 0, 1) := by decide +kernel
theorem dX11_pairs_45 : decode cX11_pairs 45 = .ok (.getfield 56, 3) := by decide +kernel
theorem dX11_pairs_48 : decode cX11_pairs 48 = .ok (.aload_n 0, 1) := by decide +kernel
theorem dX11_pairs_49 : decode cX11_pairs 49 = .ok (.getfield 83, 3) := by decide +kernel
theorem dX11_pairs_52 : decode cX11_pairs 52 = .ok (.getfield 126, 3) := by decide +kernel
theorem dX11_pairs_55 : decode cX11_pairs 55 = .ok (.getfield 149, 3) := by decide +kernel
theorem dX11_pairs_58 : decode cX11_pairs 58 = .ok (.invokevirtual 263, 3) := by decide +kernel
theorem dX11_pairs_61 : decode cX11_pairs 61 = .ok (.iload_n 2, 1) := by decide +kernel
theorem dX11_pairs_62 : decode cX11_pairs 62 = .ok (.lookupswitch 44 #[(0, 26), (1, 35)], 26) := by decide +kernel
theorem dX11_pairs_88 : decode cX11_pairs 88 = .ok (.aload_n 0, 1) := by decide +kernel
theorem dX11_pairs_89 : decode cX11_pairs 89 = .ok (.getfield 56, 3) := by decide +kernel
theorem dX11_pairs_92 : decode cX11_pairs 92 = .ok (.iload_n 1, 1) := by decide +kernel
theorem dX11_pairs_93 : decode cX11_pairs 93 = .ok (.invokevirtual 267, 3) := by decide +kernel
theorem dX11_pairs_96 : decode cX11_pairs 96 = .ok (.ireturn, 1) := by decide +kernel
theorem dX11_pairs_97 : decode cX11_pairs 97 = .ok (.aload_n 0, 1) := by decide +kernel
theorem dX11_pairs_98 : decode cX11_pairs 98 = .ok (.getfield 56, 3) := by decide +kernel
theorem dX11_pairs_101 : decode cX11_pairs 101 = .ok (.iload_n 1, 1) := by decide +kernel
theorem dX11_pairs_102 : decode cX11_pairs 102 = .ok (.invokevirtual 270, 3) := by decide +kernel
theorem dX11_pairs_105 : decode cX11_pairs 105 = .ok (.ireturn, 1) := by decide +kernel
theorem dX11_passed_0 : decode cX11_passed 0 = .ok (.iload_n 2, 1) := by decide +kernel
theorem dX11_passed_1 : decode cX11_passed 1 = .ok (.ifCond .eq 11, 3) := by decide +kernel
theorem dX11_passed_4 : decode cX11_passed 4 = .ok (.iload_n 2, 1) := by decide +kernel
theorem dX11_passed_5 : decode cX11_passed 5 = .ok (.iconst 1, 1) := by decide +kernel
theorem dX11_passed_6 : decode cX11_passed 6 = .ok (.if_icmp .eq 6, 3) := by decide +kernel
theorem dX11_passed_9 : decode cX11_passed 9 = .ok (.bipush (-2), 2) := by decide +kernel
theorem dX11_passed_11 : decode cX11_passed 11 = .ok (.ireturn, 1) := by decide +kernel
theorem dX11_passed_12 : decode cX11_passed 12 = .ok (.aload_n 0, 1) := by decide +kernel
theorem dX11_passed_13 : decode cX11_passed 13 = .ok (.iload_n 1, 1) := by decide +kernel
theorem dX11_passed_14 : decode cX11_passed 14 = .ok (.invokevirtual 316, 3) := by decide +kernel
theorem dX11_passed_17 : decode cX11_passed 17 = .ok (.ifCond .ne 6, 3) := by decide +kernel
theorem dX11_passed_20 : decode cX11_passed 20 = .ok (.bipush (-3), 2) := by decide +kernel
theorem dX11_passed_22 : decode cX11_passed 22 = .ok (.ireturn, 1) := by decide +kernel
theorem dX11_passed_23 : decode cX11_passed 23 = .ok (.aload_n 0, 1) := by decide +kernel
theorem dX11_passed_24 : decode cX11_passed 24 = .ok (.invokevirtual 260, 3) := by decide +kernel
theorem dX11_passed_27 : decode cX11_passed 27 = .ok (.aload_n 0, 1) := by decide +kernel
theorem dX11_passed_28 : decode cX11_passed 28 = .ok (.getfield 56, 3) := by decide +kernel
theorem dX11_passed_31 : decode cX11_passed 31 = .ok (.invokevirtual 277, 3) := by decide +kernel
theorem dX11_passed_34 : decode cX11_passed 34 = .ok (.aload_n 0, 1) := by decide +kernel
theorem dX11_passed_35 : decode cX11_passed 35 = .ok (.iload_n 1, 1) := by decide +kernel
theorem dX11_passed_36 : decode cX11_passed 36 = .ok (.invokevirtual 329, 3) := by decide +kernel
theorem dX11_passed_39 : decode cX11_passed 39 = .ok (.iload_n 2, 1) := by decide +kernel
theorem dX11_passed_40 : decode cX11_passed 40 = .ok (.invokestatic 293, 3) := by decide +kernel
theorem dX11_passed_43 : decode cX11_passed 43 = .ok (.ireturn, 1) := by decide +kernel
theorem dX11_passes_0 : decode cX11_passes 0 = .ok (.aload_n 0, 1) := by decide +kernel
theorem dX11_passes_1 : decode cX11_passes 1 = .ok (.iload_n 1, 1) := by decide +kernel
theorem dX11_passes_2 : decode cX11_passes 2 = .ok (.invokevirtual 316, 3) := by decide +kernel
theorem dX11_passes_5 : decode cX11_passes 5 = .ok (.ifCond .ne 6, 3) := by decide +kernel
theorem dX11_passes_8 : decode cX11_passes 8 = .ok (.bipush (-3), 2) := by decide +kernel
theorem dX11_passes_10 : decode cX11_passes 10 = .ok (.ireturn, 1) := by decide +kernel
theorem dX11_passes_11 : decode cX11_passes 11 = .ok (.aload_n 0, 1) := by decide +kernel
theorem dX11_passes_12 : decode cX11_passes 12 = .ok (.iload_n 1, 1) := by decide +kernel
theorem dX11_passes_13 : decode cX11_passes 13 = .ok (.invokevirtual 319, 3) := by decide +kernel
theorem dX11_passes_16 : decode cX11_passes 16 = .ok (.aload_n 0, 1) := by decide +kernel
theorem dX11_passes_17 : decode cX11_passes 17 = .ok (.getfield 83, 3) := by decide +kernel
theorem dX11_passes_20 : decode cX11_passes 20 = .ok (.invokevirtual 155, 3) := by decide +kernel
theorem dX11_passes_23 : decode cX11_passes 23 = .ok (.invokestatic 326, 3) := by decide +kernel
theorem dX11_passes_26 : decode cX11_passes 26 = .ok (.ifCond .eq 18, 3) := by decide +kernel
theorem dX11_passes_44 : decode cX11_passes 44 = .ok (.iconst 0, 1) := by decide +kernel
theorem dX11_passes_45 : decode cX11_passes 45 = .ok (.ireturn, 1) := by decide +kernel
theorem dX11_perform_0 : decode cX11_perform 0 = .ok (.aload_n 0, 1) := by decide +kernel
theorem dX11_perform_1 : decode cX11_perform 1 = .ok (.iload_n 1, 1) := by decide +kernel
theorem dX11_perform_2 : decode cX11_perform 2 = .ok (.invokevirtual 223, 3) := by decide +kernel
theorem dX11_perform_5 : decode cX11_perform 5 = .ok (.ifCond .ne 6, 3) := by decide +kernel
theorem dX11_perform_8 : decode cX11_perform 8 = .ok (.bipush (-2), 2) := by decide +kernel
theorem dX11_perform_10 : decode cX11_perform 10 = .ok (.ireturn, 1) := by decide +kernel
theorem dX11_perform_11 : decode cX11_perform 11 = .ok (.aload_n 0, 1) := by decide +kernel
theorem dX11_perform_12 : decode cX11_perform 12 = .ok (.getfield 32, 3) := by decide +kernel
theorem dX11_perform_15 : decode cX11_perform 15 = .ok (.iload_n 1, 1) := by decide +kernel
theorem dX11_perform_16 : decode cX11_perform 16 = .ok (.aaload, 1) := by decide +kernel
theorem dX11_perform_17 : decode cX11_perform 17 = .ok (.invokevirtual 226, 3) := by decide +kernel
theorem dX11_perform_20 : decode cX11_perform 20 = .ok (.ifCond .eq 6, 3) := by decide +kernel
theorem dX11_perform_23 : decode cX11_perform 23 = .ok (.bipush (-6), 2) := by decide +kernel
theorem dX11_perform_25 : decode cX11_perform 25 = .ok (.ireturn, 1) := by decide +kernel
theorem dX11_person_0 : decode cX11_person 0 = .ok (.aload_n 0, 1) := by decide +kernel
theorem dX11_person_1 : decode cX11_person 1 = .ok (.iload_n 1, 1) := by decide +kernel
theorem dX11_person_2 : decode cX11_person 2 = .ok (.invokevirtual 122, 3) := by decide +kernel
theorem dX11_person_5 : decode cX11_person 5 = .ok (.ifCond .ne 6, 3) := by decide +kernel
theorem dX11_person_8 : decode cX11_person 8 = .ok (.bipush (-2), 2) := by decide +kernel
theorem dX11_person_10 : decode cX11_person 10 = .ok (.ireturn, 1) := by decide +kernel
theorem dX11_pieces_0 : decode cX11_pieces 0 = .ok (.aload_n 0, 1) := by decide +kernel
theorem dX11_pieces_1 : decode cX11_pieces 1 = .ok (.iload_n 1, 1) := by decide +kernel
theorem dX11_pieces_2 : decode cX11_pieces 2 = .ok (.invokevirtual 257, 3) := by decide +kernel
theorem dX11_pieces_5 : decode cX11_pieces 5 = .ok (.ifCond .ne 6, 3) := by decide +kernel
theorem dX11_pieces_8 : decode cX11_pieces 8 = .ok (.bipush (-3), 2) := by decide +kernel
theorem dX11_pieces_10 : decode cX11_pieces 10 = .ok (.ireturn, 1) := by decide +kernel
theorem dX11_pieces_11 : decode cX11_pieces 11 = .ok (.aload_n 0, 1) := by decide +kernel
theorem dX11_pieces_12 : decode cX11_pieces 12 = .ok (.invokevirtual 260, 3) := by decide +kernel
theorem dX11_pieces_15 : decode cX11_pieces 15 = .ok (.aload_n 0, 1) := by decide +kernel
theorem dX11_pieces_16 : decode cX11_pieces 16 = .ok (.getfield 56, 3) := by decide +kernel
theorem dX11_pieces_19 : decode cX11_pieces 19 = .ok (.iload_n 1, 1) := by decide +kernel
theorem dX11_pieces_20 : decode cX11_pieces 20 = .ok (.iconst 0, 1) := by decide +kernel
theorem dX11_pieces_21 : decode cX11_pieces 21 = .ok (.invokevirtual 286, 3) := by decide +kernel
theorem dX11_pieces_24 : decode cX11_pieces 24 = .ok (.ireturn, 1) := by decide +kernel
theorem dX11_probe_0 : decode cX11_probe 0 = .ok (.aload_n 0, 1) := by decide +kernel
theorem dX11_probe_1 : decode cX11_probe 1 = .ok (.iload_n 1, 1) := by decide +kernel
theorem dX11_probe_2 : decode cX11_probe 2 = .ok (.iload_n 2, 1) := by decide +kernel
theorem dX11_probe_3 : decode cX11_probe 3 = .ok (.invokevirtual 332, 3) := by decide +kernel
theorem dX11_probe_6 : decode cX11_probe 6 = .ok (.istore_n 3, 1) := by decide +kernel
theorem dX11_probe_7 : decode cX11_probe 7 = .ok (.iload_n 3, 1) := by decide +kernel
theorem dX11_probe_8 : decode cX11_probe 8 = .ok (.ifCond .eq 5, 3) := by decide +kernel
theorem dX11_probe_11 : decode cX11_probe 11 = .ok (.iload_n 3, 1) := by decide +kernel
theorem dX11_probe_12 : decode cX11_probe 12 = .ok (.ireturn, 1) := by decide +kernel
theorem dX11_putOnTape_0 : decode cX11_putOnTape 0 = .ok (.bipush 24, 2) := by decide +kernel
theorem dX11_putOnTape_2 : decode cX11_putOnTape 2 = .ok (.istore_n 2, 1) := by decide +kernel
theorem dX11_putOnTape_3 : decode cX11_putOnTape 3 = .ok (.iload_n 2, 1) := by decide +kernel
theorem dX11_putOnTape_4 : decode cX11_putOnTape 4 = .ok (.ifCond .lt 42, 3) := by decide +kernel
theorem dX11_putOnTape_7 : decode cX11_putOnTape 7 = .ok (.aload_n 0, 1) := by decide +kernel
theorem dX11_putOnTape_8 : decode cX11_putOnTape 8 = .ok (.getfield 13, 3) := by decide +kernel
theorem dX11_putOnTape_11 : decode cX11_putOnTape 11 = .ok (.sipush 900, 3) := by decide +kernel
theorem dX11_putOnTape_14 : decode cX11_putOnTape 14 = .ok (.if_icmp .ge 32, 3) := by decide +kernel
theorem dX11_putOnTape_17 : decode cX11_putOnTape 17 = .ok (.aload_n 0, 1) := by decide +kernel
theorem dX11_putOnTape_18 : decode cX11_putOnTape 18 = .ok (.getfield 9, 3) := by decide +kernel
theorem dX11_putOnTape_21 : decode cX11_putOnTape 21 = .ok (.aload_n 0, 1) := by decide +kernel
theorem dX11_putOnTape_22 : decode cX11_putOnTape 22 = .ok (.getfield 13, 3) := by decide +kernel
theorem dX11_putOnTape_25 : decode cX11_putOnTape 25 = .ok (.iload_n 1, 1) := by decide +kernel
theorem dX11_putOnTape_26 : decode cX11_putOnTape 26 = .ok (.iload_n 2, 1) := by decide +kernel
theorem dX11_putOnTape_27 : decode cX11_putOnTape 27 = .ok (.iushr, 1) := by decide +kernel
theorem dX11_putOnTape_28 : decode cX11_putOnTape 28 = .ok (.i2b, 1) := by decide +kernel
theorem dX11_putOnTape_29 : decode cX11_putOnTape 29 = .ok (.bastore, 1) := by decide +kernel
theorem dX11_putOnTape_30 : decode cX11_putOnTape 30 = .ok (.aload_n 0, 1) := by decide +kernel
theorem dX11_putOnTape_31 : decode cX11_putOnTape 31 = .ok (.dup, 1) := by decide +kernel
theorem dX11_putOnTape_32 : decode cX11_putOnTape 32 = .ok (.getfield 13, 3) := by decide +kernel
theorem dX11_putOnTape_35 : decode cX11_putOnTape 35 = .ok (.iconst 1, 1) := by decide +kernel
theorem dX11_putOnTape_36 : decode cX11_putOnTape 36 = .ok (.iadd, 1) := by decide +kernel
theorem dX11_putOnTape_37 : decode cX11_putOnTape 37 = .ok (.putfield 13, 3) := by decide +kernel
theorem dX11_putOnTape_40 : decode cX11_putOnTape 40 = .ok (.iinc 2 (-8), 3) := by decide +kernel
theorem dX11_putOnTape_43 : decode cX11_putOnTape 43 = .ok (.goto (-40), 3) := by decide +kernel
theorem dX11_putOnTape_46 : decode cX11_putOnTape 46 = .ok (.return_, 1) := by decide +kernel
theorem dX11_quorum_0 : decode cX11_quorum 0 = .ok (.aload_n 0, 1) := by decide +kernel
theorem dX11_quorum_1 : decode cX11_quorum 1 = .ok (.invokevirtual 260, 3) := by decide +kernel
theorem dX11_quorum_4 : decode cX11_quorum 4 = .ok (.aload_n 0, 1) := by decide +kernel
theorem dX11_quorum_5 : decode cX11_quorum 5 = .ok (.getfield 56, 3) := by decide +kernel
theorem dX11_quorum_8 : decode cX11_quorum 8 = .ok (.invokevirtual 277, 3) := by decide +kernel
theorem dX11_quorum_11 : decode cX11_quorum 11 = .ok (.aload_n 0, 1) := by decide +kernel
theorem dX11_quorum_12 : decode cX11_quorum 12 = .ok (.getfield 83, 3) := by decide +kernel
theorem dX11_quorum_15 : decode cX11_quorum 15 = .ok (.invokevirtual 155, 3) := by decide +kernel
theorem dX11_quorum_18 : decode cX11_quorum 18 = .ok (.istore_n 1, 1) := by decide +kernel
theorem dX11_quorum_19 : decode cX11_quorum 19 = .ok (.iconst 0, 1) := by decide +kernel
theorem dX11_quorum_20 : decode cX11_quorum 20 = .ok (.istore_n 2, 1) := by decide +kernel
theorem dX11_quorum_21 : decode cX11_quorum 21 = .ok (.iconst 1, 1) := by decide +kernel
theorem dX11_quorum_22 : decode cX11_quorum 22 = .ok (.istore_n 3, 1) := by decide +kernel
theorem dX11_quorum_23 : decode cX11_quorum 23 = .ok (.iload_n 3, 1) := by decide +kernel
theorem dX11_quorum_24 : decode cX11_quorum 24 = .ok (.iload_n 1, 1) := by decide +kernel
theorem dX11_quorum_25 : decode cX11_quorum 25 = .ok (.if_icmp .gt 42, 3) := by decide +kernel
theorem dX11_quorum_67 : decode cX11_quorum 67 = .ok (.iload_n 2, 1) := by decide +kernel
theorem dX11_quorum_68 : decode cX11_quorum 68 = .ok (.ireturn, 1) := by decide +kernel
theorem dX11_refusedGuess_0 : decode cX11_refusedGuess 0 = .ok (.aload_n 0, 1) := by decide +kernel
theorem dX11_refusedGuess_1 : decode cX11_refusedGuess 1 = .ok (.iload_n 1, 1) := by decide +kernel
theorem dX11_refusedGuess_2 : decode cX11_refusedGuess 2 = .ok (.invokevirtual 122, 3) := by decide +kernel
theorem dX11_refusedGuess_5 : decode cX11_refusedGuess 5 = .ok (.ifCond .ne 6, 3) := by decide +kernel
theorem dX11_refusedGuess_8 : decode cX11_refusedGuess 8 = .ok (.bipush (-2), 2) := by decide +kernel
theorem dX11_refusedGuess_10 : decode cX11_refusedGuess 10 = .ok (.ireturn, 1) := by decide +kernel
theorem dX11_remember_0 : decode cX11_remember 0 = .ok (.aload_n 0, 1) := by decide +kernel
theorem dX11_remember_1 : decode cX11_remember 1 = .ok (.getfield 96, 3) := by decide +kernel
theorem dX11_remember_4 : decode cX11_remember 4 = .ok (.aload_n 0, 1) := by decide +kernel
theorem dX11_remember_5 : decode cX11_remember 5 = .ok (.getfield 87, 3) := by decide +kernel
theorem dX11_remember_8 : decode cX11_remember 8 = .ok (.invokevirtual 213, 3) := by decide +kernel
theorem dX11_remember_11 : decode cX11_remember 11 = .ok (.aload_n 0, 1) := by decide +kernel
theorem dX11_remember_12 : decode cX11_remember 12 = .ok (.dup, 1) := by decide +kernel
theorem dX11_remember_13 : decode cX11_remember 13 = .ok (.getfield 74, 3) := by decide +kernel
theorem dX11_remember_16 : decode cX11_remember 16 = .ok (.iconst 1, 1) := by decide +kernel
theorem dX11_remember_17 : decode cX11_remember 17 = .ok (.iadd, 1) := by decide +kernel
theorem dX11_remember_18 : decode cX11_remember 18 = .ok (.putfield 74, 3) := by decide +kernel
theorem dX11_remember_21 : decode cX11_remember 21 = .ok (.return_, 1) := by decide +kernel
theorem dX11_reserve_0 : decode cX11_reserve 0 = .ok (.aload_n 0, 1) := by decide +kernel
theorem dX11_reserve_1 : decode cX11_reserve 1 = .ok (.iload_n 1, 1) := by decide +kernel
theorem dX11_reserve_2 : decode cX11_reserve 2 = .ok (.invokevirtual 257, 3) := by decide +kernel
theorem dX11_reserve_5 : decode cX11_reserve 5 = .ok (.ifCond .ne 6, 3) := by decide +kernel
theorem dX11_reserve_8 : decode cX11_reserve 8 = .ok (.bipush (-3), 2) := by decide +kernel
theorem dX11_reserve_10 : decode cX11_reserve 10 = .ok (.ireturn, 1) := by decide +kernel
theorem dX11_reserve_11 : decode cX11_reserve 11 = .ok (.aload_n 0, 1) := by decide +kernel
theorem dX11_reserve_12 : decode cX11_reserve 12 = .ok (.invokevirtual 260, 3) := by decide +kernel
theorem dX11_reserve_15 : decode cX11_reserve 15 = .ok (.aload_n 0, 1) := by decide +kernel
theorem dX11_reserve_16 : decode cX11_reserve 16 = .ok (.getfield 56, 3) := by decide +kernel
theorem dX11_reserve_19 : decode cX11_reserve 19 = .ok (.invokevirtual 277, 3) := by decide +kernel
theorem dX11_reserve_22 : decode cX11_reserve 22 = .ok (.aload_n 0, 1) := by decide +kernel
theorem dX11_reserve_23 : decode cX11_reserve 23 = .ok (.getfield 83, 3) := by decide +kernel
theorem dX11_reserve_26 : decode cX11_reserve 26 = .ok (.invokevirtual 155, 3) := by decide +kernel
theorem dX11_reserve_29 : decode cX11_reserve 29 = .ok (.iload_n 1, 1) := by decide +kernel
theorem dX11_reserve_30 : decode cX11_reserve 30 = .ok (.iconst (-1), 1) := by decide +kernel
theorem dX11_reserve_31 : decode cX11_reserve 31 = .ok (.ixor, 1) := by decide +kernel
theorem dX11_reserve_32 : decode cX11_reserve 32 = .ok (.iand, 1) := by decide +kernel
theorem dX11_reserve_33 : decode cX11_reserve 33 = .ok (.istore_n 2, 1) := by decide +kernel
theorem dX11_reserve_34 : decode cX11_reserve 34 = .ok (.iconst (-1), 1) := by decide +kernel
theorem dX11_reserve_35 : decode cX11_reserve 35 = .ok (.istore_n 3, 1) := by decide +kernel
theorem dX11_reserve_36 : decode cX11_reserve 36 = .ok (.ldc2_w 351, 3) := by decide +kernel
theorem dX11_reserve_39 : decode cX11_reserve 39 = .ok (.aload_n 0, 1) := by decide +kernel
theorem dX11_reserve_40 : decode cX11_reserve 40 = .ok (.getfield 56, 3) := by decide +kernel
theorem dX11_reserve_43 : decode cX11_reserve 43 = .ok (.iload_n 1, 1) := by decide +kernel
theorem dX11_reserve_44 : decode cX11_reserve 44 = .ok (.aload_n 0, 1) := by decide +kernel
theorem dX11_reserve_45 : decode cX11_reserve 45 = .ok (.getfield 83, 3) := by decide +kernel
theorem dX11_reserve_48 : decode cX11_reserve 48 = .ok (.getfield 126, 3) := by decide +kernel
theorem dX11_reserve_51 : decode cX11_reserve 51 = .ok (.getfield 146, 3) := by decide +kernel
theorem dX11_reserve_54 : decode cX11_reserve 54 = .ok (.invokevirtual 347, 3) := by decide +kernel
theorem dX11_reserve_57 : decode cX11_reserve 57 = .ok (.lmul, 1) := by decide +kernel
theorem dX11_reserve_58 : decode cX11_reserve 58 = .ok (.lstore 4, 2) := by decide +kernel
theorem dX11_reserve_60 : decode cX11_reserve 60 = .ok (.iconst 0, 1) := by decide +kernel
theorem dX11_reserve_61 : decode cX11_reserve 61 = .ok (.istore 6, 2) := by decide +kernel
theorem dX11_reserve_63 : decode cX11_reserve 63 = .ok (.iload 6, 2) := by decide +kernel
theorem dX11_reserve_65 : decode cX11_reserve 65 = .ok (.aload_n 0, 1) := by decide +kernel
theorem dX11_reserve_66 : decode cX11_reserve 66 = .ok (.getfield 83, 3) := by decide +kernel
theorem dX11_reserve_69 : decode cX11_reserve 69 = .ok (.getfield 126, 3) := by decide +kernel
theorem dX11_reserve_72 : decode cX11_reserve 72 = .ok (.getfield 159, 3) := by decide +kernel
theorem dX11_reserve_75 : decode cX11_reserve 75 = .ok (.if_icmp .ge 59, 3) := by decide +kernel
theorem dX11_reserve_134 : decode cX11_reserve 134 = .ok (.iload_n 3, 1) := by decide +kernel
theorem dX11_reserve_135 : decode cX11_reserve 135 = .ok (.ireturn, 1) := by decide +kernel
theorem dX11_restore_0 : decode cX11_restore 0 = .ok (.iload_n 1, 1) := by decide +kernel
theorem dX11_restore_1 : decode cX11_restore 1 = .ok (.ifCond .lt 8, 3) := by decide +kernel
theorem dX11_restore_4 : decode cX11_restore 4 = .ok (.iload_n 1, 1) := by decide +kernel
theorem dX11_restore_5 : decode cX11_restore 5 = .ok (.iconst 2, 1) := by decide +kernel
theorem dX11_restore_6 : decode cX11_restore 6 = .ok (.if_icmp .lt 6, 3) := by decide +kernel
theorem dX11_restore_9 : decode cX11_restore 9 = .ok (.bipush (-2), 2) := by decide +kernel
theorem dX11_restore_11 : decode cX11_restore 11 = .ok (.ireturn, 1) := by decide +kernel
theorem dX11_restore_12 : decode cX11_restore 12 = .ok (.aload_n 0, 1) := by decide +kernel
theorem dX11_restore_13 : decode cX11_restore 13 = .ok (.getfield 42, 3) := by decide +kernel
theorem dX11_restore_16 : decode cX11_restore 16 = .ok (.iload_n 1, 1) := by decide +kernel
theorem dX11_restore_17 : decode cX11_restore 17 = .ok (.baload, 1) := by decide +kernel
theorem dX11_restore_18 : decode cX11_restore 18 = .ok (.ifCond .ne 6, 3) := by decide +kernel
theorem dX11_restore_21 : decode cX11_restore 21 = .ok (.bipush (-5), 2) := by decide +kernel
theorem dX11_restore_23 : decode cX11_restore 23 = .ok (.ireturn, 1) := by decide +kernel
theorem dX11_sayers_0 : decode cX11_sayers 0 = .ok (.aload_n 0, 1) := by decide +kernel
theorem dX11_sayers_1 : decode cX11_sayers 1 = .ok (.getfield 83, 3) := by decide +kernel
theorem dX11_sayers_4 : decode cX11_sayers 4 = .ok (.invokevirtual 155, 3) := by decide +kernel
theorem dX11_sayers_7 : decode cX11_sayers 7 = .ok (.istore_n 2, 1) := by decide +kernel
theorem dX11_sayers_8 : decode cX11_sayers 8 = .ok (.iconst 0, 1) := by decide +kernel
theorem dX11_sayers_9 : decode cX11_sayers 9 = .ok (.istore_n 3, 1) := by decide +kernel
theorem dX11_sayers_10 : decode cX11_sayers 10 = .ok (.iconst 0, 1) := by decide +kernel
theorem dX11_sayers_11 : decode cX11_sayers 11 = .ok (.istore 4, 2) := by decide +kernel
theorem dX11_sayers_13 : decode cX11_sayers 13 = .ok (.iload 4, 2) := by decide +kernel
theorem dX11_sayers_15 : decode cX11_sayers 15 = .ok (.aload_n 0, 1) := by decide +kernel
theorem dX11_sayers_16 : decode cX11_sayers 16 = .ok (.getfield 83, 3) := by decide +kernel
theorem dX11_sayers_19 : decode cX11_sayers 19 = .ok (.getfield 126, 3) := by decide +kernel
theorem dX11_sayers_22 : decode cX11_sayers 22 = .ok (.getfield 159, 3) := by decide +kernel
theorem dX11_sayers_25 : decode cX11_sayers 25 = .ok (.if_icmp .ge 43, 3) := by decide +kernel
theorem dX11_sayers_68 : decode cX11_sayers 68 = .ok (.iload_n 3, 1) := by decide +kernel
theorem dX11_sayers_69 : decode cX11_sayers 69 = .ok (.ireturn, 1) := by decide +kernel
theorem dX11_send_0 : decode cX11_send 0 = .ok (.aload_n 0, 1) := by decide +kernel
theorem dX11_send_1 : decode cX11_send 1 = .ok (.bipush 100, 2) := by decide +kernel
theorem dX11_send_3 : decode cX11_send 3 = .ok (.iload_n 1, 1) := by decide +kernel
theorem dX11_send_4 : decode cX11_send 4 = .ok (.invokevirtual 190, 3) := by decide +kernel
theorem dX11_send_7 : decode cX11_send 7 = .ok (.ireturn, 1) := by decide +kernel
theorem dX11_sendOrCall_0 : decode cX11_sendOrCall 0 = .ok (.aload_n 0, 1) := by decide +kernel
theorem dX11_sendOrCall_1 : decode cX11_sendOrCall 1 = .ok (.iload_n 2, 1) := by decide +kernel
theorem dX11_sendOrCall_2 : decode cX11_sendOrCall 2 = .ok (.invokevirtual 122, 3) := by decide +kernel
theorem dX11_sendOrCall_5 : decode cX11_sendOrCall 5 = .ok (.ifCond .ne 6, 3) := by decide +kernel
theorem dX11_sendOrCall_8 : decode cX11_sendOrCall 8 = .ok (.bipush (-11), 2) := by decide +kernel
theorem dX11_sendOrCall_10 : decode cX11_sendOrCall 10 = .ok (.ireturn, 1) := by decide +kernel
theorem dX11_sits_0 : decode cX11_sits 0 = .ok (.aload_n 0, 1) := by decide +kernel
theorem dX11_sits_1 : decode cX11_sits 1 = .ok (.iload_n 1, 1) := by decide +kernel
theorem dX11_sits_2 : decode cX11_sits 2 = .ok (.invokevirtual 257, 3) := by decide +kernel
theorem dX11_sits_5 : decode cX11_sits 5 = .ok (.ifCond .ne 6, 3) := by decide +kernel
theorem dX11_sits_8 : decode cX11_sits 8 = .ok (.bipush (-3), 2) := by decide +kernel
theorem dX11_sits_10 : decode cX11_sits 10 = .ok (.ireturn, 1) := by decide +kernel
theorem dX11_sits_11 : decode cX11_sits 11 = .ok (.aload_n 0, 1) := by decide +kernel
theorem dX11_sits_12 : decode cX11_sits 12 = .ok (.invokevirtual 260, 3) := by decide +kernel
theorem dX11_sits_15 : decode cX11_sits 15 = .ok (.aload_n 0, 1) := by decide +kernel
theorem dX11_sits_16 : decode cX11_sits 16 = .ok (.getfield 56, 3) := by decide +kernel
theorem dX11_sits_19 : decode cX11_sits 19 = .ok (.iload_n 1, 1) := by decide +kernel
theorem dX11_sits_20 : decode cX11_sits 20 = .ok (.iconst 0, 1) := by decide +kernel
theorem dX11_sits_21 : decode cX11_sits 21 = .ok (.invokevirtual 247, 3) := by decide +kernel
theorem dX11_sits_24 : decode cX11_sits 24 = .ok (.ifCond .eq 7, 3) := by decide +kernel
theorem dX11_sits_27 : decode cX11_sits 27 = .ok (.iconst 1, 1) := by decide +kernel
theorem dX11_sits_28 : decode cX11_sits 28 = .ok (.goto 4, 3) := by decide +kernel
theorem dX11_sits_32 : decode cX11_sits 32 = .ok (.ireturn, 1) := by decide +kernel
theorem dX11_talk_0 : decode cX11_talk 0 = .ok (.aload_n 0, 1) := by decide +kernel
theorem dX11_talk_1 : decode cX11_talk 1 = .ok (.iload_n 1, 1) := by decide +kernel
theorem dX11_talk_2 : decode cX11_talk 2 = .ok (.iload_n 2, 1) := by decide +kernel
theorem dX11_talk_3 : decode cX11_talk 3 = .ok (.invokevirtual 180, 3) := by decide +kernel
theorem dX11_talk_6 : decode cX11_talk 6 = .ok (.ifCond .ne 6, 3) := by decide +kernel
theorem dX11_talk_9 : decode cX11_talk 9 = .ok (.bipush (-11), 2) := by decide +kernel
theorem dX11_talk_11 : decode cX11_talk 11 = .ok (.ireturn, 1) := by decide +kernel
theorem dX11_talkBy_0 : decode cX11_talkBy 0 = .ok (.aload_n 0, 1) := by decide +kernel
theorem dX11_talkBy_1 : decode cX11_talkBy 1 = .ok (.iload_n 1, 1) := by decide +kernel
theorem dX11_talkBy_2 : decode cX11_talkBy 2 = .ok (.iload_n 2, 1) := by decide +kernel
theorem dX11_talkBy_3 : decode cX11_talkBy 3 = .ok (.invokevirtual 180, 3) := by decide +kernel
theorem dX11_talkBy_6 : decode cX11_talkBy 6 = .ok (.ifCond .ne 6, 3) := by decide +kernel
theorem dX11_talkBy_9 : decode cX11_talkBy 9 = .ok (.bipush (-2), 2) := by decide +kernel
theorem dX11_talkBy_11 : decode cX11_talkBy 11 = .ok (.ireturn, 1) := by decide +kernel
theorem dX11_talks_0 : decode cX11_talks 0 = .ok (.aload_n 0, 1) := by decide +kernel
theorem dX11_talks_1 : decode cX11_talks 1 = .ok (.iload_n 1, 1) := by decide +kernel
theorem dX11_talks_2 : decode cX11_talks 2 = .ok (.iload_n 2, 1) := by decide +kernel
theorem dX11_talks_3 : decode cX11_talks 3 = .ok (.invokevirtual 180, 3) := by decide +kernel
theorem dX11_talks_6 : decode cX11_talks 6 = .ok (.ifCond .ne 6, 3) := by decide +kernel
theorem dX11_talks_9 : decode cX11_talks 9 = .ok (.bipush (-2), 2) := by decide +kernel
theorem dX11_talks_11 : decode cX11_talks 11 = .ok (.ireturn, 1) := by decide +kernel
theorem dX11_town_0 : decode cX11_town 0 = .ok (.iload_n 1, 1) := by decide +kernel
theorem dX11_town_1 : decode cX11_town 1 = .ok (.ifCond .lt 10, 3) := by decide +kernel
theorem dX11_town_4 : decode cX11_town 4 = .ok (.iload_n 1, 1) := by decide +kernel
theorem dX11_town_5 : decode cX11_town 5 = .ok (.sipush 999, 3) := by decide +kernel
theorem dX11_town_8 : decode cX11_town 8 = .ok (.if_icmp .le 6, 3) := by decide +kernel
theorem dX11_town_11 : decode cX11_town 11 = .ok (.bipush (-3), 2) := by decide +kernel
theorem dX11_town_13 : decode cX11_town 13 = .ok (.ireturn, 1) := by decide +kernel
theorem dX11_town_14 : decode cX11_town 14 = .ok (.aload_n 0, 1) := by decide +kernel
theorem dX11_town_15 : decode cX11_town 15 = .ok (.getfield 83, 3) := by decide +kernel
theorem dX11_town_18 : decode cX11_town 18 = .ok (.aload_n 0, 1) := by decide +kernel
