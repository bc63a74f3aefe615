def wk_306333e60 (cy : Nat → ClassId) (a0 a1 : Nat) (a2 a3 : Int32) (a4 a5 a6 : Value) (a7 : Nat) (a8 : Nat → Int32) : va_W := [(a0, .inr (8, [.ref a1, .int a2, .int a3, a4, a5, a6])), (a7, .inl (cy 0, 900, .inl a8))]
def wk_fffe06ee4 (cy : Nat → ClassId) (a0 : Nat) (a1 : Option Nat) (a2 a3 : Int32) (a4 a5 a6 a7 : Nat) (a8 : Nat → Int32) (a9 : Nat) (a10 : Nat → Int32) (a11 : Nat) (a12 : Nat → Int32) (a13 : Nat) (a14 : Nat → Int32) : va_W := [(a0, .inr (8, [(va_rf a1), .int a2, .int a3, .ref a4, .ref a5, .ref a6])), (a7, .inl (cy 1, 901, .inl a8)), (a9, .inl (cy 1, 901, .inl a10)), (a11, .inl (cy 1, 901, .inl a12)), (a13, .inl (cy 0, 900, .inl a14))]
def wk_9a29d5dcb (cy : Nat → ClassId) (a0 a1 : Nat) (a2 a3 : Int32) (a4 a5 a6 a7 : Nat) (a8 : Nat → Int32) (a9 : Nat) (a10 : Nat → Int32) (a11 : Nat) (a12 : Nat → Int32) (a13 : Nat) (a14 : Nat → Int32) : va_W := [(a0, .inr (8, [.ref a1, .int a2, .int a3, .ref a4, .ref a5, .ref a6])), (a7, .inl (cy 1, 901, .inl a8)), (a9, .inl (cy 1, 901, .inl a10)), (a11, .inl (cy 1, 901, .inl a12)), (a13, .inl (cy 0, 900, .inl a14))]
def wk_d91cb5b2f (cy : Nat → ClassId) (a0 : Nat) (a1 : Nat → Int32) (a2 : Nat) (a3 : Nat → Int32) (a4 : Nat) (a5 : Nat → Int32) : va_W := [(a0, .inl (cy 1, 901, .inl a1)), (a2, .inl (cy 1, 901, .inl a3)), (a4, .inl (cy 1, 901, .inl a5))]
def wk_6156c93d0 (cy : Nat → ClassId) (a0 : Nat) (a1 : Nat → Int32) (a2 : Nat) (a3 : Nat → Int32) (a4 : Nat) (a5 : Nat → Int32) (a6 a7 : Nat) (a8 a9 : Int32) (a10 a11 a12 a13 : Nat) (a14 : Nat → Int32) : va_W := [(a0, .inl (cy 1, 901, .inl a1)), (a2, .inl (cy 1, 901, .inl a3)), (a4, .inl (cy 1, 901, .inl a5)), (a6, .inr (8, [.ref a7, .int a8, .int a9, .ref a10, .ref a11, .ref a12])), (a13, .inl (cy 0, 900, .inl a14))]
def wk_060e1226c (cy : Nat → ClassId) (a0 : Nat) (a1 a2 a3 a4 : Int32) (a5 a6 a7 a8 a9 a10 : Nat) (a11 : Nat → Int32) (a12 : Nat) (a13 : Nat → Int32) (a14 : Nat) (a15 : Nat → Int32) (a16 : Nat) (a17 : Nat → Int32) (a18 : Nat) (a19 : Nat → Int32) : va_W := [(a0, .inr (3, [.int a1, .int a2, .int a3, .int a4, .null, .null, .null, .ref a5, .ref a6, .ref a7, .ref a8, .ref a9])), (a10, .inl (cy 1, 10, .inl a11)), (a12, .inl (cy 1, 10, .inl a13)), (a14, .inl (cy 1, 10, .inl a15)), (a16, .inl (cy 1, 10, .inl a17)), (a18, .inl (cy 1, 10, .inl a19))]
def wk_8964b4ae4 (cy : Nat → ClassId) (a0 a1 : Nat) (a2 a3 a4 a5 : Int32) (a6 a7 : Value) (a8 a9 : Int32) (a10 : Nat) (a11 : Value) (a12 a13 : Int32) (a14 a15 : Nat) (a16 : Value) (a17 : Nat) (a18 : Nat → Int32) (a19 : Nat) (a20 : Nat → Int32) : va_W := [(a0, .inr (5, [.ref a1, .int a2, .int a3, .int a4, .int a5, a6, a7, .int a8, .int a9])), (a10, .inr (8, [a11, .int a12, .int a13, .ref a14, .ref a15, a16])), (a17, .inl (cy 1, 901, .inl a18)), (a19, .inl (cy 1, 901, .inl a20))]
def wk_5bbb9e4d3 (cy : Nat → ClassId) (a0 a1 : Nat) (a2 a3 a4 a5 : Int32) (a6 a7 : Value) (a8 a9 : Int32) (a10 : Nat) (a11 : Value) (a12 a13 : Int32) (a14 : Value) (a15 : Nat) (a16 : Value) (a17 : Nat) (a18 : Nat → Int32) : va_W := [(a0, .inr (5, [.ref a1, .int a2, .int a3, .int a4, .int a5, a6, a7, .int a8, .int a9])), (a10, .inr (8, [a11, .int a12, .int a13, a14, .ref a15, a16])), (a17, .inl (cy 1, 901, .inl a18))]
def wk_565e7035b (cy : Nat → ClassId) (a0 : Nat) (a1 : Nat → Int32) (a2 a3 : Nat) (a4 a5 a6 a7 : Int32) (a8 a9 : Value) (a10 a11 : Int32) (a12 : Nat) (a13 : Value) (a14 a15 : Int32) (a16 a17 : Nat) (a18 : Value) (a19 : Nat) (a20 : Nat → Int32) : va_W := [(a0, .inl (cy 1, 901, .inl a1)), (a2, .inr (5, [.ref a3, .int a4, .int a5, .int a6, .int a7, a8, a9, .int a10, .int a11])), (a12, .inr (8, [a13, .int a14, .int a15, .ref a16, .ref a17, a18])), (a19, .inl (cy 1, 901, .inl a20))]
def wk_aa6ee0650 (cy : Nat → ClassId) (a0 a1 : Nat) (a2 a3 a4 a5 : Int32) (a6 a7 : Value) (a8 a9 : Int32) (a10 : Nat) (a11 : Value) (a12 a13 : Int32) (a14 a15 a16 a17 : Nat) (a18 : Nat → Int32) (a19 : Nat) (a20 : Nat → Int32) (a21 : Nat) (a22 : Nat → Int32) : va_W := [(a0, .inr (5, [.ref a1, .int a2, .int a3, .int a4, .int a5, a6, a7, .int a8, .int a9])), (a10, .inr (8, [a11, .int a12, .int a13, .ref a14, .ref a15, .ref a16])), (a17, .inl (cy 1, 901, .inl a18)), (a19, .inl (cy 1, 901, .inl a20)), (a21, .inl (cy 1, 901, .inl a22))]
def wk_5f0ef36a6 (cy : Nat → ClassId) (a0 : Nat) (a1 : Nat → Int32) (a2 : Nat) (a3 : Nat → Int32) : va_W := [(a0, .inl (cy 1, 901, .inl a1)), (a2, .inl (cy 1, 901, .inl a3))]
def wk_1a85a4215 (cy : Nat → ClassId) (a0 : Nat) (a1 : Nat → Int32) (a2 : Nat) (a3 : Nat → Int32) (a4 a5 : Nat) (a6 a7 a8 a9 : Int32) (a10 a11 : Value) (a12 a13 : Int32) (a14 : Nat) (a15 : Value) (a16 a17 : Int32) (a18 a19 a20 a21 : Nat) (a22 : Nat → Int32) : va_W := [(a0, .inl (cy 1, 901, .inl a1)), (a2, .inl (cy 1, 901, .inl a3)), (a4, .inr (5, [.ref a5, .int a6, .int a7, .int a8, .int a9, a10, a11, .int a12, .int a13])), (a14, .inr (8, [a15, .int a16, .int a17, .ref a18, .ref a19, .ref a20])), (a21, .inl (cy 1, 901, .inl a22))]
def wk_84183f5c8 (cy : Nat → ClassId) (a0 : Nat) (a1 : Nat → Int32) (a2 a3 : Nat) (a4 a5 a6 a7 : Int32) (a8 a9 : Value) (a10 a11 : Int32) (a12 : Nat) (a13 : Value) (a14 a15 : Int32) (a16 a17 a18 a19 : Nat) (a20 : Nat → Int32) (a21 : Nat) (a22 : Nat → Int32) : va_W := [(a0, .inl (cy 1, 901, .inl a1)), (a2, .inr (5, [.ref a3, .int a4, .int a5, .int a6, .int a7, a8, a9, .int a10, .int a11])), (a12, .inr (8, [a13, .int a14, .int a15, .ref a16, .ref a17, .ref a18])), (a19, .inl (cy 1, 901, .inl a20)), (a21, .inl (cy 1, 901, .inl a22))]
def wk_cba98532e (cy : Nat → ClassId) (a0 : Nat) (a1 : Value) (a2 a3 a4 a5 : Int32) (a6 : Value) (a7 : Nat) (a8 a9 : Int32) (a10 : Nat) (a11 : Nat → Int32) : va_W := [(a0, .inr (5, [a1, .int a2, .int a3, .int a4, .int a5, a6, .ref a7, .int a8, .int a9])), (a10, .inl (cy 1, 900, .inl a11))]
def wk_a727c0403 (cy : Nat → ClassId) (a0 a1 : Nat) (a2 a3 a4 a5 : Int32) (a6 : Value) (a7 : Nat) (a8 a9 : Int32) (a10 : Nat) (a11 : Value) (a12 a13 : Int32) (a14 a15 a16 a17 : Nat) (a18 : Nat → Int32) (a19 : Nat) (a20 : Nat → Int32) (a21 : Nat) (a22 : Nat → Int32) (a23 : Nat) (a24 : Nat → Int32) : va_W := [(a0, .inr (5, [.ref a1, .int a2, .int a3, .int a4, .int a5, a6, .ref a7, .int a8, .int a9])), (a10, .inr (8, [a11, .int a12, .int a13, .ref a14, .ref a15, .ref a16])), (a17, .inl (cy 1, 901, .inl a18)), (a19, .inl (cy 1, 901, .inl a20)), (a21, .inl (cy 1, 901, .inl a22)), (a23, .inl (cy 1, 900, .inl a24))]
def wk_e8b828d32 (cy : Nat → ClassId) (a0 : Nat) (a1 : Nat → Int32) (a2 : Nat) (a3 : Nat → Int32) (a4 : Nat) (a5 : Nat → Int32) : va_W := [(a0, .inl (cy 1, 901, .inl a1)), (a2, .inl (cy 1, 901, .inl a3)), (a4, .inl (cy 1, 900, .inl a5))]
def wk_770fe8eae (cy : Nat → ClassId) (a0 : Nat) (a1 : Nat → Int32) (a2 : Nat) (a3 : Nat → Int32) (a4 : Nat) (a5 : Nat → Int32) (a6 a7 : Nat) (a8 a9 a10 a11 : Int32) (a12 : Value) (a13 : Nat) (a14 a15 : Int32) (a16 : Nat) (a17 : Value) (a18 a19 : Int32) (a20 a21 a22 a23 : Nat) (a24 : Nat → Int32) : va_W := [(a0, .inl (cy 1, 901, .inl a1)), (a2, .inl (cy 1, 901, .inl a3)), (a4, .inl (cy 1, 900, .inl a5)), (a6, .inr (5, [.ref a7, .int a8, .int a9, .int a10, .int a11, a12, .ref a13, .int a14, .int a15])), (a16, .inr (8, [a17, .int a18, .int a19, .ref a20, .ref a21, .ref a22])), (a23, .inl (cy 1, 901, .inl a24))]
def wk_9325d072e (cy : Nat → ClassId) (a0 : Nat) (a1 : Value) (a2 a3 : Int32) (a4 a5 a6 a7 : Nat) (a8 : Nat → Int32) (a9 : Nat) (a10 : Nat → Int32) (a11 : Nat) (a12 : Nat → Int32) : va_W := [(a0, .inr (8, [a1, .int a2, .int a3, .ref a4, .ref a5, .ref a6])), (a7, .inl (cy 1, 901, .inl a8)), (a9, .inl (cy 1, 901, .inl a10)), (a11, .inl (cy 1, 901, .inl a12))]
def wk_cc81809fb (cy : Nat → ClassId) (a0 : Nat) (a1 : Value) (a2 a3 : Int32) (a4 a5 a6 a7 : Nat) (a8 : Nat → Int32) (a9 : Nat) (a10 : Nat → Int32) (a11 : Nat) (a12 : Nat → Int32) (a13 a14 : Nat) (a15 a16 a17 a18 : Int32) (a19 : Value) (a20 : Nat) (a21 a22 : Int32) (a23 : Nat) (a24 : Nat → Int32) : va_W := [(a0, .inr (8, [a1, .int a2, .int a3, .ref a4, .ref a5, .ref a6])), (a7, .inl (cy 1, 901, .inl a8)), (a9, .inl (cy 1, 901, .inl a10)), (a11, .inl (cy 1, 901, .inl a12)), (a13, .inr (5, [.ref a14, .int a15, .int a16, .int a17, .int a18, a19, .ref a20, .int a21, .int a22])), (a23, .inl (cy 1, 900, .inl a24))]
def wk_97b0566c7 (cy : Nat → ClassId) (a0 : Nat) (a1 : Nat → Int32) (a2 : Nat) (a3 : Nat → Int32) : va_W := [(a0, .inl (cy 1, 901, .inl a1)), (a2, .inl (cy 1, 900, .inl a3))]
def wk_e6664c302 (cy : Nat → ClassId) (a0 : Nat) (a1 : Nat → Int32) (a2 : Nat) (a3 : Nat → Int32) (a4 a5 : Nat) (a6 a7 a8 a9 : Int32) (a10 : Value) (a11 : Nat) (a12 a13 : Int32) (a14 : Nat) (a15 : Value) (a16 a17 : Int32) (a18 a19 a20 a21 : Nat) (a22 : Nat → Int32) (a23 : Nat) (a24 : Nat → Int32) : va_W := [(a0, .inl (cy 1, 901, .inl a1)), (a2, .inl (cy 1, 900, .inl a3)), (a4, .inr (5, [.ref a5, .int a6, .int a7, .int a8, .int a9, a10, .ref a11, .int a12, .int a13])), (a14, .inr (8, [a15, .int a16, .int a17, .ref a18, .ref a19, .ref a20])), (a21, .inl (cy 1, 901, .inl a22)), (a23, .inl (cy 1, 901, .inl a24))]
theorem wm_1_44 : Cond.fieldLink RX8 15 "OppositeHouse$Tokens" "length" "I" ∈ WG := wg_t1 (List.mem_of_getElem? (i := 44) rfl) rfl
theorem wm_1_43 : Cond.fieldLink RX8 9 "OppositeHouse$Tokens" "text" "[B" ∈ WG := wg_t1 (List.mem_of_getElem? (i := 43) rfl) rfl
theorem wm_2_177 : Cond.methodLink RX8 48 yX8_isLetter ∈ WG := wg_t2 (List.mem_of_getElem? (i := 177) rfl) rfl
theorem wm_2_180 : Cond.code yX8_isLetter cX8_isLetter 2 (some .boolean) ∈ WG := wg_t2 (List.mem_of_getElem? (i := 180) rfl) rfl
theorem wm_1_3 : Cond.initialized RX8 ∈ WG := wg_t1 (List.mem_of_getElem? (i := 3) rfl) rfl
theorem wm_2_179 : Cond.instanceMethod yX8_isLetter ∈ WG := wg_t2 (List.mem_of_getElem? (i := 179) rfl) rfl
theorem wp_1_2 : Cond.selects RX8 yX8_isLetter yX8_isLetter ∈ WG := wg_p (q := (yX8_isLetter, 6)) (wg_p1 (List.mem_of_getElem? (i := 2) rfl)) rfl
theorem wm_2_181 : Cond.methodLink RX8 52 yX8_isDigit ∈ WG := wg_t2 (List.mem_of_getElem? (i := 181) rfl) rfl
theorem wm_2_184 : Cond.code yX8_isDigit cX8_isDigit 2 (some .boolean) ∈ WG := wg_t2 (List.mem_of_getElem? (i := 184) rfl) rfl
theorem wm_2_183 : Cond.instanceMethod yX8_isDigit ∈ WG := wg_t2 (List.mem_of_getElem? (i := 183) rfl) rfl
theorem wp_1_3 : Cond.selects RX8 yX8_isDigit yX8_isDigit ∈ WG := wg_p (q := (yX8_isDigit, 6)) (wg_p1 (List.mem_of_getElem? (i := 3) rfl)) rfl
theorem wm_2_204 : Cond.methodLink RX8 70 yJ0_charAt_5068e ∈ WG := wg_t2 (List.mem_of_getElem? (i := 204) rfl) rfl
theorem wm_2_194 : Cond.methodLink RX8 67 yJ0_length_8abf5 ∈ WG := wg_t2 (List.mem_of_getElem? (i := 194) rfl) rfl
theorem wm_3_2 : Cond.methodLink RX8 74 yX8_isWritten ∈ WG := wg_t3 (List.mem_of_getElem? (i := 2) rfl) rfl
theorem wm_3_5 : Cond.code yX8_isWritten cX8_isWritten 5 (some .boolean) ∈ WG := wg_t3 (List.mem_of_getElem? (i := 5) rfl) rfl
theorem wm_3_4 : Cond.instanceMethod yX8_isWritten ∈ WG := wg_t3 (List.mem_of_getElem? (i := 4) rfl) rfl
theorem wp_1_6 : Cond.selects RX8 yX8_isWritten yX8_isWritten ∈ WG := wg_p (q := (yX8_isWritten, 6)) (wg_p1 (List.mem_of_getElem? (i := 6) rfl)) rfl
theorem wm_3_7 : Cond.methodLink RX8 60 yJ0_indexOf_0f7a4 ∈ WG := wg_t3 (List.mem_of_getElem? (i := 7) rfl) rfl
theorem wm_3_10 : Cond.code yJ0_indexOf_0f7a4 cJ0_indexOf_0f7a4 2 (some .int) ∈ WG := wg_t3 (List.mem_of_getElem? (i := 10) rfl) rfl
theorem wm_3_8 : Cond.instanceMethod yJ0_indexOf_0f7a4 ∈ WG := wg_t3 (List.mem_of_getElem? (i := 8) rfl) rfl
theorem wm_3_9 : Cond.selects RJ0 yJ0_indexOf_0f7a4 yJ0_indexOf_0f7a4 ∈ WG := wg_t3 (List.mem_of_getElem? (i := 9) rfl) rfl
theorem wm_2_189 : Cond.methodLink RX8 55 yX8_wordOf ∈ WG := wg_t2 (List.mem_of_getElem? (i := 189) rfl) rfl
theorem wm_2_192 : Cond.code yX8_wordOf cX8_wordOf 6 (some .int) ∈ WG := wg_t2 (List.mem_of_getElem? (i := 192) rfl) rfl
theorem wm_2_191 : Cond.instanceMethod yX8_wordOf ∈ WG := wg_t2 (List.mem_of_getElem? (i := 191) rfl) rfl
theorem wp_1_5 : Cond.selects RX8 yX8_wordOf yX8_wordOf ∈ WG := wg_p (q := (yX8_wordOf, 6)) (wg_p1 (List.mem_of_getElem? (i := 5) rfl)) rfl
theorem wm_2_170 : Cond.methodLink RX8 32 yJ9_min_7cf53 ∈ WG := wg_t2 (List.mem_of_getElem? (i := 170) rfl) rfl
theorem wm_1_45 : Cond.fieldLink RX8 19 "OppositeHouse$Tokens" "size" "I" ∈ WG := wg_t1 (List.mem_of_getElem? (i := 45) rfl) rfl
theorem wm_2_173 : Cond.methodLink RX8 38 yX8_endOf ∈ WG := wg_t2 (List.mem_of_getElem? (i := 173) rfl) rfl
theorem wm_2_176 : Cond.code yX8_endOf cX8_endOf 3 (some .int) ∈ WG := wg_t2 (List.mem_of_getElem? (i := 176) rfl) rfl
theorem wm_2_175 : Cond.instanceMethod yX8_endOf ∈ WG := wg_t2 (List.mem_of_getElem? (i := 175) rfl) rfl
theorem wp_1_1 : Cond.selects RX8 yX8_endOf yX8_endOf ∈ WG := wg_p (q := (yX8_endOf, 6)) (wg_p1 (List.mem_of_getElem? (i := 1) rfl)) rfl
theorem wm_1_47 : Cond.fieldLink RX8 22 "OppositeHouse$Tokens" "kinds" "[I" ∈ WG := wg_t1 (List.mem_of_getElem? (i := 47) rfl) rfl
theorem wm_2_185 : Cond.methodLink RX8 42 yX8_kindOf ∈ WG := wg_t2 (List.mem_of_getElem? (i := 185) rfl) rfl
theorem wm_2_188 : Cond.code yX8_kindOf cX8_kindOf 4 (some .int) ∈ WG := wg_t2 (List.mem_of_getElem? (i := 188) rfl) rfl
theorem wm_2_187 : Cond.instanceMethod yX8_kindOf ∈ WG := wg_t2 (List.mem_of_getElem? (i := 187) rfl) rfl
theorem wp_1_4 : Cond.selects RX8 yX8_kindOf yX8_kindOf ∈ WG := wg_p (q := (yX8_kindOf, 6)) (wg_p1 (List.mem_of_getElem? (i := 4) rfl)) rfl
theorem wm_1_49 : Cond.fieldLink RX8 26 "OppositeHouse$Tokens" "places" "[I" ∈ WG := wg_t1 (List.mem_of_getElem? (i := 49) rfl) rfl
theorem wm_1_51 : Cond.fieldLink RX8 29 "OppositeHouse$Tokens" "values" "[I" ∈ WG := wg_t1 (List.mem_of_getElem? (i := 51) rfl) rfl
theorem wm_3_64 : Cond.methodLink RX8 45 yX8_valueOf ∈ WG := wg_t3 (List.mem_of_getElem? (i := 64) rfl) rfl
theorem wm_3_67 : Cond.code yX8_valueOf cX8_valueOf 5 (some .int) ∈ WG := wg_t3 (List.mem_of_getElem? (i := 67) rfl) rfl
theorem wm_3_66 : Cond.instanceMethod yX8_valueOf ∈ WG := wg_t3 (List.mem_of_getElem? (i := 66) rfl) rfl
theorem wp_1_7 : Cond.selects RX8 yX8_valueOf yX8_valueOf ∈ WG := wg_p (q := (yX8_valueOf, 6)) (wg_p1 (List.mem_of_getElem? (i := 7) rfl)) rfl
theorem wm_1_147 : Cond.fieldLink RX5 25 "OppositeHouse$Reader" "fault" "I" ∈ WG := wg_t1 (List.mem_of_getElem? (i := 147) rfl) rfl
theorem wm_1_145 : Cond.fieldLink RX5 18 "OppositeHouse$Reader" "at" "I" ∈ WG := wg_t1 (List.mem_of_getElem? (i := 145) rfl) rfl
theorem wm_1_144 : Cond.fieldLink RX5 12 "OppositeHouse$Reader" "tokens" "LOppositeHouse$Tokens;" ∈ WG := wg_t1 (List.mem_of_getElem? (i := 144) rfl) rfl
theorem wm_1_46 : Cond.fieldLink RX5 69 "OppositeHouse$Tokens" "size" "I" ∈ WG := wg_t1 (List.mem_of_getElem? (i := 46) rfl) rfl
theorem wm_1_48 : Cond.fieldLink RX5 78 "OppositeHouse$Tokens" "kinds" "[I" ∈ WG := wg_t1 (List.mem_of_getElem? (i := 48) rfl) rfl
theorem wm_1_146 : Cond.fieldLink RX5 22 "OppositeHouse$Reader" "token" "I" ∈ WG := wg_t1 (List.mem_of_getElem? (i := 146) rfl) rfl
theorem wm_1_50 : Cond.fieldLink RX5 75 "OppositeHouse$Tokens" "places" "[I" ∈ WG := wg_t1 (List.mem_of_getElem? (i := 50) rfl) rfl
theorem wm_1_149 : Cond.fieldLink RX5 28 "OppositeHouse$Reader" "faultPlace" "I" ∈ WG := wg_t1 (List.mem_of_getElem? (i := 149) rfl) rfl
theorem wm_3_76 : Cond.methodLink RX5 81 yX5_refuse ∈ WG := wg_t3 (List.mem_of_getElem? (i := 76) rfl) rfl
theorem wm_3_79 : Cond.code yX5_refuse cX5_refuse 2 none ∈ WG := wg_t3 (List.mem_of_getElem? (i := 79) rfl) rfl
theorem wm_1_2 : Cond.initialized RX5 ∈ WG := wg_t1 (List.mem_of_getElem? (i := 2) rfl) rfl
theorem wm_3_78 : Cond.instanceMethod yX5_refuse ∈ WG := wg_t3 (List.mem_of_getElem? (i := 78) rfl) rfl
theorem wp_1_10 : Cond.selects RX5 yX5_refuse yX5_refuse ∈ WG := wg_p (q := (yX5_refuse, 9)) (wg_p1 (List.mem_of_getElem? (i := 10) rfl)) rfl
theorem wm_3_68 : Cond.methodLink RX5 52 yX5_advance ∈ WG := wg_t3 (List.mem_of_getElem? (i := 68) rfl) rfl
theorem wm_3_71 : Cond.code yX5_advance cX5_advance 1 none ∈ WG := wg_t3 (List.mem_of_getElem? (i := 71) rfl) rfl
theorem wm_3_70 : Cond.instanceMethod yX5_advance ∈ WG := wg_t3 (List.mem_of_getElem? (i := 70) rfl) rfl
theorem wp_1_8 : Cond.selects RX5 yX5_advance yX5_advance ∈ WG := wg_p (q := (yX5_advance, 9)) (wg_p1 (List.mem_of_getElem? (i := 8) rfl)) rfl
theorem wm_1_52 : Cond.fieldLink RX5 84 "OppositeHouse$Tokens" "values" "[I" ∈ WG := wg_t1 (List.mem_of_getElem? (i := 52) rfl) rfl
theorem wm_1_153 : Cond.fieldLink RX5 42 "OppositeHouse$Reader" "codeSize" "I" ∈ WG := wg_t1 (List.mem_of_getElem? (i := 153) rfl) rfl
theorem wm_1_152 : Cond.fieldLink RX5 38 "OppositeHouse$Reader" "code" "[I" ∈ WG := wg_t1 (List.mem_of_getElem? (i := 152) rfl) rfl
theorem wm_1_154 : Cond.fieldLink RX5 45 "OppositeHouse$Reader" "namesAllowed" "I" ∈ WG := wg_t1 (List.mem_of_getElem? (i := 154) rfl) rfl
theorem wm_3_113 : Cond.methodLink RX5 144 yX5_add ∈ WG := wg_t3 (List.mem_of_getElem? (i := 113) rfl) rfl
theorem wm_3_116 : Cond.code yX5_add cX5_add 2 none ∈ WG := wg_t3 (List.mem_of_getElem? (i := 116) rfl) rfl
theorem wm_3_115 : Cond.instanceMethod yX5_add ∈ WG := wg_t3 (List.mem_of_getElem? (i := 115) rfl) rfl
theorem wp_2_3 : Cond.selects RX5 yX5_add yX5_add ∈ WG := wg_p (q := (yX5_add, 9)) (wg_p2 (List.mem_of_getElem? (i := 3) rfl)) rfl
theorem wm_3_117 : Cond.methodLink RX5 150 yX5_goesDeeper ∈ WG := wg_t3 (List.mem_of_getElem? (i := 117) rfl) rfl
theorem wm_3_120 : Cond.code yX5_goesDeeper cX5_goesDeeper 2 (some .boolean) ∈ WG := wg_t3 (List.mem_of_getElem? (i := 120) rfl) rfl
theorem wm_3_119 : Cond.instanceMethod yX5_goesDeeper ∈ WG := wg_t3 (List.mem_of_getElem? (i := 119) rfl) rfl
theorem wp_2_4 : Cond.selects RX5 yX5_goesDeeper yX5_goesDeeper ∈ WG := wg_p (q := (yX5_goesDeeper, 9)) (wg_p2 (List.mem_of_getElem? (i := 4) rfl)) rfl
theorem wm_3_109 : Cond.methodLink RX5 156 yX5_readAtom ∈ WG := wg_t3 (List.mem_of_getElem? (i := 109) rfl) rfl
theorem wm_3_112 : Cond.code yX5_readAtom cX5_readAtom 2 none ∈ WG := wg_t3 (List.mem_of_getElem? (i := 112) rfl) rfl
theorem wm_3_111 : Cond.instanceMethod yX5_readAtom ∈ WG := wg_t3 (List.mem_of_getElem? (i := 111) rfl) rfl
theorem wp_2_2 : Cond.selects RX5 yX5_readAtom yX5_readAtom ∈ WG := wg_p (q := (yX5_readAtom, 9)) (wg_p2 (List.mem_of_getElem? (i := 2) rfl)) rfl
theorem wm_3_101 : Cond.methodLink RX5 130 yX5_readSum ∈ WG := wg_t3 (List.mem_of_getElem? (i := 101) rfl) rfl
theorem wm_3_104 : Cond.code yX5_readSum cX5_readSum 4 none ∈ WG := wg_t3 (List.mem_of_getElem? (i := 104) rfl) rfl
theorem wm_3_103 : Cond.instanceMethod yX5_readSum ∈ WG := wg_t3 (List.mem_of_getElem? (i := 103) rfl) rfl
theorem wp_2_0 : Cond.selects RX5 yX5_readSum yX5_readSum ∈ WG := wg_p (q := (yX5_readSum, 9)) (wg_p2 (List.mem_of_getElem? (i := 0) rfl)) rfl
theorem wm_3_72 : Cond.methodLink RX5 55 yX5_take ∈ WG := wg_t3 (List.mem_of_getElem? (i := 72) rfl) rfl
theorem wm_3_75 : Cond.code yX5_take cX5_take 2 none ∈ WG := wg_t3 (List.mem_of_getElem? (i := 75) rfl) rfl
theorem wm_3_74 : Cond.instanceMethod yX5_take ∈ WG := wg_t3 (List.mem_of_getElem? (i := 74) rfl) rfl
theorem wp_1_9 : Cond.selects RX5 yX5_take yX5_take ∈ WG := wg_p (q := (yX5_take, 9)) (wg_p1 (List.mem_of_getElem? (i := 9) rfl)) rfl
theorem wm_1_29 : Cond.instanceMethod Lib.objectInit ∈ WG := wg_t1 (List.mem_of_getElem? (i := 29) rfl) rfl
theorem wm_1_30 : Cond.code Lib.objectInit ⟨#[0xb1]⟩ 1 none ∈ WG := wg_t1 (List.mem_of_getElem? (i := 30) rfl) rfl
theorem wm_1_67 : Cond.arrayClass .int ∈ WG := wg_t1 (List.mem_of_getElem? (i := 67) rfl) rfl
theorem wm_1_73 : Cond.methodLink RX3 3 Lib.objectInit ∈ WG := wg_t1 (List.mem_of_getElem? (i := 73) rfl) rfl
theorem wm_1_74 : Cond.fieldLink RX3 9 "OppositeHouse$House" "lines" "I" ∈ WG := wg_t1 (List.mem_of_getElem? (i := 74) rfl) rfl
theorem wm_1_79 : Cond.fieldLink RX3 15 "OppositeHouse$House" "people" "I" ∈ WG := wg_t1 (List.mem_of_getElem? (i := 79) rfl) rfl
theorem wm_1_87 : Cond.fieldLink RX3 18 "OppositeHouse$House" "textLines" "I" ∈ WG := wg_t1 (List.mem_of_getElem? (i := 87) rfl) rfl
theorem wm_1_90 : Cond.fieldLink RX3 21 "OppositeHouse$House" "startDay" "I" ∈ WG := wg_t1 (List.mem_of_getElem? (i := 90) rfl) rfl
theorem wm_1_93 : Cond.fieldLink RX3 24 "OppositeHouse$House" "opposing" "LOppositeHouse$Law;" ∈ WG := wg_t1 (List.mem_of_getElem? (i := 93) rfl) rfl
theorem wm_1_96 : Cond.fieldLink RX3 28 "OppositeHouse$House" "saying" "LOppositeHouse$Law;" ∈ WG := wg_t1 (List.mem_of_getElem? (i := 96) rfl) rfl
theorem wm_1_99 : Cond.fieldLink RX3 31 "OppositeHouse$House" "swaying" "LOppositeHouse$Law;" ∈ WG := wg_t1 (List.mem_of_getElem? (i := 99) rfl) rfl
theorem wm_1_102 : Cond.fieldLink RX3 34 "OppositeHouse$House" "views" "[I" ∈ WG := wg_t1 (List.mem_of_getElem? (i := 102) rfl) rfl
theorem wm_1_105 : Cond.fieldLink RX3 38 "OppositeHouse$House" "first" "[I" ∈ WG := wg_t1 (List.mem_of_getElem? (i := 105) rfl) rfl
theorem wm_1_109 : Cond.fieldLink RX3 41 "OppositeHouse$House" "last" "[I" ∈ WG := wg_t1 (List.mem_of_getElem? (i := 109) rfl) rfl
theorem wm_1_113 : Cond.fieldLink RX3 44 "OppositeHouse$House" "temper" "[I" ∈ WG := wg_t1 (List.mem_of_getElem? (i := 113) rfl) rfl
theorem wm_1_116 : Cond.fieldLink RX3 47 "OppositeHouse$House" "weight" "[I" ∈ WG := wg_t1 (List.mem_of_getElem? (i := 116) rfl) rfl
theorem wf_3 : ∀ w ∈ u_ws RX3 TX3 12, w ∈ WG := sorry
theorem wf_5 : ∀ w ∈ u_ws RX5 TX5 9, w ∈ WG := sorry
theorem wf_8 : ∀ w ∈ u_ws RX8 TX8 6, w ∈ WG := sorry
theorem hd_X8_isLetter : yX8_isLetter.cls ≠ "java/lang/invoke/MethodHandle" ∧ yX8_isLetter.cls ≠ "java/lang/invoke/VarHandle" ∧ (parseMethodDescriptor yX8_isLetter.desc).map (fun d => d.parameters.length) = some 1 := by decide +kernel
theorem hd_X8_isDigit : yX8_isDigit.cls ≠ "java/lang/invoke/MethodHandle" ∧ yX8_isDigit.cls ≠ "java/lang/invoke/VarHandle" ∧ (parseMethodDescriptor yX8_isDigit.desc).map (fun d => d.parameters.length) = some 1 := by decide +kernel
theorem hd_X8_isWritten : yX8_isWritten.cls ≠ "java/lang/invoke/MethodHandle" ∧ yX8_isWritten.cls ≠ "java/lang/invoke/VarHandle" ∧ (parseMethodDescriptor yX8_isWritten.desc).map (fun d => d.parameters.length) = some 3 := by decide +kernel
theorem hd_J0_indexOf_0f7a4 : yJ0_indexOf_0f7a4.cls ≠ "java/lang/invoke/MethodHandle" ∧ yJ0_indexOf_0f7a4.cls ≠ "java/lang/invoke/VarHandle" ∧ (parseMethodDescriptor yJ0_indexOf_0f7a4.desc).map (fun d => d.parameters.length) = some 1 := by decide +kernel
theorem hd_X8_wordOf : yX8_wordOf.cls ≠ "java/lang/invoke/MethodHandle" ∧ yX8_wordOf.cls ≠ "java/lang/invoke/VarHandle" ∧ (parseMethodDescriptor yX8_wordOf.desc).map (fun d => d.parameters.length) = some 2 := by decide +kernel
theorem hd_X8_endOf : yX8_endOf.cls ≠ "java/lang/invoke/MethodHandle" ∧ yX8_endOf.cls ≠ "java/lang/invoke/VarHandle" ∧ (parseMethodDescriptor yX8_endOf.desc).map (fun d => d.parameters.length) = some 1 := by decide +kernel
theorem hd_X8_kindOf : yX8_kindOf.cls ≠ "java/lang/invoke/MethodHandle" ∧ yX8_kindOf.cls ≠ "java/lang/invoke/VarHandle" ∧ (parseMethodDescriptor yX8_kindOf.desc).map (fun d => d.parameters.length) = some 2 := by decide +kernel
theorem hd_X8_valueOf : yX8_valueOf.cls ≠ "java/lang/invoke/MethodHandle" ∧ yX8_valueOf.cls ≠ "java/lang/invoke/VarHandle" ∧ (parseMethodDescriptor yX8_valueOf.desc).map (fun d => d.parameters.length) = some 2 := by decide +kernel
theorem hd_X5_refuse : yX5_refuse.cls ≠ "java/lang/invoke/MethodHandle" ∧ yX5_refuse.cls ≠ "java/lang/invoke/VarHandle" ∧ (parseMethodDescriptor yX5_refuse.desc).map (fun d => d.parameters.length) = some 1 := by decide +kernel
theorem hd_X5_advance : yX5_advance.cls ≠ "java/lang/invoke/MethodHandle" ∧ yX5_advance.cls ≠ "java/lang/invoke/VarHandle" ∧ (parseMethodDescriptor yX5_advance.desc).map (fun d => d.parameters.length) = some 0 := by decide +kernel
theorem hd_X5_add : yX5_add.cls ≠ "java/lang/invoke/MethodHandle" ∧ yX5_add.cls ≠ "java/lang/invoke/VarHandle" ∧ (parseMethodDescriptor yX5_add.desc).map (fun d => d.parameters.length) = some 1 := by decide +kernel
theorem hd_X5_goesDeeper : yX5_goesDeeper.cls ≠ "java/lang/invoke/MethodHandle" ∧ yX5_goesDeeper.cls ≠ "java/lang/invoke/VarHandle" ∧ (parseMethodDescriptor yX5_goesDeeper.desc).map (fun d => d.parameters.length) = some 1 := by decide +kernel
theorem hd_X5_readAtom : yX5_readAtom.cls ≠ "java/lang/invoke/MethodHandle" ∧ yX5_readAtom.cls ≠ "java/lang/invoke/VarHandle" ∧ (parseMethodDescriptor yX5_readAtom.desc).map (fun d => d.parameters.length) = some 1 := by decide +kernel
theorem hd_X5_readSum : yX5_readSum.cls ≠ "java/lang/invoke/MethodHandle" ∧ yX5_readSum.cls ≠ "java/lang/invoke/VarHandle" ∧ (parseMethodDescriptor yX5_readSum.desc).map (fun d => d.parameters.length) = some 1 := by decide +kernel
theorem hd_X5_take : yX5_take.cls ≠ "java/lang/invoke/MethodHandle" ∧ yX5_take.cls ≠ "java/lang/invoke/VarHandle" ∧ (parseMethodDescriptor yX5_take.desc).map (fun d => d.parameters.length) = some 1 := by decide +kernel
theorem dX3_init_0 : decode cX3_init 0 = .ok (.aload_n 0, 1) := sorry
theorem dX3_init_1 : decode cX3_init 1 = .ok (.invokespecial 3, 3) := sorry
theorem dX3_init_4 : decode cX3_init 4 = .ok (.aload_n 0, 1) := sorry
theorem dX3_init_5 : decode cX3_init 5 = .ok (.iconst 1, 1) := sorry
theorem dX3_init_6 : decode cX3_init 6 = .ok (.putfield 9, 3) := sorry
theorem dX3_init_9 : decode cX3_init 9 = .ok (.aload_n 0, 1) := sorry
theorem dX3_init_10 : decode cX3_init 10 = .ok (.iconst 0, 1) := sorry
theorem dX3_init_11 : decode cX3_init 11 = .ok (.putfield 15, 3) := sorry
theorem dX3_init_14 : decode cX3_init 14 = .ok (.aload_n 0, 1) := sorry
theorem dX3_init_15 : decode cX3_init 15 = .ok (.iconst 0, 1) := sorry
theorem dX3_init_16 : decode cX3_init 16 = .ok (.putfield 18, 3) := sorry
theorem dX3_init_19 : decode cX3_init 19 = .ok (.aload_n 0, 1) := sorry
theorem dX3_init_20 : decode cX3_init 20 = .ok (.iconst 0, 1) := sorry
theorem dX3_init_21 : decode cX3_init 21 = .ok (.putfield 21, 3) := sorry
theorem dX3_init_24 : decode cX3_init 24 = .ok (.aload_n 0, 1) := sorry
theorem dX3_init_25 : decode cX3_init 25 = .ok (.aconst_null, 1) := sorry
theorem dX3_init_26 : decode cX3_init 26 = .ok (.putfield 24, 3) := sorry
theorem dX3_init_29 : decode cX3_init 29 = .ok (.aload_n 0, 1) := sorry
theorem dX3_init_30 : decode cX3_init 30 = .ok (.aconst_null, 1) := sorry
theorem dX3_init_31 : decode cX3_init 31 = .ok (.putfield 28, 3) := sorry
theorem dX3_init_34 : decode cX3_init 34 = .ok (.aload_n 0, 1) := sorry
theorem dX3_init_35 : decode cX3_init 35 = .ok (.aconst_null, 1) := sorry
theorem dX3_init_36 : decode cX3_init 36 = .ok (.putfield 31, 3) := sorry
theorem dX3_init_39 : decode cX3_init 39 = .ok (.aload_n 0, 1) := sorry
theorem dX3_init_40 : decode cX3_init 40 = .ok (.bipush 10, 2) := sorry
theorem dX3_init_42 : decode cX3_init 42 = .ok (.newarray .int, 2) := sorry
theorem dX3_init_44 : decode cX3_init 44 = .ok (.putfield 34, 3) := sorry
theorem dX3_init_47 : decode cX3_init 47 = .ok (.aload_n 0, 1) := sorry
theorem dX3_init_48 : decode cX3_init 48 = .ok (.bipush 10, 2) := sorry
theorem dX3_init_50 : decode cX3_init 50 = .ok (.newarray .int, 2) := sorry
theorem dX3_init_52 : decode cX3_init 52 = .ok (.putfield 38, 3) := sorry
theorem dX3_init_55 : decode cX3_init 55 = .ok (.aload_n 0, 1) := sorry
theorem dX3_init_56 : decode cX3_init 56 = .ok (.bipush 10, 2) := sorry
theorem dX3_init_58 : decode cX3_init 58 = .ok (.newarray .int, 2) := sorry
theorem dX3_init_60 : decode cX3_init 60 = .ok (.putfield 41, 3) := sorry
theorem dX3_init_63 : decode cX3_init 63 = .ok (.aload_n 0, 1) := sorry
theorem dX3_init_64 : decode cX3_init 64 = .ok (.bipush 10, 2) := sorry
theorem dX3_init_66 : decode cX3_init 66 = .ok (.newarray .int, 2) := sorry
theorem dX3_init_68 : decode cX3_init 68 = .ok (.putfield 44, 3) := sorry
theorem dX3_init_71 : decode cX3_init 71 = .ok (.aload_n 0, 1) := sorry
theorem dX3_init_72 : decode cX3_init 72 = .ok (.bipush 10, 2) := sorry
theorem dX3_init_74 : decode cX3_init 74 = .ok (.newarray .int, 2) := sorry
theorem dX3_init_76 : decode cX3_init 76 = .ok (.putfield 47, 3) := sorry
theorem dX3_init_79 : decode cX3_init 79 = .ok (.return_, 1) := sorry
theorem dX5_add_0 : decode cX5_add 0 = .ok (.aload_n 0, 1) := sorry
theorem dX5_add_1 : decode cX5_add 1 = .ok (.getfield 42, 3) := sorry
theorem dX5_add_4 : decode cX5_add 4 = .ok (.aload_n 0, 1) := sorry
theorem dX5_add_5 : decode cX5_add 5 = .ok (.getfield 38, 3) := sorry
theorem dX5_add_8 : decode cX5_add 8 = .ok (.arraylength, 1) := sorry
theorem dX5_add_9 : decode cX5_add 9 = .ok (.if_icmp .ge 23, 3) := sorry
theorem dX5_add_12 : decode cX5_add 12 = .ok (.aload_n 0, 1) := sorry
theorem dX5_add_13 : decode cX5_add 13 = .ok (.getfield 38, 3) := sorry
theorem dX5_add_16 : decode cX5_add 16 = .ok (.aload_n 0, 1) := sorry
theorem dX5_add_17 : decode cX5_add 17 = .ok (.getfield 42, 3) := sorry
theorem dX5_add_20 : decode cX5_add 20 = .ok (.iload_n 1, 1) := sorry
theorem dX5_add_21 : decode cX5_add 21 = .ok (.iastore, 1) := sorry
theorem dX5_add_22 : decode cX5_add 22 = .ok (.aload_n 0, 1) := sorry
theorem dX5_add_23 : decode cX5_add 23 = .ok (.dup, 1) := sorry
theorem dX5_add_24 : decode cX5_add 24 = .ok (.getfield 42, 3) := sorry
theorem dX5_add_27 : decode cX5_add 27 = .ok (.iconst 1, 1) := sorry
theorem dX5_add_28 : decode cX5_add 28 = .ok (.iadd, 1) := sorry
theorem dX5_add_29 : decode cX5_add 29 = .ok (.putfield 42, 3) := sorry
theorem dX5_add_32 : decode cX5_add 32 = .ok (.return_, 1) := sorry
theorem dX5_advance_0 : decode cX5_advance 0 = .ok (.aload_n 0, 1) := sorry
theorem dX5_advance_1 : decode cX5_advance 1 = .ok (.getfield 25, 3) := sorry
theorem dX5_advance_4 : decode cX5_advance 4 = .ok (.ifCond .ne 19, 3) := sorry
theorem dX5_advance_7 : decode cX5_advance 7 = .ok (.aload_n 0, 1) := sorry
theorem dX5_advance_8 : decode cX5_advance 8 = .ok (.getfield 18, 3) := sorry
theorem dX5_advance_11 : decode cX5_advance 11 = .ok (.iconst 1, 1) := sorry
theorem dX5_advance_12 : decode cX5_advance 12 = .ok (.iadd, 1) := sorry
theorem dX5_advance_13 : decode cX5_advance 13 = .ok (.aload_n 0, 1) := sorry
theorem dX5_advance_14 : decode cX5_advance 14 = .ok (.getfield 12, 3) := sorry
theorem dX5_advance_17 : decode cX5_advance 17 = .ok (.getfield 69, 3) := sorry
theorem dX5_advance_20 : decode cX5_advance 20 = .ok (.if_icmp .lt 4, 3) := sorry
theorem dX5_advance_23 : decode cX5_advance 23 = .ok (.return_, 1) := sorry
theorem dX5_advance_24 : decode cX5_advance 24 = .ok (.aload_n 0, 1) := sorry
theorem dX5_advance_25 : decode cX5_advance 25 = .ok (.dup, 1) := sorry
theorem dX5_advance_26 : decode cX5_advance 26 = .ok (.getfield 18, 3) := sorry
theorem dX5_advance_29 : decode cX5_advance 29 = .ok (.iconst 1, 1) := sorry
theorem dX5_advance_30 : decode cX5_advance 30 = .ok (.iadd, 1) := sorry
theorem dX5_advance_31 : decode cX5_advance 31 = .ok (.putfield 18, 3) := sorry
theorem dX5_advance_34 : decode cX5_advance 34 = .ok (.aload_n 0, 1) := sorry
theorem dX5_advance_35 : decode cX5_advance 35 = .ok (.aload_n 0, 1) := sorry
theorem dX5_advance_36 : decode cX5_advance 36 = .ok (.getfield 12, 3) := sorry
theorem dX5_advance_39 : decode cX5_advance 39 = .ok (.getfield 78, 3) := sorry
theorem dX5_advance_42 : decode cX5_advance 42 = .ok (.aload_n 0, 1) := sorry
theorem dX5_advance_43 : decode cX5_advance 43 = .ok (.getfield 18, 3) := sorry
theorem dX5_advance_46 : decode cX5_advance 46 = .ok (.iaload, 1) := sorry
theorem dX5_advance_47 : decode cX5_advance 47 = .ok (.putfield 22, 3) := sorry
theorem dX5_advance_50 : decode cX5_advance 50 = .ok (.aload_n 0, 1) := sorry
theorem dX5_advance_51 : decode cX5_advance 51 = .ok (.getfield 22, 3) := sorry
theorem dX5_advance_54 : decode cX5_advance 54 = .ok (.bipush 27, 2) := sorry
theorem dX5_advance_56 : decode cX5_advance 56 = .ok (.if_icmp .ne 24, 3) := sorry
theorem dX5_advance_59 : decode cX5_advance 59 = .ok (.aload_n 0, 1) := sorry
theorem dX5_advance_60 : decode cX5_advance 60 = .ok (.iconst 1, 1) := sorry
theorem dX5_advance_61 : decode cX5_advance 61 = .ok (.putfield 25, 3) := sorry
theorem dX5_advance_64 : decode cX5_advance 64 = .ok (.aload_n 0, 1) := sorry
theorem dX5_advance_65 : decode cX5_advance 65 = .ok (.aload_n 0, 1) := sorry
theorem dX5_advance_66 : decode cX5_advance 66 = .ok (.getfield 12, 3) := sorry
theorem dX5_advance_69 : decode cX5_advance 69 = .ok (.getfield 75, 3) := sorry
theorem dX5_advance_72 : decode cX5_advance 72 = .ok (.aload_n 0, 1) := sorry
theorem dX5_advance_73 : decode cX5_advance 73 = .ok (.getfield 18, 3) := sorry
theorem dX5_advance_76 : decode cX5_advance 76 = .ok (.iaload, 1) := sorry
theorem dX5_advance_77 : decode cX5_advance 77 = .ok (.putfield 28, 3) := sorry
theorem dX5_advance_80 : decode cX5_advance 80 = .ok (.return_, 1) := sorry
theorem dX5_goesDeeper_0 : decode cX5_goesDeeper 0 = .ok (.iload_n 1, 1) := sorry
theorem dX5_goesDeeper_1 : decode cX5_goesDeeper 1 = .ok (.bipush 6, 2) := sorry
theorem dX5_goesDeeper_3 : decode cX5_goesDeeper 3 = .ok (.if_icmp .lt 10, 3) := sorry
theorem dX5_goesDeeper_6 : decode cX5_goesDeeper 6 = .ok (.aload_n 0, 1) := sorry
theorem dX5_goesDeeper_7 : decode cX5_goesDeeper 7 = .ok (.iconst 4, 1) := sorry
theorem dX5_goesDeeper_8 : decode cX5_goesDeeper 8 = .ok (.invokevirtual 81, 3) := sorry
theorem dX5_goesDeeper_11 : decode cX5_goesDeeper 11 = .ok (.iconst 0, 1) := sorry
theorem dX5_goesDeeper_12 : decode cX5_goesDeeper 12 = .ok (.ireturn, 1) := sorry
theorem dX5_goesDeeper_13 : decode cX5_goesDeeper 13 = .ok (.aload_n 0, 1) := sorry
theorem dX5_goesDeeper_14 : decode cX5_goesDeeper 14 = .ok (.invokevirtual 52, 3) := sorry
theorem dX5_goesDeeper_17 : decode cX5_goesDeeper 17 = .ok (.iconst 1, 1) := sorry
theorem dX5_goesDeeper_18 : decode cX5_goesDeeper 18 = .ok (.ireturn, 1) := sorry
theorem dX5_readAtom_0 : decode cX5_readAtom 0 = .ok (.aload_n 0, 1) := sorry
theorem dX5_readAtom_1 : decode cX5_readAtom 1 = .ok (.getfield 22, 3) := sorry
theorem dX5_readAtom_4 : decode cX5_readAtom 4 = .ok (.bipush 25, 2) := sorry
theorem dX5_readAtom_6 : decode cX5_readAtom 6 = .ok (.if_icmp .ne 26, 3) := sorry
theorem dX5_readAtom_9 : decode cX5_readAtom 9 = .ok (.aload_n 0, 1) := sorry
theorem dX5_readAtom_10 : decode cX5_readAtom 10 = .ok (.aload_n 0, 1) := sorry
theorem dX5_readAtom_11 : decode cX5_readAtom 11 = .ok (.getfield 12, 3) := sorry
theorem dX5_readAtom_14 : decode cX5_readAtom 14 = .ok (.getfield 84, 3) := sorry
theorem dX5_readAtom_17 : decode cX5_readAtom 17 = .ok (.aload_n 0, 1) := sorry
theorem dX5_readAtom_18 : decode cX5_readAtom 18 = .ok (.getfield 18, 3) := sorry
theorem dX5_readAtom_21 : decode cX5_readAtom 21 = .ok (.iaload, 1) := sorry
theorem dX5_readAtom_22 : decode cX5_readAtom 22 = .ok (.invokevirtual 144, 3) := sorry
theorem dX5_readAtom_25 : decode cX5_readAtom 25 = .ok (.aload_n 0, 1) := sorry
theorem dX5_readAtom_26 : decode cX5_readAtom 26 = .ok (.invokevirtual 52, 3) := sorry
theorem dX5_readAtom_29 : decode cX5_readAtom 29 = .ok (.goto 84, 3) := sorry
theorem dX5_readAtom_32 : decode cX5_readAtom 32 = .ok (.aload_n 0, 1) := sorry
theorem dX5_readAtom_33 : decode cX5_readAtom 33 = .ok (.getfield 22, 3) := sorry
theorem dX5_readAtom_36 : decode cX5_readAtom 36 = .ok (.bipush 40, 2) := sorry
theorem dX5_readAtom_38 : decode cX5_readAtom 38 = .ok (.if_icmp .ne 27, 3) := sorry
theorem dX5_readAtom_41 : decode cX5_readAtom 41 = .ok (.aload_n 0, 1) := sorry
theorem dX5_readAtom_42 : decode cX5_readAtom 42 = .ok (.iload_n 1, 1) := sorry
theorem dX5_readAtom_43 : decode cX5_readAtom 43 = .ok (.invokevirtual 150, 3) := sorry
theorem dX5_readAtom_46 : decode cX5_readAtom 46 = .ok (.ifCond .eq 67, 3) := sorry
theorem dX5_readAtom_49 : decode cX5_readAtom 49 = .ok (.aload_n 0, 1) := sorry
theorem dX5_readAtom_50 : decode cX5_readAtom 50 = .ok (.iload_n 1, 1) := sorry
theorem dX5_readAtom_51 : decode cX5_readAtom 51 = .ok (.iconst 1, 1) := sorry
theorem dX5_readAtom_52 : decode cX5_readAtom 52 = .ok (.iadd, 1) := sorry
theorem dX5_readAtom_53 : decode cX5_readAtom 53 = .ok (.invokevirtual 130, 3) := sorry
theorem dX5_readAtom_56 : decode cX5_readAtom 56 = .ok (.aload_n 0, 1) := sorry
theorem dX5_readAtom_57 : decode cX5_readAtom 57 = .ok (.bipush 41, 2) := sorry
theorem dX5_readAtom_59 : decode cX5_readAtom 59 = .ok (.invokevirtual 55, 3) := sorry
theorem dX5_readAtom_62 : decode cX5_readAtom 62 = .ok (.goto 51, 3) := sorry
theorem dX5_readAtom_65 : decode cX5_readAtom 65 = .ok (.aload_n 0, 1) := sorry
theorem dX5_readAtom_66 : decode cX5_readAtom 66 = .ok (.getfield 22, 3) := sorry
theorem dX5_readAtom_69 : decode cX5_readAtom 69 = .ok (.bipush 11, 2) := sorry
theorem dX5_readAtom_71 : decode cX5_readAtom 71 = .ok (.if_icmp .ge 37, 3) := sorry
theorem dX5_readAtom_74 : decode cX5_readAtom 74 = .ok (.aload_n 0, 1) := sorry
theorem dX5_readAtom_75 : decode cX5_readAtom 75 = .ok (.getfield 45, 3) := sorry
theorem dX5_readAtom_78 : decode cX5_readAtom 78 = .ok (.aload_n 0, 1) := sorry
theorem dX5_readAtom_79 : decode cX5_readAtom 79 = .ok (.getfield 22, 3) := sorry
theorem dX5_readAtom_82 : decode cX5_readAtom 82 = .ok (.ishr, 1) := sorry
theorem dX5_readAtom_83 : decode cX5_readAtom 83 = .ok (.iconst 1, 1) := sorry
theorem dX5_readAtom_84 : decode cX5_readAtom 84 = .ok (.iand, 1) := sorry
theorem dX5_readAtom_85 : decode cX5_readAtom 85 = .ok (.iconst 1, 1) := sorry
theorem dX5_readAtom_86 : decode cX5_readAtom 86 = .ok (.if_icmp .ne 22, 3) := sorry
theorem dX5_readAtom_89 : decode cX5_readAtom 89 = .ok (.aload_n 0, 1) := sorry
theorem dX5_readAtom_90 : decode cX5_readAtom 90 = .ok (.sipush 1000, 3) := sorry
theorem dX5_readAtom_93 : decode cX5_readAtom 93 = .ok (.aload_n 0, 1) := sorry
theorem dX5_readAtom_94 : decode cX5_readAtom 94 = .ok (.getfield 22, 3) := sorry
theorem dX5_readAtom_97 : decode cX5_readAtom 97 = .ok (.iadd, 1) := sorry
theorem dX5_readAtom_98 : decode cX5_readAtom 98 = .ok (.invokevirtual 144, 3) := sorry
theorem dX5_readAtom_101 : decode cX5_readAtom 101 = .ok (.aload_n 0, 1) := sorry
theorem dX5_readAtom_102 : decode cX5_readAtom 102 = .ok (.invokevirtual 52, 3) := sorry
theorem dX5_readAtom_105 : decode cX5_readAtom 105 = .ok (.goto 8, 3) := sorry
theorem dX5_readAtom_108 : decode cX5_readAtom 108 = .ok (.aload_n 0, 1) := sorry
theorem dX5_readAtom_109 : decode cX5_readAtom 109 = .ok (.iconst 2, 1) := sorry
theorem dX5_readAtom_110 : decode cX5_readAtom 110 = .ok (.invokevirtual 81, 3) := sorry
theorem dX5_readAtom_113 : decode cX5_readAtom 113 = .ok (.return_, 1) := sorry
theorem dX5_readTerm_0 : decode cX5_readTerm 0 = .ok (.aload_n 0, 1) := sorry
theorem dX5_readTerm_1 : decode cX5_readTerm 1 = .ok (.iload_n 1, 1) := sorry
theorem dX5_readTerm_2 : decode cX5_readTerm 2 = .ok (.invokevirtual 156, 3) := sorry
theorem dX5_readTerm_5 : decode cX5_readTerm 5 = .ok (.iconst 0, 1) := sorry
theorem dX5_readTerm_6 : decode cX5_readTerm 6 = .ok (.istore_n 2, 1) := sorry
theorem dX5_readTerm_7 : decode cX5_readTerm 7 = .ok (.iload_n 2, 1) := sorry
theorem dX5_readTerm_8 : decode cX5_readTerm 8 = .ok (.aload_n 0, 1) := sorry
theorem dX5_readTerm_9 : decode cX5_readTerm 9 = .ok (.getfield 12, 3) := sorry
theorem dX5_readTerm_12 : decode cX5_readTerm 12 = .ok (.getfield 69, 3) := sorry
theorem dX5_readTerm_15 : decode cX5_readTerm 15 = .ok (.if_icmp .ge 34, 3) := sorry
theorem dX5_readTerm_18 : decode cX5_readTerm 18 = .ok (.aload_n 0, 1) := sorry
theorem dX5_readTerm_19 : decode cX5_readTerm 19 = .ok (.getfield 22, 3) := sorry
theorem dX5_readTerm_22 : decode cX5_readTerm 22 = .ok (.bipush 42, 2) := sorry
theorem dX5_readTerm_24 : decode cX5_readTerm 24 = .ok (.if_icmp .ne 25, 3) := sorry
theorem dX5_readTerm_27 : decode cX5_readTerm 27 = .ok (.aload_n 0, 1) := sorry
theorem dX5_readTerm_28 : decode cX5_readTerm 28 = .ok (.invokevirtual 52, 3) := sorry
theorem dX5_readTerm_31 : decode cX5_readTerm 31 = .ok (.aload_n 0, 1) := sorry
theorem dX5_readTerm_32 : decode cX5_readTerm 32 = .ok (.iload_n 1, 1) := sorry
theorem dX5_readTerm_33 : decode cX5_readTerm 33 = .ok (.invokevirtual 156, 3) := sorry
theorem dX5_readTerm_36 : decode cX5_readTerm 36 = .ok (.aload_n 0, 1) := sorry
theorem dX5_readTerm_37 : decode cX5_readTerm 37 = .ok (.sipush 2042, 3) := sorry
theorem dX5_readTerm_40 : decode cX5_readTerm 40 = .ok (.invokevirtual 144, 3) := sorry
theorem dX5_readTerm_43 : decode cX5_readTerm 43 = .ok (.iinc 2 1, 3) := sorry
theorem dX5_readTerm_46 : decode cX5_readTerm 46 = .ok (.goto (-39), 3) := sorry
theorem dX5_readTerm_49 : decode cX5_readTerm 49 = .ok (.return_, 1) := sorry
theorem dX5_refuse_0 : decode cX5_refuse 0 = .ok (.aload_n 0, 1) := sorry
theorem dX5_refuse_1 : decode cX5_refuse 1 = .ok (.getfield 25, 3) := sorry
theorem dX5_refuse_4 : decode cX5_refuse 4 = .ok (.ifCond .ne 30, 3) := sorry
theorem dX5_refuse_7 : decode cX5_refuse 7 = .ok (.aload_n 0, 1) := sorry
theorem dX5_refuse_8 : decode cX5_refuse 8 = .ok (.iload_n 1, 1) := sorry
theorem dX5_refuse_9 : decode cX5_refuse 9 = .ok (.putfield 25, 3) := sorry
theorem dX5_refuse_12 : decode cX5_refuse 12 = .ok (.aload_n 0, 1) := sorry
theorem dX5_refuse_13 : decode cX5_refuse 13 = .ok (.aload_n 0, 1) := sorry
theorem dX5_refuse_14 : decode cX5_refuse 14 = .ok (.getfield 12, 3) := sorry
theorem dX5_refuse_17 : decode cX5_refuse 17 = .ok (.getfield 75, 3) := sorry
theorem dX5_refuse_20 : decode cX5_refuse 20 = .ok (.aload_n 0, 1) := sorry
theorem dX5_refuse_21 : decode cX5_refuse 21 = .ok (.getfield 18, 3) := sorry
theorem dX5_refuse_24 : decode cX5_refuse 24 = .ok (.iaload, 1) := sorry
theorem dX5_refuse_25 : decode cX5_refuse 25 = .ok (.putfield 28, 3) := sorry
theorem dX5_refuse_28 : decode cX5_refuse 28 = .ok (.aload_n 0, 1) := sorry
theorem dX5_refuse_29 : decode cX5_refuse 29 = .ok (.bipush 27, 2) := sorry
theorem dX5_refuse_31 : decode cX5_refuse 31 = .ok (.putfield 22, 3) := sorry
theorem dX5_refuse_34 : decode cX5_refuse 34 = .ok (.return_, 1) := sorry
theorem dX5_take_0 : decode cX5_take 0 = .ok (.aload_n 0, 1) := sorry
theorem dX5_take_1 : decode cX5_take 1 = .ok (.getfield 22, 3) := sorry
theorem dX5_take_4 : decode cX5_take 4 = .ok (.iload_n 1, 1) := sorry
theorem dX5_take_5 : decode cX5_take 5 = .ok (.if_icmp .ne 10, 3) := sorry
theorem dX5_take_8 : decode cX5_take 8 = .ok (.aload_n 0, 1) := sorry
theorem dX5_take_9 : decode cX5_take 9 = .ok (.invokevirtual 52, 3) := sorry
theorem dX5_take_12 : decode cX5_take 12 = .ok (.goto 8, 3) := sorry
theorem dX5_take_15 : decode cX5_take 15 = .ok (.aload_n 0, 1) := sorry
theorem dX5_take_16 : decode cX5_take 16 = .ok (.iconst 2, 1) := sorry
theorem dX5_take_17 : decode cX5_take 17 = .ok (.invokevirtual 81, 3) := sorry
theorem dX5_take_20 : decode cX5_take 20 = .ok (.return_, 1) := sorry
theorem dX5_takeNumber_0 : decode cX5_takeNumber 0 = .ok (.aload_n 0, 1) := sorry
theorem dX5_takeNumber_1 : decode cX5_takeNumber 1 = .ok (.getfield 22, 3) := sorry
theorem dX5_takeNumber_4 : decode cX5_takeNumber 4 = .ok (.bipush 25, 2) := sorry
theorem dX5_takeNumber_6 : decode cX5_takeNumber 6 = .ok (.if_icmp .eq 10, 3) := sorry
theorem dX5_takeNumber_9 : decode cX5_takeNumber 9 = .ok (.aload_n 0, 1) := sorry
theorem dX5_takeNumber_10 : decode cX5_takeNumber 10 = .ok (.iconst 2, 1) := sorry
theorem dX5_takeNumber_11 : decode cX5_takeNumber 11 = .ok (.invokevirtual 81, 3) := sorry
theorem dX5_takeNumber_14 : decode cX5_takeNumber 14 = .ok (.iload_n 1, 1) := sorry
theorem dX5_takeNumber_15 : decode cX5_takeNumber 15 = .ok (.ireturn, 1) := sorry
theorem dX5_takeNumber_16 : decode cX5_takeNumber 16 = .ok (.aload_n 0, 1) := sorry
theorem dX5_takeNumber_17 : decode cX5_takeNumber 17 = .ok (.getfield 12, 3) := sorry
theorem dX5_takeNumber_20 : decode cX5_takeNumber 20 = .ok (.getfield 84, 3) := sorry
theorem dX5_takeNumber_23 : decode cX5_takeNumber 23 = .ok (.aload_n 0, 1) := sorry
theorem dX5_takeNumber_24 : decode cX5_takeNumber 24 = .ok (.getfield 18, 3) := sorry
theorem dX5_takeNumber_27 : decode cX5_takeNumber 27 = .ok (.iaload, 1) := sorry
theorem dX5_takeNumber_28 : decode cX5_takeNumber 28 = .ok (.istore_n 3, 1) := sorry
theorem dX5_takeNumber_29 : decode cX5_takeNumber 29 = .ok (.iload_n 3, 1) := sorry
theorem dX5_takeNumber_30 : decode cX5_takeNumber 30 = .ok (.iload_n 1, 1) := sorry
theorem dX5_takeNumber_31 : decode cX5_takeNumber 31 = .ok (.if_icmp .lt 8, 3) := sorry
theorem dX5_takeNumber_34 : decode cX5_takeNumber 34 = .ok (.iload_n 3, 1) := sorry
theorem dX5_takeNumber_35 : decode cX5_takeNumber 35 = .ok (.iload_n 2, 1) := sorry
theorem dX5_takeNumber_36 : decode cX5_takeNumber 36 = .ok (.if_icmp .le 10, 3) := sorry
theorem dX5_takeNumber_39 : decode cX5_takeNumber 39 = .ok (.aload_n 0, 1) := sorry
theorem dX5_takeNumber_40 : decode cX5_takeNumber 40 = .ok (.iconst 3, 1) := sorry
theorem dX5_takeNumber_41 : decode cX5_takeNumber 41 = .ok (.invokevirtual 81, 3) := sorry
theorem dX5_takeNumber_44 : decode cX5_takeNumber 44 = .ok (.iload_n 1, 1) := sorry
theorem dX5_takeNumber_45 : decode cX5_takeNumber 45 = .ok (.ireturn, 1) := sorry
theorem dX5_takeNumber_46 : decode cX5_takeNumber 46 = .ok (.aload_n 0, 1) := sorry
theorem dX5_takeNumber_47 : decode cX5_takeNumber 47 = .ok (.invokevirtual 52, 3) := sorry
theorem dX5_takeNumber_50 : decode cX5_takeNumber 50 = .ok (.iload_n 3, 1) := sorry
theorem dX5_takeNumber_51 : decode cX5_takeNumber 51 = .ok (.ireturn, 1) := sorry
theorem dX8_cut_0 : decode cX8_cut 0 = .ok (.aload_n 0, 1) := sorry
theorem dX8_cut_1 : decode cX8_cut 1 = .ok (.aload_n 1, 1) := sorry
theorem dX8_cut_2 : decode cX8_cut 2 = .ok (.putfield 9, 3) := sorry
theorem dX8_cut_5 : decode cX8_cut 5 = .ok (.aload_n 0, 1) := sorry
theorem dX8_cut_6 : decode cX8_cut 6 = .ok (.iload_n 2, 1) := sorry
theorem dX8_cut_7 : decode cX8_cut 7 = .ok (.aload_n 1, 1) := sorry
theorem dX8_cut_8 : decode cX8_cut 8 = .ok (.arraylength, 1) := sorry
theorem dX8_cut_9 : decode cX8_cut 9 = .ok (.invokestatic 32, 3) := sorry
theorem dX8_cut_12 : decode cX8_cut 12 = .ok (.sipush 900, 3) := sorry
theorem dX8_cut_15 : decode cX8_cut 15 = .ok (.invokestatic 32, 3) := sorry
theorem dX8_cut_18 : decode cX8_cut 18 = .ok (.putfield 15, 3) := sorry
theorem dX8_cut_21 : decode cX8_cut 21 = .ok (.aload_n 0, 1) := sorry
theorem dX8_cut_22 : decode cX8_cut 22 = .ok (.iconst 0, 1) := sorry
theorem dX8_cut_23 : decode cX8_cut 23 = .ok (.putfield 19, 3) := sorry
theorem dX8_cut_26 : decode cX8_cut 26 = .ok (.iconst 0, 1) := sorry
theorem dX8_cut_27 : decode cX8_cut 27 = .ok (.istore_n 3, 1) := sorry
theorem dX8_cut_28 : decode cX8_cut 28 = .ok (.iconst 1, 1) := sorry
theorem dX8_cut_29 : decode cX8_cut 29 = .ok (.istore 4, 2) := sorry
theorem dX8_cut_31 : decode cX8_cut 31 = .ok (.iconst 0, 1) := sorry
theorem dX8_cut_32 : decode cX8_cut 32 = .ok (.istore 5, 2) := sorry
theorem dX8_cut_34 : decode cX8_cut 34 = .ok (.iload 5, 2) := sorry
theorem dX8_cut_36 : decode cX8_cut 36 = .ok (.aload_n 0, 1) := sorry
theorem dX8_cut_37 : decode cX8_cut 37 = .ok (.getfield 15, 3) := sorry
theorem dX8_cut_40 : decode cX8_cut 40 = .ok (.if_icmp .gt 151, 3) := sorry
theorem dX8_cut_43 : decode cX8_cut 43 = .ok (.iload 4, 2) := sorry
theorem dX8_cut_45 : decode cX8_cut 45 = .ok (.ifCond .eq 146, 3) := sorry
theorem dX8_cut_48 : decode cX8_cut 48 = .ok (.iload_n 3, 1) := sorry
theorem dX8_cut_49 : decode cX8_cut 49 = .ok (.aload_n 0, 1) := sorry
theorem dX8_cut_50 : decode cX8_cut 50 = .ok (.getfield 15, 3) := sorry
theorem dX8_cut_53 : decode cX8_cut 53 = .ok (.if_icmp .ge 31, 3) := sorry
theorem dX8_cut_56 : decode cX8_cut 56 = .ok (.aload_n 0, 1) := sorry
theorem dX8_cut_57 : decode cX8_cut 57 = .ok (.getfield 9, 3) := sorry
theorem dX8_cut_60 : decode cX8_cut 60 = .ok (.iload_n 3, 1) := sorry
theorem dX8_cut_61 : decode cX8_cut 61 = .ok (.baload, 1) := sorry
theorem dX8_cut_62 : decode cX8_cut 62 = .ok (.bipush 10, 2) := sorry
theorem dX8_cut_64 : decode cX8_cut 64 = .ok (.if_icmp .eq 14, 3) := sorry
theorem dX8_cut_67 : decode cX8_cut 67 = .ok (.aload_n 0, 1) := sorry
theorem dX8_cut_68 : decode cX8_cut 68 = .ok (.getfield 9, 3) := sorry
theorem dX8_cut_71 : decode cX8_cut 71 = .ok (.iload_n 3, 1) := sorry
theorem dX8_cut_72 : decode cX8_cut 72 = .ok (.baload, 1) := sorry
theorem dX8_cut_73 : decode cX8_cut 73 = .ok (.bipush 32, 2) := sorry
theorem dX8_cut_75 : decode cX8_cut 75 = .ok (.if_icmp .ne 9, 3) := sorry
theorem dX8_cut_78 : decode cX8_cut 78 = .ok (.iinc 3 1, 3) := sorry
theorem dX8_cut_81 : decode cX8_cut 81 = .ok (.goto (-33), 3) := sorry
theorem dX8_cut_84 : decode cX8_cut 84 = .ok (.aload_n 0, 1) := sorry
theorem dX8_cut_85 : decode cX8_cut 85 = .ok (.iload_n 3, 1) := sorry
theorem dX8_cut_86 : decode cX8_cut 86 = .ok (.invokevirtual 38, 3) := sorry
theorem dX8_cut_89 : decode cX8_cut 89 = .ok (.istore 6, 2) := sorry
theorem dX8_cut_91 : decode cX8_cut 91 = .ok (.aload_n 0, 1) := sorry
theorem dX8_cut_92 : decode cX8_cut 92 = .ok (.getfield 22, 3) := sorry
theorem dX8_cut_95 : decode cX8_cut 95 = .ok (.iload 5, 2) := sorry
theorem dX8_cut_97 : decode cX8_cut 97 = .ok (.aload_n 0, 1) := sorry
theorem dX8_cut_98 : decode cX8_cut 98 = .ok (.iload_n 3, 1) := sorry
theorem dX8_cut_99 : decode cX8_cut 99 = .ok (.iload 6, 2) := sorry
theorem dX8_cut_101 : decode cX8_cut 101 = .ok (.invokevirtual 42, 3) := sorry
theorem dX8_cut_104 : decode cX8_cut 104 = .ok (.iastore, 1) := sorry
theorem dX8_cut_105 : decode cX8_cut 105 = .ok (.aload_n 0, 1) := sorry
theorem dX8_cut_106 : decode cX8_cut 106 = .ok (.getfield 26, 3) := sorry
theorem dX8_cut_109 : decode cX8_cut 109 = .ok (.iload 5, 2) := sorry
theorem dX8_cut_111 : decode cX8_cut 111 = .ok (.iload_n 3, 1) := sorry
theorem dX8_cut_112 : decode cX8_cut 112 = .ok (.iastore, 1) := sorry
theorem dX8_cut_113 : decode cX8_cut 113 = .ok (.aload_n 0, 1) := sorry
theorem dX8_cut_114 : decode cX8_cut 114 = .ok (.getfield 29, 3) := sorry
theorem dX8_cut_117 : decode cX8_cut 117 = .ok (.iload 5, 2) := sorry
theorem dX8_cut_119 : decode cX8_cut 119 = .ok (.aload_n 0, 1) := sorry
theorem dX8_cut_120 : decode cX8_cut 120 = .ok (.getfield 22, 3) := sorry
theorem dX8_cut_123 : decode cX8_cut 123 = .ok (.iload 5, 2) := sorry
theorem dX8_cut_125 : decode cX8_cut 125 = .ok (.iaload, 1) := sorry
theorem dX8_cut_126 : decode cX8_cut 126 = .ok (.bipush 25, 2) := sorry
theorem dX8_cut_128 : decode cX8_cut 128 = .ok (.if_icmp .ne 13, 3) := sorry
theorem dX8_cut_131 : decode cX8_cut 131 = .ok (.aload_n 0, 1) := sorry
theorem dX8_cut_132 : decode cX8_cut 132 = .ok (.iload_n 3, 1) := sorry
theorem dX8_cut_133 : decode cX8_cut 133 = .ok (.iload 6, 2) := sorry
theorem dX8_cut_135 : decode cX8_cut 135 = .ok (.invokevirtual 45, 3) := sorry
theorem dX8_cut_138 : decode cX8_cut 138 = .ok (.goto 4, 3) := sorry
theorem dX8_cut_141 : decode cX8_cut 141 = .ok (.iconst 0, 1) := sorry
theorem dX8_cut_142 : decode cX8_cut 142 = .ok (.iastore, 1) := sorry
theorem dX8_cut_143 : decode cX8_cut 143 = .ok (.aload_n 0, 1) := sorry
theorem dX8_cut_144 : decode cX8_cut 144 = .ok (.iload 5, 2) := sorry
theorem dX8_cut_146 : decode cX8_cut 146 = .ok (.iconst 1, 1) := sorry
theorem dX8_cut_147 : decode cX8_cut 147 = .ok (.iadd, 1) := sorry
theorem dX8_cut_148 : decode cX8_cut 148 = .ok (.putfield 19, 3) := sorry
theorem dX8_cut_151 : decode cX8_cut 151 = .ok (.iload 6, 2) := sorry
theorem dX8_cut_153 : decode cX8_cut 153 = .ok (.istore_n 3, 1) := sorry
theorem dX8_cut_154 : decode cX8_cut 154 = .ok (.aload_n 0, 1) := sorry
theorem dX8_cut_155 : decode cX8_cut 155 = .ok (.getfield 22, 3) := sorry
theorem dX8_cut_158 : decode cX8_cut 158 = .ok (.iload 5, 2) := sorry
theorem dX8_cut_160 : decode cX8_cut 160 = .ok (.iaload, 1) := sorry
theorem dX8_cut_161 : decode cX8_cut 161 = .ok (.bipush 26, 2) := sorry
theorem dX8_cut_163 : decode cX8_cut 163 = .ok (.if_icmp .eq 19, 3) := sorry
theorem dX8_cut_166 : decode cX8_cut 166 = .ok (.aload_n 0, 1) := sorry
theorem dX8_cut_167 : decode cX8_cut 167 = .ok (.getfield 22, 3) := sorry
theorem dX8_cut_170 : decode cX8_cut 170 = .ok (.iload 5, 2) := sorry
theorem dX8_cut_172 : decode cX8_cut 172 = .ok (.iaload, 1) := sorry
theorem dX8_cut_173 : decode cX8_cut 173 = .ok (.bipush 27, 2) := sorry
theorem dX8_cut_175 : decode cX8_cut 175 = .ok (.if_icmp .eq 7, 3) := sorry
theorem dX8_cut_178 : decode cX8_cut 178 = .ok (.iconst 1, 1) := sorry
theorem dX8_cut_179 : decode cX8_cut 179 = .ok (.goto 4, 3) := sorry
theorem dX8_cut_182 : decode cX8_cut 182 = .ok (.iconst 0, 1) := sorry
theorem dX8_cut_183 : decode cX8_cut 183 = .ok (.istore 4, 2) := sorry
theorem dX8_cut_185 : decode cX8_cut 185 = .ok (.iinc 5 1, 3) := sorry
theorem dX8_cut_188 : decode cX8_cut 188 = .ok (.goto (-154), 3) := sorry
theorem dX8_cut_191 : decode cX8_cut 191 = .ok (.return_, 1) := sorry
theorem dX8_endOf_0 : decode cX8_endOf 0 = .ok (.iload_n 1, 1) := sorry
theorem dX8_endOf_1 : decode cX8_endOf 1 = .ok (.istore_n 2, 1) := sorry
theorem dX8_endOf_2 : decode cX8_endOf 2 = .ok (.aload_n 0, 1) := sorry
theorem dX8_endOf_3 : decode cX8_endOf 3 = .ok (.iload_n 1, 1) := sorry
theorem dX8_endOf_4 : decode cX8_endOf 4 = .ok (.invokevirtual 48, 3) := sorry
theorem dX8_endOf_7 : decode cX8_endOf 7 = .ok (.ifCond .eq 25, 3) := sorry
theorem dX8_endOf_10 : decode cX8_endOf 10 = .ok (.iload_n 2, 1) := sorry
theorem dX8_endOf_11 : decode cX8_endOf 11 = .ok (.aload_n 0, 1) := sorry
theorem dX8_endOf_12 : decode cX8_endOf 12 = .ok (.getfield 15, 3) := sorry
theorem dX8_endOf_15 : decode cX8_endOf 15 = .ok (.if_icmp .ge 58, 3) := sorry
theorem dX8_endOf_18 : decode cX8_endOf 18 = .ok (.aload_n 0, 1) := sorry
theorem dX8_endOf_19 : decode cX8_endOf 19 = .ok (.iload_n 2, 1) := sorry
theorem dX8_endOf_20 : decode cX8_endOf 20 = .ok (.invokevirtual 48, 3) := sorry
theorem dX8_endOf_23 : decode cX8_endOf 23 = .ok (.ifCond .eq 50, 3) := sorry
theorem dX8_endOf_26 : decode cX8_endOf 26 = .ok (.iinc 2 1, 3) := sorry
theorem dX8_endOf_29 : decode cX8_endOf 29 = .ok (.goto (-19), 3) := sorry
theorem dX8_endOf_32 : decode cX8_endOf 32 = .ok (.aload_n 0, 1) := sorry
theorem dX8_endOf_33 : decode cX8_endOf 33 = .ok (.iload_n 1, 1) := sorry
theorem dX8_endOf_34 : decode cX8_endOf 34 = .ok (.invokevirtual 52, 3) := sorry
theorem dX8_endOf_37 : decode cX8_endOf 37 = .ok (.ifCond .eq 25, 3) := sorry
theorem dX8_endOf_40 : decode cX8_endOf 40 = .ok (.iload_n 2, 1) := sorry
theorem dX8_endOf_41 : decode cX8_endOf 41 = .ok (.aload_n 0, 1) := sorry
theorem dX8_endOf_42 : decode cX8_endOf 42 = .ok (.getfield 15, 3) := sorry
theorem dX8_endOf_45 : decode cX8_endOf 45 = .ok (.if_icmp .ge 28, 3) := sorry
theorem dX8_endOf_48 : decode cX8_endOf 48 = .ok (.aload_n 0, 1) := sorry
theorem dX8_endOf_49 : decode cX8_endOf 49 = .ok (.iload_n 2, 1) := sorry
theorem dX8_endOf_50 : decode cX8_endOf 50 = .ok (.invokevirtual 52, 3) := sorry
theorem dX8_endOf_53 : decode cX8_endOf 53 = .ok (.ifCond .eq 20, 3) := sorry
theorem dX8_endOf_56 : decode cX8_endOf 56 = .ok (.iinc 2 1, 3) := sorry
theorem dX8_endOf_59 : decode cX8_endOf 59 = .ok (.goto (-19), 3) := sorry
theorem dX8_endOf_62 : decode cX8_endOf 62 = .ok (.iload_n 1, 1) := sorry
theorem dX8_endOf_63 : decode cX8_endOf 63 = .ok (.aload_n 0, 1) := sorry
theorem dX8_endOf_64 : decode cX8_endOf 64 = .ok (.getfield 15, 3) := sorry
theorem dX8_endOf_67 : decode cX8_endOf 67 = .ok (.if_icmp .ge 6, 3) := sorry
theorem dX8_endOf_70 : decode cX8_endOf 70 = .ok (.iinc 2 1, 3) := sorry
theorem dX8_endOf_73 : decode cX8_endOf 73 = .ok (.iload_n 2, 1) := sorry
theorem dX8_endOf_74 : decode cX8_endOf 74 = .ok (.ireturn, 1) := sorry
theorem dX8_isDigit_0 : decode cX8_isDigit 0 = .ok (.iload_n 1, 1) := sorry
theorem dX8_isDigit_1 : decode cX8_isDigit 1 = .ok (.aload_n 0, 1) := sorry
theorem dX8_isDigit_2 : decode cX8_isDigit 2 = .ok (.getfield 15, 3) := sorry
theorem dX8_isDigit_5 : decode cX8_isDigit 5 = .ok (.if_icmp .ge 29, 3) := sorry
theorem dX8_isDigit_8 : decode cX8_isDigit 8 = .ok (.aload_n 0, 1) := sorry
theorem dX8_isDigit_9 : decode cX8_isDigit 9 = .ok (.getfield 9, 3) := sorry
theorem dX8_isDigit_12 : decode cX8_isDigit 12 = .ok (.iload_n 1, 1) := sorry
theorem dX8_isDigit_13 : decode cX8_isDigit 13 = .ok (.baload, 1) := sorry
theorem dX8_isDigit_14 : decode cX8_isDigit 14 = .ok (.bipush 48, 2) := sorry
theorem dX8_isDigit_16 : decode cX8_isDigit 16 = .ok (.if_icmp .lt 18, 3) := sorry
theorem dX8_isDigit_19 : decode cX8_isDigit 19 = .ok (.aload_n 0, 1) := sorry
theorem dX8_isDigit_20 : decode cX8_isDigit 20 = .ok (.getfield 9, 3) := sorry
theorem dX8_isDigit_23 : decode cX8_isDigit 23 = .ok (.iload_n 1, 1) := sorry
theorem dX8_isDigit_24 : decode cX8_isDigit 24 = .ok (.baload, 1) := sorry
theorem dX8_isDigit_25 : decode cX8_isDigit 25 = .ok (.bipush 57, 2) := sorry
theorem dX8_isDigit_27 : decode cX8_isDigit 27 = .ok (.if_icmp .gt 7, 3) := sorry
theorem dX8_isDigit_30 : decode cX8_isDigit 30 = .ok (.iconst 1, 1) := sorry
theorem dX8_isDigit_31 : decode cX8_isDigit 31 = .ok (.goto 4, 3) := sorry
theorem dX8_isDigit_34 : decode cX8_isDigit 34 = .ok (.iconst 0, 1) := sorry
theorem dX8_isDigit_35 : decode cX8_isDigit 35 = .ok (.ireturn, 1) := sorry
theorem dX8_isLetter_0 : decode cX8_isLetter 0 = .ok (.iload_n 1, 1) := sorry
theorem dX8_isLetter_1 : decode cX8_isLetter 1 = .ok (.aload_n 0, 1) := sorry
theorem dX8_isLetter_2 : decode cX8_isLetter 2 = .ok (.getfield 15, 3) := sorry
theorem dX8_isLetter_5 : decode cX8_isLetter 5 = .ok (.if_icmp .ge 29, 3) := sorry
theorem dX8_isLetter_8 : decode cX8_isLetter 8 = .ok (.aload_n 0, 1) := sorry
theorem dX8_isLetter_9 : decode cX8_isLetter 9 = .ok (.getfield 9, 3) := sorry
theorem dX8_isLetter_12 : decode cX8_isLetter 12 = .ok (.iload_n 1, 1) := sorry
theorem dX8_isLetter_13 : decode cX8_isLetter 13 = .ok (.baload, 1) := sorry
theorem dX8_isLetter_14 : decode cX8_isLetter 14 = .ok (.bipush 97, 2) := sorry
theorem dX8_isLetter_16 : decode cX8_isLetter 16 = .ok (.if_icmp .lt 18, 3) := sorry
theorem dX8_isLetter_19 : decode cX8_isLetter 19 = .ok (.aload_n 0, 1) := sorry
theorem dX8_isLetter_20 : decode cX8_isLetter 20 = .ok (.getfield 9, 3) := sorry
theorem dX8_isLetter_23 : decode cX8_isLetter 23 = .ok (.iload_n 1, 1) := sorry
theorem dX8_isLetter_24 : decode cX8_isLetter 24 = .ok (.baload, 1) := sorry
theorem dX8_isLetter_25 : decode cX8_isLetter 25 = .ok (.bipush 122, 2) := sorry
theorem dX8_isLetter_27 : decode cX8_isLetter 27 = .ok (.if_icmp .gt 7, 3) := sorry
theorem dX8_isLetter_30 : decode cX8_isLetter 30 = .ok (.iconst 1, 1) := sorry
theorem dX8_isLetter_31 : decode cX8_isLetter 31 = .ok (.goto 4, 3) := sorry
theorem dX8_isLetter_34 : decode cX8_isLetter 34 = .ok (.iconst 0, 1) := sorry
theorem dX8_isLetter_35 : decode cX8_isLetter 35 = .ok (.ireturn, 1) := sorry
theorem dX8_isWritten_0 : decode cX8_isWritten 0 = .ok (.iconst 0, 1) := sorry
theorem dX8_isWritten_1 : decode cX8_isWritten 1 = .ok (.istore 4, 2) := sorry
theorem dX8_isWritten_3 : decode cX8_isWritten 3 = .ok (.iload 4, 2) := sorry
theorem dX8_isWritten_5 : decode cX8_isWritten 5 = .ok (.iload_n 3, 1) := sorry
theorem dX8_isWritten_6 : decode cX8_isWritten 6 = .ok (.if_icmp .ge 32, 3) := sorry
theorem dX8_isWritten_9 : decode cX8_isWritten 9 = .ok (.ldc 65, 2) := sorry
theorem dX8_isWritten_11 : decode cX8_isWritten 11 = .ok (.iload_n 1, 1) := sorry
theorem dX8_isWritten_12 : decode cX8_isWritten 12 = .ok (.iload 4, 2) := sorry
theorem dX8_isWritten_14 : decode cX8_isWritten 14 = .ok (.iadd, 1) := sorry
theorem dX8_isWritten_15 : decode cX8_isWritten 15 = .ok (.invokevirtual 70, 3) := sorry
theorem dX8_isWritten_18 : decode cX8_isWritten 18 = .ok (.aload_n 0, 1) := sorry
theorem dX8_isWritten_19 : decode cX8_isWritten 19 = .ok (.getfield 9, 3) := sorry
theorem dX8_isWritten_22 : decode cX8_isWritten 22 = .ok (.iload_n 2, 1) := sorry
theorem dX8_isWritten_23 : decode cX8_isWritten 23 = .ok (.iload 4, 2) := sorry
theorem dX8_isWritten_25 : decode cX8_isWritten 25 = .ok (.iadd, 1) := sorry
theorem dX8_isWritten_26 : decode cX8_isWritten 26 = .ok (.baload, 1) := sorry
theorem dX8_isWritten_27 : decode cX8_isWritten 27 = .ok (.if_icmp .eq 5, 3) := sorry
theorem dX8_isWritten_30 : decode cX8_isWritten 30 = .ok (.iconst 0, 1) := sorry
theorem dX8_isWritten_31 : decode cX8_isWritten 31 = .ok (.ireturn, 1) := sorry
theorem dX8_isWritten_32 : decode cX8_isWritten 32 = .ok (.iinc 4 1, 3) := sorry
theorem dX8_isWritten_35 : decode cX8_isWritten 35 = .ok (.goto (-32), 3) := sorry
theorem dX8_isWritten_38 : decode cX8_isWritten 38 = .ok (.iconst 1, 1) := sorry
theorem dX8_isWritten_39 : decode cX8_isWritten 39 = .ok (.ireturn, 1) := sorry
theorem dX8_kindOf_0 : decode cX8_kindOf 0 = .ok (.iload_n 1, 1) := sorry
theorem dX8_kindOf_1 : decode cX8_kindOf 1 = .ok (.aload_n 0, 1) := sorry
theorem dX8_kindOf_2 : decode cX8_kindOf 2 = .ok (.getfield 15, 3) := sorry
theorem dX8_kindOf_5 : decode cX8_kindOf 5 = .ok (.if_icmp .lt 6, 3) := sorry
theorem dX8_kindOf_8 : decode cX8_kindOf 8 = .ok (.bipush 26, 2) := sorry
theorem dX8_kindOf_10 : decode cX8_kindOf 10 = .ok (.ireturn, 1) := sorry
theorem dX8_kindOf_11 : decode cX8_kindOf 11 = .ok (.aload_n 0, 1) := sorry
theorem dX8_kindOf_12 : decode cX8_kindOf 12 = .ok (.iload_n 1, 1) := sorry
theorem dX8_kindOf_13 : decode cX8_kindOf 13 = .ok (.invokevirtual 48, 3) := sorry
theorem dX8_kindOf_16 : decode cX8_kindOf 16 = .ok (.ifCond .eq 10, 3) := sorry
theorem dX8_kindOf_19 : decode cX8_kindOf 19 = .ok (.aload_n 0, 1) := sorry
theorem dX8_kindOf_20 : decode cX8_kindOf 20 = .ok (.iload_n 1, 1) := sorry
theorem dX8_kindOf_21 : decode cX8_kindOf 21 = .ok (.iload_n 2, 1) := sorry
theorem dX8_kindOf_22 : decode cX8_kindOf 22 = .ok (.invokevirtual 55, 3) := sorry
theorem dX8_kindOf_25 : decode cX8_kindOf 25 = .ok (.ireturn, 1) := sorry
theorem dX8_kindOf_26 : decode cX8_kindOf 26 = .ok (.aload_n 0, 1) := sorry
theorem dX8_kindOf_27 : decode cX8_kindOf 27 = .ok (.iload_n 1, 1) := sorry
theorem dX8_kindOf_28 : decode cX8_kindOf 28 = .ok (.invokevirtual 52, 3) := sorry
theorem dX8_kindOf_31 : decode cX8_kindOf 31 = .ok (.ifCond .eq 18, 3) := sorry
theorem dX8_kindOf_34 : decode cX8_kindOf 34 = .ok (.iload_n 2, 1) := sorry
theorem dX8_kindOf_35 : decode cX8_kindOf 35 = .ok (.iload_n 1, 1) := sorry
theorem dX8_kindOf_36 : decode cX8_kindOf 36 = .ok (.isub, 1) := sorry
theorem dX8_kindOf_37 : decode cX8_kindOf 37 = .ok (.iconst 3, 1) := sorry
theorem dX8_kindOf_38 : decode cX8_kindOf 38 = .ok (.if_icmp .le 8, 3) := sorry
theorem dX8_kindOf_41 : decode cX8_kindOf 41 = .ok (.bipush 27, 2) := sorry
theorem dX8_kindOf_43 : decode cX8_kindOf 43 = .ok (.goto 5, 3) := sorry
theorem dX8_kindOf_46 : decode cX8_kindOf 46 = .ok (.bipush 25, 2) := sorry
theorem dX8_kindOf_48 : decode cX8_kindOf 48 = .ok (.ireturn, 1) := sorry
theorem dX8_kindOf_49 : decode cX8_kindOf 49 = .ok (.aload_n 0, 1) := sorry
theorem dX8_kindOf_50 : decode cX8_kindOf 50 = .ok (.getfield 9, 3) := sorry
theorem dX8_kindOf_53 : decode cX8_kindOf 53 = .ok (.iload_n 1, 1) := sorry
theorem dX8_kindOf_54 : decode cX8_kindOf 54 = .ok (.baload, 1) := sorry
theorem dX8_kindOf_55 : decode cX8_kindOf 55 = .ok (.sipush 255, 3) := sorry
theorem dX8_kindOf_58 : decode cX8_kindOf 58 = .ok (.iand, 1) := sorry
theorem dX8_kindOf_59 : decode cX8_kindOf 59 = .ok (.i2c, 1) := sorry
theorem dX8_kindOf_60 : decode cX8_kindOf 60 = .ok (.istore_n 3, 1) := sorry
theorem dX8_kindOf_61 : decode cX8_kindOf 61 = .ok (.ldc 58, 2) := sorry
theorem dX8_kindOf_63 : decode cX8_kindOf 63 = .ok (.iload_n 3, 1) := sorry
theorem dX8_kindOf_64 : decode cX8_kindOf 64 = .ok (.invokevirtual 60, 3) := sorry
theorem dX8_kindOf_67 : decode cX8_kindOf 67 = .ok (.ifCond .lt 7, 3) := sorry
theorem dX8_kindOf_70 : decode cX8_kindOf 70 = .ok (.iload_n 3, 1) := sorry
theorem dX8_kindOf_71 : decode cX8_kindOf 71 = .ok (.goto 5, 3) := sorry
theorem dX8_kindOf_74 : decode cX8_kindOf 74 = .ok (.bipush 27, 2) := sorry
theorem dX8_kindOf_76 : decode cX8_kindOf 76 = .ok (.ireturn, 1) := sorry
theorem dX8_valueOf_0 : decode cX8_valueOf 0 = .ok (.iconst 0, 1) := sorry
theorem dX8_valueOf_1 : decode cX8_valueOf 1 = .ok (.istore_n 3, 1) := sorry
theorem dX8_valueOf_2 : decode cX8_valueOf 2 = .ok (.iload_n 1, 1) := sorry
theorem dX8_valueOf_3 : decode cX8_valueOf 3 = .ok (.istore 4, 2) := sorry
theorem dX8_valueOf_5 : decode cX8_valueOf 5 = .ok (.iload 4, 2) := sorry
theorem dX8_valueOf_7 : decode cX8_valueOf 7 = .ok (.iload_n 2, 1) := sorry
theorem dX8_valueOf_8 : decode cX8_valueOf 8 = .ok (.if_icmp .ge 25, 3) := sorry
theorem dX8_valueOf_11 : decode cX8_valueOf 11 = .ok (.bipush 10, 2) := sorry
theorem dX8_valueOf_13 : decode cX8_valueOf 13 = .ok (.iload_n 3, 1) := sorry
theorem dX8_valueOf_14 : decode cX8_valueOf 14 = .ok (.imul, 1) := sorry
theorem dX8_valueOf_15 : decode cX8_valueOf 15 = .ok (.aload_n 0, 1) := sorry
theorem dX8_valueOf_16 : decode cX8_valueOf 16 = .ok (.getfield 9, 3) := sorry
theorem dX8_valueOf_19 : decode cX8_valueOf 19 = .ok (.iload 4, 2) := sorry
theorem dX8_valueOf_21 : decode cX8_valueOf 21 = .ok (.baload, 1) := sorry
theorem dX8_valueOf_22 : decode cX8_valueOf 22 = .ok (.iadd, 1) := sorry
theorem dX8_valueOf_23 : decode cX8_valueOf 23 = .ok (.bipush 48, 2) := sorry
theorem dX8_valueOf_25 : decode cX8_valueOf 25 = .ok (.isub, 1) := sorry
theorem dX8_valueOf_26 : decode cX8_valueOf 26 = .ok (.istore_n 3, 1) := sorry
theorem dX8_valueOf_27 : decode cX8_valueOf 27 = .ok (.iinc 4 1, 3) := sorry
theorem dX8_valueOf_30 : decode cX8_valueOf 30 = .ok (.goto (-25), 3) := sorry
theorem dX8_valueOf_33 : decode cX8_valueOf 33 = .ok (.iload_n 3, 1) := sorry
theorem dX8_valueOf_34 : decode cX8_valueOf 34 = .ok (.ireturn, 1) := sorry
theorem dX8_wordOf_0 : decode cX8_wordOf 0 = .ok (.iconst 0, 1) := sorry
theorem dX8_wordOf_1 : decode cX8_wordOf 1 = .ok (.istore_n 3, 1) := sorry
theorem dX8_wordOf_2 : decode cX8_wordOf 2 = .ok (.iconst 0, 1) := sorry
theorem dX8_wordOf_3 : decode cX8_wordOf 3 = .ok (.istore 4, 2) := sorry
theorem dX8_wordOf_5 : decode cX8_wordOf 5 = .ok (.iconst 0, 1) := sorry
theorem dX8_wordOf_6 : decode cX8_wordOf 6 = .ok (.istore 5, 2) := sorry
theorem dX8_wordOf_8 : decode cX8_wordOf 8 = .ok (.iload 5, 2) := sorry
theorem dX8_wordOf_10 : decode cX8_wordOf 10 = .ok (.ldc 65, 2) := sorry
theorem dX8_wordOf_12 : decode cX8_wordOf 12 = .ok (.invokevirtual 67, 3) := sorry
theorem dX8_wordOf_15 : decode cX8_wordOf 15 = .ok (.if_icmp .gt 66, 3) := sorry
theorem dX8_wordOf_18 : decode cX8_wordOf 18 = .ok (.iload 5, 2) := sorry
theorem dX8_wordOf_20 : decode cX8_wordOf 20 = .ok (.ldc 65, 2) := sorry
theorem dX8_wordOf_22 : decode cX8_wordOf 22 = .ok (.invokevirtual 67, 3) := sorry
theorem dX8_wordOf_25 : decode cX8_wordOf 25 = .ok (.if_icmp .eq 15, 3) := sorry
theorem dX8_wordOf_28 : decode cX8_wordOf 28 = .ok (.ldc 65, 2) := sorry
theorem dX8_wordOf_30 : decode cX8_wordOf 30 = .ok (.iload 5, 2) := sorry
theorem dX8_wordOf_32 : decode cX8_wordOf 32 = .ok (.invokevirtual 70, 3) := sorry
theorem dX8_wordOf_35 : decode cX8_wordOf 35 = .ok (.bipush 32, 2) := sorry
theorem dX8_wordOf_37 : decode cX8_wordOf 37 = .ok (.if_icmp .ne 38, 3) := sorry
theorem dX8_wordOf_40 : decode cX8_wordOf 40 = .ok (.iload 5, 2) := sorry
theorem dX8_wordOf_42 : decode cX8_wordOf 42 = .ok (.iload 4, 2) := sorry
theorem dX8_wordOf_44 : decode cX8_wordOf 44 = .ok (.isub, 1) := sorry
theorem dX8_wordOf_45 : decode cX8_wordOf 45 = .ok (.iload_n 2, 1) := sorry
theorem dX8_wordOf_46 : decode cX8_wordOf 46 = .ok (.iload_n 1, 1) := sorry
theorem dX8_wordOf_47 : decode cX8_wordOf 47 = .ok (.isub, 1) := sorry
theorem dX8_wordOf_48 : decode cX8_wordOf 48 = .ok (.if_icmp .ne 18, 3) := sorry
theorem dX8_wordOf_51 : decode cX8_wordOf 51 = .ok (.aload_n 0, 1) := sorry
theorem dX8_wordOf_52 : decode cX8_wordOf 52 = .ok (.iload 4, 2) := sorry
theorem dX8_wordOf_54 : decode cX8_wordOf 54 = .ok (.iload_n 1, 1) := sorry
theorem dX8_wordOf_55 : decode cX8_wordOf 55 = .ok (.iload_n 2, 1) := sorry
theorem dX8_wordOf_56 : decode cX8_wordOf 56 = .ok (.iload_n 1, 1) := sorry
theorem dX8_wordOf_57 : decode cX8_wordOf 57 = .ok (.isub, 1) := sorry
theorem dX8_wordOf_58 : decode cX8_wordOf 58 = .ok (.invokevirtual 74, 3) := sorry
theorem dX8_wordOf_61 : decode cX8_wordOf 61 = .ok (.ifCond .eq 5, 3) := sorry
theorem dX8_wordOf_64 : decode cX8_wordOf 64 = .ok (.iload_n 3, 1) := sorry
theorem dX8_wordOf_65 : decode cX8_wordOf 65 = .ok (.ireturn, 1) := sorry
theorem dX8_wordOf_66 : decode cX8_wordOf 66 = .ok (.iinc 3 1, 3) := sorry
theorem dX8_wordOf_69 : decode cX8_wordOf 69 = .ok (.iload 5, 2) := sorry
theorem dX8_wordOf_71 : decode cX8_wordOf 71 = .ok (.iconst 1, 1) := sorry
theorem dX8_wordOf_72 : decode cX8_wordOf 72 = .ok (.iadd, 1) := sorry
theorem dX8_wordOf_73 : decode cX8_wordOf 73 = .ok (.istore 4, 2) := sorry
theorem dX8_wordOf_75 : decode cX8_wordOf 75 = .ok (.iinc 5 1, 3) := sorry
theorem dX8_wordOf_78 : decode cX8_wordOf 78 = .ok (.goto (-70), 3) := sorry
theorem dX8_wordOf_81 : decode cX8_wordOf 81 = .ok (.bipush 24, 2) := sorry
theorem dX8_wordOf_83 : decode cX8_wordOf 83 = .ok (.ireturn, 1) := sorry
set_option maxHeartbeats 4000000 in
set_option maxRecDepth 100000 in
theorem gX8_isLetter_8387341 (l : Launch) (D : va_G) (cy : Nat → ClassId) (h0 : Nat) (h1 : Nat) (p0 : Int32) (p1 : Int32) (p2 : Int32) (w0 : Value) (w1 : Value) (w2 : Value) (f0 : Nat → Int32) (hp0 : 0 ≤ (p0).toInt ∧ (p0).toInt ≤ 900) (hp1 : 0 ≤ (p1).toInt ∧ (p1).toInt ≤ 900) (hp2 : 0 ≤ (p2).toInt ∧ (p2).toInt ≤ 901) (rf0 : TB f0) (sz : Nat) : MI l yX8_isLetter cX8_isLetter 2 .boolean { frames := 0, cells := 0, slots := 0, locals := 0 } [.ref h0, .int p0] D cy (wk_306333e60 cy h0 h1 p1 p2 w0 w1 w2 h1 f0) sz (fun r u => (0 ≤ r.toInt ∧ r.toInt ≤ 1) ∧ (((r : Int32).toInt = 1 ∧ (p0 : Int32).toInt < (p1 : Int32).toInt ∧ 97 ≤ (f0 (p0 : Int32).toNatClampNeg).toInt ∧ (f0 (p0 : Int32).toNatClampNeg).toInt ≤ 122) ∨ ((r : Int32).toInt = 0 ∧ ((p1 : Int32).toInt ≤ (p0 : Int32).toInt ∨ (f0 (p0 : Int32).toNatClampNeg).toInt < 97 ∨ 122 < (f0 (p0 : Int32).toNatClampNeg).toInt))) ∧ True) (fun u => (wk_306333e60 cy h0 h1 p1 p2 w0 w1 w2 h1 f0)) 0 0 := sorry
set_option maxHeartbeats 4000000 in
set_option maxRecDepth 100000 in
theorem gX8_isDigit_3cb7ca3 (l : Launch) (D : va_G) (cy : Nat → ClassId) (h0 : Nat) (h1 : Nat) (p0 : Int32) (p1 : Int32) (p2 : Int32) (w0 : Value) (w1 : Value) (w2 : Value) (f0 : Nat → Int32) (hp0 : 0 ≤ (p0).toInt ∧ (p0).toInt ≤ 900) (hp1 : 0 ≤ (p1).toInt ∧ (p1).toInt ≤ 900) (hp2 : 0 ≤ (p2).toInt ∧ (p2).toInt ≤ 901) (rf0 : TB f0) (sz : Nat) : MI l yX8_isDigit cX8_isDigit 2 .boolean { frames := 0, cells := 0, slots := 0, locals := 0 } [.ref h0, .int p0] D cy (wk_306333e60 cy h0 h1 p1 p2 w0 w1 w2 h1 f0) sz (fun r u => (0 ≤ r.toInt ∧ r.toInt ≤ 1) ∧ (((r : Int32).toInt = 1 ∧ (p0 : Int32).toInt < (p1 : Int32).toInt ∧ 48 ≤ (f0 (p0 : Int32).toNatClampNeg).toInt ∧ (f0 (p0 : Int32).toNatClampNeg).toInt ≤ 57) ∨ ((r : Int32).toInt = 0 ∧ ((p1 : Int32).toInt ≤ (p0 : Int32).toInt ∨ (f0 (p0 : Int32).toNatClampNeg).toInt < 48 ∨ 57 < (f0 (p0 : Int32).toNatClampNeg).toInt))) ∧ True) (fun u => (wk_306333e60 cy h0 h1 p1 p2 w0 w1 w2 h1 f0)) 0 0 := sorry
set_option maxHeartbeats 4000000 in
set_option maxRecDepth 100000 in
theorem gX8_endOf_4da79e2 (l : Launch) (D : va_G) (cy : Nat → ClassId) (h0 : Nat) (h1 : Nat) (p0 : Int32) (p1 : Int32) (p2 : Int32) (w0 : Value) (w1 : Value) (w2 : Value) (f0 : Nat → Int32) (hp0 : 0 ≤ (p0).toInt ∧ (p0).toInt ≤ 900) (hp1 : 0 ≤ (p1).toInt ∧ (p1).toInt ≤ 900) (hp2 : 0 ≤ (p2).toInt ∧ (p2).toInt ≤ 901) (rf0 : TB f0) (hpre0 : (p0 : Int32).toInt ≤ (p1 : Int32).toInt) (sz : Nat) : MI l yX8_endOf cX8_endOf 3 .int { frames := 1, cells := 0, slots := 0, locals := 21 } [.ref h0, .int p0] D cy (wk_306333e60 cy h0 h1 p1 p2 w0 w1 w2 h1 f0) sz (fun r u => (0 ≤ r.toInt ∧ r.toInt ≤ 900) ∧ (((p1 : Int32).toInt ≤ (p0 : Int32).toInt ∨ (p0 : Int32).toInt + 1 ≤ (r : Int32).toInt) ∧ (p0 : Int32).toInt ≤ (r : Int32).toInt ∧ (r : Int32).toInt ≤ (p1 : Int32).toInt) ∧ (ENE f0 (p1 : Int32).toInt (p0 : Int32).toInt (r : Int32).toInt) ∧ True) (fun u => (wk_306333e60 cy h0 h1 p1 p2 w0 w1 w2 h1 f0)) 0 0 := sorry
set_option maxHeartbeats 4000000 in
set_option maxRecDepth 100000 in
theorem gX8_isWritten_ab992fb (l : Launch) (D : va_G) (cy : Nat → ClassId) (h0 : Nat) (h1 : Nat) (p0 : Int32) (p1 : Int32) (p2 : Int32) (p3 : Int32) (p4 : Int32) (w0 : Value) (w1 : Value) (w2 : Value) (f0 : Nat → Int32) (hp0 : 0 ≤ (p0).toInt ∧ (p0).toInt ≤ 255) (hp1 : 0 ≤ (p1).toInt ∧ (p1).toInt ≤ 899) (hp2 : (-899) ≤ (p2).toInt ∧ (p2).toInt ≤ 900) (hp3 : 0 ≤ (p3).toInt ∧ (p3).toInt ≤ 900) (hp4 : 0 ≤ (p4).toInt ∧ (p4).toInt ≤ 901) (rf0 : TB f0) (hpre0 : (p0 : Int32).toInt + (p2 : Int32).toInt ≤ 128) (hpre1 : (p1 : Int32).toInt + (p2 : Int32).toInt ≤ 900) (sz : Nat) : MI l yX8_isWritten cX8_isWritten 5 .boolean { frames := 4, cells := 0, slots := 0, locals := 85 } [.ref h0, .int p0, .int p1, .int p2] D cy (wk_306333e60 cy h0 h1 p3 p4 w0 w1 w2 h1 f0) sz (fun r u => (0 ≤ r.toInt ∧ r.toInt ≤ 1) ∧ (WRY f0 (p0 : Int32).toInt (p1 : Int32).toInt (p2 : Int32).toInt (r : Int32).toInt) ∧ True) (fun u => (wk_306333e60 cy h0 h1 p3 p4 w0 w1 w2 h1 f0)) 0 0 := sorry
set_option maxHeartbeats 4000000 in
set_option maxRecDepth 100000 in
theorem gX8_wordOf_e4fcdd8 (l : Launch) (D : va_G) (cy : Nat → ClassId) (h0 : Nat) (h1 : Nat) (p0 : Int32) (p1 : Int32) (p2 : Int32) (p3 : Int32) (w0 : Value) (w1 : Value) (w2 : Value) (f0 : Nat → Int32) (hp0 : 0 ≤ (p0).toInt ∧ (p0).toInt ≤ 899) (hp1 : 0 ≤ (p1).toInt ∧ (p1).toInt ≤ 900) (hp2 : 0 ≤ (p2).toInt ∧ (p2).toInt ≤ 900) (hp3 : 0 ≤ (p3).toInt ∧ (p3).toInt ≤ 901) (rf0 : TB f0) (hpre0 : (p0 : Int32).toInt ≤ (p1 : Int32).toInt) (hpre1 : (p1 : Int32).toInt ≤ (p2 : Int32).toInt) (sz : Nat) : MI l yX8_wordOf cX8_wordOf 6 .int { frames := 5, cells := 0, slots := 0, locals := 109 } [.ref h0, .int p0, .int p1] D cy (wk_306333e60 cy h0 h1 p2 p3 w0 w1 w2 h1 f0) sz (fun r u => (0 ≤ r.toInt ∧ r.toInt ≤ 129) ∧ (WDE f0 (p0 : Int32).toInt (p1 : Int32).toInt (r : Int32).toInt) ∧ True) (fun u => (wk_306333e60 cy h0 h1 p2 p3 w0 w1 w2 h1 f0)) 0 0 := sorry
set_option maxHeartbeats 4000000 in
set_option maxRecDepth 100000 in
theorem gX8_kindOf_927c785 (l : Launch) (D : va_G) (cy : Nat → ClassId) (h0 : Nat) (h1 : Nat) (p0 : Int32) (p1 : Int32) (p2 : Int32) (p3 : Int32) (w0 : Value) (w1 : Value) (w2 : Value) (f0 : Nat → Int32) (hp0 : 0 ≤ (p0).toInt ∧ (p0).toInt ≤ 900) (hp1 : 0 ≤ (p1).toInt ∧ (p1).toInt ≤ 900) (hp2 : 0 ≤ (p2).toInt ∧ (p2).toInt ≤ 900) (hp3 : 0 ≤ (p3).toInt ∧ (p3).toInt ≤ 901) (rf0 : TB f0) (hpre0 : (p0 : Int32).toInt ≤ (p1 : Int32).toInt) (hpre1 : (p1 : Int32).toInt ≤ (p2 : Int32).toInt) (sz : Nat) : MI l yX8_kindOf cX8_kindOf 4 .int { frames := 6, cells := 0, slots := 0, locals := 134 } [.ref h0, .int p0, .int p1] D cy (wk_306333e60 cy h0 h1 p2 p3 w0 w1 w2 h1 f0) sz (fun r u => (0 ≤ r.toInt ∧ r.toInt ≤ 65535) ∧ ((r : Int32).toInt = 26 ∨ (p0 : Int32).toInt < (p2 : Int32).toInt) ∧ (KIE f0 (p2 : Int32).toInt (p0 : Int32).toInt (p1 : Int32).toInt (r : Int32).toInt) ∧ True) (fun u => (wk_306333e60 cy h0 h1 p2 p3 w0 w1 w2 h1 f0)) 0 0 := sorry
set_option maxHeartbeats 4000000 in
set_option maxRecDepth 100000 in
theorem gX8_valueOf_7ef071d (l : Launch) (D : va_G) (cy : Nat → ClassId) (h0 : Nat) (h1 : Nat) (p0 : Int32) (p1 : Int32) (p2 : Int32) (p3 : Int32) (w0 : Value) (w1 : Value) (w2 : Value) (f0 : Nat → Int32) (hp0 : 0 ≤ (p0).toInt ∧ (p0).toInt ≤ 900) (hp1 : 0 ≤ (p1).toInt ∧ (p1).toInt ≤ 900) (hp2 : 0 ≤ (p2).toInt ∧ (p2).toInt ≤ 900) (hp3 : 0 ≤ (p3).toInt ∧ (p3).toInt ≤ 901) (rf0 : TB f0) (hpre0 : (p0 : Int32).toInt ≤ (p1 : Int32).toInt) (hpre1 : (p1 : Int32).toInt ≤ (p2 : Int32).toInt) (hpre2 : SPN 48 57 f0 (p0 : Int32).toInt (p1 : Int32).toInt) (hpre3 : (p0 : Int32).toInt + 1 ≤ (p1 : Int32).toInt ∧ (p1 : Int32).toInt ≤ (p0 : Int32).toInt + 3) (sz : Nat) : MI l yX8_valueOf cX8_valueOf 5 .int { frames := 0, cells := 0, slots := 0, locals := 0 } [.ref h0, .int p0, .int p1] D cy (wk_306333e60 cy h0 h1 p2 p3 w0 w1 w2 h1 f0) sz (fun r u => (0 ≤ r.toInt ∧ r.toInt ≤ 999) ∧ (VLE f0 (p0 : Int32).toInt (p1 : Int32).toInt (r : Int32).toInt) ∧ True) (fun u => (wk_306333e60 cy h0 h1 p2 p3 w0 w1 w2 h1 f0)) 0 0 := sorry
set_option maxHeartbeats 4000000 in
set_option maxRecDepth 100000 in
theorem gX8_cut_7ab6d9e (l : Launch) (D : va_G) (cy : Nat → ClassId) (h0 : Nat) (h1 : Nat) (h2 : Nat) (h3 : Nat) (h4 : Nat) (p0 : Int32) (o0 : Option Nat) (p1 : Int32) (p2 : Int32) (f0 : Nat → Int32) (f1 : Nat → Int32) (f2 : Nat → Int32) (f3 : Nat → Int32) (hp0 : 0 ≤ (p0).toInt ∧ (p0).toInt ≤ 900) (hp1 : 0 ≤ (p1).toInt ∧ (p1).toInt ≤ 900) (hp2 : 0 ≤ (p2).toInt ∧ (p2).toInt ≤ 901) (rf3 : TB f3) (sz : Nat) : MV l yX8_cut cX8_cut 7 { frames := 7, cells := 0, slots := 0, locals := 157 } [.ref h0, .ref h4, .int p0] D cy (wk_fffe06ee4 cy h0 o0 p1 p2 h1 h2 h3 h1 f0 h2 f1 h3 f2 h4 f3) sz (fun u => (0 ≤ (u.2.1 0 0).toInt ∧ (u.2.1 0 0).toInt ≤ 900) ∧ (0 ≤ (u.2.1 1 0).toInt ∧ (u.2.1 1 0).toInt ≤ 901) ∧ (1 ≤ ((u.2.1 1 0) : Int32).toInt ∧ ((u.2.1 1 0) : Int32).toInt ≤ 901) ∧ (KZ (u.2.1 2) ((u.2.1 1 0) : Int32).toInt) ∧ (((u.2.1 1 0) : Int32).toInt ≤ (p0 : Int32).toInt + 1) ∧ (AGR (bB f3) ((p0 : Int32).toInt).toNat (u.2.1 2) (u.2.1 3) (u.2.1 4) ((u.2.1 1 0) : Int32).toInt) ∧ (((u.2.1 0 0) : Int32).toInt = (p0 : Int32).toInt) ∧ True) (fun u => (wk_9a29d5dcb cy h0 h4 (u.2.1 0 0) (u.2.1 1 0) h1 h2 h3 h1 (u.2.1 2) h2 (u.2.1 3) h3 (u.2.1 4) h4 f3)) 0 0 := sorry
set_option maxHeartbeats 4000000 in
set_option maxRecDepth 100000 in
theorem gX3_init_51a17bc (l : Launch) (D : va_G) (cy : Nat → ClassId) (h0 : Nat) (p0 : Int32) (p1 : Int32) (p2 : Int32) (p3 : Int32) (w0 : Value) (hp0 : 0 ≤ (p0).toInt ∧ (p0).toInt ≤ 0) (hp1 : 0 ≤ (p1).toInt ∧ (p1).toInt ≤ 0) (hp2 : 0 ≤ (p2).toInt ∧ (p2).toInt ≤ 0) (hp3 : 0 ≤ (p3).toInt ∧ (p3).toInt ≤ 0) (sz : Nat) : MV l yX3_init cX3_init 1 { frames := 1, cells := 5, slots := 50, locals := 12 } [.ref h0] D cy [(h0, .inr (3, [.int p0, .int p1, .int p2, .int p3, w0, w0, w0, w0, w0, w0, w0, w0]))] sz (fun u => (1 ≤ (u.2.1 0 0).toInt ∧ (u.2.1 0 0).toInt ≤ 1) ∧ (0 ≤ (u.2.1 1 0).toInt ∧ (u.2.1 1 0).toInt ≤ 0) ∧ (0 ≤ (u.2.1 2 0).toInt ∧ (u.2.1 2 0).toInt ≤ 0) ∧ (0 ≤ (u.2.1 3 0).toInt ∧ (u.2.1 3 0).toInt ≤ 0) ∧ True) (fun u => (wk_060e1226c cy h0 (u.2.1 0 0) (u.2.1 1 0) (u.2.1 2 0) (u.2.1 3 0) (u.1 0) (u.1 1) (u.1 2) (u.1 3) (u.1 4) (u.1 0) (fun _ => 0) (u.1 1) (fun _ => 0) (u.1 2) (fun _ => 0) (u.1 3) (fun _ => 0) (u.1 4) (fun _ => 0))) 5 50 := sorry
set_option maxHeartbeats 4000000 in
set_option maxRecDepth 100000 in
theorem gX5_advance_9820dfe (l : Launch) (D : va_G) (cy : Nat → ClassId) (h0 : Nat) (h1 : Nat) (h2 : Nat) (h3 : Nat) (p0 : Int32) (p1 : Int32) (p2 : Int32) (p3 : Int32) (w0 : Value) (w1 : Value) (p4 : Int32) (p5 : Int32) (w2 : Value) (p6 : Int32) (p7 : Int32) (w3 : Value) (f0 : Nat → Int32) (f1 : Nat → Int32) (hp0 : (-1) ≤ (p0).toInt ∧ (p0).toInt ≤ 900) (hp1 : (-2147483648) ≤ (p1).toInt ∧ (p1).toInt ≤ 2147483647) (hp2 : (-2147483648) ≤ (p2).toInt ∧ (p2).toInt ≤ 2147483647) (hp3 : (-2147483648) ≤ (p3).toInt ∧ (p3).toInt ≤ 2147483647) (hp4 : 0 ≤ (p4).toInt ∧ (p4).toInt ≤ 900) (hp5 : (-2147483648) ≤ (p5).toInt ∧ (p5).toInt ≤ 2147483647) (hp6 : 0 ≤ (p6).toInt ∧ (p6).toInt ≤ 900) (hp7 : 0 ≤ (p7).toInt ∧ (p7).toInt ≤ 901) (hpre0 : KZ f0 (p7 : Int32).toInt) (hpre1 : (p2 : Int32).toInt = 0 ∨ (p1 : Int32).toInt = 27) (hpre2 : -1 ≤ (p0 : Int32).toInt ∧ (p0 : Int32).toInt < (p7 : Int32).toInt ∧ 1 ≤ (p7 : Int32).toInt ∧ ((p2 : Int32).toInt = 0 ∨ 0 ≤ (p0 : Int32).toInt)) (sz : Nat) : MV l yX5_advance cX5_advance 1 { frames := 0, cells := 0, slots := 0, locals := 0 } [.ref h0] D cy (wk_8964b4ae4 cy h0 h1 p0 p1 p2 p3 w0 w1 p4 p5 h1 w2 p6 p7 h2 h3 w3 h2 f0 h3 f1) sz (fun u => ((-1) ≤ (u.2.1 0 0).toInt ∧ (u.2.1 0 0).toInt ≤ 900) ∧ ((-2147483648) ≤ (u.2.1 1 0).toInt ∧ (u.2.1 1 0).toInt ≤ 2147483647) ∧ ((-2147483648) ≤ (u.2.1 2 0).toInt ∧ (u.2.1 2 0).toInt ≤ 2147483647) ∧ ((-2147483648) ≤ (u.2.1 3 0).toInt ∧ (u.2.1 3 0).toInt ≤ 2147483647) ∧ (0 ≤ ((u.2.1 0 0) : Int32).toInt ∧ ((u.2.1 0 0) : Int32).toInt < (p7 : Int32).toInt) ∧ ((p2 : Int32).toInt ≠ 0 ∨ ((u.2.1 0 0) : Int32).toInt = (p0 : Int32).toInt + 1 ∨ (((u.2.1 0 0) : Int32).toInt = (p0 : Int32).toInt ∧ (p7 : Int32).toInt ≤ (p0 : Int32).toInt + 1)) ∧ (((u.2.1 2 0) : Int32).toInt ≠ 0 ∨ (p2 : Int32).toInt = 0) ∧ ((p0 : Int32).toInt ≤ ((u.2.1 0 0) : Int32).toInt) ∧ ((((u.2.1 2 0) : Int32).toInt ≠ 0 ∨ ((u.2.1 1 0) : Int32).toInt = 26 ∨ ((u.2.1 1 0) : Int32).toInt = 27 ∨ ((u.2.1 0 0) : Int32).toInt + 1 < (p7 : Int32).toInt) ∨ (((u.2.1 0 0) : Int32).toInt = (p0 : Int32).toInt ∧ ((u.2.1 1 0) : Int32).toInt = (p1 : Int32).toInt ∧ ((u.2.1 2 0) : Int32).toInt = (p2 : Int32).toInt)) ∧ (((u.2.1 2 0) : Int32).toInt = 0 ∨ ((u.2.1 1 0) : Int32).toInt = 27) ∧ (ADVR f0 f1 (p7 : Int32).toInt (p0 : Int32).toInt (p1 : Int32).toInt (p2 : Int32).toInt (p3 : Int32).toInt ((u.2.1 0 0) : Int32).toInt ((u.2.1 1 0) : Int32).toInt ((u.2.1 2 0) : Int32).toInt ((u.2.1 3 0) : Int32).toInt) ∧ True) (fun u => (wk_8964b4ae4 cy h0 h1 (u.2.1 0 0) (u.2.1 1 0) (u.2.1 2 0) (u.2.1 3 0) w0 w1 p4 p5 h1 w2 p6 p7 h2 h3 w3 h2 f0 h3 f1)) 0 0 := sorry
set_option maxHeartbeats 4000000 in
set_option maxRecDepth 100000 in
theorem gX5_refuse_067fcff (l : Launch) (D : va_G) (cy : Nat → ClassId) (h0 : Nat) (h1 : Nat) (h2 : Nat) (p0 : Int32) (p1 : Int32) (p2 : Int32) (p3 : Int32) (w0 : Value) (w1 : Value) (p4 : Int32) (p5 : Int32) (w2 : Value) (p6 : Int32) (p7 : Int32) (w3 : Value) (w4 : Value) (f0 : Nat → Int32) (hp0 : (-1) ≤ (p0).toInt ∧ (p0).toInt ≤ 900) (hp1 : (-2147483648) ≤ (p1).toInt ∧ (p1).toInt ≤ 2147483647) (hp2 : (-2147483648) ≤ (p2).toInt ∧ (p2).toInt ≤ 2147483647) (hp3 : (-2147483648) ≤ (p3).toInt ∧ (p3).toInt ≤ 2147483647) (hp4 : 0 ≤ (p4).toInt ∧ (p4).toInt ≤ 900) (hp5 : (-2147483648) ≤ (p5).toInt ∧ (p5).toInt ≤ 2147483647) (hp6 : 0 ≤ (p6).toInt ∧ (p6).toInt ≤ 900) (hp7 : 0 ≤ (p7).toInt ∧ (p7).toInt ≤ 901) (hpre0 : 0 ≤ (p0 : Int32).toInt ∧ (p0 : Int32).toInt < (p7 : Int32).toInt) (hpre1 : (p2 : Int32).toInt = 0 ∨ (p1 : Int32).toInt = 27) (hpre2 : 1 ≤ (2 : Int32).toInt) (sz : Nat) : MV l yX5_refuse cX5_refuse 2 { frames := 0, cells := 0, slots := 0, locals := 0 } [.ref h0, .int 2] D cy (wk_5bbb9e4d3 cy h0 h1 p0 p1 p2 p3 w0 w1 p4 p5 h1 w2 p6 p7 w3 h2 w4 h2 f0) sz (fun u => ((-2147483648) ≤ (u.2.1 0 0).toInt ∧ (u.2.1 0 0).toInt ≤ 2147483647) ∧ ((-2147483648) ≤ (u.2.1 1 0).toInt ∧ (u.2.1 1 0).toInt ≤ 2147483647) ∧ ((-2147483648) ≤ (u.2.1 2 0).toInt ∧ (u.2.1 2 0).toInt ≤ 2147483647) ∧ (((u.2.1 1 0) : Int32).toInt ≠ 0) ∧ (((u.2.1 1 0) : Int32).toInt = 0 ∨ ((u.2.1 0 0) : Int32).toInt = 27) ∧ (∀ (kk vv : Nat → Int32), SIM kk f0 vv (p7 : Int32).toInt (fun b n i => er b n 2 i) (p0 : Int32).toInt (p1 : Int32).toInt (p2 : Int32).toInt (p3 : Int32).toInt (p0 : Int32).toInt ((u.2.1 0 0) : Int32).toInt ((u.2.1 1 0) : Int32).toInt ((u.2.1 2 0) : Int32).toInt) ∧ True) (fun u => (wk_5bbb9e4d3 cy h0 h1 p0 (u.2.1 0 0) (u.2.1 1 0) (u.2.1 2 0) w0 w1 p4 p5 h1 w2 p6 p7 w3 h2 w4 h2 f0)) 0 0 := sorry
set_option maxHeartbeats 4000000 in
set_option maxRecDepth 100000 in
theorem gX5_take_b81c5b0 (l : Launch) (D : va_G) (cy : Nat → ClassId) (h0 : Nat) (h1 : Nat) (h2 : Nat) (h3 : Nat) (p0 : Int32) (p1 : Int32) (p2 : Int32) (p3 : Int32) (w0 : Value) (w1 : Value) (p4 : Int32) (p5 : Int32) (w2 : Value) (p6 : Int32) (p7 : Int32) (w3 : Value) (f0 : Nat → Int32) (f1 : Nat → Int32) (hp0 : (-1) ≤ (p0).toInt ∧ (p0).toInt ≤ 900) (hp1 : (-2147483648) ≤ (p1).toInt ∧ (p1).toInt ≤ 2147483647) (hp2 : (-2147483648) ≤ (p2).toInt ∧ (p2).toInt ≤ 2147483647) (hp3 : (-2147483648) ≤ (p3).toInt ∧ (p3).toInt ≤ 2147483647) (hp4 : 0 ≤ (p4).toInt ∧ (p4).toInt ≤ 900) (hp5 : (-2147483648) ≤ (p5).toInt ∧ (p5).toInt ≤ 2147483647) (hp6 : 0 ≤ (p6).toInt ∧ (p6).toInt ≤ 900) (hp7 : 0 ≤ (p7).toInt ∧ (p7).toInt ≤ 901) (hpre0 : KZ f0 (p7 : Int32).toInt) (hpre1 : 0 ≤ (p0 : Int32).toInt ∧ (p0 : Int32).toInt < (p7 : Int32).toInt) (hpre2 : (p2 : Int32).toInt ≠ 0 ∨ (p1 : Int32).toInt = 26 ∨ (p1 : Int32).toInt = 27 ∨ (p0 : Int32).toInt + 1 < (p7 : Int32).toInt) (hpre3 : (p2 : Int32).toInt = 0 ∨ (p1 : Int32).toInt = 27) (hpre4 : (11 : Int32).toInt ≠ 26 ∧ (11 : Int32).toInt ≠ 27) (sz : Nat) : MV l yX5_take cX5_take 2 { frames := 1, cells := 0, slots := 0, locals := 21 } [.ref h0, .int 11] D cy (wk_8964b4ae4 cy h0 h1 p0 p1 p2 p3 w0 w1 p4 p5 h1 w2 p6 p7 h2 h3 w3 h2 f0 h3 f1) sz (fun u => ((-2147483648) ≤ (u.2.1 0 0).toInt ∧ (u.2.1 0 0).toInt ≤ 2147483647) ∧ ((-2147483648) ≤ (u.2.1 1 0).toInt ∧ (u.2.1 1 0).toInt ≤ 2147483647) ∧ ((-2147483648) ≤ (u.2.1 2 0).toInt ∧ (u.2.1 2 0).toInt ≤ 2147483647) ∧ ((-1) ≤ (u.2.1 3 0).toInt ∧ (u.2.1 3 0).toInt ≤ 900) ∧ (0 ≤ ((u.2.1 3 0) : Int32).toInt ∧ ((u.2.1 3 0) : Int32).toInt < (p7 : Int32).toInt) ∧ (((u.2.1 1 0) : Int32).toInt ≠ 0 ∨ ((u.2.1 0 0) : Int32).toInt = 26 ∨ ((u.2.1 0 0) : Int32).toInt = 27 ∨ ((u.2.1 3 0) : Int32).toInt + 1 < (p7 : Int32).toInt) ∧ (((u.2.1 1 0) : Int32).toInt ≠ 0 ∨ ((u.2.1 3 0) : Int32).toInt = (p0 : Int32).toInt + 1) ∧ (((u.2.1 1 0) : Int32).toInt ≠ 0 ∨ (p2 : Int32).toInt = 0) ∧ (((u.2.1 1 0) : Int32).toInt = 0 ∨ ((u.2.1 0 0) : Int32).toInt = 27) ∧ ((p0 : Int32).toInt ≤ ((u.2.1 3 0) : Int32).toInt) ∧ (∀ vv : Nat → Int32, SIM f0 f1 vv (p7 : Int32).toInt (tak 11) (p0 : Int32).toInt (p1 : Int32).toInt (p2 : Int32).toInt (p3 : Int32).toInt ((u.2.1 3 0) : Int32).toInt ((u.2.1 0 0) : Int32).toInt ((u.2.1 1 0) : Int32).toInt ((u.2.1 2 0) : Int32).toInt) ∧ True) (fun u => (wk_8964b4ae4 cy h0 h1 (u.2.1 3 0) (u.2.1 0 0) (u.2.1 1 0) (u.2.1 2 0) w0 w1 p4 p5 h1 w2 p6 p7 h2 h3 w3 h2 f0 h3 f1)) 0 0 := sorry
set_option maxHeartbeats 4000000 in
set_option maxRecDepth 100000 in
theorem gX5_take_b74706d (l : Launch) (D : va_G) (cy : Nat → ClassId) (h0 : Nat) (h1 : Nat) (h2 : Nat) (h3 : Nat) (p0 : Int32) (p1 : Int32) (p2 : Int32) (p3 : Int32) (w0 : Value) (w1 : Value) (p4 : Int32) (p5 : Int32) (w2 : Value) (p6 : Int32) (p7 : Int32) (w3 : Value) (f0 : Nat → Int32) (f1 : Nat → Int32) (hp0 : (-1) ≤ (p0).toInt ∧ (p0).toInt ≤ 900) (hp1 : (-2147483648) ≤ (p1).toInt ∧ (p1).toInt ≤ 2147483647) (hp2 : (-2147483648) ≤ (p2).toInt ∧ (p2).toInt ≤ 2147483647) (hp3 : (-2147483648) ≤ (p3).toInt ∧ (p3).toInt ≤ 2147483647) (hp4 : 0 ≤ (p4).toInt ∧ (p4).toInt ≤ 900) (hp5 : (-2147483648) ≤ (p5).toInt ∧ (p5).toInt ≤ 2147483647) (hp6 : 0 ≤ (p6).toInt ∧ (p6).toInt ≤ 900) (hp7 : 0 ≤ (p7).toInt ∧ (p7).toInt ≤ 901) (hpre0 : KZ f0 (p7 : Int32).toInt) (hpre1 : 0 ≤ (p0 : Int32).toInt ∧ (p0 : Int32).toInt < (p7 : Int32).toInt) (hpre2 : (p2 : Int32).toInt ≠ 0 ∨ (p1 : Int32).toInt = 26 ∨ (p1 : Int32).toInt = 27 ∨ (p0 : Int32).toInt + 1 < (p7 : Int32).toInt) (hpre3 : (p2 : Int32).toInt = 0 ∨ (p1 : Int32).toInt = 27) (hpre4 : (12 : Int32).toInt ≠ 26 ∧ (12 : Int32).toInt ≠ 27) (sz : Nat) : MV l yX5_take cX5_take 2 { frames := 1, cells := 0, slots := 0, locals := 21 } [.ref h0, .int 12] D cy (wk_8964b4ae4 cy h0 h1 p0 p1 p2 p3 w0 w1 p4 p5 h1 w2 p6 p7 h2 h3 w3 h2 f0 h3 f1) sz (fun u => ((-2147483648) ≤ (u.2.1 0 0).toInt ∧ (u.2.1 0 0).toInt ≤ 2147483647) ∧ ((-2147483648) ≤ (u.2.1 1 0).toInt ∧ (u.2.1 1 0).toInt ≤ 2147483647) ∧ ((-2147483648) ≤ (u.2.1 2 0).toInt ∧ (u.2.1 2 0).toInt ≤ 2147483647) ∧ ((-1) ≤ (u.2.1 3 0).toInt ∧ (u.2.1 3 0).toInt ≤ 900) ∧ (0 ≤ ((u.2.1 3 0) : Int32).toInt ∧ ((u.2.1 3 0) : Int32).toInt < (p7 : Int32).toInt) ∧ (((u.2.1 1 0) : Int32).toInt ≠ 0 ∨ ((u.2.1 0 0) : Int32).toInt = 26 ∨ ((u.2.1 0 0) : Int32).toInt = 27 ∨ ((u.2.1 3 0) : Int32).toInt + 1 < (p7 : Int32).toInt) ∧ (((u.2.1 1 0) : Int32).toInt ≠ 0 ∨ ((u.2.1 3 0) : Int32).toInt = (p0 : Int32).toInt + 1) ∧ (((u.2.1 1 0) : Int32).toInt ≠ 0 ∨ (p2 : Int32).toInt = 0) ∧ (((u.2.1 1 0) : Int32).toInt = 0 ∨ ((u.2.1 0 0) : Int32).toInt = 27) ∧ ((p0 : Int32).toInt ≤ ((u.2.1 3 0) : Int32).toInt) ∧ (∀ vv : Nat → Int32, SIM f0 f1 vv (p7 : Int32).toInt (tak 12) (p0 : Int32).toInt (p1 : Int32).toInt (p2 : Int32).toInt (p3 : Int32).toInt ((u.2.1 3 0) : Int32).toInt ((u.2.1 0 0) : Int32).toInt ((u.2.1 1 0) : Int32).toInt ((u.2.1 2 0) : Int32).toInt) ∧ True) (fun u => (wk_8964b4ae4 cy h0 h1 (u.2.1 3 0) (u.2.1 0 0) (u.2.1 1 0) (u.2.1 2 0) w0 w1 p4 p5 h1 w2 p6 p7 h2 h3 w3 h2 f0 h3 f1)) 0 0 := sorry
set_option maxHeartbeats 4000000 in
set_option maxRecDepth 100000 in
theorem gX5_refuse_3ecba60 (l : Launch) (D : va_G) (cy : Nat → ClassId) (h0 : Nat) (h1 : Nat) (h2 : Nat) (p0 : Int32) (p1 : Int32) (p2 : Int32) (p3 : Int32) (w0 : Value) (w1 : Value) (p4 : Int32) (p5 : Int32) (w2 : Value) (p6 : Int32) (p7 : Int32) (w3 : Value) (w4 : Value) (f0 : Nat → Int32) (hp0 : (-1) ≤ (p0).toInt ∧ (p0).toInt ≤ 900) (hp1 : (-2147483648) ≤ (p1).toInt ∧ (p1).toInt ≤ 2147483647) (hp2 : (-2147483648) ≤ (p2).toInt ∧ (p2).toInt ≤ 2147483647) (hp3 : (-2147483648) ≤ (p3).toInt ∧ (p3).toInt ≤ 2147483647) (hp4 : 0 ≤ (p4).toInt ∧ (p4).toInt ≤ 900) (hp5 : (-2147483648) ≤ (p5).toInt ∧ (p5).toInt ≤ 2147483647) (hp6 : 0 ≤ (p6).toInt ∧ (p6).toInt ≤ 900) (hp7 : 0 ≤ (p7).toInt ∧ (p7).toInt ≤ 901) (hpre0 : 0 ≤ (p0 : Int32).toInt ∧ (p0 : Int32).toInt < (p7 : Int32).toInt) (hpre1 : (p2 : Int32).toInt = 0 ∨ (p1 : Int32).toInt = 27) (hpre2 : 1 ≤ (3 : Int32).toInt) (sz : Nat) : MV l yX5_refuse cX5_refuse 2 { frames := 0, cells := 0, slots := 0, locals := 0 } [.ref h0, .int 3] D cy (wk_5bbb9e4d3 cy h0 h1 p0 p1 p2 p3 w0 w1 p4 p5 h1 w2 p6 p7 w3 h2 w4 h2 f0) sz (fun u => ((-2147483648) ≤ (u.2.1 0 0).toInt ∧ (u.2.1 0 0).toInt ≤ 2147483647) ∧ ((-2147483648) ≤ (u.2.1 1 0).toInt ∧ (u.2.1 1 0).toInt ≤ 2147483647) ∧ ((-2147483648) ≤ (u.2.1 2 0).toInt ∧ (u.2.1 2 0).toInt ≤ 2147483647) ∧ (((u.2.1 1 0) : Int32).toInt ≠ 0) ∧ (((u.2.1 1 0) : Int32).toInt = 0 ∨ ((u.2.1 0 0) : Int32).toInt = 27) ∧ (∀ (kk vv : Nat → Int32), SIM kk f0 vv (p7 : Int32).toInt (fun b n i => er b n 3 i) (p0 : Int32).toInt (p1 : Int32).toInt (p2 : Int32).toInt (p3 : Int32).toInt (p0 : Int32).toInt ((u.2.1 0 0) : Int32).toInt ((u.2.1 1 0) : Int32).toInt ((u.2.1 2 0) : Int32).toInt) ∧ True) (fun u => (wk_5bbb9e4d3 cy h0 h1 p0 (u.2.1 0 0) (u.2.1 1 0) (u.2.1 2 0) w0 w1 p4 p5 h1 w2 p6 p7 w3 h2 w4 h2 f0)) 0 0 := sorry
set_option maxHeartbeats 4000000 in
set_option maxRecDepth 100000 in
theorem gX5_takeNumber_68d9e2c (l : Launch) (D : va_G) (cy : Nat → ClassId) (h0 : Nat) (h1 : Nat) (h2 : Nat) (h3 : Nat) (h4 : Nat) (p0 : Int32) (p1 : Int32) (p2 : Int32) (p3 : Int32) (w0 : Value) (w1 : Value) (p4 : Int32) (p5 : Int32) (w2 : Value) (p6 : Int32) (p7 : Int32) (f0 : Nat → Int32) (f1 : Nat → Int32) (f2 : Nat → Int32) (hp0 : (-1) ≤ (p0).toInt ∧ (p0).toInt ≤ 900) (hp1 : (-2147483648) ≤ (p1).toInt ∧ (p1).toInt ≤ 2147483647) (hp2 : (-2147483648) ≤ (p2).toInt ∧ (p2).toInt ≤ 2147483647) (hp3 : (-2147483648) ≤ (p3).toInt ∧ (p3).toInt ≤ 2147483647) (hp4 : 0 ≤ (p4).toInt ∧ (p4).toInt ≤ 900) (hp5 : (-2147483648) ≤ (p5).toInt ∧ (p5).toInt ≤ 2147483647) (hp6 : 0 ≤ (p6).toInt ∧ (p6).toInt ≤ 900) (hp7 : 0 ≤ (p7).toInt ∧ (p7).toInt ≤ 901) (hpre0 : KZ f0 (p7 : Int32).toInt) (hpre1 : 0 ≤ (p0 : Int32).toInt ∧ (p0 : Int32).toInt < (p7 : Int32).toInt) (hpre2 : (p2 : Int32).toInt ≠ 0 ∨ (p1 : Int32).toInt = 26 ∨ (p1 : Int32).toInt = 27 ∨ (p0 : Int32).toInt + 1 < (p7 : Int32).toInt) (hpre3 : (p2 : Int32).toInt = 0 ∨ (p1 : Int32).toInt = 27) (sz : Nat) : MI l yX5_takeNumber cX5_takeNumber 4 .int { frames := 1, cells := 0, slots := 0, locals := 21 } [.ref h0, .int 1, .int 3] D cy (wk_aa6ee0650 cy h0 h1 p0 p1 p2 p3 w0 w1 p4 p5 h1 w2 p6 p7 h2 h3 h4 h2 f0 h3 f1 h4 f2) sz (fun r u => (1 ≤ r.toInt ∧ r.toInt ≤ 3) ∧ ((-2147483648) ≤ (u.2.1 0 0).toInt ∧ (u.2.1 0 0).toInt ≤ 2147483647) ∧ ((-2147483648) ≤ (u.2.1 1 0).toInt ∧ (u.2.1 1 0).toInt ≤ 2147483647) ∧ ((-2147483648) ≤ (u.2.1 2 0).toInt ∧ (u.2.1 2 0).toInt ≤ 2147483647) ∧ ((-1) ≤ (u.2.1 3 0).toInt ∧ (u.2.1 3 0).toInt ≤ 900) ∧ (0 ≤ ((u.2.1 3 0) : Int32).toInt ∧ ((u.2.1 3 0) : Int32).toInt < (p7 : Int32).toInt) ∧ (((u.2.1 1 0) : Int32).toInt ≠ 0 ∨ ((u.2.1 0 0) : Int32).toInt = 26 ∨ ((u.2.1 0 0) : Int32).toInt = 27 ∨ ((u.2.1 3 0) : Int32).toInt + 1 < (p7 : Int32).toInt) ∧ (((u.2.1 1 0) : Int32).toInt ≠ 0 ∨ ((u.2.1 3 0) : Int32).toInt = (p0 : Int32).toInt + 1) ∧ (((u.2.1 1 0) : Int32).toInt ≠ 0 ∨ (p2 : Int32).toInt = 0) ∧ (((u.2.1 1 0) : Int32).toInt = 0 ∨ ((u.2.1 0 0) : Int32).toInt = 27) ∧ ((p0 : Int32).toInt ≤ ((u.2.1 3 0) : Int32).toInt) ∧ (SIM f0 f1 f2 (p7 : Int32).toInt (num 1 3) (p0 : Int32).toInt (p1 : Int32).toInt (p2 : Int32).toInt (p3 : Int32).toInt ((u.2.1 3 0) : Int32).toInt ((u.2.1 0 0) : Int32).toInt ((u.2.1 1 0) : Int32).toInt ((u.2.1 2 0) : Int32).toInt) ∧ (NMP ((u.2.1 1 0) : Int32).toInt (p1 : Int32).toInt (r : Int32).toInt (f2 ((p0 : Int32).toInt).toNat).toInt) ∧ True) (fun u => (wk_aa6ee0650 cy h0 h1 (u.2.1 3 0) (u.2.1 0 0) (u.2.1 1 0) (u.2.1 2 0) w0 w1 p4 p5 h1 w2 p6 p7 h2 h3 h4 h2 f0 h3 f1 h4 f2)) 0 0 := sorry
set_option maxHeartbeats 4000000 in
set_option maxRecDepth 100000 in
theorem gX5_take_4365b58 (l : Launch) (D : va_G) (cy : Nat → ClassId) (h0 : Nat) (h1 : Nat) (h2 : Nat) (h3 : Nat) (p0 : Int32) (p1 : Int32) (p2 : Int32) (p3 : Int32) (w0 : Value) (w1 : Value) (p4 : Int32) (p5 : Int32) (w2 : Value) (p6 : Int32) (p7 : Int32) (w3 : Value) (f0 : Nat → Int32) (f1 : Nat → Int32) (hp0 : (-1) ≤ (p0).toInt ∧ (p0).toInt ≤ 900) (hp1 : (-2147483648) ≤ (p1).toInt ∧ (p1).toInt ≤ 2147483647) (hp2 : (-2147483648) ≤ (p2).toInt ∧ (p2).toInt ≤ 2147483647) (hp3 : (-2147483648) ≤ (p3).toInt ∧ (p3).toInt ≤ 2147483647) (hp4 : 0 ≤ (p4).toInt ∧ (p4).toInt ≤ 900) (hp5 : (-2147483648) ≤ (p5).toInt ∧ (p5).toInt ≤ 2147483647) (hp6 : 0 ≤ (p6).toInt ∧ (p6).toInt ≤ 900) (hp7 : 0 ≤ (p7).toInt ∧ (p7).toInt ≤ 901) (hpre0 : KZ f0 (p7 : Int32).toInt) (hpre1 : 0 ≤ (p0 : Int32).toInt ∧ (p0 : Int32).toInt < (p7 : Int32).toInt) (hpre2 : (p2 : Int32).toInt ≠ 0 ∨ (p1 : Int32).toInt = 26 ∨ (p1 : Int32).toInt = 27 ∨ (p0 : Int32).toInt + 1 < (p7 : Int32).toInt) (hpre3 : (p2 : Int32).toInt = 0 ∨ (p1 : Int32).toInt = 27) (hpre4 : (59 : Int32).toInt ≠ 26 ∧ (59 : Int32).toInt ≠ 27) (sz : Nat) : MV l yX5_take cX5_take 2 { frames := 1, cells := 0, slots := 0, locals := 21 } [.ref h0, .int 59] D cy (wk_8964b4ae4 cy h0 h1 p0 p1 p2 p3 w0 w1 p4 p5 h1 w2 p6 p7 h2 h3 w3 h2 f0 h3 f1) sz (fun u => ((-2147483648) ≤ (u.2.1 0 0).toInt ∧ (u.2.1 0 0).toInt ≤ 2147483647) ∧ ((-2147483648) ≤ (u.2.1 1 0).toInt ∧ (u.2.1 1 0).toInt ≤ 2147483647) ∧ ((-2147483648) ≤ (u.2.1 2 0).toInt ∧ (u.2.1 2 0).toInt ≤ 2147483647) ∧ ((-1) ≤ (u.2.1 3 0).toInt ∧ (u.2.1 3 0).toInt ≤ 900) ∧ (0 ≤ ((u.2.1 3 0) : Int32).toInt ∧ ((u.2.1 3 0) : Int32).toInt < (p7 : Int32).toInt) ∧ (((u.2.1 1 0) : Int32).toInt ≠ 0 ∨ ((u.2.1 0 0) : Int32).toInt = 26 ∨ ((u.2.1 0 0) : Int32).toInt = 27 ∨ ((u.2.1 3 0) : Int32).toInt + 1 < (p7 : Int32).toInt) ∧ (((u.2.1 1 0) : Int32).toInt ≠ 0 ∨ ((u.2.1 3 0) : Int32).toInt = (p0 : Int32).toInt + 1) ∧ (((u.2.1 1 0) : Int32).toInt ≠ 0 ∨ (p2 : Int32).toInt = 0) ∧ (((u.2.1 1 0) : Int32).toInt = 0 ∨ ((u.2.1 0 0) : Int32).toInt = 27) ∧ ((p0 : Int32).toInt ≤ ((u.2.1 3 0) : Int32).toInt) ∧ (∀ vv : Nat → Int32, SIM f0 f1 vv (p7 : Int32).toInt (tak 59) (p0 : Int32).toInt (p1 : Int32).toInt (p2 : Int32).toInt (p3 : Int32).toInt ((u.2.1 3 0) : Int32).toInt ((u.2.1 0 0) : Int32).toInt ((u.2.1 1 0) : Int32).toInt ((u.2.1 2 0) : Int32).toInt) ∧ True) (fun u => (wk_8964b4ae4 cy h0 h1 (u.2.1 3 0) (u.2.1 0 0) (u.2.1 1 0) (u.2.1 2 0) w0 w1 p4 p5 h1 w2 p6 p7 h2 h3 w3 h2 f0 h3 f1)) 0 0 := sorry
set_option maxHeartbeats 4000000 in
set_option maxRecDepth 100000 in
theorem gX5_takeNumber_7db443e (l : Launch) (D : va_G) (cy : Nat → ClassId) (h0 : Nat) (h1 : Nat) (h2 : Nat) (h3 : Nat) (h4 : Nat) (p0 : Int32) (p1 : Int32) (p2 : Int32) (p3 : Int32) (w0 : Value) (w1 : Value) (p4 : Int32) (p5 : Int32) (w2 : Value) (p6 : Int32) (p7 : Int32) (f0 : Nat → Int32) (f1 : Nat → Int32) (f2 : Nat → Int32) (hp0 : (-1) ≤ (p0).toInt ∧ (p0).toInt ≤ 900) (hp1 : (-2147483648) ≤ (p1).toInt ∧ (p1).toInt ≤ 2147483647) (hp2 : (-2147483648) ≤ (p2).toInt ∧ (p2).toInt ≤ 2147483647) (hp3 : (-2147483648) ≤ (p3).toInt ∧ (p3).toInt ≤ 2147483647) (hp4 : 0 ≤ (p4).toInt ∧ (p4).toInt ≤ 900) (hp5 : (-2147483648) ≤ (p5).toInt ∧ (p5).toInt ≤ 2147483647) (hp6 : 0 ≤ (p6).toInt ∧ (p6).toInt ≤ 900) (hp7 : 0 ≤ (p7).toInt ∧ (p7).toInt ≤ 901) (hpre0 : KZ f0 (p7 : Int32).toInt) (hpre1 : 0 ≤ (p0 : Int32).toInt ∧ (p0 : Int32).toInt < (p7 : Int32).toInt) (hpre2 : (p2 : Int32).toInt ≠ 0 ∨ (p1 : Int32).toInt = 26 ∨ (p1 : Int32).toInt = 27 ∨ (p0 : Int32).toInt + 1 < (p7 : Int32).toInt) (hpre3 : (p2 : Int32).toInt = 0 ∨ (p1 : Int32).toInt = 27) (sz : Nat) : MI l yX5_takeNumber cX5_takeNumber 4 .int { frames := 1, cells := 0, slots := 0, locals := 21 } [.ref h0, .int 0, .int 999] D cy (wk_aa6ee0650 cy h0 h1 p0 p1 p2 p3 w0 w1 p4 p5 h1 w2 p6 p7 h2 h3 h4 h2 f0 h3 f1 h4 f2) sz (fun r u => (0 ≤ r.toInt ∧ r.toInt ≤ 999) ∧ ((-2147483648) ≤ (u.2.1 0 0).toInt ∧ (u.2.1 0 0).toInt ≤ 2147483647) ∧ ((-2147483648) ≤ (u.2.1 1 0).toInt ∧ (u.2.1 1 0).toInt ≤ 2147483647) ∧ ((-2147483648) ≤ (u.2.1 2 0).toInt ∧ (u.2.1 2 0).toInt ≤ 2147483647) ∧ ((-1) ≤ (u.2.1 3 0).toInt ∧ (u.2.1 3 0).toInt ≤ 900) ∧ (0 ≤ ((u.2.1 3 0) : Int32).toInt ∧ ((u.2.1 3 0) : Int32).toInt < (p7 : Int32).toInt) ∧ (((u.2.1 1 0) : Int32).toInt ≠ 0 ∨ ((u.2.1 0 0) : Int32).toInt = 26 ∨ ((u.2.1 0 0) : Int32).toInt = 27 ∨ ((u.2.1 3 0) : Int32).toInt + 1 < (p7 : Int32).toInt) ∧ (((u.2.1 1 0) : Int32).toInt ≠ 0 ∨ ((u.2.1 3 0) : Int32).toInt = (p0 : Int32).toInt + 1) ∧ (((u.2.1 1 0) : Int32).toInt ≠ 0 ∨ (p2 : Int32).toInt = 0) ∧ (((u.2.1 1 0) : Int32).toInt = 0 ∨ ((u.2.1 0 0) : Int32).toInt = 27) ∧ ((p0 : Int32).toInt ≤ ((u.2.1 3 0) : Int32).toInt) ∧ (SIM f0 f1 f2 (p7 : Int32).toInt (num 0 999) (p0 : Int32).toInt (p1 : Int32).toInt (p2 : Int32).toInt (p3 : Int32).toInt ((u.2.1 3 0) : Int32).toInt ((u.2.1 0 0) : Int32).toInt ((u.2.1 1 0) : Int32).toInt ((u.2.1 2 0) : Int32).toInt) ∧ (NMP ((u.2.1 1 0) : Int32).toInt (p1 : Int32).toInt (r : Int32).toInt (f2 ((p0 : Int32).toInt).toNat).toInt) ∧ True) (fun u => (wk_aa6ee0650 cy h0 h1 (u.2.1 3 0) (u.2.1 0 0) (u.2.1 1 0) (u.2.1 2 0) w0 w1 p4 p5 h1 w2 p6 p7 h2 h3 h4 h2 f0 h3 f1 h4 f2)) 0 0 := sorry
set_option maxHeartbeats 4000000 in
set_option maxRecDepth 100000 in
theorem gX5_takeNumber_b9026d7 (l : Launch) (D : va_G) (cy : Nat → ClassId) (h0 : Nat) (h1 : Nat) (h2 : Nat) (h3 : Nat) (h4 : Nat) (p0 : Int32) (p1 : Int32) (p2 : Int32) (p3 : Int32) (w0 : Value) (w1 : Value) (p4 : Int32) (p5 : Int32) (w2 : Value) (p6 : Int32) (p7 : Int32) (f0 : Nat → Int32) (f1 : Nat → Int32) (f2 : Nat → Int32) (hp0 : (-1) ≤ (p0).toInt ∧ (p0).toInt ≤ 900) (hp1 : (-2147483648) ≤ (p1).toInt ∧ (p1).toInt ≤ 2147483647) (hp2 : (-2147483648) ≤ (p2).toInt ∧ (p2).toInt ≤ 2147483647) (hp3 : (-2147483648) ≤ (p3).toInt ∧ (p3).toInt ≤ 2147483647) (hp4 : 0 ≤ (p4).toInt ∧ (p4).toInt ≤ 900) (hp5 : (-2147483648) ≤ (p5).toInt ∧ (p5).toInt ≤ 2147483647) (hp6 : 0 ≤ (p6).toInt ∧ (p6).toInt ≤ 900) (hp7 : 0 ≤ (p7).toInt ∧ (p7).toInt ≤ 901) (hpre0 : KZ f0 (p7 : Int32).toInt) (hpre1 : 0 ≤ (p0 : Int32).toInt ∧ (p0 : Int32).toInt < (p7 : Int32).toInt) (hpre2 : (p2 : Int32).toInt ≠ 0 ∨ (p1 : Int32).toInt = 26 ∨ (p1 : Int32).toInt = 27 ∨ (p0 : Int32).toInt + 1 < (p7 : Int32).toInt) (hpre3 : (p2 : Int32).toInt = 0 ∨ (p1 : Int32).toInt = 27) (sz : Nat) : MI l yX5_takeNumber cX5_takeNumber 4 .int { frames := 1, cells := 0, slots := 0, locals := 21 } [.ref h0, .int 0, .int 9] D cy (wk_aa6ee0650 cy h0 h1 p0 p1 p2 p3 w0 w1 p4 p5 h1 w2 p6 p7 h2 h3 h4 h2 f0 h3 f1 h4 f2) sz (fun r u => (0 ≤ r.toInt ∧ r.toInt ≤ 9) ∧ ((-2147483648) ≤ (u.2.1 0 0).toInt ∧ (u.2.1 0 0).toInt ≤ 2147483647) ∧ ((-2147483648) ≤ (u.2.1 1 0).toInt ∧ (u.2.1 1 0).toInt ≤ 2147483647) ∧ ((-2147483648) ≤ (u.2.1 2 0).toInt ∧ (u.2.1 2 0).toInt ≤ 2147483647) ∧ ((-1) ≤ (u.2.1 3 0).toInt ∧ (u.2.1 3 0).toInt ≤ 900) ∧ (0 ≤ ((u.2.1 3 0) : Int32).toInt ∧ ((u.2.1 3 0) : Int32).toInt < (p7 : Int32).toInt) ∧ (((u.2.1 1 0) : Int32).toInt ≠ 0 ∨ ((u.2.1 0 0) : Int32).toInt = 26 ∨ ((u.2.1 0 0) : Int32).toInt = 27 ∨ ((u.2.1 3 0) : Int32).toInt + 1 < (p7 : Int32).toInt) ∧ (((u.2.1 1 0) : Int32).toInt ≠ 0 ∨ ((u.2.1 3 0) : Int32).toInt = (p0 : Int32).toInt + 1) ∧ (((u.2.1 1 0) : Int32).toInt ≠ 0 ∨ (p2 : Int32).toInt = 0) ∧ (((u.2.1 1 0) : Int32).toInt = 0 ∨ ((u.2.1 0 0) : Int32).toInt = 27) ∧ ((p0 : Int32).toInt ≤ ((u.2.1 3 0) : Int32).toInt) ∧ (SIM f0 f1 f2 (p7 : Int32).toInt (num 0 9) (p0 : Int32).toInt (p1 : Int32).toInt (p2 : Int32).toInt (p3 : Int32).toInt ((u.2.1 3 0) : Int32).toInt ((u.2.1 0 0) : Int32).toInt ((u.2.1 1 0) : Int32).toInt ((u.2.1 2 0) : Int32).toInt) ∧ (NMP ((u.2.1 1 0) : Int32).toInt (p1 : Int32).toInt (r : Int32).toInt (f2 ((p0 : Int32).toInt).toNat).toInt) ∧ True) (fun u => (wk_aa6ee0650 cy h0 h1 (u.2.1 3 0) (u.2.1 0 0) (u.2.1 1 0) (u.2.1 2 0) w0 w1 p4 p5 h1 w2 p6 p7 h2 h3 h4 h2 f0 h3 f1 h4 f2)) 0 0 := sorry
set_option maxHeartbeats 4000000 in
set_option maxRecDepth 100000 in
theorem gX5_take_4548c15 (l : Launch) (D : va_G) (cy : Nat → ClassId) (h0 : Nat) (h1 : Nat) (h2 : Nat) (h3 : Nat) (p0 : Int32) (p1 : Int32) (p2 : Int32) (p3 : Int32) (w0 : Value) (w1 : Value) (p4 : Int32) (p5 : Int32) (w2 : Value) (p6 : Int32) (p7 : Int32) (w3 : Value) (f0 : Nat → Int32) (f1 : Nat → Int32) (hp0 : (-1) ≤ (p0).toInt ∧ (p0).toInt ≤ 900) (hp1 : (-2147483648) ≤ (p1).toInt ∧ (p1).toInt ≤ 2147483647) (hp2 : (-2147483648) ≤ (p2).toInt ∧ (p2).toInt ≤ 2147483647) (hp3 : (-2147483648) ≤ (p3).toInt ∧ (p3).toInt ≤ 2147483647) (hp4 : 0 ≤ (p4).toInt ∧ (p4).toInt ≤ 900) (hp5 : (-2147483648) ≤ (p5).toInt ∧ (p5).toInt ≤ 2147483647) (hp6 : 0 ≤ (p6).toInt ∧ (p6).toInt ≤ 900) (hp7 : 0 ≤ (p7).toInt ∧ (p7).toInt ≤ 901) (hpre0 : KZ f0 (p7 : Int32).toInt) (hpre1 : 0 ≤ (p0 : Int32).toInt ∧ (p0 : Int32).toInt < (p7 : Int32).toInt) (hpre2 : (p2 : Int32).toInt ≠ 0 ∨ (p1 : Int32).toInt = 26 ∨ (p1 : Int32).toInt = 27 ∨ (p0 : Int32).toInt + 1 < (p7 : Int32).toInt) (hpre3 : (p2 : Int32).toInt = 0 ∨ (p1 : Int32).toInt = 27) (hpre4 : (15 : Int32).toInt ≠ 26 ∧ (15 : Int32).toInt ≠ 27) (sz : Nat) : MV l yX5_take cX5_take 2 { frames := 1, cells := 0, slots := 0, locals := 21 } [.ref h0, .int 15] D cy (wk_8964b4ae4 cy h0 h1 p0 p1 p2 p3 w0 w1 p4 p5 h1 w2 p6 p7 h2 h3 w3 h2 f0 h3 f1) sz (fun u => ((-2147483648) ≤ (u.2.1 0 0).toInt ∧ (u.2.1 0 0).toInt ≤ 2147483647) ∧ ((-2147483648) ≤ (u.2.1 1 0).toInt ∧ (u.2.1 1 0).toInt ≤ 2147483647) ∧ ((-2147483648) ≤ (u.2.1 2 0).toInt ∧ (u.2.1 2 0).toInt ≤ 2147483647) ∧ ((-1) ≤ (u.2.1 3 0).toInt ∧ (u.2.1 3 0).toInt ≤ 900) ∧ (0 ≤ ((u.2.1 3 0) : Int32).toInt ∧ ((u.2.1 3 0) : Int32).toInt < (p7 : Int32).toInt) ∧ (((u.2.1 1 0) : Int32).toInt ≠ 0 ∨ ((u.2.1 0 0) : Int32).toInt = 26 ∨ ((u.2.1 0 0) : Int32).toInt = 27 ∨ ((u.2.1 3 0) : Int32).toInt + 1 < (p7 : Int32).toInt) ∧ (((u.2.1 1 0) : Int32).toInt ≠ 0 ∨ ((u.2.1 3 0) : Int32).toInt = (p0 : Int32).toInt + 1) ∧ (((u.2.1 1 0) : Int32).toInt ≠ 0 ∨ (p2 : Int32).toInt = 0) ∧ (((u.2.1 1 0) : Int32).toInt = 0 ∨ ((u.2.1 0 0) : Int32).toInt = 27) ∧ ((p0 : Int32).toInt ≤ ((u.2.1 3 0) : Int32).toInt) ∧ (∀ vv : Nat → Int32, SIM f0 f1 vv (p7 : Int32).toInt (tak 15) (p0 : Int32).toInt (p1 : Int32).toInt (p2 : Int32).toInt (p3 : Int32).toInt ((u.2.1 3 0) : Int32).toInt ((u.2.1 0 0) : Int32).toInt ((u.2.1 1 0) : Int32).toInt ((u.2.1 2 0) : Int32).toInt) ∧ True) (fun u => (wk_8964b4ae4 cy h0 h1 (u.2.1 3 0) (u.2.1 0 0) (u.2.1 1 0) (u.2.1 2 0) w0 w1 p4 p5 h1 w2 p6 p7 h2 h3 w3 h2 f0 h3 f1)) 0 0 := sorry
set_option maxHeartbeats 4000000 in
set_option maxRecDepth 100000 in
theorem gX5_takeNumber_719be87 (l : Launch) (D : va_G) (cy : Nat → ClassId) (h0 : Nat) (h1 : Nat) (h2 : Nat) (h3 : Nat) (h4 : Nat) (p0 : Int32) (p1 : Int32) (p2 : Int32) (p3 : Int32) (p4 : Int32) (w0 : Value) (w1 : Value) (p5 : Int32) (p6 : Int32) (w2 : Value) (p7 : Int32) (p8 : Int32) (f0 : Nat → Int32) (f1 : Nat → Int32) (f2 : Nat → Int32) (hp0 : 0 ≤ (p0).toInt ∧ (p0).toInt ≤ 999) (hp1 : (-1) ≤ (p1).toInt ∧ (p1).toInt ≤ 900) (hp2 : (-2147483648) ≤ (p2).toInt ∧ (p2).toInt ≤ 2147483647) (hp3 : (-2147483648) ≤ (p3).toInt ∧ (p3).toInt ≤ 2147483647) (hp4 : (-2147483648) ≤ (p4).toInt ∧ (p4).toInt ≤ 2147483647) (hp5 : 0 ≤ (p5).toInt ∧ (p5).toInt ≤ 900) (hp6 : (-2147483648) ≤ (p6).toInt ∧ (p6).toInt ≤ 2147483647) (hp7 : 0 ≤ (p7).toInt ∧ (p7).toInt ≤ 900) (hp8 : 0 ≤ (p8).toInt ∧ (p8).toInt ≤ 901) (hpre0 : KZ f0 (p8 : Int32).toInt) (hpre1 : 0 ≤ (p1 : Int32).toInt ∧ (p1 : Int32).toInt < (p8 : Int32).toInt) (hpre2 : (p3 : Int32).toInt ≠ 0 ∨ (p2 : Int32).toInt = 26 ∨ (p2 : Int32).toInt = 27 ∨ (p1 : Int32).toInt + 1 < (p8 : Int32).toInt) (hpre3 : (p3 : Int32).toInt = 0 ∨ (p2 : Int32).toInt = 27) (sz : Nat) : MI l yX5_takeNumber cX5_takeNumber 4 .int { frames := 1, cells := 0, slots := 0, locals := 21 } [.ref h0, .int p0, .int 999] D cy (wk_aa6ee0650 cy h0 h1 p1 p2 p3 p4 w0 w1 p5 p6 h1 w2 p7 p8 h2 h3 h4 h2 f0 h3 f1 h4 f2) sz (fun r u => (0 ≤ r.toInt ∧ r.toInt ≤ 999) ∧ ((-2147483648) ≤ (u.2.1 0 0).toInt ∧ (u.2.1 0 0).toInt ≤ 2147483647) ∧ ((-2147483648) ≤ (u.2.1 1 0).toInt ∧ (u.2.1 1 0).toInt ≤ 2147483647) ∧ ((-2147483648) ≤ (u.2.1 2 0).toInt ∧ (u.2.1 2 0).toInt ≤ 2147483647) ∧ ((-1) ≤ (u.2.1 3 0).toInt ∧ (u.2.1 3 0).toInt ≤ 900) ∧ (0 ≤ ((u.2.1 3 0) : Int32).toInt ∧ ((u.2.1 3 0) : Int32).toInt < (p8 : Int32).toInt) ∧ (((u.2.1 1 0) : Int32).toInt ≠ 0 ∨ ((u.2.1 0 0) : Int32).toInt = 26 ∨ ((u.2.1 0 0) : Int32).toInt = 27 ∨ ((u.2.1 3 0) : Int32).toInt + 1 < (p8 : Int32).toInt) ∧ (((u.2.1 1 0) : Int32).toInt ≠ 0 ∨ ((u.2.1 3 0) : Int32).toInt = (p1 : Int32).toInt + 1) ∧ (((u.2.1 1 0) : Int32).toInt ≠ 0 ∨ (p3 : Int32).toInt = 0) ∧ (((u.2.1 1 0) : Int32).toInt = 0 ∨ ((u.2.1 0 0) : Int32).toInt = 27) ∧ ((p1 : Int32).toInt ≤ ((u.2.1 3 0) : Int32).toInt) ∧ (SIM f0 f1 f2 (p8 : Int32).toInt (num (p0 : Int32).toInt 999) (p1 : Int32).toInt (p2 : Int32).toInt (p3 : Int32).toInt (p4 : Int32).toInt ((u.2.1 3 0) : Int32).toInt ((u.2.1 0 0) : Int32).toInt ((u.2.1 1 0) : Int32).toInt ((u.2.1 2 0) : Int32).toInt) ∧ (NMP ((u.2.1 1 0) : Int32).toInt (p2 : Int32).toInt (r : Int32).toInt (f2 ((p1 : Int32).toInt).toNat).toInt) ∧ True) (fun u => (wk_aa6ee0650 cy h0 h1 (u.2.1 3 0) (u.2.1 0 0) (u.2.1 1 0) (u.2.1 2 0) w0 w1 p5 p6 h1 w2 p7 p8 h2 h3 h4 h2 f0 h3 f1 h4 f2)) 0 0 := sorry
set_option maxHeartbeats 4000000 in
set_option maxRecDepth 100000 in
theorem gX5_takeNumber_6ae0c88 (l : Launch) (D : va_G) (cy : Nat → ClassId) (h0 : Nat) (h1 : Nat) (h2 : Nat) (h3 : Nat) (h4 : Nat) (p0 : Int32) (p1 : Int32) (p2 : Int32) (p3 : Int32) (w0 : Value) (w1 : Value) (p4 : Int32) (p5 : Int32) (w2 : Value) (p6 : Int32) (p7 : Int32) (f0 : Nat → Int32) (f1 : Nat → Int32) (f2 : Nat → Int32) (hp0 : (-1) ≤ (p0).toInt ∧ (p0).toInt ≤ 900) (hp1 : (-2147483648) ≤ (p1).toInt ∧ (p1).toInt ≤ 2147483647) (hp2 : (-2147483648) ≤ (p2).toInt ∧ (p2).toInt ≤ 2147483647) (hp3 : (-2147483648) ≤ (p3).toInt ∧ (p3).toInt ≤ 2147483647) (hp4 : 0 ≤ (p4).toInt ∧ (p4).toInt ≤ 900) (hp5 : (-2147483648) ≤ (p5).toInt ∧ (p5).toInt ≤ 2147483647) (hp6 : 0 ≤ (p6).toInt ∧ (p6).toInt ≤ 900) (hp7 : 0 ≤ (p7).toInt ∧ (p7).toInt ≤ 901) (hpre0 : KZ f0 (p7 : Int32).toInt) (hpre1 : 0 ≤ (p0 : Int32).toInt ∧ (p0 : Int32).toInt < (p7 : Int32).toInt) (hpre2 : (p2 : Int32).toInt ≠ 0 ∨ (p1 : Int32).toInt = 26 ∨ (p1 : Int32).toInt = 27 ∨ (p0 : Int32).toInt + 1 < (p7 : Int32).toInt) (hpre3 : (p2 : Int32).toInt = 0 ∨ (p1 : Int32).toInt = 27) (sz : Nat) : MI l yX5_takeNumber cX5_takeNumber 4 .int { frames := 1, cells := 0, slots := 0, locals := 21 } [.ref h0, .int 0, .int 10] D cy (wk_aa6ee0650 cy h0 h1 p0 p1 p2 p3 w0 w1 p4 p5 h1 w2 p6 p7 h2 h3 h4 h2 f0 h3 f1 h4 f2) sz (fun r u => (0 ≤ r.toInt ∧ r.toInt ≤ 10) ∧ ((-2147483648) ≤ (u.2.1 0 0).toInt ∧ (u.2.1 0 0).toInt ≤ 2147483647) ∧ ((-2147483648) ≤ (u.2.1 1 0).toInt ∧ (u.2.1 1 0).toInt ≤ 2147483647) ∧ ((-2147483648) ≤ (u.2.1 2 0).toInt ∧ (u.2.1 2 0).toInt ≤ 2147483647) ∧ ((-1) ≤ (u.2.1 3 0).toInt ∧ (u.2.1 3 0).toInt ≤ 900) ∧ (0 ≤ ((u.2.1 3 0) : Int32).toInt ∧ ((u.2.1 3 0) : Int32).toInt < (p7 : Int32).toInt) ∧ (((u.2.1 1 0) : Int32).toInt ≠ 0 ∨ ((u.2.1 0 0) : Int32).toInt = 26 ∨ ((u.2.1 0 0) : Int32).toInt = 27 ∨ ((u.2.1 3 0) : Int32).toInt + 1 < (p7 : Int32).toInt) ∧ (((u.2.1 1 0) : Int32).toInt ≠ 0 ∨ ((u.2.1 3 0) : Int32).toInt = (p0 : Int32).toInt + 1) ∧ (((u.2.1 1 0) : Int32).toInt ≠ 0 ∨ (p2 : Int32).toInt = 0) ∧ (((u.2.1 1 0) : Int32).toInt = 0 ∨ ((u.2.1 0 0) : Int32).toInt = 27) ∧ ((p0 : Int32).toInt ≤ ((u.2.1 3 0) : Int32).toInt) ∧ (SIM f0 f1 f2 (p7 : Int32).toInt (num 0 10) (p0 : Int32).toInt (p1 : Int32).toInt (p2 : Int32).toInt (p3 : Int32).toInt ((u.2.1 3 0) : Int32).toInt ((u.2.1 0 0) : Int32).toInt ((u.2.1 1 0) : Int32).toInt ((u.2.1 2 0) : Int32).toInt) ∧ (NMP ((u.2.1 1 0) : Int32).toInt (p1 : Int32).toInt (r : Int32).toInt (f2 ((p0 : Int32).toInt).toNat).toInt) ∧ True) (fun u => (wk_aa6ee0650 cy h0 h1 (u.2.1 3 0) (u.2.1 0 0) (u.2.1 1 0) (u.2.1 2 0) w0 w1 p4 p5 h1 w2 p6 p7 h2 h3 h4 h2 f0 h3 f1 h4 f2)) 0 0 := sorry
set_option maxHeartbeats 4000000 in
set_option maxRecDepth 100000 in
theorem gX5_takeNumber_bbeef74 (l : Launch) (D : va_G) (cy : Nat → ClassId) (h0 : Nat) (h1 : Nat) (h2 : Nat) (h3 : Nat) (h4 : Nat) (p0 : Int32) (p1 : Int32) (p2 : Int32) (p3 : Int32) (w0 : Value) (w1 : Value) (p4 : Int32) (p5 : Int32) (w2 : Value) (p6 : Int32) (p7 : Int32) (f0 : Nat → Int32) (f1 : Nat → Int32) (f2 : Nat → Int32) (hp0 : (-1) ≤ (p0).toInt ∧ (p0).toInt ≤ 900) (hp1 : (-2147483648) ≤ (p1).toInt ∧ (p1).toInt ≤ 2147483647) (hp2 : (-2147483648) ≤ (p2).toInt ∧ (p2).toInt ≤ 2147483647) (hp3 : (-2147483648) ≤ (p3).toInt ∧ (p3).toInt ≤ 2147483647) (hp4 : 0 ≤ (p4).toInt ∧ (p4).toInt ≤ 900) (hp5 : (-2147483648) ≤ (p5).toInt ∧ (p5).toInt ≤ 2147483647) (hp6 : 0 ≤ (p6).toInt ∧ (p6).toInt ≤ 900) (hp7 : 0 ≤ (p7).toInt ∧ (p7).toInt ≤ 901) (hpre0 : KZ f0 (p7 : Int32).toInt) (hpre1 : 0 ≤ (p0 : Int32).toInt ∧ (p0 : Int32).toInt < (p7 : Int32).toInt) (hpre2 : (p2 : Int32).toInt ≠ 0 ∨ (p1 : Int32).toInt = 26 ∨ (p1 : Int32).toInt = 27 ∨ (p0 : Int32).toInt + 1 < (p7 : Int32).toInt) (hpre3 : (p2 : Int32).toInt = 0 ∨ (p1 : Int32).toInt = 27) (sz : Nat) : MI l yX5_takeNumber cX5_takeNumber 4 .int { frames := 1, cells := 0, slots := 0, locals := 21 } [.ref h0, .int 1, .int 99] D cy (wk_aa6ee0650 cy h0 h1 p0 p1 p2 p3 w0 w1 p4 p5 h1 w2 p6 p7 h2 h3 h4 h2 f0 h3 f1 h4 f2) sz (fun r u => (1 ≤ r.toInt ∧ r.toInt ≤ 99) ∧ ((-2147483648) ≤ (u.2.1 0 0).toInt ∧ (u.2.1 0 0).toInt ≤ 2147483647) ∧ ((-2147483648) ≤ (u.2.1 1 0).toInt ∧ (u.2.1 1 0).toInt ≤ 2147483647) ∧ ((-2147483648) ≤ (u.2.1 2 0).toInt ∧ (u.2.1 2 0).toInt ≤ 2147483647) ∧ ((-1) ≤ (u.2.1 3 0).toInt ∧ (u.2.1 3 0).toInt ≤ 900) ∧ (0 ≤ ((u.2.1 3 0) : Int32).toInt ∧ ((u.2.1 3 0) : Int32).toInt < (p7 : Int32).toInt) ∧ (((u.2.1 1 0) : Int32).toInt ≠ 0 ∨ ((u.2.1 0 0) : Int32).toInt = 26 ∨ ((u.2.1 0 0) : Int32).toInt = 27 ∨ ((u.2.1 3 0) : Int32).toInt + 1 < (p7 : Int32).toInt) ∧ (((u.2.1 1 0) : Int32).toInt ≠ 0 ∨ ((u.2.1 3 0) : Int32).toInt = (p0 : Int32).toInt + 1) ∧ (((u.2.1 1 0) : Int32).toInt ≠ 0 ∨ (p2 : Int32).toInt = 0) ∧ (((u.2.1 1 0) : Int32).toInt = 0 ∨ ((u.2.1 0 0) : Int32).toInt = 27) ∧ ((p0 : Int32).toInt ≤ ((u.2.1 3 0) : Int32).toInt) ∧ (SIM f0 f1 f2 (p7 : Int32).toInt (num 1 99) (p0 : Int32).toInt (p1 : Int32).toInt (p2 : Int32).toInt (p3 : Int32).toInt ((u.2.1 3 0) : Int32).toInt ((u.2.1 0 0) : Int32).toInt ((u.2.1 1 0) : Int32).toInt ((u.2.1 2 0) : Int32).toInt) ∧ (NMP ((u.2.1 1 0) : Int32).toInt (p1 : Int32).toInt (r : Int32).toInt (f2 ((p0 : Int32).toInt).toNat).toInt) ∧ True) (fun u => (wk_aa6ee0650 cy h0 h1 (u.2.1 3 0) (u.2.1 0 0) (u.2.1 1 0) (u.2.1 2 0) w0 w1 p4 p5 h1 w2 p6 p7 h2 h3 h4 h2 f0 h3 f1 h4 f2)) 0 0 := sorry
set_option maxHeartbeats 4000000 in
set_option maxRecDepth 100000 in
theorem gX5_take_0541260 (l : Launch) (D : va_G) (cy : Nat → ClassId) (h0 : Nat) (h1 : Nat) (h2 : Nat) (h3 : Nat) (p0 : Int32) (p1 : Int32) (p2 : Int32) (p3 : Int32) (w0 : Value) (w1 : Value) (p4 : Int32) (p5 : Int32) (w2 : Value) (p6 : Int32) (p7 : Int32) (w3 : Value) (f0 : Nat → Int32) (f1 : Nat → Int32) (hp0 : (-1) ≤ (p0).toInt ∧ (p0).toInt ≤ 900) (hp1 : (-2147483648) ≤ (p1).toInt ∧ (p1).toInt ≤ 2147483647) (hp2 : (-2147483648) ≤ (p2).toInt ∧ (p2).toInt ≤ 2147483647) (hp3 : (-2147483648) ≤ (p3).toInt ∧ (p3).toInt ≤ 2147483647) (hp4 : 0 ≤ (p4).toInt ∧ (p4).toInt ≤ 900) (hp5 : (-2147483648) ≤ (p5).toInt ∧ (p5).toInt ≤ 2147483647) (hp6 : 0 ≤ (p6).toInt ∧ (p6).toInt ≤ 900) (hp7 : 0 ≤ (p7).toInt ∧ (p7).toInt ≤ 901) (hpre0 : KZ f0 (p7 : Int32).toInt) (hpre1 : 0 ≤ (p0 : Int32).toInt ∧ (p0 : Int32).toInt < (p7 : Int32).toInt) (hpre2 : (p2 : Int32).toInt ≠ 0 ∨ (p1 : Int32).toInt = 26 ∨ (p1 : Int32).toInt = 27 ∨ (p0 : Int32).toInt + 1 < (p7 : Int32).toInt) (hpre3 : (p2 : Int32).toInt = 0 ∨ (p1 : Int32).toInt = 27) (hpre4 : (58 : Int32).toInt ≠ 26 ∧ (58 : Int32).toInt ≠ 27) (sz : Nat) : MV l yX5_take cX5_take 2 { frames := 1, cells := 0, slots := 0, locals := 21 } [.ref h0, .int 58] D cy (wk_8964b4ae4 cy h0 h1 p0 p1 p2 p3 w0 w1 p4 p5 h1 w2 p6 p7 h2 h3 w3 h2 f0 h3 f1) sz (fun u => ((-2147483648) ≤ (u.2.1 0 0).toInt ∧ (u.2.1 0 0).toInt ≤ 2147483647) ∧ ((-2147483648) ≤ (u.2.1 1 0).toInt ∧ (u.2.1 1 0).toInt ≤ 2147483647) ∧ ((-2147483648) ≤ (u.2.1 2 0).toInt ∧ (u.2.1 2 0).toInt ≤ 2147483647) ∧ ((-1) ≤ (u.2.1 3 0).toInt ∧ (u.2.1 3 0).toInt ≤ 900) ∧ (0 ≤ ((u.2.1 3 0) : Int32).toInt ∧ ((u.2.1 3 0) : Int32).toInt < (p7 : Int32).toInt) ∧ (((u.2.1 1 0) : Int32).toInt ≠ 0 ∨ ((u.2.1 0 0) : Int32).toInt = 26 ∨ ((u.2.1 0 0) : Int32).toInt = 27 ∨ ((u.2.1 3 0) : Int32).toInt + 1 < (p7 : Int32).toInt) ∧ (((u.2.1 1 0) : Int32).toInt ≠ 0 ∨ ((u.2.1 3 0) : Int32).toInt = (p0 : Int32).toInt + 1) ∧ (((u.2.1 1 0) : Int32).toInt ≠ 0 ∨ (p2 : Int32).toInt = 0) ∧ (((u.2.1 1 0) : Int32).toInt = 0 ∨ ((u.2.1 0 0) : Int32).toInt = 27) ∧ ((p0 : Int32).toInt ≤ ((u.2.1 3 0) : Int32).toInt) ∧ (∀ vv : Nat → Int32, SIM f0 f1 vv (p7 : Int32).toInt (tak 58) (p0 : Int32).toInt (p1 : Int32).toInt (p2 : Int32).toInt (p3 : Int32).toInt ((u.2.1 3 0) : Int32).toInt ((u.2.1 0 0) : Int32).toInt ((u.2.1 1 0) : Int32).toInt ((u.2.1 2 0) : Int32).toInt) ∧ True) (fun u => (wk_8964b4ae4 cy h0 h1 (u.2.1 3 0) (u.2.1 0 0) (u.2.1 1 0) (u.2.1 2 0) w0 w1 p4 p5 h1 w2 p6 p7 h2 h3 w3 h2 f0 h3 f1)) 0 0 := sorry
set_option maxHeartbeats 4000000 in
set_option maxRecDepth 100000 in
theorem gX5_add_eba6a02 (l : Launch) (D : va_G) (cy : Nat → ClassId) (h0 : Nat) (h1 : Nat) (p0 : Int32) (w0 : Value) (p1 : Int32) (p2 : Int32) (p3 : Int32) (p4 : Int32) (w1 : Value) (p5 : Int32) (p6 : Int32) (f0 : Nat → Int32) (hp0 : (-2147482648) ≤ (p0).toInt ∧ (p0).toInt ≤ 1010) (hp1 : (-1) ≤ (p1).toInt ∧ (p1).toInt ≤ 900) (hp2 : (-2147483648) ≤ (p2).toInt ∧ (p2).toInt ≤ 2147483647) (hp3 : (-2147483648) ≤ (p3).toInt ∧ (p3).toInt ≤ 2147483647) (hp4 : (-2147483648) ≤ (p4).toInt ∧ (p4).toInt ≤ 2147483647) (hp5 : 0 ≤ (p5).toInt ∧ (p5).toInt ≤ 900) (hp6 : (-2147483648) ≤ (p6).toInt ∧ (p6).toInt ≤ 2147483647) (sz : Nat) : MV l yX5_add cX5_add 2 { frames := 0, cells := 0, slots := 0, locals := 0 } [.ref h0, .int p0] D cy (wk_cba98532e cy h0 w0 p1 p2 p3 p4 w1 h1 p5 p6 h1 f0) sz (fun u => (1 ≤ (u.2.1 0 0).toInt ∧ (u.2.1 0 0).toInt ≤ 900) ∧ (((u.2.1 0 0) : Int32).toInt ≤ (p5 : Int32).toInt + 1) ∧ True) (fun u => (wk_cba98532e cy h0 w0 p1 p2 p3 p4 w1 h1 (u.2.1 0 0) p6 h1 (u.2.1 1))) 0 0 := sorry
set_option maxHeartbeats 4000000 in
set_option maxRecDepth 100000 in
theorem gX5_refuse_3c74158 (l : Launch) (D : va_G) (cy : Nat → ClassId) (h0 : Nat) (h1 : Nat) (h2 : Nat) (p0 : Int32) (p1 : Int32) (p2 : Int32) (p3 : Int32) (w0 : Value) (w1 : Value) (p4 : Int32) (p5 : Int32) (w2 : Value) (p6 : Int32) (p7 : Int32) (w3 : Value) (w4 : Value) (f0 : Nat → Int32) (hp0 : (-1) ≤ (p0).toInt ∧ (p0).toInt ≤ 900) (hp1 : (-2147483648) ≤ (p1).toInt ∧ (p1).toInt ≤ 2147483647) (hp2 : (-2147483648) ≤ (p2).toInt ∧ (p2).toInt ≤ 2147483647) (hp3 : (-2147483648) ≤ (p3).toInt ∧ (p3).toInt ≤ 2147483647) (hp4 : 0 ≤ (p4).toInt ∧ (p4).toInt ≤ 900) (hp5 : (-2147483648) ≤ (p5).toInt ∧ (p5).toInt ≤ 2147483647) (hp6 : 0 ≤ (p6).toInt ∧ (p6).toInt ≤ 900) (hp7 : 0 ≤ (p7).toInt ∧ (p7).toInt ≤ 901) (hpre0 : 0 ≤ (p0 : Int32).toInt ∧ (p0 : Int32).toInt < (p7 : Int32).toInt) (hpre1 : (p2 : Int32).toInt = 0 ∨ (p1 : Int32).toInt = 27) (hpre2 : 1 ≤ (4 : Int32).toInt) (sz : Nat) : MV l yX5_refuse cX5_refuse 2 { frames := 0, cells := 0, slots := 0, locals := 0 } [.ref h0, .int 4] D cy (wk_5bbb9e4d3 cy h0 h1 p0 p1 p2 p3 w0 w1 p4 p5 h1 w2 p6 p7 w3 h2 w4 h2 f0) sz (fun u => ((-2147483648) ≤ (u.2.1 0 0).toInt ∧ (u.2.1 0 0).toInt ≤ 2147483647) ∧ ((-2147483648) ≤ (u.2.1 1 0).toInt ∧ (u.2.1 1 0).toInt ≤ 2147483647) ∧ ((-2147483648) ≤ (u.2.1 2 0).toInt ∧ (u.2.1 2 0).toInt ≤ 2147483647) ∧ (((u.2.1 1 0) : Int32).toInt ≠ 0) ∧ (((u.2.1 1 0) : Int32).toInt = 0 ∨ ((u.2.1 0 0) : Int32).toInt = 27) ∧ (∀ (kk vv : Nat → Int32), SIM kk f0 vv (p7 : Int32).toInt (fun b n i => er b n 4 i) (p0 : Int32).toInt (p1 : Int32).toInt (p2 : Int32).toInt (p3 : Int32).toInt (p0 : Int32).toInt ((u.2.1 0 0) : Int32).toInt ((u.2.1 1 0) : Int32).toInt ((u.2.1 2 0) : Int32).toInt) ∧ True) (fun u => (wk_5bbb9e4d3 cy h0 h1 p0 (u.2.1 0 0) (u.2.1 1 0) (u.2.1 2 0) w0 w1 p4 p5 h1 w2 p6 p7 w3 h2 w4 h2 f0)) 0 0 := sorry
set_option maxHeartbeats 4000000 in
set_option maxRecDepth 100000 in
theorem gX5_goesDeeper_ce0d7f5 (l : Launch) (D : va_G) (cy : Nat → ClassId) (h0 : Nat) (h1 : Nat) (h2 : Nat) (h3 : Nat) (p0 : Int32) (p1 : Int32) (p2 : Int32) (p3 : Int32) (p4 : Int32) (w0 : Value) (w1 : Value) (p5 : Int32) (p6 : Int32) (w2 : Value) (p7 : Int32) (p8 : Int32) (w3 : Value) (f0 : Nat → Int32) (f1 : Nat → Int32) (hp0 : 0 ≤ (p0).toInt ∧ (p0).toInt ≤ 6) (hp1 : (-1) ≤ (p1).toInt ∧ (p1).toInt ≤ 900) (hp2 : (-2147483648) ≤ (p2).toInt ∧ (p2).toInt ≤ 2147483647) (hp3 : (-2147483648) ≤ (p3).toInt ∧ (p3).toInt ≤ 2147483647) (hp4 : (-2147483648) ≤ (p4).toInt ∧ (p4).toInt ≤ 2147483647) (hp5 : 0 ≤ (p5).toInt ∧ (p5).toInt ≤ 900) (hp6 : (-2147483648) ≤ (p6).toInt ∧ (p6).toInt ≤ 2147483647) (hp7 : 0 ≤ (p7).toInt ∧ (p7).toInt ≤ 900) (hp8 : 0 ≤ (p8).toInt ∧ (p8).toInt ≤ 901) (hpre0 : KZ f0 (p8 : Int32).toInt) (hpre1 : 0 ≤ (p1 : Int32).toInt ∧ (p1 : Int32).toInt < (p8 : Int32).toInt) (hpre2 : (p3 : Int32).toInt ≠ 0 ∨ (p2 : Int32).toInt = 26 ∨ (p2 : Int32).toInt = 27 ∨ (p1 : Int32).toInt + 1 < (p8 : Int32).toInt) (hpre3 : (p3 : Int32).toInt = 0 ∨ (p2 : Int32).toInt = 27) (hpre4 : (p2 : Int32).toInt ≠ 26 ∧ (p2 : Int32).toInt ≠ 27) (sz : Nat) : MI l yX5_goesDeeper cX5_goesDeeper 2 .boolean { frames := 1, cells := 0, slots := 0, locals := 21 } [.ref h0, .int p0] D cy (wk_8964b4ae4 cy h0 h1 p1 p2 p3 p4 w0 w1 p5 p6 h1 w2 p7 p8 h2 h3 w3 h2 f0 h3 f1) sz (fun r u => (0 ≤ r.toInt ∧ r.toInt ≤ 1) ∧ ((-1) ≤ (u.2.1 0 0).toInt ∧ (u.2.1 0 0).toInt ≤ 900) ∧ ((-2147483648) ≤ (u.2.1 1 0).toInt ∧ (u.2.1 1 0).toInt ≤ 2147483647) ∧ ((-2147483648) ≤ (u.2.1 2 0).toInt ∧ (u.2.1 2 0).toInt ≤ 2147483647) ∧ ((-2147483648) ≤ (u.2.1 3 0).toInt ∧ (u.2.1 3 0).toInt ≤ 2147483647) ∧ (0 ≤ ((u.2.1 0 0) : Int32).toInt ∧ ((u.2.1 0 0) : Int32).toInt < (p8 : Int32).toInt) ∧ (((u.2.1 2 0) : Int32).toInt ≠ 0 ∨ ((u.2.1 1 0) : Int32).toInt = 26 ∨ ((u.2.1 1 0) : Int32).toInt = 27 ∨ ((u.2.1 0 0) : Int32).toInt + 1 < (p8 : Int32).toInt) ∧ (((u.2.1 2 0) : Int32).toInt = 0 ∨ ((u.2.1 1 0) : Int32).toInt = 27) ∧ ((p1 : Int32).toInt ≤ ((u.2.1 0 0) : Int32).toInt) ∧ (((u.2.1 2 0) : Int32).toInt ≠ 0 ∨ ((r : Int32).toInt = 1 ∧ ((u.2.1 0 0) : Int32).toInt = (p1 : Int32).toInt + 1)) ∧ (((u.2.1 2 0) : Int32).toInt ≠ 0 ∨ (p3 : Int32).toInt = 0) ∧ ((r : Int32).toInt = 0 ∨ (p0 : Int32).toInt ≤ 5) ∧ (ALT (r : Int32).toInt 0 1 (∀ vv : Nat → Int32, SIM f0 f1 vv (p8 : Int32).toInt (fun b n i => er b n 4 i) (p1 : Int32).toInt (p2 : Int32).toInt (p3 : Int32).toInt (p4 : Int32).toInt ((u.2.1 0 0) : Int32).toInt ((u.2.1 1 0) : Int32).toInt ((u.2.1 2 0) : Int32).toInt ((u.2.1 3 0) : Int32).toInt) (ADVR f0 f1 (p8 : Int32).toInt (p1 : Int32).toInt (p2 : Int32).toInt (p3 : Int32).toInt (p4 : Int32).toInt ((u.2.1 0 0) : Int32).toInt ((u.2.1 1 0) : Int32).toInt ((u.2.1 2 0) : Int32).toInt ((u.2.1 3 0) : Int32).toInt)) ∧ (((r : Int32).toInt = 0 ∧ 6 ≤ (p0 : Int32).toInt) ∨ ((r : Int32).toInt = 1 ∧ (p0 : Int32).toInt ≤ 5)) ∧ True) (fun u => (wk_8964b4ae4 cy h0 h1 (u.2.1 0 0) (u.2.1 1 0) (u.2.1 2 0) (u.2.1 3 0) w0 w1 p5 p6 h1 w2 p7 p8 h2 h3 w3 h2 f0 h3 f1)) 0 0 := sorry
set_option maxHeartbeats 4000000 in
set_option maxRecDepth 100000 in
theorem gX5_add_055b9a0 (l : Launch) (D : va_G) (cy : Nat → ClassId) (h0 : Nat) (h1 : Nat) (p0 : Int32) (w0 : Value) (p1 : Int32) (p2 : Int32) (p3 : Int32) (p4 : Int32) (w1 : Value) (p5 : Int32) (p6 : Int32) (f0 : Nat → Int32) (hp0 : (-2147483648) ≤ (p0).toInt ∧ (p0).toInt ≤ 2147483647) (hp1 : (-1) ≤ (p1).toInt ∧ (p1).toInt ≤ 900) (hp2 : (-2147483648) ≤ (p2).toInt ∧ (p2).toInt ≤ 2147483647) (hp3 : (-2147483648) ≤ (p3).toInt ∧ (p3).toInt ≤ 2147483647) (hp4 : (-2147483648) ≤ (p4).toInt ∧ (p4).toInt ≤ 2147483647) (hp5 : 0 ≤ (p5).toInt ∧ (p5).toInt ≤ 900) (hp6 : (-2147483648) ≤ (p6).toInt ∧ (p6).toInt ≤ 2147483647) (sz : Nat) : MV l yX5_add cX5_add 2 { frames := 0, cells := 0, slots := 0, locals := 0 } [.ref h0, .int p0] D cy (wk_cba98532e cy h0 w0 p1 p2 p3 p4 w1 h1 p5 p6 h1 f0) sz (fun u => (1 ≤ (u.2.1 0 0).toInt ∧ (u.2.1 0 0).toInt ≤ 900) ∧ (((u.2.1 0 0) : Int32).toInt ≤ (p5 : Int32).toInt + 1) ∧ True) (fun u => (wk_cba98532e cy h0 w0 p1 p2 p3 p4 w1 h1 (u.2.1 0 0) p6 h1 (u.2.1 1))) 0 0 := sorry
set_option maxHeartbeats 4000000 in
set_option maxRecDepth 100000 in
theorem gX5_take_7b80f77 (l : Launch) (D : va_G) (cy : Nat → ClassId) (h0 : Nat) (h1 : Nat) (h2 : Nat) (h3 : Nat) (p0 : Int32) (p1 : Int32) (p2 : Int32) (p3 : Int32) (w0 : Value) (w1 : Value) (p4 : Int32) (p5 : Int32) (w2 : Value) (p6 : Int32) (p7 : Int32) (w3 : Value) (f0 : Nat → Int32) (f1 : Nat → Int32) (hp0 : (-1) ≤ (p0).toInt ∧ (p0).toInt ≤ 900) (hp1 : (-2147483648) ≤ (p1).toInt ∧ (p1).toInt ≤ 2147483647) (hp2 : (-2147483648) ≤ (p2).toInt ∧ (p2).toInt ≤ 2147483647) (hp3 : (-2147483648) ≤ (p3).toInt ∧ (p3).toInt ≤ 2147483647) (hp4 : 0 ≤ (p4).toInt ∧ (p4).toInt ≤ 900) (hp5 : (-2147483648) ≤ (p5).toInt ∧ (p5).toInt ≤ 2147483647) (hp6 : 0 ≤ (p6).toInt ∧ (p6).toInt ≤ 900) (hp7 : 0 ≤ (p7).toInt ∧ (p7).toInt ≤ 901) (hpre0 : KZ f0 (p7 : Int32).toInt) (hpre1 : 0 ≤ (p0 : Int32).toInt ∧ (p0 : Int32).toInt < (p7 : Int32).toInt) (hpre2 : (p2 : Int32).toInt ≠ 0 ∨ (p1 : Int32).toInt = 26 ∨ (p1 : Int32).toInt = 27 ∨ (p0 : Int32).toInt + 1 < (p7 : Int32).toInt) (hpre3 : (p2 : Int32).toInt = 0 ∨ (p1 : Int32).toInt = 27) (hpre4 : (41 : Int32).toInt ≠ 26 ∧ (41 : Int32).toInt ≠ 27) (sz : Nat) : MV l yX5_take cX5_take 2 { frames := 1, cells := 0, slots := 0, locals := 21 } [.ref h0, .int 41] D cy (wk_8964b4ae4 cy h0 h1 p0 p1 p2 p3 w0 w1 p4 p5 h1 w2 p6 p7 h2 h3 w3 h2 f0 h3 f1) sz (fun u => ((-2147483648) ≤ (u.2.1 0 0).toInt ∧ (u.2.1 0 0).toInt ≤ 2147483647) ∧ ((-2147483648) ≤ (u.2.1 1 0).toInt ∧ (u.2.1 1 0).toInt ≤ 2147483647) ∧ ((-2147483648) ≤ (u.2.1 2 0).toInt ∧ (u.2.1 2 0).toInt ≤ 2147483647) ∧ ((-1) ≤ (u.2.1 3 0).toInt ∧ (u.2.1 3 0).toInt ≤ 900) ∧ (0 ≤ ((u.2.1 3 0) : Int32).toInt ∧ ((u.2.1 3 0) : Int32).toInt < (p7 : Int32).toInt) ∧ (((u.2.1 1 0) : Int32).toInt ≠ 0 ∨ ((u.2.1 0 0) : Int32).toInt = 26 ∨ ((u.2.1 0 0) : Int32).toInt = 27 ∨ ((u.2.1 3 0) : Int32).toInt + 1 < (p7 : Int32).toInt) ∧ (((u.2.1 1 0) : Int32).toInt ≠ 0 ∨ ((u.2.1 3 0) : Int32).toInt = (p0 : Int32).toInt + 1) ∧ (((u.2.1 1 0) : Int32).toInt ≠ 0 ∨ (p2 : Int32).toInt = 0) ∧ (((u.2.1 1 0) : Int32).toInt = 0 ∨ ((u.2.1 0 0) : Int32).toInt = 27) ∧ ((p0 : Int32).toInt ≤ ((u.2.1 3 0) : Int32).toInt) ∧ (∀ vv : Nat → Int32, SIM f0 f1 vv (p7 : Int32).toInt (tak 41) (p0 : Int32).toInt (p1 : Int32).toInt (p2 : Int32).toInt (p3 : Int32).toInt ((u.2.1 3 0) : Int32).toInt ((u.2.1 0 0) : Int32).toInt ((u.2.1 1 0) : Int32).toInt ((u.2.1 2 0) : Int32).toInt) ∧ True) (fun u => (wk_8964b4ae4 cy h0 h1 (u.2.1 3 0) (u.2.1 0 0) (u.2.1 1 0) (u.2.1 2 0) w0 w1 p4 p5 h1 w2 p6 p7 h2 h3 w3 h2 f0 h3 f1)) 0 0 := sorry
set_option maxRecDepth 100000 in
def gX5_IHS_799895c (l : Launch) (D : va_G) (cy : Nat → ClassId) (kk_ : Nat) : Prop := (∀ (h0 : Nat) (h1 : Nat) (h2 : Nat) (h3 : Nat) (h4 : Nat) (h5 : Nat) (p0 : Int32) (p1 : Int32) (p2 : Int32) (p3 : Int32) (p4 : Int32) (w0 : Value) (p5 : Int32) (p6 : Int32) (w1 : Value) (p7 : Int32) (p8 : Int32) (f0 : Nat → Int32) (f1 : Nat → Int32) (f2 : Nat → Int32) (f3 : Nat → Int32) (hp0 : 0 ≤ (p0).toInt ∧ (p0).toInt ≤ 6) (hp1 : (-1) ≤ (p1).toInt ∧ (p1).toInt ≤ 900) (hp2 : (-2147483648) ≤ (p2).toInt ∧ (p2).toInt ≤ 2147483647) (hp3 : (-2147483648) ≤ (p3).toInt ∧ (p3).toInt ≤ 2147483647) (hp4 : (-2147483648) ≤ (p4).toInt ∧ (p4).toInt ≤ 2147483647) (hp5 : 0 ≤ (p5).toInt ∧ (p5).toInt ≤ 900) (hp6 : (-2147483648) ≤ (p6).toInt ∧ (p6).toInt ≤ 2147483647) (hp7 : 0 ≤ (p7).toInt ∧ (p7).toInt ≤ 900) (hp8 : 0 ≤ (p8).toInt ∧ (p8).toInt ≤ 901) (hpre0 : KZ f0 (p8 : Int32).toInt) (hpre1 : 0 ≤ (p1 : Int32).toInt ∧ (p1 : Int32).toInt < (p8 : Int32).toInt) (hpre2 : (p3 : Int32).toInt ≠ 0 ∨ (p2 : Int32).toInt = 26 ∨ (p2 : Int32).toInt = 27 ∨ (p1 : Int32).toInt + 1 < (p8 : Int32).toInt) (hpre3 : (p3 : Int32).toInt = 0 ∨ (p2 : Int32).toInt = 27) (hkk : (p0).toInt + kk_ = 6) (sz : Nat), MV l yX5_readSum cX5_readSum 4 { frames := 4 + 3 * kk_, cells := 0, slots := 0, locals := 85 + 80 * kk_ } [.ref h0, .int p0] D cy (wk_a727c0403 cy h0 h1 p1 p2 p3 p4 w0 h5 p5 p6 h1 w1 p7 p8 h2 h3 h4 h2 f0 h3 f1 h4 f2 h5 f3) sz (fun u => (0 ≤ (u.2.1 0 0).toInt ∧ (u.2.1 0 0).toInt ≤ 900) ∧ ((-2147483648) ≤ (u.2.1 1 0).toInt ∧ (u.2.1 1 0).toInt ≤ 2147483647) ∧ ((-2147483648) ≤ (u.2.1 2 0).toInt ∧ (u.2.1 2 0).toInt ≤ 2147483647) ∧ ((-2147483648) ≤ (u.2.1 3 0).toInt ∧ (u.2.1 3 0).toInt ≤ 2147483647) ∧ (0 ≤ (u.2.1 4 0).toInt ∧ (u.2.1 4 0).toInt ≤ 900) ∧ (0 ≤ ((u.2.1 0 0) : Int32).toInt ∧ ((u.2.1 0 0) : Int32).toInt < (p8 : Int32).toInt) ∧ (((u.2.1 2 0) : Int32).toInt ≠ 0 ∨ ((u.2.1 1 0) : Int32).toInt = 26 ∨ ((u.2.1 1 0) : Int32).toInt = 27 ∨ ((u.2.1 0 0) : Int32).toInt + 1 < (p8 : Int32).toInt) ∧ (((u.2.1 2 0) : Int32).toInt ≠ 0 ∨ ((u.2.1 4 0) : Int32).toInt + (p1 : Int32).toInt ≤ (p5 : Int32).toInt + ((u.2.1 0 0) : Int32).toInt) ∧ (((u.2.1 2 0) : Int32).toInt ≠ 0 ∨ (p3 : Int32).toInt = 0) ∧ (((u.2.1 2 0) : Int32).toInt = 0 ∨ ((u.2.1 1 0) : Int32).toInt = 27) ∧ ((p1 : Int32).toInt ≤ ((u.2.1 0 0) : Int32).toInt) ∧ (SIM f0 f1 f2 (p8 : Int32).toInt (sumS (naC p6) kk_) (p1 : Int32).toInt (p2 : Int32).toInt (p3 : Int32).toInt (p4 : Int32).toInt ((u.2.1 0 0) : Int32).toInt ((u.2.1 1 0) : Int32).toInt ((u.2.1 2 0) : Int32).toInt ((u.2.1 3 0) : Int32).toInt) ∧ True) (fun u => (wk_a727c0403 cy h0 h1 (u.2.1 0 0) (u.2.1 1 0) (u.2.1 2 0) (u.2.1 3 0) w0 h5 (u.2.1 4 0) p6 h1 w1 p7 p8 h2 h3 h4 h2 f0 h3 f1 h4 f2 h5 (u.2.1 5))) 0 0)
set_option maxHeartbeats 4000000 in
set_option maxRecDepth 100000 in
theorem gX5_readAtom_7e00013 (l : Launch) (D : va_G) (cy : Nat → ClassId) (h0 : Nat) (h1 : Nat) (h2 : Nat) (h3 : Nat) (h4 : Nat) (h5 : Nat) (p0 : Int32) (p1 : Int32) (p2 : Int32) (p3 : Int32) (p4 : Int32) (w0 : Value) (p5 : Int32) (p6 : Int32) (w1 : Value) (p7 : Int32) (p8 : Int32) (f0 : Nat → Int32) (f1 : Nat → Int32) (f2 : Nat → Int32) (f3 : Nat → Int32) (hp0 : 0 ≤ (p0).toInt ∧ (p0).toInt ≤ 6) (hp1 : (-1) ≤ (p1).toInt ∧ (p1).toInt ≤ 900) (hp2 : (-2147483648) ≤ (p2).toInt ∧ (p2).toInt ≤ 2147483647) (hp3 : (-2147483648) ≤ (p3).toInt ∧ (p3).toInt ≤ 2147483647) (hp4 : (-2147483648) ≤ (p4).toInt ∧ (p4).toInt ≤ 2147483647) (hp5 : 0 ≤ (p5).toInt ∧ (p5).toInt ≤ 900) (hp6 : (-2147483648) ≤ (p6).toInt ∧ (p6).toInt ≤ 2147483647) (hp7 : 0 ≤ (p7).toInt ∧ (p7).toInt ≤ 900) (hp8 : 0 ≤ (p8).toInt ∧ (p8).toInt ≤ 901) (hpre0 : KZ f0 (p8 : Int32).toInt) (hpre1 : 0 ≤ (p1 : Int32).toInt ∧ (p1 : Int32).toInt < (p8 : Int32).toInt) (hpre2 : (p3 : Int32).toInt ≠ 0 ∨ (p2 : Int32).toInt = 26 ∨ (p2 : Int32).toInt = 27 ∨ (p1 : Int32).toInt + 1 < (p8 : Int32).toInt) (hpre3 : (p3 : Int32).toInt = 0 ∨ (p2 : Int32).toInt = 27) (kk_ : Nat) (hkk : (p0).toInt + kk_ = 6) (ih : ∀ j : Nat, kk_ = j + 1 → gX5_IHS_799895c l D cy j) (sz : Nat) : MV l yX5_readAtom cX5_readAtom 2 { frames := 2 + 3 * kk_, cells := 0, slots := 0, locals := 42 + 80 * kk_ } [.ref h0, .int p0] D cy (wk_a727c0403 cy h0 h1 p1 p2 p3 p4 w0 h5 p5 p6 h1 w1 p7 p8 h2 h3 h4 h2 f0 h3 f1 h4 f2 h5 f3) sz (fun u => ((-2147483648) ≤ (u.2.1 0 0).toInt ∧ (u.2.1 0 0).toInt ≤ 2147483647) ∧ ((-2147483648) ≤ (u.2.1 1 0).toInt ∧ (u.2.1 1 0).toInt ≤ 2147483647) ∧ ((-2147483648) ≤ (u.2.1 2 0).toInt ∧ (u.2.1 2 0).toInt ≤ 2147483647) ∧ ((-1) ≤ (u.2.1 4 0).toInt ∧ (u.2.1 4 0).toInt ≤ 900) ∧ (0 ≤ (u.2.1 5 0).toInt ∧ (u.2.1 5 0).toInt ≤ 900) ∧ (0 ≤ ((u.2.1 4 0) : Int32).toInt ∧ ((u.2.1 4 0) : Int32).toInt < (p8 : Int32).toInt) ∧ (((u.2.1 1 0) : Int32).toInt ≠ 0 ∨ ((u.2.1 0 0) : Int32).toInt = 26 ∨ ((u.2.1 0 0) : Int32).toInt = 27 ∨ ((u.2.1 4 0) : Int32).toInt + 1 < (p8 : Int32).toInt) ∧ (((u.2.1 1 0) : Int32).toInt ≠ 0 ∨ ((u.2.1 5 0) : Int32).toInt + (p1 : Int32).toInt ≤ (p5 : Int32).toInt + ((u.2.1 4 0) : Int32).toInt) ∧ (((u.2.1 1 0) : Int32).toInt ≠ 0 ∨ (p3 : Int32).toInt = 0) ∧ (((u.2.1 1 0) : Int32).toInt = 0 ∨ ((u.2.1 0 0) : Int32).toInt = 27) ∧ ((p1 : Int32).toInt ≤ ((u.2.1 4 0) : Int32).toInt) ∧ (SIM f0 f1 f2 (p8 : Int32).toInt (atomS (naC p6) kk_) (p1 : Int32).toInt (p2 : Int32).toInt (p3 : Int32).toInt (p4 : Int32).toInt ((u.2.1 4 0) : Int32).toInt ((u.2.1 0 0) : Int32).toInt ((u.2.1 1 0) : Int32).toInt ((u.2.1 2 0) : Int32).toInt) ∧ True) (fun u => (wk_a727c0403 cy h0 h1 (u.2.1 4 0) (u.2.1 0 0) (u.2.1 1 0) (u.2.1 2 0) w0 h5 (u.2.1 5 0) p6 h1 w1 p7 p8 h2 h3 h4 h2 f0 h3 f1 h4 f2 h5 (u.2.1 3))) 0 0 := sorry
set_option maxHeartbeats 4000000 in
set_option maxRecDepth 100000 in
theorem gX5_readTerm_d2e177f (l : Launch) (D : va_G) (cy : Nat → ClassId) (h0 : Nat) (h1 : Nat) (h2 : Nat) (h3 : Nat) (h4 : Nat) (h5 : Nat) (p0 : Int32) (p1 : Int32) (p2 : Int32) (p3 : Int32) (p4 : Int32) (w0 : Value) (p5 : Int32) (p6 : Int32) (w1 : Value) (p7 : Int32) (p8 : Int32) (f0 : Nat → Int32) (f1 : Nat → Int32) (f2 : Nat → Int32) (f3 : Nat → Int32) (hp0 : 0 ≤ (p0).toInt ∧ (p0).toInt ≤ 6) (hp1 : (-1) ≤ (p1).toInt ∧ (p1).toInt ≤ 900) (hp2 : (-2147483648) ≤ (p2).toInt ∧ (p2).toInt ≤ 2147483647) (hp3 : (-2147483648) ≤ (p3).toInt ∧ (p3).toInt ≤ 2147483647) (hp4 : (-2147483648) ≤ (p4).toInt ∧ (p4).toInt ≤ 2147483647) (hp5 : 0 ≤ (p5).toInt ∧ (p5).toInt ≤ 900) (hp6 : (-2147483648) ≤ (p6).toInt ∧ (p6).toInt ≤ 2147483647) (hp7 : 0 ≤ (p7).toInt ∧ (p7).toInt ≤ 900) (hp8 : 0 ≤ (p8).toInt ∧ (p8).toInt ≤ 901) (hpre0 : KZ f0 (p8 : Int32).toInt) (hpre1 : 0 ≤ (p1 : Int32).toInt ∧ (p1 : Int32).toInt < (p8 : Int32).toInt) (hpre2 : (p3 : Int32).toInt ≠ 0 ∨ (p2 : Int32).toInt = 26 ∨ (p2 : Int32).toInt = 27 ∨ (p1 : Int32).toInt + 1 < (p8 : Int32).toInt) (hpre3 : (p3 : Int32).toInt = 0 ∨ (p2 : Int32).toInt = 27) (kk_ : Nat) (hkk : (p0).toInt + kk_ = 6) (ih : ∀ j : Nat, kk_ = j + 1 → gX5_IHS_799895c l D cy j) (sz : Nat) : MV l yX5_readTerm cX5_readTerm 3 { frames := 3 + 3 * kk_, cells := 0, slots := 0, locals := 63 + 80 * kk_ } [.ref h0, .int p0] D cy (wk_a727c0403 cy h0 h1 p1 p2 p3 p4 w0 h5 p5 p6 h1 w1 p7 p8 h2 h3 h4 h2 f0 h3 f1 h4 f2 h5 f3) sz (fun u => (0 ≤ (u.2.1 0 0).toInt ∧ (u.2.1 0 0).toInt ≤ 900) ∧ ((-2147483648) ≤ (u.2.1 1 0).toInt ∧ (u.2.1 1 0).toInt ≤ 2147483647) ∧ ((-2147483648) ≤ (u.2.1 2 0).toInt ∧ (u.2.1 2 0).toInt ≤ 2147483647) ∧ ((-2147483648) ≤ (u.2.1 3 0).toInt ∧ (u.2.1 3 0).toInt ≤ 2147483647) ∧ (0 ≤ (u.2.1 4 0).toInt ∧ (u.2.1 4 0).toInt ≤ 900) ∧ (0 ≤ ((u.2.1 0 0) : Int32).toInt ∧ ((u.2.1 0 0) : Int32).toInt < (p8 : Int32).toInt) ∧ (((u.2.1 2 0) : Int32).toInt ≠ 0 ∨ ((u.2.1 1 0) : Int32).toInt = 26 ∨ ((u.2.1 1 0) : Int32).toInt = 27 ∨ ((u.2.1 0 0) : Int32).toInt + 1 < (p8 : Int32).toInt) ∧ (((u.2.1 2 0) : Int32).toInt ≠ 0 ∨ ((u.2.1 4 0) : Int32).toInt + (p1 : Int32).toInt ≤ (p5 : Int32).toInt + ((u.2.1 0 0) : Int32).toInt) ∧ (((u.2.1 2 0) : Int32).toInt ≠ 0 ∨ (p3 : Int32).toInt = 0) ∧ (((u.2.1 2 0) : Int32).toInt = 0 ∨ ((u.2.1 1 0) : Int32).toInt = 27) ∧ ((p1 : Int32).toInt ≤ ((u.2.1 0 0) : Int32).toInt) ∧ (SIM f0 f1 f2 (p8 : Int32).toInt (termS (naC p6) kk_) (p1 : Int32).toInt (p2 : Int32).toInt (p3 : Int32).toInt (p4 : Int32).toInt ((u.2.1 0 0) : Int32).toInt ((u.2.1 1 0) : Int32).toInt ((u.2.1 2 0) : Int32).toInt ((u.2.1 3 0) : Int32).toInt) ∧ True) (fun u => (wk_a727c0403 cy h0 h1 (u.2.1 0 0) (u.2.1 1 0) (u.2.1 2 0) (u.2.1 3 0) w0 h5 (u.2.1 4 0) p6 h1 w1 p7 p8 h2 h3 h4 h2 f0 h3 f1 h4 f2 h5 (u.2.1 5))) 0 0 := sorry