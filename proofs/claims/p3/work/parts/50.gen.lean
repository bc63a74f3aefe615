def wk_306333e60 (cy : Nat → ClassId) (a0 a1 : Nat) (a2 a3 : Int32) (a4 a5 a6 : Value) (a7 : Nat) (a8 : Nat → Int32) : va_W := [(a0, .inr (8, [.ref a1, .int a2, .int a3, a4, a5, a6])), (a7, .inl (cy 0, 900, .inl a8))]
def wk_fffe06ee4 (cy : Nat → ClassId) (a0 : Nat) (a1 : Option Nat) (a2 a3 : Int32) (a4 a5 a6 a7 : Nat) (a8 : Nat → Int32) (a9 : Nat) (a10 : Nat → Int32) (a11 : Nat) (a12 : Nat → Int32) (a13 : Nat) (a14 : Nat → Int32) : va_W := [(a0, .inr (8, [(va_rf a1), .int a2, .int a3, .ref a4, .ref a5, .ref a6])), (a7, .inl (cy 1, 901, .inl a8)), (a9, .inl (cy 1, 901, .inl a10)), (a11, .inl (cy 1, 901, .inl a12)), (a13, .inl (cy 0, 900, .inl a14))]
def wk_9a29d5dcb (cy : Nat → ClassId) (a0 a1 : Nat) (a2 a3 : Int32) (a4 a5 a6 a7 : Nat) (a8 : Nat → Int32) (a9 : Nat) (a10 : Nat → Int32) (a11 : Nat) (a12 : Nat → Int32) (a13 : Nat) (a14 : Nat → Int32) : va_W := [(a0, .inr (8, [.ref a1, .int a2, .int a3, .ref a4, .ref a5, .ref a6])), (a7, .inl (cy 1, 901, .inl a8)), (a9, .inl (cy 1, 901, .inl a10)), (a11, .inl (cy 1, 901, .inl a12)), (a13, .inl (cy 0, 900, .inl a14))]
def wk_d91cb5b2f (cy : Nat → ClassId) (a0 : Nat) (a1 : Nat → Int32) (a2 : Nat) (a3 : Nat → Int32) (a4 : Nat) (a5 : Nat → Int32) : va_W := [(a0, .inl (cy 1, 901, .inl a1)), (a2, .inl (cy 1, 901, .inl a3)), (a4, .inl (cy 1, 901, .inl a5))]
def wk_6156c93d0 (cy : Nat → ClassId) (a0 : Nat) (a1 : Nat → Int32) (a2 : Nat) (a3 : Nat → Int32) (a4 : Nat) (a5 : Nat → Int32) (a6 a7 : Nat) (a8 a9 : Int32) (a10 a11 a12 a13 : Nat) (a14 : Nat → Int32) : va_W := [(a0, .inl (cy 1, 901, .inl a1)), (a2, .inl (cy 1, 901, .inl a3)), (a4, .inl (cy 1, 901, .inl a5)), (a6, .inr (8, [.ref a7, .int a8, .int a9, .ref a10, .ref a11, .ref a12])), (a13, .inl (cy 0, 900, .inl a14))]
def wk_8964b4ae4 (cy : Nat → ClassId) (a0 a1 : Nat) (a2 a3 a4 a5 : Int32) (a6 a7 : Value) (a8 a9 : Int32) (a10 : Nat) (a11 : Value) (a12 a13 : Int32) (a14 a15 : Nat) (a16 : Value) (a17 : Nat) (a18 : Nat → Int32) (a19 : Nat) (a20 : Nat → Int32) : va_W := [(a0, .inr (5, [.ref a1, .int a2, .int a3, .int a4, .int a5, a6, a7, .int a8, .int a9])), (a10, .inr (8, [a11, .int a12, .int a13, .ref a14, .ref a15, a16])), (a17, .inl (cy 1, 901, .inl a18)), (a19, .inl (cy 1, 901, .inl a20))]
def wk_5bbb9e4d3 (cy : Nat → ClassId) (a0 a1 : Nat) (a2 a3 a4 a5 : Int32) (a6 a7 : Value) (a8 a9 : Int32) (a10 : Nat) (a11 : Value) (a12 a13 : Int32) (a14 : Value) (a15 : Nat) (a16 : Value) (a17 : Nat) (a18 : Nat → Int32) : va_W := [(a0, .inr (5, [.ref a1, .int a2, .int a3, .int a4, .int a5, a6, a7, .int a8, .int a9])), (a10, .inr (8, [a11, .int a12, .int a13, a14, .ref a15, a16])), (a17, .inl (cy 1, 901, .inl a18))]
def wk_565e7035b (cy : Nat → ClassId) (a0 : Nat) (a1 : Nat → Int32) (a2 a3 : Nat) (a4 a5 a6 a7 : Int32) (a8 a9 : Value) (a10 a11 : Int32) (a12 : Nat) (a13 : Value) (a14 a15 : Int32) (a16 a17 : Nat) (a18 : Value) (a19 : Nat) (a20 : Nat → Int32) : va_W := [(a0, .inl (cy 1, 901, .inl a1)), (a2, .inr (5, [.ref a3, .int a4, .int a5, .int a6, .int a7, a8, a9, .int a10, .int a11])), (a12, .inr (8, [a13, .int a14, .int a15, .ref a16, .ref a17, a18])), (a19, .inl (cy 1, 901, .inl a20))]
def wk_aa6ee0650 (cy : Nat → ClassId) (a0 a1 : Nat) (a2 a3 a4 a5 : Int32) (a6 a7 : Value) (a8 a9 : Int32) (a10 : Nat) (a11 : Value) (a12 a13 : Int32) (a14 a15 a16 a17 : Nat) (a18 : Nat → Int32) (a19 : Nat) (a20 : Nat → Int32) (a21 : Nat) (a22 : Nat → Int32) : va_W := [(a0, .inr (5, [.ref a1, .int a2, .int a3, .int a4, .int a5, a6, a7, .int a8, .int a9])), (a10, .inr (8, [a11, .int a12, .int a13, .ref a14, .ref a15, .ref a16])), (a17, .inl (cy 1, 901, .inl a18)), (a19, .inl (cy 1, 901, .inl a20)), (a21, .inl (cy 1, 901, .inl a22))]
def wk_5f0ef36a6 (cy : Nat → ClassId) (a0 : Nat) (a1 : Nat → Int32) (a2 : Nat) (a3 : Nat → Int32) : va_W := [(a0, .inl (cy 1, 901, .inl a1)), (a2, .inl (cy 1, 901, .inl a3))]
def wk_1a85a4215 (cy : Nat → ClassId) (a0 : Nat) (a1 : Nat → Int32) (a2 : Nat) (a3 : Nat → Int32) (a4 a5 : Nat) (a6 a7 a8 a9 : Int32) (a10 a11 : Value) (a12 a13 : Int32) (a14 : Nat) (a15 : Value) (a16 a17 : Int32) (a18 a19 a20 a21 : Nat) (a22 : Nat → Int32) : va_W := [(a0, .inl (cy 1, 901, .inl a1)), (a2, .inl (cy 1, 901, .inl a3)), (a4, .inr (5, [.ref a5, .int a6, .int a7, .int a8, .int a9, a10, a11, .int a12, .int a13])), (a14, .inr (8, [a15, .int a16, .int a17, .ref a18, .ref a19, .ref a20])), (a21, .inl (cy 1, 901, .inl a22))]
def wk_84183f5c8 (cy : Nat → ClassId) (a0 : Nat) (a1 : Nat → Int32) (a2 a3 : Nat) (a4 a5 a6 a7 : Int32) (a8 a9 : Value) (a10 a11 : Int32) (a12 : Nat) (a13 : Value) (a14 a15 : Int32) (a16 a17 a18 a19 : Nat) (a20 : Nat → Int32) (a21 : Nat) (a22 : Nat → Int32) : va_W := [(a0, .inl (cy 1, 901, .inl a1)), (a2, .inr (5, [.ref a3, .int a4, .int a5, .int a6, .int a7, a8, a9, .int a10, .int a11])), (a12, .inr (8, [a13, .int a14, .int a15, .ref a16, .ref a17, .ref a18])), (a19, .inl (cy 1, 901, .inl a20)), (a21, .inl (cy 1, 901, .inl a22))]
def wk_cba98532e (cy : Nat → ClassId) (a0 : Nat) (a1 : Value) (a2 a3 a4 a5 : Int32) (a6 : Value) (a7 : Nat) (a8 a9 : Int32) (a10 : Nat) (a11 : Nat → Int32) : va_W := [(a0, .inr (5, [a1, .int a2, .int a3, .int a4, .int a5, a6, .ref a7, .int a8, .int a9])), (a10, .inl (cy 1, 900, .inl a11))]
def wk_a727c0403 (cy : Nat → ClassId) (a0 a1 : Nat) (a2 a3 a4 a5 : Int32) (a6 : Value) (a7 : Nat) (a8 a9 : Int32) (a10 : Nat) (a11 : Value) (a12 a13 : Int32) (a14 a15 a16 a17 : Nat) (a18 : Nat → Int32) (a19 : Nat) (a20 : Nat → Int32) (a21 : Nat) (a22 : Nat → Int32) (a23 : Nat) (a24 : Nat → Int32) : va_W := [(a0, .inr (5, [.ref a1, .int a2, .int a3, .int a4, .int a5, a6, .ref a7, .int a8, .int a9])), (a10, .inr (8, [a11, .int a12, .int a13, .ref a14, .ref a15, .ref a16])), (a17, .inl (cy 1, 901, .inl a18)), (a19, .inl (cy 1, 901, .inl a20)), (a21, .inl (cy 1, 901, .inl a22)), (a23, .inl (cy 1, 900, .inl a24))]
def wk_e8b828d32 (cy : Nat → ClassId) (a0 : Nat) (a1 : Nat → Int32) (a2 : Nat) (a3 : Nat → Int32) (a4 : Nat) (a5 : Nat → Int32) : va_W := [(a0, .inl (cy 1, 901, .inl a1)), (a2, .inl (cy 1, 901, .inl a3)), (a4, .inl (cy 1, 900, .inl a5))]
def wk_770fe8eae (cy : Nat → ClassId) (a0 : Nat) (a1 : Nat → Int32) (a2 : Nat) (a3 : Nat → Int32) (a4 : Nat) (a5 : Nat → Int32) (a6 a7 : Nat) (a8 a9 a10 a11 : Int32) (a12 : Value) (a13 : Nat) (a14 a15 : Int32) (a16 : Nat) (a17 : Value) (a18 a19 : Int32) (a20 a21 a22 a23 : Nat) (a24 : Nat → Int32) : va_W := [(a0, .inl (cy 1, 901, .inl a1)), (a2, .inl (cy 1, 901, .inl a3)), (a4, .inl (cy 1, 900, .inl a5)), (a6, .inr (5, [.ref a7, .int a8, .int a9, .int a10, .int a11, a12, .ref a13, .int a14, .int a15])), (a16, .inr (8, [a17, .int a18, .int a19, .ref a20, .ref a21, .ref a22])), (a23, .inl (cy 1, 901, .inl a24))]
def wk_9325d072e (cy : Nat → ClassId) (a0 : Nat) (a1 : Value) (a2 a3 : Int32) (a4 a5 a6 a7 : Nat) (a8 : Nat → Int32) (a9 : Nat) (a10 : Nat → Int32) (a11 : Nat) (a12 : Nat → Int32) : va_W := [(a0, .inr (8, [a1, .int a2, .int a3, .ref a4, .ref a5, .ref a6])), (a7, .inl (cy 1, 901, .inl a8)), (a9, .inl (cy 1, 901, .inl a10)), (a11, .inl (cy 1, 901, .inl a12))]
def wk_cc81809fb (cy : Nat → ClassId) (a0 : Nat) (a1 : Value) (a2 a3 : Int32) (a4 a5 a6 a7 : Nat) (a8 : Nat → Int32) (a9 : Nat) (a10 : Nat → Int32) (a11 : Nat) (a12 : Nat → Int32) (a13 a14 : Nat) (a15 a16 a17 a18 : Int32) (a19 : Value) (a20 : Nat) (a21 a22 : Int32) (a23 : Nat) (a24 : Nat → Int32) : va_W := [(a0, .inr (8, [a1, .int a2, .int a3, .ref a4, .ref a5, .ref a6])), (a7, .inl (cy 1, 901, .inl a8)), (a9, .inl (cy 1, 901, .inl a10)), (a11, .inl (cy 1, 901, .inl a12)), (a13, .inr (5, [.ref a14, .int a15, .int a16, .int a17, .int a18, a19, .ref a20, .int a21, .int a22])), (a23, .inl (cy 1, 900, .inl a24))]
def wk_97b0566c7 (cy : Nat → ClassId) (a0 : Nat) (a1 : Nat → Int32) (a2 : Nat) (a3 : Nat → Int32) : va_W := [(a0, .inl (cy 1, 901, .inl a1)), (a2, .inl (cy 1, 900, .inl a3))]
def wk_e6664c302 (cy : Nat → ClassId) (a0 : Nat) (a1 : Nat → Int32) (a2 : Nat) (a3 : Nat → Int32) (a4 a5 : Nat) (a6 a7 a8 a9 : Int32) (a10 : Value) (a11 : Nat) (a12 a13 : Int32) (a14 : Nat) (a15 : Value) (a16 a17 : Int32) (a18 a19 a20 a21 : Nat) (a22 : Nat → Int32) (a23 : Nat) (a24 : Nat → Int32) : va_W := [(a0, .inl (cy 1, 901, .inl a1)), (a2, .inl (cy 1, 900, .inl a3)), (a4, .inr (5, [.ref a5, .int a6, .int a7, .int a8, .int a9, a10, .ref a11, .int a12, .int a13])), (a14, .inr (8, [a15, .int a16, .int a17, .ref a18, .ref a19, .ref a20])), (a21, .inl (cy 1, 901, .inl a22)), (a23, .inl (cy 1, 901, .inl a24))]
theorem wm_1_44 : Cond.fieldLink RX8 15 "OppositeHouse$Tokens" "length" "I" ∈ WG := wg_t1 (List.mem_of_getElem? (i := 44) rfl) rfl
theorem wm_1_43 : Cond.fieldLink RX8 9 "OppositeHouse$Tokens" "text" "[B" ∈ WG := wg_t1 (List.mem_of_getElem? (i := 43) rfl) rfl
theorem wm_2_177 : Cond.methodLink RX8 48 yX8_isLetter ∈ WG := wg_t2 (List.mem_of_getElem? (i := 177) rfl) rfl
theorem wm_2_180 : Cond.code yX8_isLetter cX8_isLetter 2 (some .boolean) ∈ WG := wg_t2 (List.mem_of_getElem? (i := 180) rfl) rfl
theorem wm_1_3 : Cond.initialized RX8 ∈ WG := wg_t1 (List.mem_of_getElem? (i := 3) rfl) rfl
theorem wm_2_179 : Cond.instanceMethod yX8_isLetter ∈ WG := wg_t2 (List.mem_of_getElem? (i := 179) rfl) rfl
theorem wp_1_2 : Cond.selects RX8 yX8_isLetter yX8_isLetter ∈ WG := wg_p (q := (yX8_isLetter, 6)) (wg_p1 (List.mem_of_getElem? (i := 2) rfl)) rfl
theorem wm_2_181 : Cond.methodLink RX8 52 yX8_isDigit ∈ WG := wg_t2 (List.mem_of_getElem? (i := 181) rfl) rfl
theorem wm_2_184 : Cond.code yX8_isDigit cX8_isDigit 2 (some .boolean) ∈ WG := wg_t2 (List.mem_of_getElem? (i := 184) rfl) rfl
theorem wm_2_183 : Cond.instanceMethod yX8_isDigit ∈ WG := wg_t2 (List.mem_of_getElem? (i := 183) rfl) rfl
theorem wp_1_3 : Cond.selects RX8 yX8_isDigit yX8_isDigit ∈ WG := wg_p (q := (yX8_isDigit, 6)) (wg_p1 (List.mem_of_getElem? (i := 3) rfl)) rfl
theorem wm_2_204 : Cond.methodLink RX8 70 yJ0_charAt_5068e ∈ WG := wg_t2 (List.mem_of_getElem? (i := 204) rfl) rfl
theorem wm_2_194 : Cond.methodLink RX8 67 yJ0_length_8abf5 ∈ WG := wg_t2 (List.mem_of_getElem? (i := 194) rfl) rfl
theorem wm_3_2 : Cond.methodLink RX8 74 yX8_isWritten ∈ WG := wg_t3 (List.mem_of_getElem? (i := 2) rfl) rfl
theorem wm_3_5 : Cond.code yX8_isWritten cX8_isWritten 5 (some .boolean) ∈ WG := wg_t3 (List.mem_of_getElem? (i := 5) rfl) rfl
theorem wm_3_4 : Cond.instanceMethod yX8_isWritten ∈ WG := wg_t3 (List.mem_of_getElem? (i := 4) rfl) rfl
theorem wp_1_6 : Cond.selects RX8 yX8_isWritten yX8_isWritten ∈ WG := wg_p (q := (yX8_isWritten, 6)) (wg_p1 (List.mem_of_getElem? (i := 6) rfl)) rfl
theorem wm_3_7 : Cond.methodLink RX8 60 yJ0_indexOf_0f7a4 ∈ WG := wg_t3 (List.mem_of_getElem? (i := 7) rfl) rfl
theorem wm_3_10 : Cond.code yJ0_indexOf_0f7a4 cJ0_indexOf_0f7a4 2 (some .int) ∈ WG := wg_t3 (List.mem_of_getElem? (i := 10) rfl) rfl
theorem wm_3_8 : Cond.instanceMethod yJ0_indexOf_0f7a4 ∈ WG := wg_t3 (List.mem_of_getElem? (i := 8) rfl) rfl
theorem wm_3_9 : Cond.selects RJ0 yJ0_indexOf_0f7a4 yJ0_indexOf_0f7a4 ∈ WG := wg_t3 (List.mem_of_getElem? (i := 9) rfl) rfl
theorem wm_2_189 : Cond.methodLink RX8 55 yX8_wordOf ∈ WG := wg_t2 (List.mem_of_getElem? (i := 189) rfl) rfl
theorem wm_2_192 : Cond.code yX8_wordOf cX8_wordOf 6 (some .int) ∈ WG := wg_t2 (List.mem_of_getElem? (i := 192) rfl) rfl
theorem wm_2_191 : Cond.instanceMethod yX8_wordOf ∈ WG := wg_t2 (List.mem_of_getElem? (i := 191) rfl) rfl
theorem wp_1_5 : Cond.selects RX8 yX8_wordOf yX8_wordOf ∈ WG := wg_p (q := (yX8_wordOf, 6)) (wg_p1 (List.mem_of_getElem? (i := 5) rfl)) rfl
theorem wm_2_170 : Cond.methodLink RX8 32 yJ9_min_7cf53 ∈ WG := wg_t2 (List.mem_of_getElem? (i := 170) rfl) rfl
theorem wm_1_45 : Cond.fieldLink RX8 19 "OppositeHouse$Tokens" "size" "I" ∈ WG := wg_t1 (List.mem_of_getElem? (i := 45) rfl) rfl
theorem wm_2_173 : Cond.methodLink RX8 38 yX8_endOf ∈ WG := wg_t2 (List.mem_of_getElem? (i := 173) rfl) rfl
theorem wm_2_176 : Cond.code yX8_endOf cX8_endOf 3 (some .int) ∈ WG := wg_t2 (List.mem_of_getElem? (i := 176) rfl) rfl
theorem wm_2_175 : Cond.instanceMethod yX8_endOf ∈ WG := wg_t2 (List.mem_of_getElem? (i := 175) rfl) rfl
theorem wp_1_1 : Cond.selects RX8 yX8_endOf yX8_endOf ∈ WG := wg_p (q := (yX8_endOf, 6)) (wg_p1 (List.mem_of_getElem? (i := 1) rfl)) rfl
theorem wm_1_47 : Cond.fieldLink RX8 22 "OppositeHouse$Tokens" "kinds" "[I" ∈ WG := wg_t1 (List.mem_of_getElem? (i := 47) rfl) rfl
theorem wm_2_185 : Cond.methodLink RX8 42 yX8_kindOf ∈ WG := wg_t2 (List.mem_of_getElem? (i := 185) rfl) rfl
theorem wm_2_188 : Cond.code yX8_kindOf cX8_kindOf 4 (some .int) ∈ WG := wg_t2 (List.mem_of_getElem? (i := 188) rfl) rfl
theorem wm_2_187 : Cond.instanceMethod yX8_kindOf ∈ WG := wg_t2 (List.mem_of_getElem? (i := 187) rfl) rfl
theorem wp_1_4 : Cond.selects RX8 yX8_kindOf yX8_kindOf ∈ WG := wg_p (q := (yX8_kindOf, 6)) (wg_p1 (List.mem_of_getElem? (i := 4) rfl)) rfl
theorem wm_1_49 : Cond.fieldLink RX8 26 "OppositeHouse$Tokens" "places" "[I" ∈ WG := wg_t1 (List.mem_of_getElem? (i := 49) rfl) rfl
theorem wm_1_51 : Cond.fieldLink RX8 29 "OppositeHouse$Tokens" "values" "[I" ∈ WG := wg_t1 (List.mem_of_getElem? (i := 51) rfl) rfl
theorem wm_3_64 : Cond.methodLink RX8 45 yX8_valueOf ∈ WG := wg_t3 (List.mem_of_getElem? (i := 64) rfl) rfl
theorem wm_3_67 : Cond.code yX8_valueOf cX8_valueOf 5 (some .int) ∈ WG := wg_t3 (List.mem_of_getElem? (i := 67) rfl) rfl
theorem wm_3_66 : Cond.instanceMethod yX8_valueOf ∈ WG := wg_t3 (List.mem_of_getElem? (i := 66) rfl) rfl
theorem wp_1_7 : Cond.selects RX8 yX8_valueOf yX8_valueOf ∈ WG := wg_p (q := (yX8_valueOf, 6)) (wg_p1 (List.mem_of_getElem? (i := 7) rfl)) rfl
theorem wm_1_147 : Cond.fieldLink RX5 25 "OppositeHouse$Reader" "fault" "I" ∈ WG := wg_t1 (List.mem_of_getElem? (i := 147) rfl) rfl
theorem wm_1_145 : Cond.fieldLink RX5 18 "OppositeHouse$Reader" "at" "I" ∈ WG := wg_t1 (List.mem_of_getElem? (i := 145) rfl) rfl
theorem wm_1_144 : Cond.fieldLink RX5 12 "OppositeHouse$Reader" "tokens" "LOppositeHouse$Tokens;" ∈ WG := wg_t1 (List.mem_of_getElem? (i := 144) rfl) rfl
theorem wm_1_46 : Cond.fieldLink RX5 69 "OppositeHouse$Tokens" "size" "I" ∈ WG := wg_t1 (List.mem_of_getElem? (i := 46) rfl) rfl
theorem wm_1_48 : Cond.fieldLink RX5 78 "OppositeHouse$Tokens" "kinds" "[I" ∈ WG := wg_t1 (List.mem_of_getElem? (i := 48) rfl) rfl
theorem wm_1_146 : Cond.fieldLink RX5 22 "OppositeHouse$Reader" "token" "I" ∈ WG := wg_t1 (List.mem_of_getElem? (i := 146) rfl) rfl
theorem wm_1_50 : Cond.fieldLink RX5 75 "OppositeHouse$Tokens" "places" "[I" ∈ WG := wg_t1 (List.mem_of_getElem? (i := 50) rfl) rfl
theorem wm_1_149 : Cond.fieldLink RX5 28 "OppositeHouse$Reader" "faultPlace" "I" ∈ WG := wg_t1 (List.mem_of_getElem? (i := 149) rfl) rfl
theorem wm_3_76 : Cond.methodLink RX5 81 yX5_refuse ∈ WG := wg_t3 (List.mem_of_getElem? (i := 76) rfl) rfl
theorem wm_3_79 : Cond.code yX5_refuse cX5_refuse 2 none ∈ WG := wg_t3 (List.mem_of_getElem? (i := 79) rfl) rfl
theorem wm_1_2 : Cond.initialized RX5 ∈ WG := wg_t1 (List.mem_of_getElem? (i := 2) rfl) rfl
theorem wm_3_78 : Cond.instanceMethod yX5_refuse ∈ WG := wg_t3 (List.mem_of_getElem? (i := 78) rfl) rfl
theorem wp_1_10 : Cond.selects RX5 yX5_refuse yX5_refuse ∈ WG := wg_p (q := (yX5_refuse, 9)) (wg_p1 (List.mem_of_getElem? (i := 10) rfl)) rfl
theorem wm_3_68 : Cond.methodLink RX5 52 yX5_advance ∈ WG := wg_t3 (List.mem_of_getElem? (i := 68) rfl) rfl
theorem wm_3_71 : Cond.code yX5_advance cX5_advance 1 none ∈ WG := wg_t3 (List.mem_of_getElem? (i := 71) rfl) rfl
theorem wm_3_70 : Cond.instanceMethod yX5_advance ∈ WG := wg_t3 (List.mem_of_getElem? (i := 70) rfl) rfl
theorem wp_1_8 : Cond.selects RX5 yX5_advance yX5_advance ∈ WG := wg_p (q := (yX5_advance, 9)) (wg_p1 (List.mem_of_getElem? (i := 8) rfl)) rfl
theorem wm_1_52 : Cond.fieldLink RX5 84 "OppositeHouse$Tokens" "values" "[I" ∈ WG := wg_t1 (List.mem_of_getElem? (i := 52) rfl) rfl
theorem wm_1_153 : Cond.fieldLink RX5 42 "OppositeHouse$Reader" "codeSize" "I" ∈ WG := wg_t1 (List.mem_of_getElem? (i := 153) rfl) rfl
theorem wm_1_152 : Cond.fieldLink RX5 38 "OppositeHouse$Reader" "code" "[I" ∈ WG := wg_t1 (List.mem_of_getElem? (i := 152) rfl) rfl
theorem wm_1_154 : Cond.fieldLink RX5 45 "OppositeHouse$Reader" "namesAllowed" "I" ∈ WG := wg_t1 (List.mem_of_getElem? (i := 154) rfl) rfl
theorem wm_3_113 : Cond.methodLink RX5 144 yX5_add ∈ WG := wg_t3 (List.mem_of_getElem? (i := 113) rfl) rfl
theorem wm_3_116 : Cond.code yX5_add cX5_add 2 none ∈ WG := wg_t3 (List.mem_of_getElem? (i := 116) rfl) rfl
theorem wm_3_115 : Cond.instanceMethod yX5_add ∈ WG := wg_t3 (List.mem_of_getElem? (i := 115) rfl) rfl
theorem wp_2_3 : Cond.selects RX5 yX5_add yX5_add ∈ WG := wg_p (q := (yX5_add, 9)) (wg_p2 (List.mem_of_getElem? (i := 3) rfl)) rfl
theorem wm_3_117 : Cond.methodLink RX5 150 yX5_goesDeeper ∈ WG := wg_t3 (List.mem_of_getElem? (i := 117) rfl) rfl
theorem wm_3_120 : Cond.code yX5_goesDeeper cX5_goesDeeper 2 (some .boolean) ∈ WG := wg_t3 (List.mem_of_getElem? (i := 120) rfl) rfl
theorem wm_3_119 : Cond.instanceMethod yX5_goesDeeper ∈ WG := wg_t3 (List.mem_of_getElem? (i := 119) rfl) rfl
theorem wp_2_4 : Cond.selects RX5 yX5_goesDeeper yX5_goesDeeper ∈ WG := wg_p (q := (yX5_goesDeeper, 9)) (wg_p2 (List.mem_of_getElem? (i := 4) rfl)) rfl
theorem wm_3_109 : Cond.methodLink RX5 156 yX5_readAtom ∈ WG := wg_t3 (List.mem_of_getElem? (i := 109) rfl) rfl
theorem wm_3_112 : Cond.code yX5_readAtom cX5_readAtom 2 none ∈ WG := wg_t3 (List.mem_of_getElem? (i := 112) rfl) rfl
theorem wm_3_111 : Cond.instanceMethod yX5_readAtom ∈ WG := wg_t3 (List.mem_of_getElem? (i := 111) rfl) rfl
theorem wp_2_2 : Cond.selects RX5 yX5_readAtom yX5_readAtom ∈ WG := wg_p (q := (yX5_readAtom, 9)) (wg_p2 (List.mem_of_getElem? (i := 2) rfl)) rfl
theorem wm_3_105 : Cond.methodLink RX5 153 yX5_readTerm ∈ WG := wg_t3 (List.mem_of_getElem? (i := 105) rfl) rfl
theorem wm_3_108 : Cond.code yX5_readTerm cX5_readTerm 3 none ∈ WG := wg_t3 (List.mem_of_getElem? (i := 108) rfl) rfl
theorem wm_3_107 : Cond.instanceMethod yX5_readTerm ∈ WG := wg_t3 (List.mem_of_getElem? (i := 107) rfl) rfl
theorem wp_2_1 : Cond.selects RX5 yX5_readTerm yX5_readTerm ∈ WG := wg_p (q := (yX5_readTerm, 9)) (wg_p2 (List.mem_of_getElem? (i := 1) rfl)) rfl
theorem wm_3_101 : Cond.methodLink RX5 130 yX5_readSum ∈ WG := wg_t3 (List.mem_of_getElem? (i := 101) rfl) rfl
theorem wm_3_104 : Cond.code yX5_readSum cX5_readSum 4 none ∈ WG := wg_t3 (List.mem_of_getElem? (i := 104) rfl) rfl
theorem wm_3_103 : Cond.instanceMethod yX5_readSum ∈ WG := wg_t3 (List.mem_of_getElem? (i := 103) rfl) rfl
theorem wp_2_0 : Cond.selects RX5 yX5_readSum yX5_readSum ∈ WG := wg_p (q := (yX5_readSum, 9)) (wg_p2 (List.mem_of_getElem? (i := 0) rfl)) rfl
theorem wm_3_72 : Cond.methodLink RX5 55 yX5_take ∈ WG := wg_t3 (List.mem_of_getElem? (i := 72) rfl) rfl
theorem wm_3_75 : Cond.code yX5_take cX5_take 2 none ∈ WG := wg_t3 (List.mem_of_getElem? (i := 75) rfl) rfl
theorem wm_3_74 : Cond.instanceMethod yX5_take ∈ WG := wg_t3 (List.mem_of_getElem? (i := 74) rfl) rfl
theorem wp_1_9 : Cond.selects RX5 yX5_take yX5_take ∈ WG := wg_p (q := (yX5_take, 9)) (wg_p1 (List.mem_of_getElem? (i := 9) rfl)) rfl
theorem wm_3_129 : Cond.methodLink RX5 147 yX5_readUnit ∈ WG := wg_t3 (List.mem_of_getElem? (i := 129) rfl) rfl
theorem wm_3_132 : Cond.code yX5_readUnit cX5_readUnit 3 none ∈ WG := wg_t3 (List.mem_of_getElem? (i := 132) rfl) rfl
theorem wm_3_131 : Cond.instanceMethod yX5_readUnit ∈ WG := wg_t3 (List.mem_of_getElem? (i := 131) rfl) rfl
theorem wp_2_7 : Cond.selects RX5 yX5_readUnit yX5_readUnit ∈ WG := wg_p (q := (yX5_readUnit, 9)) (wg_p2 (List.mem_of_getElem? (i := 7) rfl)) rfl
theorem wm_3_125 : Cond.methodLink RX5 141 yX5_readBoth ∈ WG := wg_t3 (List.mem_of_getElem? (i := 125) rfl) rfl
theorem wm_3_128 : Cond.code yX5_readBoth cX5_readBoth 3 none ∈ WG := wg_t3 (List.mem_of_getElem? (i := 128) rfl) rfl
theorem wm_3_127 : Cond.instanceMethod yX5_readBoth ∈ WG := wg_t3 (List.mem_of_getElem? (i := 127) rfl) rfl
theorem wp_2_6 : Cond.selects RX5 yX5_readBoth yX5_readBoth ∈ WG := wg_p (q := (yX5_readBoth, 9)) (wg_p2 (List.mem_of_getElem? (i := 6) rfl)) rfl
theorem wm_3_121 : Cond.methodLink RX5 133 yX5_readTruth ∈ WG := wg_t3 (List.mem_of_getElem? (i := 121) rfl) rfl
theorem wm_3_124 : Cond.code yX5_readTruth cX5_readTruth 3 none ∈ WG := wg_t3 (List.mem_of_getElem? (i := 124) rfl) rfl
theorem wm_3_123 : Cond.instanceMethod yX5_readTruth ∈ WG := wg_t3 (List.mem_of_getElem? (i := 123) rfl) rfl
theorem wp_2_5 : Cond.selects RX5 yX5_readTruth yX5_readTruth ∈ WG := wg_p (q := (yX5_readTruth, 9)) (wg_p2 (List.mem_of_getElem? (i := 5) rfl)) rfl
theorem wf_5 : ∀ w ∈ u_ws RX5 TX5 9, w ∈ WG := by
  intro w hw
  obtain ⟨k, hk, rfl⟩ := List.mem_map.mp hw
  have hk := List.mem_range.mp hk
  match k, hk with
  | 0, _ => exact wg_t1 (List.mem_of_getElem? (i := 155) rfl) rfl
  | 1, _ => exact wg_t1 (List.mem_of_getElem? (i := 157) rfl) rfl
  | 2, _ => exact wg_t1 (List.mem_of_getElem? (i := 159) rfl) rfl
  | 3, _ => exact wg_t1 (List.mem_of_getElem? (i := 161) rfl) rfl
  | 4, _ => exact wg_t1 (List.mem_of_getElem? (i := 163) rfl) rfl
  | 5, _ => exact wg_t1 (List.mem_of_getElem? (i := 165) rfl) rfl
  | 6, _ => exact wg_t1 (List.mem_of_getElem? (i := 167) rfl) rfl
  | 7, _ => exact wg_t1 (List.mem_of_getElem? (i := 169) rfl) rfl
  | 8, _ => exact wg_t1 (List.mem_of_getElem? (i := 171) rfl) rfl
  | n + 9, hk => exact absurd hk (by omega)
theorem wf_8 : ∀ w ∈ u_ws RX8 TX8 6, w ∈ WG := by
  intro w hw
  obtain ⟨k, hk, rfl⟩ := List.mem_map.mp hw
  have hk := List.mem_range.mp hk
  match k, hk with
  | 0, _ => exact wg_t1 (List.mem_of_getElem? (i := 53) rfl) rfl
  | 1, _ => exact wg_t1 (List.mem_of_getElem? (i := 55) rfl) rfl
  | 2, _ => exact wg_t1 (List.mem_of_getElem? (i := 57) rfl) rfl
  | 3, _ => exact wg_t1 (List.mem_of_getElem? (i := 59) rfl) rfl
  | 4, _ => exact wg_t1 (List.mem_of_getElem? (i := 61) rfl) rfl
  | 5, _ => exact wg_t1 (List.mem_of_getElem? (i := 63) rfl) rfl
  | n + 6, hk => exact absurd hk (by omega)
theorem hd_X8_isLetter : yX8_isLetter.cls ≠ "java/lang/invoke/MethodHandle" ∧ yX8_isLetter.cls ≠ "java/lang/invoke/VarHandle" ∧ (parseMethodDescriptor yX8_isLetter.desc).map (fun d => d.parameters.length) = some 1 := by decide +kernel
theorem hd_X8_isDigit : yX8_isDigit.cls ≠ "java/lang/invoke/MethodHandle" ∧ yX8_isDigit.cls ≠ "java/lang/invoke/VarHandle" ∧ (parseMethodDescriptor yX8_isDigit.desc).map (fun d => d.parameters.length) = some 1 := by decide +kernel
theorem hd_X8_isWritten : yX8_isWritten.cls ≠ "java/lang/invoke/MethodHandle" ∧ yX8_isWritten.cls ≠ "java/lang/invoke/VarHandle" ∧ (parseMethodDescriptor yX8_isWritten.desc).map (fun d => d.parameters.length) = some 3 := by decide +kernel
theorem hd_J0_indexOf_0f7a4 : yJ0_indexOf_0f7a4.cls ≠ "java/lang/invoke/MethodHandle" ∧ yJ0_indexOf_0f7a4.cls ≠ "java/lang/invoke/VarHandle" ∧ (parseMethodDescriptor yJ0_indexOf_0f7a4.desc).map (fun d => d.parameters.length) = some 1 := by decide +kernel
theorem hd_X8_wordOf : yX8_wordOf.cls ≠ "java/lang/invoke/MethodHandle" ∧ yX8_wordOf.cls ≠ "java/lang/invoke/VarHandle" ∧ (parseMethodDescriptor yX8_wordOf.desc).map (fun d => d.parameters.length) = some 2 := by decide +kernel
theorem hd_X8_endOf : yX8_endOf.cls ≠ "java/lang/invoke/MethodHandle" ∧ yX8_endOf.cls ≠ "java/lang/invoke/VarHandle" ∧ (parseMethodDescriptor yX8_endOf.desc).map (fun d => d.parameters.length) = some 1 := by decide +kernel
theorem hd_X8_kindOf : yX8_kindOf.cls ≠ "java/lang/invoke/MethodHandle" ∧ yX8_kindOf.cls ≠ "java/lang/invoke/VarHandle" ∧ (parseMethodDescriptor yX8_kindOf.desc).map (fun d => d.parameters.length) = some 2 := by decide +kernel
theorem hd_X8_valueOf : yX8_valueOf.cls ≠ "java/lang/invoke/MethodHandle" ∧ yX8_valueOf.cls ≠ "java/lang/invoke/VarHandle" ∧ (parseMethodDescriptor yX8_valueOf.desc).map (fun d => d.parameters.length) = some 2 := by decide +kernel
theorem hd_X5_refuse : yX5_refuse.cls ≠ "java/lang/invoke/MethodHandle" ∧ yX5_refuse.cls ≠ "java/lang/invoke/VarHandle" ∧ (parseMethodDescriptor yX5_refuse.desc).map (fun d => d.parameters.length) = some 1 := by decide +kernel
theorem hd_X5_advance : yX5_advance.cls ≠ "java/lang/invoke/MethodHandle" ∧ yX5_advance.cls ≠ "java/lang/invoke/VarHandle" ∧ (parseMethodDescriptor yX5_advance.desc).map (fun d => d.parameters.length) = some 0 := by decide +kernel
theorem hd_X5_add : yX5_add.cls ≠ "java/lang/invoke/MethodHandle" ∧ yX5_add.cls ≠ "java/lang/invoke/VarHandle" ∧ (parseMethodDescriptor yX5_add.desc).map (fun d => d.parameters.length) = some 1 := by decide +kernel
theorem hd_X5_goesDeeper : yX5_goesDeeper.cls ≠ "java/lang/invoke/MethodHandle" ∧ yX5_goesDeeper.cls ≠ "java/lang/invoke/VarHandle" ∧ (parseMethodDescriptor yX5_goesDeeper.desc).map (fun d => d.parameters.length) = some 1 := by decide +kernel
theorem hd_X5_readAtom : yX5_readAtom.cls ≠ "java/lang/invoke/MethodHandle" ∧ yX5_readAtom.cls ≠ "java/lang/invoke/VarHandle" ∧ (parseMethodDescriptor yX5_readAtom.desc).map (fun d => d.parameters.length) = some 1 := by decide +kernel
theorem hd_X5_readTerm : yX5_readTerm.cls ≠ "java/lang/invoke/MethodHandle" ∧ yX5_readTerm.cls ≠ "java/lang/invoke/VarHandle" ∧ (parseMethodDescriptor yX5_readTerm.desc).map (fun d => d.parameters.length) = some 1 := by decide +kernel
theorem hd_X5_readSum : yX5_readSum.cls ≠ "java/lang/invoke/MethodHandle" ∧ yX5_readSum.cls ≠ "java/lang/invoke/VarHandle" ∧ (parseMethodDescriptor yX5_readSum.desc).map (fun d => d.parameters.length) = some 1 := by decide +kernel
theorem hd_X5_take : yX5_take.cls ≠ "java/lang/invoke/MethodHandle" ∧ yX5_take.cls ≠ "java/lang/invoke/VarHandle" ∧ (parseMethodDescriptor yX5_take.desc).map (fun d => d.parameters.length) = some 1 := by decide +kernel
theorem hd_X5_readUnit : yX5_readUnit.cls ≠ "java/lang/invoke/MethodHandle" ∧ yX5_readUnit.cls ≠ "java/lang/invoke/VarHandle" ∧ (parseMethodDescriptor yX5_readUnit.desc).map (fun d => d.parameters.length) = some 1 := by decide +kernel
theorem hd_X5_readBoth : yX5_readBoth.cls ≠ "java/lang/invoke/MethodHandle" ∧ yX5_readBoth.cls ≠ "java/lang/invoke/VarHandle" ∧ (parseMethodDescriptor yX5_readBoth.desc).map (fun d => d.parameters.length) = some 1 := by decide +kernel
theorem hd_X5_readTruth : yX5_readTruth.cls ≠ "java/lang/invoke/MethodHandle" ∧ yX5_readTruth.cls ≠ "java/lang/invoke/VarHandle" ∧ (parseMethodDescriptor yX5_readTruth.desc).map (fun d => d.parameters.length) = some 1 := by decide +kernel
theorem dX5_add_0 : decode cX5_add 0 = .ok (.aload_n 0, 1) := by decide +kernel
theorem dX5_add_1 : decode cX5_add 1 = .ok (.getfield 42, 3) := by decide +kernel
theorem dX5_add_4 : decode cX5_add 4 = .ok (.aload_n 0, 1) := by decide +kernel
theorem dX5_add_5 : decode cX5_add 5 = .ok (.getfield 38, 3) := by decide +kernel
theorem dX5_add_8 : decode cX5_add 8 = .ok (.arraylength, 1) := by decide +kernel
theorem dX5_add_9 : decode cX5_add 9 = .ok (.if_icmp .ge 23, 3) := by decide +kernel
theorem dX5_add_12 : decode cX5_add 12 = .ok (.aload_n 0, 1) := by decide +kernel
theorem dX5_add_13 : decode cX5_add 13 = .ok (.getfield 38, 3) := by decide +kernel
theorem dX5_add_16 : decode cX5_add 16 = .ok (.aload_n 0, 1) := by decide +kernel
theorem dX5_add_17 : decode cX5_add 17 = .ok (.getfield 42, 3) := by decide +kernel
theorem dX5_add_20 : decode cX5_add 20 = .ok (.iload_n 1, 1) := by decide +kernel
theorem dX5_add_21 : decode cX5_add 21 = .ok (.iastore, 1) := by decide +kernel
theorem dX5_add_22 : decode cX5_add 22 = .ok (.aload_n 0, 1) := by decide +kernel
theorem dX5_add_23 : decode cX5_add 23 = .ok (.dup, 1) := by decide +kernel
theorem dX5_add_24 : decode cX5_add 24 = .ok (.getfield 42, 3) := by decide +kernel
theorem dX5_add_27 : decode cX5_add 27 = .ok (.iconst 1, 1) := by decide +kernel
theorem dX5_add_28 : decode cX5_add 28 = .ok (.iadd, 1) := by decide +kernel
theorem dX5_add_29 : decode cX5_add 29 = .ok (.putfield 42, 3) := by decide +kernel
theorem dX5_add_32 : decode cX5_add 32 = .ok (.return_, 1) := by decide +kernel
theorem dX5_advance_0 : decode cX5_advance 0 = .ok (.aload_n 0, 1) := by decide +kernel
theorem dX5_advance_1 : decode cX5_advance 1 = .ok (.getfield 25, 3) := by decide +kernel
theorem dX5_advance_4 : decode cX5_advance 4 = .ok (.ifCond .ne 19, 3) := by decide +kernel
theorem dX5_advance_7 : decode cX5_advance 7 = .ok (.aload_n 0, 1) := by decide +kernel
theorem dX5_advance_8 : decode cX5_advance 8 = .ok (.getfield 18, 3) := by decide +kernel
theorem dX5_advance_11 : decode cX5_advance 11 = .ok (.iconst 1, 1) := by decide +kernel
theorem dX5_advance_12 : decode cX5_advance 12 = .ok (.iadd, 1) := by decide +kernel
theorem dX5_advance_13 : decode cX5_advance 13 = .ok (.aload_n 0, 1) := by decide +kernel
theorem dX5_advance_14 : decode cX5_advance 14 = .ok (.getfield 12, 3) := by decide +kernel
theorem dX5_advance_17 : decode cX5_advance 17 = .ok (.getfield 69, 3) := by decide +kernel
theorem dX5_advance_20 : decode cX5_advance 20 = .ok (.if_icmp .lt 4, 3) := by decide +kernel
theorem dX5_advance_23 : decode cX5_advance 23 = .ok (.return_, 1) := by decide +kernel
theorem dX5_advance_24 : decode cX5_advance 24 = .ok (.aload_n 0, 1) := by decide +kernel
theorem dX5_advance_25 : decode cX5_advance 25 = .ok (.dup, 1) := by decide +kernel
theorem dX5_advance_26 : decode cX5_advance 26 = .ok (.getfield 18, 3) := by decide +kernel
theorem dX5_advance_29 : decode cX5_advance 29 = .ok (.iconst 1, 1) := by decide +kernel
theorem dX5_advance_30 : decode cX5_advance 30 = .ok (.iadd, 1) := by decide +kernel
theorem dX5_advance_31 : decode cX5_advance 31 = .ok (.putfield 18, 3) := by decide +kernel
theorem dX5_advance_34 : decode cX5_advance 34 = .ok (.aload_n 0, 1) := by decide +kernel
theorem dX5_advance_35 : decode cX5_advance 35 = .ok (.aload_n 0, 1) := by decide +kernel
theorem dX5_advance_36 : decode cX5_advance 36 = .ok (.getfield 12, 3) := by decide +kernel
theorem dX5_advance_39 : decode cX5_advance 39 = .ok (.getfield 78, 3) := by decide +kernel
theorem dX5_advance_42 : decode cX5_advance 42 = .ok (.aload_n 0, 1) := by decide +kernel
theorem dX5_advance_43 : decode cX5_advance 43 = .ok (.getfield 18, 3) := by decide +kernel
theorem dX5_advance_46 : decode cX5_advance 46 = .ok (.iaload, 1) := by decide +kernel
theorem dX5_advance_47 : decode cX5_advance 47 = .ok (.putfield 22, 3) := by decide +kernel
theorem dX5_advance_50 : decode cX5_advance 50 = .ok (.aload_n 0, 1) := by decide +kernel
theorem dX5_advance_51 : decode cX5_advance 51 = .ok (.getfield 22, 3) := by decide +kernel
theorem dX5_advance_54 : decode cX5_advance 54 = .ok (.bipush 27, 2) := by decide +kernel
theorem dX5_advance_56 : decode cX5_advance 56 = .ok (.if_icmp .ne 24, 3) := by decide +kernel
theorem dX5_advance_59 : decode cX5_advance 59 = .ok (.aload_n 0, 1) := by decide +kernel
theorem dX5_advance_60 : decode cX5_advance 60 = .ok (.iconst 1, 1) := by decide +kernel
theorem dX5_advance_61 : decode cX5_advance 61 = .ok (.putfield 25, 3) := by decide +kernel
theorem dX5_advance_64 : decode cX5_advance 64 = .ok (.aload_n 0, 1) := by decide +kernel
theorem dX5_advance_65 : decode cX5_advance 65 = .ok (.aload_n 0, 1) := by decide +kernel
theorem dX5_advance_66 : decode cX5_advance 66 = .ok (.getfield 12, 3) := by decide +kernel
theorem dX5_advance_69 : decode cX5_advance 69 = .ok (.getfield 75, 3) := by decide +kernel
theorem dX5_advance_72 : decode cX5_advance 72 = .ok (.aload_n 0, 1) := by decide +kernel
theorem dX5_advance_73 : decode cX5_advance 73 = .ok (.getfield 18, 3) := by decide +kernel
theorem dX5_advance_76 : decode cX5_advance 76 = .ok (.iaload, 1) := by decide +kernel
theorem dX5_advance_77 : decode cX5_advance 77 = .ok (.putfield 28, 3) := by decide +kernel
theorem dX5_advance_80 : decode cX5_advance 80 = .ok (.return_, 1) := by decide +kernel
theorem dX5_goesDeeper_0 : decode cX5_goesDeeper 0 = .ok (.iload_n 1, 1) := by decide +kernel
theorem dX5_goesDeeper_1 : decode cX5_goesDeeper 1 = .ok (.bipush 6, 2) := by decide +kernel
theorem dX5_goesDeeper_3 : decode cX5_goesDeeper 3 = .ok (.if_icmp .lt 10, 3) := by decide +kernel
theorem dX5_goesDeeper_6 : decode cX5_goesDeeper 6 = .ok (.aload_n 0, 1) := by decide +kernel
theorem dX5_goesDeeper_7 : decode cX5_goesDeeper 7 = .ok (.iconst 4, 1) := by decide +kernel
theorem dX5_goesDeeper_8 : decode cX5_goesDeeper 8 = .ok (.invokevirtual 81, 3) := by decide +kernel
theorem dX5_goesDeeper_11 : decode cX5_goesDeeper 11 = .ok (.iconst 0, 1) := by decide +kernel
theorem dX5_goesDeeper_12 : decode cX5_goesDeeper 12 = .ok (.ireturn, 1) := by decide +kernel
theorem dX5_goesDeeper_13 : decode cX5_goesDeeper 13 = .ok (.aload_n 0, 1) := by decide +kernel
theorem dX5_goesDeeper_14 : decode cX5_goesDeeper 14 = .ok (.invokevirtual 52, 3) := by decide +kernel
theorem dX5_goesDeeper_17 : decode cX5_goesDeeper 17 = .ok (.iconst 1, 1) := by decide +kernel
theorem dX5_goesDeeper_18 : decode cX5_goesDeeper 18 = .ok (.ireturn, 1) := by decide +kernel
theorem dX5_readAtom_0 : decode cX5_readAtom 0 = .ok (.aload_n 0, 1) := by decide +kernel
theorem dX5_readAtom_1 : decode cX5_readAtom 1 = .ok (.getfield 22, 3) := by decide +kernel
theorem dX5_readAtom_4 : decode cX5_readAtom 4 = .ok (.bipush 25, 2) := by decide +kernel
theorem dX5_readAtom_6 : decode cX5_readAtom 6 = .ok (.if_icmp .ne 26, 3) := by decide +kernel
theorem dX5_readAtom_9 : decode cX5_readAtom 9 = .ok (.aload_n 0, 1) := by decide +kernel
theorem dX5_readAtom_10 : decode cX5_readAtom 10 = .ok (.aload_n 0, 1) := by decide +kernel
theorem dX5_readAtom_11 : decode cX5_readAtom 11 = .ok (.getfield 12, 3) := by decide +kernel
theorem dX5_readAtom_14 : decode cX5_readAtom 14 = .ok (.getfield 84, 3) := by decide +kernel
theorem dX5_readAtom_17 : decode cX5_readAtom 17 = .ok (.aload_n 0, 1) := by decide +kernel
theorem dX5_readAtom_18 : decode cX5_readAtom 18 = .ok (.getfield 18, 3) := by decide +kernel
theorem dX5_readAtom_21 : decode cX5_readAtom 21 = .ok (.iaload, 1) := by decide +kernel
theorem dX5_readAtom_22 : decode cX5_readAtom 22 = .ok (.invokevirtual 144, 3) := by decide +kernel
theorem dX5_readAtom_25 : decode cX5_readAtom 25 = .ok (.aload_n 0, 1) := by decide +kernel
theorem dX5_readAtom_26 : decode cX5_readAtom 26 = .ok (.invokevirtual 52, 3) := by decide +kernel
theorem dX5_readAtom_29 : decode cX5_readAtom 29 = .ok (.goto 84, 3) := by decide +kernel
theorem dX5_readAtom_32 : decode cX5_readAtom 32 = .ok (.aload_n 0, 1) := by decide +kernel
theorem dX5_readAtom_33 : decode cX5_readAtom 33 = .ok (.getfield 22, 3) := by decide +kernel
theorem dX5_readAtom_36 : decode cX5_readAtom 36 = .ok (.bipush 40, 2) := by decide +kernel
theorem dX5_readAtom_38 : decode cX5_readAtom 38 = .ok (.if_icmp .ne 27, 3) := by decide +kernel
theorem dX5_readAtom_41 : decode cX5_readAtom 41 = .ok (.aload_n 0, 1) := by decide +kernel
theorem dX5_readAtom_42 : decode cX5_readAtom 42 = .ok (.iload_n 1, 1) := by decide +kernel
theorem dX5_readAtom_43 : decode cX5_readAtom 43 = .ok (.invokevirtual 150, 3) := by decide +kernel
theorem dX5_readAtom_46 : decode cX5_readAtom 46 = .ok (.ifCond .eq 67, 3) := by decide +kernel
theorem dX5_readAtom_49 : decode cX5_readAtom 49 = .ok (.aload_n 0, 1) := by decide +kernel
theorem dX5_readAtom_50 : decode cX5_readAtom 50 = .ok (.iload_n 1, 1) := by decide +kernel
theorem dX5_readAtom_51 : decode cX5_readAtom 51 = .ok (.iconst 1, 1) := by decide +kernel
theorem dX5_readAtom_52 : decode cX5_readAtom 52 = .ok (.iadd, 1) := by decide +kernel
theorem dX5_readAtom_53 : decode cX5_readAtom 53 = .ok (.invokevirtual 130, 3) := by decide +kernel
theorem dX5_readAtom_56 : decode cX5_readAtom 56 = .ok (.aload_n 0, 1) := by decide +kernel
theorem dX5_readAtom_57 : decode cX5_readAtom 57 = .ok (.bipush 41, 2) := by decide +kernel
theorem dX5_readAtom_59 : decode cX5_readAtom 59 = .ok (.invokevirtual 55, 3) := by decide +kernel
theorem dX5_readAtom_62 : decode cX5_readAtom 62 = .ok (.goto 51, 3) := by decide +kernel
theorem dX5_readAtom_65 : decode cX5_readAtom 65 = .ok (.aload_n 0, 1) := by decide +kernel
theorem dX5_readAtom_66 : decode cX5_readAtom 66 = .ok (.getfield 22, 3) := by decide +kernel
theorem dX5_readAtom_69 : decode cX5_readAtom 69 = .ok (.bipush 11, 2) := by decide +kernel
theorem dX5_readAtom_71 : decode cX5_readAtom 71 = .ok (.if_icmp .ge 37, 3) := by decide +kernel
theorem dX5_readAtom_74 : decode cX5_readAtom 74 = .ok (.aload_n 0, 1) := by decide +kernel
theorem dX5_readAtom_75 : decode cX5_readAtom 75 = .ok (.getfield 45, 3) := by decide +kernel
theorem dX5_readAtom_78 : decode cX5_readAtom 78 = .ok (.aload_n 0, 1) := by decide +kernel
theorem dX5_readAtom_79 : decode cX5_readAtom 79 = .ok (.getfield 22, 3) := by decide +kernel
theorem dX5_readAtom_82 : decode cX5_readAtom 82 = .ok (.ishr, 1) := by decide +kernel
theorem dX5_readAtom_83 : decode cX5_readAtom 83 = .ok (.iconst 1, 1) := by decide +kernel
theorem dX5_readAtom_84 : decode cX5_readAtom 84 = .ok (.iand, 1) := by decide +kernel
theorem dX5_readAtom_85 : decode cX5_readAtom 85 = .ok (.iconst 1, 1) := by decide +kernel
theorem dX5_readAtom_86 : decode cX5_readAtom 86 = .ok (.if_icmp .ne 22, 3) := by decide +kernel
theorem dX5_readAtom_89 : decode cX5_readAtom 89 = .ok (.aload_n 0, 1) := by decide +kernel
theorem dX5_readAtom_90 : decode cX5_readAtom 90 = .ok (.sipush 1000, 3) := by decide +kernel
theorem dX5_readAtom_93 : decode cX5_readAtom 93 = .ok (.aload_n 0, 1) := by decide +kernel
theorem dX5_readAtom_94 : decode cX5_readAtom 94 = .ok (.getfield 22, 3) := by decide +kernel
theorem dX5_readAtom_97 : decode cX5_readAtom 97 = .ok (.iadd, 1) := by decide +kernel
theorem dX5_readAtom_98 : decode cX5_readAtom 98 = .ok (.invokevirtual 144, 3) := by decide +kernel
theorem dX5_readAtom_101 : decode cX5_readAtom 101 = .ok (.aload_n 0, 1) := by decide +kernel
theorem dX5_readAtom_102 : decode cX5_readAtom 102 = .ok (.invokevirtual 52, 3) := by decide +kernel
theorem dX5_readAtom_105 : decode cX5_readAtom 105 = .ok (.goto 8, 3) := by decide +kernel
theorem dX5_readAtom_108 : decode cX5_readAtom 108 = .ok (.aload_n 0, 1) := by decide +kernel
theorem dX5_readAtom_109 : decode cX5_readAtom 109 = .ok (.iconst 2, 1) := by decide +kernel
theorem dX5_readAtom_110 : decode cX5_readAtom 110 = .ok (.invokevirtual 81, 3) := by decide +kernel
theorem dX5_readAtom_113 : decode cX5_readAtom 113 = .ok (.return_, 1) := by decide +kernel
theorem dX5_readBoth_0 : decode cX5_readBoth 0 = .ok (.aload_n 0, 1) := by decide +kernel
theorem dX5_readBoth_1 : decode cX5_readBoth 1 = .ok (.iload_n 1, 1) := by decide +kernel
theorem dX5_readBoth_2 : decode cX5_readBoth 2 = .ok (.invokevirtual 147, 3) := by decide +kernel
theorem dX5_readBoth_5 : decode cX5_readBoth 5 = .ok (.iconst 0, 1) := by decide +kernel
theorem dX5_readBoth_6 : decode cX5_readBoth 6 = .ok (.istore_n 2, 1) := by decide +kernel
theorem dX5_readBoth_7 : decode cX5_readBoth 7 = .ok (.iload_n 2, 1) := by decide +kernel
theorem dX5_readBoth_8 : decode cX5_readBoth 8 = .ok (.aload_n 0, 1) := by decide +kernel
theorem dX5_readBoth_9 : decode cX5_readBoth 9 = .ok (.getfield 12, 3) := by decide +kernel
theorem dX5_readBoth_12 : decode cX5_readBoth 12 = .ok (.getfield 69, 3) := by decide +kernel
theorem dX5_readBoth_15 : decode cX5_readBoth 15 = .ok (.if_icmp .ge 34, 3) := by decide +kernel
theorem dX5_readBoth_18 : decode cX5_readBoth 18 = .ok (.aload_n 0, 1) := by decide +kernel
theorem dX5_readBoth_19 : decode cX5_readBoth 19 = .ok (.getfield 22, 3) := by decide +kernel
theorem dX5_readBoth_22 : decode cX5_readBoth 22 = .ok (.bipush 22, 2) := by decide +kernel
theorem dX5_readBoth_24 : decode cX5_readBoth 24 = .ok (.if_icmp .ne 25, 3) := by decide +kernel
theorem dX5_readBoth_27 : decode cX5_readBoth 27 = .ok (.aload_n 0, 1) := by decide +kernel
theorem dX5_readBoth_28 : decode cX5_readBoth 28 = .ok (.invokevirtual 52, 3) := by decide +kernel
theorem dX5_readBoth_31 : decode cX5_readBoth 31 = .ok (.aload_n 0, 1) := by decide +kernel
theorem dX5_readBoth_32 : decode cX5_readBoth 32 = .ok (.iload_n 1, 1) := by decide +kernel
theorem dX5_readBoth_33 : decode cX5_readBoth 33 = .ok (.invokevirtual 147, 3) := by decide +kernel
theorem dX5_readBoth_36 : decode cX5_readBoth 36 = .ok (.aload_n 0, 1) := by decide +kernel
theorem dX5_readBoth_37 : decode cX5_readBoth 37 = .ok (.sipush 2022, 3) := by decide +kernel
theorem dX5_readBoth_40 : decode cX5_readBoth 40 = .ok (.invokevirtual 144, 3) := by decide +kernel
theorem dX5_readBoth_43 : decode cX5_readBoth 43 = .ok (.iinc 2 1, 3) := by decide +kernel
theorem dX5_readBoth_46 : decode cX5_readBoth 46 = .ok (.goto (-39), 3) := by decide +kernel
theorem dX5_readBoth_49 : decode cX5_readBoth 49 = .ok (.return_, 1) := by decide +kernel
theorem dX5_readSum_0 : decode cX5_readSum 0 = .ok (.aload_n 0, 1) := by decide +kernel
theorem dX5_readSum_1 : decode cX5_readSum 1 = .ok (.iload_n 1, 1) := by decide +kernel
theorem dX5_readSum_2 : decode cX5_readSum 2 = .ok (.invokevirtual 153, 3) := by decide +kernel
theorem dX5_readSum_5 : decode cX5_readSum 5 = .ok (.iconst 0, 1) := by decide +kernel
theorem dX5_readSum_6 : decode cX5_readSum 6 = .ok (.istore_n 2, 1) := by decide +kernel
theorem dX5_readSum_7 : decode cX5_readSum 7 = .ok (.iload_n 2, 1) := by decide +kernel
theorem dX5_readSum_8 : decode cX5_readSum 8 = .ok (.aload_n 0, 1) := by decide +kernel
theorem dX5_readSum_9 : decode cX5_readSum 9 = .ok (.getfield 12, 3) := by decide +kernel
theorem dX5_readSum_12 : decode cX5_readSum 12 = .ok (.getfield 69, 3) := by decide +kernel
theorem dX5_readSum_15 : decode cX5_readSum 15 = .ok (.if_icmp .ge 50, 3) := by decide +kernel
theorem dX5_readSum_18 : decode cX5_readSum 18 = .ok (.aload_n 0, 1) := by decide +kernel
theorem dX5_readSum_19 : decode cX5_readSum 19 = .ok (.getfield 22, 3) := by decide +kernel
theorem dX5_readSum_22 : decode cX5_readSum 22 = .ok (.bipush 43, 2) := by decide +kernel
theorem dX5_readSum_24 : decode cX5_readSum 24 = .ok (.if_icmp .eq 12, 3) := by decide +kernel
theorem dX5_readSum_27 : decode cX5_readSum 27 = .ok (.aload_n 0, 1) := by decide +kernel
theorem dX5_readSum_28 : decode cX5_readSum 28 = .ok (.getfield 22, 3) := by decide +kernel
theorem dX5_readSum_31 : decode cX5_readSum 31 = .ok (.bipush 45, 2) := by decide +kernel
theorem dX5_readSum_33 : decode cX5_readSum 33 = .ok (.if_icmp .ne 32, 3) := by decide +kernel
theorem dX5_readSum_36 : decode cX5_readSum 36 = .ok (.aload_n 0, 1) := by decide +kernel
theorem dX5_readSum_37 : decode cX5_readSum 37 = .ok (.getfield 22, 3) := by decide +kernel
theorem dX5_readSum_40 : decode cX5_readSum 40 = .ok (.istore_n 3, 1) := by decide +kernel
theorem dX5_readSum_41 : decode cX5_readSum 41 = .ok (.aload_n 0, 1) := by decide +kernel
theorem dX5_readSum_42 : decode cX5_readSum 42 = .ok (.invokevirtual 52, 3) := by decide +kernel
theorem dX5_readSum_45 : decode cX5_readSum 45 = .ok (.aload_n 0, 1) := by decide +kernel
theorem dX5_readSum_46 : decode cX5_readSum 46 = .ok (.iload_n 1, 1) := by decide +kernel
theorem dX5_readSum_47 : decode cX5_readSum 47 = .ok (.invokevirtual 153, 3) := by decide +kernel
theorem dX5_readSum_50 : decode cX5_readSum 50 = .ok (.aload_n 0, 1) := by decide +kernel
theorem dX5_readSum_51 : decode cX5_readSum 51 = .ok (.sipush 2000, 3) := by decide +kernel
theorem dX5_readSum_54 : decode cX5_readSum 54 = .ok (.iload_n 3, 1) := by decide +kernel
theorem dX5_readSum_55 : decode cX5_readSum 55 = .ok (.iadd, 1) := by decide +kernel
theorem dX5_readSum_56 : decode cX5_readSum 56 = .ok (.invokevirtual 144, 3) := by decide +kernel
theorem dX5_readSum_59 : decode cX5_readSum 59 = .ok (.iinc 2 1, 3) := by decide +kernel
theorem dX5_readSum_62 : decode cX5_readSum 62 = .ok (.goto (-55), 3) := by decide +kernel
theorem dX5_readSum_65 : decode cX5_readSum 65 = .ok (.return_, 1) := by decide +kernel
theorem dX5_readTerm_0 : decode cX5_readTerm 0 = .ok (.aload_n 0, 1) := by decide +kernel
theorem dX5_readTerm_1 : decode cX5_readTerm 1 = .ok (.iload_n 1, 1) := by decide +kernel
theorem dX5_readTerm_2 : decode cX5_readTerm 2 = .ok (.invokevirtual 156, 3) := by decide +kernel
theorem dX5_readTerm_5 : decode cX5_readTerm 5 = .ok (.iconst 0, 1) := by decide +kernel
theorem dX5_readTerm_6 : decode cX5_readTerm 6 = .ok (.istore_n 2, 1) := by decide +kernel
theorem dX5_readTerm_7 : decode cX5_readTerm 7 = .ok (.iload_n 2, 1) := by decide +kernel
theorem dX5_readTerm_8 : decode cX5_readTerm 8 = .ok (.aload_n 0, 1) := by decide +kernel
theorem dX5_readTerm_9 : decode cX5_readTerm 9 = .ok (.getfield 12, 3) := by decide +kernel
theorem dX5_readTerm_12 : decode cX5_readTerm 12 = .ok (.getfield 69, 3) := by decide +kernel
theorem dX5_readTerm_15 : decode cX5_readTerm 15 = .ok (.if_icmp .ge 34, 3) := by decide +kernel
theorem dX5_readTerm_18 : decode cX5_readTerm 18 = .ok (.aload_n 0, 1) := by decide +kernel
theorem dX5_readTerm_19 : decode cX5_readTerm 19 = .ok (.getfield 22, 3) := by decide +kernel
theorem dX5_readTerm_22 : decode cX5_readTerm 22 = .ok (.bipush 42, 2) := by decide +kernel
theorem dX5_readTerm_24 : decode cX5_readTerm 24 = .ok (.if_icmp .ne 25, 3) := by decide +kernel
theorem dX5_readTerm_27 : decode cX5_readTerm 27 = .ok (.aload_n 0, 1) := by decide +kernel
theorem dX5_readTerm_28 : decode cX5_readTerm 28 = .ok (.invokevirtual 52, 3) := by decide +kernel
theorem dX5_readTerm_31 : decode cX5_readTerm 31 = .ok (.aload_n 0, 1) := by decide +kernel
theorem dX5_readTerm_32 : decode cX5_readTerm 32 = .ok (.iload_n 1, 1) := by decide +kernel
theorem dX5_readTerm_33 : decode cX5_readTerm 33 = .ok (.invokevirtual 156, 3) := by decide +kernel
theorem dX5_readTerm_36 : decode cX5_readTerm 36 = .ok (.aload_n 0, 1) := by decide +kernel
theorem dX5_readTerm_37 : decode cX5_readTerm 37 = .ok (.sipush 2042, 3) := by decide +kernel
theorem dX5_readTerm_40 : decode cX5_readTerm 40 = .ok (.invokevirtual 144, 3) := by decide +kernel
theorem dX5_readTerm_43 : decode cX5_readTerm 43 = .ok (.iinc 2 1, 3) := by decide +kernel
theorem dX5_readTerm_46 : decode cX5_readTerm 46 = .ok (.goto (-39), 3) := by decide +kernel
theorem dX5_readTerm_49 : decode cX5_readTerm 49 = .ok (.return_, 1) := by decide +kernel
theorem dX5_readTruth_0 : decode cX5_readTruth 0 = .ok (.aload_n 0, 1) := by decide +kernel
theorem dX5_readTruth_1 : decode cX5_readTruth 1 = .ok (.iload_n 1, 1) := by decide +kernel
theorem dX5_readTruth_2 : decode cX5_readTruth 2 = .ok (.invokevirtual 141, 3) := by decide +kernel
theorem dX5_readTruth_5 : decode cX5_readTruth 5 = .ok (.iconst 0, 1) := by decide +kernel
theorem dX5_readTruth_6 : decode cX5_readTruth 6 = .ok (.istore_n 2, 1) := by decide +kernel
theorem dX5_readTruth_7 : decode cX5_readTruth 7 = .ok (.iload_n 2, 1) := by decide +kernel
theorem dX5_readTruth_8 : decode cX5_readTruth 8 = .ok (.aload_n 0, 1) := by decide +kernel
theorem dX5_readTruth_9 : decode cX5_readTruth 9 = .ok (.getfield 12, 3) := by decide +kernel
theorem dX5_readTruth_12 : decode cX5_readTruth 12 = .ok (.getfield 69, 3) := by decide +kernel
theorem dX5_readTruth_15 : decode cX5_readTruth 15 = .ok (.if_icmp .ge 34, 3) := by decide +kernel
theorem dX5_readTruth_18 : decode cX5_readTruth 18 = .ok (.aload_n 0, 1) := by decide +kernel
theorem dX5_readTruth_19 : decode cX5_readTruth 19 = .ok (.getfield 22, 3) := by decide +kernel
theorem dX5_readTruth_22 : decode cX5_readTruth 22 = .ok (.bipush 21, 2) := by decide +kernel
theorem dX5_readTruth_24 : decode cX5_readTruth 24 = .ok (.if_icmp .ne 25, 3) := by decide +kernel
theorem dX5_readTruth_27 : decode cX5_readTruth 27 = .ok (.aload_n 0, 1) := by decide +kernel
theorem dX5_readTruth_28 : decode cX5_readTruth 28 = .ok (.invokevirtual 52, 3) := by decide +kernel
theorem dX5_readTruth_31 : decode cX5_readTruth 31 = .ok (.aload_n 0, 1) := by decide +kernel
theorem dX5_readTruth_32 : decode cX5_readTruth 32 = .ok (.iload_n 1, 1) := by decide +kernel
theorem dX5_readTruth_33 : decode cX5_readTruth 33 = .ok (.invokevirtual 141, 3) := by decide +kernel
theorem dX5_readTruth_36 : decode cX5_readTruth 36 = .ok (.aload_n 0, 1) := by decide +kernel
theorem dX5_readTruth_37 : decode cX5_readTruth 37 = .ok (.sipush 2021, 3) := by decide +kernel
theorem dX5_readTruth_40 : decode cX5_readTruth 40 = .ok (.invokevirtual 144, 3) := by decide +kernel
theorem dX5_readTruth_43 : decode cX5_readTruth 43 = .ok (.iinc 2 1, 3) := by decide +kernel
theorem dX5_readTruth_46 : decode cX5_readTruth 46 = .ok (.goto (-39), 3) := by decide +kernel
theorem dX5_readTruth_49 : decode cX5_readTruth 49 = .ok (.return_, 1) := by decide +kernel
theorem dX5_readUnit_0 : decode cX5_readUnit 0 = .ok (.aload_n 0, 1) := by decide +kernel
theorem dX5_readUnit_1 : decode cX5_readUnit 1 = .ok (.getfield 22, 3) := by decide +kernel
theorem dX5_readUnit_4 : decode cX5_readUnit 4 = .ok (.bipush 23, 2) := by decide +kernel
theorem dX5_readUnit_6 : decode cX5_readUnit 6 = .ok (.if_icmp .ne 28, 3) := by decide +kernel
theorem dX5_readUnit_9 : decode cX5_readUnit 9 = .ok (.aload_n 0, 1) := by decide +kernel
theorem dX5_readUnit_10 : decode cX5_readUnit 10 = .ok (.iload_n 1, 1) := by decide +kernel
theorem dX5_readUnit_11 : decode cX5_readUnit 11 = .ok (.invokevirtual 150, 3) := by decide +kernel
theorem dX5_readUnit_14 : decode cX5_readUnit 14 = .ok (.ifCond .eq 107, 3) := by decide +kernel
theorem dX5_readUnit_17 : decode cX5_readUnit 17 = .ok (.aload_n 0, 1) := by decide +kernel
theorem dX5_readUnit_18 : decode cX5_readUnit 18 = .ok (.iload_n 1, 1) := by decide +kernel
theorem dX5_readUnit_19 : decode cX5_readUnit 19 = .ok (.iconst 1, 1) := by decide +kernel
theorem dX5_readUnit_20 : decode cX5_readUnit 20 = .ok (.iadd, 1) := by decide +kernel
theorem dX5_readUnit_21 : decode cX5_readUnit 21 = .ok (.invokevirtual 147, 3) := by decide +kernel
theorem dX5_readUnit_24 : decode cX5_readUnit 24 = .ok (.aload_n 0, 1) := by decide +kernel
theorem dX5_readUnit_25 : decode cX5_readUnit 25 = .ok (.sipush 2023, 3) := by decide +kernel
theorem dX5_readUnit_28 : decode cX5_readUnit 28 = .ok (.invokevirtual 144, 3) := by decide +kernel
theorem dX5_readUnit_31 : decode cX5_readUnit 31 = .ok (.goto 90, 3) := by decide +kernel
theorem dX5_readUnit_34 : decode cX5_readUnit 34 = .ok (.aload_n 0, 1) := by decide +kernel
theorem dX5_readUnit_35 : decode cX5_readUnit 35 = .ok (.getfield 22, 3) := by decide +kernel
theorem dX5_readUnit_38 : decode cX5_readUnit 38 = .ok (.bipush 91, 2) := by decide +kernel
theorem dX5_readUnit_40 : decode cX5_readUnit 40 = .ok (.if_icmp .ne 27, 3) := by decide +kernel
theorem dX5_readUnit_43 : decode cX5_readUnit 43 = .ok (.aload_n 0, 1) := by decide +kernel
theorem dX5_readUnit_44 : decode cX5_readUnit 44 = .ok (.iload_n 1, 1) := by decide +kernel
theorem dX5_readUnit_45 : decode cX5_readUnit 45 = .ok (.invokevirtual 150, 3) := by decide +kernel
theorem dX5_readUnit_48 : decode cX5_readUnit 48 = .ok (.ifCond .eq 73, 3) := by decide +kernel
theorem dX5_readUnit_51 : decode cX5_readUnit 51 = .ok (.aload_n 0, 1) := by decide +kernel
theorem dX5_readUnit_52 : decode cX5_readUnit 52 = .ok (.iload_n 1, 1) := by decide +kernel
theorem dX5_readUnit_53 : decode cX5_readUnit 53 = .ok (.iconst 1, 1) := by decide +kernel
theorem dX5_readUnit_54 : decode cX5_readUnit 54 = .ok (.iadd, 1) := by decide +kernel
theorem dX5_readUnit_55 : decode cX5_readUnit 55 = .ok (.invokevirtual 133, 3) := by decide +kernel
theorem dX5_readUnit_58 : decode cX5_readUnit 58 = .ok (.aload_n 0, 1) := by decide +kernel
theorem dX5_readUnit_59 : decode cX5_readUnit 59 = .ok (.bipush 93, 2) := by decide +kernel
theorem dX5_readUnit_61 : decode cX5_readUnit 61 = .ok (.invokevirtual 55, 3) := by decide +kernel
theorem dX5_readUnit_64 : decode cX5_readUnit 64 = .ok (.goto 57, 3) := by decide +kernel
theorem dX5_readUnit_67 : decode cX5_readUnit 67 = .ok (.aload_n 0, 1) := by decide +kernel
theorem dX5_readUnit_68 : decode cX5_readUnit 68 = .ok (.iload_n 1, 1) := by decide +kernel
theorem dX5_readUnit_69 : decode cX5_readUnit 69 = .ok (.invokevirtual 130, 3) := by decide +kernel
theorem dX5_readUnit_72 : decode cX5_readUnit 72 = .ok (.aload_n 0, 1) := by decide +kernel
theorem dX5_readUnit_73 : decode cX5_readUnit 73 = .ok (.getfield 22, 3) := by decide +kernel
theorem dX5_readUnit_76 : decode cX5_readUnit 76 = .ok (.istore_n 2, 1) := by decide +kernel
theorem dX5_readUnit_77 : decode cX5_readUnit 77 = .ok (.iload_n 2, 1) := by decide +kernel
theorem dX5_readUnit_78 : decode cX5_readUnit 78 = .ok (.bipush 61, 2) := by decide +kernel
theorem dX5_readUnit_80 : decode cX5_readUnit 80 = .ok (.if_icmp .eq 15, 3) := by decide +kernel
theorem dX5_readUnit_83 : decode cX5_readUnit 83 = .ok (.iload_n 2, 1) := by decide +kernel
theorem dX5_readUnit_84 : decode cX5_readUnit 84 = .ok (.bipush 60, 2) := by decide +kernel
theorem dX5_readUnit_86 : decode cX5_readUnit 86 = .ok (.if_icmp .eq 9, 3) := by decide +kernel
theorem dX5_readUnit_89 : decode cX5_readUnit 89 = .ok (.iload_n 2, 1) := by decide +kernel
theorem dX5_readUnit_90 : decode cX5_readUnit 90 = .ok (.bipush 62, 2) := by decide +kernel
theorem dX5_readUnit_92 : decode cX5_readUnit 92 = .ok (.if_icmp .ne 24, 3) := by decide +kernel
theorem dX5_readUnit_95 : decode cX5_readUnit 95 = .ok (.aload_n 0, 1) := by decide +kernel
theorem dX5_readUnit_96 : decode cX5_readUnit 96 = .ok (.invokevirtual 52, 3) := by decide +kernel
theorem dX5_readUnit_99 : decode cX5_readUnit 99 = .ok (.aload_n 0, 1) := by decide +kernel
theorem dX5_readUnit_100 : decode cX5_readUnit 100 = .ok (.iload_n 1, 1) := by decide +kernel
theorem dX5_readUnit_101 : decode cX5_readUnit 101 = .ok (.invokevirtual 130, 3) := by decide +kernel
theorem dX5_readUnit_104 : decode cX5_readUnit 104 = .ok (.aload_n 0, 1) := by decide +kernel
theorem dX5_readUnit_105 : decode cX5_readUnit 105 = .ok (.sipush 2000, 3) := by decide +kernel
theorem dX5_readUnit_108 : decode cX5_readUnit 108 = .ok (.iload_n 2, 1) := by decide +kernel
theorem dX5_readUnit_109 : decode cX5_readUnit 109 = .ok (.iadd, 1) := by decide +kernel
theorem dX5_readUnit_110 : decode cX5_readUnit 110 = .ok (.invokevirtual 144, 3) := by decide +kernel
theorem dX5_readUnit_113 : decode cX5_readUnit 113 = .ok (.goto 8, 3) := by decide +kernel
theorem dX5_readUnit_116 : decode cX5_readUnit 116 = .ok (.aload_n 0, 1) := by decide +kernel
theorem dX5_readUnit_117 : decode cX5_readUnit 117 = .ok (.iconst 2, 1) := by decide +kernel
theorem dX5_readUnit_118 : decode cX5_readUnit 118 = .ok (.invokevirtual 81, 3) := by decide +kernel
theorem dX5_readUnit_121 : decode cX5_readUnit 121 = .ok (.return_, 1) := by decide +kernel
theorem dX5_refuse_0 : decode cX5_refuse 0 = .ok (.aload_n 0, 1) := by decide +kernel
theorem dX5_refuse_1 : decode cX5_refuse 1 = .ok (.getfield 25, 3) := by decide +kernel
theorem dX5_refuse_4 : decode cX5_refuse 4 = .ok (.ifCond .ne 30, 3) := by decide +kernel
theorem dX5_refuse_7 : decode cX5_refuse 7 = .ok (.aload_n 0, 1) := by decide +kernel
theorem dX5_refuse_8 : decode cX5_refuse 8 = .ok (.iload_n 1, 1) := by decide +kernel
theorem dX5_refuse_9 : decode cX5_refuse 9 = .ok (.putfield 25, 3) := by decide +kernel
theorem dX5_refuse_12 : decode cX5_refuse 12 = .ok (.aload_n 0, 1) := by decide +kernel
theorem dX5_refuse_13 : decode cX5_refuse 13 = .ok (.aload_n 0, 1) := by decide +kernel
theorem dX5_refuse_14 : decode cX5_refuse 14 = .ok (.getfield 12, 3) := by decide +kernel
theorem dX5_refuse_17 : decode cX5_refuse 17 = .ok (.getfield 75, 3) := by decide +kernel
theorem dX5_refuse_20 : decode cX5_refuse 20 = .ok (.aload_n 0, 1) := by decide +kernel
theorem dX5_refuse_21 : decode cX5_refuse 21 = .ok (.getfield 18, 3) := by decide +kernel
theorem dX5_refuse_24 : decode cX5_refuse 24 = .ok (.iaload, 1) := by decide +kernel
theorem dX5_refuse_25 : decode cX5_refuse 25 = .ok (.putfield 28, 3) := by decide +kernel
theorem dX5_refuse_28 : decode cX5_refuse 28 = .ok (.aload_n 0, 1) := by decide +kernel
theorem dX5_refuse_29 : decode cX5_refuse 29 = .ok (.bipush 27, 2) := by decide +kernel
theorem dX5_refuse_31 : decode cX5_refuse 31 = .ok (.putfield 22, 3) := by decide +kernel
theorem dX5_refuse_34 : decode cX5_refuse 34 = .ok (.return_, 1) := by decide +kernel
theorem dX5_take_0 : decode cX5_take 0 = .ok (.aload_n 0, 1) := by decide +kernel
theorem dX5_take_1 : decode cX5_take 1 = .ok (.getfield 22, 3) := by decide +kernel
theorem dX5_take_4 : decode cX5_take 4 = .ok (.iload_n 1, 1) := by decide +kernel
theorem dX5_take_5 : decode cX5_take 5 = .ok (.if_icmp .ne 10, 3) := by decide +kernel
theorem dX5_take_8 : decode cX5_take 8 = .ok (.aload_n 0, 1) := by decide +kernel
theorem dX5_take_9 : decode cX5_take 9 = .ok (.invokevirtual 52, 3) := by decide +kernel
theorem dX5_take_12 : decode cX5_take 12 = .ok (.goto 8, 3) := by decide +kernel
theorem dX5_take_15 : decode cX5_take 15 = .ok (.aload_n 0, 1) := by decide +kernel
theorem dX5_take_16 : decode cX5_take 16 = .ok (.iconst 2, 1) := by decide +kernel
theorem dX5_take_17 : decode cX5_take 17 = .ok (.invokevirtual 81, 3) := by decide +kernel
theorem dX5_take_20 : decode cX5_take 20 = .ok (.return_, 1) := by decide +kernel
theorem dX5_takeNumber_0 : decode cX5_takeNumber 0 = .ok (.aload_n 0, 1) := by decide +kernel
theorem dX5_takeNumber_1 : decode cX5_takeNumber 1 = .ok (.getfield 22, 3) := by decide +kernel
theorem dX5_takeNumber_4 : decode cX5_takeNumber 4 = .ok (.bipush 25, 2) := by decide +kernel
theorem dX5_takeNumber_6 : decode cX5_takeNumber 6 = .ok (.if_icmp .eq 10, 3) := by decide +kernel
theorem dX5_takeNumber_9 : decode cX5_takeNumber 9 = .ok (.aload_n 0, 1) := by decide +kernel
theorem dX5_takeNumber_10 : decode cX5_takeNumber 10 = .ok (.iconst 2, 1) := by decide +kernel
theorem dX5_takeNumber_11 : decode cX5_takeNumber 11 = .ok (.invokevirtual 81, 3) := by decide +kernel
theorem dX5_takeNumber_14 : decode cX5_takeNumber 14 = .ok (.iload_n 1, 1) := by decide +kernel
theorem dX5_takeNumber_15 : decode cX5_takeNumber 15 = .ok (.ireturn, 1) := by decide +kernel
theorem dX5_takeNumber_16 : decode cX5_takeNumber 16 = .ok (.aload_n 0, 1) := by decide +kernel
theorem dX5_takeNumber_17 : decode cX5_takeNumber 17 = .ok (.getfield 12, 3) := by decide +kernel
theorem dX5_takeNumber_20 : decode cX5_takeNumber 20 = .ok (.getfield 84, 3) := by decide +kernel
theorem dX5_takeNumber_23 : decode cX5_takeNumber 23 = .ok (.aload_n 0, 1) := by decide +kernel
theorem dX5_takeNumber_24 : decode cX5_takeNumber 24 = .ok (.getfield 18, 3) := by decide +kernel
theorem dX5_takeNumber_27 : decode cX5_takeNumber 27 = .ok (.iaload, 1) := by decide +kernel
theorem dX5_takeNumber_28 : decode cX5_takeNumber 28 = .ok (.istore_n 3, 1) := by decide +kernel
theorem dX5_takeNumber_29 : decode cX5_takeNumber 29 = .ok (.iload_n 3, 1) := by decide +kernel
theorem dX5_takeNumber_30 : decode cX5_takeNumber 30 = .ok (.iload_n 1, 1) := by decide +kernel
theorem dX5_takeNumber_31 : decode cX5_takeNumber 31 = .ok (.if_icmp .lt 8, 3) := by decide +kernel
theorem dX5_takeNumber_34 : decode cX5_takeNumber 34 = .ok (.iload_n 3, 1) := by decide +kernel
theorem dX5_takeNumber_35 : decode cX5_takeNumber 35 = .ok (.iload_n 2, 1) := by decide +kernel
theorem dX5_takeNumber_36 : decode cX5_takeNumber 36 = .ok (.if_icmp .le 10, 3) := by decide +kernel
theorem dX5_takeNumber_39 : decode cX5_takeNumber 39 = .ok (.aload_n 0, 1) := by decide +kernel
theorem dX5_takeNumber_40 : decode cX5_takeNumber 40 = .ok (.iconst 3, 1) := by decide +kernel
theorem dX5_takeNumber_41 : decode cX5_takeNumber 41 = .ok (.invokevirtual 81, 3) := by decide +kernel
theorem dX5_takeNumber_44 : decode cX5_takeNumber 44 = .ok (.iload_n 1, 1) := by decide +kernel
theorem dX5_takeNumber_45 : decode cX5_takeNumber 45 = .ok (.ireturn, 1) := by decide +kernel
theorem dX5_takeNumber_46 : decode cX5_takeNumber 46 = .ok (.aload_n 0, 1) := by decide +kernel
theorem dX5_takeNumber_47 : decode cX5_takeNumber 47 = .ok (.invokevirtual 52, 3) := by decide +kernel
theorem dX5_takeNumber_50 : decode cX5_takeNumber 50 = .ok (.iload_n 3, 1) := by decide +kernel
theorem dX5_takeNumber_51 : decode cX5_takeNumber 51 = .ok (.ireturn, 1) := by decide +kernel
theorem dX8_cut_0 : decode cX8_cut 0 = .ok (.aload_n 0, 1) := by decide +kernel
theorem dX8_cut_1 : decode cX8_cut 1 = .ok (.aload_n 1, 1) := by decide +kernel
theorem dX8_cut_2 : decode cX8_cut 2 = .ok (.putfield 9, 3) := by decide +kernel
theorem dX8_cut_5 : decode cX8_cut 5 = .ok (.aload_n 0, 1) := by decide +kernel
theorem dX8_cut_6 : decode cX8_cut 6 = .ok (.iload_n 2, 1) := by decide +kernel
theorem dX8_cut_7 : decode cX8_cut 7 = .ok (.aload_n 1, 1) := by decide +kernel
theorem dX8_cut_8 : decode cX8_cut 8 = .ok (.arraylength, 1) := by decide +kernel
theorem dX8_cut_9 : decode cX8_cut 9 = .ok (.invokestatic 32, 3) := by decide +kernel
theorem dX8_cut_12 : decode cX8_cut 12 = .ok (.sipush 900, 3) := by decide +kernel
theorem dX8_cut_15 : decode cX8_cut 15 = .ok (.invokestatic 32, 3) := by decide +kernel
theorem dX8_cut_18 : decode cX8_cut 18 = .ok (.putfield 15, 3) := by decide +kernel
theorem dX8_cut_21 : decode cX8_cut 21 = .ok (.aload_n 0, 1) := by decide +kernel
theorem dX8_cut_22 : decode cX8_cut 22 = .ok (.iconst 0, 1) := by decide +kernel
theorem dX8_cut_23 : decode cX8_cut 23 = .ok (.putfield 19, 3) := by decide +kernel
theorem dX8_cut_26 : decode cX8_cut 26 = .ok (.iconst 0, 1) := by decide +kernel
theorem dX8_cut_27 : decode cX8_cut 27 = .ok (.istore_n 3, 1) := by decide +kernel
theorem dX8_cut_28 : decode cX8_cut 28 = .ok (.iconst 1, 1) := by decide +kernel
theorem dX8_cut_29 : decode cX8_cut 29 = .ok (.istore 4, 2) := by decide +kernel
theorem dX8_cut_31 : decode cX8_cut 31 = .ok (.iconst 0, 1) := by decide +kernel
theorem dX8_cut_32 : decode cX8_cut 32 = .ok (.istore 5, 2) := by decide +kernel
theorem dX8_cut_34 : decode cX8_cut 34 = .ok (.iload 5, 2) := by decide +kernel
theorem dX8_cut_36 : decode cX8_cut 36 = .ok (.aload_n 0, 1) := by decide +kernel
theorem dX8_cut_37 : decode cX8_cut 37 = .ok (.getfield 15, 3) := by decide +kernel
theorem dX8_cut_40 : decode cX8_cut 40 = .ok (.if_icmp .gt 151, 3) := by decide +kernel
theorem dX8_cut_43 : decode cX8_cut 43 = .ok (.iload 4, 2) := by decide +kernel
theorem dX8_cut_45 : decode cX8_cut 45 = .ok (.ifCond .eq 146, 3) := by decide +kernel
theorem dX8_cut_48 : decode cX8_cut 48 = .ok (.iload_n 3, 1) := by decide +kernel
theorem dX8_cut_49 : decode cX8_cut 49 = .ok (.aload_n 0, 1) := by decide +kernel
theorem dX8_cut_50 : decode cX8_cut 50 = .ok (.getfield 15, 3) := by decide +kernel
theorem dX8_cut_53 : decode cX8_cut 53 = .ok (.if_icmp .ge 31, 3) := by decide +kernel
theorem dX8_cut_56 : decode cX8_cut 56 = .ok (.aload_n 0, 1) := by decide +kernel
theorem dX8_cut_57 : decode cX8_cut 57 = .ok (.getfield 9, 3) := by decide +kernel
theorem dX8_cut_60 : decode cX8_cut 60 = .ok (.iload_n 3, 1) := by decide +kernel
theorem dX8_cut_61 : decode cX8_cut 61 = .ok (.baload, 1) := by decide +kernel
theorem dX8_cut_62 : decode cX8_cut 62 = .ok (.bipush 10, 2) := by decide +kernel
theorem dX8_cut_64 : decode cX8_cut 64 = .ok (.if_icmp .eq 14, 3) := by decide +kernel
theorem dX8_cut_67 : decode cX8_cut 67 = .ok (.aload_n 0, 1) := by decide +kernel
theorem dX8_cut_68 : decode cX8_cut 68 = .ok (.getfield 9, 3) := by decide +kernel
theorem dX8_cut_71 : decode cX8_cut 71 = .ok (.iload_n 3, 1) := by decide +kernel
theorem dX8_cut_72 : decode cX8_cut 72 = .ok (.baload, 1) := by decide +kernel
theorem dX8_cut_73 : decode cX8_cut 73 = .ok (.bipush 32, 2) := by decide +kernel
theorem dX8_cut_75 : decode cX8_cut 75 = .ok (.if_icmp .ne 9, 3) := by decide +kernel
theorem dX8_cut_78 : decode cX8_cut 78 = .ok (.iinc 3 1, 3) := by decide +kernel
theorem dX8_cut_81 : decode cX8_cut 81 = .ok (.goto (-33), 3) := by decide +kernel
theorem dX8_cut_84 : decode cX8_cut 84 = .ok (.aload_n 0, 1) := by decide +kernel
theorem dX8_cut_85 : decode cX8_cut 85 = .ok (.iload_n 3, 1) := by decide +kernel
theorem dX8_cut_86 : decode cX8_cut 86 = .ok (.invokevirtual 38, 3) := by decide +kernel
theorem dX8_cut_89 : decode cX8_cut 89 = .ok (.istore 6, 2) := by decide +kernel
theorem dX8_cut_91 : decode cX8_cut 91 = .ok (.aload_n 0, 1) := by decide +kernel
theorem dX8_cut_92 : decode cX8_cut 92 = .ok (.getfield 22, 3) := by decide +kernel
theorem dX8_cut_95 : decode cX8_cut 95 = .ok (.iload 5, 2) := by decide +kernel
theorem dX8_cut_97 : decode cX8_cut 97 = .ok (.aload_n 0, 1) := by decide +kernel
theorem dX8_cut_98 : decode cX8_cut 98 = .ok (.iload_n 3, 1) := by decide +kernel
theorem dX8_cut_99 : decode cX8_cut 99 = .ok (.iload 6, 2) := by decide +kernel
theorem dX8_cut_101 : decode cX8_cut 101 = .ok (.invokevirtual 42, 3) := by decide +kernel
theorem dX8_cut_104 : decode cX8_cut 104 = .ok (.iastore, 1) := by decide +kernel
theorem dX8_cut_105 : decode cX8_cut 105 = .ok (.aload_n 0, 1) := by decide +kernel
theorem dX8_cut_106 : decode cX8_cut 106 = .ok (.getfield 26, 3) := by decide +kernel
theorem dX8_cut_109 : decode cX8_cut 109 = .ok (.iload 5, 2) := by decide +kernel
theorem dX8_cut_111 : decode cX8_cut 111 = .ok (.iload_n 3, 1) := by decide +kernel
theorem dX8_cut_112 : decode cX8_cut 112 = .ok (.iastore, 1) := by decide +kernel
theorem dX8_cut_113 : decode cX8_cut 113 = .ok (.aload_n 0, 1) := by decide +kernel
theorem dX8_cut_114 : decode cX8_cut 114 = .ok (.getfield 29, 3) := by decide +kernel
theorem dX8_cut_117 : decode cX8_cut 117 = .ok (.iload 5, 2) := by decide +kernel
theorem dX8_cut_119 : decode cX8_cut 119 = .ok (.aload_n 0, 1) := by decide +kernel
theorem dX8_cut_120 : decode cX8_cut 120 = .ok (.getfield 22, 3) := by decide +kernel
theorem dX8_cut_123 : decode cX8_cut 123 = .ok (.iload 5, 2) := by decide +kernel
theorem dX8_cut_125 : decode cX8_cut 125 = .ok (.iaload, 1) := by decide +kernel
theorem dX8_cut_126 : decode cX8_cut 126 = .ok (.bipush 25, 2) := by decide +kernel
theorem dX8_cut_128 : decode cX8_cut 128 = .ok (.if_icmp .ne 13, 3) := by decide +kernel
theorem dX8_cut_131 : decode cX8_cut 131 = .ok (.aload_n 0, 1) := by decide +kernel
theorem dX8_cut_132 : decode cX8_cut 132 = .ok (.iload_n 3, 1) := by decide +kernel
theorem dX8_cut_133 : decode cX8_cut 133 = .ok (.iload 6, 2) := by decide +kernel
theorem dX8_cut_135 : decode cX8_cut 135 = .ok (.invokevirtual 45, 3) := by decide +kernel
theorem dX8_cut_138 : decode cX8_cut 138 = .ok (.goto 4, 3) := by decide +kernel
theorem dX8_cut_141 : decode cX8_cut 141 = .ok (.iconst 0, 1) := by decide +kernel
theorem dX8_cut_142 : decode cX8_cut 142 = .ok (.iastore, 1) := by decide +kernel
theorem dX8_cut_143 : decode cX8_cut 143 = .ok (.aload_n 0, 1) := by decide +kernel
theorem dX8_cut_144 : decode cX8_cut 144 = .ok (.iload 5, 2) := by decide +kernel
theorem dX8_cut_146 : decode cX8_cut 146 = .ok (.iconst 1, 1) := by decide +kernel
theorem dX8_cut_147 : decode cX8_cut 147 = .ok (.iadd, 1) := by decide +kernel
theorem dX8_cut_148 : decode cX8_cut 148 = .ok (.putfield 19, 3) := by decide +kernel
theorem dX8_cut_151 : decode cX8_cut 151 = .ok (.iload 6, 2) := by decide +kernel
theorem dX8_cut_153 : decode cX8_cut 153 = .ok (.istore_n 3, 1) := by decide +kernel
theorem dX8_cut_154 : decode cX8_cut 154 = .ok (.aload_n 0, 1) := by decide +kernel
theorem dX8_cut_155 : decode cX8_cut 155 = .ok (.getfield 22, 3) := by decide +kernel
theorem dX8_cut_158 : decode cX8_cut 158 = .ok (.iload 5, 2) := by decide +kernel
theorem dX8_cut_160 : decode cX8_cut 160 = .ok (.iaload, 1) := by decide +kernel
theorem dX8_cut_161 : decode cX8_cut 161 = .ok (.bipush 26, 2) := by decide +kernel
theorem dX8_cut_163 : decode cX8_cut 163 = .ok (.if_icmp .eq 19, 3) := by decide +kernel
theorem dX8_cut_166 : decode cX8_cut 166 = .ok (.aload_n 0, 1) := by decide +kernel
theorem dX8_cut_167 : decode cX8_cut 167 = .ok (.getfield 22, 3) := by decide +kernel
theorem dX8_cut_170 : decode cX8_cut 170 = .ok (.iload 5, 2) := by decide +kernel
theorem dX8_cut_172 : decode cX8_cut 172 = .ok (.iaload, 1) := by decide +kernel
theorem dX8_cut_173 : decode cX8_cut 173 = .ok (.bipush 27, 2) := by decide +kernel
theorem dX8_cut_175 : decode cX8_cut 175 = .ok (.if_icmp .eq 7, 3) := by decide +kernel
theorem dX8_cut_178 : decode cX8_cut 178 = .ok (.iconst 1, 1) := by decide +kernel
theorem dX8_cut_179 : decode cX8_cut 179 = .ok (.goto 4, 3) := by decide +kernel
theorem dX8_cut_182 : decode cX8_cut 182 = .ok (.iconst 0, 1) := by decide +kernel
theorem dX8_cut_183 : decode cX8_cut 183 = .ok (.istore 4, 2) := by decide +kernel
theorem dX8_cut_185 : decode cX8_cut 185 = .ok (.iinc 5 1, 3) := by decide +kernel
theorem dX8_cut_188 : decode cX8_cut 188 = .ok (.goto (-154), 3) := by decide +kernel
theorem dX8_cut_191 : decode cX8_cut 191 = .ok (.return_, 1) := by decide +kernel
theorem dX8_endOf_0 : decode cX8_endOf 0 = .ok (.iload_n 1, 1) := by decide +kernel
theorem dX8_endOf_1 : decode cX8_endOf 1 = .ok (.istore_n 2, 1) := by decide +kernel
theorem dX8_endOf_2 : decode cX8_endOf 2 = .ok (.aload_n 0, 1) := by decide +kernel
theorem dX8_endOf_3 : decode cX8_endOf 3 = .ok (.iload_n 1, 1) := by decide +kernel
theorem dX8_endOf_4 : decode cX8_endOf 4 = .ok (.invokevirtual 48, 3) := by decide +kernel
theorem dX8_endOf_7 : decode cX8_endOf 7 = .ok (.ifCond .eq 25, 3) := by decide +kernel
theorem dX8_endOf_10 : decode cX8_endOf 10 = .ok (.iload_n 2, 1) := by decide +kernel
theorem dX8_endOf_11 : decode cX8_endOf 11 = .ok (.aload_n 0, 1) := by decide +kernel
theorem dX8_endOf_12 : decode cX8_endOf 12 = .ok (.getfield 15, 3) := by decide +kernel
theorem dX8_endOf_15 : decode cX8_endOf 15 = .ok (.if_icmp .ge 58, 3) := by decide +kernel
theorem dX8_endOf_18 : decode cX8_endOf 18 = .ok (.aload_n 0, 1) := by decide +kernel
theorem dX8_endOf_19 : decode cX8_endOf 19 = .ok (.iload_n 2, 1) := by decide +kernel
theorem dX8_endOf_20 : decode cX8_endOf 20 = .ok (.invokevirtual 48, 3) := by decide +kernel
theorem dX8_endOf_23 : decode cX8_endOf 23 = .ok (.ifCond .eq 50, 3) := by decide +kernel
theorem dX8_endOf_26 : decode cX8_endOf 26 = .ok (.iinc 2 1, 3) := by decide +kernel
theorem dX8_endOf_29 : decode cX8_endOf 29 = .ok (.goto (-19), 3) := by decide +kernel
theorem dX8_endOf_32 : decode cX8_endOf 32 = .ok (.aload_n 0, 1) := by decide +kernel
theorem dX8_endOf_33 : decode cX8_endOf 33 = .ok (.iload_n 1, 1) := by decide +kernel
theorem dX8_endOf_34 : decode cX8_endOf 34 = .ok (.invokevirtual 52, 3) := by decide +kernel
theorem dX8_endOf_37 : decode cX8_endOf 37 = .ok (.ifCond .eq 25, 3) := by decide +kernel
theorem dX8_endOf_40 : decode cX8_endOf 40 = .ok (.iload_n 2, 1) := by decide +kernel
theorem dX8_endOf_41 : decode cX8_endOf 41 = .ok (.aload_n 0, 1) := by decide +kernel
theorem dX8_endOf_42 : decode cX8_endOf 42 = .ok (.getfield 15, 3) := by decide +kernel
theorem dX8_endOf_45 : decode cX8_endOf 45 = .ok (.if_icmp .ge 28, 3) := by decide +kernel
theorem dX8_endOf_48 : decode cX8_endOf 48 = .ok (.aload_n 0, 1) := by decide +kernel
theorem dX8_endOf_49 : decode cX8_endOf 49 = .ok (.iload_n 2, 1) := by decide +kernel
theorem dX8_endOf_50 : decode cX8_endOf 50 = .ok (.invokevirtual 52, 3) := by decide +kernel
theorem dX8_endOf_53 : decode cX8_endOf 53 = .ok (.ifCond .eq 20, 3) := by decide +kernel
theorem dX8_endOf_56 : decode cX8_endOf 56 = .ok (.iinc 2 1, 3) := by decide +kernel
theorem dX8_endOf_59 : decode cX8_endOf 59 = .ok (.goto (-19), 3) := by decide +kernel
theorem dX8_endOf_62 : decode cX8_endOf 62 = .ok (.iload_n 1, 1) := by decide +kernel
theorem dX8_endOf_63 : decode cX8_endOf 63 = .ok (.aload_n 0, 1) := by decide +kernel
theorem dX8_endOf_64 : decode cX8_endOf 64 = .ok (.getfield 15, 3) := by decide +kernel
theorem dX8_endOf_67 : decode cX8_endOf 67 = .ok (.if_icmp .ge 6, 3) := by decide +kernel
theorem dX8_endOf_70 : decode cX8_endOf 70 = .ok (.iinc 2 1, 3) := by decide +kernel
theorem dX8_endOf_73 : decode cX8_endOf 73 = .ok (.iload_n 2, 1) := by decide +kernel
theorem dX8_endOf_74 : decode cX8_endOf 74 = .ok (.ireturn, 1) := by decide +kernel
theorem dX8_isDigit_0 : decode cX8_isDigit 0 = .ok (.iload_n 1, 1) := by decide +kernel
theorem dX8_isDigit_1 : decode cX8_isDigit 1 = .ok (.aload_n 0, 1) := by decide +kernel
theorem dX8_isDigit_2 : decode cX8_isDigit 2 = .ok (.getfield 15, 3) := by decide +kernel
theorem dX8_isDigit_5 : decode cX8_isDigit 5 = .ok (.if_icmp .ge 29, 3) := by decide +kernel
theorem dX8_isDigit_8 : decode cX8_isDigit 8 = .ok (.aload_n 0, 1) := by decide +kernel
theorem dX8_isDigit_9 : decode cX8_isDigit 9 = .ok (.getfield 9, 3) := by decide +kernel
theorem dX8_isDigit_12 : decode cX8_isDigit 12 = .ok (.iload_n 1, 1) := by decide +kernel
theorem dX8_isDigit_13 : decode cX8_isDigit 13 = .ok (.baload, 1) := by decide +kernel
theorem dX8_isDigit_14 : decode cX8_isDigit 14 = .ok (.bipush 48, 2) := by decide +kernel
theorem dX8_isDigit_16 : decode cX8_isDigit 16 = .ok (.if_icmp .lt 18, 3) := by decide +kernel
theorem dX8_isDigit_19 : decode cX8_isDigit 19 = .ok (.aload_n 0, 1) := by decide +kernel
theorem dX8_isDigit_20 : decode cX8_isDigit 20 = .ok (.getfield 9, 3) := by decide +kernel
theorem dX8_isDigit_23 : decode cX8_isDigit 23 = .ok (.iload_n 1, 1) := by decide +kernel
theorem dX8_isDigit_24 : decode cX8_isDigit 24 = .ok (.baload, 1) := by decide +kernel
theorem dX8_isDigit_25 : decode cX8_isDigit 25 = .ok (.bipush 57, 2) := by decide +kernel
theorem dX8_isDigit_27 : decode cX8_isDigit 27 = .ok (.if_icmp .gt 7, 3) := by decide +kernel
theorem dX8_isDigit_30 : decode cX8_isDigit 30 = .ok (.iconst 1, 1) := by decide +kernel
theorem dX8_isDigit_31 : decode cX8_isDigit 31 = .ok (.goto 4, 3) := by decide +kernel
theorem dX8_isDigit_34 : decode cX8_isDigit 34 = .ok (.iconst 0, 1) := by decide +kernel
theorem dX8_isDigit_35 : decode cX8_isDigit 35 = .ok (.ireturn, 1) := by decide +kernel
theorem dX8_isLetter_0 : decode cX8_isLetter 0 = .ok (.iload_n 1, 1) := by decide +kernel
theorem dX8_isLetter_1 : decode cX8_isLetter 1 = .ok (.aload_n 0, 1) := by decide +kernel
theorem dX8_isLetter_2 : decode cX8_isLetter 2 = .ok (.getfield 15, 3) := by decide +kernel
theorem dX8_isLetter_5 : decode cX8_isLetter 5 = .ok (.if_icmp .ge 29, 3) := by decide +kernel
theorem dX8_isLetter_8 : decode cX8_isLetter 8 = .ok (.aload_n 0, 1) := by decide +kernel
theorem dX8_isLetter_9 : decode cX8_isLetter 9 = .ok (.getfield 9, 3) := by decide +kernel
theorem dX8_isLetter_12 : decode cX8_isLetter 12 = .ok (.iload_n 1, 1) := by decide +kernel
theorem dX8_isLetter_13 : decode cX8_isLetter 13 = .ok (.baload, 1) := by decide +kernel
theorem dX8_isLetter_14 : decode cX8_isLetter 14 = .ok (.bipush 97, 2) := by decide +kernel
theorem dX8_isLetter_16 : decode cX8_isLetter 16 = .ok (.if_icmp .lt 18, 3) := by decide +kernel
theorem dX8_isLetter_19 : decode cX8_isLetter 19 = .ok (.aload_n 0, 1) := by decide +kernel
theorem dX8_isLetter_20 : decode cX8_isLetter 20 = .ok (.getfield 9, 3) := by decide +kernel
theorem dX8_isLetter_23 : decode cX8_isLetter 23 = .ok (.iload_n 1, 1) := by decide +kernel
theorem dX8_isLetter_24 : decode cX8_isLetter 24 = .ok (.baload, 1) := by decide +kernel
theorem dX8_isLetter_25 : decode cX8_isLetter 25 = .ok (.bipush 122, 2) := by decide +kernel
theorem dX8_isLetter_27 : decode cX8_isLetter 27 = .ok (.if_icmp .gt 7, 3) := by decide +kernel
theorem dX8_isLetter_30 : decode cX8_isLetter 30 = .ok (.iconst 1, 1) := by decide +kernel
theorem dX8_isLetter_31 : decode cX8_isLetter 31 = .ok (.goto 4, 3) := by decide +kernel
theorem dX8_isLetter_34 : decode cX8_isLetter 34 = .ok (.iconst 0, 1) := by decide +kernel
theorem dX8_isLetter_35 : decode cX8_isLetter 35 = .ok (.ireturn, 1) := by decide +kernel
theorem dX8_isWritten_0 : decode cX8_isWritten 0 = .ok (.iconst 0, 1) := by decide +kernel
theorem dX8_isWritten_1 : decode cX8_isWritten 1 = .ok (.istore 4, 2) := by decide +kernel
theorem dX8_isWritten_3 : decode cX8_isWritten 3 = .ok (.iload 4, 2) := by decide +kernel
theorem dX8_isWritten_5 : decode cX8_isWritten 5 = .ok (.iload_n 3, 1) := by decide +kernel
theorem dX8_isWritten_6 : decode cX8_isWritten 6 = .ok (.if_icmp .ge 32, 3) := by decide +kernel
theorem dX8_isWritten_9 : decode cX8_isWritten 9 = .ok (.ldc 65, 2) := by decide +kernel
theorem dX8_isWritten_11 : decode cX8_isWritten 11 = .ok (.iload_n 1, 1) := by decide +kernel
theorem dX8_isWritten_12 : decode cX8_isWritten 12 = .ok (.iload 4, 2) := by decide +kernel
theorem dX8_isWritten_14 : decode cX8_isWritten 14 = .ok (.iadd, 1) := by decide +kernel
theorem dX8_isWritten_15 : decode cX8_isWritten 15 = .ok (.invokevirtual 70, 3) := by decide +kernel
theorem dX8_isWritten_18 : decode cX8_isWritten 18 = .ok (.aload_n 0, 1) := by decide +kernel
theorem dX8_isWritten_19 : decode cX8_isWritten 19 = .ok (.getfield 9, 3) := by decide +kernel
theorem dX8_isWritten_22 : decode cX8_isWritten 22 = .ok (.iload_n 2, 1) := by decide +kernel
theorem dX8_isWritten_23 : decode cX8_isWritten 23 = .ok (.iload 4, 2) := by decide +kernel
theorem dX8_isWritten_25 : decode cX8_isWritten 25 = .ok (.iadd, 1) := by decide +kernel
theorem dX8_isWritten_26 : decode cX8_isWritten 26 = .ok (.baload, 1) := by decide +kernel
theorem dX8_isWritten_27 : decode cX8_isWritten 27 = .ok (.if_icmp .eq 5, 3) := by decide +kernel
theorem dX8_isWritten_30 : decode cX8_isWritten 30 = .ok (.iconst 0, 1) := by decide +kernel
theorem dX8_isWritten_31 : decode cX8_isWritten 31 = .ok (.ireturn, 1) := by decide +kernel
theorem dX8_isWritten_32 : decode cX8_isWritten 32 = .ok (.iinc 4 1, 3) := by decide +kernel
theorem dX8_isWritten_35 : decode cX8_isWritten 35 = .ok (.goto (-32), 3) := by decide +kernel
theorem dX8_isWritten_38 : decode cX8_isWritten 38 = .ok (.iconst 1, 1) := by decide +kernel
theorem dX8_isWritten_39 : decode cX8_isWritten 39 = .ok (.ireturn, 1) := by decide +kernel
theorem dX8_kindOf_0 : decode cX8_kindOf 0 = .ok (.iload_n 1, 1) := by decide +kernel
theorem dX8_kindOf_1 : decode cX8_kindOf 1 = .ok (.aload_n 0, 1) := by decide +kernel
theorem dX8_kindOf_2 : decode cX8_kindOf 2 = .ok (.getfield 15, 3) := by decide +kernel
theorem dX8_kindOf_5 : decode cX8_kindOf 5 = .ok (.if_icmp .lt 6, 3) := by decide +kernel
theorem dX8_kindOf_8 : decode cX8_kindOf 8 = .ok (.bipush 26, 2) := by decide +kernel
theorem dX8_kindOf_10 : decode cX8_kindOf 10 = .ok (.ireturn, 1) := by decide +kernel
theorem dX8_kindOf_11 : decode cX8_kindOf 11 = .ok (.aload_n 0, 1) := by decide +kernel
theorem dX8_kindOf_12 : decode cX8_kindOf 12 = .ok (.iload_n 1, 1) := by decide +kernel
theorem dX8_kindOf_13 : decode cX8_kindOf 13 = .ok (.invokevirtual 48, 3) := by decide +kernel
theorem dX8_kindOf_16 : decode cX8_kindOf 16 = .ok (.ifCond .eq 10, 3) := by decide +kernel
theorem dX8_kindOf_19 : decode cX8_kindOf 19 = .ok (.aload_n 0, 1) := by decide +kernel
theorem dX8_kindOf_20 : decode cX8_kindOf 20 = .ok (.iload_n 1, 1) := by decide +kernel
theorem dX8_kindOf_21 : decode cX8_kindOf 21 = .ok (.iload_n 2, 1) := by decide +kernel
theorem dX8_kindOf_22 : decode cX8_kindOf 22 = .ok (.invokevirtual 55, 3) := by decide +kernel
theorem dX8_kindOf_25 : decode cX8_kindOf 25 = .ok (.ireturn, 1) := by decide +kernel
theorem dX8_kindOf_26 : decode cX8_kindOf 26 = .ok (.aload_n 0, 1) := by decide +kernel
theorem dX8_kindOf_27 : decode cX8_kindOf 27 = .ok (.iload_n 1, 1) := by decide +kernel
theorem dX8_kindOf_28 : decode cX8_kindOf 28 = .ok (.invokevirtual 52, 3) := by decide +kernel
theorem dX8_kindOf_31 : decode cX8_kindOf 31 = .ok (.ifCond .eq 18, 3) := by decide +kernel
theorem dX8_kindOf_34 : decode cX8_kindOf 34 = .ok (.iload_n 2, 1) := by decide +kernel
theorem dX8_kindOf_35 : decode cX8_kindOf 35 = .ok (.iload_n 1, 1) := by decide +kernel
theorem dX8_kindOf_36 : decode cX8_kindOf 36 = .ok (.isub, 1) := by decide +kernel
theorem dX8_kindOf_37 : decode cX8_kindOf 37 = .ok (.iconst 3, 1) := by decide +kernel
theorem dX8_kindOf_38 : decode cX8_kindOf 38 = .ok (.if_icmp .le 8, 3) := by decide +kernel
theorem dX8_kindOf_41 : decode cX8_kindOf 41 = .ok (.bipush 27, 2) := by decide +kernel
theorem dX8_kindOf_43 : decode cX8_kindOf 43 = .ok (.goto 5, 3) := by decide +kernel
theorem dX8_kindOf_46 : decode cX8_kindOf 46 = .ok (.bipush 25, 2) := by decide +kernel
theorem dX8_kindOf_48 : decode cX8_kindOf 48 = .ok (.ireturn, 1) := by decide +kernel
theorem dX8_kindOf_49 : decode cX8_kindOf 49 = .ok (.aload_n 0, 1) := by decide +kernel
theorem dX8_kindOf_50 : decode cX8_kindOf 50 = .ok (.getfield 9, 3) := by decide +kernel
theorem dX8_kindOf_53 : decode cX8_kindOf 53 = .ok (.iload_n 1, 1) := by decide +kernel
theorem dX8_kindOf_54 : decode cX8_kindOf 54 = .ok (.baload, 1) := by decide +kernel
theorem dX8_kindOf_55 : decode cX8_kindOf 55 = .ok (.sipush 255, 3) := by decide +kernel
theorem dX8_kindOf_58 : decode cX8_kindOf 58 = .ok (.iand, 1) := by decide +kernel
theorem dX8_kindOf_59 : decode cX8_kindOf 59 = .ok (.i2c, 1) := by decide +kernel
theorem dX8_kindOf_60 : decode cX8_kindOf 60 = .ok (.istore_n 3, 1) := by decide +kernel
theorem dX8_kindOf_61 : decode cX8_kindOf 61 = .ok (.ldc 58, 2) := by decide +kernel
theorem dX8_kindOf_63 : decode cX8_kindOf 63 = .ok (.iload_n 3, 1) := by decide +kernel
theorem dX8_kindOf_64 : decode cX8_kindOf 64 = .ok (.invokevirtual 60, 3) := by decide +kernel
theorem dX8_kindOf_67 : decode cX8_kindOf 67 = .ok (.ifCond .lt 7, 3) := by decide +kernel
theorem dX8_kindOf_70 : decode cX8_kindOf 70 = .ok (.iload_n 3, 1) := by decide +kernel
theorem dX8_kindOf_71 : decode cX8_kindOf 71 = .ok (.goto 5, 3) := by decide +kernel
theorem dX8_kindOf_74 : decode cX8_kindOf 74 = .ok (.bipush 27, 2) := by decide +kernel
theorem dX8_kindOf_76 : decode cX8_kindOf 76 = .ok (.ireturn, 1) := by decide +kernel
theorem dX8_valueOf_0 : decode cX8_valueOf 0 = .ok (.iconst 0, 1) := by decide +kernel
theorem dX8_valueOf_1 : decode cX8_valueOf 1 = .ok (.istore_n 3, 1) := by decide +kernel
theorem dX8_valueOf_2 : decode cX8_valueOf 2 = .ok (.iload_n 1, 1) := by decide +kernel
theorem dX8_valueOf_3 : decode cX8_valueOf 3 = .ok (.istore 4, 2) := by decide +kernel
theorem dX8_valueOf_5 : decode cX8_valueOf 5 = .ok (.iload 4, 2) := by decide +kernel
theorem dX8_valueOf_7 : decode cX8_valueOf 7 = .ok (.iload_n 2, 1) := by decide +kernel
theorem dX8_valueOf_8 : decode cX8_valueOf 8 = .ok (.if_icmp .ge 25, 3) := by decide +kernel
theorem dX8_valueOf_11 : decode cX8_valueOf 11 = .ok (.bipush 10, 2) := by decide +kernel
theorem dX8_valueOf_13 : decode cX8_valueOf 13 = .ok (.iload_n 3, 1) := by decide +kernel
theorem dX8_valueOf_14 : decode cX8_valueOf 14 = .ok (.imul, 1) := by decide +kernel
theorem dX8_valueOf_15 : decode cX8_valueOf 15 = .ok (.aload_n 0, 1) := by decide +kernel
theorem dX8_valueOf_16 : decode cX8_valueOf 16 = .ok (.getfield 9, 3) := by decide +kernel
theorem dX8_valueOf_19 : decode cX8_valueOf 19 = .ok (.iload 4, 2) := by decide +kernel
theorem dX8_valueOf_21 : decode cX8_valueOf 21 = .ok (.baload, 1) := by decide +kernel
theorem dX8_valueOf_22 : decode cX8_valueOf 22 = .ok (.iadd, 1) := by decide +kernel
theorem dX8_valueOf_23 : decode cX8_valueOf 23 = .ok (.bipush 48, 2) := by decide +kernel
theorem dX8_valueOf_25 : decode cX8_valueOf 25 = .ok (.isub, 1) := by decide +kernel
theorem dX8_valueOf_26 : decode cX8_valueOf 26 = .ok (.istore_n 3, 1) := by decide +kernel
theorem dX8_valueOf_27 : decode cX8_valueOf 27 = .ok (.iinc 4 1, 3) := by decide +kernel
theorem dX8_valueOf_30 : decode cX8_valueOf 30 = .ok (.goto (-25), 3) := by decide +kernel
theorem dX8_valueOf_33 : decode cX8_valueOf 33 = .ok (.iload_n 3, 1) := by decide +kernel
theorem dX8_valueOf_34 : decode cX8_valueOf 34 = .ok (.ireturn, 1) := by decide +kernel
theorem dX8_wordOf_0 : decode cX8_wordOf 0 = .ok (.iconst 0, 1) := by decide +kernel
theorem dX8_wordOf_1 : decode cX8_wordOf 1 = .ok (.istore_n 3, 1) := by decide +kernel
theorem dX8_wordOf_2 : decode cX8_wordOf 2 = .ok (.iconst 0, 1) := by decide +kernel
theorem dX8_wordOf_3 : decode cX8_wordOf 3 = .ok (.istore 4, 2) := by decide +kernel
theorem dX8_wordOf_5 : decode cX8_wordOf 5 = .ok (.iconst 0, 1) := by decide +kernel
theorem dX8_wordOf_6 : decode cX8_wordOf 6 = .ok (.istore 5, 2) := by decide +kernel
theorem dX8_wordOf_8 : decode cX8_wordOf 8 = .ok (.iload 5, 2) := by decide +kernel
theorem dX8_wordOf_10 : decode cX8_wordOf 10 = .ok (.ldc 65, 2) := by decide +kernel
theorem dX8_wordOf_12 : decode cX8_wordOf 12 = .ok (.invokevirtual 67, 3) := by decide +kernel
theorem dX8_wordOf_15 : decode cX8_wordOf 15 = .ok (.if_icmp .gt 66, 3) := by decide +kernel
theorem dX8_wordOf_18 : decode cX8_wordOf 18 = .ok (.iload 5, 2) := by decide +kernel
theorem dX8_wordOf_20 : decode cX8_wordOf 20 = .ok (.ldc 65, 2) := by decide +kernel
theorem dX8_wordOf_22 : decode cX8_wordOf 22 = .ok (.invokevirtual 67, 3) := by decide +kernel
theorem dX8_wordOf_25 : decode cX8_wordOf 25 = .ok (.if_icmp .eq 15, 3) := by decide +kernel
theorem dX8_wordOf_28 : decode cX8_wordOf 28 = .ok (.ldc 65, 2) := by decide +kernel
theorem dX8_wordOf_30 : decode cX8_wordOf 30 = .ok (.iload 5, 2) := by decide +kernel
theorem dX8_wordOf_32 : decode cX8_wordOf 32 = .ok (.invokevirtual 70, 3) := by decide +kernel
theorem dX8_wordOf_35 : decode cX8_wordOf 35 = .ok (.bipush 32, 2) := by decide +kernel
theorem dX8_wordOf_37 : decode cX8_wordOf 37 = .ok (.if_icmp .ne 38, 3) := by decide +kernel
theorem dX8_wordOf_40 : decode cX8_wordOf 40 = .ok (.iload 5, 2) := by decide +kernel
theorem dX8_wordOf_42 : decode cX8_wordOf 42 = .ok (.iload 4, 2) := by decide +kernel
theorem dX8_wordOf_44 : decode cX8_wordOf 44 = .ok (.isub, 1) := by decide +kernel
theorem dX8_wordOf_45 : decode cX8_wordOf 45 = .ok (.iload_n 2, 1) := by decide +kernel
theorem dX8_wordOf_46 : decode cX8_wordOf 46 = .ok (.iload_n 1, 1) := by decide +kernel
theorem dX8_wordOf_47 : decode cX8_wordOf 47 = .ok (.isub, 1) := by decide +kernel
theorem dX8_wordOf_48 : decode cX8_wordOf 48 = .ok (.if_icmp .ne 18, 3) := by decide +kernel
theorem dX8_wordOf_51 : decode cX8_wordOf 51 = .ok (.aload_n 0, 1) := by decide +kernel
theorem dX8_wordOf_52 : decode cX8_wordOf 52 = .ok (.iload 4, 2) := by decide +kernel
theorem dX8_wordOf_54 : decode cX8_wordOf 54 = .ok (.iload_n 1, 1) := by decide +kernel
theorem dX8_wordOf_55 : decode cX8_wordOf 55 = .ok (.iload_n 2, 1) := by decide +kernel
theorem dX8_wordOf_56 : decode cX8_wordOf 56 = .ok (.iload_n 1, 1) := by decide +kernel
theorem dX8_wordOf_57 : decode cX8_wordOf 57 = .ok (.isub, 1) := by decide +kernel
theorem dX8_wordOf_58 : decode cX8_wordOf 58 = .ok (.invokevirtual 74, 3) := by decide +kernel
theorem dX8_wordOf_61 : decode cX8_wordOf 61 = .ok (.ifCond .eq 5, 3) := by decide +kernel
theorem dX8_wordOf_64 : decode cX8_wordOf 64 = .ok (.iload_n 3, 1) := by decide +kernel
theorem dX8_wordOf_65 : decode cX8_wordOf 65 = .ok (.ireturn, 1) := by decide +kernel
theorem dX8_wordOf_66 : decode cX8_wordOf 66 = .ok (.iinc 3 1, 3) := by decide +kernel
theorem dX8_wordOf_69 : decode cX8_wordOf 69 = .ok (.iload 5, 2) := by decide +kernel
theorem dX8_wordOf_71 : decode cX8_wordOf 71 = .ok (.iconst 1, 1) := by decide +kernel
theorem dX8_wordOf_72 : decode cX8_wordOf 72 = .ok (.iadd, 1) := by decide +kernel
theorem dX8_wordOf_73 : decode cX8_wordOf 73 = .ok (.istore 4, 2) := by decide +kernel
theorem dX8_wordOf_75 : decode cX8_wordOf 75 = .ok (.iinc 5 1, 3) := by decide +kernel
theorem dX8_wordOf_78 : decode cX8_wordOf 78 = .ok (.goto (-70), 3) := by decide +kernel
theorem dX8_wordOf_81 : decode cX8_wordOf 81 = .ok (.bipush 24, 2) := by decide +kernel
theorem dX8_wordOf_83 : decode cX8_wordOf 83 = .ok (.ireturn, 1) := by decide +kernel
set_option maxHeartbeats 4000000 in
set_option maxRecDepth 100000 in
theorem gX8_isLetter_8387341 (l : Launch) (D : va_G) (cy : Nat → ClassId) (h0 : Nat) (h1 : Nat) (p0 : Int32) (p1 : Int32) (p2 : Int32) (w0 : Value) (w1 : Value) (w2 : Value) (f0 : Nat → Int32) (hp0 : 0 ≤ (p0).toInt ∧ (p0).toInt ≤ 900) (hp1 : 0 ≤ (p1).toInt ∧ (p1).toInt ≤ 900) (hp2 : 0 ≤ (p2).toInt ∧ (p2).toInt ≤ 901) (rf0 : TB f0) (sz : Nat) : MI l yX8_isLetter cX8_isLetter 2 .boolean { frames := 0, cells := 0, slots := 0, locals := 0 } [.ref h0, .int p0] D cy (wk_306333e60 cy h0 h1 p1 p2 w0 w1 w2 h1 f0) sz (fun r u => (0 ≤ r.toInt ∧ r.toInt ≤ 1) ∧ (((r : Int32).toInt = 1 ∧ (p0 : Int32).toInt < (p1 : Int32).toInt ∧ 97 ≤ (f0 (p0 : Int32).toNatClampNeg).toInt ∧ (f0 (p0 : Int32).toNatClampNeg).toInt ≤ 122) ∨ ((r : Int32).toInt = 0 ∧ ((p1 : Int32).toInt ≤ (p0 : Int32).toInt ∨ (f0 (p0 : Int32).toNatClampNeg).toInt < 97 ∨ 122 < (f0 (p0 : Int32).toNatClampNeg).toInt))) ∧ True) (fun u => (wk_306333e60 cy h0 h1 p1 p2 w0 w1 w2 h1 f0)) 0 0 := by
  refine q_ent (own := RX8) (by decide) rfl (Nat.le_of_ble_eq_true rfl) (fun p e s m below meth c ls X hr hlk hnm hK hT h hA hl => ?_)
  obtain ⟨hx, hb, hml, hown, ht⟩ := id X
  replace hl : lv_has ls 2 [(0, .ref h0), (1, .int p0)] := hl
  refine lv_iload_n hx hb dX8_isLetter_0 rfl (lv_at hl 1 rfl) ?_
  refine lv_aload_n hx hb dX8_isLetter_1 rfl (lv_at hl 0 rfl) ?_
  refine q_get X hK h 0 rfl rfl wf_8 1 (by decide) rfl wm_1_44 dX8_isLetter_2 ?_
  refine lv_icmp_ge (tgt := 34) hx hb dX8_isLetter_5 (by decide) (fun c_1 => ?_) (fun c_1 => ?_)
  · replace c_1 := i_le (x := p1) (y := p0) rfl rfl c_1
    refine lv_iconst (v := 0) hx hb dX8_isLetter_34 (by decide) ?_
    exact q_iret X hr hlk hK h rfl (fun _ => 0, fun _ _ => 0, fun _ _ => 0) ⟨⟨by decide +kernel, by decide +kernel⟩, (show ((0 : Int32).toInt = 1 ∧ (p0 : Int32).toInt < (p1 : Int32).toInt ∧ 97 ≤ (f0 (p0 : Int32).toNatClampNeg).toInt ∧ (f0 (p0 : Int32).toNatClampNeg).toInt ≤ 122) ∨ ((0 : Int32).toInt = 0 ∧ ((p1 : Int32).toInt ≤ (p0 : Int32).toInt ∨ (f0 (p0 : Int32).toNatClampNeg).toInt < 97 ∨ 122 < (f0 (p0 : Int32).toNatClampNeg).toInt)) from by have q0 : (0 : Int32).toInt = 0 := (by decide); omega), trivial⟩ [0, 1] rfl rfl dX8_isLetter_35 (Nat.le_of_ble_eq_true rfl) (Nat.le_of_ble_eq_true rfl)
  · replace c_1 := i_nle (x := p1) (y := p0) rfl rfl c_1
    refine lv_aload_n hx hb dX8_isLetter_8 rfl (lv_at hl 0 rfl) ?_
    refine q_get X hK h 0 rfl rfl wf_8 0 (by decide) rfl wm_1_43 dX8_isLetter_9 ?_
    refine lv_iload_n hx hb dX8_isLetter_12 rfl (lv_at hl 1 rfl) ?_
    refine q_bald X hK h 1 rfl (i_in rfl (by omega) (by omega)) dX8_isLetter_13 ?_
    obtain ⟨z_2, ez_2, hz_2⟩ := e_any (f0 p0.toNatClampNeg)
    refine q_c z_2 ez_2 ?_
    have ei_2 := congrArg Int32.toInt ez_2
    refine lv_bipush (v := 97) hx hb dX8_isLetter_14 (by decide) ?_
    refine lv_icmp_lt (tgt := 34) hx hb dX8_isLetter_16 (by decide) (fun c_3 => ?_) (fun c_3 => ?_)
    · replace c_3 := i_lt (x := z_2) (y := 97) rfl (show (97 : Int32).toInt = 97 by decide) c_3
      refine lv_iconst (v := 0) hx hb dX8_isLetter_34 (by decide) ?_
      exact q_iret X hr hlk hK h rfl (fun _ => 0, fun _ _ => 0, fun _ _ => 0) ⟨⟨by decide +kernel, by decide +kernel⟩, (show ((0 : Int32).toInt = 1 ∧ (p0 : Int32).toInt < (p1 : Int32).toInt ∧ 97 ≤ (f0 (p0 : Int32).toNatClampNeg).toInt ∧ (f0 (p0 : Int32).toNatClampNeg).toInt ≤ 122) ∨ ((0 : Int32).toInt = 0 ∧ ((p1 : Int32).toInt ≤ (p0 : Int32).toInt ∨ (f0 (p0 : Int32).toNatClampNeg).toInt < 97 ∨ 122 < (f0 (p0 : Int32).toNatClampNeg).toInt)) from by have q0 : (0 : Int32).toInt = 0 := (by decide); omega), trivial⟩ [0, 1] rfl rfl dX8_isLetter_35 (Nat.le_of_ble_eq_true rfl) (Nat.le_of_ble_eq_true rfl)
    · replace c_3 := i_nlt (x := z_2) (y := 97) rfl (show (97 : Int32).toInt = 97 by decide) c_3
      refine lv_aload_n hx hb dX8_isLetter_19 rfl (lv_at hl 0 rfl) ?_
      refine q_get X hK h 0 rfl rfl wf_8 0 (by decide) rfl wm_1_43 dX8_isLetter_20 ?_
      refine lv_iload_n hx hb dX8_isLetter_23 rfl (lv_at hl 1 rfl) ?_
      refine q_bald X hK h 1 rfl (i_in rfl (by omega) (by omega)) dX8_isLetter_24 ?_
      obtain ⟨z_4, ez_4, hz_4⟩ := e_any (f0 p0.toNatClampNeg)
      refine q_c z_4 ez_4 ?_
      have ei_4 := congrArg Int32.toInt ez_4
      refine lv_bipush (v := 122) hx hb dX8_isLetter_25 (by decide) ?_
      refine lv_icmp_gt (tgt := 34) hx hb dX8_isLetter_27 (by decide) (fun c_5 => ?_) (fun c_5 => ?_)
      · replace c_5 := i_lt (x := 122) (y := z_4) (show (122 : Int32).toInt = 122 by decide) rfl c_5
        refine lv_iconst (v := 0) hx hb dX8_isLetter_34 (by decide) ?_
        exact q_iret X hr hlk hK h rfl (fun _ => 0, fun _ _ => 0, fun _ _ => 0) ⟨⟨by decide +kernel, by decide +kernel⟩, (show ((0 : Int32).toInt = 1 ∧ (p0 : Int32).toInt < (p1 : Int32).toInt ∧ 97 ≤ (f0 (p0 : Int32).toNatClampNeg).toInt ∧ (f0 (p0 : Int32).toNatClampNeg).toInt ≤ 122) ∨ ((0 : Int32).toInt = 0 ∧ ((p1 : Int32).toInt ≤ (p0 : Int32).toInt ∨ (f0 (p0 : Int32).toNatClampNeg).toInt < 97 ∨ 122 < (f0 (p0 : Int32).toNatClampNeg).toInt)) from by have q0 : (0 : Int32).toInt = 0 := (by decide); omega), trivial⟩ [0, 1] rfl rfl dX8_isLetter_35 (Nat.le_of_ble_eq_true rfl) (Nat.le_of_ble_eq_true rfl)
      · replace c_5 := i_nlt (x := 122) (y := z_4) (show (122 : Int32).toInt = 122 by decide) rfl c_5
        refine lv_iconst (v := 1) hx hb dX8_isLetter_30 (by decide) ?_
        refine lv_goto (tgt := 35) hx hb dX8_isLetter_31 (by decide) ?_
        exact q_iret X hr hlk hK h rfl (fun _ => 0, fun _ _ => 0, fun _ _ => 0) ⟨⟨by decide +kernel, by decide +kernel⟩, (show ((1 : Int32).toInt = 1 ∧ (p0 : Int32).toInt < (p1 : Int32).toInt ∧ 97 ≤ (f0 (p0 : Int32).toNatClampNeg).toInt ∧ (f0 (p0 : Int32).toNatClampNeg).toInt ≤ 122) ∨ ((1 : Int32).toInt = 0 ∧ ((p1 : Int32).toInt ≤ (p0 : Int32).toInt ∨ (f0 (p0 : Int32).toNatClampNeg).toInt < 97 ∨ 122 < (f0 (p0 : Int32).toNatClampNeg).toInt)) from by have q0 : (1 : Int32).toInt = 1 := (by decide); omega), trivial⟩ [0, 1] rfl rfl dX8_isLetter_35 (Nat.le_of_ble_eq_true rfl) (Nat.le_of_ble_eq_true rfl)
set_option maxHeartbeats 4000000 in
set_option maxRecDepth 100000 in
theorem gX8_isDigit_3cb7ca3 (l : Launch) (D : va_G) (cy : Nat → ClassId) (h0 : Nat) (h1 : Nat) (p0 : Int32) (p1 : Int32) (p2 : Int32) (w0 : Value) (w1 : Value) (w2 : Value) (f0 : Nat → Int32) (hp0 : 0 ≤ (p0).toInt ∧ (p0).toInt ≤ 900) (hp1 : 0 ≤ (p1).toInt ∧ (p1).toInt ≤ 900) (hp2 : 0 ≤ (p2).toInt ∧ (p2).toInt ≤ 901) (rf0 : TB f0) (sz : Nat) : MI l yX8_isDigit cX8_isDigit 2 .boolean { frames := 0, cells := 0, slots := 0, locals := 0 } [.ref h0, .int p0] D cy (wk_306333e60 cy h0 h1 p1 p2 w0 w1 w2 h1 f0) sz (fun r u => (0 ≤ r.toInt ∧ r.toInt ≤ 1) ∧ (((r : Int32).toInt = 1 ∧ (p0 : Int32).toInt < (p1 : Int32).toInt ∧ 48 ≤ (f0 (p0 : Int32).toNatClampNeg).toInt ∧ (f0 (p0 : Int32).toNatClampNeg).toInt ≤ 57) ∨ ((r : Int32).toInt = 0 ∧ ((p1 : Int32).toInt ≤ (p0 : Int32).toInt ∨ (f0 (p0 : Int32).toNatClampNeg).toInt < 48 ∨ 57 < (f0 (p0 : Int32).toNatClampNeg).toInt))) ∧ True) (fun u => (wk_306333e60 cy h0 h1 p1 p2 w0 w1 w2 h1 f0)) 0 0 := by
  refine q_ent (own := RX8) (by decide) rfl (Nat.le_of_ble_eq_true rfl) (fun p e s m below meth c ls X hr hlk hnm hK hT h hA hl => ?_)
  obtain ⟨hx, hb, hml, hown, ht⟩ := id X
  replace hl : lv_has ls 2 [(0, .ref h0), (1, .int p0)] := hl
  refine lv_iload_n hx hb dX8_isDigit_0 rfl (lv_at hl 1 rfl) ?_
  refine lv_aload_n hx hb dX8_isDigit_1 rfl (lv_at hl 0 rfl) ?_
  refine q_get X hK h 0 rfl rfl wf_8 1 (by decide) rfl wm_1_44 dX8_isDigit_2 ?_
  refine lv_icmp_ge (tgt := 34) hx hb dX8_isDigit_5 (by decide) (fun c_1 => ?_) (fun c_1 => ?_)
  · replace c_1 := i_le (x := p1) (y := p0) rfl rfl c_1
    refine lv_iconst (v := 0) hx hb dX8_isDigit_34 (by decide) ?_
    exact q_iret X hr hlk hK h rfl (fun _ => 0, fun _ _ => 0, fun _ _ => 0) ⟨⟨by decide +kernel, by decide +kernel⟩, (show ((0 : Int32).toInt = 1 ∧ (p0 : Int32).toInt < (p1 : Int32).toInt ∧ 48 ≤ (f0 (p0 : Int32).toNatClampNeg).toInt ∧ (f0 (p0 : Int32).toNatClampNeg).toInt ≤ 57) ∨ ((0 : Int32).toInt = 0 ∧ ((p1 : Int32).toInt ≤ (p0 : Int32).toInt ∨ (f0 (p0 : Int32).toNatClampNeg).toInt < 48 ∨ 57 < (f0 (p0 : Int32).toNatClampNeg).toInt)) from by have q0 : (0 : Int32).toInt = 0 := (by decide); omega), trivial⟩ [0, 1] rfl rfl dX8_isDigit_35 (Nat.le_of_ble_eq_true rfl) (Nat.le_of_ble_eq_true rfl)
  · replace c_1 := i_nle (x := p1) (y := p0) rfl rfl c_1
    refine lv_aload_n hx hb dX8_isDigit_8 rfl (lv_at hl 0 rfl) ?_
    refine q_get X hK h 0 rfl rfl wf_8 0 (by decide) rfl wm_1_43 dX8_isDigit_9 ?_
    refine lv_iload_n hx hb dX8_isDigit_12 rfl (lv_at hl 1 rfl) ?_
    refine q_bald X hK h 1 rfl (i_in rfl (by omega) (by omega)) dX8_isDigit_13 ?_
    obtain ⟨z_2, ez_2, hz_2⟩ := e_any (f0 p0.toNatClampNeg)
    refine q_c z_2 ez_2 ?_
    have ei_2 := congrArg Int32.toInt ez_2
    refine lv_bipush (v := 48) hx hb dX8_isDigit_14 (by decide) ?_
    refine lv_icmp_lt (tgt := 34) hx hb dX8_isDigit_16 (by decide) (fun c_3 => ?_) (fun c_3 => ?_)
    · replace c_3 := i_lt (x := z_2) (y := 48) rfl (show (48 : Int32).toInt = 48 by decide) c_3
      refine lv_iconst (v := 0) hx hb dX8_isDigit_34 (by decide) ?_
      exact q_iret X hr hlk hK h rfl (fun _ => 0, fun _ _ => 0, fun _ _ => 0) ⟨⟨by decide +kernel, by decide +kernel⟩, (show ((0 : Int32).toInt = 1 ∧ (p0 : Int32).toInt < (p1 : Int32).toInt ∧ 48 ≤ (f0 (p0 : Int32).toNatClampNeg).toInt ∧ (f0 (p0 : Int32).toNatClampNeg).toInt ≤ 57) ∨ ((0 : Int32).toInt = 0 ∧ ((p1 : Int32).toInt ≤ (p0 : Int32).toInt ∨ (f0 (p0 : Int32).toNatClampNeg).toInt < 48 ∨ 57 < (f0 (p0 : Int32).toNatClampNeg).toInt)) from by have q0 : (0 : Int32).toInt = 0 := (by decide); omega), trivial⟩ [0, 1] rfl rfl dX8_isDigit_35 (Nat.le_of_ble_eq_true rfl) (Nat.le_of_ble_eq_true rfl)
    · replace c_3 := i_nlt (x := z_2) (y := 48) rfl (show (48 : Int32).toInt = 48 by decide) c_3
      refine lv_aload_n hx hb dX8_isDigit_19 rfl (lv_at hl 0 rfl) ?_
      refine q_get X hK h 0 rfl rfl wf_8 0 (by decide) rfl wm_1_43 dX8_isDigit_20 ?_
      refine lv_iload_n hx hb dX8_isDigit_23 rfl (lv_at hl 1 rfl) ?_
      refine q_bald X hK h 1 rfl (i_in rfl (by omega) (by omega)) dX8_isDigit_24 ?_
      obtain ⟨z_4, ez_4, hz_4⟩ := e_any (f0 p0.toNatClampNeg)
      refine q_c z_4 ez_4 ?_
      have ei_4 := congrArg Int32.toInt ez_4
      refine lv_bipush (v := 57) hx hb dX8_isDigit_25 (by decide) ?_
      refine lv_icmp_gt (tgt := 34) hx hb dX8_isDigit_27 (by decide) (fun c_5 => ?_) (fun c_5 => ?_)
      · replace c_5 := i_lt (x := 57) (y := z_4) (show (57 : Int32).toInt = 57 by decide) rfl c_5
        refine lv_iconst (v := 0) hx hb dX8_isDigit_34 (by decide) ?_
        exact q_iret X hr hlk hK h rfl (fun _ => 0, fun _ _ => 0, fun _ _ => 0) ⟨⟨by decide +kernel, by decide +kernel⟩, (show ((0 : Int32).toInt = 1 ∧ (p0 : Int32).toInt < (p1 : Int32).toInt ∧ 48 ≤ (f0 (p0 : Int32).toNatClampNeg).toInt ∧ (f0 (p0 : Int32).toNatClampNeg).toInt ≤ 57) ∨ ((0 : Int32).toInt = 0 ∧ ((p1 : Int32).toInt ≤ (p0 : Int32).toInt ∨ (f0 (p0 : Int32).toNatClampNeg).toInt < 48 ∨ 57 < (f0 (p0 : Int32).toNatClampNeg).toInt)) from by have q0 : (0 : Int32).toInt = 0 := (by decide); omega), trivial⟩ [0, 1] rfl rfl dX8_isDigit_35 (Nat.le_of_ble_eq_true rfl) (Nat.le_of_ble_eq_true rfl)
      · replace c_5 := i_nlt (x := 57) (y := z_4) (show (57 : Int32).toInt = 57 by decide) rfl c_5
        refine lv_iconst (v := 1) hx hb dX8_isDigit_30 (by decide) ?_
        refine lv_goto (tgt := 35) hx hb dX8_isDigit_31 (by decide) ?_
        exact q_iret X hr hlk hK h rfl (fun _ => 0, fun _ _ => 0, fun _ _ => 0) ⟨⟨by decide +kernel, by decide +kernel⟩, (show ((1 : Int32).toInt = 1 ∧ (p0 : Int32).toInt < (p1 : Int32).toInt ∧ 48 ≤ (f0 (p0 : Int32).toNatClampNeg).toInt ∧ (f0 (p0 : Int32).toNatClampNeg).toInt ≤ 57) ∨ ((1 : Int32).toInt = 0 ∧ ((p1 : Int32).toInt ≤ (p0 : Int32).toInt ∨ (f0 (p0 : Int32).toNatClampNeg).toInt < 48 ∨ 57 < (f0 (p0 : Int32).toNatClampNeg).toInt)) from by have q0 : (1 : Int32).toInt = 1 := (by decide); omega), trivial⟩ [0, 1] rfl rfl dX8_isDigit_35 (Nat.le_of_ble_eq_true rfl) (Nat.le_of_ble_eq_true rfl)
set_option maxHeartbeats 4000000 in
set_option maxRecDepth 100000 in
theorem gX8_endOf_4da79e2 (l : Launch) (D : va_G) (cy : Nat → ClassId) (h0 : Nat) (h1 : Nat) (p0 : Int32) (p1 : Int32) (p2 : Int32) (w0 : Value) (w1 : Value) (w2 : Value) (f0 : Nat → Int32) (hp0 : 0 ≤ (p0).toInt ∧ (p0).toInt ≤ 900) (hp1 : 0 ≤ (p1).toInt ∧ (p1).toInt ≤ 900) (hp2 : 0 ≤ (p2).toInt ∧ (p2).toInt ≤ 901) (rf0 : TB f0) (hpre0 : (p0 : Int32).toInt ≤ (p1 : Int32).toInt) (sz : Nat) : MI l yX8_endOf cX8_endOf 3 .int { frames := 1, cells := 0, slots := 0, locals := 21 } [.ref h0, .int p0] D cy (wk_306333e60 cy h0 h1 p1 p2 w0 w1 w2 h1 f0) sz (fun r u => (0 ≤ r.toInt ∧ r.toInt ≤ 900) ∧ (((p1 : Int32).toInt ≤ (p0 : Int32).toInt ∨ (p0 : Int32).toInt + 1 ≤ (r : Int32).toInt) ∧ (p0 : Int32).toInt ≤ (r : Int32).toInt ∧ (r : Int32).toInt ≤ (p1 : Int32).toInt) ∧ (ENE f0 (p1 : Int32).toInt (p0 : Int32).toInt (r : Int32).toInt) ∧ True) (fun u => (wk_306333e60 cy h0 h1 p1 p2 w0 w1 w2 h1 f0)) 0 0 := by
  refine q_ent (own := RX8) (by decide) rfl (Nat.le_of_ble_eq_true rfl) (fun p e s m below meth c ls X hr hlk hnm hK hT h hA hl => ?_)
  obtain ⟨hx, hb, hml, hown, ht⟩ := id X
  replace hl : lv_has ls 3 [(0, .ref h0), (1, .int p0)] := hl
  refine lv_iload_n hx hb dX8_endOf_0 rfl (lv_at hl 1 rfl) ?_
  refine lv_istore_n (lv' := [(2, .int p0), (0, .ref h0), (1, .int p0)]) hx hb dX8_endOf_1 rfl hl (by decide) rfl (fun ls_1 hl_1 => ?_)
  clear hl
  refine lv_aload_n hx hb dX8_endOf_2 rfl (lv_at hl_1 1 rfl) ?_
  refine lv_iload_n hx hb dX8_endOf_3 rfl (lv_at hl_1 2 rfl) ?_
  refine q_callVi (rest := []) (wr := []) X hK hT hA h (fun sz => gX8_isLetter_8387341 l D cy h0 h1 p0 p1 p2 w0 w1 w2 f0 hp0 hp1 hp2 rf0 sz) wm_2_177 wm_2_180 wm_1_3 hd_X8_isLetter wm_2_179 wp_1_2 (ci := 8) (q0 := 0) rfl rfl ⟨Nat.le_of_ble_eq_true rfl, Nat.le_of_ble_eq_true rfl⟩ hl_1.1 rfl (Nat.le_of_ble_eq_true rfl) dX8_endOf_4 ⟨Nat.le_of_ble_eq_true rfl, Nat.le_of_ble_eq_true rfl⟩ [0, 1] [] rfl rfl (by decide) rfl rfl (fun r_2 u_2 H locs w_2 h_2 => ?_)
  clear h
  obtain ⟨wr_2, y2_0, _⟩ := w_2
  replace h_2 : qW D _ _ (wk_306333e60 cy h0 h1 p1 p2 w0 w1 w2 h1 f0) _ _ := h_2
  refine lv_if_eq (tgt := 32) hx hb dX8_endOf_7 (by decide) (fun c_3 => ?_) (fun c_3 => ?_)
  · replace c_3 := i_eq (x := r_2) (y := 0) rfl (show (0 : Int32).toInt = 0 by decide) c_3
    refine lv_aload_n hx hb dX8_endOf_32 rfl (lv_at hl_1 1 rfl) ?_
    refine lv_iload_n hx hb dX8_endOf_33 rfl (lv_at hl_1 2 rfl) ?_
    refine q_callVi (rest := []) (wr := []) X hK hT hA h_2 (fun sz => gX8_isDigit_3cb7ca3 l D cy h0 h1 p0 p1 p2 w0 w1 w2 f0 hp0 hp1 hp2 rf0 sz) wm_2_181 wm_2_184 wm_1_3 hd_X8_isDigit wm_2_183 wp_1_3 (ci := 8) (q0 := 0) rfl rfl ⟨Nat.le_of_ble_eq_true rfl, Nat.le_of_ble_eq_true rfl⟩ hl_1.1 rfl (Nat.le_of_ble_eq_true rfl) dX8_endOf_34 ⟨Nat.le_of_ble_eq_true rfl, Nat.le_of_ble_eq_true rfl⟩ [0, 1] [] rfl rfl (by decide) rfl rfl (fun r_4 u_4 H locs w_4 h_4 => ?_)
    clear h_2
    obtain ⟨wr_4, y4_0, _⟩ := w_4
    replace h_4 : qW D _ _ (wk_306333e60 cy h0 h1 p1 p2 w0 w1 w2 h1 f0) _ _ := h_4
    refine lv_if_eq (tgt := 62) hx hb dX8_endOf_37 (by decide) (fun c_5 => ?_) (fun c_5 => ?_)
    · replace c_5 := i_eq (x := r_4) (y := 0) rfl (show (0 : Int32).toInt = 0 by decide) c_5
      refine lv_iload_n hx hb dX8_endOf_62 rfl (lv_at hl_1 2 rfl) ?_
      refine lv_aload_n hx hb dX8_endOf_63 rfl (lv_at hl_1 1 rfl) ?_
      refine q_get X hK h_4 0 rfl rfl wf_8 1 (by decide) rfl wm_1_44 dX8_endOf_64 ?_
      refine lv_icmp_ge (tgt := 73) hx hb dX8_endOf_67 (by decide) (fun c_6 => ?_) (fun c_6 => ?_)
      · replace c_6 := i_le (x := p1) (y := p0) rfl rfl c_6
        refine lv_iload_n hx hb dX8_endOf_73 rfl (lv_at hl_1 0 rfl) ?_
        exact q_iret X hr hlk hK h_4 rfl (fun _ => 0, fun _ _ => 0, fun _ _ => 0) ⟨hp0, (show ((p1 : Int32).toInt ≤ (p0 : Int32).toInt ∨ (p0 : Int32).toInt + 1 ≤ (p0 : Int32).toInt) ∧ (p0 : Int32).toInt ≤ (p0 : Int32).toInt ∧ (p0 : Int32).toInt ≤ (p1 : Int32).toInt from by omega), (show ENE f0 (p1 : Int32).toInt (p0 : Int32).toInt (p0 : Int32).toInt from ene_0 (by omega) (by omega) (by omega)), trivial⟩ [0, 1] rfl rfl dX8_endOf_74 (Nat.le_of_ble_eq_true rfl) (Nat.le_of_ble_eq_true rfl)
      · replace c_6 := i_nle (x := p1) (y := p0) rfl rfl c_6
        obtain ⟨z_7, ez_7, hz_7⟩ := e_add (x := p0) (y := Int32.ofInt 1) rfl (b := 1) (by decide) (by omega) (by omega)
        refine lv_iinc (v := z_7) (lv' := [(2, .int z_7), (0, .ref h0), (1, .int p0)]) hx hb dX8_endOf_70 hl_1 (k := 0) rfl ez_7 (by decide) rfl (fun ls_7 hl_7 => ?_)
        clear hl_1
        refine lv_iload_n hx hb dX8_endOf_73 rfl (lv_at hl_7 0 rfl) ?_
        exact q_iret X hr hlk hK h_4 rfl (fun _ => 0, fun _ _ => 0, fun _ _ => 0) ⟨⟨by omega, by omega⟩, (show ((p1 : Int32).toInt ≤ (p0 : Int32).toInt ∨ (p0 : Int32).toInt + 1 ≤ (z_7 : Int32).toInt) ∧ (p0 : Int32).toInt ≤ (z_7 : Int32).toInt ∧ (z_7 : Int32).toInt ≤ (p1 : Int32).toInt from by omega), (show ENE f0 (p1 : Int32).toInt (p0 : Int32).toInt (z_7 : Int32).toInt from ene_1 rf0 (by omega) (by omega) y2_0 y4_0 (by omega) (by omega) (by omega)), trivial⟩ [0, 1] rfl rfl dX8_endOf_74 (Nat.le_of_ble_eq_true rfl) (Nat.le_of_ble_eq_true rfl)
    · replace c_5 := i_ne (x := r_4) (y := 0) rfl (show (0 : Int32).toInt = 0 by decide) c_5
      refine lv_iload_n hx hb dX8_endOf_40 rfl (lv_at hl_1 0 rfl) ?_
      refine lv_aload_n hx hb dX8_endOf_41 rfl (lv_at hl_1 1 rfl) ?_
      refine q_get X hK h_4 0 rfl rfl wf_8 1 (by decide) rfl wm_1_44 dX8_endOf_42 ?_
      refine lv_icmp_ge (tgt := 73) hx hb dX8_endOf_45 (by decide) (fun c_8 => ?_) (fun c_8 => ?_)
      · replace c_8 := i_le (x := p1) (y := p0) rfl rfl c_8
        refine lv_iload_n hx hb dX8_endOf_73 rfl (lv_at hl_1 0 rfl) ?_
        exact q_iret X hr hlk hK h_4 rfl (fun _ => 0, fun _ _ => 0, fun _ _ => 0) ⟨hp0, (show ((p1 : Int32).toInt ≤ (p0 : Int32).toInt ∨ (p0 : Int32).toInt + 1 ≤ (p0 : Int32).toInt) ∧ (p0 : Int32).toInt ≤ (p0 : Int32).toInt ∧ (p0 : Int32).toInt ≤ (p1 : Int32).toInt from by omega), (show ENE f0 (p1 : Int32).toInt (p0 : Int32).toInt (p0 : Int32).toInt from by first | (exfalso; omega) | exact ene_dg rf0 (by omega) (by omega) (by omega) (spn_0 (by omega)) (Or.inl (by omega)) | exact ene_dg rf0 (by omega) (by omega) (by omega) (spn_0 (by omega)) (y4_0.resolve_left (fun q => absurd q.1 (by omega))).2), trivial⟩ [0, 1] rfl rfl dX8_endOf_74 (Nat.le_of_ble_eq_true rfl) (Nat.le_of_ble_eq_true rfl)
      · replace c_8 := i_nle (x := p1) (y := p0) rfl rfl c_8
        refine lv_aload_n hx hb dX8_endOf_48 rfl (lv_at hl_1 1 rfl) ?_
        refine lv_iload_n hx hb dX8_endOf_49 rfl (lv_at hl_1 0 rfl) ?_
        refine q_callVi (rest := []) (wr := []) X hK hT hA h_4 (fun sz => gX8_isDigit_3cb7ca3 l D cy h0 h1 p0 p1 p2 w0 w1 w2 f0 hp0 hp1 hp2 rf0 sz) wm_2_181 wm_2_184 wm_1_3 hd_X8_isDigit wm_2_183 wp_1_3 (ci := 8) (q0 := 0) rfl rfl ⟨Nat.le_of_ble_eq_true rfl, Nat.le_of_ble_eq_true rfl⟩ hl_1.1 rfl (Nat.le_of_ble_eq_true rfl) dX8_endOf_50 ⟨Nat.le_of_ble_eq_true rfl, Nat.le_of_ble_eq_true rfl⟩ [0, 1] [] rfl rfl (by decide) rfl rfl (fun r_9 u_9 H locs w_9 h_9 => ?_)
        clear h_4
        obtain ⟨wr_9, y9_0, _⟩ := w_9
        replace h_9 : qW D _ _ (wk_306333e60 cy h0 h1 p1 p2 w0 w1 w2 h1 f0) _ _ := h_9
        refine lv_if_eq (tgt := 73) hx hb dX8_endOf_53 (by decide) (fun c_10 => ?_) (fun c_10 => ?_)
        · replace c_10 := i_eq (x := r_9) (y := 0) rfl (show (0 : Int32).toInt = 0 by decide) c_10
          refine lv_iload_n hx hb dX8_endOf_73 rfl (lv_at hl_1 0 rfl) ?_
          exact q_iret X hr hlk hK h_9 rfl (fun _ => 0, fun _ _ => 0, fun _ _ => 0) ⟨hp0, (show ((p1 : Int32).toInt ≤ (p0 : Int32).toInt ∨ (p0 : Int32).toInt + 1 ≤ (p0 : Int32).toInt) ∧ (p0 : Int32).toInt ≤ (p0 : Int32).toInt ∧ (p0 : Int32).toInt ≤ (p1 : Int32).toInt from by omega), (show ENE f0 (p1 : Int32).toInt (p0 : Int32).toInt (p0 : Int32).toInt from by first | (exfalso; omega) | exact ene_dg rf0 (by omega) (by omega) (by omega) (spn_0 (by omega)) (Or.inl (by omega)) | exact ene_dg rf0 (by omega) (by omega) (by omega) (spn_0 (by omega)) (y9_0.resolve_left (fun q => absurd q.1 (by omega))).2), trivial⟩ [0, 1] rfl rfl dX8_endOf_74 (Nat.le_of_ble_eq_true rfl) (Nat.le_of_ble_eq_true rfl)
        · replace c_10 := i_ne (x := r_9) (y := 0) rfl (show (0 : Int32).toInt = 0 by decide) c_10
          have sp_11 := spn_s (spn_0 (lo := 48) (hi := 57) (f := f0) (a := (p0 : Int32).toInt) (e := (p0 : Int32).toInt) (by omega)) (by omega) y9_0 (by omega)
          obtain ⟨z_12, ez_12, hz_12⟩ := e_add (x := p0) (y := Int32.ofInt 1) rfl (b := 1) (by decide) (by omega) (by omega)
          refine lv_iinc (v := z_12) (lv' := [(2, .int z_12), (0, .ref h0), (1, .int p0)]) hx hb dX8_endOf_56 hl_1 (k := 0) rfl ez_12 (by decide) rfl (fun ls_12 hl_12 => ?_)
          clear hl_1
          refine lv_goto (tgt := 40) hx hb dX8_endOf_59 (by decide) ?_
          refine q_wl (fun (v40_13_0 : Int32) H locs ls => (1 ≤ (v40_13_0).toInt ∧ (v40_13_0).toInt ≤ 900) ∧ ((p0 : Int32).toInt + 1 ≤ (v40_13_0 : Int32).toInt ∧ (v40_13_0 : Int32).toInt ≤ (p1 : Int32).toInt) ∧ (SPN 48 57 f0 (p0 : Int32).toInt (v40_13_0 : Int32).toInt) ∧ qW D (va_A (wk_306333e60 cy h0 h1 p1 p2 w0 w1 w2 h1 f0) sz) s.heap (wk_306333e60 cy h0 h1 p1 p2 w0 w1 w2 h1 f0) H locs ∧ lv_has ls 3 [(0, .ref h0), (1, .int p0), (2, .int v40_13_0)]) (fun (v40_13_0 : Int32) => (901 - (v40_13_0).toInt).toNat) (fun q_40 ih_40 H locs ls hP => ?_) z_12 ⟨⟨by omega, by omega⟩, (by omega), (spn_e sp_11 (by omega)), h_9, (lv_sub hl_12 [1, 2, 0] rfl)⟩
          obtain ⟨v40_13_0, rfl⟩ : ∃ z, z = q_40 := ⟨_, rfl⟩
          obtain ⟨hv40_13_0, x14_0, x15_1, h, hl⟩ := hP
          refine lv_iload_n hx hb dX8_endOf_40 rfl (lv_at hl 2 rfl) ?_
          refine lv_aload_n hx hb dX8_endOf_41 rfl (lv_at hl 0 rfl) ?_
          refine q_get X hK h 0 rfl rfl wf_8 1 (by decide) rfl wm_1_44 dX8_endOf_42 ?_
          refine lv_icmp_ge (tgt := 73) hx hb dX8_endOf_45 (by decide) (fun c_16 => ?_) (fun c_16 => ?_)
          · replace c_16 := i_le (x := p1) (y := v40_13_0) rfl rfl c_16
            refine lv_iload_n hx hb dX8_endOf_73 rfl (lv_at hl 2 rfl) ?_
            exact q_iret X hr hlk hK h rfl (fun _ => 0, fun _ _ => 0, fun _ _ => 0) ⟨(bw hv40_13_0 (by decide) (by decide)), (show ((p1 : Int32).toInt ≤ (p0 : Int32).toInt ∨ (p0 : Int32).toInt + 1 ≤ (v40_13_0 : Int32).toInt) ∧ (p0 : Int32).toInt ≤ (v40_13_0 : Int32).toInt ∧ (v40_13_0 : Int32).toInt ≤ (p1 : Int32).toInt from by omega), (show ENE f0 (p1 : Int32).toInt (p0 : Int32).toInt (v40_13_0 : Int32).toInt from by first | (exfalso; omega) | exact ene_dg rf0 (by omega) (by omega) (by omega) x15_1 (Or.inl (by omega)) | exact ene_dg rf0 (by omega) (by omega) (by omega) x15_1 (y9_0.resolve_left (fun q => absurd q.1 (by omega))).2), trivial⟩ [0, 1] rfl rfl dX8_endOf_74 (Nat.le_of_ble_eq_true rfl) (Nat.le_of_ble_eq_true rfl)
          · replace c_16 := i_nle (x := p1) (y := v40_13_0) rfl rfl c_16
            refine lv_aload_n hx hb dX8_endOf_48 rfl (lv_at hl 0 rfl) ?_
            refine lv_iload_n hx hb dX8_endOf_49 rfl (lv_at hl 2 rfl) ?_
            refine q_callVi (rest := []) (wr := []) X hK hT hA h (fun sz => gX8_isDigit_3cb7ca3 l D cy h0 h1 v40_13_0 p1 p2 w0 w1 w2 f0 (bw hv40_13_0 (by decide) (by decide)) hp1 hp2 rf0 sz) wm_2_181 wm_2_184 wm_1_3 hd_X8_isDigit wm_2_183 wp_1_3 (ci := 8) (q0 := 0) rfl rfl ⟨Nat.le_of_ble_eq_true rfl, Nat.le_of_ble_eq_true rfl⟩ hl.1 rfl (Nat.le_of_ble_eq_true rfl) dX8_endOf_50 ⟨Nat.le_of_ble_eq_true rfl, Nat.le_of_ble_eq_true rfl⟩ [0, 1] [] rfl rfl (by decide) rfl rfl (fun r_17 u_17 H locs w_17 h_17 => ?_)
            clear h
            obtain ⟨wr_17, y17_0, _⟩ := w_17
            replace h_17 : qW D _ _ (wk_306333e60 cy h0 h1 p1 p2 w0 w1 w2 h1 f0) _ _ := h_17
            refine lv_if_eq (tgt := 73) hx hb dX8_endOf_53 (by decide) (fun c_18 => ?_) (fun c_18 => ?_)
            · replace c_18 := i_eq (x := r_17) (y := 0) rfl (show (0 : Int32).toInt = 0 by decide) c_18
              refine lv_iload_n hx hb dX8_endOf_73 rfl (lv_at hl 2 rfl) ?_
              exact q_iret X hr hlk hK h_17 rfl (fun _ => 0, fun _ _ => 0, fun _ _ => 0) ⟨(bw hv40_13_0 (by decide) (by decide)), (show ((p1 : Int32).toInt ≤ (p0 : Int32).toInt ∨ (p0 : Int32).toInt + 1 ≤ (v40_13_0 : Int32).toInt) ∧ (p0 : Int32).toInt ≤ (v40_13_0 : Int32).toInt ∧ (v40_13_0 : Int32).toInt ≤ (p1 : Int32).toInt from by omega), (show ENE f0 (p1 : Int32).toInt (p0 : Int32).toInt (v40_13_0 : Int32).toInt from by first | (exfalso; omega) | exact ene_dg rf0 (by omega) (by omega) (by omega) x15_1 (Or.inl (by omega)) | exact ene_dg rf0 (by omega) (by omega) (by omega) x15_1 (y17_0.resolve_left (fun q => absurd q.1 (by omega))).2), trivial⟩ [0, 1] rfl rfl dX8_endOf_74 (Nat.le_of_ble_eq_true rfl) (Nat.le_of_ble_eq_true rfl)
            · replace c_18 := i_ne (x := r_17) (y := 0) rfl (show (0 : Int32).toInt = 0 by decide) c_18
              have sp_19 := spn_s x15_1 (by omega) y17_0 (by omega)
              obtain ⟨z_20, ez_20, hz_20⟩ := e_add (x := v40_13_0) (y := Int32.ofInt 1) rfl (b := 1) (by decide) (by omega) (by omega)
              refine lv_iinc (v := z_20) (lv' := [(2, .int z_20), (0, .ref h0), (1, .int p0)]) hx hb dX8_endOf_56 hl (k := 2) rfl ez_20 (by decide) rfl (fun ls_20 hl_20 => ?_)
              clear hl
              refine lv_goto (tgt := 40) hx hb dX8_endOf_59 (by decide) ?_
              exact ih_40 z_20 (by show (901 - (z_20).toInt).toNat < (901 - (v40_13_0).toInt).toNat; omega) _ _ _ ⟨⟨by omega, by omega⟩, (by omega), (spn_e sp_19 (by omega)), h_17, (lv_sub hl_20 [1, 2, 0] rfl)⟩
  · replace c_3 := i_ne (x := r_2) (y := 0) rfl (show (0 : Int32).toInt = 0 by decide) c_3
    refine lv_iload_n hx hb dX8_endOf_10 rfl (lv_at hl_1 0 rfl) ?_
    refine lv_aload_n hx hb dX8_endOf_11 rfl (lv_at hl_1 1 rfl) ?_
    refine q_get X hK h_2 0 rfl rfl wf_8 1 (by decide) rfl wm_1_44 dX8_endOf_12 ?_
    refine lv_icmp_ge (tgt := 73) hx hb dX8_endOf_15 (by decide) (fun c_21 => ?_) (fun c_21 => ?_)
    · replace c_21 := i_le (x := p1) (y := p0) rfl rfl c_21
      refine lv_iload_n hx hb dX8_endOf_73 rfl (lv_at hl_1 0 rfl) ?_
      exact q_iret X hr hlk hK h_2 rfl (fun _ => 0, fun _ _ => 0, fun _ _ => 0) ⟨hp0, (show ((p1 : Int32).toInt ≤ (p0 : Int32).toInt ∨ (p0 : Int32).toInt + 1 ≤ (p0 : Int32).toInt) ∧ (p0 : Int32).toInt ≤ (p0 : Int32).toInt ∧ (p0 : Int32).toInt ≤ (p1 : Int32).toInt from by omega), (show ENE f0 (p1 : Int32).toInt (p0 : Int32).toInt (p0 : Int32).toInt from by first | (exfalso; omega) | exact ene_lt rf0 (by omega) (by omega) (by omega) (spn_0 (by omega)) (Or.inl (by omega)) | exact ene_lt rf0 (by omega) (by omega) (by omega) (spn_0 (by omega)) (y2_0.resolve_left (fun q => absurd q.1 (by omega))).2), trivial⟩ [0, 1] rfl rfl dX8_endOf_74 (Nat.le_of_ble_eq_true rfl) (Nat.le_of_ble_eq_true rfl)
    · replace c_21 := i_nle (x := p1) (y := p0) rfl rfl c_21
      refine lv_aload_n hx hb dX8_endOf_18 rfl (lv_at hl_1 1 rfl) ?_
      refine lv_iload_n hx hb dX8_endOf_19 rfl (lv_at hl_1 0 rfl) ?_
      refine q_callVi (rest := []) (wr := []) X hK hT hA h_2 (fun sz => gX8_isLetter_8387341 l D cy h0 h1 p0 p1 p2 w0 w1 w2 f0 hp0 hp1 hp2 rf0 sz) wm_2_177 wm_2_180 wm_1_3 hd_X8_isLetter wm_2_179 wp_1_2 (ci := 8) (q0 := 0) rfl rfl ⟨Nat.le_of_ble_eq_true rfl, Nat.le_of_ble_eq_true rfl⟩ hl_1.1 rfl (Nat.le_of_ble_eq_true rfl) dX8_endOf_20 ⟨Nat.le_of_ble_eq_true rfl, Nat.le_of_ble_eq_true rfl⟩ [0, 1] [] rfl rfl (by decide) rfl rfl (fun r_22 u_22 H locs w_22 h_22 => ?_)
      clear h_2
      obtain ⟨wr_22, y22_0, _⟩ := w_22
      replace h_22 : qW D _ _ (wk_306333e60 cy h0 h1 p1 p2 w0 w1 w2 h1 f0) _ _ := h_22
      refine lv_if_eq (tgt := 73) hx hb dX8_endOf_23 (by decide) (fun c_23 => ?_) (fun c_23 => ?_)
      · replace c_23 := i_eq (x := r_22) (y := 0) rfl (show (0 : Int32).toInt = 0 by decide) c_23
        refine lv_iload_n hx hb dX8_endOf_73 rfl (lv_at hl_1 0 rfl) ?_
        exact q_iret X hr hlk hK h_22 rfl (fun _ => 0, fun _ _ => 0, fun _ _ => 0) ⟨hp0, (show ((p1 : Int32).toInt ≤ (p0 : Int32).toInt ∨ (p0 : Int32).toInt + 1 ≤ (p0 : Int32).toInt) ∧ (p0 : Int32).toInt ≤ (p0 : Int32).toInt ∧ (p0 : Int32).toInt ≤ (p1 : Int32).toInt from by omega), (show ENE f0 (p1 : Int32).toInt (p0 : Int32).toInt (p0 : Int32).toInt from by first | (exfalso; omega) | exact ene_lt rf0 (by omega) (by omega) (by omega) (spn_0 (by omega)) (Or.inl (by omega)) | exact ene_lt rf0 (by omega) (by omega) (by omega) (spn_0 (by omega)) (y22_0.resolve_left (fun q => absurd q.1 (by omega))).2), trivial⟩ [0, 1] rfl rfl dX8_endOf_74 (Nat.le_of_ble_eq_true rfl) (Nat.le_of_ble_eq_true rfl)
      · replace c_23 := i_ne (x := r_22) (y := 0) rfl (show (0 : Int32).toInt = 0 by decide) c_23
        have sp_24 := spn_s (spn_0 (lo := 97) (hi := 122) (f := f0) (a := (p0 : Int32).toInt) (e := (p0 : Int32).toInt) (by omega)) (by omega) y22_0 (by omega)
        obtain ⟨z_25, ez_25, hz_25⟩ := e_add (x := p0) (y := Int32.ofInt 1) rfl (b := 1) (by decide) (by omega) (by omega)
        refine lv_iinc (v := z_25) (lv' := [(2, .int z_25), (0, .ref h0), (1, .int p0)]) hx hb dX8_endOf_26 hl_1 (k := 0) rfl ez_25 (by decide) rfl (fun ls_25 hl_25 => ?_)
        clear hl_1
        refine lv_goto (tgt := 10) hx hb dX8_endOf_29 (by decide) ?_
        refine q_wl (fun (v10_26_0 : Int32) H locs ls => (1 ≤ (v10_26_0).toInt ∧ (v10_26_0).toInt ≤ 900) ∧ ((p0 : Int32).toInt + 1 ≤ (v10_26_0 : Int32).toInt ∧ (v10_26_0 : Int32).toInt ≤ (p1 : Int32).toInt) ∧ (SPN 97 122 f0 (p0 : Int32).toInt (v10_26_0 : Int32).toInt) ∧ qW D (va_A (wk_306333e60 cy h0 h1 p1 p2 w0 w1 w2 h1 f0) sz) s.heap (wk_306333e60 cy h0 h1 p1 p2 w0 w1 w2 h1 f0) H locs ∧ lv_has ls 3 [(0, .ref h0), (1, .int p0), (2, .int v10_26_0)]) (fun (v10_26_0 : Int32) => (901 - (v10_26_0).toInt).toNat) (fun q_10 ih_10 H locs ls hP => ?_) z_25 ⟨⟨by omega, by omega⟩, (by omega), (spn_e sp_24 (by omega)), h_22, (lv_sub hl_25 [1, 2, 0] rfl)⟩
        obtain ⟨v10_26_0, rfl⟩ : ∃ z, z = q_10 := ⟨_, rfl⟩
        obtain ⟨hv10_26_0, x27_0, x28_1, h, hl⟩ := hP
        refine lv_iload_n hx hb dX8_endOf_10 rfl (lv_at hl 2 rfl) ?_
        refine lv_aload_n hx hb dX8_endOf_11 rfl (lv_at hl 0 rfl) ?_
        refine q_get X hK h 0 rfl rfl wf_8 1 (by decide) rfl wm_1_44 dX8_endOf_12 ?_
        refine lv_icmp_ge (tgt := 73) hx hb dX8_endOf_15 (by decide) (fun c_29 => ?_) (fun c_29 => ?_)
        · replace c_29 := i_le (x := p1) (y := v10_26_0) rfl rfl c_29
          refine lv_iload_n hx hb dX8_endOf_73 rfl (lv_at hl 2 rfl) ?_
          exact q_iret X hr hlk hK h rfl (fun _ => 0, fun _ _ => 0, fun _ _ => 0) ⟨(bw hv10_26_0 (by decide) (by decide)), (show ((p1 : Int32).toInt ≤ (p0 : Int32).toInt ∨ (p0 : Int32).toInt + 1 ≤ (v10_26_0 : Int32).toInt) ∧ (p0 : Int32).toInt ≤ (v10_26_0 : Int32).toInt ∧ (v10_26_0 : Int32).toInt ≤ (p1 : Int32).toInt from by omega), (show ENE f0 (p1 : Int32).toInt (p0 : Int32).toInt (v10_26_0 : Int32).toInt from by first | (exfalso; omega) | exact ene_lt rf0 (by omega) (by omega) (by omega) x28_1 (Or.inl (by omega)) | exact ene_lt rf0 (by omega) (by omega) (by omega) x28_1 (y22_0.resolve_left (fun q => absurd q.1 (by omega))).2), trivial⟩ [0, 1] rfl rfl dX8_endOf_74 (Nat.le_of_ble_eq_true rfl) (Nat.le_of_ble_eq_true rfl)
        · replace c_29 := i_nle (x := p1) (y := v10_26_0) rfl rfl c_29
          refine lv_aload_n hx hb dX8_endOf_18 rfl (lv_at hl 0 rfl) ?_
          refine lv_iload_n hx hb dX8_endOf_19 rfl (lv_at hl 2 rfl) ?_
          refine q_callVi (rest := []) (wr := []) X hK hT hA h (fun sz => gX8_isLetter_8387341 l D cy h0 h1 v10_26_0 p1 p2 w0 w1 w2 f0 (bw hv10_26_0 (by decide) (by decide)) hp1 hp2 rf0 sz) wm_2_177 wm_2_180 wm_1_3 hd_X8_isLetter wm_2_179 wp_1_2 (ci := 8) (q0 := 0) rfl rfl ⟨Nat.le_of_ble_eq_true rfl, Nat.le_of_ble_eq_true rfl⟩ hl.1 rfl (Nat.le_of_ble_eq_true rfl) dX8_endOf_20 ⟨Nat.le_of_ble_eq_true rfl, Nat.le_of_ble_eq_true rfl⟩ [0, 1] [] rfl rfl (by decide) rfl rfl (fun r_30 u_30 H locs w_30 h_30 => ?_)
          clear h
          obtain ⟨wr_30, y30_0, _⟩ := w_30
          replace h_30 : qW D _ _ (wk_306333e60 cy h0 h1 p1 p2 w0 w1 w2 h1 f0) _ _ := h_30
          refine lv_if_eq (tgt := 73) hx hb dX8_endOf_23 (by decide) (fun c_31 => ?_) (fun c_31 => ?_)
          · replace c_31 := i_eq (x := r_30) (y := 0) rfl (show (0 : Int32).toInt = 0 by decide) c_31
            refine lv_iload_n hx hb dX8_endOf_73 rfl (lv_at hl 2 rfl) ?_
            exact q_iret X hr hlk hK h_30 rfl (fun _ => 0, fun _ _ => 0, fun _ _ => 0) ⟨(bw hv10_26_0 (by decide) (by decide)), (show ((p1 : Int32).toInt ≤ (p0 : Int32).toInt ∨ (p0 : Int32).toInt + 1 ≤ (v10_26_0 : Int32).toInt) ∧ (p0 : Int32).toInt ≤ (v10_26_0 : Int32).toInt ∧ (v10_26_0 : Int32).toInt ≤ (p1 : Int32).toInt from by omega), (show ENE f0 (p1 : Int32).toInt (p0 : Int32).toInt (v10_26_0 : Int32).toInt from by first | (exfalso; omega) | exact ene_lt rf0 (by omega) (by omega) (by omega) x28_1 (Or.inl (by omega)) | exact ene_lt rf0 (by omega) (by omega) (by omega) x28_1 (y30_0.resolve_left (fun q => absurd q.1 (by omega))).2), trivial⟩ [0, 1] rfl rfl dX8_endOf_74 (Nat.le_of_ble_eq_true rfl) (Nat.le_of_ble_eq_true rfl)
          · replace c_31 := i_ne (x := r_30) (y := 0) rfl (show (0 : Int32).toInt = 0 by decide) c_31
            have sp_32 := spn_s x28_1 (by omega) y30_0 (by omega)
            obtain ⟨z_33, ez_33, hz_33⟩ := e_add (x := v10_26_0) (y := Int32.ofInt 1) rfl (b := 1) (by decide) (by omega) (by omega)
            refine lv_iinc (v := z_33) (lv' := [(2, .int z_33), (0, .ref h0), (1, .int p0)]) hx hb dX8_endOf_26 hl (k := 2) rfl ez_33 (by decide) rfl (fun ls_33 hl_33 => ?_)
            clear hl
            refine lv_goto (tgt := 10) hx hb dX8_endOf_29 (by decide) ?_
            exact ih_10 z_33 (by show (901 - (z_33).toInt).toNat < (901 - (v10_26_0).toInt).toNat; omega) _ _ _ ⟨⟨by omega, by omega⟩, (by omega), (spn_e sp_32 (by omega)), h_30, (lv_sub hl_33 [1, 2, 0] rfl)⟩
set_option maxHeartbeats 4000000 in
set_option maxRecDepth 100000 in
theorem gX8_isWritten_e0d07fb (l : Launch) (D : va_G) (cy : Nat → ClassId) (h0 : Nat) (h1 : Nat) (p0 : Int32) (p1 : Int32) (p2 : Int32) (p3 : Int32) (p4 : Int32) (w0 : Value) (w1 : Value) (w2 : Value) (f0 : Nat → Int32) (hp0 : 0 ≤ (p0).toInt ∧ (p0).toInt ≤ 255) (hp1 : 0 ≤ (p1).toInt ∧ (p1).toInt ≤ 900) (hp2 : (-999) ≤ (p2).toInt ∧ (p2).toInt ≤ 900) (hp3 : 0 ≤ (p3).toInt ∧ (p3).toInt ≤ 900) (hp4 : 0 ≤ (p4).toInt ∧ (p4).toInt ≤ 901) (rf0 : TB f0) (hpre0 : (p0 : Int32).toInt + (p2 : Int32).toInt ≤ 128) (hpre1 : (p1 : Int32).toInt + (p2 : Int32).toInt ≤ 900) (sz : Nat) : MI l yX8_isWritten cX8_isWritten 5 .boolean { frames := 4, cells := 0, slots := 0, locals := 85 } [.ref h0, .int p0, .int p1, .int p2] D cy (wk_306333e60 cy h0 h1 p3 p4 w0 w1 w2 h1 f0) sz (fun r u => (0 ≤ r.toInt ∧ r.toInt ≤ 1) ∧ (WRY f0 (p0 : Int32).toInt (p1 : Int32).toInt (p2 : Int32).toInt (r : Int32).toInt) ∧ True) (fun u => (wk_306333e60 cy h0 h1 p3 p4 w0 w1 w2 h1 f0)) 0 0 := by
  refine q_ent (own := RX8) (by decide) rfl (Nat.le_of_ble_eq_true rfl) (fun p e s m below meth c ls X hr hlk hnm hK hT h hA hl => ?_)
  obtain ⟨hx, hb, hml, hown, ht⟩ := id X
  replace hl : lv_has ls 5 [(0, .ref h0), (1, .int p0), (2, .int p1), (3, .int p2)] := hl
  refine lv_iconst (v := 0) hx hb dX8_isWritten_0 (by decide) ?_
  refine lv_istore (lv' := [(4, .int 0), (0, .ref h0), (1, .int p0), (2, .int p1), (3, .int p2)]) hx hb dX8_isWritten_1 hl (by decide) rfl (fun ls_1 hl_1 => ?_)
  clear hl
  refine q_wl (fun (v3_2_0 : Int32) H locs ls => (0 ≤ (v3_2_0).toInt ∧ (v3_2_0).toInt ≤ 900) ∧ (WRI f0 (p0 : Int32).toInt (p1 : Int32).toInt (v3_2_0 : Int32).toInt) ∧ qW D (va_A (wk_306333e60 cy h0 h1 p3 p4 w0 w1 w2 h1 f0) sz) s.heap (wk_306333e60 cy h0 h1 p3 p4 w0 w1 w2 h1 f0) H locs ∧ lv_has ls 5 [(0, .ref h0), (1, .int p0), (2, .int p1), (3, .int p2), (4, .int v3_2_0)]) (fun (v3_2_0 : Int32) => (901 - (v3_2_0).toInt).toNat) (fun q_3 ih_3 H locs ls hP => ?_) 0 ⟨⟨by decide +kernel, by decide +kernel⟩, (wri_0 (by decide)), h, (lv_sub hl_1 [1, 2, 3, 4, 0] rfl)⟩
  obtain ⟨v3_2_0, rfl⟩ : ∃ z, z = q_3 := ⟨_, rfl⟩
  obtain ⟨hv3_2_0, x3_0, h, hl⟩ := hP
  refine lv_iload hx hb dX8_isWritten_3 (lv_at hl 4 rfl) ?_
  refine lv_iload_n hx hb dX8_isWritten_5 rfl (lv_at hl 3 rfl) ?_
  refine lv_icmp_ge (tgt := 38) hx hb dX8_isWritten_6 (by decide) (fun c_4 => ?_) (fun c_4 => ?_)
  · replace c_4 := i_le (x := p2) (y := v3_2_0) rfl rfl c_4
    refine lv_iconst (v := 1) hx hb dX8_isWritten_38 (by decide) ?_
    exact q_iret X hr hlk hK h rfl (fun _ => 0, fun _ _ => 0, fun _ _ => 0) ⟨⟨by decide +kernel, by decide +kernel⟩, (show WRY f0 (p0 : Int32).toInt (p1 : Int32).toInt (p2 : Int32).toInt (1 : Int32).toInt from Or.inl ⟨by decide, wri_le x3_0 (by omega)⟩), trivial⟩ [0, 1] rfl rfl dX8_isWritten_39 (Nat.le_of_ble_eq_true rfl) (Nat.le_of_ble_eq_true rfl)
  · replace c_4 := i_nle (x := p2) (y := v3_2_0) rfl rfl c_4
    refine q_ldc0 X hT dX8_isWritten_9 ?_
    refine lv_iload_n hx hb dX8_isWritten_11 rfl (lv_at hl 1 rfl) ?_
    refine lv_iload hx hb dX8_isWritten_12 (lv_at hl 4 rfl) ?_
    refine lv_iadd hx hb dX8_isWritten_14 ?_
    obtain ⟨z_5, ez_5, hz_5⟩ := e_add (x := p0) (y := v3_2_0) rfl rfl (by omega) (by omega)
    refine q_c z_5 ez_5 ?_
    clear ez_5
    refine q_callGi (rest := []) (wr := (wk_306333e60 cy h0 h1 p3 p4 w0 w1 w2 h1 f0)) X hK hT hA h (fun sz => gJ0_charAt_5068e_84d2329 l D cy z_5 ⟨by omega, by omega⟩ sz) wm_2_204 wm_2_207 wm_1_14 hd_J0_charAt_5068e rfl wm_2_205 wm_2_206 0 (by decide) rfl ⟨Nat.le_of_ble_eq_true rfl, Nat.le_of_ble_eq_true rfl⟩ hl.1 rfl (Nat.le_of_ble_eq_true rfl) dX8_isWritten_15 ⟨Nat.le_of_ble_eq_true rfl, Nat.le_of_ble_eq_true rfl⟩ [] [0, 1] rfl rfl (by decide) rfl rfl (fun r_6 u_6 H locs w_6 h_6 => ?_)
    clear h
    obtain ⟨wr_6, y6_0, _⟩ := w_6
    replace h_6 : qW D _ _ (wk_306333e60 cy h0 h1 p3 p4 w0 w1 w2 h1 f0) _ _ := h_6
    refine lv_aload_n hx hb dX8_isWritten_18 rfl (lv_at hl 0 rfl) ?_
    refine q_get X hK h_6 0 rfl rfl wf_8 0 (by decide) rfl wm_1_43 dX8_isWritten_19 ?_
    refine lv_iload_n hx hb dX8_isWritten_22 rfl (lv_at hl 2 rfl) ?_
    refine lv_iload hx hb dX8_isWritten_23 (lv_at hl 4 rfl) ?_
    refine lv_iadd hx hb dX8_isWritten_25 ?_
    obtain ⟨z_7, ez_7, hz_7⟩ := e_add (x := p1) (y := v3_2_0) rfl rfl (by omega) (by omega)
    refine q_c z_7 ez_7 ?_
    clear ez_7
    refine q_bald X hK h_6 1 rfl (i_in rfl (by omega) (by omega)) dX8_isWritten_26 ?_
    obtain ⟨z_8, ez_8, hz_8⟩ := e_any (f0 z_7.toNatClampNeg)
    refine q_c z_8 ez_8 ?_
    refine lv_icmp_eq (tgt := 32) hx hb dX8_isWritten_27 (by decide) (fun c_9 => ?_) (fun c_9 => ?_)
    · replace c_9 := i_eq (x := r_6) (y := z_8) rfl rfl c_9
      have wr_10 := wri_s x3_0 (by omega) (by omega) (by omega) (by omega) (by omega) y6_0 ez_8 (by omega)
      obtain ⟨z_11, ez_11, hz_11⟩ := e_add (x := v3_2_0) (y := Int32.ofInt 1) rfl (b := 1) (by decide) (by omega) (by omega)
      refine lv_iinc (v := z_11) (lv' := [(4, .int z_11), (0, .ref h0), (1, .int p0), (2, .int p1), (3, .int p2)]) hx hb dX8_isWritten_32 hl (k := 4) rfl ez_11 (by decide) rfl (fun ls_11 hl_11 => ?_)
      clear hl
      refine lv_goto (tgt := 3) hx hb dX8_isWritten_35 (by decide) ?_
      exact ih_3 z_11 (by show (901 - (z_11).toInt).toNat < (901 - (v3_2_0).toInt).toNat; omega) _ _ _ ⟨⟨by omega, by omega⟩, (wri_n wr_10 (by omega)), h_6, (lv_sub hl_11 [1, 2, 3, 4, 0] rfl)⟩
    · replace c_9 := i_ne (x := r_6) (y := z_8) rfl rfl c_9
      refine lv_iconst (v := 0) hx hb dX8_isWritten_30 (by decide) ?_
      exact q_iret X hr hlk hK h_6 rfl (fun _ => 0, fun _ _ => 0, fun _ _ => 0) ⟨⟨by decide +kernel, by decide +kernel⟩, (show WRY f0 (p0 : Int32).toInt (p1 : Int32).toInt (p2 : Int32).toInt (0 : Int32).toInt from Or.inr ⟨by decide, wri_not (f := f0) (s := (p0 : Int32).toInt) (a := (p1 : Int32).toInt) (i := (v3_2_0 : Int32).toInt) (n := (p2 : Int32).toInt) (by omega) (by omega) (by omega) (by omega) (by omega) (by omega) y6_0 ez_8 (by omega)⟩), trivial⟩ [0, 1] rfl rfl dX8_isWritten_31 (Nat.le_of_ble_eq_true rfl) (Nat.le_of_ble_eq_true rfl)
set_option maxHeartbeats 4000000 in
set_option maxRecDepth 100000 in
theorem gX8_wordOf_d24cd9f (l : Launch) (D : va_G) (cy : Nat → ClassId) (h0 : Nat) (h1 : Nat) (p0 : Int32) (p1 : Int32) (p2 : Int32) (p3 : Int32) (w0 : Value) (w1 : Value) (w2 : Value) (f0 : Nat → Int32) (hp0 : 0 ≤ (p0).toInt ∧ (p0).toInt ≤ 900) (hp1 : 0 ≤ (p1).toInt ∧ (p1).toInt ≤ 900) (hp2 : 0 ≤ (p2).toInt ∧ (p2).toInt ≤ 900) (hp3 : 0 ≤ (p3).toInt ∧ (p3).toInt ≤ 901) (rf0 : TB f0) (hpre0 : (p0 : Int32).toInt ≤ (p1 : Int32).toInt) (hpre1 : (p1 : Int32).toInt ≤ (p2 : Int32).toInt) (sz : Nat) : MI l yX8_wordOf cX8_wordOf 6 .int { frames := 5, cells := 0, slots := 0, locals := 109 } [.ref h0, .int p0, .int p1] D cy (wk_306333e60 cy h0 h1 p2 p3 w0 w1 w2 h1 f0) sz (fun r u => (0 ≤ r.toInt ∧ r.toInt ≤ 129) ∧ (WDE f0 (p0 : Int32).toInt (p1 : Int32).toInt (r : Int32).toInt) ∧ True) (fun u => (wk_306333e60 cy h0 h1 p2 p3 w0 w1 w2 h1 f0)) 0 0 := by
  refine q_ent (own := RX8) (by decide) rfl (Nat.le_of_ble_eq_true rfl) (fun p e s m below meth c ls X hr hlk hnm hK hT h hA hl => ?_)
  obtain ⟨hx, hb, hml, hown, ht⟩ := id X
  replace hl : lv_has ls 6 [(0, .ref h0), (1, .int p0), (2, .int p1)] := hl
  refine lv_iconst (v := 0) hx hb dX8_wordOf_0 (by decide) ?_
  refine lv_istore_n (lv' := [(3, .int 0), (0, .ref h0), (1, .int p0), (2, .int p1)]) hx hb dX8_wordOf_1 rfl hl (by decide) rfl (fun ls_1 hl_1 => ?_)
  clear hl
  refine lv_iconst (v := 0) hx hb dX8_wordOf_2 (by decide) ?_
  refine lv_istore (lv' := [(4, .int 0), (3, .int 0), (0, .ref h0), (1, .int p0), (2, .int p1)]) hx hb dX8_wordOf_3 hl_1 (by decide) rfl (fun ls_2 hl_2 => ?_)
  clear hl_1
  refine lv_iconst (v := 0) hx hb dX8_wordOf_5 (by decide) ?_
  refine lv_istore (lv' := [(5, .int 0), (4, .int 0), (3, .int 0), (0, .ref h0), (1, .int p0), (2, .int p1)]) hx hb dX8_wordOf_6 hl_2 (by decide) rfl (fun ls_3 hl_3 => ?_)
  clear hl_2
  refine q_wl (fun (q : Int32 × Int32 × Int32) H locs ls => match q with | (v8_4_0, v8_4_1, v8_4_2) => (0 ≤ (v8_4_0).toInt ∧ (v8_4_0).toInt ≤ 129) ∧ (0 ≤ (v8_4_1).toInt ∧ (v8_4_1).toInt ≤ 129) ∧ (0 ≤ (v8_4_2).toInt ∧ (v8_4_2).toInt ≤ 130) ∧ ((v8_4_2 : Int32).toInt ≤ (v8_4_0 : Int32).toInt) ∧ (WOI f0 (p0 : Int32).toInt (p1 : Int32).toInt (v8_4_0 : Int32).toInt (v8_4_1 : Int32).toInt (v8_4_2 : Int32).toInt) ∧ ((v8_4_1 : Int32).toInt ≤ (v8_4_0 : Int32).toInt) ∧ qW D (va_A (wk_306333e60 cy h0 h1 p2 p3 w0 w1 w2 h1 f0) sz) s.heap (wk_306333e60 cy h0 h1 p2 p3 w0 w1 w2 h1 f0) H locs ∧ lv_has ls 6 [(0, .ref h0), (1, .int p0), (2, .int p1), (3, .int v8_4_1), (4, .int v8_4_2), (5, .int v8_4_0)]) (fun (q : Int32 × Int32 × Int32) => match q with | (v8_4_0, v8_4_1, v8_4_2) => (130 - (v8_4_0).toInt).toNat) (fun q_8 ih_8 H locs ls hP => ?_) (0, 0, 0) ⟨⟨by decide +kernel, by decide +kernel⟩, ⟨by decide +kernel, by decide +kernel⟩, ⟨by decide +kernel, by decide +kernel⟩, (by have q0 : (0 : Int32).toInt = 0 := (by decide); omega), (woi_0 (by decide) (by decide) (by decide)), (by have q0 : (0 : Int32).toInt = 0 := (by decide); omega), h, (lv_sub hl_3 [3, 4, 5, 2, 1, 0] rfl)⟩
  obtain ⟨v8_4_0, v8_4_1, v8_4_2⟩ := q_8
  obtain ⟨hv8_4_0, hv8_4_1, hv8_4_2, x5_0, x6_1, x7_2, h, hl⟩ := hP
  refine lv_iload hx hb dX8_wordOf_8 (lv_at hl 5 rfl) ?_
  refine q_ldc0 X hT dX8_wordOf_10 ?_
  refine q_callGi (rest := [.int v8_4_0]) (wr := (wk_306333e60 cy h0 h1 p2 p3 w0 w1 w2 h1 f0)) X hK hT hA h (fun sz => gJ0_length_8abf5_b47a5de l D cy   sz) wm_2_194 wm_2_197 wm_1_14 hd_J0_length_8abf5 rfl wm_2_195 wm_2_196 0 (by decide) rfl ⟨Nat.le_of_ble_eq_true rfl, Nat.le_of_ble_eq_true rfl⟩ hl.1 rfl (Nat.le_of_ble_eq_true rfl) dX8_wordOf_12 ⟨Nat.le_of_ble_eq_true rfl, Nat.le_of_ble_eq_true rfl⟩ [] [0, 1] rfl rfl (by decide) rfl rfl (fun r_8 u_8 H locs w_8 h_8 => ?_)
  clear h
  obtain ⟨wr_8, _⟩ := w_8
  obtain rfl : r_8 = 128 := wr_8
  replace h_8 : qW D _ _ (wk_306333e60 cy h0 h1 p2 p3 w0 w1 w2 h1 f0) _ _ := h_8
  refine lv_icmp_gt (tgt := 81) hx hb dX8_wordOf_15 (by decide) (fun c_9 => ?_) (fun c_9 => ?_)
  · replace c_9 := i_lt (x := 128) (y := v8_4_0) (show (128 : Int32).toInt = 128 by decide) rfl c_9
    refine lv_bipush (v := 24) hx hb dX8_wordOf_81 (by decide) ?_
    exact q_iret X hr hlk hK h_8 rfl (fun _ => 0, fun _ _ => 0, fun _ _ => 0) ⟨⟨by decide +kernel, by decide +kernel⟩, (show WDE f0 (p0 : Int32).toInt (p1 : Int32).toInt (24 : Int32).toInt from wde_no x6_1 (by omega) (by omega) (by decide)), trivial⟩ [0, 1] rfl rfl dX8_wordOf_83 (Nat.le_of_ble_eq_true rfl) (Nat.le_of_ble_eq_true rfl)
  · replace c_9 := i_nlt (x := 128) (y := v8_4_0) (show (128 : Int32).toInt = 128 by decide) rfl c_9
    refine lv_iload hx hb dX8_wordOf_18 (lv_at hl 5 rfl) ?_
    refine q_ldc0 X hT dX8_wordOf_20 ?_
    refine q_callGi (rest := [.int v8_4_0]) (wr := (wk_306333e60 cy h0 h1 p2 p3 w0 w1 w2 h1 f0)) X hK hT hA h_8 (fun sz => gJ0_length_8abf5_b47a5de l D cy   sz) wm_2_194 wm_2_197 wm_1_14 hd_J0_length_8abf5 rfl wm_2_195 wm_2_196 0 (by decide) rfl ⟨Nat.le_of_ble_eq_true rfl, Nat.le_of_ble_eq_true rfl⟩ hl.1 rfl (Nat.le_of_ble_eq_true rfl) dX8_wordOf_22 ⟨Nat.le_of_ble_eq_true rfl, Nat.le_of_ble_eq_true rfl⟩ [] [0, 1] rfl rfl (by decide) rfl rfl (fun r_10 u_10 H locs w_10 h_10 => ?_)
    clear h_8
    obtain ⟨wr_10, _⟩ := w_10
    obtain rfl : r_10 = 128 := wr_10
    replace h_10 : qW D _ _ (wk_306333e60 cy h0 h1 p2 p3 w0 w1 w2 h1 f0) _ _ := h_10
    refine q_jn (pc2 := 75) (fun H locs ls st => ∃ v75_11_0 : Int32, ∃ v75_11_1 : Int32, (0 ≤ (v75_11_0).toInt ∧ (v75_11_0).toInt ≤ 130) ∧ (0 ≤ (v75_11_1).toInt ∧ (v75_11_1).toInt ≤ 130) ∧ ((v75_11_0 : Int32).toInt ≤ (v8_4_0 : Int32).toInt + 1) ∧ ((v75_11_1 : Int32).toInt ≤ (v8_4_0 : Int32).toInt + 1) ∧ (WOI f0 (p0 : Int32).toInt (p1 : Int32).toInt ((v8_4_0 : Int32).toInt + 1) (v75_11_1 : Int32).toInt (v75_11_0 : Int32).toInt) ∧ st = [] ∧ qW D (va_A (wk_306333e60 cy h0 h1 p2 p3 w0 w1 w2 h1 f0) sz) s.heap (wk_306333e60 cy h0 h1 p2 p3 w0 w1 w2 h1 f0) H locs ∧ lv_has ls 6 [(0, .ref h0), (1, .int p0), (2, .int p1), (3, .int v75_11_1), (4, .int v75_11_0), (5, .int v8_4_0)]) (fun H locs ls st hP => ?_) (fun J_75 => ?_)
    · obtain ⟨v75_11_0, v75_11_1, hv75_11_0, hv75_11_1, x12_0, x13_1, x14_2, rfl, h, hl⟩ := hP
      obtain ⟨z_15, ez_15, hz_15⟩ := e_add (x := v8_4_0) (y := Int32.ofInt 1) rfl (b := 1) (by decide) (by omega) (by omega)
      refine lv_iinc (v := z_15) (lv' := [(5, .int z_15), (0, .ref h0), (1, .int p0), (2, .int p1), (3, .int v75_11_1), (4, .int v75_11_0)]) hx hb dX8_wordOf_75 hl (k := 5) rfl ez_15 (by decide) rfl (fun ls_15 hl_15 => ?_)
      clear hl
      refine lv_goto (tgt := 8) hx hb dX8_wordOf_78 (by decide) ?_
      exact ih_8 (z_15, v75_11_1, v75_11_0) (by show (130 - (z_15).toInt).toNat < (130 - (v8_4_0).toInt).toNat; omega) _ _ _ ⟨⟨by omega, by omega⟩, ⟨by omega, by omega⟩, hv75_11_0, (by omega), (woi_n x14_2 (by omega)), (by omega), h, (lv_sub hl_15 [1, 2, 3, 4, 5, 0] rfl)⟩
    · skip
      refine q_jn (pc2 := 40) (fun H locs ls st => (SEP (v8_4_0 : Int32).toInt) ∧ st = [] ∧ qW D (va_A (wk_306333e60 cy h0 h1 p2 p3 w0 w1 w2 h1 f0) sz) s.heap (wk_306333e60 cy h0 h1 p2 p3 w0 w1 w2 h1 f0) H locs ∧ lv_has ls 6 [(0, .ref h0), (1, .int p0), (2, .int p1), (3, .int v8_4_1), (4, .int v8_4_2), (5, .int v8_4_0)]) (fun H locs ls st hP => ?_) (fun J_40 => ?_)
      · obtain ⟨x17_0, rfl, h, hl⟩ := hP
        refine lv_iload hx hb dX8_wordOf_40 (lv_at hl 5 rfl) ?_
        refine lv_iload hx hb dX8_wordOf_42 (lv_at hl 4 rfl) ?_
        refine lv_isub hx hb dX8_wordOf_44 ?_
        obtain ⟨z_18, ez_18, hz_18⟩ := e_sub (x := v8_4_0) (y := v8_4_2) rfl rfl (by omega) (by omega)
        refine q_c z_18 ez_18 ?_
        clear ez_18
        refine lv_iload_n hx hb dX8_wordOf_45 rfl (lv_at hl 2 rfl) ?_
        refine lv_iload_n hx hb dX8_wordOf_46 rfl (lv_at hl 1 rfl) ?_
        refine lv_isub hx hb dX8_wordOf_47 ?_
        obtain ⟨z_19, ez_19, hz_19⟩ := e_sub (x := p1) (y := p0) rfl rfl (by omega) (by omega)
        refine q_c z_19 ez_19 ?_
        clear ez_19
        refine q_jn (pc2 := 66) (fun H locs ls st => (SEP (v8_4_0 : Int32).toInt) ∧ (¬ WAT (bB f0) ((p0 : Int32).toInt).toNat ((p1 : Int32).toInt).toNat ((v8_4_1 : Int32).toInt).toNat) ∧ st = [] ∧ qW D (va_A (wk_306333e60 cy h0 h1 p2 p3 w0 w1 w2 h1 f0) sz) s.heap (wk_306333e60 cy h0 h1 p2 p3 w0 w1 w2 h1 f0) H locs ∧ lv_has ls 6 [(0, .ref h0), (1, .int p0), (2, .int p1), (3, .int v8_4_1), (4, .int v8_4_2), (5, .int v8_4_0)]) (fun H locs ls st hP => ?_) (fun J_66 => ?_)
        · obtain ⟨x21_0, x22_1, rfl, h, hl⟩ := hP
          obtain ⟨z_23, ez_23, hz_23⟩ := e_add (x := v8_4_1) (y := Int32.ofInt 1) rfl (b := 1) (by decide) (by omega) (by omega)
          refine lv_iinc (v := z_23) (lv' := [(3, .int z_23), (0, .ref h0), (1, .int p0), (2, .int p1), (4, .int v8_4_2), (5, .int v8_4_0)]) hx hb dX8_wordOf_66 hl (k := 3) rfl ez_23 (by decide) rfl (fun ls_23 hl_23 => ?_)
          clear hl
          refine lv_iload hx hb dX8_wordOf_69 (lv_at hl_23 5 rfl) ?_
          refine lv_iconst (v := 1) hx hb dX8_wordOf_71 (by decide) ?_
          refine lv_iadd hx hb dX8_wordOf_72 ?_
          obtain ⟨z_24, ez_24, hz_24⟩ := e_add (x := v8_4_0) (y := 1) rfl (show (1 : Int32).toInt = 1 by decide) (by omega) (by omega)
          refine q_c z_24 ez_24 ?_
          clear ez_24
          refine lv_istore (lv' := [(4, .int z_24), (3, .int z_23), (0, .ref h0), (1, .int p0), (2, .int p1), (5, .int v8_4_0)]) hx hb dX8_wordOf_73 hl_23 (by decide) rfl (fun ls_25 hl_25 => ?_)
          clear hl_23
          exact J_75 _ _ _ _ ⟨z_24, z_23, ⟨by omega, by omega⟩, ⟨by omega, by omega⟩, (by omega), (by omega), (woi_sep x6_1 (by omega) (by omega) x21_0 x22_1 (by omega) (by omega) rfl), rfl, h, (lv_sub hl_25 [2, 3, 4, 1, 0, 5] rfl)⟩
        · skip
          refine lv_icmp_ne (tgt := 66) hx hb dX8_wordOf_48 (by decide) (fun c_26 => ?_) (fun c_26 => ?_)
          · replace c_26 := i_ne (x := z_18) (y := z_19) rfl rfl c_26
            exact J_66 _ _ _ _ ⟨(x17_0), (wat_len x6_1 (by omega) (by omega) x17_0 (by omega) (by omega) (by omega)), rfl, h, (lv_sub hl [0, 1, 2, 3, 4, 5] rfl)⟩
          · replace c_26 := i_eq (x := z_18) (y := z_19) rfl rfl c_26
            refine lv_aload_n hx hb dX8_wordOf_51 rfl (lv_at hl 0 rfl) ?_
            refine lv_iload hx hb dX8_wordOf_52 (lv_at hl 4 rfl) ?_
            refine lv_iload_n hx hb dX8_wordOf_54 rfl (lv_at hl 1 rfl) ?_
            refine lv_iload_n hx hb dX8_wordOf_55 rfl (lv_at hl 2 rfl) ?_
            refine lv_iload_n hx hb dX8_wordOf_56 rfl (lv_at hl 1 rfl) ?_
            refine lv_isub hx hb dX8_wordOf_57 ?_
            obtain ⟨z_27, ez_27, hz_27⟩ := e_sub (x := p1) (y := p0) rfl rfl (by omega) (by omega)
            refine q_c z_27 ez_27 ?_
            clear ez_27
            refine q_callVi (rest := []) (wr := []) X hK hT hA h (fun sz => gX8_isWritten_e0d07fb l D cy h0 h1 v8_4_2 p0 z_27 p2 p3 w0 w1 w2 f0 (bw hv8_4_2 (by decide) (by decide)) hp0 ⟨by omega, by omega⟩ hp2 hp3 rf0 (by omega) (by omega) sz) wm_3_2 wm_3_5 wm_1_3 hd_X8_isWritten wm_3_4 wp_1_6 (ci := 8) (q0 := 0) rfl rfl ⟨Nat.le_of_ble_eq_true rfl, Nat.le_of_ble_eq_true rfl⟩ hl.1 rfl (Nat.le_of_ble_eq_true rfl) dX8_wordOf_58 ⟨Nat.le_of_ble_eq_true rfl, Nat.le_of_ble_eq_true rfl⟩ [0, 1] [] rfl rfl (by decide) rfl rfl (fun r_28 u_28 H locs w_28 h_28 => ?_)
            clear h
            obtain ⟨wr_28, y28_0, _⟩ := w_28
            replace h_28 : qW D _ _ (wk_306333e60 cy h0 h1 p2 p3 w0 w1 w2 h1 f0) _ _ := h_28
            refine lv_if_eq (tgt := 66) hx hb dX8_wordOf_61 (by decide) (fun c_29 => ?_) (fun c_29 => ?_)
            · replace c_29 := i_eq (x := r_28) (y := 0) rfl (show (0 : Int32).toInt = 0 by decide) c_29
              exact J_66 _ _ _ _ ⟨(x17_0), (nw_of rf0 x6_1 (by omega) (by omega) x17_0 (by omega) (by omega) (by omega) (by omega) y28_0 (by omega)), rfl, h_28, (lv_sub hl [0, 1, 2, 3, 4, 5] rfl)⟩
            · replace c_29 := i_ne (x := r_28) (y := 0) rfl (show (0 : Int32).toInt = 0 by decide) c_29
              refine lv_iload_n hx hb dX8_wordOf_64 rfl (lv_at hl 3 rfl) ?_
              exact q_iret X hr hlk hK h_28 rfl (fun _ => 0, fun _ _ => 0, fun _ _ => 0) ⟨hv8_4_1, (show WDE f0 (p0 : Int32).toInt (p1 : Int32).toInt (v8_4_1 : Int32).toInt from wde_at x6_1 (by omega) (by omega) x17_0 (yw_of rf0 x6_1 (by omega) (by omega) x17_0 (by omega) (by omega) (by omega) (by omega) y28_0 (by omega))), trivial⟩ [0, 1] rfl rfl dX8_wordOf_65 (Nat.le_of_ble_eq_true rfl) (Nat.le_of_ble_eq_true rfl)
      · skip
        refine lv_icmp_eq (tgt := 40) hx hb dX8_wordOf_25 (by decide) (fun c_30 => ?_) (fun c_30 => ?_)
        · replace c_30 := i_eq (x := v8_4_0) (y := 128) rfl (show (128 : Int32).toInt = 128 by decide) c_30
          exact J_40 _ _ _ _ ⟨(Or.inl (by omega)), rfl, h_10, (lv_sub hl [0, 1, 2, 3, 4, 5] rfl)⟩
        · replace c_30 := i_ne (x := v8_4_0) (y := 128) rfl (show (128 : Int32).toInt = 128 by decide) c_30
          refine q_ldc0 X hT dX8_wordOf_28 ?_
          refine lv_iload hx hb dX8_wordOf_30 (lv_at hl 5 rfl) ?_
          refine q_callGi (rest := []) (wr := (wk_306333e60 cy h0 h1 p2 p3 w0 w1 w2 h1 f0)) X hK hT hA h_10 (fun sz => gJ0_charAt_5068e_84d2329 l D cy v8_4_0 ⟨by omega, by omega⟩ sz) wm_2_204 wm_2_207 wm_1_14 hd_J0_charAt_5068e rfl wm_2_205 wm_2_206 0 (by decide) rfl ⟨Nat.le_of_ble_eq_true rfl, Nat.le_of_ble_eq_true rfl⟩ hl.1 rfl (Nat.le_of_ble_eq_true rfl) dX8_wordOf_32 ⟨Nat.le_of_ble_eq_true rfl, Nat.le_of_ble_eq_true rfl⟩ [] [0, 1] rfl rfl (by decide) rfl rfl (fun r_31 u_31 H locs w_31 h_31 => ?_)
          clear h_10
          obtain ⟨wr_31, y31_0, _⟩ := w_31
          replace h_31 : qW D _ _ (wk_306333e60 cy h0 h1 p2 p3 w0 w1 w2 h1 f0) _ _ := h_31
          refine lv_bipush (v := 32) hx hb dX8_wordOf_35 (by decide) ?_
          refine lv_icmp_ne (tgt := 75) hx hb dX8_wordOf_37 (by decide) (fun c_32 => ?_) (fun c_32 => ?_)
          · replace c_32 := i_ne (x := r_31) (y := 32) rfl (show (32 : Int32).toInt = 32 by decide) c_32
            exact J_75 _ _ _ _ ⟨v8_4_2, v8_4_1, hv8_4_2, (bw hv8_4_1 (by decide) (by decide)), (by omega), (by omega), (woi_in x6_1 (by omega) (by omega) rfl y31_0 (by omega) rfl), rfl, h_31, (lv_sub hl [0, 1, 2, 3, 4, 5] rfl)⟩
          · replace c_32 := i_eq (x := r_31) (y := 32) rfl (show (32 : Int32).toInt = 32 by decide) c_32
            exact J_40 _ _ _ _ ⟨(sep_c (by omega) rfl y31_0 (by omega)), rfl, h_31, (lv_sub hl [0, 1, 2, 3, 4, 5] rfl)⟩
set_option maxHeartbeats 4000000 in
set_option maxRecDepth 100000 in
theorem gX8_valueOf_7ef071d (l : Launch) (D : va_G) (cy : Nat → ClassId) (h0 : Nat) (h1 : Nat) (p0 : Int32) (p1 : Int32) (p2 : Int32) (p3 : Int32) (w0 : Value) (w1 : Value) (w2 : Value) (f0 : Nat → Int32) (hp0 : 0 ≤ (p0).toInt ∧ (p0).toInt ≤ 900) (hp1 : 0 ≤ (p1).toInt ∧ (p1).toInt ≤ 900) (hp2 : 0 ≤ (p2).toInt ∧ (p2).toInt ≤ 900) (hp3 : 0 ≤ (p3).toInt ∧ (p3).toInt ≤ 901) (rf0 : TB f0) (hpre0 : (p0 : Int32).toInt ≤ (p1 : Int32).toInt) (hpre1 : (p1 : Int32).toInt ≤ (p2 : Int32).toInt) (hpre2 : SPN 48 57 f0 (p0 : Int32).toInt (p1 : Int32).toInt) (hpre3 : (p0 : Int32).toInt + 1 ≤ (p1 : Int32).toInt ∧ (p1 : Int32).toInt ≤ (p0 : Int32).toInt + 3) (sz : Nat) : MI l yX8_valueOf cX8_valueOf 5 .int { frames := 0, cells := 0, slots := 0, locals := 0 } [.ref h0, .int p0, .int p1] D cy (wk_306333e60 cy h0 h1 p2 p3 w0 w1 w2 h1 f0) sz (fun r u => (0 ≤ r.toInt ∧ r.toInt ≤ 999) ∧ (VLE f0 (p0 : Int32).toInt (p1 : Int32).toInt (r : Int32).toInt) ∧ True) (fun u => (wk_306333e60 cy h0 h1 p2 p3 w0 w1 w2 h1 f0)) 0 0 := by
  refine q_ent (own := RX8) (by decide) rfl (Nat.le_of_ble_eq_true rfl) (fun p e s m below meth c ls X hr hlk hnm hK hT h hA hl => ?_)
  obtain ⟨hx, hb, hml, hown, ht⟩ := id X
  replace hl : lv_has ls 5 [(0, .ref h0), (1, .int p0), (2, .int p1)] := hl
  refine lv_iconst (v := 0) hx hb dX8_valueOf_0 (by decide) ?_
  refine lv_istore_n (lv' := [(3, .int 0), (0, .ref h0), (1, .int p0), (2, .int p1)]) hx hb dX8_valueOf_1 rfl hl (by decide) rfl (fun ls_1 hl_1 => ?_)
  clear hl
  refine lv_iload_n hx hb dX8_valueOf_2 rfl (lv_at hl_1 2 rfl) ?_
  refine lv_istore (lv' := [(4, .int p0), (3, .int 0), (0, .ref h0), (1, .int p0), (2, .int p1)]) hx hb dX8_valueOf_3 hl_1 (by decide) rfl (fun ls_2 hl_2 => ?_)
  clear hl_1
  refine q_wl (fun (q : Int32 × Int32) H locs ls => match q with | (v5_3_0, v5_3_1) => (0 ≤ (v5_3_0).toInt ∧ (v5_3_0).toInt ≤ 900) ∧ (0 ≤ (v5_3_1).toInt ∧ (v5_3_1).toInt ≤ 999) ∧ (VLS f0 (p0 : Int32).toInt (v5_3_0 : Int32).toInt (v5_3_1 : Int32).toInt) ∧ ((p0 : Int32).toInt ≤ (v5_3_0 : Int32).toInt ∧ (v5_3_0 : Int32).toInt ≤ (p1 : Int32).toInt) ∧ qW D (va_A (wk_306333e60 cy h0 h1 p2 p3 w0 w1 w2 h1 f0) sz) s.heap (wk_306333e60 cy h0 h1 p2 p3 w0 w1 w2 h1 f0) H locs ∧ lv_has ls 5 [(0, .ref h0), (1, .int p0), (2, .int p1), (3, .int v5_3_1), (4, .int v5_3_0)]) (fun (q : Int32 × Int32) => match q with | (v5_3_0, v5_3_1) => (901 - (v5_3_0).toInt).toNat) (fun q_5 ih_5 H locs ls hP => ?_) (p0, 0) ⟨hp0, ⟨by decide +kernel, by decide +kernel⟩, (vls_0 (by omega) (by decide)), (by omega), h, (lv_sub hl_2 [2, 3, 4, 1, 0] rfl)⟩
  obtain ⟨v5_3_0, v5_3_1⟩ := q_5
  obtain ⟨hv5_3_0, hv5_3_1, x4_0, x5_1, h, hl⟩ := hP
  refine lv_iload hx hb dX8_valueOf_5 (lv_at hl 4 rfl) ?_
  refine lv_iload_n hx hb dX8_valueOf_7 rfl (lv_at hl 2 rfl) ?_
  refine lv_icmp_ge (tgt := 33) hx hb dX8_valueOf_8 (by decide) (fun c_6 => ?_) (fun c_6 => ?_)
  · replace c_6 := i_le (x := p1) (y := v5_3_0) rfl rfl c_6
    refine lv_iload_n hx hb dX8_valueOf_33 rfl (lv_at hl 3 rfl) ?_
    exact q_iret X hr hlk hK h rfl (fun _ => 0, fun _ _ => 0, fun _ _ => 0) ⟨hv5_3_1, (show VLE f0 (p0 : Int32).toInt (p1 : Int32).toInt (v5_3_1 : Int32).toInt from vle_of x4_0 (by omega) (by omega) (by omega) hpre2 (by omega) rfl), trivial⟩ [0, 1] rfl rfl dX8_valueOf_34 (Nat.le_of_ble_eq_true rfl) (Nat.le_of_ble_eq_true rfl)
  · replace c_6 := i_nle (x := p1) (y := v5_3_0) rfl rfl c_6
    have vb_7 := vls_b x4_0 (by omega) hpre2 (by omega)
    refine lv_bipush (v := 10) hx hb dX8_valueOf_11 (by decide) ?_
    refine lv_iload_n hx hb dX8_valueOf_13 rfl (lv_at hl 3 rfl) ?_
    refine lv_imul hx hb dX8_valueOf_14 ?_
    obtain ⟨z_8, ez_8, hz_8⟩ := e_mul (x := 10) (y := v5_3_1) (show (10 : Int32).toInt = 10 by decide) rfl (by omega) (by omega)
    refine q_c z_8 ez_8 ?_
    clear ez_8
    refine lv_aload_n hx hb dX8_valueOf_15 rfl (lv_at hl 0 rfl) ?_
    refine q_get X hK h 0 rfl rfl wf_8 0 (by decide) rfl wm_1_43 dX8_valueOf_16 ?_
    refine lv_iload hx hb dX8_valueOf_19 (lv_at hl 4 rfl) ?_
    refine q_bald X hK h 1 rfl (i_in rfl (by omega) (by omega)) dX8_valueOf_21 ?_
    obtain ⟨z_9, ez_9, hz_9⟩ := e_any (f0 v5_3_0.toNatClampNeg)
    refine q_c z_9 ez_9 ?_
    have zb_10 := spn_at hpre2 ez_9 (by omega) (by omega) (by omega)
    refine lv_iadd hx hb dX8_valueOf_22 ?_
    obtain ⟨z_11, ez_11, hz_11⟩ := e_add (x := z_8) (y := z_9) rfl rfl (by omega) (by omega)
    refine q_c z_11 ez_11 ?_
    clear ez_11
    refine lv_bipush (v := 48) hx hb dX8_valueOf_23 (by decide) ?_
    refine lv_isub hx hb dX8_valueOf_25 ?_
    obtain ⟨z_12, ez_12, hz_12⟩ := e_sub (x := z_11) (y := 48) rfl (show (48 : Int32).toInt = 48 by decide) (by omega) (by omega)
    refine q_c z_12 ez_12 ?_
    clear ez_12
    refine lv_istore_n (lv' := [(3, .int z_12), (0, .ref h0), (1, .int p0), (2, .int p1), (4, .int v5_3_0)]) hx hb dX8_valueOf_26 rfl hl (by decide) rfl (fun ls_13 hl_13 => ?_)
    clear hl
    obtain ⟨z_14, ez_14, hz_14⟩ := e_add (x := v5_3_0) (y := Int32.ofInt 1) rfl (b := 1) (by decide) (by omega) (by omega)
    refine lv_iinc (v := z_14) (lv' := [(4, .int z_14), (3, .int z_12), (0, .ref h0), (1, .int p0), (2, .int p1)]) hx hb dX8_valueOf_27 hl_13 (k := 4) rfl ez_14 (by decide) rfl (fun ls_14 hl_14 => ?_)
    clear hl_13
    refine lv_goto (tgt := 5) hx hb dX8_valueOf_30 (by decide) ?_
    exact ih_5 (z_14, z_12) (by show (901 - (z_14).toInt).toNat < (901 - (v5_3_0).toInt).toNat; omega) _ _ _ ⟨⟨by omega, by omega⟩, ⟨by omega, by omega⟩, (vls_s x4_0 (by omega) (by omega) ez_9 (by omega) (by omega)), (by omega), h, (lv_sub hl_14 [2, 3, 4, 1, 0] rfl)⟩
set_option maxHeartbeats 4000000 in
set_option maxRecDepth 100000 in
theorem gX8_kindOf_927c785 (l : Launch) (D : va_G) (cy : Nat → ClassId) (h0 : Nat) (h1 : Nat) (p0 : Int32) (p1 : Int32) (p2 : Int32) (p3 : Int32) (w0 : Value) (w1 : Value) (w2 : Value) (f0 : Nat → Int32) (hp0 : 0 ≤ (p0).toInt ∧ (p0).toInt ≤ 900) (hp1 : 0 ≤ (p1).toInt ∧ (p1).toInt ≤ 900) (hp2 : 0 ≤ (p2).toInt ∧ (p2).toInt ≤ 900) (hp3 : 0 ≤ (p3).toInt ∧ (p3).toInt ≤ 901) (rf0 : TB f0) (hpre0 : (p0 : Int32).toInt ≤ (p1 : Int32).toInt) (hpre1 : (p1 : Int32).toInt ≤ (p2 : Int32).toInt) (sz : Nat) : MI l yX8_kindOf cX8_kindOf 4 .int { frames := 6, cells := 0, slots := 0, locals := 134 } [.ref h0, .int p0, .int p1] D cy (wk_306333e60 cy h0 h1 p2 p3 w0 w1 w2 h1 f0) sz (fun r u => (0 ≤ r.toInt ∧ r.toInt ≤ 65535) ∧ ((r : Int32).toInt = 26 ∨ (p0 : Int32).toInt < (p2 : Int32).toInt) ∧ (KIE f0 (p2 : Int32).toInt (p0 : Int32).toInt (p1 : Int32).toInt (r : Int32).toInt) ∧ True) (fun u => (wk_306333e60 cy h0 h1 p2 p3 w0 w1 w2 h1 f0)) 0 0 := by
  refine q_ent (own := RX8) (by decide) rfl (Nat.le_of_ble_eq_true rfl) (fun p e s m below meth c ls X hr hlk hnm hK hT h hA hl => ?_)
  obtain ⟨hx, hb, hml, hown, ht⟩ := id X
  replace hl : lv_has ls 4 [(0, .ref h0), (1, .int p0), (2, .int p1)] := hl
  refine lv_iload_n hx hb dX8_kindOf_0 rfl (lv_at hl 1 rfl) ?_
  refine lv_aload_n hx hb dX8_kindOf_1 rfl (lv_at hl 0 rfl) ?_
  refine q_get X hK h 0 rfl rfl wf_8 1 (by decide) rfl wm_1_44 dX8_kindOf_2 ?_
  refine lv_icmp_lt (tgt := 11) hx hb dX8_kindOf_5 (by decide) (fun c_1 => ?_) (fun c_1 => ?_)
  · replace c_1 := i_lt (x := p0) (y := p2) rfl rfl c_1
    refine lv_aload_n hx hb dX8_kindOf_11 rfl (lv_at hl 0 rfl) ?_
    refine lv_iload_n hx hb dX8_kindOf_12 rfl (lv_at hl 1 rfl) ?_
    refine q_callVi (rest := []) (wr := []) X hK hT hA h (fun sz => gX8_isLetter_8387341 l D cy h0 h1 p0 p2 p3 w0 w1 w2 f0 hp0 hp2 hp3 rf0 sz) wm_2_177 wm_2_180 wm_1_3 hd_X8_isLetter wm_2_179 wp_1_2 (ci := 8) (q0 := 0) rfl rfl ⟨Nat.le_of_ble_eq_true rfl, Nat.le_of_ble_eq_true rfl⟩ hl.1 rfl (Nat.le_of_ble_eq_true rfl) dX8_kindOf_13 ⟨Nat.le_of_ble_eq_true rfl, Nat.le_of_ble_eq_true rfl⟩ [0, 1] [] rfl rfl (by decide) rfl rfl (fun r_2 u_2 H locs w_2 h_2 => ?_)
    clear h
    obtain ⟨wr_2, y2_0, _⟩ := w_2
    replace h_2 : qW D _ _ (wk_306333e60 cy h0 h1 p2 p3 w0 w1 w2 h1 f0) _ _ := h_2
    refine lv_if_eq (tgt := 26) hx hb dX8_kindOf_16 (by decide) (fun c_3 => ?_) (fun c_3 => ?_)
    · replace c_3 := i_eq (x := r_2) (y := 0) rfl (show (0 : Int32).toInt = 0 by decide) c_3
      refine lv_aload_n hx hb dX8_kindOf_26 rfl (lv_at hl 0 rfl) ?_
      refine lv_iload_n hx hb dX8_kindOf_27 rfl (lv_at hl 1 rfl) ?_
      refine q_callVi (rest := []) (wr := []) X hK hT hA h_2 (fun sz => gX8_isDigit_3cb7ca3 l D cy h0 h1 p0 p2 p3 w0 w1 w2 f0 hp0 hp2 hp3 rf0 sz) wm_2_181 wm_2_184 wm_1_3 hd_X8_isDigit wm_2_183 wp_1_3 (ci := 8) (q0 := 0) rfl rfl ⟨Nat.le_of_ble_eq_true rfl, Nat.le_of_ble_eq_true rfl⟩ hl.1 rfl (Nat.le_of_ble_eq_true rfl) dX8_kindOf_28 ⟨Nat.le_of_ble_eq_true rfl, Nat.le_of_ble_eq_true rfl⟩ [0, 1] [] rfl rfl (by decide) rfl rfl (fun r_4 u_4 H locs w_4 h_4 => ?_)
      clear h_2
      obtain ⟨wr_4, y4_0, _⟩ := w_4
      replace h_4 : qW D _ _ (wk_306333e60 cy h0 h1 p2 p3 w0 w1 w2 h1 f0) _ _ := h_4
      refine lv_if_eq (tgt := 49) hx hb dX8_kindOf_31 (by decide) (fun c_5 => ?_) (fun c_5 => ?_)
      · replace c_5 := i_eq (x := r_4) (y := 0) rfl (show (0 : Int32).toInt = 0 by decide) c_5
        refine lv_aload_n hx hb dX8_kindOf_49 rfl (lv_at hl 0 rfl) ?_
        refine q_get X hK h_4 0 rfl rfl wf_8 0 (by decide) rfl wm_1_43 dX8_kindOf_50 ?_
        refine lv_iload_n hx hb dX8_kindOf_53 rfl (lv_at hl 1 rfl) ?_
        refine q_bald X hK h_4 1 rfl (i_in rfl (by omega) (by omega)) dX8_kindOf_54 ?_
        obtain ⟨z_6, ez_6, hz_6⟩ := e_any (f0 p0.toNatClampNeg)
        refine q_c z_6 ez_6 ?_
        refine lv_sipush (v := 255) hx hb dX8_kindOf_55 (by decide) ?_
        refine lv_iand hx hb dX8_kindOf_58 ?_
        obtain ⟨z_7, ez_7, hz_7⟩ := e_and2 (x := z_6) (y := 255) (show (255 : Int32).toInt = 255 by decide) (by omega)
        refine q_c z_7 ez_7 ?_
        refine lv_i2c hx hb dX8_kindOf_59 rfl ?_
        obtain ⟨z_8, ez_8, hz_8⟩ := e_i2c z_7
        refine q_c z_8 ez_8 ?_
        refine lv_istore_n (lv' := [(3, .int z_8), (0, .ref h0), (1, .int p0), (2, .int p1)]) hx hb dX8_kindOf_60 rfl hl (by decide) rfl (fun ls_9 hl_9 => ?_)
        clear hl
        refine q_ldc1 X hT dX8_kindOf_61 ?_
        refine lv_iload_n hx hb dX8_kindOf_63 rfl (lv_at hl_9 0 rfl) ?_
        refine q_callGi (rest := []) (wr := (wk_306333e60 cy h0 h1 p2 p3 w0 w1 w2 h1 f0)) X hK hT hA h_4 (fun sz => gJ0_indexOf_0f7a4_25691a2 l D cy z_8 (i_rng _) sz) wm_3_7 wm_3_10 wm_1_14 hd_J0_indexOf_0f7a4 rfl wm_3_8 wm_3_9 1 (by decide) rfl ⟨Nat.le_of_ble_eq_true rfl, Nat.le_of_ble_eq_true rfl⟩ hl_9.1 rfl (Nat.le_of_ble_eq_true rfl) dX8_kindOf_64 ⟨Nat.le_of_ble_eq_true rfl, Nat.le_of_ble_eq_true rfl⟩ [] [0, 1] rfl rfl (by decide) rfl rfl (fun r_10 u_10 H locs w_10 h_10 => ?_)
        clear h_4
        obtain ⟨wr_10, y10_0, _⟩ := w_10
        replace h_10 : qW D _ _ (wk_306333e60 cy h0 h1 p2 p3 w0 w1 w2 h1 f0) _ _ := h_10
        refine lv_if_lt (tgt := 74) hx hb dX8_kindOf_67 (by decide) (fun c_11 => ?_) (fun c_11 => ?_)
        · replace c_11 := i_lt (x := r_10) (y := 0) rfl (show (0 : Int32).toInt = 0 by decide) c_11
          refine lv_bipush (v := 27) hx hb dX8_kindOf_74 (by decide) ?_
          exact q_iret X hr hlk hK h_10 rfl (fun _ => 0, fun _ _ => 0, fun _ _ => 0) ⟨⟨by decide +kernel, by decide +kernel⟩, (show (27 : Int32).toInt = 26 ∨ (p0 : Int32).toInt < (p2 : Int32).toInt from by have q0 : (27 : Int32).toInt = 27 := (by decide); omega), (show KIE f0 (p2 : Int32).toInt (p0 : Int32).toInt (p1 : Int32).toInt (27 : Int32).toInt from ki_s rf0 (by omega) (by omega) y2_0 (by omega) y4_0 (by omega) (ch_mod ez_6 ez_7 ez_8) y10_0 (by have q0 : (27 : Int32).toInt = 27 := (by decide); omega)), trivial⟩ [0, 1] rfl rfl dX8_kindOf_76 (Nat.le_of_ble_eq_true rfl) (Nat.le_of_ble_eq_true rfl)
        · replace c_11 := i_nlt (x := r_10) (y := 0) rfl (show (0 : Int32).toInt = 0 by decide) c_11
          refine lv_iload_n hx hb dX8_kindOf_70 rfl (lv_at hl_9 0 rfl) ?_
          refine lv_goto (tgt := 76) hx hb dX8_kindOf_71 (by decide) ?_
          exact q_iret X hr hlk hK h_10 rfl (fun _ => 0, fun _ _ => 0, fun _ _ => 0) ⟨⟨by omega, by omega⟩, (show (z_8 : Int32).toInt = 26 ∨ (p0 : Int32).toInt < (p2 : Int32).toInt from by omega), (show KIE f0 (p2 : Int32).toInt (p0 : Int32).toInt (p1 : Int32).toInt (z_8 : Int32).toInt from ki_s rf0 (by omega) (by omega) y2_0 (by omega) y4_0 (by omega) (ch_mod ez_6 ez_7 ez_8) y10_0 (by omega)), trivial⟩ [0, 1] rfl rfl dX8_kindOf_76 (Nat.le_of_ble_eq_true rfl) (Nat.le_of_ble_eq_true rfl)
      · replace c_5 := i_ne (x := r_4) (y := 0) rfl (show (0 : Int32).toInt = 0 by decide) c_5
        refine lv_iload_n hx hb dX8_kindOf_34 rfl (lv_at hl 2 rfl) ?_
        refine lv_iload_n hx hb dX8_kindOf_35 rfl (lv_at hl 1 rfl) ?_
        refine lv_isub hx hb dX8_kindOf_36 ?_
        obtain ⟨z_12, ez_12, hz_12⟩ := e_sub (x := p1) (y := p0) rfl rfl (by omega) (by omega)
        refine q_c z_12 ez_12 ?_
        clear ez_12
        refine lv_iconst (v := 3) hx hb dX8_kindOf_37 (by decide) ?_
        refine lv_icmp_le (tgt := 46) hx hb dX8_kindOf_38 (by decide) (fun c_13 => ?_) (fun c_13 => ?_)
        · replace c_13 := i_le (x := z_12) (y := 3) rfl (show (3 : Int32).toInt = 3 by decide) c_13
          refine lv_bipush (v := 25) hx hb dX8_kindOf_46 (by decide) ?_
          exact q_iret X hr hlk hK h_4 rfl (fun _ => 0, fun _ _ => 0, fun _ _ => 0) ⟨⟨by decide +kernel, by decide +kernel⟩, (show (25 : Int32).toInt = 26 ∨ (p0 : Int32).toInt < (p2 : Int32).toInt from by have q0 : (25 : Int32).toInt = 25 := (by decide); omega), (show KIE f0 (p2 : Int32).toInt (p0 : Int32).toInt (p1 : Int32).toInt (25 : Int32).toInt from ki_d rf0 (by omega) y2_0 (by omega) y4_0 (by omega) (by omega) (by have q0 : (25 : Int32).toInt = 25 := (by decide); omega)), trivial⟩ [0, 1] rfl rfl dX8_kindOf_48 (Nat.le_of_ble_eq_true rfl) (Nat.le_of_ble_eq_true rfl)
        · replace c_13 := i_nle (x := z_12) (y := 3) rfl (show (3 : Int32).toInt = 3 by decide) c_13
          refine lv_bipush (v := 27) hx hb dX8_kindOf_41 (by decide) ?_
          refine lv_goto (tgt := 48) hx hb dX8_kindOf_43 (by decide) ?_
          exact q_iret X hr hlk hK h_4 rfl (fun _ => 0, fun _ _ => 0, fun _ _ => 0) ⟨⟨by decide +kernel, by decide +kernel⟩, (show (27 : Int32).toInt = 26 ∨ (p0 : Int32).toInt < (p2 : Int32).toInt from by have q0 : (27 : Int32).toInt = 27 := (by decide); omega), (show KIE f0 (p2 : Int32).toInt (p0 : Int32).toInt (p1 : Int32).toInt (27 : Int32).toInt from ki_d rf0 (by omega) y2_0 (by omega) y4_0 (by omega) (by omega) (by have q0 : (27 : Int32).toInt = 27 := (by decide); omega)), trivial⟩ [0, 1] rfl rfl dX8_kindOf_48 (Nat.le_of_ble_eq_true rfl) (Nat.le_of_ble_eq_true rfl)
    · replace c_3 := i_ne (x := r_2) (y := 0) rfl (show (0 : Int32).toInt = 0 by decide) c_3
      refine lv_aload_n hx hb dX8_kindOf_19 rfl (lv_at hl 0 rfl) ?_
      refine lv_iload_n hx hb dX8_kindOf_20 rfl (lv_at hl 1 rfl) ?_
      refine lv_iload_n hx hb dX8_kindOf_21 rfl (lv_at hl 2 rfl) ?_
      refine q_callVi (rest := []) (wr := []) X hK hT hA h_2 (fun sz => gX8_wordOf_d24cd9f l D cy h0 h1 p0 p1 p2 p3 w0 w1 w2 f0 hp0 hp1 hp2 hp3 rf0 (hpre0) (hpre1) sz) wm_2_189 wm_2_192 wm_1_3 hd_X8_wordOf wm_2_191 wp_1_5 (ci := 8) (q0 := 0) rfl rfl ⟨Nat.le_of_ble_eq_true rfl, Nat.le_of_ble_eq_true rfl⟩ hl.1 rfl (Nat.le_of_ble_eq_true rfl) dX8_kindOf_22 ⟨Nat.le_of_ble_eq_true rfl, Nat.le_of_ble_eq_true rfl⟩ [0, 1] [] rfl rfl (by decide) rfl rfl (fun r_14 u_14 H locs w_14 h_14 => ?_)
      clear h_2
      obtain ⟨wr_14, y14_0, _⟩ := w_14
      replace h_14 : qW D _ _ (wk_306333e60 cy h0 h1 p2 p3 w0 w1 w2 h1 f0) _ _ := h_14
      exact q_iret X hr hlk hK h_14 rfl (fun _ => 0, fun _ _ => 0, fun _ _ => 0) ⟨(bw wr_14 (by decide) (by decide)), (show (r_14 : Int32).toInt = 26 ∨ (p0 : Int32).toInt < (p2 : Int32).toInt from by omega), (show KIE f0 (p2 : Int32).toInt (p0 : Int32).toInt (p1 : Int32).toInt (r_14 : Int32).toInt from ki_w rf0 (by omega) y2_0 (by omega) y14_0), trivial⟩ [0, 1] rfl rfl dX8_kindOf_25 (Nat.le_of_ble_eq_true rfl) (Nat.le_of_ble_eq_true rfl)
  · replace c_1 := i_nlt (x := p0) (y := p2) rfl rfl c_1
    refine lv_bipush (v := 26) hx hb dX8_kindOf_8 (by decide) ?_
    exact q_iret X hr hlk hK h rfl (fun _ => 0, fun _ _ => 0, fun _ _ => 0) ⟨⟨by decide +kernel, by decide +kernel⟩, (show (26 : Int32).toInt = 26 ∨ (p0 : Int32).toInt < (p2 : Int32).toInt from by have q0 : (26 : Int32).toInt = 26 := (by decide); omega), (show KIE f0 (p2 : Int32).toInt (p0 : Int32).toInt (p1 : Int32).toInt (26 : Int32).toInt from ki_26 (by omega) (by omega) (by decide)), trivial⟩ [0, 1] rfl rfl dX8_kindOf_10 (Nat.le_of_ble_eq_true rfl) (Nat.le_of_ble_eq_true rfl)
set_option maxHeartbeats 4000000 in
set_option maxRecDepth 100000 in
theorem gX8_cut_7ab6d9e (l : Launch) (D : va_G) (cy : Nat → ClassId) (h0 : Nat) (h1 : Nat) (h2 : Nat) (h3 : Nat) (h4 : Nat) (p0 : Int32) (o0 : Option Nat) (p1 : Int32) (p2 : Int32) (f0 : Nat → Int32) (f1 : Nat → Int32) (f2 : Nat → Int32) (f3 : Nat → Int32) (hp0 : 0 ≤ (p0).toInt ∧ (p0).toInt ≤ 900) (hp1 : 0 ≤ (p1).toInt ∧ (p1).toInt ≤ 900) (hp2 : 0 ≤ (p2).toInt ∧ (p2).toInt ≤ 901) (rf3 : TB f3) (sz : Nat) : MV l yX8_cut cX8_cut 7 { frames := 7, cells := 0, slots := 0, locals := 157 } [.ref h0, .ref h4, .int p0] D cy (wk_fffe06ee4 cy h0 o0 p1 p2 h1 h2 h3 h1 f0 h2 f1 h3 f2 h4 f3) sz (fun u => (0 ≤ (u.2.1 0 0).toInt ∧ (u.2.1 0 0).toInt ≤ 900) ∧ (0 ≤ (u.2.1 1 0).toInt ∧ (u.2.1 1 0).toInt ≤ 901) ∧ (1 ≤ ((u.2.1 1 0) : Int32).toInt ∧ ((u.2.1 1 0) : Int32).toInt ≤ 901) ∧ (KZ (u.2.1 2) ((u.2.1 1 0) : Int32).toInt) ∧ (((u.2.1 1 0) : Int32).toInt ≤ (p0 : Int32).toInt + 1) ∧ (AGR (bB f3) ((p0 : Int32).toInt).toNat (u.2.1 2) (u.2.1 3) (u.2.1 4) ((u.2.1 1 0) : Int32).toInt) ∧ (((u.2.1 0 0) : Int32).toInt = (p0 : Int32).toInt) ∧ True) (fun u => (wk_9a29d5dcb cy h0 h4 (u.2.1 0 0) (u.2.1 1 0) h1 h2 h3 h1 (u.2.1 2) h2 (u.2.1 3) h3 (u.2.1 4) h4 f3)) 0 0 := by
  refine q_ent (own := RX8) (by decide) rfl (Nat.le_of_ble_eq_true rfl) (fun p e s m below meth c ls X hr hlk hnm hK hT h hA hl => ?_)
  obtain ⟨hx, hb, hml, hown, ht⟩ := id X
  replace hl : lv_has ls 7 [(0, .ref h0), (1, .ref h4), (2, .int p0)] := hl
  refine lv_aload_n hx hb dX8_cut_0 rfl (lv_at hl 0 rfl) ?_
  refine lv_aload_n hx hb dX8_cut_1 rfl (lv_at hl 1 rfl) ?_
  refine q_put (v := .ref h4) X hK h 0 rfl rfl wf_8 tyX8 tyX8_ok nmX8 0 (by decide) wm_1_43 rfl rfl rfl (Nat.le_of_ble_eq_true rfl) dX8_cut_2 (fun H locs h_1 => ?_)
  clear h
  replace h_1 : qW D _ _ (wk_9a29d5dcb cy h0 h4 p1 p2 h1 h2 h3 h1 f0 h2 f1 h3 f2 h4 f3) _ _ := h_1
  refine lv_aload_n hx hb dX8_cut_5 rfl (lv_at hl 0 rfl) ?_
  refine lv_iload_n hx hb dX8_cut_6 rfl (lv_at hl 2 rfl) ?_
  refine lv_aload_n hx hb dX8_cut_7 rfl (lv_at hl 1 rfl) ?_
  refine q_alen X hK h_1 4 0 rfl rfl 900 (show Int32.ofNat 900 = 900 by decide) dX8_cut_8 ?_
  refine va_mmin hx hb (hml.trans hl.1.symm) hown (ht _ wm_2_170) (ht _ wm_2_171) (ht _ wm_1_13) (ht _ wm_2_172) (Nat.le_of_ble_eq_true rfl) (Nat.le_of_ble_eq_true rfl) (Nat.le_of_ble_eq_true rfl) (Nat.le_of_ble_eq_true rfl) dX8_cut_9 ?_
  obtain ⟨z_2, ez_2, hz_2⟩ := e_min (x := p0) (y := 900) rfl (show (900 : Int32).toInt = 900 by decide)
  refine q_c z_2 ez_2 ?_
  clear ez_2
  refine lv_sipush (v := 900) hx hb dX8_cut_12 (by decide) ?_
  refine va_mmin hx hb (hml.trans hl.1.symm) hown (ht _ wm_2_170) (ht _ wm_2_171) (ht _ wm_1_13) (ht _ wm_2_172) (Nat.le_of_ble_eq_true rfl) (Nat.le_of_ble_eq_true rfl) (Nat.le_of_ble_eq_true rfl) (Nat.le_of_ble_eq_true rfl) dX8_cut_15 ?_
  obtain ⟨z_3, ez_3, hz_3⟩ := e_min (x := z_2) (y := 900) rfl (show (900 : Int32).toInt = 900 by decide)
  refine q_c z_3 ez_3 ?_
  clear ez_3
  refine q_put (v := .int z_3) X hK h_1 0 rfl rfl wf_8 tyX8 tyX8_ok nmX8 1 (by decide) wm_1_44 rfl rfl rfl (Nat.le_of_ble_eq_true rfl) dX8_cut_18 (fun H locs h_4 => ?_)
  clear h_1
  replace h_4 : qW D _ _ (wk_9a29d5dcb cy h0 h4 z_3 p2 h1 h2 h3 h1 f0 h2 f1 h3 f2 h4 f3) _ _ := h_4
  refine lv_aload_n hx hb dX8_cut_21 rfl (lv_at hl 0 rfl) ?_
  refine lv_iconst (v := 0) hx hb dX8_cut_22 (by decide) ?_
  refine q_put (v := .int 0) X hK h_4 0 rfl rfl wf_8 tyX8 tyX8_ok nmX8 2 (by decide) wm_1_45 rfl rfl rfl (Nat.le_of_ble_eq_true rfl) dX8_cut_23 (fun H locs h_5 => ?_)
  clear h_4
  replace h_5 : qW D _ _ (wk_9a29d5dcb cy h0 h4 z_3 0 h1 h2 h3 h1 f0 h2 f1 h3 f2 h4 f3) _ _ := h_5
  refine lv_iconst (v := 0) hx hb dX8_cut_26 (by decide) ?_
  refine lv_istore_n (lv' := [(3, .int 0), (0, .ref h0), (1, .ref h4), (2, .int p0)]) hx hb dX8_cut_27 rfl hl (by decide) rfl (fun ls_6 hl_6 => ?_)
  clear hl
  refine lv_iconst (v := 1) hx hb dX8_cut_28 (by decide) ?_
  refine lv_istore (lv' := [(4, .int 1), (3, .int 0), (0, .ref h0), (1, .ref h4), (2, .int p0)]) hx hb dX8_cut_29 hl_6 (by decide) rfl (fun ls_7 hl_7 => ?_)
  clear hl_6
  refine lv_iconst (v := 0) hx hb dX8_cut_31 (by decide) ?_
  refine lv_istore (lv' := [(5, .int 0), (4, .int 1), (3, .int 0), (0, .ref h0), (1, .ref h4), (2, .int p0)]) hx hb dX8_cut_32 hl_7 (by decide) rfl (fun ls_8 hl_8 => ?_)
  clear hl_7
  refine q_wl (fun (q : Int32 × Int32 × Int32 × Int32) H locs ls => match q with | (v34_9_0, v34_9_1, v34_9_2, v34_9_6) => ∃ v34_9_3 : Nat → Int32, ∃ v34_9_4 : Nat → Int32, ∃ v34_9_5 : Nat → Int32, (0 ≤ (v34_9_0).toInt ∧ (v34_9_0).toInt ≤ 901) ∧ (0 ≤ (v34_9_1).toInt ∧ (v34_9_1).toInt ≤ 1) ∧ (0 ≤ (v34_9_2).toInt ∧ (v34_9_2).toInt ≤ 900) ∧ (0 ≤ (v34_9_6).toInt ∧ (v34_9_6).toInt ≤ 901) ∧ ((v34_9_6 : Int32).toInt = (v34_9_0 : Int32).toInt) ∧ (((v34_9_1 : Int32).toInt = 1 ∧ (v34_9_0 : Int32).toInt ≤ (v34_9_2 : Int32).toInt ∧ (v34_9_2 : Int32).toInt ≤ (z_3 : Int32).toInt) ∨ ((v34_9_1 : Int32).toInt = 0 ∧ 1 ≤ (v34_9_0 : Int32).toInt ∧ KZ v34_9_3 (v34_9_0 : Int32).toInt)) ∧ ((v34_9_0 : Int32).toInt ≤ (z_3 : Int32).toInt + 1) ∧ (CUI f3 (z_3 : Int32).toInt v34_9_3 v34_9_4 v34_9_5 (v34_9_0 : Int32).toInt (v34_9_2 : Int32).toInt) ∧ ((z_3 : Int32).toInt = (p0 : Int32).toInt) ∧ qW D (va_A (wk_fffe06ee4 cy h0 o0 p1 p2 h1 h2 h3 h1 f0 h2 f1 h3 f2 h4 f3) sz) s.heap (wk_9a29d5dcb cy h0 h4 z_3 v34_9_6 h1 h2 h3 h1 v34_9_3 h2 v34_9_4 h3 v34_9_5 h4 f3) H locs ∧ lv_has ls 7 [(0, .ref h0), (1, .ref h4), (2, .int p0), (3, .int v34_9_2), (4, .int v34_9_1), (5, .int v34_9_0)]) (fun (q : Int32 × Int32 × Int32 × Int32) => match q with | (v34_9_0, v34_9_1, v34_9_2, v34_9_6) => (902 - (v34_9_0).toInt).toNat) (fun q_34 ih_34 H locs ls hP => ?_) (0, 1, 0, 0) ⟨f0, f1, f2, ⟨by decide +kernel, by decide +kernel⟩, ⟨by decide +kernel, by decide +kernel⟩, ⟨by decide +kernel, by decide +kernel⟩, ⟨by decide +kernel, by decide +kernel⟩, (by have q0 : (0 : Int32).toInt = 0 := (by decide); omega), (Or.inl ⟨by have q0 : (1 : Int32).toInt = 1 := (by decide); have q1 : (0 : Int32).toInt = 0 := (by decide); omega, by have q0 : (1 : Int32).toInt = 1 := (by decide); have q1 : (0 : Int32).toInt = 0 := (by decide); omega, by have q0 : (1 : Int32).toInt = 1 := (by decide); have q1 : (0 : Int32).toInt = 0 := (by decide); omega⟩), (by have q0 : (0 : Int32).toInt = 0 := (by decide); omega), (cui_0 (by decide) (by decide)), (by omega), h_5, (lv_sub hl_8 [3, 4, 5, 2, 1, 0] rfl)⟩
  obtain ⟨v34_9_0, v34_9_1, v34_9_2, v34_9_6⟩ := q_34
  obtain ⟨v34_9_3, v34_9_4, v34_9_5, hv34_9_0, hv34_9_1, hv34_9_2, hv34_9_6, x10_0, x11_1, x12_2, x13_3, x14_4, h, hl⟩ := hP
  refine lv_iload hx hb dX8_cut_34 (lv_at hl 5 rfl) ?_
  refine lv_aload_n hx hb dX8_cut_36 rfl (lv_at hl 0 rfl) ?_
  refine q_get X hK h 0 rfl rfl wf_8 1 (by decide) rfl wm_1_44 dX8_cut_37 ?_
  refine lv_icmp_gt (tgt := 191) hx hb dX8_cut_40 (by decide) (fun c_15 => ?_) (fun c_15 => ?_)
  · replace c_15 := i_lt (x := z_3) (y := v34_9_0) rfl rfl c_15
    exact q_vret X hr hlk hK h (fun _ => 0, (vcons (fun _ => z_3) (vcons (fun _ => v34_9_6) (vcons v34_9_3 (vcons v34_9_4 (vcons v34_9_5 (fun _ => (fun _ => 0))))))), fun _ _ => 0) ⟨(⟨by omega, by omega⟩ : 0 ≤ (z_3 : Int32).toInt ∧ (z_3 : Int32).toInt ≤ 900), hv34_9_6, (show 1 ≤ (v34_9_6 : Int32).toInt ∧ (v34_9_6 : Int32).toInt ≤ 901 from by omega), (show KZ v34_9_3 (v34_9_6 : Int32).toInt from kz_n ((x11_1).resolve_left (by omega)).2.2 (by omega)), (show (v34_9_6 : Int32).toInt ≤ (p0 : Int32).toInt + 1 from by omega), (show AGR (bB f3) ((p0 : Int32).toInt).toNat v34_9_3 v34_9_4 v34_9_5 (v34_9_6 : Int32).toInt from agr_m (agr_n x13_3.2 (by omega)) (by omega)), x14_4, trivial⟩ [0, 1, 2, 3, 4] rfl rfl dX8_cut_191 (Nat.le_of_ble_eq_true rfl) (Nat.le_of_ble_eq_true rfl)
  · replace c_15 := i_nlt (x := z_3) (y := v34_9_0) rfl rfl c_15
    refine lv_iload hx hb dX8_cut_43 (lv_at hl 4 rfl) ?_
    refine lv_if_eq (tgt := 191) hx hb dX8_cut_45 (by decide) (fun c_16 => ?_) (fun c_16 => ?_)
    · replace c_16 := i_eq (x := v34_9_1) (y := 0) rfl (show (0 : Int32).toInt = 0 by decide) c_16
      exact q_vret X hr hlk hK h (fun _ => 0, (vcons (fun _ => z_3) (vcons (fun _ => v34_9_6) (vcons v34_9_3 (vcons v34_9_4 (vcons v34_9_5 (fun _ => (fun _ => 0))))))), fun _ _ => 0) ⟨(⟨by omega, by omega⟩ : 0 ≤ (z_3 : Int32).toInt ∧ (z_3 : Int32).toInt ≤ 900), hv34_9_6, (show 1 ≤ (v34_9_6 : Int32).toInt ∧ (v34_9_6 : Int32).toInt ≤ 901 from by omega), (show KZ v34_9_3 (v34_9_6 : Int32).toInt from kz_n ((x11_1).resolve_left (by omega)).2.2 (by omega)), (show (v34_9_6 : Int32).toInt ≤ (p0 : Int32).toInt + 1 from by omega), (show AGR (bB f3) ((p0 : Int32).toInt).toNat v34_9_3 v34_9_4 v34_9_5 (v34_9_6 : Int32).toInt from agr_m (agr_n x13_3.2 (by omega)) (by omega)), x14_4, trivial⟩ [0, 1, 2, 3, 4] rfl rfl dX8_cut_191 (Nat.le_of_ble_eq_true rfl) (Nat.le_of_ble_eq_true rfl)
    · replace c_16 := i_ne (x := v34_9_1) (y := 0) rfl (show (0 : Int32).toInt = 0 by decide) c_16
      refine q_wl (fun (v48_17_0 : Int32) H locs ls => (0 ≤ (v48_17_0).toInt ∧ (v48_17_0).toInt ≤ 900) ∧ ((v34_9_0 : Int32).toInt ≤ (v48_17_0 : Int32).toInt ∧ (v48_17_0 : Int32).toInt ≤ (z_3 : Int32).toInt) ∧ (BLS f3 (z_3 : Int32).toInt (v34_9_0 : Int32).toInt (v48_17_0 : Int32).toInt) ∧ ((z_3 : Int32).toInt = (p0 : Int32).toInt) ∧ qW D (va_A (wk_fffe06ee4 cy h0 o0 p1 p2 h1 h2 h3 h1 f0 h2 f1 h3 f2 h4 f3) sz) s.heap (wk_9a29d5dcb cy h0 h4 z_3 v34_9_6 h1 h2 h3 h1 v34_9_3 h2 v34_9_4 h3 v34_9_5 h4 f3) H locs ∧ lv_has ls 7 [(0, .ref h0), (1, .ref h4), (2, .int p0), (3, .int v48_17_0), (4, .int v34_9_1), (5, .int v34_9_0)]) (fun (v48_17_0 : Int32) => (901 - (v48_17_0).toInt).toNat) (fun q_48 ih_48 H locs ls hP => ?_) v34_9_2 ⟨hv34_9_2, (by omega), (bls_0 x13_3), (x14_4), h, (lv_sub hl [0, 1, 2, 3, 4, 5] rfl)⟩
      obtain ⟨v48_17_0, rfl⟩ : ∃ z, z = q_48 := ⟨_, rfl⟩
      obtain ⟨hv48_17_0, x18_0, x19_1, x20_2, h, hl⟩ := hP
      refine lv_iload_n hx hb dX8_cut_48 rfl (lv_at hl 3 rfl) ?_
      refine lv_aload_n hx hb dX8_cut_49 rfl (lv_at hl 0 rfl) ?_
      refine q_get X hK h 0 rfl rfl wf_8 1 (by decide) rfl wm_1_44 dX8_cut_50 ?_
      refine q_jn (pc2 := 84) (fun H locs ls st => (TPE f3 (z_3 : Int32).toInt (v34_9_0 : Int32).toInt (v48_17_0 : Int32).toInt) ∧ st = [] ∧ qW D (va_A (wk_fffe06ee4 cy h0 o0 p1 p2 h1 h2 h3 h1 f0 h2 f1 h3 f2 h4 f3) sz) s.heap (wk_9a29d5dcb cy h0 h4 z_3 v34_9_6 h1 h2 h3 h1 v34_9_3 h2 v34_9_4 h3 v34_9_5 h4 f3) H locs ∧ lv_has ls 7 [(0, .ref h0), (1, .ref h4), (2, .int p0), (3, .int v48_17_0), (4, .int v34_9_1), (5, .int v34_9_0)]) (fun H locs ls st hP => ?_) (fun J_84 => ?_)
      · obtain ⟨x22_0, rfl, h, hl⟩ := hP
        refine lv_aload_n hx hb dX8_cut_84 rfl (lv_at hl 0 rfl) ?_
        refine lv_iload_n hx hb dX8_cut_85 rfl (lv_at hl 3 rfl) ?_
        refine q_callVi (rest := []) (wr := (wk_d91cb5b2f cy h1 v34_9_3 h2 v34_9_4 h3 v34_9_5)) X hK hT hA h (fun sz => gX8_endOf_4da79e2 l D cy h0 h4 v48_17_0 z_3 v34_9_6 (.ref h1) (.ref h2) (.ref h3) f3 hv48_17_0 ⟨by omega, by omega⟩ hv34_9_6 rf3 (by omega) sz) wm_2_173 wm_2_176 wm_1_3 hd_X8_endOf wm_2_175 wp_1_1 (ci := 8) (q0 := 0) rfl rfl ⟨Nat.le_of_ble_eq_true rfl, Nat.le_of_ble_eq_true rfl⟩ hl.1 rfl (Nat.le_of_ble_eq_true rfl) dX8_cut_86 ⟨Nat.le_of_ble_eq_true rfl, Nat.le_of_ble_eq_true rfl⟩ [0, 4] [1, 2, 3] rfl rfl (by decide) rfl rfl (fun r_23 u_23 H locs w_23 h_23 => ?_)
        clear h
        obtain ⟨wr_23, y23_0, y23_1, _⟩ := w_23
        replace h_23 : qW D _ _ (wk_6156c93d0 cy h1 v34_9_3 h2 v34_9_4 h3 v34_9_5 h0 h4 z_3 v34_9_6 h1 h2 h3 h4 f3) _ _ := h_23
        refine lv_istore (lv' := [(6, .int r_23), (0, .ref h0), (1, .ref h4), (2, .int p0), (3, .int v48_17_0), (4, .int v34_9_1), (5, .int v34_9_0)]) hx hb dX8_cut_89 hl (by decide) rfl (fun ls_24 hl_24 => ?_)
        clear hl
        refine lv_aload_n hx hb dX8_cut_91 rfl (lv_at hl_24 1 rfl) ?_
        refine q_get X hK h_23 3 rfl rfl wf_8 3 (by decide) rfl wm_1_47 dX8_cut_92 ?_
        refine lv_iload hx hb dX8_cut_95 (lv_at hl_24 6 rfl) ?_
        refine lv_aload_n hx hb dX8_cut_97 rfl (lv_at hl_24 1 rfl) ?_
        refine lv_iload_n hx hb dX8_cut_98 rfl (lv_at hl_24 4 rfl) ?_
        refine lv_iload hx hb dX8_cut_99 (lv_at hl_24 0 rfl) ?_
        refine q_callVi (rest := [.int v34_9_0, .ref h1]) (wr := (wk_d91cb5b2f cy h1 v34_9_3 h2 v34_9_4 h3 v34_9_5)) X hK hT hA h_23 (fun sz => gX8_kindOf_927c785 l D cy h0 h4 v48_17_0 r_23 z_3 v34_9_6 (.ref h1) (.ref h2) (.ref h3) f3 hv48_17_0 wr_23 ⟨by omega, by omega⟩ hv34_9_6 rf3 (by omega) (by omega) sz) wm_2_185 wm_2_188 wm_1_3 hd_X8_kindOf wm_2_187 wp_1_4 (ci := 8) (q0 := 0) rfl rfl ⟨Nat.le_of_ble_eq_true rfl, Nat.le_of_ble_eq_true rfl⟩ hl_24.1 rfl (Nat.le_of_ble_eq_true rfl) dX8_cut_101 ⟨Nat.le_of_ble_eq_true rfl, Nat.le_of_ble_eq_true rfl⟩ [3, 4] [0, 1, 2] rfl rfl (by decide) rfl rfl (fun r_25 u_25 H locs w_25 h_25 => ?_)
        clear h_23
        obtain ⟨wr_25, y25_0, y25_1, _⟩ := w_25
        replace h_25 : qW D _ _ (wk_6156c93d0 cy h1 v34_9_3 h2 v34_9_4 h3 v34_9_5 h0 h4 z_3 v34_9_6 h1 h2 h3 h4 f3) _ _ := h_25
        refine q_iast X hK h_25 0 rfl (i_in rfl (by omega) (by omega)) dX8_cut_104 (fun H locs h_27 => ?_)
        clear h_25
        replace h_27 : qW D _ _ (wk_6156c93d0 cy h1 (upd v34_9_3 (Int32.toNatClampNeg v34_9_0) r_25) h2 v34_9_4 h3 v34_9_5 h0 h4 z_3 v34_9_6 h1 h2 h3 h4 f3) _ _ := h_27
        obtain ⟨F_26, eF_26⟩ : ∃ z, (upd v34_9_3 (Int32.toNatClampNeg v34_9_0) r_25) = z := ⟨_, rfl⟩
        rw [eF_26] at h_27
        refine lv_aload_n hx hb dX8_cut_105 rfl (lv_at hl_24 1 rfl) ?_
        refine q_get X hK h_27 3 rfl rfl wf_8 4 (by decide) rfl wm_1_49 dX8_cut_106 ?_
        refine lv_iload hx hb dX8_cut_109 (lv_at hl_24 6 rfl) ?_
        refine lv_iload_n hx hb dX8_cut_111 rfl (lv_at hl_24 4 rfl) ?_
        refine q_iast X hK h_27 1 rfl (i_in rfl (by omega) (by omega)) dX8_cut_112 (fun H locs h_29 => ?_)
        clear h_27
        replace h_29 : qW D _ _ (wk_6156c93d0 cy h1 F_26 h2 (upd v34_9_4 (Int32.toNatClampNeg v34_9_0) v48_17_0) h3 v34_9_5 h0 h4 z_3 v34_9_6 h1 h2 h3 h4 f3) _ _ := h_29
        obtain ⟨F_28, eF_28⟩ : ∃ z, (upd v34_9_4 (Int32.toNatClampNeg v34_9_0) v48_17_0) = z := ⟨_, rfl⟩
        rw [eF_28] at h_29
        refine lv_aload_n hx hb dX8_cut_113 rfl (lv_at hl_24 1 rfl) ?_
        refine q_get X hK h_29 3 rfl rfl wf_8 5 (by decide) rfl wm_1_51 dX8_cut_114 ?_
        refine lv_iload hx hb dX8_cut_117 (lv_at hl_24 6 rfl) ?_
        refine lv_aload_n hx hb dX8_cut_119 rfl (lv_at hl_24 1 rfl) ?_
        refine q_get X hK h_29 3 rfl rfl wf_8 3 (by decide) rfl wm_1_47 dX8_cut_120 ?_
        refine lv_iload hx hb dX8_cut_123 (lv_at hl_24 6 rfl) ?_
        refine q_iald X hK h_29 0 rfl (i_in rfl (by omega) (by omega)) dX8_cut_125 ?_
        obtain ⟨z_30, ez_30, hz_30⟩ := e_any (F_26 v34_9_0.toNatClampNeg)
        refine q_c z_30 ez_30 ?_
        have zk_31 := ld_st eF_26 ez_30
        refine lv_bipush (v := 25) hx hb dX8_cut_126 (by decide) ?_
        refine lv_icmp_ne (tgt := 141) hx hb dX8_cut_128 (by decide) (fun c_32 => ?_) (fun c_32 => ?_)
        · replace c_32 := i_ne (x := z_30) (y := 25) rfl (show (25 : Int32).toInt = 25 by decide) c_32
          refine lv_iconst (v := 0) hx hb dX8_cut_141 (by decide) ?_
          refine q_iast X hK h_29 2 rfl (i_in rfl (by omega) (by omega)) dX8_cut_142 (fun H locs h_34 => ?_)
          clear h_29
          replace h_34 : qW D _ _ (wk_6156c93d0 cy h1 F_26 h2 F_28 h3 (upd v34_9_5 (Int32.toNatClampNeg v34_9_0) 0) h0 h4 z_3 v34_9_6 h1 h2 h3 h4 f3) _ _ := h_34
          obtain ⟨F_33, eF_33⟩ : ∃ z, (upd v34_9_5 (Int32.toNatClampNeg v34_9_0) 0) = z := ⟨_, rfl⟩
          rw [eF_33] at h_34
          refine lv_aload_n hx hb dX8_cut_143 rfl (lv_at hl_24 1 rfl) ?_
          refine lv_iload hx hb dX8_cut_144 (lv_at hl_24 6 rfl) ?_
          refine lv_iconst (v := 1) hx hb dX8_cut_146 (by decide) ?_
          refine lv_iadd hx hb dX8_cut_147 ?_
          obtain ⟨z_35, ez_35, hz_35⟩ := e_add (x := v34_9_0) (y := 1) rfl (show (1 : Int32).toInt = 1 by decide) (by omega) (by omega)
          refine q_c z_35 ez_35 ?_
          clear ez_35
          refine q_put (v := .int z_35) X hK h_34 3 rfl rfl wf_8 tyX8 tyX8_ok nmX8 2 (by decide) wm_1_45 rfl rfl rfl (Nat.le_of_ble_eq_true rfl) dX8_cut_148 (fun H locs h_36 => ?_)
          clear h_34
          replace h_36 : qW D _ _ (wk_6156c93d0 cy h1 F_26 h2 F_28 h3 F_33 h0 h4 z_3 z_35 h1 h2 h3 h4 f3) _ _ := h_36
          refine lv_iload hx hb dX8_cut_151 (lv_at hl_24 0 rfl) ?_
          refine lv_istore_n (lv' := [(3, .int r_23), (6, .int r_23), (0, .ref h0), (1, .ref h4), (2, .int p0), (4, .int v34_9_1), (5, .int v34_9_0)]) hx hb dX8_cut_153 rfl hl_24 (by decide) rfl (fun ls_37 hl_37 => ?_)
          clear hl_24
          refine lv_aload_n hx hb dX8_cut_154 rfl (lv_at hl_37 2 rfl) ?_
          refine q_get X hK h_36 3 rfl rfl wf_8 3 (by decide) rfl wm_1_47 dX8_cut_155 ?_
          refine lv_iload hx hb dX8_cut_158 (lv_at hl_37 6 rfl) ?_
          refine q_iald X hK h_36 0 rfl (i_in rfl (by omega) (by omega)) dX8_cut_160 ?_
          obtain ⟨z_38, ez_38, hz_38⟩ := e_any (F_26 v34_9_0.toNatClampNeg)
          refine q_c z_38 ez_38 ?_
          have zr_39 := ld_st eF_26 ez_38
          refine lv_bipush (v := 26) hx hb dX8_cut_161 (by decide) ?_
          refine lv_icmp_eq (tgt := 182) hx hb dX8_cut_163 (by decide) (fun c_40 => ?_) (fun c_40 => ?_)
          · replace c_40 := i_eq (x := z_38) (y := 26) rfl (show (26 : Int32).toInt = 26 by decide) c_40
            refine lv_iconst (v := 0) hx hb dX8_cut_182 (by decide) ?_
            refine lv_istore (lv' := [(4, .int 0), (3, .int r_23), (6, .int r_23), (0, .ref h0), (1, .ref h4), (2, .int p0), (5, .int v34_9_0)]) hx hb dX8_cut_183 hl_37 (by decide) rfl (fun ls_41 hl_41 => ?_)
            clear hl_37
            obtain ⟨z_42, ez_42, hz_42⟩ := e_add (x := v34_9_0) (y := Int32.ofInt 1) rfl (b := 1) (by decide) (by omega) (by omega)
            refine lv_iinc (v := z_42) (lv' := [(5, .int z_42), (4, .int 0), (3, .int r_23), (6, .int r_23), (0, .ref h0), (1, .ref h4), (2, .int p0)]) hx hb dX8_cut_185 hl_41 (k := 6) rfl ez_42 (by decide) rfl (fun ls_42 hl_42 => ?_)
            clear hl_41
            refine lv_goto (tgt := 34) hx hb dX8_cut_188 (by decide) ?_
            exact ih_34 (z_42, 0, r_23, z_35) (by show (902 - (z_42).toInt).toNat < (902 - (v34_9_0).toInt).toNat; omega) _ _ _ ⟨F_26, F_28, F_33, ⟨by omega, by omega⟩, ⟨by decide +kernel, by decide +kernel⟩, wr_23, ⟨by omega, by omega⟩, (by omega), (Or.inr ⟨by have q0 : (0 : Int32).toInt = 0 := (by decide); omega, by have q0 : (0 : Int32).toInt = 0 := (by decide); omega, kz_mk (by omega) (by have q0 : (0 : Int32).toInt = 0 := (by decide); omega) ez_38 (by omega)⟩), (by omega), (cui_s x13_3 (by omega) (by omega) x22_0 y23_1 y25_1 eF_26 eF_28 eF_33 (fun q => absurd q (by omega)) (by omega) (by omega)), (x20_2), (q_re h_36 [3, 0, 1, 2, 4] rfl rfl), (lv_sub hl_42 [4, 5, 6, 2, 1, 0] rfl)⟩
          · replace c_40 := i_ne (x := z_38) (y := 26) rfl (show (26 : Int32).toInt = 26 by decide) c_40
            refine lv_aload_n hx hb dX8_cut_166 rfl (lv_at hl_37 2 rfl) ?_
            refine q_get X hK h_36 3 rfl rfl wf_8 3 (by decide) rfl wm_1_47 dX8_cut_167 ?_
            refine lv_iload hx hb dX8_cut_170 (lv_at hl_37 6 rfl) ?_
            refine q_iald X hK h_36 0 rfl (i_in rfl (by omega) (by omega)) dX8_cut_172 ?_
            obtain ⟨z_43, ez_43, hz_43⟩ := e_any (F_26 v34_9_0.toNatClampNeg)
            refine q_c z_43 ez_43 ?_
            have zr_44 := ld_st eF_26 ez_43
            refine lv_bipush (v := 27) hx hb dX8_cut_173 (by decide) ?_
            refine lv_icmp_eq (tgt := 182) hx hb dX8_cut_175 (by decide) (fun c_45 => ?_) (fun c_45 => ?_)
            · replace c_45 := i_eq (x := z_43) (y := 27) rfl (show (27 : Int32).toInt = 27 by decide) c_45
              refine lv_iconst (v := 0) hx hb dX8_cut_182 (by decide) ?_
              refine lv_istore (lv' := [(4, .int 0), (3, .int r_23), (6, .int r_23), (0, .ref h0), (1, .ref h4), (2, .int p0), (5, .int v34_9_0)]) hx hb dX8_cut_183 hl_37 (by decide) rfl (fun ls_46 hl_46 => ?_)
              clear hl_37
              obtain ⟨z_47, ez_47, hz_47⟩ := e_add (x := v34_9_0) (y := Int32.ofInt 1) rfl (b := 1) (by decide) (by omega) (by omega)
              refine lv_iinc (v := z_47) (lv' := [(5, .int z_47), (4, .int 0), (3, .int r_23), (6, .int r_23), (0, .ref h0), (1, .ref h4), (2, .int p0)]) hx hb dX8_cut_185 hl_46 (k := 6) rfl ez_47 (by decide) rfl (fun ls_47 hl_47 => ?_)
              clear hl_46
              refine lv_goto (tgt := 34) hx hb dX8_cut_188 (by decide) ?_
              exact ih_34 (z_47, 0, r_23, z_35) (by show (902 - (z_47).toInt).toNat < (902 - (v34_9_0).toInt).toNat; omega) _ _ _ ⟨F_26, F_28, F_33, ⟨by omega, by omega⟩, ⟨by decide +kernel, by decide +kernel⟩, wr_23, ⟨by omega, by omega⟩, (by omega), (Or.inr ⟨by have q0 : (0 : Int32).toInt = 0 := (by decide); omega, by have q0 : (0 : Int32).toInt = 0 := (by decide); omega, kz_mk (by omega) (by have q0 : (0 : Int32).toInt = 0 := (by decide); omega) ez_43 (by omega)⟩), (by omega), (cui_s x13_3 (by omega) (by omega) x22_0 y23_1 y25_1 eF_26 eF_28 eF_33 (fun q => absurd q (by omega)) (by omega) (by omega)), (x20_2), (q_re h_36 [3, 0, 1, 2, 4] rfl rfl), (lv_sub hl_47 [4, 5, 6, 2, 1, 0] rfl)⟩
            · replace c_45 := i_ne (x := z_43) (y := 27) rfl (show (27 : Int32).toInt = 27 by decide) c_45
              refine lv_iconst (v := 1) hx hb dX8_cut_178 (by decide) ?_
              refine lv_goto (tgt := 183) hx hb dX8_cut_179 (by decide) ?_
              refine lv_istore (lv' := [(4, .int 1), (3, .int r_23), (6, .int r_23), (0, .ref h0), (1, .ref h4), (2, .int p0), (5, .int v34_9_0)]) hx hb dX8_cut_183 hl_37 (by decide) rfl (fun ls_48 hl_48 => ?_)
              clear hl_37
              obtain ⟨z_49, ez_49, hz_49⟩ := e_add (x := v34_9_0) (y := Int32.ofInt 1) rfl (b := 1) (by decide) (by omega) (by omega)
              refine lv_iinc (v := z_49) (lv' := [(5, .int z_49), (4, .int 1), (3, .int r_23), (6, .int r_23), (0, .ref h0), (1, .ref h4), (2, .int p0)]) hx hb dX8_cut_185 hl_48 (k := 6) rfl ez_49 (by decide) rfl (fun ls_49 hl_49 => ?_)
              clear hl_48
              refine lv_goto (tgt := 34) hx hb dX8_cut_188 (by decide) ?_
              exact ih_34 (z_49, 1, r_23, z_35) (by show (902 - (z_49).toInt).toNat < (902 - (v34_9_0).toInt).toNat; omega) _ _ _ ⟨F_26, F_28, F_33, ⟨by omega, by omega⟩, ⟨by decide +kernel, by decide +kernel⟩, wr_23, ⟨by omega, by omega⟩, (by omega), (Or.inl ⟨by have q0 : (1 : Int32).toInt = 1 := (by decide); omega, by have q0 : (1 : Int32).toInt = 1 := (by decide); omega, by have q0 : (1 : Int32).toInt = 1 := (by decide); omega⟩), (by omega), (cui_s x13_3 (by omega) (by omega) x22_0 y23_1 y25_1 eF_26 eF_28 eF_33 (fun q => absurd q (by omega)) (by omega) (by omega)), (x20_2), (q_re h_36 [3, 0, 1, 2, 4] rfl rfl), (lv_sub hl_49 [4, 5, 6, 2, 1, 0] rfl)⟩
        · replace c_32 := i_eq (x := z_30) (y := 25) rfl (show (25 : Int32).toInt = 25 by decide) c_32
          obtain ⟨va_50, vb_50, vc_50⟩ := ki_25 rf3 (by omega) (by omega) y23_1 y25_1 (by omega)
          refine lv_aload_n hx hb dX8_cut_131 rfl (lv_at hl_24 1 rfl) ?_
          refine lv_iload_n hx hb dX8_cut_132 rfl (lv_at hl_24 4 rfl) ?_
          refine lv_iload hx hb dX8_cut_133 (lv_at hl_24 0 rfl) ?_
          refine q_callVi (rest := [.int v34_9_0, .ref h3]) (wr := (wk_d91cb5b2f cy h1 F_26 h2 F_28 h3 v34_9_5)) X hK hT hA h_29 (fun sz => gX8_valueOf_7ef071d l D cy h0 h4 v48_17_0 r_23 z_3 v34_9_6 (.ref h1) (.ref h2) (.ref h3) f3 hv48_17_0 wr_23 ⟨by omega, by omega⟩ hv34_9_6 rf3 (by omega) (by omega) (vc_50) (by omega) sz) wm_3_64 wm_3_67 wm_1_3 hd_X8_valueOf wm_3_66 wp_1_7 (ci := 8) (q0 := 0) rfl rfl ⟨Nat.le_of_ble_eq_true rfl, Nat.le_of_ble_eq_true rfl⟩ hl_24.1 rfl (Nat.le_of_ble_eq_true rfl) dX8_cut_135 ⟨Nat.le_of_ble_eq_true rfl, Nat.le_of_ble_eq_true rfl⟩ [3, 4] [0, 1, 2] rfl rfl (by decide) rfl rfl (fun r_51 u_51 H locs w_51 h_51 => ?_)
          clear h_29
          obtain ⟨wr_51, y51_0, _⟩ := w_51
          replace h_51 : qW D _ _ (wk_6156c93d0 cy h1 F_26 h2 F_28 h3 v34_9_5 h0 h4 z_3 v34_9_6 h1 h2 h3 h4 f3) _ _ := h_51
          refine lv_goto (tgt := 142) hx hb dX8_cut_138 (by decide) ?_
          refine q_iast X hK h_51 2 rfl (i_in rfl (by omega) (by omega)) dX8_cut_142 (fun H locs h_53 => ?_)
          clear h_51
          replace h_53 : qW D _ _ (wk_6156c93d0 cy h1 F_26 h2 F_28 h3 (upd v34_9_5 (Int32.toNatClampNeg v34_9_0) r_51) h0 h4 z_3 v34_9_6 h1 h2 h3 h4 f3) _ _ := h_53
          obtain ⟨F_52, eF_52⟩ : ∃ z, (upd v34_9_5 (Int32.toNatClampNeg v34_9_0) r_51) = z := ⟨_, rfl⟩
          rw [eF_52] at h_53
          refine lv_aload_n hx hb dX8_cut_143 rfl (lv_at hl_24 1 rfl) ?_
          refine lv_iload hx hb dX8_cut_144 (lv_at hl_24 6 rfl) ?_
          refine lv_iconst (v := 1) hx hb dX8_cut_146 (by decide) ?_
          refine lv_iadd hx hb dX8_cut_147 ?_
          obtain ⟨z_54, ez_54, hz_54⟩ := e_add (x := v34_9_0) (y := 1) rfl (show (1 : Int32).toInt = 1 by decide) (by omega) (by omega)
          refine q_c z_54 ez_54 ?_
          clear ez_54
          refine q_put (v := .int z_54) X hK h_53 3 rfl rfl wf_8 tyX8 tyX8_ok nmX8 2 (by decide) wm_1_45 rfl rfl rfl (Nat.le_of_ble_eq_true rfl) dX8_cut_148 (fun H locs h_55 => ?_)
          clear h_53
          replace h_55 : qW D _ _ (wk_6156c93d0 cy h1 F_26 h2 F_28 h3 F_52 h0 h4 z_3 z_54 h1 h2 h3 h4 f3) _ _ := h_55
          refine lv_iload hx hb dX8_cut_151 (lv_at hl_24 0 rfl) ?_
          refine lv_istore_n (lv' := [(3, .int r_23), (6, .int r_23), (0, .ref h0), (1, .ref h4), (2, .int p0), (4, .int v34_9_1), (5, .int v34_9_0)]) hx hb dX8_cut_153 rfl hl_24 (by decide) rfl (fun ls_56 hl_56 => ?_)
          clear hl_24
          refine lv_aload_n hx hb dX8_cut_154 rfl (lv_at hl_56 2 rfl) ?_
          refine q_get X hK h_55 3 rfl rfl wf_8 3 (by decide) rfl wm_1_47 dX8_cut_155 ?_
          refine lv_iload hx hb dX8_cut_158 (lv_at hl_56 6 rfl) ?_
          refine q_iald X hK h_55 0 rfl (i_in rfl (by omega) (by omega)) dX8_cut_160 ?_
          obtain ⟨z_57, ez_57, hz_57⟩ := e_any (F_26 v34_9_0.toNatClampNeg)
          refine q_c z_57 ez_57 ?_
          have zr_58 := ld_st eF_26 ez_57
          refine lv_bipush (v := 26) hx hb dX8_cut_161 (by decide) ?_
          refine lv_icmp_eq (tgt := 182) hx hb dX8_cut_163 (by decide) (fun c_59 => ?_) (fun c_59 => ?_)
          · replace c_59 := i_eq (x := z_57) (y := 26) rfl (show (26 : Int32).toInt = 26 by decide) c_59
            refine lv_iconst (v := 0) hx hb dX8_cut_182 (by decide) ?_
            refine lv_istore (lv' := [(4, .int 0), (3, .int r_23), (6, .int r_23), (0, .ref h0), (1, .ref h4), (2, .int p0), (5, .int v34_9_0)]) hx hb dX8_cut_183 hl_56 (by decide) rfl (fun ls_60 hl_60 => ?_)
            clear hl_56
            obtain ⟨z_61, ez_61, hz_61⟩ := e_add (x := v34_9_0) (y := Int32.ofInt 1) rfl (b := 1) (by decide) (by omega) (by omega)
            refine lv_iinc (v := z_61) (lv' := [(5, .int z_61), (4, .int 0), (3, .int r_23), (6, .int r_23), (0, .ref h0), (1, .ref h4), (2, .int p0)]) hx hb dX8_cut_185 hl_60 (k := 6) rfl ez_61 (by decide) rfl (fun ls_61 hl_61 => ?_)
            clear hl_60
            refine lv_goto (tgt := 34) hx hb dX8_cut_188 (by decide) ?_
            exact ih_34 (z_61, 0, r_23, z_54) (by show (902 - (z_61).toInt).toNat < (902 - (v34_9_0).toInt).toNat; omega) _ _ _ ⟨F_26, F_28, F_52, ⟨by omega, by omega⟩, ⟨by decide +kernel, by decide +kernel⟩, wr_23, ⟨by omega, by omega⟩, (by omega), (Or.inr ⟨by have q0 : (0 : Int32).toInt = 0 := (by decide); omega, by have q0 : (0 : Int32).toInt = 0 := (by decide); omega, kz_mk (by omega) (by have q0 : (0 : Int32).toInt = 0 := (by decide); omega) ez_57 (by omega)⟩), (by omega), (cui_s x13_3 (by omega) (by omega) x22_0 y23_1 y25_1 eF_26 eF_28 eF_52 (fun _ => y51_0) (by omega) (by omega)), (x20_2), (q_re h_55 [3, 0, 1, 2, 4] rfl rfl), (lv_sub hl_61 [4, 5, 6, 2, 1, 0] rfl)⟩
          · replace c_59 := i_ne (x := z_57) (y := 26) rfl (show (26 : Int32).toInt = 26 by decide) c_59
            refine lv_aload_n hx hb dX8_cut_166 rfl (lv_at hl_56 2 rfl) ?_
            refine q_get X hK h_55 3 rfl rfl wf_8 3 (by decide) rfl wm_1_47 dX8_cut_167 ?_
            refine lv_iload hx hb dX8_cut_170 (lv_at hl_56 6 rfl) ?_
            refine q_iald X hK h_55 0 rfl (i_in rfl (by omega) (by omega)) dX8_cut_172 ?_
            obtain ⟨z_62, ez_62, hz_62⟩ := e_any (F_26 v34_9_0.toNatClampNeg)
            refine q_c z_62 ez_62 ?_
            have zr_63 := ld_st eF_26 ez_62
            refine lv_bipush (v := 27) hx hb dX8_cut_173 (by decide) ?_
            refine lv_icmp_eq (tgt := 182) hx hb dX8_cut_175 (by decide) (fun c_64 => ?_) (fun c_64 => ?_)
            · replace c_64 := i_eq (x := z_62) (y := 27) rfl (show (27 : Int32).toInt = 27 by decide) c_64
              refine lv_iconst (v := 0) hx hb dX8_cut_182 (by decide) ?_
              refine lv_istore (lv' := [(4, .int 0), (3, .int r_23), (6, .int r_23), (0, .ref h0), (1, .ref h4), (2, .int p0), (5, .int v34_9_0)]) hx hb dX8_cut_183 hl_56 (by decide) rfl (fun ls_65 hl_65 => ?_)
              clear hl_56
              obtain ⟨z_66, ez_66, hz_66⟩ := e_add (x := v34_9_0) (y := Int32.ofInt 1) rfl (b := 1) (by decide) (by omega) (by omega)
              refine lv_iinc (v := z_66) (lv' := [(5, .int z_66), (4, .int 0), (3, .int r_23), (6, .int r_23), (0, .ref h0), (1, .ref h4), (2, .int p0)]) hx hb dX8_cut_185 hl_65 (k := 6) rfl ez_66 (by decide) rfl (fun ls_66 hl_66 => ?_)
              clear hl_65
              refine lv_goto (tgt := 34) hx hb dX8_cut_188 (by decide) ?_
              exact ih_34 (z_66, 0, r_23, z_54) (by show (902 - (z_66).toInt).toNat < (902 - (v34_9_0).toInt).toNat; omega) _ _ _ ⟨F_26, F_28, F_52, ⟨by omega, by omega⟩, ⟨by decide +kernel, by decide +kernel⟩, wr_23, ⟨by omega, by omega⟩, (by omega), (Or.inr ⟨by have q0 : (0 : Int32).toInt = 0 := (by decide); omega, by have q0 : (0 : Int32).toInt = 0 := (by decide); omega, kz_mk (by omega) (by have q0 : (0 : Int32).toInt = 0 := (by decide); omega) ez_62 (by omega)⟩), (by omega), (cui_s x13_3 (by omega) (by omega) x22_0 y23_1 y25_1 eF_26 eF_28 eF_52 (fun _ => y51_0) (by omega) (by omega)), (x20_2), (q_re h_55 [3, 0, 1, 2, 4] rfl rfl), (lv_sub hl_66 [4, 5, 6, 2, 1, 0] rfl)⟩
            · replace c_64 := i_ne (x := z_62) (y := 27) rfl (show (27 : Int32).toInt = 27 by decide) c_64
              refine lv_iconst (v := 1) hx hb dX8_cut_178 (by decide) ?_
              refine lv_goto (tgt := 183) hx hb dX8_cut_179 (by decide) ?_
              refine lv_istore (lv' := [(4, .int 1), (3, .int r_23), (6, .int r_23), (0, .ref h0), (1, .ref h4), (2, .int p0), (5, .int v34_9_0)]) hx hb dX8_cut_183 hl_56 (by decide) rfl (fun ls_67 hl_67 => ?_)
              clear hl_56
              obtain ⟨z_68, ez_68, hz_68⟩ := e_add (x := v34_9_0) (y := Int32.ofInt 1) rfl (b := 1) (by decide) (by omega) (by omega)
              refine lv_iinc (v := z_68) (lv' := [(5, .int z_68), (4, .int 1), (3, .int r_23), (6, .int r_23), (0, .ref h0), (1, .ref h4), (2, .int p0)]) hx hb dX8_cut_185 hl_67 (k := 6) rfl ez_68 (by decide) rfl (fun ls_68 hl_68 => ?_)
              clear hl_67
              refine lv_goto (tgt := 34) hx hb dX8_cut_188 (by decide) ?_
              exact ih_34 (z_68, 1, r_23, z_54) (by show (902 - (z_68).toInt).toNat < (902 - (v34_9_0).toInt).toNat; omega) _ _ _ ⟨F_26, F_28, F_52, ⟨by omega, by omega⟩, ⟨by decide +kernel, by decide +kernel⟩, wr_23, ⟨by omega, by omega⟩, (by omega), (Or.inl ⟨by have q0 : (1 : Int32).toInt = 1 := (by decide); omega, by have q0 : (1 : Int32).toInt = 1 := (by decide); omega, by have q0 : (1 : Int32).toInt = 1 := (by decide); omega⟩), (by omega), (cui_s x13_3 (by omega) (by omega) x22_0 y23_1 y25_1 eF_26 eF_28 eF_52 (fun _ => y51_0) (by omega) (by omega)), (x20_2), (q_re h_55 [3, 0, 1, 2, 4] rfl rfl), (lv_sub hl_68 [4, 5, 6, 2, 1, 0] rfl)⟩
      · skip
        refine lv_icmp_ge (tgt := 84) hx hb dX8_cut_53 (by decide) (fun c_69 => ?_) (fun c_69 => ?_)
        · replace c_69 := i_le (x := z_3) (y := v48_17_0) rfl rfl c_69
          exact J_84 _ _ _ _ ⟨(tpe_of rf3 x19_1 (by omega) (by omega) (Or.inl (by omega))), rfl, h, (lv_sub hl [0, 1, 2, 3, 4, 5] rfl)⟩
        · replace c_69 := i_nle (x := z_3) (y := v48_17_0) rfl rfl c_69
          refine lv_aload_n hx hb dX8_cut_56 rfl (lv_at hl 0 rfl) ?_
          refine q_get X hK h 0 rfl rfl wf_8 0 (by decide) rfl wm_1_43 dX8_cut_57 ?_
          refine lv_iload_n hx hb dX8_cut_60 rfl (lv_at hl 3 rfl) ?_
          refine q_bald X hK h 4 rfl (i_in rfl (by omega) (by omega)) dX8_cut_61 ?_
          obtain ⟨z_70, ez_70, hz_70⟩ := e_any (f3 v48_17_0.toNatClampNeg)
          refine q_c z_70 ez_70 ?_
          refine lv_bipush (v := 10) hx hb dX8_cut_62 (by decide) ?_
          refine q_jn (pc2 := 78) (fun H locs ls st => ((f3 (v48_17_0 : Int32).toNatClampNeg).toInt = 10 ∨ (f3 (v48_17_0 : Int32).toNatClampNeg).toInt = 32) ∧ ((v48_17_0 : Int32).toInt < (z_3 : Int32).toInt) ∧ st = [] ∧ qW D (va_A (wk_fffe06ee4 cy h0 o0 p1 p2 h1 h2 h3 h1 f0 h2 f1 h3 f2 h4 f3) sz) s.heap (wk_9a29d5dcb cy h0 h4 z_3 v34_9_6 h1 h2 h3 h1 v34_9_3 h2 v34_9_4 h3 v34_9_5 h4 f3) H locs ∧ lv_has ls 7 [(0, .ref h0), (1, .ref h4), (2, .int p0), (3, .int v48_17_0), (4, .int v34_9_1), (5, .int v34_9_0)]) (fun H locs ls st hP => ?_) (fun J_78 => ?_)
          · obtain ⟨x72_0, x73_1, rfl, h, hl⟩ := hP
            obtain ⟨z_74, ez_74, hz_74⟩ := e_add (x := v48_17_0) (y := Int32.ofInt 1) rfl (b := 1) (by decide) (by omega) (by omega)
            refine lv_iinc (v := z_74) (lv' := [(3, .int z_74), (0, .ref h0), (1, .ref h4), (2, .int p0), (4, .int v34_9_1), (5, .int v34_9_0)]) hx hb dX8_cut_78 hl (k := 3) rfl ez_74 (by decide) rfl (fun ls_74 hl_74 => ?_)
            clear hl
            refine lv_goto (tgt := 48) hx hb dX8_cut_81 (by decide) ?_
            exact ih_48 z_74 (by show (901 - (z_74).toInt).toNat < (901 - (v48_17_0).toInt).toNat; omega) _ _ _ ⟨⟨by omega, by omega⟩, (by omega), (bls_s x19_1 (by omega) x72_0 (by omega)), (x20_2), h, (lv_sub hl_74 [1, 2, 3, 0, 4, 5] rfl)⟩
          · skip
            refine lv_icmp_eq (tgt := 78) hx hb dX8_cut_64 (by decide) (fun c_75 => ?_) (fun c_75 => ?_)
            · replace c_75 := i_eq (x := z_70) (y := 10) rfl (show (10 : Int32).toInt = 10 by decide) c_75
              exact J_78 _ _ _ _ ⟨((have e_ := congrArg Int32.toInt ez_70; by omega)), (by omega), rfl, h, (lv_sub hl [0, 1, 2, 3, 4, 5] rfl)⟩
            · replace c_75 := i_ne (x := z_70) (y := 10) rfl (show (10 : Int32).toInt = 10 by decide) c_75
              refine lv_aload_n hx hb dX8_cut_67 rfl (lv_at hl 0 rfl) ?_
              refine q_get X hK h 0 rfl rfl wf_8 0 (by decide) rfl wm_1_43 dX8_cut_68 ?_
              refine lv_iload_n hx hb dX8_cut_71 rfl (lv_at hl 3 rfl) ?_
              refine q_bald X hK h 4 rfl (i_in rfl (by omega) (by omega)) dX8_cut_72 ?_
              obtain ⟨z_76, ez_76, hz_76⟩ := e_any (f3 v48_17_0.toNatClampNeg)
              refine q_c z_76 ez_76 ?_
              refine lv_bipush (v := 32) hx hb dX8_cut_73 (by decide) ?_
              refine lv_icmp_ne (tgt := 84) hx hb dX8_cut_75 (by decide) (fun c_77 => ?_) (fun c_77 => ?_)
              · replace c_77 := i_ne (x := z_76) (y := 32) rfl (show (32 : Int32).toInt = 32 by decide) c_77
                exact J_84 _ _ _ _ ⟨(tpe_of rf3 x19_1 (by omega) (by omega) (Or.inr ⟨(have e_ := congrArg Int32.toInt ez_70; by omega), (have e_ := congrArg Int32.toInt ez_76; by omega)⟩)), rfl, h, (lv_sub hl [0, 1, 2, 3, 4, 5] rfl)⟩
              · replace c_77 := i_eq (x := z_76) (y := 32) rfl (show (32 : Int32).toInt = 32 by decide) c_77
                exact J_78 _ _ _ _ ⟨((have e_ := congrArg Int32.toInt ez_76; by omega)), (by omega), rfl, h, (lv_sub hl [0, 1, 2, 3, 4, 5] rfl)⟩
set_option maxHeartbeats 4000000 in
set_option maxRecDepth 100000 in
theorem gX5_advance_9820dfe (l : Launch) (D : va_G) (cy : Nat → ClassId) (h0 : Nat) (h1 : Nat) (h2 : Nat) (h3 : Nat) (p0 : Int32) (p1 : Int32) (p2 : Int32) (p3 : Int32) (w0 : Value) (w1 : Value) (p4 : Int32) (p5 : Int32) (w2 : Value) (p6 : Int32) (p7 : Int32) (w3 : Value) (f0 : Nat → Int32) (f1 : Nat → Int32) (hp0 : (-1) ≤ (p0).toInt ∧ (p0).toInt ≤ 900) (hp1 : (-2147483648) ≤ (p1).toInt ∧ (p1).toInt ≤ 2147483647) (hp2 : (-2147483648) ≤ (p2).toInt ∧ (p2).toInt ≤ 2147483647) (hp3 : (-2147483648) ≤ (p3).toInt ∧ (p3).toInt ≤ 2147483647) (hp4 : 0 ≤ (p4).toInt ∧ (p4).toInt ≤ 900) (hp5 : (-2147483648) ≤ (p5).toInt ∧ (p5).toInt ≤ 2147483647) (hp6 : 0 ≤ (p6).toInt ∧ (p6).toInt ≤ 900) (hp7 : 0 ≤ (p7).toInt ∧ (p7).toInt ≤ 901) (hpre0 : KZ f0 (p7 : Int32).toInt) (hpre1 : (p2 : Int32).toInt = 0 ∨ (p1 : Int32).toInt = 27) (hpre2 : -1 ≤ (p0 : Int32).toInt ∧ (p0 : Int32).toInt < (p7 : Int32).toInt ∧ 1 ≤ (p7 : Int32).toInt ∧ ((p2 : Int32).toInt = 0 ∨ 0 ≤ (p0 : Int32).toInt)) (sz : Nat) : MV l yX5_advance cX5_advance 1 { frames := 0, cells := 0, slots := 0, locals := 0 } [.ref h0] D cy (wk_8964b4ae4 cy h0 h1 p0 p1 p2 p3 w0 w1 p4 p5 h1 w2 p6 p7 h2 h3 w3 h2 f0 h3 f1) sz (fun u => ((-1) ≤ (u.2.1 0 0).toInt ∧ (u.2.1 0 0).toInt ≤ 900) ∧ ((-2147483648) ≤ (u.2.1 1 0).toInt ∧ (u.2.1 1 0).toInt ≤ 2147483647) ∧ ((-2147483648) ≤ (u.2.1 2 0).toInt ∧ (u.2.1 2 0).toInt ≤ 2147483647) ∧ ((-2147483648) ≤ (u.2.1 3 0).toInt ∧ (u.2.1 3 0).toInt ≤ 2147483647) ∧ (0 ≤ ((u.2.1 0 0) : Int32).toInt ∧ ((u.2.1 0 0) : Int32).toInt < (p7 : Int32).toInt) ∧ ((p2 : Int32).toInt ≠ 0 ∨ ((u.2.1 0 0) : Int32).toInt = (p0 : Int32).toInt + 1 ∨ (((u.2.1 0 0) : Int32).toInt = (p0 : Int32).toInt ∧ (p7 : Int32).toInt ≤ (p0 : Int32).toInt + 1)) ∧ (((u.2.1 2 0) : Int32).toInt ≠ 0 ∨ (p2 : Int32).toInt = 0) ∧ ((p0 : Int32).toInt ≤ ((u.2.1 0 0) : Int32).toInt) ∧ ((((u.2.1 2 0) : Int32).toInt ≠ 0 ∨ ((u.2.1 1 0) : Int32).toInt = 26 ∨ ((u.2.1 1 0) : Int32).toInt = 27 ∨ ((u.2.1 0 0) : Int32).toInt + 1 < (p7 : Int32).toInt) ∨ (((u.2.1 0 0) : Int32).toInt = (p0 : Int32).toInt ∧ ((u.2.1 1 0) : Int32).toInt = (p1 : Int32).toInt ∧ ((u.2.1 2 0) : Int32).toInt = (p2 : Int32).toInt)) ∧ (((u.2.1 2 0) : Int32).toInt = 0 ∨ ((u.2.1 1 0) : Int32).toInt = 27) ∧ (ADVR f0 f1 (p7 : Int32).toInt (p0 : Int32).toInt (p1 : Int32).toInt (p2 : Int32).toInt (p3 : Int32).toInt ((u.2.1 0 0) : Int32).toInt ((u.2.1 1 0) : Int32).toInt ((u.2.1 2 0) : Int32).toInt ((u.2.1 3 0) : Int32).toInt) ∧ True) (fun u => (wk_8964b4ae4 cy h0 h1 (u.2.1 0 0) (u.2.1 1 0) (u.2.1 2 0) (u.2.1 3 0) w0 w1 p4 p5 h1 w2 p6 p7 h2 h3 w3 h2 f0 h3 f1)) 0 0 := by
  refine q_ent (own := RX5) (by decide) rfl (Nat.le_of_ble_eq_true rfl) (fun p e s m below meth c ls X hr hlk hnm hK hT h hA hl => ?_)
  obtain ⟨hx, hb, hml, hown, ht⟩ := id X
  replace hl : lv_has ls 1 [(0, .ref h0)] := hl
  refine lv_aload_n hx hb dX5_advance_0 rfl (lv_at hl 0 rfl) ?_
  refine q_get X hK h 0 rfl rfl wf_5 3 (by decide) rfl wm_1_147 dX5_advance_1 ?_
  refine lv_if_ne (tgt := 23) hx hb dX5_advance_4 (by decide) (fun c_1 => ?_) (fun c_1 => ?_)
  · replace c_1 := i_ne (x := p2) (y := 0) rfl (show (0 : Int32).toInt = 0 by decide) c_1
    exact q_vret X hr hlk hK h (fun _ => 0, (vcons (fun _ => p0) (vcons (fun _ => p1) (vcons (fun _ => p2) (vcons (fun _ => p3) (fun _ => (fun _ => 0)))))), fun _ _ => 0) ⟨hp0, hp1, hp2, hp3, (show 0 ≤ (p0 : Int32).toInt ∧ (p0 : Int32).toInt < (p7 : Int32).toInt from by (first | (clear hpre1 hpre2; omega) | omega)), (show (p2 : Int32).toInt ≠ 0 ∨ (p0 : Int32).toInt = (p0 : Int32).toInt + 1 ∨ ((p0 : Int32).toInt = (p0 : Int32).toInt ∧ (p7 : Int32).toInt ≤ (p0 : Int32).toInt + 1) from by (first | (clear hpre1 hpre2; omega) | omega)), (show (p2 : Int32).toInt ≠ 0 ∨ (p2 : Int32).toInt = 0 from (ne_or _)), (show (p0 : Int32).toInt ≤ (p0 : Int32).toInt from (Int.le_refl _)), (show ((p2 : Int32).toInt ≠ 0 ∨ (p1 : Int32).toInt = 26 ∨ (p1 : Int32).toInt = 27 ∨ (p0 : Int32).toInt + 1 < (p7 : Int32).toInt) ∨ ((p0 : Int32).toInt = (p0 : Int32).toInt ∧ (p1 : Int32).toInt = (p1 : Int32).toInt ∧ (p2 : Int32).toInt = (p2 : Int32).toInt) from by (first | (clear hpre1 hpre2; omega) | omega)), hpre1, (show ADVR f0 f1 (p7 : Int32).toInt (p0 : Int32).toInt (p1 : Int32).toInt (p2 : Int32).toInt (p3 : Int32).toInt (p0 : Int32).toInt (p1 : Int32).toInt (p2 : Int32).toInt (p3 : Int32).toInt from by first | exact Or.inl ⟨(by (first | assumption | (clear hpre1 hpre2; omega) | omega)), rfl, rfl, rfl, rfl⟩ | exact Or.inr (Or.inl ⟨(by (first | assumption | (clear hpre1 hpre2; omega) | omega)), (by (first | assumption | (clear hpre1 hpre2; omega) | omega)), rfl, rfl, rfl, rfl⟩)), trivial⟩ [0, 1, 2, 3] rfl rfl dX5_advance_23 (Nat.le_of_ble_eq_true rfl) (Nat.le_of_ble_eq_true rfl)
  · replace c_1 := i_eq (x := p2) (y := 0) rfl (show (0 : Int32).toInt = 0 by decide) c_1
    refine lv_aload_n hx hb dX5_advance_7 rfl (lv_at hl 0 rfl) ?_
    refine q_get X hK h 0 rfl rfl wf_5 1 (by decide) rfl wm_1_145 dX5_advance_8 ?_
    refine lv_iconst (v := 1) hx hb dX5_advance_11 (by decide) ?_
    refine lv_iadd hx hb dX5_advance_12 ?_
    obtain ⟨z_2, ez_2, hz_2⟩ := e_add (x := p0) (y := 1) rfl (show (1 : Int32).toInt = 1 by decide) (by omega) (by omega)
    refine q_c z_2 ez_2 ?_
    clear ez_2
    refine lv_aload_n hx hb dX5_advance_13 rfl (lv_at hl 0 rfl) ?_
    refine q_get X hK h 0 rfl rfl wf_5 0 (by decide) rfl wm_1_144 dX5_advance_14 ?_
    refine q_get X hK h 1 rfl rfl wf_8 2 (by decide) rfl wm_1_46 dX5_advance_17 ?_
    refine lv_icmp_lt (tgt := 24) hx hb dX5_advance_20 (by decide) (fun c_3 => ?_) (fun c_3 => ?_)
    · replace c_3 := i_lt (x := z_2) (y := p7) rfl rfl c_3
      refine lv_aload_n hx hb dX5_advance_24 rfl (lv_at hl 0 rfl) ?_
      refine lv_dup hx hb dX5_advance_25 rfl ?_
      refine q_get X hK h 0 rfl rfl wf_5 1 (by decide) rfl wm_1_145 dX5_advance_26 ?_
      refine lv_iconst (v := 1) hx hb dX5_advance_29 (by decide) ?_
      refine lv_iadd hx hb dX5_advance_30 ?_
      obtain ⟨z_4, ez_4, hz_4⟩ := e_add (x := p0) (y := 1) rfl (show (1 : Int32).toInt = 1 by decide) (by omega) (by omega)
      refine q_c z_4 ez_4 ?_
      clear ez_4
      refine q_put (v := .int z_4) X hK h 0 rfl rfl wf_5 tyX5 tyX5_ok nmX5 1 (by decide) wm_1_145 rfl rfl rfl (Nat.le_of_ble_eq_true rfl) dX5_advance_31 (fun H locs h_5 => ?_)
      clear h
      replace h_5 : qW D _ _ (wk_8964b4ae4 cy h0 h1 z_4 p1 p2 p3 w0 w1 p4 p5 h1 w2 p6 p7 h2 h3 w3 h2 f0 h3 f1) _ _ := h_5
      refine lv_aload_n hx hb dX5_advance_34 rfl (lv_at hl 0 rfl) ?_
      refine lv_aload_n hx hb dX5_advance_35 rfl (lv_at hl 0 rfl) ?_
      refine q_get X hK h_5 0 rfl rfl wf_5 0 (by decide) rfl wm_1_144 dX5_advance_36 ?_
      refine q_get X hK h_5 1 rfl rfl wf_8 3 (by decide) rfl wm_1_48 dX5_advance_39 ?_
      refine lv_aload_n hx hb dX5_advance_42 rfl (lv_at hl 0 rfl) ?_
      refine q_get X hK h_5 0 rfl rfl wf_5 1 (by decide) rfl wm_1_145 dX5_advance_43 ?_
      refine q_iald X hK h_5 2 rfl (i_in rfl (by omega) (by omega)) dX5_advance_46 ?_
      obtain ⟨z_6, ez_6, hz_6⟩ := e_any (f0 z_4.toNatClampNeg)
      refine q_c z_6 ez_6 ?_
      have tk_7 := kz_or hpre0 (by omega) (by omega) ez_6
      refine q_put (v := .int z_6) X hK h_5 0 rfl rfl wf_5 tyX5 tyX5_ok nmX5 2 (by decide) wm_1_146 rfl rfl rfl (Nat.le_of_ble_eq_true rfl) dX5_advance_47 (fun H locs h_8 => ?_)
      clear h_5
      replace h_8 : qW D _ _ (wk_8964b4ae4 cy h0 h1 z_4 z_6 p2 p3 w0 w1 p4 p5 h1 w2 p6 p7 h2 h3 w3 h2 f0 h3 f1) _ _ := h_8
      refine lv_aload_n hx hb dX5_advance_50 rfl (lv_at hl 0 rfl) ?_
      refine q_get X hK h_8 0 rfl rfl wf_5 2 (by decide) rfl wm_1_146 dX5_advance_51 ?_
      refine lv_bipush (v := 27) hx hb dX5_advance_54 (by decide) ?_
      refine lv_icmp_ne (tgt := 80) hx hb dX5_advance_56 (by decide) (fun c_9 => ?_) (fun c_9 => ?_)
      · replace c_9 := i_ne (x := z_6) (y := 27) rfl (show (27 : Int32).toInt = 27 by decide) c_9
        exact q_vret X hr hlk hK h_8 (fun _ => 0, (vcons (fun _ => z_4) (vcons (fun _ => z_6) (vcons (fun _ => p2) (vcons (fun _ => p3) (fun _ => (fun _ => 0)))))), fun _ _ => 0) ⟨(⟨by omega, by omega⟩ : (-1) ≤ (z_4 : Int32).toInt ∧ (z_4 : Int32).toInt ≤ 900), (⟨by omega, by omega⟩ : (-2147483648) ≤ (z_6 : Int32).toInt ∧ (z_6 : Int32).toInt ≤ 2147483647), hp2, hp3, (show 0 ≤ (z_4 : Int32).toInt ∧ (z_4 : Int32).toInt < (p7 : Int32).toInt from by (first | (clear hpre1 hpre2; omega) | omega)), (show (p2 : Int32).toInt ≠ 0 ∨ (z_4 : Int32).toInt = (p0 : Int32).toInt + 1 ∨ ((z_4 : Int32).toInt = (p0 : Int32).toInt ∧ (p7 : Int32).toInt ≤ (p0 : Int32).toInt + 1) from by (first | (clear hpre1 hpre2; omega) | omega)), (show (p2 : Int32).toInt ≠ 0 ∨ (p2 : Int32).toInt = 0 from (ne_or _)), (show (p0 : Int32).toInt ≤ (z_4 : Int32).toInt from by (first | (clear hpre1 hpre2; omega) | omega)), (show ((p2 : Int32).toInt ≠ 0 ∨ (z_6 : Int32).toInt = 26 ∨ (z_6 : Int32).toInt = 27 ∨ (z_4 : Int32).toInt + 1 < (p7 : Int32).toInt) ∨ ((z_4 : Int32).toInt = (p0 : Int32).toInt ∧ (z_6 : Int32).toInt = (p1 : Int32).toInt ∧ (p2 : Int32).toInt = (p2 : Int32).toInt) from by (first | (clear hpre1 hpre2; omega) | omega)), (show (p2 : Int32).toInt = 0 ∨ (z_6 : Int32).toInt = 27 from by (first | (clear hpre1 hpre2; omega) | omega)), (show ADVR f0 f1 (p7 : Int32).toInt (p0 : Int32).toInt (p1 : Int32).toInt (p2 : Int32).toInt (p3 : Int32).toInt (z_4 : Int32).toInt (z_6 : Int32).toInt (p2 : Int32).toInt (p3 : Int32).toInt from Or.inr (Or.inr ⟨(by (first | assumption | (clear hpre1 hpre2; omega) | omega)), (by (first | assumption | (clear hpre1 hpre2; omega) | omega)), (by (first | assumption | (clear hpre1 hpre2; omega) | omega)), Or.inr ⟨(by (first | assumption | (clear hpre1 hpre2; omega) | omega)), (congrArg Int32.toInt ez_6).symm, (by (first | assumption | (clear hpre1 hpre2; omega) | omega)), rfl⟩⟩)), trivial⟩ [0, 1, 2, 3] rfl rfl dX5_advance_80 (Nat.le_of_ble_eq_true rfl) (Nat.le_of_ble_eq_true rfl)
      · replace c_9 := i_eq (x := z_6) (y := 27) rfl (show (27 : Int32).toInt = 27 by decide) c_9
        refine lv_aload_n hx hb dX5_advance_59 rfl (lv_at hl 0 rfl) ?_
        refine lv_iconst (v := 1) hx hb dX5_advance_60 (by decide) ?_
        refine q_put (v := .int 1) X hK h_8 0 rfl rfl wf_5 tyX5 tyX5_ok nmX5 3 (by decide) wm_1_147 rfl rfl rfl (Nat.le_of_ble_eq_true rfl) dX5_advance_61 (fun H locs h_10 => ?_)
        clear h_8
        replace h_10 : qW D _ _ (wk_8964b4ae4 cy h0 h1 z_4 z_6 1 p3 w0 w1 p4 p5 h1 w2 p6 p7 h2 h3 w3 h2 f0 h3 f1) _ _ := h_10
        refine lv_aload_n hx hb dX5_advance_64 rfl (lv_at hl 0 rfl) ?_
        refine lv_aload_n hx hb dX5_advance_65 rfl (lv_at hl 0 rfl) ?_
        refine q_get X hK h_10 0 rfl rfl wf_5 0 (by decide) rfl wm_1_144 dX5_advance_66 ?_
        refine q_get X hK h_10 1 rfl rfl wf_8 4 (by decide) rfl wm_1_50 dX5_advance_69 ?_
        refine lv_aload_n hx hb dX5_advance_72 rfl (lv_at hl 0 rfl) ?_
        refine q_get X hK h_10 0 rfl rfl wf_5 1 (by decide) rfl wm_1_145 dX5_advance_73 ?_
        refine q_iald X hK h_10 3 rfl (i_in rfl (by omega) (by omega)) dX5_advance_76 ?_
        obtain ⟨z_11, ez_11, hz_11⟩ := e_any (f1 z_4.toNatClampNeg)
        refine q_c z_11 ez_11 ?_
        refine q_put (v := .int z_11) X hK h_10 0 rfl rfl wf_5 tyX5 tyX5_ok nmX5 4 (by decide) wm_1_149 rfl rfl rfl (Nat.le_of_ble_eq_true rfl) dX5_advance_77 (fun H locs h_12 => ?_)
        clear h_10
        replace h_12 : qW D _ _ (wk_8964b4ae4 cy h0 h1 z_4 z_6 1 z_11 w0 w1 p4 p5 h1 w2 p6 p7 h2 h3 w3 h2 f0 h3 f1) _ _ := h_12
        exact q_vret X hr hlk hK h_12 (fun _ => 0, (vcons (fun _ => z_4) (vcons (fun _ => z_6) (vcons (fun _ => 1) (vcons (fun _ => z_11) (fun _ => (fun _ => 0)))))), fun _ _ => 0) ⟨(⟨by omega, by omega⟩ : (-1) ≤ (z_4 : Int32).toInt ∧ (z_4 : Int32).toInt ≤ 900), (⟨by omega, by omega⟩ : (-2147483648) ≤ (z_6 : Int32).toInt ∧ (z_6 : Int32).toInt ≤ 2147483647), (⟨by decide +kernel, by decide +kernel⟩ : (-2147483648) ≤ (1 : Int32).toInt ∧ (1 : Int32).toInt ≤ 2147483647), (⟨by omega, by omega⟩ : (-2147483648) ≤ (z_11 : Int32).toInt ∧ (z_11 : Int32).toInt ≤ 2147483647), (show 0 ≤ (z_4 : Int32).toInt ∧ (z_4 : Int32).toInt < (p7 : Int32).toInt from by (first | (clear hpre1 hpre2; omega) | omega)), (show (p2 : Int32).toInt ≠ 0 ∨ (z_4 : Int32).toInt = (p0 : Int32).toInt + 1 ∨ ((z_4 : Int32).toInt = (p0 : Int32).toInt ∧ (p7 : Int32).toInt ≤ (p0 : Int32).toInt + 1) from by (first | (clear hpre1 hpre2; omega) | omega)), (show (1 : Int32).toInt ≠ 0 ∨ (p2 : Int32).toInt = 0 from by have q0 : (1 : Int32).toInt = 1 := (by decide); (first | (clear hpre1 hpre2; omega) | omega)), (show (p0 : Int32).toInt ≤ (z_4 : Int32).toInt from by (first | (clear hpre1 hpre2; omega) | omega)), (show ((1 : Int32).toInt ≠ 0 ∨ (z_6 : Int32).toInt = 26 ∨ (z_6 : Int32).toInt = 27 ∨ (z_4 : Int32).toInt + 1 < (p7 : Int32).toInt) ∨ ((z_4 : Int32).toInt = (p0 : Int32).toInt ∧ (z_6 : Int32).toInt = (p1 : Int32).toInt ∧ (1 : Int32).toInt = (p2 : Int32).toInt) from by have q0 : (1 : Int32).toInt = 1 := (by decide); (first | (clear hpre1 hpre2; omega) | omega)), (show (1 : Int32).toInt = 0 ∨ (z_6 : Int32).toInt = 27 from by have q0 : (1 : Int32).toInt = 1 := (by decide); (first | (clear hpre1 hpre2; omega) | omega)), (show ADVR f0 f1 (p7 : Int32).toInt (p0 : Int32).toInt (p1 : Int32).toInt (p2 : Int32).toInt (p3 : Int32).toInt (z_4 : Int32).toInt (z_6 : Int32).toInt (1 : Int32).toInt (z_11 : Int32).toInt from Or.inr (Or.inr ⟨(by (first | assumption | (clear hpre1 hpre2; omega) | omega)), (by (first | assumption | (clear hpre1 hpre2; omega) | omega)), (by (first | assumption | (clear hpre1 hpre2; omega) | omega)), Or.inl ⟨(by (first | assumption | (clear hpre1 hpre2; omega) | omega)), by decide, (congrArg Int32.toInt ez_11).symm, (congrArg Int32.toInt ez_6).trans (by (first | assumption | (clear hpre1 hpre2; omega) | omega))⟩⟩)), trivial⟩ [0, 1, 2, 3] rfl rfl dX5_advance_80 (Nat.le_of_ble_eq_true rfl) (Nat.le_of_ble_eq_true rfl)
    · replace c_3 := i_nlt (x := z_2) (y := p7) rfl rfl c_3
      exact q_vret X hr hlk hK h (fun _ => 0, (vcons (fun _ => p0) (vcons (fun _ => p1) (vcons (fun _ => p2) (vcons (fun _ => p3) (fun _ => (fun _ => 0)))))), fun _ _ => 0) ⟨hp0, hp1, hp2, hp3, (show 0 ≤ (p0 : Int32).toInt ∧ (p0 : Int32).toInt < (p7 : Int32).toInt from by (first | (clear hpre1 hpre2; omega) | omega)), (show (p2 : Int32).toInt ≠ 0 ∨ (p0 : Int32).toInt = (p0 : Int32).toInt + 1 ∨ ((p0 : Int32).toInt = (p0 : Int32).toInt ∧ (p7 : Int32).toInt ≤ (p0 : Int32).toInt + 1) from by (first | (clear hpre1 hpre2; omega) | omega)), (show (p2 : Int32).toInt ≠ 0 ∨ (p2 : Int32).toInt = 0 from (ne_or _)), (show (p0 : Int32).toInt ≤ (p0 : Int32).toInt from (Int.le_refl _)), (show ((p2 : Int32).toInt ≠ 0 ∨ (p1 : Int32).toInt = 26 ∨ (p1 : Int32).toInt = 27 ∨ (p0 : Int32).toInt + 1 < (p7 : Int32).toInt) ∨ ((p0 : Int32).toInt = (p0 : Int32).toInt ∧ (p1 : Int32).toInt = (p1 : Int32).toInt ∧ (p2 : Int32).toInt = (p2 : Int32).toInt) from by (first | (clear hpre1 hpre2; omega) | omega)), hpre1, (show ADVR f0 f1 (p7 : Int32).toInt (p0 : Int32).toInt (p1 : Int32).toInt (p2 : Int32).toInt (p3 : Int32).toInt (p0 : Int32).toInt (p1 : Int32).toInt (p2 : Int32).toInt (p3 : Int32).toInt from by first | exact Or.inl ⟨(by (first | assumption | (clear hpre1 hpre2; omega) | omega)), rfl, rfl, rfl, rfl⟩ | exact Or.inr (Or.inl ⟨(by (first | assumption | (clear hpre1 hpre2; omega) | omega)), (by (first | assumption | (clear hpre1 hpre2; omega) | omega)), rfl, rfl, rfl, rfl⟩)), trivial⟩ [0, 1, 2, 3] rfl rfl dX5_advance_23 (Nat.le_of_ble_eq_true rfl) (Nat.le_of_ble_eq_true rfl)
set_option maxHeartbeats 4000000 in
set_option maxRecDepth 100000 in
theorem gX5_refuse_067fcff (l : Launch) (D : va_G) (cy : Nat → ClassId) (h0 : Nat) (h1 : Nat) (h2 : Nat) (p0 : Int32) (p1 : Int32) (p2 : Int32) (p3 : Int32) (w0 : Value) (w1 : Value) (p4 : Int32) (p5 : Int32) (w2 : Value) (p6 : Int32) (p7 : Int32) (w3 : Value) (w4 : Value) (f0 : Nat → Int32) (hp0 : (-1) ≤ (p0).toInt ∧ (p0).toInt ≤ 900) (hp1 : (-2147483648) ≤ (p1).toInt ∧ (p1).toInt ≤ 2147483647) (hp2 : (-2147483648) ≤ (p2).toInt ∧ (p2).toInt ≤ 2147483647) (hp3 : (-2147483648) ≤ (p3).toInt ∧ (p3).toInt ≤ 2147483647) (hp4 : 0 ≤ (p4).toInt ∧ (p4).toInt ≤ 900) (hp5 : (-2147483648) ≤ (p5).toInt ∧ (p5).toInt ≤ 2147483647) (hp6 : 0 ≤ (p6).toInt ∧ (p6).toInt ≤ 900) (hp7 : 0 ≤ (p7).toInt ∧ (p7).toInt ≤ 901) (hpre0 : 0 ≤ (p0 : Int32).toInt ∧ (p0 : Int32).toInt < (p7 : Int32).toInt) (hpre1 : (p2 : Int32).toInt = 0 ∨ (p1 : Int32).toInt = 27) (hpre2 : 1 ≤ (2 : Int32).toInt) (sz : Nat) : MV l yX5_refuse cX5_refuse 2 { frames := 0, cells := 0, slots := 0, locals := 0 } [.ref h0, .int 2] D cy (wk_5bbb9e4d3 cy h0 h1 p0 p1 p2 p3 w0 w1 p4 p5 h1 w2 p6 p7 w3 h2 w4 h2 f0) sz (fun u => ((-2147483648) ≤ (u.2.1 0 0).toInt ∧ (u.2.1 0 0).toInt ≤ 2147483647) ∧ ((-2147483648) ≤ (u.2.1 1 0).toInt ∧ (u.2.1 1 0).toInt ≤ 2147483647) ∧ ((-2147483648) ≤ (u.2.1 2 0).toInt ∧ (u.2.1 2 0).toInt ≤ 2147483647) ∧ (((u.2.1 1 0) : Int32).toInt ≠ 0) ∧ (((u.2.1 1 0) : Int32).toInt = 0 ∨ ((u.2.1 0 0) : Int32).toInt = 27) ∧ (∀ (kk vv : Nat → Int32), SIM kk f0 vv (p7 : Int32).toInt (fun b n i => er b n 2 i) (p0 : Int32).toInt (p1 : Int32).toInt (p2 : Int32).toInt (p3 : Int32).toInt (p0 : Int32).toInt ((u.2.1 0 0) : Int32).toInt ((u.2.1 1 0) : Int32).toInt ((u.2.1 2 0) : Int32).toInt) ∧ True) (fun u => (wk_5bbb9e4d3 cy h0 h1 p0 (u.2.1 0 0) (u.2.1 1 0) (u.2.1 2 0) w0 w1 p4 p5 h1 w2 p6 p7 w3 h2 w4 h2 f0)) 0 0 := by
  refine q_ent (own := RX5) (by decide) rfl (Nat.le_of_ble_eq_true rfl) (fun p e s m below meth c ls X hr hlk hnm hK hT h hA hl => ?_)
  obtain ⟨hx, hb, hml, hown, ht⟩ := id X
  replace hl : lv_has ls 2 [(0, .ref h0), (1, .int 2)] := hl
  refine lv_aload_n hx hb dX5_refuse_0 rfl (lv_at hl 0 rfl) ?_
  refine q_get X hK h 0 rfl rfl wf_5 3 (by decide) rfl wm_1_147 dX5_refuse_1 ?_
  refine lv_if_ne (tgt := 34) hx hb dX5_refuse_4 (by decide) (fun c_1 => ?_) (fun c_1 => ?_)
  · replace c_1 := i_ne (x := p2) (y := 0) rfl (show (0 : Int32).toInt = 0 by decide) c_1
    exact q_vret X hr hlk hK h (fun _ => 0, (vcons (fun _ => p1) (vcons (fun _ => p2) (vcons (fun _ => p3) (fun _ => (fun _ => 0))))), fun _ _ => 0) ⟨hp1, hp2, hp3, (show (p2 : Int32).toInt ≠ 0 from by (first | (clear hpre1; omega) | omega)), hpre1, (show ∀ (kk vv : Nat → Int32), SIM kk f0 vv (p7 : Int32).toInt (fun b n i => er b n 2 i) (p0 : Int32).toInt (p1 : Int32).toInt (p2 : Int32).toInt (p3 : Int32).toInt (p0 : Int32).toInt (p1 : Int32).toInt (p2 : Int32).toInt (p3 : Int32).toInt from fun _ _ => sim_bad (by (first | assumption | (clear hpre1; omega) | omega))), trivial⟩ [0, 1, 2] rfl rfl dX5_refuse_34 (Nat.le_of_ble_eq_true rfl) (Nat.le_of_ble_eq_true rfl)
  · replace c_1 := i_eq (x := p2) (y := 0) rfl (show (0 : Int32).toInt = 0 by decide) c_1
    refine lv_aload_n hx hb dX5_refuse_7 rfl (lv_at hl 0 rfl) ?_
    refine lv_iload_n hx hb dX5_refuse_8 rfl (lv_at hl 1 rfl) ?_
    refine q_put (v := .int 2) X hK h 0 rfl rfl wf_5 tyX5 tyX5_ok nmX5 3 (by decide) wm_1_147 rfl rfl rfl (Nat.le_of_ble_eq_true rfl) dX5_refuse_9 (fun H locs h_2 => ?_)
    clear h
    replace h_2 : qW D _ _ (wk_5bbb9e4d3 cy h0 h1 p0 p1 2 p3 w0 w1 p4 p5 h1 w2 p6 p7 w3 h2 w4 h2 f0) _ _ := h_2
    refine lv_aload_n hx hb dX5_refuse_12 rfl (lv_at hl 0 rfl) ?_
    refine lv_aload_n hx hb dX5_refuse_13 rfl (lv_at hl 0 rfl) ?_
    refine q_get X hK h_2 0 rfl rfl wf_5 0 (by decide) rfl wm_1_144 dX5_refuse_14 ?_
    refine q_get X hK h_2 1 rfl rfl wf_8 4 (by decide) rfl wm_1_50 dX5_refuse_17 ?_
    refine lv_aload_n hx hb dX5_refuse_20 rfl (lv_at hl 0 rfl) ?_
    refine q_get X hK h_2 0 rfl rfl wf_5 1 (by decide) rfl wm_1_145 dX5_refuse_21 ?_
    refine q_iald X hK h_2 2 rfl (i_in rfl (by omega) (by omega)) dX5_refuse_24 ?_
    obtain ⟨z_3, ez_3, hz_3⟩ := e_any (f0 p0.toNatClampNeg)
    refine q_c z_3 ez_3 ?_
    refine q_put (v := .int z_3) X hK h_2 0 rfl rfl wf_5 tyX5 tyX5_ok nmX5 4 (by decide) wm_1_149 rfl rfl rfl (Nat.le_of_ble_eq_true rfl) dX5_refuse_25 (fun H locs h_4 => ?_)
    clear h_2
    replace h_4 : qW D _ _ (wk_5bbb9e4d3 cy h0 h1 p0 p1 2 z_3 w0 w1 p4 p5 h1 w2 p6 p7 w3 h2 w4 h2 f0) _ _ := h_4
    refine lv_aload_n hx hb dX5_refuse_28 rfl (lv_at hl 0 rfl) ?_
    refine lv_bipush (v := 27) hx hb dX5_refuse_29 (by decide) ?_
    refine q_put (v := .int 27) X hK h_4 0 rfl rfl wf_5 tyX5 tyX5_ok nmX5 2 (by decide) wm_1_146 rfl rfl rfl (Nat.le_of_ble_eq_true rfl) dX5_refuse_31 (fun H locs h_5 => ?_)
    clear h_4
    replace h_5 : qW D _ _ (wk_5bbb9e4d3 cy h0 h1 p0 27 2 z_3 w0 w1 p4 p5 h1 w2 p6 p7 w3 h2 w4 h2 f0) _ _ := h_5
    exact q_vret X hr hlk hK h_5 (fun _ => 0, (vcons (fun _ => 27) (vcons (fun _ => 2) (vcons (fun _ => z_3) (fun _ => (fun _ => 0))))), fun _ _ => 0) ⟨(⟨by decide +kernel, by decide +kernel⟩ : (-2147483648) ≤ (27 : Int32).toInt ∧ (27 : Int32).toInt ≤ 2147483647), (⟨by decide +kernel, by decide +kernel⟩ : (-2147483648) ≤ (2 : Int32).toInt ∧ (2 : Int32).toInt ≤ 2147483647), (⟨by omega, by omega⟩ : (-2147483648) ≤ (z_3 : Int32).toInt ∧ (z_3 : Int32).toInt ≤ 2147483647), (show (2 : Int32).toInt ≠ 0 from by have q0 : (2 : Int32).toInt = 2 := (by decide); (first | (clear hpre1; omega) | omega)), (show (2 : Int32).toInt = 0 ∨ (27 : Int32).toInt = 27 from by have q0 : (2 : Int32).toInt = 2 := (by decide); have q1 : (27 : Int32).toInt = 27 := (by decide); (first | (clear hpre1; omega) | omega)), (show ∀ (kk vv : Nat → Int32), SIM kk f0 vv (p7 : Int32).toInt (fun b n i => er b n 2 i) (p0 : Int32).toInt (p1 : Int32).toInt (p2 : Int32).toInt (p3 : Int32).toInt (p0 : Int32).toInt (27 : Int32).toInt (2 : Int32).toInt (z_3 : Int32).toInt from fun _ _ => sim_er (by (first | assumption | (clear hpre1; omega) | omega)) (by (first | assumption | (clear hpre1; omega) | omega)) (by (first | assumption | (clear hpre1; omega) | omega)) (by (first | assumption | (clear hpre1; omega) | omega)) (by decide) (congrArg Int32.toInt ez_3).symm (by decide)), trivial⟩ [0, 1, 2] rfl rfl dX5_refuse_34 (Nat.le_of_ble_eq_true rfl) (Nat.le_of_ble_eq_true rfl)
set_option maxHeartbeats 4000000 in
set_option maxRecDepth 100000 in
theorem gX5_take_4365b58 (l : Launch) (D : va_G) (cy : Nat → ClassId) (h0 : Nat) (h1 : Nat) (h2 : Nat) (h3 : Nat) (p0 : Int32) (p1 : Int32) (p2 : Int32) (p3 : Int32) (w0 : Value) (w1 : Value) (p4 : Int32) (p5 : Int32) (w2 : Value) (p6 : Int32) (p7 : Int32) (w3 : Value) (f0 : Nat → Int32) (f1 : Nat → Int32) (hp0 : (-1) ≤ (p0).toInt ∧ (p0).toInt ≤ 900) (hp1 : (-2147483648) ≤ (p1).toInt ∧ (p1).toInt ≤ 2147483647) (hp2 : (-2147483648) ≤ (p2).toInt ∧ (p2).toInt ≤ 2147483647) (hp3 : (-2147483648) ≤ (p3).toInt ∧ (p3).toInt ≤ 2147483647) (hp4 : 0 ≤ (p4).toInt ∧ (p4).toInt ≤ 900) (hp5 : (-2147483648) ≤ (p5).toInt ∧ (p5).toInt ≤ 2147483647) (hp6 : 0 ≤ (p6).toInt ∧ (p6).toInt ≤ 900) (hp7 : 0 ≤ (p7).toInt ∧ (p7).toInt ≤ 901) (hpre0 : KZ f0 (p7 : Int32).toInt) (hpre1 : 0 ≤ (p0 : Int32).toInt ∧ (p0 : Int32).toInt < (p7 : Int32).toInt) (hpre2 : (p2 : Int32).toInt ≠ 0 ∨ (p1 : Int32).toInt = 26 ∨ (p1 : Int32).toInt = 27 ∨ (p0 : Int32).toInt + 1 < (p7 : Int32).toInt) (hpre3 : (p2 : Int32).toInt = 0 ∨ (p1 : Int32).toInt = 27) (hpre4 : (59 : Int32).toInt ≠ 26 ∧ (59 : Int32).toInt ≠ 27) (sz : Nat) : MV l yX5_take cX5_take 2 { frames := 1, cells := 0, slots := 0, locals := 21 } [.ref h0, .int 59] D cy (wk_8964b4ae4 cy h0 h1 p0 p1 p2 p3 w0 w1 p4 p5 h1 w2 p6 p7 h2 h3 w3 h2 f0 h3 f1) sz (fun u => ((-2147483648) ≤ (u.2.1 0 0).toInt ∧ (u.2.1 0 0).toInt ≤ 2147483647) ∧ ((-2147483648) ≤ (u.2.1 1 0).toInt ∧ (u.2.1 1 0).toInt ≤ 2147483647) ∧ ((-2147483648) ≤ (u.2.1 2 0).toInt ∧ (u.2.1 2 0).toInt ≤ 2147483647) ∧ ((-1) ≤ (u.2.1 3 0).toInt ∧ (u.2.1 3 0).toInt ≤ 900) ∧ (0 ≤ ((u.2.1 3 0) : Int32).toInt ∧ ((u.2.1 3 0) : Int32).toInt < (p7 : Int32).toInt) ∧ (((u.2.1 1 0) : Int32).toInt ≠ 0 ∨ ((u.2.1 0 0) : Int32).toInt = 26 ∨ ((u.2.1 0 0) : Int32).toInt = 27 ∨ ((u.2.1 3 0) : Int32).toInt + 1 < (p7 : Int32).toInt) ∧ (((u.2.1 1 0) : Int32).toInt ≠ 0 ∨ ((u.2.1 3 0) : Int32).toInt = (p0 : Int32).toInt + 1) ∧ (((u.2.1 1 0) : Int32).toInt ≠ 0 ∨ (p2 : Int32).toInt = 0) ∧ (((u.2.1 1 0) : Int32).toInt = 0 ∨ ((u.2.1 0 0) : Int32).toInt = 27) ∧ ((p0 : Int32).toInt ≤ ((u.2.1 3 0) : Int32).toInt) ∧ (∀ vv : Nat → Int32, SIM f0 f1 vv (p7 : Int32).toInt (tak 59) (p0 : Int32).toInt (p1 : Int32).toInt (p2 : Int32).toInt (p3 : Int32).toInt ((u.2.1 3 0) : Int32).toInt ((u.2.1 0 0) : Int32).toInt ((u.2.1 1 0) : Int32).toInt ((u.2.1 2 0) : Int32).toInt) ∧ True) (fun u => (wk_8964b4ae4 cy h0 h1 (u.2.1 3 0) (u.2.1 0 0) (u.2.1 1 0) (u.2.1 2 0) w0 w1 p4 p5 h1 w2 p6 p7 h2 h3 w3 h2 f0 h3 f1)) 0 0 := by
  refine q_ent (own := RX5) (by decide) rfl (Nat.le_of_ble_eq_true rfl) (fun p e s m below meth c ls X hr hlk hnm hK hT h hA hl => ?_)
  obtain ⟨hx, hb, hml, hown, ht⟩ := id X
  replace hl : lv_has ls 2 [(0, .ref h0), (1, .int 59)] := hl
  refine lv_aload_n hx hb dX5_take_0 rfl (lv_at hl 0 rfl) ?_
  refine q_get X hK h 0 rfl rfl wf_5 2 (by decide) rfl wm_1_146 dX5_take_1 ?_
  refine lv_iload_n hx hb dX5_take_4 rfl (lv_at hl 1 rfl) ?_
  refine lv_icmp_ne (tgt := 15) hx hb dX5_take_5 (by decide) (fun c_1 => ?_) (fun c_1 => ?_)
  · replace c_1 := i_ne (x := p1) (y := 59) rfl (show (59 : Int32).toInt = 59 by decide) c_1
    refine lv_aload_n hx hb dX5_take_15 rfl (lv_at hl 0 rfl) ?_
    refine lv_iconst (v := 2) hx hb dX5_take_16 (by decide) ?_
    refine q_callVv (rest := []) (wr := [(h2, .inl (cy 1, 901, .inl f0))]) X hK hT hA h (fun sz => gX5_refuse_067fcff l D cy h0 h1 h3 p0 p1 p2 p3 w0 w1 p4 p5 w2 p6 p7 (.ref h2) w3 f1 hp0 (i_rng _) (i_rng _) (i_rng _) hp4 (i_rng _) hp6 hp7 (hpre1) (hpre3) (by have q0 : (2 : Int32).toInt = 2 := (by decide); (first | (clear hpre2 hpre3; omega) | omega)) sz) wm_3_76 wm_3_79 wm_1_2 hd_X5_refuse wm_3_78 wp_1_10 (ci := 5) (q0 := 0) rfl rfl ⟨Nat.le_of_ble_eq_true rfl, Nat.le_of_ble_eq_true rfl⟩ hl.1 rfl (Nat.le_of_ble_eq_true rfl) dX5_take_17 ⟨Nat.le_of_ble_eq_true rfl, Nat.le_of_ble_eq_true rfl⟩ [0, 1, 3] [2] rfl rfl (by decide) rfl rfl (fun u_2 H locs w_2 h_2 => ?_)
    clear h
    obtain ⟨w2_0, w2_1, w2_2, y2_0, y2_1, y2_2, _⟩ := w_2
    have lq_2_1 : (2 : Int32).toInt = 2 := (by decide)
    replace h_2 : qW D _ _ (wk_565e7035b cy h2 f0 h0 h1 p0 (u_2.2.1 0 0) (u_2.2.1 1 0) (u_2.2.1 2 0) w0 w1 p4 p5 h1 w2 p6 p7 h2 h3 w3 h3 f1) _ _ := h_2
    exact q_vret X hr hlk hK h_2 (fun _ => 0, (vcons (fun _ => (u_2.2.1 0 0)) (vcons (fun _ => (u_2.2.1 1 0)) (vcons (fun _ => (u_2.2.1 2 0)) (vcons (fun _ => p0) (fun _ => (fun _ => 0)))))), fun _ _ => 0) ⟨w2_0, w2_1, w2_2, hp0, hpre1, (show ((u_2.2.1 1 0) : Int32).toInt ≠ 0 ∨ ((u_2.2.1 0 0) : Int32).toInt = 26 ∨ ((u_2.2.1 0 0) : Int32).toInt = 27 ∨ (p0 : Int32).toInt + 1 < (p7 : Int32).toInt from by (first | (clear hpre2 hpre3 y2_1; omega) | omega)), (show ((u_2.2.1 1 0) : Int32).toInt ≠ 0 ∨ (p0 : Int32).toInt = (p0 : Int32).toInt + 1 from by (first | (clear hpre2 hpre3 y2_1; omega) | omega)), (show ((u_2.2.1 1 0) : Int32).toInt ≠ 0 ∨ (p2 : Int32).toInt = 0 from by (first | (clear hpre2 hpre3 y2_1; omega) | omega)), y2_1, (show (p0 : Int32).toInt ≤ (p0 : Int32).toInt from (Int.le_refl _)), (show ∀ vv : Nat → Int32, SIM f0 f1 vv (p7 : Int32).toInt (tak 59) (p0 : Int32).toInt (p1 : Int32).toInt (p2 : Int32).toInt (p3 : Int32).toInt (p0 : Int32).toInt ((u_2.2.1 0 0) : Int32).toInt ((u_2.2.1 1 0) : Int32).toInt ((u_2.2.1 2 0) : Int32).toInt from fun _ => sim_tk2 (by (first | assumption | (clear hpre2 hpre3 y2_1; omega) | omega)) (y2_2 _ _)), trivial⟩ [1, 2, 0, 3] rfl rfl dX5_take_20 (Nat.le_of_ble_eq_true rfl) (Nat.le_of_ble_eq_true rfl)
  · replace c_1 := i_eq (x := p1) (y := 59) rfl (show (59 : Int32).toInt = 59 by decide) c_1
    refine lv_aload_n hx hb dX5_take_8 rfl (lv_at hl 0 rfl) ?_
    refine q_callVv (rest := []) (wr := []) X hK hT hA h (fun sz => gX5_advance_9820dfe l D cy h0 h1 h2 h3 p0 p1 p2 p3 w0 w1 p4 p5 w2 p6 p7 w3 f0 f1 hp0 (i_rng _) (i_rng _) (i_rng _) hp4 (i_rng _) hp6 hp7 (hpre0) (hpre3) (by (first | (clear hpre2 hpre3; omega) | omega)) sz) wm_3_68 wm_3_71 wm_1_2 hd_X5_advance wm_3_70 wp_1_8 (ci := 5) (q0 := 0) rfl rfl ⟨Nat.le_of_ble_eq_true rfl, Nat.le_of_ble_eq_true rfl⟩ hl.1 rfl (Nat.le_of_ble_eq_true rfl) dX5_take_9 ⟨Nat.le_of_ble_eq_true rfl, Nat.le_of_ble_eq_true rfl⟩ [0, 1, 2, 3] [] rfl rfl (by decide) rfl rfl (fun u_3 H locs w_3 h_3 => ?_)
    clear h
    obtain ⟨w3_0, w3_1, w3_2, w3_3, y3_0, y3_1, y3_2, y3_3, y3_4, y3_5, y3_6, _⟩ := w_3
    replace h_3 : qW D _ _ (wk_8964b4ae4 cy h0 h1 (u_3.2.1 0 0) (u_3.2.1 1 0) (u_3.2.1 2 0) (u_3.2.1 3 0) w0 w1 p4 p5 h1 w2 p6 p7 h2 h3 w3 h2 f0 h3 f1) _ _ := h_3
    refine lv_goto (tgt := 20) hx hb dX5_take_12 (by decide) ?_
    exact q_vret X hr hlk hK h_3 (fun _ => 0, (vcons (fun _ => (u_3.2.1 1 0)) (vcons (fun _ => (u_3.2.1 2 0)) (vcons (fun _ => (u_3.2.1 3 0)) (vcons (fun _ => (u_3.2.1 0 0)) (fun _ => (fun _ => 0)))))), fun _ _ => 0) ⟨w3_1, w3_2, w3_3, w3_0, y3_0, (show ((u_3.2.1 2 0) : Int32).toInt ≠ 0 ∨ ((u_3.2.1 1 0) : Int32).toInt = 26 ∨ ((u_3.2.1 1 0) : Int32).toInt = 27 ∨ ((u_3.2.1 0 0) : Int32).toInt + 1 < (p7 : Int32).toInt from by (first | (clear hpre2 hpre3 y3_1 y3_2 y3_4 y3_5; omega) | omega)), (show ((u_3.2.1 2 0) : Int32).toInt ≠ 0 ∨ ((u_3.2.1 0 0) : Int32).toInt = (p0 : Int32).toInt + 1 from by (first | (clear hpre2 hpre3 y3_1 y3_2 y3_4 y3_5; omega) | omega)), y3_2, y3_5, y3_3, (show ∀ vv : Nat → Int32, SIM f0 f1 vv (p7 : Int32).toInt (tak 59) (p0 : Int32).toInt (p1 : Int32).toInt (p2 : Int32).toInt (p3 : Int32).toInt ((u_3.2.1 0 0) : Int32).toInt ((u_3.2.1 1 0) : Int32).toInt ((u_3.2.1 2 0) : Int32).toInt ((u_3.2.1 3 0) : Int32).toInt from fun _ => sim_tk1 (by (first | assumption | (clear hpre2 hpre3 y3_1 y3_2 y3_4 y3_5; omega) | omega)) (by (first | assumption | (clear hpre2 hpre3 y3_1 y3_2 y3_4 y3_5; omega) | omega)) y3_6 (by (first | assumption | (clear hpre2 hpre3 y3_1 y3_2 y3_4 y3_5; omega) | omega))), trivial⟩ [0, 1, 2, 3] rfl rfl dX5_take_20 (Nat.le_of_ble_eq_true rfl) (Nat.le_of_ble_eq_true rfl)
set_option maxHeartbeats 4000000 in
set_option maxRecDepth 100000 in
theorem gX5_refuse_3ecba60 (l : Launch) (D : va_G) (cy : Nat → ClassId) (h0 : Nat) (h1 : Nat) (h2 : Nat) (p0 : Int32) (p1 : Int32) (p2 : Int32) (p3 : Int32) (w0 : Value) (w1 : Value) (p4 : Int32) (p5 : Int32) (w2 : Value) (p6 : Int32) (p7 : Int32) (w3 : Value) (w4 : Value) (f0 : Nat → Int32) (hp0 : (-1) ≤ (p0).toInt ∧ (p0).toInt ≤ 900) (hp1 : (-2147483648) ≤ (p1).toInt ∧ (p1).toInt ≤ 2147483647) (hp2 : (-2147483648) ≤ (p2).toInt ∧ (p2).toInt ≤ 2147483647) (hp3 : (-2147483648) ≤ (p3).toInt ∧ (p3).toInt ≤ 2147483647) (hp4 : 0 ≤ (p4).toInt ∧ (p4).toInt ≤ 900) (hp5 : (-2147483648) ≤ (p5).toInt ∧ (p5).toInt ≤ 2147483647) (hp6 : 0 ≤ (p6).toInt ∧ (p6).toInt ≤ 900) (hp7 : 0 ≤ (p7).toInt ∧ (p7).toInt ≤ 901) (hpre0 : 0 ≤ (p0 : Int32).toInt ∧ (p0 : Int32).toInt < (p7 : Int32).toInt) (hpre1 : (p2 : Int32).toInt = 0 ∨ (p1 : Int32).toInt = 27) (hpre2 : 1 ≤ (3 : Int32).toInt) (sz : Nat) : MV l yX5_refuse cX5_refuse 2 { frames := 0, cells := 0, slots := 0, locals := 0 } [.ref h0, .int 3] D cy (wk_5bbb9e4d3 cy h0 h1 p0 p1 p2 p3 w0 w1 p4 p5 h1 w2 p6 p7 w3 h2 w4 h2 f0) sz (fun u => ((-2147483648) ≤ (u.2.1 0 0).toInt ∧ (u.2.1 0 0).toInt ≤ 2147483647) ∧ ((-2147483648) ≤ (u.2.1 1 0).toInt ∧ (u.2.1 1 0).toInt ≤ 2147483647) ∧ ((-2147483648) ≤ (u.2.1 2 0).toInt ∧ (u.2.1 2 0).toInt ≤ 2147483647) ∧ (((u.2.1 1 0) : Int32).toInt ≠ 0) ∧ (((u.2.1 1 0) : Int32).toInt = 0 ∨ ((u.2.1 0 0) : Int32).toInt = 27) ∧ (∀ (kk vv : Nat → Int32), SIM kk f0 vv (p7 : Int32).toInt (fun b n i => er b n 3 i) (p0 : Int32).toInt (p1 : Int32).toInt (p2 : Int32).toInt (p3 : Int32).toInt (p0 : Int32).toInt ((u.2.1 0 0) : Int32).toInt ((u.2.1 1 0) : Int32).toInt ((u.2.1 2 0) : Int32).toInt) ∧ True) (fun u => (wk_5bbb9e4d3 cy h0 h1 p0 (u.2.1 0 0) (u.2.1 1 0) (u.2.1 2 0) w0 w1 p4 p5 h1 w2 p6 p7 w3 h2 w4 h2 f0)) 0 0 := by
  refine q_ent (own := RX5) (by decide) rfl (Nat.le_of_ble_eq_true rfl) (fun p e s m below meth c ls X hr hlk hnm hK hT h hA hl => ?_)
  obtain ⟨hx, hb, hml, hown, ht⟩ := id X
  replace hl : lv_has ls 2 [(0, .ref h0), (1, .int 3)] := hl
  refine lv_aload_n hx hb dX5_refuse_0 rfl (lv_at hl 0 rfl) ?_
  refine q_get X hK h 0 rfl rfl wf_5 3 (by decide) rfl wm_1_147 dX5_refuse_1 ?_
  refine lv_if_ne (tgt := 34) hx hb dX5_refuse_4 (by decide) (fun c_1 => ?_) (fun c_1 => ?_)
  · replace c_1 := i_ne (x := p2) (y := 0) rfl (show (0 : Int32).toInt = 0 by decide) c_1
    exact q_vret X hr hlk hK h (fun _ => 0, (vcons (fun _ => p1) (vcons (fun _ => p2) (vcons (fun _ => p3) (fun _ => (fun _ => 0))))), fun _ _ => 0) ⟨hp1, hp2, hp3, (show (p2 : Int32).toInt ≠ 0 from by (first | (clear hpre1; omega) | omega)), hpre1, (show ∀ (kk vv : Nat → Int32), SIM kk f0 vv (p7 : Int32).toInt (fun b n i => er b n 3 i) (p0 : Int32).toInt (p1 : Int32).toInt (p2 : Int32).toInt (p3 : Int32).toInt (p0 : Int32).toInt (p1 : Int32).toInt (p2 : Int32).toInt (p3 : Int32).toInt from fun _ _ => sim_bad (by (first | assumption | (clear hpre1; omega) | omega))), trivial⟩ [0, 1, 2] rfl rfl dX5_refuse_34 (Nat.le_of_ble_eq_true rfl) (Nat.le_of_ble_eq_true rfl)
  · replace c_1 := i_eq (x := p2) (y := 0) rfl (show (0 : Int32).toInt = 0 by decide) c_1
    refine lv_aload_n hx hb dX5_refuse_7 rfl (lv_at hl 0 rfl) ?_
    refine lv_iload_n hx hb dX5_refuse_8 rfl (lv_at hl 1 rfl) ?_
    refine q_put (v := .int 3) X hK h 0 rfl rfl wf_5 tyX5 tyX5_ok nmX5 3 (by decide) wm_1_147 rfl rfl rfl (Nat.le_of_ble_eq_true rfl) dX5_refuse_9 (fun H locs h_2 => ?_)
    clear h
    replace h_2 : qW D _ _ (wk_5bbb9e4d3 cy h0 h1 p0 p1 3 p3 w0 w1 p4 p5 h1 w2 p6 p7 w3 h2 w4 h2 f0) _ _ := h_2
    refine lv_aload_n hx hb dX5_refuse_12 rfl (lv_at hl 0 rfl) ?_
    refine lv_aload_n hx hb dX5_refuse_13 rfl (lv_at hl 0 rfl) ?_
    refine q_get X hK h_2 0 rfl rfl wf_5 0 (by decide) rfl wm_1_144 dX5_refuse_14 ?_
    refine q_get X hK h_2 1 rfl rfl wf_8 4 (by decide) rfl wm_1_50 dX5_refuse_17 ?_
    refine lv_aload_n hx hb dX5_refuse_20 rfl (lv_at hl 0 rfl) ?_
    refine q_get X hK h_2 0 rfl rfl wf_5 1 (by decide) rfl wm_1_145 dX5_refuse_21 ?_
    refine q_iald X hK h_2 2 rfl (i_in rfl (by omega) (by omega)) dX5_refuse_24 ?_
    obtain ⟨z_3, ez_3, hz_3⟩ := e_any (f0 p0.toNatClampNeg)
    refine q_c z_3 ez_3 ?_
    refine q_put (v := .int z_3) X hK h_2 0 rfl rfl wf_5 tyX5 tyX5_ok nmX5 4 (by decide) wm_1_149 rfl rfl rfl (Nat.le_of_ble_eq_true rfl) dX5_refuse_25 (fun H locs h_4 => ?_)
    clear h_2
    replace h_4 : qW D _ _ (wk_5bbb9e4d3 cy h0 h1 p0 p1 3 z_3 w0 w1 p4 p5 h1 w2 p6 p7 w3 h2 w4 h2 f0) _ _ := h_4
    refine lv_aload_n hx hb dX5_refuse_28 rfl (lv_at hl 0 rfl) ?_
    refine lv_bipush (v := 27) hx hb dX5_refuse_29 (by decide) ?_
    refine q_put (v := .int 27) X hK h_4 0 rfl rfl wf_5 tyX5 tyX5_ok nmX5 2 (by decide) wm_1_146 rfl rfl rfl (Nat.le_of_ble_eq_true rfl) dX5_refuse_31 (fun H locs h_5 => ?_)
    clear h_4
    replace h_5 : qW D _ _ (wk_5bbb9e4d3 cy h0 h1 p0 27 3 z_3 w0 w1 p4 p5 h1 w2 p6 p7 w3 h2 w4 h2 f0) _ _ := h_5
    exact q_vret X hr hlk hK h_5 (fun _ => 0, (vcons (fun _ => 27) (vcons (fun _ => 3) (vcons (fun _ => z_3) (fun _ => (fun _ => 0))))), fun _ _ => 0) ⟨(⟨by decide +kernel, by decide +kernel⟩ : (-2147483648) ≤ (27 : Int32).toInt ∧ (27 : Int32).toInt ≤ 2147483647), (⟨by decide +kernel, by decide +kernel⟩ : (-2147483648) ≤ (3 : Int32).toInt ∧ (3 : Int32).toInt ≤ 2147483647), (⟨by omega, by omega⟩ : (-2147483648) ≤ (z_3 : Int32).toInt ∧ (z_3 : Int32).toInt ≤ 2147483647), (show (3 : Int32).toInt ≠ 0 from by have q0 : (3 : Int32).toInt = 3 := (by decide); (first | (clear hpre1; omega) | omega)), (show (3 : Int32).toInt = 0 ∨ (27 : Int32).toInt = 27 from by have q0 : (3 : Int32).toInt = 3 := (by decide); have q1 : (27 : Int32).toInt = 27 := (by decide); (first | (clear hpre1; omega) | omega)), (show ∀ (kk vv : Nat → Int32), SIM kk f0 vv (p7 : Int32).toInt (fun b n i => er b n 3 i) (p0 : Int32).toInt (p1 : Int32).toInt (p2 : Int32).toInt (p3 : Int32).toInt (p0 : Int32).toInt (27 : Int32).toInt (3 : Int32).toInt (z_3 : Int32).toInt from fun _ _ => sim_er (by (first | assumption | (clear hpre1; omega) | omega)) (by (first | assumption | (clear hpre1; omega) | omega)) (by (first | assumption | (clear hpre1; omega) | omega)) (by (first | assumption | (clear hpre1; omega) | omega)) (by decide) (congrArg Int32.toInt ez_3).symm (by decide)), trivial⟩ [0, 1, 2] rfl rfl dX5_refuse_34 (Nat.le_of_ble_eq_true rfl) (Nat.le_of_ble_eq_true rfl)
set_option maxHeartbeats 4000000 in
set_option maxRecDepth 100000 in
theorem gX5_takeNumber_68d9e2c (l : Launch) (D : va_G) (cy : Nat → ClassId) (h0 : Nat) (h1 : Nat) (h2 : Nat) (h3 : Nat) (h4 : Nat) (p0 : Int32) (p1 : Int32) (p2 : Int32) (p3 : Int32) (w0 : Value) (w1 : Value) (p4 : Int32) (p5 : Int32) (w2 : Value) (p6 : Int32) (p7 : Int32) (f0 : Nat → Int32) (f1 : Nat → Int32) (f2 : Nat → Int32) (hp0 : (-1) ≤ (p0).toInt ∧ (p0).toInt ≤ 900) (hp1 : (-2147483648) ≤ (p1).toInt ∧ (p1).toInt ≤ 2147483647) (hp2 : (-2147483648) ≤ (p2).toInt ∧ (p2).toInt ≤ 2147483647) (hp3 : (-2147483648) ≤ (p3).toInt ∧ (p3).toInt ≤ 2147483647) (hp4 : 0 ≤ (p4).toInt ∧ (p4).toInt ≤ 900) (hp5 : (-2147483648) ≤ (p5).toInt ∧ (p5).toInt ≤ 2147483647) (hp6 : 0 ≤ (p6).toInt ∧ (p6).toInt ≤ 900) (hp7 : 0 ≤ (p7).toInt ∧ (p7).toInt ≤ 901) (hpre0 : KZ f0 (p7 : Int32).toInt) (hpre1 : 0 ≤ (p0 : Int32).toInt ∧ (p0 : Int32).toInt < (p7 : Int32).toInt) (hpre2 : (p2 : Int32).toInt ≠ 0 ∨ (p1 : Int32).toInt = 26 ∨ (p1 : Int32).toInt = 27 ∨ (p0 : Int32).toInt + 1 < (p7 : Int32).toInt) (hpre3 : (p2 : Int32).toInt = 0 ∨ (p1 : Int32).toInt = 27) (sz : Nat) : MI l yX5_takeNumber cX5_takeNumber 4 .int { frames := 1, cells := 0, slots := 0, locals := 21 } [.ref h0, .int 1, .int 3] D cy (wk_aa6ee0650 cy h0 h1 p0 p1 p2 p3 w0 w1 p4 p5 h1 w2 p6 p7 h2 h3 h4 h2 f0 h3 f1 h4 f2) sz (fun r u => (1 ≤ r.toInt ∧ r.toInt ≤ 3) ∧ ((-2147483648) ≤ (u.2.1 0 0).toInt ∧ (u.2.1 0 0).toInt ≤ 2147483647) ∧ ((-2147483648) ≤ (u.2.1 1 0).toInt ∧ (u.2.1 1 0).toInt ≤ 2147483647) ∧ ((-2147483648) ≤ (u.2.1 2 0).toInt ∧ (u.2.1 2 0).toInt ≤ 2147483647) ∧ ((-1) ≤ (u.2.1 3 0).toInt ∧ (u.2.1 3 0).toInt ≤ 900) ∧ (0 ≤ ((u.2.1 3 0) : Int32).toInt ∧ ((u.2.1 3 0) : Int32).toInt < (p7 : Int32).toInt) ∧ (((u.2.1 1 0) : Int32).toInt ≠ 0 ∨ ((u.2.1 0 0) : Int32).toInt = 26 ∨ ((u.2.1 0 0) : Int32).toInt = 27 ∨ ((u.2.1 3 0) : Int32).toInt + 1 < (p7 : Int32).toInt) ∧ (((u.2.1 1 0) : Int32).toInt ≠ 0 ∨ ((u.2.1 3 0) : Int32).toInt = (p0 : Int32).toInt + 1) ∧ (((u.2.1 1 0) : Int32).toInt ≠ 0 ∨ (p2 : Int32).toInt = 0) ∧ (((u.2.1 1 0) : Int32).toInt = 0 ∨ ((u.2.1 0 0) : Int32).toInt = 27) ∧ ((p0 : Int32).toInt ≤ ((u.2.1 3 0) : Int32).toInt) ∧ (SIM f0 f1 f2 (p7 : Int32).toInt (num 1 3) (p0 : Int32).toInt (p1 : Int32).toInt (p2 : Int32).toInt (p3 : Int32).toInt ((u.2.1 3 0) : Int32).toInt ((u.2.1 0 0) : Int32).toInt ((u.2.1 1 0) : Int32).toInt ((u.2.1 2 0) : Int32).toInt) ∧ (NMP ((u.2.1 1 0) : Int32).toInt (p1 : Int32).toInt (r : Int32).toInt (f2 ((p0 : Int32).toInt).toNat).toInt) ∧ True) (fun u => (wk_aa6ee0650 cy h0 h1 (u.2.1 3 0) (u.2.1 0 0) (u.2.1 1 0) (u.2.1 2 0) w0 w1 p4 p5 h1 w2 p6 p7 h2 h3 h4 h2 f0 h3 f1 h4 f2)) 0 0 := by
  refine q_ent (own := RX5) (by decide) rfl (Nat.le_of_ble_eq_true rfl) (fun p e s m below meth c ls X hr hlk hnm hK hT h hA hl => ?_)
  obtain ⟨hx, hb, hml, hown, ht⟩ := id X
  replace hl : lv_has ls 4 [(0, .ref h0), (1, .int 1), (2, .int 3)] := hl
  refine lv_aload_n hx hb dX5_takeNumber_0 rfl (lv_at hl 0 rfl) ?_
  refine q_get X hK h 0 rfl rfl wf_5 2 (by decide) rfl wm_1_146 dX5_takeNumber_1 ?_
  refine lv_bipush (v := 25) hx hb dX5_takeNumber_4 (by decide) ?_
  refine lv_icmp_eq (tgt := 16) hx hb dX5_takeNumber_6 (by decide) (fun c_1 => ?_) (fun c_1 => ?_)
  · replace c_1 := i_eq (x := p1) (y := 25) rfl (show (25 : Int32).toInt = 25 by decide) c_1
    refine lv_aload_n hx hb dX5_takeNumber_16 rfl (lv_at hl 0 rfl) ?_
    refine q_get X hK h 0 rfl rfl wf_5 0 (by decide) rfl wm_1_144 dX5_takeNumber_17 ?_
    refine q_get X hK h 1 rfl rfl wf_8 5 (by decide) rfl wm_1_52 dX5_takeNumber_20 ?_
    refine lv_aload_n hx hb dX5_takeNumber_23 rfl (lv_at hl 0 rfl) ?_
    refine q_get X hK h 0 rfl rfl wf_5 1 (by decide) rfl wm_1_145 dX5_takeNumber_24 ?_
    refine q_iald X hK h 4 rfl (i_in rfl (by omega) (by omega)) dX5_takeNumber_27 ?_
    obtain ⟨z_2, ez_2, hz_2⟩ := e_any (f2 p0.toNatClampNeg)
    refine q_c z_2 ez_2 ?_
    refine lv_istore_n (lv' := [(3, .int z_2), (0, .ref h0), (1, .int 1), (2, .int 3)]) hx hb dX5_takeNumber_28 rfl hl (by decide) rfl (fun ls_3 hl_3 => ?_)
    clear hl
    refine lv_iload_n hx hb dX5_takeNumber_29 rfl (lv_at hl_3 0 rfl) ?_
    refine lv_iload_n hx hb dX5_takeNumber_30 rfl (lv_at hl_3 2 rfl) ?_
    refine lv_icmp_lt (tgt := 39) hx hb dX5_takeNumber_31 (by decide) (fun c_4 => ?_) (fun c_4 => ?_)
    · replace c_4 := i_lt (x := z_2) (y := 1) rfl (show (1 : Int32).toInt = 1 by decide) c_4
      refine lv_aload_n hx hb dX5_takeNumber_39 rfl (lv_at hl_3 1 rfl) ?_
      refine lv_iconst (v := 3) hx hb dX5_takeNumber_40 (by decide) ?_
      refine q_callVv (rest := []) (wr := (wk_5f0ef36a6 cy h2 f0 h4 f2)) X hK hT hA h (fun sz => gX5_refuse_3ecba60 l D cy h0 h1 h3 p0 p1 p2 p3 w0 w1 p4 p5 w2 p6 p7 (.ref h2) (.ref h4) f1 hp0 (i_rng _) (i_rng _) (i_rng _) hp4 (i_rng _) hp6 hp7 (hpre1) (hpre3) (by have q0 : (3 : Int32).toInt = 3 := (by decide); (first | (clear hpre2 hpre3; omega) | omega)) sz) wm_3_76 wm_3_79 wm_1_2 hd_X5_refuse wm_3_78 wp_1_10 (ci := 5) (q0 := 0) rfl rfl ⟨Nat.le_of_ble_eq_true rfl, Nat.le_of_ble_eq_true rfl⟩ hl_3.1 rfl (Nat.le_of_ble_eq_true rfl) dX5_takeNumber_41 ⟨Nat.le_of_ble_eq_true rfl, Nat.le_of_ble_eq_true rfl⟩ [0, 1, 3] [2, 4] rfl rfl (by decide) rfl rfl (fun u_5 H locs w_5 h_5 => ?_)
      clear h
      obtain ⟨w5_0, w5_1, w5_2, y5_0, y5_1, y5_2, _⟩ := w_5
      have lq_5_1 : (3 : Int32).toInt = 3 := (by decide)
      replace h_5 : qW D _ _ (wk_1a85a4215 cy h2 f0 h4 f2 h0 h1 p0 (u_5.2.1 0 0) (u_5.2.1 1 0) (u_5.2.1 2 0) w0 w1 p4 p5 h1 w2 p6 p7 h2 h3 h4 h3 f1) _ _ := h_5
      refine lv_iload_n hx hb dX5_takeNumber_44 rfl (lv_at hl_3 2 rfl) ?_
      exact q_iret X hr hlk hK h_5 rfl (fun _ => 0, (vcons (fun _ => (u_5.2.1 0 0)) (vcons (fun _ => (u_5.2.1 1 0)) (vcons (fun _ => (u_5.2.1 2 0)) (vcons (fun _ => p0) (fun _ => (fun _ => 0)))))), fun _ _ => 0) ⟨⟨by decide +kernel, by decide +kernel⟩, w5_0, w5_1, w5_2, hp0, hpre1, (show ((u_5.2.1 1 0) : Int32).toInt ≠ 0 ∨ ((u_5.2.1 0 0) : Int32).toInt = 26 ∨ ((u_5.2.1 0 0) : Int32).toInt = 27 ∨ (p0 : Int32).toInt + 1 < (p7 : Int32).toInt from by (first | (clear hpre2 hpre3 y5_1; omega) | omega)), (show ((u_5.2.1 1 0) : Int32).toInt ≠ 0 ∨ (p0 : Int32).toInt = (p0 : Int32).toInt + 1 from by (first | (clear hpre2 hpre3 y5_1; omega) | omega)), (show ((u_5.2.1 1 0) : Int32).toInt ≠ 0 ∨ (p2 : Int32).toInt = 0 from by (first | (clear hpre2 hpre3 y5_1; omega) | omega)), y5_1, (show (p0 : Int32).toInt ≤ (p0 : Int32).toInt from (Int.le_refl _)), (show SIM f0 f1 f2 (p7 : Int32).toInt (num 1 3) (p0 : Int32).toInt (p1 : Int32).toInt (p2 : Int32).toInt (p3 : Int32).toInt (p0 : Int32).toInt ((u_5.2.1 0 0) : Int32).toInt ((u_5.2.1 1 0) : Int32).toInt ((u_5.2.1 2 0) : Int32).toInt from sim_nm2 (by (first | assumption | (clear hpre2 hpre3 y5_1; omega) | omega)) (by (first | assumption | (clear hpre2 hpre3 y5_1; omega) | omega)) (by (first | assumption | (clear hpre2 hpre3 y5_1; omega) | omega)) (congrArg Int32.toInt ez_2).symm (by (first | assumption | (clear hpre2 hpre3 y5_1; omega) | omega)) (y5_2 _ _)), (show NMP ((u_5.2.1 1 0) : Int32).toInt (p1 : Int32).toInt (1 : Int32).toInt (f2 ((p0 : Int32).toInt).toNat).toInt from Or.inl (by (first | assumption | (clear hpre2 hpre3 y5_1; omega) | omega))), trivial⟩ [2, 3, 0, 4, 1] rfl rfl dX5_takeNumber_45 (Nat.le_of_ble_eq_true rfl) (Nat.le_of_ble_eq_true rfl)
    · replace c_4 := i_nlt (x := z_2) (y := 1) rfl (show (1 : Int32).toInt = 1 by decide) c_4
      refine lv_iload_n hx hb dX5_takeNumber_34 rfl (lv_at hl_3 0 rfl) ?_
      refine lv_iload_n hx hb dX5_takeNumber_35 rfl (lv_at hl_3 3 rfl) ?_
      refine lv_icmp_le (tgt := 46) hx hb dX5_takeNumber_36 (by decide) (fun c_6 => ?_) (fun c_6 => ?_)
      · replace c_6 := i_le (x := z_2) (y := 3) rfl (show (3 : Int32).toInt = 3 by decide) c_6
        refine lv_aload_n hx hb dX5_takeNumber_46 rfl (lv_at hl_3 1 rfl) ?_
        refine q_callVv (rest := []) (wr := [(h4, .inl (cy 1, 901, .inl f2))]) X hK hT hA h (fun sz => gX5_advance_9820dfe l D cy h0 h1 h2 h3 p0 p1 p2 p3 w0 w1 p4 p5 w2 p6 p7 (.ref h4) f0 f1 hp0 (i_rng _) (i_rng _) (i_rng _) hp4 (i_rng _) hp6 hp7 (hpre0) (hpre3) (by (first | (clear hpre2 hpre3; omega) | omega)) sz) wm_3_68 wm_3_71 wm_1_2 hd_X5_advance wm_3_70 wp_1_8 (ci := 5) (q0 := 0) rfl rfl ⟨Nat.le_of_ble_eq_true rfl, Nat.le_of_ble_eq_true rfl⟩ hl_3.1 rfl (Nat.le_of_ble_eq_true rfl) dX5_takeNumber_47 ⟨Nat.le_of_ble_eq_true rfl, Nat.le_of_ble_eq_true rfl⟩ [0, 1, 2, 3] [4] rfl rfl (by decide) rfl rfl (fun u_7 H locs w_7 h_7 => ?_)
        clear h
        obtain ⟨w7_0, w7_1, w7_2, w7_3, y7_0, y7_1, y7_2, y7_3, y7_4, y7_5, y7_6, _⟩ := w_7
        replace h_7 : qW D _ _ (wk_84183f5c8 cy h4 f2 h0 h1 (u_7.2.1 0 0) (u_7.2.1 1 0) (u_7.2.1 2 0) (u_7.2.1 3 0) w0 w1 p4 p5 h1 w2 p6 p7 h2 h3 h4 h2 f0 h3 f1) _ _ := h_7
        refine lv_iload_n hx hb dX5_takeNumber_50 rfl (lv_at hl_3 0 rfl) ?_
        exact q_iret X hr hlk hK h_7 rfl (fun _ => 0, (vcons (fun _ => (u_7.2.1 1 0)) (vcons (fun _ => (u_7.2.1 2 0)) (vcons (fun _ => (u_7.2.1 3 0)) (vcons (fun _ => (u_7.2.1 0 0)) (fun _ => (fun _ => 0)))))), fun _ _ => 0) ⟨⟨by omega, by omega⟩, w7_1, w7_2, w7_3, w7_0, y7_0, (show ((u_7.2.1 2 0) : Int32).toInt ≠ 0 ∨ ((u_7.2.1 1 0) : Int32).toInt = 26 ∨ ((u_7.2.1 1 0) : Int32).toInt = 27 ∨ ((u_7.2.1 0 0) : Int32).toInt + 1 < (p7 : Int32).toInt from by (first | (clear hpre2 hpre3 y7_1 y7_2 y7_4 y7_5; omega) | omega)), (show ((u_7.2.1 2 0) : Int32).toInt ≠ 0 ∨ ((u_7.2.1 0 0) : Int32).toInt = (p0 : Int32).toInt + 1 from by (first | (clear hpre2 hpre3 y7_1 y7_2 y7_4 y7_5; omega) | omega)), y7_2, y7_5, y7_3, (show SIM f0 f1 f2 (p7 : Int32).toInt (num 1 3) (p0 : Int32).toInt (p1 : Int32).toInt (p2 : Int32).toInt (p3 : Int32).toInt ((u_7.2.1 0 0) : Int32).toInt ((u_7.2.1 1 0) : Int32).toInt ((u_7.2.1 2 0) : Int32).toInt ((u_7.2.1 3 0) : Int32).toInt from sim_nm3 (by (first | assumption | (clear hpre2 hpre3 y7_1 y7_2 y7_4 y7_5; omega) | omega)) (by (first | assumption | (clear hpre2 hpre3 y7_1 y7_2 y7_4 y7_5; omega) | omega)) (by (first | assumption | (clear hpre2 hpre3 y7_1 y7_2 y7_4 y7_5; omega) | omega)) (congrArg Int32.toInt ez_2).symm (by (first | assumption | (clear hpre2 hpre3 y7_1 y7_2 y7_4 y7_5; omega) | omega)) y7_6 (by (first | assumption | (clear hpre2 hpre3 y7_1 y7_2 y7_4 y7_5; omega) | omega))), (show NMP ((u_7.2.1 2 0) : Int32).toInt (p1 : Int32).toInt (z_2 : Int32).toInt (f2 ((p0 : Int32).toInt).toNat).toInt from Or.inr ⟨(by (first | assumption | (clear hpre2 hpre3 y7_1 y7_2 y7_4 y7_5; omega) | omega)), (congrArg Int32.toInt ez_2).symm⟩), trivial⟩ [1, 2, 3, 4, 0] rfl rfl dX5_takeNumber_51 (Nat.le_of_ble_eq_true rfl) (Nat.le_of_ble_eq_true rfl)
      · replace c_6 := i_nle (x := z_2) (y := 3) rfl (show (3 : Int32).toInt = 3 by decide) c_6
        refine lv_aload_n hx hb dX5_takeNumber_39 rfl (lv_at hl_3 1 rfl) ?_
        refine lv_iconst (v := 3) hx hb dX5_takeNumber_40 (by decide) ?_
        refine q_callVv (rest := []) (wr := (wk_5f0ef36a6 cy h2 f0 h4 f2)) X hK hT hA h (fun sz => gX5_refuse_3ecba60 l D cy h0 h1 h3 p0 p1 p2 p3 w0 w1 p4 p5 w2 p6 p7 (.ref h2) (.ref h4) f1 hp0 (i_rng _) (i_rng _) (i_rng _) hp4 (i_rng _) hp6 hp7 (hpre1) (hpre3) (by have q0 : (3 : Int32).toInt = 3 := (by decide); (first | (clear hpre2 hpre3; omega) | omega)) sz) wm_3_76 wm_3_79 wm_1_2 hd_X5_refuse wm_3_78 wp_1_10 (ci := 5) (q0 := 0) rfl rfl ⟨Nat.le_of_ble_eq_true rfl, Nat.le_of_ble_eq_true rfl⟩ hl_3.1 rfl (Nat.le_of_ble_eq_true rfl) dX5_takeNumber_41 ⟨Nat.le_of_ble_eq_true rfl, Nat.le_of_ble_eq_true rfl⟩ [0, 1, 3] [2, 4] rfl rfl (by decide) rfl rfl (fun u_8 H locs w_8 h_8 => ?_)
        clear h
        obtain ⟨w8_0, w8_1, w8_2, y8_0, y8_1, y8_2, _⟩ := w_8
        have lq_8_1 : (3 : Int32).toInt = 3 := (by decide)
        replace h_8 : qW D _ _ (wk_1a85a4215 cy h2 f0 h4 f2 h0 h1 p0 (u_8.2.1 0 0) (u_8.2.1 1 0) (u_8.2.1 2 0) w0 w1 p4 p5 h1 w2 p6 p7 h2 h3 h4 h3 f1) _ _ := h_8
        refine lv_iload_n hx hb dX5_takeNumber_44 rfl (lv_at hl_3 2 rfl) ?_
        exact q_iret X hr hlk hK h_8 rfl (fun _ => 0, (vcons (fun _ => (u_8.2.1 0 0)) (vcons (fun _ => (u_8.2.1 1 0)) (vcons (fun _ => (u_8.2.1 2 0)) (vcons (fun _ => p0) (fun _ => (fun _ => 0)))))), fun _ _ => 0) ⟨⟨by decide +kernel, by decide +kernel⟩, w8_0, w8_1, w8_2, hp0, hpre1, (show ((u_8.2.1 1 0) : Int32).toInt ≠ 0 ∨ ((u_8.2.1 0 0) : Int32).toInt = 26 ∨ ((u_8.2.1 0 0) : Int32).toInt = 27 ∨ (p0 : Int32).toInt + 1 < (p7 : Int32).toInt from by (first | (clear hpre2 hpre3 y8_1; omega) | omega)), (show ((u_8.2.1 1 0) : Int32).toInt ≠ 0 ∨ (p0 : Int32).toInt = (p0 : Int32).toInt + 1 from by (first | (clear hpre2 hpre3 y8_1; omega) | omega)), (show ((u_8.2.1 1 0) : Int32).toInt ≠ 0 ∨ (p2 : Int32).toInt = 0 from by (first | (clear hpre2 hpre3 y8_1; omega) | omega)), y8_1, (show (p0 : Int32).toInt ≤ (p0 : Int32).toInt from (Int.le_refl _)), (show SIM f0 f1 f2 (p7 : Int32).toInt (num 1 3) (p0 : Int32).toInt (p1 : Int32).toInt (p2 : Int32).toInt (p3 : Int32).toInt (p0 : Int32).toInt ((u_8.2.1 0 0) : Int32).toInt ((u_8.2.1 1 0) : Int32).toInt ((u_8.2.1 2 0) : Int32).toInt from sim_nm2 (by (first | assumption | (clear hpre2 hpre3 y8_1; omega) | omega)) (by (first | assumption | (clear hpre2 hpre3 y8_1; omega) | omega)) (by (first | assumption | (clear hpre2 hpre3 y8_1; omega) | omega)) (congrArg Int32.toInt ez_2).symm (by (first | assumption | (clear hpre2 hpre3 y8_1; omega) | omega)) (y8_2 _ _)), (show NMP ((u_8.2.1 1 0) : Int32).toInt (p1 : Int32).toInt (1 : Int32).toInt (f2 ((p0 : Int32).toInt).toNat).toInt from Or.inl (by (first | assumption | (clear hpre2 hpre3 y8_1; omega) | omega))), trivial⟩ [2, 3, 0, 4, 1] rfl rfl dX5_takeNumber_45 (Nat.le_of_ble_eq_true rfl) (Nat.le_of_ble_eq_true rfl)
  · replace c_1 := i_ne (x := p1) (y := 25) rfl (show (25 : Int32).toInt = 25 by decide) c_1
    refine lv_aload_n hx hb dX5_takeNumber_9 rfl (lv_at hl 0 rfl) ?_
    refine lv_iconst (v := 2) hx hb dX5_takeNumber_10 (by decide) ?_
    refine q_callVv (rest := []) (wr := (wk_5f0ef36a6 cy h2 f0 h4 f2)) X hK hT hA h (fun sz => gX5_refuse_067fcff l D cy h0 h1 h3 p0 p1 p2 p3 w0 w1 p4 p5 w2 p6 p7 (.ref h2) (.ref h4) f1 hp0 (i_rng _) (i_rng _) (i_rng _) hp4 (i_rng _) hp6 hp7 (hpre1) (hpre3) (by have q0 : (2 : Int32).toInt = 2 := (by decide); (first | (clear hpre2 hpre3; omega) | omega)) sz) wm_3_76 wm_3_79 wm_1_2 hd_X5_refuse wm_3_78 wp_1_10 (ci := 5) (q0 := 0) rfl rfl ⟨Nat.le_of_ble_eq_true rfl, Nat.le_of_ble_eq_true rfl⟩ hl.1 rfl (Nat.le_of_ble_eq_true rfl) dX5_takeNumber_11 ⟨Nat.le_of_ble_eq_true rfl, Nat.le_of_ble_eq_true rfl⟩ [0, 1, 3] [2, 4] rfl rfl (by decide) rfl rfl (fun u_9 H locs w_9 h_9 => ?_)
    clear h
    obtain ⟨w9_0, w9_1, w9_2, y9_0, y9_1, y9_2, _⟩ := w_9
    have lq_9_1 : (2 : Int32).toInt = 2 := (by decide)
    replace h_9 : qW D _ _ (wk_1a85a4215 cy h2 f0 h4 f2 h0 h1 p0 (u_9.2.1 0 0) (u_9.2.1 1 0) (u_9.2.1 2 0) w0 w1 p4 p5 h1 w2 p6 p7 h2 h3 h4 h3 f1) _ _ := h_9
    refine lv_iload_n hx hb dX5_takeNumber_14 rfl (lv_at hl 1 rfl) ?_
    exact q_iret X hr hlk hK h_9 rfl (fun _ => 0, (vcons (fun _ => (u_9.2.1 0 0)) (vcons (fun _ => (u_9.2.1 1 0)) (vcons (fun _ => (u_9.2.1 2 0)) (vcons (fun _ => p0) (fun _ => (fun _ => 0)))))), fun _ _ => 0) ⟨⟨by decide +kernel, by decide +kernel⟩, w9_0, w9_1, w9_2, hp0, hpre1, (show ((u_9.2.1 1 0) : Int32).toInt ≠ 0 ∨ ((u_9.2.1 0 0) : Int32).toInt = 26 ∨ ((u_9.2.1 0 0) : Int32).toInt = 27 ∨ (p0 : Int32).toInt + 1 < (p7 : Int32).toInt from by (first | (clear hpre2 hpre3 y9_1; omega) | omega)), (show ((u_9.2.1 1 0) : Int32).toInt ≠ 0 ∨ (p0 : Int32).toInt = (p0 : Int32).toInt + 1 from by (first | (clear hpre2 hpre3 y9_1; omega) | omega)), (show ((u_9.2.1 1 0) : Int32).toInt ≠ 0 ∨ (p2 : Int32).toInt = 0 from by (first | (clear hpre2 hpre3 y9_1; omega) | omega)), y9_1, (show (p0 : Int32).toInt ≤ (p0 : Int32).toInt from (Int.le_refl _)), (show SIM f0 f1 f2 (p7 : Int32).toInt (num 1 3) (p0 : Int32).toInt (p1 : Int32).toInt (p2 : Int32).toInt (p3 : Int32).toInt (p0 : Int32).toInt ((u_9.2.1 0 0) : Int32).toInt ((u_9.2.1 1 0) : Int32).toInt ((u_9.2.1 2 0) : Int32).toInt from sim_nm1 (by (first | assumption | (clear hpre2 hpre3 y9_1; omega) | omega)) (y9_2 _ _)), (show NMP ((u_9.2.1 1 0) : Int32).toInt (p1 : Int32).toInt (1 : Int32).toInt (f2 ((p0 : Int32).toInt).toNat).toInt from Or.inl (by (first | assumption | (clear hpre2 hpre3 y9_1; omega) | omega))), trivial⟩ [2, 3, 0, 4, 1] rfl rfl dX5_takeNumber_15 (Nat.le_of_ble_eq_true rfl) (Nat.le_of_ble_eq_true rfl)
set_option maxHeartbeats 4000000 in
set_option maxRecDepth 100000 in
theorem gX5_add_055b9a0 (l : Launch) (D : va_G) (cy : Nat → ClassId) (h0 : Nat) (h1 : Nat) (p0 : Int32) (w0 : Value) (p1 : Int32) (p2 : Int32) (p3 : Int32) (p4 : Int32) (w1 : Value) (p5 : Int32) (p6 : Int32) (f0 : Nat → Int32) (hp0 : (-2147483648) ≤ (p0).toInt ∧ (p0).toInt ≤ 2147483647) (hp1 : (-1) ≤ (p1).toInt ∧ (p1).toInt ≤ 900) (hp2 : (-2147483648) ≤ (p2).toInt ∧ (p2).toInt ≤ 2147483647) (hp3 : (-2147483648) ≤ (p3).toInt ∧ (p3).toInt ≤ 2147483647) (hp4 : (-2147483648) ≤ (p4).toInt ∧ (p4).toInt ≤ 2147483647) (hp5 : 0 ≤ (p5).toInt ∧ (p5).toInt ≤ 900) (hp6 : (-2147483648) ≤ (p6).toInt ∧ (p6).toInt ≤ 2147483647) (sz : Nat) : MV l yX5_add cX5_add 2 { frames := 0, cells := 0, slots := 0, locals := 0 } [.ref h0, .int p0] D cy (wk_cba98532e cy h0 w0 p1 p2 p3 p4 w1 h1 p5 p6 h1 f0) sz (fun u => (1 ≤ (u.2.1 0 0).toInt ∧ (u.2.1 0 0).toInt ≤ 900) ∧ (((u.2.1 0 0) : Int32).toInt ≤ (p5 : Int32).toInt + 1) ∧ True) (fun u => (wk_cba98532e cy h0 w0 p1 p2 p3 p4 w1 h1 (u.2.1 0 0) p6 h1 (u.2.1 1))) 0 0 := by
  refine q_ent (own := RX5) (by decide) rfl (Nat.le_of_ble_eq_true rfl) (fun p e s m below meth c ls X hr hlk hnm hK hT h hA hl => ?_)
  obtain ⟨hx, hb, hml, hown, ht⟩ := id X
  replace hl : lv_has ls 2 [(0, .ref h0), (1, .int p0)] := hl
  refine lv_aload_n hx hb dX5_add_0 rfl (lv_at hl 0 rfl) ?_
  refine q_get X hK h 0 rfl rfl wf_5 7 (by decide) rfl wm_1_153 dX5_add_1 ?_
  refine lv_aload_n hx hb dX5_add_4 rfl (lv_at hl 0 rfl) ?_
  refine q_get X hK h 0 rfl rfl wf_5 6 (by decide) rfl wm_1_152 dX5_add_5 ?_
  refine q_alen X hK h 1 1 rfl rfl 900 (show Int32.ofNat 900 = 900 by decide) dX5_add_8 ?_
  refine lv_icmp_ge (tgt := 32) hx hb dX5_add_9 (by decide) (fun c_1 => ?_) (fun c_1 => ?_)
  · replace c_1 := i_le (x := 900) (y := p5) (show (900 : Int32).toInt = 900 by decide) rfl c_1
    exact q_vret X hr hlk hK h (fun _ => 0, (vcons (fun _ => p5) (vcons f0 (fun _ => (fun _ => 0)))), fun _ _ => 0) ⟨(⟨by omega, by omega⟩ : 1 ≤ (p5 : Int32).toInt ∧ (p5 : Int32).toInt ≤ 900), (show (p5 : Int32).toInt ≤ (p5 : Int32).toInt + 1 from by omega), trivial⟩ [0, 1] rfl rfl dX5_add_32 (Nat.le_of_ble_eq_true rfl) (Nat.le_of_ble_eq_true rfl)
  · replace c_1 := i_nle (x := 900) (y := p5) (show (900 : Int32).toInt = 900 by decide) rfl c_1
    refine lv_aload_n hx hb dX5_add_12 rfl (lv_at hl 0 rfl) ?_
    refine q_get X hK h 0 rfl rfl wf_5 6 (by decide) rfl wm_1_152 dX5_add_13 ?_
    refine lv_aload_n hx hb dX5_add_16 rfl (lv_at hl 0 rfl) ?_
    refine q_get X hK h 0 rfl rfl wf_5 7 (by decide) rfl wm_1_153 dX5_add_17 ?_
    refine lv_iload_n hx hb dX5_add_20 rfl (lv_at hl 1 rfl) ?_
    refine q_iast X hK h 1 rfl (i_in rfl (by omega) (by omega)) dX5_add_21 (fun H locs h_3 => ?_)
    clear h
    replace h_3 : qW D _ _ (wk_cba98532e cy h0 w0 p1 p2 p3 p4 w1 h1 p5 p6 h1 (upd f0 (Int32.toNatClampNeg p5) p0)) _ _ := h_3
    obtain ⟨F_2, eF_2⟩ : ∃ z, (upd f0 (Int32.toNatClampNeg p5) p0) = z := ⟨_, rfl⟩
    rw [eF_2] at h_3
    clear eF_2
    refine lv_aload_n hx hb dX5_add_22 rfl (lv_at hl 0 rfl) ?_
    refine lv_dup hx hb dX5_add_23 rfl ?_
    refine q_get X hK h_3 0 rfl rfl wf_5 7 (by decide) rfl wm_1_153 dX5_add_24 ?_
    refine lv_iconst (v := 1) hx hb dX5_add_27 (by decide) ?_
    refine lv_iadd hx hb dX5_add_28 ?_
    obtain ⟨z_4, ez_4, hz_4⟩ := e_add (x := p5) (y := 1) rfl (show (1 : Int32).toInt = 1 by decide) (by omega) (by omega)
    refine q_c z_4 ez_4 ?_
    clear ez_4
    refine q_put (v := .int z_4) X hK h_3 0 rfl rfl wf_5 tyX5 tyX5_ok nmX5 7 (by decide) wm_1_153 rfl rfl rfl (Nat.le_of_ble_eq_true rfl) dX5_add_29 (fun H locs h_5 => ?_)
    clear h_3
    replace h_5 : qW D _ _ (wk_cba98532e cy h0 w0 p1 p2 p3 p4 w1 h1 z_4 p6 h1 F_2) _ _ := h_5
    exact q_vret X hr hlk hK h_5 (fun _ => 0, (vcons (fun _ => z_4) (vcons F_2 (fun _ => (fun _ => 0)))), fun _ _ => 0) ⟨(⟨by omega, by omega⟩ : 1 ≤ (z_4 : Int32).toInt ∧ (z_4 : Int32).toInt ≤ 900), (show (z_4 : Int32).toInt ≤ (p5 : Int32).toInt + 1 from by omega), trivial⟩ [0, 1] rfl rfl dX5_add_32 (Nat.le_of_ble_eq_true rfl) (Nat.le_of_ble_eq_true rfl)
set_option maxHeartbeats 4000000 in
set_option maxRecDepth 100000 in
theorem gX5_refuse_3c74158 (l : Launch) (D : va_G) (cy : Nat → ClassId) (h0 : Nat) (h1 : Nat) (h2 : Nat) (p0 : Int32) (p1 : Int32) (p2 : Int32) (p3 : Int32) (w0 : Value) (w1 : Value) (p4 : Int32) (p5 : Int32) (w2 : Value) (p6 : Int32) (p7 : Int32) (w3 : Value) (w4 : Value) (f0 : Nat → Int32) (hp0 : (-1) ≤ (p0).toInt ∧ (p0).toInt ≤ 900) (hp1 : (-2147483648) ≤ (p1).toInt ∧ (p1).toInt ≤ 2147483647) (hp2 : (-2147483648) ≤ (p2).toInt ∧ (p2).toInt ≤ 2147483647) (hp3 : (-2147483648) ≤ (p3).toInt ∧ (p3).toInt ≤ 2147483647) (hp4 : 0 ≤ (p4).toInt ∧ (p4).toInt ≤ 900) (hp5 : (-2147483648) ≤ (p5).toInt ∧ (p5).toInt ≤ 2147483647) (hp6 : 0 ≤ (p6).toInt ∧ (p6).toInt ≤ 900) (hp7 : 0 ≤ (p7).toInt ∧ (p7).toInt ≤ 901) (hpre0 : 0 ≤ (p0 : Int32).toInt ∧ (p0 : Int32).toInt < (p7 : Int32).toInt) (hpre1 : (p2 : Int32).toInt = 0 ∨ (p1 : Int32).toInt = 27) (hpre2 : 1 ≤ (4 : Int32).toInt) (sz : Nat) : MV l yX5_refuse cX5_refuse 2 { frames := 0, cells := 0, slots := 0, locals := 0 } [.ref h0, .int 4] D cy (wk_5bbb9e4d3 cy h0 h1 p0 p1 p2 p3 w0 w1 p4 p5 h1 w2 p6 p7 w3 h2 w4 h2 f0) sz (fun u => ((-2147483648) ≤ (u.2.1 0 0).toInt ∧ (u.2.1 0 0).toInt ≤ 2147483647) ∧ ((-2147483648) ≤ (u.2.1 1 0).toInt ∧ (u.2.1 1 0).toInt ≤ 2147483647) ∧ ((-2147483648) ≤ (u.2.1 2 0).toInt ∧ (u.2.1 2 0).toInt ≤ 2147483647) ∧ (((u.2.1 1 0) : Int32).toInt ≠ 0) ∧ (((u.2.1 1 0) : Int32).toInt = 0 ∨ ((u.2.1 0 0) : Int32).toInt = 27) ∧ (∀ (kk vv : Nat → Int32), SIM kk f0 vv (p7 : Int32).toInt (fun b n i => er b n 4 i) (p0 : Int32).toInt (p1 : Int32).toInt (p2 : Int32).toInt (p3 : Int32).toInt (p0 : Int32).toInt ((u.2.1 0 0) : Int32).toInt ((u.2.1 1 0) : Int32).toInt ((u.2.1 2 0) : Int32).toInt) ∧ True) (fun u => (wk_5bbb9e4d3 cy h0 h1 p0 (u.2.1 0 0) (u.2.1 1 0) (u.2.1 2 0) w0 w1 p4 p5 h1 w2 p6 p7 w3 h2 w4 h2 f0)) 0 0 := by
  refine q_ent (own := RX5) (by decide) rfl (Nat.le_of_ble_eq_true rfl) (fun p e s m below meth c ls X hr hlk hnm hK hT h hA hl => ?_)
  obtain ⟨hx, hb, hml, hown, ht⟩ := id X
  replace hl : lv_has ls 2 [(0, .ref h0), (1, .int 4)] := hl
  refine lv_aload_n hx hb dX5_refuse_0 rfl (lv_at hl 0 rfl) ?_
  refine q_get X hK h 0 rfl rfl wf_5 3 (by decide) rfl wm_1_147 dX5_refuse_1 ?_
  refine lv_if_ne (tgt := 34) hx hb dX5_refuse_4 (by decide) (fun c_1 => ?_) (fun c_1 => ?_)
  · replace c_1 := i_ne (x := p2) (y := 0) rfl (show (0 : Int32).toInt = 0 by decide) c_1
    exact q_vret X hr hlk hK h (fun _ => 0, (vcons (fun _ => p1) (vcons (fun _ => p2) (vcons (fun _ => p3) (fun _ => (fun _ => 0))))), fun _ _ => 0) ⟨hp1, hp2, hp3, (show (p2 : Int32).toInt ≠ 0 from by (first | (clear hpre1; omega) | omega)), hpre1, (show ∀ (kk vv : Nat → Int32), SIM kk f0 vv (p7 : Int32).toInt (fun b n i => er b n 4 i) (p0 : Int32).toInt (p1 : Int32).toInt (p2 : Int32).toInt (p3 : Int32).toInt (p0 : Int32).toInt (p1 : Int32).toInt (p2 : Int32).toInt (p3 : Int32).toInt from fun _ _ => sim_bad (by (first | assumption | (clear hpre1; omega) | omega))), trivial⟩ [0, 1, 2] rfl rfl dX5_refuse_34 (Nat.le_of_ble_eq_true rfl) (Nat.le_of_ble_eq_true rfl)
  · replace c_1 := i_eq (x := p2) (y := 0) rfl (show (0 : Int32).toInt = 0 by decide) c_1
    refine lv_aload_n hx hb dX5_refuse_7 rfl (lv_at hl 0 rfl) ?_
    refine lv_iload_n hx hb dX5_refuse_8 rfl (lv_at hl 1 rfl) ?_
    refine q_put (v := .int 4) X hK h 0 rfl rfl wf_5 tyX5 tyX5_ok nmX5 3 (by decide) wm_1_147 rfl rfl rfl (Nat.le_of_ble_eq_true rfl) dX5_refuse_9 (fun H locs h_2 => ?_)
    clear h
    replace h_2 : qW D _ _ (wk_5bbb9e4d3 cy h0 h1 p0 p1 4 p3 w0 w1 p4 p5 h1 w2 p6 p7 w3 h2 w4 h2 f0) _ _ := h_2
    refine lv_aload_n hx hb dX5_refuse_12 rfl (lv_at hl 0 rfl) ?_
    refine lv_aload_n hx hb dX5_refuse_13 rfl (lv_at hl 0 rfl) ?_
    refine q_get X hK h_2 0 rfl rfl wf_5 0 (by decide) rfl wm_1_144 dX5_refuse_14 ?_
    refine q_get X hK h_2 1 rfl rfl wf_8 4 (by decide) rfl wm_1_50 dX5_refuse_17 ?_
    refine lv_aload_n hx hb dX5_refuse_20 rfl (lv_at hl 0 rfl) ?_
    refine q_get X hK h_2 0 rfl rfl wf_5 1 (by decide) rfl wm_1_145 dX5_refuse_21 ?_
    refine q_iald X hK h_2 2 rfl (i_in rfl (by omega) (by omega)) dX5_refuse_24 ?_
    obtain ⟨z_3, ez_3, hz_3⟩ := e_any (f0 p0.toNatClampNeg)
    refine q_c z_3 ez_3 ?_
    refine q_put (v := .int z_3) X hK h_2 0 rfl rfl wf_5 tyX5 tyX5_ok nmX5 4 (by decide) wm_1_149 rfl rfl rfl (Nat.le_of_ble_eq_true rfl) dX5_refuse_25 (fun H locs h_4 => ?_)
    clear h_2
    replace h_4 : qW D _ _ (wk_5bbb9e4d3 cy h0 h1 p0 p1 4 z_3 w0 w1 p4 p5 h1 w2 p6 p7 w3 h2 w4 h2 f0) _ _ := h_4
    refine lv_aload_n hx hb dX5_refuse_28 rfl (lv_at hl 0 rfl) ?_
    refine lv_bipush (v := 27) hx hb dX5_refuse_29 (by decide) ?_
    refine q_put (v := .int 27) X hK h_4 0 rfl rfl wf_5 tyX5 tyX5_ok nmX5 2 (by decide) wm_1_146 rfl rfl rfl (Nat.le_of_ble_eq_true rfl) dX5_refuse_31 (fun H locs h_5 => ?_)
    clear h_4
    replace h_5 : qW D _ _ (wk_5bbb9e4d3 cy h0 h1 p0 27 4 z_3 w0 w1 p4 p5 h1 w2 p6 p7 w3 h2 w4 h2 f0) _ _ := h_5
    exact q_vret X hr hlk hK h_5 (fun _ => 0, (vcons (fun _ => 27) (vcons (fun _ => 4) (vcons (fun _ => z_3) (fun _ => (fun _ => 0))))), fun _ _ => 0) ⟨(⟨by decide +kernel, by decide +kernel⟩ : (-2147483648) ≤ (27 : Int32).toInt ∧ (27 : Int32).toInt ≤ 2147483647), (⟨by decide +kernel, by decide +kernel⟩ : (-2147483648) ≤ (4 : Int32).toInt ∧ (4 : Int32).toInt ≤ 2147483647), (⟨by omega, by omega⟩ : (-2147483648) ≤ (z_3 : Int32).toInt ∧ (z_3 : Int32).toInt ≤ 2147483647), (show (4 : Int32).toInt ≠ 0 from by have q0 : (4 : Int32).toInt = 4 := (by decide); (first | (clear hpre1; omega) | omega)), (show (4 : Int32).toInt = 0 ∨ (27 : Int32).toInt = 27 from by have q0 : (4 : Int32).toInt = 4 := (by decide); have q1 : (27 : Int32).toInt = 27 := (by decide); (first | (clear hpre1; omega) | omega)), (show ∀ (kk vv : Nat → Int32), SIM kk f0 vv (p7 : Int32).toInt (fun b n i => er b n 4 i) (p0 : Int32).toInt (p1 : Int32).toInt (p2 : Int32).toInt (p3 : Int32).toInt (p0 : Int32).toInt (27 : Int32).toInt (4 : Int32).toInt (z_3 : Int32).toInt from fun _ _ => sim_er (by (first | assumption | (clear hpre1; omega) | omega)) (by (first | assumption | (clear hpre1; omega) | omega)) (by (first | assumption | (clear hpre1; omega) | omega)) (by (first | assumption | (clear hpre1; omega) | omega)) (by decide) (congrArg Int32.toInt ez_3).symm (by decide)), trivial⟩ [0, 1, 2] rfl rfl dX5_refuse_34 (Nat.le_of_ble_eq_true rfl) (Nat.le_of_ble_eq_true rfl)
set_option maxHeartbeats 4000000 in
set_option maxRecDepth 100000 in
theorem gX5_goesDeeper_ce0d7f5 (l : Launch) (D : va_G) (cy : Nat → ClassId) (h0 : Nat) (h1 : Nat) (h2 : Nat) (h3 : Nat) (p0 : Int32) (p1 : Int32) (p2 : Int32) (p3 : Int32) (p4 : Int32) (w0 : Value) (w1 : Value) (p5 : Int32) (p6 : Int32) (w2 : Value) (p7 : Int32) (p8 : Int32) (w3 : Value) (f0 : Nat → Int32) (f1 : Nat → Int32) (hp0 : 0 ≤ (p0).toInt ∧ (p0).toInt ≤ 6) (hp1 : (-1) ≤ (p1).toInt ∧ (p1).toInt ≤ 900) (hp2 : (-2147483648) ≤ (p2).toInt ∧ (p2).toInt ≤ 2147483647) (hp3 : (-2147483648) ≤ (p3).toInt ∧ (p3).toInt ≤ 2147483647) (hp4 : (-2147483648) ≤ (p4).toInt ∧ (p4).toInt ≤ 2147483647) (hp5 : 0 ≤ (p5).toInt ∧ (p5).toInt ≤ 900) (hp6 : (-2147483648) ≤ (p6).toInt ∧ (p6).toInt ≤ 2147483647) (hp7 : 0 ≤ (p7).toInt ∧ (p7).toInt ≤ 900) (hp8 : 0 ≤ (p8).toInt ∧ (p8).toInt ≤ 901) (hpre0 : KZ f0 (p8 : Int32).toInt) (hpre1 : 0 ≤ (p1 : Int32).toInt ∧ (p1 : Int32).toInt < (p8 : Int32).toInt) (hpre2 : (p3 : Int32).toInt ≠ 0 ∨ (p2 : Int32).toInt = 26 ∨ (p2 : Int32).toInt = 27 ∨ (p1 : Int32).toInt + 1 < (p8 : Int32).toInt) (hpre3 : (p3 : Int32).toInt = 0 ∨ (p2 : Int32).toInt = 27) (hpre4 : (p2 : Int32).toInt ≠ 26 ∧ (p2 : Int32).toInt ≠ 27) (sz : Nat) : MI l yX5_goesDeeper cX5_goesDeeper 2 .boolean { frames := 1, cells := 0, slots := 0, locals := 21 } [.ref h0, .int p0] D cy (wk_8964b4ae4 cy h0 h1 p1 p2 p3 p4 w0 w1 p5 p6 h1 w2 p7 p8 h2 h3 w3 h2 f0 h3 f1) sz (fun r u => (0 ≤ r.toInt ∧ r.toInt ≤ 1) ∧ ((-1) ≤ (u.2.1 0 0).toInt ∧ (u.2.1 0 0).toInt ≤ 900) ∧ ((-2147483648) ≤ (u.2.1 1 0).toInt ∧ (u.2.1 1 0).toInt ≤ 2147483647) ∧ ((-2147483648) ≤ (u.2.1 2 0).toInt ∧ (u.2.1 2 0).toInt ≤ 2147483647) ∧ ((-2147483648) ≤ (u.2.1 3 0).toInt ∧ (u.2.1 3 0).toInt ≤ 2147483647) ∧ (0 ≤ ((u.2.1 0 0) : Int32).toInt ∧ ((u.2.1 0 0) : Int32).toInt < (p8 : Int32).toInt) ∧ (((u.2.1 2 0) : Int32).toInt ≠ 0 ∨ ((u.2.1 1 0) : Int32).toInt = 26 ∨ ((u.2.1 1 0) : Int32).toInt = 27 ∨ ((u.2.1 0 0) : Int32).toInt + 1 < (p8 : Int32).toInt) ∧ (((u.2.1 2 0) : Int32).toInt = 0 ∨ ((u.2.1 1 0) : Int32).toInt = 27) ∧ ((p1 : Int32).toInt ≤ ((u.2.1 0 0) : Int32).toInt) ∧ (((u.2.1 2 0) : Int32).toInt ≠ 0 ∨ ((r : Int32).toInt = 1 ∧ ((u.2.1 0 0) : Int32).toInt = (p1 : Int32).toInt + 1)) ∧ (((u.2.1 2 0) : Int32).toInt ≠ 0 ∨ (p3 : Int32).toInt = 0) ∧ ((r : Int32).toInt = 0 ∨ (p0 : Int32).toInt ≤ 5) ∧ (ALT (r : Int32).toInt 0 1 (∀ vv : Nat → Int32, SIM f0 f1 vv (p8 : Int32).toInt (fun b n i => er b n 4 i) (p1 : Int32).toInt (p2 : Int32).toInt (p3 : Int32).toInt (p4 : Int32).toInt ((u.2.1 0 0) : Int32).toInt ((u.2.1 1 0) : Int32).toInt ((u.2.1 2 0) : Int32).toInt ((u.2.1 3 0) : Int32).toInt) (ADVR f0 f1 (p8 : Int32).toInt (p1 : Int32).toInt (p2 : Int32).toInt (p3 : Int32).toInt (p4 : Int32).toInt ((u.2.1 0 0) : Int32).toInt ((u.2.1 1 0) : Int32).toInt ((u.2.1 2 0) : Int32).toInt ((u.2.1 3 0) : Int32).toInt)) ∧ (((r : Int32).toInt = 0 ∧ 6 ≤ (p0 : Int32).toInt) ∨ ((r : Int32).toInt = 1 ∧ (p0 : Int32).toInt ≤ 5)) ∧ True) (fun u => (wk_8964b4ae4 cy h0 h1 (u.2.1 0 0) (u.2.1 1 0) (u.2.1 2 0) (u.2.1 3 0) w0 w1 p5 p6 h1 w2 p7 p8 h2 h3 w3 h2 f0 h3 f1)) 0 0 := by
  refine q_ent (own := RX5) (by decide) rfl (Nat.le_of_ble_eq_true rfl) (fun p e s m below meth c ls X hr hlk hnm hK hT h hA hl => ?_)
  obtain ⟨hx, hb, hml, hown, ht⟩ := id X
  replace hl : lv_has ls 2 [(0, .ref h0), (1, .int p0)] := hl
  refine lv_iload_n hx hb dX5_goesDeeper_0 rfl (lv_at hl 1 rfl) ?_
  refine lv_bipush (v := 6) hx hb dX5_goesDeeper_1 (by decide) ?_
  refine lv_icmp_lt (tgt := 13) hx hb dX5_goesDeeper_3 (by decide) (fun c_1 => ?_) (fun c_1 => ?_)
  · replace c_1 := i_lt (x := p0) (y := 6) rfl (show (6 : Int32).toInt = 6 by decide) c_1
    refine lv_aload_n hx hb dX5_goesDeeper_13 rfl (lv_at hl 0 rfl) ?_
    refine q_callVv (rest := []) (wr := []) X hK hT hA h (fun sz => gX5_advance_9820dfe l D cy h0 h1 h2 h3 p1 p2 p3 p4 w0 w1 p5 p6 w2 p7 p8 w3 f0 f1 hp1 (i_rng _) (i_rng _) (i_rng _) hp5 (i_rng _) hp7 hp8 (hpre0) (hpre3) (by (first | (clear hpre2 hpre3; omega) | omega)) sz) wm_3_68 wm_3_71 wm_1_2 hd_X5_advance wm_3_70 wp_1_8 (ci := 5) (q0 := 0) rfl rfl ⟨Nat.le_of_ble_eq_true rfl, Nat.le_of_ble_eq_true rfl⟩ hl.1 rfl (Nat.le_of_ble_eq_true rfl) dX5_goesDeeper_14 ⟨Nat.le_of_ble_eq_true rfl, Nat.le_of_ble_eq_true rfl⟩ [0, 1, 2, 3] [] rfl rfl (by decide) rfl rfl (fun u_2 H locs w_2 h_2 => ?_)
    clear h
    obtain ⟨w2_0, w2_1, w2_2, w2_3, y2_0, y2_1, y2_2, y2_3, y2_4, y2_5, y2_6, _⟩ := w_2
    replace h_2 : qW D _ _ (wk_8964b4ae4 cy h0 h1 (u_2.2.1 0 0) (u_2.2.1 1 0) (u_2.2.1 2 0) (u_2.2.1 3 0) w0 w1 p5 p6 h1 w2 p7 p8 h2 h3 w3 h2 f0 h3 f1) _ _ := h_2
    refine lv_iconst (v := 1) hx hb dX5_goesDeeper_17 (by decide) ?_
    exact q_iret X hr hlk hK h_2 rfl (fun _ => 0, (vcons (fun _ => (u_2.2.1 0 0)) (vcons (fun _ => (u_2.2.1 1 0)) (vcons (fun _ => (u_2.2.1 2 0)) (vcons (fun _ => (u_2.2.1 3 0)) (fun _ => (fun _ => 0)))))), fun _ _ => 0) ⟨⟨by decide +kernel, by decide +kernel⟩, w2_0, w2_1, w2_2, w2_3, y2_0, (show ((u_2.2.1 2 0) : Int32).toInt ≠ 0 ∨ ((u_2.2.1 1 0) : Int32).toInt = 26 ∨ ((u_2.2.1 1 0) : Int32).toInt = 27 ∨ ((u_2.2.1 0 0) : Int32).toInt + 1 < (p8 : Int32).toInt from by (first | (clear hpre2 hpre3 y2_1 y2_2 y2_4 y2_5; omega) | omega)), y2_5, y2_3, (show ((u_2.2.1 2 0) : Int32).toInt ≠ 0 ∨ ((1 : Int32).toInt = 1 ∧ ((u_2.2.1 0 0) : Int32).toInt = (p1 : Int32).toInt + 1) from by have q0 : (1 : Int32).toInt = 1 := (by decide); (first | (clear hpre2 hpre3 y2_1 y2_2 y2_4 y2_5; omega) | omega)), y2_2, (show (1 : Int32).toInt = 0 ∨ (p0 : Int32).toInt ≤ 5 from by have q0 : (1 : Int32).toInt = 1 := (by decide); (first | (clear hpre2 hpre3 y2_1 y2_2 y2_4 y2_5; omega) | omega)), (show ALT (1 : Int32).toInt 0 1 (∀ vv : Nat → Int32, SIM f0 f1 vv (p8 : Int32).toInt (fun b n i => er b n 4 i) (p1 : Int32).toInt (p2 : Int32).toInt (p3 : Int32).toInt (p4 : Int32).toInt ((u_2.2.1 0 0) : Int32).toInt ((u_2.2.1 1 0) : Int32).toInt ((u_2.2.1 2 0) : Int32).toInt ((u_2.2.1 3 0) : Int32).toInt) (ADVR f0 f1 (p8 : Int32).toInt (p1 : Int32).toInt (p2 : Int32).toInt (p3 : Int32).toInt (p4 : Int32).toInt ((u_2.2.1 0 0) : Int32).toInt ((u_2.2.1 1 0) : Int32).toInt ((u_2.2.1 2 0) : Int32).toInt ((u_2.2.1 3 0) : Int32).toInt) from alt_2 (by decide) y2_6), (show ((1 : Int32).toInt = 0 ∧ 6 ≤ (p0 : Int32).toInt) ∨ ((1 : Int32).toInt = 1 ∧ (p0 : Int32).toInt ≤ 5) from by have q0 : (1 : Int32).toInt = 1 := (by decide); (first | (clear hpre2 hpre3 y2_1 y2_2 y2_4 y2_5; omega) | omega)), trivial⟩ [0, 1, 2, 3] rfl rfl dX5_goesDeeper_18 (Nat.le_of_ble_eq_true rfl) (Nat.le_of_ble_eq_true rfl)
  · replace c_1 := i_nlt (x := p0) (y := 6) rfl (show (6 : Int32).toInt = 6 by decide) c_1
    refine lv_aload_n hx hb dX5_goesDeeper_6 rfl (lv_at hl 0 rfl) ?_
    refine lv_iconst (v := 4) hx hb dX5_goesDeeper_7 (by decide) ?_
    refine q_callVv (rest := []) (wr := [(h2, .inl (cy 1, 901, .inl f0))]) X hK hT hA h (fun sz => gX5_refuse_3c74158 l D cy h0 h1 h3 p1 p2 p3 p4 w0 w1 p5 p6 w2 p7 p8 (.ref h2) w3 f1 hp1 (i_rng _) (i_rng _) (i_rng _) hp5 (i_rng _) hp7 hp8 (hpre1) (hpre3) (by have q0 : (4 : Int32).toInt = 4 := (by decide); (first | (clear hpre2 hpre3; omega) | omega)) sz) wm_3_76 wm_3_79 wm_1_2 hd_X5_refuse wm_3_78 wp_1_10 (ci := 5) (q0 := 0) rfl rfl ⟨Nat.le_of_ble_eq_true rfl, Nat.le_of_ble_eq_true rfl⟩ hl.1 rfl (Nat.le_of_ble_eq_true rfl) dX5_goesDeeper_8 ⟨Nat.le_of_ble_eq_true rfl, Nat.le_of_ble_eq_true rfl⟩ [0, 1, 3] [2] rfl rfl (by decide) rfl rfl (fun u_3 H locs w_3 h_3 => ?_)
    clear h
    obtain ⟨w3_0, w3_1, w3_2, y3_0, y3_1, y3_2, _⟩ := w_3
    have lq_3_1 : (4 : Int32).toInt = 4 := (by decide)
    replace h_3 : qW D _ _ (wk_565e7035b cy h2 f0 h0 h1 p1 (u_3.2.1 0 0) (u_3.2.1 1 0) (u_3.2.1 2 0) w0 w1 p5 p6 h1 w2 p7 p8 h2 h3 w3 h3 f1) _ _ := h_3
    refine lv_iconst (v := 0) hx hb dX5_goesDeeper_11 (by decide) ?_
    exact q_iret X hr hlk hK h_3 rfl (fun _ => 0, (vcons (fun _ => p1) (vcons (fun _ => (u_3.2.1 0 0)) (vcons (fun _ => (u_3.2.1 1 0)) (vcons (fun _ => (u_3.2.1 2 0)) (fun _ => (fun _ => 0)))))), fun _ _ => 0) ⟨⟨by decide +kernel, by decide +kernel⟩, hp1, w3_0, w3_1, w3_2, hpre1, (show ((u_3.2.1 1 0) : Int32).toInt ≠ 0 ∨ ((u_3.2.1 0 0) : Int32).toInt = 26 ∨ ((u_3.2.1 0 0) : Int32).toInt = 27 ∨ (p1 : Int32).toInt + 1 < (p8 : Int32).toInt from by (first | (clear hpre2 hpre3 y3_1; omega) | omega)), y3_1, (show (p1 : Int32).toInt ≤ (p1 : Int32).toInt from (Int.le_refl _)), (show ((u_3.2.1 1 0) : Int32).toInt ≠ 0 ∨ ((0 : Int32).toInt = 1 ∧ (p1 : Int32).toInt = (p1 : Int32).toInt + 1) from by have q0 : (0 : Int32).toInt = 0 := (by decide); (first | (clear hpre2 hpre3 y3_1; omega) | omega)), (show ((u_3.2.1 1 0) : Int32).toInt ≠ 0 ∨ (p3 : Int32).toInt = 0 from by (first | (clear hpre2 hpre3 y3_1; omega) | omega)), (show (0 : Int32).toInt = 0 ∨ (p0 : Int32).toInt ≤ 5 from by have q0 : (0 : Int32).toInt = 0 := (by decide); (first | (clear hpre2 hpre3 y3_1; omega) | omega)), (show ALT (0 : Int32).toInt 0 1 (∀ vv : Nat → Int32, SIM f0 f1 vv (p8 : Int32).toInt (fun b n i => er b n 4 i) (p1 : Int32).toInt (p2 : Int32).toInt (p3 : Int32).toInt (p4 : Int32).toInt (p1 : Int32).toInt ((u_3.2.1 0 0) : Int32).toInt ((u_3.2.1 1 0) : Int32).toInt ((u_3.2.1 2 0) : Int32).toInt) (ADVR f0 f1 (p8 : Int32).toInt (p1 : Int32).toInt (p2 : Int32).toInt (p3 : Int32).toInt (p4 : Int32).toInt (p1 : Int32).toInt ((u_3.2.1 0 0) : Int32).toInt ((u_3.2.1 1 0) : Int32).toInt ((u_3.2.1 2 0) : Int32).toInt) from alt_1 (by decide) (fun _ => y3_2 _ _)), (show ((0 : Int32).toInt = 0 ∧ 6 ≤ (p0 : Int32).toInt) ∨ ((0 : Int32).toInt = 1 ∧ (p0 : Int32).toInt ≤ 5) from by have q0 : (0 : Int32).toInt = 0 := (by decide); (first | (clear hpre2 hpre3 y3_1; omega) | omega)), trivial⟩ [1, 2, 0, 3] rfl rfl dX5_goesDeeper_12 (Nat.le_of_ble_eq_true rfl) (Nat.le_of_ble_eq_true rfl)
set_option maxHeartbeats 4000000 in
set_option maxRecDepth 100000 in
theorem gX5_take_7b80f77 (l : Launch) (D : va_G) (cy : Nat → ClassId) (h0 : Nat) (h1 : Nat) (h2 : Nat) (h3 : Nat) (p0 : Int32) (p1 : Int32) (p2 : Int32) (p3 : Int32) (w0 : Value) (w1 : Value) (p4 : Int32) (p5 : Int32) (w2 : Value) (p6 : Int32) (p7 : Int32) (w3 : Value) (f0 : Nat → Int32) (f1 : Nat → Int32) (hp0 : (-1) ≤ (p0).toInt ∧ (p0).toInt ≤ 900) (hp1 : (-2147483648) ≤ (p1).toInt ∧ (p1).toInt ≤ 2147483647) (hp2 : (-2147483648) ≤ (p2).toInt ∧ (p2).toInt ≤ 2147483647) (hp3 : (-2147483648) ≤ (p3).toInt ∧ (p3).toInt ≤ 2147483647) (hp4 : 0 ≤ (p4).toInt ∧ (p4).toInt ≤ 900) (hp5 : (-2147483648) ≤ (p5).toInt ∧ (p5).toInt ≤ 2147483647) (hp6 : 0 ≤ (p6).toInt ∧ (p6).toInt ≤ 900) (hp7 : 0 ≤ (p7).toInt ∧ (p7).toInt ≤ 901) (hpre0 : KZ f0 (p7 : Int32).toInt) (hpre1 : 0 ≤ (p0 : Int32).toInt ∧ (p0 : Int32).toInt < (p7 : Int32).toInt) (hpre2 : (p2 : Int32).toInt ≠ 0 ∨ (p1 : Int32).toInt = 26 ∨ (p1 : Int32).toInt = 27 ∨ (p0 : Int32).toInt + 1 < (p7 : Int32).toInt) (hpre3 : (p2 : Int32).toInt = 0 ∨ (p1 : Int32).toInt = 27) (hpre4 : (41 : Int32).toInt ≠ 26 ∧ (41 : Int32).toInt ≠ 27) (sz : Nat) : MV l yX5_take cX5_take 2 { frames := 1, cells := 0, slots := 0, locals := 21 } [.ref h0, .int 41] D cy (wk_8964b4ae4 cy h0 h1 p0 p1 p2 p3 w0 w1 p4 p5 h1 w2 p6 p7 h2 h3 w3 h2 f0 h3 f1) sz (fun u => ((-2147483648) ≤ (u.2.1 0 0).toInt ∧ (u.2.1 0 0).toInt ≤ 2147483647) ∧ ((-2147483648) ≤ (u.2.1 1 0).toInt ∧ (u.2.1 1 0).toInt ≤ 2147483647) ∧ ((-2147483648) ≤ (u.2.1 2 0).toInt ∧ (u.2.1 2 0).toInt ≤ 2147483647) ∧ ((-1) ≤ (u.2.1 3 0).toInt ∧ (u.2.1 3 0).toInt ≤ 900) ∧ (0 ≤ ((u.2.1 3 0) : Int32).toInt ∧ ((u.2.1 3 0) : Int32).toInt < (p7 : Int32).toInt) ∧ (((u.2.1 1 0) : Int32).toInt ≠ 0 ∨ ((u.2.1 0 0) : Int32).toInt = 26 ∨ ((u.2.1 0 0) : Int32).toInt = 27 ∨ ((u.2.1 3 0) : Int32).toInt + 1 < (p7 : Int32).toInt) ∧ (((u.2.1 1 0) : Int32).toInt ≠ 0 ∨ ((u.2.1 3 0) : Int32).toInt = (p0 : Int32).toInt + 1) ∧ (((u.2.1 1 0) : Int32).toInt ≠ 0 ∨ (p2 : Int32).toInt = 0) ∧ (((u.2.1 1 0) : Int32).toInt = 0 ∨ ((u.2.1 0 0) : Int32).toInt = 27) ∧ ((p0 : Int32).toInt ≤ ((u.2.1 3 0) : Int32).toInt) ∧ (∀ vv : Nat → Int32, SIM f0 f1 vv (p7 : Int32).toInt (tak 41) (p0 : Int32).toInt (p1 : Int32).toInt (p2 : Int32).toInt (p3 : Int32).toInt ((u.2.1 3 0) : Int32).toInt ((u.2.1 0 0) : Int32).toInt ((u.2.1 1 0) : Int32).toInt ((u.2.1 2 0) : Int32).toInt) ∧ True) (fun u => (wk_8964b4ae4 cy h0 h1 (u.2.1 3 0) (u.2.1 0 0) (u.2.1 1 0) (u.2.1 2 0) w0 w1 p4 p5 h1 w2 p6 p7 h2 h3 w3 h2 f0 h3 f1)) 0 0 := by
  refine q_ent (own := RX5) (by decide) rfl (Nat.le_of_ble_eq_true rfl) (fun p e s m below meth c ls X hr hlk hnm hK hT h hA hl => ?_)
  obtain ⟨hx, hb, hml, hown, ht⟩ := id X
  replace hl : lv_has ls 2 [(0, .ref h0), (1, .int 41)] := hl
  refine lv_aload_n hx hb dX5_take_0 rfl (lv_at hl 0 rfl) ?_
  refine q_get X hK h 0 rfl rfl wf_5 2 (by decide) rfl wm_1_146 dX5_take_1 ?_
  refine lv_iload_n hx hb dX5_take_4 rfl (lv_at hl 1 rfl) ?_
  refine lv_icmp_ne (tgt := 15) hx hb dX5_take_5 (by decide) (fun c_1 => ?_) (fun c_1 => ?_)
  · replace c_1 := i_ne (x := p1) (y := 41) rfl (show (41 : Int32).toInt = 41 by decide) c_1
    refine lv_aload_n hx hb dX5_take_15 rfl (lv_at hl 0 rfl) ?_
    refine lv_iconst (v := 2) hx hb dX5_take_16 (by decide) ?_
    refine q_callVv (rest := []) (wr := [(h2, .inl (cy 1, 901, .inl f0))]) X hK hT hA h (fun sz => gX5_refuse_067fcff l D cy h0 h1 h3 p0 p1 p2 p3 w0 w1 p4 p5 w2 p6 p7 (.ref h2) w3 f1 hp0 (i_rng _) (i_rng _) (i_rng _) hp4 (i_rng _) hp6 hp7 (hpre1) (hpre3) (by have q0 : (2 : Int32).toInt = 2 := (by decide); (first | (clear hpre2 hpre3; omega) | omega)) sz) wm_3_76 wm_3_79 wm_1_2 hd_X5_refuse wm_3_78 wp_1_10 (ci := 5) (q0 := 0) rfl rfl ⟨Nat.le_of_ble_eq_true rfl, Nat.le_of_ble_eq_true rfl⟩ hl.1 rfl (Nat.le_of_ble_eq_true rfl) dX5_take_17 ⟨Nat.le_of_ble_eq_true rfl, Nat.le_of_ble_eq_true rfl⟩ [0, 1, 3] [2] rfl rfl (by decide) rfl rfl (fun u_2 H locs w_2 h_2 => ?_)
    clear h
    obtain ⟨w2_0, w2_1, w2_2, y2_0, y2_1, y2_2, _⟩ := w_2
    have lq_2_1 : (2 : Int32).toInt = 2 := (by decide)
    replace h_2 : qW D _ _ (wk_565e7035b cy h2 f0 h0 h1 p0 (u_2.2.1 0 0) (u_2.2.1 1 0) (u_2.2.1 2 0) w0 w1 p4 p5 h1 w2 p6 p7 h2 h3 w3 h3 f1) _ _ := h_2
    exact q_vret X hr hlk hK h_2 (fun _ => 0, (vcons (fun _ => (u_2.2.1 0 0)) (vcons (fun _ => (u_2.2.1 1 0)) (vcons (fun _ => (u_2.2.1 2 0)) (vcons (fun _ => p0) (fun _ => (fun _ => 0)))))), fun _ _ => 0) ⟨w2_0, w2_1, w2_2, hp0, hpre1, (show ((u_2.2.1 1 0) : Int32).toInt ≠ 0 ∨ ((u_2.2.1 0 0) : Int32).toInt = 26 ∨ ((u_2.2.1 0 0) : Int32).toInt = 27 ∨ (p0 : Int32).toInt + 1 < (p7 : Int32).toInt from by (first | (clear hpre2 hpre3 y2_1; omega) | omega)), (show ((u_2.2.1 1 0) : Int32).toInt ≠ 0 ∨ (p0 : Int32).toInt = (p0 : Int32).toInt + 1 from by (first | (clear hpre2 hpre3 y2_1; omega) | omega)), (show ((u_2.2.1 1 0) : Int32).toInt ≠ 0 ∨ (p2 : Int32).toInt = 0 from by (first | (clear hpre2 hpre3 y2_1; omega) | omega)), y2_1, (show (p0 : Int32).toInt ≤ (p0 : Int32).toInt from (Int.le_refl _)), (show ∀ vv : Nat → Int32, SIM f0 f1 vv (p7 : Int32).toInt (tak 41) (p0 : Int32).toInt (p1 : Int32).toInt (p2 : Int32).toInt (p3 : Int32).toInt (p0 : Int32).toInt ((u_2.2.1 0 0) : Int32).toInt ((u_2.2.1 1 0) : Int32).toInt ((u_2.2.1 2 0) : Int32).toInt from fun _ => sim_tk2 (by (first | assumption | (clear hpre2 hpre3 y2_1; omega) | omega)) (y2_2 _ _)), trivial⟩ [1, 2, 0, 3] rfl rfl dX5_take_20 (Nat.le_of_ble_eq_true rfl) (Nat.le_of_ble_eq_true rfl)
  · replace c_1 := i_eq (x := p1) (y := 41) rfl (show (41 : Int32).toInt = 41 by decide) c_1
    refine lv_aload_n hx hb dX5_take_8 rfl (lv_at hl 0 rfl) ?_
    refine q_callVv (rest := []) (wr := []) X hK hT hA h (fun sz => gX5_advance_9820dfe l D cy h0 h1 h2 h3 p0 p1 p2 p3 w0 w1 p4 p5 w2 p6 p7 w3 f0 f1 hp0 (i_rng _) (i_rng _) (i_rng _) hp4 (i_rng _) hp6 hp7 (hpre0) (hpre3) (by (first | (clear hpre2 hpre3; omega) | omega)) sz) wm_3_68 wm_3_71 wm_1_2 hd_X5_advance wm_3_70 wp_1_8 (ci := 5) (q0 := 0) rfl rfl ⟨Nat.le_of_ble_eq_true rfl, Nat.le_of_ble_eq_true rfl⟩ hl.1 rfl (Nat.le_of_ble_eq_true rfl) dX5_take_9 ⟨Nat.le_of_ble_eq_true rfl, Nat.le_of_ble_eq_true rfl⟩ [0, 1, 2, 3] [] rfl rfl (by decide) rfl rfl (fun u_3 H locs w_3 h_3 => ?_)
    clear h
    obtain ⟨w3_0, w3_1, w3_2, w3_3, y3_0, y3_1, y3_2, y3_3, y3_4, y3_5, y3_6, _⟩ := w_3
    replace h_3 : qW D _ _ (wk_8964b4ae4 cy h0 h1 (u_3.2.1 0 0) (u_3.2.1 1 0) (u_3.2.1 2 0) (u_3.2.1 3 0) w0 w1 p4 p5 h1 w2 p6 p7 h2 h3 w3 h2 f0 h3 f1) _ _ := h_3
    refine lv_goto (tgt := 20) hx hb dX5_take_12 (by decide) ?_
    exact q_vret X hr hlk hK h_3 (fun _ => 0, (vcons (fun _ => (u_3.2.1 1 0)) (vcons (fun _ => (u_3.2.1 2 0)) (vcons (fun _ => (u_3.2.1 3 0)) (vcons (fun _ => (u_3.2.1 0 0)) (fun _ => (fun _ => 0)))))), fun _ _ => 0) ⟨w3_1, w3_2, w3_3, w3_0, y3_0, (show ((u_3.2.1 2 0) : Int32).toInt ≠ 0 ∨ ((u_3.2.1 1 0) : Int32).toInt = 26 ∨ ((u_3.2.1 1 0) : Int32).toInt = 27 ∨ ((u_3.2.1 0 0) : Int32).toInt + 1 < (p7 : Int32).toInt from by (first | (clear hpre2 hpre3 y3_1 y3_2 y3_4 y3_5; omega) | omega)), (show ((u_3.2.1 2 0) : Int32).toInt ≠ 0 ∨ ((u_3.2.1 0 0) : Int32).toInt = (p0 : Int32).toInt + 1 from by (first | (clear hpre2 hpre3 y3_1 y3_2 y3_4 y3_5; omega) | omega)), y3_2, y3_5, y3_3, (show ∀ vv : Nat → Int32, SIM f0 f1 vv (p7 : Int32).toInt (tak 41) (p0 : Int32).toInt (p1 : Int32).toInt (p2 : Int32).toInt (p3 : Int32).toInt ((u_3.2.1 0 0) : Int32).toInt ((u_3.2.1 1 0) : Int32).toInt ((u_3.2.1 2 0) : Int32).toInt ((u_3.2.1 3 0) : Int32).toInt from fun _ => sim_tk1 (by (first | assumption | (clear hpre2 hpre3 y3_1 y3_2 y3_4 y3_5; omega) | omega)) (by (first | assumption | (clear hpre2 hpre3 y3_1 y3_2 y3_4 y3_5; omega) | omega)) y3_6 (by (first | assumption | (clear hpre2 hpre3 y3_1 y3_2 y3_4 y3_5; omega) | omega))), trivial⟩ [0, 1, 2, 3] rfl rfl dX5_take_20 (Nat.le_of_ble_eq_true rfl) (Nat.le_of_ble_eq_true rfl)
set_option maxRecDepth 100000 in
def gX5_IHS_799895c (l : Launch) (D : va_G) (cy : Nat → ClassId) (kk_ : Nat) : Prop := (∀ (h0 : Nat) (h1 : Nat) (h2 : Nat) (h3 : Nat) (h4 : Nat) (h5 : Nat) (p0 : Int32) (p1 : Int32) (p2 : Int32) (p3 : Int32) (p4 : Int32) (w0 : Value) (p5 : Int32) (p6 : Int32) (w1 : Value) (p7 : Int32) (p8 : Int32) (f0 : Nat → Int32) (f1 : Nat → Int32) (f2 : Nat → Int32) (f3 : Nat → Int32) (hp0 : 0 ≤ (p0).toInt ∧ (p0).toInt ≤ 6) (hp1 : (-1) ≤ (p1).toInt ∧ (p1).toInt ≤ 900) (hp2 : (-2147483648) ≤ (p2).toInt ∧ (p2).toInt ≤ 2147483647) (hp3 : (-2147483648) ≤ (p3).toInt ∧ (p3).toInt ≤ 2147483647) (hp4 : (-2147483648) ≤ (p4).toInt ∧ (p4).toInt ≤ 2147483647) (hp5 : 0 ≤ (p5).toInt ∧ (p5).toInt ≤ 900) (hp6 : (-2147483648) ≤ (p6).toInt ∧ (p6).toInt ≤ 2147483647) (hp7 : 0 ≤ (p7).toInt ∧ (p7).toInt ≤ 900) (hp8 : 0 ≤ (p8).toInt ∧ (p8).toInt ≤ 901) (hpre0 : KZ f0 (p8 : Int32).toInt) (hpre1 : 0 ≤ (p1 : Int32).toInt ∧ (p1 : Int32).toInt < (p8 : Int32).toInt) (hpre2 : (p3 : Int32).toInt ≠ 0 ∨ (p2 : Int32).toInt = 26 ∨ (p2 : Int32).toInt = 27 ∨ (p1 : Int32).toInt + 1 < (p8 : Int32).toInt) (hpre3 : (p3 : Int32).toInt = 0 ∨ (p2 : Int32).toInt = 27) (hkk : (p0).toInt + kk_ = 6) (sz : Nat), MV l yX5_readSum cX5_readSum 4 { frames := 4 + 3 * kk_, cells := 0, slots := 0, locals := 85 + 80 * kk_ } [.ref h0, .int p0] D cy (wk_a727c0403 cy h0 h1 p1 p2 p3 p4 w0 h5 p5 p6 h1 w1 p7 p8 h2 h3 h4 h2 f0 h3 f1 h4 f2 h5 f3) sz (fun u => (0 ≤ (u.2.1 0 0).toInt ∧ (u.2.1 0 0).toInt ≤ 900) ∧ ((-2147483648) ≤ (u.2.1 1 0).toInt ∧ (u.2.1 1 0).toInt ≤ 2147483647) ∧ ((-2147483648) ≤ (u.2.1 2 0).toInt ∧ (u.2.1 2 0).toInt ≤ 2147483647) ∧ ((-2147483648) ≤ (u.2.1 3 0).toInt ∧ (u.2.1 3 0).toInt ≤ 2147483647) ∧ (0 ≤ (u.2.1 4 0).toInt ∧ (u.2.1 4 0).toInt ≤ 900) ∧ (0 ≤ ((u.2.1 0 0) : Int32).toInt ∧ ((u.2.1 0 0) : Int32).toInt < (p8 : Int32).toInt) ∧ (((u.2.1 2 0) : Int32).toInt ≠ 0 ∨ ((u.2.1 1 0) : Int32).toInt = 26 ∨ ((u.2.1 1 0) : Int32).toInt = 27 ∨ ((u.2.1 0 0) : Int32).toInt + 1 < (p8 : Int32).toInt) ∧ (((u.2.1 2 0) : Int32).toInt ≠ 0 ∨ ((u.2.1 4 0) : Int32).toInt + (p1 : Int32).toInt ≤ (p5 : Int32).toInt + ((u.2.1 0 0) : Int32).toInt) ∧ (((u.2.1 2 0) : Int32).toInt ≠ 0 ∨ (p3 : Int32).toInt = 0) ∧ (((u.2.1 2 0) : Int32).toInt = 0 ∨ ((u.2.1 1 0) : Int32).toInt = 27) ∧ ((p1 : Int32).toInt ≤ ((u.2.1 0 0) : Int32).toInt) ∧ (SIM f0 f1 f2 (p8 : Int32).toInt (sumS (naC p6) kk_) (p1 : Int32).toInt (p2 : Int32).toInt (p3 : Int32).toInt (p4 : Int32).toInt ((u.2.1 0 0) : Int32).toInt ((u.2.1 1 0) : Int32).toInt ((u.2.1 2 0) : Int32).toInt ((u.2.1 3 0) : Int32).toInt) ∧ True) (fun u => (wk_a727c0403 cy h0 h1 (u.2.1 0 0) (u.2.1 1 0) (u.2.1 2 0) (u.2.1 3 0) w0 h5 (u.2.1 4 0) p6 h1 w1 p7 p8 h2 h3 h4 h2 f0 h3 f1 h4 f2 h5 (u.2.1 5))) 0 0)
set_option maxHeartbeats 4000000 in
set_option maxRecDepth 100000 in
theorem gX5_readAtom_7e00013 (l : Launch) (D : va_G) (cy : Nat → ClassId) (h0 : Nat) (h1 : Nat) (h2 : Nat) (h3 : Nat) (h4 : Nat) (h5 : Nat) (p0 : Int32) (p1 : Int32) (p2 : Int32) (p3 : Int32) (p4 : Int32) (w0 : Value) (p5 : Int32) (p6 : Int32) (w1 : Value) (p7 : Int32) (p8 : Int32) (f0 : Nat → Int32) (f1 : Nat → Int32) (f2 : Nat → Int32) (f3 : Nat → Int32) (hp0 : 0 ≤ (p0).toInt ∧ (p0).toInt ≤ 6) (hp1 : (-1) ≤ (p1).toInt ∧ (p1).toInt ≤ 900) (hp2 : (-2147483648) ≤ (p2).toInt ∧ (p2).toInt ≤ 2147483647) (hp3 : (-2147483648) ≤ (p3).toInt ∧ (p3).toInt ≤ 2147483647) (hp4 : (-2147483648) ≤ (p4).toInt ∧ (p4).toInt ≤ 2147483647) (hp5 : 0 ≤ (p5).toInt ∧ (p5).toInt ≤ 900) (hp6 : (-2147483648) ≤ (p6).toInt ∧ (p6).toInt ≤ 2147483647) (hp7 : 0 ≤ (p7).toInt ∧ (p7).toInt ≤ 900) (hp8 : 0 ≤ (p8).toInt ∧ (p8).toInt ≤ 901) (hpre0 : KZ f0 (p8 : Int32).toInt) (hpre1 : 0 ≤ (p1 : Int32).toInt ∧ (p1 : Int32).toInt < (p8 : Int32).toInt) (hpre2 : (p3 : Int32).toInt ≠ 0 ∨ (p2 : Int32).toInt = 26 ∨ (p2 : Int32).toInt = 27 ∨ (p1 : Int32).toInt + 1 < (p8 : Int32).toInt) (hpre3 : (p3 : Int32).toInt = 0 ∨ (p2 : Int32).toInt = 27) (kk_ : Nat) (hkk : (p0).toInt + kk_ = 6) (ih : ∀ j : Nat, kk_ = j + 1 → gX5_IHS_799895c l D cy j) (sz : Nat) : MV l yX5_readAtom cX5_readAtom 2 { frames := 2 + 3 * kk_, cells := 0, slots := 0, locals := 42 + 80 * kk_ } [.ref h0, .int p0] D cy (wk_a727c0403 cy h0 h1 p1 p2 p3 p4 w0 h5 p5 p6 h1 w1 p7 p8 h2 h3 h4 h2 f0 h3 f1 h4 f2 h5 f3) sz (fun u => ((-2147483648) ≤ (u.2.1 0 0).toInt ∧ (u.2.1 0 0).toInt ≤ 2147483647) ∧ ((-2147483648) ≤ (u.2.1 1 0).toInt ∧ (u.2.1 1 0).toInt ≤ 2147483647) ∧ ((-2147483648) ≤ (u.2.1 2 0).toInt ∧ (u.2.1 2 0).toInt ≤ 2147483647) ∧ ((-1) ≤ (u.2.1 4 0).toInt ∧ (u.2.1 4 0).toInt ≤ 900) ∧ (0 ≤ (u.2.1 5 0).toInt ∧ (u.2.1 5 0).toInt ≤ 900) ∧ (0 ≤ ((u.2.1 4 0) : Int32).toInt ∧ ((u.2.1 4 0) : Int32).toInt < (p8 : Int32).toInt) ∧ (((u.2.1 1 0) : Int32).toInt ≠ 0 ∨ ((u.2.1 0 0) : Int32).toInt = 26 ∨ ((u.2.1 0 0) : Int32).toInt = 27 ∨ ((u.2.1 4 0) : Int32).toInt + 1 < (p8 : Int32).toInt) ∧ (((u.2.1 1 0) : Int32).toInt ≠ 0 ∨ ((u.2.1 5 0) : Int32).toInt + (p1 : Int32).toInt ≤ (p5 : Int32).toInt + ((u.2.1 4 0) : Int32).toInt) ∧ (((u.2.1 1 0) : Int32).toInt ≠ 0 ∨ (p3 : Int32).toInt = 0) ∧ (((u.2.1 1 0) : Int32).toInt = 0 ∨ ((u.2.1 0 0) : Int32).toInt = 27) ∧ ((p1 : Int32).toInt ≤ ((u.2.1 4 0) : Int32).toInt) ∧ (SIM f0 f1 f2 (p8 : Int32).toInt (atomS (naC p6) kk_) (p1 : Int32).toInt (p2 : Int32).toInt (p3 : Int32).toInt (p4 : Int32).toInt ((u.2.1 4 0) : Int32).toInt ((u.2.1 0 0) : Int32).toInt ((u.2.1 1 0) : Int32).toInt ((u.2.1 2 0) : Int32).toInt) ∧ True) (fun u => (wk_a727c0403 cy h0 h1 (u.2.1 4 0) (u.2.1 0 0) (u.2.1 1 0) (u.2.1 2 0) w0 h5 (u.2.1 5 0) p6 h1 w1 p7 p8 h2 h3 h4 h2 f0 h3 f1 h4 f2 h5 (u.2.1 3))) 0 0 := by
  refine q_ent (own := RX5) (by decide) rfl (Nat.le_of_ble_eq_true rfl) (fun p e s m below meth c ls X hr hlk hnm hK hT h hA hl => ?_)
  obtain ⟨hx, hb, hml, hown, ht⟩ := id X
  replace hl : lv_has ls 2 [(0, .ref h0), (1, .int p0)] := hl
  refine lv_aload_n hx hb dX5_readAtom_0 rfl (lv_at hl 0 rfl) ?_
  refine q_get X hK h 0 rfl rfl wf_5 2 (by decide) rfl wm_1_146 dX5_readAtom_1 ?_
  refine lv_bipush (v := 25) hx hb dX5_readAtom_4 (by decide) ?_
  refine lv_icmp_ne (tgt := 32) hx hb dX5_readAtom_6 (by decide) (fun c_1 => ?_) (fun c_1 => ?_)
  · replace c_1 := i_ne (x := p2) (y := 25) rfl (show (25 : Int32).toInt = 25 by decide) c_1
    refine lv_aload_n hx hb dX5_readAtom_32 rfl (lv_at hl 0 rfl) ?_
    refine q_get X hK h 0 rfl rfl wf_5 2 (by decide) rfl wm_1_146 dX5_readAtom_33 ?_
    refine lv_bipush (v := 40) hx hb dX5_readAtom_36 (by decide) ?_
    refine lv_icmp_ne (tgt := 65) hx hb dX5_readAtom_38 (by decide) (fun c_2 => ?_) (fun c_2 => ?_)
    · replace c_2 := i_ne (x := p2) (y := 40) rfl (show (40 : Int32).toInt = 40 by decide) c_2
      refine lv_aload_n hx hb dX5_readAtom_65 rfl (lv_at hl 0 rfl) ?_
      refine q_get X hK h 0 rfl rfl wf_5 2 (by decide) rfl wm_1_146 dX5_readAtom_66 ?_
      refine lv_bipush (v := 11) hx hb dX5_readAtom_69 (by decide) ?_
      refine lv_icmp_ge (tgt := 108) hx hb dX5_readAtom_71 (by decide) (fun c_3 => ?_) (fun c_3 => ?_)
      · replace c_3 := i_le (x := 11) (y := p2) (show (11 : Int32).toInt = 11 by decide) rfl c_3
        refine lv_aload_n hx hb dX5_readAtom_108 rfl (lv_at hl 0 rfl) ?_
        refine lv_iconst (v := 2) hx hb dX5_readAtom_109 (by decide) ?_
        refine q_callVv (rest := []) (wr := (wk_e8b828d32 cy h2 f0 h4 f2 h5 f3)) X hK hT hA h (fun sz => gX5_refuse_067fcff l D cy h0 h1 h3 p1 p2 p3 p4 w0 (.ref h5) p5 p6 w1 p7 p8 (.ref h2) (.ref h4) f1 hp1 (i_rng _) (i_rng _) (i_rng _) hp5 (i_rng _) hp7 hp8 (hpre1) (hpre3) (by have q0 : (2 : Int32).toInt = 2 := (by decide); (first | (clear hpre2 hpre3; omega) | omega)) sz) wm_3_76 wm_3_79 wm_1_2 hd_X5_refuse wm_3_78 wp_1_10 (ci := 5) (q0 := 0) rfl rfl ⟨by dsimp only; omega, by dsimp only; omega⟩ hl.1 rfl (Nat.le_of_ble_eq_true rfl) dX5_readAtom_110 ⟨Nat.le_of_ble_eq_true rfl, Nat.le_of_ble_eq_true rfl⟩ [0, 1, 3] [2, 4, 5] rfl rfl (by decide) rfl rfl (fun u_4 H locs w_4 h_4 => ?_)
        clear h
        obtain ⟨w4_0, w4_1, w4_2, y4_0, y4_1, y4_2, _⟩ := w_4
        have lq_4_1 : (2 : Int32).toInt = 2 := (by decide)
        replace h_4 : qW D _ _ (wk_770fe8eae cy h2 f0 h4 f2 h5 f3 h0 h1 p1 (u_4.2.1 0 0) (u_4.2.1 1 0) (u_4.2.1 2 0) w0 h5 p5 p6 h1 w1 p7 p8 h2 h3 h4 h3 f1) _ _ := h_4
        exact q_vret X hr hlk hK h_4 (fun _ => 0, (vcons (fun _ => (u_4.2.1 0 0)) (vcons (fun _ => (u_4.2.1 1 0)) (vcons (fun _ => (u_4.2.1 2 0)) (vcons f3 (vcons (fun _ => p1) (vcons (fun _ => p5) (fun _ => (fun _ => 0)))))))), fun _ _ => 0) ⟨w4_0, w4_1, w4_2, hp1, hp5, hpre1, (show ((u_4.2.1 1 0) : Int32).toInt ≠ 0 ∨ ((u_4.2.1 0 0) : Int32).toInt = 26 ∨ ((u_4.2.1 0 0) : Int32).toInt = 27 ∨ (p1 : Int32).toInt + 1 < (p8 : Int32).toInt from by (first | (clear hpre2 hpre3 y4_1; omega) | omega)), (show ((u_4.2.1 1 0) : Int32).toInt ≠ 0 ∨ (p5 : Int32).toInt + (p1 : Int32).toInt ≤ (p5 : Int32).toInt + (p1 : Int32).toInt from by (first | (clear hpre2 hpre3 y4_1; omega) | omega)), (show ((u_4.2.1 1 0) : Int32).toInt ≠ 0 ∨ (p3 : Int32).toInt = 0 from by (first | (clear hpre2 hpre3 y4_1; omega) | omega)), y4_1, (show (p1 : Int32).toInt ≤ (p1 : Int32).toInt from (Int.le_refl _)), (show SIM f0 f1 f2 (p8 : Int32).toInt (atomS (naC p6) kk_) (p1 : Int32).toInt (p2 : Int32).toInt (p3 : Int32).toInt (p4 : Int32).toInt (p1 : Int32).toInt ((u_4.2.1 0 0) : Int32).toInt ((u_4.2.1 1 0) : Int32).toInt ((u_4.2.1 2 0) : Int32).toInt from sim_at5 (by (first | assumption | (clear hpre2 hpre3 y4_1; omega) | omega)) (by (first | assumption | (clear hpre2 hpre3 y4_1; omega) | omega)) (na_no1 (by (first | assumption | (clear hpre2 hpre3 y4_1; omega) | omega))) (y4_2 _ _)), trivial⟩ [3, 4, 0, 5, 1, 2] rfl rfl dX5_readAtom_113 (Nat.le_of_ble_eq_true rfl) (Nat.le_of_ble_eq_true rfl)
      · replace c_3 := i_nle (x := 11) (y := p2) (show (11 : Int32).toInt = 11 by decide) rfl c_3
        refine lv_aload_n hx hb dX5_readAtom_74 rfl (lv_at hl 0 rfl) ?_
        refine q_get X hK h 0 rfl rfl wf_5 8 (by decide) rfl wm_1_154 dX5_readAtom_75 ?_
        refine lv_aload_n hx hb dX5_readAtom_78 rfl (lv_at hl 0 rfl) ?_
        refine q_get X hK h 0 rfl rfl wf_5 2 (by decide) rfl wm_1_146 dX5_readAtom_79 ?_
        refine lv_ishr hx hb dX5_readAtom_82 ?_
        obtain ⟨z_5, ez_5, hz_5⟩ := e_any (p6 >>> (p2 &&& 31))
        refine q_c z_5 ez_5 ?_
        refine lv_iconst (v := 1) hx hb dX5_readAtom_83 (by decide) ?_
        refine lv_iand hx hb dX5_readAtom_84 ?_
        obtain ⟨z_6, ez_6, hz_6⟩ := e_and2 (x := z_5) (y := 1) (show (1 : Int32).toInt = 1 by decide) (by omega)
        refine q_c z_6 ez_6 ?_
        refine lv_iconst (v := 1) hx hb dX5_readAtom_85 (by decide) ?_
        refine lv_icmp_ne (tgt := 108) hx hb dX5_readAtom_86 (by decide) (fun c_7 => ?_) (fun c_7 => ?_)
        · replace c_7 := i_ne (x := z_6) (y := 1) rfl (show (1 : Int32).toInt = 1 by decide) c_7
          refine lv_aload_n hx hb dX5_readAtom_108 rfl (lv_at hl 0 rfl) ?_
          refine lv_iconst (v := 2) hx hb dX5_readAtom_109 (by decide) ?_
          refine q_callVv (rest := []) (wr := (wk_e8b828d32 cy h2 f0 h4 f2 h5 f3)) X hK hT hA h (fun sz => gX5_refuse_067fcff l D cy h0 h1 h3 p1 p2 p3 p4 w0 (.ref h5) p5 p6 w1 p7 p8 (.ref h2) (.ref h4) f1 hp1 (i_rng _) (i_rng _) (i_rng _) hp5 (i_rng _) hp7 hp8 (hpre1) (hpre3) (by have q0 : (2 : Int32).toInt = 2 := (by decide); (first | (clear hpre2 hpre3; omega) | omega)) sz) wm_3_76 wm_3_79 wm_1_2 hd_X5_refuse wm_3_78 wp_1_10 (ci := 5) (q0 := 0) rfl rfl ⟨by dsimp only; omega, by dsimp only; omega⟩ hl.1 rfl (Nat.le_of_ble_eq_true rfl) dX5_readAtom_110 ⟨Nat.le_of_ble_eq_true rfl, Nat.le_of_ble_eq_true rfl⟩ [0, 1, 3] [2, 4, 5] rfl rfl (by decide) rfl rfl (fun u_8 H locs w_8 h_8 => ?_)
          clear h
          obtain ⟨w8_0, w8_1, w8_2, y8_0, y8_1, y8_2, _⟩ := w_8
          have lq_8_1 : (2 : Int32).toInt = 2 := (by decide)
          replace h_8 : qW D _ _ (wk_770fe8eae cy h2 f0 h4 f2 h5 f3 h0 h1 p1 (u_8.2.1 0 0) (u_8.2.1 1 0) (u_8.2.1 2 0) w0 h5 p5 p6 h1 w1 p7 p8 h2 h3 h4 h3 f1) _ _ := h_8
          exact q_vret X hr hlk hK h_8 (fun _ => 0, (vcons (fun _ => (u_8.2.1 0 0)) (vcons (fun _ => (u_8.2.1 1 0)) (vcons (fun _ => (u_8.2.1 2 0)) (vcons f3 (vcons (fun _ => p1) (vcons (fun _ => p5) (fun _ => (fun _ => 0)))))))), fun _ _ => 0) ⟨w8_0, w8_1, w8_2, hp1, hp5, hpre1, (show ((u_8.2.1 1 0) : Int32).toInt ≠ 0 ∨ ((u_8.2.1 0 0) : Int32).toInt = 26 ∨ ((u_8.2.1 0 0) : Int32).toInt = 27 ∨ (p1 : Int32).toInt + 1 < (p8 : Int32).toInt from by (first | (clear hpre2 hpre3 y8_1; omega) | omega)), (show ((u_8.2.1 1 0) : Int32).toInt ≠ 0 ∨ (p5 : Int32).toInt + (p1 : Int32).toInt ≤ (p5 : Int32).toInt + (p1 : Int32).toInt from by (first | (clear hpre2 hpre3 y8_1; omega) | omega)), (show ((u_8.2.1 1 0) : Int32).toInt ≠ 0 ∨ (p3 : Int32).toInt = 0 from by (first | (clear hpre2 hpre3 y8_1; omega) | omega)), y8_1, (show (p1 : Int32).toInt ≤ (p1 : Int32).toInt from (Int.le_refl _)), (show SIM f0 f1 f2 (p8 : Int32).toInt (atomS (naC p6) kk_) (p1 : Int32).toInt (p2 : Int32).toInt (p3 : Int32).toInt (p4 : Int32).toInt (p1 : Int32).toInt ((u_8.2.1 0 0) : Int32).toInt ((u_8.2.1 1 0) : Int32).toInt ((u_8.2.1 2 0) : Int32).toInt from sim_at5 (by (first | assumption | (clear hpre2 hpre3 y8_1; omega) | omega)) (by (first | assumption | (clear hpre2 hpre3 y8_1; omega) | omega)) (na_no2 ez_5 ez_6 (by (first | assumption | (clear hpre2 hpre3 y8_1; omega) | omega))) (y8_2 _ _)), trivial⟩ [3, 4, 0, 5, 1, 2] rfl rfl dX5_readAtom_113 (Nat.le_of_ble_eq_true rfl) (Nat.le_of_ble_eq_true rfl)
        · replace c_7 := i_eq (x := z_6) (y := 1) rfl (show (1 : Int32).toInt = 1 by decide) c_7
          refine lv_aload_n hx hb dX5_readAtom_89 rfl (lv_at hl 0 rfl) ?_
          refine lv_sipush (v := 1000) hx hb dX5_readAtom_90 (by decide) ?_
          refine lv_aload_n hx hb dX5_readAtom_93 rfl (lv_at hl 0 rfl) ?_
          refine q_get X hK h 0 rfl rfl wf_5 2 (by decide) rfl wm_1_146 dX5_readAtom_94 ?_
          refine lv_iadd hx hb dX5_readAtom_97 ?_
          obtain ⟨z_9, ez_9, hz_9⟩ := e_add (x := 1000) (y := p2) (show (1000 : Int32).toInt = 1000 by decide) rfl (by omega) (by omega)
          refine q_c z_9 ez_9 ?_
          clear ez_9
          refine q_callVv (rest := []) (wr := (wk_9325d072e cy h1 w1 p7 p8 h2 h3 h4 h2 f0 h3 f1 h4 f2)) X hK hT hA h (fun sz => gX5_add_055b9a0 l D cy h0 h5 z_9 (.ref h1) p1 p2 p3 p4 w0 p5 p6 f3 (i_rng _) hp1 (i_rng _) (i_rng _) (i_rng _) hp5 (i_rng _) sz) wm_3_113 wm_3_116 wm_1_2 hd_X5_add wm_3_115 wp_2_3 (ci := 5) (q0 := 0) rfl rfl ⟨by dsimp only; omega, by dsimp only; omega⟩ hl.1 rfl (Nat.le_of_ble_eq_true rfl) dX5_readAtom_98 ⟨Nat.le_of_ble_eq_true rfl, Nat.le_of_ble_eq_true rfl⟩ [0, 5] [1, 2, 3, 4] rfl rfl (by decide) rfl rfl (fun u_10 H locs w_10 h_10 => ?_)
          clear h
          obtain ⟨w10_0, y10_0, _⟩ := w_10
          replace h_10 : qW D _ _ (wk_cc81809fb cy h1 w1 p7 p8 h2 h3 h4 h2 f0 h3 f1 h4 f2 h0 h1 p1 p2 p3 p4 w0 h5 (u_10.2.1 0 0) p6 h5 (u_10.2.1 1)) _ _ := h_10
          refine lv_aload_n hx hb dX5_readAtom_101 rfl (lv_at hl 0 rfl) ?_
          refine q_callVv (rest := []) (wr := (wk_97b0566c7 cy h4 f2 h5 (u_10.2.1 1))) X hK hT hA h_10 (fun sz => gX5_advance_9820dfe l D cy h0 h1 h2 h3 p1 p2 p3 p4 w0 (.ref h5) (u_10.2.1 0 0) p6 w1 p7 p8 (.ref h4) f0 f1 hp1 (i_rng _) (i_rng _) (i_rng _) (bw w10_0 (by decide) (by decide)) (i_rng _) hp7 hp8 (hpre0) (hpre3) (by (first | (clear hpre2 hpre3; omega) | omega)) sz) wm_3_68 wm_3_71 wm_1_2 hd_X5_advance wm_3_70 wp_1_8 (ci := 5) (q0 := 0) rfl rfl ⟨by dsimp only; omega, by dsimp only; omega⟩ hl.1 rfl (Nat.le_of_ble_eq_true rfl) dX5_readAtom_102 ⟨Nat.le_of_ble_eq_true rfl, Nat.le_of_ble_eq_true rfl⟩ [4, 0, 1, 2] [3, 5] rfl rfl (by decide) rfl rfl (fun u_11 H locs w_11 h_11 => ?_)
          clear h_10
          obtain ⟨w11_0, w11_1, w11_2, w11_3, y11_0, y11_1, y11_2, y11_3, y11_4, y11_5, y11_6, _⟩ := w_11
          replace h_11 : qW D _ _ (wk_e6664c302 cy h4 f2 h5 (u_10.2.1 1) h0 h1 (u_11.2.1 0 0) (u_11.2.1 1 0) (u_11.2.1 2 0) (u_11.2.1 3 0) w0 h5 (u_10.2.1 0 0) p6 h1 w1 p7 p8 h2 h3 h4 h2 f0 h3 f1) _ _ := h_11
          refine lv_goto (tgt := 113) hx hb dX5_readAtom_105 (by decide) ?_
          exact q_vret X hr hlk hK h_11 (fun _ => 0, (vcons (fun _ => (u_11.2.1 1 0)) (vcons (fun _ => (u_11.2.1 2 0)) (vcons (fun _ => (u_11.2.1 3 0)) (vcons (u_10.2.1 1) (vcons (fun _ => (u_11.2.1 0 0)) (vcons (fun _ => (u_10.2.1 0 0)) (fun _ => (fun _ => 0)))))))), fun _ _ => 0) ⟨w11_1, w11_2, w11_3, w11_0, (bw w10_0 (by decide) (by decide)), y11_0, (show ((u_11.2.1 2 0) : Int32).toInt ≠ 0 ∨ ((u_11.2.1 1 0) : Int32).toInt = 26 ∨ ((u_11.2.1 1 0) : Int32).toInt = 27 ∨ ((u_11.2.1 0 0) : Int32).toInt + 1 < (p8 : Int32).toInt from by (first | (clear hpre2 hpre3 y11_1 y11_2 y11_4 y11_5; omega) | omega)), (show ((u_11.2.1 2 0) : Int32).toInt ≠ 0 ∨ ((u_10.2.1 0 0) : Int32).toInt + (p1 : Int32).toInt ≤ (p5 : Int32).toInt + ((u_11.2.1 0 0) : Int32).toInt from by (first | (clear hpre2 hpre3 y11_1 y11_2 y11_4 y11_5; omega) | omega)), y11_2, y11_5, y11_3, (show SIM f0 f1 f2 (p8 : Int32).toInt (atomS (naC p6) kk_) (p1 : Int32).toInt (p2 : Int32).toInt (p3 : Int32).toInt (p4 : Int32).toInt ((u_11.2.1 0 0) : Int32).toInt ((u_11.2.1 1 0) : Int32).toInt ((u_11.2.1 2 0) : Int32).toInt ((u_11.2.1 3 0) : Int32).toInt from sim_at4 (by (first | assumption | (clear hpre2 hpre3 y11_1 y11_2 y11_4 y11_5; omega) | omega)) (na_ye (by (first | assumption | (clear hpre2 hpre3 y11_1 y11_2 y11_4 y11_5; omega) | omega)) ez_5 ez_6 (by (first | assumption | (clear hpre2 hpre3 y11_1 y11_2 y11_4 y11_5; omega) | omega))) y11_6 (by (first | assumption | (clear hpre2 hpre3 y11_1 y11_2 y11_4 y11_5; omega) | omega))), trivial⟩ [2, 3, 4, 5, 0, 1] rfl rfl dX5_readAtom_113 (Nat.le_of_ble_eq_true rfl) (Nat.le_of_ble_eq_true rfl)
    · replace c_2 := i_eq (x := p2) (y := 40) rfl (show (40 : Int32).toInt = 40 by decide) c_2
      refine lv_aload_n hx hb dX5_readAtom_41 rfl (lv_at hl 0 rfl) ?_
      refine lv_iload_n hx hb dX5_readAtom_42 rfl (lv_at hl 1 rfl) ?_
      refine q_callVi (rest := []) (wr := (wk_97b0566c7 cy h4 f2 h5 f3)) X hK hT hA h (fun sz => gX5_goesDeeper_ce0d7f5 l D cy h0 h1 h2 h3 p0 p1 p2 p3 p4 w0 (.ref h5) p5 p6 w1 p7 p8 (.ref h4) f0 f1 hp0 hp1 (i_rng _) (i_rng _) (i_rng _) hp5 (i_rng _) hp7 hp8 (hpre0) (hpre1) (hpre2) (hpre3) (by (first | (clear hpre2 hpre3; omega) | omega)) sz) wm_3_117 wm_3_120 wm_1_2 hd_X5_goesDeeper wm_3_119 wp_2_4 (ci := 5) (q0 := 0) rfl rfl ⟨by dsimp only; omega, by dsimp only; omega⟩ hl.1 rfl (Nat.le_of_ble_eq_true rfl) dX5_readAtom_43 ⟨Nat.le_of_ble_eq_true rfl, Nat.le_of_ble_eq_true rfl⟩ [0, 1, 2, 3] [4, 5] rfl rfl (by decide) rfl rfl (fun r_12 u_12 H locs w_12 h_12 => ?_)
      clear h
      obtain ⟨wr_12, w12_0, w12_1, w12_2, w12_3, y12_0, y12_1, y12_2, y12_3, y12_4, y12_5, y12_6, y12_7, y12_8, _⟩ := w_12
      replace h_12 : qW D _ _ (wk_e6664c302 cy h4 f2 h5 f3 h0 h1 (u_12.2.1 0 0) (u_12.2.1 1 0) (u_12.2.1 2 0) (u_12.2.1 3 0) w0 h5 p5 p6 h1 w1 p7 p8 h2 h3 h4 h2 f0 h3 f1) _ _ := h_12
      refine lv_if_eq (tgt := 113) hx hb dX5_readAtom_46 (by decide) (fun c_13 => ?_) (fun c_13 => ?_)
      · replace c_13 := i_eq (x := r_12) (y := 0) rfl (show (0 : Int32).toInt = 0 by decide) c_13
        replace y12_8 := a01_0 y12_8 c_13
        exact q_vret X hr hlk hK h_12 (fun _ => 0, (vcons (fun _ => (u_12.2.1 1 0)) (vcons (fun _ => (u_12.2.1 2 0)) (vcons (fun _ => (u_12.2.1 3 0)) (vcons f3 (vcons (fun _ => (u_12.2.1 0 0)) (vcons (fun _ => p5) (fun _ => (fun _ => 0)))))))), fun _ _ => 0) ⟨w12_1, w12_2, w12_3, w12_0, hp5, y12_0, y12_1, (show ((u_12.2.1 2 0) : Int32).toInt ≠ 0 ∨ (p5 : Int32).toInt + (p1 : Int32).toInt ≤ (p5 : Int32).toInt + ((u_12.2.1 0 0) : Int32).toInt from by (first | (clear hpre2 hpre3 y12_1 y12_2 y12_4 y12_5 y12_6; omega) | omega)), y12_5, y12_2, y12_3, (show SIM f0 f1 f2 (p8 : Int32).toInt (atomS (naC p6) kk_) (p1 : Int32).toInt (p2 : Int32).toInt (p3 : Int32).toInt (p4 : Int32).toInt ((u_12.2.1 0 0) : Int32).toInt ((u_12.2.1 1 0) : Int32).toInt ((u_12.2.1 2 0) : Int32).toInt ((u_12.2.1 3 0) : Int32).toInt from sim_at2 (by (first | assumption | (clear hpre2 hpre3 y12_1 y12_2 y12_4 y12_5 y12_6; omega) | omega)) (by (first | assumption | (clear hpre2 hpre3 y12_1 y12_2 y12_4 y12_5 y12_6; omega) | omega)) (alt_l y12_7 (by (first | assumption | (clear hpre2 hpre3 y12_1 y12_2 y12_4 y12_5 y12_6; omega) | omega)) _)), trivial⟩ [2, 3, 4, 5, 0, 1] rfl rfl dX5_readAtom_113 (Nat.le_of_ble_eq_true rfl) (Nat.le_of_ble_eq_true rfl)
      · replace c_13 := i_ne (x := r_12) (y := 0) rfl (show (0 : Int32).toInt = 0 by decide) c_13
        replace y12_8 := a01_1 y12_8 c_13
        refine lv_aload_n hx hb dX5_readAtom_49 rfl (lv_at hl 0 rfl) ?_
        refine lv_iload_n hx hb dX5_readAtom_50 rfl (lv_at hl 1 rfl) ?_
        refine lv_iconst (v := 1) hx hb dX5_readAtom_51 (by decide) ?_
        refine lv_iadd hx hb dX5_readAtom_52 ?_
        obtain ⟨z_14, ez_14, hz_14⟩ := e_add (x := p0) (y := 1) rfl (show (1 : Int32).toInt = 1 by decide) (by omega) (by omega)
        refine q_c z_14 ez_14 ?_
        clear ez_14
        obtain ⟨j_15, hj_15⟩ : ∃ j : Nat, kk_ = j + 1 := ⟨kk_ - 1, by omega⟩
        refine q_callVv (rest := []) (wr := []) X hK hT hA h_12 (fun sz => (ih j_15 hj_15)  h0 h1 h2 h3 h4 h5 z_14 (u_12.2.1 0 0) (u_12.2.1 1 0) (u_12.2.1 2 0) (u_12.2.1 3 0) w0 p5 p6 w1 p7 p8 f0 f1 f2 f3 ⟨by omega, by omega⟩ w12_0 (i_rng _) (i_rng _) (i_rng _) hp5 (i_rng _) hp7 hp8 (hpre0) (y12_0) (y12_1) (y12_2) (by omega) sz) wm_3_101 wm_3_104 wm_1_2 hd_X5_readSum wm_3_103 wp_2_0 (ci := 5) (q0 := 0) rfl rfl ⟨by dsimp only; omega, by dsimp only; omega⟩ hl.1 rfl (Nat.le_of_ble_eq_true rfl) dX5_readAtom_53 ⟨Nat.le_of_ble_eq_true rfl, Nat.le_of_ble_eq_true rfl⟩ [2, 3, 4, 5, 0, 1] [] rfl rfl (by decide) rfl rfl (fun u_15 H locs w_15 h_15 => ?_)
        clear h_12
        obtain ⟨w15_0, w15_1, w15_2, w15_3, w15_4, y15_0, y15_1, y15_2, y15_3, y15_4, y15_5, y15_6, _⟩ := w_15
        replace h_15 : qW D _ _ (wk_a727c0403 cy h0 h1 (u_15.2.1 0 0) (u_15.2.1 1 0) (u_15.2.1 2 0) (u_15.2.1 3 0) w0 h5 (u_15.2.1 4 0) p6 h1 w1 p7 p8 h2 h3 h4 h2 f0 h3 f1 h4 f2 h5 (u_15.2.1 5)) _ _ := h_15
        refine lv_aload_n hx hb dX5_readAtom_56 rfl (lv_at hl 0 rfl) ?_
        refine lv_bipush (v := 41) hx hb dX5_readAtom_57 (by decide) ?_
        refine q_callVv (rest := []) (wr := (wk_97b0566c7 cy h4 f2 h5 (u_15.2.1 5))) X hK hT hA h_15 (fun sz => gX5_take_7b80f77 l D cy h0 h1 h2 h3 (u_15.2.1 0 0) (u_15.2.1 1 0) (u_15.2.1 2 0) (u_15.2.1 3 0) w0 (.ref h5) (u_15.2.1 4 0) p6 w1 p7 p8 (.ref h4) f0 f1 (bw w15_0 (by decide) (by decide)) (i_rng _) (i_rng _) (i_rng _) w15_4 (i_rng _) hp7 hp8 (hpre0) (y15_0) (y15_1) (y15_4) (by have q0 : (41 : Int32).toInt = 41 := (by decide); (first | (clear hpre2 hpre3 y12_1 y12_2 y12_4 y12_5 y12_6 y15_1 y15_2 y15_3 y15_4; omega) | omega)) sz) wm_3_72 wm_3_75 wm_1_2 hd_X5_take wm_3_74 wp_1_9 (ci := 5) (q0 := 0) rfl rfl ⟨by dsimp only; omega, by dsimp only; omega⟩ hl.1 rfl (Nat.le_of_ble_eq_true rfl) dX5_readAtom_59 ⟨Nat.le_of_ble_eq_true rfl, Nat.le_of_ble_eq_true rfl⟩ [0, 1, 2, 3] [4, 5] rfl rfl (by decide) rfl rfl (fun u_16 H locs w_16 h_16 => ?_)
        clear h_15
        obtain ⟨w16_0, w16_1, w16_2, w16_3, y16_0, y16_1, y16_2, y16_3, y16_4, y16_5, y16_6, _⟩ := w_16
        have lq_16_1 : (41 : Int32).toInt = 41 := (by decide)
        replace h_16 : qW D _ _ (wk_e6664c302 cy h4 f2 h5 (u_15.2.1 5) h0 h1 (u_16.2.1 3 0) (u_16.2.1 0 0) (u_16.2.1 1 0) (u_16.2.1 2 0) w0 h5 (u_15.2.1 4 0) p6 h1 w1 p7 p8 h2 h3 h4 h2 f0 h3 f1) _ _ := h_16
        refine lv_goto (tgt := 113) hx hb dX5_readAtom_62 (by decide) ?_
        exact q_vret X hr hlk hK h_16 (fun _ => 0, (vcons (fun _ => (u_16.2.1 0 0)) (vcons (fun _ => (u_16.2.1 1 0)) (vcons (fun _ => (u_16.2.1 2 0)) (vcons (u_15.2.1 5) (vcons (fun _ => (u_16.2.1 3 0)) (vcons (fun _ => (u_15.2.1 4 0)) (fun _ => (fun _ => 0)))))))), fun _ _ => 0) ⟨w16_0, w16_1, w16_2, w16_3, w15_4, y16_0, y16_1, (show ((u_16.2.1 1 0) : Int32).toInt ≠ 0 ∨ ((u_15.2.1 4 0) : Int32).toInt + (p1 : Int32).toInt ≤ (p5 : Int32).toInt + ((u_16.2.1 3 0) : Int32).toInt from by (first | (clear hpre2 hpre3 y12_1 y12_2 y12_4 y12_5 y12_6 y15_1 y15_2 y15_3 y15_4 y16_1 y16_2 y16_3 y16_4; omega) | omega)), (show ((u_16.2.1 1 0) : Int32).toInt ≠ 0 ∨ (p3 : Int32).toInt = 0 from (fl_tr y16_3 (fl_tr y15_3 y12_5))), y16_4, (show (p1 : Int32).toInt ≤ ((u_16.2.1 3 0) : Int32).toInt from (Int.le_trans (Int.le_trans y12_3 y15_5) y16_5)), (show SIM f0 f1 f2 (p8 : Int32).toInt (atomS (naC p6) kk_) (p1 : Int32).toInt (p2 : Int32).toInt (p3 : Int32).toInt (p4 : Int32).toInt ((u_16.2.1 3 0) : Int32).toInt ((u_16.2.1 0 0) : Int32).toInt ((u_16.2.1 1 0) : Int32).toInt ((u_16.2.1 2 0) : Int32).toInt from sim_at3 (by (first | assumption | (clear hpre2 hpre3 y12_1 y12_2 y12_4 y12_5 y12_6 y15_1 y15_2 y15_3 y15_4 y16_1 y16_2 y16_3 y16_4; omega) | omega)) hj_15 (alt_r y12_7 (by (first | assumption | (clear hpre2 hpre3 y12_1 y12_2 y12_4 y12_5 y12_6 y15_1 y15_2 y15_3 y15_4 y16_1 y16_2 y16_3 y16_4; omega) | omega))) (by (first | assumption | (clear hpre2 hpre3 y12_1 y12_2 y12_4 y12_5 y12_6 y15_1 y15_2 y15_3 y15_4 y16_1 y16_2 y16_3 y16_4; omega) | omega)) y15_6 (y16_6 _)), trivial⟩ [2, 3, 4, 5, 0, 1] rfl rfl dX5_readAtom_113 (Nat.le_of_ble_eq_true rfl) (Nat.le_of_ble_eq_true rfl)
  · replace c_1 := i_eq (x := p2) (y := 25) rfl (show (25 : Int32).toInt = 25 by decide) c_1
    refine lv_aload_n hx hb dX5_readAtom_9 rfl (lv_at hl 0 rfl) ?_
    refine lv_aload_n hx hb dX5_readAtom_10 rfl (lv_at hl 0 rfl) ?_
    refine q_get X hK h 0 rfl rfl wf_5 0 (by decide) rfl wm_1_144 dX5_readAtom_11 ?_
    refine q_get X hK h 1 rfl rfl wf_8 5 (by decide) rfl wm_1_52 dX5_readAtom_14 ?_
    refine lv_aload_n hx hb dX5_readAtom_17 rfl (lv_at hl 0 rfl) ?_
    refine q_get X hK h 0 rfl rfl wf_5 1 (by decide) rfl wm_1_145 dX5_readAtom_18 ?_
    refine q_iald X hK h 4 rfl (i_in rfl (by omega) (by omega)) dX5_readAtom_21 ?_
    refine q_any (fun z_17 hz_17 => ?_)
    refine q_callVv (rest := []) (wr := (wk_9325d072e cy h1 w1 p7 p8 h2 h3 h4 h2 f0 h3 f1 h4 f2)) X hK hT hA h (fun sz => gX5_add_055b9a0 l D cy h0 h5 z_17 (.ref h1) p1 p2 p3 p4 w0 p5 p6 f3 (i_rng _) hp1 (i_rng _) (i_rng _) (i_rng _) hp5 (i_rng _) sz) wm_3_113 wm_3_116 wm_1_2 hd_X5_add wm_3_115 wp_2_3 (ci := 5) (q0 := 0) rfl rfl ⟨by dsimp only; omega, by dsimp only; omega⟩ hl.1 rfl (Nat.le_of_ble_eq_true rfl) dX5_readAtom_22 ⟨Nat.le_of_ble_eq_true rfl, Nat.le_of_ble_eq_true rfl⟩ [0, 5] [1, 2, 3, 4] rfl rfl (by decide) rfl rfl (fun u_18 H locs w_18 h_18 => ?_)
    clear h
    obtain ⟨w18_0, y18_0, _⟩ := w_18
    replace h_18 : qW D _ _ (wk_cc81809fb cy h1 w1 p7 p8 h2 h3 h4 h2 f0 h3 f1 h4 f2 h0 h1 p1 p2 p3 p4 w0 h5 (u_18.2.1 0 0) p6 h5 (u_18.2.1 1)) _ _ := h_18
    refine lv_aload_n hx hb dX5_readAtom_25 rfl (lv_at hl 0 rfl) ?_
    refine q_callVv (rest := []) (wr := (wk_97b0566c7 cy h4 f2 h5 (u_18.2.1 1))) X hK hT hA h_18 (fun sz => gX5_advance_9820dfe l D cy h0 h1 h2 h3 p1 p2 p3 p4 w0 (.ref h5) (u_18.2.1 0 0) p6 w1 p7 p8 (.ref h4) f0 f1 hp1 (i_rng _) (i_rng _) (i_rng _) (bw w18_0 (by decide) (by decide)) (i_rng _) hp7 hp8 (hpre0) (hpre3) (by (first | (clear hpre2 hpre3; omega) | omega)) sz) wm_3_68 wm_3_71 wm_1_2 hd_X5_advance wm_3_70 wp_1_8 (ci := 5) (q0 := 0) rfl rfl ⟨by dsimp only; omega, by dsimp only; omega⟩ hl.1 rfl (Nat.le_of_ble_eq_true rfl) dX5_readAtom_26 ⟨Nat.le_of_ble_eq_true rfl, Nat.le_of_ble_eq_true rfl⟩ [4, 0, 1, 2] [3, 5] rfl rfl (by decide) rfl rfl (fun u_19 H locs w_19 h_19 => ?_)
    clear h_18
    obtain ⟨w19_0, w19_1, w19_2, w19_3, y19_0, y19_1, y19_2, y19_3, y19_4, y19_5, y19_6, _⟩ := w_19
    replace h_19 : qW D _ _ (wk_e6664c302 cy h4 f2 h5 (u_18.2.1 1) h0 h1 (u_19.2.1 0 0) (u_19.2.1 1 0) (u_19.2.1 2 0) (u_19.2.1 3 0) w0 h5 (u_18.2.1 0 0) p6 h1 w1 p7 p8 h2 h3 h4 h2 f0 h3 f1) _ _ := h_19
    refine lv_goto (tgt := 113) hx hb dX5_readAtom_29 (by decide) ?_
    exact q_vret X hr hlk hK h_19 (fun _ => 0, (vcons (fun _ => (u_19.2.1 1 0)) (vcons (fun _ => (u_19.2.1 2 0)) (vcons (fun _ => (u_19.2.1 3 0)) (vcons (u_18.2.1 1) (vcons (fun _ => (u_19.2.1 0 0)) (vcons (fun _ => (u_18.2.1 0 0)) (fun _ => (fun _ => 0)))))))), fun _ _ => 0) ⟨w19_1, w19_2, w19_3, w19_0, (bw w18_0 (by decide) (by decide)), y19_0, (show ((u_19.2.1 2 0) : Int32).toInt ≠ 0 ∨ ((u_19.2.1 1 0) : Int32).toInt = 26 ∨ ((u_19.2.1 1 0) : Int32).toInt = 27 ∨ ((u_19.2.1 0 0) : Int32).toInt + 1 < (p8 : Int32).toInt from by (first | (clear hpre2 hpre3 y19_1 y19_2 y19_4 y19_5; omega) | omega)), (show ((u_19.2.1 2 0) : Int32).toInt ≠ 0 ∨ ((u_18.2.1 0 0) : Int32).toInt + (p1 : Int32).toInt ≤ (p5 : Int32).toInt + ((u_19.2.1 0 0) : Int32).toInt from by (first | (clear hpre2 hpre3 y19_1 y19_2 y19_4 y19_5; omega) | omega)), y19_2, y19_5, y19_3, (show SIM f0 f1 f2 (p8 : Int32).toInt (atomS (naC p6) kk_) (p1 : Int32).toInt (p2 : Int32).toInt (p3 : Int32).toInt (p4 : Int32).toInt ((u_19.2.1 0 0) : Int32).toInt ((u_19.2.1 1 0) : Int32).toInt ((u_19.2.1 2 0) : Int32).toInt ((u_19.2.1 3 0) : Int32).toInt from sim_at1 (by (first | assumption | (clear hpre2 hpre3 y19_1 y19_2 y19_4 y19_5; omega) | omega)) y19_6 (by (first | assumption | (clear hpre2 hpre3 y19_1 y19_2 y19_4 y19_5; omega) | omega))), trivial⟩ [2, 3, 4, 5, 0, 1] rfl rfl dX5_readAtom_113 (Nat.le_of_ble_eq_true rfl) (Nat.le_of_ble_eq_true rfl)
set_option maxHeartbeats 4000000 in
set_option maxRecDepth 100000 in
theorem gX5_readTerm_d2e177f (l : Launch) (D : va_G) (cy : Nat → ClassId) (h0 : Nat) (h1 : Nat) (h2 : Nat) (h3 : Nat) (h4 : Nat) (h5 : Nat) (p0 : Int32) (p1 : Int32) (p2 : Int32) (p3 : Int32) (p4 : Int32) (w0 : Value) (p5 : Int32) (p6 : Int32) (w1 : Value) (p7 : Int32) (p8 : Int32) (f0 : Nat → Int32) (f1 : Nat → Int32) (f2 : Nat → Int32) (f3 : Nat → Int32) (hp0 : 0 ≤ (p0).toInt ∧ (p0).toInt ≤ 6) (hp1 : (-1) ≤ (p1).toInt ∧ (p1).toInt ≤ 900) (hp2 : (-2147483648) ≤ (p2).toInt ∧ (p2).toInt ≤ 2147483647) (hp3 : (-2147483648) ≤ (p3).toInt ∧ (p3).toInt ≤ 2147483647) (hp4 : (-2147483648) ≤ (p4).toInt ∧ (p4).toInt ≤ 2147483647) (hp5 : 0 ≤ (p5).toInt ∧ (p5).toInt ≤ 900) (hp6 : (-2147483648) ≤ (p6).toInt ∧ (p6).toInt ≤ 2147483647) (hp7 : 0 ≤ (p7).toInt ∧ (p7).toInt ≤ 900) (hp8 : 0 ≤ (p8).toInt ∧ (p8).toInt ≤ 901) (hpre0 : KZ f0 (p8 : Int32).toInt) (hpre1 : 0 ≤ (p1 : Int32).toInt ∧ (p1 : Int32).toInt < (p8 : Int32).toInt) (hpre2 : (p3 : Int32).toInt ≠ 0 ∨ (p2 : Int32).toInt = 26 ∨ (p2 : Int32).toInt = 27 ∨ (p1 : Int32).toInt + 1 < (p8 : Int32).toInt) (hpre3 : (p3 : Int32).toInt = 0 ∨ (p2 : Int32).toInt = 27) (kk_ : Nat) (hkk : (p0).toInt + kk_ = 6) (ih : ∀ j : Nat, kk_ = j + 1 → gX5_IHS_799895c l D cy j) (sz : Nat) : MV l yX5_readTerm cX5_readTerm 3 { frames := 3 + 3 * kk_, cells := 0, slots := 0, locals := 63 + 80 * kk_ } [.ref h0, .int p0] D cy (wk_a727c0403 cy h0 h1 p1 p2 p3 p4 w0 h5 p5 p6 h1 w1 p7 p8 h2 h3 h4 h2 f0 h3 f1 h4 f2 h5 f3) sz (fun u => (0 ≤ (u.2.1 0 0).toInt ∧ (u.2.1 0 0).toInt ≤ 900) ∧ ((-2147483648) ≤ (u.2.1 1 0).toInt ∧ (u.2.1 1 0).toInt ≤ 2147483647) ∧ ((-2147483648) ≤ (u.2.1 2 0).toInt ∧ (u.2.1 2 0).toInt ≤ 2147483647) ∧ ((-2147483648) ≤ (u.2.1 3 0).toInt ∧ (u.2.1 3 0).toInt ≤ 2147483647) ∧ (0 ≤ (u.2.1 4 0).toInt ∧ (u.2.1 4 0).toInt ≤ 900) ∧ (0 ≤ ((u.2.1 0 0) : Int32).toInt ∧ ((u.2.1 0 0) : Int32).toInt < (p8 : Int32).toInt) ∧ (((u.2.1 2 0) : Int32).toInt ≠ 0 ∨ ((u.2.1 1 0) : Int32).toInt = 26 ∨ ((u.2.1 1 0) : Int32).toInt = 27 ∨ ((u.2.1 0 0) : Int32).toInt + 1 < (p8 : Int32).toInt) ∧ (((u.2.1 2 0) : Int32).toInt ≠ 0 ∨ ((u.2.1 4 0) : Int32).toInt + (p1 : Int32).toInt ≤ (p5 : Int32).toInt + ((u.2.1 0 0) : Int32).toInt) ∧ (((u.2.1 2 0) : Int32).toInt ≠ 0 ∨ (p3 : Int32).toInt = 0) ∧ (((u.2.1 2 0) : Int32).toInt = 0 ∨ ((u.2.1 1 0) : Int32).toInt = 27) ∧ ((p1 : Int32).toInt ≤ ((u.2.1 0 0) : Int32).toInt) ∧ (SIM f0 f1 f2 (p8 : Int32).toInt (termS (naC p6) kk_) (p1 : Int32).toInt (p2 : Int32).toInt (p3 : Int32).toInt (p4 : Int32).toInt ((u.2.1 0 0) : Int32).toInt ((u.2.1 1 0) : Int32).toInt ((u.2.1 2 0) : Int32).toInt ((u.2.1 3 0) : Int32).toInt) ∧ True) (fun u => (wk_a727c0403 cy h0 h1 (u.2.1 0 0) (u.2.1 1 0) (u.2.1 2 0) (u.2.1 3 0) w0 h5 (u.2.1 4 0) p6 h1 w1 p7 p8 h2 h3 h4 h2 f0 h3 f1 h4 f2 h5 (u.2.1 5))) 0 0 := by
  refine q_ent (own := RX5) (by decide) rfl (Nat.le_of_ble_eq_true rfl) (fun p e s m below meth c ls X hr hlk hnm hK hT h hA hl => ?_)
  obtain ⟨hx, hb, hml, hown, ht⟩ := id X
  replace hl : lv_has ls 3 [(0, .ref h0), (1, .int p0)] := hl
  refine lv_aload_n hx hb dX5_readTerm_0 rfl (lv_at hl 0 rfl) ?_
  refine lv_iload_n hx hb dX5_readTerm_1 rfl (lv_at hl 1 rfl) ?_
  refine q_callVv (rest := []) (wr := []) X hK hT hA h (fun sz => gX5_readAtom_7e00013 l D cy h0 h1 h2 h3 h4 h5 p0 p1 p2 p3 p4 w0 p5 p6 w1 p7 p8 f0 f1 f2 f3 hp0 hp1 (i_rng _) (i_rng _) (i_rng _) hp5 (i_rng _) hp7 hp8 (hpre0) (hpre1) (hpre2) (hpre3) kk_ hkk ih sz) wm_3_109 wm_3_112 wm_1_2 hd_X5_readAtom wm_3_111 wp_2_2 (ci := 5) (q0 := 0) rfl rfl ⟨by dsimp only; omega, by dsimp only; omega⟩ hl.1 rfl (Nat.le_of_ble_eq_true rfl) dX5_readTerm_2 ⟨Nat.le_of_ble_eq_true rfl, Nat.le_of_ble_eq_true rfl⟩ [0, 1, 2, 3, 4, 5] [] rfl rfl (by decide) rfl rfl (fun u_1 H locs w_1 h_1 => ?_)
  clear h
  obtain ⟨w1_0, w1_1, w1_2, w1_3, w1_4, y1_0, y1_1, y1_2, y1_3, y1_4, y1_5, y1_6, _⟩ := w_1
  replace h_1 : qW D _ _ (wk_a727c0403 cy h0 h1 (u_1.2.1 4 0) (u_1.2.1 0 0) (u_1.2.1 1 0) (u_1.2.1 2 0) w0 h5 (u_1.2.1 5 0) p6 h1 w1 p7 p8 h2 h3 h4 h2 f0 h3 f1 h4 f2 h5 (u_1.2.1 3)) _ _ := h_1
  refine lv_iconst (v := 0) hx hb dX5_readTerm_5 (by decide) ?_
  refine lv_istore_n (lv' := [(2, .int 0), (0, .ref h0), (1, .int p0)]) hx hb dX5_readTerm_6 rfl hl (by decide) rfl (fun ls_2 hl_2 => ?_)
  clear hl
  refine q_wl (fun (q : Int32 × Int32 × Int32 × Int32 × Int32 × Int32) H locs ls => match q with | (v7_3_0, v7_3_1, v7_3_2, v7_3_3, v7_3_4, v7_3_5) => ∃ v7_3_6 : Nat → Int32, (0 ≤ (v7_3_0).toInt ∧ (v7_3_0).toInt ≤ 901) ∧ (0 ≤ (v7_3_1).toInt ∧ (v7_3_1).toInt ≤ 900) ∧ ((-2147483648) ≤ (v7_3_2).toInt ∧ (v7_3_2).toInt ≤ 2147483647) ∧ ((-2147483648) ≤ (v7_3_3).toInt ∧ (v7_3_3).toInt ≤ 2147483647) ∧ ((-2147483648) ≤ (v7_3_4).toInt ∧ (v7_3_4).toInt ≤ 2147483647) ∧ (0 ≤ (v7_3_5).toInt ∧ (v7_3_5).toInt ≤ 900) ∧ (0 ≤ (v7_3_1 : Int32).toInt ∧ (v7_3_1 : Int32).toInt < (p8 : Int32).toInt) ∧ ((v7_3_3 : Int32).toInt ≠ 0 ∨ (v7_3_2 : Int32).toInt = 26 ∨ (v7_3_2 : Int32).toInt = 27 ∨ (v7_3_1 : Int32).toInt + 1 < (p8 : Int32).toInt) ∧ ((v7_3_3 : Int32).toInt ≠ 0 ∨ (v7_3_5 : Int32).toInt + (p1 : Int32).toInt ≤ (p5 : Int32).toInt + (v7_3_1 : Int32).toInt) ∧ ((v7_3_3 : Int32).toInt ≠ 0 ∨ (p3 : Int32).toInt = 0) ∧ ((v7_3_3 : Int32).toInt = 0 ∨ (v7_3_2 : Int32).toInt = 27) ∧ ((p1 : Int32).toInt ≤ (v7_3_1 : Int32).toInt) ∧ (SIML f0 f1 f2 (p8 : Int32).toInt (termS (naC p6) kk_) ccM (sq adv (atomS (naC p6) kk_)) (p1 : Int32).toInt (p2 : Int32).toInt (p3 : Int32).toInt (p4 : Int32).toInt (v7_3_1 : Int32).toInt (v7_3_2 : Int32).toInt (v7_3_3 : Int32).toInt (v7_3_4 : Int32).toInt) ∧ ((v7_3_3 : Int32).toInt ≠ 0 ∨ (v7_3_0 : Int32).toInt ≤ (v7_3_1 : Int32).toInt) ∧ qW D (va_A (wk_a727c0403 cy h0 h1 p1 p2 p3 p4 w0 h5 p5 p6 h1 w1 p7 p8 h2 h3 h4 h2 f0 h3 f1 h4 f2 h5 f3) sz) s.heap (wk_a727c0403 cy h0 h1 v7_3_1 v7_3_2 v7_3_3 v7_3_4 w0 h5 v7_3_5 p6 h1 w1 p7 p8 h2 h3 h4 h2 f0 h3 f1 h4 f2 h5 v7_3_6) H locs ∧ lv_has ls 3 [(0, .ref h0), (1, .int p0), (2, .int v7_3_0)]) (fun (q : Int32 × Int32 × Int32 × Int32 × Int32 × Int32) => match q with | (v7_3_0, v7_3_1, v7_3_2, v7_3_3, v7_3_4, v7_3_5) => (902 - (v7_3_0).toInt).toNat) (fun q_7 ih_7 H locs ls hP => ?_) (0, (u_1.2.1 4 0), (u_1.2.1 0 0), (u_1.2.1 1 0), (u_1.2.1 2 0), (u_1.2.1 5 0)) ⟨(u_1.2.1 3), ⟨by decide +kernel, by decide +kernel⟩, ⟨by omega, by omega⟩, w1_0, w1_1, w1_2, w1_4, (y1_0), (y1_1), (y1_2), (y1_3), (y1_4), (y1_5), (siml_0 y1_6), (by have q0 : (0 : Int32).toInt = 0 := (by decide); (first | (clear hpre2 hpre3 y1_1 y1_2 y1_3 y1_4; omega) | omega)), h_1, (lv_sub hl_2 [1, 2, 0] rfl)⟩
  obtain ⟨v7_3_0, v7_3_1, v7_3_2, v7_3_3, v7_3_4, v7_3_5⟩ := q_7
  obtain ⟨v7_3_6, hv7_3_0, hv7_3_1, hv7_3_2, hv7_3_3, hv7_3_4, hv7_3_5, x4_0, x5_1, x6_2, x7_3, x8_4, x9_5, x10_6, x11_7, h, hl⟩ := hP
  refine lv_iload_n hx hb dX5_readTerm_7 rfl (lv_at hl 2 rfl) ?_
  refine lv_aload_n hx hb dX5_readTerm_8 rfl (lv_at hl 0 rfl) ?_
  refine q_get X hK h 0 rfl rfl wf_5 0 (by decide) rfl wm_1_144 dX5_readTerm_9 ?_
  refine q_get X hK h 1 rfl rfl wf_8 2 (by decide) rfl wm_1_46 dX5_readTerm_12 ?_
  refine lv_icmp_ge (tgt := 49) hx hb dX5_readTerm_15 (by decide) (fun c_12 => ?_) (fun c_12 => ?_)
  · replace c_12 := i_le (x := p8) (y := v7_3_0) rfl rfl c_12
    exact q_vret X hr hlk hK h (fun _ => 0, (vcons (fun _ => v7_3_1) (vcons (fun _ => v7_3_2) (vcons (fun _ => v7_3_3) (vcons (fun _ => v7_3_4) (vcons (fun _ => v7_3_5) (vcons v7_3_6 (fun _ => (fun _ => 0)))))))), fun _ _ => 0) ⟨hv7_3_1, hv7_3_2, hv7_3_3, hv7_3_4, hv7_3_5, x4_0, x5_1, x6_2, x7_3, x8_4, x9_5, (show SIM f0 f1 f2 (p8 : Int32).toInt (termS (naC p6) kk_) (p1 : Int32).toInt (p2 : Int32).toInt (p3 : Int32).toInt (p4 : Int32).toInt (v7_3_1 : Int32).toInt (v7_3_2 : Int32).toInt (v7_3_3 : Int32).toInt (v7_3_4 : Int32).toInt from siml_e x10_6 (by first | exact Or.inl (by (first | assumption | (clear hpre2 hpre3 y1_1 y1_2 y1_3 y1_4 x5_1 x6_2 x7_3 x8_4 x11_7; omega) | omega)) | exact Or.inr (cc_mn (by (first | assumption | (clear hpre2 hpre3 y1_1 y1_2 y1_3 y1_4 x5_1 x6_2 x7_3 x8_4 x11_7; omega) | omega))))), trivial⟩ [0, 1, 2, 3, 4, 5] rfl rfl dX5_readTerm_49 (Nat.le_of_ble_eq_true rfl) (Nat.le_of_ble_eq_true rfl)
  · replace c_12 := i_nle (x := p8) (y := v7_3_0) rfl rfl c_12
    refine lv_aload_n hx hb dX5_readTerm_18 rfl (lv_at hl 0 rfl) ?_
    refine q_get X hK h 0 rfl rfl wf_5 2 (by decide) rfl wm_1_146 dX5_readTerm_19 ?_
    refine lv_bipush (v := 42) hx hb dX5_readTerm_22 (by decide) ?_
    refine lv_icmp_ne (tgt := 49) hx hb dX5_readTerm_24 (by decide) (fun c_13 => ?_) (fun c_13 => ?_)
    · replace c_13 := i_ne (x := v7_3_2) (y := 42) rfl (show (42 : Int32).toInt = 42 by decide) c_13
      exact q_vret X hr hlk hK h (fun _ => 0, (vcons (fun _ => v7_3_1) (vcons (fun _ => v7_3_2) (vcons (fun _ => v7_3_3) (vcons (fun _ => v7_3_4) (vcons (fun _ => v7_3_5) (vcons v7_3_6 (fun _ => (fun _ => 0)))))))), fun _ _ => 0) ⟨hv7_3_1, hv7_3_2, hv7_3_3, hv7_3_4, hv7_3_5, x4_0, x5_1, x6_2, x7_3, x8_4, x9_5, (show SIM f0 f1 f2 (p8 : Int32).toInt (termS (naC p6) kk_) (p1 : Int32).toInt (p2 : Int32).toInt (p3 : Int32).toInt (p4 : Int32).toInt (v7_3_1 : Int32).toInt (v7_3_2 : Int32).toInt (v7_3_3 : Int32).toInt (v7_3_4 : Int32).toInt from siml_e x10_6 (by first | exact Or.inl (by (first | assumption | (clear hpre2 hpre3 y1_1 y1_2 y1_3 y1_4 x5_1 x6_2 x7_3 x8_4 x11_7; omega) | omega)) | exact Or.inr (cc_mn (by (first | assumption | (clear hpre2 hpre3 y1_1 y1_2 y1_3 y1_4 x5_1 x6_2 x7_3 x8_4 x11_7; omega) | omega))))), trivial⟩ [0, 1, 2, 3, 4, 5] rfl rfl dX5_readTerm_49 (Nat.le_of_ble_eq_true rfl) (Nat.le_of_ble_eq_true rfl)
    · replace c_13 := i_eq (x := v7_3_2) (y := 42) rfl (show (42 : Int32).toInt = 42 by decide) c_13
      refine lv_aload_n hx hb dX5_readTerm_27 rfl (lv_at hl 0 rfl) ?_
      refine q_callVv (rest := []) (wr := (wk_97b0566c7 cy h4 f2 h5 v7_3_6)) X hK hT hA h (fun sz => gX5_advance_9820dfe l D cy h0 h1 h2 h3 v7_3_1 v7_3_2 v7_3_3 v7_3_4 w0 (.ref h5) v7_3_5 p6 w1 p7 p8 (.ref h4) f0 f1 (bw hv7_3_1 (by decide) (by decide)) (i_rng _) (i_rng _) (i_rng _) hv7_3_5 (i_rng _) hp7 hp8 (hpre0) (x8_4) (by (first | (clear hpre2 hpre3 y1_1 y1_2 y1_3 y1_4 x5_1 x6_2 x7_3 x8_4 x11_7; omega) | omega)) sz) wm_3_68 wm_3_71 wm_1_2 hd_X5_advance wm_3_70 wp_1_8 (ci := 5) (q0 := 0) rfl rfl ⟨by dsimp only; omega, by dsimp only; omega⟩ hl.1 rfl (Nat.le_of_ble_eq_true rfl) dX5_readTerm_28 ⟨Nat.le_of_ble_eq_true rfl, Nat.le_of_ble_eq_true rfl⟩ [0, 1, 2, 3] [4, 5] rfl rfl (by decide) rfl rfl (fun u_14 H locs w_14 h_14 => ?_)
      clear h
      obtain ⟨w14_0, w14_1, w14_2, w14_3, y14_0, y14_1, y14_2, y14_3, y14_4, y14_5, y14_6, _⟩ := w_14
      replace h_14 : qW D _ _ (wk_e6664c302 cy h4 f2 h5 v7_3_6 h0 h1 (u_14.2.1 0 0) (u_14.2.1 1 0) (u_14.2.1 2 0) (u_14.2.1 3 0) w0 h5 v7_3_5 p6 h1 w1 p7 p8 h2 h3 h4 h2 f0 h3 f1) _ _ := h_14
      refine lv_aload_n hx hb dX5_readTerm_31 rfl (lv_at hl 0 rfl) ?_
      refine lv_iload_n hx hb dX5_readTerm_32 rfl (lv_at hl 1 rfl) ?_
      refine q_callVv (rest := []) (wr := []) X hK hT hA h_14 (fun sz => gX5_readAtom_7e00013 l D cy h0 h1 h2 h3 h4 h5 p0 (u_14.2.1 0 0) (u_14.2.1 1 0) (u_14.2.1 2 0) (u_14.2.1 3 0) w0 v7_3_5 p6 w1 p7 p8 f0 f1 f2 v7_3_6 hp0 w14_0 (i_rng _) (i_rng _) (i_rng _) hv7_3_5 (i_rng _) hp7 hp8 (hpre0) (y14_0) (by (first | (clear hpre2 hpre3 y1_1 y1_2 y1_3 y1_4 x5_1 x6_2 x7_3 x8_4 x11_7 y14_1 y14_2 y14_4 y14_5; omega) | omega)) (y14_5) kk_ hkk ih sz) wm_3_109 wm_3_112 wm_1_2 hd_X5_readAtom wm_3_111 wp_2_2 (ci := 5) (q0 := 0) rfl rfl ⟨by dsimp only; omega, by dsimp only; omega⟩ hl.1 rfl (Nat.le_of_ble_eq_true rfl) dX5_readTerm_33 ⟨Nat.le_of_ble_eq_true rfl, Nat.le_of_ble_eq_true rfl⟩ [2, 3, 4, 5, 0, 1] [] rfl rfl (by decide) rfl rfl (fun u_15 H locs w_15 h_15 => ?_)
      clear h_14
      obtain ⟨w15_0, w15_1, w15_2, w15_3, w15_4, y15_0, y15_1, y15_2, y15_3, y15_4, y15_5, y15_6, _⟩ := w_15
      replace h_15 : qW D _ _ (wk_a727c0403 cy h0 h1 (u_15.2.1 4 0) (u_15.2.1 0 0) (u_15.2.1 1 0) (u_15.2.1 2 0) w0 h5 (u_15.2.1 5 0) p6 h1 w1 p7 p8 h2 h3 h4 h2 f0 h3 f1 h4 f2 h5 (u_15.2.1 3)) _ _ := h_15
      refine lv_aload_n hx hb dX5_readTerm_36 rfl (lv_at hl 0 rfl) ?_
      refine lv_sipush (v := 2042) hx hb dX5_readTerm_37 (by decide) ?_
      refine q_callVv (rest := []) (wr := (wk_9325d072e cy h1 w1 p7 p8 h2 h3 h4 h2 f0 h3 f1 h4 f2)) X hK hT hA h_15 (fun sz => gX5_add_055b9a0 l D cy h0 h5 (2042 : Int32) (.ref h1) (u_15.2.1 4 0) (u_15.2.1 0 0) (u_15.2.1 1 0) (u_15.2.1 2 0) w0 (u_15.2.1 5 0) p6 (u_15.2.1 3) (i_rng _) w15_3 (i_rng _) (i_rng _) (i_rng _) w15_4 (i_rng _) sz) wm_3_113 wm_3_116 wm_1_2 hd_X5_add wm_3_115 wp_2_3 (ci := 5) (q0 := 0) rfl rfl ⟨by dsimp only; omega, by dsimp only; omega⟩ hl.1 rfl (Nat.le_of_ble_eq_true rfl) dX5_readTerm_40 ⟨Nat.le_of_ble_eq_true rfl, Nat.le_of_ble_eq_true rfl⟩ [0, 5] [1, 2, 3, 4] rfl rfl (by decide) rfl rfl (fun u_16 H locs w_16 h_16 => ?_)
      clear h_15
      obtain ⟨w16_0, y16_0, _⟩ := w_16
      replace h_16 : qW D _ _ (wk_cc81809fb cy h1 w1 p7 p8 h2 h3 h4 h2 f0 h3 f1 h4 f2 h0 h1 (u_15.2.1 4 0) (u_15.2.1 0 0) (u_15.2.1 1 0) (u_15.2.1 2 0) w0 h5 (u_16.2.1 0 0) p6 h5 (u_16.2.1 1)) _ _ := h_16
      obtain ⟨z_17, ez_17, hz_17⟩ := e_add (x := v7_3_0) (y := Int32.ofInt 1) rfl (b := 1) (by decide) (by omega) (by omega)
      refine lv_iinc (v := z_17) (lv' := [(2, .int z_17), (0, .ref h0), (1, .int p0)]) hx hb dX5_readTerm_43 hl (k := 2) rfl ez_17 (by decide) rfl (fun ls_17 hl_17 => ?_)
      clear hl
      refine lv_goto (tgt := 7) hx hb dX5_readTerm_46 (by decide) ?_
      exact ih_7 (z_17, (u_15.2.1 4 0), (u_15.2.1 0 0), (u_15.2.1 1 0), (u_15.2.1 2 0), (u_16.2.1 0 0)) (by show (902 - (z_17).toInt).toNat < (902 - (v7_3_0).toInt).toNat; omega) _ _ _ ⟨(u_16.2.1 1), ⟨by omega, by omega⟩, ⟨by omega, by omega⟩, w15_0, w15_1, w15_2, (bw w16_0 (by decide) (by decide)), (y15_0), (y15_1), (by (first | (clear hpre2 hpre3 y1_1 y1_2 y1_3 y1_4 x5_1 x6_2 x7_3 x8_4 x11_7 y14_1 y14_2 y14_4 y14_5 y15_1 y15_2 y15_3 y15_4; omega) | omega)), ((fl_tr y15_3 (fl_tr y14_2 x7_3))), (y15_4), ((Int.le_trans (Int.le_trans x9_5 y14_3) y15_5)), (siml_s x10_6 (cc_m (by (first | assumption | (clear hpre2 hpre3 y1_1 y1_2 y1_3 y1_4 x5_1 x6_2 x7_3 x8_4 x11_7 y14_1 y14_2 y14_4 y14_5 y15_1 y15_2 y15_3 y15_4; omega) | omega))) (sim_sq (sim_adv y14_6 (by (first | assumption | (clear hpre2 hpre3 y1_1 y1_2 y1_3 y1_4 x5_1 x6_2 x7_3 x8_4 x11_7 y14_1 y14_2 y14_4 y14_5 y15_1 y15_2 y15_3 y15_4; omega) | omega)) (by (first | assumption | (clear hpre2 hpre3 y1_1 y1_2 y1_3 y1_4 x5_1 x6_2 x7_3 x8_4 x11_7 y14_1 y14_2 y14_4 y14_5 y15_1 y15_2 y15_3 y15_4; omega) | omega))) y15_6) (by (first | assumption | (clear hpre2 hpre3 y1_1 y1_2 y1_3 y1_4 x5_1 x6_2 x7_3 x8_4 x11_7 y14_1 y14_2 y14_4 y14_5 y15_1 y15_2 y15_3 y15_4; omega) | omega)) (by (first | assumption | (clear hpre2 hpre3 y1_1 y1_2 y1_3 y1_4 x5_1 x6_2 x7_3 x8_4 x11_7 y14_1 y14_2 y14_4 y14_5 y15_1 y15_2 y15_3 y15_4; omega) | omega)) (by (first | assumption | (clear hpre2 hpre3 y1_1 y1_2 y1_3 y1_4 x5_1 x6_2 x7_3 x8_4 x11_7 y14_1 y14_2 y14_4 y14_5 y15_1 y15_2 y15_3 y15_4; omega) | omega)) (by (first | assumption | (clear hpre2 hpre3 y1_1 y1_2 y1_3 y1_4 x5_1 x6_2 x7_3 x8_4 x11_7 y14_1 y14_2 y14_4 y14_5 y15_1 y15_2 y15_3 y15_4; omega) | omega))), (by (first | (clear hpre2 hpre3 y1_1 y1_2 y1_3 y1_4 x5_1 x6_2 x7_3 x8_4 x11_7 y14_1 y14_2 y14_4 y14_5 y15_1 y15_2 y15_3 y15_4; omega) | omega)), (q_re h_16 [4, 0, 1, 2, 3, 5] rfl rfl), (lv_sub hl_17 [1, 2, 0] rfl)⟩
set_option maxHeartbeats 4000000 in
set_option maxRecDepth 100000 in
theorem gX5_readSum_6dbf67a (l : Launch) (D : va_G) (cy : Nat → ClassId) (h0 : Nat) (h1 : Nat) (h2 : Nat) (h3 : Nat) (h4 : Nat) (h5 : Nat) (p0 : Int32) (p1 : Int32) (p2 : Int32) (p3 : Int32) (p4 : Int32) (w0 : Value) (p5 : Int32) (p6 : Int32) (w1 : Value) (p7 : Int32) (p8 : Int32) (f0 : Nat → Int32) (f1 : Nat → Int32) (f2 : Nat → Int32) (f3 : Nat → Int32) (hp0 : 0 ≤ (p0).toInt ∧ (p0).toInt ≤ 6) (hp1 : (-1) ≤ (p1).toInt ∧ (p1).toInt ≤ 900) (hp2 : (-2147483648) ≤ (p2).toInt ∧ (p2).toInt ≤ 2147483647) (hp3 : (-2147483648) ≤ (p3).toInt ∧ (p3).toInt ≤ 2147483647) (hp4 : (-2147483648) ≤ (p4).toInt ∧ (p4).toInt ≤ 2147483647) (hp5 : 0 ≤ (p5).toInt ∧ (p5).toInt ≤ 900) (hp6 : (-2147483648) ≤ (p6).toInt ∧ (p6).toInt ≤ 2147483647) (hp7 : 0 ≤ (p7).toInt ∧ (p7).toInt ≤ 900) (hp8 : 0 ≤ (p8).toInt ∧ (p8).toInt ≤ 901) (hpre0 : KZ f0 (p8 : Int32).toInt) (hpre1 : 0 ≤ (p1 : Int32).toInt ∧ (p1 : Int32).toInt < (p8 : Int32).toInt) (hpre2 : (p3 : Int32).toInt ≠ 0 ∨ (p2 : Int32).toInt = 26 ∨ (p2 : Int32).toInt = 27 ∨ (p1 : Int32).toInt + 1 < (p8 : Int32).toInt) (hpre3 : (p3 : Int32).toInt = 0 ∨ (p2 : Int32).toInt = 27) (kk_ : Nat) (hkk : (p0).toInt + kk_ = 6) (ih : ∀ j : Nat, kk_ = j + 1 → gX5_IHS_799895c l D cy j) (sz : Nat) : MV l yX5_readSum cX5_readSum 4 { frames := 4 + 3 * kk_, cells := 0, slots := 0, locals := 85 + 80 * kk_ } [.ref h0, .int p0] D cy (wk_a727c0403 cy h0 h1 p1 p2 p3 p4 w0 h5 p5 p6 h1 w1 p7 p8 h2 h3 h4 h2 f0 h3 f1 h4 f2 h5 f3) sz (fun u => (0 ≤ (u.2.1 0 0).toInt ∧ (u.2.1 0 0).toInt ≤ 900) ∧ ((-2147483648) ≤ (u.2.1 1 0).toInt ∧ (u.2.1 1 0).toInt ≤ 2147483647) ∧ ((-2147483648) ≤ (u.2.1 2 0).toInt ∧ (u.2.1 2 0).toInt ≤ 2147483647) ∧ ((-2147483648) ≤ (u.2.1 3 0).toInt ∧ (u.2.1 3 0).toInt ≤ 2147483647) ∧ (0 ≤ (u.2.1 4 0).toInt ∧ (u.2.1 4 0).toInt ≤ 900) ∧ (0 ≤ ((u.2.1 0 0) : Int32).toInt ∧ ((u.2.1 0 0) : Int32).toInt < (p8 : Int32).toInt) ∧ (((u.2.1 2 0) : Int32).toInt ≠ 0 ∨ ((u.2.1 1 0) : Int32).toInt = 26 ∨ ((u.2.1 1 0) : Int32).toInt = 27 ∨ ((u.2.1 0 0) : Int32).toInt + 1 < (p8 : Int32).toInt) ∧ (((u.2.1 2 0) : Int32).toInt ≠ 0 ∨ ((u.2.1 4 0) : Int32).toInt + (p1 : Int32).toInt ≤ (p5 : Int32).toInt + ((u.2.1 0 0) : Int32).toInt) ∧ (((u.2.1 2 0) : Int32).toInt ≠ 0 ∨ (p3 : Int32).toInt = 0) ∧ (((u.2.1 2 0) : Int32).toInt = 0 ∨ ((u.2.1 1 0) : Int32).toInt = 27) ∧ ((p1 : Int32).toInt ≤ ((u.2.1 0 0) : Int32).toInt) ∧ (SIM f0 f1 f2 (p8 : Int32).toInt (sumS (naC p6) kk_) (p1 : Int32).toInt (p2 : Int32).toInt (p3 : Int32).toInt (p4 : Int32).toInt ((u.2.1 0 0) : Int32).toInt ((u.2.1 1 0) : Int32).toInt ((u.2.1 2 0) : Int32).toInt ((u.2.1 3 0) : Int32).toInt) ∧ True) (fun u => (wk_a727c0403 cy h0 h1 (u.2.1 0 0) (u.2.1 1 0) (u.2.1 2 0) (u.2.1 3 0) w0 h5 (u.2.1 4 0) p6 h1 w1 p7 p8 h2 h3 h4 h2 f0 h3 f1 h4 f2 h5 (u.2.1 5))) 0 0 := by
  refine q_ent (own := RX5) (by decide) rfl (Nat.le_of_ble_eq_true rfl) (fun p e s m below meth c ls X hr hlk hnm hK hT h hA hl => ?_)
  obtain ⟨hx, hb, hml, hown, ht⟩ := id X
  replace hl : lv_has ls 4 [(0, .ref h0), (1, .int p0)] := hl
  refine lv_aload_n hx hb dX5_readSum_0 rfl (lv_at hl 0 rfl) ?_
  refine lv_iload_n hx hb dX5_readSum_1 rfl (lv_at hl 1 rfl) ?_
  refine q_callVv (rest := []) (wr := []) X hK hT hA h (fun sz => gX5_readTerm_d2e177f l D cy h0 h1 h2 h3 h4 h5 p0 p1 p2 p3 p4 w0 p5 p6 w1 p7 p8 f0 f1 f2 f3 hp0 hp1 (i_rng _) (i_rng _) (i_rng _) hp5 (i_rng _) hp7 hp8 (hpre0) (hpre1) (hpre2) (hpre3) kk_ hkk ih sz) wm_3_105 wm_3_108 wm_1_2 hd_X5_readTerm wm_3_107 wp_2_1 (ci := 5) (q0 := 0) rfl rfl ⟨by dsimp only; omega, by dsimp only; omega⟩ hl.1 rfl (Nat.le_of_ble_eq_true rfl) dX5_readSum_2 ⟨Nat.le_of_ble_eq_true rfl, Nat.le_of_ble_eq_true rfl⟩ [0, 1, 2, 3, 4, 5] [] rfl rfl (by decide) rfl rfl (fun u_1 H locs w_1 h_1 => ?_)
  clear h
  obtain ⟨w1_0, w1_1, w1_2, w1_3, w1_4, y1_0, y1_1, y1_2, y1_3, y1_4, y1_5, y1_6, _⟩ := w_1
  replace h_1 : qW D _ _ (wk_a727c0403 cy h0 h1 (u_1.2.1 0 0) (u_1.2.1 1 0) (u_1.2.1 2 0) (u_1.2.1 3 0) w0 h5 (u_1.2.1 4 0) p6 h1 w1 p7 p8 h2 h3 h4 h2 f0 h3 f1 h4 f2 h5 (u_1.2.1 5)) _ _ := h_1
  refine lv_iconst (v := 0) hx hb dX5_readSum_5 (by decide) ?_
  refine lv_istore_n (lv' := [(2, .int 0), (0, .ref h0), (1, .int p0)]) hx hb dX5_readSum_6 rfl hl (by decide) rfl (fun ls_2 hl_2 => ?_)
  clear hl
  refine q_wl (fun (q : Int32 × Int32 × Int32 × Int32 × Int32 × Int32) H locs ls => match q with | (v7_3_0, v7_3_1, v7_3_2, v7_3_3, v7_3_4, v7_3_5) => ∃ v7_3_6 : Nat → Int32, (0 ≤ (v7_3_0).toInt ∧ (v7_3_0).toInt ≤ 901) ∧ (0 ≤ (v7_3_1).toInt ∧ (v7_3_1).toInt ≤ 900) ∧ ((-2147483648) ≤ (v7_3_2).toInt ∧ (v7_3_2).toInt ≤ 2147483647) ∧ ((-2147483648) ≤ (v7_3_3).toInt ∧ (v7_3_3).toInt ≤ 2147483647) ∧ ((-2147483648) ≤ (v7_3_4).toInt ∧ (v7_3_4).toInt ≤ 2147483647) ∧ (0 ≤ (v7_3_5).toInt ∧ (v7_3_5).toInt ≤ 900) ∧ (0 ≤ (v7_3_1 : Int32).toInt ∧ (v7_3_1 : Int32).toInt < (p8 : Int32).toInt) ∧ ((v7_3_3 : Int32).toInt ≠ 0 ∨ (v7_3_2 : Int32).toInt = 26 ∨ (v7_3_2 : Int32).toInt = 27 ∨ (v7_3_1 : Int32).toInt + 1 < (p8 : Int32).toInt) ∧ ((v7_3_3 : Int32).toInt ≠ 0 ∨ (v7_3_5 : Int32).toInt + (p1 : Int32).toInt ≤ (p5 : Int32).toInt + (v7_3_1 : Int32).toInt) ∧ ((v7_3_3 : Int32).toInt ≠ 0 ∨ (p3 : Int32).toInt = 0) ∧ ((v7_3_3 : Int32).toInt = 0 ∨ (v7_3_2 : Int32).toInt = 27) ∧ ((p1 : Int32).toInt ≤ (v7_3_1 : Int32).toInt) ∧ (SIML f0 f1 f2 (p8 : Int32).toInt (sumS (naC p6) kk_) ccP (sq adv (termS (naC p6) kk_)) (p1 : Int32).toInt (p2 : Int32).toInt (p3 : Int32).toInt (p4 : Int32).toInt (v7_3_1 : Int32).toInt (v7_3_2 : Int32).toInt (v7_3_3 : Int32).toInt (v7_3_4 : Int32).toInt) ∧ ((v7_3_3 : Int32).toInt ≠ 0 ∨ (v7_3_0 : Int32).toInt ≤ (v7_3_1 : Int32).toInt) ∧ qW D (va_A (wk_a727c0403 cy h0 h1 p1 p2 p3 p4 w0 h5 p5 p6 h1 w1 p7 p8 h2 h3 h4 h2 f0 h3 f1 h4 f2 h5 f3) sz) s.heap (wk_a727c0403 cy h0 h1 v7_3_1 v7_3_2 v7_3_3 v7_3_4 w0 h5 v7_3_5 p6 h1 w1 p7 p8 h2 h3 h4 h2 f0 h3 f1 h4 f2 h5 v7_3_6) H locs ∧ lv_has ls 4 [(0, .ref h0), (1, .int p0), (2, .int v7_3_0)]) (fun (q : Int32 × Int32 × Int32 × Int32 × Int32 × Int32) => match q with | (v7_3_0, v7_3_1, v7_3_2, v7_3_3, v7_3_4, v7_3_5) => (902 - (v7_3_0).toInt).toNat) (fun q_7 ih_7 H locs ls hP => ?_) (0, (u_1.2.1 0 0), (u_1.2.1 1 0), (u_1.2.1 2 0), (u_1.2.1 3 0), (u_1.2.1 4 0)) ⟨(u_1.2.1 5), ⟨by decide +kernel, by decide +kernel⟩, w1_0, w1_1, w1_2, w1_3, w1_4, (y1_0), (y1_1), (y1_2), (y1_3), (y1_4), (y1_5), (siml_0 y1_6), (by have q0 : (0 : Int32).toInt = 0 := (by decide); (first | (clear hpre2 hpre3 y1_1 y1_2 y1_3 y1_4; omega) | omega)), h_1, (lv_sub hl_2 [1, 2, 0] rfl)⟩
  obtain ⟨v7_3_0, v7_3_1, v7_3_2, v7_3_3, v7_3_4, v7_3_5⟩ := q_7
  obtain ⟨v7_3_6, hv7_3_0, hv7_3_1, hv7_3_2, hv7_3_3, hv7_3_4, hv7_3_5, x4_0, x5_1, x6_2, x7_3, x8_4, x9_5, x10_6, x11_7, h, hl⟩ := hP
  refine lv_iload_n hx hb dX5_readSum_7 rfl (lv_at hl 2 rfl) ?_
  refine lv_aload_n hx hb dX5_readSum_8 rfl (lv_at hl 0 rfl) ?_
  refine q_get X hK h 0 rfl rfl wf_5 0 (by decide) rfl wm_1_144 dX5_readSum_9 ?_
  refine q_get X hK h 1 rfl rfl wf_8 2 (by decide) rfl wm_1_46 dX5_readSum_12 ?_
  refine lv_icmp_ge (tgt := 65) hx hb dX5_readSum_15 (by decide) (fun c_12 => ?_) (fun c_12 => ?_)
  · replace c_12 := i_le (x := p8) (y := v7_3_0) rfl rfl c_12
    exact q_vret X hr hlk hK h (fun _ => 0, (vcons (fun _ => v7_3_1) (vcons (fun _ => v7_3_2) (vcons (fun _ => v7_3_3) (vcons (fun _ => v7_3_4) (vcons (fun _ => v7_3_5) (vcons v7_3_6 (fun _ => (fun _ => 0)))))))), fun _ _ => 0) ⟨hv7_3_1, hv7_3_2, hv7_3_3, hv7_3_4, hv7_3_5, x4_0, x5_1, x6_2, x7_3, x8_4, x9_5, (show SIM f0 f1 f2 (p8 : Int32).toInt (sumS (naC p6) kk_) (p1 : Int32).toInt (p2 : Int32).toInt (p3 : Int32).toInt (p4 : Int32).toInt (v7_3_1 : Int32).toInt (v7_3_2 : Int32).toInt (v7_3_3 : Int32).toInt (v7_3_4 : Int32).toInt from siml_e x10_6 (by first | exact Or.inl (by (first | assumption | (clear hpre2 hpre3 y1_1 y1_2 y1_3 y1_4 x5_1 x6_2 x7_3 x8_4 x11_7; omega) | omega)) | exact Or.inr (cc_pn (by (first | assumption | (clear hpre2 hpre3 y1_1 y1_2 y1_3 y1_4 x5_1 x6_2 x7_3 x8_4 x11_7; omega) | omega))))), trivial⟩ [0, 1, 2, 3, 4, 5] rfl rfl dX5_readSum_65 (Nat.le_of_ble_eq_true rfl) (Nat.le_of_ble_eq_true rfl)
  · replace c_12 := i_nle (x := p8) (y := v7_3_0) rfl rfl c_12
    refine lv_aload_n hx hb dX5_readSum_18 rfl (lv_at hl 0 rfl) ?_
    refine q_get X hK h 0 rfl rfl wf_5 2 (by decide) rfl wm_1_146 dX5_readSum_19 ?_
    refine lv_bipush (v := 43) hx hb dX5_readSum_22 (by decide) ?_
    refine q_jn (pc2 := 36) (fun H locs ls st => ((v7_3_2 : Int32).toInt ≠ 26 ∧ (v7_3_2 : Int32).toInt ≠ 27) ∧ ((v7_3_2 : Int32).toInt = 43 ∨ (v7_3_2 : Int32).toInt = 45) ∧ st = [] ∧ qW D (va_A (wk_a727c0403 cy h0 h1 p1 p2 p3 p4 w0 h5 p5 p6 h1 w1 p7 p8 h2 h3 h4 h2 f0 h3 f1 h4 f2 h5 f3) sz) s.heap (wk_a727c0403 cy h0 h1 v7_3_1 v7_3_2 v7_3_3 v7_3_4 w0 h5 v7_3_5 p6 h1 w1 p7 p8 h2 h3 h4 h2 f0 h3 f1 h4 f2 h5 v7_3_6) H locs ∧ lv_has ls 4 [(0, .ref h0), (1, .int p0), (2, .int v7_3_0)]) (fun H locs ls st hP => ?_) (fun J_36 => ?_)
    · obtain ⟨x14_0, x15_1, rfl, h, hl⟩ := hP
      refine lv_aload_n hx hb dX5_readSum_36 rfl (lv_at hl 0 rfl) ?_
      refine q_get X hK h 0 rfl rfl wf_5 2 (by decide) rfl wm_1_146 dX5_readSum_37 ?_
      refine lv_istore_n (lv' := [(3, .int v7_3_2), (0, .ref h0), (1, .int p0), (2, .int v7_3_0)]) hx hb dX5_readSum_40 rfl hl (by decide) rfl (fun ls_16 hl_16 => ?_)
      clear hl
      refine lv_aload_n hx hb dX5_readSum_41 rfl (lv_at hl_16 1 rfl) ?_
      refine q_callVv (rest := []) (wr := (wk_97b0566c7 cy h4 f2 h5 v7_3_6)) X hK hT hA h (fun sz => gX5_advance_9820dfe l D cy h0 h1 h2 h3 v7_3_1 v7_3_2 v7_3_3 v7_3_4 w0 (.ref h5) v7_3_5 p6 w1 p7 p8 (.ref h4) f0 f1 (bw hv7_3_1 (by decide) (by decide)) (i_rng _) (i_rng _) (i_rng _) hv7_3_5 (i_rng _) hp7 hp8 (hpre0) (x8_4) (by (first | (clear hpre2 hpre3 y1_1 y1_2 y1_3 y1_4 x5_1 x6_2 x7_3 x8_4 x11_7 x15_1; omega) | omega)) sz) wm_3_68 wm_3_71 wm_1_2 hd_X5_advance wm_3_70 wp_1_8 (ci := 5) (q0 := 0) rfl rfl ⟨by dsimp only; omega, by dsimp only; omega⟩ hl_16.1 rfl (Nat.le_of_ble_eq_true rfl) dX5_readSum_42 ⟨Nat.le_of_ble_eq_true rfl, Nat.le_of_ble_eq_true rfl⟩ [0, 1, 2, 3] [4, 5] rfl rfl (by decide) rfl rfl (fun u_17 H locs w_17 h_17 => ?_)
      clear h
      obtain ⟨w17_0, w17_1, w17_2, w17_3, y17_0, y17_1, y17_2, y17_3, y17_4, y17_5, y17_6, _⟩ := w_17
      replace h_17 : qW D _ _ (wk_e6664c302 cy h4 f2 h5 v7_3_6 h0 h1 (u_17.2.1 0 0) (u_17.2.1 1 0) (u_17.2.1 2 0) (u_17.2.1 3 0) w0 h5 v7_3_5 p6 h1 w1 p7 p8 h2 h3 h4 h2 f0 h3 f1) _ _ := h_17
      refine lv_aload_n hx hb dX5_readSum_45 rfl (lv_at hl_16 1 rfl) ?_
      refine lv_iload_n hx hb dX5_readSum_46 rfl (lv_at hl_16 2 rfl) ?_
      refine q_callVv (rest := []) (wr := []) X hK hT hA h_17 (fun sz => gX5_readTerm_d2e177f l D cy h0 h1 h2 h3 h4 h5 p0 (u_17.2.1 0 0) (u_17.2.1 1 0) (u_17.2.1 2 0) (u_17.2.1 3 0) w0 v7_3_5 p6 w1 p7 p8 f0 f1 f2 v7_3_6 hp0 w17_0 (i_rng _) (i_rng _) (i_rng _) hv7_3_5 (i_rng _) hp7 hp8 (hpre0) (y17_0) (by (first | (clear hpre2 hpre3 y1_1 y1_2 y1_3 y1_4 x5_1 x6_2 x7_3 x8_4 x11_7 x15_1 y17_1 y17_2 y17_4 y17_5; omega) | omega)) (y17_5) kk_ hkk ih sz) wm_3_105 wm_3_108 wm_1_2 hd_X5_readTerm wm_3_107 wp_2_1 (ci := 5) (q0 := 0) rfl rfl ⟨by dsimp only; omega, by dsimp only; omega⟩ hl_16.1 rfl (Nat.le_of_ble_eq_true rfl) dX5_readSum_47 ⟨Nat.le_of_ble_eq_true rfl, Nat.le_of_ble_eq_true rfl⟩ [2, 3, 4, 5, 0, 1] [] rfl rfl (by decide) rfl rfl (fun u_18 H locs w_18 h_18 => ?_)
      clear h_17
      obtain ⟨w18_0, w18_1, w18_2, w18_3, w18_4, y18_0, y18_1, y18_2, y18_3, y18_4, y18_5, y18_6, _⟩ := w_18
      replace h_18 : qW D _ _ (wk_a727c0403 cy h0 h1 (u_18.2.1 0 0) (u_18.2.1 1 0) (u_18.2.1 2 0) (u_18.2.1 3 0) w0 h5 (u_18.2.1 4 0) p6 h1 w1 p7 p8 h2 h3 h4 h2 f0 h3 f1 h4 f2 h5 (u_18.2.1 5)) _ _ := h_18
      refine lv_aload_n hx hb dX5_readSum_50 rfl (lv_at hl_16 1 rfl) ?_
      refine lv_sipush (v := 2000) hx hb dX5_readSum_51 (by decide) ?_
      refine lv_iload_n hx hb dX5_readSum_54 rfl (lv_at hl_16 0 rfl) ?_
      refine lv_iadd hx hb dX5_readSum_55 ?_
      refine q_any (fun z_19 hz_19 => ?_)
      refine q_callVv (rest := []) (wr := (wk_9325d072e cy h1 w1 p7 p8 h2 h3 h4 h2 f0 h3 f1 h4 f2)) X hK hT hA h_18 (fun sz => gX5_add_055b9a0 l D cy h0 h5 z_19 (.ref h1) (u_18.2.1 0 0) (u_18.2.1 1 0) (u_18.2.1 2 0) (u_18.2.1 3 0) w0 (u_18.2.1 4 0) p6 (u_18.2.1 5) (i_rng _) (bw w18_0 (by decide) (by decide)) (i_rng _) (i_rng _) (i_rng _) w18_4 (i_rng _) sz) wm_3_113 wm_3_116 wm_1_2 hd_X5_add wm_3_115 wp_2_3 (ci := 5) (q0 := 0) rfl rfl ⟨by dsimp only; omega, by dsimp only; omega⟩ hl_16.1 rfl (Nat.le_of_ble_eq_true rfl) dX5_readSum_56 ⟨Nat.le_of_ble_eq_true rfl, Nat.le_of_ble_eq_true rfl⟩ [0, 5] [1, 2, 3, 4] rfl rfl (by decide) rfl rfl (fun u_20 H locs w_20 h_20 => ?_)
      clear h_18
      obtain ⟨w20_0, y20_0, _⟩ := w_20
      replace h_20 : qW D _ _ (wk_cc81809fb cy h1 w1 p7 p8 h2 h3 h4 h2 f0 h3 f1 h4 f2 h0 h1 (u_18.2.1 0 0) (u_18.2.1 1 0) (u_18.2.1 2 0) (u_18.2.1 3 0) w0 h5 (u_20.2.1 0 0) p6 h5 (u_20.2.1 1)) _ _ := h_20
      obtain ⟨z_21, ez_21, hz_21⟩ := e_add (x := v7_3_0) (y := Int32.ofInt 1) rfl (b := 1) (by decide) (by omega) (by omega)
      refine lv_iinc (v := z_21) (lv' := [(2, .int z_21), (3, .int v7_3_2), (0, .ref h0), (1, .int p0)]) hx hb dX5_readSum_59 hl_16 (k := 3) rfl ez_21 (by decide) rfl (fun ls_21 hl_21 => ?_)
      clear hl_16
      refine lv_goto (tgt := 7) hx hb dX5_readSum_62 (by decide) ?_
      exact ih_7 (z_21, (u_18.2.1 0 0), (u_18.2.1 1 0), (u_18.2.1 2 0), (u_18.2.1 3 0), (u_20.2.1 0 0)) (by show (902 - (z_21).toInt).toNat < (902 - (v7_3_0).toInt).toNat; omega) _ _ _ ⟨(u_20.2.1 1), ⟨by omega, by omega⟩, w18_0, w18_1, w18_2, w18_3, (bw w20_0 (by decide) (by decide)), (y18_0), (y18_1), (by (first | (clear hpre2 hpre3 y1_1 y1_2 y1_3 y1_4 x5_1 x6_2 x7_3 x8_4 x11_7 x15_1 y17_1 y17_2 y17_4 y17_5 y18_1 y18_2 y18_3 y18_4; omega) | omega)), ((fl_tr y18_3 (fl_tr y17_2 x7_3))), (y18_4), ((Int.le_trans (Int.le_trans x9_5 y17_3) y18_5)), (siml_s x10_6 (cc_p (by (first | assumption | (clear hpre2 hpre3 y1_1 y1_2 y1_3 y1_4 x5_1 x6_2 x7_3 x8_4 x11_7 x15_1 y17_1 y17_2 y17_4 y17_5 y18_1 y18_2 y18_3 y18_4; omega) | omega))) (sim_sq (sim_adv y17_6 (by (first | assumption | (clear hpre2 hpre3 y1_1 y1_2 y1_3 y1_4 x5_1 x6_2 x7_3 x8_4 x11_7 x15_1 y17_1 y17_2 y17_4 y17_5 y18_1 y18_2 y18_3 y18_4; omega) | omega)) (by (first | assumption | (clear hpre2 hpre3 y1_1 y1_2 y1_3 y1_4 x5_1 x6_2 x7_3 x8_4 x11_7 x15_1 y17_1 y17_2 y17_4 y17_5 y18_1 y18_2 y18_3 y18_4; omega) | omega))) y18_6) (by (first | assumption | (clear hpre2 hpre3 y1_1 y1_2 y1_3 y1_4 x5_1 x6_2 x7_3 x8_4 x11_7 x15_1 y17_1 y17_2 y17_4 y17_5 y18_1 y18_2 y18_3 y18_4; omega) | omega)) (by (first | assumption | (clear hpre2 hpre3 y1_1 y1_2 y1_3 y1_4 x5_1 x6_2 x7_3 x8_4 x11_7 x15_1 y17_1 y17_2 y17_4 y17_5 y18_1 y18_2 y18_3 y18_4; omega) | omega)) (by (first | assumption | (clear hpre2 hpre3 y1_1 y1_2 y1_3 y1_4 x5_1 x6_2 x7_3 x8_4 x11_7 x15_1 y17_1 y17_2 y17_4 y17_5 y18_1 y18_2 y18_3 y18_4; omega) | omega)) (by (first | assumption | (clear hpre2 hpre3 y1_1 y1_2 y1_3 y1_4 x5_1 x6_2 x7_3 x8_4 x11_7 x15_1 y17_1 y17_2 y17_4 y17_5 y18_1 y18_2 y18_3 y18_4; omega) | omega))), (by (first | (clear hpre2 hpre3 y1_1 y1_2 y1_3 y1_4 x5_1 x6_2 x7_3 x8_4 x11_7 x15_1 y17_1 y17_2 y17_4 y17_5 y18_1 y18_2 y18_3 y18_4; omega) | omega)), (q_re h_20 [4, 0, 1, 2, 3, 5] rfl rfl), (lv_sub hl_21 [2, 3, 0] rfl)⟩
    · skip
      refine lv_icmp_eq (tgt := 36) hx hb dX5_readSum_24 (by decide) (fun c_22 => ?_) (fun c_22 => ?_)
      · replace c_22 := i_eq (x := v7_3_2) (y := 43) rfl (show (43 : Int32).toInt = 43 by decide) c_22
        exact J_36 _ _ _ _ ⟨(by (first | (clear hpre2 hpre3 y1_1 y1_2 y1_3 y1_4 x5_1 x6_2 x7_3 x8_4 x11_7; omega) | omega)), (by (first | (clear hpre2 hpre3 y1_1 y1_2 y1_3 y1_4 x5_1 x6_2 x7_3 x8_4 x11_7; omega) | omega)), rfl, h, (lv_sub hl [0, 1, 2] rfl)⟩
      · replace c_22 := i_ne (x := v7_3_2) (y := 43) rfl (show (43 : Int32).toInt = 43 by decide) c_22
        refine lv_aload_n hx hb dX5_readSum_27 rfl (lv_at hl 0 rfl) ?_
        refine q_get X hK h 0 rfl rfl wf_5 2 (by decide) rfl wm_1_146 dX5_readSum_28 ?_
        refine lv_bipush (v := 45) hx hb dX5_readSum_31 (by decide) ?_
        refine lv_icmp_ne (tgt := 65) hx hb dX5_readSum_33 (by decide) (fun c_23 => ?_) (fun c_23 => ?_)
        · replace c_23 := i_ne (x := v7_3_2) (y := 45) rfl (show (45 : Int32).toInt = 45 by decide) c_23
          exact q_vret X hr hlk hK h (fun _ => 0, (vcons (fun _ => v7_3_1) (vcons (fun _ => v7_3_2) (vcons (fun _ => v7_3_3) (vcons (fun _ => v7_3_4) (vcons (fun _ => v7_3_5) (vcons v7_3_6 (fun _ => (fun _ => 0)))))))), fun _ _ => 0) ⟨hv7_3_1, hv7_3_2, hv7_3_3, hv7_3_4, hv7_3_5, x4_0, x5_1, x6_2, x7_3, x8_4, x9_5, (show SIM f0 f1 f2 (p8 : Int32).toInt (sumS (naC p6) kk_) (p1 : Int32).toInt (p2 : Int32).toInt (p3 : Int32).toInt (p4 : Int32).toInt (v7_3_1 : Int32).toInt (v7_3_2 : Int32).toInt (v7_3_3 : Int32).toInt (v7_3_4 : Int32).toInt from siml_e x10_6 (by first | exact Or.inl (by (first | assumption | (clear hpre2 hpre3 y1_1 y1_2 y1_3 y1_4 x5_1 x6_2 x7_3 x8_4 x11_7; omega) | omega)) | exact Or.inr (cc_pn (by (first | assumption | (clear hpre2 hpre3 y1_1 y1_2 y1_3 y1_4 x5_1 x6_2 x7_3 x8_4 x11_7; omega) | omega))))), trivial⟩ [0, 1, 2, 3, 4, 5] rfl rfl dX5_readSum_65 (Nat.le_of_ble_eq_true rfl) (Nat.le_of_ble_eq_true rfl)
        · replace c_23 := i_eq (x := v7_3_2) (y := 45) rfl (show (45 : Int32).toInt = 45 by decide) c_23
          exact J_36 _ _ _ _ ⟨(by (first | (clear hpre2 hpre3 y1_1 y1_2 y1_3 y1_4 x5_1 x6_2 x7_3 x8_4 x11_7; omega) | omega)), (by (first | (clear hpre2 hpre3 y1_1 y1_2 y1_3 y1_4 x5_1 x6_2 x7_3 x8_4 x11_7; omega) | omega)), rfl, h, (lv_sub hl [0, 1, 2] rfl)⟩
set_option maxRecDepth 100000 in
theorem gX5_ALLS_799895c (l : Launch) (D : va_G) (cy : Nat → ClassId) : ∀ kk_ : Nat, gX5_IHS_799895c l D cy kk_ := by
  intro kk_
  induction kk_ with
  | zero => exact fun h0 h1 h2 h3 h4 h5 p0 p1 p2 p3 p4 w0 p5 p6 w1 p7 p8 f0 f1 f2 f3 hp0 hp1 hp2 hp3 hp4 hp5 hp6 hp7 hp8 hpre0 hpre1 hpre2 hpre3 hkk sz => gX5_readSum_6dbf67a l D cy h0 h1 h2 h3 h4 h5 p0 p1 p2 p3 p4 w0 p5 p6 w1 p7 p8 f0 f1 f2 f3 hp0 hp1 hp2 hp3 hp4 hp5 hp6 hp7 hp8 hpre0 hpre1 hpre2 hpre3 0 hkk (fun j hj => absurd hj (by omega)) sz
  | succ n ihn => exact fun h0 h1 h2 h3 h4 h5 p0 p1 p2 p3 p4 w0 p5 p6 w1 p7 p8 f0 f1 f2 f3 hp0 hp1 hp2 hp3 hp4 hp5 hp6 hp7 hp8 hpre0 hpre1 hpre2 hpre3 hkk sz => gX5_readSum_6dbf67a l D cy h0 h1 h2 h3 h4 h5 p0 p1 p2 p3 p4 w0 p5 p6 w1 p7 p8 f0 f1 f2 f3 hp0 hp1 hp2 hp3 hp4 hp5 hp6 hp7 hp8 hpre0 hpre1 hpre2 hpre3 (n + 1) hkk (fun j hj => Nat.succ.inj hj ▸ ihn) sz
set_option maxHeartbeats 4000000 in
set_option maxRecDepth 100000 in
theorem gX5_take_e8bb470 (l : Launch) (D : va_G) (cy : Nat → ClassId) (h0 : Nat) (h1 : Nat) (h2 : Nat) (h3 : Nat) (p0 : Int32) (p1 : Int32) (p2 : Int32) (p3 : Int32) (w0 : Value) (w1 : Value) (p4 : Int32) (p5 : Int32) (w2 : Value) (p6 : Int32) (p7 : Int32) (w3 : Value) (f0 : Nat → Int32) (f1 : Nat → Int32) (hp0 : (-1) ≤ (p0).toInt ∧ (p0).toInt ≤ 900) (hp1 : (-2147483648) ≤ (p1).toInt ∧ (p1).toInt ≤ 2147483647) (hp2 : (-2147483648) ≤ (p2).toInt ∧ (p2).toInt ≤ 2147483647) (hp3 : (-2147483648) ≤ (p3).toInt ∧ (p3).toInt ≤ 2147483647) (hp4 : 0 ≤ (p4).toInt ∧ (p4).toInt ≤ 900) (hp5 : (-2147483648) ≤ (p5).toInt ∧ (p5).toInt ≤ 2147483647) (hp6 : 0 ≤ (p6).toInt ∧ (p6).toInt ≤ 900) (hp7 : 0 ≤ (p7).toInt ∧ (p7).toInt ≤ 901) (hpre0 : KZ f0 (p7 : Int32).toInt) (hpre1 : 0 ≤ (p0 : Int32).toInt ∧ (p0 : Int32).toInt < (p7 : Int32).toInt) (hpre2 : (p2 : Int32).toInt ≠ 0 ∨ (p1 : Int32).toInt = 26 ∨ (p1 : Int32).toInt = 27 ∨ (p0 : Int32).toInt + 1 < (p7 : Int32).toInt) (hpre3 : (p2 : Int32).toInt = 0 ∨ (p1 : Int32).toInt = 27) (hpre4 : (93 : Int32).toInt ≠ 26 ∧ (93 : Int32).toInt ≠ 27) (sz : Nat) : MV l yX5_take cX5_take 2 { frames := 1, cells := 0, slots := 0, locals := 21 } [.ref h0, .int 93] D cy (wk_8964b4ae4 cy h0 h1 p0 p1 p2 p3 w0 w1 p4 p5 h1 w2 p6 p7 h2 h3 w3 h2 f0 h3 f1) sz (fun u => ((-2147483648) ≤ (u.2.1 0 0).toInt ∧ (u.2.1 0 0).toInt ≤ 2147483647) ∧ ((-2147483648) ≤ (u.2.1 1 0).toInt ∧ (u.2.1 1 0).toInt ≤ 2147483647) ∧ ((-2147483648) ≤ (u.2.1 2 0).toInt ∧ (u.2.1 2 0).toInt ≤ 2147483647) ∧ ((-1) ≤ (u.2.1 3 0).toInt ∧ (u.2.1 3 0).toInt ≤ 900) ∧ (0 ≤ ((u.2.1 3 0) : Int32).toInt ∧ ((u.2.1 3 0) : Int32).toInt < (p7 : Int32).toInt) ∧ (((u.2.1 1 0) : Int32).toInt ≠ 0 ∨ ((u.2.1 0 0) : Int32).toInt = 26 ∨ ((u.2.1 0 0) : Int32).toInt = 27 ∨ ((u.2.1 3 0) : Int32).toInt + 1 < (p7 : Int32).toInt) ∧ (((u.2.1 1 0) : Int32).toInt ≠ 0 ∨ ((u.2.1 3 0) : Int32).toInt = (p0 : Int32).toInt + 1) ∧ (((u.2.1 1 0) : Int32).toInt ≠ 0 ∨ (p2 : Int32).toInt = 0) ∧ (((u.2.1 1 0) : Int32).toInt = 0 ∨ ((u.2.1 0 0) : Int32).toInt = 27) ∧ ((p0 : Int32).toInt ≤ ((u.2.1 3 0) : Int32).toInt) ∧ (∀ vv : Nat → Int32, SIM f0 f1 vv (p7 : Int32).toInt (tak 93) (p0 : Int32).toInt (p1 : Int32).toInt (p2 : Int32).toInt (p3 : Int32).toInt ((u.2.1 3 0) : Int32).toInt ((u.2.1 0 0) : Int32).toInt ((u.2.1 1 0) : Int32).toInt ((u.2.1 2 0) : Int32).toInt) ∧ True) (fun u => (wk_8964b4ae4 cy h0 h1 (u.2.1 3 0) (u.2.1 0 0) (u.2.1 1 0) (u.2.1 2 0) w0 w1 p4 p5 h1 w2 p6 p7 h2 h3 w3 h2 f0 h3 f1)) 0 0 := by
  refine q_ent (own := RX5) (by decide) rfl (Nat.le_of_ble_eq_true rfl) (fun p e s m below meth c ls X hr hlk hnm hK hT h hA hl => ?_)
  obtain ⟨hx, hb, hml, hown, ht⟩ := id X
  replace hl : lv_has ls 2 [(0, .ref h0), (1, .int 93)] := hl
  refine lv_aload_n hx hb dX5_take_0 rfl (lv_at hl 0 rfl) ?_
  refine q_get X hK h 0 rfl rfl wf_5 2 (by decide) rfl wm_1_146 dX5_take_1 ?_
  refine lv_iload_n hx hb dX5_take_4 rfl (lv_at hl 1 rfl) ?_
  refine lv_icmp_ne (tgt := 15) hx hb dX5_take_5 (by decide) (fun c_1 => ?_) (fun c_1 => ?_)
  · replace c_1 := i_ne (x := p1) (y := 93) rfl (show (93 : Int32).toInt = 93 by decide) c_1
    refine lv_aload_n hx hb dX5_take_15 rfl (lv_at hl 0 rfl) ?_
    refine lv_iconst (v := 2) hx hb dX5_take_16 (by decide) ?_
    refine q_callVv (rest := []) (wr := [(h2, .inl (cy 1, 901, .inl f0))]) X hK hT hA h (fun sz => gX5_refuse_067fcff l D cy h0 h1 h3 p0 p1 p2 p3 w0 w1 p4 p5 w2 p6 p7 (.ref h2) w3 f1 hp0 (i_rng _) (i_rng _) (i_rng _) hp4 (i_rng _) hp6 hp7 (hpre1) (hpre3) (by have q0 : (2 : Int32).toInt = 2 := (by decide); (first | (clear hpre2 hpre3; omega) | omega)) sz) wm_3_76 wm_3_79 wm_1_2 hd_X5_refuse wm_3_78 wp_1_10 (ci := 5) (q0 := 0) rfl rfl ⟨Nat.le_of_ble_eq_true rfl, Nat.le_of_ble_eq_true rfl⟩ hl.1 rfl (Nat.le_of_ble_eq_true rfl) dX5_take_17 ⟨Nat.le_of_ble_eq_true rfl, Nat.le_of_ble_eq_true rfl⟩ [0, 1, 3] [2] rfl rfl (by decide) rfl rfl (fun u_2 H locs w_2 h_2 => ?_)
    clear h
    obtain ⟨w2_0, w2_1, w2_2, y2_0, y2_1, y2_2, _⟩ := w_2
    have lq_2_1 : (2 : Int32).toInt = 2 := (by decide)
    replace h_2 : qW D _ _ (wk_565e7035b cy h2 f0 h0 h1 p0 (u_2.2.1 0 0) (u_2.2.1 1 0) (u_2.2.1 2 0) w0 w1 p4 p5 h1 w2 p6 p7 h2 h3 w3 h3 f1) _ _ := h_2
    exact q_vret X hr hlk hK h_2 (fun _ => 0, (vcons (fun _ => (u_2.2.1 0 0)) (vcons (fun _ => (u_2.2.1 1 0)) (vcons (fun _ => (u_2.2.1 2 0)) (vcons (fun _ => p0) (fun _ => (fun _ => 0)))))), fun _ _ => 0) ⟨w2_0, w2_1, w2_2, hp0, hpre1, (show ((u_2.2.1 1 0) : Int32).toInt ≠ 0 ∨ ((u_2.2.1 0 0) : Int32).toInt = 26 ∨ ((u_2.2.1 0 0) : Int32).toInt = 27 ∨ (p0 : Int32).toInt + 1 < (p7 : Int32).toInt from by (first | (clear hpre2 hpre3 y2_1; omega) | omega)), (show ((u_2.2.1 1 0) : Int32).toInt ≠ 0 ∨ (p0 : Int32).toInt = (p0 : Int32).toInt + 1 from by (first | (clear hpre2 hpre3 y2_1; omega) | omega)), (show ((u_2.2.1 1 0) : Int32).toInt ≠ 0 ∨ (p2 : Int32).toInt = 0 from by (first | (clear hpre2 hpre3 y2_1; omega) | omega)), y2_1, (show (p0 : Int32).toInt ≤ (p0 : Int32).toInt from (Int.le_refl _)), (show ∀ vv : Nat → Int32, SIM f0 f1 vv (p7 : Int32).toInt (tak 93) (p0 : Int32).toInt (p1 : Int32).toInt (p2 : Int32).toInt (p3 : Int32).toInt (p0 : Int32).toInt ((u_2.2.1 0 0) : Int32).toInt ((u_2.2.1 1 0) : Int32).toInt ((u_2.2.1 2 0) : Int32).toInt from fun _ => sim_tk2 (by (first | assumption | (clear hpre2 hpre3 y2_1; omega) | omega)) (y2_2 _ _)), trivial⟩ [1, 2, 0, 3] rfl rfl dX5_take_20 (Nat.le_of_ble_eq_true rfl) (Nat.le_of_ble_eq_true rfl)
  · replace c_1 := i_eq (x := p1) (y := 93) rfl (show (93 : Int32).toInt = 93 by decide) c_1
    refine lv_aload_n hx hb dX5_take_8 rfl (lv_at hl 0 rfl) ?_
    refine q_callVv (rest := []) (wr := []) X hK hT hA h (fun sz => gX5_advance_9820dfe l D cy h0 h1 h2 h3 p0 p1 p2 p3 w0 w1 p4 p5 w2 p6 p7 w3 f0 f1 hp0 (i_rng _) (i_rng _) (i_rng _) hp4 (i_rng _) hp6 hp7 (hpre0) (hpre3) (by (first | (clear hpre2 hpre3; omega) | omega)) sz) wm_3_68 wm_3_71 wm_1_2 hd_X5_advance wm_3_70 wp_1_8 (ci := 5) (q0 := 0) rfl rfl ⟨Nat.le_of_ble_eq_true rfl, Nat.le_of_ble_eq_true rfl⟩ hl.1 rfl (Nat.le_of_ble_eq_true rfl) dX5_take_9 ⟨Nat.le_of_ble_eq_true rfl, Nat.le_of_ble_eq_true rfl⟩ [0, 1, 2, 3] [] rfl rfl (by decide) rfl rfl (fun u_3 H locs w_3 h_3 => ?_)
    clear h
    obtain ⟨w3_0, w3_1, w3_2, w3_3, y3_0, y3_1, y3_2, y3_3, y3_4, y3_5, y3_6, _⟩ := w_3
    replace h_3 : qW D _ _ (wk_8964b4ae4 cy h0 h1 (u_3.2.1 0 0) (u_3.2.1 1 0) (u_3.2.1 2 0) (u_3.2.1 3 0) w0 w1 p4 p5 h1 w2 p6 p7 h2 h3 w3 h2 f0 h3 f1) _ _ := h_3
    refine lv_goto (tgt := 20) hx hb dX5_take_12 (by decide) ?_
    exact q_vret X hr hlk hK h_3 (fun _ => 0, (vcons (fun _ => (u_3.2.1 1 0)) (vcons (fun _ => (u_3.2.1 2 0)) (vcons (fun _ => (u_3.2.1 3 0)) (vcons (fun _ => (u_3.2.1 0 0)) (fun _ => (fun _ => 0)))))), fun _ _ => 0) ⟨w3_1, w3_2, w3_3, w3_0, y3_0, (show ((u_3.2.1 2 0) : Int32).toInt ≠ 0 ∨ ((u_3.2.1 1 0) : Int32).toInt = 26 ∨ ((u_3.2.1 1 0) : Int32).toInt = 27 ∨ ((u_3.2.1 0 0) : Int32).toInt + 1 < (p7 : Int32).toInt from by (first | (clear hpre2 hpre3 y3_1 y3_2 y3_4 y3_5; omega) | omega)), (show ((u_3.2.1 2 0) : Int32).toInt ≠ 0 ∨ ((u_3.2.1 0 0) : Int32).toInt = (p0 : Int32).toInt + 1 from by (first | (clear hpre2 hpre3 y3_1 y3_2 y3_4 y3_5; omega) | omega)), y3_2, y3_5, y3_3, (show ∀ vv : Nat → Int32, SIM f0 f1 vv (p7 : Int32).toInt (tak 93) (p0 : Int32).toInt (p1 : Int32).toInt (p2 : Int32).toInt (p3 : Int32).toInt ((u_3.2.1 0 0) : Int32).toInt ((u_3.2.1 1 0) : Int32).toInt ((u_3.2.1 2 0) : Int32).toInt ((u_3.2.1 3 0) : Int32).toInt from fun _ => sim_tk1 (by (first | assumption | (clear hpre2 hpre3 y3_1 y3_2 y3_4 y3_5; omega) | omega)) (by (first | assumption | (clear hpre2 hpre3 y3_1 y3_2 y3_4 y3_5; omega) | omega)) y3_6 (by (first | assumption | (clear hpre2 hpre3 y3_1 y3_2 y3_4 y3_5; omega) | omega))), trivial⟩ [0, 1, 2, 3] rfl rfl dX5_take_20 (Nat.le_of_ble_eq_true rfl) (Nat.le_of_ble_eq_true rfl)
set_option maxRecDepth 100000 in
def gX5_IHT_0feb8f5 (l : Launch) (D : va_G) (cy : Nat → ClassId) (kk_ : Nat) : Prop := (∀ (h0 : Nat) (h1 : Nat) (h2 : Nat) (h3 : Nat) (h4 : Nat) (h5 : Nat) (p0 : Int32) (p1 : Int32) (p2 : Int32) (p3 : Int32) (p4 : Int32) (w0 : Value) (p5 : Int32) (p6 : Int32) (w1 : Value) (p7 : Int32) (p8 : Int32) (f0 : Nat → Int32) (f1 : Nat → Int32) (f2 : Nat → Int32) (f3 : Nat → Int32) (hp0 : 0 ≤ (p0).toInt ∧ (p0).toInt ≤ 6) (hp1 : (-1) ≤ (p1).toInt ∧ (p1).toInt ≤ 900) (hp2 : (-2147483648) ≤ (p2).toInt ∧ (p2).toInt ≤ 2147483647) (hp3 : (-2147483648) ≤ (p3).toInt ∧ (p3).toInt ≤ 2147483647) (hp4 : (-2147483648) ≤ (p4).toInt ∧ (p4).toInt ≤ 2147483647) (hp5 : 0 ≤ (p5).toInt ∧ (p5).toInt ≤ 900) (hp6 : (-2147483648) ≤ (p6).toInt ∧ (p6).toInt ≤ 2147483647) (hp7 : 0 ≤ (p7).toInt ∧ (p7).toInt ≤ 900) (hp8 : 0 ≤ (p8).toInt ∧ (p8).toInt ≤ 901) (hpre0 : KZ f0 (p8 : Int32).toInt) (hpre1 : 0 ≤ (p1 : Int32).toInt ∧ (p1 : Int32).toInt < (p8 : Int32).toInt) (hpre2 : (p3 : Int32).toInt ≠ 0 ∨ (p2 : Int32).toInt = 26 ∨ (p2 : Int32).toInt = 27 ∨ (p1 : Int32).toInt + 1 < (p8 : Int32).toInt) (hpre3 : (p3 : Int32).toInt = 0 ∨ (p2 : Int32).toInt = 27) (hkk : (p0).toInt + kk_ = 6) (sz : Nat), MV l yX5_readTruth cX5_readTruth 3 { frames := 7 + 3 * kk_, cells := 0, slots := 0, locals := 152 + 80 * kk_ } [.ref h0, .int p0] D cy (wk_a727c0403 cy h0 h1 p1 p2 p3 p4 w0 h5 p5 p6 h1 w1 p7 p8 h2 h3 h4 h2 f0 h3 f1 h4 f2 h5 f3) sz (fun u => (0 ≤ (u.2.1 0 0).toInt ∧ (u.2.1 0 0).toInt ≤ 900) ∧ ((-2147483648) ≤ (u.2.1 1 0).toInt ∧ (u.2.1 1 0).toInt ≤ 2147483647) ∧ ((-2147483648) ≤ (u.2.1 2 0).toInt ∧ (u.2.1 2 0).toInt ≤ 2147483647) ∧ ((-2147483648) ≤ (u.2.1 3 0).toInt ∧ (u.2.1 3 0).toInt ≤ 2147483647) ∧ (0 ≤ (u.2.1 4 0).toInt ∧ (u.2.1 4 0).toInt ≤ 900) ∧ (0 ≤ ((u.2.1 0 0) : Int32).toInt ∧ ((u.2.1 0 0) : Int32).toInt < (p8 : Int32).toInt) ∧ (((u.2.1 2 0) : Int32).toInt ≠ 0 ∨ ((u.2.1 1 0) : Int32).toInt = 26 ∨ ((u.2.1 1 0) : Int32).toInt = 27 ∨ ((u.2.1 0 0) : Int32).toInt + 1 < (p8 : Int32).toInt) ∧ (((u.2.1 2 0) : Int32).toInt ≠ 0 ∨ ((u.2.1 4 0) : Int32).toInt + (p1 : Int32).toInt ≤ (p5 : Int32).toInt + ((u.2.1 0 0) : Int32).toInt) ∧ (((u.2.1 2 0) : Int32).toInt ≠ 0 ∨ (p3 : Int32).toInt = 0) ∧ (((u.2.1 2 0) : Int32).toInt = 0 ∨ ((u.2.1 1 0) : Int32).toInt = 27) ∧ ((p1 : Int32).toInt ≤ ((u.2.1 0 0) : Int32).toInt) ∧ (SIM f0 f1 f2 (p8 : Int32).toInt (truthS (naC p6) kk_) (p1 : Int32).toInt (p2 : Int32).toInt (p3 : Int32).toInt (p4 : Int32).toInt ((u.2.1 0 0) : Int32).toInt ((u.2.1 1 0) : Int32).toInt ((u.2.1 2 0) : Int32).toInt ((u.2.1 3 0) : Int32).toInt) ∧ True) (fun u => (wk_a727c0403 cy h0 h1 (u.2.1 0 0) (u.2.1 1 0) (u.2.1 2 0) (u.2.1 3 0) w0 h5 (u.2.1 4 0) p6 h1 w1 p7 p8 h2 h3 h4 h2 f0 h3 f1 h4 f2 h5 (u.2.1 5))) 0 0) ∧ (∀ (h0 : Nat) (h1 : Nat) (h2 : Nat) (h3 : Nat) (h4 : Nat) (h5 : Nat) (p0 : Int32) (p1 : Int32) (p2 : Int32) (p3 : Int32) (p4 : Int32) (w0 : Value) (p5 : Int32) (p6 : Int32) (w1 : Value) (p7 : Int32) (p8 : Int32) (f0 : Nat → Int32) (f1 : Nat → Int32) (f2 : Nat → Int32) (f3 : Nat → Int32) (hp0 : 0 ≤ (p0).toInt ∧ (p0).toInt ≤ 6) (hp1 : (-1) ≤ (p1).toInt ∧ (p1).toInt ≤ 900) (hp2 : (-2147483648) ≤ (p2).toInt ∧ (p2).toInt ≤ 2147483647) (hp3 : (-2147483648) ≤ (p3).toInt ∧ (p3).toInt ≤ 2147483647) (hp4 : (-2147483648) ≤ (p4).toInt ∧ (p4).toInt ≤ 2147483647) (hp5 : 0 ≤ (p5).toInt ∧ (p5).toInt ≤ 900) (hp6 : (-2147483648) ≤ (p6).toInt ∧ (p6).toInt ≤ 2147483647) (hp7 : 0 ≤ (p7).toInt ∧ (p7).toInt ≤ 900) (hp8 : 0 ≤ (p8).toInt ∧ (p8).toInt ≤ 901) (hpre0 : KZ f0 (p8 : Int32).toInt) (hpre1 : 0 ≤ (p1 : Int32).toInt ∧ (p1 : Int32).toInt < (p8 : Int32).toInt) (hpre2 : (p3 : Int32).toInt ≠ 0 ∨ (p2 : Int32).toInt = 26 ∨ (p2 : Int32).toInt = 27 ∨ (p1 : Int32).toInt + 1 < (p8 : Int32).toInt) (hpre3 : (p3 : Int32).toInt = 0 ∨ (p2 : Int32).toInt = 27) (hkk : (p0).toInt + kk_ = 6) (sz : Nat), MV l yX5_readUnit cX5_readUnit 3 { frames := 5 + 3 * kk_, cells := 0, slots := 0, locals := 108 + 80 * kk_ } [.ref h0, .int p0] D cy (wk_a727c0403 cy h0 h1 p1 p2 p3 p4 w0 h5 p5 p6 h1 w1 p7 p8 h2 h3 h4 h2 f0 h3 f1 h4 f2 h5 f3) sz (fun u => ((-1) ≤ (u.2.1 1 0).toInt ∧ (u.2.1 1 0).toInt ≤ 900) ∧ ((-2147483648) ≤ (u.2.1 2 0).toInt ∧ (u.2.1 2 0).toInt ≤ 2147483647) ∧ ((-2147483648) ≤ (u.2.1 3 0).toInt ∧ (u.2.1 3 0).toInt ≤ 2147483647) ∧ ((-2147483648) ≤ (u.2.1 4 0).toInt ∧ (u.2.1 4 0).toInt ≤ 2147483647) ∧ (0 ≤ (u.2.1 5 0).toInt ∧ (u.2.1 5 0).toInt ≤ 900) ∧ (0 ≤ ((u.2.1 1 0) : Int32).toInt ∧ ((u.2.1 1 0) : Int32).toInt < (p8 : Int32).toInt) ∧ (((u.2.1 3 0) : Int32).toInt ≠ 0 ∨ ((u.2.1 2 0) : Int32).toInt = 26 ∨ ((u.2.1 2 0) : Int32).toInt = 27 ∨ ((u.2.1 1 0) : Int32).toInt + 1 < (p8 : Int32).toInt) ∧ (((u.2.1 3 0) : Int32).toInt ≠ 0 ∨ ((u.2.1 5 0) : Int32).toInt + (p1 : Int32).toInt ≤ (p5 : Int32).toInt + ((u.2.1 1 0) : Int32).toInt) ∧ (((u.2.1 3 0) : Int32).toInt ≠ 0 ∨ (p3 : Int32).toInt = 0) ∧ (((u.2.1 3 0) : Int32).toInt = 0 ∨ ((u.2.1 2 0) : Int32).toInt = 27) ∧ ((p1 : Int32).toInt ≤ ((u.2.1 1 0) : Int32).toInt) ∧ (SIM f0 f1 f2 (p8 : Int32).toInt (unitS (naC p6) kk_) (p1 : Int32).toInt (p2 : Int32).toInt (p3 : Int32).toInt (p4 : Int32).toInt ((u.2.1 1 0) : Int32).toInt ((u.2.1 2 0) : Int32).toInt ((u.2.1 3 0) : Int32).toInt ((u.2.1 4 0) : Int32).toInt) ∧ True) (fun u => (wk_a727c0403 cy h0 h1 (u.2.1 1 0) (u.2.1 2 0) (u.2.1 3 0) (u.2.1 4 0) w0 h5 (u.2.1 5 0) p6 h1 w1 p7 p8 h2 h3 h4 h2 f0 h3 f1 h4 f2 h5 (u.2.1 0))) 0 0)
set_option maxHeartbeats 4000000 in
set_option maxRecDepth 100000 in
theorem gX5_readUnit_85b78ca (l : Launch) (D : va_G) (cy : Nat → ClassId) (h0 : Nat) (h1 : Nat) (h2 : Nat) (h3 : Nat) (h4 : Nat) (h5 : Nat) (p0 : Int32) (p1 : Int32) (p2 : Int32) (p3 : Int32) (p4 : Int32) (w0 : Value) (p5 : Int32) (p6 : Int32) (w1 : Value) (p7 : Int32) (p8 : Int32) (f0 : Nat → Int32) (f1 : Nat → Int32) (f2 : Nat → Int32) (f3 : Nat → Int32) (hp0 : 0 ≤ (p0).toInt ∧ (p0).toInt ≤ 6) (hp1 : (-1) ≤ (p1).toInt ∧ (p1).toInt ≤ 900) (hp2 : (-2147483648) ≤ (p2).toInt ∧ (p2).toInt ≤ 2147483647) (hp3 : (-2147483648) ≤ (p3).toInt ∧ (p3).toInt ≤ 2147483647) (hp4 : (-2147483648) ≤ (p4).toInt ∧ (p4).toInt ≤ 2147483647) (hp5 : 0 ≤ (p5).toInt ∧ (p5).toInt ≤ 900) (hp6 : (-2147483648) ≤ (p6).toInt ∧ (p6).toInt ≤ 2147483647) (hp7 : 0 ≤ (p7).toInt ∧ (p7).toInt ≤ 900) (hp8 : 0 ≤ (p8).toInt ∧ (p8).toInt ≤ 901) (hpre0 : KZ f0 (p8 : Int32).toInt) (hpre1 : 0 ≤ (p1 : Int32).toInt ∧ (p1 : Int32).toInt < (p8 : Int32).toInt) (hpre2 : (p3 : Int32).toInt ≠ 0 ∨ (p2 : Int32).toInt = 26 ∨ (p2 : Int32).toInt = 27 ∨ (p1 : Int32).toInt + 1 < (p8 : Int32).toInt) (hpre3 : (p3 : Int32).toInt = 0 ∨ (p2 : Int32).toInt = 27) (kk_ : Nat) (hkk : (p0).toInt + kk_ = 6) (ih : ∀ j : Nat, kk_ = j + 1 → gX5_IHT_0feb8f5 l D cy j) (sz : Nat) : MV l yX5_readUnit cX5_readUnit 3 { frames := 5 + 3 * kk_, cells := 0, slots := 0, locals := 108 + 80 * kk_ } [.ref h0, .int p0] D cy (wk_a727c0403 cy h0 h1 p1 p2 p3 p4 w0 h5 p5 p6 h1 w1 p7 p8 h2 h3 h4 h2 f0 h3 f1 h4 f2 h5 f3) sz (fun u => ((-1) ≤ (u.2.1 1 0).toInt ∧ (u.2.1 1 0).toInt ≤ 900) ∧ ((-2147483648) ≤ (u.2.1 2 0).toInt ∧ (u.2.1 2 0).toInt ≤ 2147483647) ∧ ((-2147483648) ≤ (u.2.1 3 0).toInt ∧ (u.2.1 3 0).toInt ≤ 2147483647) ∧ ((-2147483648) ≤ (u.2.1 4 0).toInt ∧ (u.2.1 4 0).toInt ≤ 2147483647) ∧ (0 ≤ (u.2.1 5 0).toInt ∧ (u.2.1 5 0).toInt ≤ 900) ∧ (0 ≤ ((u.2.1 1 0) : Int32).toInt ∧ ((u.2.1 1 0) : Int32).toInt < (p8 : Int32).toInt) ∧ (((u.2.1 3 0) : Int32).toInt ≠ 0 ∨ ((u.2.1 2 0) : Int32).toInt = 26 ∨ ((u.2.1 2 0) : Int32).toInt = 27 ∨ ((u.2.1 1 0) : Int32).toInt + 1 < (p8 : Int32).toInt) ∧ (((u.2.1 3 0) : Int32).toInt ≠ 0 ∨ ((u.2.1 5 0) : Int32).toInt + (p1 : Int32).toInt ≤ (p5 : Int32).toInt + ((u.2.1 1 0) : Int32).toInt) ∧ (((u.2.1 3 0) : Int32).toInt ≠ 0 ∨ (p3 : Int32).toInt = 0) ∧ (((u.2.1 3 0) : Int32).toInt = 0 ∨ ((u.2.1 2 0) : Int32).toInt = 27) ∧ ((p1 : Int32).toInt ≤ ((u.2.1 1 0) : Int32).toInt) ∧ (SIM f0 f1 f2 (p8 : Int32).toInt (unitS (naC p6) kk_) (p1 : Int32).toInt (p2 : Int32).toInt (p3 : Int32).toInt (p4 : Int32).toInt ((u.2.1 1 0) : Int32).toInt ((u.2.1 2 0) : Int32).toInt ((u.2.1 3 0) : Int32).toInt ((u.2.1 4 0) : Int32).toInt) ∧ True) (fun u => (wk_a727c0403 cy h0 h1 (u.2.1 1 0) (u.2.1 2 0) (u.2.1 3 0) (u.2.1 4 0) w0 h5 (u.2.1 5 0) p6 h1 w1 p7 p8 h2 h3 h4 h2 f0 h3 f1 h4 f2 h5 (u.2.1 0))) 0 0 := by
  refine q_ent (own := RX5) (by decide) rfl (Nat.le_of_ble_eq_true rfl) (fun p e s m below meth c ls X hr hlk hnm hK hT h hA hl => ?_)
  obtain ⟨hx, hb, hml, hown, ht⟩ := id X
  replace hl : lv_has ls 3 [(0, .ref h0), (1, .int p0)] := hl
  refine lv_aload_n hx hb dX5_readUnit_0 rfl (lv_at hl 0 rfl) ?_
  refine q_get X hK h 0 rfl rfl wf_5 2 (by decide) rfl wm_1_146 dX5_readUnit_1 ?_
  refine lv_bipush (v := 23) hx hb dX5_readUnit_4 (by decide) ?_
  refine lv_icmp_ne (tgt := 34) hx hb dX5_readUnit_6 (by decide) (fun c_1 => ?_) (fun c_1 => ?_)
  · replace c_1 := i_ne (x := p2) (y := 23) rfl (show (23 : Int32).toInt = 23 by decide) c_1
    refine lv_aload_n hx hb dX5_readUnit_34 rfl (lv_at hl 0 rfl) ?_
    refine q_get X hK h 0 rfl rfl wf_5 2 (by decide) rfl wm_1_146 dX5_readUnit_35 ?_
    refine lv_bipush (v := 91) hx hb dX5_readUnit_38 (by decide) ?_
    refine lv_icmp_ne (tgt := 67) hx hb dX5_readUnit_40 (by decide) (fun c_2 => ?_) (fun c_2 => ?_)
    · replace c_2 := i_ne (x := p2) (y := 91) rfl (show (91 : Int32).toInt = 91 by decide) c_2
      refine lv_aload_n hx hb dX5_readUnit_67 rfl (lv_at hl 0 rfl) ?_
      refine lv_iload_n hx hb dX5_readUnit_68 rfl (lv_at hl 1 rfl) ?_
      refine q_callVv (rest := []) (wr := []) X hK hT hA h (fun sz => (gX5_ALLS_799895c l D cy kk_)  h0 h1 h2 h3 h4 h5 p0 p1 p2 p3 p4 w0 p5 p6 w1 p7 p8 f0 f1 f2 f3 hp0 hp1 (i_rng _) (i_rng _) (i_rng _) hp5 (i_rng _) hp7 hp8 (hpre0) (hpre1) (hpre2) (hpre3) (by omega) sz) wm_3_101 wm_3_104 wm_1_2 hd_X5_readSum wm_3_103 wp_2_0 (ci := 5) (q0 := 0) rfl rfl ⟨by dsimp only; omega, by dsimp only; omega⟩ hl.1 rfl (Nat.le_of_ble_eq_true rfl) dX5_readUnit_69 ⟨Nat.le_of_ble_eq_true rfl, Nat.le_of_ble_eq_true rfl⟩ [0, 1, 2, 3, 4, 5] [] rfl rfl (by decide) rfl rfl (fun u_3 H locs w_3 h_3 => ?_)
      clear h
      obtain ⟨w3_0, w3_1, w3_2, w3_3, w3_4, y3_0, y3_1, y3_2, y3_3, y3_4, y3_5, y3_6, _⟩ := w_3
      replace h_3 : qW D _ _ (wk_a727c0403 cy h0 h1 (u_3.2.1 0 0) (u_3.2.1 1 0) (u_3.2.1 2 0) (u_3.2.1 3 0) w0 h5 (u_3.2.1 4 0) p6 h1 w1 p7 p8 h2 h3 h4 h2 f0 h3 f1 h4 f2 h5 (u_3.2.1 5)) _ _ := h_3
      refine lv_aload_n hx hb dX5_readUnit_72 rfl (lv_at hl 0 rfl) ?_
      refine q_get X hK h_3 0 rfl rfl wf_5 2 (by decide) rfl wm_1_146 dX5_readUnit_73 ?_
      refine lv_istore_n (lv' := [(2, .int (u_3.2.1 1 0)), (0, .ref h0), (1, .int p0)]) hx hb dX5_readUnit_76 rfl hl (by decide) rfl (fun ls_4 hl_4 => ?_)
      clear hl
      refine lv_iload_n hx hb dX5_readUnit_77 rfl (lv_at hl_4 0 rfl) ?_
      refine lv_bipush (v := 61) hx hb dX5_readUnit_78 (by decide) ?_
      refine q_jn (pc2 := 95) (fun H locs ls st => (((u_3.2.1 1 0) : Int32).toInt ≠ 26 ∧ ((u_3.2.1 1 0) : Int32).toInt ≠ 27) ∧ (((u_3.2.1 1 0) : Int32).toInt = 61 ∨ ((u_3.2.1 1 0) : Int32).toInt = 60 ∨ ((u_3.2.1 1 0) : Int32).toInt = 62) ∧ st = [] ∧ qW D (va_A (wk_a727c0403 cy h0 h1 p1 p2 p3 p4 w0 h5 p5 p6 h1 w1 p7 p8 h2 h3 h4 h2 f0 h3 f1 h4 f2 h5 f3) sz) s.heap (wk_a727c0403 cy h0 h1 (u_3.2.1 0 0) (u_3.2.1 1 0) (u_3.2.1 2 0) (u_3.2.1 3 0) w0 h5 (u_3.2.1 4 0) p6 h1 w1 p7 p8 h2 h3 h4 h2 f0 h3 f1 h4 f2 h5 (u_3.2.1 5)) H locs ∧ lv_has ls 3 [(0, .ref h0), (1, .int p0), (2, .int (u_3.2.1 1 0))]) (fun H locs ls st hP => ?_) (fun J_95 => ?_)
      · obtain ⟨x6_0, x7_1, rfl, h, hl⟩ := hP
        refine lv_aload_n hx hb dX5_readUnit_95 rfl (lv_at hl 0 rfl) ?_
        refine q_callVv (rest := []) (wr := (wk_97b0566c7 cy h4 f2 h5 (u_3.2.1 5))) X hK hT hA h (fun sz => gX5_advance_9820dfe l D cy h0 h1 h2 h3 (u_3.2.1 0 0) (u_3.2.1 1 0) (u_3.2.1 2 0) (u_3.2.1 3 0) w0 (.ref h5) (u_3.2.1 4 0) p6 w1 p7 p8 (.ref h4) f0 f1 (bw w3_0 (by decide) (by decide)) (i_rng _) (i_rng _) (i_rng _) w3_4 (i_rng _) hp7 hp8 (hpre0) (y3_4) (by (first | (clear hpre2 hpre3 y3_1 y3_2 y3_3 y3_4 x7_1; omega) | omega)) sz) wm_3_68 wm_3_71 wm_1_2 hd_X5_advance wm_3_70 wp_1_8 (ci := 5) (q0 := 0) rfl rfl ⟨by dsimp only; omega, by dsimp only; omega⟩ hl.1 rfl (Nat.le_of_ble_eq_true rfl) dX5_readUnit_96 ⟨Nat.le_of_ble_eq_true rfl, Nat.le_of_ble_eq_true rfl⟩ [0, 1, 2, 3] [4, 5] rfl rfl (by decide) rfl rfl (fun u_8 H locs w_8 h_8 => ?_)
        clear h
        obtain ⟨w8_0, w8_1, w8_2, w8_3, y8_0, y8_1, y8_2, y8_3, y8_4, y8_5, y8_6, _⟩ := w_8
        replace h_8 : qW D _ _ (wk_e6664c302 cy h4 f2 h5 (u_3.2.1 5) h0 h1 (u_8.2.1 0 0) (u_8.2.1 1 0) (u_8.2.1 2 0) (u_8.2.1 3 0) w0 h5 (u_3.2.1 4 0) p6 h1 w1 p7 p8 h2 h3 h4 h2 f0 h3 f1) _ _ := h_8
        refine lv_aload_n hx hb dX5_readUnit_99 rfl (lv_at hl 0 rfl) ?_
        refine lv_iload_n hx hb dX5_readUnit_100 rfl (lv_at hl 1 rfl) ?_
        refine q_callVv (rest := []) (wr := []) X hK hT hA h_8 (fun sz => (gX5_ALLS_799895c l D cy kk_)  h0 h1 h2 h3 h4 h5 p0 (u_8.2.1 0 0) (u_8.2.1 1 0) (u_8.2.1 2 0) (u_8.2.1 3 0) w0 (u_3.2.1 4 0) p6 w1 p7 p8 f0 f1 f2 (u_3.2.1 5) hp0 w8_0 (i_rng _) (i_rng _) (i_rng _) w3_4 (i_rng _) hp7 hp8 (hpre0) (y8_0) (by (first | (clear hpre2 hpre3 y3_1 y3_2 y3_3 y3_4 x7_1 y8_1 y8_2 y8_4 y8_5; omega) | omega)) (y8_5) (by omega) sz) wm_3_101 wm_3_104 wm_1_2 hd_X5_readSum wm_3_103 wp_2_0 (ci := 5) (q0 := 0) rfl rfl ⟨by dsimp only; omega, by dsimp only; omega⟩ hl.1 rfl (Nat.le_of_ble_eq_true rfl) dX5_readUnit_101 ⟨Nat.le_of_ble_eq_true rfl, Nat.le_of_ble_eq_true rfl⟩ [2, 3, 4, 5, 0, 1] [] rfl rfl (by decide) rfl rfl (fun u_9 H locs w_9 h_9 => ?_)
        clear h_8
        obtain ⟨w9_0, w9_1, w9_2, w9_3, w9_4, y9_0, y9_1, y9_2, y9_3, y9_4, y9_5, y9_6, _⟩ := w_9
        replace h_9 : qW D _ _ (wk_a727c0403 cy h0 h1 (u_9.2.1 0 0) (u_9.2.1 1 0) (u_9.2.1 2 0) (u_9.2.1 3 0) w0 h5 (u_9.2.1 4 0) p6 h1 w1 p7 p8 h2 h3 h4 h2 f0 h3 f1 h4 f2 h5 (u_9.2.1 5)) _ _ := h_9
        refine lv_aload_n hx hb dX5_readUnit_104 rfl (lv_at hl 0 rfl) ?_
        refine lv_sipush (v := 2000) hx hb dX5_readUnit_105 (by decide) ?_
        refine lv_iload_n hx hb dX5_readUnit_108 rfl (lv_at hl 2 rfl) ?_
        refine lv_iadd hx hb dX5_readUnit_109 ?_
        refine q_any (fun z_10 hz_10 => ?_)
        refine q_callVv (rest := []) (wr := (wk_9325d072e cy h1 w1 p7 p8 h2 h3 h4 h2 f0 h3 f1 h4 f2)) X hK hT hA h_9 (fun sz => gX5_add_055b9a0 l D cy h0 h5 z_10 (.ref h1) (u_9.2.1 0 0) (u_9.2.1 1 0) (u_9.2.1 2 0) (u_9.2.1 3 0) w0 (u_9.2.1 4 0) p6 (u_9.2.1 5) (i_rng _) (bw w9_0 (by decide) (by decide)) (i_rng _) (i_rng _) (i_rng _) w9_4 (i_rng _) sz) wm_3_113 wm_3_116 wm_1_2 hd_X5_add wm_3_115 wp_2_3 (ci := 5) (q0 := 0) rfl rfl ⟨by dsimp only; omega, by dsimp only; omega⟩ hl.1 rfl (Nat.le_of_ble_eq_true rfl) dX5_readUnit_110 ⟨Nat.le_of_ble_eq_true rfl, Nat.le_of_ble_eq_true rfl⟩ [0, 5] [1, 2, 3, 4] rfl rfl (by decide) rfl rfl (fun u_11 H locs w_11 h_11 => ?_)
        clear h_9
        obtain ⟨w11_0, y11_0, _⟩ := w_11
        replace h_11 : qW D _ _ (wk_cc81809fb cy h1 w1 p7 p8 h2 h3 h4 h2 f0 h3 f1 h4 f2 h0 h1 (u_9.2.1 0 0) (u_9.2.1 1 0) (u_9.2.1 2 0) (u_9.2.1 3 0) w0 h5 (u_11.2.1 0 0) p6 h5 (u_11.2.1 1)) _ _ := h_11
        refine lv_goto (tgt := 121) hx hb dX5_readUnit_113 (by decide) ?_
        exact q_vret X hr hlk hK h_11 (fun _ => 0, (vcons (u_11.2.1 1) (vcons (fun _ => (u_9.2.1 0 0)) (vcons (fun _ => (u_9.2.1 1 0)) (vcons (fun _ => (u_9.2.1 2 0)) (vcons (fun _ => (u_9.2.1 3 0)) (vcons (fun _ => (u_11.2.1 0 0)) (fun _ => (fun _ => 0)))))))), fun _ _ => 0) ⟨(bw w9_0 (by decide) (by decide)), w9_1, w9_2, w9_3, (bw w11_0 (by decide) (by decide)), y9_0, y9_1, (show ((u_9.2.1 2 0) : Int32).toInt ≠ 0 ∨ ((u_11.2.1 0 0) : Int32).toInt + (p1 : Int32).toInt ≤ (p5 : Int32).toInt + ((u_9.2.1 0 0) : Int32).toInt from by (first | (clear hpre2 hpre3 y3_1 y3_2 y3_3 y3_4 x7_1 y8_1 y8_2 y8_4 y8_5 y9_1 y9_2 y9_3 y9_4; omega) | omega)), (show ((u_9.2.1 2 0) : Int32).toInt ≠ 0 ∨ (p3 : Int32).toInt = 0 from (fl_tr y9_3 (fl_tr y8_2 y3_3))), y9_4, (show (p1 : Int32).toInt ≤ ((u_9.2.1 0 0) : Int32).toInt from (Int.le_trans (Int.le_trans y3_5 y8_3) y9_5)), (show SIM f0 f1 f2 (p8 : Int32).toInt (unitS (naC p6) kk_) (p1 : Int32).toInt (p2 : Int32).toInt (p3 : Int32).toInt (p4 : Int32).toInt ((u_9.2.1 0 0) : Int32).toInt ((u_9.2.1 1 0) : Int32).toInt ((u_9.2.1 2 0) : Int32).toInt ((u_9.2.1 3 0) : Int32).toInt from sim_un4 (by (first | assumption | (clear hpre2 hpre3 y3_1 y3_2 y3_3 y3_4 x7_1 y8_1 y8_2 y8_4 y8_5 y9_1 y9_2 y9_3 y9_4; omega) | omega)) (by (first | assumption | (clear hpre2 hpre3 y3_1 y3_2 y3_3 y3_4 x7_1 y8_1 y8_2 y8_4 y8_5 y9_1 y9_2 y9_3 y9_4; omega) | omega)) y3_6 (by (first | assumption | (clear hpre2 hpre3 y3_1 y3_2 y3_3 y3_4 x7_1 y8_1 y8_2 y8_4 y8_5 y9_1 y9_2 y9_3 y9_4; omega) | omega)) y8_6 (by (first | assumption | (clear hpre2 hpre3 y3_1 y3_2 y3_3 y3_4 x7_1 y8_1 y8_2 y8_4 y8_5 y9_1 y9_2 y9_3 y9_4; omega) | omega)) y9_6), trivial⟩ [4, 0, 1, 2, 3, 5] rfl rfl dX5_readUnit_121 (Nat.le_of_ble_eq_true rfl) (Nat.le_of_ble_eq_true rfl)
      · skip
        refine lv_icmp_eq (tgt := 95) hx hb dX5_readUnit_80 (by decide) (fun c_12 => ?_) (fun c_12 => ?_)
        · replace c_12 := i_eq (x := (u_3.2.1 1 0)) (y := 61) rfl (show (61 : Int32).toInt = 61 by decide) c_12
          exact J_95 _ _ _ _ ⟨(by (first | (clear hpre2 hpre3 y3_1 y3_2 y3_3 y3_4; omega) | omega)), (by (first | (clear hpre2 hpre3 y3_1 y3_2 y3_3 y3_4; omega) | omega)), rfl, h_3, (lv_sub hl_4 [1, 2, 0] rfl)⟩
        · replace c_12 := i_ne (x := (u_3.2.1 1 0)) (y := 61) rfl (show (61 : Int32).toInt = 61 by decide) c_12
          refine lv_iload_n hx hb dX5_readUnit_83 rfl (lv_at hl_4 0 rfl) ?_
          refine lv_bipush (v := 60) hx hb dX5_readUnit_84 (by decide) ?_
          refine lv_icmp_eq (tgt := 95) hx hb dX5_readUnit_86 (by decide) (fun c_13 => ?_) (fun c_13 => ?_)
          · replace c_13 := i_eq (x := (u_3.2.1 1 0)) (y := 60) rfl (show (60 : Int32).toInt = 60 by decide) c_13
            exact J_95 _ _ _ _ ⟨(by (first | (clear hpre2 hpre3 y3_1 y3_2 y3_3 y3_4; omega) | omega)), (by (first | (clear hpre2 hpre3 y3_1 y3_2 y3_3 y3_4; omega) | omega)), rfl, h_3, (lv_sub hl_4 [1, 2, 0] rfl)⟩
          · replace c_13 := i_ne (x := (u_3.2.1 1 0)) (y := 60) rfl (show (60 : Int32).toInt = 60 by decide) c_13
            refine lv_iload_n hx hb dX5_readUnit_89 rfl (lv_at hl_4 0 rfl) ?_
            refine lv_bipush (v := 62) hx hb dX5_readUnit_90 (by decide) ?_
            refine lv_icmp_ne (tgt := 116) hx hb dX5_readUnit_92 (by decide) (fun c_14 => ?_) (fun c_14 => ?_)
            · replace c_14 := i_ne (x := (u_3.2.1 1 0)) (y := 62) rfl (show (62 : Int32).toInt = 62 by decide) c_14
              refine lv_aload_n hx hb dX5_readUnit_116 rfl (lv_at hl_4 1 rfl) ?_
              refine lv_iconst (v := 2) hx hb dX5_readUnit_117 (by decide) ?_
              refine q_callVv (rest := []) (wr := (wk_e8b828d32 cy h2 f0 h4 f2 h5 (u_3.2.1 5))) X hK hT hA h_3 (fun sz => gX5_refuse_067fcff l D cy h0 h1 h3 (u_3.2.1 0 0) (u_3.2.1 1 0) (u_3.2.1 2 0) (u_3.2.1 3 0) w0 (.ref h5) (u_3.2.1 4 0) p6 w1 p7 p8 (.ref h2) (.ref h4) f1 (bw w3_0 (by decide) (by decide)) (i_rng _) (i_rng _) (i_rng _) w3_4 (i_rng _) hp7 hp8 (y3_0) (y3_4) (by have q0 : (2 : Int32).toInt = 2 := (by decide); (first | (clear hpre2 hpre3 y3_1 y3_2 y3_3 y3_4; omega) | omega)) sz) wm_3_76 wm_3_79 wm_1_2 hd_X5_refuse wm_3_78 wp_1_10 (ci := 5) (q0 := 0) rfl rfl ⟨by dsimp only; omega, by dsimp only; omega⟩ hl_4.1 rfl (Nat.le_of_ble_eq_true rfl) dX5_readUnit_118 ⟨Nat.le_of_ble_eq_true rfl, Nat.le_of_ble_eq_true rfl⟩ [0, 1, 3] [2, 4, 5] rfl rfl (by decide) rfl rfl (fun u_15 H locs w_15 h_15 => ?_)
              clear h_3
              obtain ⟨w15_0, w15_1, w15_2, y15_0, y15_1, y15_2, _⟩ := w_15
              have lq_15_1 : (2 : Int32).toInt = 2 := (by decide)
              replace h_15 : qW D _ _ (wk_770fe8eae cy h2 f0 h4 f2 h5 (u_3.2.1 5) h0 h1 (u_3.2.1 0 0) (u_15.2.1 0 0) (u_15.2.1 1 0) (u_15.2.1 2 0) w0 h5 (u_3.2.1 4 0) p6 h1 w1 p7 p8 h2 h3 h4 h3 f1) _ _ := h_15
              exact q_vret X hr hlk hK h_15 (fun _ => 0, (vcons (u_3.2.1 5) (vcons (fun _ => (u_3.2.1 0 0)) (vcons (fun _ => (u_15.2.1 0 0)) (vcons (fun _ => (u_15.2.1 1 0)) (vcons (fun _ => (u_15.2.1 2 0)) (vcons (fun _ => (u_3.2.1 4 0)) (fun _ => (fun _ => 0)))))))), fun _ _ => 0) ⟨(bw w3_0 (by decide) (by decide)), w15_0, w15_1, w15_2, w3_4, y3_0, (show ((u_15.2.1 1 0) : Int32).toInt ≠ 0 ∨ ((u_15.2.1 0 0) : Int32).toInt = 26 ∨ ((u_15.2.1 0 0) : Int32).toInt = 27 ∨ ((u_3.2.1 0 0) : Int32).toInt + 1 < (p8 : Int32).toInt from by (first | (clear hpre2 hpre3 y3_1 y3_2 y3_3 y3_4 y15_1; omega) | omega)), (show ((u_15.2.1 1 0) : Int32).toInt ≠ 0 ∨ ((u_3.2.1 4 0) : Int32).toInt + (p1 : Int32).toInt ≤ (p5 : Int32).toInt + ((u_3.2.1 0 0) : Int32).toInt from by (first | (clear hpre2 hpre3 y3_1 y3_2 y3_3 y3_4 y15_1; omega) | omega)), (show ((u_15.2.1 1 0) : Int32).toInt ≠ 0 ∨ (p3 : Int32).toInt = 0 from by (first | (clear hpre2 hpre3 y3_1 y3_2 y3_3 y3_4 y15_1; omega) | omega)), y15_1, y3_5, (show SIM f0 f1 f2 (p8 : Int32).toInt (unitS (naC p6) kk_) (p1 : Int32).toInt (p2 : Int32).toInt (p3 : Int32).toInt (p4 : Int32).toInt ((u_3.2.1 0 0) : Int32).toInt ((u_15.2.1 0 0) : Int32).toInt ((u_15.2.1 1 0) : Int32).toInt ((u_15.2.1 2 0) : Int32).toInt from sim_un5 (by (first | assumption | (clear hpre2 hpre3 y3_1 y3_2 y3_3 y3_4 y15_1; omega) | omega)) (by (first | assumption | (clear hpre2 hpre3 y3_1 y3_2 y3_3 y3_4 y15_1; omega) | omega)) y3_6 (by (first | assumption | (clear hpre2 hpre3 y3_1 y3_2 y3_3 y3_4 y15_1; omega) | omega)) (y15_2 _ _)), trivial⟩ [3, 4, 0, 5, 1, 2] rfl rfl dX5_readUnit_121 (Nat.le_of_ble_eq_true rfl) (Nat.le_of_ble_eq_true rfl)
            · replace c_14 := i_eq (x := (u_3.2.1 1 0)) (y := 62) rfl (show (62 : Int32).toInt = 62 by decide) c_14
              exact J_95 _ _ _ _ ⟨(by (first | (clear hpre2 hpre3 y3_1 y3_2 y3_3 y3_4; omega) | omega)), (by (first | (clear hpre2 hpre3 y3_1 y3_2 y3_3 y3_4; omega) | omega)), rfl, h_3, (lv_sub hl_4 [1, 2, 0] rfl)⟩
    · replace c_2 := i_eq (x := p2) (y := 91) rfl (show (91 : Int32).toInt = 91 by decide) c_2
      refine lv_aload_n hx hb dX5_readUnit_43 rfl (lv_at hl 0 rfl) ?_
      refine lv_iload_n hx hb dX5_readUnit_44 rfl (lv_at hl 1 rfl) ?_
      refine q_callVi (rest := []) (wr := (wk_97b0566c7 cy h4 f2 h5 f3)) X hK hT hA h (fun sz => gX5_goesDeeper_ce0d7f5 l D cy h0 h1 h2 h3 p0 p1 p2 p3 p4 w0 (.ref h5) p5 p6 w1 p7 p8 (.ref h4) f0 f1 hp0 hp1 (i_rng _) (i_rng _) (i_rng _) hp5 (i_rng _) hp7 hp8 (hpre0) (hpre1) (hpre2) (hpre3) (by (first | (clear hpre2 hpre3; omega) | omega)) sz) wm_3_117 wm_3_120 wm_1_2 hd_X5_goesDeeper wm_3_119 wp_2_4 (ci := 5) (q0 := 0) rfl rfl ⟨by dsimp only; omega, by dsimp only; omega⟩ hl.1 rfl (Nat.le_of_ble_eq_true rfl) dX5_readUnit_45 ⟨Nat.le_of_ble_eq_true rfl, Nat.le_of_ble_eq_true rfl⟩ [0, 1, 2, 3] [4, 5] rfl rfl (by decide) rfl rfl (fun r_16 u_16 H locs w_16 h_16 => ?_)
      clear h
      obtain ⟨wr_16, w16_0, w16_1, w16_2, w16_3, y16_0, y16_1, y16_2, y16_3, y16_4, y16_5, y16_6, y16_7, y16_8, _⟩ := w_16
      replace h_16 : qW D _ _ (wk_e6664c302 cy h4 f2 h5 f3 h0 h1 (u_16.2.1 0 0) (u_16.2.1 1 0) (u_16.2.1 2 0) (u_16.2.1 3 0) w0 h5 p5 p6 h1 w1 p7 p8 h2 h3 h4 h2 f0 h3 f1) _ _ := h_16
      refine lv_if_eq (tgt := 121) hx hb dX5_readUnit_48 (by decide) (fun c_17 => ?_) (fun c_17 => ?_)
      · replace c_17 := i_eq (x := r_16) (y := 0) rfl (show (0 : Int32).toInt = 0 by decide) c_17
        replace y16_8 := a01_0 y16_8 c_17
        exact q_vret X hr hlk hK h_16 (fun _ => 0, (vcons f3 (vcons (fun _ => (u_16.2.1 0 0)) (vcons (fun _ => (u_16.2.1 1 0)) (vcons (fun _ => (u_16.2.1 2 0)) (vcons (fun _ => (u_16.2.1 3 0)) (vcons (fun _ => p5) (fun _ => (fun _ => 0)))))))), fun _ _ => 0) ⟨w16_0, w16_1, w16_2, w16_3, hp5, y16_0, y16_1, (show ((u_16.2.1 2 0) : Int32).toInt ≠ 0 ∨ (p5 : Int32).toInt + (p1 : Int32).toInt ≤ (p5 : Int32).toInt + ((u_16.2.1 0 0) : Int32).toInt from by (first | (clear hpre2 hpre3 y16_1 y16_2 y16_4 y16_5 y16_6; omega) | omega)), y16_5, y16_2, y16_3, (show SIM f0 f1 f2 (p8 : Int32).toInt (unitS (naC p6) kk_) (p1 : Int32).toInt (p2 : Int32).toInt (p3 : Int32).toInt (p4 : Int32).toInt ((u_16.2.1 0 0) : Int32).toInt ((u_16.2.1 1 0) : Int32).toInt ((u_16.2.1 2 0) : Int32).toInt ((u_16.2.1 3 0) : Int32).toInt from sim_un1 (by (first | assumption | (clear hpre2 hpre3 y16_1 y16_2 y16_4 y16_5 y16_6; omega) | omega)) (by (first | assumption | (clear hpre2 hpre3 y16_1 y16_2 y16_4 y16_5 y16_6; omega) | omega)) (alt_l y16_7 (by (first | assumption | (clear hpre2 hpre3 y16_1 y16_2 y16_4 y16_5 y16_6; omega) | omega)) _)), trivial⟩ [2, 3, 4, 5, 0, 1] rfl rfl dX5_readUnit_121 (Nat.le_of_ble_eq_true rfl) (Nat.le_of_ble_eq_true rfl)
      · replace c_17 := i_ne (x := r_16) (y := 0) rfl (show (0 : Int32).toInt = 0 by decide) c_17
        replace y16_8 := a01_1 y16_8 c_17
        refine lv_aload_n hx hb dX5_readUnit_51 rfl (lv_at hl 0 rfl) ?_
        refine lv_iload_n hx hb dX5_readUnit_52 rfl (lv_at hl 1 rfl) ?_
        refine lv_iconst (v := 1) hx hb dX5_readUnit_53 (by decide) ?_
        refine lv_iadd hx hb dX5_readUnit_54 ?_
        obtain ⟨z_18, ez_18, hz_18⟩ := e_add (x := p0) (y := 1) rfl (show (1 : Int32).toInt = 1 by decide) (by omega) (by omega)
        refine q_c z_18 ez_18 ?_
        clear ez_18
        obtain ⟨j_19, hj_19⟩ : ∃ j : Nat, kk_ = j + 1 := ⟨kk_ - 1, by omega⟩
        refine q_callVv (rest := []) (wr := []) X hK hT hA h_16 (fun sz => (ih j_19 hj_19).1  h0 h1 h2 h3 h4 h5 z_18 (u_16.2.1 0 0) (u_16.2.1 1 0) (u_16.2.1 2 0) (u_16.2.1 3 0) w0 p5 p6 w1 p7 p8 f0 f1 f2 f3 ⟨by omega, by omega⟩ w16_0 (i_rng _) (i_rng _) (i_rng _) hp5 (i_rng _) hp7 hp8 (hpre0) (y16_0) (y16_1) (y16_2) (by omega) sz) wm_3_121 wm_3_124 wm_1_2 hd_X5_readTruth wm_3_123 wp_2_5 (ci := 5) (q0 := 0) rfl rfl ⟨by dsimp only; omega, by dsimp only; omega⟩ hl.1 rfl (Nat.le_of_ble_eq_true rfl) dX5_readUnit_55 ⟨Nat.le_of_ble_eq_true rfl, Nat.le_of_ble_eq_true rfl⟩ [2, 3, 4, 5, 0, 1] [] rfl rfl (by decide) rfl rfl (fun u_19 H locs w_19 h_19 => ?_)
        clear h_16
        obtain ⟨w19_0, w19_1, w19_2, w19_3, w19_4, y19_0, y19_1, y19_2, y19_3, y19_4, y19_5, y19_6, _⟩ := w_19
        replace h_19 : qW D _ _ (wk_a727c0403 cy h0 h1 (u_19.2.1 0 0) (u_19.2.1 1 0) (u_19.2.1 2 0) (u_19.2.1 3 0) w0 h5 (u_19.2.1 4 0) p6 h1 w1 p7 p8 h2 h3 h4 h2 f0 h3 f1 h4 f2 h5 (u_19.2.1 5)) _ _ := h_19
        refine lv_aload_n hx hb dX5_readUnit_58 rfl (lv_at hl 0 rfl) ?_
        refine lv_bipush (v := 93) hx hb dX5_readUnit_59 (by decide) ?_
        refine q_callVv (rest := []) (wr := (wk_97b0566c7 cy h4 f2 h5 (u_19.2.1 5))) X hK hT hA h_19 (fun sz => gX5_take_e8bb470 l D cy h0 h1 h2 h3 (u_19.2.1 0 0) (u_19.2.1 1 0) (u_19.2.1 2 0) (u_19.2.1 3 0) w0 (.ref h5) (u_19.2.1 4 0) p6 w1 p7 p8 (.ref h4) f0 f1 (bw w19_0 (by decide) (by decide)) (i_rng _) (i_rng _) (i_rng _) w19_4 (i_rng _) hp7 hp8 (hpre0) (y19_0) (y19_1) (y19_4) (by have q0 : (93 : Int32).toInt = 93 := (by decide); (first | (clear hpre2 hpre3 y16_1 y16_2 y16_4 y16_5 y16_6 y19_1 y19_2 y19_3 y19_4; omega) | omega)) sz) wm_3_72 wm_3_75 wm_1_2 hd_X5_take wm_3_74 wp_1_9 (ci := 5) (q0 := 0) rfl rfl ⟨by dsimp only; omega, by dsimp only; omega⟩ hl.1 rfl (Nat.le_of_ble_eq_true rfl) dX5_readUnit_61 ⟨Nat.le_of_ble_eq_true rfl, Nat.le_of_ble_eq_true rfl⟩ [0, 1, 2, 3] [4, 5] rfl rfl (by decide) rfl rfl (fun u_20 H locs w_20 h_20 => ?_)
        clear h_19
        obtain ⟨w20_0, w20_1, w20_2, w20_3, y20_0, y20_1, y20_2, y20_3, y20_4, y20_5, y20_6, _⟩ := w_20
        have lq_20_1 : (93 : Int32).toInt = 93 := (by decide)
        replace h_20 : qW D _ _ (wk_e6664c302 cy h4 f2 h5 (u_19.2.1 5) h0 h1 (u_20.2.1 3 0) (u_20.2.1 0 0) (u_20.2.1 1 0) (u_20.2.1 2 0) w0 h5 (u_19.2.1 4 0) p6 h1 w1 p7 p8 h2 h3 h4 h2 f0 h3 f1) _ _ := h_20
        refine lv_goto (tgt := 121) hx hb dX5_readUnit_64 (by decide) ?_
        exact q_vret X hr hlk hK h_20 (fun _ => 0, (vcons (u_19.2.1 5) (vcons (fun _ => (u_20.2.1 3 0)) (vcons (fun _ => (u_20.2.1 0 0)) (vcons (fun _ => (u_20.2.1 1 0)) (vcons (fun _ => (u_20.2.1 2 0)) (vcons (fun _ => (u_19.2.1 4 0)) (fun _ => (fun _ => 0)))))))), fun _ _ => 0) ⟨w20_3, w20_0, w20_1, w20_2, w19_4, y20_0, y20_1, (show ((u_20.2.1 1 0) : Int32).toInt ≠ 0 ∨ ((u_19.2.1 4 0) : Int32).toInt + (p1 : Int32).toInt ≤ (p5 : Int32).toInt + ((u_20.2.1 3 0) : Int32).toInt from by (first | (clear hpre2 hpre3 y16_1 y16_2 y16_4 y16_5 y16_6 y19_1 y19_2 y19_3 y19_4 y20_1 y20_2 y20_3 y20_4; omega) | omega)), (show ((u_20.2.1 1 0) : Int32).toInt ≠ 0 ∨ (p3 : Int32).toInt = 0 from (fl_tr y20_3 (fl_tr y19_3 y16_5))), y20_4, (show (p1 : Int32).toInt ≤ ((u_20.2.1 3 0) : Int32).toInt from (Int.le_trans (Int.le_trans y16_3 y19_5) y20_5)), (show SIM f0 f1 f2 (p8 : Int32).toInt (unitS (naC p6) kk_) (p1 : Int32).toInt (p2 : Int32).toInt (p3 : Int32).toInt (p4 : Int32).toInt ((u_20.2.1 3 0) : Int32).toInt ((u_20.2.1 0 0) : Int32).toInt ((u_20.2.1 1 0) : Int32).toInt ((u_20.2.1 2 0) : Int32).toInt from sim_un3 (by (first | assumption | (clear hpre2 hpre3 y16_1 y16_2 y16_4 y16_5 y16_6 y19_1 y19_2 y19_3 y19_4 y20_1 y20_2 y20_3 y20_4; omega) | omega)) hj_19 (alt_r y16_7 (by (first | assumption | (clear hpre2 hpre3 y16_1 y16_2 y16_4 y16_5 y16_6 y19_1 y19_2 y19_3 y19_4 y20_1 y20_2 y20_3 y20_4; omega) | omega))) (by (first | assumption | (clear hpre2 hpre3 y16_1 y16_2 y16_4 y16_5 y16_6 y19_1 y19_2 y19_3 y19_4 y20_1 y20_2 y20_3 y20_4; omega) | omega)) y19_6 (y20_6 _)), trivial⟩ [2, 3, 4, 5, 0, 1] rfl rfl dX5_readUnit_121 (Nat.le_of_ble_eq_true rfl) (Nat.le_of_ble_eq_true rfl)
  · replace c_1 := i_eq (x := p2) (y := 23) rfl (show (23 : Int32).toInt = 23 by decide) c_1
    refine lv_aload_n hx hb dX5_readUnit_9 rfl (lv_at hl 0 rfl) ?_
    refine lv_iload_n hx hb dX5_readUnit_10 rfl (lv_at hl 1 rfl) ?_
    refine q_callVi (rest := []) (wr := (wk_97b0566c7 cy h4 f2 h5 f3)) X hK hT hA h (fun sz => gX5_goesDeeper_ce0d7f5 l D cy h0 h1 h2 h3 p0 p1 p2 p3 p4 w0 (.ref h5) p5 p6 w1 p7 p8 (.ref h4) f0 f1 hp0 hp1 (i_rng _) (i_rng _) (i_rng _) hp5 (i_rng _) hp7 hp8 (hpre0) (hpre1) (hpre2) (hpre3) (by (first | (clear hpre2 hpre3; omega) | omega)) sz) wm_3_117 wm_3_120 wm_1_2 hd_X5_goesDeeper wm_3_119 wp_2_4 (ci := 5) (q0 := 0) rfl rfl ⟨by dsimp only; omega, by dsimp only; omega⟩ hl.1 rfl (Nat.le_of_ble_eq_true rfl) dX5_readUnit_11 ⟨Nat.le_of_ble_eq_true rfl, Nat.le_of_ble_eq_true rfl⟩ [0, 1, 2, 3] [4, 5] rfl rfl (by decide) rfl rfl (fun r_21 u_21 H locs w_21 h_21 => ?_)
    clear h
    obtain ⟨wr_21, w21_0, w21_1, w21_2, w21_3, y21_0, y21_1, y21_2, y21_3, y21_4, y21_5, y21_6, y21_7, y21_8, _⟩ := w_21
    replace h_21 : qW D _ _ (wk_e6664c302 cy h4 f2 h5 f3 h0 h1 (u_21.2.1 0 0) (u_21.2.1 1 0) (u_21.2.1 2 0) (u_21.2.1 3 0) w0 h5 p5 p6 h1 w1 p7 p8 h2 h3 h4 h2 f0 h3 f1) _ _ := h_21
    refine lv_if_eq (tgt := 121) hx hb dX5_readUnit_14 (by decide) (fun c_22 => ?_) (fun c_22 => ?_)
    · replace c_22 := i_eq (x := r_21) (y := 0) rfl (show (0 : Int32).toInt = 0 by decide) c_22
      replace y21_8 := a01_0 y21_8 c_22
      exact q_vret X hr hlk hK h_21 (fun _ => 0, (vcons f3 (vcons (fun _ => (u_21.2.1 0 0)) (vcons (fun _ => (u_21.2.1 1 0)) (vcons (fun _ => (u_21.2.1 2 0)) (vcons (fun _ => (u_21.2.1 3 0)) (vcons (fun _ => p5) (fun _ => (fun _ => 0)))))))), fun _ _ => 0) ⟨w21_0, w21_1, w21_2, w21_3, hp5, y21_0, y21_1, (show ((u_21.2.1 2 0) : Int32).toInt ≠ 0 ∨ (p5 : Int32).toInt + (p1 : Int32).toInt ≤ (p5 : Int32).toInt + ((u_21.2.1 0 0) : Int32).toInt from by (first | (clear hpre2 hpre3 y21_1 y21_2 y21_4 y21_5 y21_6; omega) | omega)), y21_5, y21_2, y21_3, (show SIM f0 f1 f2 (p8 : Int32).toInt (unitS (naC p6) kk_) (p1 : Int32).toInt (p2 : Int32).toInt (p3 : Int32).toInt (p4 : Int32).toInt ((u_21.2.1 0 0) : Int32).toInt ((u_21.2.1 1 0) : Int32).toInt ((u_21.2.1 2 0) : Int32).toInt ((u_21.2.1 3 0) : Int32).toInt from sim_un1 (by (first | assumption | (clear hpre2 hpre3 y21_1 y21_2 y21_4 y21_5 y21_6; omega) | omega)) (by (first | assumption | (clear hpre2 hpre3 y21_1 y21_2 y21_4 y21_5 y21_6; omega) | omega)) (alt_l y21_7 (by (first | assumption | (clear hpre2 hpre3 y21_1 y21_2 y21_4 y21_5 y21_6; omega) | omega)) _)), trivial⟩ [2, 3, 4, 5, 0, 1] rfl rfl dX5_readUnit_121 (Nat.le_of_ble_eq_true rfl) (Nat.le_of_ble_eq_true rfl)
    · replace c_22 := i_ne (x := r_21) (y := 0) rfl (show (0 : Int32).toInt = 0 by decide) c_22
      replace y21_8 := a01_1 y21_8 c_22
      refine lv_aload_n hx hb dX5_readUnit_17 rfl (lv_at hl 0 rfl) ?_
      refine lv_iload_n hx hb dX5_readUnit_18 rfl (lv_at hl 1 rfl) ?_
      refine lv_iconst (v := 1) hx hb dX5_readUnit_19 (by decide) ?_
      refine lv_iadd hx hb dX5_readUnit_20 ?_
      obtain ⟨z_23, ez_23, hz_23⟩ := e_add (x := p0) (y := 1) rfl (show (1 : Int32).toInt = 1 by decide) (by omega) (by omega)
      refine q_c z_23 ez_23 ?_
      clear ez_23
      obtain ⟨j_24, hj_24⟩ : ∃ j : Nat, kk_ = j + 1 := ⟨kk_ - 1, by omega⟩
      refine q_callVv (rest := []) (wr := []) X hK hT hA h_21 (fun sz => (ih j_24 hj_24).2  h0 h1 h2 h3 h4 h5 z_23 (u_21.2.1 0 0) (u_21.2.1 1 0) (u_21.2.1 2 0) (u_21.2.1 3 0) w0 p5 p6 w1 p7 p8 f0 f1 f2 f3 ⟨by omega, by omega⟩ w21_0 (i_rng _) (i_rng _) (i_rng _) hp5 (i_rng _) hp7 hp8 (hpre0) (y21_0) (y21_1) (y21_2) (by omega) sz) wm_3_129 wm_3_132 wm_1_2 hd_X5_readUnit wm_3_131 wp_2_7 (ci := 5) (q0 := 0) rfl rfl ⟨by dsimp only; omega, by dsimp only; omega⟩ hl.1 rfl (Nat.le_of_ble_eq_true rfl) dX5_readUnit_21 ⟨Nat.le_of_ble_eq_true rfl, Nat.le_of_ble_eq_true rfl⟩ [2, 3, 4, 5, 0, 1] [] rfl rfl (by decide) rfl rfl (fun u_24 H locs w_24 h_24 => ?_)
      clear h_21
      obtain ⟨w24_0, w24_1, w24_2, w24_3, w24_4, y24_0, y24_1, y24_2, y24_3, y24_4, y24_5, y24_6, _⟩ := w_24
      replace h_24 : qW D _ _ (wk_a727c0403 cy h0 h1 (u_24.2.1 1 0) (u_24.2.1 2 0) (u_24.2.1 3 0) (u_24.2.1 4 0) w0 h5 (u_24.2.1 5 0) p6 h1 w1 p7 p8 h2 h3 h4 h2 f0 h3 f1 h4 f2 h5 (u_24.2.1 0)) _ _ := h_24
      refine lv_aload_n hx hb dX5_readUnit_24 rfl (lv_at hl 0 rfl) ?_
      refine lv_sipush (v := 2023) hx hb dX5_readUnit_25 (by decide) ?_
      refine q_callVv (rest := []) (wr := (wk_9325d072e cy h1 w1 p7 p8 h2 h3 h4 h2 f0 h3 f1 h4 f2)) X hK hT hA h_24 (fun sz => gX5_add_055b9a0 l D cy h0 h5 (2023 : Int32) (.ref h1) (u_24.2.1 1 0) (u_24.2.1 2 0) (u_24.2.1 3 0) (u_24.2.1 4 0) w0 (u_24.2.1 5 0) p6 (u_24.2.1 0) (i_rng _) w24_0 (i_rng _) (i_rng _) (i_rng _) w24_4 (i_rng _) sz) wm_3_113 wm_3_116 wm_1_2 hd_X5_add wm_3_115 wp_2_3 (ci := 5) (q0 := 0) rfl rfl ⟨by dsimp only; omega, by dsimp only; omega⟩ hl.1 rfl (Nat.le_of_ble_eq_true rfl) dX5_readUnit_28 ⟨Nat.le_of_ble_eq_true rfl, Nat.le_of_ble_eq_true rfl⟩ [0, 5] [1, 2, 3, 4] rfl rfl (by decide) rfl rfl (fun u_25 H locs w_25 h_25 => ?_)
      clear h_24
      obtain ⟨w25_0, y25_0, _⟩ := w_25
      replace h_25 : qW D _ _ (wk_cc81809fb cy h1 w1 p7 p8 h2 h3 h4 h2 f0 h3 f1 h4 f2 h0 h1 (u_24.2.1 1 0) (u_24.2.1 2 0) (u_24.2.1 3 0) (u_24.2.1 4 0) w0 h5 (u_25.2.1 0 0) p6 h5 (u_25.2.1 1)) _ _ := h_25
      refine lv_goto (tgt := 121) hx hb dX5_readUnit_31 (by decide) ?_
      exact q_vret X hr hlk hK h_25 (fun _ => 0, (vcons (u_25.2.1 1) (vcons (fun _ => (u_24.2.1 1 0)) (vcons (fun _ => (u_24.2.1 2 0)) (vcons (fun _ => (u_24.2.1 3 0)) (vcons (fun _ => (u_24.2.1 4 0)) (vcons (fun _ => (u_25.2.1 0 0)) (fun _ => (fun _ => 0)))))))), fun _ _ => 0) ⟨w24_0, w24_1, w24_2, w24_3, (bw w25_0 (by decide) (by decide)), y24_0, y24_1, (show ((u_24.2.1 3 0) : Int32).toInt ≠ 0 ∨ ((u_25.2.1 0 0) : Int32).toInt + (p1 : Int32).toInt ≤ (p5 : Int32).toInt + ((u_24.2.1 1 0) : Int32).toInt from by (first | (clear hpre2 hpre3 y21_1 y21_2 y21_4 y21_5 y21_6 y24_1 y24_2 y24_3 y24_4; omega) | omega)), (show ((u_24.2.1 3 0) : Int32).toInt ≠ 0 ∨ (p3 : Int32).toInt = 0 from (fl_tr y24_3 y21_5)), y24_4, (show (p1 : Int32).toInt ≤ ((u_24.2.1 1 0) : Int32).toInt from (Int.le_trans y21_3 y24_5)), (show SIM f0 f1 f2 (p8 : Int32).toInt (unitS (naC p6) kk_) (p1 : Int32).toInt (p2 : Int32).toInt (p3 : Int32).toInt (p4 : Int32).toInt ((u_24.2.1 1 0) : Int32).toInt ((u_24.2.1 2 0) : Int32).toInt ((u_24.2.1 3 0) : Int32).toInt ((u_24.2.1 4 0) : Int32).toInt from sim_un2 (by (first | assumption | (clear hpre2 hpre3 y21_1 y21_2 y21_4 y21_5 y21_6 y24_1 y24_2 y24_3 y24_4; omega) | omega)) hj_24 (alt_r y21_7 (by (first | assumption | (clear hpre2 hpre3 y21_1 y21_2 y21_4 y21_5 y21_6 y24_1 y24_2 y24_3 y24_4; omega) | omega))) (by (first | assumption | (clear hpre2 hpre3 y21_1 y21_2 y21_4 y21_5 y21_6 y24_1 y24_2 y24_3 y24_4; omega) | omega)) y24_6), trivial⟩ [4, 0, 1, 2, 3, 5] rfl rfl dX5_readUnit_121 (Nat.le_of_ble_eq_true rfl) (Nat.le_of_ble_eq_true rfl)
set_option maxHeartbeats 4000000 in
set_option maxRecDepth 100000 in
theorem gX5_readBoth_58da8ea (l : Launch) (D : va_G) (cy : Nat → ClassId) (h0 : Nat) (h1 : Nat) (h2 : Nat) (h3 : Nat) (h4 : Nat) (h5 : Nat) (p0 : Int32) (p1 : Int32) (p2 : Int32) (p3 : Int32) (p4 : Int32) (w0 : Value) (p5 : Int32) (p6 : Int32) (w1 : Value) (p7 : Int32) (p8 : Int32) (f0 : Nat → Int32) (f1 : Nat → Int32) (f2 : Nat → Int32) (f3 : Nat → Int32) (hp0 : 0 ≤ (p0).toInt ∧ (p0).toInt ≤ 6) (hp1 : (-1) ≤ (p1).toInt ∧ (p1).toInt ≤ 900) (hp2 : (-2147483648) ≤ (p2).toInt ∧ (p2).toInt ≤ 2147483647) (hp3 : (-2147483648) ≤ (p3).toInt ∧ (p3).toInt ≤ 2147483647) (hp4 : (-2147483648) ≤ (p4).toInt ∧ (p4).toInt ≤ 2147483647) (hp5 : 0 ≤ (p5).toInt ∧ (p5).toInt ≤ 900) (hp6 : (-2147483648) ≤ (p6).toInt ∧ (p6).toInt ≤ 2147483647) (hp7 : 0 ≤ (p7).toInt ∧ (p7).toInt ≤ 900) (hp8 : 0 ≤ (p8).toInt ∧ (p8).toInt ≤ 901) (hpre0 : KZ f0 (p8 : Int32).toInt) (hpre1 : 0 ≤ (p1 : Int32).toInt ∧ (p1 : Int32).toInt < (p8 : Int32).toInt) (hpre2 : (p3 : Int32).toInt ≠ 0 ∨ (p2 : Int32).toInt = 26 ∨ (p2 : Int32).toInt = 27 ∨ (p1 : Int32).toInt + 1 < (p8 : Int32).toInt) (hpre3 : (p3 : Int32).toInt = 0 ∨ (p2 : Int32).toInt = 27) (kk_ : Nat) (hkk : (p0).toInt + kk_ = 6) (ih : ∀ j : Nat, kk_ = j + 1 → gX5_IHT_0feb8f5 l D cy j) (sz : Nat) : MV l yX5_readBoth cX5_readBoth 3 { frames := 6 + 3 * kk_, cells := 0, slots := 0, locals := 130 + 80 * kk_ } [.ref h0, .int p0] D cy (wk_a727c0403 cy h0 h1 p1 p2 p3 p4 w0 h5 p5 p6 h1 w1 p7 p8 h2 h3 h4 h2 f0 h3 f1 h4 f2 h5 f3) sz (fun u => (0 ≤ (u.2.1 0 0).toInt ∧ (u.2.1 0 0).toInt ≤ 900) ∧ ((-2147483648) ≤ (u.2.1 1 0).toInt ∧ (u.2.1 1 0).toInt ≤ 2147483647) ∧ ((-2147483648) ≤ (u.2.1 2 0).toInt ∧ (u.2.1 2 0).toInt ≤ 2147483647) ∧ ((-2147483648) ≤ (u.2.1 3 0).toInt ∧ (u.2.1 3 0).toInt ≤ 2147483647) ∧ (0 ≤ (u.2.1 4 0).toInt ∧ (u.2.1 4 0).toInt ≤ 900) ∧ (0 ≤ ((u.2.1 0 0) : Int32).toInt ∧ ((u.2.1 0 0) : Int32).toInt < (p8 : Int32).toInt) ∧ (((u.2.1 2 0) : Int32).toInt ≠ 0 ∨ ((u.2.1 1 0) : Int32).toInt = 26 ∨ ((u.2.1 1 0) : Int32).toInt = 27 ∨ ((u.2.1 0 0) : Int32).toInt + 1 < (p8 : Int32).toInt) ∧ (((u.2.1 2 0) : Int32).toInt ≠ 0 ∨ ((u.2.1 4 0) : Int32).toInt + (p1 : Int32).toInt ≤ (p5 : Int32).toInt + ((u.2.1 0 0) : Int32).toInt) ∧ (((u.2.1 2 0) : Int32).toInt ≠ 0 ∨ (p3 : Int32).toInt = 0) ∧ (((u.2.1 2 0) : Int32).toInt = 0 ∨ ((u.2.1 1 0) : Int32).toInt = 27) ∧ ((p1 : Int32).toInt ≤ ((u.2.1 0 0) : Int32).toInt) ∧ (SIM f0 f1 f2 (p8 : Int32).toInt (bothS (naC p6) kk_) (p1 : Int32).toInt (p2 : Int32).toInt (p3 : Int32).toInt (p4 : Int32).toInt ((u.2.1 0 0) : Int32).toInt ((u.2.1 1 0) : Int32).toInt ((u.2.1 2 0) : Int32).toInt ((u.2.1 3 0) : Int32).toInt) ∧ True) (fun u => (wk_a727c0403 cy h0 h1 (u.2.1 0 0) (u.2.1 1 0) (u.2.1 2 0) (u.2.1 3 0) w0 h5 (u.2.1 4 0) p6 h1 w1 p7 p8 h2 h3 h4 h2 f0 h3 f1 h4 f2 h5 (u.2.1 5))) 0 0 := by
  refine q_ent (own := RX5) (by decide) rfl (Nat.le_of_ble_eq_true rfl) (fun p e s m below meth c ls X hr hlk hnm hK hT h hA hl => ?_)
  obtain ⟨hx, hb, hml, hown, ht⟩ := id X
  replace hl : lv_has ls 3 [(0, .ref h0), (1, .int p0)] := hl
  refine lv_aload_n hx hb dX5_readBoth_0 rfl (lv_at hl 0 rfl) ?_
  refine lv_iload_n hx hb dX5_readBoth_1 rfl (lv_at hl 1 rfl) ?_
  refine q_callVv (rest := []) (wr := []) X hK hT hA h (fun sz => gX5_readUnit_85b78ca l D cy h0 h1 h2 h3 h4 h5 p0 p1 p2 p3 p4 w0 p5 p6 w1 p7 p8 f0 f1 f2 f3 hp0 hp1 (i_rng _) (i_rng _) (i_rng _) hp5 (i_rng _) hp7 hp8 (hpre0) (hpre1) (hpre2) (hpre3) kk_ hkk ih sz) wm_3_129 wm_3_132 wm_1_2 hd_X5_readUnit wm_3_131 wp_2_7 (ci := 5) (q0 := 0) rfl rfl ⟨by dsimp only; omega, by dsimp only; omega⟩ hl.1 rfl (Nat.le_of_ble_eq_true rfl) dX5_readBoth_2 ⟨Nat.le_of_ble_eq_true rfl, Nat.le_of_ble_eq_true rfl⟩ [0, 1, 2, 3, 4, 5] [] rfl rfl (by decide) rfl rfl (fun u_1 H locs w_1 h_1 => ?_)
  clear h
  obtain ⟨w1_0, w1_1, w1_2, w1_3, w1_4, y1_0, y1_1, y1_2, y1_3, y1_4, y1_5, y1_6, _⟩ := w_1
  replace h_1 : qW D _ _ (wk_a727c0403 cy h0 h1 (u_1.2.1 1 0) (u_1.2.1 2 0) (u_1.2.1 3 0) (u_1.2.1 4 0) w0 h5 (u_1.2.1 5 0) p6 h1 w1 p7 p8 h2 h3 h4 h2 f0 h3 f1 h4 f2 h5 (u_1.2.1 0)) _ _ := h_1
  refine lv_iconst (v := 0) hx hb dX5_readBoth_5 (by decide) ?_
  refine lv_istore_n (lv' := [(2, .int 0), (0, .ref h0), (1, .int p0)]) hx hb dX5_readBoth_6 rfl hl (by decide) rfl (fun ls_2 hl_2 => ?_)
  clear hl
  refine q_wl (fun (q : Int32 × Int32 × Int32 × Int32 × Int32 × Int32) H locs ls => match q with | (v7_3_0, v7_3_1, v7_3_2, v7_3_3, v7_3_4, v7_3_5) => ∃ v7_3_6 : Nat → Int32, (0 ≤ (v7_3_0).toInt ∧ (v7_3_0).toInt ≤ 901) ∧ (0 ≤ (v7_3_1).toInt ∧ (v7_3_1).toInt ≤ 900) ∧ ((-2147483648) ≤ (v7_3_2).toInt ∧ (v7_3_2).toInt ≤ 2147483647) ∧ ((-2147483648) ≤ (v7_3_3).toInt ∧ (v7_3_3).toInt ≤ 2147483647) ∧ ((-2147483648) ≤ (v7_3_4).toInt ∧ (v7_3_4).toInt ≤ 2147483647) ∧ (0 ≤ (v7_3_5).toInt ∧ (v7_3_5).toInt ≤ 900) ∧ (0 ≤ (v7_3_1 : Int32).toInt ∧ (v7_3_1 : Int32).toInt < (p8 : Int32).toInt) ∧ ((v7_3_3 : Int32).toInt ≠ 0 ∨ (v7_3_2 : Int32).toInt = 26 ∨ (v7_3_2 : Int32).toInt = 27 ∨ (v7_3_1 : Int32).toInt + 1 < (p8 : Int32).toInt) ∧ ((v7_3_3 : Int32).toInt ≠ 0 ∨ (v7_3_5 : Int32).toInt + (p1 : Int32).toInt ≤ (p5 : Int32).toInt + (v7_3_1 : Int32).toInt) ∧ ((v7_3_3 : Int32).toInt ≠ 0 ∨ (p3 : Int32).toInt = 0) ∧ ((v7_3_3 : Int32).toInt = 0 ∨ (v7_3_2 : Int32).toInt = 27) ∧ ((p1 : Int32).toInt ≤ (v7_3_1 : Int32).toInt) ∧ (SIML f0 f1 f2 (p8 : Int32).toInt (bothS (naC p6) kk_) ccA (sq adv (unitS (naC p6) kk_)) (p1 : Int32).toInt (p2 : Int32).toInt (p3 : Int32).toInt (p4 : Int32).toInt (v7_3_1 : Int32).toInt (v7_3_2 : Int32).toInt (v7_3_3 : Int32).toInt (v7_3_4 : Int32).toInt) ∧ ((v7_3_3 : Int32).toInt ≠ 0 ∨ (v7_3_0 : Int32).toInt ≤ (v7_3_1 : Int32).toInt) ∧ qW D (va_A (wk_a727c0403 cy h0 h1 p1 p2 p3 p4 w0 h5 p5 p6 h1 w1 p7 p8 h2 h3 h4 h2 f0 h3 f1 h4 f2 h5 f3) sz) s.heap (wk_a727c0403 cy h0 h1 v7_3_1 v7_3_2 v7_3_3 v7_3_4 w0 h5 v7_3_5 p6 h1 w1 p7 p8 h2 h3 h4 h2 f0 h3 f1 h4 f2 h5 v7_3_6) H locs ∧ lv_has ls 3 [(0, .ref h0), (1, .int p0), (2, .int v7_3_0)]) (fun (q : Int32 × Int32 × Int32 × Int32 × Int32 × Int32) => match q with | (v7_3_0, v7_3_1, v7_3_2, v7_3_3, v7_3_4, v7_3_5) => (902 - (v7_3_0).toInt).toNat) (fun q_7 ih_7 H locs ls hP => ?_) (0, (u_1.2.1 1 0), (u_1.2.1 2 0), (u_1.2.1 3 0), (u_1.2.1 4 0), (u_1.2.1 5 0)) ⟨(u_1.2.1 0), ⟨by decide +kernel, by decide +kernel⟩, ⟨by omega, by omega⟩, w1_1, w1_2, w1_3, w1_4, (y1_0), (y1_1), (y1_2), (y1_3), (y1_4), (y1_5), (siml_0 y1_6), (by have q0 : (0 : Int32).toInt = 0 := (by decide); (first | (clear hpre2 hpre3 y1_1 y1_2 y1_3 y1_4; omega) | omega)), h_1, (lv_sub hl_2 [1, 2, 0] rfl)⟩
  obtain ⟨v7_3_0, v7_3_1, v7_3_2, v7_3_3, v7_3_4, v7_3_5⟩ := q_7
  obtain ⟨v7_3_6, hv7_3_0, hv7_3_1, hv7_3_2, hv7_3_3, hv7_3_4, hv7_3_5, x4_0, x5_1, x6_2, x7_3, x8_4, x9_5, x10_6, x11_7, h, hl⟩ := hP
  refine lv_iload_n hx hb dX5_readBoth_7 rfl (lv_at hl 2 rfl) ?_
  refine lv_aload_n hx hb dX5_readBoth_8 rfl (lv_at hl 0 rfl) ?_
  refine q_get X hK h 0 rfl rfl wf_5 0 (by decide) rfl wm_1_144 dX5_readBoth_9 ?_
  refine q_get X hK h 1 rfl rfl wf_8 2 (by decide) rfl wm_1_46 dX5_readBoth_12 ?_
  refine lv_icmp_ge (tgt := 49) hx hb dX5_readBoth_15 (by decide) (fun c_12 => ?_) (fun c_12 => ?_)
  · replace c_12 := i_le (x := p8) (y := v7_3_0) rfl rfl c_12
    exact q_vret X hr hlk hK h (fun _ => 0, (vcons (fun _ => v7_3_1) (vcons (fun _ => v7_3_2) (vcons (fun _ => v7_3_3) (vcons (fun _ => v7_3_4) (vcons (fun _ => v7_3_5) (vcons v7_3_6 (fun _ => (fun _ => 0)))))))), fun _ _ => 0) ⟨hv7_3_1, hv7_3_2, hv7_3_3, hv7_3_4, hv7_3_5, x4_0, x5_1, x6_2, x7_3, x8_4, x9_5, (show SIM f0 f1 f2 (p8 : Int32).toInt (bothS (naC p6) kk_) (p1 : Int32).toInt (p2 : Int32).toInt (p3 : Int32).toInt (p4 : Int32).toInt (v7_3_1 : Int32).toInt (v7_3_2 : Int32).toInt (v7_3_3 : Int32).toInt (v7_3_4 : Int32).toInt from siml_e x10_6 (by first | exact Or.inl (by (first | assumption | (clear hpre2 hpre3 y1_1 y1_2 y1_3 y1_4 x5_1 x6_2 x7_3 x8_4 x11_7; omega) | omega)) | exact Or.inr (cc_an (by (first | assumption | (clear hpre2 hpre3 y1_1 y1_2 y1_3 y1_4 x5_1 x6_2 x7_3 x8_4 x11_7; omega) | omega))))), trivial⟩ [0, 1, 2, 3, 4, 5] rfl rfl dX5_readBoth_49 (Nat.le_of_ble_eq_true rfl) (Nat.le_of_ble_eq_true rfl)
  · replace c_12 := i_nle (x := p8) (y := v7_3_0) rfl rfl c_12
    refine lv_aload_n hx hb dX5_readBoth_18 rfl (lv_at hl 0 rfl) ?_
    refine q_get X hK h 0 rfl rfl wf_5 2 (by decide) rfl wm_1_146 dX5_readBoth_19 ?_
    refine lv_bipush (v := 22) hx hb dX5_readBoth_22 (by decide) ?_
    refine lv_icmp_ne (tgt := 49) hx hb dX5_readBoth_24 (by decide) (fun c_13 => ?_) (fun c_13 => ?_)
    · replace c_13 := i_ne (x := v7_3_2) (y := 22) rfl (show (22 : Int32).toInt = 22 by decide) c_13
      exact q_vret X hr hlk hK h (fun _ => 0, (vcons (fun _ => v7_3_1) (vcons (fun _ => v7_3_2) (vcons (fun _ => v7_3_3) (vcons (fun _ => v7_3_4) (vcons (fun _ => v7_3_5) (vcons v7_3_6 (fun _ => (fun _ => 0)))))))), fun _ _ => 0) ⟨hv7_3_1, hv7_3_2, hv7_3_3, hv7_3_4, hv7_3_5, x4_0, x5_1, x6_2, x7_3, x8_4, x9_5, (show SIM f0 f1 f2 (p8 : Int32).toInt (bothS (naC p6) kk_) (p1 : Int32).toInt (p2 : Int32).toInt (p3 : Int32).toInt (p4 : Int32).toInt (v7_3_1 : Int32).toInt (v7_3_2 : Int32).toInt (v7_3_3 : Int32).toInt (v7_3_4 : Int32).toInt from siml_e x10_6 (by first | exact Or.inl (by (first | assumption | (clear hpre2 hpre3 y1_1 y1_2 y1_3 y1_4 x5_1 x6_2 x7_3 x8_4 x11_7; omega) | omega)) | exact Or.inr (cc_an (by (first | assumption | (clear hpre2 hpre3 y1_1 y1_2 y1_3 y1_4 x5_1 x6_2 x7_3 x8_4 x11_7; omega) | omega))))), trivial⟩ [0, 1, 2, 3, 4, 5] rfl rfl dX5_readBoth_49 (Nat.le_of_ble_eq_true rfl) (Nat.le_of_ble_eq_true rfl)
    · replace c_13 := i_eq (x := v7_3_2) (y := 22) rfl (show (22 : Int32).toInt = 22 by decide) c_13
      refine lv_aload_n hx hb dX5_readBoth_27 rfl (lv_at hl 0 rfl) ?_
      refine q_callVv (rest := []) (wr := (wk_97b0566c7 cy h4 f2 h5 v7_3_6)) X hK hT hA h (fun sz => gX5_advance_9820dfe l D cy h0 h1 h2 h3 v7_3_1 v7_3_2 v7_3_3 v7_3_4 w0 (.ref h5) v7_3_5 p6 w1 p7 p8 (.ref h4) f0 f1 (bw hv7_3_1 (by decide) (by decide)) (i_rng _) (i_rng _) (i_rng _) hv7_3_5 (i_rng _) hp7 hp8 (hpre0) (x8_4) (by (first | (clear hpre2 hpre3 y1_1 y1_2 y1_3 y1_4 x5_1 x6_2 x7_3 x8_4 x11_7; omega) | omega)) sz) wm_3_68 wm_3_71 wm_1_2 hd_X5_advance wm_3_70 wp_1_8 (ci := 5) (q0 := 0) rfl rfl ⟨by dsimp only; omega, by dsimp only; omega⟩ hl.1 rfl (Nat.le_of_ble_eq_true rfl) dX5_readBoth_28 ⟨Nat.le_of_ble_eq_true rfl, Nat.le_of_ble_eq_true rfl⟩ [0, 1, 2, 3] [4, 5] rfl rfl (by decide) rfl rfl (fun u_14 H locs w_14 h_14 => ?_)
      clear h
      obtain ⟨w14_0, w14_1, w14_2, w14_3, y14_0, y14_1, y14_2, y14_3, y14_4, y14_5, y14_6, _⟩ := w_14
      replace h_14 : qW D _ _ (wk_e6664c302 cy h4 f2 h5 v7_3_6 h0 h1 (u_14.2.1 0 0) (u_14.2.1 1 0) (u_14.2.1 2 0) (u_14.2.1 3 0) w0 h5 v7_3_5 p6 h1 w1 p7 p8 h2 h3 h4 h2 f0 h3 f1) _ _ := h_14
      refine lv_aload_n hx hb dX5_readBoth_31 rfl (lv_at hl 0 rfl) ?_
      refine lv_iload_n hx hb dX5_readBoth_32 rfl (lv_at hl 1 rfl) ?_
      refine q_callVv (rest := []) (wr := []) X hK hT hA h_14 (fun sz => gX5_readUnit_85b78ca l D cy h0 h1 h2 h3 h4 h5 p0 (u_14.2.1 0 0) (u_14.2.1 1 0) (u_14.2.1 2 0) (u_14.2.1 3 0) w0 v7_3_5 p6 w1 p7 p8 f0 f1 f2 v7_3_6 hp0 w14_0 (i_rng _) (i_rng _) (i_rng _) hv7_3_5 (i_rng _) hp7 hp8 (hpre0) (y14_0) (by (first | (clear hpre2 hpre3 y1_1 y1_2 y1_3 y1_4 x5_1 x6_2 x7_3 x8_4 x11_7 y14_1 y14_2 y14_4 y14_5; omega) | omega)) (y14_5) kk_ hkk ih sz) wm_3_129 wm_3_132 wm_1_2 hd_X5_readUnit wm_3_131 wp_2_7 (ci := 5) (q0 := 0) rfl rfl ⟨by dsimp only; omega, by dsimp only; omega⟩ hl.1 rfl (Nat.le_of_ble_eq_true rfl) dX5_readBoth_33 ⟨Nat.le_of_ble_eq_true rfl, Nat.le_of_ble_eq_true rfl⟩ [2, 3, 4, 5, 0, 1] [] rfl rfl (by decide) rfl rfl (fun u_15 H locs w_15 h_15 => ?_)
      clear h_14
      obtain ⟨w15_0, w15_1, w15_2, w15_3, w15_4, y15_0, y15_1, y15_2, y15_3, y15_4, y15_5, y15_6, _⟩ := w_15
      replace h_15 : qW D _ _ (wk_a727c0403 cy h0 h1 (u_15.2.1 1 0) (u_15.2.1 2 0) (u_15.2.1 3 0) (u_15.2.1 4 0) w0 h5 (u_15.2.1 5 0) p6 h1 w1 p7 p8 h2 h3 h4 h2 f0 h3 f1 h4 f2 h5 (u_15.2.1 0)) _ _ := h_15
      refine lv_aload_n hx hb dX5_readBoth_36 rfl (lv_at hl 0 rfl) ?_
      refine lv_sipush (v := 2022) hx hb dX5_readBoth_37 (by decide) ?_
      refine q_callVv (rest := []) (wr := (wk_9325d072e cy h1 w1 p7 p8 h2 h3 h4 h2 f0 h3 f1 h4 f2)) X hK hT hA h_15 (fun sz => gX5_add_055b9a0 l D cy h0 h5 (2022 : Int32) (.ref h1) (u_15.2.1 1 0) (u_15.2.1 2 0) (u_15.2.1 3 0) (u_15.2.1 4 0) w0 (u_15.2.1 5 0) p6 (u_15.2.1 0) (i_rng _) w15_0 (i_rng _) (i_rng _) (i_rng _) w15_4 (i_rng _) sz) wm_3_113 wm_3_116 wm_1_2 hd_X5_add wm_3_115 wp_2_3 (ci := 5) (q0 := 0) rfl rfl ⟨by dsimp only; omega, by dsimp only; omega⟩ hl.1 rfl (Nat.le_of_ble_eq_true rfl) dX5_readBoth_40 ⟨Nat.le_of_ble_eq_true rfl, Nat.le_of_ble_eq_true rfl⟩ [0, 5] [1, 2, 3, 4] rfl rfl (by decide) rfl rfl (fun u_16 H locs w_16 h_16 => ?_)
      clear h_15
      obtain ⟨w16_0, y16_0, _⟩ := w_16
      replace h_16 : qW D _ _ (wk_cc81809fb cy h1 w1 p7 p8 h2 h3 h4 h2 f0 h3 f1 h4 f2 h0 h1 (u_15.2.1 1 0) (u_15.2.1 2 0) (u_15.2.1 3 0) (u_15.2.1 4 0) w0 h5 (u_16.2.1 0 0) p6 h5 (u_16.2.1 1)) _ _ := h_16
      obtain ⟨z_17, ez_17, hz_17⟩ := e_add (x := v7_3_0) (y := Int32.ofInt 1) rfl (b := 1) (by decide) (by omega) (by omega)
      refine lv_iinc (v := z_17) (lv' := [(2, .int z_17), (0, .ref h0), (1, .int p0)]) hx hb dX5_readBoth_43 hl (k := 2) rfl ez_17 (by decide) rfl (fun ls_17 hl_17 => ?_)
      clear hl
      refine lv_goto (tgt := 7) hx hb dX5_readBoth_46 (by decide) ?_
      exact ih_7 (z_17, (u_15.2.1 1 0), (u_15.2.1 2 0), (u_15.2.1 3 0), (u_15.2.1 4 0), (u_16.2.1 0 0)) (by show (902 - (z_17).toInt).toNat < (902 - (v7_3_0).toInt).toNat; omega) _ _ _ ⟨(u_16.2.1 1), ⟨by omega, by omega⟩, ⟨by omega, by omega⟩, w15_1, w15_2, w15_3, (bw w16_0 (by decide) (by decide)), (y15_0), (y15_1), (by (first | (clear hpre2 hpre3 y1_1 y1_2 y1_3 y1_4 x5_1 x6_2 x7_3 x8_4 x11_7 y14_1 y14_2 y14_4 y14_5 y15_1 y15_2 y15_3 y15_4; omega) | omega)), ((fl_tr y15_3 (fl_tr y14_2 x7_3))), (y15_4), ((Int.le_trans (Int.le_trans x9_5 y14_3) y15_5)), (siml_s x10_6 (cc_a (by (first | assumption | (clear hpre2 hpre3 y1_1 y1_2 y1_3 y1_4 x5_1 x6_2 x7_3 x8_4 x11_7 y14_1 y14_2 y14_4 y14_5 y15_1 y15_2 y15_3 y15_4; omega) | omega))) (sim_sq (sim_adv y14_6 (by (first | assumption | (clear hpre2 hpre3 y1_1 y1_2 y1_3 y1_4 x5_1 x6_2 x7_3 x8_4 x11_7 y14_1 y14_2 y14_4 y14_5 y15_1 y15_2 y15_3 y15_4; omega) | omega)) (by (first | assumption | (clear hpre2 hpre3 y1_1 y1_2 y1_3 y1_4 x5_1 x6_2 x7_3 x8_4 x11_7 y14_1 y14_2 y14_4 y14_5 y15_1 y15_2 y15_3 y15_4; omega) | omega))) y15_6) (by (first | assumption | (clear hpre2 hpre3 y1_1 y1_2 y1_3 y1_4 x5_1 x6_2 x7_3 x8_4 x11_7 y14_1 y14_2 y14_4 y14_5 y15_1 y15_2 y15_3 y15_4; omega) | omega)) (by (first | assumption | (clear hpre2 hpre3 y1_1 y1_2 y1_3 y1_4 x5_1 x6_2 x7_3 x8_4 x11_7 y14_1 y14_2 y14_4 y14_5 y15_1 y15_2 y15_3 y15_4; omega) | omega)) (by (first | assumption | (clear hpre2 hpre3 y1_1 y1_2 y1_3 y1_4 x5_1 x6_2 x7_3 x8_4 x11_7 y14_1 y14_2 y14_4 y14_5 y15_1 y15_2 y15_3 y15_4; omega) | omega)) (by (first | assumption | (clear hpre2 hpre3 y1_1 y1_2 y1_3 y1_4 x5_1 x6_2 x7_3 x8_4 x11_7 y14_1 y14_2 y14_4 y14_5 y15_1 y15_2 y15_3 y15_4; omega) | omega))), (by (first | (clear hpre2 hpre3 y1_1 y1_2 y1_3 y1_4 x5_1 x6_2 x7_3 x8_4 x11_7 y14_1 y14_2 y14_4 y14_5 y15_1 y15_2 y15_3 y15_4; omega) | omega)), (q_re h_16 [4, 0, 1, 2, 3, 5] rfl rfl), (lv_sub hl_17 [1, 2, 0] rfl)⟩
set_option maxHeartbeats 4000000 in
set_option maxRecDepth 100000 in
theorem gX5_readTruth_1179368 (l : Launch) (D : va_G) (cy : Nat → ClassId) (h0 : Nat) (h1 : Nat) (h2 : Nat) (h3 : Nat) (h4 : Nat) (h5 : Nat) (p0 : Int32) (p1 : Int32) (p2 : Int32) (p3 : Int32) (p4 : Int32) (w0 : Value) (p5 : Int32) (p6 : Int32) (w1 : Value) (p7 : Int32) (p8 : Int32) (f0 : Nat → Int32) (f1 : Nat → Int32) (f2 : Nat → Int32) (f3 : Nat → Int32) (hp0 : 0 ≤ (p0).toInt ∧ (p0).toInt ≤ 6) (hp1 : (-1) ≤ (p1).toInt ∧ (p1).toInt ≤ 900) (hp2 : (-2147483648) ≤ (p2).toInt ∧ (p2).toInt ≤ 2147483647) (hp3 : (-2147483648) ≤ (p3).toInt ∧ (p3).toInt ≤ 2147483647) (hp4 : (-2147483648) ≤ (p4).toInt ∧ (p4).toInt ≤ 2147483647) (hp5 : 0 ≤ (p5).toInt ∧ (p5).toInt ≤ 900) (hp6 : (-2147483648) ≤ (p6).toInt ∧ (p6).toInt ≤ 2147483647) (hp7 : 0 ≤ (p7).toInt ∧ (p7).toInt ≤ 900) (hp8 : 0 ≤ (p8).toInt ∧ (p8).toInt ≤ 901) (hpre0 : KZ f0 (p8 : Int32).toInt) (hpre1 : 0 ≤ (p1 : Int32).toInt ∧ (p1 : Int32).toInt < (p8 : Int32).toInt) (hpre2 : (p3 : Int32).toInt ≠ 0 ∨ (p2 : Int32).toInt = 26 ∨ (p2 : Int32).toInt = 27 ∨ (p1 : Int32).toInt + 1 < (p8 : Int32).toInt) (hpre3 : (p3 : Int32).toInt = 0 ∨ (p2 : Int32).toInt = 27) (kk_ : Nat) (hkk : (p0).toInt + kk_ = 6) (ih : ∀ j : Nat, kk_ = j + 1 → gX5_IHT_0feb8f5 l D cy j) (sz : Nat) : MV l yX5_readTruth cX5_readTruth 3 { frames := 7 + 3 * kk_, cells := 0, slots := 0, locals := 152 + 80 * kk_ } [.ref h0, .int p0] D cy (wk_a727c0403 cy h0 h1 p1 p2 p3 p4 w0 h5 p5 p6 h1 w1 p7 p8 h2 h3 h4 h2 f0 h3 f1 h4 f2 h5 f3) sz (fun u => (0 ≤ (u.2.1 0 0).toInt ∧ (u.2.1 0 0).toInt ≤ 900) ∧ ((-2147483648) ≤ (u.2.1 1 0).toInt ∧ (u.2.1 1 0).toInt ≤ 2147483647) ∧ ((-2147483648) ≤ (u.2.1 2 0).toInt ∧ (u.2.1 2 0).toInt ≤ 2147483647) ∧ ((-2147483648) ≤ (u.2.1 3 0).toInt ∧ (u.2.1 3 0).toInt ≤ 2147483647) ∧ (0 ≤ (u.2.1 4 0).toInt ∧ (u.2.1 4 0).toInt ≤ 900) ∧ (0 ≤ ((u.2.1 0 0) : Int32).toInt ∧ ((u.2.1 0 0) : Int32).toInt < (p8 : Int32).toInt) ∧ (((u.2.1 2 0) : Int32).toInt ≠ 0 ∨ ((u.2.1 1 0) : Int32).toInt = 26 ∨ ((u.2.1 1 0) : Int32).toInt = 27 ∨ ((u.2.1 0 0) : Int32).toInt + 1 < (p8 : Int32).toInt) ∧ (((u.2.1 2 0) : Int32).toInt ≠ 0 ∨ ((u.2.1 4 0) : Int32).toInt + (p1 : Int32).toInt ≤ (p5 : Int32).toInt + ((u.2.1 0 0) : Int32).toInt) ∧ (((u.2.1 2 0) : Int32).toInt ≠ 0 ∨ (p3 : Int32).toInt = 0) ∧ (((u.2.1 2 0) : Int32).toInt = 0 ∨ ((u.2.1 1 0) : Int32).toInt = 27) ∧ ((p1 : Int32).toInt ≤ ((u.2.1 0 0) : Int32).toInt) ∧ (SIM f0 f1 f2 (p8 : Int32).toInt (truthS (naC p6) kk_) (p1 : Int32).toInt (p2 : Int32).toInt (p3 : Int32).toInt (p4 : Int32).toInt ((u.2.1 0 0) : Int32).toInt ((u.2.1 1 0) : Int32).toInt ((u.2.1 2 0) : Int32).toInt ((u.2.1 3 0) : Int32).toInt) ∧ True) (fun u => (wk_a727c0403 cy h0 h1 (u.2.1 0 0) (u.2.1 1 0) (u.2.1 2 0) (u.2.1 3 0) w0 h5 (u.2.1 4 0) p6 h1 w1 p7 p8 h2 h3 h4 h2 f0 h3 f1 h4 f2 h5 (u.2.1 5))) 0 0 := by
  refine q_ent (own := RX5) (by decide) rfl (Nat.le_of_ble_eq_true rfl) (fun p e s m below meth c ls X hr hlk hnm hK hT h hA hl => ?_)
  obtain ⟨hx, hb, hml, hown, ht⟩ := id X
  replace hl : lv_has ls 3 [(0, .ref h0), (1, .int p0)] := hl
  refine lv_aload_n hx hb dX5_readTruth_0 rfl (lv_at hl 0 rfl) ?_
  refine lv_iload_n hx hb dX5_readTruth_1 rfl (lv_at hl 1 rfl) ?_
  refine q_callVv (rest := []) (wr := []) X hK hT hA h (fun sz => gX5_readBoth_58da8ea l D cy h0 h1 h2 h3 h4 h5 p0 p1 p2 p3 p4 w0 p5 p6 w1 p7 p8 f0 f1 f2 f3 hp0 hp1 (i_rng _) (i_rng _) (i_rng _) hp5 (i_rng _) hp7 hp8 (hpre0) (hpre1) (hpre2) (hpre3) kk_ hkk ih sz) wm_3_125 wm_3_128 wm_1_2 hd_X5_readBoth wm_3_127 wp_2_6 (ci := 5) (q0 := 0) rfl rfl ⟨by dsimp only; omega, by dsimp only; omega⟩ hl.1 rfl (Nat.le_of_ble_eq_true rfl) dX5_readTruth_2 ⟨Nat.le_of_ble_eq_true rfl, Nat.le_of_ble_eq_true rfl⟩ [0, 1, 2, 3, 4, 5] [] rfl rfl (by decide) rfl rfl (fun u_1 H locs w_1 h_1 => ?_)
  clear h
  obtain ⟨w1_0, w1_1, w1_2, w1_3, w1_4, y1_0, y1_1, y1_2, y1_3, y1_4, y1_5, y1_6, _⟩ := w_1
  replace h_1 : qW D _ _ (wk_a727c0403 cy h0 h1 (u_1.2.1 0 0) (u_1.2.1 1 0) (u_1.2.1 2 0) (u_1.2.1 3 0) w0 h5 (u_1.2.1 4 0) p6 h1 w1 p7 p8 h2 h3 h4 h2 f0 h3 f1 h4 f2 h5 (u_1.2.1 5)) _ _ := h_1
  refine lv_iconst (v := 0) hx hb dX5_readTruth_5 (by decide) ?_
  refine lv_istore_n (lv' := [(2, .int 0), (0, .ref h0), (1, .int p0)]) hx hb dX5_readTruth_6 rfl hl (by decide) rfl (fun ls_2 hl_2 => ?_)
  clear hl
  refine q_wl (fun (q : Int32 × Int32 × Int32 × Int32 × Int32 × Int32) H locs ls => match q with | (v7_3_0, v7_3_1, v7_3_2, v7_3_3, v7_3_4, v7_3_5) => ∃ v7_3_6 : Nat → Int32, (0 ≤ (v7_3_0).toInt ∧ (v7_3_0).toInt ≤ 901) ∧ (0 ≤ (v7_3_1).toInt ∧ (v7_3_1).toInt ≤ 900) ∧ ((-2147483648) ≤ (v7_3_2).toInt ∧ (v7_3_2).toInt ≤ 2147483647) ∧ ((-2147483648) ≤ (v7_3_3).toInt ∧ (v7_3_3).toInt ≤ 2147483647) ∧ ((-2147483648) ≤ (v7_3_4).toInt ∧ (v7_3_4).toInt ≤ 2147483647) ∧ (0 ≤ (v7_3_5).toInt ∧ (v7_3_5).toInt ≤ 900) ∧ (0 ≤ (v7_3_1 : Int32).toInt ∧ (v7_3_1 : Int32).toInt < (p8 : Int32).toInt) ∧ ((v7_3_3 : Int32).toInt ≠ 0 ∨ (v7_3_2 : Int32).toInt = 26 ∨ (v7_3_2 : Int32).toInt = 27 ∨ (v7_3_1 : Int32).toInt + 1 < (p8 : Int32).toInt) ∧ ((v7_3_3 : Int32).toInt ≠ 0 ∨ (v7_3_5 : Int32).toInt + (p1 : Int32).toInt ≤ (p5 : Int32).toInt + (v7_3_1 : Int32).toInt) ∧ ((v7_3_3 : Int32).toInt ≠ 0 ∨ (p3 : Int32).toInt = 0) ∧ ((v7_3_3 : Int32).toInt = 0 ∨ (v7_3_2 : Int32).toInt = 27) ∧ ((p1 : Int32).toInt ≤ (v7_3_1 : Int32).toInt) ∧ (SIML f0 f1 f2 (p8 : Int32).toInt (truthS (naC p6) kk_) ccO (sq adv (bothS (naC p6) kk_)) (p1 : Int32).toInt (p2 : Int32).toInt (p3 : Int32).toInt (p4 : Int32).toInt (v7_3_1 : Int32).toInt (v7_3_2 : Int32).toInt (v7_3_3 : Int32).toInt (v7_3_4 : Int32).toInt) ∧ ((v7_3_3 : Int32).toInt ≠ 0 ∨ (v7_3_0 : Int32).toInt ≤ (v7_3_1 : Int32).toInt) ∧ qW D (va_A (wk_a727c0403 cy h0 h1 p1 p2 p3 p4 w0 h5 p5 p6 h1 w1 p7 p8 h2 h3 h4 h2 f0 h3 f1 h4 f2 h5 f3) sz) s.heap (wk_a727c0403 cy h0 h1 v7_3_1 v7_3_2 v7_3_3 v7_3_4 w0 h5 v7_3_5 p6 h1 w1 p7 p8 h2 h3 h4 h2 f0 h3 f1 h4 f2 h5 v7_3_6) H locs ∧ lv_has ls 3 [(0, .ref h0), (1, .int p0), (2, .int v7_3_0)]) (fun (q : Int32 × Int32 × Int32 × Int32 × Int32 × Int32) => match q with | (v7_3_0, v7_3_1, v7_3_2, v7_3_3, v7_3_4, v7_3_5) => (902 - (v7_3_0).toInt).toNat) (fun q_7 ih_7 H locs ls hP => ?_) (0, (u_1.2.1 0 0), (u_1.2.1 1 0), (u_1.2.1 2 0), (u_1.2.1 3 0), (u_1.2.1 4 0)) ⟨(u_1.2.1 5), ⟨by decide +kernel, by decide +kernel⟩, w1_0, w1_1, w1_2, w1_3, w1_4, (y1_0), (y1_1), (y1_2), (y1_3), (y1_4), (y1_5), (siml_0 y1_6), (by have q0 : (0 : Int32).toInt = 0 := (by decide); (first | (clear hpre2 hpre3 y1_1 y1_2 y1_3 y1_4; omega) | omega)), h_1, (lv_sub hl_2 [1, 2, 0] rfl)⟩
  obtain ⟨v7_3_0, v7_3_1, v7_3_2, v7_3_3, v7_3_4, v7_3_5⟩ := q_7
  obtain ⟨v7_3_6, hv7_3_0, hv7_3_1, hv7_3_2, hv7_3_3, hv7_3_4, hv7_3_5, x4_0, x5_1, x6_2, x7_3, x8_4, x9_5, x10_6, x11_7, h, hl⟩ := hP
  refine lv_iload_n hx hb dX5_readTruth_7 rfl (lv_at hl 2 rfl) ?_
  refine lv_aload_n hx hb dX5_readTruth_8 rfl (lv_at hl 0 rfl) ?_
  refine q_get X hK h 0 rfl rfl wf_5 0 (by decide) rfl wm_1_144 dX5_readTruth_9 ?_
  refine q_get X hK h 1 rfl rfl wf_8 2 (by decide) rfl wm_1_46 dX5_readTruth_12 ?_
  refine lv_icmp_ge (tgt := 49) hx hb dX5_readTruth_15 (by decide) (fun c_12 => ?_) (fun c_12 => ?_)
  · replace c_12 := i_le (x := p8) (y := v7_3_0) rfl rfl c_12
    exact q_vret X hr hlk hK h (fun _ => 0, (vcons (fun _ => v7_3_1) (vcons (fun _ => v7_3_2) (vcons (fun _ => v7_3_3) (vcons (fun _ => v7_3_4) (vcons (fun _ => v7_3_5) (vcons v7_3_6 (fun _ => (fun _ => 0)))))))), fun _ _ => 0) ⟨hv7_3_1, hv7_3_2, hv7_3_3, hv7_3_4, hv7_3_5, x4_0, x5_1, x6_2, x7_3, x8_4, x9_5, (show SIM f0 f1 f2 (p8 : Int32).toInt (truthS (naC p6) kk_) (p1 : Int32).toInt (p2 : Int32).toInt (p3 : Int32).toInt (p4 : Int32).toInt (v7_3_1 : Int32).toInt (v7_3_2 : Int32).toInt (v7_3_3 : Int32).toInt (v7_3_4 : Int32).toInt from siml_e x10_6 (by first | exact Or.inl (by (first | assumption | (clear hpre2 hpre3 y1_1 y1_2 y1_3 y1_4 x5_1 x6_2 x7_3 x8_4 x11_7; omega) | omega)) | exact Or.inr (cc_on (by (first | assumption | (clear hpre2 hpre3 y1_1 y1_2 y1_3 y1_4 x5_1 x6_2 x7_3 x8_4 x11_7; omega) | omega))))), trivial⟩ [0, 1, 2, 3, 4, 5] rfl rfl dX5_readTruth_49 (Nat.le_of_ble_eq_true rfl) (Nat.le_of_ble_eq_true rfl)
  · replace c_12 := i_nle (x := p8) (y := v7_3_0) rfl rfl c_12
    refine lv_aload_n hx hb dX5_readTruth_18 rfl (lv_at hl 0 rfl) ?_
    refine q_get X hK h 0 rfl rfl wf_5 2 (by decide) rfl wm_1_146 dX5_readTruth_19 ?_
    refine lv_bipush (v := 21) hx hb dX5_readTruth_22 (by decide) ?_
    refine lv_icmp_ne (tgt := 49) hx hb dX5_readTruth_24 (by decide) (fun c_13 => ?_) (fun c_13 => ?_)
    · replace c_13 := i_ne (x := v7_3_2) (y := 21) rfl (show (21 : Int32).toInt = 21 by decide) c_13
      exact q_vret X hr hlk hK h (fun _ => 0, (vcons (fun _ => v7_3_1) (vcons (fun _ => v7_3_2) (vcons (fun _ => v7_3_3) (vcons (fun _ => v7_3_4) (vcons (fun _ => v7_3_5) (vcons v7_3_6 (fun _ => (fun _ => 0)))))))), fun _ _ => 0) ⟨hv7_3_1, hv7_3_2, hv7_3_3, hv7_3_4, hv7_3_5, x4_0, x5_1, x6_2, x7_3, x8_4, x9_5, (show SIM f0 f1 f2 (p8 : Int32).toInt (truthS (naC p6) kk_) (p1 : Int32).toInt (p2 : Int32).toInt (p3 : Int32).toInt (p4 : Int32).toInt (v7_3_1 : Int32).toInt (v7_3_2 : Int32).toInt (v7_3_3 : Int32).toInt (v7_3_4 : Int32).toInt from siml_e x10_6 (by first | exact Or.inl (by (first | assumption | (clear hpre2 hpre3 y1_1 y1_2 y1_3 y1_4 x5_1 x6_2 x7_3 x8_4 x11_7; omega) | omega)) | exact Or.inr (cc_on (by (first | assumption | (clear hpre2 hpre3 y1_1 y1_2 y1_3 y1_4 x5_1 x6_2 x7_3 x8_4 x11_7; omega) | omega))))), trivial⟩ [0, 1, 2, 3, 4, 5] rfl rfl dX5_readTruth_49 (Nat.le_of_ble_eq_true rfl) (Nat.le_of_ble_eq_true rfl)
    · replace c_13 := i_eq (x := v7_3_2) (y := 21) rfl (show (21 : Int32).toInt = 21 by decide) c_13
      refine lv_aload_n hx hb dX5_readTruth_27 rfl (lv_at hl 0 rfl) ?_
      refine q_callVv (rest := []) (wr := (wk_97b0566c7 cy h4 f2 h5 v7_3_6)) X hK hT hA h (fun sz => gX5_advance_9820dfe l D cy h0 h1 h2 h3 v7_3_1 v7_3_2 v7_3_3 v7_3_4 w0 (.ref h5) v7_3_5 p6 w1 p7 p8 (.ref h4) f0 f1 (bw hv7_3_1 (by decide) (by decide)) (i_rng _) (i_rng _) (i_rng _) hv7_3_5 (i_rng _) hp7 hp8 (hpre0) (x8_4) (by (first | (clear hpre2 hpre3 y1_1 y1_2 y1_3 y1_4 x5_1 x6_2 x7_3 x8_4 x11_7; omega) | omega)) sz) wm_3_68 wm_3_71 wm_1_2 hd_X5_advance wm_3_70 wp_1_8 (ci := 5) (q0 := 0) rfl rfl ⟨by dsimp only; omega, by dsimp only; omega⟩ hl.1 rfl (Nat.le_of_ble_eq_true rfl) dX5_readTruth_28 ⟨Nat.le_of_ble_eq_true rfl, Nat.le_of_ble_eq_true rfl⟩ [0, 1, 2, 3] [4, 5] rfl rfl (by decide) rfl rfl (fun u_14 H locs w_14 h_14 => ?_)
      clear h
      obtain ⟨w14_0, w14_1, w14_2, w14_3, y14_0, y14_1, y14_2, y14_3, y14_4, y14_5, y14_6, _⟩ := w_14
      replace h_14 : qW D _ _ (wk_e6664c302 cy h4 f2 h5 v7_3_6 h0 h1 (u_14.2.1 0 0) (u_14.2.1 1 0) (u_14.2.1 2 0) (u_14.2.1 3 0) w0 h5 v7_3_5 p6 h1 w1 p7 p8 h2 h3 h4 h2 f0 h3 f1) _ _ := h_14
      refine lv_aload_n hx hb dX5_readTruth_31 rfl (lv_at hl 0 rfl) ?_
      refine lv_iload_n hx hb dX5_readTruth_32 rfl (lv_at hl 1 rfl) ?_
      refine q_callVv (rest := []) (wr := []) X hK hT hA h_14 (fun sz => gX5_readBoth_58da8ea l D cy h0 h1 h2 h3 h4 h5 p0 (u_14.2.1 0 0) (u_14.2.1 1 0) (u_14.2.1 2 0) (u_14.2.1 3 0) w0 v7_3_5 p6 w1 p7 p8 f0 f1 f2 v7_3_6 hp0 w14_0 (i_rng _) (i_rng _) (i_rng _) hv7_3_5 (i_rng _) hp7 hp8 (hpre0) (y14_0) (by (first | (clear hpre2 hpre3 y1_1 y1_2 y1_3 y1_4 x5_1 x6_2 x7_3 x8_4 x11_7 y14_1 y14_2 y14_4 y14_5; omega) | omega)) (y14_5) kk_ hkk ih sz) wm_3_125 wm_3_128 wm_1_2 hd_X5_readBoth wm_3_127 wp_2_6 (ci := 5) (q0 := 0) rfl rfl ⟨by dsimp only; omega, by dsimp only; omega⟩ hl.1 rfl (Nat.le_of_ble_eq_true rfl) dX5_readTruth_33 ⟨Nat.le_of_ble_eq_true rfl, Nat.le_of_ble_eq_true rfl⟩ [2, 3, 4, 5, 0, 1] [] rfl rfl (by decide) rfl rfl (fun u_15 H locs w_15 h_15 => ?_)
      clear h_14
      obtain ⟨w15_0, w15_1, w15_2, w15_3, w15_4, y15_0, y15_1, y15_2, y15_3, y15_4, y15_5, y15_6, _⟩ := w_15
      replace h_15 : qW D _ _ (wk_a727c0403 cy h0 h1 (u_15.2.1 0 0) (u_15.2.1 1 0) (u_15.2.1 2 0) (u_15.2.1 3 0) w0 h5 (u_15.2.1 4 0) p6 h1 w1 p7 p8 h2 h3 h4 h2 f0 h3 f1 h4 f2 h5 (u_15.2.1 5)) _ _ := h_15
      refine lv_aload_n hx hb dX5_readTruth_36 rfl (lv_at hl 0 rfl) ?_
      refine lv_sipush (v := 2021) hx hb dX5_readTruth_37 (by decide) ?_
      refine q_callVv (rest := []) (wr := (wk_9325d072e cy h1 w1 p7 p8 h2 h3 h4 h2 f0 h3 f1 h4 f2)) X hK hT hA h_15 (fun sz => gX5_add_055b9a0 l D cy h0 h5 (2021 : Int32) (.ref h1) (u_15.2.1 0 0) (u_15.2.1 1 0) (u_15.2.1 2 0) (u_15.2.1 3 0) w0 (u_15.2.1 4 0) p6 (u_15.2.1 5) (i_rng _) (bw w15_0 (by decide) (by decide)) (i_rng _) (i_rng _) (i_rng _) w15_4 (i_rng _) sz) wm_3_113 wm_3_116 wm_1_2 hd_X5_add wm_3_115 wp_2_3 (ci := 5) (q0 := 0) rfl rfl ⟨by dsimp only; omega, by dsimp only; omega⟩ hl.1 rfl (Nat.le_of_ble_eq_true rfl) dX5_readTruth_40 ⟨Nat.le_of_ble_eq_true rfl, Nat.le_of_ble_eq_true rfl⟩ [0, 5] [1, 2, 3, 4] rfl rfl (by decide) rfl rfl (fun u_16 H locs w_16 h_16 => ?_)
      clear h_15
      obtain ⟨w16_0, y16_0, _⟩ := w_16
      replace h_16 : qW D _ _ (wk_cc81809fb cy h1 w1 p7 p8 h2 h3 h4 h2 f0 h3 f1 h4 f2 h0 h1 (u_15.2.1 0 0) (u_15.2.1 1 0) (u_15.2.1 2 0) (u_15.2.1 3 0) w0 h5 (u_16.2.1 0 0) p6 h5 (u_16.2.1 1)) _ _ := h_16
      obtain ⟨z_17, ez_17, hz_17⟩ := e_add (x := v7_3_0) (y := Int32.ofInt 1) rfl (b := 1) (by decide) (by omega) (by omega)
      refine lv_iinc (v := z_17) (lv' := [(2, .int z_17), (0, .ref h0), (1, .int p0)]) hx hb dX5_readTruth_43 hl (k := 2) rfl ez_17 (by decide) rfl (fun ls_17 hl_17 => ?_)
      clear hl
      refine lv_goto (tgt := 7) hx hb dX5_readTruth_46 (by decide) ?_
      exact ih_7 (z_17, (u_15.2.1 0 0), (u_15.2.1 1 0), (u_15.2.1 2 0), (u_15.2.1 3 0), (u_16.2.1 0 0)) (by show (902 - (z_17).toInt).toNat < (902 - (v7_3_0).toInt).toNat; omega) _ _ _ ⟨(u_16.2.1 1), ⟨by omega, by omega⟩, w15_0, w15_1, w15_2, w15_3, (bw w16_0 (by decide) (by decide)), (y15_0), (y15_1), (by (first | (clear hpre2 hpre3 y1_1 y1_2 y1_3 y1_4 x5_1 x6_2 x7_3 x8_4 x11_7 y14_1 y14_2 y14_4 y14_5 y15_1 y15_2 y15_3 y15_4; omega) | omega)), ((fl_tr y15_3 (fl_tr y14_2 x7_3))), (y15_4), ((Int.le_trans (Int.le_trans x9_5 y14_3) y15_5)), (siml_s x10_6 (cc_o (by (first | assumption | (clear hpre2 hpre3 y1_1 y1_2 y1_3 y1_4 x5_1 x6_2 x7_3 x8_4 x11_7 y14_1 y14_2 y14_4 y14_5 y15_1 y15_2 y15_3 y15_4; omega) | omega))) (sim_sq (sim_adv y14_6 (by (first | assumption | (clear hpre2 hpre3 y1_1 y1_2 y1_3 y1_4 x5_1 x6_2 x7_3 x8_4 x11_7 y14_1 y14_2 y14_4 y14_5 y15_1 y15_2 y15_3 y15_4; omega) | omega)) (by (first | assumption | (clear hpre2 hpre3 y1_1 y1_2 y1_3 y1_4 x5_1 x6_2 x7_3 x8_4 x11_7 y14_1 y14_2 y14_4 y14_5 y15_1 y15_2 y15_3 y15_4; omega) | omega))) y15_6) (by (first | assumption | (clear hpre2 hpre3 y1_1 y1_2 y1_3 y1_4 x5_1 x6_2 x7_3 x8_4 x11_7 y14_1 y14_2 y14_4 y14_5 y15_1 y15_2 y15_3 y15_4; omega) | omega)) (by (first | assumption | (clear hpre2 hpre3 y1_1 y1_2 y1_3 y1_4 x5_1 x6_2 x7_3 x8_4 x11_7 y14_1 y14_2 y14_4 y14_5 y15_1 y15_2 y15_3 y15_4; omega) | omega)) (by (first | assumption | (clear hpre2 hpre3 y1_1 y1_2 y1_3 y1_4 x5_1 x6_2 x7_3 x8_4 x11_7 y14_1 y14_2 y14_4 y14_5 y15_1 y15_2 y15_3 y15_4; omega) | omega)) (by (first | assumption | (clear hpre2 hpre3 y1_1 y1_2 y1_3 y1_4 x5_1 x6_2 x7_3 x8_4 x11_7 y14_1 y14_2 y14_4 y14_5 y15_1 y15_2 y15_3 y15_4; omega) | omega))), (by (first | (clear hpre2 hpre3 y1_1 y1_2 y1_3 y1_4 x5_1 x6_2 x7_3 x8_4 x11_7 y14_1 y14_2 y14_4 y14_5 y15_1 y15_2 y15_3 y15_4; omega) | omega)), (q_re h_16 [4, 0, 1, 2, 3, 5] rfl rfl), (lv_sub hl_17 [1, 2, 0] rfl)⟩
set_option maxRecDepth 100000 in
theorem gX5_ALLT_0feb8f5 (l : Launch) (D : va_G) (cy : Nat → ClassId) : ∀ kk_ : Nat, gX5_IHT_0feb8f5 l D cy kk_ := by
  intro kk_
  induction kk_ with
  | zero => exact ⟨fun h0 h1 h2 h3 h4 h5 p0 p1 p2 p3 p4 w0 p5 p6 w1 p7 p8 f0 f1 f2 f3 hp0 hp1 hp2 hp3 hp4 hp5 hp6 hp7 hp8 hpre0 hpre1 hpre2 hpre3 hkk sz => gX5_readTruth_1179368 l D cy h0 h1 h2 h3 h4 h5 p0 p1 p2 p3 p4 w0 p5 p6 w1 p7 p8 f0 f1 f2 f3 hp0 hp1 hp2 hp3 hp4 hp5 hp6 hp7 hp8 hpre0 hpre1 hpre2 hpre3 0 hkk (fun j hj => absurd hj (by omega)) sz, fun h0 h1 h2 h3 h4 h5 p0 p1 p2 p3 p4 w0 p5 p6 w1 p7 p8 f0 f1 f2 f3 hp0 hp1 hp2 hp3 hp4 hp5 hp6 hp7 hp8 hpre0 hpre1 hpre2 hpre3 hkk sz => gX5_readUnit_85b78ca l D cy h0 h1 h2 h3 h4 h5 p0 p1 p2 p3 p4 w0 p5 p6 w1 p7 p8 f0 f1 f2 f3 hp0 hp1 hp2 hp3 hp4 hp5 hp6 hp7 hp8 hpre0 hpre1 hpre2 hpre3 0 hkk (fun j hj => absurd hj (by omega)) sz⟩
  | succ n ihn => exact ⟨fun h0 h1 h2 h3 h4 h5 p0 p1 p2 p3 p4 w0 p5 p6 w1 p7 p8 f0 f1 f2 f3 hp0 hp1 hp2 hp3 hp4 hp5 hp6 hp7 hp8 hpre0 hpre1 hpre2 hpre3 hkk sz => gX5_readTruth_1179368 l D cy h0 h1 h2 h3 h4 h5 p0 p1 p2 p3 p4 w0 p5 p6 w1 p7 p8 f0 f1 f2 f3 hp0 hp1 hp2 hp3 hp4 hp5 hp6 hp7 hp8 hpre0 hpre1 hpre2 hpre3 (n + 1) hkk (fun j hj => Nat.succ.inj hj ▸ ihn) sz, fun h0 h1 h2 h3 h4 h5 p0 p1 p2 p3 p4 w0 p5 p6 w1 p7 p8 f0 f1 f2 f3 hp0 hp1 hp2 hp3 hp4 hp5 hp6 hp7 hp8 hpre0 hpre1 hpre2 hpre3 hkk sz => gX5_readUnit_85b78ca l D cy h0 h1 h2 h3 h4 h5 p0 p1 p2 p3 p4 w0 p5 p6 w1 p7 p8 f0 f1 f2 f3 hp0 hp1 hp2 hp3 hp4 hp5 hp6 hp7 hp8 hpre0 hpre1 hpre2 hpre3 (n + 1) hkk (fun j hj => Nat.succ.inj hj ▸ ihn) sz⟩
set_option maxHeartbeats 4000000 in
set_option maxRecDepth 100000 in
theorem gX5_takeNumber_7db443e (l : Launch) (D : va_G) (cy : Nat → ClassId) (h0 : Nat) (h1 : Nat) (h2 : Nat) (h3 : Nat) (h4 : Nat) (p0 : Int32) (p1 : Int32) (p2 : Int32) (p3 : Int32) (w0 : Value) (w1 : Value) (p4 : Int32) (p5 : Int32) (w2 : Value) (p6 : Int32) (p7 : Int32) (f0 : Nat → Int32) (f1 : Nat → Int32) (f2 : Nat → Int32) (hp0 : (-1) ≤ (p0).toInt ∧ (p0).toInt ≤ 900) (hp1 : (-2147483648) ≤ (p1).toInt ∧ (p1).toInt ≤ 2147483647) (hp2 : (-2147483648) ≤ (p2).toInt ∧ (p2).toInt ≤ 2147483647) (hp3 : (-2147483648) ≤ (p3).toInt ∧ (p3).toInt ≤ 2147483647) (hp4 : 0 ≤ (p4).toInt ∧ (p4).toInt ≤ 900) (hp5 : (-2147483648) ≤ (p5).toInt ∧ (p5).toInt ≤ 2147483647) (hp6 : 0 ≤ (p6).toInt ∧ (p6).toInt ≤ 900) (hp7 : 0 ≤ (p7).toInt ∧ (p7).toInt ≤ 901) (hpre0 : KZ f0 (p7 : Int32).toInt) (hpre1 : 0 ≤ (p0 : Int32).toInt ∧ (p0 : Int32).toInt < (p7 : Int32).toInt) (hpre2 : (p2 : Int32).toInt ≠ 0 ∨ (p1 : Int32).toInt = 26 ∨ (p1 : Int32).toInt = 27 ∨ (p0 : Int32).toInt + 1 < (p7 : Int32).toInt) (hpre3 : (p2 : Int32).toInt = 0 ∨ (p1 : Int32).toInt = 27) (sz : Nat) : MI l yX5_takeNumber cX5_takeNumber 4 .int { frames := 1, cells := 0, slots := 0, locals := 21 } [.ref h0, .int 0, .int 999] D cy (wk_aa6ee0650 cy h0 h1 p0 p1 p2 p3 w0 w1 p4 p5 h1 w2 p6 p7 h2 h3 h4 h2 f0 h3 f1 h4 f2) sz (fun r u => (0 ≤ r.toInt ∧ r.toInt ≤ 999) ∧ ((-2147483648) ≤ (u.2.1 0 0).toInt ∧ (u.2.1 0 0).toInt ≤ 2147483647) ∧ ((-2147483648) ≤ (u.2.1 1 0).toInt ∧ (u.2.1 1 0).toInt ≤ 2147483647) ∧ ((-2147483648) ≤ (u.2.1 2 0).toInt ∧ (u.2.1 2 0).toInt ≤ 2147483647) ∧ ((-1) ≤ (u.2.1 3 0).toInt ∧ (u.2.1 3 0).toInt ≤ 900) ∧ (0 ≤ ((u.2.1 3 0) : Int32).toInt ∧ ((u.2.1 3 0) : Int32).toInt < (p7 : Int32).toInt) ∧ (((u.2.1 1 0) : Int32).toInt ≠ 0 ∨ ((u.2.1 0 0) : Int32).toInt = 26 ∨ ((u.2.1 0 0) : Int32).toInt = 27 ∨ ((u.2.1 3 0) : Int32).toInt + 1 < (p7 : Int32).toInt) ∧ (((u.2.1 1 0) : Int32).toInt ≠ 0 ∨ ((u.2.1 3 0) : Int32).toInt = (p0 : Int32).toInt + 1) ∧ (((u.2.1 1 0) : Int32).toInt ≠ 0 ∨ (p2 : Int32).toInt = 0) ∧ (((u.2.1 1 0) : Int32).toInt = 0 ∨ ((u.2.1 0 0) : Int32).toInt = 27) ∧ ((p0 : Int32).toInt ≤ ((u.2.1 3 0) : Int32).toInt) ∧ (SIM f0 f1 f2 (p7 : Int32).toInt (num 0 999) (p0 : Int32).toInt (p1 : Int32).toInt (p2 : Int32).toInt (p3 : Int32).toInt ((u.2.1 3 0) : Int32).toInt ((u.2.1 0 0) : Int32).toInt ((u.2.1 1 0) : Int32).toInt ((u.2.1 2 0) : Int32).toInt) ∧ (NMP ((u.2.1 1 0) : Int32).toInt (p1 : Int32).toInt (r : Int32).toInt (f2 ((p0 : Int32).toInt).toNat).toInt) ∧ True) (fun u => (wk_aa6ee0650 cy h0 h1 (u.2.1 3 0) (u.2.1 0 0) (u.2.1 1 0) (u.2.1 2 0) w0 w1 p4 p5 h1 w2 p6 p7 h2 h3 h4 h2 f0 h3 f1 h4 f2)) 0 0 := by
  refine q_ent (own := RX5) (by decide) rfl (Nat.le_of_ble_eq_true rfl) (fun p e s m below meth c ls X hr hlk hnm hK hT h hA hl => ?_)
  obtain ⟨hx, hb, hml, hown, ht⟩ := id X
  replace hl : lv_has ls 4 [(0, .ref h0), (1, .int 0), (2, .int 999)] := hl
  refine lv_aload_n hx hb dX5_takeNumber_0 rfl (lv_at hl 0 rfl) ?_
  refine q_get X hK h 0 rfl rfl wf_5 2 (by decide) rfl wm_1_146 dX5_takeNumber_1 ?_
  refine lv_bipush (v := 25) hx hb dX5_takeNumber_4 (by decide) ?_
  refine lv_icmp_eq (tgt := 16) hx hb dX5_takeNumber_6 (by decide) (fun c_1 => ?_) (fun c_1 => ?_)
  · replace c_1 := i_eq (x := p1) (y := 25) rfl (show (25 : Int32).toInt = 25 by decide) c_1
    refine lv_aload_n hx hb dX5_takeNumber_16 rfl (lv_at hl 0 rfl) ?_
    refine q_get X hK h 0 rfl rfl wf_5 0 (by decide) rfl wm_1_144 dX5_takeNumber_17 ?_
    refine q_get X hK h 1 rfl rfl wf_8 5 (by decide) rfl wm_1_52 dX5_takeNumber_20 ?_
    refine lv_aload_n hx hb dX5_takeNumber_23 rfl (lv_at hl 0 rfl) ?_
    refine q_get X hK h 0 rfl rfl wf_5 1 (by decide) rfl wm_1_145 dX5_takeNumber_24 ?_
    refine q_iald X hK h 4 rfl (i_in rfl (by omega) (by omega)) dX5_takeNumber_27 ?_
    obtain ⟨z_2, ez_2, hz_2⟩ := e_any (f2 p0.toNatClampNeg)
    refine q_c z_2 ez_2 ?_
    refine lv_istore_n (lv' := [(3, .int z_2), (0, .ref h0), (1, .int 0), (2, .int 999)]) hx hb dX5_takeNumber_28 rfl hl (by decide) rfl (fun ls_3 hl_3 => ?_)
    clear hl
    refine lv_iload_n hx hb dX5_takeNumber_29 rfl (lv_at hl_3 0 rfl) ?_
    refine lv_iload_n hx hb dX5_takeNumber_30 rfl (lv_at hl_3 2 rfl) ?_
    refine lv_icmp_lt (tgt := 39) hx hb dX5_takeNumber_31 (by decide) (fun c_4 => ?_) (fun c_4 => ?_)
    · replace c_4 := i_lt (x := z_2) (y := 0) rfl (show (0 : Int32).toInt = 0 by decide) c_4
      refine lv_aload_n hx hb dX5_takeNumber_39 rfl (lv_at hl_3 1 rfl) ?_
      refine lv_iconst (v := 3) hx hb dX5_takeNumber_40 (by decide) ?_
      refine q_callVv (rest := []) (wr := (wk_5f0ef36a6 cy h2 f0 h4 f2)) X hK hT hA h (fun sz => gX5_refuse_3ecba60 l D cy h0 h1 h3 p0 p1 p2 p3 w0 w1 p4 p5 w2 p6 p7 (.ref h2) (.ref h4) f1 hp0 (i_rng _) (i_rng _) (i_rng _) hp4 (i_rng _) hp6 hp7 (hpre1) (hpre3) (by have q0 : (3 : Int32).toInt = 3 := (by decide); (first | (clear hpre2 hpre3; omega) | omega)) sz) wm_3_76 wm_3_79 wm_1_2 hd_X5_refuse wm_3_78 wp_1_10 (ci := 5) (q0 := 0) rfl rfl ⟨Nat.le_of_ble_eq_true rfl, Nat.le_of_ble_eq_true rfl⟩ hl_3.1 rfl (Nat.le_of_ble_eq_true rfl) dX5_takeNumber_41 ⟨Nat.le_of_ble_eq_true rfl, Nat.le_of_ble_eq_true rfl⟩ [0, 1, 3] [2, 4] rfl rfl (by decide) rfl rfl (fun u_5 H locs w_5 h_5 => ?_)
      clear h
      obtain ⟨w5_0, w5_1, w5_2, y5_0, y5_1, y5_2, _⟩ := w_5
      have lq_5_1 : (3 : Int32).toInt = 3 := (by decide)
      replace h_5 : qW D _ _ (wk_1a85a4215 cy h2 f0 h4 f2 h0 h1 p0 (u_5.2.1 0 0) (u_5.2.1 1 0) (u_5.2.1 2 0) w0 w1 p4 p5 h1 w2 p6 p7 h2 h3 h4 h3 f1) _ _ := h_5
      refine lv_iload_n hx hb dX5_takeNumber_44 rfl (lv_at hl_3 2 rfl) ?_
      exact q_iret X hr hlk hK h_5 rfl (fun _ => 0, (vcons (fun _ => (u_5.2.1 0 0)) (vcons (fun _ => (u_5.2.1 1 0)) (vcons (fun _ => (u_5.2.1 2 0)) (vcons (fun _ => p0) (fun _ => (fun _ => 0)))))), fun _ _ => 0) ⟨⟨by decide +kernel, by decide +kernel⟩, w5_0, w5_1, w5_2, hp0, hpre1, (show ((u_5.2.1 1 0) : Int32).toInt ≠ 0 ∨ ((u_5.2.1 0 0) : Int32).toInt = 26 ∨ ((u_5.2.1 0 0) : Int32).toInt = 27 ∨ (p0 : Int32).toInt + 1 < (p7 : Int32).toInt from by (first | (clear hpre2 hpre3 y5_1; omega) | omega)), (show ((u_5.2.1 1 0) : Int32).toInt ≠ 0 ∨ (p0 : Int32).toInt = (p0 : Int32).toInt + 1 from by (first | (clear hpre2 hpre3 y5_1; omega) | omega)), (show ((u_5.2.1 1 0) : Int32).toInt ≠ 0 ∨ (p2 : Int32).toInt = 0 from by (first | (clear hpre2 hpre3 y5_1; omega) | omega)), y5_1, (show (p0 : Int32).toInt ≤ (p0 : Int32).toInt from (Int.le_refl _)), (show SIM f0 f1 f2 (p7 : Int32).toInt (num 0 999) (p0 : Int32).toInt (p1 : Int32).toInt (p2 : Int32).toInt (p3 : Int32).toInt (p0 : Int32).toInt ((u_5.2.1 0 0) : Int32).toInt ((u_5.2.1 1 0) : Int32).toInt ((u_5.2.1 2 0) : Int32).toInt from sim_nm2 (by (first | assumption | (clear hpre2 hpre3 y5_1; omega) | omega)) (by (first | assumption | (clear hpre2 hpre3 y5_1; omega) | omega)) (by (first | assumption | (clear hpre2 hpre3 y5_1; omega) | omega)) (congrArg Int32.toInt ez_2).symm (by (first | assumption | (clear hpre2 hpre3 y5_1; omega) | omega)) (y5_2 _ _)), (show NMP ((u_5.2.1 1 0) : Int32).toInt (p1 : Int32).toInt (0 : Int32).toInt (f2 ((p0 : Int32).toInt).toNat).toInt from Or.inl (by (first | assumption | (clear hpre2 hpre3 y5_1; omega) | omega))), trivial⟩ [2, 3, 0, 4, 1] rfl rfl dX5_takeNumber_45 (Nat.le_of_ble_eq_true rfl) (Nat.le_of_ble_eq_true rfl)
    · replace c_4 := i_nlt (x := z_2) (y := 0) rfl (show (0 : Int32).toInt = 0 by decide) c_4
      refine lv_iload_n hx hb dX5_takeNumber_34 rfl (lv_at hl_3 0 rfl) ?_
      refine lv_iload_n hx hb dX5_takeNumber_35 rfl (lv_at hl_3 3 rfl) ?_
      refine lv_icmp_le (tgt := 46) hx hb dX5_takeNumber_36 (by decide) (fun c_6 => ?_) (fun c_6 => ?_)
      · replace c_6 := i_le (x := z_2) (y := 999) rfl (show (999 : Int32).toInt = 999 by decide) c_6
        refine lv_aload_n hx hb dX5_takeNumber_46 rfl (lv_at hl_3 1 rfl) ?_
        refine q_callVv (rest := []) (wr := [(h4, .inl (cy 1, 901, .inl f2))]) X hK hT hA h (fun sz => gX5_advance_9820dfe l D cy h0 h1 h2 h3 p0 p1 p2 p3 w0 w1 p4 p5 w2 p6 p7 (.ref h4) f0 f1 hp0 (i_rng _) (i_rng _) (i_rng _) hp4 (i_rng _) hp6 hp7 (hpre0) (hpre3) (by (first | (clear hpre2 hpre3; omega) | omega)) sz) wm_3_68 wm_3_71 wm_1_2 hd_X5_advance wm_3_70 wp_1_8 (ci := 5) (q0 := 0) rfl rfl ⟨Nat.le_of_ble_eq_true rfl, Nat.le_of_ble_eq_true rfl⟩ hl_3.1 rfl (Nat.le_of_ble_eq_true rfl) dX5_takeNumber_47 ⟨Nat.le_of_ble_eq_true rfl, Nat.le_of_ble_eq_true rfl⟩ [0, 1, 2, 3] [4] rfl rfl (by decide) rfl rfl (fun u_7 H locs w_7 h_7 => ?_)
        clear h
        obtain ⟨w7_0, w7_1, w7_2, w7_3, y7_0, y7_1, y7_2, y7_3, y7_4, y7_5, y7_6, _⟩ := w_7
        replace h_7 : qW D _ _ (wk_84183f5c8 cy h4 f2 h0 h1 (u_7.2.1 0 0) (u_7.2.1 1 0) (u_7.2.1 2 0) (u_7.2.1 3 0) w0 w1 p4 p5 h1 w2 p6 p7 h2 h3 h4 h2 f0 h3 f1) _ _ := h_7
        refine lv_iload_n hx hb dX5_takeNumber_50 rfl (lv_at hl_3 0 rfl) ?_
        exact q_iret X hr hlk hK h_7 rfl (fun _ => 0, (vcons (fun _ => (u_7.2.1 1 0)) (vcons (fun _ => (u_7.2.1 2 0)) (vcons (fun _ => (u_7.2.1 3 0)) (vcons (fun _ => (u_7.2.1 0 0)) (fun _ => (fun _ => 0)))))), fun _ _ => 0) ⟨⟨by omega, by omega⟩, w7_1, w7_2, w7_3, w7_0, y7_0, (show ((u_7.2.1 2 0) : Int32).toInt ≠ 0 ∨ ((u_7.2.1 1 0) : Int32).toInt = 26 ∨ ((u_7.2.1 1 0) : Int32).toInt = 27 ∨ ((u_7.2.1 0 0) : Int32).toInt + 1 < (p7 : Int32).toInt from by (first | (clear hpre2 hpre3 y7_1 y7_2 y7_4 y7_5; omega) | omega)), (show ((u_7.2.1 2 0) : Int32).toInt ≠ 0 ∨ ((u_7.2.1 0 0) : Int32).toInt = (p0 : Int32).toInt + 1 from by (first | (clear hpre2 hpre3 y7_1 y7_2 y7_4 y7_5; omega) | omega)), y7_2, y7_5, y7_3, (show SIM f0 f1 f2 (p7 : Int32).toInt (num 0 999) (p0 : Int32).toInt (p1 : Int32).toInt (p2 : Int32).toInt (p3 : Int32).toInt ((u_7.2.1 0 0) : Int32).toInt ((u_7.2.1 1 0) : Int32).toInt ((u_7.2.1 2 0) : Int32).toInt ((u_7.2.1 3 0) : Int32).toInt from sim_nm3 (by (first | assumption | (clear hpre2 hpre3 y7_1 y7_2 y7_4 y7_5; omega) | omega)) (by (first | assumption | (clear hpre2 hpre3 y7_1 y7_2 y7_4 y7_5; omega) | omega)) (by (first | assumption | (clear hpre2 hpre3 y7_1 y7_2 y7_4 y7_5; omega) | omega)) (congrArg Int32.toInt ez_2).symm (by (first | assumption | (clear hpre2 hpre3 y7_1 y7_2 y7_4 y7_5; omega) | omega)) y7_6 (by (first | assumption | (clear hpre2 hpre3 y7_1 y7_2 y7_4 y7_5; omega) | omega))), (show NMP ((u_7.2.1 2 0) : Int32).toInt (p1 : Int32).toInt (z_2 : Int32).toInt (f2 ((p0 : Int32).toInt).toNat).toInt from Or.inr ⟨(by (first | assumption | (clear hpre2 hpre3 y7_1 y7_2 y7_4 y7_5; omega) | omega)), (congrArg Int32.toInt ez_2).symm⟩), trivial⟩ [1, 2, 3, 4, 0] rfl rfl dX5_takeNumber_51 (Nat.le_of_ble_eq_true rfl) (Nat.le_of_ble_eq_true rfl)
      · replace c_6 := i_nle (x := z_2) (y := 999) rfl (show (999 : Int32).toInt = 999 by decide) c_6
        refine lv_aload_n hx hb dX5_takeNumber_39 rfl (lv_at hl_3 1 rfl) ?_
        refine lv_iconst (v := 3) hx hb dX5_takeNumber_40 (by decide) ?_
        refine q_callVv (rest := []) (wr := (wk_5f0ef36a6 cy h2 f0 h4 f2)) X hK hT hA h (fun sz => gX5_refuse_3ecba60 l D cy h0 h1 h3 p0 p1 p2 p3 w0 w1 p4 p5 w2 p6 p7 (.ref h2) (.ref h4) f1 hp0 (i_rng _) (i_rng _) (i_rng _) hp4 (i_rng _) hp6 hp7 (hpre1) (hpre3) (by have q0 : (3 : Int32).toInt = 3 := (by decide); (first | (clear hpre2 hpre3; omega) | omega)) sz) wm_3_76 wm_3_79 wm_1_2 hd_X5_refuse wm_3_78 wp_1_10 (ci := 5) (q0 := 0) rfl rfl ⟨Nat.le_of_ble_eq_true rfl, Nat.le_of_ble_eq_true rfl⟩ hl_3.1 rfl (Nat.le_of_ble_eq_true rfl) dX5_takeNumber_41 ⟨Nat.le_of_ble_eq_true rfl, Nat.le_of_ble_eq_true rfl⟩ [0, 1, 3] [2, 4] rfl rfl (by decide) rfl rfl (fun u_8 H locs w_8 h_8 => ?_)
        clear h
        obtain ⟨w8_0, w8_1, w8_2, y8_0, y8_1, y8_2, _⟩ := w_8
        have lq_8_1 : (3 : Int32).toInt = 3 := (by decide)
        replace h_8 : qW D _ _ (wk_1a85a4215 cy h2 f0 h4 f2 h0 h1 p0 (u_8.2.1 0 0) (u_8.2.1 1 0) (u_8.2.1 2 0) w0 w1 p4 p5 h1 w2 p6 p7 h2 h3 h4 h3 f1) _ _ := h_8
        refine lv_iload_n hx hb dX5_takeNumber_44 rfl (lv_at hl_3 2 rfl) ?_
        exact q_iret X hr hlk hK h_8 rfl (fun _ => 0, (vcons (fun _ => (u_8.2.1 0 0)) (vcons (fun _ => (u_8.2.1 1 0)) (vcons (fun _ => (u_8.2.1 2 0)) (vcons (fun _ => p0) (fun _ => (fun _ => 0)))))), fun _ _ => 0) ⟨⟨by decide +kernel, by decide +kernel⟩, w8_0, w8_1, w8_2, hp0, hpre1, (show ((u_8.2.1 1 0) : Int32).toInt ≠ 0 ∨ ((u_8.2.1 0 0) : Int32).toInt = 26 ∨ ((u_8.2.1 0 0) : Int32).toInt = 27 ∨ (p0 : Int32).toInt + 1 < (p7 : Int32).toInt from by (first | (clear hpre2 hpre3 y8_1; omega) | omega)), (show ((u_8.2.1 1 0) : Int32).toInt ≠ 0 ∨ (p0 : Int32).toInt = (p0 : Int32).toInt + 1 from by (first | (clear hpre2 hpre3 y8_1; omega) | omega)), (show ((u_8.2.1 1 0) : Int32).toInt ≠ 0 ∨ (p2 : Int32).toInt = 0 from by (first | (clear hpre2 hpre3 y8_1; omega) | omega)), y8_1, (show (p0 : Int32).toInt ≤ (p0 : Int32).toInt from (Int.le_refl _)), (show SIM f0 f1 f2 (p7 : Int32).toInt (num 0 999) (p0 : Int32).toInt (p1 : Int32).toInt (p2 : Int32).toInt (p3 : Int32).toInt (p0 : Int32).toInt ((u_8.2.1 0 0) : Int32).toInt ((u_8.2.1 1 0) : Int32).toInt ((u_8.2.1 2 0) : Int32).toInt from sim_nm2 (by (first | assumption | (clear hpre2 hpre3 y8_1; omega) | omega)) (by (first | assumption | (clear hpre2 hpre3 y8_1; omega) | omega)) (by (first | assumption | (clear hpre2 hpre3 y8_1; omega) | omega)) (congrArg Int32.toInt ez_2).symm (by (first | assumption | (clear hpre2 hpre3 y8_1; omega) | omega)) (y8_2 _ _)), (show NMP ((u_8.2.1 1 0) : Int32).toInt (p1 : Int32).toInt (0 : Int32).toInt (f2 ((p0 : Int32).toInt).toNat).toInt from Or.inl (by (first | assumption | (clear hpre2 hpre3 y8_1; omega) | omega))), trivial⟩ [2, 3, 0, 4, 1] rfl rfl dX5_takeNumber_45 (Nat.le_of_ble_eq_true rfl) (Nat.le_of_ble_eq_true rfl)
  · replace c_1 := i_ne (x := p1) (y := 25) rfl (show (25 : Int32).toInt = 25 by decide) c_1
    refine lv_aload_n hx hb dX5_takeNumber_9 rfl (lv_at hl 0 rfl) ?_
    refine lv_iconst (v := 2) hx hb dX5_takeNumber_10 (by decide) ?_
    refine q_callVv (rest := []) (wr := (wk_5f0ef36a6 cy h2 f0 h4 f2)) X hK hT hA h (fun sz => gX5_refuse_067fcff l D cy h0 h1 h3 p0 p1 p2 p3 w0 w1 p4 p5 w2 p6 p7 (.ref h2) (.ref h4) f1 hp0 (i_rng _) (i_rng _) (i_rng _) hp4 (i_rng _) hp6 hp7 (hpre1) (hpre3) (by have q0 : (2 : Int32).toInt = 2 := (by decide); (first | (clear hpre2 hpre3; omega) | omega)) sz) wm_3_76 wm_3_79 wm_1_2 hd_X5_refuse wm_3_78 wp_1_10 (ci := 5) (q0 := 0) rfl rfl ⟨Nat.le_of_ble_eq_true rfl, Nat.le_of_ble_eq_true rfl⟩ hl.1 rfl (Nat.le_of_ble_eq_true rfl) dX5_takeNumber_11 ⟨Nat.le_of_ble_eq_true rfl, Nat.le_of_ble_eq_true rfl⟩ [0, 1, 3] [2, 4] rfl rfl (by decide) rfl rfl (fun u_9 H locs w_9 h_9 => ?_)
    clear h
    obtain ⟨w9_0, w9_1, w9_2, y9_0, y9_1, y9_2, _⟩ := w_9
    have lq_9_1 : (2 : Int32).toInt = 2 := (by decide)
    replace h_9 : qW D _ _ (wk_1a85a4215 cy h2 f0 h4 f2 h0 h1 p0 (u_9.2.1 0 0) (u_9.2.1 1 0) (u_9.2.1 2 0) w0 w1 p4 p5 h1 w2 p6 p7 h2 h3 h4 h3 f1) _ _ := h_9
    refine lv_iload_n hx hb dX5_takeNumber_14 rfl (lv_at hl 1 rfl) ?_
    exact q_iret X hr hlk hK h_9 rfl (fun _ => 0, (vcons (fun _ => (u_9.2.1 0 0)) (vcons (fun _ => (u_9.2.1 1 0)) (vcons (fun _ => (u_9.2.1 2 0)) (vcons (fun _ => p0) (fun _ => (fun _ => 0)))))), fun _ _ => 0) ⟨⟨by decide +kernel, by decide +kernel⟩, w9_0, w9_1, w9_2, hp0, hpre1, (show ((u_9.2.1 1 0) : Int32).toInt ≠ 0 ∨ ((u_9.2.1 0 0) : Int32).toInt = 26 ∨ ((u_9.2.1 0 0) : Int32).toInt = 27 ∨ (p0 : Int32).toInt + 1 < (p7 : Int32).toInt from by (first | (clear hpre2 hpre3 y9_1; omega) | omega)), (show ((u_9.2.1 1 0) : Int32).toInt ≠ 0 ∨ (p0 : Int32).toInt = (p0 : Int32).toInt + 1 from by (first | (clear hpre2 hpre3 y9_1; omega) | omega)), (show ((u_9.2.1 1 0) : Int32).toInt ≠ 0 ∨ (p2 : Int32).toInt = 0 from by (first | (clear hpre2 hpre3 y9_1; omega) | omega)), y9_1, (show (p0 : Int32).toInt ≤ (p0 : Int32).toInt from (Int.le_refl _)), (show SIM f0 f1 f2 (p7 : Int32).toInt (num 0 999) (p0 : Int32).toInt (p1 : Int32).toInt (p2 : Int32).toInt (p3 : Int32).toInt (p0 : Int32).toInt ((u_9.2.1 0 0) : Int32).toInt ((u_9.2.1 1 0) : Int32).toInt ((u_9.2.1 2 0) : Int32).toInt from sim_nm1 (by (first | assumption | (clear hpre2 hpre3 y9_1; omega) | omega)) (y9_2 _ _)), (show NMP ((u_9.2.1 1 0) : Int32).toInt (p1 : Int32).toInt (0 : Int32).toInt (f2 ((p0 : Int32).toInt).toNat).toInt from Or.inl (by (first | assumption | (clear hpre2 hpre3 y9_1; omega) | omega))), trivial⟩ [2, 3, 0, 4, 1] rfl rfl dX5_takeNumber_15 (Nat.le_of_ble_eq_true rfl) (Nat.le_of_ble_eq_true rfl)
set_option maxHeartbeats 4000000 in
set_option maxRecDepth 100000 in
theorem gX5_take_4548c15 (l : Launch) (D : va_G) (cy : Nat → ClassId) (h0 : Nat) (h1 : Nat) (h2 : Nat) (h3 : Nat) (p0 : Int32) (p1 : Int32) (p2 : Int32) (p3 : Int32) (w0 : Value) (w1 : Value) (p4 : Int32) (p5 : Int32) (w2 : Value) (p6 : Int32) (p7 : Int32) (w3 : Value) (f0 : Nat → Int32) (f1 : Nat → Int32) (hp0 : (-1) ≤ (p0).toInt ∧ (p0).toInt ≤ 900) (hp1 : (-2147483648) ≤ (p1).toInt ∧ (p1).toInt ≤ 2147483647) (hp2 : (-2147483648) ≤ (p2).toInt ∧ (p2).toInt ≤ 2147483647) (hp3 : (-2147483648) ≤ (p3).toInt ∧ (p3).toInt ≤ 2147483647) (hp4 : 0 ≤ (p4).toInt ∧ (p4).toInt ≤ 900) (hp5 : (-2147483648) ≤ (p5).toInt ∧ (p5).toInt ≤ 2147483647) (hp6 : 0 ≤ (p6).toInt ∧ (p6).toInt ≤ 900) (hp7 : 0 ≤ (p7).toInt ∧ (p7).toInt ≤ 901) (hpre0 : KZ f0 (p7 : Int32).toInt) (hpre1 : 0 ≤ (p0 : Int32).toInt ∧ (p0 : Int32).toInt < (p7 : Int32).toInt) (hpre2 : (p2 : Int32).toInt ≠ 0 ∨ (p1 : Int32).toInt = 26 ∨ (p1 : Int32).toInt = 27 ∨ (p0 : Int32).toInt + 1 < (p7 : Int32).toInt) (hpre3 : (p2 : Int32).toInt = 0 ∨ (p1 : Int32).toInt = 27) (hpre4 : (15 : Int32).toInt ≠ 26 ∧ (15 : Int32).toInt ≠ 27) (sz : Nat) : MV l yX5_take cX5_take 2 { frames := 1, cells := 0, slots := 0, locals := 21 } [.ref h0, .int 15] D cy (wk_8964b4ae4 cy h0 h1 p0 p1 p2 p3 w0 w1 p4 p5 h1 w2 p6 p7 h2 h3 w3 h2 f0 h3 f1) sz (fun u => ((-2147483648) ≤ (u.2.1 0 0).toInt ∧ (u.2.1 0 0).toInt ≤ 2147483647) ∧ ((-2147483648) ≤ (u.2.1 1 0).toInt ∧ (u.2.1 1 0).toInt ≤ 2147483647) ∧ ((-2147483648) ≤ (u.2.1 2 0).toInt ∧ (u.2.1 2 0).toInt ≤ 2147483647) ∧ ((-1) ≤ (u.2.1 3 0).toInt ∧ (u.2.1 3 0).toInt ≤ 900) ∧ (0 ≤ ((u.2.1 3 0) : Int32).toInt ∧ ((u.2.1 3 0) : Int32).toInt < (p7 : Int32).toInt) ∧ (((u.2.1 1 0) : Int32).toInt ≠ 0 ∨ ((u.2.1 0 0) : Int32).toInt = 26 ∨ ((u.2.1 0 0) : Int32).toInt = 27 ∨ ((u.2.1 3 0) : Int32).toInt + 1 < (p7 : Int32).toInt) ∧ (((u.2.1 1 0) : Int32).toInt ≠ 0 ∨ ((u.2.1 3 0) : Int32).toInt = (p0 : Int32).toInt + 1) ∧ (((u.2.1 1 0) : Int32).toInt ≠ 0 ∨ (p2 : Int32).toInt = 0) ∧ (((u.2.1 1 0) : Int32).toInt = 0 ∨ ((u.2.1 0 0) : Int32).toInt = 27) ∧ ((p0 : Int32).toInt ≤ ((u.2.1 3 0) : Int32).toInt) ∧ (∀ vv : Nat → Int32, SIM f0 f1 vv (p7 : Int32).toInt (tak 15) (p0 : Int32).toInt (p1 : Int32).toInt (p2 : Int32).toInt (p3 : Int32).toInt ((u.2.1 3 0) : Int32).toInt ((u.2.1 0 0) : Int32).toInt ((u.2.1 1 0) : Int32).toInt ((u.2.1 2 0) : Int32).toInt) ∧ True) (fun u => (wk_8964b4ae4 cy h0 h1 (u.2.1 3 0) (u.2.1 0 0) (u.2.1 1 0) (u.2.1 2 0) w0 w1 p4 p5 h1 w2 p6 p7 h2 h3 w3 h2 f0 h3 f1)) 0 0 := by
  refine q_ent (own := RX5) (by decide) rfl (Nat.le_of_ble_eq_true rfl) (fun p e s m below meth c ls X hr hlk hnm hK hT h hA hl => ?_)
  obtain ⟨hx, hb, hml, hown, ht⟩ := id X
  replace hl : lv_has ls 2 [(0, .ref h0), (1, .int 15)] := hl
  refine lv_aload_n hx hb dX5_take_0 rfl (lv_at hl 0 rfl) ?_
  refine q_get X hK h 0 rfl rfl wf_5 2 (by decide) rfl wm_1_146 dX5_take_1 ?_
  refine lv_iload_n hx hb dX5_take_4 rfl (lv_at hl 1 rfl) ?_
  refine lv_icmp_ne (tgt := 15) hx hb dX5_take_5 (by decide) (fun c_1 => ?_) (fun c_1 => ?_)
  · replace c_1 := i_ne (x := p1) (y := 15) rfl (show (15 : Int32).toInt = 15 by decide) c_1
    refine lv_aload_n hx hb dX5_take_15 rfl (lv_at hl 0 rfl) ?_
    refine lv_iconst (v := 2) hx hb dX5_take_16 (by decide) ?_
    refine q_callVv (rest := []) (wr := [(h2, .inl (cy 1, 901, .inl f0))]) X hK hT hA h (fun sz => gX5_refuse_067fcff l D cy h0 h1 h3 p0 p1 p2 p3 w0 w1 p4 p5 w2 p6 p7 (.ref h2) w3 f1 hp0 (i_rng _) (i_rng _) (i_rng _) hp4 (i_rng _) hp6 hp7 (hpre1) (hpre3) (by have q0 : (2 : Int32).toInt = 2 := (by decide); (first | (clear hpre2 hpre3; omega) | omega)) sz) wm_3_76 wm_3_79 wm_1_2 hd_X5_refuse wm_3_78 wp_1_10 (ci := 5) (q0 := 0) rfl rfl ⟨Nat.le_of_ble_eq_true rfl, Nat.le_of_ble_eq_true rfl⟩ hl.1 rfl (Nat.le_of_ble_eq_true rfl) dX5_take_17 ⟨Nat.le_of_ble_eq_true rfl, Nat.le_of_ble_eq_true rfl⟩ [0, 1, 3] [2] rfl rfl (by decide) rfl rfl (fun u_2 H locs w_2 h_2 => ?_)
    clear h
    obtain ⟨w2_0, w2_1, w2_2, y2_0, y2_1, y2_2, _⟩ := w_2
    have lq_2_1 : (2 : Int32).toInt = 2 := (by decide)
    replace h_2 : qW D _ _ (wk_565e7035b cy h2 f0 h0 h1 p0 (u_2.2.1 0 0) (u_2.2.1 1 0) (u_2.2.1 2 0) w0 w1 p4 p5 h1 w2 p6 p7 h2 h3 w3 h3 f1) _ _ := h_2
    exact q_vret X hr hlk hK h_2 (fun _ => 0, (vcons (fun _ => (u_2.2.1 0 0)) (vcons (fun _ => (u_2.2.1 1 0)) (vcons (fun _ => (u_2.2.1 2 0)) (vcons (fun _ => p0) (fun _ => (fun _ => 0)))))), fun _ _ => 0) ⟨w2_0, w2_1, w2_2, hp0, hpre1, (show ((u_2.2.1 1 0) : Int32).toInt ≠ 0 ∨ ((u_2.2.1 0 0) : Int32).toInt = 26 ∨ ((u_2.2.1 0 0) : Int32).toInt = 27 ∨ (p0 : Int32).toInt + 1 < (p7 : Int32).toInt from by (first | (clear hpre2 hpre3 y2_1; omega) | omega)), (show ((u_2.2.1 1 0) : Int32).toInt ≠ 0 ∨ (p0 : Int32).toInt = (p0 : Int32).toInt + 1 from by (first | (clear hpre2 hpre3 y2_1; omega) | omega)), (show ((u_2.2.1 1 0) : Int32).toInt ≠ 0 ∨ (p2 : Int32).toInt = 0 from by (first | (clear hpre2 hpre3 y2_1; omega) | omega)), y2_1, (show (p0 : Int32).toInt ≤ (p0 : Int32).toInt from (Int.le_refl _)), (show ∀ vv : Nat → Int32, SIM f0 f1 vv (p7 : Int32).toInt (tak 15) (p0 : Int32).toInt (p1 : Int32).toInt (p2 : Int32).toInt (p3 : Int32).toInt (p0 : Int32).toInt ((u_2.2.1 0 0) : Int32).toInt ((u_2.2.1 1 0) : Int32).toInt ((u_2.2.1 2 0) : Int32).toInt from fun _ => sim_tk2 (by (first | assumption | (clear hpre2 hpre3 y2_1; omega) | omega)) (y2_2 _ _)), trivial⟩ [1, 2, 0, 3] rfl rfl dX5_take_20 (Nat.le_of_ble_eq_true rfl) (Nat.le_of_ble_eq_true rfl)
  · replace c_1 := i_eq (x := p1) (y := 15) rfl (show (15 : Int32).toInt = 15 by decide) c_1
    refine lv_aload_n hx hb dX5_take_8 rfl (lv_at hl 0 rfl) ?_
    refine q_callVv (rest := []) (wr := []) X hK hT hA h (fun sz => gX5_advance_9820dfe l D cy h0 h1 h2 h3 p0 p1 p2 p3 w0 w1 p4 p5 w2 p6 p7 w3 f0 f1 hp0 (i_rng _) (i_rng _) (i_rng _) hp4 (i_rng _) hp6 hp7 (hpre0) (hpre3) (by (first | (clear hpre2 hpre3; omega) | omega)) sz) wm_3_68 wm_3_71 wm_1_2 hd_X5_advance wm_3_70 wp_1_8 (ci := 5) (q0 := 0) rfl rfl ⟨Nat.le_of_ble_eq_true rfl, Nat.le_of_ble_eq_true rfl⟩ hl.1 rfl (Nat.le_of_ble_eq_true rfl) dX5_take_9 ⟨Nat.le_of_ble_eq_true rfl, Nat.le_of_ble_eq_true rfl⟩ [0, 1, 2, 3] [] rfl rfl (by decide) rfl rfl (fun u_3 H locs w_3 h_3 => ?_)
    clear h
    obtain ⟨w3_0, w3_1, w3_2, w3_3, y3_0, y3_1, y3_2, y3_3, y3_4, y3_5, y3_6, _⟩ := w_3
    replace h_3 : qW D _ _ (wk_8964b4ae4 cy h0 h1 (u_3.2.1 0 0) (u_3.2.1 1 0) (u_3.2.1 2 0) (u_3.2.1 3 0) w0 w1 p4 p5 h1 w2 p6 p7 h2 h3 w3 h2 f0 h3 f1) _ _ := h_3
    refine lv_goto (tgt := 20) hx hb dX5_take_12 (by decide) ?_
    exact q_vret X hr hlk hK h_3 (fun _ => 0, (vcons (fun _ => (u_3.2.1 1 0)) (vcons (fun _ => (u_3.2.1 2 0)) (vcons (fun _ => (u_3.2.1 3 0)) (vcons (fun _ => (u_3.2.1 0 0)) (fun _ => (fun _ => 0)))))), fun _ _ => 0) ⟨w3_1, w3_2, w3_3, w3_0, y3_0, (show ((u_3.2.1 2 0) : Int32).toInt ≠ 0 ∨ ((u_3.2.1 1 0) : Int32).toInt = 26 ∨ ((u_3.2.1 1 0) : Int32).toInt = 27 ∨ ((u_3.2.1 0 0) : Int32).toInt + 1 < (p7 : Int32).toInt from by (first | (clear hpre2 hpre3 y3_1 y3_2 y3_4 y3_5; omega) | omega)), (show ((u_3.2.1 2 0) : Int32).toInt ≠ 0 ∨ ((u_3.2.1 0 0) : Int32).toInt = (p0 : Int32).toInt + 1 from by (first | (clear hpre2 hpre3 y3_1 y3_2 y3_4 y3_5; omega) | omega)), y3_2, y3_5, y3_3, (show ∀ vv : Nat → Int32, SIM f0 f1 vv (p7 : Int32).toInt (tak 15) (p0 : Int32).toInt (p1 : Int32).toInt (p2 : Int32).toInt (p3 : Int32).toInt ((u_3.2.1 0 0) : Int32).toInt ((u_3.2.1 1 0) : Int32).toInt ((u_3.2.1 2 0) : Int32).toInt ((u_3.2.1 3 0) : Int32).toInt from fun _ => sim_tk1 (by (first | assumption | (clear hpre2 hpre3 y3_1 y3_2 y3_4 y3_5; omega) | omega)) (by (first | assumption | (clear hpre2 hpre3 y3_1 y3_2 y3_4 y3_5; omega) | omega)) y3_6 (by (first | assumption | (clear hpre2 hpre3 y3_1 y3_2 y3_4 y3_5; omega) | omega))), trivial⟩ [0, 1, 2, 3] rfl rfl dX5_take_20 (Nat.le_of_ble_eq_true rfl) (Nat.le_of_ble_eq_true rfl)
set_option maxHeartbeats 4000000 in
set_option maxRecDepth 100000 in
theorem gX5_takeNumber_f1ade24 (l : Launch) (D : va_G) (cy : Nat → ClassId) (h0 : Nat) (h1 : Nat) (h2 : Nat) (h3 : Nat) (h4 : Nat) (p0 : Int32) (p1 : Int32) (p2 : Int32) (p3 : Int32) (p4 : Int32) (w0 : Value) (w1 : Value) (p5 : Int32) (p6 : Int32) (w2 : Value) (p7 : Int32) (p8 : Int32) (f0 : Nat → Int32) (f1 : Nat → Int32) (f2 : Nat → Int32) (hp0 : (-2147483648) ≤ (p0).toInt ∧ (p0).toInt ≤ 2147483647) (hp1 : (-1) ≤ (p1).toInt ∧ (p1).toInt ≤ 900) (hp2 : (-2147483648) ≤ (p2).toInt ∧ (p2).toInt ≤ 2147483647) (hp3 : (-2147483648) ≤ (p3).toInt ∧ (p3).toInt ≤ 2147483647) (hp4 : (-2147483648) ≤ (p4).toInt ∧ (p4).toInt ≤ 2147483647) (hp5 : 0 ≤ (p5).toInt ∧ (p5).toInt ≤ 900) (hp6 : (-2147483648) ≤ (p6).toInt ∧ (p6).toInt ≤ 2147483647) (hp7 : 0 ≤ (p7).toInt ∧ (p7).toInt ≤ 900) (hp8 : 0 ≤ (p8).toInt ∧ (p8).toInt ≤ 901) (hpre0 : KZ f0 (p8 : Int32).toInt) (hpre1 : 0 ≤ (p1 : Int32).toInt ∧ (p1 : Int32).toInt < (p8 : Int32).toInt) (hpre2 : (p3 : Int32).toInt ≠ 0 ∨ (p2 : Int32).toInt = 26 ∨ (p2 : Int32).toInt = 27 ∨ (p1 : Int32).toInt + 1 < (p8 : Int32).toInt) (hpre3 : (p3 : Int32).toInt = 0 ∨ (p2 : Int32).toInt = 27) (sz : Nat) : MI l yX5_takeNumber cX5_takeNumber 4 .int { frames := 1, cells := 0, slots := 0, locals := 21 } [.ref h0, .int p0, .int 999] D cy (wk_aa6ee0650 cy h0 h1 p1 p2 p3 p4 w0 w1 p5 p6 h1 w2 p7 p8 h2 h3 h4 h2 f0 h3 f1 h4 f2) sz (fun r u => ((-2147483648) ≤ r.toInt ∧ r.toInt ≤ 2147483647) ∧ ((-2147483648) ≤ (u.2.1 0 0).toInt ∧ (u.2.1 0 0).toInt ≤ 2147483647) ∧ ((-2147483648) ≤ (u.2.1 1 0).toInt ∧ (u.2.1 1 0).toInt ≤ 2147483647) ∧ ((-2147483648) ≤ (u.2.1 2 0).toInt ∧ (u.2.1 2 0).toInt ≤ 2147483647) ∧ ((-1) ≤ (u.2.1 3 0).toInt ∧ (u.2.1 3 0).toInt ≤ 900) ∧ (0 ≤ ((u.2.1 3 0) : Int32).toInt ∧ ((u.2.1 3 0) : Int32).toInt < (p8 : Int32).toInt) ∧ (((u.2.1 1 0) : Int32).toInt ≠ 0 ∨ ((u.2.1 0 0) : Int32).toInt = 26 ∨ ((u.2.1 0 0) : Int32).toInt = 27 ∨ ((u.2.1 3 0) : Int32).toInt + 1 < (p8 : Int32).toInt) ∧ (((u.2.1 1 0) : Int32).toInt ≠ 0 ∨ ((u.2.1 3 0) : Int32).toInt = (p1 : Int32).toInt + 1) ∧ (((u.2.1 1 0) : Int32).toInt ≠ 0 ∨ (p3 : Int32).toInt = 0) ∧ (((u.2.1 1 0) : Int32).toInt = 0 ∨ ((u.2.1 0 0) : Int32).toInt = 27) ∧ ((p1 : Int32).toInt ≤ ((u.2.1 3 0) : Int32).toInt) ∧ (SIM f0 f1 f2 (p8 : Int32).toInt (num (p0 : Int32).toInt 999) (p1 : Int32).toInt (p2 : Int32).toInt (p3 : Int32).toInt (p4 : Int32).toInt ((u.2.1 3 0) : Int32).toInt ((u.2.1 0 0) : Int32).toInt ((u.2.1 1 0) : Int32).toInt ((u.2.1 2 0) : Int32).toInt) ∧ (NMP ((u.2.1 1 0) : Int32).toInt (p2 : Int32).toInt (r : Int32).toInt (f2 ((p1 : Int32).toInt).toNat).toInt) ∧ True) (fun u => (wk_aa6ee0650 cy h0 h1 (u.2.1 3 0) (u.2.1 0 0) (u.2.1 1 0) (u.2.1 2 0) w0 w1 p5 p6 h1 w2 p7 p8 h2 h3 h4 h2 f0 h3 f1 h4 f2)) 0 0 := by
  refine q_ent (own := RX5) (by decide) rfl (Nat.le_of_ble_eq_true rfl) (fun p e s m below meth c ls X hr hlk hnm hK hT h hA hl => ?_)
  obtain ⟨hx, hb, hml, hown, ht⟩ := id X
  replace hl : lv_has ls 4 [(0, .ref h0), (1, .int p0), (2, .int 999)] := hl
  refine lv_aload_n hx hb dX5_takeNumber_0 rfl (lv_at hl 0 rfl) ?_
  refine q_get X hK h 0 rfl rfl wf_5 2 (by decide) rfl wm_1_146 dX5_takeNumber_1 ?_
  refine lv_bipush (v := 25) hx hb dX5_takeNumber_4 (by decide) ?_
  refine lv_icmp_eq (tgt := 16) hx hb dX5_takeNumber_6 (by decide) (fun c_1 => ?_) (fun c_1 => ?_)
  · replace c_1 := i_eq (x := p2) (y := 25) rfl (show (25 : Int32).toInt = 25 by decide) c_1
    refine lv_aload_n hx hb dX5_takeNumber_16 rfl (lv_at hl 0 rfl) ?_
    refine q_get X hK h 0 rfl rfl wf_5 0 (by decide) rfl wm_1_144 dX5_takeNumber_17 ?_
    refine q_get X hK h 1 rfl rfl wf_8 5 (by decide) rfl wm_1_52 dX5_takeNumber_20 ?_
    refine lv_aload_n hx hb dX5_takeNumber_23 rfl (lv_at hl 0 rfl) ?_
    refine q_get X hK h 0 rfl rfl wf_5 1 (by decide) rfl wm_1_145 dX5_takeNumber_24 ?_
    refine q_iald X hK h 4 rfl (i_in rfl (by omega) (by omega)) dX5_takeNumber_27 ?_
    obtain ⟨z_2, ez_2, hz_2⟩ := e_any (f2 p1.toNatClampNeg)
    refine q_c z_2 ez_2 ?_
    refine lv_istore_n (lv' := [(3, .int z_2), (0, .ref h0), (1, .int p0), (2, .int 999)]) hx hb dX5_takeNumber_28 rfl hl (by decide) rfl (fun ls_3 hl_3 => ?_)
    clear hl
    refine lv_iload_n hx hb dX5_takeNumber_29 rfl (lv_at hl_3 0 rfl) ?_
    refine lv_iload_n hx hb dX5_takeNumber_30 rfl (lv_at hl_3 2 rfl) ?_
    refine lv_icmp_lt (tgt := 39) hx hb dX5_takeNumber_31 (by decide) (fun c_4 => ?_) (fun c_4 => ?_)
    · replace c_4 := i_lt (x := z_2) (y := p0) rfl rfl c_4
      refine lv_aload_n hx hb dX5_takeNumber_39 rfl (lv_at hl_3 1 rfl) ?_
      refine lv_iconst (v := 3) hx hb dX5_takeNumber_40 (by decide) ?_
      refine q_callVv (rest := []) (wr := (wk_5f0ef36a6 cy h2 f0 h4 f2)) X hK hT hA h (fun sz => gX5_refuse_3ecba60 l D cy h0 h1 h3 p1 p2 p3 p4 w0 w1 p5 p6 w2 p7 p8 (.ref h2) (.ref h4) f1 hp1 (i_rng _) (i_rng _) (i_rng _) hp5 (i_rng _) hp7 hp8 (hpre1) (hpre3) (by have q0 : (3 : Int32).toInt = 3 := (by decide); (first | (clear hpre2 hpre3; omega) | omega)) sz) wm_3_76 wm_3_79 wm_1_2 hd_X5_refuse wm_3_78 wp_1_10 (ci := 5) (q0 := 0) rfl rfl ⟨Nat.le_of_ble_eq_true rfl, Nat.le_of_ble_eq_true rfl⟩ hl_3.1 rfl (Nat.le_of_ble_eq_true rfl) dX5_takeNumber_41 ⟨Nat.le_of_ble_eq_true rfl, Nat.le_of_ble_eq_true rfl⟩ [0, 1, 3] [2, 4] rfl rfl (by decide) rfl rfl (fun u_5 H locs w_5 h_5 => ?_)
      clear h
      obtain ⟨w5_0, w5_1, w5_2, y5_0, y5_1, y5_2, _⟩ := w_5
      have lq_5_1 : (3 : Int32).toInt = 3 := (by decide)
      replace h_5 : qW D _ _ (wk_1a85a4215 cy h2 f0 h4 f2 h0 h1 p1 (u_5.2.1 0 0) (u_5.2.1 1 0) (u_5.2.1 2 0) w0 w1 p5 p6 h1 w2 p7 p8 h2 h3 h4 h3 f1) _ _ := h_5
      refine lv_iload_n hx hb dX5_takeNumber_44 rfl (lv_at hl_3 2 rfl) ?_
      exact q_iret X hr hlk hK h_5 rfl (fun _ => 0, (vcons (fun _ => (u_5.2.1 0 0)) (vcons (fun _ => (u_5.2.1 1 0)) (vcons (fun _ => (u_5.2.1 2 0)) (vcons (fun _ => p1) (fun _ => (fun _ => 0)))))), fun _ _ => 0) ⟨hp0, w5_0, w5_1, w5_2, hp1, hpre1, (show ((u_5.2.1 1 0) : Int32).toInt ≠ 0 ∨ ((u_5.2.1 0 0) : Int32).toInt = 26 ∨ ((u_5.2.1 0 0) : Int32).toInt = 27 ∨ (p1 : Int32).toInt + 1 < (p8 : Int32).toInt from by (first | (clear hpre2 hpre3 y5_1; omega) | omega)), (show ((u_5.2.1 1 0) : Int32).toInt ≠ 0 ∨ (p1 : Int32).toInt = (p1 : Int32).toInt + 1 from by (first | (clear hpre2 hpre3 y5_1; omega) | omega)), (show ((u_5.2.1 1 0) : Int32).toInt ≠ 0 ∨ (p3 : Int32).toInt = 0 from by (first | (clear hpre2 hpre3 y5_1; omega) | omega)), y5_1, (show (p1 : Int32).toInt ≤ (p1 : Int32).toInt from (Int.le_refl _)), (show SIM f0 f1 f2 (p8 : Int32).toInt (num (p0 : Int32).toInt 999) (p1 : Int32).toInt (p2 : Int32).toInt (p3 : Int32).toInt (p4 : Int32).toInt (p1 : Int32).toInt ((u_5.2.1 0 0) : Int32).toInt ((u_5.2.1 1 0) : Int32).toInt ((u_5.2.1 2 0) : Int32).toInt from sim_nm2 (by (first | assumption | (clear hpre2 hpre3 y5_1; omega) | omega)) (by (first | assumption | (clear hpre2 hpre3 y5_1; omega) | omega)) (by (first | assumption | (clear hpre2 hpre3 y5_1; omega) | omega)) (congrArg Int32.toInt ez_2).symm (by (first | assumption | (clear hpre2 hpre3 y5_1; omega) | omega)) (y5_2 _ _)), (show NMP ((u_5.2.1 1 0) : Int32).toInt (p2 : Int32).toInt (p0 : Int32).toInt (f2 ((p1 : Int32).toInt).toNat).toInt from Or.inl (by (first | assumption | (clear hpre2 hpre3 y5_1; omega) | omega))), trivial⟩ [2, 3, 0, 4, 1] rfl rfl dX5_takeNumber_45 (Nat.le_of_ble_eq_true rfl) (Nat.le_of_ble_eq_true rfl)
    · replace c_4 := i_nlt (x := z_2) (y := p0) rfl rfl c_4
      refine lv_iload_n hx hb dX5_takeNumber_34 rfl (lv_at hl_3 0 rfl) ?_
      refine lv_iload_n hx hb dX5_takeNumber_35 rfl (lv_at hl_3 3 rfl) ?_
      refine lv_icmp_le (tgt := 46) hx hb dX5_takeNumber_36 (by decide) (fun c_6 => ?_) (fun c_6 => ?_)
      · replace c_6 := i_le (x := z_2) (y := 999) rfl (show (999 : Int32).toInt = 999 by decide) c_6
        refine lv_aload_n hx hb dX5_takeNumber_46 rfl (lv_at hl_3 1 rfl) ?_
        refine q_callVv (rest := []) (wr := [(h4, .inl (cy 1, 901, .inl f2))]) X hK hT hA h (fun sz => gX5_advance_9820dfe l D cy h0 h1 h2 h3 p1 p2 p3 p4 w0 w1 p5 p6 w2 p7 p8 (.ref h4) f0 f1 hp1 (i_rng _) (i_rng _) (i_rng _) hp5 (i_rng _) hp7 hp8 (hpre0) (hpre3) (by (first | (clear hpre2 hpre3; omega) | omega)) sz) wm_3_68 wm_3_71 wm_1_2 hd_X5_advance wm_3_70 wp_1_8 (ci := 5) (q0 := 0) rfl rfl ⟨Nat.le_of_ble_eq_true rfl, Nat.le_of_ble_eq_true rfl⟩ hl_3.1 rfl (Nat.le_of_ble_eq_true rfl) dX5_takeNumber_47 ⟨Nat.le_of_ble_eq_true rfl, Nat.le_of_ble_eq_true rfl⟩ [0, 1, 2, 3] [4] rfl rfl (by decide) rfl rfl (fun u_7 H locs w_7 h_7 => ?_)
        clear h
        obtain ⟨w7_0, w7_1, w7_2, w7_3, y7_0, y7_1, y7_2, y7_3, y7_4, y7_5, y7_6, _⟩ := w_7
        replace h_7 : qW D _ _ (wk_84183f5c8 cy h4 f2 h0 h1 (u_7.2.1 0 0) (u_7.2.1 1 0) (u_7.2.1 2 0) (u_7.2.1 3 0) w0 w1 p5 p6 h1 w2 p7 p8 h2 h3 h4 h2 f0 h3 f1) _ _ := h_7
        refine lv_iload_n hx hb dX5_takeNumber_50 rfl (lv_at hl_3 0 rfl) ?_
        exact q_iret X hr hlk hK h_7 rfl (fun _ => 0, (vcons (fun _ => (u_7.2.1 1 0)) (vcons (fun _ => (u_7.2.1 2 0)) (vcons (fun _ => (u_7.2.1 3 0)) (vcons (fun _ => (u_7.2.1 0 0)) (fun _ => (fun _ => 0)))))), fun _ _ => 0) ⟨⟨by omega, by omega⟩, w7_1, w7_2, w7_3, w7_0, y7_0, (show ((u_7.2.1 2 0) : Int32).toInt ≠ 0 ∨ ((u_7.2.1 1 0) : Int32).toInt = 26 ∨ ((u_7.2.1 1 0) : Int32).toInt = 27 ∨ ((u_7.2.1 0 0) : Int32).toInt + 1 < (p8 : Int32).toInt from by (first | (clear hpre2 hpre3 y7_1 y7_2 y7_4 y7_5; omega) | omega)), (show ((u_7.2.1 2 0) : Int32).toInt ≠ 0 ∨ ((u_7.2.1 0 0) : Int32).toInt = (p1 : Int32).toInt + 1 from by (first | (clear hpre2 hpre3 y7_1 y7_2 y7_4 y7_5; omega) | omega)), y7_2, y7_5, y7_3, (show SIM f0 f1 f2 (p8 : Int32).toInt (num (p0 : Int32).toInt 999) (p1 : Int32).toInt (p2 : Int32).toInt (p3 : Int32).toInt (p4 : Int32).toInt ((u_7.2.1 0 0) : Int32).toInt ((u_7.2.1 1 0) : Int32).toInt ((u_7.2.1 2 0) : Int32).toInt ((u_7.2.1 3 0) : Int32).toInt from sim_nm3 (by (first | assumption | (clear hpre2 hpre3 y7_1 y7_2 y7_4 y7_5; omega) | omega)) (by (first | assumption | (clear hpre2 hpre3 y7_1 y7_2 y7_4 y7_5; omega) | omega)) (by (first | assumption | (clear hpre2 hpre3 y7_1 y7_2 y7_4 y7_5; omega) | omega)) (congrArg Int32.toInt ez_2).symm (by (first | assumption | (clear hpre2 hpre3 y7_1 y7_2 y7_4 y7_5; omega) | omega)) y7_6 (by (first | assumption | (clear hpre2 hpre3 y7_1 y7_2 y7_4 y7_5; omega) | omega))), (show NMP ((u_7.2.1 2 0) : Int32).toInt (p2 : Int32).toInt (z_2 : Int32).toInt (f2 ((p1 : Int32).toInt).toNat).toInt from Or.inr ⟨(by (first | assumption | (clear hpre2 hpre3 y7_1 y7_2 y7_4 y7_5; omega) | omega)), (congrArg Int32.toInt ez_2).symm⟩), trivial⟩ [1, 2, 3, 4, 0] rfl rfl dX5_takeNumber_51 (Nat.le_of_ble_eq_true rfl) (Nat.le_of_ble_eq_true rfl)
      · replace c_6 := i_nle (x := z_2) (y := 999) rfl (show (999 : Int32).toInt = 999 by decide) c_6
        refine lv_aload_n hx hb dX5_takeNumber_39 rfl (lv_at hl_3 1 rfl) ?_
        refine lv_iconst (v := 3) hx hb dX5_takeNumber_40 (by decide) ?_
        refine q_callVv (rest := []) (wr := (wk_5f0ef36a6 cy h2 f0 h4 f2)) X hK hT hA h (fun sz => gX5_refuse_3ecba60 l D cy h0 h1 h3 p1 p2 p3 p4 w0 w1 p5 p6 w2 p7 p8 (.ref h2) (.ref h4) f1 hp1 (i_rng _) (i_rng _) (i_rng _) hp5 (i_rng _) hp7 hp8 (hpre1) (hpre3) (by have q0 : (3 : Int32).toInt = 3 := (by decide); (first | (clear hpre2 hpre3; omega) | omega)) sz) wm_3_76 wm_3_79 wm_1_2 hd_X5_refuse wm_3_78 wp_1_10 (ci := 5) (q0 := 0) rfl rfl ⟨Nat.le_of_ble_eq_true rfl, Nat.le_of_ble_eq_true rfl⟩ hl_3.1 rfl (Nat.le_of_ble_eq_true rfl) dX5_takeNumber_41 ⟨Nat.le_of_ble_eq_true rfl, Nat.le_of_ble_eq_true rfl⟩ [0, 1, 3] [2, 4] rfl rfl (by decide) rfl rfl (fun u_8 H locs w_8 h_8 => ?_)
        clear h
        obtain ⟨w8_0, w8_1, w8_2, y8_0, y8_1, y8_2, _⟩ := w_8
        have lq_8_1 : (3 : Int32).toInt = 3 := (by decide)
        replace h_8 : qW D _ _ (wk_1a85a4215 cy h2 f0 h4 f2 h0 h1 p1 (u_8.2.1 0 0) (u_8.2.1 1 0) (u_8.2.1 2 0) w0 w1 p5 p6 h1 w2 p7 p8 h2 h3 h4 h3 f1) _ _ := h_8
        refine lv_iload_n hx hb dX5_takeNumber_44 rfl (lv_at hl_3 2 rfl) ?_
        exact q_iret X hr hlk hK h_8 rfl (fun _ => 0, (vcons (fun _ => (u_8.2.1 0 0)) (vcons (fun _ => (u_8.2.1 1 0)) (vcons (fun _ => (u_8.2.1 2 0)) (vcons (fun _ => p1) (fun _ => (fun _ => 0)))))), fun _ _ => 0) ⟨hp0, w8_0, w8_1, w8_2, hp1, hpre1, (show ((u_8.2.1 1 0) : Int32).toInt ≠ 0 ∨ ((u_8.2.1 0 0) : Int32).toInt = 26 ∨ ((u_8.2.1 0 0) : Int32).toInt = 27 ∨ (p1 : Int32).toInt + 1 < (p8 : Int32).toInt from by (first | (clear hpre2 hpre3 y8_1; omega) | omega)), (show ((u_8.2.1 1 0) : Int32).toInt ≠ 0 ∨ (p1 : Int32).toInt = (p1 : Int32).toInt + 1 from by (first | (clear hpre2 hpre3 y8_1; omega) | omega)), (show ((u_8.2.1 1 0) : Int32).toInt ≠ 0 ∨ (p3 : Int32).toInt = 0 from by (first | (clear hpre2 hpre3 y8_1; omega) | omega)), y8_1, (show (p1 : Int32).toInt ≤ (p1 : Int32).toInt from (Int.le_refl _)), (show SIM f0 f1 f2 (p8 : Int32).toInt (num (p0 : Int32).toInt 999) (p1 : Int32).toInt (p2 : Int32).toInt (p3 : Int32).toInt (p4 : Int32).toInt (p1 : Int32).toInt ((u_8.2.1 0 0) : Int32).toInt ((u_8.2.1 1 0) : Int32).toInt ((u_8.2.1 2 0) : Int32).toInt from sim_nm2 (by (first | assumption | (clear hpre2 hpre3 y8_1; omega) | omega)) (by (first | assumption | (clear hpre2 hpre3 y8_1; omega) | omega)) (by (first | assumption | (clear hpre2 hpre3 y8_1; omega) | omega)) (congrArg Int32.toInt ez_2).symm (by (first | assumption | (clear hpre2 hpre3 y8_1; omega) | omega)) (y8_2 _ _)), (show NMP ((u_8.2.1 1 0) : Int32).toInt (p2 : Int32).toInt (p0 : Int32).toInt (f2 ((p1 : Int32).toInt).toNat).toInt from Or.inl (by (first | assumption | (clear hpre2 hpre3 y8_1; omega) | omega))), trivial⟩ [2, 3, 0, 4, 1] rfl rfl dX5_takeNumber_45 (Nat.le_of_ble_eq_true rfl) (Nat.le_of_ble_eq_true rfl)
  · replace c_1 := i_ne (x := p2) (y := 25) rfl (show (25 : Int32).toInt = 25 by decide) c_1
    refine lv_aload_n hx hb dX5_takeNumber_9 rfl (lv_at hl 0 rfl) ?_
    refine lv_iconst (v := 2) hx hb dX5_takeNumber_10 (by decide) ?_
    refine q_callVv (rest := []) (wr := (wk_5f0ef36a6 cy h2 f0 h4 f2)) X hK hT hA h (fun sz => gX5_refuse_067fcff l D cy h0 h1 h3 p1 p2 p3 p4 w0 w1 p5 p6 w2 p7 p8 (.ref h2) (.ref h4) f1 hp1 (i_rng _) (i_rng _) (i_rng _) hp5 (i_rng _) hp7 hp8 (hpre1) (hpre3) (by have q0 : (2 : Int32).toInt = 2 := (by decide); (first | (clear hpre2 hpre3; omega) | omega)) sz) wm_3_76 wm_3_79 wm_1_2 hd_X5_refuse wm_3_78 wp_1_10 (ci := 5) (q0 := 0) rfl rfl ⟨Nat.le_of_ble_eq_true rfl, Nat.le_of_ble_eq_true rfl⟩ hl.1 rfl (Nat.le_of_ble_eq_true rfl) dX5_takeNumber_11 ⟨Nat.le_of_ble_eq_true rfl, Nat.le_of_ble_eq_true rfl⟩ [0, 1, 3] [2, 4] rfl rfl (by decide) rfl rfl (fun u_9 H locs w_9 h_9 => ?_)
    clear h
    obtain ⟨w9_0, w9_1, w9_2, y9_0, y9_1, y9_2, _⟩ := w_9
    have lq_9_1 : (2 : Int32).toInt = 2 := (by decide)
    replace h_9 : qW D _ _ (wk_1a85a4215 cy h2 f0 h4 f2 h0 h1 p1 (u_9.2.1 0 0) (u_9.2.1 1 0) (u_9.2.1 2 0) w0 w1 p5 p6 h1 w2 p7 p8 h2 h3 h4 h3 f1) _ _ := h_9
    refine lv_iload_n hx hb dX5_takeNumber_14 rfl (lv_at hl 1 rfl) ?_
    exact q_iret X hr hlk hK h_9 rfl (fun _ => 0, (vcons (fun _ => (u_9.2.1 0 0)) (vcons (fun _ => (u_9.2.1 1 0)) (vcons (fun _ => (u_9.2.1 2 0)) (vcons (fun _ => p1) (fun _ => (fun _ => 0)))))), fun _ _ => 0) ⟨hp0, w9_0, w9_1, w9_2, hp1, hpre1, (show ((u_9.2.1 1 0) : Int32).toInt ≠ 0 ∨ ((u_9.2.1 0 0) : Int32).toInt = 26 ∨ ((u_9.2.1 0 0) : Int32).toInt = 27 ∨ (p1 : Int32).toInt + 1 < (p8 : Int32).toInt from by (first | (clear hpre2 hpre3 y9_1; omega) | omega)), (show ((u_9.2.1 1 0) : Int32).toInt ≠ 0 ∨ (p1 : Int32).toInt = (p1 : Int32).toInt + 1 from by (first | (clear hpre2 hpre3 y9_1; omega) | omega)), (show ((u_9.2.1 1 0) : Int32).toInt ≠ 0 ∨ (p3 : Int32).toInt = 0 from by (first | (clear hpre2 hpre3 y9_1; omega) | omega)), y9_1, (show (p1 : Int32).toInt ≤ (p1 : Int32).toInt from (Int.le_refl _)), (show SIM f0 f1 f2 (p8 : Int32).toInt (num (p0 : Int32).toInt 999) (p1 : Int32).toInt (p2 : Int32).toInt (p3 : Int32).toInt (p4 : Int32).toInt (p1 : Int32).toInt ((u_9.2.1 0 0) : Int32).toInt ((u_9.2.1 1 0) : Int32).toInt ((u_9.2.1 2 0) : Int32).toInt from sim_nm1 (by (first | assumption | (clear hpre2 hpre3 y9_1; omega) | omega)) (y9_2 _ _)), (show NMP ((u_9.2.1 1 0) : Int32).toInt (p2 : Int32).toInt (p0 : Int32).toInt (f2 ((p1 : Int32).toInt).toNat).toInt from Or.inl (by (first | assumption | (clear hpre2 hpre3 y9_1; omega) | omega))), trivial⟩ [2, 3, 0, 4, 1] rfl rfl dX5_takeNumber_15 (Nat.le_of_ble_eq_true rfl) (Nat.le_of_ble_eq_true rfl)
