def wk_01e9d1fed (cy : Nat → ClassId) (a0 a1 : Nat) (a2 : Value) (a3 : Nat) (a4 : Nat → Int32) : va_W := [(a0, .inr (6, [.ref a1, a2])), (a3, .inl (cy 1, 11, .inl a4))]
def wk_a56b72400 (cy : Nat → ClassId) (a0 a1 a2 a3 : Nat) (a4 : Nat → Int32) (a5 : Nat) (a6 : Nat → Int32) (a7 : Nat) (a8 : Nat → Int32) : va_W := [(a0, .inr (4, [.ref a1])), (a2, .inl (cy 1, a3, .inl a4)), (a5, .inl (cy 1, 11, .inl a6)), (a7, .inl (cy 1, 64, .inl a8))]
def wk_30ddd02c2 (cy : Nat → ClassId) (a0 a1 a2 a3 : Nat) (a4 : Nat → Int32) (a5 : Nat) (a6 : Nat → Int32) (a7 a8 a9 a10 : Nat) (a11 : Nat → Int32) : va_W := [(a0, .inr (6, [.ref a1, .ref a2])), (a3, .inl (cy 1, 11, .inl a4)), (a5, .inl (cy 1, 64, .inl a6)), (a7, .inr (4, [.ref a8])), (a9, .inl (cy 1, a10, .inl a11))]
def wk_2f6f0e8e5 (cy : Nat → ClassId) (a0 : Nat) (a1 : Nat → Int32) (a2 a3 a4 a5 : Nat) (a6 : Nat → Int32) : va_W := [(a0, .inl (cy 1, 64, .inl a1)), (a2, .inr (4, [.ref a3])), (a4, .inl (cy 1, a5, .inl a6))]
def wk_0ecad2cfc (cy : Nat → ClassId) (a0 : Nat) (a1 : Nat → Int32) (a2 a3 a4 a5 : Nat) (a6 : Nat → Int32) (a7 a8 a9 a10 : Nat) (a11 : Nat → Int32) : va_W := [(a0, .inl (cy 1, 64, .inl a1)), (a2, .inr (4, [.ref a3])), (a4, .inl (cy 1, a5, .inl a6)), (a7, .inr (6, [.ref a8, .ref a9])), (a10, .inl (cy 1, 11, .inl a11))]
def wk_977223d2e (cy : Nat → ClassId) (a0 a1 a2 a3 a4 a5 a6 : Nat) (a7 : Nat → Int32) (a8 : Nat) (a9 : Nat → Int32) (a10 : Nat) (a11 : Nat → Int32) : va_W := [(a0, .inr (6, [.ref a1, .ref a2])), (a3, .inr (4, [.ref a4])), (a5, .inl (cy 1, a6, .inl a7)), (a8, .inl (cy 1, 11, .inl a9)), (a10, .inl (cy 1, 64, .inl a11))]
def wk_61955d11b (cy : Nat → ClassId) (a0 : Nat) (a1 : Int32) (a2 : Nat) (a3 a4 : Value) (a5 : Nat) (a6 : Nat → Int32) : va_W := [(a0, .inr (0, [.int a1, .ref a2, a3, a4])), (a5, .inl (cy 1, 10, .inl a6))]
def wk_1002ad98f (cy : Nat → ClassId) (a0 : Nat) (a1 : Int32) (a2 a3 : Value) (a4 a5 : Nat) (a6 : Nat → Int32) (a7 : Nat) (a8 : Nat → Int32) : va_W := [(a0, .inr (0, [.int a1, a2, a3, .ref a4])), (a5, .inl (cy 1, 1024, .inl a6)), (a7, .inl (cy 1, 10, .inl a8))]
def wk_a3a6c9aae (cy : Nat → ClassId) (a0 : Nat) (a1 : Int32) (a2 : Nat) (a3 : Value) (a4 a5 : Nat) (a6 : Nat → Int32) (a7 : Nat) (a8 : Nat → Int32) (a9 : Nat) (a10 : Nat → Int32) : va_W := [(a0, .inr (0, [.int a1, .ref a2, a3, .ref a4])), (a5, .inl (cy 1, 10, .inl a6)), (a7, .inl (cy 1, 1024, .inl a8)), (a9, .inl (cy 1, 10, .inl a10))]
def wk_4a40733b9 (cy : Nat → ClassId) (a0 : Nat) (a1 : Nat → Int32) (a2 : Nat) (a3 : Int32) (a4 : Nat) (a5 : Value) (a6 a7 : Nat) (a8 : Nat → Int32) (a9 : Nat) (a10 : Nat → Int32) : va_W := [(a0, .inl (cy 1, 10, .inl a1)), (a2, .inr (0, [.int a3, .ref a4, a5, .ref a6])), (a7, .inl (cy 1, 1024, .inl a8)), (a9, .inl (cy 1, 10, .inl a10))]
def wk_e21eaa19b (cy : Nat → ClassId) (a0 : Nat) (a1 : Int32) (a2 a3 : Value) (a4 a5 : Nat) (a6 : Nat → Int32) : va_W := [(a0, .inr (0, [.int a1, a2, a3, .ref a4])), (a5, .inl (cy 1, 1024, .inl a6))]
def wk_8292aab77 (cy : Nat → ClassId) (a0 : Nat) (a1 : Int32) (a2 a3 : Nat) (a4 : Value) (a5 : Nat) (a6 : Nat → Int32) (a7 : Nat) (a8 : Nat → Int32) : va_W := [(a0, .inr (0, [.int a1, .ref a2, .ref a3, a4])), (a5, .inl (cy 1, 10, .inl a6)), (a7, .inl (cy 1, 1024, .inl a8))]
def wk_10d8fb0cf (cy : Nat → ClassId) (a0 : Nat) (a1 : Int32) (a2 : Nat) (a3 : Value) (a4 a5 : Nat) (a6 : Nat → Int32) (a7 : Nat) (a8 : Nat → Int32) : va_W := [(a0, .inr (0, [.int a1, .ref a2, a3, .ref a4])), (a5, .inl (cy 1, 10, .inl a6)), (a7, .inl (cy 1, 1024, .inl a8))]
def wk_1bb86faf4 (cy : Nat → ClassId) (a0 : Nat) (a1 : Nat → Int32) (a2 : Nat) (a3 : Int32) (a4 : Nat) (a5 : Value) (a6 a7 : Nat) (a8 : Nat → Int32) : va_W := [(a0, .inl (cy 1, 10, .inl a1)), (a2, .inr (0, [.int a3, .ref a4, a5, .ref a6])), (a7, .inl (cy 1, 1024, .inl a8))]
def wk_0eb249344 (a0 : Nat) (a1 : Value) (a2 a3 a4 : Int32) (a5 : Value) (a6 : Nat) (a7 a8 a9 a10 a11 a12 a13 a14 a15 a16 : Value) (a17 : Int32) (a18 a19 : Nat) (a20 a21 : Int32) (a22 : Value) (a23 : Nat) (a24 a25 a26 a27 : Int32) (a28 a29 a30 a31 a32 a33 a34 a35 : Value) : va_W := [(a0, .inr (11, [a1, .int a2, .int a3, .int a4, a5, .ref a6, a7, a8, a9, a10, a11, a12, a13, a14, a15, a16, .int a17])), (a18, .inr (7, [.ref a19, .int a20, .int a21, a22])), (a23, .inr (3, [.int a24, .int a25, .int a26, .int a27, a28, a29, a30, a31, a32, a33, a34, a35]))]
def wk_c74bf9a7d (cy : Nat → ClassId) (a0 : Nat) (a1 a2 : Value) (a3 a4 : Nat) (a5 a6 : Int32) (a7 a8 : Nat) (a9 a10 a11 a12 : Int32) (a13 a14 a15 a16 a17 a18 a19 : Value) (a20 : Nat) (a21 : Nat → Int32) : va_W := [(a0, .inr (6, [a1, a2])), (a3, .inr (7, [.ref a4, .int a5, .int a6, .ref a7])), (a8, .inr (3, [.int a9, .int a10, .int a11, .int a12, .null, a13, a14, a15, a16, a17, a18, a19])), (a20, .inl (cy 1, 10, .inl a21))]
def wk_c1cec6de2 (cy : Nat → ClassId) (a0 a1 : Nat) (a2 a3 : Int32) (a4 : Value) (a5 : Nat) (a6 a7 a8 a9 : Int32) (a10 a11 a12 a13 : Value) (a14 a15 : Nat) (a16 a17 : Value) (a18 : Nat) (a19 : Nat → Int32) (a20 : Nat) (a21 : Nat → Int32) : va_W := [(a0, .inr (7, [.ref a1, .int a2, .int a3, a4])), (a5, .inr (3, [.int a6, .int a7, .int a8, .int a9, a10, a11, a12, a13, .ref a14, .ref a15, a16, a17])), (a18, .inl (cy 1, 10, .inl a19)), (a20, .inl (cy 1, 10, .inl a21))]
def wk_c05efe297 (cy : Nat → ClassId) (a0 a1 : Nat) (a2 : Value) (a3 : Nat) (a4 : Nat → Int32) (a5 a6 : Nat) (a7 a8 : Int32) (a9 a10 : Nat) (a11 a12 a13 a14 : Int32) (a15 a16 a17 a18 a19 a20 a21 : Value) (a22 : Nat) (a23 : Nat → Int32) : va_W := [(a0, .inr (6, [.ref a1, a2])), (a3, .inl (cy 1, 11, .inl a4)), (a5, .inr (7, [.ref a6, .int a7, .int a8, .ref a9])), (a10, .inr (3, [.int a11, .int a12, .int a13, .int a14, a15, a16, .null, a17, a18, a19, a20, a21])), (a22, .inl (cy 1, 10, .inl a23))]
def wk_d89942814 (cy : Nat → ClassId) (a0 a1 : Nat) (a2 a3 : Int32) (a4 a5 : Nat) (a6 a7 a8 a9 : Int32) (a10 a11 a12 a13 a14 a15 a16 : Value) (a17 : Nat) (a18 : Nat → Int32) : va_W := [(a0, .inr (7, [.ref a1, .int a2, .int a3, .ref a4])), (a5, .inr (3, [.int a6, .int a7, .int a8, .int a9, a10, a11, .null, a12, a13, a14, a15, a16])), (a17, .inl (cy 1, 10, .inl a18))]
def wk_86288d064 (cy : Nat → ClassId) (a0 a1 : Nat) (a2 a3 : Int32) (a4 a5 : Nat) (a6 a7 a8 a9 : Int32) (a10 a11 a12 a13 a14 a15 a16 : Value) (a17 : Nat) (a18 : Nat → Int32) (a19 a20 : Nat) (a21 : Value) (a22 : Nat) (a23 : Nat → Int32) : va_W := [(a0, .inr (7, [.ref a1, .int a2, .int a3, .ref a4])), (a5, .inr (3, [.int a6, .int a7, .int a8, .int a9, a10, a11, .null, a12, a13, a14, a15, a16])), (a17, .inl (cy 1, 10, .inl a18)), (a19, .inr (6, [.ref a20, a21])), (a22, .inl (cy 1, 11, .inl a23))]
def wk_7461af695 (cy : Nat → ClassId) (a0 : Nat) (a1 a2 a3 a4 : Int32) (a5 : Value) (a6 a7 a8 a9 : Nat) (a10 : Nat → Int32) (a11 : Nat) (a12 : Nat → Int32) (a13 : Nat) (a14 : Nat → Int32) (a15 a16 : Nat) (a17 a18 : Int32) (a19 a20 : Nat) (a21 a22 a23 a24 : Int32) (a25 a26 : Value) (a27 a28 : Nat) (a29 a30 : Value) (a31 : Nat) (a32 : Nat → Int32) (a33 : Nat) (a34 : Nat → Int32) (a35 : Nat) (a36 : Nat → Int32) (a37 a38 : Nat) (a39 : Value) (a40 : Nat) (a41 : Nat → Int32) : va_W := [(a0, .inr (10, [.int a1, .int a2, .int a3, .int a4, a5, .ref a6, .ref a7, .ref a8])), (a9, .inl (cy 1, 1000, .inl a10)), (a11, .inl (cy 1, 1000, .inl a12)), (a13, .inl (cy 1, 1000, .inl a14)), (a15, .inr (7, [.ref a16, .int a17, .int a18, .ref a19])), (a20, .inr (3, [.int a21, .int a22, .int a23, .int a24, .null, a25, .null, a26, .ref a27, .ref a28, a29, a30])), (a31, .inl (cy 1, 10, .inl a32)), (a33, .inl (cy 1, 10, .inl a34)), (a35, .inl (cy 1, 10, .inl a36)), (a37, .inr (6, [.ref a38, a39])), (a40, .inl (cy 1, 11, .inl a41))]
def wk_c804accc5 (cy : Nat → ClassId) (a0 : Nat) (a1 a2 a3 a4 : Int32) (a5 : Value) (a6 a7 a8 a9 : Nat) (a10 : Nat → Int32) (a11 : Nat) (a12 : Nat → Int32) (a13 : Nat) (a14 : Nat → Int32) (a15 a16 : Nat) (a17 : Value) (a18 : Nat) (a19 : Nat → Int32) (a20 a21 : Nat) (a22 a23 : Int32) (a24 a25 : Nat) (a26 a27 a28 a29 : Int32) (a30 a31 : Value) (a32 a33 : Nat) (a34 a35 : Value) (a36 : Nat) (a37 : Nat → Int32) (a38 : Nat) (a39 : Nat → Int32) (a40 : Nat) (a41 : Nat → Int32) : va_W := [(a0, .inr (10, [.int a1, .int a2, .int a3, .int a4, a5, .ref a6, .ref a7, .ref a8])), (a9, .inl (cy 1, 1000, .inl a10)), (a11, .inl (cy 1, 1000, .inl a12)), (a13, .inl (cy 1, 10, .inl a14)), (a15, .inr (6, [.ref a16, a17])), (a18, .inl (cy 1, 11, .inl a19)), (a20, .inr (7, [.ref a21, .int a22, .int a23, .ref a24])), (a25, .inr (3, [.int a26, .int a27, .int a28, .int a29, .null, a30, .null, a31, .ref a32, .ref a33, a34, a35])), (a36, .inl (cy 1, 10, .inl a37)), (a38, .inl (cy 1, 10, .inl a39)), (a40, .inl (cy 1, 1000, .inl a41))]
def wk_0cebd9814 (cy : Nat → ClassId) (a0 : Nat) (a1 a2 a3 a4 : Int32) (a5 : Value) (a6 a7 a8 a9 : Nat) (a10 : Nat → Int32) (a11 : Nat) (a12 : Nat → Int32) (a13 : Nat) (a14 : Nat → Int32) (a15 : Nat) (a16 : Nat → Int32) (a17 : Nat) (a18 : Nat → Int32) (a19 : Nat) (a20 : Nat → Int32) (a21 a22 : Nat) (a23 : Value) (a24 a25 : Nat) (a26 a27 : Int32) (a28 a29 : Nat) (a30 a31 a32 a33 : Int32) (a34 a35 : Value) (a36 a37 : Nat) (a38 a39 : Value) (a40 : Nat) (a41 : Nat → Int32) : va_W := [(a0, .inr (10, [.int a1, .int a2, .int a3, .int a4, a5, .ref a6, .ref a7, .ref a8])), (a9, .inl (cy 1, 1000, .inl a10)), (a11, .inl (cy 1, 1000, .inl a12)), (a13, .inl (cy 1, 11, .inl a14)), (a15, .inl (cy 1, 10, .inl a16)), (a17, .inl (cy 1, 10, .inl a18)), (a19, .inl (cy 1, 1000, .inl a20)), (a21, .inr (6, [.ref a22, a23])), (a24, .inr (7, [.ref a25, .int a26, .int a27, .ref a28])), (a29, .inr (3, [.int a30, .int a31, .int a32, .int a33, .null, a34, .null, a35, .ref a36, .ref a37, a38, a39])), (a40, .inl (cy 1, 10, .inl a41))]
def wk_65d0764b1 (cy : Nat → ClassId) (a0 : Nat) (a1 a2 a3 a4 : Int32) (a5 : Value) (a6 a7 a8 a9 : Nat) (a10 : Nat → Int32) (a11 : Nat) (a12 : Nat → Int32) (a13 : Nat) (a14 : Nat → Int32) (a15 : Nat) (a16 : Nat → Int32) (a17 : Nat) (a18 : Nat → Int32) : va_W := [(a0, .inr (10, [.int a1, .int a2, .int a3, .int a4, a5, .ref a6, .ref a7, .ref a8])), (a9, .inl (cy 1, 1000, .inl a10)), (a11, .inl (cy 1, 1000, .inl a12)), (a13, .inl (cy 1, 10, .inl a14)), (a15, .inl (cy 1, 10, .inl a16)), (a17, .inl (cy 1, 1000, .inl a18))]
def wk_472fec6ee (cy : Nat → ClassId) (a0 : Nat) (a1 a2 a3 a4 : Int32) (a5 : Nat) (a6 : Value) (a7 a8 a9 : Nat) (a10 : Nat → Int32) (a11 : Nat) (a12 : Nat → Int32) (a13 : Nat) (a14 : Nat → Int32) : va_W := [(a0, .inr (10, [.int a1, .int a2, .int a3, .int a4, .ref a5, a6, .ref a7, .ref a8])), (a9, .inl (cy 1, 1000, .inl a10)), (a11, .inl (cy 1, 1000, .inl a12)), (a13, .inl (cy 1, 1000, .inl a14))]
theorem wm_1_1 : Cond.initialized RX11 ∈ WG := wg_t1 (List.mem_of_getElem? (i := 1) rfl) rfl
theorem wm_2_103 : Cond.fieldLink RX11 83 "OppositeHouse" "now" "LOppositeHouse$State;" ∈ WG := wg_t2 (List.mem_of_getElem? (i := 103) rfl) rfl
theorem wm_2_42 : Cond.fieldLink RX11 126 "OppositeHouse$State" "house" "LOppositeHouse$House;" ∈ WG := wg_t2 (List.mem_of_getElem? (i := 42) rfl) rfl
theorem wm_1_85 : Cond.fieldLink RX11 159 "OppositeHouse$House" "people" "I" ∈ WG := wg_t1 (List.mem_of_getElem? (i := 85) rfl) rfl
theorem wm_3_174 : Cond.methodLink RX11 122 yX11_isPerson ∈ WG := wg_t3 (List.mem_of_getElem? (i := 174) rfl) rfl
theorem wm_3_177 : Cond.code yX11_isPerson cX11_isPerson 2 (some .boolean) ∈ WG := wg_t3 (List.mem_of_getElem? (i := 177) rfl) rfl
theorem wm_3_176 : Cond.instanceMethod yX11_isPerson ∈ WG := wg_t3 (List.mem_of_getElem? (i := 176) rfl) rfl
theorem wp_2_8 : Cond.selects RX11 yX11_isPerson yX11_isPerson ∈ WG := wg_p (q := (yX11_isPerson, 17)) (wg_p2 (List.mem_of_getElem? (i := 8) rfl)) rfl
theorem wm_2_171 : Cond.static yJ9_min_7cf53 ∈ WG := wg_t2 (List.mem_of_getElem? (i := 171) rfl) rfl
theorem wm_1_13 : Cond.initialized RJ9 ∈ WG := wg_t1 (List.mem_of_getElem? (i := 13) rfl) rfl
theorem wm_2_172 : Cond.code yJ9_min_7cf53 cJ9_min_7cf53 2 (some .int) ∈ WG := wg_t2 (List.mem_of_getElem? (i := 172) rfl) rfl
theorem wm_2_43 : Cond.fieldLink RX7 9 "OppositeHouse$State" "day" "I" ∈ WG := wg_t2 (List.mem_of_getElem? (i := 43) rfl) rfl
theorem wm_2_37 : Cond.fieldLink RX7 22 "OppositeHouse$State" "house" "LOppositeHouse$House;" ∈ WG := wg_t2 (List.mem_of_getElem? (i := 37) rfl) rfl
theorem wm_1_83 : Cond.fieldLink RX7 42 "OppositeHouse$House" "people" "I" ∈ WG := wg_t1 (List.mem_of_getElem? (i := 83) rfl) rfl
theorem wm_1_106 : Cond.fieldLink RX7 45 "OppositeHouse$House" "first" "[I" ∈ WG := wg_t1 (List.mem_of_getElem? (i := 106) rfl) rfl
theorem wm_1_110 : Cond.fieldLink RX7 48 "OppositeHouse$House" "last" "[I" ∈ WG := wg_t1 (List.mem_of_getElem? (i := 110) rfl) rfl
theorem wm_2_48 : Cond.fieldLink RX7 15 "OppositeHouse$State" "away" "I" ∈ WG := wg_t2 (List.mem_of_getElem? (i := 48) rfl) rfl
theorem wm_3_183 : Cond.methodLink RX7 38 yX7_inTownOn ∈ WG := wg_t3 (List.mem_of_getElem? (i := 183) rfl) rfl
theorem wm_3_186 : Cond.code yX7_inTownOn cX7_inTownOn 4 (some .int) ∈ WG := wg_t3 (List.mem_of_getElem? (i := 186) rfl) rfl
theorem wm_1_9 : Cond.initialized RX7 ∈ WG := wg_t1 (List.mem_of_getElem? (i := 9) rfl) rfl
theorem wm_3_184 : Cond.instanceMethod yX7_inTownOn ∈ WG := wg_t3 (List.mem_of_getElem? (i := 184) rfl) rfl
theorem wm_3_185 : Cond.selects RX7 yX7_inTownOn yX7_inTownOn ∈ WG := wg_t3 (List.mem_of_getElem? (i := 185) rfl) rfl
theorem wm_3_182 : Cond.code yX7_inTown cX7_inTown 1 (some .int) ∈ WG := wg_t3 (List.mem_of_getElem? (i := 182) rfl) rfl
theorem wm_3_180 : Cond.instanceMethod yX7_inTown ∈ WG := wg_t3 (List.mem_of_getElem? (i := 180) rfl) rfl
theorem wm_3_181 : Cond.selects RX7 yX7_inTown yX7_inTown ∈ WG := wg_t3 (List.mem_of_getElem? (i := 181) rfl) rfl
theorem wm_2_41 : Cond.fieldLink RX6 28 "OppositeHouse$State" "house" "LOppositeHouse$House;" ∈ WG := wg_t2 (List.mem_of_getElem? (i := 41) rfl) rfl
theorem wm_1_94 : Cond.fieldLink RX6 34 "OppositeHouse$House" "opposing" "LOppositeHouse$Law;" ∈ WG := wg_t1 (List.mem_of_getElem? (i := 94) rfl) rfl
theorem wm_2_53 : Cond.fieldLink RX6 40 "OppositeHouse$State" "views" "[I" ∈ WG := wg_t2 (List.mem_of_getElem? (i := 53) rfl) rfl
theorem wm_3_199 : Cond.code yX6_areOpposites cX6_areOpposites 8 (some .boolean) ∈ WG := wg_t3 (List.mem_of_getElem? (i := 199) rfl) rfl
theorem wm_1_5 : Cond.initialized RX6 ∈ WG := wg_t1 (List.mem_of_getElem? (i := 5) rfl) rfl
theorem wm_3_197 : Cond.instanceMethod yX6_areOpposites ∈ WG := wg_t3 (List.mem_of_getElem? (i := 197) rfl) rfl
theorem wm_3_198 : Cond.selects RX6 yX6_areOpposites yX6_areOpposites ∈ WG := wg_t3 (List.mem_of_getElem? (i := 198) rfl) rfl
theorem wm_1_184 : Cond.fieldLink RX6 9 "OppositeHouse$Scales" "given" "[I" ∈ WG := wg_t1 (List.mem_of_getElem? (i := 184) rfl) rfl
theorem wm_3_204 : Cond.methodLink RX6 18 yX6_put ∈ WG := wg_t3 (List.mem_of_getElem? (i := 204) rfl) rfl
theorem wm_3_207 : Cond.code yX6_put cX6_put 4 none ∈ WG := wg_t3 (List.mem_of_getElem? (i := 207) rfl) rfl
theorem wm_3_206 : Cond.instanceMethod yX6_put ∈ WG := wg_t3 (List.mem_of_getElem? (i := 206) rfl) rfl
theorem wp_2_10 : Cond.selects RX6 yX6_put yX6_put ∈ WG := wg_p (q := (yX6_put, 2)) (wg_p2 (List.mem_of_getElem? (i := 10) rfl)) rfl
theorem wm_1_185 : Cond.fieldLink RX6 15 "OppositeHouse$Scales" "held" "[I" ∈ WG := wg_t1 (List.mem_of_getElem? (i := 185) rfl) rfl
theorem wm_3_153 : Cond.fieldLink RX4 15 "OppositeHouse$Law" "steps" "[I" ∈ WG := wg_t3 (List.mem_of_getElem? (i := 153) rfl) rfl
theorem wm_3_215 : Cond.constantLong RX4 25 (-1000000) ∈ WG := wg_t3 (List.mem_of_getElem? (i := 215) rfl) rfl
theorem wm_3_216 : Cond.constantLong RX4 27 (1000000) ∈ WG := wg_t3 (List.mem_of_getElem? (i := 216) rfl) rfl
theorem wm_3_217 : Cond.methodLink RX4 29 yJ9_min_f86c9 ∈ WG := wg_t3 (List.mem_of_getElem? (i := 217) rfl) rfl
theorem wm_3_218 : Cond.static yJ9_min_f86c9 ∈ WG := wg_t3 (List.mem_of_getElem? (i := 218) rfl) rfl
theorem wm_3_219 : Cond.code yJ9_min_f86c9 cJ9_min_f86c9 4 (some .long) ∈ WG := wg_t3 (List.mem_of_getElem? (i := 219) rfl) rfl
theorem wm_3_220 : Cond.methodLink RX4 35 yJ9_max_f86c9 ∈ WG := wg_t3 (List.mem_of_getElem? (i := 220) rfl) rfl
theorem wm_3_221 : Cond.static yJ9_max_f86c9 ∈ WG := wg_t3 (List.mem_of_getElem? (i := 221) rfl) rfl
theorem wm_3_222 : Cond.code yJ9_max_f86c9 cJ9_max_f86c9 4 (some .long) ∈ WG := wg_t3 (List.mem_of_getElem? (i := 222) rfl) rfl
theorem wm_3_212 : Cond.methodLink RX4 21 yX4_joined ∈ WG := wg_t3 (List.mem_of_getElem? (i := 212) rfl) rfl
theorem wm_3_214 : Cond.code yX4_joined cX4_joined 5 (some .int) ∈ WG := wg_t3 (List.mem_of_getElem? (i := 214) rfl) rfl
theorem wm_1_19 : Cond.initialized RX4 ∈ WG := wg_t1 (List.mem_of_getElem? (i := 19) rfl) rfl
theorem wm_3_213 : Cond.static yX4_joined ∈ WG := wg_t3 (List.mem_of_getElem? (i := 213) rfl) rfl
theorem wm_3_208 : Cond.methodLink RX6 22 yX4_valueFor ∈ WG := wg_t3 (List.mem_of_getElem? (i := 208) rfl) rfl
theorem wm_3_211 : Cond.code yX4_valueFor cX4_valueFor 7 (some .int) ∈ WG := wg_t3 (List.mem_of_getElem? (i := 211) rfl) rfl
theorem wm_3_209 : Cond.instanceMethod yX4_valueFor ∈ WG := wg_t3 (List.mem_of_getElem? (i := 209) rfl) rfl
theorem wm_3_210 : Cond.selects RX4 yX4_valueFor yX4_valueFor ∈ WG := wg_t3 (List.mem_of_getElem? (i := 210) rfl) rfl
theorem wm_1_198 : Cond.fieldLink RX0 9 "OppositeHouse$Circle" "people" "I" ∈ WG := wg_t1 (List.mem_of_getElem? (i := 198) rfl) rfl
theorem wm_1_199 : Cond.fieldLink RX0 15 "OppositeHouse$Circle" "rows" "[I" ∈ WG := wg_t1 (List.mem_of_getElem? (i := 199) rfl) rfl
theorem wm_4_107 : Cond.code yJ7_fill_53178 cJ7_fill_53178 4 none ∈ WG := wg_t4 (List.mem_of_getElem? (i := 107) rfl) rfl
theorem wm_1_20 : Cond.initialized RJ7 ∈ WG := wg_t1 (List.mem_of_getElem? (i := 20) rfl) rfl
theorem wm_4_106 : Cond.static yJ7_fill_53178 ∈ WG := wg_t4 (List.mem_of_getElem? (i := 106) rfl) rfl
theorem wm_1_6 : Cond.initialized RX0 ∈ WG := wg_t1 (List.mem_of_getElem? (i := 6) rfl) rfl
theorem wm_4_60 : Cond.constant RJ6 265 (1431655765) ∈ WG := wg_t4 (List.mem_of_getElem? (i := 60) rfl) rfl
theorem wm_4_61 : Cond.constant RJ6 266 (858993459) ∈ WG := wg_t4 (List.mem_of_getElem? (i := 61) rfl) rfl
theorem wm_4_62 : Cond.constant RJ6 267 (252645135) ∈ WG := wg_t4 (List.mem_of_getElem? (i := 62) rfl) rfl
theorem wm_4_116 : Cond.methodLink RX0 49 yJ6_bitCount_0f7a4 ∈ WG := wg_t4 (List.mem_of_getElem? (i := 116) rfl) rfl
theorem wm_4_59 : Cond.code yJ6_bitCount_0f7a4 cJ6_bitCount_0f7a4 1 (some .int) ∈ WG := wg_t4 (List.mem_of_getElem? (i := 59) rfl) rfl
theorem wm_1_22 : Cond.initialized RJ6 ∈ WG := wg_t1 (List.mem_of_getElem? (i := 22) rfl) rfl
theorem wm_4_58 : Cond.static yJ6_bitCount_0f7a4 ∈ WG := wg_t4 (List.mem_of_getElem? (i := 58) rfl) rfl
theorem wm_4_113 : Cond.methodLink RX0 55 yX0_lowestOf ∈ WG := wg_t4 (List.mem_of_getElem? (i := 113) rfl) rfl
theorem wm_4_115 : Cond.code yX0_lowestOf cX0_lowestOf 1 (some .int) ∈ WG := wg_t4 (List.mem_of_getElem? (i := 115) rfl) rfl
theorem wm_4_114 : Cond.static yX0_lowestOf ∈ WG := wg_t4 (List.mem_of_getElem? (i := 114) rfl) rfl
theorem wm_4_117 : Cond.methodLink RX0 58 yX0_canSit ∈ WG := wg_t4 (List.mem_of_getElem? (i := 117) rfl) rfl
theorem wm_4_112 : Cond.code yX0_canSit cX0_canSit 6 (some .boolean) ∈ WG := wg_t4 (List.mem_of_getElem? (i := 112) rfl) rfl
theorem wm_4_110 : Cond.instanceMethod yX0_canSit ∈ WG := wg_t4 (List.mem_of_getElem? (i := 110) rfl) rfl
theorem wm_4_111 : Cond.selects RX0 yX0_canSit yX0_canSit ∈ WG := wg_t4 (List.mem_of_getElem? (i := 111) rfl) rfl
theorem wm_1_203 : Cond.fieldLink RX0 22 "OppositeHouse$Circle" "worth" "[I" ∈ WG := wg_t1 (List.mem_of_getElem? (i := 203) rfl) rfl
theorem wm_4_157 : Cond.methodLink RX0 62 yX0_worthWith ∈ WG := wg_t4 (List.mem_of_getElem? (i := 157) rfl) rfl
theorem wm_4_160 : Cond.code yX0_worthWith cX0_worthWith 5 (some .int) ∈ WG := wg_t4 (List.mem_of_getElem? (i := 160) rfl) rfl
theorem wm_4_159 : Cond.instanceMethod yX0_worthWith ∈ WG := wg_t4 (List.mem_of_getElem? (i := 159) rfl) rfl
theorem wp_3_6 : Cond.selects RX0 yX0_worthWith yX0_worthWith ∈ WG := wg_p (q := (yX0_worthWith, 4)) (wg_p3 (List.mem_of_getElem? (i := 6) rfl)) rfl
theorem wm_4_161 : Cond.methodLink RX0 66 yJ9_max_7cf53 ∈ WG := wg_t4 (List.mem_of_getElem? (i := 161) rfl) rfl
theorem wm_3_23 : Cond.static yJ9_max_7cf53 ∈ WG := wg_t3 (List.mem_of_getElem? (i := 23) rfl) rfl
theorem wm_3_24 : Cond.code yJ9_max_7cf53 cJ9_max_7cf53 2 (some .int) ∈ WG := wg_t3 (List.mem_of_getElem? (i := 24) rfl) rfl
theorem wm_4_165 : Cond.code yX0_twosOf cX0_twosOf 2 (some .int) ∈ WG := wg_t4 (List.mem_of_getElem? (i := 165) rfl) rfl
theorem wm_4_163 : Cond.instanceMethod yX0_twosOf ∈ WG := wg_t4 (List.mem_of_getElem? (i := 163) rfl) rfl
theorem wm_4_164 : Cond.selects RX0 yX0_twosOf yX0_twosOf ∈ WG := wg_t4 (List.mem_of_getElem? (i := 164) rfl) rfl
theorem wm_4_174 : Cond.methodLink RX0 72 yX0_firstPartner ∈ WG := wg_t4 (List.mem_of_getElem? (i := 174) rfl) rfl
theorem wm_4_177 : Cond.code yX0_firstPartner cX0_firstPartner 6 (some .int) ∈ WG := wg_t4 (List.mem_of_getElem? (i := 177) rfl) rfl
theorem wm_4_176 : Cond.instanceMethod yX0_firstPartner ∈ WG := wg_t4 (List.mem_of_getElem? (i := 176) rfl) rfl
theorem wp_3_7 : Cond.selects RX0 yX0_firstPartner yX0_firstPartner ∈ WG := wg_p (q := (yX0_firstPartner, 4)) (wg_p3 (List.mem_of_getElem? (i := 7) rfl)) rfl
theorem wm_1_201 : Cond.fieldLink RX0 19 "OppositeHouse$Circle" "partings" "[I" ∈ WG := wg_t1 (List.mem_of_getElem? (i := 201) rfl) rfl
theorem wm_4_194 : Cond.methodLink RX0 79 yX0_twosOf ∈ WG := wg_t4 (List.mem_of_getElem? (i := 194) rfl) rfl
theorem wm_4_199 : Cond.methodLink RX0 76 yX0_pieceOf ∈ WG := wg_t4 (List.mem_of_getElem? (i := 199) rfl) rfl
theorem wm_4_202 : Cond.code yX0_pieceOf cX0_pieceOf 8 (some .int) ∈ WG := wg_t4 (List.mem_of_getElem? (i := 202) rfl) rfl
theorem wm_4_201 : Cond.instanceMethod yX0_pieceOf ∈ WG := wg_t4 (List.mem_of_getElem? (i := 201) rfl) rfl
theorem wp_3_8 : Cond.selects RX0 yX0_pieceOf yX0_pieceOf ∈ WG := wg_p (q := (yX0_pieceOf, 4)) (wg_p3 (List.mem_of_getElem? (i := 8) rfl)) rfl
theorem wm_4_195 : Cond.methodLink RX0 82 yX0_countPieces ∈ WG := wg_t4 (List.mem_of_getElem? (i := 195) rfl) rfl
theorem wm_4_198 : Cond.code yX0_countPieces cX0_countPieces 7 (some .int) ∈ WG := wg_t4 (List.mem_of_getElem? (i := 198) rfl) rfl
theorem wm_4_196 : Cond.instanceMethod yX0_countPieces ∈ WG := wg_t4 (List.mem_of_getElem? (i := 196) rfl) rfl
theorem wm_4_197 : Cond.selects RX0 yX0_countPieces yX0_countPieces ∈ WG := wg_t4 (List.mem_of_getElem? (i := 197) rfl) rfl
theorem wm_4_57 : Cond.methodLink RX11 193 yJ6_bitCount_0f7a4 ∈ WG := wg_t4 (List.mem_of_getElem? (i := 57) rfl) rfl
theorem wm_4_228 : Cond.methodLink RX0 86 yX0_opposeAllOf ∈ WG := wg_t4 (List.mem_of_getElem? (i := 228) rfl) rfl
theorem wm_4_231 : Cond.code yX0_opposeAllOf cX0_opposeAllOf 4 (some .boolean) ∈ WG := wg_t4 (List.mem_of_getElem? (i := 231) rfl) rfl
theorem wm_4_230 : Cond.instanceMethod yX0_opposeAllOf ∈ WG := wg_t4 (List.mem_of_getElem? (i := 230) rfl) rfl
theorem wp_3_9 : Cond.selects RX0 yX0_opposeAllOf yX0_opposeAllOf ∈ WG := wg_p (q := (yX0_opposeAllOf, 4)) (wg_p3 (List.mem_of_getElem? (i := 9) rfl)) rfl
theorem wm_1_219 : Cond.fieldLink RX10 9 "OppositeHouse$Turning" "one" "I" ∈ WG := wg_t1 (List.mem_of_getElem? (i := 219) rfl) rfl
theorem wm_1_220 : Cond.fieldLink RX10 15 "OppositeHouse$Turning" "other" "I" ∈ WG := wg_t1 (List.mem_of_getElem? (i := 220) rfl) rfl
theorem wm_2_51 : Cond.fieldLink RX10 37 "OppositeHouse$State" "views" "[I" ∈ WG := wg_t2 (List.mem_of_getElem? (i := 51) rfl) rfl
theorem wm_2_44 : Cond.fieldLink RX10 42 "OppositeHouse$State" "day" "I" ∈ WG := wg_t2 (List.mem_of_getElem? (i := 44) rfl) rfl
theorem wm_5_7 : Cond.methodLink RX10 45 yX6_areOpposites ∈ WG := wg_t5 (List.mem_of_getElem? (i := 7) rfl) rfl
theorem wm_5_8 : Cond.methodLink RX10 51 yX7_inTown ∈ WG := wg_t5 (List.mem_of_getElem? (i := 8) rfl) rfl
theorem wm_1_227 : Cond.fieldLink RX10 31 "OppositeHouse$Turning" "from" "[I" ∈ WG := wg_t1 (List.mem_of_getElem? (i := 227) rfl) rfl
theorem wm_5_13 : Cond.methodLink RX10 63 yJ7_fill_53178 ∈ WG := wg_t5 (List.mem_of_getElem? (i := 13) rfl) rfl
theorem wm_1_226 : Cond.fieldLink RX10 28 "OppositeHouse$Turning" "queue" "[I" ∈ WG := wg_t1 (List.mem_of_getElem? (i := 226) rfl) rfl
theorem wm_2_40 : Cond.fieldLink RX10 69 "OppositeHouse$State" "house" "LOppositeHouse$House;" ∈ WG := wg_t2 (List.mem_of_getElem? (i := 40) rfl) rfl
theorem wm_1_82 : Cond.fieldLink RX10 73 "OppositeHouse$House" "people" "I" ∈ WG := wg_t1 (List.mem_of_getElem? (i := 82) rfl) rfl
theorem wm_2_46 : Cond.fieldLink RX6 58 "OppositeHouse$State" "day" "I" ∈ WG := wg_t2 (List.mem_of_getElem? (i := 46) rfl) rfl
theorem wm_1_77 : Cond.fieldLink RX6 61 "OppositeHouse$House" "lines" "I" ∈ WG := wg_t1 (List.mem_of_getElem? (i := 77) rfl) rfl
theorem wm_1_100 : Cond.fieldLink RX6 64 "OppositeHouse$House" "swaying" "LOppositeHouse$Law;" ∈ WG := wg_t1 (List.mem_of_getElem? (i := 100) rfl) rfl
theorem wm_4_30 : Cond.methodLink RX6 67 yX6_swayOf ∈ WG := wg_t4 (List.mem_of_getElem? (i := 30) rfl) rfl
theorem wm_4_33 : Cond.code yX6_swayOf cX6_swayOf 3 (some .int) ∈ WG := wg_t4 (List.mem_of_getElem? (i := 33) rfl) rfl
theorem wm_4_32 : Cond.instanceMethod yX6_swayOf ∈ WG := wg_t4 (List.mem_of_getElem? (i := 32) rfl) rfl
theorem wp_2_14 : Cond.selects RX6 yX6_swayOf yX6_swayOf ∈ WG := wg_p (q := (yX6_swayOf, 2)) (wg_p2 (List.mem_of_getElem? (i := 14) rfl)) rfl
theorem wm_4_34 : Cond.methodLink RX6 71 yJ6_compare_7cf53 ∈ WG := wg_t4 (List.mem_of_getElem? (i := 34) rfl) rfl
theorem wm_4_36 : Cond.code yJ6_compare_7cf53 cJ6_compare_7cf53 2 (some .int) ∈ WG := wg_t4 (List.mem_of_getElem? (i := 36) rfl) rfl
theorem wm_4_35 : Cond.static yJ6_compare_7cf53 ∈ WG := wg_t4 (List.mem_of_getElem? (i := 35) rfl) rfl
theorem wm_4_37 : Cond.methodLink RX6 77 yJ9_min_7cf53 ∈ WG := wg_t4 (List.mem_of_getElem? (i := 37) rfl) rfl
theorem wm_4_38 : Cond.methodLink RX6 82 yJ9_max_7cf53 ∈ WG := wg_t4 (List.mem_of_getElem? (i := 38) rfl) rfl
theorem wm_5_14 : Cond.methodLink RX10 78 yX6_swayed ∈ WG := wg_t5 (List.mem_of_getElem? (i := 14) rfl) rfl
theorem wm_4_29 : Cond.code yX6_swayed cX6_swayed 9 (some .int) ∈ WG := wg_t4 (List.mem_of_getElem? (i := 29) rfl) rfl
theorem wm_4_27 : Cond.instanceMethod yX6_swayed ∈ WG := wg_t4 (List.mem_of_getElem? (i := 27) rfl) rfl
theorem wm_4_28 : Cond.selects RX6 yX6_swayed yX6_swayed ∈ WG := wg_t4 (List.mem_of_getElem? (i := 28) rfl) rfl
theorem wm_1_228 : Cond.fieldLink RX10 34 "OppositeHouse$Turning" "by" "[I" ∈ WG := wg_t1 (List.mem_of_getElem? (i := 228) rfl) rfl
theorem wm_1_222 : Cond.fieldLink RX10 21 "OppositeHouse$Turning" "length" "I" ∈ WG := wg_t1 (List.mem_of_getElem? (i := 222) rfl) rfl
theorem wm_1_224 : Cond.fieldLink RX10 24 "OppositeHouse$Turning" "path" "[I" ∈ WG := wg_t1 (List.mem_of_getElem? (i := 224) rfl) rfl
theorem wf_0 : ∀ w ∈ u_ws RX0 TX0 4, w ∈ WG := by
  intro w hw
  obtain ⟨k, hk, rfl⟩ := List.mem_map.mp hw
  have hk := List.mem_range.mp hk
  match k, hk with
  | 0, _ => exact wg_t1 (List.mem_of_getElem? (i := 204) rfl) rfl
  | 1, _ => exact wg_t1 (List.mem_of_getElem? (i := 206) rfl) rfl
  | 2, _ => exact wg_t1 (List.mem_of_getElem? (i := 208) rfl) rfl
  | 3, _ => exact wg_t1 (List.mem_of_getElem? (i := 210) rfl) rfl
  | n + 4, hk => exact absurd hk (by omega)
theorem wf_3 : ∀ w ∈ u_ws RX3 TX3 12, w ∈ WG := by
  intro w hw
  obtain ⟨k, hk, rfl⟩ := List.mem_map.mp hw
  have hk := List.mem_range.mp hk
  match k, hk with
  | 0, _ => exact wg_t1 (List.mem_of_getElem? (i := 119) rfl) rfl
  | 1, _ => exact wg_t1 (List.mem_of_getElem? (i := 121) rfl) rfl
  | 2, _ => exact wg_t1 (List.mem_of_getElem? (i := 123) rfl) rfl
  | 3, _ => exact wg_t1 (List.mem_of_getElem? (i := 125) rfl) rfl
  | 4, _ => exact wg_t1 (List.mem_of_getElem? (i := 127) rfl) rfl
  | 5, _ => exact wg_t1 (List.mem_of_getElem? (i := 129) rfl) rfl
  | 6, _ => exact wg_t1 (List.mem_of_getElem? (i := 131) rfl) rfl
  | 7, _ => exact wg_t1 (List.mem_of_getElem? (i := 133) rfl) rfl
  | 8, _ => exact wg_t1 (List.mem_of_getElem? (i := 135) rfl) rfl
  | 9, _ => exact wg_t1 (List.mem_of_getElem? (i := 137) rfl) rfl
  | 10, _ => exact wg_t1 (List.mem_of_getElem? (i := 139) rfl) rfl
  | 11, _ => exact wg_t1 (List.mem_of_getElem? (i := 141) rfl) rfl
  | n + 12, hk => exact absurd hk (by omega)
theorem wf_4 : ∀ w ∈ u_ws RX4 TX4 1, w ∈ WG := by
  intro w hw
  obtain ⟨k, hk, rfl⟩ := List.mem_map.mp hw
  have hk := List.mem_range.mp hk
  match k, hk with
  | 0, _ => exact wg_t3 (List.mem_of_getElem? (i := 154) rfl) rfl
  | n + 1, hk => exact absurd hk (by omega)
theorem wf_6 : ∀ w ∈ u_ws RX6 TX6 2, w ∈ WG := by
  intro w hw
  obtain ⟨k, hk, rfl⟩ := List.mem_map.mp hw
  have hk := List.mem_range.mp hk
  match k, hk with
  | 0, _ => exact wg_t1 (List.mem_of_getElem? (i := 186) rfl) rfl
  | 1, _ => exact wg_t1 (List.mem_of_getElem? (i := 188) rfl) rfl
  | n + 2, hk => exact absurd hk (by omega)
theorem wf_7 : ∀ w ∈ u_ws RX7 TX7 4, w ∈ WG := by
  intro w hw
  obtain ⟨k, hk, rfl⟩ := List.mem_map.mp hw
  have hk := List.mem_range.mp hk
  match k, hk with
  | 0, _ => exact wg_t2 (List.mem_of_getElem? (i := 55) rfl) rfl
  | 1, _ => exact wg_t2 (List.mem_of_getElem? (i := 57) rfl) rfl
  | 2, _ => exact wg_t2 (List.mem_of_getElem? (i := 59) rfl) rfl
  | 3, _ => exact wg_t2 (List.mem_of_getElem? (i := 61) rfl) rfl
  | n + 4, hk => exact absurd hk (by omega)
theorem wf_10 : ∀ w ∈ u_ws RX10 TX10 8, w ∈ WG := by
  intro w hw
  obtain ⟨k, hk, rfl⟩ := List.mem_map.mp hw
  have hk := List.mem_range.mp hk
  match k, hk with
  | 0, _ => exact wg_t1 (List.mem_of_getElem? (i := 229) rfl) rfl
  | 1, _ => exact wg_t1 (List.mem_of_getElem? (i := 231) rfl) rfl
  | 2, _ => exact wg_t1 (List.mem_of_getElem? (i := 233) rfl) rfl
  | 3, _ => exact wg_t1 (List.mem_of_getElem? (i := 235) rfl) rfl
  | 4, _ => exact wg_t1 (List.mem_of_getElem? (i := 237) rfl) rfl
  | 5, _ => exact wg_t1 (List.mem_of_getElem? (i := 239) rfl) rfl
  | 6, _ => exact wg_t2 (List.mem_of_getElem? (i := 1) rfl) rfl
  | 7, _ => exact wg_t2 (List.mem_of_getElem? (i := 3) rfl) rfl
  | n + 8, hk => exact absurd hk (by omega)
theorem wf_11 : ∀ w ∈ u_ws RX11 TX11 17, w ∈ WG := by
  intro w hw
  obtain ⟨k, hk, rfl⟩ := List.mem_map.mp hw
  have hk := List.mem_range.mp hk
  match k, hk with
  | 0, _ => exact wg_t2 (List.mem_of_getElem? (i := 115) rfl) rfl
  | 1, _ => exact wg_t2 (List.mem_of_getElem? (i := 117) rfl) rfl
  | 2, _ => exact wg_t2 (List.mem_of_getElem? (i := 119) rfl) rfl
  | 3, _ => exact wg_t2 (List.mem_of_getElem? (i := 121) rfl) rfl
  | 4, _ => exact wg_t2 (List.mem_of_getElem? (i := 123) rfl) rfl
  | 5, _ => exact wg_t2 (List.mem_of_getElem? (i := 125) rfl) rfl
  | 6, _ => exact wg_t2 (List.mem_of_getElem? (i := 127) rfl) rfl
  | 7, _ => exact wg_t2 (List.mem_of_getElem? (i := 129) rfl) rfl
  | 8, _ => exact wg_t2 (List.mem_of_getElem? (i := 131) rfl) rfl
  | 9, _ => exact wg_t2 (List.mem_of_getElem? (i := 133) rfl) rfl
  | 10, _ => exact wg_t2 (List.mem_of_getElem? (i := 135) rfl) rfl
  | 11, _ => exact wg_t2 (List.mem_of_getElem? (i := 137) rfl) rfl
  | 12, _ => exact wg_t2 (List.mem_of_getElem? (i := 139) rfl) rfl
  | 13, _ => exact wg_t2 (List.mem_of_getElem? (i := 141) rfl) rfl
  | 14, _ => exact wg_t2 (List.mem_of_getElem? (i := 143) rfl) rfl
  | 15, _ => exact wg_t2 (List.mem_of_getElem? (i := 145) rfl) rfl
  | 16, _ => exact wg_t2 (List.mem_of_getElem? (i := 147) rfl) rfl
  | n + 17, hk => exact absurd hk (by omega)
theorem hd_X11_isPerson : yX11_isPerson.cls ≠ "java/lang/invoke/MethodHandle" ∧ yX11_isPerson.cls ≠ "java/lang/invoke/VarHandle" ∧ (parseMethodDescriptor yX11_isPerson.desc).map (fun d => d.parameters.length) = some 1 := by decide +kernel
theorem hd_X7_inTownOn : yX7_inTownOn.cls ≠ "java/lang/invoke/MethodHandle" ∧ yX7_inTownOn.cls ≠ "java/lang/invoke/VarHandle" ∧ (parseMethodDescriptor yX7_inTownOn.desc).map (fun d => d.parameters.length) = some 1 := by decide +kernel
theorem hd_X7_inTown : yX7_inTown.cls ≠ "java/lang/invoke/MethodHandle" ∧ yX7_inTown.cls ≠ "java/lang/invoke/VarHandle" ∧ (parseMethodDescriptor yX7_inTown.desc).map (fun d => d.parameters.length) = some 0 := by decide +kernel
theorem hd_X6_areOpposites : yX6_areOpposites.cls ≠ "java/lang/invoke/MethodHandle" ∧ yX6_areOpposites.cls ≠ "java/lang/invoke/VarHandle" ∧ (parseMethodDescriptor yX6_areOpposites.desc).map (fun d => d.parameters.length) = some 5 := by decide +kernel
theorem hd_X6_put : yX6_put.cls ≠ "java/lang/invoke/MethodHandle" ∧ yX6_put.cls ≠ "java/lang/invoke/VarHandle" ∧ (parseMethodDescriptor yX6_put.desc).map (fun d => d.parameters.length) = some 3 := by decide +kernel
theorem hd_X4_joined : yX4_joined.cls ≠ "java/lang/invoke/MethodHandle" ∧ yX4_joined.cls ≠ "java/lang/invoke/VarHandle" ∧ (parseMethodDescriptor yX4_joined.desc).map (fun d => d.parameters.length) = some 3 := by decide +kernel
theorem hd_X4_valueFor : yX4_valueFor.cls ≠ "java/lang/invoke/MethodHandle" ∧ yX4_valueFor.cls ≠ "java/lang/invoke/VarHandle" ∧ (parseMethodDescriptor yX4_valueFor.desc).map (fun d => d.parameters.length) = some 2 := by decide +kernel
theorem hd_J7_fill_53178 : yJ7_fill_53178.cls ≠ "java/lang/invoke/MethodHandle" ∧ yJ7_fill_53178.cls ≠ "java/lang/invoke/VarHandle" ∧ (parseMethodDescriptor yJ7_fill_53178.desc).map (fun d => d.parameters.length) = some 2 := by decide +kernel
theorem hd_J6_bitCount_0f7a4 : yJ6_bitCount_0f7a4.cls ≠ "java/lang/invoke/MethodHandle" ∧ yJ6_bitCount_0f7a4.cls ≠ "java/lang/invoke/VarHandle" ∧ (parseMethodDescriptor yJ6_bitCount_0f7a4.desc).map (fun d => d.parameters.length) = some 1 := by decide +kernel
theorem hd_X0_lowestOf : yX0_lowestOf.cls ≠ "java/lang/invoke/MethodHandle" ∧ yX0_lowestOf.cls ≠ "java/lang/invoke/VarHandle" ∧ (parseMethodDescriptor yX0_lowestOf.desc).map (fun d => d.parameters.length) = some 1 := by decide +kernel
theorem hd_X0_canSit : yX0_canSit.cls ≠ "java/lang/invoke/MethodHandle" ∧ yX0_canSit.cls ≠ "java/lang/invoke/VarHandle" ∧ (parseMethodDescriptor yX0_canSit.desc).map (fun d => d.parameters.length) = some 2 := by decide +kernel
theorem hd_X0_worthWith : yX0_worthWith.cls ≠ "java/lang/invoke/MethodHandle" ∧ yX0_worthWith.cls ≠ "java/lang/invoke/VarHandle" ∧ (parseMethodDescriptor yX0_worthWith.desc).map (fun d => d.parameters.length) = some 4 := by decide +kernel
theorem hd_X0_twosOf : yX0_twosOf.cls ≠ "java/lang/invoke/MethodHandle" ∧ yX0_twosOf.cls ≠ "java/lang/invoke/VarHandle" ∧ (parseMethodDescriptor yX0_twosOf.desc).map (fun d => d.parameters.length) = some 1 := by decide +kernel
theorem hd_X0_firstPartner : yX0_firstPartner.cls ≠ "java/lang/invoke/MethodHandle" ∧ yX0_firstPartner.cls ≠ "java/lang/invoke/VarHandle" ∧ (parseMethodDescriptor yX0_firstPartner.desc).map (fun d => d.parameters.length) = some 3 := by decide +kernel
theorem hd_X0_pieceOf : yX0_pieceOf.cls ≠ "java/lang/invoke/MethodHandle" ∧ yX0_pieceOf.cls ≠ "java/lang/invoke/VarHandle" ∧ (parseMethodDescriptor yX0_pieceOf.desc).map (fun d => d.parameters.length) = some 2 := by decide +kernel
theorem hd_X0_countPieces : yX0_countPieces.cls ≠ "java/lang/invoke/MethodHandle" ∧ yX0_countPieces.cls ≠ "java/lang/invoke/VarHandle" ∧ (parseMethodDescriptor yX0_countPieces.desc).map (fun d => d.parameters.length) = some 2 := by decide +kernel
theorem hd_X0_opposeAllOf : yX0_opposeAllOf.cls ≠ "java/lang/invoke/MethodHandle" ∧ yX0_opposeAllOf.cls ≠ "java/lang/invoke/VarHandle" ∧ (parseMethodDescriptor yX0_opposeAllOf.desc).map (fun d => d.parameters.length) = some 2 := by decide +kernel
theorem hd_X6_swayOf : yX6_swayOf.cls ≠ "java/lang/invoke/MethodHandle" ∧ yX6_swayOf.cls ≠ "java/lang/invoke/VarHandle" ∧ (parseMethodDescriptor yX6_swayOf.desc).map (fun d => d.parameters.length) = some 2 := by decide +kernel
theorem hd_J6_compare_7cf53 : yJ6_compare_7cf53.cls ≠ "java/lang/invoke/MethodHandle" ∧ yJ6_compare_7cf53.cls ≠ "java/lang/invoke/VarHandle" ∧ (parseMethodDescriptor yJ6_compare_7cf53.desc).map (fun d => d.parameters.length) = some 2 := by decide +kernel
theorem hd_X6_swayed : yX6_swayed.cls ≠ "java/lang/invoke/MethodHandle" ∧ yX6_swayed.cls ≠ "java/lang/invoke/VarHandle" ∧ (parseMethodDescriptor yX6_swayed.desc).map (fun d => d.parameters.length) = some 4 := by decide +kernel
theorem dJ6_bitCount_0f7a4_0 : decode cJ6_bitCount_0f7a4 0 = .ok (.iload_n 0, 1) := by decide +kernel
theorem dJ6_bitCount_0f7a4_1 : decode cJ6_bitCount_0f7a4 1 = .ok (.iload_n 0, 1) := by decide +kernel
theorem dJ6_bitCount_0f7a4_2 : decode cJ6_bitCount_0f7a4 2 = .ok (.iconst 1, 1) := by decide +kernel
theorem dJ6_bitCount_0f7a4_3 : decode cJ6_bitCount_0f7a4 3 = .ok (.iushr, 1) := by decide +kernel
theorem dJ6_bitCount_0f7a4_4 : decode cJ6_bitCount_0f7a4 4 = .ok (.ldc_w 265, 3) := by decide +kernel
theorem dJ6_bitCount_0f7a4_7 : decode cJ6_bitCount_0f7a4 7 = .ok (.iand, 1) := by decide +kernel
theorem dJ6_bitCount_0f7a4_8 : decode cJ6_bitCount_0f7a4 8 = .ok (.isub, 1) := by decide +kernel
theorem dJ6_bitCount_0f7a4_9 : decode cJ6_bitCount_0f7a4 9 = .ok (.istore_n 0, 1) := by decide +kernel
theorem dJ6_bitCount_0f7a4_10 : decode cJ6_bitCount_0f7a4 10 = .ok (.iload_n 0, 1) := by decide +kernel
theorem dJ6_bitCount_0f7a4_11 : decode cJ6_bitCount_0f7a4 11 = .ok (.ldc_w 266, 3) := by decide +kernel
theorem dJ6_bitCount_0f7a4_14 : decode cJ6_bitCount_0f7a4 14 = .ok (.iand, 1) := by decide +kernel
theorem dJ6_bitCount_0f7a4_15 : decode cJ6_bitCount_0f7a4 15 = .ok (.iload_n 0, 1) := by decide +kernel
theorem dJ6_bitCount_0f7a4_16 : decode cJ6_bitCount_0f7a4 16 = .ok (.iconst 2, 1) := by decide +kernel
theorem dJ6_bitCount_0f7a4_17 : decode cJ6_bitCount_0f7a4 17 = .ok (.iushr, 1) := by decide +kernel
theorem dJ6_bitCount_0f7a4_18 : decode cJ6_bitCount_0f7a4 18 = .ok (.ldc_w 266, 3) := by decide +kernel
theorem dJ6_bitCount_0f7a4_21 : decode cJ6_bitCount_0f7a4 21 = .ok (.iand, 1) := by decide +kernel
theorem dJ6_bitCount_0f7a4_22 : decode cJ6_bitCount_0f7a4 22 = .ok (.iadd, 1) := by decide +kernel
theorem dJ6_bitCount_0f7a4_23 : decode cJ6_bitCount_0f7a4 23 = .ok (.istore_n 0, 1) := by decide +kernel
theorem dJ6_bitCount_0f7a4_24 : decode cJ6_bitCount_0f7a4 24 = .ok (.iload_n 0, 1) := by decide +kernel
theorem dJ6_bitCount_0f7a4_25 : decode cJ6_bitCount_0f7a4 25 = .ok (.iload_n 0, 1) := by decide +kernel
theorem dJ6_bitCount_0f7a4_26 : decode cJ6_bitCount_0f7a4 26 = .ok (.iconst 4, 1) := by decide +kernel
theorem dJ6_bitCount_0f7a4_27 : decode cJ6_bitCount_0f7a4 27 = .ok (.iushr, 1) := by decide +kernel
theorem dJ6_bitCount_0f7a4_28 : decode cJ6_bitCount_0f7a4 28 = .ok (.iadd, 1) := by decide +kernel
theorem dJ6_bitCount_0f7a4_29 : decode cJ6_bitCount_0f7a4 29 = .ok (.ldc_w 267, 3) := by decide +kernel
theorem dJ6_bitCount_0f7a4_32 : decode cJ6_bitCount_0f7a4 32 = .ok (.iand, 1) := by decide +kernel
theorem dJ6_bitCount_0f7a4_33 : decode cJ6_bitCount_0f7a4 33 = .ok (.istore_n 0, 1) := by decide +kernel
theorem dJ6_bitCount_0f7a4_34 : decode cJ6_bitCount_0f7a4 34 = .ok (.iload_n 0, 1) := by decide +kernel
theorem dJ6_bitCount_0f7a4_35 : decode cJ6_bitCount_0f7a4 35 = .ok (.iload_n 0, 1) := by decide +kernel
theorem dJ6_bitCount_0f7a4_36 : decode cJ6_bitCount_0f7a4 36 = .ok (.bipush 8, 2) := by decide +kernel
theorem dJ6_bitCount_0f7a4_38 : decode cJ6_bitCount_0f7a4 38 = .ok (.iushr, 1) := by decide +kernel
theorem dJ6_bitCount_0f7a4_39 : decode cJ6_bitCount_0f7a4 39 = .ok (.iadd, 1) := by decide +kernel
theorem dJ6_bitCount_0f7a4_40 : decode cJ6_bitCount_0f7a4 40 = .ok (.istore_n 0, 1) := by decide +kernel
theorem dJ6_bitCount_0f7a4_41 : decode cJ6_bitCount_0f7a4 41 = .ok (.iload_n 0, 1) := by decide +kernel
theorem dJ6_bitCount_0f7a4_42 : decode cJ6_bitCount_0f7a4 42 = .ok (.iload_n 0, 1) := by decide +kernel
theorem dJ6_bitCount_0f7a4_43 : decode cJ6_bitCount_0f7a4 43 = .ok (.bipush 16, 2) := by decide +kernel
theorem dJ6_bitCount_0f7a4_45 : decode cJ6_bitCount_0f7a4 45 = .ok (.iushr, 1) := by decide +kernel
theorem dJ6_bitCount_0f7a4_46 : decode cJ6_bitCount_0f7a4 46 = .ok (.iadd, 1) := by decide +kernel
theorem dJ6_bitCount_0f7a4_47 : decode cJ6_bitCount_0f7a4 47 = .ok (.istore_n 0, 1) := by decide +kernel
theorem dJ6_bitCount_0f7a4_48 : decode cJ6_bitCount_0f7a4 48 = .ok (.iload_n 0, 1) := by decide +kernel
theorem dJ6_bitCount_0f7a4_49 : decode cJ6_bitCount_0f7a4 49 = .ok (.bipush 63, 2) := by decide +kernel
theorem dJ6_bitCount_0f7a4_51 : decode cJ6_bitCount_0f7a4 51 = .ok (.iand, 1) := by decide +kernel
theorem dJ6_bitCount_0f7a4_52 : decode cJ6_bitCount_0f7a4 52 = .ok (.ireturn, 1) := by decide +kernel
theorem dJ6_compare_7cf53_0 : decode cJ6_compare_7cf53 0 = .ok (.iload_n 0, 1) := by decide +kernel
theorem dJ6_compare_7cf53_1 : decode cJ6_compare_7cf53 1 = .ok (.iload_n 1, 1) := by decide +kernel
theorem dJ6_compare_7cf53_2 : decode cJ6_compare_7cf53 2 = .ok (.if_icmp .ge 7, 3) := by decide +kernel
theorem dJ6_compare_7cf53_5 : decode cJ6_compare_7cf53 5 = .ok (.iconst (-1), 1) := by decide +kernel
theorem dJ6_compare_7cf53_6 : decode cJ6_compare_7cf53 6 = .ok (.goto 13, 3) := by decide +kernel
theorem dJ6_compare_7cf53_9 : decode cJ6_compare_7cf53 9 = .ok (.iload_n 0, 1) := by decide +kernel
theorem dJ6_compare_7cf53_10 : decode cJ6_compare_7cf53 10 = .ok (.iload_n 1, 1) := by decide +kernel
theorem dJ6_compare_7cf53_11 : decode cJ6_compare_7cf53 11 = .ok (.if_icmp .ne 7, 3) := by decide +kernel
theorem dJ6_compare_7cf53_14 : decode cJ6_compare_7cf53 14 = .ok (.iconst 0, 1) := by decide +kernel
theorem dJ6_compare_7cf53_15 : decode cJ6_compare_7cf53 15 = .ok (.goto 4, 3) := by decide +kernel
theorem dJ6_compare_7cf53_18 : decode cJ6_compare_7cf53 18 = .ok (.iconst 1, 1) := by decide +kernel
theorem dJ6_compare_7cf53_19 : decode cJ6_compare_7cf53 19 = .ok (.ireturn, 1) := by decide +kernel
theorem dJ7_fill_53178_0 : decode cJ7_fill_53178 0 = .ok (.iconst 0, 1) := by decide +kernel
theorem dJ7_fill_53178_1 : decode cJ7_fill_53178 1 = .ok (.istore_n 2, 1) := by decide +kernel
theorem dJ7_fill_53178_2 : decode cJ7_fill_53178 2 = .ok (.aload_n 0, 1) := by decide +kernel
theorem dJ7_fill_53178_3 : decode cJ7_fill_53178 3 = .ok (.arraylength, 1) := by decide +kernel
theorem dJ7_fill_53178_4 : decode cJ7_fill_53178 4 = .ok (.istore_n 3, 1) := by decide +kernel
theorem dJ7_fill_53178_5 : decode cJ7_fill_53178 5 = .ok (.iload_n 2, 1) := by decide +kernel
theorem dJ7_fill_53178_6 : decode cJ7_fill_53178 6 = .ok (.iload_n 3, 1) := by decide +kernel
theorem dJ7_fill_53178_7 : decode cJ7_fill_53178 7 = .ok (.if_icmp .ge 13, 3) := by decide +kernel
theorem dJ7_fill_53178_10 : decode cJ7_fill_53178 10 = .ok (.aload_n 0, 1) := by decide +kernel
theorem dJ7_fill_53178_11 : decode cJ7_fill_53178 11 = .ok (.iload_n 2, 1) := by decide +kernel
theorem dJ7_fill_53178_12 : decode cJ7_fill_53178 12 = .ok (.iload_n 1, 1) := by decide +kernel
theorem dJ7_fill_53178_13 : decode cJ7_fill_53178 13 = .ok (.iastore, 1) := by decide +kernel
theorem dJ7_fill_53178_14 : decode cJ7_fill_53178 14 = .ok (.iinc 2 1, 3) := by decide +kernel
theorem dJ7_fill_53178_17 : decode cJ7_fill_53178 17 = .ok (.goto (-12), 3) := by decide +kernel
theorem dJ7_fill_53178_20 : decode cJ7_fill_53178 20 = .ok (.return_, 1) := by decide +kernel
theorem dX0_canSit_0 : decode cX0_canSit 0 = .ok (.iload_n 1, 1) := by decide +kernel
theorem dX0_canSit_1 : decode cX0_canSit 1 = .ok (.ifCond .ne 5, 3) := by decide +kernel
theorem dX0_canSit_4 : decode cX0_canSit 4 = .ok (.iconst 1, 1) := by decide +kernel
theorem dX0_canSit_5 : decode cX0_canSit 5 = .ok (.ireturn, 1) := by decide +kernel
theorem dX0_canSit_6 : decode cX0_canSit 6 = .ok (.iload_n 2, 1) := by decide +kernel
theorem dX0_canSit_7 : decode cX0_canSit 7 = .ok (.bipush 10, 2) := by decide +kernel
theorem dX0_canSit_9 : decode cX0_canSit 9 = .ok (.if_icmp .lt 5, 3) := by decide +kernel
theorem dX0_canSit_12 : decode cX0_canSit 12 = .ok (.iconst 0, 1) := by decide +kernel
theorem dX0_canSit_13 : decode cX0_canSit 13 = .ok (.ireturn, 1) := by decide +kernel
theorem dX0_canSit_14 : decode cX0_canSit 14 = .ok (.iload_n 1, 1) := by decide +kernel
theorem dX0_canSit_15 : decode cX0_canSit 15 = .ok (.invokestatic 55, 3) := by decide +kernel
theorem dX0_canSit_18 : decode cX0_canSit 18 = .ok (.istore_n 3, 1) := by decide +kernel
theorem dX0_canSit_19 : decode cX0_canSit 19 = .ok (.aload_n 0, 1) := by decide +kernel
theorem dX0_canSit_20 : decode cX0_canSit 20 = .ok (.getfield 15, 3) := by decide +kernel
theorem dX0_canSit_23 : decode cX0_canSit 23 = .ok (.iload_n 3, 1) := by decide +kernel
theorem dX0_canSit_24 : decode cX0_canSit 24 = .ok (.iaload, 1) := by decide +kernel
theorem dX0_canSit_25 : decode cX0_canSit 25 = .ok (.iload_n 1, 1) := by decide +kernel
theorem dX0_canSit_26 : decode cX0_canSit 26 = .ok (.iand, 1) := by decide +kernel
theorem dX0_canSit_27 : decode cX0_canSit 27 = .ok (.istore 4, 2) := by decide +kernel
theorem dX0_canSit_29 : decode cX0_canSit 29 = .ok (.iload_n 3, 1) := by decide +kernel
theorem dX0_canSit_30 : decode cX0_canSit 30 = .ok (.iconst 1, 1) := by decide +kernel
theorem dX0_canSit_31 : decode cX0_canSit 31 = .ok (.iadd, 1) := by decide +kernel
theorem dX0_canSit_32 : decode cX0_canSit 32 = .ok (.istore 5, 2) := by decide +kernel
theorem dX0_canSit_34 : decode cX0_canSit 34 = .ok (.iload 5, 2) := by decide +kernel
theorem dX0_canSit_36 : decode cX0_canSit 36 = .ok (.aload_n 0, 1) := by decide +kernel
theorem dX0_canSit_37 : decode cX0_canSit 37 = .ok (.getfield 9, 3) := by decide +kernel
theorem dX0_canSit_40 : decode cX0_canSit 40 = .ok (.if_icmp .ge 44, 3) := by decide +kernel
theorem dX0_canSit_43 : decode cX0_canSit 43 = .ok (.iload 4, 2) := by decide +kernel
theorem dX0_canSit_45 : decode cX0_canSit 45 = .ok (.iload 5, 2) := by decide +kernel
theorem dX0_canSit_47 : decode cX0_canSit 47 = .ok (.ishr, 1) := by decide +kernel
theorem dX0_canSit_48 : decode cX0_canSit 48 = .ok (.iconst 1, 1) := by decide +kernel
theorem dX0_canSit_49 : decode cX0_canSit 49 = .ok (.iand, 1) := by decide +kernel
theorem dX0_canSit_50 : decode cX0_canSit 50 = .ok (.iconst 1, 1) := by decide +kernel
theorem dX0_canSit_51 : decode cX0_canSit 51 = .ok (.if_icmp .ne 27, 3) := by decide +kernel
theorem dX0_canSit_54 : decode cX0_canSit 54 = .ok (.aload_n 0, 1) := by decide +kernel
theorem dX0_canSit_55 : decode cX0_canSit 55 = .ok (.iload_n 1, 1) := by decide +kernel
theorem dX0_canSit_56 : decode cX0_canSit 56 = .ok (.iconst 1, 1) := by decide +kernel
theorem dX0_canSit_57 : decode cX0_canSit 57 = .ok (.iload_n 3, 1) := by decide +kernel
theorem dX0_canSit_58 : decode cX0_canSit 58 = .ok (.ishl, 1) := by decide +kernel
theorem dX0_canSit_59 : decode cX0_canSit 59 = .ok (.iconst 1, 1) := by decide +kernel
theorem dX0_canSit_60 : decode cX0_canSit 60 = .ok (.iload 5, 2) := by decide +kernel
theorem dX0_canSit_62 : decode cX0_canSit 62 = .ok (.ishl, 1) := by decide +kernel
theorem dX0_canSit_63 : decode cX0_canSit 63 = .ok (.ior, 1) := by decide +kernel
theorem dX0_canSit_64 : decode cX0_canSit 64 = .ok (.iconst (-1), 1) := by decide +kernel
theorem dX0_canSit_65 : decode cX0_canSit 65 = .ok (.ixor, 1) := by decide +kernel
theorem dX0_canSit_66 : decode cX0_canSit 66 = .ok (.iand, 1) := by decide +kernel
theorem dX0_canSit_67 : decode cX0_canSit 67 = .ok (.iload_n 2, 1) := by decide +kernel
theorem dX0_canSit_68 : decode cX0_canSit 68 = .ok (.iconst 1, 1) := by decide +kernel
theorem dX0_canSit_69 : decode cX0_canSit 69 = .ok (.iadd, 1) := by decide +kernel
theorem dX0_canSit_70 : decode cX0_canSit 70 = .ok (.invokevirtual 58, 3) := by decide +kernel
theorem dX0_canSit_73 : decode cX0_canSit 73 = .ok (.ifCond .eq 5, 3) := by decide +kernel
theorem dX0_canSit_76 : decode cX0_canSit 76 = .ok (.iconst 1, 1) := by decide +kernel
theorem dX0_canSit_77 : decode cX0_canSit 77 = .ok (.ireturn, 1) := by decide +kernel
theorem dX0_canSit_78 : decode cX0_canSit 78 = .ok (.iinc 5 1, 3) := by decide +kernel
theorem dX0_canSit_81 : decode cX0_canSit 81 = .ok (.goto (-47), 3) := by decide +kernel
theorem dX0_canSit_84 : decode cX0_canSit 84 = .ok (.iconst 0, 1) := by decide +kernel
theorem dX0_canSit_85 : decode cX0_canSit 85 = .ok (.ireturn, 1) := by decide +kernel
theorem dX0_countPartings_0 : decode cX0_countPartings 0 = .ok (.aload_n 0, 1) := by decide +kernel
theorem dX0_countPartings_1 : decode cX0_countPartings 1 = .ok (.getfield 19, 3) := by decide +kernel
theorem dX0_countPartings_4 : decode cX0_countPartings 4 = .ok (.iconst 0, 1) := by decide +kernel
theorem dX0_countPartings_5 : decode cX0_countPartings 5 = .ok (.iconst 1, 1) := by decide +kernel
theorem dX0_countPartings_6 : decode cX0_countPartings 6 = .ok (.iastore, 1) := by decide +kernel
theorem dX0_countPartings_7 : decode cX0_countPartings 7 = .ok (.iconst 1, 1) := by decide +kernel
theorem dX0_countPartings_8 : decode cX0_countPartings 8 = .ok (.istore_n 1, 1) := by decide +kernel
theorem dX0_countPartings_9 : decode cX0_countPartings 9 = .ok (.iload_n 1, 1) := by decide +kernel
theorem dX0_countPartings_10 : decode cX0_countPartings 10 = .ok (.iconst 1, 1) := by decide +kernel
theorem dX0_countPartings_11 : decode cX0_countPartings 11 = .ok (.aload_n 0, 1) := by decide +kernel
theorem dX0_countPartings_12 : decode cX0_countPartings 12 = .ok (.getfield 9, 3) := by decide +kernel
theorem dX0_countPartings_15 : decode cX0_countPartings 15 = .ok (.ishl, 1) := by decide +kernel
theorem dX0_countPartings_16 : decode cX0_countPartings 16 = .ok (.if_icmp .ge 86, 3) := by decide +kernel
theorem dX0_countPartings_19 : decode cX0_countPartings 19 = .ok (.iload_n 1, 1) := by decide +kernel
theorem dX0_countPartings_20 : decode cX0_countPartings 20 = .ok (.invokestatic 55, 3) := by decide +kernel
theorem dX0_countPartings_23 : decode cX0_countPartings 23 = .ok (.istore_n 2, 1) := by decide +kernel
theorem dX0_countPartings_24 : decode cX0_countPartings 24 = .ok (.aload_n 0, 1) := by decide +kernel
theorem dX0_countPartings_25 : decode cX0_countPartings 25 = .ok (.getfield 15, 3) := by decide +kernel
theorem dX0_countPartings_28 : decode cX0_countPartings 28 = .ok (.iload_n 2, 1) := by decide +kernel
theorem dX0_countPartings_29 : decode cX0_countPartings 29 = .ok (.iaload, 1) := by decide +kernel
theorem dX0_countPartings_30 : decode cX0_countPartings 30 = .ok (.iload_n 1, 1) := by decide +kernel
theorem dX0_countPartings_31 : decode cX0_countPartings 31 = .ok (.iand, 1) := by decide +kernel
theorem dX0_countPartings_32 : decode cX0_countPartings 32 = .ok (.istore_n 3, 1) := by decide +kernel
theorem dX0_countPartings_33 : decode cX0_countPartings 33 = .ok (.iconst 0, 1) := by decide +kernel
theorem dX0_countPartings_34 : decode cX0_countPartings 34 = .ok (.istore 4, 2) := by decide +kernel
theorem dX0_countPartings_36 : decode cX0_countPartings 36 = .ok (.iload_n 2, 1) := by decide +kernel
theorem dX0_countPartings_37 : decode cX0_countPartings 37 = .ok (.iconst 1, 1) := by decide +kernel
theorem dX0_countPartings_38 : decode cX0_countPartings 38 = .ok (.iadd, 1) := by decide +kernel
theorem dX0_countPartings_39 : decode cX0_countPartings 39 = .ok (.istore 5, 2) := by decide +kernel
theorem dX0_countPartings_41 : decode cX0_countPartings 41 = .ok (.iload 5, 2) := by decide +kernel
theorem dX0_countPartings_43 : decode cX0_countPartings 43 = .ok (.aload_n 0, 1) := by decide +kernel
theorem dX0_countPartings_44 : decode cX0_countPartings 44 = .ok (.getfield 9, 3) := by decide +kernel
theorem dX0_countPartings_47 : decode cX0_countPartings 47 = .ok (.if_icmp .ge 41, 3) := by decide +kernel
theorem dX0_countPartings_50 : decode cX0_countPartings 50 = .ok (.iload_n 3, 1) := by decide +kernel
theorem dX0_countPartings_51 : decode cX0_countPartings 51 = .ok (.iload 5, 2) := by decide +kernel
theorem dX0_countPartings_53 : decode cX0_countPartings 53 = .ok (.ishr, 1) := by decide +kernel
theorem dX0_countPartings_54 : decode cX0_countPartings 54 = .ok (.iconst 1, 1) := by decide +kernel
theorem dX0_countPartings_55 : decode cX0_countPartings 55 = .ok (.iand, 1) := by decide +kernel
theorem dX0_countPartings_56 : decode cX0_countPartings 56 = .ok (.iconst 1, 1) := by decide +kernel
theorem dX0_countPartings_57 : decode cX0_countPartings 57 = .ok (.if_icmp .ne 25, 3) := by decide +kernel
theorem dX0_countPartings_60 : decode cX0_countPartings 60 = .ok (.iload 4, 2) := by decide +kernel
theorem dX0_countPartings_62 : decode cX0_countPartings 62 = .ok (.aload_n 0, 1) := by decide +kernel
theorem dX0_countPartings_63 : decode cX0_countPartings 63 = .ok (.getfield 19, 3) := by decide +kernel
theorem dX0_countPartings_66 : decode cX0_countPartings 66 = .ok (.iload_n 1, 1) := by decide +kernel
theorem dX0_countPartings_67 : decode cX0_countPartings 67 = .ok (.iconst 1, 1) := by decide +kernel
theorem dX0_countPartings_68 : decode cX0_countPartings 68 = .ok (.iload_n 2, 1) := by decide +kernel
theorem dX0_countPartings_69 : decode cX0_countPartings 69 = .ok (.ishl, 1) := by decide +kernel
theorem dX0_countPartings_70 : decode cX0_countPartings 70 = .ok (.iconst 1, 1) := by decide +kernel
theorem dX0_countPartings_71 : decode cX0_countPartings 71 = .ok (.iload 5, 2) := by decide +kernel
theorem dX0_countPartings_73 : decode cX0_countPartings 73 = .ok (.ishl, 1) := by decide +kernel
theorem dX0_countPartings_74 : decode cX0_countPartings 74 = .ok (.ior, 1) := by decide +kernel
theorem dX0_countPartings_75 : decode cX0_countPartings 75 = .ok (.iconst (-1), 1) := by decide +kernel
theorem dX0_countPartings_76 : decode cX0_countPartings 76 = .ok (.ixor, 1) := by decide +kernel
theorem dX0_countPartings_77 : decode cX0_countPartings 77 = .ok (.iand, 1) := by decide +kernel
theorem dX0_countPartings_78 : decode cX0_countPartings 78 = .ok (.iaload, 1) := by decide +kernel
theorem dX0_countPartings_79 : decode cX0_countPartings 79 = .ok (.iadd, 1) := by decide +kernel
theorem dX0_countPartings_80 : decode cX0_countPartings 80 = .ok (.istore 4, 2) := by decide +kernel
theorem dX0_countPartings_82 : decode cX0_countPartings 82 = .ok (.iinc 5 1, 3) := by decide +kernel
theorem dX0_countPartings_85 : decode cX0_countPartings 85 = .ok (.goto (-44), 3) := by decide +kernel
theorem dX0_countPartings_88 : decode cX0_countPartings 88 = .ok (.aload_n 0, 1) := by decide +kernel
theorem dX0_countPartings_89 : decode cX0_countPartings 89 = .ok (.getfield 19, 3) := by decide +kernel
theorem dX0_countPartings_92 : decode cX0_countPartings 92 = .ok (.iload_n 1, 1) := by decide +kernel
theorem dX0_countPartings_93 : decode cX0_countPartings 93 = .ok (.iload 4, 2) := by decide +kernel
theorem dX0_countPartings_95 : decode cX0_countPartings 95 = .ok (.iastore, 1) := by decide +kernel
theorem dX0_countPartings_96 : decode cX0_countPartings 96 = .ok (.iinc 1 1, 3) := by decide +kernel
theorem dX0_countPartings_99 : decode cX0_countPartings 99 = .ok (.goto (-90), 3) := by decide +kernel
theorem dX0_countPartings_102 : decode cX0_countPartings 102 = .ok (.return_, 1) := by decide +kernel
theorem dX0_countPieces_0 : decode cX0_countPieces 0 = .ok (.iload_n 1, 1) := by decide +kernel
theorem dX0_countPieces_1 : decode cX0_countPieces 1 = .ok (.istore_n 3, 1) := by decide +kernel
theorem dX0_countPieces_2 : decode cX0_countPieces 2 = .ok (.iconst 0, 1) := by decide +kernel
theorem dX0_countPieces_3 : decode cX0_countPieces 3 = .ok (.istore 4, 2) := by decide +kernel
theorem dX0_countPieces_5 : decode cX0_countPieces 5 = .ok (.iconst 0, 1) := by decide +kernel
theorem dX0_countPieces_6 : decode cX0_countPieces 6 = .ok (.istore 5, 2) := by decide +kernel
theorem dX0_countPieces_8 : decode cX0_countPieces 8 = .ok (.iload 5, 2) := by decide +kernel
theorem dX0_countPieces_10 : decode cX0_countPieces 10 = .ok (.aload_n 0, 1) := by decide +kernel
theorem dX0_countPieces_11 : decode cX0_countPieces 11 = .ok (.getfield 9, 3) := by decide +kernel
theorem dX0_countPieces_14 : decode cX0_countPieces 14 = .ok (.if_icmp .ge 49, 3) := by decide +kernel
theorem dX0_countPieces_17 : decode cX0_countPieces 17 = .ok (.iload_n 3, 1) := by decide +kernel
theorem dX0_countPieces_18 : decode cX0_countPieces 18 = .ok (.ifCond .eq 45, 3) := by decide +kernel
theorem dX0_countPieces_21 : decode cX0_countPieces 21 = .ok (.aload_n 0, 1) := by decide +kernel
theorem dX0_countPieces_22 : decode cX0_countPieces 22 = .ok (.iload_n 3, 1) := by decide +kernel
theorem dX0_countPieces_23 : decode cX0_countPieces 23 = .ok (.iload_n 3, 1) := by decide +kernel
theorem dX0_countPieces_24 : decode cX0_countPieces 24 = .ok (.ineg, 1) := by decide +kernel
theorem dX0_countPieces_25 : decode cX0_countPieces 25 = .ok (.iand, 1) := by decide +kernel
theorem dX0_countPieces_26 : decode cX0_countPieces 26 = .ok (.iload_n 3, 1) := by decide +kernel
theorem dX0_countPieces_27 : decode cX0_countPieces 27 = .ok (.invokevirtual 76, 3) := by decide +kernel
theorem dX0_countPieces_30 : decode cX0_countPieces 30 = .ok (.istore 6, 2) := by decide +kernel
theorem dX0_countPieces_32 : decode cX0_countPieces 32 = .ok (.iload_n 3, 1) := by decide +kernel
theorem dX0_countPieces_33 : decode cX0_countPieces 33 = .ok (.iload 6, 2) := by decide +kernel
theorem dX0_countPieces_35 : decode cX0_countPieces 35 = .ok (.iconst (-1), 1) := by decide +kernel
theorem dX0_countPieces_36 : decode cX0_countPieces 36 = .ok (.ixor, 1) := by decide +kernel
theorem dX0_countPieces_37 : decode cX0_countPieces 37 = .ok (.iand, 1) := by decide +kernel
theorem dX0_countPieces_38 : decode cX0_countPieces 38 = .ok (.istore_n 3, 1) := by decide +kernel
theorem dX0_countPieces_39 : decode cX0_countPieces 39 = .ok (.iload_n 2, 1) := by decide +kernel
theorem dX0_countPieces_40 : decode cX0_countPieces 40 = .ok (.ifCond .eq 14, 3) := by decide +kernel
theorem dX0_countPieces_43 : decode cX0_countPieces 43 = .ok (.iload 6, 2) := by decide +kernel
theorem dX0_countPieces_45 : decode cX0_countPieces 45 = .ok (.invokestatic 49, 3) := by decide +kernel
theorem dX0_countPieces_48 : decode cX0_countPieces 48 = .ok (.iconst 2, 1) := by decide +kernel
theorem dX0_countPieces_49 : decode cX0_countPieces 49 = .ok (.irem, 1) := by decide +kernel
theorem dX0_countPieces_50 : decode cX0_countPieces 50 = .ok (.iconst 1, 1) := by decide +kernel
theorem dX0_countPieces_51 : decode cX0_countPieces 51 = .ok (.if_icmp .ne 6, 3) := by decide +kernel
theorem dX0_countPieces_54 : decode cX0_countPieces 54 = .ok (.iinc 4 1, 3) := by decide +kernel
theorem dX0_countPieces_57 : decode cX0_countPieces 57 = .ok (.iinc 5 1, 3) := by decide +kernel
theorem dX0_countPieces_60 : decode cX0_countPieces 60 = .ok (.goto (-52), 3) := by decide +kernel
theorem dX0_countPieces_63 : decode cX0_countPieces 63 = .ok (.iload 4, 2) := by decide +kernel
theorem dX0_countPieces_65 : decode cX0_countPieces 65 = .ok (.ireturn, 1) := by decide +kernel
theorem dX0_firstPartner_0 : decode cX0_firstPartner 0 = .ok (.aload_n 0, 1) := by decide +kernel
theorem dX0_firstPartner_1 : decode cX0_firstPartner 1 = .ok (.getfield 15, 3) := by decide +kernel
theorem dX0_firstPartner_4 : decode cX0_firstPartner 4 = .ok (.iload_n 1, 1) := by decide +kernel
theorem dX0_firstPartner_5 : decode cX0_firstPartner 5 = .ok (.iaload, 1) := by decide +kernel
theorem dX0_firstPartner_6 : decode cX0_firstPartner 6 = .ok (.iload_n 2, 1) := by decide +kernel
theorem dX0_firstPartner_7 : decode cX0_firstPartner 7 = .ok (.iand, 1) := by decide +kernel
theorem dX0_firstPartner_8 : decode cX0_firstPartner 8 = .ok (.istore 4, 2) := by decide +kernel
theorem dX0_firstPartner_10 : decode cX0_firstPartner 10 = .ok (.iload_n 1, 1) := by decide +kernel
theorem dX0_firstPartner_11 : decode cX0_firstPartner 11 = .ok (.iconst 1, 1) := by decide +kernel
theorem dX0_firstPartner_12 : decode cX0_firstPartner 12 = .ok (.iadd, 1) := by decide +kernel
theorem dX0_firstPartner_13 : decode cX0_firstPartner 13 = .ok (.istore 5, 2) := by decide +kernel
theorem dX0_firstPartner_15 : decode cX0_firstPartner 15 = .ok (.iload 5, 2) := by decide +kernel
theorem dX0_firstPartner_17 : decode cX0_firstPartner 17 = .ok (.aload_n 0, 1) := by decide +kernel
theorem dX0_firstPartner_18 : decode cX0_firstPartner 18 = .ok (.getfield 9, 3) := by decide +kernel
theorem dX0_firstPartner_21 : decode cX0_firstPartner 21 = .ok (.if_icmp .ge 41, 3) := by decide +kernel
theorem dX0_firstPartner_24 : decode cX0_firstPartner 24 = .ok (.iload 4, 2) := by decide +kernel
theorem dX0_firstPartner_26 : decode cX0_firstPartner 26 = .ok (.iload 5, 2) := by decide +kernel
theorem dX0_firstPartner_28 : decode cX0_firstPartner 28 = .ok (.ishr, 1) := by decide +kernel
theorem dX0_firstPartner_29 : decode cX0_firstPartner 29 = .ok (.iconst 1, 1) := by decide +kernel
theorem dX0_firstPartner_30 : decode cX0_firstPartner 30 = .ok (.iand, 1) := by decide +kernel
theorem dX0_firstPartner_31 : decode cX0_firstPartner 31 = .ok (.iconst 1, 1) := by decide +kernel
theorem dX0_firstPartner_32 : decode cX0_firstPartner 32 = .ok (.if_icmp .ne 24, 3) := by decide +kernel
theorem dX0_firstPartner_35 : decode cX0_firstPartner 35 = .ok (.aload_n 0, 1) := by decide +kernel
theorem dX0_firstPartner_36 : decode cX0_firstPartner 36 = .ok (.iload_n 1, 1) := by decide +kernel
theorem dX0_firstPartner_37 : decode cX0_firstPartner 37 = .ok (.iload 5, 2) := by decide +kernel
theorem dX0_firstPartner_39 : decode cX0_firstPartner 39 = .ok (.iload_n 2, 1) := by decide +kernel
theorem dX0_firstPartner_40 : decode cX0_firstPartner 40 = .ok (.aload_n 3, 1) := by decide +kernel
theorem dX0_firstPartner_41 : decode cX0_firstPartner 41 = .ok (.invokevirtual 62, 3) := by decide +kernel
theorem dX0_firstPartner_44 : decode cX0_firstPartner 44 = .ok (.aload_n 0, 1) := by decide +kernel
theorem dX0_firstPartner_45 : decode cX0_firstPartner 45 = .ok (.getfield 22, 3) := by decide +kernel
theorem dX0_firstPartner_48 : decode cX0_firstPartner 48 = .ok (.iload_n 2, 1) := by decide +kernel
theorem dX0_firstPartner_49 : decode cX0_firstPartner 49 = .ok (.iaload, 1) := by decide +kernel
theorem dX0_firstPartner_50 : decode cX0_firstPartner 50 = .ok (.if_icmp .ne 6, 3) := by decide +kernel
theorem dX0_firstPartner_53 : decode cX0_firstPartner 53 = .ok (.iload 5, 2) := by decide +kernel
theorem dX0_firstPartner_55 : decode cX0_firstPartner 55 = .ok (.ireturn, 1) := by decide +kernel
theorem dX0_firstPartner_56 : decode cX0_firstPartner 56 = .ok (.iinc 5 1, 3) := by decide +kernel
theorem dX0_firstPartner_59 : decode cX0_firstPartner 59 = .ok (.goto (-44), 3) := by decide +kernel
theorem dX0_firstPartner_62 : decode cX0_firstPartner 62 = .ok (.iconst (-1), 1) := by decide +kernel
theorem dX0_firstPartner_63 : decode cX0_firstPartner 63 = .ok (.ireturn, 1) := by decide +kernel
theorem dX0_leastBar_0 : decode cX0_leastBar 0 = .ok (.iload_n 1, 1) := by decide +kernel
theorem dX0_leastBar_1 : decode cX0_leastBar 1 = .ok (.invokestatic 49, 3) := by decide +kernel
theorem dX0_leastBar_4 : decode cX0_leastBar 4 = .ok (.iconst 2, 1) := by decide +kernel
theorem dX0_leastBar_5 : decode cX0_leastBar 5 = .ok (.aload_n 0, 1) := by decide +kernel
theorem dX0_leastBar_6 : decode cX0_leastBar 6 = .ok (.iload_n 1, 1) := by decide +kernel
theorem dX0_leastBar_7 : decode cX0_leastBar 7 = .ok (.invokevirtual 79, 3) := by decide +kernel
theorem dX0_leastBar_10 : decode cX0_leastBar 10 = .ok (.imul, 1) := by decide +kernel
theorem dX0_leastBar_11 : decode cX0_leastBar 11 = .ok (.isub, 1) := by decide +kernel
theorem dX0_leastBar_12 : decode cX0_leastBar 12 = .ok (.istore_n 2, 1) := by decide +kernel
theorem dX0_leastBar_13 : decode cX0_leastBar 13 = .ok (.iconst 0, 1) := by decide +kernel
theorem dX0_leastBar_14 : decode cX0_leastBar 14 = .ok (.istore_n 3, 1) := by decide +kernel
theorem dX0_leastBar_15 : decode cX0_leastBar 15 = .ok (.bipush 11, 2) := by decide +kernel
theorem dX0_leastBar_17 : decode cX0_leastBar 17 = .ok (.istore 4, 2) := by decide +kernel
theorem dX0_leastBar_19 : decode cX0_leastBar 19 = .ok (.iconst 0, 1) := by decide +kernel
theorem dX0_leastBar_20 : decode cX0_leastBar 20 = .ok (.istore 5, 2) := by decide +kernel
theorem dX0_leastBar_22 : decode cX0_leastBar 22 = .ok (.iload 5, 2) := by decide +kernel
theorem dX0_leastBar_24 : decode cX0_leastBar 24 = .ok (.iload_n 1, 1) := by decide +kernel
theorem dX0_leastBar_25 : decode cX0_leastBar 25 = .ok (.if_icmp .gt 57, 3) := by decide +kernel
theorem dX0_leastBar_28 : decode cX0_leastBar 28 = .ok (.iload 5, 2) := by decide +kernel
theorem dX0_leastBar_30 : decode cX0_leastBar 30 = .ok (.invokestatic 49, 3) := by decide +kernel
theorem dX0_leastBar_33 : decode cX0_leastBar 33 = .ok (.istore 6, 2) := by decide +kernel
theorem dX0_leastBar_35 : decode cX0_leastBar 35 = .ok (.iload 5, 2) := by decide +kernel
theorem dX0_leastBar_37 : decode cX0_leastBar 37 = .ok (.iload_n 1, 1) := by decide +kernel
theorem dX0_leastBar_38 : decode cX0_leastBar 38 = .ok (.iconst (-1), 1) := by decide +kernel
theorem dX0_leastBar_39 : decode cX0_leastBar 39 = .ok (.ixor, 1) := by decide +kernel
theorem dX0_leastBar_40 : decode cX0_leastBar 40 = .ok (.iand, 1) := by decide +kernel
theorem dX0_leastBar_41 : decode cX0_leastBar 41 = .ok (.ifCond .ne 35, 3) := by decide +kernel
theorem dX0_leastBar_44 : decode cX0_leastBar 44 = .ok (.iload 6, 2) := by decide +kernel
theorem dX0_leastBar_46 : decode cX0_leastBar 46 = .ok (.iload 4, 2) := by decide +kernel
theorem dX0_leastBar_48 : decode cX0_leastBar 48 = .ok (.if_icmp .ge 28, 3) := by decide +kernel
theorem dX0_leastBar_51 : decode cX0_leastBar 51 = .ok (.aload_n 0, 1) := by decide +kernel
theorem dX0_leastBar_52 : decode cX0_leastBar 52 = .ok (.iload_n 1, 1) := by decide +kernel
theorem dX0_leastBar_53 : decode cX0_leastBar 53 = .ok (.iload 5, 2) := by decide +kernel
theorem dX0_leastBar_55 : decode cX0_leastBar 55 = .ok (.iconst (-1), 1) := by decide +kernel
theorem dX0_leastBar_56 : decode cX0_leastBar 56 = .ok (.ixor, 1) := by decide +kernel
theorem dX0_leastBar_57 : decode cX0_leastBar 57 = .ok (.iand, 1) := by decide +kernel
theorem dX0_leastBar_58 : decode cX0_leastBar 58 = .ok (.iconst 1, 1) := by decide +kernel
theorem dX0_leastBar_59 : decode cX0_leastBar 59 = .ok (.invokevirtual 82, 3) := by decide +kernel
theorem dX0_leastBar_62 : decode cX0_leastBar 62 = .ok (.iload 6, 2) := by decide +kernel
theorem dX0_leastBar_64 : decode cX0_leastBar 64 = .ok (.isub, 1) := by decide +kernel
theorem dX0_leastBar_65 : decode cX0_leastBar 65 = .ok (.iload_n 2, 1) := by decide +kernel
theorem dX0_leastBar_66 : decode cX0_leastBar 66 = .ok (.if_icmp .ne 10, 3) := by decide +kernel
theorem dX0_leastBar_69 : decode cX0_leastBar 69 = .ok (.iload 5, 2) := by decide +kernel
theorem dX0_leastBar_71 : decode cX0_leastBar 71 = .ok (.istore_n 3, 1) := by decide +kernel
theorem dX0_leastBar_72 : decode cX0_leastBar 72 = .ok (.iload 6, 2) := by decide +kernel
theorem dX0_leastBar_74 : decode cX0_leastBar 74 = .ok (.istore 4, 2) := by decide +kernel
theorem dX0_leastBar_76 : decode cX0_leastBar 76 = .ok (.iinc 5 1, 3) := by decide +kernel
theorem dX0_leastBar_79 : decode cX0_leastBar 79 = .ok (.goto (-57), 3) := by decide +kernel
theorem dX0_leastBar_82 : decode cX0_leastBar 82 = .ok (.iload_n 3, 1) := by decide +kernel
theorem dX0_leastBar_83 : decode cX0_leastBar 83 = .ok (.ireturn, 1) := by decide +kernel
theorem dX0_leastCover_0 : decode cX0_leastCover 0 = .ok (.iconst (-1), 1) := by decide +kernel
theorem dX0_leastCover_1 : decode cX0_leastCover 1 = .ok (.istore_n 3, 1) := by decide +kernel
theorem dX0_leastCover_2 : decode cX0_leastCover 2 = .ok (.bipush 11, 2) := by decide +kernel
theorem dX0_leastCover_4 : decode cX0_leastCover 4 = .ok (.istore 4, 2) := by decide +kernel
theorem dX0_leastCover_6 : decode cX0_leastCover 6 = .ok (.iconst 0, 1) := by decide +kernel
theorem dX0_leastCover_7 : decode cX0_leastCover 7 = .ok (.istore 5, 2) := by decide +kernel
theorem dX0_leastCover_9 : decode cX0_leastCover 9 = .ok (.iload 5, 2) := by decide +kernel
theorem dX0_leastCover_11 : decode cX0_leastCover 11 = .ok (.iload_n 2, 1) := by decide +kernel
theorem dX0_leastCover_12 : decode cX0_leastCover 12 = .ok (.if_icmp .gt 48, 3) := by decide +kernel
theorem dX0_leastCover_15 : decode cX0_leastCover 15 = .ok (.iload 5, 2) := by decide +kernel
theorem dX0_leastCover_17 : decode cX0_leastCover 17 = .ok (.iload_n 2, 1) := by decide +kernel
theorem dX0_leastCover_18 : decode cX0_leastCover 18 = .ok (.iconst (-1), 1) := by decide +kernel
theorem dX0_leastCover_19 : decode cX0_leastCover 19 = .ok (.ixor, 1) := by decide +kernel
theorem dX0_leastCover_20 : decode cX0_leastCover 20 = .ok (.iand, 1) := by decide +kernel
theorem dX0_leastCover_21 : decode cX0_leastCover 21 = .ok (.ifCond .ne 33, 3) := by decide +kernel
theorem dX0_leastCover_24 : decode cX0_leastCover 24 = .ok (.iload 5, 2) := by decide +kernel
theorem dX0_leastCover_26 : decode cX0_leastCover 26 = .ok (.invokestatic 49, 3) := by decide +kernel
theorem dX0_leastCover_29 : decode cX0_leastCover 29 = .ok (.iload 4, 2) := by decide +kernel
theorem dX0_leastCover_31 : decode cX0_leastCover 31 = .ok (.if_icmp .ge 23, 3) := by decide +kernel
theorem dX0_leastCover_34 : decode cX0_leastCover 34 = .ok (.aload_n 0, 1) := by decide +kernel
theorem dX0_leastCover_35 : decode cX0_leastCover 35 = .ok (.iload_n 1, 1) := by decide +kernel
theorem dX0_leastCover_36 : decode cX0_leastCover 36 = .ok (.iload 5, 2) := by decide +kernel
theorem dX0_leastCover_38 : decode cX0_leastCover 38 = .ok (.invokevirtual 86, 3) := by decide +kernel
theorem dX0_leastCover_41 : decode cX0_leastCover 41 = .ok (.ifCond .eq 13, 3) := by decide +kernel
theorem dX0_leastCover_44 : decode cX0_leastCover 44 = .ok (.iload 5, 2) := by decide +kernel
theorem dX0_leastCover_46 : decode cX0_leastCover 46 = .ok (.istore_n 3, 1) := by decide +kernel
theorem dX0_leastCover_47 : decode cX0_leastCover 47 = .ok (.iload 5, 2) := by decide +kernel
theorem dX0_leastCover_49 : decode cX0_leastCover 49 = .ok (.invokestatic 49, 3) := by decide +kernel
theorem dX0_leastCover_52 : decode cX0_leastCover 52 = .ok (.istore 4, 2) := by decide +kernel
theorem dX0_leastCover_54 : decode cX0_leastCover 54 = .ok (.iinc 5 1, 3) := by decide +kernel
theorem dX0_leastCover_57 : decode cX0_leastCover 57 = .ok (.goto (-48), 3) := by decide +kernel
theorem dX0_leastCover_60 : decode cX0_leastCover 60 = .ok (.iload_n 3, 1) := by decide +kernel
theorem dX0_leastCover_61 : decode cX0_leastCover 61 = .ok (.ireturn, 1) := by decide +kernel
theorem dX0_lowestOf_0 : decode cX0_lowestOf 0 = .ok (.iload_n 0, 1) := by decide +kernel
theorem dX0_lowestOf_1 : decode cX0_lowestOf 1 = .ok (.iload_n 0, 1) := by decide +kernel
theorem dX0_lowestOf_2 : decode cX0_lowestOf 2 = .ok (.ineg, 1) := by decide +kernel
theorem dX0_lowestOf_3 : decode cX0_lowestOf 3 = .ok (.iand, 1) := by decide +kernel
theorem dX0_lowestOf_4 : decode cX0_lowestOf 4 = .ok (.iconst 1, 1) := by decide +kernel
theorem dX0_lowestOf_5 : decode cX0_lowestOf 5 = .ok (.isub, 1) := by decide +kernel
theorem dX0_lowestOf_6 : decode cX0_lowestOf 6 = .ok (.invokestatic 49, 3) := by decide +kernel
theorem dX0_lowestOf_9 : decode cX0_lowestOf 9 = .ok (.ireturn, 1) := by decide +kernel
theorem dX0_opposeAllOf_0 : decode cX0_opposeAllOf 0 = .ok (.iconst 0, 1) := by decide +kernel
theorem dX0_opposeAllOf_1 : decode cX0_opposeAllOf 1 = .ok (.istore_n 3, 1) := by decide +kernel
theorem dX0_opposeAllOf_2 : decode cX0_opposeAllOf 2 = .ok (.iload_n 3, 1) := by decide +kernel
theorem dX0_opposeAllOf_3 : decode cX0_opposeAllOf 3 = .ok (.aload_n 0, 1) := by decide +kernel
theorem dX0_opposeAllOf_4 : decode cX0_opposeAllOf 4 = .ok (.getfield 9, 3) := by decide +kernel
theorem dX0_opposeAllOf_7 : decode cX0_opposeAllOf 7 = .ok (.if_icmp .ge 31, 3) := by decide +kernel
theorem dX0_opposeAllOf_10 : decode cX0_opposeAllOf 10 = .ok (.iload_n 1, 1) := by decide +kernel
theorem dX0_opposeAllOf_11 : decode cX0_opposeAllOf 11 = .ok (.iload_n 3, 1) := by decide +kernel
theorem dX0_opposeAllOf_12 : decode cX0_opposeAllOf 12 = .ok (.ishr, 1) := by decide +kernel
theorem dX0_opposeAllOf_13 : decode cX0_opposeAllOf 13 = .ok (.iconst 1, 1) := by decide +kernel
theorem dX0_opposeAllOf_14 : decode cX0_opposeAllOf 14 = .ok (.iand, 1) := by decide +kernel
theorem dX0_opposeAllOf_15 : decode cX0_opposeAllOf 15 = .ok (.iconst 1, 1) := by decide +kernel
theorem dX0_opposeAllOf_16 : decode cX0_opposeAllOf 16 = .ok (.if_icmp .ne 16, 3) := by decide +kernel
theorem dX0_opposeAllOf_19 : decode cX0_opposeAllOf 19 = .ok (.aload_n 0, 1) := by decide +kernel
theorem dX0_opposeAllOf_20 : decode cX0_opposeAllOf 20 = .ok (.getfield 15, 3) := by decide +kernel
theorem dX0_opposeAllOf_23 : decode cX0_opposeAllOf 23 = .ok (.iload_n 3, 1) := by decide +kernel
theorem dX0_opposeAllOf_24 : decode cX0_opposeAllOf 24 = .ok (.iaload, 1) := by decide +kernel
theorem dX0_opposeAllOf_25 : decode cX0_opposeAllOf 25 = .ok (.iload_n 2, 1) := by decide +kernel
theorem dX0_opposeAllOf_26 : decode cX0_opposeAllOf 26 = .ok (.iand, 1) := by decide +kernel
theorem dX0_opposeAllOf_27 : decode cX0_opposeAllOf 27 = .ok (.ifCond .ne 5, 3) := by decide +kernel
theorem dX0_opposeAllOf_30 : decode cX0_opposeAllOf 30 = .ok (.iconst 0, 1) := by decide +kernel
theorem dX0_opposeAllOf_31 : decode cX0_opposeAllOf 31 = .ok (.ireturn, 1) := by decide +kernel
theorem dX0_opposeAllOf_32 : decode cX0_opposeAllOf 32 = .ok (.iinc 3 1, 3) := by decide +kernel
theorem dX0_opposeAllOf_35 : decode cX0_opposeAllOf 35 = .ok (.goto (-33), 3) := by decide +kernel
theorem dX0_opposeAllOf_38 : decode cX0_opposeAllOf 38 = .ok (.iconst 1, 1) := by decide +kernel
theorem dX0_opposeAllOf_39 : decode cX0_opposeAllOf 39 = .ok (.ireturn, 1) := by decide +kernel
theorem dX0_partnerOf_0 : decode cX0_partnerOf 0 = .ok (.iload_n 2, 1) := by decide +kernel
theorem dX0_partnerOf_1 : decode cX0_partnerOf 1 = .ok (.istore 4, 2) := by decide +kernel
theorem dX0_partnerOf_3 : decode cX0_partnerOf 3 = .ok (.iconst 0, 1) := by decide +kernel
theorem dX0_partnerOf_4 : decode cX0_partnerOf 4 = .ok (.istore 5, 2) := by decide +kernel
theorem dX0_partnerOf_6 : decode cX0_partnerOf 6 = .ok (.iload 5, 2) := by decide +kernel
theorem dX0_partnerOf_8 : decode cX0_partnerOf 8 = .ok (.aload_n 0, 1) := by decide +kernel
theorem dX0_partnerOf_9 : decode cX0_partnerOf 9 = .ok (.getfield 9, 3) := by decide +kernel
theorem dX0_partnerOf_12 : decode cX0_partnerOf 12 = .ok (.if_icmp .ge 77, 3) := by decide +kernel
theorem dX0_partnerOf_15 : decode cX0_partnerOf 15 = .ok (.iload 4, 2) := by decide +kernel
theorem dX0_partnerOf_17 : decode cX0_partnerOf 17 = .ok (.iload 5, 2) := by decide +kernel
theorem dX0_partnerOf_19 : decode cX0_partnerOf 19 = .ok (.ishr, 1) := by decide +kernel
theorem dX0_partnerOf_20 : decode cX0_partnerOf 20 = .ok (.iconst 1, 1) := by decide +kernel
theorem dX0_partnerOf_21 : decode cX0_partnerOf 21 = .ok (.iand, 1) := by decide +kernel
theorem dX0_partnerOf_22 : decode cX0_partnerOf 22 = .ok (.iconst 1, 1) := by decide +kernel
theorem dX0_partnerOf_23 : decode cX0_partnerOf 23 = .ok (.if_icmp .ne 60, 3) := by decide +kernel
theorem dX0_partnerOf_26 : decode cX0_partnerOf 26 = .ok (.aload_n 0, 1) := by decide +kernel
theorem dX0_partnerOf_27 : decode cX0_partnerOf 27 = .ok (.iload 5, 2) := by decide +kernel
theorem dX0_partnerOf_29 : decode cX0_partnerOf 29 = .ok (.iload 4, 2) := by decide +kernel
theorem dX0_partnerOf_31 : decode cX0_partnerOf 31 = .ok (.aload_n 3, 1) := by decide +kernel
theorem dX0_partnerOf_32 : decode cX0_partnerOf 32 = .ok (.invokevirtual 72, 3) := by decide +kernel
theorem dX0_partnerOf_35 : decode cX0_partnerOf 35 = .ok (.istore 6, 2) := by decide +kernel
theorem dX0_partnerOf_37 : decode cX0_partnerOf 37 = .ok (.iload 5, 2) := by decide +kernel
theorem dX0_partnerOf_39 : decode cX0_partnerOf 39 = .ok (.iload_n 1, 1) := by decide +kernel
theorem dX0_partnerOf_40 : decode cX0_partnerOf 40 = .ok (.if_icmp .ne 6, 3) := by decide +kernel
theorem dX0_partnerOf_43 : decode cX0_partnerOf 43 = .ok (.iload 6, 2) := by decide +kernel
theorem dX0_partnerOf_45 : decode cX0_partnerOf 45 = .ok (.ireturn, 1) := by decide +kernel
theorem dX0_partnerOf_46 : decode cX0_partnerOf 46 = .ok (.iload 6, 2) := by decide +kernel
theorem dX0_partnerOf_48 : decode cX0_partnerOf 48 = .ok (.iload_n 1, 1) := by decide +kernel
theorem dX0_partnerOf_49 : decode cX0_partnerOf 49 = .ok (.if_icmp .ne 6, 3) := by decide +kernel
theorem dX0_partnerOf_52 : decode cX0_partnerOf 52 = .ok (.iload 5, 2) := by decide +kernel
theorem dX0_partnerOf_54 : decode cX0_partnerOf 54 = .ok (.ireturn, 1) := by decide +kernel
theorem dX0_partnerOf_55 : decode cX0_partnerOf 55 = .ok (.iload 4, 2) := by decide +kernel
theorem dX0_partnerOf_57 : decode cX0_partnerOf 57 = .ok (.iconst 1, 1) := by decide +kernel
theorem dX0_partnerOf_58 : decode cX0_partnerOf 58 = .ok (.iload 5, 2) := by decide +kernel
theorem dX0_partnerOf_60 : decode cX0_partnerOf 60 = .ok (.ishl, 1) := by decide +kernel
theorem dX0_partnerOf_61 : decode cX0_partnerOf 61 = .ok (.iconst (-1), 1) := by decide +kernel
theorem dX0_partnerOf_62 : decode cX0_partnerOf 62 = .ok (.ixor, 1) := by decide +kernel
theorem dX0_partnerOf_63 : decode cX0_partnerOf 63 = .ok (.iand, 1) := by decide +kernel
theorem dX0_partnerOf_64 : decode cX0_partnerOf 64 = .ok (.istore 4, 2) := by decide +kernel
theorem dX0_partnerOf_66 : decode cX0_partnerOf 66 = .ok (.iload 6, 2) := by decide +kernel
theorem dX0_partnerOf_68 : decode cX0_partnerOf 68 = .ok (.iconst (-1), 1) := by decide +kernel
theorem dX0_partnerOf_69 : decode cX0_partnerOf 69 = .ok (.if_icmp .eq 14, 3) := by decide +kernel
theorem dX0_partnerOf_72 : decode cX0_partnerOf 72 = .ok (.iload 4, 2) := by decide +kernel
theorem dX0_partnerOf_74 : decode cX0_partnerOf 74 = .ok (.iconst 1, 1) := by decide +kernel
theorem dX0_partnerOf_75 : decode cX0_partnerOf 75 = .ok (.iload 6, 2) := by decide +kernel
theorem dX0_partnerOf_77 : decode cX0_partnerOf 77 = .ok (.ishl, 1) := by decide +kernel
theorem dX0_partnerOf_78 : decode cX0_partnerOf 78 = .ok (.iconst (-1), 1) := by decide +kernel
theorem dX0_partnerOf_79 : decode cX0_partnerOf 79 = .ok (.ixor, 1) := by decide +kernel
theorem dX0_partnerOf_80 : decode cX0_partnerOf 80 = .ok (.iand, 1) := by decide +kernel
theorem dX0_partnerOf_81 : decode cX0_partnerOf 81 = .ok (.istore 4, 2) := by decide +kernel
theorem dX0_partnerOf_83 : decode cX0_partnerOf 83 = .ok (.iinc 5 1, 3) := by decide +kernel
theorem dX0_partnerOf_86 : decode cX0_partnerOf 86 = .ok (.goto (-80), 3) := by decide +kernel
theorem dX0_partnerOf_89 : decode cX0_partnerOf 89 = .ok (.iconst (-1), 1) := by decide +kernel
theorem dX0_partnerOf_90 : decode cX0_partnerOf 90 = .ok (.ireturn, 1) := by decide +kernel
theorem dX0_pieceOf_0 : decode cX0_pieceOf 0 = .ok (.iload_n 1, 1) := by decide +kernel
theorem dX0_pieceOf_1 : decode cX0_pieceOf 1 = .ok (.istore_n 3, 1) := by decide +kernel
theorem dX0_pieceOf_2 : decode cX0_pieceOf 2 = .ok (.iload_n 1, 1) := by decide +kernel
theorem dX0_pieceOf_3 : decode cX0_pieceOf 3 = .ok (.istore 4, 2) := by decide +kernel
theorem dX0_pieceOf_5 : decode cX0_pieceOf 5 = .ok (.iconst 0, 1) := by decide +kernel
theorem dX0_pieceOf_6 : decode cX0_pieceOf 6 = .ok (.istore 5, 2) := by decide +kernel
theorem dX0_pieceOf_8 : decode cX0_pieceOf 8 = .ok (.iload 5, 2) := by decide +kernel
theorem dX0_pieceOf_10 : decode cX0_pieceOf 10 = .ok (.aload_n 0, 1) := by decide +kernel
theorem dX0_pieceOf_11 : decode cX0_pieceOf 11 = .ok (.getfield 9, 3) := by decide +kernel
theorem dX0_pieceOf_14 : decode cX0_pieceOf 14 = .ok (.if_icmp .ge 55, 3) := by decide +kernel
theorem dX0_pieceOf_17 : decode cX0_pieceOf 17 = .ok (.iload 4, 2) := by decide +kernel
theorem dX0_pieceOf_19 : decode cX0_pieceOf 19 = .ok (.ifCond .eq 50, 3) := by decide +kernel
theorem dX0_pieceOf_22 : decode cX0_pieceOf 22 = .ok (.iload 4, 2) := by decide +kernel
theorem dX0_pieceOf_24 : decode cX0_pieceOf 24 = .ok (.invokestatic 55, 3) := by decide +kernel
theorem dX0_pieceOf_27 : decode cX0_pieceOf 27 = .ok (.istore 6, 2) := by decide +kernel
theorem dX0_pieceOf_29 : decode cX0_pieceOf 29 = .ok (.aload_n 0, 1) := by decide +kernel
theorem dX0_pieceOf_30 : decode cX0_pieceOf 30 = .ok (.getfield 15, 3) := by decide +kernel
theorem dX0_pieceOf_33 : decode cX0_pieceOf 33 = .ok (.iload 6, 2) := by decide +kernel
theorem dX0_pieceOf_35 : decode cX0_pieceOf 35 = .ok (.iaload, 1) := by decide +kernel
theorem dX0_pieceOf_36 : decode cX0_pieceOf 36 = .ok (.iload_n 2, 1) := by decide +kernel
theorem dX0_pieceOf_37 : decode cX0_pieceOf 37 = .ok (.iand, 1) := by decide +kernel
theorem dX0_pieceOf_38 : decode cX0_pieceOf 38 = .ok (.iload_n 3, 1) := by decide +kernel
theorem dX0_pieceOf_39 : decode cX0_pieceOf 39 = .ok (.iconst (-1), 1) := by decide +kernel
theorem dX0_pieceOf_40 : decode cX0_pieceOf 40 = .ok (.ixor, 1) := by decide +kernel
theorem dX0_pieceOf_41 : decode cX0_pieceOf 41 = .ok (.iand, 1) := by decide +kernel
theorem dX0_pieceOf_42 : decode cX0_pieceOf 42 = .ok (.istore 7, 2) := by decide +kernel
theorem dX0_pieceOf_44 : decode cX0_pieceOf 44 = .ok (.iload_n 3, 1) := by decide +kernel
theorem dX0_pieceOf_45 : decode cX0_pieceOf 45 = .ok (.iload 7, 2) := by decide +kernel
theorem dX0_pieceOf_47 : decode cX0_pieceOf 47 = .ok (.ior, 1) := by decide +kernel
theorem dX0_pieceOf_48 : decode cX0_pieceOf 48 = .ok (.istore_n 3, 1) := by decide +kernel
theorem dX0_pieceOf_49 : decode cX0_pieceOf 49 = .ok (.iload 4, 2) := by decide +kernel
theorem dX0_pieceOf_51 : decode cX0_pieceOf 51 = .ok (.iconst 1, 1) := by decide +kernel
theorem dX0_pieceOf_52 : decode cX0_pieceOf 52 = .ok (.iload 6, 2) := by decide +kernel
theorem dX0_pieceOf_54 : decode cX0_pieceOf 54 = .ok (.ishl, 1) := by decide +kernel
theorem dX0_pieceOf_55 : decode cX0_pieceOf 55 = .ok (.iconst (-1), 1) := by decide +kernel
theorem dX0_pieceOf_56 : decode cX0_pieceOf 56 = .ok (.ixor, 1) := by decide +kernel
theorem dX0_pieceOf_57 : decode cX0_pieceOf 57 = .ok (.iand, 1) := by decide +kernel
theorem dX0_pieceOf_58 : decode cX0_pieceOf 58 = .ok (.iload 7, 2) := by decide +kernel
theorem dX0_pieceOf_60 : decode cX0_pieceOf 60 = .ok (.ior, 1) := by decide +kernel
theorem dX0_pieceOf_61 : decode cX0_pieceOf 61 = .ok (.istore 4, 2) := by decide +kernel
theorem dX0_pieceOf_63 : decode cX0_pieceOf 63 = .ok (.iinc 5 1, 3) := by decide +kernel
theorem dX0_pieceOf_66 : decode cX0_pieceOf 66 = .ok (.goto (-58), 3) := by decide +kernel
theorem dX0_pieceOf_69 : decode cX0_pieceOf 69 = .ok (.iload_n 3, 1) := by decide +kernel
theorem dX0_pieceOf_70 : decode cX0_pieceOf 70 = .ok (.ireturn, 1) := by decide +kernel
theorem dX0_twosOf_0 : decode cX0_twosOf 0 = .ok (.aload_n 0, 1) := by decide +kernel
theorem dX0_twosOf_1 : decode cX0_twosOf 1 = .ok (.getfield 22, 3) := by decide +kernel
theorem dX0_twosOf_4 : decode cX0_twosOf 4 = .ok (.iload_n 1, 1) := by decide +kernel
theorem dX0_twosOf_5 : decode cX0_twosOf 5 = .ok (.iaload, 1) := by decide +kernel
theorem dX0_twosOf_6 : decode cX0_twosOf 6 = .ok (.sipush 1000, 3) := by decide +kernel
theorem dX0_twosOf_9 : decode cX0_twosOf 9 = .ok (.idiv, 1) := by decide +kernel
theorem dX0_twosOf_10 : decode cX0_twosOf 10 = .ok (.ireturn, 1) := by decide +kernel
theorem dX0_weighPairs_0 : decode cX0_weighPairs 0 = .ok (.aload_n 0, 1) := by decide +kernel
theorem dX0_weighPairs_1 : decode cX0_weighPairs 1 = .ok (.getfield 22, 3) := by decide +kernel
theorem dX0_weighPairs_4 : decode cX0_weighPairs 4 = .ok (.iconst 0, 1) := by decide +kernel
theorem dX0_weighPairs_5 : decode cX0_weighPairs 5 = .ok (.iconst 0, 1) := by decide +kernel
theorem dX0_weighPairs_6 : decode cX0_weighPairs 6 = .ok (.iastore, 1) := by decide +kernel
theorem dX0_weighPairs_7 : decode cX0_weighPairs 7 = .ok (.iconst 1, 1) := by decide +kernel
theorem dX0_weighPairs_8 : decode cX0_weighPairs 8 = .ok (.istore_n 2, 1) := by decide +kernel
theorem dX0_weighPairs_9 : decode cX0_weighPairs 9 = .ok (.iload_n 2, 1) := by decide +kernel
theorem dX0_weighPairs_10 : decode cX0_weighPairs 10 = .ok (.iconst 1, 1) := by decide +kernel
theorem dX0_weighPairs_11 : decode cX0_weighPairs 11 = .ok (.aload_n 0, 1) := by decide +kernel
theorem dX0_weighPairs_12 : decode cX0_weighPairs 12 = .ok (.getfield 9, 3) := by decide +kernel
theorem dX0_weighPairs_15 : decode cX0_weighPairs 15 = .ok (.ishl, 1) := by decide +kernel
theorem dX0_weighPairs_16 : decode cX0_weighPairs 16 = .ok (.if_icmp .ge 93, 3) := by decide +kernel
theorem dX0_weighPairs_19 : decode cX0_weighPairs 19 = .ok (.iload_n 2, 1) := by decide +kernel
theorem dX0_weighPairs_20 : decode cX0_weighPairs 20 = .ok (.invokestatic 55, 3) := by decide +kernel
theorem dX0_weighPairs_23 : decode cX0_weighPairs 23 = .ok (.istore_n 3, 1) := by decide +kernel
theorem dX0_weighPairs_24 : decode cX0_weighPairs 24 = .ok (.aload_n 0, 1) := by decide +kernel
theorem dX0_weighPairs_25 : decode cX0_weighPairs 25 = .ok (.getfield 15, 3) := by decide +kernel
theorem dX0_weighPairs_28 : decode cX0_weighPairs 28 = .ok (.iload_n 3, 1) := by decide +kernel
theorem dX0_weighPairs_29 : decode cX0_weighPairs 29 = .ok (.iaload, 1) := by decide +kernel
theorem dX0_weighPairs_30 : decode cX0_weighPairs 30 = .ok (.iload_n 2, 1) := by decide +kernel
theorem dX0_weighPairs_31 : decode cX0_weighPairs 31 = .ok (.iand, 1) := by decide +kernel
theorem dX0_weighPairs_32 : decode cX0_weighPairs 32 = .ok (.istore 4, 2) := by decide +kernel
theorem dX0_weighPairs_34 : decode cX0_weighPairs 34 = .ok (.aload_n 0, 1) := by decide +kernel
theorem dX0_weighPairs_35 : decode cX0_weighPairs 35 = .ok (.getfield 22, 3) := by decide +kernel
theorem dX0_weighPairs_38 : decode cX0_weighPairs 38 = .ok (.iload_n 2, 1) := by decide +kernel
theorem dX0_weighPairs_39 : decode cX0_weighPairs 39 = .ok (.iconst 1, 1) := by decide +kernel
theorem dX0_weighPairs_40 : decode cX0_weighPairs 40 = .ok (.iload_n 3, 1) := by decide +kernel
theorem dX0_weighPairs_41 : decode cX0_weighPairs 41 = .ok (.ishl, 1) := by decide +kernel
theorem dX0_weighPairs_42 : decode cX0_weighPairs 42 = .ok (.iconst (-1), 1) := by decide +kernel
theorem dX0_weighPairs_43 : decode cX0_weighPairs 43 = .ok (.ixor, 1) := by decide +kernel
theorem dX0_weighPairs_44 : decode cX0_weighPairs 44 = .ok (.iand, 1) := by decide +kernel
theorem dX0_weighPairs_45 : decode cX0_weighPairs 45 = .ok (.iaload, 1) := by decide +kernel
theorem dX0_weighPairs_46 : decode cX0_weighPairs 46 = .ok (.istore 5, 2) := by decide +kernel
theorem dX0_weighPairs_48 : decode cX0_weighPairs 48 = .ok (.iload_n 3, 1) := by decide +kernel
theorem dX0_weighPairs_49 : decode cX0_weighPairs 49 = .ok (.iconst 1, 1) := by decide +kernel
theorem dX0_weighPairs_50 : decode cX0_weighPairs 50 = .ok (.iadd, 1) := by decide +kernel
theorem dX0_weighPairs_51 : decode cX0_weighPairs 51 = .ok (.istore 6, 2) := by decide +kernel
theorem dX0_weighPairs_53 : decode cX0_weighPairs 53 = .ok (.iload 6, 2) := by decide +kernel
theorem dX0_weighPairs_55 : decode cX0_weighPairs 55 = .ok (.aload_n 0, 1) := by decide +kernel
theorem dX0_weighPairs_56 : decode cX0_weighPairs 56 = .ok (.getfield 9, 3) := by decide +kernel
theorem dX0_weighPairs_59 : decode cX0_weighPairs 59 = .ok (.if_icmp .ge 36, 3) := by decide +kernel
theorem dX0_weighPairs_62 : decode cX0_weighPairs 62 = .ok (.iload 4, 2) := by decide +kernel
theorem dX0_weighPairs_64 : decode cX0_weighPairs 64 = .ok (.iload 6, 2) := by decide +kernel
theorem dX0_weighPairs_66 : decode cX0_weighPairs 66 = .ok (.ishr, 1) := by decide +kernel
theorem dX0_weighPairs_67 : decode cX0_weighPairs 67 = .ok (.iconst 1, 1) := by decide +kernel
theorem dX0_weighPairs_68 : decode cX0_weighPairs 68 = .ok (.iand, 1) := by decide +kernel
theorem dX0_weighPairs_69 : decode cX0_weighPairs 69 = .ok (.iconst 1, 1) := by decide +kernel
theorem dX0_weighPairs_70 : decode cX0_weighPairs 70 = .ok (.if_icmp .ne 19, 3) := by decide +kernel
theorem dX0_weighPairs_73 : decode cX0_weighPairs 73 = .ok (.iload 5, 2) := by decide +kernel
theorem dX0_weighPairs_75 : decode cX0_weighPairs 75 = .ok (.aload_n 0, 1) := by decide +kernel
theorem dX0_weighPairs_76 : decode cX0_weighPairs 76 = .ok (.iload_n 3, 1) := by decide +kernel
theorem dX0_weighPairs_77 : decode cX0_weighPairs 77 = .ok (.iload 6, 2) := by decide +kernel
theorem dX0_weighPairs_79 : decode cX0_weighPairs 79 = .ok (.iload_n 2, 1) := by decide +kernel
theorem dX0_weighPairs_80 : decode cX0_weighPairs 80 = .ok (.aload_n 1, 1) := by decide +kernel
theorem dX0_weighPairs_81 : decode cX0_weighPairs 81 = .ok (.invokevirtual 62, 3) := by decide +kernel
theorem dX0_weighPairs_84 : decode cX0_weighPairs 84 = .ok (.invokestatic 66, 3) := by decide +kernel
theorem dX0_weighPairs_87 : decode cX0_weighPairs 87 = .ok (.istore 5, 2) := by decide +kernel
theorem dX0_weighPairs_89 : decode cX0_weighPairs 89 = .ok (.iinc 6 1, 3) := by decide +kernel
theorem dX0_weighPairs_92 : decode cX0_weighPairs 92 = .ok (.goto (-39), 3) := by decide +kernel
theorem dX0_weighPairs_95 : decode cX0_weighPairs 95 = .ok (.aload_n 0, 1) := by decide +kernel
theorem dX0_weighPairs_96 : decode cX0_weighPairs 96 = .ok (.getfield 22, 3) := by decide +kernel
theorem dX0_weighPairs_99 : decode cX0_weighPairs 99 = .ok (.iload_n 2, 1) := by decide +kernel
theorem dX0_weighPairs_100 : decode cX0_weighPairs 100 = .ok (.iload 5, 2) := by decide +kernel
theorem dX0_weighPairs_102 : decode cX0_weighPairs 102 = .ok (.iastore, 1) := by decide +kernel
theorem dX0_weighPairs_103 : decode cX0_weighPairs 103 = .ok (.iinc 2 1, 3) := by decide +kernel
theorem dX0_weighPairs_106 : decode cX0_weighPairs 106 = .ok (.goto (-97), 3) := by decide +kernel
theorem dX0_weighPairs_109 : decode cX0_weighPairs 109 = .ok (.return_, 1) := by decide +kernel
theorem dX0_weightOf_0 : decode cX0_weightOf 0 = .ok (.aload_n 0, 1) := by decide +kernel
theorem dX0_weightOf_1 : decode cX0_weightOf 1 = .ok (.getfield 22, 3) := by decide +kernel
theorem dX0_weightOf_4 : decode cX0_weightOf 4 = .ok (.iload_n 1, 1) := by decide +kernel
theorem dX0_weightOf_5 : decode cX0_weightOf 5 = .ok (.iaload, 1) := by decide +kernel
theorem dX0_weightOf_6 : decode cX0_weightOf 6 = .ok (.sipush 1000, 3) := by decide +kernel
theorem dX0_weightOf_9 : decode cX0_weightOf 9 = .ok (.irem, 1) := by decide +kernel
theorem dX0_weightOf_10 : decode cX0_weightOf 10 = .ok (.ireturn, 1) := by decide +kernel
theorem dX0_worthWith_0 : decode cX0_worthWith 0 = .ok (.aload_n 0, 1) := by decide +kernel
theorem dX0_worthWith_1 : decode cX0_worthWith 1 = .ok (.getfield 22, 3) := by decide +kernel
theorem dX0_worthWith_4 : decode cX0_worthWith 4 = .ok (.iload_n 3, 1) := by decide +kernel
theorem dX0_worthWith_5 : decode cX0_worthWith 5 = .ok (.iconst 1, 1) := by decide +kernel
theorem dX0_worthWith_6 : decode cX0_worthWith 6 = .ok (.iload_n 1, 1) := by decide +kernel
theorem dX0_worthWith_7 : decode cX0_worthWith 7 = .ok (.ishl, 1) := by decide +kernel
theorem dX0_worthWith_8 : decode cX0_worthWith 8 = .ok (.iconst 1, 1) := by decide +kernel
theorem dX0_worthWith_9 : decode cX0_worthWith 9 = .ok (.iload_n 2, 1) := by decide +kernel
theorem dX0_worthWith_10 : decode cX0_worthWith 10 = .ok (.ishl, 1) := by decide +kernel
theorem dX0_worthWith_11 : decode cX0_worthWith 11 = .ok (.ior, 1) := by decide +kernel
theorem dX0_worthWith_12 : decode cX0_worthWith 12 = .ok (.iconst (-1), 1) := by decide +kernel
theorem dX0_worthWith_13 : decode cX0_worthWith 13 = .ok (.ixor, 1) := by decide +kernel
theorem dX0_worthWith_14 : decode cX0_worthWith 14 = .ok (.iand, 1) := by decide +kernel
theorem dX0_worthWith_15 : decode cX0_worthWith 15 = .ok (.iaload, 1) := by decide +kernel
theorem dX0_worthWith_16 : decode cX0_worthWith 16 = .ok (.sipush 1000, 3) := by decide +kernel
theorem dX0_worthWith_19 : decode cX0_worthWith 19 = .ok (.iadd, 1) := by decide +kernel
theorem dX0_worthWith_20 : decode cX0_worthWith 20 = .ok (.aload 4, 2) := by decide +kernel
theorem dX0_worthWith_22 : decode cX0_worthWith 22 = .ok (.iload_n 1, 1) := by decide +kernel
theorem dX0_worthWith_23 : decode cX0_worthWith 23 = .ok (.iaload, 1) := by decide +kernel
theorem dX0_worthWith_24 : decode cX0_worthWith 24 = .ok (.iadd, 1) := by decide +kernel
theorem dX0_worthWith_25 : decode cX0_worthWith 25 = .ok (.aload 4, 2) := by decide +kernel
theorem dX0_worthWith_27 : decode cX0_worthWith 27 = .ok (.iload_n 2, 1) := by decide +kernel
theorem dX0_worthWith_28 : decode cX0_worthWith 28 = .ok (.iaload, 1) := by decide +kernel
theorem dX0_worthWith_29 : decode cX0_worthWith 29 = .ok (.iadd, 1) := by decide +kernel
theorem dX0_worthWith_30 : decode cX0_worthWith 30 = .ok (.ireturn, 1) := by decide +kernel
theorem dX10_lastViews_0 : decode cX10_lastViews 0 = .ok (.aload_n 1, 1) := by decide +kernel
theorem dX10_lastViews_1 : decode cX10_lastViews 1 = .ok (.invokevirtual 51, 3) := by decide +kernel
theorem dX10_lastViews_4 : decode cX10_lastViews 4 = .ok (.iconst 1, 1) := by decide +kernel
theorem dX10_lastViews_5 : decode cX10_lastViews 5 = .ok (.aload_n 0, 1) := by decide +kernel
theorem dX10_lastViews_6 : decode cX10_lastViews 6 = .ok (.getfield 9, 3) := by decide +kernel
theorem dX10_lastViews_9 : decode cX10_lastViews 9 = .ok (.ishl, 1) := by decide +kernel
theorem dX10_lastViews_10 : decode cX10_lastViews 10 = .ok (.iconst (-1), 1) := by decide +kernel
theorem dX10_lastViews_11 : decode cX10_lastViews 11 = .ok (.ixor, 1) := by decide +kernel
theorem dX10_lastViews_12 : decode cX10_lastViews 12 = .ok (.iand, 1) := by decide +kernel
theorem dX10_lastViews_13 : decode cX10_lastViews 13 = .ok (.istore_n 3, 1) := by decide +kernel
theorem dX10_lastViews_14 : decode cX10_lastViews 14 = .ok (.aload_n 1, 1) := by decide +kernel
theorem dX10_lastViews_15 : decode cX10_lastViews 15 = .ok (.getfield 37, 3) := by decide +kernel
theorem dX10_lastViews_18 : decode cX10_lastViews 18 = .ok (.aload_n 0, 1) := by decide +kernel
theorem dX10_lastViews_19 : decode cX10_lastViews 19 = .ok (.getfield 9, 3) := by decide +kernel
theorem dX10_lastViews_22 : decode cX10_lastViews 22 = .ok (.iaload, 1) := by decide +kernel
theorem dX10_lastViews_23 : decode cX10_lastViews 23 = .ok (.istore 4, 2) := by decide +kernel
theorem dX10_lastViews_25 : decode cX10_lastViews 25 = .ok (.aload_n 0, 1) := by decide +kernel
theorem dX10_lastViews_26 : decode cX10_lastViews 26 = .ok (.getfield 31, 3) := by decide +kernel
theorem dX10_lastViews_29 : decode cX10_lastViews 29 = .ok (.iconst (-1), 1) := by decide +kernel
theorem dX10_lastViews_30 : decode cX10_lastViews 30 = .ok (.invokestatic 63, 3) := by decide +kernel
theorem dX10_lastViews_33 : decode cX10_lastViews 33 = .ok (.aload_n 0, 1) := by decide +kernel
theorem dX10_lastViews_34 : decode cX10_lastViews 34 = .ok (.getfield 31, 3) := by decide +kernel
theorem dX10_lastViews_37 : decode cX10_lastViews 37 = .ok (.iload 4, 2) := by decide +kernel
theorem dX10_lastViews_39 : decode cX10_lastViews 39 = .ok (.iload 4, 2) := by decide +kernel
theorem dX10_lastViews_41 : decode cX10_lastViews 41 = .ok (.iastore, 1) := by decide +kernel
theorem dX10_lastViews_42 : decode cX10_lastViews 42 = .ok (.aload_n 0, 1) := by decide +kernel
theorem dX10_lastViews_43 : decode cX10_lastViews 43 = .ok (.getfield 28, 3) := by decide +kernel
theorem dX10_lastViews_46 : decode cX10_lastViews 46 = .ok (.iconst 0, 1) := by decide +kernel
theorem dX10_lastViews_47 : decode cX10_lastViews 47 = .ok (.iload 4, 2) := by decide +kernel
theorem dX10_lastViews_49 : decode cX10_lastViews 49 = .ok (.iastore, 1) := by decide +kernel
theorem dX10_lastViews_50 : decode cX10_lastViews 50 = .ok (.iconst 1, 1) := by decide +kernel
theorem dX10_lastViews_51 : decode cX10_lastViews 51 = .ok (.istore 5, 2) := by decide +kernel
theorem dX10_lastViews_53 : decode cX10_lastViews 53 = .ok (.iconst 0, 1) := by decide +kernel
theorem dX10_lastViews_54 : decode cX10_lastViews 54 = .ok (.istore 6, 2) := by decide +kernel
theorem dX10_lastViews_56 : decode cX10_lastViews 56 = .ok (.iload 6, 2) := by decide +kernel
theorem dX10_lastViews_58 : decode cX10_lastViews 58 = .ok (.iload 5, 2) := by decide +kernel
theorem dX10_lastViews_60 : decode cX10_lastViews 60 = .ok (.if_icmp .ge 143, 3) := by decide +kernel
theorem dX10_lastViews_63 : decode cX10_lastViews 63 = .ok (.aload_n 0, 1) := by decide +kernel
theorem dX10_lastViews_64 : decode cX10_lastViews 64 = .ok (.getfield 28, 3) := by decide +kernel
theorem dX10_lastViews_67 : decode cX10_lastViews 67 = .ok (.iload 6, 2) := by decide +kernel
theorem dX10_lastViews_69 : decode cX10_lastViews 69 = .ok (.iaload, 1) := by decide +kernel
theorem dX10_lastViews_70 : decode cX10_lastViews 70 = .ok (.istore 7, 2) := by decide +kernel
theorem dX10_lastViews_72 : decode cX10_lastViews 72 = .ok (.iconst 0, 1) := by decide +kernel
theorem dX10_lastViews_73 : decode cX10_lastViews 73 = .ok (.istore 8, 2) := by decide +kernel
theorem dX10_lastViews_75 : decode cX10_lastViews 75 = .ok (.iload 8, 2) := by decide +kernel
theorem dX10_lastViews_77 : decode cX10_lastViews 77 = .ok (.aload_n 1, 1) := by decide +kernel
theorem dX10_lastViews_78 : decode cX10_lastViews 78 = .ok (.getfield 69, 3) := by decide +kernel
theorem dX10_lastViews_81 : decode cX10_lastViews 81 = .ok (.getfield 73, 3) := by decide +kernel
theorem dX10_lastViews_84 : decode cX10_lastViews 84 = .ok (.if_icmp .ge 113, 3) := by decide +kernel
theorem dX10_lastViews_87 : decode cX10_lastViews 87 = .ok (.iload_n 3, 1) := by decide +kernel
theorem dX10_lastViews_88 : decode cX10_lastViews 88 = .ok (.iload 8, 2) := by decide +kernel
theorem dX10_lastViews_90 : decode cX10_lastViews 90 = .ok (.ishr, 1) := by decide +kernel
theorem dX10_lastViews_91 : decode cX10_lastViews 91 = .ok (.iconst 1, 1) := by decide +kernel
theorem dX10_lastViews_92 : decode cX10_lastViews 92 = .ok (.iand, 1) := by decide +kernel
theorem dX10_lastViews_93 : decode cX10_lastViews 93 = .ok (.iconst 1, 1) := by decide +kernel
theorem dX10_lastViews_94 : decode cX10_lastViews 94 = .ok (.if_icmp .ne 19, 3) := by decide +kernel
theorem dX10_lastViews_97 : decode cX10_lastViews 97 = .ok (.aload_n 2, 1) := by decide +kernel
theorem dX10_lastViews_98 : decode cX10_lastViews 98 = .ok (.aload_n 1, 1) := by decide +kernel
theorem dX10_lastViews_99 : decode cX10_lastViews 99 = .ok (.aload_n 0, 1) := by decide +kernel
theorem dX10_lastViews_100 : decode cX10_lastViews 100 = .ok (.getfield 9, 3) := by decide +kernel
theorem dX10_lastViews_103 : decode cX10_lastViews 103 = .ok (.iload 7, 2) := by decide +kernel
theorem dX10_lastViews_105 : decode cX10_lastViews 105 = .ok (.iload 8, 2) := by decide +kernel
theorem dX10_lastViews_107 : decode cX10_lastViews 107 = .ok (.invokevirtual 78, 3) := by decide +kernel
theorem dX10_lastViews_110 : decode cX10_lastViews 110 = .ok (.goto 5, 3) := by decide +kernel
theorem dX10_lastViews_113 : decode cX10_lastViews 113 = .ok (.iload 7, 2) := by decide +kernel
theorem dX10_lastViews_115 : decode cX10_lastViews 115 = .ok (.istore 9, 2) := by decide +kernel
theorem dX10_lastViews_117 : decode cX10_lastViews 117 = .ok (.aload_n 0, 1) := by decide +kernel
theorem dX10_lastViews_118 : decode cX10_lastViews 118 = .ok (.getfield 31, 3) := by decide +kernel
theorem dX10_lastViews_121 : decode cX10_lastViews 121 = .ok (.iload 9, 2) := by decide +kernel
theorem dX10_lastViews_123 : decode cX10_lastViews 123 = .ok (.iaload, 1) := by decide +kernel
theorem dX10_lastViews_124 : decode cX10_lastViews 124 = .ok (.iconst (-1), 1) := by decide +kernel
theorem dX10_lastViews_125 : decode cX10_lastViews 125 = .ok (.if_icmp .ne 66, 3) := by decide +kernel
theorem dX10_lastViews_128 : decode cX10_lastViews 128 = .ok (.iload 5, 2) := by decide +kernel
theorem dX10_lastViews_130 : decode cX10_lastViews 130 = .ok (.sipush 1000, 3) := by decide +kernel
theorem dX10_lastViews_133 : decode cX10_lastViews 133 = .ok (.if_icmp .ge 58, 3) := by decide +kernel
theorem dX10_lastViews_136 : decode cX10_lastViews 136 = .ok (.aload_n 0, 1) := by decide +kernel
theorem dX10_lastViews_137 : decode cX10_lastViews 137 = .ok (.getfield 31, 3) := by decide +kernel
theorem dX10_lastViews_140 : decode cX10_lastViews 140 = .ok (.iload 9, 2) := by decide +kernel
theorem dX10_lastViews_142 : decode cX10_lastViews 142 = .ok (.iload 7, 2) := by decide +kernel
theorem dX10_lastViews_144 : decode cX10_lastViews 144 = .ok (.iastore, 1) := by decide +kernel
theorem dX10_lastViews_145 : decode cX10_lastViews 145 = .ok (.aload_n 0, 1) := by decide +kernel
theorem dX10_lastViews_146 : decode cX10_lastViews 146 = .ok (.getfield 34, 3) := by decide +kernel
theorem dX10_lastViews_149 : decode cX10_lastViews 149 = .ok (.iload 9, 2) := by decide +kernel
theorem dX10_lastViews_151 : decode cX10_lastViews 151 = .ok (.iload 8, 2) := by decide +kernel
theorem dX10_lastViews_153 : decode cX10_lastViews 153 = .ok (.iastore, 1) := by decide +kernel
theorem dX10_lastViews_154 : decode cX10_lastViews 154 = .ok (.aload_n 2, 1) := by decide +kernel
theorem dX10_lastViews_155 : decode cX10_lastViews 155 = .ok (.aload_n 1, 1) := by decide +kernel
theorem dX10_lastViews_156 : decode cX10_lastViews 156 = .ok (.aload_n 0, 1) := by decide +kernel
theorem dX10_lastViews_157 : decode cX10_lastViews 157 = .ok (.getfield 9, 3) := by decide +kernel
theorem dX10_lastViews_160 : decode cX10_lastViews 160 = .ok (.iload 9, 2) := by decide +kernel
theorem dX10_lastViews_162 : decode cX10_lastViews 162 = .ok (.aload_n 0, 1) := by decide +kernel
theorem dX10_lastViews_163 : decode cX10_lastViews 163 = .ok (.getfield 15, 3) := by decide +kernel
theorem dX10_lastViews_166 : decode cX10_lastViews 166 = .ok (.aload_n 1, 1) := by decide +kernel
theorem dX10_lastViews_167 : decode cX10_lastViews 167 = .ok (.getfield 42, 3) := by decide +kernel
theorem dX10_lastViews_170 : decode cX10_lastViews 170 = .ok (.invokevirtual 45, 3) := by decide +kernel
theorem dX10_lastViews_173 : decode cX10_lastViews 173 = .ok (.ifCond .eq 6, 3) := by decide +kernel
theorem dX10_lastViews_176 : decode cX10_lastViews 176 = .ok (.iload 9, 2) := by decide +kernel
theorem dX10_lastViews_178 : decode cX10_lastViews 178 = .ok (.ireturn, 1) := by decide +kernel
theorem dX10_lastViews_179 : decode cX10_lastViews 179 = .ok (.aload_n 0, 1) := by decide +kernel
theorem dX10_lastViews_180 : decode cX10_lastViews 180 = .ok (.getfield 28, 3) := by decide +kernel
theorem dX10_lastViews_183 : decode cX10_lastViews 183 = .ok (.iload 5, 2) := by decide +kernel
theorem dX10_lastViews_185 : decode cX10_lastViews 185 = .ok (.iload 9, 2) := by decide +kernel
theorem dX10_lastViews_187 : decode cX10_lastViews 187 = .ok (.iastore, 1) := by decide +kernel
theorem dX10_lastViews_188 : decode cX10_lastViews 188 = .ok (.iinc 5 1, 3) := by decide +kernel
theorem dX10_lastViews_191 : decode cX10_lastViews 191 = .ok (.iinc 8 1, 3) := by decide +kernel
theorem dX10_lastViews_194 : decode cX10_lastViews 194 = .ok (.goto (-119), 3) := by decide +kernel
theorem dX10_lastViews_197 : decode cX10_lastViews 197 = .ok (.iinc 6 1, 3) := by decide +kernel
theorem dX10_lastViews_200 : decode cX10_lastViews 200 = .ok (.goto (-144), 3) := by decide +kernel
theorem dX10_lastViews_203 : decode cX10_lastViews 203 = .ok (.iconst (-1), 1) := by decide +kernel
theorem dX10_lastViews_204 : decode cX10_lastViews 204 = .ok (.ireturn, 1) := by decide +kernel
theorem dX10_trace_0 : decode cX10_trace 0 = .ok (.aload_n 0, 1) := by decide +kernel
theorem dX10_trace_1 : decode cX10_trace 1 = .ok (.iconst (-1), 1) := by decide +kernel
theorem dX10_trace_2 : decode cX10_trace 2 = .ok (.putfield 21, 3) := by decide +kernel
theorem dX10_trace_5 : decode cX10_trace 5 = .ok (.iload_n 2, 1) := by decide +kernel
theorem dX10_trace_6 : decode cX10_trace 6 = .ok (.iconst (-1), 1) := by decide +kernel
theorem dX10_trace_7 : decode cX10_trace 7 = .ok (.if_icmp .ne 4, 3) := by decide +kernel
theorem dX10_trace_10 : decode cX10_trace 10 = .ok (.return_, 1) := by decide +kernel
theorem dX10_trace_11 : decode cX10_trace 11 = .ok (.iconst 0, 1) := by decide +kernel
theorem dX10_trace_12 : decode cX10_trace 12 = .ok (.istore_n 3, 1) := by decide +kernel
theorem dX10_trace_13 : decode cX10_trace 13 = .ok (.iload_n 2, 1) := by decide +kernel
theorem dX10_trace_14 : decode cX10_trace 14 = .ok (.istore 4, 2) := by decide +kernel
theorem dX10_trace_16 : decode cX10_trace 16 = .ok (.iload 4, 2) := by decide +kernel
theorem dX10_trace_18 : decode cX10_trace 18 = .ok (.iload_n 1, 1) := by decide +kernel
theorem dX10_trace_19 : decode cX10_trace 19 = .ok (.if_icmp .eq 25, 3) := by decide +kernel
theorem dX10_trace_22 : decode cX10_trace 22 = .ok (.iload_n 3, 1) := by decide +kernel
theorem dX10_trace_23 : decode cX10_trace 23 = .ok (.sipush 1000, 3) := by decide +kernel
theorem dX10_trace_26 : decode cX10_trace 26 = .ok (.if_icmp .ge 18, 3) := by decide +kernel
theorem dX10_trace_29 : decode cX10_trace 29 = .ok (.iinc 3 1, 3) := by decide +kernel
theorem dX10_trace_32 : decode cX10_trace 32 = .ok (.aload_n 0, 1) := by decide +kernel
theorem dX10_trace_33 : decode cX10_trace 33 = .ok (.getfield 31, 3) := by decide +kernel
theorem dX10_trace_36 : decode cX10_trace 36 = .ok (.iload 4, 2) := by decide +kernel
theorem dX10_trace_38 : decode cX10_trace 38 = .ok (.iaload, 1) := by decide +kernel
theorem dX10_trace_39 : decode cX10_trace 39 = .ok (.istore 4, 2) := by decide +kernel
theorem dX10_trace_41 : decode cX10_trace 41 = .ok (.goto (-25), 3) := by decide +kernel
theorem dX10_trace_44 : decode cX10_trace 44 = .ok (.aload_n 0, 1) := by decide +kernel
theorem dX10_trace_45 : decode cX10_trace 45 = .ok (.iload_n 3, 1) := by decide +kernel
theorem dX10_trace_46 : decode cX10_trace 46 = .ok (.putfield 21, 3) := by decide +kernel
theorem dX10_trace_49 : decode cX10_trace 49 = .ok (.iload_n 2, 1) := by decide +kernel
theorem dX10_trace_50 : decode cX10_trace 50 = .ok (.istore 4, 2) := by decide +kernel
theorem dX10_trace_52 : decode cX10_trace 52 = .ok (.iload 4, 2) := by decide +kernel
theorem dX10_trace_54 : decode cX10_trace 54 = .ok (.iload_n 1, 1) := by decide +kernel
theorem dX10_trace_55 : decode cX10_trace 55 = .ok (.if_icmp .eq 35, 3) := by decide +kernel
theorem dX10_trace_58 : decode cX10_trace 58 = .ok (.iload_n 3, 1) := by decide +kernel
theorem dX10_trace_59 : decode cX10_trace 59 = .ok (.ifCond .le 31, 3) := by decide +kernel
theorem dX10_trace_62 : decode cX10_trace 62 = .ok (.iinc 3 (-1), 3) := by decide +kernel
theorem dX10_trace_65 : decode cX10_trace 65 = .ok (.aload_n 0, 1) := by decide +kernel
theorem dX10_trace_66 : decode cX10_trace 66 = .ok (.getfield 24, 3) := by decide +kernel
theorem dX10_trace_69 : decode cX10_trace 69 = .ok (.iload_n 3, 1) := by decide +kernel
theorem dX10_trace_70 : decode cX10_trace 70 = .ok (.aload_n 0, 1) := by decide +kernel
theorem dX10_trace_71 : decode cX10_trace 71 = .ok (.getfield 34, 3) := by decide +kernel
theorem dX10_trace_74 : decode cX10_trace 74 = .ok (.iload 4, 2) := by decide +kernel
theorem dX10_trace_76 : decode cX10_trace 76 = .ok (.iaload, 1) := by decide +kernel
theorem dX10_trace_77 : decode cX10_trace 77 = .ok (.iastore, 1) := by decide +kernel
theorem dX10_trace_78 : decode cX10_trace 78 = .ok (.aload_n 0, 1) := by decide +kernel
theorem dX10_trace_79 : decode cX10_trace 79 = .ok (.getfield 31, 3) := by decide +kernel
theorem dX10_trace_82 : decode cX10_trace 82 = .ok (.iload 4, 2) := by decide +kernel
theorem dX10_trace_84 : decode cX10_trace 84 = .ok (.iaload, 1) := by decide +kernel
theorem dX10_trace_85 : decode cX10_trace 85 = .ok (.istore 4, 2) := by decide +kernel
theorem dX10_trace_87 : decode cX10_trace 87 = .ok (.goto (-35), 3) := by decide +kernel
theorem dX10_trace_90 : decode cX10_trace 90 = .ok (.return_, 1) := by decide +kernel
theorem dX11_areTwoPeople_0 : decode cX11_areTwoPeople 0 = .ok (.aload_n 0, 1) := by decide +kernel
theorem dX11_areTwoPeople_1 : decode cX11_areTwoPeople 1 = .ok (.iload_n 1, 1) := by decide +kernel
theorem dX11_areTwoPeople_2 : decode cX11_areTwoPeople 2 = .ok (.invokevirtual 122, 3) := by decide +kernel
theorem dX11_areTwoPeople_5 : decode cX11_areTwoPeople 5 = .ok (.ifCond .eq 20, 3) := by decide +kernel
theorem dX11_areTwoPeople_8 : decode cX11_areTwoPeople 8 = .ok (.aload_n 0, 1) := by decide +kernel
theorem dX11_areTwoPeople_9 : decode cX11_areTwoPeople 9 = .ok (.iload_n 2, 1) := by decide +kernel
theorem dX11_areTwoPeople_10 : decode cX11_areTwoPeople 10 = .ok (.invokevirtual 122, 3) := by decide +kernel
theorem dX11_areTwoPeople_13 : decode cX11_areTwoPeople 13 = .ok (.ifCond .eq 12, 3) := by decide +kernel
theorem dX11_areTwoPeople_16 : decode cX11_areTwoPeople 16 = .ok (.iload_n 1, 1) := by decide +kernel
theorem dX11_areTwoPeople_17 : decode cX11_areTwoPeople 17 = .ok (.iload_n 2, 1) := by decide +kernel
theorem dX11_areTwoPeople_18 : decode cX11_areTwoPeople 18 = .ok (.if_icmp .eq 7, 3) := by decide +kernel
theorem dX11_areTwoPeople_21 : decode cX11_areTwoPeople 21 = .ok (.iconst 1, 1) := by decide +kernel
theorem dX11_areTwoPeople_22 : decode cX11_areTwoPeople 22 = .ok (.goto 4, 3) := by decide +kernel
theorem dX11_areTwoPeople_25 : decode cX11_areTwoPeople 25 = .ok (.iconst 0, 1) := by decide +kernel
theorem dX11_areTwoPeople_26 : decode cX11_areTwoPeople 26 = .ok (.ireturn, 1) := by decide +kernel
theorem dX11_isPerson_0 : decode cX11_isPerson 0 = .ok (.iload_n 1, 1) := by decide +kernel
theorem dX11_isPerson_1 : decode cX11_isPerson 1 = .ok (.ifCond .lt 21, 3) := by decide +kernel
theorem dX11_isPerson_4 : decode cX11_isPerson 4 = .ok (.iload_n 1, 1) := by decide +kernel
theorem dX11_isPerson_5 : decode cX11_isPerson 5 = .ok (.aload_n 0, 1) := by decide +kernel
theorem dX11_isPerson_6 : decode cX11_isPerson 6 = .ok (.getfield 83, 3) := by decide +kernel
theorem dX11_isPerson_9 : decode cX11_isPerson 9 = .ok (.getfield 126, 3) := by decide +kernel
theorem dX11_isPerson_12 : decode cX11_isPerson 12 = .ok (.getfield 159, 3) := by decide +kernel
theorem dX11_isPerson_15 : decode cX11_isPerson 15 = .ok (.if_icmp .ge 7, 3) := by decide +kernel
theorem dX11_isPerson_18 : decode cX11_isPerson 18 = .ok (.iconst 1, 1) := by decide +kernel
theorem dX11_isPerson_19 : decode cX11_isPerson 19 = .ok (.goto 4, 3) := by decide +kernel
theorem dX11_isPerson_22 : decode cX11_isPerson 22 = .ok (.iconst 0, 1) := by decide +kernel
theorem dX11_isPerson_23 : decode cX11_isPerson 23 = .ok (.ireturn, 1) := by decide +kernel
theorem dX11_numberOrSet_0 : decode cX11_numberOrSet 0 = .ok (.iload_n 0, 1) := by decide +kernel
theorem dX11_numberOrSet_1 : decode cX11_numberOrSet 1 = .ok (.iconst (-1), 1) := by decide +kernel
theorem dX11_numberOrSet_2 : decode cX11_numberOrSet 2 = .ok (.if_icmp .ne 5, 3) := by decide +kernel
theorem dX11_numberOrSet_5 : decode cX11_numberOrSet 5 = .ok (.iconst (-1), 1) := by decide +kernel
theorem dX11_numberOrSet_6 : decode cX11_numberOrSet 6 = .ok (.ireturn, 1) := by decide +kernel
theorem dX11_numberOrSet_7 : decode cX11_numberOrSet 7 = .ok (.iload_n 1, 1) := by decide +kernel
theorem dX11_numberOrSet_8 : decode cX11_numberOrSet 8 = .ok (.ifCond .ne 10, 3) := by decide +kernel
theorem dX11_numberOrSet_11 : decode cX11_numberOrSet 11 = .ok (.iload_n 0, 1) := by decide +kernel
theorem dX11_numberOrSet_12 : decode cX11_numberOrSet 12 = .ok (.invokestatic 193, 3) := by decide +kernel
theorem dX11_numberOrSet_15 : decode cX11_numberOrSet 15 = .ok (.goto 4, 3) := by decide +kernel
theorem dX11_numberOrSet_18 : decode cX11_numberOrSet 18 = .ok (.iload_n 0, 1) := by decide +kernel
theorem dX11_numberOrSet_19 : decode cX11_numberOrSet 19 = .ok (.ireturn, 1) := by decide +kernel
theorem dX4_joined_0 : decode cX4_joined 0 = .ok (.iload_n 0, 1) := by decide +kernel
theorem dX4_joined_1 : decode cX4_joined 1 = .ok (.lookupswitch 144 #[(22, 136), (42, 85), (43, 67), (45, 76), (60, 108), (61, 94), (62, 122)], 67) := by decide +kernel
theorem dX4_joined_68 : decode cX4_joined 68 = .ok (.iload_n 1, 1) := by decide +kernel
theorem dX4_joined_69 : decode cX4_joined 69 = .ok (.i2l, 1) := by decide +kernel
theorem dX4_joined_70 : decode cX4_joined 70 = .ok (.iload_n 2, 1) := by decide +kernel
theorem dX4_joined_71 : decode cX4_joined 71 = .ok (.i2l, 1) := by decide +kernel
theorem dX4_joined_72 : decode cX4_joined 72 = .ok (.ladd, 1) := by decide +kernel
theorem dX4_joined_73 : decode cX4_joined 73 = .ok (.lstore_n 3, 1) := by decide +kernel
theorem dX4_joined_74 : decode cX4_joined 74 = .ok (.goto 76, 3) := by decide +kernel
theorem dX4_joined_77 : decode cX4_joined 77 = .ok (.iload_n 1, 1) := by decide +kernel
theorem dX4_joined_78 : decode cX4_joined 78 = .ok (.i2l, 1) := by decide +kernel
theorem dX4_joined_79 : decode cX4_joined 79 = .ok (.iload_n 2, 1) := by decide +kernel
theorem dX4_joined_80 : decode cX4_joined 80 = .ok (.i2l, 1) := by decide +kernel
theorem dX4_joined_81 : decode cX4_joined 81 = .ok (.lsub, 1) := by decide +kernel
theorem dX4_joined_82 : decode cX4_joined 82 = .ok (.lstore_n 3, 1) := by decide +kernel
theorem dX4_joined_83 : decode cX4_joined 83 = .ok (.goto 67, 3) := by decide +kernel
theorem dX4_joined_86 : decode cX4_joined 86 = .ok (.iload_n 1, 1) := by decide +kernel
theorem dX4_joined_87 : decode cX4_joined 87 = .ok (.i2l, 1) := by decide +kernel
theorem dX4_joined_88 : decode cX4_joined 88 = .ok (.iload_n 2, 1) := by decide +kernel
theorem dX4_joined_89 : decode cX4_joined 89 = .ok (.i2l, 1) := by decide +kernel
theorem dX4_joined_90 : decode cX4_joined 90 = .ok (.lmul, 1) := by decide +kernel
theorem dX4_joined_91 : decode cX4_joined 91 = .ok (.lstore_n 3, 1) := by decide +kernel
theorem dX4_joined_92 : decode cX4_joined 92 = .ok (.goto 58, 3) := by decide +kernel
theorem dX4_joined_95 : decode cX4_joined 95 = .ok (.iload_n 1, 1) := by decide +kernel
theorem dX4_joined_96 : decode cX4_joined 96 = .ok (.iload_n 2, 1) := by decide +kernel
theorem dX4_joined_97 : decode cX4_joined 97 = .ok (.if_icmp .ne 7, 3) := by decide +kernel
theorem dX4_joined_100 : decode cX4_joined 100 = .ok (.lconst 1, 1) := by decide +kernel
theorem dX4_joined_101 : decode cX4_joined 101 = .ok (.goto 4, 3) := by decide +kernel
theorem dX4_joined_104 : decode cX4_joined 104 = .ok (.lconst 0, 1) := by decide +kernel
theorem dX4_joined_105 : decode cX4_joined 105 = .ok (.lstore_n 3, 1) := by decide +kernel
theorem dX4_joined_106 : decode cX4_joined 106 = .ok (.goto 44, 3) := by decide +kernel
theorem dX4_joined_109 : decode cX4_joined 109 = .ok (.iload_n 1, 1) := by decide +kernel
theorem dX4_joined_110 : decode cX4_joined 110 = .ok (.iload_n 2, 1) := by decide +kernel
theorem dX4_joined_111 : decode cX4_joined 111 = .ok (.if_icmp .ge 7, 3) := by decide +kernel
theorem dX4_joined_114 : decode cX4_joined 114 = .ok (.lconst 1, 1) := by decide +kernel
theorem dX4_joined_115 : decode cX4_joined 115 = .ok (.goto 4, 3) := by decide +kernel
theorem dX4_joined_118 : decode cX4_joined 118 = .ok (.lconst 0, 1) := by decide +kernel
theorem dX4_joined_119 : decode cX4_joined 119 = .ok (.lstore_n 3, 1) := by decide +kernel
theorem dX4_joined_120 : decode cX4_joined 120 = .ok (.goto 30, 3) := by decide +kernel
theorem dX4_joined_123 : decode cX4_joined 123 = .ok (.iload_n 1, 1) := by decide +kernel
theorem dX4_joined_124 : decode cX4_joined 124 = .ok (.iload_n 2, 1) := by decide +kernel
theorem dX4_joined_125 : decode cX4_joined 125 = .ok (.if_icmp .le 7, 3) := by decide +kernel
theorem dX4_joined_128 : decode cX4_joined 128 = .ok (.lconst 1, 1) := by decide +kernel
theorem dX4_joined_129 : decode cX4_joined 129 = .ok (.goto 4, 3) := by decide +kernel
theorem dX4_joined_132 : decode cX4_joined 132 = .ok (.lconst 0, 1) := by decide +kernel
theorem dX4_joined_133 : decode cX4_joined 133 = .ok (.lstore_n 3, 1) := by decide +kernel
theorem dX4_joined_134 : decode cX4_joined 134 = .ok (.goto 16, 3) := by decide +kernel
theorem dX4_joined_137 : decode cX4_joined 137 = .ok (.iload_n 1, 1) := by decide +kernel
theorem dX4_joined_138 : decode cX4_joined 138 = .ok (.iload_n 2, 1) := by decide +kernel
theorem dX4_joined_139 : decode cX4_joined 139 = .ok (.iand, 1) := by decide +kernel
theorem dX4_joined_140 : decode cX4_joined 140 = .ok (.i2l, 1) := by decide +kernel
theorem dX4_joined_141 : decode cX4_joined 141 = .ok (.lstore_n 3, 1) := by decide +kernel
theorem dX4_joined_142 : decode cX4_joined 142 = .ok (.goto 8, 3) := by decide +kernel
theorem dX4_joined_145 : decode cX4_joined 145 = .ok (.iload_n 1, 1) := by decide +kernel
theorem dX4_joined_146 : decode cX4_joined 146 = .ok (.iload_n 2, 1) := by decide +kernel
theorem dX4_joined_147 : decode cX4_joined 147 = .ok (.ior, 1) := by decide +kernel
theorem dX4_joined_148 : decode cX4_joined 148 = .ok (.i2l, 1) := by decide +kernel
theorem dX4_joined_149 : decode cX4_joined 149 = .ok (.lstore_n 3, 1) := by decide +kernel
theorem dX4_joined_150 : decode cX4_joined 150 = .ok (.ldc2_w 25, 3) := by decide +kernel
theorem dX4_joined_153 : decode cX4_joined 153 = .ok (.ldc2_w 27, 3) := by decide +kernel
theorem dX4_joined_156 : decode cX4_joined 156 = .ok (.lload_n 3, 1) := by decide +kernel
theorem dX4_joined_157 : decode cX4_joined 157 = .ok (.invokestatic 29, 3) := by decide +kernel
theorem dX4_joined_160 : decode cX4_joined 160 = .ok (.invokestatic 35, 3) := by decide +kernel
theorem dX4_joined_163 : decode cX4_joined 163 = .ok (.l2i, 1) := by decide +kernel
theorem dX4_joined_164 : decode cX4_joined 164 = .ok (.ireturn, 1) := by decide +kernel
theorem dX4_valueFor_0 : decode cX4_valueFor 0 = .ok (.iconst 0, 1) := by decide +kernel
theorem dX4_valueFor_1 : decode cX4_valueFor 1 = .ok (.istore_n 3, 1) := by decide +kernel
theorem dX4_valueFor_2 : decode cX4_valueFor 2 = .ok (.iconst 0, 1) := by decide +kernel
theorem dX4_valueFor_3 : decode cX4_valueFor 3 = .ok (.istore 4, 2) := by decide +kernel
theorem dX4_valueFor_5 : decode cX4_valueFor 5 = .ok (.iload 4, 2) := by decide +kernel
theorem dX4_valueFor_7 : decode cX4_valueFor 7 = .ok (.aload_n 0, 1) := by decide +kernel
theorem dX4_valueFor_8 : decode cX4_valueFor 8 = .ok (.getfield 15, 3) := by decide +kernel
theorem dX4_valueFor_11 : decode cX4_valueFor 11 = .ok (.arraylength, 1) := by decide +kernel
theorem dX4_valueFor_12 : decode cX4_valueFor 12 = .ok (.if_icmp .ge 127, 3) := by decide +kernel
theorem dX4_valueFor_15 : decode cX4_valueFor 15 = .ok (.aload_n 0, 1) := by decide +kernel
theorem dX4_valueFor_16 : decode cX4_valueFor 16 = .ok (.getfield 15, 3) := by decide +kernel
theorem dX4_valueFor_19 : decode cX4_valueFor 19 = .ok (.iload 4, 2) := by decide +kernel
theorem dX4_valueFor_21 : decode cX4_valueFor 21 = .ok (.iaload, 1) := by decide +kernel
theorem dX4_valueFor_22 : decode cX4_valueFor 22 = .ok (.istore 5, 2) := by decide +kernel
theorem dX4_valueFor_24 : decode cX4_valueFor 24 = .ok (.iload 5, 2) := by decide +kernel
theorem dX4_valueFor_26 : decode cX4_valueFor 26 = .ok (.sipush 2000, 3) := by decide +kernel
theorem dX4_valueFor_29 : decode cX4_valueFor 29 = .ok (.if_icmp .ge 47, 3) := by decide +kernel
theorem dX4_valueFor_32 : decode cX4_valueFor 32 = .ok (.iload 5, 2) := by decide +kernel
theorem dX4_valueFor_34 : decode cX4_valueFor 34 = .ok (.sipush 1000, 3) := by decide +kernel
theorem dX4_valueFor_37 : decode cX4_valueFor 37 = .ok (.isub, 1) := by decide +kernel
theorem dX4_valueFor_38 : decode cX4_valueFor 38 = .ok (.istore 6, 2) := by decide +kernel
theorem dX4_valueFor_40 : decode cX4_valueFor 40 = .ok (.iload_n 3, 1) := by decide +kernel
theorem dX4_valueFor_41 : decode cX4_valueFor 41 = .ok (.aload_n 2, 1) := by decide +kernel
theorem dX4_valueFor_42 : decode cX4_valueFor 42 = .ok (.arraylength, 1) := by decide +kernel
theorem dX4_valueFor_43 : decode cX4_valueFor 43 = .ok (.if_icmp .ge 30, 3) := by decide +kernel
theorem dX4_valueFor_46 : decode cX4_valueFor 46 = .ok (.iload 6, 2) := by decide +kernel
theorem dX4_valueFor_48 : decode cX4_valueFor 48 = .ok (.aload_n 1, 1) := by decide +kernel
theorem dX4_valueFor_49 : decode cX4_valueFor 49 = .ok (.arraylength, 1) := by decide +kernel
theorem dX4_valueFor_50 : decode cX4_valueFor 50 = .ok (.if_icmp .ge 23, 3) := by decide +kernel
theorem dX4_valueFor_53 : decode cX4_valueFor 53 = .ok (.aload_n 2, 1) := by decide +kernel
theorem dX4_valueFor_54 : decode cX4_valueFor 54 = .ok (.iload_n 3, 1) := by decide +kernel
theorem dX4_valueFor_55 : decode cX4_valueFor 55 = .ok (.iload 6, 2) := by decide +kernel
theorem dX4_valueFor_57 : decode cX4_valueFor 57 = .ok (.ifCond .ge 8, 3) := by decide +kernel
theorem dX4_valueFor_60 : decode cX4_valueFor 60 = .ok (.iload 5, 2) := by decide +kernel
theorem dX4_valueFor_62 : decode cX4_valueFor 62 = .ok (.goto 7, 3) := by decide +kernel
theorem dX4_valueFor_65 : decode cX4_valueFor 65 = .ok (.aload_n 1, 1) := by decide +kernel
theorem dX4_valueFor_66 : decode cX4_valueFor 66 = .ok (.iload 6, 2) := by decide +kernel
theorem dX4_valueFor_68 : decode cX4_valueFor 68 = .ok (.iaload, 1) := by decide +kernel
theorem dX4_valueFor_69 : decode cX4_valueFor 69 = .ok (.iastore, 1) := by decide +kernel
theorem dX4_valueFor_70 : decode cX4_valueFor 70 = .ok (.iinc 3 1, 3) := by decide +kernel
theorem dX4_valueFor_73 : decode cX4_valueFor 73 = .ok (.goto 60, 3) := by decide +kernel
theorem dX4_valueFor_76 : decode cX4_valueFor 76 = .ok (.iload 5, 2) := by decide +kernel
theorem dX4_valueFor_78 : decode cX4_valueFor 78 = .ok (.sipush 2023, 3) := by decide +kernel
theorem dX4_valueFor_81 : decode cX4_valueFor 81 = .ok (.if_icmp .ne 22, 3) := by decide +kernel
theorem dX4_valueFor_84 : decode cX4_valueFor 84 = .ok (.iload_n 3, 1) := by decide +kernel
theorem dX4_valueFor_85 : decode cX4_valueFor 85 = .ok (.ifCond .le 48, 3) := by decide +kernel
theorem dX4_valueFor_88 : decode cX4_valueFor 88 = .ok (.aload_n 2, 1) := by decide +kernel
theorem dX4_valueFor_89 : decode cX4_valueFor 89 = .ok (.iload_n 3, 1) := by decide +kernel
theorem dX4_valueFor_90 : decode cX4_valueFor 90 = .ok (.iconst 1, 1) := by decide +kernel
theorem dX4_valueFor_91 : decode cX4_valueFor 91 = .ok (.isub, 1) := by decide +kernel
theorem dX4_valueFor_92 : decode cX4_valueFor 92 = .ok (.iconst 1, 1) := by decide +kernel
theorem dX4_valueFor_93 : decode cX4_valueFor 93 = .ok (.aload_n 2, 1) := by decide +kernel
theorem dX4_valueFor_94 : decode cX4_valueFor 94 = .ok (.iload_n 3, 1) := by decide +kernel
theorem dX4_valueFor_95 : decode cX4_valueFor 95 = .ok (.iconst 1, 1) := by decide +kernel
theorem dX4_valueFor_96 : decode cX4_valueFor 96 = .ok (.isub, 1) := by decide +kernel
theorem dX4_valueFor_97 : decode cX4_valueFor 97 = .ok (.iaload, 1) := by decide +kernel
theorem dX4_valueFor_98 : decode cX4_valueFor 98 = .ok (.isub, 1) := by decide +kernel
theorem dX4_valueFor_99 : decode cX4_valueFor 99 = .ok (.iastore, 1) := by decide +kernel
theorem dX4_valueFor_100 : decode cX4_valueFor 100 = .ok (.goto 33, 3) := by decide +kernel
theorem dX4_valueFor_103 : decode cX4_valueFor 103 = .ok (.iload_n 3, 1) := by decide +kernel
theorem dX4_valueFor_104 : decode cX4_valueFor 104 = .ok (.iconst 1, 1) := by decide +kernel
theorem dX4_valueFor_105 : decode cX4_valueFor 105 = .ok (.if_icmp .le 28, 3) := by decide +kernel
theorem dX4_valueFor_108 : decode cX4_valueFor 108 = .ok (.iinc 3 (-1), 3) := by decide +kernel
theorem dX4_valueFor_111 : decode cX4_valueFor 111 = .ok (.aload_n 2, 1) := by decide +kernel
theorem dX4_valueFor_112 : decode cX4_valueFor 112 = .ok (.iload_n 3, 1) := by decide +kernel
theorem dX4_valueFor_113 : decode cX4_valueFor 113 = .ok (.iconst 1, 1) := by decide +kernel
theorem dX4_valueFor_114 : decode cX4_valueFor 114 = .ok (.isub, 1) := by decide +kernel
theorem dX4_valueFor_115 : decode cX4_valueFor 115 = .ok (.iload 5, 2) := by decide +kernel
theorem dX4_valueFor_117 : decode cX4_valueFor 117 = .ok (.sipush 2000, 3) := by decide +kernel
theorem dX4_valueFor_120 : decode cX4_valueFor 120 = .ok (.isub, 1) := by decide +kernel
theorem dX4_valueFor_121 : decode cX4_valueFor 121 = .ok (.aload_n 2, 1) := by decide +kernel
theorem dX4_valueFor_122 : decode cX4_valueFor 122 = .ok (.iload_n 3, 1) := by decide +kernel
theorem dX4_valueFor_123 : decode cX4_valueFor 123 = .ok (.iconst 1, 1) := by decide +kernel
theorem dX4_valueFor_124 : decode cX4_valueFor 124 = .ok (.isub, 1) := by decide +kernel
theorem dX4_valueFor_125 : decode cX4_valueFor 125 = .ok (.iaload, 1) := by decide +kernel
theorem dX4_valueFor_126 : decode cX4_valueFor 126 = .ok (.aload_n 2, 1) := by decide +kernel
theorem dX4_valueFor_127 : decode cX4_valueFor 127 = .ok (.iload_n 3, 1) := by decide +kernel
theorem dX4_valueFor_128 : decode cX4_valueFor 128 = .ok (.iaload, 1) := by decide +kernel
theorem dX4_valueFor_129 : decode cX4_valueFor 129 = .ok (.invokestatic 21, 3) := by decide +kernel
theorem dX4_valueFor_132 : decode cX4_valueFor 132 = .ok (.iastore, 1) := by decide +kernel
theorem dX4_valueFor_133 : decode cX4_valueFor 133 = .ok (.iinc 4 1, 3) := by decide +kernel
theorem dX4_valueFor_136 : decode cX4_valueFor 136 = .ok (.goto (-131), 3) := by decide +kernel
theorem dX4_valueFor_139 : decode cX4_valueFor 139 = .ok (.iload_n 3, 1) := by decide +kernel
theorem dX4_valueFor_140 : decode cX4_valueFor 140 = .ok (.ifCond .le 9, 3) := by decide +kernel
theorem dX4_valueFor_143 : decode cX4_valueFor 143 = .ok (.aload_n 2, 1) := by decide +kernel
theorem dX4_valueFor_144 : decode cX4_valueFor 144 = .ok (.iconst 0, 1) := by decide +kernel
theorem dX4_valueFor_145 : decode cX4_valueFor 145 = .ok (.iaload, 1) := by decide +kernel
theorem dX4_valueFor_146 : decode cX4_valueFor 146 = .ok (.goto 4, 3) := by decide +kernel
theorem dX4_valueFor_149 : decode cX4_valueFor 149 = .ok (.iconst 0, 1) := by decide +kernel
theorem dX4_valueFor_150 : decode cX4_valueFor 150 = .ok (.ireturn, 1) := by decide +kernel
theorem dX6_areOpposites_0 : decode cX6_areOpposites 0 = .ok (.aload_n 1, 1) := by decide +kernel
theorem dX6_areOpposites_1 : decode cX6_areOpposites 1 = .ok (.getfield 28, 3) := by decide +kernel
theorem dX6_areOpposites_4 : decode cX6_areOpposites 4 = .ok (.getfield 34, 3) := by decide +kernel
theorem dX6_areOpposites_7 : decode cX6_areOpposites 7 = .ok (.astore 6, 2) := by decide +kernel
theorem dX6_areOpposites_9 : decode cX6_areOpposites 9 = .ok (.aload_n 1, 1) := by decide +kernel
theorem dX6_areOpposites_10 : decode cX6_areOpposites 10 = .ok (.getfield 40, 3) := by decide +kernel
theorem dX6_areOpposites_13 : decode cX6_areOpposites 13 = .ok (.iload 4, 2) := by decide +kernel
theorem dX6_areOpposites_15 : decode cX6_areOpposites 15 = .ok (.iaload, 1) := by decide +kernel
theorem dX6_areOpposites_16 : decode cX6_areOpposites 16 = .ok (.istore 7, 2) := by decide +kernel
theorem dX6_areOpposites_18 : decode cX6_areOpposites 18 = .ok (.aload 6, 2) := by decide +kernel
theorem dX6_areOpposites_20 : decode cX6_areOpposites 20 = .ok (.ifnonnull 24, 3) := by decide +kernel
theorem dX6_areOpposites_23 : decode cX6_areOpposites 23 = .ok (.iload_n 3, 1) := by decide +kernel
theorem dX6_areOpposites_24 : decode cX6_areOpposites 24 = .ok (.bipush 100, 2) := by decide +kernel
theorem dX6_areOpposites_26 : decode cX6_areOpposites 26 = .ok (.idiv, 1) := by decide +kernel
theorem dX6_areOpposites_27 : decode cX6_areOpposites 27 = .ok (.iload 7, 2) := by decide +kernel
theorem dX6_areOpposites_29 : decode cX6_areOpposites 29 = .ok (.bipush 100, 2) := by decide +kernel
theorem dX6_areOpposites_31 : decode cX6_areOpposites 31 = .ok (.idiv, 1) := by decide +kernel
theorem dX6_areOpposites_32 : decode cX6_areOpposites 32 = .ok (.iadd, 1) := by decide +kernel
theorem dX6_areOpposites_33 : decode cX6_areOpposites 33 = .ok (.bipush 9, 2) := by decide +kernel
theorem dX6_areOpposites_35 : decode cX6_areOpposites 35 = .ok (.if_icmp .ne 7, 3) := by decide +kernel
theorem dX6_areOpposites_38 : decode cX6_areOpposites 38 = .ok (.iconst 1, 1) := by decide +kernel
theorem dX6_areOpposites_39 : decode cX6_areOpposites 39 = .ok (.goto 4, 3) := by decide +kernel
theorem dX6_areOpposites_42 : decode cX6_areOpposites 42 = .ok (.iconst 0, 1) := by decide +kernel
theorem dX6_areOpposites_43 : decode cX6_areOpposites 43 = .ok (.ireturn, 1) := by decide +kernel
theorem dX6_areOpposites_44 : decode cX6_areOpposites 44 = .ok (.aload_n 0, 1) := by decide +kernel
theorem dX6_areOpposites_45 : decode cX6_areOpposites 45 = .ok (.getfield 9, 3) := by decide +kernel
theorem dX6_areOpposites_48 : decode cX6_areOpposites 48 = .ok (.bipush 8, 2) := by decide +kernel
theorem dX6_areOpposites_50 : decode cX6_areOpposites 50 = .ok (.iload 5, 2) := by decide +kernel
theorem dX6_areOpposites_52 : decode cX6_areOpposites 52 = .ok (.bipush 7, 2) := by decide +kernel
theorem dX6_areOpposites_54 : decode cX6_areOpposites 54 = .ok (.irem, 1) := by decide +kernel
theorem dX6_areOpposites_55 : decode cX6_areOpposites 55 = .ok (.iastore, 1) := by decide +kernel
theorem dX6_areOpposites_56 : decode cX6_areOpposites 56 = .ok (.aload_n 0, 1) := by decide +kernel
theorem dX6_areOpposites_57 : decode cX6_areOpposites 57 = .ok (.aload 6, 2) := by decide +kernel
theorem dX6_areOpposites_59 : decode cX6_areOpposites 59 = .ok (.iload_n 2, 1) := by decide +kernel
theorem dX6_areOpposites_60 : decode cX6_areOpposites 60 = .ok (.iload_n 3, 1) := by decide +kernel
theorem dX6_areOpposites_61 : decode cX6_areOpposites 61 = .ok (.iload 4, 2) := by decide +kernel
theorem dX6_areOpposites_63 : decode cX6_areOpposites 63 = .ok (.iload 7, 2) := by decide +kernel
theorem dX6_areOpposites_65 : decode cX6_areOpposites 65 = .ok (.invokevirtual 43, 3) := by decide +kernel
theorem dX6_areOpposites_68 : decode cX6_areOpposites 68 = .ok (.ifCond .ne 18, 3) := by decide +kernel
theorem dX6_areOpposites_71 : decode cX6_areOpposites 71 = .ok (.aload_n 0, 1) := by decide +kernel
theorem dX6_areOpposites_72 : decode cX6_areOpposites 72 = .ok (.aload 6, 2) := by decide +kernel
theorem dX6_areOpposites_74 : decode cX6_areOpposites 74 = .ok (.iload 4, 2) := by decide +kernel
theorem dX6_areOpposites_76 : decode cX6_areOpposites 76 = .ok (.iload 7, 2) := by decide +kernel
theorem dX6_areOpposites_78 : decode cX6_areOpposites 78 = .ok (.iload_n 2, 1) := by decide +kernel
theorem dX6_areOpposites_79 : decode cX6_areOpposites 79 = .ok (.iload_n 3, 1) := by decide +kernel
theorem dX6_areOpposites_80 : decode cX6_areOpposites 80 = .ok (.invokevirtual 43, 3) := by decide +kernel
theorem dX6_areOpposites_83 : decode cX6_areOpposites 83 = .ok (.ifCond .eq 7, 3) := by decide +kernel
theorem dX6_areOpposites_86 : decode cX6_areOpposites 86 = .ok (.iconst 1, 1) := by decide +kernel
theorem dX6_areOpposites_87 : decode cX6_areOpposites 87 = .ok (.goto 4, 3) := by decide +kernel
theorem dX6_areOpposites_90 : decode cX6_areOpposites 90 = .ok (.iconst 0, 1) := by decide +kernel
theorem dX6_areOpposites_91 : decode cX6_areOpposites 91 = .ok (.ireturn, 1) := by decide +kernel
theorem dX6_opposesOneWay_0 : decode cX6_opposesOneWay 0 = .ok (.aload_n 0, 1) := by decide +kernel
theorem dX6_opposesOneWay_1 : decode cX6_opposesOneWay 1 = .ok (.iconst 0, 1) := by decide +kernel
theorem dX6_opposesOneWay_2 : decode cX6_opposesOneWay 2 = .ok (.iload_n 3, 1) := by decide +kernel
theorem dX6_opposesOneWay_3 : decode cX6_opposesOneWay 3 = .ok (.iload_n 2, 1) := by decide +kernel
theorem dX6_opposesOneWay_4 : decode cX6_opposesOneWay 4 = .ok (.invokevirtual 18, 3) := by decide +kernel
theorem dX6_opposesOneWay_7 : decode cX6_opposesOneWay 7 = .ok (.aload_n 0, 1) := by decide +kernel
theorem dX6_opposesOneWay_8 : decode cX6_opposesOneWay 8 = .ok (.iconst 4, 1) := by decide +kernel
theorem dX6_opposesOneWay_9 : decode cX6_opposesOneWay 9 = .ok (.iload 5, 2) := by decide +kernel
theorem dX6_opposesOneWay_11 : decode cX6_opposesOneWay 11 = .ok (.iload 4, 2) := by decide +kernel
theorem dX6_opposesOneWay_13 : decode cX6_opposesOneWay 13 = .ok (.invokevirtual 18, 3) := by decide +kernel
theorem dX6_opposesOneWay_16 : decode cX6_opposesOneWay 16 = .ok (.aload_n 1, 1) := by decide +kernel
theorem dX6_opposesOneWay_17 : decode cX6_opposesOneWay 17 = .ok (.aload_n 0, 1) := by decide +kernel
theorem dX6_opposesOneWay_18 : decode cX6_opposesOneWay 18 = .ok (.getfield 9, 3) := by decide +kernel
theorem dX6_opposesOneWay_21 : decode cX6_opposesOneWay 21 = .ok (.aload_n 0, 1) := by decide +kernel
theorem dX6_opposesOneWay_22 : decode cX6_opposesOneWay 22 = .ok (.getfield 15, 3) := by decide +kernel
theorem dX6_opposesOneWay_25 : decode cX6_opposesOneWay 25 = .ok (.invokevirtual 22, 3) := by decide +kernel
theorem dX6_opposesOneWay_28 : decode cX6_opposesOneWay 28 = .ok (.ifCond .eq 7, 3) := by decide +kernel
theorem dX6_opposesOneWay_31 : decode cX6_opposesOneWay 31 = .ok (.iconst 1, 1) := by decide +kernel
theorem dX6_opposesOneWay_32 : decode cX6_opposesOneWay 32 = .ok (.goto 4, 3) := by decide +kernel
theorem dX6_opposesOneWay_35 : decode cX6_opposesOneWay 35 = .ok (.iconst 0, 1) := by decide +kernel
theorem dX6_opposesOneWay_36 : decode cX6_opposesOneWay 36 = .ok (.ireturn, 1) := by decide +kernel
theorem dX6_put_0 : decode cX6_put 0 = .ok (.aload_n 0, 1) := by decide +kernel
theorem dX6_put_1 : decode cX6_put 1 = .ok (.getfield 9, 3) := by decide +kernel
theorem dX6_put_4 : decode cX6_put 4 = .ok (.iload_n 1, 1) := by decide +kernel
theorem dX6_put_5 : decode cX6_put 5 = .ok (.iload_n 2, 1) := by decide +kernel
theorem dX6_put_6 : decode cX6_put 6 = .ok (.bipush 100, 2) := by decide +kernel
theorem dX6_put_8 : decode cX6_put 8 = .ok (.idiv, 1) := by decide +kernel
theorem dX6_put_9 : decode cX6_put 9 = .ok (.iastore, 1) := by decide +kernel
theorem dX6_put_10 : decode cX6_put 10 = .ok (.aload_n 0, 1) := by decide +kernel
theorem dX6_put_11 : decode cX6_put 11 = .ok (.getfield 9, 3) := by decide +kernel
theorem dX6_put_14 : decode cX6_put 14 = .ok (.iload_n 1, 1) := by decide +kernel
theorem dX6_put_15 : decode cX6_put 15 = .ok (.iconst 1, 1) := by decide +kernel
theorem dX6_put_16 : decode cX6_put 16 = .ok (.iadd, 1) := by decide +kernel
theorem dX6_put_17 : decode cX6_put 17 = .ok (.iload_n 2, 1) := by decide +kernel
theorem dX6_put_18 : decode cX6_put 18 = .ok (.bipush 10, 2) := by decide +kernel
theorem dX6_put_20 : decode cX6_put 20 = .ok (.idiv, 1) := by decide +kernel
theorem dX6_put_21 : decode cX6_put 21 = .ok (.bipush 10, 2) := by decide +kernel
theorem dX6_put_23 : decode cX6_put 23 = .ok (.irem, 1) := by decide +kernel
theorem dX6_put_24 : decode cX6_put 24 = .ok (.iastore, 1) := by decide +kernel
theorem dX6_put_25 : decode cX6_put 25 = .ok (.aload_n 0, 1) := by decide +kernel
theorem dX6_put_26 : decode cX6_put 26 = .ok (.getfield 9, 3) := by decide +kernel
theorem dX6_put_29 : decode cX6_put 29 = .ok (.iload_n 1, 1) := by decide +kernel
theorem dX6_put_30 : decode cX6_put 30 = .ok (.iconst 2, 1) := by decide +kernel
theorem dX6_put_31 : decode cX6_put 31 = .ok (.iadd, 1) := by decide +kernel
theorem dX6_put_32 : decode cX6_put 32 = .ok (.iload_n 2, 1) := by decide +kernel
theorem dX6_put_33 : decode cX6_put 33 = .ok (.bipush 10, 2) := by decide +kernel
theorem dX6_put_35 : decode cX6_put 35 = .ok (.irem, 1) := by decide +kernel
theorem dX6_put_36 : decode cX6_put 36 = .ok (.iastore, 1) := by decide +kernel
theorem dX6_put_37 : decode cX6_put 37 = .ok (.aload_n 0, 1) := by decide +kernel
theorem dX6_put_38 : decode cX6_put 38 = .ok (.getfield 9, 3) := by decide +kernel
theorem dX6_put_41 : decode cX6_put 41 = .ok (.iload_n 1, 1) := by decide +kernel
theorem dX6_put_42 : decode cX6_put 42 = .ok (.iconst 3, 1) := by decide +kernel
theorem dX6_put_43 : decode cX6_put 43 = .ok (.iadd, 1) := by decide +kernel
theorem dX6_put_44 : decode cX6_put 44 = .ok (.iload_n 3, 1) := by decide +kernel
theorem dX6_put_45 : decode cX6_put 45 = .ok (.iastore, 1) := by decide +kernel
theorem dX6_put_46 : decode cX6_put 46 = .ok (.return_, 1) := by decide +kernel
theorem dX6_swayOf_0 : decode cX6_swayOf 0 = .ok (.aload_n 1, 1) := by decide +kernel
theorem dX6_swayOf_1 : decode cX6_swayOf 1 = .ok (.ifnonnull 21, 3) := by decide +kernel
theorem dX6_swayOf_4 : decode cX6_swayOf 4 = .ok (.aload_n 0, 1) := by decide +kernel
theorem dX6_swayOf_5 : decode cX6_swayOf 5 = .ok (.getfield 9, 3) := by decide +kernel
theorem dX6_swayOf_8 : decode cX6_swayOf 8 = .ok (.iconst 4, 1) := by decide +kernel
theorem dX6_swayOf_9 : decode cX6_swayOf 9 = .ok (.iload_n 2, 1) := by decide +kernel
theorem dX6_swayOf_10 : decode cX6_swayOf 10 = .ok (.iadd, 1) := by decide +kernel
theorem dX6_swayOf_11 : decode cX6_swayOf 11 = .ok (.iaload, 1) := by decide +kernel
theorem dX6_swayOf_12 : decode cX6_swayOf 12 = .ok (.aload_n 0, 1) := by decide +kernel
theorem dX6_swayOf_13 : decode cX6_swayOf 13 = .ok (.getfield 9, 3) := by decide +kernel
theorem dX6_swayOf_16 : decode cX6_swayOf 16 = .ok (.iconst 0, 1) := by decide +kernel
theorem dX6_swayOf_17 : decode cX6_swayOf 17 = .ok (.iload_n 2, 1) := by decide +kernel
theorem dX6_swayOf_18 : decode cX6_swayOf 18 = .ok (.iadd, 1) := by decide +kernel
theorem dX6_swayOf_19 : decode cX6_swayOf 19 = .ok (.iaload, 1) := by decide +kernel
theorem dX6_swayOf_20 : decode cX6_swayOf 20 = .ok (.isub, 1) := by decide +kernel
theorem dX6_swayOf_21 : decode cX6_swayOf 21 = .ok (.ireturn, 1) := by decide +kernel
theorem dX6_swayOf_22 : decode cX6_swayOf 22 = .ok (.aload_n 0, 1) := by decide +kernel
theorem dX6_swayOf_23 : decode cX6_swayOf 23 = .ok (.getfield 9, 3) := by decide +kernel
theorem dX6_swayOf_26 : decode cX6_swayOf 26 = .ok (.bipush 10, 2) := by decide +kernel
theorem dX6_swayOf_28 : decode cX6_swayOf 28 = .ok (.iload_n 2, 1) := by decide +kernel
theorem dX6_swayOf_29 : decode cX6_swayOf 29 = .ok (.iastore, 1) := by decide +kernel
theorem dX6_swayOf_30 : decode cX6_swayOf 30 = .ok (.aload_n 1, 1) := by decide +kernel
theorem dX6_swayOf_31 : decode cX6_swayOf 31 = .ok (.aload_n 0, 1) := by decide +kernel
theorem dX6_swayOf_32 : decode cX6_swayOf 32 = .ok (.getfield 9, 3) := by decide +kernel
theorem dX6_swayOf_35 : decode cX6_swayOf 35 = .ok (.aload_n 0, 1) := by decide +kernel
theorem dX6_swayOf_36 : decode cX6_swayOf 36 = .ok (.getfield 15, 3) := by decide +kernel
theorem dX6_swayOf_39 : decode cX6_swayOf 39 = .ok (.invokevirtual 22, 3) := by decide +kernel
theorem dX6_swayOf_42 : decode cX6_swayOf 42 = .ok (.ireturn, 1) := by decide +kernel
theorem dX6_swayed_0 : decode cX6_swayed 0 = .ok (.aload_n 0, 1) := by decide +kernel
theorem dX6_swayed_1 : decode cX6_swayed 1 = .ok (.iconst 0, 1) := by decide +kernel
theorem dX6_swayed_2 : decode cX6_swayed 2 = .ok (.iload_n 3, 1) := by decide +kernel
theorem dX6_swayed_3 : decode cX6_swayed 3 = .ok (.iload_n 2, 1) := by decide +kernel
theorem dX6_swayed_4 : decode cX6_swayed 4 = .ok (.invokevirtual 18, 3) := by decide +kernel
theorem dX6_swayed_7 : decode cX6_swayed 7 = .ok (.aload_n 0, 1) := by decide +kernel
theorem dX6_swayed_8 : decode cX6_swayed 8 = .ok (.iconst 4, 1) := by decide +kernel
theorem dX6_swayed_9 : decode cX6_swayed 9 = .ok (.aload_n 1, 1) := by decide +kernel
theorem dX6_swayed_10 : decode cX6_swayed 10 = .ok (.getfield 40, 3) := by decide +kernel
theorem dX6_swayed_13 : decode cX6_swayed 13 = .ok (.iload 4, 2) := by decide +kernel
theorem dX6_swayed_15 : decode cX6_swayed 15 = .ok (.iaload, 1) := by decide +kernel
theorem dX6_swayed_16 : decode cX6_swayed 16 = .ok (.iload 4, 2) := by decide +kernel
theorem dX6_swayed_18 : decode cX6_swayed 18 = .ok (.invokevirtual 18, 3) := by decide +kernel
theorem dX6_swayed_21 : decode cX6_swayed 21 = .ok (.aload_n 0, 1) := by decide +kernel
theorem dX6_swayed_22 : decode cX6_swayed 22 = .ok (.getfield 9, 3) := by decide +kernel
theorem dX6_swayed_25 : decode cX6_swayed 25 = .ok (.bipush 8, 2) := by decide +kernel
theorem dX6_swayed_27 : decode cX6_swayed 27 = .ok (.aload_n 1, 1) := by decide +kernel
theorem dX6_swayed_28 : decode cX6_swayed 28 = .ok (.getfield 58, 3) := by decide +kernel
theorem dX6_swayed_31 : decode cX6_swayed 31 = .ok (.bipush 7, 2) := by decide +kernel
theorem dX6_swayed_33 : decode cX6_swayed 33 = .ok (.irem, 1) := by decide +kernel
theorem dX6_swayed_34 : decode cX6_swayed 34 = .ok (.iastore, 1) := by decide +kernel
theorem dX6_swayed_35 : decode cX6_swayed 35 = .ok (.iconst 0, 1) := by decide +kernel
theorem dX6_swayed_36 : decode cX6_swayed 36 = .ok (.istore 5, 2) := by decide +kernel
theorem dX6_swayed_38 : decode cX6_swayed 38 = .ok (.iconst 0, 1) := by decide +kernel
theorem dX6_swayed_39 : decode cX6_swayed 39 = .ok (.istore 6, 2) := by decide +kernel
theorem dX6_swayed_41 : decode cX6_swayed 41 = .ok (.iload 6, 2) := by decide +kernel
theorem dX6_swayed_43 : decode cX6_swayed 43 = .ok (.iconst 3, 1) := by decide +kernel
theorem dX6_swayed_44 : decode cX6_swayed 44 = .ok (.if_icmp .ge 77, 3) := by decide +kernel
theorem dX6_swayed_47 : decode cX6_swayed 47 = .ok (.iload 6, 2) := by decide +kernel
theorem dX6_swayed_49 : decode cX6_swayed 49 = .ok (.aload_n 1, 1) := by decide +kernel
theorem dX6_swayed_50 : decode cX6_swayed 50 = .ok (.getfield 28, 3) := by decide +kernel
theorem dX6_swayed_53 : decode cX6_swayed 53 = .ok (.getfield 61, 3) := by decide +kernel
theorem dX6_swayed_56 : decode cX6_swayed 56 = .ok (.if_icmp .ge 19, 3) := by decide +kernel
theorem dX6_swayed_59 : decode cX6_swayed 59 = .ok (.aload_n 0, 1) := by decide +kernel
theorem dX6_swayed_60 : decode cX6_swayed 60 = .ok (.aload_n 1, 1) := by decide +kernel
theorem dX6_swayed_61 : decode cX6_swayed 61 = .ok (.getfield 28, 3) := by decide +kernel
theorem dX6_swayed_64 : decode cX6_swayed 64 = .ok (.getfield 64, 3) := by decide +kernel
theorem dX6_swayed_67 : decode cX6_swayed 67 = .ok (.iload 6, 2) := by decide +kernel
theorem dX6_swayed_69 : decode cX6_swayed 69 = .ok (.invokevirtual 67, 3) := by decide +kernel
theorem dX6_swayed_72 : decode cX6_swayed 72 = .ok (.goto 4, 3) := by decide +kernel
theorem dX6_swayed_75 : decode cX6_swayed 75 = .ok (.iconst 0, 1) := by decide +kernel
theorem dX6_swayed_76 : decode cX6_swayed 76 = .ok (.istore 7, 2) := by decide +kernel
theorem dX6_swayed_78 : decode cX6_swayed 78 = .ok (.aload_n 0, 1) := by decide +kernel
theorem dX6_swayed_79 : decode cX6_swayed 79 = .ok (.getfield 9, 3) := by decide +kernel
theorem dX6_swayed_82 : decode cX6_swayed 82 = .ok (.iconst 0, 1) := by decide +kernel
theorem dX6_swayed_83 : decode cX6_swayed 83 = .ok (.iload 6, 2) := by decide +kernel
theorem dX6_swayed_85 : decode cX6_swayed 85 = .ok (.iadd, 1) := by decide +kernel
theorem dX6_swayed_86 : decode cX6_swayed 86 = .ok (.iaload, 1) := by decide +kernel
theorem dX6_swayed_87 : decode cX6_swayed 87 = .ok (.iload 7, 2) := by decide +kernel
theorem dX6_swayed_89 : decode cX6_swayed 89 = .ok (.iconst 0, 1) := by decide +kernel
theorem dX6_swayed_90 : decode cX6_swayed 90 = .ok (.invokestatic 71, 3) := by decide +kernel
theorem dX6_swayed_93 : decode cX6_swayed 93 = .ok (.iadd, 1) := by decide +kernel
theorem dX6_swayed_94 : decode cX6_swayed 94 = .ok (.istore 8, 2) := by decide +kernel
theorem dX6_swayed_96 : decode cX6_swayed 96 = .ok (.bipush 10, 2) := by decide +kernel
theorem dX6_swayed_98 : decode cX6_swayed 98 = .ok (.iload 5, 2) := by decide +kernel
theorem dX6_swayed_100 : decode cX6_swayed 100 = .ok (.imul, 1) := by decide +kernel
theorem dX6_swayed_101 : decode cX6_swayed 101 = .ok (.iconst 0, 1) := by decide +kernel
theorem dX6_swayed_102 : decode cX6_swayed 102 = .ok (.bipush 9, 2) := by decide +kernel
theorem dX6_swayed_104 : decode cX6_swayed 104 = .ok (.iload 8, 2) := by decide +kernel
theorem dX6_swayed_106 : decode cX6_swayed 106 = .ok (.invokestatic 77, 3) := by decide +kernel
theorem dX6_swayed_109 : decode cX6_swayed 109 = .ok (.invokestatic 82, 3) := by decide +kernel
theorem dX6_swayed_112 : decode cX6_swayed 112 = .ok (.iadd, 1) := by decide +kernel
theorem dX6_swayed_113 : decode cX6_swayed 113 = .ok (.istore 5, 2) := by decide +kernel
theorem dX6_swayed_115 : decode cX6_swayed 115 = .ok (.iinc 6 1, 3) := by decide +kernel
theorem dX6_swayed_118 : decode cX6_swayed 118 = .ok (.goto (-77), 3) := by decide +kernel
theorem dX6_swayed_121 : decode cX6_swayed 121 = .ok (.iload 5, 2) := by decide +kernel
theorem dX6_swayed_123 : decode cX6_swayed 123 = .ok (.ireturn, 1) := by decide +kernel
theorem dX7_inTown_0 : decode cX7_inTown 0 = .ok (.aload_n 0, 1) := by decide +kernel
theorem dX7_inTown_1 : decode cX7_inTown 1 = .ok (.aload_n 0, 1) := by decide +kernel
theorem dX7_inTown_2 : decode cX7_inTown 2 = .ok (.getfield 9, 3) := by decide +kernel
theorem dX7_inTown_5 : decode cX7_inTown 5 = .ok (.invokevirtual 38, 3) := by decide +kernel
theorem dX7_inTown_8 : decode cX7_inTown 8 = .ok (.ireturn, 1) := by decide +kernel
theorem dX7_inTownOn_0 : decode cX7_inTownOn 0 = .ok (.iconst 0, 1) := by decide +kernel
theorem dX7_inTownOn_1 : decode cX7_inTownOn 1 = .ok (.istore_n 2, 1) := by decide +kernel
theorem dX7_inTownOn_2 : decode cX7_inTownOn 2 = .ok (.iconst 0, 1) := by decide +kernel
theorem dX7_inTownOn_3 : decode cX7_inTownOn 3 = .ok (.istore_n 3, 1) := by decide +kernel
theorem dX7_inTownOn_4 : decode cX7_inTownOn 4 = .ok (.iload_n 3, 1) := by decide +kernel
theorem dX7_inTownOn_5 : decode cX7_inTownOn 5 = .ok (.aload_n 0, 1) := by decide +kernel
theorem dX7_inTownOn_6 : decode cX7_inTownOn 6 = .ok (.getfield 22, 3) := by decide +kernel
theorem dX7_inTownOn_9 : decode cX7_inTownOn 9 = .ok (.getfield 42, 3) := by decide +kernel
theorem dX7_inTownOn_12 : decode cX7_inTownOn 12 = .ok (.if_icmp .ge 41, 3) := by decide +kernel
theorem dX7_inTownOn_15 : decode cX7_inTownOn 15 = .ok (.aload_n 0, 1) := by decide +kernel
theorem dX7_inTownOn_16 : decode cX7_inTownOn 16 = .ok (.getfield 22, 3) := by decide +kernel
theorem dX7_inTownOn_19 : decode cX7_inTownOn 19 = .ok (.getfield 45, 3) := by decide +kernel
theorem dX7_inTownOn_22 : decode cX7_inTownOn 22 = .ok (.iload_n 3, 1) := by decide +kernel
theorem dX7_inTownOn_23 : decode cX7_inTownOn 23 = .ok (.iaload, 1) := by decide +kernel
theorem dX7_inTownOn_24 : decode cX7_inTownOn 24 = .ok (.iload_n 1, 1) := by decide +kernel
theorem dX7_inTownOn_25 : decode cX7_inTownOn 25 = .ok (.if_icmp .gt 22, 3) := by decide +kernel
theorem dX7_inTownOn_28 : decode cX7_inTownOn 28 = .ok (.iload_n 1, 1) := by decide +kernel
theorem dX7_inTownOn_29 : decode cX7_inTownOn 29 = .ok (.aload_n 0, 1) := by decide +kernel
theorem dX7_inTownOn_30 : decode cX7_inTownOn 30 = .ok (.getfield 22, 3) := by decide +kernel
theorem dX7_inTownOn_33 : decode cX7_inTownOn 33 = .ok (.getfield 48, 3) := by decide +kernel
theorem dX7_inTownOn_36 : decode cX7_inTownOn 36 = .ok (.iload_n 3, 1) := by decide +kernel
theorem dX7_inTownOn_37 : decode cX7_inTownOn 37 = .ok (.iaload, 1) := by decide +kernel
theorem dX7_inTownOn_38 : decode cX7_inTownOn 38 = .ok (.if_icmp .gt 9, 3) := by decide +kernel
theorem dX7_inTownOn_41 : decode cX7_inTownOn 41 = .ok (.iload_n 2, 1) := by decide +kernel
theorem dX7_inTownOn_42 : decode cX7_inTownOn 42 = .ok (.iconst 1, 1) := by decide +kernel
theorem dX7_inTownOn_43 : decode cX7_inTownOn 43 = .ok (.iload_n 3, 1) := by decide +kernel
theorem dX7_inTownOn_44 : decode cX7_inTownOn 44 = .ok (.ishl, 1) := by decide +kernel
theorem dX7_inTownOn_45 : decode cX7_inTownOn 45 = .ok (.ior, 1) := by decide +kernel
theorem dX7_inTownOn_46 : decode cX7_inTownOn 46 = .ok (.istore_n 2, 1) := by decide +kernel
theorem dX7_inTownOn_47 : decode cX7_inTownOn 47 = .ok (.iinc 3 1, 3) := by decide +kernel
theorem dX7_inTownOn_50 : decode cX7_inTownOn 50 = .ok (.goto (-46), 3) := by decide +kernel
theorem dX7_inTownOn_53 : decode cX7_inTownOn 53 = .ok (.iload_n 2, 1) := by decide +kernel
theorem dX7_inTownOn_54 : decode cX7_inTownOn 54 = .ok (.aload_n 0, 1) := by decide +kernel
theorem dX7_inTownOn_55 : decode cX7_inTownOn 55 = .ok (.getfield 15, 3) := by decide +kernel
theorem dX7_inTownOn_58 : decode cX7_inTownOn 58 = .ok (.iconst (-1), 1) := by decide +kernel
theorem dX7_inTownOn_59 : decode cX7_inTownOn 59 = .ok (.ixor, 1) := by decide +kernel
theorem dX7_inTownOn_60 : decode cX7_inTownOn 60 = .ok (.iand, 1) := by decide +kernel
theorem dX7_inTownOn_61 : decode cX7_inTownOn 61 = .ok (.ireturn, 1) := by decide +kernel
set_option maxHeartbeats 4000000 in
set_option maxRecDepth 100000 in
theorem gX6_put_ab0800e (l : Launch) (D : va_G) (cy : Nat → ClassId) (h0 : Nat) (h1 : Nat) (p0 : Int32) (p1 : Int32) (p2 : Int32) (w0 : Value) (f0 : Nat → Int32) (hp0 : 0 ≤ (p0).toInt ∧ (p0).toInt ≤ 4) (hp1 : 0 ≤ (p1).toInt ∧ (p1).toInt ≤ 999) (hp2 : 0 ≤ (p2).toInt ∧ (p2).toInt ≤ 9) (sz : Nat) : MV l yX6_put cX6_put 4 { frames := 0, cells := 0, slots := 0, locals := 0 } [.ref h0, .int p0, .int p1, .int p2] D cy (wk_01e9d1fed cy h0 h1 w0 h1 f0) sz (fun u => True) (fun u => (wk_01e9d1fed cy h0 h1 w0 h1 (u.2.1 0))) 0 0 := by
  refine q_ent (own := RX6) (by decide) rfl (Nat.le_of_ble_eq_true rfl) (fun p e s m below meth c ls X hr hlk hnm hK hT h hA hl => ?_)
  obtain ⟨hx, hb, hml, hown, ht⟩ := id X
  replace hl : lv_has ls 4 [(0, .ref h0), (1, .int p0), (2, .int p1), (3, .int p2)] := hl
  refine lv_aload_n hx hb dX6_put_0 rfl (lv_at hl 0 rfl) ?_
  refine q_get X hK h 0 rfl rfl wf_6 0 (by decide) rfl wm_1_184 dX6_put_1 ?_
  refine lv_iload_n hx hb dX6_put_4 rfl (lv_at hl 1 rfl) ?_
  refine lv_iload_n hx hb dX6_put_5 rfl (lv_at hl 2 rfl) ?_
  refine lv_bipush (v := 100) hx hb dX6_put_6 (by decide) ?_
  refine lv_idiv hx hb dX6_put_8 (by decide) ?_
  obtain ⟨z_1, ez_1, hz_1⟩ := e_div (x := p1) (y := 100) rfl (show (100 : Int32).toInt = 100 by decide) (by omega) (by omega)
  refine q_c z_1 ez_1 ?_
  clear ez_1
  refine q_iast X hK h 1 rfl (i_in rfl (by omega) (by omega)) dX6_put_9 (fun H locs h_3 => ?_)
  clear h
  replace h_3 : qW D _ _ (wk_01e9d1fed cy h0 h1 w0 h1 (upd f0 (Int32.toNatClampNeg p0) z_1)) _ _ := h_3
  obtain ⟨F_2, eF_2⟩ : ∃ z, (upd f0 (Int32.toNatClampNeg p0) z_1) = z := ⟨_, rfl⟩
  rw [eF_2] at h_3
  clear eF_2
  refine lv_aload_n hx hb dX6_put_10 rfl (lv_at hl 0 rfl) ?_
  refine q_get X hK h_3 0 rfl rfl wf_6 0 (by decide) rfl wm_1_184 dX6_put_11 ?_
  refine lv_iload_n hx hb dX6_put_14 rfl (lv_at hl 1 rfl) ?_
  refine lv_iconst (v := 1) hx hb dX6_put_15 (by decide) ?_
  refine lv_iadd hx hb dX6_put_16 ?_
  obtain ⟨z_4, ez_4, hz_4⟩ := e_add (x := p0) (y := 1) rfl (show (1 : Int32).toInt = 1 by decide) (by omega) (by omega)
  refine q_c z_4 ez_4 ?_
  clear ez_4
  refine lv_iload_n hx hb dX6_put_17 rfl (lv_at hl 2 rfl) ?_
  refine lv_bipush (v := 10) hx hb dX6_put_18 (by decide) ?_
  refine lv_idiv hx hb dX6_put_20 (by decide) ?_
  obtain ⟨z_5, ez_5, hz_5⟩ := e_div (x := p1) (y := 10) rfl (show (10 : Int32).toInt = 10 by decide) (by omega) (by omega)
  refine q_c z_5 ez_5 ?_
  clear ez_5
  refine lv_bipush (v := 10) hx hb dX6_put_21 (by decide) ?_
  refine lv_irem hx hb dX6_put_23 (by decide) ?_
  obtain ⟨z_6, ez_6, hz_6⟩ := e_rem (x := z_5) (y := 10) rfl (show (10 : Int32).toInt = 10 by decide) (by omega) (by omega)
  refine q_c z_6 ez_6 ?_
  clear ez_6
  refine q_iast X hK h_3 1 rfl (i_in rfl (by omega) (by omega)) dX6_put_24 (fun H locs h_8 => ?_)
  clear h_3
  replace h_8 : qW D _ _ (wk_01e9d1fed cy h0 h1 w0 h1 (upd F_2 (Int32.toNatClampNeg z_4) z_6)) _ _ := h_8
  obtain ⟨F_7, eF_7⟩ : ∃ z, (upd F_2 (Int32.toNatClampNeg z_4) z_6) = z := ⟨_, rfl⟩
  rw [eF_7] at h_8
  clear eF_7
  refine lv_aload_n hx hb dX6_put_25 rfl (lv_at hl 0 rfl) ?_
  refine q_get X hK h_8 0 rfl rfl wf_6 0 (by decide) rfl wm_1_184 dX6_put_26 ?_
  refine lv_iload_n hx hb dX6_put_29 rfl (lv_at hl 1 rfl) ?_
  refine lv_iconst (v := 2) hx hb dX6_put_30 (by decide) ?_
  refine lv_iadd hx hb dX6_put_31 ?_
  obtain ⟨z_9, ez_9, hz_9⟩ := e_add (x := p0) (y := 2) rfl (show (2 : Int32).toInt = 2 by decide) (by omega) (by omega)
  refine q_c z_9 ez_9 ?_
  clear ez_9
  refine lv_iload_n hx hb dX6_put_32 rfl (lv_at hl 2 rfl) ?_
  refine lv_bipush (v := 10) hx hb dX6_put_33 (by decide) ?_
  refine lv_irem hx hb dX6_put_35 (by decide) ?_
  obtain ⟨z_10, ez_10, hz_10⟩ := e_rem (x := p1) (y := 10) rfl (show (10 : Int32).toInt = 10 by decide) (by omega) (by omega)
  refine q_c z_10 ez_10 ?_
  clear ez_10
  refine q_iast X hK h_8 1 rfl (i_in rfl (by omega) (by omega)) dX6_put_36 (fun H locs h_12 => ?_)
  clear h_8
  replace h_12 : qW D _ _ (wk_01e9d1fed cy h0 h1 w0 h1 (upd F_7 (Int32.toNatClampNeg z_9) z_10)) _ _ := h_12
  obtain ⟨F_11, eF_11⟩ : ∃ z, (upd F_7 (Int32.toNatClampNeg z_9) z_10) = z := ⟨_, rfl⟩
  rw [eF_11] at h_12
  clear eF_11
  refine lv_aload_n hx hb dX6_put_37 rfl (lv_at hl 0 rfl) ?_
  refine q_get X hK h_12 0 rfl rfl wf_6 0 (by decide) rfl wm_1_184 dX6_put_38 ?_
  refine lv_iload_n hx hb dX6_put_41 rfl (lv_at hl 1 rfl) ?_
  refine lv_iconst (v := 3) hx hb dX6_put_42 (by decide) ?_
  refine lv_iadd hx hb dX6_put_43 ?_
  obtain ⟨z_13, ez_13, hz_13⟩ := e_add (x := p0) (y := 3) rfl (show (3 : Int32).toInt = 3 by decide) (by omega) (by omega)
  refine q_c z_13 ez_13 ?_
  clear ez_13
  refine lv_iload_n hx hb dX6_put_44 rfl (lv_at hl 3 rfl) ?_
  refine q_iast X hK h_12 1 rfl (i_in rfl (by omega) (by omega)) dX6_put_45 (fun H locs h_15 => ?_)
  clear h_12
  replace h_15 : qW D _ _ (wk_01e9d1fed cy h0 h1 w0 h1 (upd F_11 (Int32.toNatClampNeg z_13) p2)) _ _ := h_15
  obtain ⟨F_14, eF_14⟩ : ∃ z, (upd F_11 (Int32.toNatClampNeg z_13) p2) = z := ⟨_, rfl⟩
  rw [eF_14] at h_15
  clear eF_14
  exact q_vret X hr hlk hK h_15 (fun _ => 0, (vcons F_14 (fun _ => (fun _ => 0))), fun _ _ => 0) trivial [0, 1] rfl rfl dX6_put_46 (Nat.le_of_ble_eq_true rfl) (Nat.le_of_ble_eq_true rfl)
set_option maxHeartbeats 4000000 in
set_option maxRecDepth 100000 in
theorem gX4_joined_15bcc7b (l : Launch) (D : va_G) (cy : Nat → ClassId) (p0 : Int32) (p1 : Int32) (p2 : Int32) (hp0 : 0 ≤ (p0).toInt ∧ (p0).toInt ≤ 2147481647) (hp1 : (-2147483648) ≤ (p1).toInt ∧ (p1).toInt ≤ 2147483647) (hp2 : (-2147483648) ≤ (p2).toInt ∧ (p2).toInt ≤ 2147483647) (sz : Nat) : MI l yX4_joined cX4_joined 5 .int { frames := 1, cells := 0, slots := 0, locals := 17 } [.int p0, .int p1, .int p2] D cy [] sz (fun r u => ((-1000000) ≤ r.toInt ∧ r.toInt ≤ 1000000) ∧ True) (fun u => []) 0 0 := by
  refine q_ent (own := RX4) (by decide) rfl (Nat.le_of_ble_eq_true rfl) (fun p e s m below meth c ls X hr hlk hnm hK hT h hA hl => ?_)
  obtain ⟨hx, hb, hml, hown, ht⟩ := id X
  replace hl : lv_has ls 5 [(0, .int p0), (1, .int p1), (2, .int p2)] := hl
  refine lv_iload_n hx hb dX4_joined_0 rfl (lv_at hl 0 rfl) ?_
  refine q_jn (pc2 := 150) (fun H locs ls st => ∃ v150_1_0 : Int64, ((-9223372036854775808) ≤ (v150_1_0).toInt ∧ (v150_1_0).toInt ≤ 9223372036854775807) ∧ st = [] ∧ qW D (va_A [] sz) s.heap [] H locs ∧ lv_has ls 5 [(0, .int p0), (1, .int p1), (2, .int p2), (3, .long v150_1_0)]) (fun H locs ls st hP => ?_) (fun J_150 => ?_)
  · obtain ⟨v150_1_0, hv150_1_0, rfl, h, hl⟩ := hP
    refine lv_ldc2 hx hb hown (ht _ wm_3_215) dX4_joined_150 ?_
    refine lv_ldc2 hx hb hown (ht _ wm_3_216) dX4_joined_153 ?_
    refine lv_lload_n hx hb dX4_joined_156 rfl (lv_at hl 3 rfl) ?_
    refine va_mmin_long hx hb (hml.trans hl.1.symm) hown (ht _ wm_3_217) (ht _ wm_3_218) (ht _ wm_1_13) (ht _ wm_3_219) (Nat.le_of_ble_eq_true rfl) (Nat.le_of_ble_eq_true rfl) (Nat.le_of_ble_eq_true rfl) (Nat.le_of_ble_eq_true rfl) dX4_joined_157 ?_
    obtain ⟨z_2, ez_2, hz_2⟩ := e_minJ (x := 1000000) (y := v150_1_0) (show (1000000 : Int64).toInt = 1000000 by decide) rfl
    refine q_cl z_2 ez_2 ?_
    clear ez_2
    refine va_mmax_long hx hb (hml.trans hl.1.symm) hown (ht _ wm_3_220) (ht _ wm_3_221) (ht _ wm_1_13) (ht _ wm_3_222) (Nat.le_of_ble_eq_true rfl) (Nat.le_of_ble_eq_true rfl) (Nat.le_of_ble_eq_true rfl) (Nat.le_of_ble_eq_true rfl) dX4_joined_160 ?_
    obtain ⟨z_3, ez_3, hz_3⟩ := e_maxJ (x := (-1000000)) (y := z_2) (show ((-1000000) : Int64).toInt = -1000000 by decide) rfl
    refine q_cl z_3 ez_3 ?_
    clear ez_3
    refine lv_l2i hx hb dX4_joined_163 rfl ?_
    obtain ⟨z_4, ez_4, hz_4⟩ := e_l2i (x := z_3) rfl (by omega) (by omega)
    refine q_c z_4 ez_4 ?_
    clear ez_4
    exact q_iret X hr hlk hK h rfl (fun _ => 0, fun _ _ => 0, fun _ _ => 0) ⟨⟨by omega, by omega⟩, trivial⟩ [] rfl rfl dX4_joined_164 (Nat.le_of_ble_eq_true rfl) (Nat.le_of_ble_eq_true rfl)
  · skip
    by_cases c_5 : p0 = 22
    · have ec_5 : (p0).toInt = 22 := by rw [c_5]; decide
      refine lv_lookup (off := 136) (tgt := 137) hx hb dX4_joined_1 (by decide +kernel) (by rw [c_5]; decide +kernel) (by decide) ?_
      refine lv_iload_n hx hb dX4_joined_137 rfl (lv_at hl 1 rfl) ?_
      refine lv_iload_n hx hb dX4_joined_138 rfl (lv_at hl 2 rfl) ?_
      refine lv_iand hx hb dX4_joined_139 ?_
      refine q_any (fun z_6 hz_6 => ?_)
      refine lv_i2l hx hb dX4_joined_140 rfl ?_
      obtain ⟨z_7, ez_7, hz_7⟩ := e_i2l (x := z_6) rfl
      refine q_cl z_7 ez_7 ?_
      clear ez_7
      refine lv_lstore_n (lv' := [(3, .long z_7), (0, .int p0), (1, .int p1), (2, .int p2)]) hx hb dX4_joined_141 rfl hl (by decide) rfl (fun ls_8 hl_8 => ?_)
      clear hl
      refine lv_goto (tgt := 150) hx hb dX4_joined_142 (by decide) ?_
      exact J_150 _ _ _ _ ⟨z_7, ⟨by omega, by omega⟩, rfl, h, (lv_sub hl_8 [1, 2, 3, 0] rfl)⟩
    by_cases c_9 : p0 = 42
    · have ec_9 : (p0).toInt = 42 := by rw [c_9]; decide
      refine lv_lookup (off := 85) (tgt := 86) hx hb dX4_joined_1 (by decide +kernel) (by rw [c_9]; decide +kernel) (by decide) ?_
      refine lv_iload_n hx hb dX4_joined_86 rfl (lv_at hl 1 rfl) ?_
      refine lv_i2l hx hb dX4_joined_87 rfl ?_
      obtain ⟨z_10, ez_10, hz_10⟩ := e_i2l (x := p1) rfl
      refine q_cl z_10 ez_10 ?_
      clear ez_10
      refine lv_iload_n hx hb dX4_joined_88 rfl (lv_at hl 2 rfl) ?_
      refine lv_i2l hx hb dX4_joined_89 rfl ?_
      obtain ⟨z_11, ez_11, hz_11⟩ := e_i2l (x := p2) rfl
      refine q_cl z_11 ez_11 ?_
      clear ez_11
      refine lv_lmul hx hb dX4_joined_90 ?_
      refine q_anyJ (fun z_12 hz_12 => ?_)
      refine lv_lstore_n (lv' := [(3, .long z_12), (0, .int p0), (1, .int p1), (2, .int p2)]) hx hb dX4_joined_91 rfl hl (by decide) rfl (fun ls_13 hl_13 => ?_)
      clear hl
      refine lv_goto (tgt := 150) hx hb dX4_joined_92 (by decide) ?_
      exact J_150 _ _ _ _ ⟨z_12, ⟨by omega, by omega⟩, rfl, h, (lv_sub hl_13 [1, 2, 3, 0] rfl)⟩
    by_cases c_14 : p0 = 43
    · have ec_14 : (p0).toInt = 43 := by rw [c_14]; decide
      refine lv_lookup (off := 67) (tgt := 68) hx hb dX4_joined_1 (by decide +kernel) (by rw [c_14]; decide +kernel) (by decide) ?_
      refine lv_iload_n hx hb dX4_joined_68 rfl (lv_at hl 1 rfl) ?_
      refine lv_i2l hx hb dX4_joined_69 rfl ?_
      obtain ⟨z_15, ez_15, hz_15⟩ := e_i2l (x := p1) rfl
      refine q_cl z_15 ez_15 ?_
      clear ez_15
      refine lv_iload_n hx hb dX4_joined_70 rfl (lv_at hl 2 rfl) ?_
      refine lv_i2l hx hb dX4_joined_71 rfl ?_
      obtain ⟨z_16, ez_16, hz_16⟩ := e_i2l (x := p2) rfl
      refine q_cl z_16 ez_16 ?_
      clear ez_16
      refine lv_ladd hx hb dX4_joined_72 ?_
      refine q_anyJ (fun z_17 hz_17 => ?_)
      refine lv_lstore_n (lv' := [(3, .long z_17), (0, .int p0), (1, .int p1), (2, .int p2)]) hx hb dX4_joined_73 rfl hl (by decide) rfl (fun ls_18 hl_18 => ?_)
      clear hl
      refine lv_goto (tgt := 150) hx hb dX4_joined_74 (by decide) ?_
      exact J_150 _ _ _ _ ⟨z_17, ⟨by omega, by omega⟩, rfl, h, (lv_sub hl_18 [1, 2, 3, 0] rfl)⟩
    by_cases c_19 : p0 = 45
    · have ec_19 : (p0).toInt = 45 := by rw [c_19]; decide
      refine lv_lookup (off := 76) (tgt := 77) hx hb dX4_joined_1 (by decide +kernel) (by rw [c_19]; decide +kernel) (by decide) ?_
      refine lv_iload_n hx hb dX4_joined_77 rfl (lv_at hl 1 rfl) ?_
      refine lv_i2l hx hb dX4_joined_78 rfl ?_
      obtain ⟨z_20, ez_20, hz_20⟩ := e_i2l (x := p1) rfl
      refine q_cl z_20 ez_20 ?_
      clear ez_20
      refine lv_iload_n hx hb dX4_joined_79 rfl (lv_at hl 2 rfl) ?_
      refine lv_i2l hx hb dX4_joined_80 rfl ?_
      obtain ⟨z_21, ez_21, hz_21⟩ := e_i2l (x := p2) rfl
      refine q_cl z_21 ez_21 ?_
      clear ez_21
      refine lv_lsub hx hb dX4_joined_81 ?_
      refine q_anyJ (fun z_22 hz_22 => ?_)
      refine lv_lstore_n (lv' := [(3, .long z_22), (0, .int p0), (1, .int p1), (2, .int p2)]) hx hb dX4_joined_82 rfl hl (by decide) rfl (fun ls_23 hl_23 => ?_)
      clear hl
      refine lv_goto (tgt := 150) hx hb dX4_joined_83 (by decide) ?_
      exact J_150 _ _ _ _ ⟨z_22, ⟨by omega, by omega⟩, rfl, h, (lv_sub hl_23 [1, 2, 3, 0] rfl)⟩
    by_cases c_24 : p0 = 60
    · have ec_24 : (p0).toInt = 60 := by rw [c_24]; decide
      refine lv_lookup (off := 108) (tgt := 109) hx hb dX4_joined_1 (by decide +kernel) (by rw [c_24]; decide +kernel) (by decide) ?_
      refine lv_iload_n hx hb dX4_joined_109 rfl (lv_at hl 1 rfl) ?_
      refine lv_iload_n hx hb dX4_joined_110 rfl (lv_at hl 2 rfl) ?_
      refine q_jn (pc2 := 119) (fun H locs ls st => ∃ v119_25_0 : Int64, (0 ≤ (v119_25_0).toInt ∧ (v119_25_0).toInt ≤ 1) ∧ st = [.long v119_25_0] ∧ qW D (va_A [] sz) s.heap [] H locs ∧ lv_has ls 5 [(0, .int p0), (1, .int p1), (2, .int p2)]) (fun H locs ls st hP => ?_) (fun J_119 => ?_)
      · obtain ⟨v119_25_0, hv119_25_0, rfl, h, hl⟩ := hP
        refine lv_lstore_n (lv' := [(3, .long v119_25_0), (0, .int p0), (1, .int p1), (2, .int p2)]) hx hb dX4_joined_119 rfl hl (by decide) rfl (fun ls_26 hl_26 => ?_)
        clear hl
        refine lv_goto (tgt := 150) hx hb dX4_joined_120 (by decide) ?_
        exact J_150 _ _ _ _ ⟨v119_25_0, (bw hv119_25_0 (by decide) (by decide)), rfl, h, (lv_sub hl_26 [1, 2, 3, 0] rfl)⟩
      · skip
        refine lv_icmp_ge (tgt := 118) hx hb dX4_joined_111 (by decide) (fun c_27 => ?_) (fun c_27 => ?_)
        · replace c_27 := i_le (x := p2) (y := p1) rfl rfl c_27
          refine lv_lconst (v := 0) hx hb dX4_joined_118 (by decide) ?_
          exact J_119 _ _ _ _ ⟨0, ⟨by decide +kernel, by decide +kernel⟩, rfl, h, (lv_sub hl [0, 1, 2] rfl)⟩
        · replace c_27 := i_nle (x := p2) (y := p1) rfl rfl c_27
          refine lv_lconst (v := 1) hx hb dX4_joined_114 (by decide) ?_
          refine lv_goto (tgt := 119) hx hb dX4_joined_115 (by decide) ?_
          exact J_119 _ _ _ _ ⟨1, ⟨by decide +kernel, by decide +kernel⟩, rfl, h, (lv_sub hl [0, 1, 2] rfl)⟩
    by_cases c_28 : p0 = 61
    · have ec_28 : (p0).toInt = 61 := by rw [c_28]; decide
      refine lv_lookup (off := 94) (tgt := 95) hx hb dX4_joined_1 (by decide +kernel) (by rw [c_28]; decide +kernel) (by decide) ?_
      refine lv_iload_n hx hb dX4_joined_95 rfl (lv_at hl 1 rfl) ?_
      refine lv_iload_n hx hb dX4_joined_96 rfl (lv_at hl 2 rfl) ?_
      refine q_jn (pc2 := 105) (fun H locs ls st => ∃ v105_29_0 : Int64, (0 ≤ (v105_29_0).toInt ∧ (v105_29_0).toInt ≤ 1) ∧ st = [.long v105_29_0] ∧ qW D (va_A [] sz) s.heap [] H locs ∧ lv_has ls 5 [(0, .int p0), (1, .int p1), (2, .int p2)]) (fun H locs ls st hP => ?_) (fun J_105 => ?_)
      · obtain ⟨v105_29_0, hv105_29_0, rfl, h, hl⟩ := hP
        refine lv_lstore_n (lv' := [(3, .long v105_29_0), (0, .int p0), (1, .int p1), (2, .int p2)]) hx hb dX4_joined_105 rfl hl (by decide) rfl (fun ls_30 hl_30 => ?_)
        clear hl
        refine lv_goto (tgt := 150) hx hb dX4_joined_106 (by decide) ?_
        exact J_150 _ _ _ _ ⟨v105_29_0, (bw hv105_29_0 (by decide) (by decide)), rfl, h, (lv_sub hl_30 [1, 2, 3, 0] rfl)⟩
      · skip
        refine lv_icmp_ne (tgt := 104) hx hb dX4_joined_97 (by decide) (fun c_31 => ?_) (fun c_31 => ?_)
        · replace c_31 := i_ne (x := p1) (y := p2) rfl rfl c_31
          refine lv_lconst (v := 0) hx hb dX4_joined_104 (by decide) ?_
          exact J_105 _ _ _ _ ⟨0, ⟨by decide +kernel, by decide +kernel⟩, rfl, h, (lv_sub hl [0, 1, 2] rfl)⟩
        · replace c_31 := i_eq (x := p1) (y := p2) rfl rfl c_31
          refine lv_lconst (v := 1) hx hb dX4_joined_100 (by decide) ?_
          refine lv_goto (tgt := 105) hx hb dX4_joined_101 (by decide) ?_
          exact J_105 _ _ _ _ ⟨1, ⟨by decide +kernel, by decide +kernel⟩, rfl, h, (lv_sub hl [0, 1, 2] rfl)⟩
    by_cases c_32 : p0 = 62
    · have ec_32 : (p0).toInt = 62 := by rw [c_32]; decide
      refine lv_lookup (off := 122) (tgt := 123) hx hb dX4_joined_1 (by decide +kernel) (by rw [c_32]; decide +kernel) (by decide) ?_
      refine lv_iload_n hx hb dX4_joined_123 rfl (lv_at hl 1 rfl) ?_
      refine lv_iload_n hx hb dX4_joined_124 rfl (lv_at hl 2 rfl) ?_
      refine q_jn (pc2 := 133) (fun H locs ls st => ∃ v133_33_0 : Int64, (0 ≤ (v133_33_0).toInt ∧ (v133_33_0).toInt ≤ 1) ∧ st = [.long v133_33_0] ∧ qW D (va_A [] sz) s.heap [] H locs ∧ lv_has ls 5 [(0, .int p0), (1, .int p1), (2, .int p2)]) (fun H locs ls st hP => ?_) (fun J_133 => ?_)
      · obtain ⟨v133_33_0, hv133_33_0, rfl, h, hl⟩ := hP
        refine lv_lstore_n (lv' := [(3, .long v133_33_0), (0, .int p0), (1, .int p1), (2, .int p2)]) hx hb dX4_joined_133 rfl hl (by decide) rfl (fun ls_34 hl_34 => ?_)
        clear hl
        refine lv_goto (tgt := 150) hx hb dX4_joined_134 (by decide) ?_
        exact J_150 _ _ _ _ ⟨v133_33_0, (bw hv133_33_0 (by decide) (by decide)), rfl, h, (lv_sub hl_34 [1, 2, 3, 0] rfl)⟩
      · skip
        refine lv_icmp_le (tgt := 132) hx hb dX4_joined_125 (by decide) (fun c_35 => ?_) (fun c_35 => ?_)
        · replace c_35 := i_le (x := p1) (y := p2) rfl rfl c_35
          refine lv_lconst (v := 0) hx hb dX4_joined_132 (by decide) ?_
          exact J_133 _ _ _ _ ⟨0, ⟨by decide +kernel, by decide +kernel⟩, rfl, h, (lv_sub hl [0, 1, 2] rfl)⟩
        · replace c_35 := i_nle (x := p1) (y := p2) rfl rfl c_35
          refine lv_lconst (v := 1) hx hb dX4_joined_128 (by decide) ?_
          refine lv_goto (tgt := 133) hx hb dX4_joined_129 (by decide) ?_
          exact J_133 _ _ _ _ ⟨1, ⟨by decide +kernel, by decide +kernel⟩, rfl, h, (lv_sub hl [0, 1, 2] rfl)⟩
    have nc_5 := lv_neT c_5 (show (22 : Int32).toInt = 22 by decide)
    have nc_9 := lv_neT c_9 (show (42 : Int32).toInt = 42 by decide)
    have nc_14 := lv_neT c_14 (show (43 : Int32).toInt = 43 by decide)
    have nc_19 := lv_neT c_19 (show (45 : Int32).toInt = 45 by decide)
    have nc_24 := lv_neT c_24 (show (60 : Int32).toInt = 60 by decide)
    have nc_28 := lv_neT c_28 (show (61 : Int32).toInt = 61 by decide)
    have nc_32 := lv_neT c_32 (show (62 : Int32).toInt = 62 by decide)
    refine lv_lookup (off := 144) (tgt := 145) hx hb dX4_joined_1 (by decide +kernel) ((lv_osw c_5 (by decide)).trans ((lv_osw c_9 (by decide)).trans ((lv_osw c_14 (by decide)).trans ((lv_osw c_19 (by decide)).trans ((lv_osw c_24 (by decide)).trans ((lv_osw c_28 (by decide)).trans ((lv_osw c_32 (by decide)).trans rfl))))))) (by decide) ?_
    refine lv_iload_n hx hb dX4_joined_145 rfl (lv_at hl 1 rfl) ?_
    refine lv_iload_n hx hb dX4_joined_146 rfl (lv_at hl 2 rfl) ?_
    refine lv_ior hx hb dX4_joined_147 ?_
    refine q_any (fun z_36 hz_36 => ?_)
    refine lv_i2l hx hb dX4_joined_148 rfl ?_
    obtain ⟨z_37, ez_37, hz_37⟩ := e_i2l (x := z_36) rfl
    refine q_cl z_37 ez_37 ?_
    clear ez_37
    refine lv_lstore_n (lv' := [(3, .long z_37), (0, .int p0), (1, .int p1), (2, .int p2)]) hx hb dX4_joined_149 rfl hl (by decide) rfl (fun ls_38 hl_38 => ?_)
    clear hl
    exact J_150 _ _ _ _ ⟨z_37, ⟨by omega, by omega⟩, rfl, h, (lv_sub hl_38 [1, 2, 3, 0] rfl)⟩
set_option maxHeartbeats 4000000 in
set_option maxRecDepth 100000 in
theorem gX4_valueFor_d25d6d8 (l : Launch) (D : va_G) (cy : Nat → ClassId) (h0 : Nat) (h1 : Nat) (h2 : Nat) (h3 : Nat) (m0 : Nat) (f0 : Nat → Int32) (f1 : Nat → Int32) (f2 : Nat → Int32) (hm0 : m0 ≤ 900) (sz : Nat) : MI l yX4_valueFor cX4_valueFor 7 .int { frames := 2, cells := 0, slots := 0, locals := 41 } [.ref h0, .ref h2, .ref h3] D cy (wk_a56b72400 cy h0 h1 h1 m0 f0 h2 f1 h3 f2) sz (fun r u => ((-2147483648) ≤ r.toInt ∧ r.toInt ≤ 2147483647) ∧ True) (fun u => (wk_a56b72400 cy h0 h1 h1 m0 f0 h2 f1 h3 (u.2.1 0))) 0 0 := by
  refine q_ent (own := RX4) (by decide) rfl (Nat.le_of_ble_eq_true rfl) (fun p e s m below meth c ls X hr hlk hnm hK hT h hA hl => ?_)
  obtain ⟨hx, hb, hml, hown, ht⟩ := id X
  replace hl : lv_has ls 7 [(0, .ref h0), (1, .ref h2), (2, .ref h3)] := hl
  refine lv_iconst (v := 0) hx hb dX4_valueFor_0 (by decide) ?_
  refine lv_istore_n (lv' := [(3, .int 0), (0, .ref h0), (1, .ref h2), (2, .ref h3)]) hx hb dX4_valueFor_1 rfl hl (by decide) rfl (fun ls_1 hl_1 => ?_)
  clear hl
  refine lv_iconst (v := 0) hx hb dX4_valueFor_2 (by decide) ?_
  refine lv_istore (lv' := [(4, .int 0), (3, .int 0), (0, .ref h0), (1, .ref h2), (2, .ref h3)]) hx hb dX4_valueFor_3 hl_1 (by decide) rfl (fun ls_2 hl_2 => ?_)
  clear hl_1
  refine q_wl (fun (q : Int32 × Int32) H locs ls => match q with | (v5_3_0, v5_3_1) => ∃ v5_3_2 : Nat → Int32, (0 ≤ (v5_3_0).toInt ∧ (v5_3_0).toInt ≤ 900) ∧ (0 ≤ (v5_3_1).toInt ∧ (v5_3_1).toInt ≤ 64) ∧ qW D (va_A (wk_a56b72400 cy h0 h1 h1 m0 f0 h2 f1 h3 f2) sz) s.heap (wk_a56b72400 cy h0 h1 h1 m0 f0 h2 f1 h3 v5_3_2) H locs ∧ lv_has ls 7 [(0, .ref h0), (1, .ref h2), (2, .ref h3), (3, .int v5_3_1), (4, .int v5_3_0)]) (fun (q : Int32 × Int32) => match q with | (v5_3_0, v5_3_1) => (901 - (v5_3_0).toInt).toNat) (fun q_5 ih_5 H locs ls hP => ?_) (0, 0) ⟨f2, ⟨by decide +kernel, by decide +kernel⟩, ⟨by decide +kernel, by decide +kernel⟩, h, (lv_sub hl_2 [2, 3, 4, 1, 0] rfl)⟩
  obtain ⟨v5_3_0, v5_3_1⟩ := q_5
  obtain ⟨v5_3_2, hv5_3_0, hv5_3_1, h, hl⟩ := hP
  refine lv_iload hx hb dX4_valueFor_5 (lv_at hl 4 rfl) ?_
  refine lv_aload_n hx hb dX4_valueFor_7 rfl (lv_at hl 0 rfl) ?_
  refine q_get X hK h 0 rfl rfl wf_4 0 (by decide) rfl wm_3_153 dX4_valueFor_8 ?_
  refine q_alen X hK h 1 1 rfl rfl (Int32.ofNat m0) rfl dX4_valueFor_11 ?_
  obtain ⟨z_4, ez_4, hz_4⟩ := e_len (n := m0) (by omega)
  refine q_c z_4 ez_4 ?_
  clear ez_4
  refine lv_icmp_ge (tgt := 139) hx hb dX4_valueFor_12 (by decide) (fun c_5 => ?_) (fun c_5 => ?_)
  · replace c_5 := i_le (x := z_4) (y := v5_3_0) rfl rfl c_5
    refine lv_iload_n hx hb dX4_valueFor_139 rfl (lv_at hl 3 rfl) ?_
    refine q_jn (pc2 := 150) (fun H locs ls st => ∃ v150_6_0 : Int32, ((-2147483648) ≤ (v150_6_0).toInt ∧ (v150_6_0).toInt ≤ 2147483647) ∧ st = [.int v150_6_0] ∧ qW D (va_A (wk_a56b72400 cy h0 h1 h1 m0 f0 h2 f1 h3 f2) sz) s.heap (wk_a56b72400 cy h0 h1 h1 m0 f0 h2 f1 h3 v5_3_2) H locs ∧ lv_has ls 7 [(0, .ref h0), (1, .ref h2), (2, .ref h3), (3, .int v5_3_1), (4, .int v5_3_0)]) (fun H locs ls st hP => ?_) (fun J_150 => ?_)
    · obtain ⟨v150_6_0, hv150_6_0, rfl, h, hl⟩ := hP
      exact q_iret X hr hlk hK h rfl (fun _ => 0, (vcons v5_3_2 (fun _ => (fun _ => 0))), fun _ _ => 0) ⟨hv150_6_0, trivial⟩ [0, 1, 2, 3] rfl rfl dX4_valueFor_150 (Nat.le_of_ble_eq_true rfl) (Nat.le_of_ble_eq_true rfl)
    · skip
      refine lv_if_le (tgt := 149) hx hb dX4_valueFor_140 (by decide) (fun c_7 => ?_) (fun c_7 => ?_)
      · replace c_7 := i_le (x := v5_3_1) (y := 0) rfl (show (0 : Int32).toInt = 0 by decide) c_7
        refine lv_iconst (v := 0) hx hb dX4_valueFor_149 (by decide) ?_
        exact J_150 _ _ _ _ ⟨0, ⟨by decide +kernel, by decide +kernel⟩, rfl, h, (lv_sub hl [0, 1, 2, 3, 4] rfl)⟩
      · replace c_7 := i_nle (x := v5_3_1) (y := 0) rfl (show (0 : Int32).toInt = 0 by decide) c_7
        refine lv_aload_n hx hb dX4_valueFor_143 rfl (lv_at hl 2 rfl) ?_
        refine lv_iconst (v := 0) hx hb dX4_valueFor_144 (by decide) ?_
        refine q_iald X hK h 3 rfl (q_in (by decide +kernel)) dX4_valueFor_145 ?_
        refine q_any (fun z_8 hz_8 => ?_)
        refine lv_goto (tgt := 150) hx hb dX4_valueFor_146 (by decide) ?_
        exact J_150 _ _ _ _ ⟨z_8, ⟨by omega, by omega⟩, rfl, h, (lv_sub hl [0, 1, 2, 3, 4] rfl)⟩
  · replace c_5 := i_nle (x := z_4) (y := v5_3_0) rfl rfl c_5
    refine lv_aload_n hx hb dX4_valueFor_15 rfl (lv_at hl 0 rfl) ?_
    refine q_get X hK h 0 rfl rfl wf_4 0 (by decide) rfl wm_3_153 dX4_valueFor_16 ?_
    refine lv_iload hx hb dX4_valueFor_19 (lv_at hl 4 rfl) ?_
    refine q_iald X hK h 1 rfl (i_in rfl (by omega) (by omega)) dX4_valueFor_21 ?_
    refine q_any (fun z_9 hz_9 => ?_)
    refine lv_istore (lv' := [(5, .int z_9), (0, .ref h0), (1, .ref h2), (2, .ref h3), (3, .int v5_3_1), (4, .int v5_3_0)]) hx hb dX4_valueFor_22 hl (by decide) rfl (fun ls_10 hl_10 => ?_)
    clear hl
    refine lv_iload hx hb dX4_valueFor_24 (lv_at hl_10 0 rfl) ?_
    refine lv_sipush (v := 2000) hx hb dX4_valueFor_26 (by decide) ?_
    refine q_jn (pc2 := 133) (fun H locs ls st => ∃ v133_11_0 : Int32, ∃ v133_11_1 : Nat → Int32, (0 ≤ (v133_11_0).toInt ∧ (v133_11_0).toInt ≤ 64) ∧ st = [] ∧ qW D (va_A (wk_a56b72400 cy h0 h1 h1 m0 f0 h2 f1 h3 f2) sz) s.heap (wk_a56b72400 cy h0 h1 h1 m0 f0 h2 f1 h3 v133_11_1) H locs ∧ lv_has ls 7 [(0, .ref h0), (1, .ref h2), (2, .ref h3), (3, .int v133_11_0), (4, .int v5_3_0), (5, .int z_9)]) (fun H locs ls st hP => ?_) (fun J_133 => ?_)
    · obtain ⟨v133_11_0, v133_11_1, hv133_11_0, rfl, h, hl⟩ := hP
      obtain ⟨z_12, ez_12, hz_12⟩ := e_add (x := v5_3_0) (y := Int32.ofInt 1) rfl (b := 1) (by decide) (by omega) (by omega)
      refine lv_iinc (v := z_12) (lv' := [(4, .int z_12), (0, .ref h0), (1, .ref h2), (2, .ref h3), (3, .int v133_11_0), (5, .int z_9)]) hx hb dX4_valueFor_133 hl (k := 4) rfl ez_12 (by decide) rfl (fun ls_12 hl_12 => ?_)
      clear hl
      refine lv_goto (tgt := 5) hx hb dX4_valueFor_136 (by decide) ?_
      exact ih_5 (z_12, v133_11_0) (by show (901 - (z_12).toInt).toNat < (901 - (v5_3_0).toInt).toNat; omega) _ _ _ ⟨v133_11_1, ⟨by omega, by omega⟩, hv133_11_0, h, (lv_sub hl_12 [1, 2, 3, 4, 0] rfl)⟩
    · skip
      refine lv_icmp_ge (tgt := 76) hx hb dX4_valueFor_29 (by decide) (fun c_13 => ?_) (fun c_13 => ?_)
      · replace c_13 := i_le (x := 2000) (y := z_9) (show (2000 : Int32).toInt = 2000 by decide) rfl c_13
        refine lv_iload hx hb dX4_valueFor_76 (lv_at hl_10 0 rfl) ?_
        refine lv_sipush (v := 2023) hx hb dX4_valueFor_78 (by decide) ?_
        refine lv_icmp_ne (tgt := 103) hx hb dX4_valueFor_81 (by decide) (fun c_14 => ?_) (fun c_14 => ?_)
        · replace c_14 := i_ne (x := z_9) (y := 2023) rfl (show (2023 : Int32).toInt = 2023 by decide) c_14
          refine lv_iload_n hx hb dX4_valueFor_103 rfl (lv_at hl_10 4 rfl) ?_
          refine lv_iconst (v := 1) hx hb dX4_valueFor_104 (by decide) ?_
          refine lv_icmp_le (tgt := 133) hx hb dX4_valueFor_105 (by decide) (fun c_15 => ?_) (fun c_15 => ?_)
          · replace c_15 := i_le (x := v5_3_1) (y := 1) rfl (show (1 : Int32).toInt = 1 by decide) c_15
            exact J_133 _ _ _ _ ⟨v5_3_1, v5_3_2, hv5_3_1, rfl, h, (lv_sub hl_10 [1, 2, 3, 4, 5, 0] rfl)⟩
          · replace c_15 := i_nle (x := v5_3_1) (y := 1) rfl (show (1 : Int32).toInt = 1 by decide) c_15
            obtain ⟨z_16, ez_16, hz_16⟩ := e_add (x := v5_3_1) (y := Int32.ofInt (-1)) rfl (b := (-1)) (by decide) (by omega) (by omega)
            refine lv_iinc (v := z_16) (lv' := [(3, .int z_16), (5, .int z_9), (0, .ref h0), (1, .ref h2), (2, .ref h3), (4, .int v5_3_0)]) hx hb dX4_valueFor_108 hl_10 (k := 4) rfl ez_16 (by decide) rfl (fun ls_16 hl_16 => ?_)
            clear hl_10
            refine lv_aload_n hx hb dX4_valueFor_111 rfl (lv_at hl_16 4 rfl) ?_
            refine lv_iload_n hx hb dX4_valueFor_112 rfl (lv_at hl_16 0 rfl) ?_
            refine lv_iconst (v := 1) hx hb dX4_valueFor_113 (by decide) ?_
            refine lv_isub hx hb dX4_valueFor_114 ?_
            obtain ⟨z_17, ez_17, hz_17⟩ := e_sub (x := z_16) (y := 1) rfl (show (1 : Int32).toInt = 1 by decide) (by omega) (by omega)
            refine q_c z_17 ez_17 ?_
            clear ez_17
            refine lv_iload hx hb dX4_valueFor_115 (lv_at hl_16 1 rfl) ?_
            refine lv_sipush (v := 2000) hx hb dX4_valueFor_117 (by decide) ?_
            refine lv_isub hx hb dX4_valueFor_120 ?_
            obtain ⟨z_18, ez_18, hz_18⟩ := e_sub (x := z_9) (y := 2000) rfl (show (2000 : Int32).toInt = 2000 by decide) (by omega) (by omega)
            refine q_c z_18 ez_18 ?_
            clear ez_18
            refine lv_aload_n hx hb dX4_valueFor_121 rfl (lv_at hl_16 4 rfl) ?_
            refine lv_iload_n hx hb dX4_valueFor_122 rfl (lv_at hl_16 0 rfl) ?_
            refine lv_iconst (v := 1) hx hb dX4_valueFor_123 (by decide) ?_
            refine lv_isub hx hb dX4_valueFor_124 ?_
            obtain ⟨z_19, ez_19, hz_19⟩ := e_sub (x := z_16) (y := 1) rfl (show (1 : Int32).toInt = 1 by decide) (by omega) (by omega)
            refine q_c z_19 ez_19 ?_
            clear ez_19
            refine q_iald X hK h 3 rfl (i_in rfl (by omega) (by omega)) dX4_valueFor_125 ?_
            refine q_any (fun z_20 hz_20 => ?_)
            refine lv_aload_n hx hb dX4_valueFor_126 rfl (lv_at hl_16 4 rfl) ?_
            refine lv_iload_n hx hb dX4_valueFor_127 rfl (lv_at hl_16 0 rfl) ?_
            refine q_iald X hK h 3 rfl (i_in rfl (by omega) (by omega)) dX4_valueFor_128 ?_
            refine q_any (fun z_21 hz_21 => ?_)
            refine q_callSi (rest := [.int z_17, .ref h3]) (wr := (wk_a56b72400 cy h0 h1 h1 m0 f0 h2 f1 h3 v5_3_2)) X hK hT hA h (fun sz => gX4_joined_15bcc7b l D cy z_18 z_20 z_21 ⟨by omega, by omega⟩ (i_rng _) (i_rng _) sz) wm_3_212 wm_3_214 wm_1_19 hd_X4_joined wm_3_213 ⟨Nat.le_of_ble_eq_true rfl, Nat.le_of_ble_eq_true rfl⟩ hl_16.1 rfl (Nat.le_of_ble_eq_true rfl) dX4_valueFor_129 ⟨Nat.le_of_ble_eq_true rfl, Nat.le_of_ble_eq_true rfl⟩ [] [0, 1, 2, 3] rfl rfl (by decide) rfl rfl (fun r_22 u_22 H locs w_22 h_22 => ?_)
            clear h
            obtain ⟨wr_22, _⟩ := w_22
            replace h_22 : qW D _ _ (wk_a56b72400 cy h0 h1 h1 m0 f0 h2 f1 h3 v5_3_2) _ _ := h_22
            refine q_iast X hK h_22 3 rfl (i_in rfl (by omega) (by omega)) dX4_valueFor_132 (fun H locs h_24 => ?_)
            clear h_22
            replace h_24 : qW D _ _ (wk_a56b72400 cy h0 h1 h1 m0 f0 h2 f1 h3 (upd v5_3_2 (Int32.toNatClampNeg z_17) r_22)) _ _ := h_24
            obtain ⟨F_23, eF_23⟩ : ∃ z, (upd v5_3_2 (Int32.toNatClampNeg z_17) r_22) = z := ⟨_, rfl⟩
            rw [eF_23] at h_24
            clear eF_23
            exact J_133 _ _ _ _ ⟨z_16, F_23, ⟨by omega, by omega⟩, rfl, h_24, (lv_sub hl_16 [2, 3, 4, 0, 5, 1] rfl)⟩
        · replace c_14 := i_eq (x := z_9) (y := 2023) rfl (show (2023 : Int32).toInt = 2023 by decide) c_14
          refine lv_iload_n hx hb dX4_valueFor_84 rfl (lv_at hl_10 4 rfl) ?_
          refine lv_if_le (tgt := 133) hx hb dX4_valueFor_85 (by decide) (fun c_25 => ?_) (fun c_25 => ?_)
          · replace c_25 := i_le (x := v5_3_1) (y := 0) rfl (show (0 : Int32).toInt = 0 by decide) c_25
            exact J_133 _ _ _ _ ⟨v5_3_1, v5_3_2, hv5_3_1, rfl, h, (lv_sub hl_10 [1, 2, 3, 4, 5, 0] rfl)⟩
          · replace c_25 := i_nle (x := v5_3_1) (y := 0) rfl (show (0 : Int32).toInt = 0 by decide) c_25
            refine lv_aload_n hx hb dX4_valueFor_88 rfl (lv_at hl_10 3 rfl) ?_
            refine lv_iload_n hx hb dX4_valueFor_89 rfl (lv_at hl_10 4 rfl) ?_
            refine lv_iconst (v := 1) hx hb dX4_valueFor_90 (by decide) ?_
            refine lv_isub hx hb dX4_valueFor_91 ?_
            obtain ⟨z_26, ez_26, hz_26⟩ := e_sub (x := v5_3_1) (y := 1) rfl (show (1 : Int32).toInt = 1 by decide) (by omega) (by omega)
            refine q_c z_26 ez_26 ?_
            clear ez_26
            refine lv_iconst (v := 1) hx hb dX4_valueFor_92 (by decide) ?_
            refine lv_aload_n hx hb dX4_valueFor_93 rfl (lv_at hl_10 3 rfl) ?_
            refine lv_iload_n hx hb dX4_valueFor_94 rfl (lv_at hl_10 4 rfl) ?_
            refine lv_iconst (v := 1) hx hb dX4_valueFor_95 (by decide) ?_
            refine lv_isub hx hb dX4_valueFor_96 ?_
            obtain ⟨z_27, ez_27, hz_27⟩ := e_sub (x := v5_3_1) (y := 1) rfl (show (1 : Int32).toInt = 1 by decide) (by omega) (by omega)
            refine q_c z_27 ez_27 ?_
            clear ez_27
            refine q_iald X hK h 3 rfl (i_in rfl (by omega) (by omega)) dX4_valueFor_97 ?_
            refine q_any (fun z_28 hz_28 => ?_)
            refine lv_isub hx hb dX4_valueFor_98 ?_
            refine q_any (fun z_29 hz_29 => ?_)
            refine q_iast X hK h 3 rfl (i_in rfl (by omega) (by omega)) dX4_valueFor_99 (fun H locs h_31 => ?_)
            clear h
            replace h_31 : qW D _ _ (wk_a56b72400 cy h0 h1 h1 m0 f0 h2 f1 h3 (upd v5_3_2 (Int32.toNatClampNeg z_26) z_29)) _ _ := h_31
            obtain ⟨F_30, eF_30⟩ : ∃ z, (upd v5_3_2 (Int32.toNatClampNeg z_26) z_29) = z := ⟨_, rfl⟩
            rw [eF_30] at h_31
            clear eF_30
            refine lv_goto (tgt := 133) hx hb dX4_valueFor_100 (by decide) ?_
            exact J_133 _ _ _ _ ⟨v5_3_1, F_30, hv5_3_1, rfl, h_31, (lv_sub hl_10 [1, 2, 3, 4, 5, 0] rfl)⟩
      · replace c_13 := i_nle (x := 2000) (y := z_9) (show (2000 : Int32).toInt = 2000 by decide) rfl c_13
        refine lv_iload hx hb dX4_valueFor_32 (lv_at hl_10 0 rfl) ?_
        refine lv_sipush (v := 1000) hx hb dX4_valueFor_34 (by decide) ?_
        refine lv_isub hx hb dX4_valueFor_37 ?_
        refine q_any (fun z_32 hz_32 => ?_)
        refine lv_istore (lv' := [(6, .int z_32), (5, .int z_9), (0, .ref h0), (1, .ref h2), (2, .ref h3), (3, .int v5_3_1), (4, .int v5_3_0)]) hx hb dX4_valueFor_38 hl_10 (by decide) rfl (fun ls_33 hl_33 => ?_)
        clear hl_10
        refine lv_iload_n hx hb dX4_valueFor_40 rfl (lv_at hl_33 5 rfl) ?_
        refine lv_aload_n hx hb dX4_valueFor_41 rfl (lv_at hl_33 4 rfl) ?_
        refine q_alen X hK h 3 1 rfl rfl 64 (show Int32.ofNat 64 = 64 by decide) dX4_valueFor_42 ?_
        refine q_jn (pc2 := 73) (fun H locs ls st => ∃ v73_34_0 : Int32, ∃ v73_34_1 : Nat → Int32, (0 ≤ (v73_34_0).toInt ∧ (v73_34_0).toInt ≤ 64) ∧ st = [] ∧ qW D (va_A (wk_a56b72400 cy h0 h1 h1 m0 f0 h2 f1 h3 f2) sz) s.heap (wk_a56b72400 cy h0 h1 h1 m0 f0 h2 f1 h3 v73_34_1) H locs ∧ lv_has ls 7 [(0, .ref h0), (1, .ref h2), (2, .ref h3), (3, .int v73_34_0), (4, .int v5_3_0), (5, .int z_9), (6, .int z_32)]) (fun H locs ls st hP => ?_) (fun J_73 => ?_)
        · obtain ⟨v73_34_0, v73_34_1, hv73_34_0, rfl, h, hl⟩ := hP
          refine lv_goto (tgt := 133) hx hb dX4_valueFor_73 (by decide) ?_
          exact J_133 _ _ _ _ ⟨v73_34_0, v73_34_1, hv73_34_0, rfl, h, (lv_sub hl [0, 1, 2, 3, 4, 5] rfl)⟩
        · skip
          refine lv_icmp_ge (tgt := 73) hx hb dX4_valueFor_43 (by decide) (fun c_35 => ?_) (fun c_35 => ?_)
          · replace c_35 := i_le (x := 64) (y := v5_3_1) (show (64 : Int32).toInt = 64 by decide) rfl c_35
            exact J_73 _ _ _ _ ⟨v5_3_1, v5_3_2, hv5_3_1, rfl, h, (lv_sub hl_33 [2, 3, 4, 5, 6, 1, 0] rfl)⟩
          · replace c_35 := i_nle (x := 64) (y := v5_3_1) (show (64 : Int32).toInt = 64 by decide) rfl c_35
            refine lv_iload hx hb dX4_valueFor_46 (lv_at hl_33 0 rfl) ?_
            refine lv_aload_n hx hb dX4_valueFor_48 rfl (lv_at hl_33 3 rfl) ?_
            refine q_alen X hK h 2 1 rfl rfl 11 (show Int32.ofNat 11 = 11 by decide) dX4_valueFor_49 ?_
            refine lv_icmp_ge (tgt := 73) hx hb dX4_valueFor_50 (by decide) (fun c_36 => ?_) (fun c_36 => ?_)
            · replace c_36 := i_le (x := 11) (y := z_32) (show (11 : Int32).toInt = 11 by decide) rfl c_36
              exact J_73 _ _ _ _ ⟨v5_3_1, v5_3_2, hv5_3_1, rfl, h, (lv_sub hl_33 [2, 3, 4, 5, 6, 1, 0] rfl)⟩
            · replace c_36 := i_nle (x := 11) (y := z_32) (show (11 : Int32).toInt = 11 by decide) rfl c_36
              refine lv_aload_n hx hb dX4_valueFor_53 rfl (lv_at hl_33 4 rfl) ?_
              refine lv_iload_n hx hb dX4_valueFor_54 rfl (lv_at hl_33 5 rfl) ?_
              refine lv_iload hx hb dX4_valueFor_55 (lv_at hl_33 0 rfl) ?_
              refine q_jn (pc2 := 69) (fun H locs ls st => ∃ v69_37_0 : Int32, ((-2147483648) ≤ (v69_37_0).toInt ∧ (v69_37_0).toInt ≤ 2147483647) ∧ st = [.int v69_37_0, .int v5_3_1, .ref h3] ∧ qW D (va_A (wk_a56b72400 cy h0 h1 h1 m0 f0 h2 f1 h3 f2) sz) s.heap (wk_a56b72400 cy h0 h1 h1 m0 f0 h2 f1 h3 v5_3_2) H locs ∧ lv_has ls 7 [(0, .ref h0), (1, .ref h2), (2, .ref h3), (3, .int v5_3_1), (4, .int v5_3_0), (5, .int z_9), (6, .int z_32)]) (fun H locs ls st hP => ?_) (fun J_69 => ?_)
              · obtain ⟨v69_37_0, hv69_37_0, rfl, h, hl⟩ := hP
                refine q_iast X hK h 3 rfl (i_in rfl (by omega) (by omega)) dX4_valueFor_69 (fun H locs h_39 => ?_)
                clear h
                replace h_39 : qW D _ _ (wk_a56b72400 cy h0 h1 h1 m0 f0 h2 f1 h3 (upd v5_3_2 (Int32.toNatClampNeg v5_3_1) v69_37_0)) _ _ := h_39
                obtain ⟨F_38, eF_38⟩ : ∃ z, (upd v5_3_2 (Int32.toNatClampNeg v5_3_1) v69_37_0) = z := ⟨_, rfl⟩
                rw [eF_38] at h_39
                clear eF_38
                obtain ⟨z_40, ez_40, hz_40⟩ := e_add (x := v5_3_1) (y := Int32.ofInt 1) rfl (b := 1) (by decide) (by omega) (by omega)
                refine lv_iinc (v := z_40) (lv' := [(3, .int z_40), (0, .ref h0), (1, .ref h2), (2, .ref h3), (4, .int v5_3_0), (5, .int z_9), (6, .int z_32)]) hx hb dX4_valueFor_70 hl (k := 3) rfl ez_40 (by decide) rfl (fun ls_40 hl_40 => ?_)
                clear hl
                exact J_73 _ _ _ _ ⟨z_40, F_38, ⟨by omega, by omega⟩, rfl, h_39, (lv_sub hl_40 [1, 2, 3, 0, 4, 5, 6] rfl)⟩
              · skip
                refine lv_if_ge (tgt := 65) hx hb dX4_valueFor_57 (by decide) (fun c_41 => ?_) (fun c_41 => ?_)
                · replace c_41 := i_le (x := 0) (y := z_32) (show (0 : Int32).toInt = 0 by decide) rfl c_41
                  refine lv_aload_n hx hb dX4_valueFor_65 rfl (lv_at hl_33 3 rfl) ?_
                  refine lv_iload hx hb dX4_valueFor_66 (lv_at hl_33 0 rfl) ?_
                  refine q_iald X hK h 2 rfl (i_in rfl (by omega) (by omega)) dX4_valueFor_68 ?_
                  refine q_any (fun z_42 hz_42 => ?_)
                  exact J_69 _ _ _ _ ⟨z_42, ⟨by omega, by omega⟩, rfl, h, (lv_sub hl_33 [2, 3, 4, 5, 6, 1, 0] rfl)⟩
                · replace c_41 := i_nle (x := 0) (y := z_32) (show (0 : Int32).toInt = 0 by decide) rfl c_41
                  refine lv_iload hx hb dX4_valueFor_60 (lv_at hl_33 1 rfl) ?_
                  refine lv_goto (tgt := 69) hx hb dX4_valueFor_62 (by decide) ?_
                  exact J_69 _ _ _ _ ⟨z_9, ⟨by omega, by omega⟩, rfl, h, (lv_sub hl_33 [2, 3, 4, 5, 6, 1, 0] rfl)⟩
set_option maxHeartbeats 4000000 in
set_option maxRecDepth 100000 in
theorem gX6_opposesOneWay_bd62700 (l : Launch) (D : va_G) (cy : Nat → ClassId) (h0 : Nat) (h1 : Nat) (h2 : Nat) (h3 : Nat) (h4 : Nat) (p0 : Int32) (p1 : Int32) (p2 : Int32) (p3 : Int32) (f0 : Nat → Int32) (f1 : Nat → Int32) (m0 : Nat) (f2 : Nat → Int32) (hp0 : 0 ≤ (p0).toInt ∧ (p0).toInt ≤ 9) (hp1 : 0 ≤ (p1).toInt ∧ (p1).toInt ≤ 999) (hp2 : 0 ≤ (p2).toInt ∧ (p2).toInt ≤ 9) (hp3 : 0 ≤ (p3).toInt ∧ (p3).toInt ≤ 999) (hm0 : m0 ≤ 900) (sz : Nat) : MI l yX6_opposesOneWay cX6_opposesOneWay 6 .boolean { frames := 3, cells := 0, slots := 0, locals := 67 } [.ref h0, .ref h3, .int p0, .int p1, .int p2, .int p3] D cy (wk_30ddd02c2 cy h0 h1 h2 h1 f0 h2 f1 h3 h4 h4 m0 f2) sz (fun r u => (0 ≤ r.toInt ∧ r.toInt ≤ 1) ∧ True) (fun u => (wk_30ddd02c2 cy h0 h1 h2 h1 (u.2.1 0) h2 (u.2.1 1) h3 h4 h4 m0 f2)) 0 0 := by
  refine q_ent (own := RX6) (by decide) rfl (Nat.le_of_ble_eq_true rfl) (fun p e s m below meth c ls X hr hlk hnm hK hT h hA hl => ?_)
  obtain ⟨hx, hb, hml, hown, ht⟩ := id X
  replace hl : lv_has ls 6 [(0, .ref h0), (1, .ref h3), (2, .int p0), (3, .int p1), (4, .int p2), (5, .int p3)] := hl
  refine lv_aload_n hx hb dX6_opposesOneWay_0 rfl (lv_at hl 0 rfl) ?_
  refine lv_iconst (v := 0) hx hb dX6_opposesOneWay_1 (by decide) ?_
  refine lv_iload_n hx hb dX6_opposesOneWay_2 rfl (lv_at hl 3 rfl) ?_
  refine lv_iload_n hx hb dX6_opposesOneWay_3 rfl (lv_at hl 2 rfl) ?_
  refine q_callVv (rest := []) (wr := (wk_2f6f0e8e5 cy h2 f1 h3 h4 h4 m0 f2)) X hK hT hA h (fun sz => gX6_put_ab0800e l D cy h0 h1 (0 : Int32) p1 p0 (.ref h2) f0 ⟨by decide +kernel, by decide +kernel⟩ hp1 hp0 sz) wm_3_204 wm_3_207 wm_1_5 hd_X6_put wm_3_206 wp_2_10 (ci := 6) (q0 := 0) rfl rfl ⟨Nat.le_of_ble_eq_true rfl, Nat.le_of_ble_eq_true rfl⟩ hl.1 rfl (Nat.le_of_ble_eq_true rfl) dX6_opposesOneWay_4 ⟨Nat.le_of_ble_eq_true rfl, Nat.le_of_ble_eq_true rfl⟩ [0, 1] [2, 3, 4] rfl rfl (by decide) rfl rfl (fun u_1 H locs w_1 h_1 => ?_)
  clear h
  clear w_1
  replace h_1 : qW D _ _ (wk_0ecad2cfc cy h2 f1 h3 h4 h4 m0 f2 h0 h1 h2 h1 (u_1.2.1 0)) _ _ := h_1
  refine lv_aload_n hx hb dX6_opposesOneWay_7 rfl (lv_at hl 0 rfl) ?_
  refine lv_iconst (v := 4) hx hb dX6_opposesOneWay_8 (by decide) ?_
  refine lv_iload hx hb dX6_opposesOneWay_9 (lv_at hl 5 rfl) ?_
  refine lv_iload hx hb dX6_opposesOneWay_11 (lv_at hl 4 rfl) ?_
  refine q_callVv (rest := []) (wr := (wk_2f6f0e8e5 cy h2 f1 h3 h4 h4 m0 f2)) X hK hT hA h_1 (fun sz => gX6_put_ab0800e l D cy h0 h1 (4 : Int32) p3 p2 (.ref h2) (u_1.2.1 0) ⟨by decide +kernel, by decide +kernel⟩ hp3 hp2 sz) wm_3_204 wm_3_207 wm_1_5 hd_X6_put wm_3_206 wp_2_10 (ci := 6) (q0 := 0) rfl rfl ⟨Nat.le_of_ble_eq_true rfl, Nat.le_of_ble_eq_true rfl⟩ hl.1 rfl (Nat.le_of_ble_eq_true rfl) dX6_opposesOneWay_13 ⟨Nat.le_of_ble_eq_true rfl, Nat.le_of_ble_eq_true rfl⟩ [3, 4] [0, 1, 2] rfl rfl (by decide) rfl rfl (fun u_2 H locs w_2 h_2 => ?_)
  clear h_1
  clear w_2
  replace h_2 : qW D _ _ (wk_0ecad2cfc cy h2 f1 h3 h4 h4 m0 f2 h0 h1 h2 h1 (u_2.2.1 0)) _ _ := h_2
  refine lv_aload_n hx hb dX6_opposesOneWay_16 rfl (lv_at hl 1 rfl) ?_
  refine lv_aload_n hx hb dX6_opposesOneWay_17 rfl (lv_at hl 0 rfl) ?_
  refine q_get X hK h_2 3 rfl rfl wf_6 0 (by decide) rfl wm_1_184 dX6_opposesOneWay_18 ?_
  refine lv_aload_n hx hb dX6_opposesOneWay_21 rfl (lv_at hl 0 rfl) ?_
  refine q_get X hK h_2 3 rfl rfl wf_6 1 (by decide) rfl wm_1_185 dX6_opposesOneWay_22 ?_
  refine q_callVi (rest := []) (wr := [(h0, .inr (6, [.ref h1, .ref h2]))]) X hK hT hA h_2 (fun sz => gX4_valueFor_d25d6d8 l D cy h3 h4 h1 h2 m0 f2 (u_2.2.1 0) f1 (by omega) sz) wm_3_208 wm_3_211 wm_1_19 hd_X4_valueFor wm_3_209 wm_3_210 (ci := 4) (q0 := 0) rfl rfl ⟨Nat.le_of_ble_eq_true rfl, Nat.le_of_ble_eq_true rfl⟩ hl.1 rfl (Nat.le_of_ble_eq_true rfl) dX6_opposesOneWay_25 ⟨Nat.le_of_ble_eq_true rfl, Nat.le_of_ble_eq_true rfl⟩ [1, 2, 4, 0] [3] rfl rfl (by decide) rfl rfl (fun r_3 u_3 H locs w_3 h_3 => ?_)
  clear h_2
  obtain ⟨wr_3, _⟩ := w_3
  replace h_3 : qW D _ _ (wk_977223d2e cy h0 h1 h2 h3 h4 h4 m0 f2 h1 (u_2.2.1 0) h2 (u_3.2.1 0)) _ _ := h_3
  refine q_jn (pc2 := 36) (fun H locs ls st => ∃ v36_4_0 : Int32, (0 ≤ (v36_4_0).toInt ∧ (v36_4_0).toInt ≤ 1) ∧ st = [.int v36_4_0] ∧ qW D (va_A (wk_30ddd02c2 cy h0 h1 h2 h1 f0 h2 f1 h3 h4 h4 m0 f2) sz) s.heap (wk_977223d2e cy h0 h1 h2 h3 h4 h4 m0 f2 h1 (u_2.2.1 0) h2 (u_3.2.1 0)) H locs ∧ lv_has ls 6 [(0, .ref h0), (1, .ref h3), (2, .int p0), (3, .int p1), (4, .int p2), (5, .int p3)]) (fun H locs ls st hP => ?_) (fun J_36 => ?_)
  · obtain ⟨v36_4_0, hv36_4_0, rfl, h, hl⟩ := hP
    exact q_iret X hr hlk hK h (q_nz (by omega) (by omega)) (fun _ => 0, (vcons (u_2.2.1 0) (vcons (u_3.2.1 0) (fun _ => (fun _ => 0)))), fun _ _ => 0) ⟨hv36_4_0, trivial⟩ [0, 3, 4, 1, 2] rfl rfl dX6_opposesOneWay_36 (Nat.le_of_ble_eq_true rfl) (Nat.le_of_ble_eq_true rfl)
  · skip
    refine lv_if_eq (tgt := 35) hx hb dX6_opposesOneWay_28 (by decide) (fun c_5 => ?_) (fun c_5 => ?_)
    · replace c_5 := i_eq (x := r_3) (y := 0) rfl (show (0 : Int32).toInt = 0 by decide) c_5
      refine lv_iconst (v := 0) hx hb dX6_opposesOneWay_35 (by decide) ?_
      exact J_36 _ _ _ _ ⟨0, ⟨by decide +kernel, by decide +kernel⟩, rfl, h_3, (lv_sub hl [0, 1, 2, 3, 4, 5] rfl)⟩
    · replace c_5 := i_ne (x := r_3) (y := 0) rfl (show (0 : Int32).toInt = 0 by decide) c_5
      refine lv_iconst (v := 1) hx hb dX6_opposesOneWay_31 (by decide) ?_
      refine lv_goto (tgt := 36) hx hb dX6_opposesOneWay_32 (by decide) ?_
      exact J_36 _ _ _ _ ⟨1, ⟨by decide +kernel, by decide +kernel⟩, rfl, h_3, (lv_sub hl [0, 1, 2, 3, 4, 5] rfl)⟩
set_option maxHeartbeats 4000000 in
set_option maxRecDepth 100000 in
theorem gJ7_fill_53178_d807778 (l : Launch) (D : va_G) (cy : Nat → ClassId) (h0 : Nat) (p0 : Int32) (f0 : Nat → Int32) (hp0 : 0 ≤ (p0).toInt ∧ (p0).toInt ≤ 0) (rf0 : RG f0 10 0 1023) (sz : Nat) : MV l yJ7_fill_53178 cJ7_fill_53178 4 { frames := 0, cells := 0, slots := 0, locals := 0 } [.ref h0, .int p0] D cy [(h0, .inl (cy 1, 10, .inl f0))] sz (fun u => RG (u.2.1 0) 10 0 1023 ∧ (FLL (u.2.1 0) 10 p0) ∧ True) (fun u => [(h0, .inl (cy 1, 10, .inl (u.2.1 0)))]) 0 0 := by
  refine q_ent (own := RJ7) (by decide) rfl (Nat.le_of_ble_eq_true rfl) (fun p e s m below meth c ls X hr hlk hnm hK hT h hA hl => ?_)
  obtain ⟨hx, hb, hml, hown, ht⟩ := id X
  replace hl : lv_has ls 4 [(0, .ref h0), (1, .int p0)] := hl
  refine lv_iconst (v := 0) hx hb dJ7_fill_53178_0 (by decide) ?_
  refine lv_istore_n (lv' := [(2, .int 0), (0, .ref h0), (1, .int p0)]) hx hb dJ7_fill_53178_1 rfl hl (by decide) rfl (fun ls_1 hl_1 => ?_)
  clear hl
  refine lv_aload_n hx hb dJ7_fill_53178_2 rfl (lv_at hl_1 1 rfl) ?_
  refine q_alen X hK h 0 1 rfl rfl 10 (show Int32.ofNat 10 = 10 by decide) dJ7_fill_53178_3 ?_
  refine lv_istore_n (lv' := [(3, .int 10), (2, .int 0), (0, .ref h0), (1, .int p0)]) hx hb dJ7_fill_53178_4 rfl hl_1 (by decide) rfl (fun ls_2 hl_2 => ?_)
  clear hl_1
  refine q_wl (fun (v5_3_0 : Int32) H locs ls => ∃ v5_3_1 : Nat → Int32, (0 ≤ (v5_3_0).toInt ∧ (v5_3_0).toInt ≤ 10) ∧ RG v5_3_1 10 0 1023 ∧ (FLL v5_3_1 (v5_3_0 : Int32).toInt p0) ∧ qW D (va_A [(h0, .inl (cy 1, 10, .inl f0))] sz) s.heap [(h0, .inl (cy 1, 10, .inl v5_3_1))] H locs ∧ lv_has ls 4 [(0, .ref h0), (1, .int p0), (2, .int v5_3_0), (3, .int 10)]) (fun (v5_3_0 : Int32) => (11 - (v5_3_0).toInt).toNat) (fun q_5 ih_5 H locs ls hP => ?_) 0 ⟨f0, ⟨by decide +kernel, by decide +kernel⟩, (rg_wide rf0 (by decide) (by decide)), (fll_0 (by have q0 : (0 : Int32).toInt = 0 := (by decide); omega)), h, (lv_sub hl_2 [2, 3, 1, 0] rfl)⟩
  obtain ⟨v5_3_0, rfl⟩ : ∃ z, z = q_5 := ⟨_, rfl⟩
  obtain ⟨v5_3_1, hv5_3_0, rv5_3_1, x4_0, h, hl⟩ := hP
  refine lv_iload_n hx hb dJ7_fill_53178_5 rfl (lv_at hl 2 rfl) ?_
  refine lv_iload_n hx hb dJ7_fill_53178_6 rfl (lv_at hl 3 rfl) ?_
  refine lv_icmp_ge (tgt := 20) hx hb dJ7_fill_53178_7 (by decide) (fun c_5 => ?_) (fun c_5 => ?_)
  · replace c_5 := i_le (x := 10) (y := v5_3_0) (show (10 : Int32).toInt = 10 by decide) rfl c_5
    exact q_vret X hr hlk hK h (fun _ => 0, (vcons v5_3_1 (fun _ => (fun _ => 0))), fun _ _ => 0) ⟨(rg_wide rv5_3_1 (by decide) (by decide)), (show FLL v5_3_1 10 p0 from fll_le x4_0 (by omega)), trivial⟩ [0] rfl rfl dJ7_fill_53178_20 (Nat.le_of_ble_eq_true rfl) (Nat.le_of_ble_eq_true rfl)
  · replace c_5 := i_nle (x := 10) (y := v5_3_0) (show (10 : Int32).toInt = 10 by decide) rfl c_5
    refine lv_aload_n hx hb dJ7_fill_53178_10 rfl (lv_at hl 0 rfl) ?_
    refine lv_iload_n hx hb dJ7_fill_53178_11 rfl (lv_at hl 2 rfl) ?_
    refine lv_iload_n hx hb dJ7_fill_53178_12 rfl (lv_at hl 1 rfl) ?_
    refine q_iast X hK h 0 rfl (i_in rfl (by omega) (by omega)) dJ7_fill_53178_13 (fun H locs h_7 => ?_)
    clear h
    replace h_7 : qW D _ _ [(h0, .inl (cy 1, 10, .inl (upd v5_3_1 (Int32.toNatClampNeg v5_3_0) p0)))] _ _ := h_7
    obtain ⟨F_6, eF_6, rF_6⟩ := rg_upd rv5_3_1 (Int32.toNatClampNeg v5_3_0) (x := p0) rfl (by omega) (by omega)
    rw [eF_6] at h_7
    have fs_8 := fll_s x4_0 (by omega) eF_6
    obtain ⟨z_9, ez_9, hz_9⟩ := e_add (x := v5_3_0) (y := Int32.ofInt 1) rfl (b := 1) (by decide) (by omega) (by omega)
    refine lv_iinc (v := z_9) (lv' := [(2, .int z_9), (0, .ref h0), (1, .int p0), (3, .int 10)]) hx hb dJ7_fill_53178_14 hl (k := 2) rfl ez_9 (by decide) rfl (fun ls_9 hl_9 => ?_)
    clear hl
    refine lv_goto (tgt := 5) hx hb dJ7_fill_53178_17 (by decide) ?_
    exact ih_5 z_9 (by show (11 - (z_9).toInt).toNat < (11 - (v5_3_0).toInt).toNat; omega) _ _ _ ⟨F_6, ⟨by omega, by omega⟩, (rg_wide rF_6 (by decide) (by decide)), (fll_le fs_8 (by omega)), h_7, (lv_sub hl_9 [1, 2, 0, 3] rfl)⟩
set_option maxHeartbeats 4000000 in
set_option maxRecDepth 100000 in
theorem gJ6_bitCount_0f7a4_df1b4d9 (l : Launch) (D : va_G) (cy : Nat → ClassId) (p0 : Int32) (hp0 : (-2147483648) ≤ (p0).toInt ∧ (p0).toInt ≤ 2147483647) (sz : Nat) : MI l yJ6_bitCount_0f7a4 cJ6_bitCount_0f7a4 1 .int { frames := 0, cells := 0, slots := 0, locals := 0 } [.int p0] D cy [] sz (fun r u => r = bcx p0 ∧ True) (fun u => []) 0 0 := by
  refine q_ent (own := RJ6) (by decide) rfl (Nat.le_of_ble_eq_true rfl) (fun p e s m below meth c ls X hr hlk hnm hK hT h hA hl => ?_)
  obtain ⟨hx, hb, hml, hown, ht⟩ := id X
  replace hl : lv_has ls 1 [(0, .int p0)] := hl
  refine lv_iload_n hx hb dJ6_bitCount_0f7a4_0 rfl (lv_at hl 0 rfl) ?_
  refine lv_iload_n hx hb dJ6_bitCount_0f7a4_1 rfl (lv_at hl 0 rfl) ?_
  refine lv_iconst (v := 1) hx hb dJ6_bitCount_0f7a4_2 (by decide) ?_
  refine lv_iushr hx hb dJ6_bitCount_0f7a4_3 rfl ?_
  refine lv_ldcw hx hb hown (ht _ wm_4_60) dJ6_bitCount_0f7a4_4 ?_
  refine lv_iand hx hb dJ6_bitCount_0f7a4_7 ?_
  refine lv_isub hx hb dJ6_bitCount_0f7a4_8 ?_
  refine lv_istore_n (lv' := [(0, .int (p0 - ((((p0).toUInt32 >>> ((1 : Int32).toUInt32 &&& Int32.toUInt32 31)).toInt32) &&& 1431655765)))]) hx hb dJ6_bitCount_0f7a4_9 rfl hl (by decide) rfl (fun ls_1 hl_1 => ?_)
  clear hl
  refine lv_iload_n hx hb dJ6_bitCount_0f7a4_10 rfl (lv_at hl_1 0 rfl) ?_
  refine lv_ldcw hx hb hown (ht _ wm_4_61) dJ6_bitCount_0f7a4_11 ?_
  refine lv_iand hx hb dJ6_bitCount_0f7a4_14 ?_
  refine lv_iload_n hx hb dJ6_bitCount_0f7a4_15 rfl (lv_at hl_1 0 rfl) ?_
  refine lv_iconst (v := 2) hx hb dJ6_bitCount_0f7a4_16 (by decide) ?_
  refine lv_iushr hx hb dJ6_bitCount_0f7a4_17 rfl ?_
  refine lv_ldcw hx hb hown (ht _ wm_4_61) dJ6_bitCount_0f7a4_18 ?_
  refine lv_iand hx hb dJ6_bitCount_0f7a4_21 ?_
  refine lv_iadd hx hb dJ6_bitCount_0f7a4_22 ?_
  refine lv_istore_n (lv' := [(0, .int (((p0 - ((((p0).toUInt32 >>> ((1 : Int32).toUInt32 &&& Int32.toUInt32 31)).toInt32) &&& 1431655765)) &&& 858993459) + (((((p0 - ((((p0).toUInt32 >>> ((1 : Int32).toUInt32 &&& Int32.toUInt32 31)).toInt32) &&& 1431655765))).toUInt32 >>> ((2 : Int32).toUInt32 &&& Int32.toUInt32 31)).toInt32) &&& 858993459)))]) hx hb dJ6_bitCount_0f7a4_23 rfl hl_1 (by decide) rfl (fun ls_2 hl_2 => ?_)
  clear hl_1
  refine lv_iload_n hx hb dJ6_bitCount_0f7a4_24 rfl (lv_at hl_2 0 rfl) ?_
  refine lv_iload_n hx hb dJ6_bitCount_0f7a4_25 rfl (lv_at hl_2 0 rfl) ?_
  refine lv_iconst (v := 4) hx hb dJ6_bitCount_0f7a4_26 (by decide) ?_
  refine lv_iushr hx hb dJ6_bitCount_0f7a4_27 rfl ?_
  refine lv_iadd hx hb dJ6_bitCount_0f7a4_28 ?_
  refine lv_ldcw hx hb hown (ht _ wm_4_62) dJ6_bitCount_0f7a4_29 ?_
  refine lv_iand hx hb dJ6_bitCount_0f7a4_32 ?_
  refine lv_istore_n (lv' := [(0, .int (((((p0 - ((((p0).toUInt32 >>> ((1 : Int32).toUInt32 &&& Int32.toUInt32 31)).toInt32) &&& 1431655765)) &&& 858993459) + (((((p0 - ((((p0).toUInt32 >>> ((1 : Int32).toUInt32 &&& Int32.toUInt32 31)).toInt32) &&& 1431655765))).toUInt32 >>> ((2 : Int32).toUInt32 &&& Int32.toUInt32 31)).toInt32) &&& 858993459)) + ((((((p0 - ((((p0).toUInt32 >>> ((1 : Int32).toUInt32 &&& Int32.toUInt32 31)).toInt32) &&& 1431655765)) &&& 858993459) + (((((p0 - ((((p0).toUInt32 >>> ((1 : Int32).toUInt32 &&& Int32.toUInt32 31)).toInt32) &&& 1431655765))).toUInt32 >>> ((2 : Int32).toUInt32 &&& Int32.toUInt32 31)).toInt32) &&& 858993459))).toUInt32 >>> ((4 : Int32).toUInt32 &&& Int32.toUInt32 31)).toInt32)) &&& 252645135))]) hx hb dJ6_bitCount_0f7a4_33 rfl hl_2 (by decide) rfl (fun ls_3 hl_3 => ?_)
  clear hl_2
  refine lv_iload_n hx hb dJ6_bitCount_0f7a4_34 rfl (lv_at hl_3 0 rfl) ?_
  refine lv_iload_n hx hb dJ6_bitCount_0f7a4_35 rfl (lv_at hl_3 0 rfl) ?_
  refine lv_bipush (v := 8) hx hb dJ6_bitCount_0f7a4_36 (by decide) ?_
  refine lv_iushr hx hb dJ6_bitCount_0f7a4_38 rfl ?_
  refine lv_iadd hx hb dJ6_bitCount_0f7a4_39 ?_
  refine lv_istore_n (lv' := [(0, .int ((((((p0 - ((((p0).toUInt32 >>> ((1 : Int32).toUInt32 &&& Int32.toUInt32 31)).toInt32) &&& 1431655765)) &&& 858993459) + (((((p0 - ((((p0).toUInt32 >>> ((1 : Int32).toUInt32 &&& Int32.toUInt32 31)).toInt32) &&& 1431655765))).toUInt32 >>> ((2 : Int32).toUInt32 &&& Int32.toUInt32 31)).toInt32) &&& 858993459)) + ((((((p0 - ((((p0).toUInt32 >>> ((1 : Int32).toUInt32 &&& Int32.toUInt32 31)).toInt32) &&& 1431655765)) &&& 858993459) + (((((p0 - ((((p0).toUInt32 >>> ((1 : Int32).toUInt32 &&& Int32.toUInt32 31)).toInt32) &&& 1431655765))).toUInt32 >>> ((2 : Int32).toUInt32 &&& Int32.toUInt32 31)).toInt32) &&& 858993459))).toUInt32 >>> ((4 : Int32).toUInt32 &&& Int32.toUInt32 31)).toInt32)) &&& 252645135) + ((((((((p0 - ((((p0).toUInt32 >>> ((1 : Int32).toUInt32 &&& Int32.toUInt32 31)).toInt32) &&& 1431655765)) &&& 858993459) + (((((p0 - ((((p0).toUInt32 >>> ((1 : Int32).toUInt32 &&& Int32.toUInt32 31)).toInt32) &&& 1431655765))).toUInt32 >>> ((2 : Int32).toUInt32 &&& Int32.toUInt32 31)).toInt32) &&& 858993459)) + ((((((p0 - ((((p0).toUInt32 >>> ((1 : Int32).toUInt32 &&& Int32.toUInt32 31)).toInt32) &&& 1431655765)) &&& 858993459) + (((((p0 - ((((p0).toUInt32 >>> ((1 : Int32).toUInt32 &&& Int32.toUInt32 31)).toInt32) &&& 1431655765))).toUInt32 >>> ((2 : Int32).toUInt32 &&& Int32.toUInt32 31)).toInt32) &&& 858993459))).toUInt32 >>> ((4 : Int32).toUInt32 &&& Int32.toUInt32 31)).toInt32)) &&& 252645135)).toUInt32 >>> ((8 : Int32).toUInt32 &&& Int32.toUInt32 31)).toInt32)))]) hx hb dJ6_bitCount_0f7a4_40 rfl hl_3 (by decide) rfl (fun ls_4 hl_4 => ?_)
  clear hl_3
  refine lv_iload_n hx hb dJ6_bitCount_0f7a4_41 rfl (lv_at hl_4 0 rfl) ?_
  refine lv_iload_n hx hb dJ6_bitCount_0f7a4_42 rfl (lv_at hl_4 0 rfl) ?_
  refine lv_bipush (v := 16) hx hb dJ6_bitCount_0f7a4_43 (by decide) ?_
  refine lv_iushr hx hb dJ6_bitCount_0f7a4_45 rfl ?_
  refine lv_iadd hx hb dJ6_bitCount_0f7a4_46 ?_
  refine lv_istore_n (lv' := [(0, .int (((((((p0 - ((((p0).toUInt32 >>> ((1 : Int32).toUInt32 &&& Int32.toUInt32 31)).toInt32) &&& 1431655765)) &&& 858993459) + (((((p0 - ((((p0).toUInt32 >>> ((1 : Int32).toUInt32 &&& Int32.toUInt32 31)).toInt32) &&& 1431655765))).toUInt32 >>> ((2 : Int32).toUInt32 &&& Int32.toUInt32 31)).toInt32) &&& 858993459)) + ((((((p0 - ((((p0).toUInt32 >>> ((1 : Int32).toUInt32 &&& Int32.toUInt32 31)).toInt32) &&& 1431655765)) &&& 858993459) + (((((p0 - ((((p0).toUInt32 >>> ((1 : Int32).toUInt32 &&& Int32.toUInt32 31)).toInt32) &&& 1431655765))).toUInt32 >>> ((2 : Int32).toUInt32 &&& Int32.toUInt32 31)).toInt32) &&& 858993459))).toUInt32 >>> ((4 : Int32).toUInt32 &&& Int32.toUInt32 31)).toInt32)) &&& 252645135) + ((((((((p0 - ((((p0).toUInt32 >>> ((1 : Int32).toUInt32 &&& Int32.toUInt32 31)).toInt32) &&& 1431655765)) &&& 858993459) + (((((p0 - ((((p0).toUInt32 >>> ((1 : Int32).toUInt32 &&& Int32.toUInt32 31)).toInt32) &&& 1431655765))).toUInt32 >>> ((2 : Int32).toUInt32 &&& Int32.toUInt32 31)).toInt32) &&& 858993459)) + ((((((p0 - ((((p0).toUInt32 >>> ((1 : Int32).toUInt32 &&& Int32.toUInt32 31)).toInt32) &&& 1431655765)) &&& 858993459) + (((((p0 - ((((p0).toUInt32 >>> ((1 : Int32).toUInt32 &&& Int32.toUInt32 31)).toInt32) &&& 1431655765))).toUInt32 >>> ((2 : Int32).toUInt32 &&& Int32.toUInt32 31)).toInt32) &&& 858993459))).toUInt32 >>> ((4 : Int32).toUInt32 &&& Int32.toUInt32 31)).toInt32)) &&& 252645135)).toUInt32 >>> ((8 : Int32).toUInt32 &&& Int32.toUInt32 31)).toInt32)) + (((((((((p0 - ((((p0).toUInt32 >>> ((1 : Int32).toUInt32 &&& Int32.toUInt32 31)).toInt32) &&& 1431655765)) &&& 858993459) + (((((p0 - ((((p0).toUInt32 >>> ((1 : Int32).toUInt32 &&& Int32.toUInt32 31)).toInt32) &&& 1431655765))).toUInt32 >>> ((2 : Int32).toUInt32 &&& Int32.toUInt32 31)).toInt32) &&& 858993459)) + ((((((p0 - ((((p0).toUInt32 >>> ((1 : Int32).toUInt32 &&& Int32.toUInt32 31)).toInt32) &&& 1431655765)) &&& 858993459) + (((((p0 - ((((p0).toUInt32 >>> ((1 : Int32).toUInt32 &&& Int32.toUInt32 31)).toInt32) &&& 1431655765))).toUInt32 >>> ((2 : Int32).toUInt32 &&& Int32.toUInt32 31)).toInt32) &&& 858993459))).toUInt32 >>> ((4 : Int32).toUInt32 &&& Int32.toUInt32 31)).toInt32)) &&& 252645135) + ((((((((p0 - ((((p0).toUInt32 >>> ((1 : Int32).toUInt32 &&& Int32.toUInt32 31)).toInt32) &&& 1431655765)) &&& 858993459) + (((((p0 - ((((p0).toUInt32 >>> ((1 : Int32).toUInt32 &&& Int32.toUInt32 31)).toInt32) &&& 1431655765))).toUInt32 >>> ((2 : Int32).toUInt32 &&& Int32.toUInt32 31)).toInt32) &&& 858993459)) + ((((((p0 - ((((p0).toUInt32 >>> ((1 : Int32).toUInt32 &&& Int32.toUInt32 31)).toInt32) &&& 1431655765)) &&& 858993459) + (((((p0 - ((((p0).toUInt32 >>> ((1 : Int32).toUInt32 &&& Int32.toUInt32 31)).toInt32) &&& 1431655765))).toUInt32 >>> ((2 : Int32).toUInt32 &&& Int32.toUInt32 31)).toInt32) &&& 858993459))).toUInt32 >>> ((4 : Int32).toUInt32 &&& Int32.toUInt32 31)).toInt32)) &&& 252645135)).toUInt32 >>> ((8 : Int32).toUInt32 &&& Int32.toUInt32 31)).toInt32))).toUInt32 >>> ((16 : Int32).toUInt32 &&& Int32.toUInt32 31)).toInt32)))]) hx hb dJ6_bitCount_0f7a4_47 rfl hl_4 (by decide) rfl (fun ls_5 hl_5 => ?_)
  clear hl_4
  refine lv_iload_n hx hb dJ6_bitCount_0f7a4_48 rfl (lv_at hl_5 0 rfl) ?_
  refine lv_bipush (v := 63) hx hb dJ6_bitCount_0f7a4_49 (by decide) ?_
  refine lv_iand hx hb dJ6_bitCount_0f7a4_51 ?_
  exact q_iret X hr hlk hK h rfl (fun _ => 0, fun _ _ => 0, fun _ _ => 0) ⟨rfl, trivial⟩ [] rfl rfl dJ6_bitCount_0f7a4_52 (Nat.le_of_ble_eq_true rfl) (Nat.le_of_ble_eq_true rfl)
set_option maxHeartbeats 4000000 in
set_option maxRecDepth 100000 in
theorem gX0_lowestOf_af0d02d (l : Launch) (D : va_G) (cy : Nat → ClassId) (p0 : Int32) (hp0 : 1 ≤ (p0).toInt ∧ (p0).toInt ≤ 1023) (sz : Nat) : MI l yX0_lowestOf cX0_lowestOf 1 .int { frames := 1, cells := 0, slots := 0, locals := 20 } [.int p0] D cy [] sz (fun r u => (0 ≤ r.toInt ∧ r.toInt ≤ 9) ∧ True) (fun u => []) 0 0 := by
  refine q_ent (own := RX0) (by decide) rfl (Nat.le_of_ble_eq_true rfl) (fun p e s m below meth c ls X hr hlk hnm hK hT h hA hl => ?_)
  obtain ⟨hx, hb, hml, hown, ht⟩ := id X
  replace hl : lv_has ls 1 [(0, .int p0)] := hl
  refine lv_iload_n hx hb dX0_lowestOf_0 rfl (lv_at hl 0 rfl) ?_
  refine lv_iload_n hx hb dX0_lowestOf_1 rfl (lv_at hl 0 rfl) ?_
  refine lv_ineg hx hb dX0_lowestOf_2 ?_
  refine lv_iand hx hb dX0_lowestOf_3 ?_
  refine lv_iconst (v := 1) hx hb dX0_lowestOf_4 (by decide) ?_
  refine lv_isub hx hb dX0_lowestOf_5 ?_
  refine q_callSi (rest := []) (wr := []) X hK hT hA h (fun sz => gJ6_bitCount_0f7a4_df1b4d9 l D cy ((p0 &&& (-p0)) - 1) (i_rng _) sz) wm_4_116 wm_4_59 wm_1_22 hd_J6_bitCount_0f7a4 wm_4_58 ⟨Nat.le_of_ble_eq_true rfl, Nat.le_of_ble_eq_true rfl⟩ hl.1 rfl (Nat.le_of_ble_eq_true rfl) dX0_lowestOf_6 ⟨Nat.le_of_ble_eq_true rfl, Nat.le_of_ble_eq_true rfl⟩ [] [] rfl rfl (by decide) rfl rfl (fun r_1 u_1 H locs w_1 h_1 => ?_)
  clear h
  obtain ⟨wr_1, _⟩ := w_1
  replace h_1 : qW D _ _ [] _ _ := h_1
  exact q_iret X hr hlk hK h_1 rfl (fun _ => 0, fun _ _ => 0, fun _ _ => 0) ⟨(by rw [wr_1]; exact bc_low hp0), trivial⟩ [] rfl rfl dX0_lowestOf_9 (Nat.le_of_ble_eq_true rfl) (Nat.le_of_ble_eq_true rfl)
set_option maxHeartbeats 4000000 in
set_option maxRecDepth 100000 in
theorem gX0_canSit_94cbe12 (l : Launch) (D : va_G) (cy : Nat → ClassId) (h0 : Nat) (p0 : Int32) (p1 : Int32) (w0 : Value) (w1 : Value) (w2 : Value) (hp0 : 0 ≤ (p0).toInt ∧ (p0).toInt ≤ 1023) (hp1 : 2 ≤ (p1).toInt ∧ (p1).toInt ≤ 10) (sz : Nat) : MI l yX0_canSit cX0_canSit 6 .boolean { frames := 0, cells := 0, slots := 0, locals := 0 } [.ref h0, .int p0, .int 10] D cy [(h0, .inr (0, [.int p1, w0, w1, w2]))] sz (fun r u => (0 ≤ r.toInt ∧ r.toInt ≤ 1) ∧ True) (fun u => [(h0, .inr (0, [.int p1, w0, w1, w2]))]) 0 0 := by
  refine q_ent (own := RX0) (by decide) rfl (Nat.le_of_ble_eq_true rfl) (fun p e s m below meth c ls X hr hlk hnm hK hT h hA hl => ?_)
  obtain ⟨hx, hb, hml, hown, ht⟩ := id X
  replace hl : lv_has ls 6 [(0, .ref h0), (1, .int p0), (2, .int 10)] := hl
  refine lv_iload_n hx hb dX0_canSit_0 rfl (lv_at hl 1 rfl) ?_
  refine lv_if_ne (tgt := 6) hx hb dX0_canSit_1 (by decide) (fun c_1 => ?_) (fun c_1 => ?_)
  · replace c_1 := i_ne (x := p0) (y := 0) rfl (show (0 : Int32).toInt = 0 by decide) c_1
    refine lv_iload_n hx hb dX0_canSit_6 rfl (lv_at hl 2 rfl) ?_
    refine lv_bipush (v := 10) hx hb dX0_canSit_7 (by decide) ?_
    refine lv_icmp_lt (tgt := 14) hx hb dX0_canSit_9 (by decide) (fun c => absurd c (by decide +kernel)) (fun _ => ?_)
    refine lv_iconst (v := 0) hx hb dX0_canSit_12 (by decide) ?_
    exact q_iret X hr hlk hK h rfl (fun _ => 0, fun _ _ => 0, fun _ _ => 0) ⟨⟨by decide +kernel, by decide +kernel⟩, trivial⟩ [0] rfl rfl dX0_canSit_13 (Nat.le_of_ble_eq_true rfl) (Nat.le_of_ble_eq_true rfl)
  · replace c_1 := i_eq (x := p0) (y := 0) rfl (show (0 : Int32).toInt = 0 by decide) c_1
    refine lv_iconst (v := 1) hx hb dX0_canSit_4 (by decide) ?_
    exact q_iret X hr hlk hK h rfl (fun _ => 0, fun _ _ => 0, fun _ _ => 0) ⟨⟨by decide +kernel, by decide +kernel⟩, trivial⟩ [0] rfl rfl dX0_canSit_5 (Nat.le_of_ble_eq_true rfl) (Nat.le_of_ble_eq_true rfl)
set_option maxHeartbeats 4000000 in
set_option maxRecDepth 100000 in
theorem gX0_canSit_3c62cd5 (l : Launch) (D : va_G) (cy : Nat → ClassId) (h0 : Nat) (h1 : Nat) (p0 : Int32) (p1 : Int32) (w0 : Value) (w1 : Value) (f0 : Nat → Int32) (hp0 : 0 ≤ (p0).toInt ∧ (p0).toInt ≤ 1023) (hp1 : 2 ≤ (p1).toInt ∧ (p1).toInt ≤ 10) (sz : Nat) : MI l yX0_canSit cX0_canSit 6 .boolean { frames := 2, cells := 0, slots := 0, locals := 40 } [.ref h0, .int p0, .int 9] D cy (wk_61955d11b cy h0 p1 h1 w0 w1 h1 f0) sz (fun r u => (0 ≤ r.toInt ∧ r.toInt ≤ 1) ∧ True) (fun u => (wk_61955d11b cy h0 p1 h1 w0 w1 h1 f0)) 0 0 := by
  refine q_ent (own := RX0) (by decide) rfl (Nat.le_of_ble_eq_true rfl) (fun p e s m below meth c ls X hr hlk hnm hK hT h hA hl => ?_)
  obtain ⟨hx, hb, hml, hown, ht⟩ := id X
  replace hl : lv_has ls 6 [(0, .ref h0), (1, .int p0), (2, .int 9)] := hl
  refine lv_iload_n hx hb dX0_canSit_0 rfl (lv_at hl 1 rfl) ?_
  refine lv_if_ne (tgt := 6) hx hb dX0_canSit_1 (by decide) (fun c_1 => ?_) (fun c_1 => ?_)
  · replace c_1 := i_ne (x := p0) (y := 0) rfl (show (0 : Int32).toInt = 0 by decide) c_1
    refine lv_iload_n hx hb dX0_canSit_6 rfl (lv_at hl 2 rfl) ?_
    refine lv_bipush (v := 10) hx hb dX0_canSit_7 (by decide) ?_
    refine lv_icmp_lt (tgt := 14) hx hb dX0_canSit_9 (by decide) (fun _ => ?_) (fun c => absurd c (by decide +kernel))
    refine lv_iload_n hx hb dX0_canSit_14 rfl (lv_at hl 1 rfl) ?_
    refine q_callSi (rest := []) (wr := (wk_61955d11b cy h0 p1 h1 w0 w1 h1 f0)) X hK hT hA h (fun sz => gX0_lowestOf_af0d02d l D cy p0 ⟨by omega, by omega⟩ sz) wm_4_113 wm_4_115 wm_1_6 hd_X0_lowestOf wm_4_114 ⟨Nat.le_of_ble_eq_true rfl, Nat.le_of_ble_eq_true rfl⟩ hl.1 rfl (Nat.le_of_ble_eq_true rfl) dX0_canSit_15 ⟨Nat.le_of_ble_eq_true rfl, Nat.le_of_ble_eq_true rfl⟩ [] [0, 1] rfl rfl (by decide) rfl rfl (fun r_2 u_2 H locs w_2 h_2 => ?_)
    clear h
    obtain ⟨wr_2, _⟩ := w_2
    replace h_2 : qW D _ _ (wk_61955d11b cy h0 p1 h1 w0 w1 h1 f0) _ _ := h_2
    refine lv_istore_n (lv' := [(3, .int r_2), (0, .ref h0), (1, .int p0), (2, .int 9)]) hx hb dX0_canSit_18 rfl hl (by decide) rfl (fun ls_3 hl_3 => ?_)
    clear hl
    refine lv_aload_n hx hb dX0_canSit_19 rfl (lv_at hl_3 1 rfl) ?_
    refine q_get X hK h_2 0 rfl rfl wf_0 1 (by decide) rfl wm_1_199 dX0_canSit_20 ?_
    refine lv_iload_n hx hb dX0_canSit_23 rfl (lv_at hl_3 0 rfl) ?_
    refine q_iald X hK h_2 1 rfl (i_in rfl (by omega) (by omega)) dX0_canSit_24 ?_
    refine q_any (fun z_4 hz_4 => ?_)
    refine lv_iload_n hx hb dX0_canSit_25 rfl (lv_at hl_3 2 rfl) ?_
    refine lv_iand hx hb dX0_canSit_26 ?_
    obtain ⟨z_5, ez_5, hz_5⟩ := e_and2 (x := z_4) (y := p0) rfl (by omega)
    refine q_c z_5 ez_5 ?_
    clear ez_5
    refine lv_istore (lv' := [(4, .int z_5), (3, .int r_2), (0, .ref h0), (1, .int p0), (2, .int 9)]) hx hb dX0_canSit_27 hl_3 (by decide) rfl (fun ls_6 hl_6 => ?_)
    clear hl_3
    refine lv_iload_n hx hb dX0_canSit_29 rfl (lv_at hl_6 1 rfl) ?_
    refine lv_iconst (v := 1) hx hb dX0_canSit_30 (by decide) ?_
    refine lv_iadd hx hb dX0_canSit_31 ?_
    obtain ⟨z_7, ez_7, hz_7⟩ := e_add (x := r_2) (y := 1) rfl (show (1 : Int32).toInt = 1 by decide) (by omega) (by omega)
    refine q_c z_7 ez_7 ?_
    clear ez_7
    refine lv_istore (lv' := [(5, .int z_7), (4, .int z_5), (3, .int r_2), (0, .ref h0), (1, .int p0), (2, .int 9)]) hx hb dX0_canSit_32 hl_6 (by decide) rfl (fun ls_8 hl_8 => ?_)
    clear hl_6
    refine q_wl (fun (v34_9_0 : Int32) H locs ls => (1 ≤ (v34_9_0).toInt ∧ (v34_9_0).toInt ≤ 10) ∧ qW D (va_A (wk_61955d11b cy h0 p1 h1 w0 w1 h1 f0) sz) s.heap (wk_61955d11b cy h0 p1 h1 w0 w1 h1 f0) H locs ∧ lv_has ls 6 [(0, .ref h0), (1, .int p0), (2, .int 9), (3, .int r_2), (4, .int z_5), (5, .int v34_9_0)]) (fun (v34_9_0 : Int32) => (11 - (v34_9_0).toInt).toNat) (fun q_34 ih_34 H locs ls hP => ?_) z_7 ⟨⟨by omega, by omega⟩, h_2, (lv_sub hl_8 [3, 4, 5, 2, 1, 0] rfl)⟩
    obtain ⟨v34_9_0, rfl⟩ : ∃ z, z = q_34 := ⟨_, rfl⟩
    obtain ⟨hv34_9_0, h, hl⟩ := hP
    refine lv_iload hx hb dX0_canSit_34 (lv_at hl 5 rfl) ?_
    refine lv_aload_n hx hb dX0_canSit_36 rfl (lv_at hl 0 rfl) ?_
    refine q_get X hK h 0 rfl rfl wf_0 0 (by decide) rfl wm_1_198 dX0_canSit_37 ?_
    refine lv_icmp_ge (tgt := 84) hx hb dX0_canSit_40 (by decide) (fun c_10 => ?_) (fun c_10 => ?_)
    · replace c_10 := i_le (x := p1) (y := v34_9_0) rfl rfl c_10
      refine lv_iconst (v := 0) hx hb dX0_canSit_84 (by decide) ?_
      exact q_iret X hr hlk hK h rfl (fun _ => 0, fun _ _ => 0, fun _ _ => 0) ⟨⟨by decide +kernel, by decide +kernel⟩, trivial⟩ [0, 1] rfl rfl dX0_canSit_85 (Nat.le_of_ble_eq_true rfl) (Nat.le_of_ble_eq_true rfl)
    · replace c_10 := i_nle (x := p1) (y := v34_9_0) rfl rfl c_10
      refine lv_iload hx hb dX0_canSit_43 (lv_at hl 4 rfl) ?_
      refine lv_iload hx hb dX0_canSit_45 (lv_at hl 5 rfl) ?_
      refine lv_ishr hx hb dX0_canSit_47 ?_
      obtain ⟨z_11, ez_11, hz_11⟩ := e_shr (x := z_5) v34_9_0 rfl (by omega)
      refine q_c z_11 ez_11 ?_
      clear ez_11
      refine lv_iconst (v := 1) hx hb dX0_canSit_48 (by decide) ?_
      refine lv_iand hx hb dX0_canSit_49 ?_
      obtain ⟨z_12, ez_12, hz_12⟩ := e_and2 (x := z_11) (y := 1) (show (1 : Int32).toInt = 1 by decide) (by omega)
      refine q_c z_12 ez_12 ?_
      clear ez_12
      refine lv_iconst (v := 1) hx hb dX0_canSit_50 (by decide) ?_
      refine q_jn (pc2 := 78) (fun H locs ls st => st = [] ∧ qW D (va_A (wk_61955d11b cy h0 p1 h1 w0 w1 h1 f0) sz) s.heap (wk_61955d11b cy h0 p1 h1 w0 w1 h1 f0) H locs ∧ lv_has ls 6 [(0, .ref h0), (1, .int p0), (2, .int 9), (3, .int r_2), (4, .int z_5), (5, .int v34_9_0)]) (fun H locs ls st hP => ?_) (fun J_78 => ?_)
      · obtain ⟨rfl, h, hl⟩ := hP
        obtain ⟨z_14, ez_14, hz_14⟩ := e_add (x := v34_9_0) (y := Int32.ofInt 1) rfl (b := 1) (by decide) (by omega) (by omega)
        refine lv_iinc (v := z_14) (lv' := [(5, .int z_14), (0, .ref h0), (1, .int p0), (2, .int 9), (3, .int r_2), (4, .int z_5)]) hx hb dX0_canSit_78 hl (k := 5) rfl ez_14 (by decide) rfl (fun ls_14 hl_14 => ?_)
        clear hl
        refine lv_goto (tgt := 34) hx hb dX0_canSit_81 (by decide) ?_
        exact ih_34 z_14 (by show (11 - (z_14).toInt).toNat < (11 - (v34_9_0).toInt).toNat; omega) _ _ _ ⟨⟨by omega, by omega⟩, h, (lv_sub hl_14 [1, 2, 3, 4, 5, 0] rfl)⟩
      · skip
        refine lv_icmp_ne (tgt := 78) hx hb dX0_canSit_51 (by decide) (fun c_15 => ?_) (fun c_15 => ?_)
        · replace c_15 := i_ne (x := z_12) (y := 1) rfl (show (1 : Int32).toInt = 1 by decide) c_15
          exact J_78 _ _ _ _ ⟨rfl, h, (lv_sub hl [0, 1, 2, 3, 4, 5] rfl)⟩
        · replace c_15 := i_eq (x := z_12) (y := 1) rfl (show (1 : Int32).toInt = 1 by decide) c_15
          refine lv_aload_n hx hb dX0_canSit_54 rfl (lv_at hl 0 rfl) ?_
          refine lv_iload_n hx hb dX0_canSit_55 rfl (lv_at hl 1 rfl) ?_
          refine lv_iconst (v := 1) hx hb dX0_canSit_56 (by decide) ?_
          refine lv_iload_n hx hb dX0_canSit_57 rfl (lv_at hl 3 rfl) ?_
          refine lv_ishl hx hb dX0_canSit_58 ?_
          obtain ⟨z_16, ez_16, hz_16⟩ := e_shlk (p := r_2) 9 (by decide) rfl (by omega) (by omega)
          refine q_c z_16 ez_16 ?_
          clear ez_16
          refine lv_iconst (v := 1) hx hb dX0_canSit_59 (by decide) ?_
          refine lv_iload hx hb dX0_canSit_60 (lv_at hl 5 rfl) ?_
          refine lv_ishl hx hb dX0_canSit_62 ?_
          obtain ⟨z_17, ez_17, hz_17⟩ := e_shlk (p := v34_9_0) 9 (by decide) rfl (by omega) (by omega)
          refine q_c z_17 ez_17 ?_
          clear ez_17
          refine lv_ior hx hb dX0_canSit_63 ?_
          obtain ⟨z_18, ez_18, hz_18⟩ := e_or (x := z_16) (y := z_17) 10 (by decide) rfl rfl (by omega) (by omega) (by omega) (by omega)
          refine q_c z_18 ez_18 ?_
          clear ez_18
          refine lv_iconst (v := (-1)) hx hb dX0_canSit_64 (by decide) ?_
          refine lv_ixor hx hb dX0_canSit_65 ?_
          refine q_any (fun z_19 hz_19 => ?_)
          refine lv_iand hx hb dX0_canSit_66 ?_
          obtain ⟨z_20, ez_20, hz_20⟩ := e_and1 (x := p0) (y := z_19) rfl (by omega)
          refine q_c z_20 ez_20 ?_
          clear ez_20
          refine lv_iload_n hx hb dX0_canSit_67 rfl (lv_at hl 2 rfl) ?_
          refine lv_iconst (v := 1) hx hb dX0_canSit_68 (by decide) ?_
          refine lv_iadd hx hb dX0_canSit_69 ?_
          refine q_c 10 (by decide +kernel) ?_
          refine q_callVi (rest := []) (wr := [(h1, .inl (cy 1, 10, .inl f0))]) X hK hT hA h (fun sz => gX0_canSit_94cbe12 l D cy h0 z_20 p1 (.ref h1) w0 w1 ⟨by omega, by omega⟩ hp1 sz) wm_4_117 wm_4_112 wm_1_6 hd_X0_canSit wm_4_110 wm_4_111 (ci := 0) (q0 := 0) rfl rfl ⟨Nat.le_of_ble_eq_true rfl, Nat.le_of_ble_eq_true rfl⟩ hl.1 rfl (Nat.le_of_ble_eq_true rfl) dX0_canSit_70 ⟨Nat.le_of_ble_eq_true rfl, Nat.le_of_ble_eq_true rfl⟩ [0] [1] rfl rfl (by decide) rfl rfl (fun r_21 u_21 H locs w_21 h_21 => ?_)
          clear h
          obtain ⟨wr_21, _⟩ := w_21
          replace h_21 : qW D _ _ [(h1, .inl (cy 1, 10, .inl f0)), (h0, .inr (0, [.int p1, .ref h1, w0, w1]))] _ _ := h_21
          refine lv_if_eq (tgt := 78) hx hb dX0_canSit_73 (by decide) (fun c_22 => ?_) (fun c_22 => ?_)
          · replace c_22 := i_eq (x := r_21) (y := 0) rfl (show (0 : Int32).toInt = 0 by decide) c_22
            exact J_78 _ _ _ _ ⟨rfl, (q_re h_21 [1, 0] rfl rfl), (lv_sub hl [0, 1, 2, 3, 4, 5] rfl)⟩
          · replace c_22 := i_ne (x := r_21) (y := 0) rfl (show (0 : Int32).toInt = 0 by decide) c_22
            refine lv_iconst (v := 1) hx hb dX0_canSit_76 (by decide) ?_
            exact q_iret X hr hlk hK h_21 rfl (fun _ => 0, fun _ _ => 0, fun _ _ => 0) ⟨⟨by decide +kernel, by decide +kernel⟩, trivial⟩ [1, 0] rfl rfl dX0_canSit_77 (Nat.le_of_ble_eq_true rfl) (Nat.le_of_ble_eq_true rfl)
  · replace c_1 := i_eq (x := p0) (y := 0) rfl (show (0 : Int32).toInt = 0 by decide) c_1
    refine lv_iconst (v := 1) hx hb dX0_canSit_4 (by decide) ?_
    exact q_iret X hr hlk hK h rfl (fun _ => 0, fun _ _ => 0, fun _ _ => 0) ⟨⟨by decide +kernel, by decide +kernel⟩, trivial⟩ [0, 1] rfl rfl dX0_canSit_5 (Nat.le_of_ble_eq_true rfl) (Nat.le_of_ble_eq_true rfl)
set_option maxHeartbeats 4000000 in
set_option maxRecDepth 100000 in
theorem gX0_canSit_b0edb97 (l : Launch) (D : va_G) (cy : Nat → ClassId) (h0 : Nat) (h1 : Nat) (p0 : Int32) (p1 : Int32) (w0 : Value) (w1 : Value) (f0 : Nat → Int32) (hp0 : 0 ≤ (p0).toInt ∧ (p0).toInt ≤ 1023) (hp1 : 2 ≤ (p1).toInt ∧ (p1).toInt ≤ 10) (sz : Nat) : MI l yX0_canSit cX0_canSit 6 .boolean { frames := 3, cells := 0, slots := 0, locals := 65 } [.ref h0, .int p0, .int 8] D cy (wk_61955d11b cy h0 p1 h1 w0 w1 h1 f0) sz (fun r u => (0 ≤ r.toInt ∧ r.toInt ≤ 1) ∧ True) (fun u => (wk_61955d11b cy h0 p1 h1 w0 w1 h1 f0)) 0 0 := by
  refine q_ent (own := RX0) (by decide) rfl (Nat.le_of_ble_eq_true rfl) (fun p e s m below meth c ls X hr hlk hnm hK hT h hA hl => ?_)
  obtain ⟨hx, hb, hml, hown, ht⟩ := id X
  replace hl : lv_has ls 6 [(0, .ref h0), (1, .int p0), (2, .int 8)] := hl
  refine lv_iload_n hx hb dX0_canSit_0 rfl (lv_at hl 1 rfl) ?_
  refine lv_if_ne (tgt := 6) hx hb dX0_canSit_1 (by decide) (fun c_1 => ?_) (fun c_1 => ?_)
  · replace c_1 := i_ne (x := p0) (y := 0) rfl (show (0 : Int32).toInt = 0 by decide) c_1
    refine lv_iload_n hx hb dX0_canSit_6 rfl (lv_at hl 2 rfl) ?_
    refine lv_bipush (v := 10) hx hb dX0_canSit_7 (by decide) ?_
    refine lv_icmp_lt (tgt := 14) hx hb dX0_canSit_9 (by decide) (fun _ => ?_) (fun c => absurd c (by decide +kernel))
    refine lv_iload_n hx hb dX0_canSit_14 rfl (lv_at hl 1 rfl) ?_
    refine q_callSi (rest := []) (wr := (wk_61955d11b cy h0 p1 h1 w0 w1 h1 f0)) X hK hT hA h (fun sz => gX0_lowestOf_af0d02d l D cy p0 ⟨by omega, by omega⟩ sz) wm_4_113 wm_4_115 wm_1_6 hd_X0_lowestOf wm_4_114 ⟨Nat.le_of_ble_eq_true rfl, Nat.le_of_ble_eq_true rfl⟩ hl.1 rfl (Nat.le_of_ble_eq_true rfl) dX0_canSit_15 ⟨Nat.le_of_ble_eq_true rfl, Nat.le_of_ble_eq_true rfl⟩ [] [0, 1] rfl rfl (by decide) rfl rfl (fun r_2 u_2 H locs w_2 h_2 => ?_)
    clear h
    obtain ⟨wr_2, _⟩ := w_2
    replace h_2 : qW D _ _ (wk_61955d11b cy h0 p1 h1 w0 w1 h1 f0) _ _ := h_2
    refine lv_istore_n (lv' := [(3, .int r_2), (0, .ref h0), (1, .int p0), (2, .int 8)]) hx hb dX0_canSit_18 rfl hl (by decide) rfl (fun ls_3 hl_3 => ?_)
    clear hl
    refine lv_aload_n hx hb dX0_canSit_19 rfl (lv_at hl_3 1 rfl) ?_
    refine q_get X hK h_2 0 rfl rfl wf_0 1 (by decide) rfl wm_1_199 dX0_canSit_20 ?_
    refine lv_iload_n hx hb dX0_canSit_23 rfl (lv_at hl_3 0 rfl) ?_
    refine q_iald X hK h_2 1 rfl (i_in rfl (by omega) (by omega)) dX0_canSit_24 ?_
    refine q_any (fun z_4 hz_4 => ?_)
    refine lv_iload_n hx hb dX0_canSit_25 rfl (lv_at hl_3 2 rfl) ?_
    refine lv_iand hx hb dX0_canSit_26 ?_
    obtain ⟨z_5, ez_5, hz_5⟩ := e_and2 (x := z_4) (y := p0) rfl (by omega)
    refine q_c z_5 ez_5 ?_
    clear ez_5
    refine lv_istore (lv' := [(4, .int z_5), (3, .int r_2), (0, .ref h0), (1, .int p0), (2, .int 8)]) hx hb dX0_canSit_27 hl_3 (by decide) rfl (fun ls_6 hl_6 => ?_)
    clear hl_3
    refine lv_iload_n hx hb dX0_canSit_29 rfl (lv_at hl_6 1 rfl) ?_
    refine lv_iconst (v := 1) hx hb dX0_canSit_30 (by decide) ?_
    refine lv_iadd hx hb dX0_canSit_31 ?_
    obtain ⟨z_7, ez_7, hz_7⟩ := e_add (x := r_2) (y := 1) rfl (show (1 : Int32).toInt = 1 by decide) (by omega) (by omega)
    refine q_c z_7 ez_7 ?_
    clear ez_7
    refine lv_istore (lv' := [(5, .int z_7), (4, .int z_5), (3, .int r_2), (0, .ref h0), (1, .int p0), (2, .int 8)]) hx hb dX0_canSit_32 hl_6 (by decide) rfl (fun ls_8 hl_8 => ?_)
    clear hl_6
    refine q_wl (fun (v34_9_0 : Int32) H locs ls => (1 ≤ (v34_9_0).toInt ∧ (v34_9_0).toInt ≤ 10) ∧ qW D (va_A (wk_61955d11b cy h0 p1 h1 w0 w1 h1 f0) sz) s.heap (wk_61955d11b cy h0 p1 h1 w0 w1 h1 f0) H locs ∧ lv_has ls 6 [(0, .ref h0), (1, .int p0), (2, .int 8), (3, .int r_2), (4, .int z_5), (5, .int v34_9_0)]) (fun (v34_9_0 : Int32) => (11 - (v34_9_0).toInt).toNat) (fun q_34 ih_34 H locs ls hP => ?_) z_7 ⟨⟨by omega, by omega⟩, h_2, (lv_sub hl_8 [3, 4, 5, 2, 1, 0] rfl)⟩
    obtain ⟨v34_9_0, rfl⟩ : ∃ z, z = q_34 := ⟨_, rfl⟩
    obtain ⟨hv34_9_0, h, hl⟩ := hP
    refine lv_iload hx hb dX0_canSit_34 (lv_at hl 5 rfl) ?_
    refine lv_aload_n hx hb dX0_canSit_36 rfl (lv_at hl 0 rfl) ?_
    refine q_get X hK h 0 rfl rfl wf_0 0 (by decide) rfl wm_1_198 dX0_canSit_37 ?_
    refine lv_icmp_ge (tgt := 84) hx hb dX0_canSit_40 (by decide) (fun c_10 => ?_) (fun c_10 => ?_)
    · replace c_10 := i_le (x := p1) (y := v34_9_0) rfl rfl c_10
      refine lv_iconst (v := 0) hx hb dX0_canSit_84 (by decide) ?_
      exact q_iret X hr hlk hK h rfl (fun _ => 0, fun _ _ => 0, fun _ _ => 0) ⟨⟨by decide +kernel, by decide +kernel⟩, trivial⟩ [0, 1] rfl rfl dX0_canSit_85 (Nat.le_of_ble_eq_true rfl) (Nat.le_of_ble_eq_true rfl)
    · replace c_10 := i_nle (x := p1) (y := v34_9_0) rfl rfl c_10
      refine lv_iload hx hb dX0_canSit_43 (lv_at hl 4 rfl) ?_
      refine lv_iload hx hb dX0_canSit_45 (lv_at hl 5 rfl) ?_
      refine lv_ishr hx hb dX0_canSit_47 ?_
      obtain ⟨z_11, ez_11, hz_11⟩ := e_shr (x := z_5) v34_9_0 rfl (by omega)
      refine q_c z_11 ez_11 ?_
      clear ez_11
      refine lv_iconst (v := 1) hx hb dX0_canSit_48 (by decide) ?_
      refine lv_iand hx hb dX0_canSit_49 ?_
      obtain ⟨z_12, ez_12, hz_12⟩ := e_and2 (x := z_11) (y := 1) (show (1 : Int32).toInt = 1 by decide) (by omega)
      refine q_c z_12 ez_12 ?_
      clear ez_12
      refine lv_iconst (v := 1) hx hb dX0_canSit_50 (by decide) ?_
      refine q_jn (pc2 := 78) (fun H locs ls st => st = [] ∧ qW D (va_A (wk_61955d11b cy h0 p1 h1 w0 w1 h1 f0) sz) s.heap (wk_61955d11b cy h0 p1 h1 w0 w1 h1 f0) H locs ∧ lv_has ls 6 [(0, .ref h0), (1, .int p0), (2, .int 8), (3, .int r_2), (4, .int z_5), (5, .int v34_9_0)]) (fun H locs ls st hP => ?_) (fun J_78 => ?_)
      · obtain ⟨rfl, h, hl⟩ := hP
        obtain ⟨z_14, ez_14, hz_14⟩ := e_add (x := v34_9_0) (y := Int32.ofInt 1) rfl (b := 1) (by decide) (by omega) (by omega)
        refine lv_iinc (v := z_14) (lv' := [(5, .int z_14), (0, .ref h0), (1, .int p0), (2, .int 8), (3, .int r_2), (4, .int z_5)]) hx hb dX0_canSit_78 hl (k := 5) rfl ez_14 (by decide) rfl (fun ls_14 hl_14 => ?_)
        clear hl
        refine lv_goto (tgt := 34) hx hb dX0_canSit_81 (by decide) ?_
        exact ih_34 z_14 (by show (11 - (z_14).toInt).toNat < (11 - (v34_9_0).toInt).toNat; omega) _ _ _ ⟨⟨by omega, by omega⟩, h, (lv_sub hl_14 [1, 2, 3, 4, 5, 0] rfl)⟩
      · skip
        refine lv_icmp_ne (tgt := 78) hx hb dX0_canSit_51 (by decide) (fun c_15 => ?_) (fun c_15 => ?_)
        · replace c_15 := i_ne (x := z_12) (y := 1) rfl (show (1 : Int32).toInt = 1 by decide) c_15
          exact J_78 _ _ _ _ ⟨rfl, h, (lv_sub hl [0, 1, 2, 3, 4, 5] rfl)⟩
        · replace c_15 := i_eq (x := z_12) (y := 1) rfl (show (1 : Int32).toInt = 1 by decide) c_15
          refine lv_aload_n hx hb dX0_canSit_54 rfl (lv_at hl 0 rfl) ?_
          refine lv_iload_n hx hb dX0_canSit_55 rfl (lv_at hl 1 rfl) ?_
          refine lv_iconst (v := 1) hx hb dX0_canSit_56 (by decide) ?_
          refine lv_iload_n hx hb dX0_canSit_57 rfl (lv_at hl 3 rfl) ?_
          refine lv_ishl hx hb dX0_canSit_58 ?_
          obtain ⟨z_16, ez_16, hz_16⟩ := e_shlk (p := r_2) 9 (by decide) rfl (by omega) (by omega)
          refine q_c z_16 ez_16 ?_
          clear ez_16
          refine lv_iconst (v := 1) hx hb dX0_canSit_59 (by decide) ?_
          refine lv_iload hx hb dX0_canSit_60 (lv_at hl 5 rfl) ?_
          refine lv_ishl hx hb dX0_canSit_62 ?_
          obtain ⟨z_17, ez_17, hz_17⟩ := e_shlk (p := v34_9_0) 9 (by decide) rfl (by omega) (by omega)
          refine q_c z_17 ez_17 ?_
          clear ez_17
          refine lv_ior hx hb dX0_canSit_63 ?_
          obtain ⟨z_18, ez_18, hz_18⟩ := e_or (x := z_16) (y := z_17) 10 (by decide) rfl rfl (by omega) (by omega) (by omega) (by omega)
          refine q_c z_18 ez_18 ?_
          clear ez_18
          refine lv_iconst (v := (-1)) hx hb dX0_canSit_64 (by decide) ?_
          refine lv_ixor hx hb dX0_canSit_65 ?_
          refine q_any (fun z_19 hz_19 => ?_)
          refine lv_iand hx hb dX0_canSit_66 ?_
          obtain ⟨z_20, ez_20, hz_20⟩ := e_and1 (x := p0) (y := z_19) rfl (by omega)
          refine q_c z_20 ez_20 ?_
          clear ez_20
          refine lv_iload_n hx hb dX0_canSit_67 rfl (lv_at hl 2 rfl) ?_
          refine lv_iconst (v := 1) hx hb dX0_canSit_68 (by decide) ?_
          refine lv_iadd hx hb dX0_canSit_69 ?_
          refine q_c 9 (by decide +kernel) ?_
          refine q_callVi (rest := []) (wr := []) X hK hT hA h (fun sz => gX0_canSit_3c62cd5 l D cy h0 h1 z_20 p1 w0 w1 f0 ⟨by omega, by omega⟩ hp1 sz) wm_4_117 wm_4_112 wm_1_6 hd_X0_canSit wm_4_110 wm_4_111 (ci := 0) (q0 := 0) rfl rfl ⟨Nat.le_of_ble_eq_true rfl, Nat.le_of_ble_eq_true rfl⟩ hl.1 rfl (Nat.le_of_ble_eq_true rfl) dX0_canSit_70 ⟨Nat.le_of_ble_eq_true rfl, Nat.le_of_ble_eq_true rfl⟩ [0, 1] [] rfl rfl (by decide) rfl rfl (fun r_21 u_21 H locs w_21 h_21 => ?_)
          clear h
          obtain ⟨wr_21, _⟩ := w_21
          replace h_21 : qW D _ _ (wk_61955d11b cy h0 p1 h1 w0 w1 h1 f0) _ _ := h_21
          refine lv_if_eq (tgt := 78) hx hb dX0_canSit_73 (by decide) (fun c_22 => ?_) (fun c_22 => ?_)
          · replace c_22 := i_eq (x := r_21) (y := 0) rfl (show (0 : Int32).toInt = 0 by decide) c_22
            exact J_78 _ _ _ _ ⟨rfl, h_21, (lv_sub hl [0, 1, 2, 3, 4, 5] rfl)⟩
          · replace c_22 := i_ne (x := r_21) (y := 0) rfl (show (0 : Int32).toInt = 0 by decide) c_22
            refine lv_iconst (v := 1) hx hb dX0_canSit_76 (by decide) ?_
            exact q_iret X hr hlk hK h_21 rfl (fun _ => 0, fun _ _ => 0, fun _ _ => 0) ⟨⟨by decide +kernel, by decide +kernel⟩, trivial⟩ [0, 1] rfl rfl dX0_canSit_77 (Nat.le_of_ble_eq_true rfl) (Nat.le_of_ble_eq_true rfl)
  · replace c_1 := i_eq (x := p0) (y := 0) rfl (show (0 : Int32).toInt = 0 by decide) c_1
    refine lv_iconst (v := 1) hx hb dX0_canSit_4 (by decide) ?_
    exact q_iret X hr hlk hK h rfl (fun _ => 0, fun _ _ => 0, fun _ _ => 0) ⟨⟨by decide +kernel, by decide +kernel⟩, trivial⟩ [0, 1] rfl rfl dX0_canSit_5 (Nat.le_of_ble_eq_true rfl) (Nat.le_of_ble_eq_true rfl)
set_option maxHeartbeats 4000000 in
set_option maxRecDepth 100000 in
theorem gX0_canSit_1864e05 (l : Launch) (D : va_G) (cy : Nat → ClassId) (h0 : Nat) (h1 : Nat) (p0 : Int32) (p1 : Int32) (w0 : Value) (w1 : Value) (f0 : Nat → Int32) (hp0 : 0 ≤ (p0).toInt ∧ (p0).toInt ≤ 1023) (hp1 : 2 ≤ (p1).toInt ∧ (p1).toInt ≤ 10) (sz : Nat) : MI l yX0_canSit cX0_canSit 6 .boolean { frames := 4, cells := 0, slots := 0, locals := 90 } [.ref h0, .int p0, .int 7] D cy (wk_61955d11b cy h0 p1 h1 w0 w1 h1 f0) sz (fun r u => (0 ≤ r.toInt ∧ r.toInt ≤ 1) ∧ True) (fun u => (wk_61955d11b cy h0 p1 h1 w0 w1 h1 f0)) 0 0 := by
  refine q_ent (own := RX0) (by decide) rfl (Nat.le_of_ble_eq_true rfl) (fun p e s m below meth c ls X hr hlk hnm hK hT h hA hl => ?_)
  obtain ⟨hx, hb, hml, hown, ht⟩ := id X
  replace hl : lv_has ls 6 [(0, .ref h0), (1, .int p0), (2, .int 7)] := hl
  refine lv_iload_n hx hb dX0_canSit_0 rfl (lv_at hl 1 rfl) ?_
  refine lv_if_ne (tgt := 6) hx hb dX0_canSit_1 (by decide) (fun c_1 => ?_) (fun c_1 => ?_)
  · replace c_1 := i_ne (x := p0) (y := 0) rfl (show (0 : Int32).toInt = 0 by decide) c_1
    refine lv_iload_n hx hb dX0_canSit_6 rfl (lv_at hl 2 rfl) ?_
    refine lv_bipush (v := 10) hx hb dX0_canSit_7 (by decide) ?_
    refine lv_icmp_lt (tgt := 14) hx hb dX0_canSit_9 (by decide) (fun _ => ?_) (fun c => absurd c (by decide +kernel))
    refine lv_iload_n hx hb dX0_canSit_14 rfl (lv_at hl 1 rfl) ?_
    refine q_callSi (rest := []) (wr := (wk_61955d11b cy h0 p1 h1 w0 w1 h1 f0)) X hK hT hA h (fun sz => gX0_lowestOf_af0d02d l D cy p0 ⟨by omega, by omega⟩ sz) wm_4_113 wm_4_115 wm_1_6 hd_X0_lowestOf wm_4_114 ⟨Nat.le_of_ble_eq_true rfl, Nat.le_of_ble_eq_true rfl⟩ hl.1 rfl (Nat.le_of_ble_eq_true rfl) dX0_canSit_15 ⟨Nat.le_of_ble_eq_true rfl, Nat.le_of_ble_eq_true rfl⟩ [] [0, 1] rfl rfl (by decide) rfl rfl (fun r_2 u_2 H locs w_2 h_2 => ?_)
    clear h
    obtain ⟨wr_2, _⟩ := w_2
    replace h_2 : qW D _ _ (wk_61955d11b cy h0 p1 h1 w0 w1 h1 f0) _ _ := h_2
    refine lv_istore_n (lv' := [(3, .int r_2), (0, .ref h0), (1, .int p0), (2, .int 7)]) hx hb dX0_canSit_18 rfl hl (by decide) rfl (fun ls_3 hl_3 => ?_)
    clear hl
    refine lv_aload_n hx hb dX0_canSit_19 rfl (lv_at hl_3 1 rfl) ?_
    refine q_get X hK h_2 0 rfl rfl wf_0 1 (by decide) rfl wm_1_199 dX0_canSit_20 ?_
    refine lv_iload_n hx hb dX0_canSit_23 rfl (lv_at hl_3 0 rfl) ?_
    refine q_iald X hK h_2 1 rfl (i_in rfl (by omega) (by omega)) dX0_canSit_24 ?_
    refine q_any (fun z_4 hz_4 => ?_)
    refine lv_iload_n hx hb dX0_canSit_25 rfl (lv_at hl_3 2 rfl) ?_
    refine lv_iand hx hb dX0_canSit_26 ?_
    obtain ⟨z_5, ez_5, hz_5⟩ := e_and2 (x := z_4) (y := p0) rfl (by omega)
    refine q_c z_5 ez_5 ?_
    clear ez_5
    refine lv_istore (lv' := [(4, .int z_5), (3, .int r_2), (0, .ref h0), (1, .int p0), (2, .int 7)]) hx hb dX0_canSit_27 hl_3 (by decide) rfl (fun ls_6 hl_6 => ?_)
    clear hl_3
    refine lv_iload_n hx hb dX0_canSit_29 rfl (lv_at hl_6 1 rfl) ?_
    refine lv_iconst (v := 1) hx hb dX0_canSit_30 (by decide) ?_
    refine lv_iadd hx hb dX0_canSit_31 ?_
    obtain ⟨z_7, ez_7, hz_7⟩ := e_add (x := r_2) (y := 1) rfl (show (1 : Int32).toInt = 1 by decide) (by omega) (by omega)
    refine q_c z_7 ez_7 ?_
    clear ez_7
    refine lv_istore (lv' := [(5, .int z_7), (4, .int z_5), (3, .int r_2), (0, .ref h0), (1, .int p0), (2, .int 7)]) hx hb dX0_canSit_32 hl_6 (by decide) rfl (fun ls_8 hl_8 => ?_)
    clear hl_6
    refine q_wl (fun (v34_9_0 : Int32) H locs ls => (1 ≤ (v34_9_0).toInt ∧ (v34_9_0).toInt ≤ 10) ∧ qW D (va_A (wk_61955d11b cy h0 p1 h1 w0 w1 h1 f0) sz) s.heap (wk_61955d11b cy h0 p1 h1 w0 w1 h1 f0) H locs ∧ lv_has ls 6 [(0, .ref h0), (1, .int p0), (2, .int 7), (3, .int r_2), (4, .int z_5), (5, .int v34_9_0)]) (fun (v34_9_0 : Int32) => (11 - (v34_9_0).toInt).toNat) (fun q_34 ih_34 H locs ls hP => ?_) z_7 ⟨⟨by omega, by omega⟩, h_2, (lv_sub hl_8 [3, 4, 5, 2, 1, 0] rfl)⟩
    obtain ⟨v34_9_0, rfl⟩ : ∃ z, z = q_34 := ⟨_, rfl⟩
    obtain ⟨hv34_9_0, h, hl⟩ := hP
    refine lv_iload hx hb dX0_canSit_34 (lv_at hl 5 rfl) ?_
    refine lv_aload_n hx hb dX0_canSit_36 rfl (lv_at hl 0 rfl) ?_
    refine q_get X hK h 0 rfl rfl wf_0 0 (by decide) rfl wm_1_198 dX0_canSit_37 ?_
    refine lv_icmp_ge (tgt := 84) hx hb dX0_canSit_40 (by decide) (fun c_10 => ?_) (fun c_10 => ?_)
    · replace c_10 := i_le (x := p1) (y := v34_9_0) rfl rfl c_10
      refine lv_iconst (v := 0) hx hb dX0_canSit_84 (by decide) ?_
      exact q_iret X hr hlk hK h rfl (fun _ => 0, fun _ _ => 0, fun _ _ => 0) ⟨⟨by decide +kernel, by decide +kernel⟩, trivial⟩ [0, 1] rfl rfl dX0_canSit_85 (Nat.le_of_ble_eq_true rfl) (Nat.le_of_ble_eq_true rfl)
    · replace c_10 := i_nle (x := p1) (y := v34_9_0) rfl rfl c_10
      refine lv_iload hx hb dX0_canSit_43 (lv_at hl 4 rfl) ?_
      refine lv_iload hx hb dX0_canSit_45 (lv_at hl 5 rfl) ?_
      refine lv_ishr hx hb dX0_canSit_47 ?_
      obtain ⟨z_11, ez_11, hz_11⟩ := e_shr (x := z_5) v34_9_0 rfl (by omega)
      refine q_c z_11 ez_11 ?_
      clear ez_11
      refine lv_iconst (v := 1) hx hb dX0_canSit_48 (by decide) ?_
      refine lv_iand hx hb dX0_canSit_49 ?_
      obtain ⟨z_12, ez_12, hz_12⟩ := e_and2 (x := z_11) (y := 1) (show (1 : Int32).toInt = 1 by decide) (by omega)
      refine q_c z_12 ez_12 ?_
      clear ez_12
      refine lv_iconst (v := 1) hx hb dX0_canSit_50 (by decide) ?_
      refine q_jn (pc2 := 78) (fun H locs ls st => st = [] ∧ qW D (va_A (wk_61955d11b cy h0 p1 h1 w0 w1 h1 f0) sz) s.heap (wk_61955d11b cy h0 p1 h1 w0 w1 h1 f0) H locs ∧ lv_has ls 6 [(0, .ref h0), (1, .int p0), (2, .int 7), (3, .int r_2), (4, .int z_5), (5, .int v34_9_0)]) (fun H locs ls st hP => ?_) (fun J_78 => ?_)
      · obtain ⟨rfl, h, hl⟩ := hP
        obtain ⟨z_14, ez_14, hz_14⟩ := e_add (x := v34_9_0) (y := Int32.ofInt 1) rfl (b := 1) (by decide) (by omega) (by omega)
        refine lv_iinc (v := z_14) (lv' := [(5, .int z_14), (0, .ref h0), (1, .int p0), (2, .int 7), (3, .int r_2), (4, .int z_5)]) hx hb dX0_canSit_78 hl (k := 5) rfl ez_14 (by decide) rfl (fun ls_14 hl_14 => ?_)
        clear hl
        refine lv_goto (tgt := 34) hx hb dX0_canSit_81 (by decide) ?_
        exact ih_34 z_14 (by show (11 - (z_14).toInt).toNat < (11 - (v34_9_0).toInt).toNat; omega) _ _ _ ⟨⟨by omega, by omega⟩, h, (lv_sub hl_14 [1, 2, 3, 4, 5, 0] rfl)⟩
      · skip
        refine lv_icmp_ne (tgt := 78) hx hb dX0_canSit_51 (by decide) (fun c_15 => ?_) (fun c_15 => ?_)
        · replace c_15 := i_ne (x := z_12) (y := 1) rfl (show (1 : Int32).toInt = 1 by decide) c_15
          exact J_78 _ _ _ _ ⟨rfl, h, (lv_sub hl [0, 1, 2, 3, 4, 5] rfl)⟩
        · replace c_15 := i_eq (x := z_12) (y := 1) rfl (show (1 : Int32).toInt = 1 by decide) c_15
          refine lv_aload_n hx hb dX0_canSit_54 rfl (lv_at hl 0 rfl) ?_
          refine lv_iload_n hx hb dX0_canSit_55 rfl (lv_at hl 1 rfl) ?_
          refine lv_iconst (v := 1) hx hb dX0_canSit_56 (by decide) ?_
          refine lv_iload_n hx hb dX0_canSit_57 rfl (lv_at hl 3 rfl) ?_
          refine lv_ishl hx hb dX0_canSit_58 ?_
          obtain ⟨z_16, ez_16, hz_16⟩ := e_shlk (p := r_2) 9 (by decide) rfl (by omega) (by omega)
          refine q_c z_16 ez_16 ?_
          clear ez_16
          refine lv_iconst (v := 1) hx hb dX0_canSit_59 (by decide) ?_
          refine lv_iload hx hb dX0_canSit_60 (lv_at hl 5 rfl) ?_
          refine lv_ishl hx hb dX0_canSit_62 ?_
          obtain ⟨z_17, ez_17, hz_17⟩ := e_shlk (p := v34_9_0) 9 (by decide) rfl (by omega) (by omega)
          refine q_c z_17 ez_17 ?_
          clear ez_17
          refine lv_ior hx hb dX0_canSit_63 ?_
          obtain ⟨z_18, ez_18, hz_18⟩ := e_or (x := z_16) (y := z_17) 10 (by decide) rfl rfl (by omega) (by omega) (by omega) (by omega)
          refine q_c z_18 ez_18 ?_
          clear ez_18
          refine lv_iconst (v := (-1)) hx hb dX0_canSit_64 (by decide) ?_
          refine lv_ixor hx hb dX0_canSit_65 ?_
          refine q_any (fun z_19 hz_19 => ?_)
          refine lv_iand hx hb dX0_canSit_66 ?_
          obtain ⟨z_20, ez_20, hz_20⟩ := e_and1 (x := p0) (y := z_19) rfl (by omega)
          refine q_c z_20 ez_20 ?_
          clear ez_20
          refine lv_iload_n hx hb dX0_canSit_67 rfl (lv_at hl 2 rfl) ?_
          refine lv_iconst (v := 1) hx hb dX0_canSit_68 (by decide) ?_
          refine lv_iadd hx hb dX0_canSit_69 ?_
          refine q_c 8 (by decide +kernel) ?_
          refine q_callVi (rest := []) (wr := []) X hK hT hA h (fun sz => gX0_canSit_b0edb97 l D cy h0 h1 z_20 p1 w0 w1 f0 ⟨by omega, by omega⟩ hp1 sz) wm_4_117 wm_4_112 wm_1_6 hd_X0_canSit wm_4_110 wm_4_111 (ci := 0) (q0 := 0) rfl rfl ⟨Nat.le_of_ble_eq_true rfl, Nat.le_of_ble_eq_true rfl⟩ hl.1 rfl (Nat.le_of_ble_eq_true rfl) dX0_canSit_70 ⟨Nat.le_of_ble_eq_true rfl, Nat.le_of_ble_eq_true rfl⟩ [0, 1] [] rfl rfl (by decide) rfl rfl (fun r_21 u_21 H locs w_21 h_21 => ?_)
          clear h
          obtain ⟨wr_21, _⟩ := w_21
          replace h_21 : qW D _ _ (wk_61955d11b cy h0 p1 h1 w0 w1 h1 f0) _ _ := h_21
          refine lv_if_eq (tgt := 78) hx hb dX0_canSit_73 (by decide) (fun c_22 => ?_) (fun c_22 => ?_)
          · replace c_22 := i_eq (x := r_21) (y := 0) rfl (show (0 : Int32).toInt = 0 by decide) c_22
            exact J_78 _ _ _ _ ⟨rfl, h_21, (lv_sub hl [0, 1, 2, 3, 4, 5] rfl)⟩
          · replace c_22 := i_ne (x := r_21) (y := 0) rfl (show (0 : Int32).toInt = 0 by decide) c_22
            refine lv_iconst (v := 1) hx hb dX0_canSit_76 (by decide) ?_
            exact q_iret X hr hlk hK h_21 rfl (fun _ => 0, fun _ _ => 0, fun _ _ => 0) ⟨⟨by decide +kernel, by decide +kernel⟩, trivial⟩ [0, 1] rfl rfl dX0_canSit_77 (Nat.le_of_ble_eq_true rfl) (Nat.le_of_ble_eq_true rfl)
  · replace c_1 := i_eq (x := p0) (y := 0) rfl (show (0 : Int32).toInt = 0 by decide) c_1
    refine lv_iconst (v := 1) hx hb dX0_canSit_4 (by decide) ?_
    exact q_iret X hr hlk hK h rfl (fun _ => 0, fun _ _ => 0, fun _ _ => 0) ⟨⟨by decide +kernel, by decide +kernel⟩, trivial⟩ [0, 1] rfl rfl dX0_canSit_5 (Nat.le_of_ble_eq_true rfl) (Nat.le_of_ble_eq_true rfl)
set_option maxHeartbeats 4000000 in
set_option maxRecDepth 100000 in
theorem gX0_canSit_642cf7d (l : Launch) (D : va_G) (cy : Nat → ClassId) (h0 : Nat) (h1 : Nat) (p0 : Int32) (p1 : Int32) (w0 : Value) (w1 : Value) (f0 : Nat → Int32) (hp0 : 0 ≤ (p0).toInt ∧ (p0).toInt ≤ 1023) (hp1 : 2 ≤ (p1).toInt ∧ (p1).toInt ≤ 10) (sz : Nat) : MI l yX0_canSit cX0_canSit 6 .boolean { frames := 5, cells := 0, slots := 0, locals := 115 } [.ref h0, .int p0, .int 6] D cy (wk_61955d11b cy h0 p1 h1 w0 w1 h1 f0) sz (fun r u => (0 ≤ r.toInt ∧ r.toInt ≤ 1) ∧ True) (fun u => (wk_61955d11b cy h0 p1 h1 w0 w1 h1 f0)) 0 0 := by
  refine q_ent (own := RX0) (by decide) rfl (Nat.le_of_ble_eq_true rfl) (fun p e s m below meth c ls X hr hlk hnm hK hT h hA hl => ?_)
  obtain ⟨hx, hb, hml, hown, ht⟩ := id X
  replace hl : lv_has ls 6 [(0, .ref h0), (1, .int p0), (2, .int 6)] := hl
  refine lv_iload_n hx hb dX0_canSit_0 rfl (lv_at hl 1 rfl) ?_
  refine lv_if_ne (tgt := 6) hx hb dX0_canSit_1 (by decide) (fun c_1 => ?_) (fun c_1 => ?_)
  · replace c_1 := i_ne (x := p0) (y := 0) rfl (show (0 : Int32).toInt = 0 by decide) c_1
    refine lv_iload_n hx hb dX0_canSit_6 rfl (lv_at hl 2 rfl) ?_
    refine lv_bipush (v := 10) hx hb dX0_canSit_7 (by decide) ?_
    refine lv_icmp_lt (tgt := 14) hx hb dX0_canSit_9 (by decide) (fun _ => ?_) (fun c => absurd c (by decide +kernel))
    refine lv_iload_n hx hb dX0_canSit_14 rfl (lv_at hl 1 rfl) ?_
    refine q_callSi (rest := []) (wr := (wk_61955d11b cy h0 p1 h1 w0 w1 h1 f0)) X hK hT hA h (fun sz => gX0_lowestOf_af0d02d l D cy p0 ⟨by omega, by omega⟩ sz) wm_4_113 wm_4_115 wm_1_6 hd_X0_lowestOf wm_4_114 ⟨Nat.le_of_ble_eq_true rfl, Nat.le_of_ble_eq_true rfl⟩ hl.1 rfl (Nat.le_of_ble_eq_true rfl) dX0_canSit_15 ⟨Nat.le_of_ble_eq_true rfl, Nat.le_of_ble_eq_true rfl⟩ [] [0, 1] rfl rfl (by decide) rfl rfl (fun r_2 u_2 H locs w_2 h_2 => ?_)
    clear h
    obtain ⟨wr_2, _⟩ := w_2
    replace h_2 : qW D _ _ (wk_61955d11b cy h0 p1 h1 w0 w1 h1 f0) _ _ := h_2
    refine lv_istore_n (lv' := [(3, .int r_2), (0, .ref h0), (1, .int p0), (2, .int 6)]) hx hb dX0_canSit_18 rfl hl (by decide) rfl (fun ls_3 hl_3 => ?_)
    clear hl
    refine lv_aload_n hx hb dX0_canSit_19 rfl (lv_at hl_3 1 rfl) ?_
    refine q_get X hK h_2 0 rfl rfl wf_0 1 (by decide) rfl wm_1_199 dX0_canSit_20 ?_
    refine lv_iload_n hx hb dX0_canSit_23 rfl (lv_at hl_3 0 rfl) ?_
    refine q_iald X hK h_2 1 rfl (i_in rfl (by omega) (by omega)) dX0_canSit_24 ?_
    refine q_any (fun z_4 hz_4 => ?_)
    refine lv_iload_n hx hb dX0_canSit_25 rfl (lv_at hl_3 2 rfl) ?_
    refine lv_iand hx hb dX0_canSit_26 ?_
    obtain ⟨z_5, ez_5, hz_5⟩ := e_and2 (x := z_4) (y := p0) rfl (by omega)
    refine q_c z_5 ez_5 ?_
    clear ez_5
    refine lv_istore (lv' := [(4, .int z_5), (3, .int r_2), (0, .ref h0), (1, .int p0), (2, .int 6)]) hx hb dX0_canSit_27 hl_3 (by decide) rfl (fun ls_6 hl_6 => ?_)
    clear hl_3
    refine lv_iload_n hx hb dX0_canSit_29 rfl (lv_at hl_6 1 rfl) ?_
    refine lv_iconst (v := 1) hx hb dX0_canSit_30 (by decide) ?_
    refine lv_iadd hx hb dX0_canSit_31 ?_
    obtain ⟨z_7, ez_7, hz_7⟩ := e_add (x := r_2) (y := 1) rfl (show (1 : Int32).toInt = 1 by decide) (by omega) (by omega)
    refine q_c z_7 ez_7 ?_
    clear ez_7
    refine lv_istore (lv' := [(5, .int z_7), (4, .int z_5), (3, .int r_2), (0, .ref h0), (1, .int p0), (2, .int 6)]) hx hb dX0_canSit_32 hl_6 (by decide) rfl (fun ls_8 hl_8 => ?_)
    clear hl_6
    refine q_wl (fun (v34_9_0 : Int32) H locs ls => (1 ≤ (v34_9_0).toInt ∧ (v34_9_0).toInt ≤ 10) ∧ qW D (va_A (wk_61955d11b cy h0 p1 h1 w0 w1 h1 f0) sz) s.heap (wk_61955d11b cy h0 p1 h1 w0 w1 h1 f0) H locs ∧ lv_has ls 6 [(0, .ref h0), (1, .int p0), (2, .int 6), (3, .int r_2), (4, .int z_5), (5, .int v34_9_0)]) (fun (v34_9_0 : Int32) => (11 - (v34_9_0).toInt).toNat) (fun q_34 ih_34 H locs ls hP => ?_) z_7 ⟨⟨by omega, by omega⟩, h_2, (lv_sub hl_8 [3, 4, 5, 2, 1, 0] rfl)⟩
    obtain ⟨v34_9_0, rfl⟩ : ∃ z, z = q_34 := ⟨_, rfl⟩
    obtain ⟨hv34_9_0, h, hl⟩ := hP
    refine lv_iload hx hb dX0_canSit_34 (lv_at hl 5 rfl) ?_
    refine lv_aload_n hx hb dX0_canSit_36 rfl (lv_at hl 0 rfl) ?_
    refine q_get X hK h 0 rfl rfl wf_0 0 (by decide) rfl wm_1_198 dX0_canSit_37 ?_
    refine lv_icmp_ge (tgt := 84) hx hb dX0_canSit_40 (by decide) (fun c_10 => ?_) (fun c_10 => ?_)
    · replace c_10 := i_le (x := p1) (y := v34_9_0) rfl rfl c_10
      refine lv_iconst (v := 0) hx hb dX0_canSit_84 (by decide) ?_
      exact q_iret X hr hlk hK h rfl (fun _ => 0, fun _ _ => 0, fun _ _ => 0) ⟨⟨by decide +kernel, by decide +kernel⟩, trivial⟩ [0, 1] rfl rfl dX0_canSit_85 (Nat.le_of_ble_eq_true rfl) (Nat.le_of_ble_eq_true rfl)
    · replace c_10 := i_nle (x := p1) (y := v34_9_0) rfl rfl c_10
      refine lv_iload hx hb dX0_canSit_43 (lv_at hl 4 rfl) ?_
      refine lv_iload hx hb dX0_canSit_45 (lv_at hl 5 rfl) ?_
      refine lv_ishr hx hb dX0_canSit_47 ?_
      obtain ⟨z_11, ez_11, hz_11⟩ := e_shr (x := z_5) v34_9_0 rfl (by omega)
      refine q_c z_11 ez_11 ?_
      clear ez_11
      refine lv_iconst (v := 1) hx hb dX0_canSit_48 (by decide) ?_
      refine lv_iand hx hb dX0_canSit_49 ?_
      obtain ⟨z_12, ez_12, hz_12⟩ := e_and2 (x := z_11) (y := 1) (show (1 : Int32).toInt = 1 by decide) (by omega)
      refine q_c z_12 ez_12 ?_
      clear ez_12
      refine lv_iconst (v := 1) hx hb dX0_canSit_50 (by decide) ?_
      refine q_jn (pc2 := 78) (fun H locs ls st => st = [] ∧ qW D (va_A (wk_61955d11b cy h0 p1 h1 w0 w1 h1 f0) sz) s.heap (wk_61955d11b cy h0 p1 h1 w0 w1 h1 f0) H locs ∧ lv_has ls 6 [(0, .ref h0), (1, .int p0), (2, .int 6), (3, .int r_2), (4, .int z_5), (5, .int v34_9_0)]) (fun H locs ls st hP => ?_) (fun J_78 => ?_)
      · obtain ⟨rfl, h, hl⟩ := hP
        obtain ⟨z_14, ez_14, hz_14⟩ := e_add (x := v34_9_0) (y := Int32.ofInt 1) rfl (b := 1) (by decide) (by omega) (by omega)
        refine lv_iinc (v := z_14) (lv' := [(5, .int z_14), (0, .ref h0), (1, .int p0), (2, .int 6), (3, .int r_2), (4, .int z_5)]) hx hb dX0_canSit_78 hl (k := 5) rfl ez_14 (by decide) rfl (fun ls_14 hl_14 => ?_)
        clear hl
        refine lv_goto (tgt := 34) hx hb dX0_canSit_81 (by decide) ?_
        exact ih_34 z_14 (by show (11 - (z_14).toInt).toNat < (11 - (v34_9_0).toInt).toNat; omega) _ _ _ ⟨⟨by omega, by omega⟩, h, (lv_sub hl_14 [1, 2, 3, 4, 5, 0] rfl)⟩
      · skip
        refine lv_icmp_ne (tgt := 78) hx hb dX0_canSit_51 (by decide) (fun c_15 => ?_) (fun c_15 => ?_)
        · replace c_15 := i_ne (x := z_12) (y := 1) rfl (show (1 : Int32).toInt = 1 by decide) c_15
          exact J_78 _ _ _ _ ⟨rfl, h, (lv_sub hl [0, 1, 2, 3, 4, 5] rfl)⟩
        · replace c_15 := i_eq (x := z_12) (y := 1) rfl (show (1 : Int32).toInt = 1 by decide) c_15
          refine lv_aload_n hx hb dX0_canSit_54 rfl (lv_at hl 0 rfl) ?_
          refine lv_iload_n hx hb dX0_canSit_55 rfl (lv_at hl 1 rfl) ?_
          refine lv_iconst (v := 1) hx hb dX0_canSit_56 (by decide) ?_
          refine lv_iload_n hx hb dX0_canSit_57 rfl (lv_at hl 3 rfl) ?_
          refine lv_ishl hx hb dX0_canSit_58 ?_
          obtain ⟨z_16, ez_16, hz_16⟩ := e_shlk (p := r_2) 9 (by decide) rfl (by omega) (by omega)
          refine q_c z_16 ez_16 ?_
          clear ez_16
          refine lv_iconst (v := 1) hx hb dX0_canSit_59 (by decide) ?_
          refine lv_iload hx hb dX0_canSit_60 (lv_at hl 5 rfl) ?_
          refine lv_ishl hx hb dX0_canSit_62 ?_
          obtain ⟨z_17, ez_17, hz_17⟩ := e_shlk (p := v34_9_0) 9 (by decide) rfl (by omega) (by omega)
          refine q_c z_17 ez_17 ?_
          clear ez_17
          refine lv_ior hx hb dX0_canSit_63 ?_
          obtain ⟨z_18, ez_18, hz_18⟩ := e_or (x := z_16) (y := z_17) 10 (by decide) rfl rfl (by omega) (by omega) (by omega) (by omega)
          refine q_c z_18 ez_18 ?_
          clear ez_18
          refine lv_iconst (v := (-1)) hx hb dX0_canSit_64 (by decide) ?_
          refine lv_ixor hx hb dX0_canSit_65 ?_
          refine q_any (fun z_19 hz_19 => ?_)
          refine lv_iand hx hb dX0_canSit_66 ?_
          obtain ⟨z_20, ez_20, hz_20⟩ := e_and1 (x := p0) (y := z_19) rfl (by omega)
          refine q_c z_20 ez_20 ?_
          clear ez_20
          refine lv_iload_n hx hb dX0_canSit_67 rfl (lv_at hl 2 rfl) ?_
          refine lv_iconst (v := 1) hx hb dX0_canSit_68 (by decide) ?_
          refine lv_iadd hx hb dX0_canSit_69 ?_
          refine q_c 7 (by decide +kernel) ?_
          refine q_callVi (rest := []) (wr := []) X hK hT hA h (fun sz => gX0_canSit_1864e05 l D cy h0 h1 z_20 p1 w0 w1 f0 ⟨by omega, by omega⟩ hp1 sz) wm_4_117 wm_4_112 wm_1_6 hd_X0_canSit wm_4_110 wm_4_111 (ci := 0) (q0 := 0) rfl rfl ⟨Nat.le_of_ble_eq_true rfl, Nat.le_of_ble_eq_true rfl⟩ hl.1 rfl (Nat.le_of_ble_eq_true rfl) dX0_canSit_70 ⟨Nat.le_of_ble_eq_true rfl, Nat.le_of_ble_eq_true rfl⟩ [0, 1] [] rfl rfl (by decide) rfl rfl (fun r_21 u_21 H locs w_21 h_21 => ?_)
          clear h
          obtain ⟨wr_21, _⟩ := w_21
          replace h_21 : qW D _ _ (wk_61955d11b cy h0 p1 h1 w0 w1 h1 f0) _ _ := h_21
          refine lv_if_eq (tgt := 78) hx hb dX0_canSit_73 (by decide) (fun c_22 => ?_) (fun c_22 => ?_)
          · replace c_22 := i_eq (x := r_21) (y := 0) rfl (show (0 : Int32).toInt = 0 by decide) c_22
            exact J_78 _ _ _ _ ⟨rfl, h_21, (lv_sub hl [0, 1, 2, 3, 4, 5] rfl)⟩
          · replace c_22 := i_ne (x := r_21) (y := 0) rfl (show (0 : Int32).toInt = 0 by decide) c_22
            refine lv_iconst (v := 1) hx hb dX0_canSit_76 (by decide) ?_
            exact q_iret X hr hlk hK h_21 rfl (fun _ => 0, fun _ _ => 0, fun _ _ => 0) ⟨⟨by decide +kernel, by decide +kernel⟩, trivial⟩ [0, 1] rfl rfl dX0_canSit_77 (Nat.le_of_ble_eq_true rfl) (Nat.le_of_ble_eq_true rfl)
  · replace c_1 := i_eq (x := p0) (y := 0) rfl (show (0 : Int32).toInt = 0 by decide) c_1
    refine lv_iconst (v := 1) hx hb dX0_canSit_4 (by decide) ?_
    exact q_iret X hr hlk hK h rfl (fun _ => 0, fun _ _ => 0, fun _ _ => 0) ⟨⟨by decide +kernel, by decide +kernel⟩, trivial⟩ [0, 1] rfl rfl dX0_canSit_5 (Nat.le_of_ble_eq_true rfl) (Nat.le_of_ble_eq_true rfl)
set_option maxHeartbeats 4000000 in
set_option maxRecDepth 100000 in
theorem gX0_canSit_b7946c3 (l : Launch) (D : va_G) (cy : Nat → ClassId) (h0 : Nat) (h1 : Nat) (p0 : Int32) (p1 : Int32) (w0 : Value) (w1 : Value) (f0 : Nat → Int32) (hp0 : 0 ≤ (p0).toInt ∧ (p0).toInt ≤ 1023) (hp1 : 2 ≤ (p1).toInt ∧ (p1).toInt ≤ 10) (sz : Nat) : MI l yX0_canSit cX0_canSit 6 .boolean { frames := 6, cells := 0, slots := 0, locals := 140 } [.ref h0, .int p0, .int 5] D cy (wk_61955d11b cy h0 p1 h1 w0 w1 h1 f0) sz (fun r u => (0 ≤ r.toInt ∧ r.toInt ≤ 1) ∧ True) (fun u => (wk_61955d11b cy h0 p1 h1 w0 w1 h1 f0)) 0 0 := by
  refine q_ent (own := RX0) (by decide) rfl (Nat.le_of_ble_eq_true rfl) (fun p e s m below meth c ls X hr hlk hnm hK hT h hA hl => ?_)
  obtain ⟨hx, hb, hml, hown, ht⟩ := id X
  replace hl : lv_has ls 6 [(0, .ref h0), (1, .int p0), (2, .int 5)] := hl
  refine lv_iload_n hx hb dX0_canSit_0 rfl (lv_at hl 1 rfl) ?_
  refine lv_if_ne (tgt := 6) hx hb dX0_canSit_1 (by decide) (fun c_1 => ?_) (fun c_1 => ?_)
  · replace c_1 := i_ne (x := p0) (y := 0) rfl (show (0 : Int32).toInt = 0 by decide) c_1
    refine lv_iload_n hx hb dX0_canSit_6 rfl (lv_at hl 2 rfl) ?_
    refine lv_bipush (v := 10) hx hb dX0_canSit_7 (by decide) ?_
    refine lv_icmp_lt (tgt := 14) hx hb dX0_canSit_9 (by decide) (fun _ => ?_) (fun c => absurd c (by decide +kernel))
    refine lv_iload_n hx hb dX0_canSit_14 rfl (lv_at hl 1 rfl) ?_
    refine q_callSi (rest := []) (wr := (wk_61955d11b cy h0 p1 h1 w0 w1 h1 f0)) X hK hT hA h (fun sz => gX0_lowestOf_af0d02d l D cy p0 ⟨by omega, by omega⟩ sz) wm_4_113 wm_4_115 wm_1_6 hd_X0_lowestOf wm_4_114 ⟨Nat.le_of_ble_eq_true rfl, Nat.le_of_ble_eq_true rfl⟩ hl.1 rfl (Nat.le_of_ble_eq_true rfl) dX0_canSit_15 ⟨Nat.le_of_ble_eq_true rfl, Nat.le_of_ble_eq_true rfl⟩ [] [0, 1] rfl rfl (by decide) rfl rfl (fun r_2 u_2 H locs w_2 h_2 => ?_)
    clear h
    obtain ⟨wr_2, _⟩ := w_2
    replace h_2 : qW D _ _ (wk_61955d11b cy h0 p1 h1 w0 w1 h1 f0) _ _ := h_2
    refine lv_istore_n (lv' := [(3, .int r_2), (0, .ref h0), (1, .int p0), (2, .int 5)]) hx hb dX0_canSit_18 rfl hl (by decide) rfl (fun ls_3 hl_3 => ?_)
    clear hl
    refine lv_aload_n hx hb dX0_canSit_19 rfl (lv_at hl_3 1 rfl) ?_
    refine q_get X hK h_2 0 rfl rfl wf_0 1 (by decide) rfl wm_1_199 dX0_canSit_20 ?_
    refine lv_iload_n hx hb dX0_canSit_23 rfl (lv_at hl_3 0 rfl) ?_
    refine q_iald X hK h_2 1 rfl (i_in rfl (by omega) (by omega)) dX0_canSit_24 ?_
    refine q_any (fun z_4 hz_4 => ?_)
    refine lv_iload_n hx hb dX0_canSit_25 rfl (lv_at hl_3 2 rfl) ?_
    refine lv_iand hx hb dX0_canSit_26 ?_
    obtain ⟨z_5, ez_5, hz_5⟩ := e_and2 (x := z_4) (y := p0) rfl (by omega)
    refine q_c z_5 ez_5 ?_
    clear ez_5
    refine lv_istore (lv' := [(4, .int z_5), (3, .int r_2), (0, .ref h0), (1, .int p0), (2, .int 5)]) hx hb dX0_canSit_27 hl_3 (by decide) rfl (fun ls_6 hl_6 => ?_)
    clear hl_3
    refine lv_iload_n hx hb dX0_canSit_29 rfl (lv_at hl_6 1 rfl) ?_
    refine lv_iconst (v := 1) hx hb dX0_canSit_30 (by decide) ?_
    refine lv_iadd hx hb dX0_canSit_31 ?_
    obtain ⟨z_7, ez_7, hz_7⟩ := e_add (x := r_2) (y := 1) rfl (show (1 : Int32).toInt = 1 by decide) (by omega) (by omega)
    refine q_c z_7 ez_7 ?_
    clear ez_7
    refine lv_istore (lv' := [(5, .int z_7), (4, .int z_5), (3, .int r_2), (0, .ref h0), (1, .int p0), (2, .int 5)]) hx hb dX0_canSit_32 hl_6 (by decide) rfl (fun ls_8 hl_8 => ?_)
    clear hl_6
    refine q_wl (fun (v34_9_0 : Int32) H locs ls => (1 ≤ (v34_9_0).toInt ∧ (v34_9_0).toInt ≤ 10) ∧ qW D (va_A (wk_61955d11b cy h0 p1 h1 w0 w1 h1 f0) sz) s.heap (wk_61955d11b cy h0 p1 h1 w0 w1 h1 f0) H locs ∧ lv_has ls 6 [(0, .ref h0), (1, .int p0), (2, .int 5), (3, .int r_2), (4, .int z_5), (5, .int v34_9_0)]) (fun (v34_9_0 : Int32) => (11 - (v34_9_0).toInt).toNat) (fun q_34 ih_34 H locs ls hP => ?_) z_7 ⟨⟨by omega, by omega⟩, h_2, (lv_sub hl_8 [3, 4, 5, 2, 1, 0] rfl)⟩
    obtain ⟨v34_9_0, rfl⟩ : ∃ z, z = q_34 := ⟨_, rfl⟩
    obtain ⟨hv34_9_0, h, hl⟩ := hP
    refine lv_iload hx hb dX0_canSit_34 (lv_at hl 5 rfl) ?_
    refine lv_aload_n hx hb dX0_canSit_36 rfl (lv_at hl 0 rfl) ?_
    refine q_get X hK h 0 rfl rfl wf_0 0 (by decide) rfl wm_1_198 dX0_canSit_37 ?_
    refine lv_icmp_ge (tgt := 84) hx hb dX0_canSit_40 (by decide) (fun c_10 => ?_) (fun c_10 => ?_)
    · replace c_10 := i_le (x := p1) (y := v34_9_0) rfl rfl c_10
      refine lv_iconst (v := 0) hx hb dX0_canSit_84 (by decide) ?_
      exact q_iret X hr hlk hK h rfl (fun _ => 0, fun _ _ => 0, fun _ _ => 0) ⟨⟨by decide +kernel, by decide +kernel⟩, trivial⟩ [0, 1] rfl rfl dX0_canSit_85 (Nat.le_of_ble_eq_true rfl) (Nat.le_of_ble_eq_true rfl)
    · replace c_10 := i_nle (x := p1) (y := v34_9_0) rfl rfl c_10
      refine lv_iload hx hb dX0_canSit_43 (lv_at hl 4 rfl) ?_
      refine lv_iload hx hb dX0_canSit_45 (lv_at hl 5 rfl) ?_
      refine lv_ishr hx hb dX0_canSit_47 ?_
      obtain ⟨z_11, ez_11, hz_11⟩ := e_shr (x := z_5) v34_9_0 rfl (by omega)
      refine q_c z_11 ez_11 ?_
      clear ez_11
      refine lv_iconst (v := 1) hx hb dX0_canSit_48 (by decide) ?_
      refine lv_iand hx hb dX0_canSit_49 ?_
      obtain ⟨z_12, ez_12, hz_12⟩ := e_and2 (x := z_11) (y := 1) (show (1 : Int32).toInt = 1 by decide) (by omega)
      refine q_c z_12 ez_12 ?_
      clear ez_12
      refine lv_iconst (v := 1) hx hb dX0_canSit_50 (by decide) ?_
      refine q_jn (pc2 := 78) (fun H locs ls st => st = [] ∧ qW D (va_A (wk_61955d11b cy h0 p1 h1 w0 w1 h1 f0) sz) s.heap (wk_61955d11b cy h0 p1 h1 w0 w1 h1 f0) H locs ∧ lv_has ls 6 [(0, .ref h0), (1, .int p0), (2, .int 5), (3, .int r_2), (4, .int z_5), (5, .int v34_9_0)]) (fun H locs ls st hP => ?_) (fun J_78 => ?_)
      · obtain ⟨rfl, h, hl⟩ := hP
        obtain ⟨z_14, ez_14, hz_14⟩ := e_add (x := v34_9_0) (y := Int32.ofInt 1) rfl (b := 1) (by decide) (by omega) (by omega)
        refine lv_iinc (v := z_14) (lv' := [(5, .int z_14), (0, .ref h0), (1, .int p0), (2, .int 5), (3, .int r_2), (4, .int z_5)]) hx hb dX0_canSit_78 hl (k := 5) rfl ez_14 (by decide) rfl (fun ls_14 hl_14 => ?_)
        clear hl
        refine lv_goto (tgt := 34) hx hb dX0_canSit_81 (by decide) ?_
        exact ih_34 z_14 (by show (11 - (z_14).toInt).toNat < (11 - (v34_9_0).toInt).toNat; omega) _ _ _ ⟨⟨by omega, by omega⟩, h, (lv_sub hl_14 [1, 2, 3, 4, 5, 0] rfl)⟩
      · skip
        refine lv_icmp_ne (tgt := 78) hx hb dX0_canSit_51 (by decide) (fun c_15 => ?_) (fun c_15 => ?_)
        · replace c_15 := i_ne (x := z_12) (y := 1) rfl (show (1 : Int32).toInt = 1 by decide) c_15
          exact J_78 _ _ _ _ ⟨rfl, h, (lv_sub hl [0, 1, 2, 3, 4, 5] rfl)⟩
        · replace c_15 := i_eq (x := z_12) (y := 1) rfl (show (1 : Int32).toInt = 1 by decide) c_15
          refine lv_aload_n hx hb dX0_canSit_54 rfl (lv_at hl 0 rfl) ?_
          refine lv_iload_n hx hb dX0_canSit_55 rfl (lv_at hl 1 rfl) ?_
          refine lv_iconst (v := 1) hx hb dX0_canSit_56 (by decide) ?_
          refine lv_iload_n hx hb dX0_canSit_57 rfl (lv_at hl 3 rfl) ?_
          refine lv_ishl hx hb dX0_canSit_58 ?_
          obtain ⟨z_16, ez_16, hz_16⟩ := e_shlk (p := r_2) 9 (by decide) rfl (by omega) (by omega)
          refine q_c z_16 ez_16 ?_
          clear ez_16
          refine lv_iconst (v := 1) hx hb dX0_canSit_59 (by decide) ?_
          refine lv_iload hx hb dX0_canSit_60 (lv_at hl 5 rfl) ?_
          refine lv_ishl hx hb dX0_canSit_62 ?_
          obtain ⟨z_17, ez_17, hz_17⟩ := e_shlk (p := v34_9_0) 9 (by decide) rfl (by omega) (by omega)
          refine q_c z_17 ez_17 ?_
          clear ez_17
          refine lv_ior hx hb dX0_canSit_63 ?_
          obtain ⟨z_18, ez_18, hz_18⟩ := e_or (x := z_16) (y := z_17) 10 (by decide) rfl rfl (by omega) (by omega) (by omega) (by omega)
          refine q_c z_18 ez_18 ?_
          clear ez_18
          refine lv_iconst (v := (-1)) hx hb dX0_canSit_64 (by decide) ?_
          refine lv_ixor hx hb dX0_canSit_65 ?_
          refine q_any (fun z_19 hz_19 => ?_)
          refine lv_iand hx hb dX0_canSit_66 ?_
          obtain ⟨z_20, ez_20, hz_20⟩ := e_and1 (x := p0) (y := z_19) rfl (by omega)
          refine q_c z_20 ez_20 ?_
          clear ez_20
          refine lv_iload_n hx hb dX0_canSit_67 rfl (lv_at hl 2 rfl) ?_
          refine lv_iconst (v := 1) hx hb dX0_canSit_68 (by decide) ?_
          refine lv_iadd hx hb dX0_canSit_69 ?_
          refine q_c 6 (by decide +kernel) ?_
          refine q_callVi (rest := []) (wr := []) X hK hT hA h (fun sz => gX0_canSit_642cf7d l D cy h0 h1 z_20 p1 w0 w1 f0 ⟨by omega, by omega⟩ hp1 sz) wm_4_117 wm_4_112 wm_1_6 hd_X0_canSit wm_4_110 wm_4_111 (ci := 0) (q0 := 0) rfl rfl ⟨Nat.le_of_ble_eq_true rfl, Nat.le_of_ble_eq_true rfl⟩ hl.1 rfl (Nat.le_of_ble_eq_true rfl) dX0_canSit_70 ⟨Nat.le_of_ble_eq_true rfl, Nat.le_of_ble_eq_true rfl⟩ [0, 1] [] rfl rfl (by decide) rfl rfl (fun r_21 u_21 H locs w_21 h_21 => ?_)
          clear h
          obtain ⟨wr_21, _⟩ := w_21
          replace h_21 : qW D _ _ (wk_61955d11b cy h0 p1 h1 w0 w1 h1 f0) _ _ := h_21
          refine lv_if_eq (tgt := 78) hx hb dX0_canSit_73 (by decide) (fun c_22 => ?_) (fun c_22 => ?_)
          · replace c_22 := i_eq (x := r_21) (y := 0) rfl (show (0 : Int32).toInt = 0 by decide) c_22
            exact J_78 _ _ _ _ ⟨rfl, h_21, (lv_sub hl [0, 1, 2, 3, 4, 5] rfl)⟩
          · replace c_22 := i_ne (x := r_21) (y := 0) rfl (show (0 : Int32).toInt = 0 by decide) c_22
            refine lv_iconst (v := 1) hx hb dX0_canSit_76 (by decide) ?_
            exact q_iret X hr hlk hK h_21 rfl (fun _ => 0, fun _ _ => 0, fun _ _ => 0) ⟨⟨by decide +kernel, by decide +kernel⟩, trivial⟩ [0, 1] rfl rfl dX0_canSit_77 (Nat.le_of_ble_eq_true rfl) (Nat.le_of_ble_eq_true rfl)
  · replace c_1 := i_eq (x := p0) (y := 0) rfl (show (0 : Int32).toInt = 0 by decide) c_1
    refine lv_iconst (v := 1) hx hb dX0_canSit_4 (by decide) ?_
    exact q_iret X hr hlk hK h rfl (fun _ => 0, fun _ _ => 0, fun _ _ => 0) ⟨⟨by decide +kernel, by decide +kernel⟩, trivial⟩ [0, 1] rfl rfl dX0_canSit_5 (Nat.le_of_ble_eq_true rfl) (Nat.le_of_ble_eq_true rfl)
set_option maxHeartbeats 4000000 in
set_option maxRecDepth 100000 in
theorem gX0_canSit_d62df5b (l : Launch) (D : va_G) (cy : Nat → ClassId) (h0 : Nat) (h1 : Nat) (p0 : Int32) (p1 : Int32) (w0 : Value) (w1 : Value) (f0 : Nat → Int32) (hp0 : 0 ≤ (p0).toInt ∧ (p0).toInt ≤ 1023) (hp1 : 2 ≤ (p1).toInt ∧ (p1).toInt ≤ 10) (sz : Nat) : MI l yX0_canSit cX0_canSit 6 .boolean { frames := 7, cells := 0, slots := 0, locals := 165 } [.ref h0, .int p0, .int 4] D cy (wk_61955d11b cy h0 p1 h1 w0 w1 h1 f0) sz (fun r u => (0 ≤ r.toInt ∧ r.toInt ≤ 1) ∧ True) (fun u => (wk_61955d11b cy h0 p1 h1 w0 w1 h1 f0)) 0 0 := by
  refine q_ent (own := RX0) (by decide) rfl (Nat.le_of_ble_eq_true rfl) (fun p e s m below meth c ls X hr hlk hnm hK hT h hA hl => ?_)
  obtain ⟨hx, hb, hml, hown, ht⟩ := id X
  replace hl : lv_has ls 6 [(0, .ref h0), (1, .int p0), (2, .int 4)] := hl
  refine lv_iload_n hx hb dX0_canSit_0 rfl (lv_at hl 1 rfl) ?_
  refine lv_if_ne (tgt := 6) hx hb dX0_canSit_1 (by decide) (fun c_1 => ?_) (fun c_1 => ?_)
  · replace c_1 := i_ne (x := p0) (y := 0) rfl (show (0 : Int32).toInt = 0 by decide) c_1
    refine lv_iload_n hx hb dX0_canSit_6 rfl (lv_at hl 2 rfl) ?_
    refine lv_bipush (v := 10) hx hb dX0_canSit_7 (by decide) ?_
    refine lv_icmp_lt (tgt := 14) hx hb dX0_canSit_9 (by decide) (fun _ => ?_) (fun c => absurd c (by decide +kernel))
    refine lv_iload_n hx hb dX0_canSit_14 rfl (lv_at hl 1 rfl) ?_
    refine q_callSi (rest := []) (wr := (wk_61955d11b cy h0 p1 h1 w0 w1 h1 f0)) X hK hT hA h (fun sz => gX0_lowestOf_af0d02d l D cy p0 ⟨by omega, by omega⟩ sz) wm_4_113 wm_4_115 wm_1_6 hd_X0_lowestOf wm_4_114 ⟨Nat.le_of_ble_eq_true rfl, Nat.le_of_ble_eq_true rfl⟩ hl.1 rfl (Nat.le_of_ble_eq_true rfl) dX0_canSit_15 ⟨Nat.le_of_ble_eq_true rfl, Nat.le_of_ble_eq_true rfl⟩ [] [0, 1] rfl rfl (by decide) rfl rfl (fun r_2 u_2 H locs w_2 h_2 => ?_)
    clear h
    obtain ⟨wr_2, _⟩ := w_2
    replace h_2 : qW D _ _ (wk_61955d11b cy h0 p1 h1 w0 w1 h1 f0) _ _ := h_2
    refine lv_istore_n (lv' := [(3, .int r_2), (0, .ref h0), (1, .int p0), (2, .int 4)]) hx hb dX0_canSit_18 rfl hl (by decide) rfl (fun ls_3 hl_3 => ?_)
    clear hl
    refine lv_aload_n hx hb dX0_canSit_19 rfl (lv_at hl_3 1 rfl) ?_
    refine q_get X hK h_2 0 rfl rfl wf_0 1 (by decide) rfl wm_1_199 dX0_canSit_20 ?_
    refine lv_iload_n hx hb dX0_canSit_23 rfl (lv_at hl_3 0 rfl) ?_
    refine q_iald X hK h_2 1 rfl (i_in rfl (by omega) (by omega)) dX0_canSit_24 ?_
    refine q_any (fun z_4 hz_4 => ?_)
    refine lv_iload_n hx hb dX0_canSit_25 rfl (lv_at hl_3 2 rfl) ?_
    refine lv_iand hx hb dX0_canSit_26 ?_
    obtain ⟨z_5, ez_5, hz_5⟩ := e_and2 (x := z_4) (y := p0) rfl (by omega)
    refine q_c z_5 ez_5 ?_
    clear ez_5
    refine lv_istore (lv' := [(4, .int z_5), (3, .int r_2), (0, .ref h0), (1, .int p0), (2, .int 4)]) hx hb dX0_canSit_27 hl_3 (by decide) rfl (fun ls_6 hl_6 => ?_)
    clear hl_3
    refine lv_iload_n hx hb dX0_canSit_29 rfl (lv_at hl_6 1 rfl) ?_
    refine lv_iconst (v := 1) hx hb dX0_canSit_30 (by decide) ?_
    refine lv_iadd hx hb dX0_canSit_31 ?_
    obtain ⟨z_7, ez_7, hz_7⟩ := e_add (x := r_2) (y := 1) rfl (show (1 : Int32).toInt = 1 by decide) (by omega) (by omega)
    refine q_c z_7 ez_7 ?_
    clear ez_7
    refine lv_istore (lv' := [(5, .int z_7), (4, .int z_5), (3, .int r_2), (0, .ref h0), (1, .int p0), (2, .int 4)]) hx hb dX0_canSit_32 hl_6 (by decide) rfl (fun ls_8 hl_8 => ?_)
    clear hl_6
    refine q_wl (fun (v34_9_0 : Int32) H locs ls => (1 ≤ (v34_9_0).toInt ∧ (v34_9_0).toInt ≤ 10) ∧ qW D (va_A (wk_61955d11b cy h0 p1 h1 w0 w1 h1 f0) sz) s.heap (wk_61955d11b cy h0 p1 h1 w0 w1 h1 f0) H locs ∧ lv_has ls 6 [(0, .ref h0), (1, .int p0), (2, .int 4), (3, .int r_2), (4, .int z_5), (5, .int v34_9_0)]) (fun (v34_9_0 : Int32) => (11 - (v34_9_0).toInt).toNat) (fun q_34 ih_34 H locs ls hP => ?_) z_7 ⟨⟨by omega, by omega⟩, h_2, (lv_sub hl_8 [3, 4, 5, 2, 1, 0] rfl)⟩
    obtain ⟨v34_9_0, rfl⟩ : ∃ z, z = q_34 := ⟨_, rfl⟩
    obtain ⟨hv34_9_0, h, hl⟩ := hP
    refine lv_iload hx hb dX0_canSit_34 (lv_at hl 5 rfl) ?_
    refine lv_aload_n hx hb dX0_canSit_36 rfl (lv_at hl 0 rfl) ?_
    refine q_get X hK h 0 rfl rfl wf_0 0 (by decide) rfl wm_1_198 dX0_canSit_37 ?_
    refine lv_icmp_ge (tgt := 84) hx hb dX0_canSit_40 (by decide) (fun c_10 => ?_) (fun c_10 => ?_)
    · replace c_10 := i_le (x := p1) (y := v34_9_0) rfl rfl c_10
      refine lv_iconst (v := 0) hx hb dX0_canSit_84 (by decide) ?_
      exact q_iret X hr hlk hK h rfl (fun _ => 0, fun _ _ => 0, fun _ _ => 0) ⟨⟨by decide +kernel, by decide +kernel⟩, trivial⟩ [0, 1] rfl rfl dX0_canSit_85 (Nat.le_of_ble_eq_true rfl) (Nat.le_of_ble_eq_true rfl)
    · replace c_10 := i_nle (x := p1) (y := v34_9_0) rfl rfl c_10
      refine lv_iload hx hb dX0_canSit_43 (lv_at hl 4 rfl) ?_
      refine lv_iload hx hb dX0_canSit_45 (lv_at hl 5 rfl) ?_
      refine lv_ishr hx hb dX0_canSit_47 ?_
      obtain ⟨z_11, ez_11, hz_11⟩ := e_shr (x := z_5) v34_9_0 rfl (by omega)
      refine q_c z_11 ez_11 ?_
      clear ez_11
      refine lv_iconst (v := 1) hx hb dX0_canSit_48 (by decide) ?_
      refine lv_iand hx hb dX0_canSit_49 ?_
      obtain ⟨z_12, ez_12, hz_12⟩ := e_and2 (x := z_11) (y := 1) (show (1 : Int32).toInt = 1 by decide) (by omega)
      refine q_c z_12 ez_12 ?_
      clear ez_12
      refine lv_iconst (v := 1) hx hb dX0_canSit_50 (by decide) ?_
      refine q_jn (pc2 := 78) (fun H locs ls st => st = [] ∧ qW D (va_A (wk_61955d11b cy h0 p1 h1 w0 w1 h1 f0) sz) s.heap (wk_61955d11b cy h0 p1 h1 w0 w1 h1 f0) H locs ∧ lv_has ls 6 [(0, .ref h0), (1, .int p0), (2, .int 4), (3, .int r_2), (4, .int z_5), (5, .int v34_9_0)]) (fun H locs ls st hP => ?_) (fun J_78 => ?_)
      · obtain ⟨rfl, h, hl⟩ := hP
        obtain ⟨z_14, ez_14, hz_14⟩ := e_add (x := v34_9_0) (y := Int32.ofInt 1) rfl (b := 1) (by decide) (by omega) (by omega)
        refine lv_iinc (v := z_14) (lv' := [(5, .int z_14), (0, .ref h0), (1, .int p0), (2, .int 4), (3, .int r_2), (4, .int z_5)]) hx hb dX0_canSit_78 hl (k := 5) rfl ez_14 (by decide) rfl (fun ls_14 hl_14 => ?_)
        clear hl
        refine lv_goto (tgt := 34) hx hb dX0_canSit_81 (by decide) ?_
        exact ih_34 z_14 (by show (11 - (z_14).toInt).toNat < (11 - (v34_9_0).toInt).toNat; omega) _ _ _ ⟨⟨by omega, by omega⟩, h, (lv_sub hl_14 [1, 2, 3, 4, 5, 0] rfl)⟩
      · skip
        refine lv_icmp_ne (tgt := 78) hx hb dX0_canSit_51 (by decide) (fun c_15 => ?_) (fun c_15 => ?_)
        · replace c_15 := i_ne (x := z_12) (y := 1) rfl (show (1 : Int32).toInt = 1 by decide) c_15
          exact J_78 _ _ _ _ ⟨rfl, h, (lv_sub hl [0, 1, 2, 3, 4, 5] rfl)⟩
        · replace c_15 := i_eq (x := z_12) (y := 1) rfl (show (1 : Int32).toInt = 1 by decide) c_15
          refine lv_aload_n hx hb dX0_canSit_54 rfl (lv_at hl 0 rfl) ?_
          refine lv_iload_n hx hb dX0_canSit_55 rfl (lv_at hl 1 rfl) ?_
          refine lv_iconst (v := 1) hx hb dX0_canSit_56 (by decide) ?_
          refine lv_iload_n hx hb dX0_canSit_57 rfl (lv_at hl 3 rfl) ?_
          refine lv_ishl hx hb dX0_canSit_58 ?_
          obtain ⟨z_16, ez_16, hz_16⟩ := e_shlk (p := r_2) 9 (by decide) rfl (by omega) (by omega)
          refine q_c z_16 ez_16 ?_
          clear ez_16
          refine lv_iconst (v := 1) hx hb dX0_canSit_59 (by decide) ?_
          refine lv_iload hx hb dX0_canSit_60 (lv_at hl 5 rfl) ?_
          refine lv_ishl hx hb dX0_canSit_62 ?_
          obtain ⟨z_17, ez_17, hz_17⟩ := e_shlk (p := v34_9_0) 9 (by decide) rfl (by omega) (by omega)
          refine q_c z_17 ez_17 ?_
          clear ez_17
          refine lv_ior hx hb dX0_canSit_63 ?_
          obtain ⟨z_18, ez_18, hz_18⟩ := e_or (x := z_16) (y := z_17) 10 (by decide) rfl rfl (by omega) (by omega) (by omega) (by omega)
          refine q_c z_18 ez_18 ?_
          clear ez_18
          refine lv_iconst (v := (-1)) hx hb dX0_canSit_64 (by decide) ?_
          refine lv_ixor hx hb dX0_canSit_65 ?_
          refine q_any (fun z_19 hz_19 => ?_)
          refine lv_iand hx hb dX0_canSit_66 ?_
          obtain ⟨z_20, ez_20, hz_20⟩ := e_and1 (x := p0) (y := z_19) rfl (by omega)
          refine q_c z_20 ez_20 ?_
          clear ez_20
          refine lv_iload_n hx hb dX0_canSit_67 rfl (lv_at hl 2 rfl) ?_
          refine lv_iconst (v := 1) hx hb dX0_canSit_68 (by decide) ?_
          refine lv_iadd hx hb dX0_canSit_69 ?_
          refine q_c 5 (by decide +kernel) ?_
          refine q_callVi (rest := []) (wr := []) X hK hT hA h (fun sz => gX0_canSit_b7946c3 l D cy h0 h1 z_20 p1 w0 w1 f0 ⟨by omega, by omega⟩ hp1 sz) wm_4_117 wm_4_112 wm_1_6 hd_X0_canSit wm_4_110 wm_4_111 (ci := 0) (q0 := 0) rfl rfl ⟨Nat.le_of_ble_eq_true rfl, Nat.le_of_ble_eq_true rfl⟩ hl.1 rfl (Nat.le_of_ble_eq_true rfl) dX0_canSit_70 ⟨Nat.le_of_ble_eq_true rfl, Nat.le_of_ble_eq_true rfl⟩ [0, 1] [] rfl rfl (by decide) rfl rfl (fun r_21 u_21 H locs w_21 h_21 => ?_)
          clear h
          obtain ⟨wr_21, _⟩ := w_21
          replace h_21 : qW D _ _ (wk_61955d11b cy h0 p1 h1 w0 w1 h1 f0) _ _ := h_21
          refine lv_if_eq (tgt := 78) hx hb dX0_canSit_73 (by decide) (fun c_22 => ?_) (fun c_22 => ?_)
          · replace c_22 := i_eq (x := r_21) (y := 0) rfl (show (0 : Int32).toInt = 0 by decide) c_22
            exact J_78 _ _ _ _ ⟨rfl, h_21, (lv_sub hl [0, 1, 2, 3, 4, 5] rfl)⟩
          · replace c_22 := i_ne (x := r_21) (y := 0) rfl (show (0 : Int32).toInt = 0 by decide) c_22
            refine lv_iconst (v := 1) hx hb dX0_canSit_76 (by decide) ?_
            exact q_iret X hr hlk hK h_21 rfl (fun _ => 0, fun _ _ => 0, fun _ _ => 0) ⟨⟨by decide +kernel, by decide +kernel⟩, trivial⟩ [0, 1] rfl rfl dX0_canSit_77 (Nat.le_of_ble_eq_true rfl) (Nat.le_of_ble_eq_true rfl)
  · replace c_1 := i_eq (x := p0) (y := 0) rfl (show (0 : Int32).toInt = 0 by decide) c_1
    refine lv_iconst (v := 1) hx hb dX0_canSit_4 (by decide) ?_
    exact q_iret X hr hlk hK h rfl (fun _ => 0, fun _ _ => 0, fun _ _ => 0) ⟨⟨by decide +kernel, by decide +kernel⟩, trivial⟩ [0, 1] rfl rfl dX0_canSit_5 (Nat.le_of_ble_eq_true rfl) (Nat.le_of_ble_eq_true rfl)
set_option maxHeartbeats 4000000 in
set_option maxRecDepth 100000 in
theorem gX0_canSit_c0eee13 (l : Launch) (D : va_G) (cy : Nat → ClassId) (h0 : Nat) (h1 : Nat) (p0 : Int32) (p1 : Int32) (w0 : Value) (w1 : Value) (f0 : Nat → Int32) (hp0 : 0 ≤ (p0).toInt ∧ (p0).toInt ≤ 1023) (hp1 : 2 ≤ (p1).toInt ∧ (p1).toInt ≤ 10) (sz : Nat) : MI l yX0_canSit cX0_canSit 6 .boolean { frames := 8, cells := 0, slots := 0, locals := 190 } [.ref h0, .int p0, .int 3] D cy (wk_61955d11b cy h0 p1 h1 w0 w1 h1 f0) sz (fun r u => (0 ≤ r.toInt ∧ r.toInt ≤ 1) ∧ True) (fun u => (wk_61955d11b cy h0 p1 h1 w0 w1 h1 f0)) 0 0 := by
  refine q_ent (own := RX0) (by decide) rfl (Nat.le_of_ble_eq_true rfl) (fun p e s m below meth c ls X hr hlk hnm hK hT h hA hl => ?_)
  obtain ⟨hx, hb, hml, hown, ht⟩ := id X
  replace hl : lv_has ls 6 [(0, .ref h0), (1, .int p0), (2, .int 3)] := hl
  refine lv_iload_n hx hb dX0_canSit_0 rfl (lv_at hl 1 rfl) ?_
  refine lv_if_ne (tgt := 6) hx hb dX0_canSit_1 (by decide) (fun c_1 => ?_) (fun c_1 => ?_)
  · replace c_1 := i_ne (x := p0) (y := 0) rfl (show (0 : Int32).toInt = 0 by decide) c_1
    refine lv_iload_n hx hb dX0_canSit_6 rfl (lv_at hl 2 rfl) ?_
    refine lv_bipush (v := 10) hx hb dX0_canSit_7 (by decide) ?_
    refine lv_icmp_lt (tgt := 14) hx hb dX0_canSit_9 (by decide) (fun _ => ?_) (fun c => absurd c (by decide +kernel))
    refine lv_iload_n hx hb dX0_canSit_14 rfl (lv_at hl 1 rfl) ?_
    refine q_callSi (rest := []) (wr := (wk_61955d11b cy h0 p1 h1 w0 w1 h1 f0)) X hK hT hA h (fun sz => gX0_lowestOf_af0d02d l D cy p0 ⟨by omega, by omega⟩ sz) wm_4_113 wm_4_115 wm_1_6 hd_X0_lowestOf wm_4_114 ⟨Nat.le_of_ble_eq_true rfl, Nat.le_of_ble_eq_true rfl⟩ hl.1 rfl (Nat.le_of_ble_eq_true rfl) dX0_canSit_15 ⟨Nat.le_of_ble_eq_true rfl, Nat.le_of_ble_eq_true rfl⟩ [] [0, 1] rfl rfl (by decide) rfl rfl (fun r_2 u_2 H locs w_2 h_2 => ?_)
    clear h
    obtain ⟨wr_2, _⟩ := w_2
    replace h_2 : qW D _ _ (wk_61955d11b cy h0 p1 h1 w0 w1 h1 f0) _ _ := h_2
    refine lv_istore_n (lv' := [(3, .int r_2), (0, .ref h0), (1, .int p0), (2, .int 3)]) hx hb dX0_canSit_18 rfl hl (by decide) rfl (fun ls_3 hl_3 => ?_)
    clear hl
    refine lv_aload_n hx hb dX0_canSit_19 rfl (lv_at hl_3 1 rfl) ?_
    refine q_get X hK h_2 0 rfl rfl wf_0 1 (by decide) rfl wm_1_199 dX0_canSit_20 ?_
    refine lv_iload_n hx hb dX0_canSit_23 rfl (lv_at hl_3 0 rfl) ?_
    refine q_iald X hK h_2 1 rfl (i_in rfl (by omega) (by omega)) dX0_canSit_24 ?_
    refine q_any (fun z_4 hz_4 => ?_)
    refine lv_iload_n hx hb dX0_canSit_25 rfl (lv_at hl_3 2 rfl) ?_
    refine lv_iand hx hb dX0_canSit_26 ?_
    obtain ⟨z_5, ez_5, hz_5⟩ := e_and2 (x := z_4) (y := p0) rfl (by omega)
    refine q_c z_5 ez_5 ?_
    clear ez_5
    refine lv_istore (lv' := [(4, .int z_5), (3, .int r_2), (0, .ref h0), (1, .int p0), (2, .int 3)]) hx hb dX0_canSit_27 hl_3 (by decide) rfl (fun ls_6 hl_6 => ?_)
    clear hl_3
    refine lv_iload_n hx hb dX0_canSit_29 rfl (lv_at hl_6 1 rfl) ?_
    refine lv_iconst (v := 1) hx hb dX0_canSit_30 (by decide) ?_
    refine lv_iadd hx hb dX0_canSit_31 ?_
    obtain ⟨z_7, ez_7, hz_7⟩ := e_add (x := r_2) (y := 1) rfl (show (1 : Int32).toInt = 1 by decide) (by omega) (by omega)
    refine q_c z_7 ez_7 ?_
    clear ez_7
    refine lv_istore (lv' := [(5, .int z_7), (4, .int z_5), (3, .int r_2), (0, .ref h0), (1, .int p0), (2, .int 3)]) hx hb dX0_canSit_32 hl_6 (by decide) rfl (fun ls_8 hl_8 => ?_)
    clear hl_6
    refine q_wl (fun (v34_9_0 : Int32) H locs ls => (1 ≤ (v34_9_0).toInt ∧ (v34_9_0).toInt ≤ 10) ∧ qW D (va_A (wk_61955d11b cy h0 p1 h1 w0 w1 h1 f0) sz) s.heap (wk_61955d11b cy h0 p1 h1 w0 w1 h1 f0) H locs ∧ lv_has ls 6 [(0, .ref h0), (1, .int p0), (2, .int 3), (3, .int r_2), (4, .int z_5), (5, .int v34_9_0)]) (fun (v34_9_0 : Int32) => (11 - (v34_9_0).toInt).toNat) (fun q_34 ih_34 H locs ls hP => ?_) z_7 ⟨⟨by omega, by omega⟩, h_2, (lv_sub hl_8 [3, 4, 5, 2, 1, 0] rfl)⟩
    obtain ⟨v34_9_0, rfl⟩ : ∃ z, z = q_34 := ⟨_, rfl⟩
    obtain ⟨hv34_9_0, h, hl⟩ := hP
    refine lv_iload hx hb dX0_canSit_34 (lv_at hl 5 rfl) ?_
    refine lv_aload_n hx hb dX0_canSit_36 rfl (lv_at hl 0 rfl) ?_
    refine q_get X hK h 0 rfl rfl wf_0 0 (by decide) rfl wm_1_198 dX0_canSit_37 ?_
    refine lv_icmp_ge (tgt := 84) hx hb dX0_canSit_40 (by decide) (fun c_10 => ?_) (fun c_10 => ?_)
    · replace c_10 := i_le (x := p1) (y := v34_9_0) rfl rfl c_10
      refine lv_iconst (v := 0) hx hb dX0_canSit_84 (by decide) ?_
      exact q_iret X hr hlk hK h rfl (fun _ => 0, fun _ _ => 0, fun _ _ => 0) ⟨⟨by decide +kernel, by decide +kernel⟩, trivial⟩ [0, 1] rfl rfl dX0_canSit_85 (Nat.le_of_ble_eq_true rfl) (Nat.le_of_ble_eq_true rfl)
    · replace c_10 := i_nle (x := p1) (y := v34_9_0) rfl rfl c_10
      refine lv_iload hx hb dX0_canSit_43 (lv_at hl 4 rfl) ?_
      refine lv_iload hx hb dX0_canSit_45 (lv_at hl 5 rfl) ?_
      refine lv_ishr hx hb dX0_canSit_47 ?_
      obtain ⟨z_11, ez_11, hz_11⟩ := e_shr (x := z_5) v34_9_0 rfl (by omega)
      refine q_c z_11 ez_11 ?_
      clear ez_11
      refine lv_iconst (v := 1) hx hb dX0_canSit_48 (by decide) ?_
      refine lv_iand hx hb dX0_canSit_49 ?_
      obtain ⟨z_12, ez_12, hz_12⟩ := e_and2 (x := z_11) (y := 1) (show (1 : Int32).toInt = 1 by decide) (by omega)
      refine q_c z_12 ez_12 ?_
      clear ez_12
      refine lv_iconst (v := 1) hx hb dX0_canSit_50 (by decide) ?_
      refine q_jn (pc2 := 78) (fun H locs ls st => st = [] ∧ qW D (va_A (wk_61955d11b cy h0 p1 h1 w0 w1 h1 f0) sz) s.heap (wk_61955d11b cy h0 p1 h1 w0 w1 h1 f0) H locs ∧ lv_has ls 6 [(0, .ref h0), (1, .int p0), (2, .int 3), (3, .int r_2), (4, .int z_5), (5, .int v34_9_0)]) (fun H locs ls st hP => ?_) (fun J_78 => ?_)
      · obtain ⟨rfl, h, hl⟩ := hP
        obtain ⟨z_14, ez_14, hz_14⟩ := e_add (x := v34_9_0) (y := Int32.ofInt 1) rfl (b := 1) (by decide) (by omega) (by omega)
        refine lv_iinc (v := z_14) (lv' := [(5, .int z_14), (0, .ref h0), (1, .int p0), (2, .int 3), (3, .int r_2), (4, .int z_5)]) hx hb dX0_canSit_78 hl (k := 5) rfl ez_14 (by decide) rfl (fun ls_14 hl_14 => ?_)
        clear hl
        refine lv_goto (tgt := 34) hx hb dX0_canSit_81 (by decide) ?_
        exact ih_34 z_14 (by show (11 - (z_14).toInt).toNat < (11 - (v34_9_0).toInt).toNat; omega) _ _ _ ⟨⟨by omega, by omega⟩, h, (lv_sub hl_14 [1, 2, 3, 4, 5, 0] rfl)⟩
      · skip
        refine lv_icmp_ne (tgt := 78) hx hb dX0_canSit_51 (by decide) (fun c_15 => ?_) (fun c_15 => ?_)
        · replace c_15 := i_ne (x := z_12) (y := 1) rfl (show (1 : Int32).toInt = 1 by decide) c_15
          exact J_78 _ _ _ _ ⟨rfl, h, (lv_sub hl [0, 1, 2, 3, 4, 5] rfl)⟩
        · replace c_15 := i_eq (x := z_12) (y := 1) rfl (show (1 : Int32).toInt = 1 by decide) c_15
          refine lv_aload_n hx hb dX0_canSit_54 rfl (lv_at hl 0 rfl) ?_
          refine lv_iload_n hx hb dX0_canSit_55 rfl (lv_at hl 1 rfl) ?_
          refine lv_iconst (v := 1) hx hb dX0_canSit_56 (by decide) ?_
          refine lv_iload_n hx hb dX0_canSit_57 rfl (lv_at hl 3 rfl) ?_
          refine lv_ishl hx hb dX0_canSit_58 ?_
          obtain ⟨z_16, ez_16, hz_16⟩ := e_shlk (p := r_2) 9 (by decide) rfl (by omega) (by omega)
          refine q_c z_16 ez_16 ?_
          clear ez_16
          refine lv_iconst (v := 1) hx hb dX0_canSit_59 (by decide) ?_
          refine lv_iload hx hb dX0_canSit_60 (lv_at hl 5 rfl) ?_
          refine lv_ishl hx hb dX0_canSit_62 ?_
          obtain ⟨z_17, ez_17, hz_17⟩ := e_shlk (p := v34_9_0) 9 (by decide) rfl (by omega) (by omega)
          refine q_c z_17 ez_17 ?_
          clear ez_17
          refine lv_ior hx hb dX0_canSit_63 ?_
          obtain ⟨z_18, ez_18, hz_18⟩ := e_or (x := z_16) (y := z_17) 10 (by decide) rfl rfl (by omega) (by omega) (by omega) (by omega)
          refine q_c z_18 ez_18 ?_
          clear ez_18
          refine lv_iconst (v := (-1)) hx hb dX0_canSit_64 (by decide) ?_
          refine lv_ixor hx hb dX0_canSit_65 ?_
          refine q_any (fun z_19 hz_19 => ?_)
          refine lv_iand hx hb dX0_canSit_66 ?_
          obtain ⟨z_20, ez_20, hz_20⟩ := e_and1 (x := p0) (y := z_19) rfl (by omega)
          refine q_c z_20 ez_20 ?_
          clear ez_20
          refine lv_iload_n hx hb dX0_canSit_67 rfl (lv_at hl 2 rfl) ?_
          refine lv_iconst (v := 1) hx hb dX0_canSit_68 (by decide) ?_
          refine lv_iadd hx hb dX0_canSit_69 ?_
          refine q_c 4 (by decide +kernel) ?_
          refine q_callVi (rest := []) (wr := []) X hK hT hA h (fun sz => gX0_canSit_d62df5b l D cy h0 h1 z_20 p1 w0 w1 f0 ⟨by omega, by omega⟩ hp1 sz) wm_4_117 wm_4_112 wm_1_6 hd_X0_canSit wm_4_110 wm_4_111 (ci := 0) (q0 := 0) rfl rfl ⟨Nat.le_of_ble_eq_true rfl, Nat.le_of_ble_eq_true rfl⟩ hl.1 rfl (Nat.le_of_ble_eq_true rfl) dX0_canSit_70 ⟨Nat.le_of_ble_eq_true rfl, Nat.le_of_ble_eq_true rfl⟩ [0, 1] [] rfl rfl (by decide) rfl rfl (fun r_21 u_21 H locs w_21 h_21 => ?_)
          clear h
          obtain ⟨wr_21, _⟩ := w_21
          replace h_21 : qW D _ _ (wk_61955d11b cy h0 p1 h1 w0 w1 h1 f0) _ _ := h_21
          refine lv_if_eq (tgt := 78) hx hb dX0_canSit_73 (by decide) (fun c_22 => ?_) (fun c_22 => ?_)
          · replace c_22 := i_eq (x := r_21) (y := 0) rfl (show (0 : Int32).toInt = 0 by decide) c_22
            exact J_78 _ _ _ _ ⟨rfl, h_21, (lv_sub hl [0, 1, 2, 3, 4, 5] rfl)⟩
          · replace c_22 := i_ne (x := r_21) (y := 0) rfl (show (0 : Int32).toInt = 0 by decide) c_22
            refine lv_iconst (v := 1) hx hb dX0_canSit_76 (by decide) ?_
            exact q_iret X hr hlk hK h_21 rfl (fun _ => 0, fun _ _ => 0, fun _ _ => 0) ⟨⟨by decide +kernel, by decide +kernel⟩, trivial⟩ [0, 1] rfl rfl dX0_canSit_77 (Nat.le_of_ble_eq_true rfl) (Nat.le_of_ble_eq_true rfl)
  · replace c_1 := i_eq (x := p0) (y := 0) rfl (show (0 : Int32).toInt = 0 by decide) c_1
    refine lv_iconst (v := 1) hx hb dX0_canSit_4 (by decide) ?_
    exact q_iret X hr hlk hK h rfl (fun _ => 0, fun _ _ => 0, fun _ _ => 0) ⟨⟨by decide +kernel, by decide +kernel⟩, trivial⟩ [0, 1] rfl rfl dX0_canSit_5 (Nat.le_of_ble_eq_true rfl) (Nat.le_of_ble_eq_true rfl)
set_option maxHeartbeats 4000000 in
set_option maxRecDepth 100000 in
theorem gX0_canSit_09cf255 (l : Launch) (D : va_G) (cy : Nat → ClassId) (h0 : Nat) (h1 : Nat) (p0 : Int32) (p1 : Int32) (w0 : Value) (w1 : Value) (f0 : Nat → Int32) (hp0 : 0 ≤ (p0).toInt ∧ (p0).toInt ≤ 1023) (hp1 : 2 ≤ (p1).toInt ∧ (p1).toInt ≤ 10) (sz : Nat) : MI l yX0_canSit cX0_canSit 6 .boolean { frames := 9, cells := 0, slots := 0, locals := 215 } [.ref h0, .int p0, .int 2] D cy (wk_61955d11b cy h0 p1 h1 w0 w1 h1 f0) sz (fun r u => (0 ≤ r.toInt ∧ r.toInt ≤ 1) ∧ True) (fun u => (wk_61955d11b cy h0 p1 h1 w0 w1 h1 f0)) 0 0 := by
  refine q_ent (own := RX0) (by decide) rfl (Nat.le_of_ble_eq_true rfl) (fun p e s m below meth c ls X hr hlk hnm hK hT h hA hl => ?_)
  obtain ⟨hx, hb, hml, hown, ht⟩ := id X
  replace hl : lv_has ls 6 [(0, .ref h0), (1, .int p0), (2, .int 2)] := hl
  refine lv_iload_n hx hb dX0_canSit_0 rfl (lv_at hl 1 rfl) ?_
  refine lv_if_ne (tgt := 6) hx hb dX0_canSit_1 (by decide) (fun c_1 => ?_) (fun c_1 => ?_)
  · replace c_1 := i_ne (x := p0) (y := 0) rfl (show (0 : Int32).toInt = 0 by decide) c_1
    refine lv_iload_n hx hb dX0_canSit_6 rfl (lv_at hl 2 rfl) ?_
    refine lv_bipush (v := 10) hx hb dX0_canSit_7 (by decide) ?_
    refine lv_icmp_lt (tgt := 14) hx hb dX0_canSit_9 (by decide) (fun _ => ?_) (fun c => absurd c (by decide +kernel))
    refine lv_iload_n hx hb dX0_canSit_14 rfl (lv_at hl 1 rfl) ?_
    refine q_callSi (rest := []) (wr := (wk_61955d11b cy h0 p1 h1 w0 w1 h1 f0)) X hK hT hA h (fun sz => gX0_lowestOf_af0d02d l D cy p0 ⟨by omega, by omega⟩ sz) wm_4_113 wm_4_115 wm_1_6 hd_X0_lowestOf wm_4_114 ⟨Nat.le_of_ble_eq_true rfl, Nat.le_of_ble_eq_true rfl⟩ hl.1 rfl (Nat.le_of_ble_eq_true rfl) dX0_canSit_15 ⟨Nat.le_of_ble_eq_true rfl, Nat.le_of_ble_eq_true rfl⟩ [] [0, 1] rfl rfl (by decide) rfl rfl (fun r_2 u_2 H locs w_2 h_2 => ?_)
    clear h
    obtain ⟨wr_2, _⟩ := w_2
    replace h_2 : qW D _ _ (wk_61955d11b cy h0 p1 h1 w0 w1 h1 f0) _ _ := h_2
    refine lv_istore_n (lv' := [(3, .int r_2), (0, .ref h0), (1, .int p0), (2, .int 2)]) hx hb dX0_canSit_18 rfl hl (by decide) rfl (fun ls_3 hl_3 => ?_)
    clear hl
    refine lv_aload_n hx hb dX0_canSit_19 rfl (lv_at hl_3 1 rfl) ?_
    refine q_get X hK h_2 0 rfl rfl wf_0 1 (by decide) rfl wm_1_199 dX0_canSit_20 ?_
    refine lv_iload_n hx hb dX0_canSit_23 rfl (lv_at hl_3 0 rfl) ?_
    refine q_iald X hK h_2 1 rfl (i_in rfl (by omega) (by omega)) dX0_canSit_24 ?_
    refine q_any (fun z_4 hz_4 => ?_)
    refine lv_iload_n hx hb dX0_canSit_25 rfl (lv_at hl_3 2 rfl) ?_
    refine lv_iand hx hb dX0_canSit_26 ?_
    obtain ⟨z_5, ez_5, hz_5⟩ := e_and2 (x := z_4) (y := p0) rfl (by omega)
    refine q_c z_5 ez_5 ?_
    clear ez_5
    refine lv_istore (lv' := [(4, .int z_5), (3, .int r_2), (0, .ref h0), (1, .int p0), (2, .int 2)]) hx hb dX0_canSit_27 hl_3 (by decide) rfl (fun ls_6 hl_6 => ?_)
    clear hl_3
    refine lv_iload_n hx hb dX0_canSit_29 rfl (lv_at hl_6 1 rfl) ?_
    refine lv_iconst (v := 1) hx hb dX0_canSit_30 (by decide) ?_
    refine lv_iadd hx hb dX0_canSit_31 ?_
    obtain ⟨z_7, ez_7, hz_7⟩ := e_add (x := r_2) (y := 1) rfl (show (1 : Int32).toInt = 1 by decide) (by omega) (by omega)
    refine q_c z_7 ez_7 ?_
    clear ez_7
    refine lv_istore (lv' := [(5, .int z_7), (4, .int z_5), (3, .int r_2), (0, .ref h0), (1, .int p0), (2, .int 2)]) hx hb dX0_canSit_32 hl_6 (by decide) rfl (fun ls_8 hl_8 => ?_)
    clear hl_6
    refine q_wl (fun (v34_9_0 : Int32) H locs ls => (1 ≤ (v34_9_0).toInt ∧ (v34_9_0).toInt ≤ 10) ∧ qW D (va_A (wk_61955d11b cy h0 p1 h1 w0 w1 h1 f0) sz) s.heap (wk_61955d11b cy h0 p1 h1 w0 w1 h1 f0) H locs ∧ lv_has ls 6 [(0, .ref h0), (1, .int p0), (2, .int 2), (3, .int r_2), (4, .int z_5), (5, .int v34_9_0)]) (fun (v34_9_0 : Int32) => (11 - (v34_9_0).toInt).toNat) (fun q_34 ih_34 H locs ls hP => ?_) z_7 ⟨⟨by omega, by omega⟩, h_2, (lv_sub hl_8 [3, 4, 5, 2, 1, 0] rfl)⟩
    obtain ⟨v34_9_0, rfl⟩ : ∃ z, z = q_34 := ⟨_, rfl⟩
    obtain ⟨hv34_9_0, h, hl⟩ := hP
    refine lv_iload hx hb dX0_canSit_34 (lv_at hl 5 rfl) ?_
    refine lv_aload_n hx hb dX0_canSit_36 rfl (lv_at hl 0 rfl) ?_
    refine q_get X hK h 0 rfl rfl wf_0 0 (by decide) rfl wm_1_198 dX0_canSit_37 ?_
    refine lv_icmp_ge (tgt := 84) hx hb dX0_canSit_40 (by decide) (fun c_10 => ?_) (fun c_10 => ?_)
    · replace c_10 := i_le (x := p1) (y := v34_9_0) rfl rfl c_10
      refine lv_iconst (v := 0) hx hb dX0_canSit_84 (by decide) ?_
      exact q_iret X hr hlk hK h rfl (fun _ => 0, fun _ _ => 0, fun _ _ => 0) ⟨⟨by decide +kernel, by decide +kernel⟩, trivial⟩ [0, 1] rfl rfl dX0_canSit_85 (Nat.le_of_ble_eq_true rfl) (Nat.le_of_ble_eq_true rfl)
    · replace c_10 := i_nle (x := p1) (y := v34_9_0) rfl rfl c_10
      refine lv_iload hx hb dX0_canSit_43 (lv_at hl 4 rfl) ?_
      refine lv_iload hx hb dX0_canSit_45 (lv_at hl 5 rfl) ?_
      refine lv_ishr hx hb dX0_canSit_47 ?_
      obtain ⟨z_11, ez_11, hz_11⟩ := e_shr (x := z_5) v34_9_0 rfl (by omega)
      refine q_c z_11 ez_11 ?_
      clear ez_11
      refine lv_iconst (v := 1) hx hb dX0_canSit_48 (by decide) ?_
      refine lv_iand hx hb dX0_canSit_49 ?_
      obtain ⟨z_12, ez_12, hz_12⟩ := e_and2 (x := z_11) (y := 1) (show (1 : Int32).toInt = 1 by decide) (by omega)
      refine q_c z_12 ez_12 ?_
      clear ez_12
      refine lv_iconst (v := 1) hx hb dX0_canSit_50 (by decide) ?_
      refine q_jn (pc2 := 78) (fun H locs ls st => st = [] ∧ qW D (va_A (wk_61955d11b cy h0 p1 h1 w0 w1 h1 f0) sz) s.heap (wk_61955d11b cy h0 p1 h1 w0 w1 h1 f0) H locs ∧ lv_has ls 6 [(0, .ref h0), (1, .int p0), (2, .int 2), (3, .int r_2), (4, .int z_5), (5, .int v34_9_0)]) (fun H locs ls st hP => ?_) (fun J_78 => ?_)
      · obtain ⟨rfl, h, hl⟩ := hP
        obtain ⟨z_14, ez_14, hz_14⟩ := e_add (x := v34_9_0) (y := Int32.ofInt 1) rfl (b := 1) (by decide) (by omega) (by omega)
        refine lv_iinc (v := z_14) (lv' := [(5, .int z_14), (0, .ref h0), (1, .int p0), (2, .int 2), (3, .int r_2), (4, .int z_5)]) hx hb dX0_canSit_78 hl (k := 5) rfl ez_14 (by decide) rfl (fun ls_14 hl_14 => ?_)
        clear hl
        refine lv_goto (tgt := 34) hx hb dX0_canSit_81 (by decide) ?_
        exact ih_34 z_14 (by show (11 - (z_14).toInt).toNat < (11 - (v34_9_0).toInt).toNat; omega) _ _ _ ⟨⟨by omega, by omega⟩, h, (lv_sub hl_14 [1, 2, 3, 4, 5, 0] rfl)⟩
      · skip
        refine lv_icmp_ne (tgt := 78) hx hb dX0_canSit_51 (by decide) (fun c_15 => ?_) (fun c_15 => ?_)
        · replace c_15 := i_ne (x := z_12) (y := 1) rfl (show (1 : Int32).toInt = 1 by decide) c_15
          exact J_78 _ _ _ _ ⟨rfl, h, (lv_sub hl [0, 1, 2, 3, 4, 5] rfl)⟩
        · replace c_15 := i_eq (x := z_12) (y := 1) rfl (show (1 : Int32).toInt = 1 by decide) c_15
          refine lv_aload_n hx hb dX0_canSit_54 rfl (lv_at hl 0 rfl) ?_
          refine lv_iload_n hx hb dX0_canSit_55 rfl (lv_at hl 1 rfl) ?_
          refine lv_iconst (v := 1) hx hb dX0_canSit_56 (by decide) ?_
          refine lv_iload_n hx hb dX0_canSit_57 rfl (lv_at hl 3 rfl) ?_
          refine lv_ishl hx hb dX0_canSit_58 ?_
          obtain ⟨z_16, ez_16, hz_16⟩ := e_shlk (p := r_2) 9 (by decide) rfl (by omega) (by omega)
          refine q_c z_16 ez_16 ?_
          clear ez_16
          refine lv_iconst (v := 1) hx hb dX0_canSit_59 (by decide) ?_
          refine lv_iload hx hb dX0_canSit_60 (lv_at hl 5 rfl) ?_
          refine lv_ishl hx hb dX0_canSit_62 ?_
          obtain ⟨z_17, ez_17, hz_17⟩ := e_shlk (p := v34_9_0) 9 (by decide) rfl (by omega) (by omega)
          refine q_c z_17 ez_17 ?_
          clear ez_17
          refine lv_ior hx hb dX0_canSit_63 ?_
          obtain ⟨z_18, ez_18, hz_18⟩ := e_or (x := z_16) (y := z_17) 10 (by decide) rfl rfl (by omega) (by omega) (by omega) (by omega)
          refine q_c z_18 ez_18 ?_
          clear ez_18
          refine lv_iconst (v := (-1)) hx hb dX0_canSit_64 (by decide) ?_
          refine lv_ixor hx hb dX0_canSit_65 ?_
          refine q_any (fun z_19 hz_19 => ?_)
          refine lv_iand hx hb dX0_canSit_66 ?_
          obtain ⟨z_20, ez_20, hz_20⟩ := e_and1 (x := p0) (y := z_19) rfl (by omega)
          refine q_c z_20 ez_20 ?_
          clear ez_20
          refine lv_iload_n hx hb dX0_canSit_67 rfl (lv_at hl 2 rfl) ?_
          refine lv_iconst (v := 1) hx hb dX0_canSit_68 (by decide) ?_
          refine lv_iadd hx hb dX0_canSit_69 ?_
          refine q_c 3 (by decide +kernel) ?_
          refine q_callVi (rest := []) (wr := []) X hK hT hA h (fun sz => gX0_canSit_c0eee13 l D cy h0 h1 z_20 p1 w0 w1 f0 ⟨by omega, by omega⟩ hp1 sz) wm_4_117 wm_4_112 wm_1_6 hd_X0_canSit wm_4_110 wm_4_111 (ci := 0) (q0 := 0) rfl rfl ⟨Nat.le_of_ble_eq_true rfl, Nat.le_of_ble_eq_true rfl⟩ hl.1 rfl (Nat.le_of_ble_eq_true rfl) dX0_canSit_70 ⟨Nat.le_of_ble_eq_true rfl, Nat.le_of_ble_eq_true rfl⟩ [0, 1] [] rfl rfl (by decide) rfl rfl (fun r_21 u_21 H locs w_21 h_21 => ?_)
          clear h
          obtain ⟨wr_21, _⟩ := w_21
          replace h_21 : qW D _ _ (wk_61955d11b cy h0 p1 h1 w0 w1 h1 f0) _ _ := h_21
          refine lv_if_eq (tgt := 78) hx hb dX0_canSit_73 (by decide) (fun c_22 => ?_) (fun c_22 => ?_)
          · replace c_22 := i_eq (x := r_21) (y := 0) rfl (show (0 : Int32).toInt = 0 by decide) c_22
            exact J_78 _ _ _ _ ⟨rfl, h_21, (lv_sub hl [0, 1, 2, 3, 4, 5] rfl)⟩
          · replace c_22 := i_ne (x := r_21) (y := 0) rfl (show (0 : Int32).toInt = 0 by decide) c_22
            refine lv_iconst (v := 1) hx hb dX0_canSit_76 (by decide) ?_
            exact q_iret X hr hlk hK h_21 rfl (fun _ => 0, fun _ _ => 0, fun _ _ => 0) ⟨⟨by decide +kernel, by decide +kernel⟩, trivial⟩ [0, 1] rfl rfl dX0_canSit_77 (Nat.le_of_ble_eq_true rfl) (Nat.le_of_ble_eq_true rfl)
  · replace c_1 := i_eq (x := p0) (y := 0) rfl (show (0 : Int32).toInt = 0 by decide) c_1
    refine lv_iconst (v := 1) hx hb dX0_canSit_4 (by decide) ?_
    exact q_iret X hr hlk hK h rfl (fun _ => 0, fun _ _ => 0, fun _ _ => 0) ⟨⟨by decide +kernel, by decide +kernel⟩, trivial⟩ [0, 1] rfl rfl dX0_canSit_5 (Nat.le_of_ble_eq_true rfl) (Nat.le_of_ble_eq_true rfl)
set_option maxHeartbeats 4000000 in
set_option maxRecDepth 100000 in
theorem gX0_canSit_6582a98 (l : Launch) (D : va_G) (cy : Nat → ClassId) (h0 : Nat) (h1 : Nat) (p0 : Int32) (p1 : Int32) (w0 : Value) (w1 : Value) (f0 : Nat → Int32) (hp0 : 0 ≤ (p0).toInt ∧ (p0).toInt ≤ 1023) (hp1 : 2 ≤ (p1).toInt ∧ (p1).toInt ≤ 10) (sz : Nat) : MI l yX0_canSit cX0_canSit 6 .boolean { frames := 10, cells := 0, slots := 0, locals := 240 } [.ref h0, .int p0, .int 1] D cy (wk_61955d11b cy h0 p1 h1 w0 w1 h1 f0) sz (fun r u => (0 ≤ r.toInt ∧ r.toInt ≤ 1) ∧ True) (fun u => (wk_61955d11b cy h0 p1 h1 w0 w1 h1 f0)) 0 0 := by
  refine q_ent (own := RX0) (by decide) rfl (Nat.le_of_ble_eq_true rfl) (fun p e s m below meth c ls X hr hlk hnm hK hT h hA hl => ?_)
  obtain ⟨hx, hb, hml, hown, ht⟩ := id X
  replace hl : lv_has ls 6 [(0, .ref h0), (1, .int p0), (2, .int 1)] := hl
  refine lv_iload_n hx hb dX0_canSit_0 rfl (lv_at hl 1 rfl) ?_
  refine lv_if_ne (tgt := 6) hx hb dX0_canSit_1 (by decide) (fun c_1 => ?_) (fun c_1 => ?_)
  · replace c_1 := i_ne (x := p0) (y := 0) rfl (show (0 : Int32).toInt = 0 by decide) c_1
    refine lv_iload_n hx hb dX0_canSit_6 rfl (lv_at hl 2 rfl) ?_
    refine lv_bipush (v := 10) hx hb dX0_canSit_7 (by decide) ?_
    refine lv_icmp_lt (tgt := 14) hx hb dX0_canSit_9 (by decide) (fun _ => ?_) (fun c => absurd c (by decide +kernel))
    refine lv_iload_n hx hb dX0_canSit_14 rfl (lv_at hl 1 rfl) ?_
    refine q_callSi (rest := []) (wr := (wk_61955d11b cy h0 p1 h1 w0 w1 h1 f0)) X hK hT hA h (fun sz => gX0_lowestOf_af0d02d l D cy p0 ⟨by omega, by omega⟩ sz) wm_4_113 wm_4_115 wm_1_6 hd_X0_lowestOf wm_4_114 ⟨Nat.le_of_ble_eq_true rfl, Nat.le_of_ble_eq_true rfl⟩ hl.1 rfl (Nat.le_of_ble_eq_true rfl) dX0_canSit_15 ⟨Nat.le_of_ble_eq_true rfl, Nat.le_of_ble_eq_true rfl⟩ [] [0, 1] rfl rfl (by decide) rfl rfl (fun r_2 u_2 H locs w_2 h_2 => ?_)
    clear h
    obtain ⟨wr_2, _⟩ := w_2
    replace h_2 : qW D _ _ (wk_61955d11b cy h0 p1 h1 w0 w1 h1 f0) _ _ := h_2
    refine lv_istore_n (lv' := [(3, .int r_2), (0, .ref h0), (1, .int p0), (2, .int 1)]) hx hb dX0_canSit_18 rfl hl (by decide) rfl (fun ls_3 hl_3 => ?_)
    clear hl
    refine lv_aload_n hx hb dX0_canSit_19 rfl (lv_at hl_3 1 rfl) ?_
    refine q_get X hK h_2 0 rfl rfl wf_0 1 (by decide) rfl wm_1_199 dX0_canSit_20 ?_
    refine lv_iload_n hx hb dX0_canSit_23 rfl (lv_at hl_3 0 rfl) ?_
    refine q_iald X hK h_2 1 rfl (i_in rfl (by omega) (by omega)) dX0_canSit_24 ?_
    refine q_any (fun z_4 hz_4 => ?_)
    refine lv_iload_n hx hb dX0_canSit_25 rfl (lv_at hl_3 2 rfl) ?_
    refine lv_iand hx hb dX0_canSit_26 ?_
    obtain ⟨z_5, ez_5, hz_5⟩ := e_and2 (x := z_4) (y := p0) rfl (by omega)
    refine q_c z_5 ez_5 ?_
    clear ez_5
    refine lv_istore (lv' := [(4, .int z_5), (3, .int r_2), (0, .ref h0), (1, .int p0), (2, .int 1)]) hx hb dX0_canSit_27 hl_3 (by decide) rfl (fun ls_6 hl_6 => ?_)
    clear hl_3
    refine lv_iload_n hx hb dX0_canSit_29 rfl (lv_at hl_6 1 rfl) ?_
    refine lv_iconst (v := 1) hx hb dX0_canSit_30 (by decide) ?_
    refine lv_iadd hx hb dX0_canSit_31 ?_
    obtain ⟨z_7, ez_7, hz_7⟩ := e_add (x := r_2) (y := 1) rfl (show (1 : Int32).toInt = 1 by decide) (by omega) (by omega)
    refine q_c z_7 ez_7 ?_
    clear ez_7
    refine lv_istore (lv' := [(5, .int z_7), (4, .int z_5), (3, .int r_2), (0, .ref h0), (1, .int p0), (2, .int 1)]) hx hb dX0_canSit_32 hl_6 (by decide) rfl (fun ls_8 hl_8 => ?_)
    clear hl_6
    refine q_wl (fun (v34_9_0 : Int32) H locs ls => (1 ≤ (v34_9_0).toInt ∧ (v34_9_0).toInt ≤ 10) ∧ qW D (va_A (wk_61955d11b cy h0 p1 h1 w0 w1 h1 f0) sz) s.heap (wk_61955d11b cy h0 p1 h1 w0 w1 h1 f0) H locs ∧ lv_has ls 6 [(0, .ref h0), (1, .int p0), (2, .int 1), (3, .int r_2), (4, .int z_5), (5, .int v34_9_0)]) (fun (v34_9_0 : Int32) => (11 - (v34_9_0).toInt).toNat) (fun q_34 ih_34 H locs ls hP => ?_) z_7 ⟨⟨by omega, by omega⟩, h_2, (lv_sub hl_8 [3, 4, 5, 2, 1, 0] rfl)⟩
    obtain ⟨v34_9_0, rfl⟩ : ∃ z, z = q_34 := ⟨_, rfl⟩
    obtain ⟨hv34_9_0, h, hl⟩ := hP
    refine lv_iload hx hb dX0_canSit_34 (lv_at hl 5 rfl) ?_
    refine lv_aload_n hx hb dX0_canSit_36 rfl (lv_at hl 0 rfl) ?_
    refine q_get X hK h 0 rfl rfl wf_0 0 (by decide) rfl wm_1_198 dX0_canSit_37 ?_
    refine lv_icmp_ge (tgt := 84) hx hb dX0_canSit_40 (by decide) (fun c_10 => ?_) (fun c_10 => ?_)
    · replace c_10 := i_le (x := p1) (y := v34_9_0) rfl rfl c_10
      refine lv_iconst (v := 0) hx hb dX0_canSit_84 (by decide) ?_
      exact q_iret X hr hlk hK h rfl (fun _ => 0, fun _ _ => 0, fun _ _ => 0) ⟨⟨by decide +kernel, by decide +kernel⟩, trivial⟩ [0, 1] rfl rfl dX0_canSit_85 (Nat.le_of_ble_eq_true rfl) (Nat.le_of_ble_eq_true rfl)
    · replace c_10 := i_nle (x := p1) (y := v34_9_0) rfl rfl c_10
      refine lv_iload hx hb dX0_canSit_43 (lv_at hl 4 rfl) ?_
      refine lv_iload hx hb dX0_canSit_45 (lv_at hl 5 rfl) ?_
      refine lv_ishr hx hb dX0_canSit_47 ?_
      obtain ⟨z_11, ez_11, hz_11⟩ := e_shr (x := z_5) v34_9_0 rfl (by omega)
      refine q_c z_11 ez_11 ?_
      clear ez_11
      refine lv_iconst (v := 1) hx hb dX0_canSit_48 (by decide) ?_
      refine lv_iand hx hb dX0_canSit_49 ?_
      obtain ⟨z_12, ez_12, hz_12⟩ := e_and2 (x := z_11) (y := 1) (show (1 : Int32).toInt = 1 by decide) (by omega)
      refine q_c z_12 ez_12 ?_
      clear ez_12
      refine lv_iconst (v := 1) hx hb dX0_canSit_50 (by decide) ?_
      refine q_jn (pc2 := 78) (fun H locs ls st => st = [] ∧ qW D (va_A (wk_61955d11b cy h0 p1 h1 w0 w1 h1 f0) sz) s.heap (wk_61955d11b cy h0 p1 h1 w0 w1 h1 f0) H locs ∧ lv_has ls 6 [(0, .ref h0), (1, .int p0), (2, .int 1), (3, .int r_2), (4, .int z_5), (5, .int v34_9_0)]) (fun H locs ls st hP => ?_) (fun J_78 => ?_)
      · obtain ⟨rfl, h, hl⟩ := hP
        obtain ⟨z_14, ez_14, hz_14⟩ := e_add (x := v34_9_0) (y := Int32.ofInt 1) rfl (b := 1) (by decide) (by omega) (by omega)
        refine lv_iinc (v := z_14) (lv' := [(5, .int z_14), (0, .ref h0), (1, .int p0), (2, .int 1), (3, .int r_2), (4, .int z_5)]) hx hb dX0_canSit_78 hl (k := 5) rfl ez_14 (by decide) rfl (fun ls_14 hl_14 => ?_)
        clear hl
        refine lv_goto (tgt := 34) hx hb dX0_canSit_81 (by decide) ?_
        exact ih_34 z_14 (by show (11 - (z_14).toInt).toNat < (11 - (v34_9_0).toInt).toNat; omega) _ _ _ ⟨⟨by omega, by omega⟩, h, (lv_sub hl_14 [1, 2, 3, 4, 5, 0] rfl)⟩
      · skip
        refine lv_icmp_ne (tgt := 78) hx hb dX0_canSit_51 (by decide) (fun c_15 => ?_) (fun c_15 => ?_)
        · replace c_15 := i_ne (x := z_12) (y := 1) rfl (show (1 : Int32).toInt = 1 by decide) c_15
          exact J_78 _ _ _ _ ⟨rfl, h, (lv_sub hl [0, 1, 2, 3, 4, 5] rfl)⟩
        · replace c_15 := i_eq (x := z_12) (y := 1) rfl (show (1 : Int32).toInt = 1 by decide) c_15
          refine lv_aload_n hx hb dX0_canSit_54 rfl (lv_at hl 0 rfl) ?_
          refine lv_iload_n hx hb dX0_canSit_55 rfl (lv_at hl 1 rfl) ?_
          refine lv_iconst (v := 1) hx hb dX0_canSit_56 (by decide) ?_
          refine lv_iload_n hx hb dX0_canSit_57 rfl (lv_at hl 3 rfl) ?_
          refine lv_ishl hx hb dX0_canSit_58 ?_
          obtain ⟨z_16, ez_16, hz_16⟩ := e_shlk (p := r_2) 9 (by decide) rfl (by omega) (by omega)
          refine q_c z_16 ez_16 ?_
          clear ez_16
          refine lv_iconst (v := 1) hx hb dX0_canSit_59 (by decide) ?_
          refine lv_iload hx hb dX0_canSit_60 (lv_at hl 5 rfl) ?_
          refine lv_ishl hx hb dX0_canSit_62 ?_
          obtain ⟨z_17, ez_17, hz_17⟩ := e_shlk (p := v34_9_0) 9 (by decide) rfl (by omega) (by omega)
          refine q_c z_17 ez_17 ?_
          clear ez_17
          refine lv_ior hx hb dX0_canSit_63 ?_
          obtain ⟨z_18, ez_18, hz_18⟩ := e_or (x := z_16) (y := z_17) 10 (by decide) rfl rfl (by omega) (by omega) (by omega) (by omega)
          refine q_c z_18 ez_18 ?_
          clear ez_18
          refine lv_iconst (v := (-1)) hx hb dX0_canSit_64 (by decide) ?_
          refine lv_ixor hx hb dX0_canSit_65 ?_
          refine q_any (fun z_19 hz_19 => ?_)
          refine lv_iand hx hb dX0_canSit_66 ?_
          obtain ⟨z_20, ez_20, hz_20⟩ := e_and1 (x := p0) (y := z_19) rfl (by omega)
          refine q_c z_20 ez_20 ?_
          clear ez_20
          refine lv_iload_n hx hb dX0_canSit_67 rfl (lv_at hl 2 rfl) ?_
          refine lv_iconst (v := 1) hx hb dX0_canSit_68 (by decide) ?_
          refine lv_iadd hx hb dX0_canSit_69 ?_
          refine q_c 2 (by decide +kernel) ?_
          refine q_callVi (rest := []) (wr := []) X hK hT hA h (fun sz => gX0_canSit_09cf255 l D cy h0 h1 z_20 p1 w0 w1 f0 ⟨by omega, by omega⟩ hp1 sz) wm_4_117 wm_4_112 wm_1_6 hd_X0_canSit wm_4_110 wm_4_111 (ci := 0) (q0 := 0) rfl rfl ⟨Nat.le_of_ble_eq_true rfl, Nat.le_of_ble_eq_true rfl⟩ hl.1 rfl (Nat.le_of_ble_eq_true rfl) dX0_canSit_70 ⟨Nat.le_of_ble_eq_true rfl, Nat.le_of_ble_eq_true rfl⟩ [0, 1] [] rfl rfl (by decide) rfl rfl (fun r_21 u_21 H locs w_21 h_21 => ?_)
          clear h
          obtain ⟨wr_21, _⟩ := w_21
          replace h_21 : qW D _ _ (wk_61955d11b cy h0 p1 h1 w0 w1 h1 f0) _ _ := h_21
          refine lv_if_eq (tgt := 78) hx hb dX0_canSit_73 (by decide) (fun c_22 => ?_) (fun c_22 => ?_)
          · replace c_22 := i_eq (x := r_21) (y := 0) rfl (show (0 : Int32).toInt = 0 by decide) c_22
            exact J_78 _ _ _ _ ⟨rfl, h_21, (lv_sub hl [0, 1, 2, 3, 4, 5] rfl)⟩
          · replace c_22 := i_ne (x := r_21) (y := 0) rfl (show (0 : Int32).toInt = 0 by decide) c_22
            refine lv_iconst (v := 1) hx hb dX0_canSit_76 (by decide) ?_
            exact q_iret X hr hlk hK h_21 rfl (fun _ => 0, fun _ _ => 0, fun _ _ => 0) ⟨⟨by decide +kernel, by decide +kernel⟩, trivial⟩ [0, 1] rfl rfl dX0_canSit_77 (Nat.le_of_ble_eq_true rfl) (Nat.le_of_ble_eq_true rfl)
  · replace c_1 := i_eq (x := p0) (y := 0) rfl (show (0 : Int32).toInt = 0 by decide) c_1
    refine lv_iconst (v := 1) hx hb dX0_canSit_4 (by decide) ?_
    exact q_iret X hr hlk hK h rfl (fun _ => 0, fun _ _ => 0, fun _ _ => 0) ⟨⟨by decide +kernel, by decide +kernel⟩, trivial⟩ [0, 1] rfl rfl dX0_canSit_5 (Nat.le_of_ble_eq_true rfl) (Nat.le_of_ble_eq_true rfl)
set_option maxHeartbeats 4000000 in
set_option maxRecDepth 100000 in
theorem gX0_canSit_8989582 (l : Launch) (D : va_G) (cy : Nat → ClassId) (h0 : Nat) (h1 : Nat) (p0 : Int32) (p1 : Int32) (w0 : Value) (w1 : Value) (f0 : Nat → Int32) (hp0 : 0 ≤ (p0).toInt ∧ (p0).toInt ≤ 1023) (hp1 : 0 ≤ (p1).toInt ∧ (p1).toInt ≤ 10) (sz : Nat) : MI l yX0_canSit cX0_canSit 6 .boolean { frames := 11, cells := 0, slots := 0, locals := 265 } [.ref h0, .int p0, .int 0] D cy (wk_61955d11b cy h0 p1 h1 w0 w1 h1 f0) sz (fun r u => (0 ≤ r.toInt ∧ r.toInt ≤ 1) ∧ True) (fun u => (wk_61955d11b cy h0 p1 h1 w0 w1 h1 f0)) 0 0 := by
  refine q_ent (own := RX0) (by decide) rfl (Nat.le_of_ble_eq_true rfl) (fun p e s m below meth c ls X hr hlk hnm hK hT h hA hl => ?_)
  obtain ⟨hx, hb, hml, hown, ht⟩ := id X
  replace hl : lv_has ls 6 [(0, .ref h0), (1, .int p0), (2, .int 0)] := hl
  refine lv_iload_n hx hb dX0_canSit_0 rfl (lv_at hl 1 rfl) ?_
  refine lv_if_ne (tgt := 6) hx hb dX0_canSit_1 (by decide) (fun c_1 => ?_) (fun c_1 => ?_)
  · replace c_1 := i_ne (x := p0) (y := 0) rfl (show (0 : Int32).toInt = 0 by decide) c_1
    refine lv_iload_n hx hb dX0_canSit_6 rfl (lv_at hl 2 rfl) ?_
    refine lv_bipush (v := 10) hx hb dX0_canSit_7 (by decide) ?_
    refine lv_icmp_lt (tgt := 14) hx hb dX0_canSit_9 (by decide) (fun _ => ?_) (fun c => absurd c (by decide +kernel))
    refine lv_iload_n hx hb dX0_canSit_14 rfl (lv_at hl 1 rfl) ?_
    refine q_callSi (rest := []) (wr := (wk_61955d11b cy h0 p1 h1 w0 w1 h1 f0)) X hK hT hA h (fun sz => gX0_lowestOf_af0d02d l D cy p0 ⟨by omega, by omega⟩ sz) wm_4_113 wm_4_115 wm_1_6 hd_X0_lowestOf wm_4_114 ⟨Nat.le_of_ble_eq_true rfl, Nat.le_of_ble_eq_true rfl⟩ hl.1 rfl (Nat.le_of_ble_eq_true rfl) dX0_canSit_15 ⟨Nat.le_of_ble_eq_true rfl, Nat.le_of_ble_eq_true rfl⟩ [] [0, 1] rfl rfl (by decide) rfl rfl (fun r_2 u_2 H locs w_2 h_2 => ?_)
    clear h
    obtain ⟨wr_2, _⟩ := w_2
    replace h_2 : qW D _ _ (wk_61955d11b cy h0 p1 h1 w0 w1 h1 f0) _ _ := h_2
    refine lv_istore_n (lv' := [(3, .int r_2), (0, .ref h0), (1, .int p0), (2, .int 0)]) hx hb dX0_canSit_18 rfl hl (by decide) rfl (fun ls_3 hl_3 => ?_)
    clear hl
    refine lv_aload_n hx hb dX0_canSit_19 rfl (lv_at hl_3 1 rfl) ?_
    refine q_get X hK h_2 0 rfl rfl wf_0 1 (by decide) rfl wm_1_199 dX0_canSit_20 ?_
    refine lv_iload_n hx hb dX0_canSit_23 rfl (lv_at hl_3 0 rfl) ?_
    refine q_iald X hK h_2 1 rfl (i_in rfl (by omega) (by omega)) dX0_canSit_24 ?_
    refine q_any (fun z_4 hz_4 => ?_)
    refine lv_iload_n hx hb dX0_canSit_25 rfl (lv_at hl_3 2 rfl) ?_
    refine lv_iand hx hb dX0_canSit_26 ?_
    obtain ⟨z_5, ez_5, hz_5⟩ := e_and2 (x := z_4) (y := p0) rfl (by omega)
    refine q_c z_5 ez_5 ?_
    clear ez_5
    refine lv_istore (lv' := [(4, .int z_5), (3, .int r_2), (0, .ref h0), (1, .int p0), (2, .int 0)]) hx hb dX0_canSit_27 hl_3 (by decide) rfl (fun ls_6 hl_6 => ?_)
    clear hl_3
    refine lv_iload_n hx hb dX0_canSit_29 rfl (lv_at hl_6 1 rfl) ?_
    refine lv_iconst (v := 1) hx hb dX0_canSit_30 (by decide) ?_
    refine lv_iadd hx hb dX0_canSit_31 ?_
    obtain ⟨z_7, ez_7, hz_7⟩ := e_add (x := r_2) (y := 1) rfl (show (1 : Int32).toInt = 1 by decide) (by omega) (by omega)
    refine q_c z_7 ez_7 ?_
    clear ez_7
    refine lv_istore (lv' := [(5, .int z_7), (4, .int z_5), (3, .int r_2), (0, .ref h0), (1, .int p0), (2, .int 0)]) hx hb dX0_canSit_32 hl_6 (by decide) rfl (fun ls_8 hl_8 => ?_)
    clear hl_6
    refine q_wl (fun (v34_9_0 : Int32) H locs ls => (1 ≤ (v34_9_0).toInt ∧ (v34_9_0).toInt ≤ 10) ∧ qW D (va_A (wk_61955d11b cy h0 p1 h1 w0 w1 h1 f0) sz) s.heap (wk_61955d11b cy h0 p1 h1 w0 w1 h1 f0) H locs ∧ lv_has ls 6 [(0, .ref h0), (1, .int p0), (2, .int 0), (3, .int r_2), (4, .int z_5), (5, .int v34_9_0)]) (fun (v34_9_0 : Int32) => (11 - (v34_9_0).toInt).toNat) (fun q_34 ih_34 H locs ls hP => ?_) z_7 ⟨⟨by omega, by omega⟩, h_2, (lv_sub hl_8 [3, 4, 5, 2, 1, 0] rfl)⟩
    obtain ⟨v34_9_0, rfl⟩ : ∃ z, z = q_34 := ⟨_, rfl⟩
    obtain ⟨hv34_9_0, h, hl⟩ := hP
    refine lv_iload hx hb dX0_canSit_34 (lv_at hl 5 rfl) ?_
    refine lv_aload_n hx hb dX0_canSit_36 rfl (lv_at hl 0 rfl) ?_
    refine q_get X hK h 0 rfl rfl wf_0 0 (by decide) rfl wm_1_198 dX0_canSit_37 ?_
    refine lv_icmp_ge (tgt := 84) hx hb dX0_canSit_40 (by decide) (fun c_10 => ?_) (fun c_10 => ?_)
    · replace c_10 := i_le (x := p1) (y := v34_9_0) rfl rfl c_10
      refine lv_iconst (v := 0) hx hb dX0_canSit_84 (by decide) ?_
      exact q_iret X hr hlk hK h rfl (fun _ => 0, fun _ _ => 0, fun _ _ => 0) ⟨⟨by decide +kernel, by decide +kernel⟩, trivial⟩ [0, 1] rfl rfl dX0_canSit_85 (Nat.le_of_ble_eq_true rfl) (Nat.le_of_ble_eq_true rfl)
    · replace c_10 := i_nle (x := p1) (y := v34_9_0) rfl rfl c_10
      refine lv_iload hx hb dX0_canSit_43 (lv_at hl 4 rfl) ?_
      refine lv_iload hx hb dX0_canSit_45 (lv_at hl 5 rfl) ?_
      refine lv_ishr hx hb dX0_canSit_47 ?_
      obtain ⟨z_11, ez_11, hz_11⟩ := e_shr (x := z_5) v34_9_0 rfl (by omega)
      refine q_c z_11 ez_11 ?_
      clear ez_11
      refine lv_iconst (v := 1) hx hb dX0_canSit_48 (by decide) ?_
      refine lv_iand hx hb dX0_canSit_49 ?_
      obtain ⟨z_12, ez_12, hz_12⟩ := e_and2 (x := z_11) (y := 1) (show (1 : Int32).toInt = 1 by decide) (by omega)
      refine q_c z_12 ez_12 ?_
      clear ez_12
      refine lv_iconst (v := 1) hx hb dX0_canSit_50 (by decide) ?_
      refine q_jn (pc2 := 78) (fun H locs ls st => st = [] ∧ qW D (va_A (wk_61955d11b cy h0 p1 h1 w0 w1 h1 f0) sz) s.heap (wk_61955d11b cy h0 p1 h1 w0 w1 h1 f0) H locs ∧ lv_has ls 6 [(0, .ref h0), (1, .int p0), (2, .int 0), (3, .int r_2), (4, .int z_5), (5, .int v34_9_0)]) (fun H locs ls st hP => ?_) (fun J_78 => ?_)
      · obtain ⟨rfl, h, hl⟩ := hP
        obtain ⟨z_14, ez_14, hz_14⟩ := e_add (x := v34_9_0) (y := Int32.ofInt 1) rfl (b := 1) (by decide) (by omega) (by omega)
        refine lv_iinc (v := z_14) (lv' := [(5, .int z_14), (0, .ref h0), (1, .int p0), (2, .int 0), (3, .int r_2), (4, .int z_5)]) hx hb dX0_canSit_78 hl (k := 5) rfl ez_14 (by decide) rfl (fun ls_14 hl_14 => ?_)
        clear hl
        refine lv_goto (tgt := 34) hx hb dX0_canSit_81 (by decide) ?_
        exact ih_34 z_14 (by show (11 - (z_14).toInt).toNat < (11 - (v34_9_0).toInt).toNat; omega) _ _ _ ⟨⟨by omega, by omega⟩, h, (lv_sub hl_14 [1, 2, 3, 4, 5, 0] rfl)⟩
      · skip
        refine lv_icmp_ne (tgt := 78) hx hb dX0_canSit_51 (by decide) (fun c_15 => ?_) (fun c_15 => ?_)
        · replace c_15 := i_ne (x := z_12) (y := 1) rfl (show (1 : Int32).toInt = 1 by decide) c_15
          exact J_78 _ _ _ _ ⟨rfl, h, (lv_sub hl [0, 1, 2, 3, 4, 5] rfl)⟩
        · replace c_15 := i_eq (x := z_12) (y := 1) rfl (show (1 : Int32).toInt = 1 by decide) c_15
          refine lv_aload_n hx hb dX0_canSit_54 rfl (lv_at hl 0 rfl) ?_
          refine lv_iload_n hx hb dX0_canSit_55 rfl (lv_at hl 1 rfl) ?_
          refine lv_iconst (v := 1) hx hb dX0_canSit_56 (by decide) ?_
          refine lv_iload_n hx hb dX0_canSit_57 rfl (lv_at hl 3 rfl) ?_
          refine lv_ishl hx hb dX0_canSit_58 ?_
          obtain ⟨z_16, ez_16, hz_16⟩ := e_shlk (p := r_2) 9 (by decide) rfl (by omega) (by omega)
          refine q_c z_16 ez_16 ?_
          clear ez_16
          refine lv_iconst (v := 1) hx hb dX0_canSit_59 (by decide) ?_
          refine lv_iload hx hb dX0_canSit_60 (lv_at hl 5 rfl) ?_
          refine lv_ishl hx hb dX0_canSit_62 ?_
          obtain ⟨z_17, ez_17, hz_17⟩ := e_shlk (p := v34_9_0) 9 (by decide) rfl (by omega) (by omega)
          refine q_c z_17 ez_17 ?_
          clear ez_17
          refine lv_ior hx hb dX0_canSit_63 ?_
          obtain ⟨z_18, ez_18, hz_18⟩ := e_or (x := z_16) (y := z_17) 10 (by decide) rfl rfl (by omega) (by omega) (by omega) (by omega)
          refine q_c z_18 ez_18 ?_
          clear ez_18
          refine lv_iconst (v := (-1)) hx hb dX0_canSit_64 (by decide) ?_
          refine lv_ixor hx hb dX0_canSit_65 ?_
          refine q_any (fun z_19 hz_19 => ?_)
          refine lv_iand hx hb dX0_canSit_66 ?_
          obtain ⟨z_20, ez_20, hz_20⟩ := e_and1 (x := p0) (y := z_19) rfl (by omega)
          refine q_c z_20 ez_20 ?_
          clear ez_20
          refine lv_iload_n hx hb dX0_canSit_67 rfl (lv_at hl 2 rfl) ?_
          refine lv_iconst (v := 1) hx hb dX0_canSit_68 (by decide) ?_
          refine lv_iadd hx hb dX0_canSit_69 ?_
          refine q_c 1 (by decide +kernel) ?_
          refine q_callVi (rest := []) (wr := []) X hK hT hA h (fun sz => gX0_canSit_6582a98 l D cy h0 h1 z_20 p1 w0 w1 f0 ⟨by omega, by omega⟩ ⟨by omega, by omega⟩ sz) wm_4_117 wm_4_112 wm_1_6 hd_X0_canSit wm_4_110 wm_4_111 (ci := 0) (q0 := 0) rfl rfl ⟨Nat.le_of_ble_eq_true rfl, Nat.le_of_ble_eq_true rfl⟩ hl.1 rfl (Nat.le_of_ble_eq_true rfl) dX0_canSit_70 ⟨Nat.le_of_ble_eq_true rfl, Nat.le_of_ble_eq_true rfl⟩ [0, 1] [] rfl rfl (by decide) rfl rfl (fun r_21 u_21 H locs w_21 h_21 => ?_)
          clear h
          obtain ⟨wr_21, _⟩ := w_21
          replace h_21 : qW D _ _ (wk_61955d11b cy h0 p1 h1 w0 w1 h1 f0) _ _ := h_21
          refine lv_if_eq (tgt := 78) hx hb dX0_canSit_73 (by decide) (fun c_22 => ?_) (fun c_22 => ?_)
          · replace c_22 := i_eq (x := r_21) (y := 0) rfl (show (0 : Int32).toInt = 0 by decide) c_22
            exact J_78 _ _ _ _ ⟨rfl, h_21, (lv_sub hl [0, 1, 2, 3, 4, 5] rfl)⟩
          · replace c_22 := i_ne (x := r_21) (y := 0) rfl (show (0 : Int32).toInt = 0 by decide) c_22
            refine lv_iconst (v := 1) hx hb dX0_canSit_76 (by decide) ?_
            exact q_iret X hr hlk hK h_21 rfl (fun _ => 0, fun _ _ => 0, fun _ _ => 0) ⟨⟨by decide +kernel, by decide +kernel⟩, trivial⟩ [0, 1] rfl rfl dX0_canSit_77 (Nat.le_of_ble_eq_true rfl) (Nat.le_of_ble_eq_true rfl)
  · replace c_1 := i_eq (x := p0) (y := 0) rfl (show (0 : Int32).toInt = 0 by decide) c_1
    refine lv_iconst (v := 1) hx hb dX0_canSit_4 (by decide) ?_
    exact q_iret X hr hlk hK h rfl (fun _ => 0, fun _ _ => 0, fun _ _ => 0) ⟨⟨by decide +kernel, by decide +kernel⟩, trivial⟩ [0, 1] rfl rfl dX0_canSit_5 (Nat.le_of_ble_eq_true rfl) (Nat.le_of_ble_eq_true rfl)
set_option maxHeartbeats 4000000 in
set_option maxRecDepth 100000 in
theorem gX0_worthWith_017910b (l : Launch) (D : va_G) (cy : Nat → ClassId) (h0 : Nat) (h1 : Nat) (h2 : Nat) (p0 : Int32) (p1 : Int32) (p2 : Int32) (p3 : Int32) (w0 : Value) (w1 : Value) (f0 : Nat → Int32) (f1 : Nat → Int32) (hp0 : 0 ≤ (p0).toInt ∧ (p0).toInt ≤ 9) (hp1 : 1 ≤ (p1).toInt ∧ (p1).toInt ≤ 9) (hp2 : 0 ≤ (p2).toInt ∧ (p2).toInt ≤ 1023) (hp3 : 2 ≤ (p3).toInt ∧ (p3).toInt ≤ 10) (sz : Nat) : MI l yX0_worthWith cX0_worthWith 5 .int { frames := 0, cells := 0, slots := 0, locals := 0 } [.ref h0, .int p0, .int p1, .int p2, .ref h2] D cy (wk_1002ad98f cy h0 p3 w0 w1 h1 h1 f0 h2 f1) sz (fun r u => ((-2147483648) ≤ r.toInt ∧ r.toInt ≤ 2147483647) ∧ True) (fun u => (wk_1002ad98f cy h0 p3 w0 w1 h1 h1 f0 h2 f1)) 0 0 := by
  refine q_ent (own := RX0) (by decide) rfl (Nat.le_of_ble_eq_true rfl) (fun p e s m below meth c ls X hr hlk hnm hK hT h hA hl => ?_)
  obtain ⟨hx, hb, hml, hown, ht⟩ := id X
  replace hl : lv_has ls 5 [(0, .ref h0), (1, .int p0), (2, .int p1), (3, .int p2), (4, .ref h2)] := hl
  refine lv_aload_n hx hb dX0_worthWith_0 rfl (lv_at hl 0 rfl) ?_
  refine q_get X hK h 0 rfl rfl wf_0 3 (by decide) rfl wm_1_203 dX0_worthWith_1 ?_
  refine lv_iload_n hx hb dX0_worthWith_4 rfl (lv_at hl 3 rfl) ?_
  refine lv_iconst (v := 1) hx hb dX0_worthWith_5 (by decide) ?_
  refine lv_iload_n hx hb dX0_worthWith_6 rfl (lv_at hl 1 rfl) ?_
  refine lv_ishl hx hb dX0_worthWith_7 ?_
  obtain ⟨z_1, ez_1, hz_1⟩ := e_shlk (p := p0) 9 (by decide) rfl (by omega) (by omega)
  refine q_c z_1 ez_1 ?_
  clear ez_1
  refine lv_iconst (v := 1) hx hb dX0_worthWith_8 (by decide) ?_
  refine lv_iload_n hx hb dX0_worthWith_9 rfl (lv_at hl 2 rfl) ?_
  refine lv_ishl hx hb dX0_worthWith_10 ?_
  obtain ⟨z_2, ez_2, hz_2⟩ := e_shlk (p := p1) 9 (by decide) rfl (by omega) (by omega)
  refine q_c z_2 ez_2 ?_
  clear ez_2
  refine lv_ior hx hb dX0_worthWith_11 ?_
  obtain ⟨z_3, ez_3, hz_3⟩ := e_or (x := z_1) (y := z_2) 10 (by decide) rfl rfl (by omega) (by omega) (by omega) (by omega)
  refine q_c z_3 ez_3 ?_
  clear ez_3
  refine lv_iconst (v := (-1)) hx hb dX0_worthWith_12 (by decide) ?_
  refine lv_ixor hx hb dX0_worthWith_13 ?_
  refine q_any (fun z_4 hz_4 => ?_)
  refine lv_iand hx hb dX0_worthWith_14 ?_
  obtain ⟨z_5, ez_5, hz_5⟩ := e_and1 (x := p2) (y := z_4) rfl (by omega)
  refine q_c z_5 ez_5 ?_
  clear ez_5
  refine q_iald X hK h 1 rfl (i_in rfl (by omega) (by omega)) dX0_worthWith_15 ?_
  refine q_any (fun z_6 hz_6 => ?_)
  refine lv_sipush (v := 1000) hx hb dX0_worthWith_16 (by decide) ?_
  refine lv_iadd hx hb dX0_worthWith_19 ?_
  refine q_any (fun z_7 hz_7 => ?_)
  refine lv_aload hx hb dX0_worthWith_20 (lv_at hl 4 rfl) ?_
  refine lv_iload_n hx hb dX0_worthWith_22 rfl (lv_at hl 1 rfl) ?_
  refine q_iald X hK h 2 rfl (i_in rfl (by omega) (by omega)) dX0_worthWith_23 ?_
  refine q_any (fun z_8 hz_8 => ?_)
  refine lv_iadd hx hb dX0_worthWith_24 ?_
  refine q_any (fun z_9 hz_9 => ?_)
  refine lv_aload hx hb dX0_worthWith_25 (lv_at hl 4 rfl) ?_
  refine lv_iload_n hx hb dX0_worthWith_27 rfl (lv_at hl 2 rfl) ?_
  refine q_iald X hK h 2 rfl (i_in rfl (by omega) (by omega)) dX0_worthWith_28 ?_
  refine q_any (fun z_10 hz_10 => ?_)
  refine lv_iadd hx hb dX0_worthWith_29 ?_
  refine q_any (fun z_11 hz_11 => ?_)
  exact q_iret X hr hlk hK h rfl (fun _ => 0, fun _ _ => 0, fun _ _ => 0) ⟨⟨by omega, by omega⟩, trivial⟩ [0, 1, 2] rfl rfl dX0_worthWith_30 (Nat.le_of_ble_eq_true rfl) (Nat.le_of_ble_eq_true rfl)
set_option maxHeartbeats 4000000 in
set_option maxRecDepth 100000 in
theorem gX0_weighPairs_bd60570 (l : Launch) (D : va_G) (cy : Nat → ClassId) (h0 : Nat) (h1 : Nat) (h2 : Nat) (h3 : Nat) (p0 : Int32) (w0 : Value) (f0 : Nat → Int32) (f1 : Nat → Int32) (f2 : Nat → Int32) (hp0 : 0 ≤ (p0).toInt ∧ (p0).toInt ≤ 10) (rf0 : RG f0 10 0 1023) (sz : Nat) : MV l yX0_weighPairs cX0_weighPairs 7 { frames := 2, cells := 0, slots := 0, locals := 40 } [.ref h0, .ref h3] D cy (wk_a3a6c9aae cy h0 p0 h1 w0 h2 h1 f0 h2 f1 h3 f2) sz (fun u => True) (fun u => (wk_a3a6c9aae cy h0 p0 h1 w0 h2 h1 f0 h2 (u.2.1 0) h3 f2)) 0 0 := by
  refine q_ent (own := RX0) (by decide) rfl (Nat.le_of_ble_eq_true rfl) (fun p e s m below meth c ls X hr hlk hnm hK hT h hA hl => ?_)
  obtain ⟨hx, hb, hml, hown, ht⟩ := id X
  replace hl : lv_has ls 7 [(0, .ref h0), (1, .ref h3)] := hl
  refine lv_aload_n hx hb dX0_weighPairs_0 rfl (lv_at hl 0 rfl) ?_
  refine q_get X hK h 0 rfl rfl wf_0 3 (by decide) rfl wm_1_203 dX0_weighPairs_1 ?_
  refine lv_iconst (v := 0) hx hb dX0_weighPairs_4 (by decide) ?_
  refine lv_iconst (v := 0) hx hb dX0_weighPairs_5 (by decide) ?_
  refine q_iast X hK h 2 rfl (q_in (by decide +kernel)) dX0_weighPairs_6 (fun H locs h_2 => ?_)
  clear h
  replace h_2 : qW D _ _ (wk_a3a6c9aae cy h0 p0 h1 w0 h2 h1 f0 h2 (upd f1 (Int32.toNatClampNeg 0) 0) h3 f2) _ _ := h_2
  obtain ⟨F_1, eF_1⟩ : ∃ z, (upd f1 (Int32.toNatClampNeg 0) 0) = z := ⟨_, rfl⟩
  rw [eF_1] at h_2
  clear eF_1
  refine lv_iconst (v := 1) hx hb dX0_weighPairs_7 (by decide) ?_
  refine lv_istore_n (lv' := [(2, .int 1), (0, .ref h0), (1, .ref h3)]) hx hb dX0_weighPairs_8 rfl hl (by decide) rfl (fun ls_3 hl_3 => ?_)
  clear hl
  refine q_wl (fun (v9_4_0 : Int32) H locs ls => ∃ v9_4_1 : Nat → Int32, (1 ≤ (v9_4_0).toInt ∧ (v9_4_0).toInt ≤ 1024) ∧ qW D (va_A (wk_a3a6c9aae cy h0 p0 h1 w0 h2 h1 f0 h2 f1 h3 f2) sz) s.heap (wk_a3a6c9aae cy h0 p0 h1 w0 h2 h1 f0 h2 v9_4_1 h3 f2) H locs ∧ lv_has ls 7 [(0, .ref h0), (1, .ref h3), (2, .int v9_4_0)]) (fun (v9_4_0 : Int32) => (1025 - (v9_4_0).toInt).toNat) (fun q_9 ih_9 H locs ls hP => ?_) 1 ⟨F_1, ⟨by decide +kernel, by decide +kernel⟩, h_2, (lv_sub hl_3 [1, 2, 0] rfl)⟩
  obtain ⟨v9_4_0, rfl⟩ : ∃ z, z = q_9 := ⟨_, rfl⟩
  obtain ⟨v9_4_1, hv9_4_0, h, hl⟩ := hP
  refine lv_iload_n hx hb dX0_weighPairs_9 rfl (lv_at hl 2 rfl) ?_
  refine lv_iconst (v := 1) hx hb dX0_weighPairs_10 (by decide) ?_
  refine lv_aload_n hx hb dX0_weighPairs_11 rfl (lv_at hl 0 rfl) ?_
  refine q_get X hK h 0 rfl rfl wf_0 0 (by decide) rfl wm_1_198 dX0_weighPairs_12 ?_
  refine lv_ishl hx hb dX0_weighPairs_15 ?_
  obtain ⟨z_5, ez_5, hz_5⟩ := e_shlk (p := p0) 10 (by decide) rfl (by omega) (by omega)
  refine q_c z_5 ez_5 ?_
  clear ez_5
  refine lv_icmp_ge (tgt := 109) hx hb dX0_weighPairs_16 (by decide) (fun c_6 => ?_) (fun c_6 => ?_)
  · replace c_6 := i_le (x := z_5) (y := v9_4_0) rfl rfl c_6
    exact q_vret X hr hlk hK h (fun _ => 0, (vcons v9_4_1 (fun _ => (fun _ => 0))), fun _ _ => 0) trivial [0, 1, 2, 3] rfl rfl dX0_weighPairs_109 (Nat.le_of_ble_eq_true rfl) (Nat.le_of_ble_eq_true rfl)
  · replace c_6 := i_nle (x := z_5) (y := v9_4_0) rfl rfl c_6
    refine lv_iload_n hx hb dX0_weighPairs_19 rfl (lv_at hl 2 rfl) ?_
    refine q_callSi (rest := []) (wr := (wk_a3a6c9aae cy h0 p0 h1 w0 h2 h1 f0 h2 v9_4_1 h3 f2)) X hK hT hA h (fun sz => gX0_lowestOf_af0d02d l D cy v9_4_0 ⟨by omega, by omega⟩ sz) wm_4_113 wm_4_115 wm_1_6 hd_X0_lowestOf wm_4_114 ⟨Nat.le_of_ble_eq_true rfl, Nat.le_of_ble_eq_true rfl⟩ hl.1 rfl (Nat.le_of_ble_eq_true rfl) dX0_weighPairs_20 ⟨Nat.le_of_ble_eq_true rfl, Nat.le_of_ble_eq_true rfl⟩ [] [0, 1, 2, 3] rfl rfl (by decide) rfl rfl (fun r_7 u_7 H locs w_7 h_7 => ?_)
    clear h
    obtain ⟨wr_7, _⟩ := w_7
    replace h_7 : qW D _ _ (wk_a3a6c9aae cy h0 p0 h1 w0 h2 h1 f0 h2 v9_4_1 h3 f2) _ _ := h_7
    refine lv_istore_n (lv' := [(3, .int r_7), (0, .ref h0), (1, .ref h3), (2, .int v9_4_0)]) hx hb dX0_weighPairs_23 rfl hl (by decide) rfl (fun ls_8 hl_8 => ?_)
    clear hl
    refine lv_aload_n hx hb dX0_weighPairs_24 rfl (lv_at hl_8 1 rfl) ?_
    refine q_get X hK h_7 0 rfl rfl wf_0 1 (by decide) rfl wm_1_199 dX0_weighPairs_25 ?_
    refine lv_iload_n hx hb dX0_weighPairs_28 rfl (lv_at hl_8 0 rfl) ?_
    refine q_iald X hK h_7 1 rfl (i_in rfl (by omega) (by omega)) dX0_weighPairs_29 ?_
    obtain ⟨z_9, ez_9, hz_9⟩ := rg_get rf0 (x := r_7) rfl (by omega) (by omega)
    refine q_c z_9 ez_9 ?_
    clear ez_9
    refine lv_iload_n hx hb dX0_weighPairs_30 rfl (lv_at hl_8 3 rfl) ?_
    refine lv_iand hx hb dX0_weighPairs_31 ?_
    obtain ⟨z_10, ez_10, hz_10⟩ := e_and2 (x := z_9) (y := v9_4_0) rfl (by omega)
    refine q_c z_10 ez_10 ?_
    clear ez_10
    refine lv_istore (lv' := [(4, .int z_10), (3, .int r_7), (0, .ref h0), (1, .ref h3), (2, .int v9_4_0)]) hx hb dX0_weighPairs_32 hl_8 (by decide) rfl (fun ls_11 hl_11 => ?_)
    clear hl_8
    refine lv_aload_n hx hb dX0_weighPairs_34 rfl (lv_at hl_11 2 rfl) ?_
    refine q_get X hK h_7 0 rfl rfl wf_0 3 (by decide) rfl wm_1_203 dX0_weighPairs_35 ?_
    refine lv_iload_n hx hb dX0_weighPairs_38 rfl (lv_at hl_11 4 rfl) ?_
    refine lv_iconst (v := 1) hx hb dX0_weighPairs_39 (by decide) ?_
    refine lv_iload_n hx hb dX0_weighPairs_40 rfl (lv_at hl_11 1 rfl) ?_
    refine lv_ishl hx hb dX0_weighPairs_41 ?_
    obtain ⟨z_12, ez_12, hz_12⟩ := e_shlk (p := r_7) 9 (by decide) rfl (by omega) (by omega)
    refine q_c z_12 ez_12 ?_
    clear ez_12
    refine lv_iconst (v := (-1)) hx hb dX0_weighPairs_42 (by decide) ?_
    refine lv_ixor hx hb dX0_weighPairs_43 ?_
    refine q_any (fun z_13 hz_13 => ?_)
    refine lv_iand hx hb dX0_weighPairs_44 ?_
    obtain ⟨z_14, ez_14, hz_14⟩ := e_and1 (x := v9_4_0) (y := z_13) rfl (by omega)
    refine q_c z_14 ez_14 ?_
    clear ez_14
    refine q_iald X hK h_7 2 rfl (i_in rfl (by omega) (by omega)) dX0_weighPairs_45 ?_
    refine q_any (fun z_15 hz_15 => ?_)
    refine lv_istore (lv' := [(5, .int z_15), (4, .int z_10), (3, .int r_7), (0, .ref h0), (1, .ref h3), (2, .int v9_4_0)]) hx hb dX0_weighPairs_46 hl_11 (by decide) rfl (fun ls_16 hl_16 => ?_)
    clear hl_11
    refine lv_iload_n hx hb dX0_weighPairs_48 rfl (lv_at hl_16 2 rfl) ?_
    refine lv_iconst (v := 1) hx hb dX0_weighPairs_49 (by decide) ?_
    refine lv_iadd hx hb dX0_weighPairs_50 ?_
    obtain ⟨z_17, ez_17, hz_17⟩ := e_add (x := r_7) (y := 1) rfl (show (1 : Int32).toInt = 1 by decide) (by omega) (by omega)
    refine q_c z_17 ez_17 ?_
    clear ez_17
    refine lv_istore (lv' := [(6, .int z_17), (5, .int z_15), (4, .int z_10), (3, .int r_7), (0, .ref h0), (1, .ref h3), (2, .int v9_4_0)]) hx hb dX0_weighPairs_51 hl_16 (by decide) rfl (fun ls_18 hl_18 => ?_)
    clear hl_16
    refine q_wl (fun (q : Int32 × Int32) H locs ls => match q with | (v53_19_0, v53_19_1) => (1 ≤ (v53_19_0).toInt ∧ (v53_19_0).toInt ≤ 10) ∧ ((-2147483648) ≤ (v53_19_1).toInt ∧ (v53_19_1).toInt ≤ 2147483647) ∧ qW D (va_A (wk_a3a6c9aae cy h0 p0 h1 w0 h2 h1 f0 h2 f1 h3 f2) sz) s.heap (wk_a3a6c9aae cy h0 p0 h1 w0 h2 h1 f0 h2 v9_4_1 h3 f2) H locs ∧ lv_has ls 7 [(0, .ref h0), (1, .ref h3), (2, .int v9_4_0), (3, .int r_7), (4, .int z_10), (5, .int v53_19_1), (6, .int v53_19_0)]) (fun (q : Int32 × Int32) => match q with | (v53_19_0, v53_19_1) => (11 - (v53_19_0).toInt).toNat) (fun q_53 ih_53 H locs ls hP => ?_) (z_17, z_15) ⟨⟨by omega, by omega⟩, ⟨by omega, by omega⟩, h_7, (lv_sub hl_18 [4, 5, 6, 3, 2, 1, 0] rfl)⟩
    obtain ⟨v53_19_0, v53_19_1⟩ := q_53
    obtain ⟨hv53_19_0, hv53_19_1, h, hl⟩ := hP
    refine lv_iload hx hb dX0_weighPairs_53 (lv_at hl 6 rfl) ?_
    refine lv_aload_n hx hb dX0_weighPairs_55 rfl (lv_at hl 0 rfl) ?_
    refine q_get X hK h 0 rfl rfl wf_0 0 (by decide) rfl wm_1_198 dX0_weighPairs_56 ?_
    refine lv_icmp_ge (tgt := 95) hx hb dX0_weighPairs_59 (by decide) (fun c_20 => ?_) (fun c_20 => ?_)
    · replace c_20 := i_le (x := p0) (y := v53_19_0) rfl rfl c_20
      refine lv_aload_n hx hb dX0_weighPairs_95 rfl (lv_at hl 0 rfl) ?_
      refine q_get X hK h 0 rfl rfl wf_0 3 (by decide) rfl wm_1_203 dX0_weighPairs_96 ?_
      refine lv_iload_n hx hb dX0_weighPairs_99 rfl (lv_at hl 2 rfl) ?_
      refine lv_iload hx hb dX0_weighPairs_100 (lv_at hl 5 rfl) ?_
      refine q_iast X hK h 2 rfl (i_in rfl (by omega) (by omega)) dX0_weighPairs_102 (fun H locs h_22 => ?_)
      clear h
      replace h_22 : qW D _ _ (wk_a3a6c9aae cy h0 p0 h1 w0 h2 h1 f0 h2 (upd v9_4_1 (Int32.toNatClampNeg v9_4_0) v53_19_1) h3 f2) _ _ := h_22
      obtain ⟨F_21, eF_21⟩ : ∃ z, (upd v9_4_1 (Int32.toNatClampNeg v9_4_0) v53_19_1) = z := ⟨_, rfl⟩
      rw [eF_21] at h_22
      clear eF_21
      obtain ⟨z_23, ez_23, hz_23⟩ := e_add (x := v9_4_0) (y := Int32.ofInt 1) rfl (b := 1) (by decide) (by omega) (by omega)
      refine lv_iinc (v := z_23) (lv' := [(2, .int z_23), (0, .ref h0), (1, .ref h3), (3, .int r_7), (4, .int z_10), (5, .int v53_19_1), (6, .int v53_19_0)]) hx hb dX0_weighPairs_103 hl (k := 2) rfl ez_23 (by decide) rfl (fun ls_23 hl_23 => ?_)
      clear hl
      refine lv_goto (tgt := 9) hx hb dX0_weighPairs_106 (by decide) ?_
      exact ih_9 z_23 (by show (1025 - (z_23).toInt).toNat < (1025 - (v9_4_0).toInt).toNat; omega) _ _ _ ⟨F_21, ⟨by omega, by omega⟩, h_22, (lv_sub hl_23 [1, 2, 0] rfl)⟩
    · replace c_20 := i_nle (x := p0) (y := v53_19_0) rfl rfl c_20
      refine lv_iload hx hb dX0_weighPairs_62 (lv_at hl 4 rfl) ?_
      refine lv_iload hx hb dX0_weighPairs_64 (lv_at hl 6 rfl) ?_
      refine lv_ishr hx hb dX0_weighPairs_66 ?_
      obtain ⟨z_24, ez_24, hz_24⟩ := e_shr (x := z_10) v53_19_0 rfl (by omega)
      refine q_c z_24 ez_24 ?_
      clear ez_24
      refine lv_iconst (v := 1) hx hb dX0_weighPairs_67 (by decide) ?_
      refine lv_iand hx hb dX0_weighPairs_68 ?_
      obtain ⟨z_25, ez_25, hz_25⟩ := e_and2 (x := z_24) (y := 1) (show (1 : Int32).toInt = 1 by decide) (by omega)
      refine q_c z_25 ez_25 ?_
      clear ez_25
      refine lv_iconst (v := 1) hx hb dX0_weighPairs_69 (by decide) ?_
      refine q_jn (pc2 := 89) (fun H locs ls st => ∃ v89_26_0 : Int32, ((-2147483648) ≤ (v89_26_0).toInt ∧ (v89_26_0).toInt ≤ 2147483647) ∧ st = [] ∧ qW D (va_A (wk_a3a6c9aae cy h0 p0 h1 w0 h2 h1 f0 h2 f1 h3 f2) sz) s.heap (wk_a3a6c9aae cy h0 p0 h1 w0 h2 h1 f0 h2 v9_4_1 h3 f2) H locs ∧ lv_has ls 7 [(0, .ref h0), (1, .ref h3), (2, .int v9_4_0), (3, .int r_7), (4, .int z_10), (5, .int v89_26_0), (6, .int v53_19_0)]) (fun H locs ls st hP => ?_) (fun J_89 => ?_)
      · obtain ⟨v89_26_0, hv89_26_0, rfl, h, hl⟩ := hP
        obtain ⟨z_27, ez_27, hz_27⟩ := e_add (x := v53_19_0) (y := Int32.ofInt 1) rfl (b := 1) (by decide) (by omega) (by omega)
        refine lv_iinc (v := z_27) (lv' := [(6, .int z_27), (0, .ref h0), (1, .ref h3), (2, .int v9_4_0), (3, .int r_7), (4, .int z_10), (5, .int v89_26_0)]) hx hb dX0_weighPairs_89 hl (k := 6) rfl ez_27 (by decide) rfl (fun ls_27 hl_27 => ?_)
        clear hl
        refine lv_goto (tgt := 53) hx hb dX0_weighPairs_92 (by decide) ?_
        exact ih_53 (z_27, v89_26_0) (by show (11 - (z_27).toInt).toNat < (11 - (v53_19_0).toInt).toNat; omega) _ _ _ ⟨⟨by omega, by omega⟩, hv89_26_0, h, (lv_sub hl_27 [1, 2, 3, 4, 5, 6, 0] rfl)⟩
      · skip
        refine lv_icmp_ne (tgt := 89) hx hb dX0_weighPairs_70 (by decide) (fun c_28 => ?_) (fun c_28 => ?_)
        · replace c_28 := i_ne (x := z_25) (y := 1) rfl (show (1 : Int32).toInt = 1 by decide) c_28
          exact J_89 _ _ _ _ ⟨v53_19_1, hv53_19_1, rfl, h, (lv_sub hl [0, 1, 2, 3, 4, 5, 6] rfl)⟩
        · replace c_28 := i_eq (x := z_25) (y := 1) rfl (show (1 : Int32).toInt = 1 by decide) c_28
          refine lv_iload hx hb dX0_weighPairs_73 (lv_at hl 5 rfl) ?_
          refine lv_aload_n hx hb dX0_weighPairs_75 rfl (lv_at hl 0 rfl) ?_
          refine lv_iload_n hx hb dX0_weighPairs_76 rfl (lv_at hl 3 rfl) ?_
          refine lv_iload hx hb dX0_weighPairs_77 (lv_at hl 6 rfl) ?_
          refine lv_iload_n hx hb dX0_weighPairs_79 rfl (lv_at hl 2 rfl) ?_
          refine lv_aload_n hx hb dX0_weighPairs_80 rfl (lv_at hl 1 rfl) ?_
          refine q_callVi (rest := [.int v53_19_1]) (wr := [(h1, .inl (cy 1, 10, .inl f0))]) X hK hT hA h (fun sz => gX0_worthWith_017910b l D cy h0 h2 h3 r_7 v53_19_0 v9_4_0 p0 (.ref h1) w0 v9_4_1 f2 ⟨by omega, by omega⟩ ⟨by omega, by omega⟩ ⟨by omega, by omega⟩ ⟨by omega, by omega⟩ sz) wm_4_157 wm_4_160 wm_1_6 hd_X0_worthWith wm_4_159 wp_3_6 (ci := 0) (q0 := 0) rfl rfl ⟨Nat.le_of_ble_eq_true rfl, Nat.le_of_ble_eq_true rfl⟩ hl.1 rfl (Nat.le_of_ble_eq_true rfl) dX0_weighPairs_81 ⟨Nat.le_of_ble_eq_true rfl, Nat.le_of_ble_eq_true rfl⟩ [0, 2, 3] [1] rfl rfl (by decide) rfl rfl (fun r_29 u_29 H locs w_29 h_29 => ?_)
          clear h
          obtain ⟨wr_29, _⟩ := w_29
          replace h_29 : qW D _ _ (wk_4a40733b9 cy h1 f0 h0 p0 h1 w0 h2 h2 v9_4_1 h3 f2) _ _ := h_29
          refine va_mmax hx hb (hml.trans hl.1.symm) hown (ht _ wm_4_161) (ht _ wm_3_23) (ht _ wm_1_13) (ht _ wm_3_24) (Nat.le_of_ble_eq_true rfl) (Nat.le_of_ble_eq_true rfl) (Nat.le_of_ble_eq_true rfl) (Nat.le_of_ble_eq_true rfl) dX0_weighPairs_84 ?_
          obtain ⟨z_30, ez_30, hz_30⟩ := e_max (x := v53_19_1) (y := r_29) rfl rfl
          refine q_c z_30 ez_30 ?_
          clear ez_30
          refine lv_istore (lv' := [(5, .int z_30), (0, .ref h0), (1, .ref h3), (2, .int v9_4_0), (3, .int r_7), (4, .int z_10), (6, .int v53_19_0)]) hx hb dX0_weighPairs_87 hl (by decide) rfl (fun ls_31 hl_31 => ?_)
          clear hl
          exact J_89 _ _ _ _ ⟨z_30, ⟨by omega, by omega⟩, rfl, (q_re h_29 [1, 0, 2, 3] rfl rfl), (lv_sub hl_31 [1, 2, 3, 4, 5, 0, 6] rfl)⟩
set_option maxHeartbeats 4000000 in
set_option maxRecDepth 100000 in
theorem gX0_twosOf_74d1fba (l : Launch) (D : va_G) (cy : Nat → ClassId) (h0 : Nat) (h1 : Nat) (p0 : Int32) (p1 : Int32) (w0 : Value) (w1 : Value) (f0 : Nat → Int32) (hp0 : 0 ≤ (p0).toInt ∧ (p0).toInt ≤ 1023) (hp1 : 0 ≤ (p1).toInt ∧ (p1).toInt ≤ 10) (sz : Nat) : MI l yX0_twosOf cX0_twosOf 2 .int { frames := 0, cells := 0, slots := 0, locals := 0 } [.ref h0, .int p0] D cy (wk_e21eaa19b cy h0 p1 w0 w1 h1 h1 f0) sz (fun r u => ((-2147483648) ≤ r.toInt ∧ r.toInt ≤ 2147483647) ∧ True) (fun u => (wk_e21eaa19b cy h0 p1 w0 w1 h1 h1 f0)) 0 0 := by
  refine q_ent (own := RX0) (by decide) rfl (Nat.le_of_ble_eq_true rfl) (fun p e s m below meth c ls X hr hlk hnm hK hT h hA hl => ?_)
  obtain ⟨hx, hb, hml, hown, ht⟩ := id X
  replace hl : lv_has ls 2 [(0, .ref h0), (1, .int p0)] := hl
  refine lv_aload_n hx hb dX0_twosOf_0 rfl (lv_at hl 0 rfl) ?_
  refine q_get X hK h 0 rfl rfl wf_0 3 (by decide) rfl wm_1_203 dX0_twosOf_1 ?_
  refine lv_iload_n hx hb dX0_twosOf_4 rfl (lv_at hl 1 rfl) ?_
  refine q_iald X hK h 1 rfl (i_in rfl (by omega) (by omega)) dX0_twosOf_5 ?_
  refine q_any (fun z_1 hz_1 => ?_)
  refine lv_sipush (v := 1000) hx hb dX0_twosOf_6 (by decide) ?_
  refine lv_idiv hx hb dX0_twosOf_9 (by decide) ?_
  refine q_any (fun z_2 hz_2 => ?_)
  exact q_iret X hr hlk hK h rfl (fun _ => 0, fun _ _ => 0, fun _ _ => 0) ⟨⟨by omega, by omega⟩, trivial⟩ [0, 1] rfl rfl dX0_twosOf_10 (Nat.le_of_ble_eq_true rfl) (Nat.le_of_ble_eq_true rfl)
set_option maxHeartbeats 4000000 in
set_option maxRecDepth 100000 in
theorem gX0_weightOf_224f1ee (l : Launch) (D : va_G) (cy : Nat → ClassId) (h0 : Nat) (h1 : Nat) (p0 : Int32) (p1 : Int32) (w0 : Value) (w1 : Value) (f0 : Nat → Int32) (hp0 : 0 ≤ (p0).toInt ∧ (p0).toInt ≤ 1023) (hp1 : 0 ≤ (p1).toInt ∧ (p1).toInt ≤ 10) (sz : Nat) : MI l yX0_weightOf cX0_weightOf 2 .int { frames := 0, cells := 0, slots := 0, locals := 0 } [.ref h0, .int p0] D cy (wk_e21eaa19b cy h0 p1 w0 w1 h1 h1 f0) sz (fun r u => ((-2147483648) ≤ r.toInt ∧ r.toInt ≤ 2147483647) ∧ True) (fun u => (wk_e21eaa19b cy h0 p1 w0 w1 h1 h1 f0)) 0 0 := by
  refine q_ent (own := RX0) (by decide) rfl (Nat.le_of_ble_eq_true rfl) (fun p e s m below meth c ls X hr hlk hnm hK hT h hA hl => ?_)
  obtain ⟨hx, hb, hml, hown, ht⟩ := id X
  replace hl : lv_has ls 2 [(0, .ref h0), (1, .int p0)] := hl
  refine lv_aload_n hx hb dX0_weightOf_0 rfl (lv_at hl 0 rfl) ?_
  refine q_get X hK h 0 rfl rfl wf_0 3 (by decide) rfl wm_1_203 dX0_weightOf_1 ?_
  refine lv_iload_n hx hb dX0_weightOf_4 rfl (lv_at hl 1 rfl) ?_
  refine q_iald X hK h 1 rfl (i_in rfl (by omega) (by omega)) dX0_weightOf_5 ?_
  refine q_any (fun z_1 hz_1 => ?_)
  refine lv_sipush (v := 1000) hx hb dX0_weightOf_6 (by decide) ?_
  refine lv_irem hx hb dX0_weightOf_9 (by decide) ?_
  refine q_any (fun z_2 hz_2 => ?_)
  exact q_iret X hr hlk hK h rfl (fun _ => 0, fun _ _ => 0, fun _ _ => 0) ⟨⟨by omega, by omega⟩, trivial⟩ [0, 1] rfl rfl dX0_weightOf_10 (Nat.le_of_ble_eq_true rfl) (Nat.le_of_ble_eq_true rfl)
set_option maxHeartbeats 4000000 in
set_option maxRecDepth 100000 in
theorem gX0_firstPartner_a791072 (l : Launch) (D : va_G) (cy : Nat → ClassId) (h0 : Nat) (h1 : Nat) (h2 : Nat) (h3 : Nat) (p0 : Int32) (p1 : Int32) (p2 : Int32) (w0 : Value) (f0 : Nat → Int32) (f1 : Nat → Int32) (f2 : Nat → Int32) (hp0 : 0 ≤ (p0).toInt ∧ (p0).toInt ≤ 9) (hp1 : 0 ≤ (p1).toInt ∧ (p1).toInt ≤ 1023) (hp2 : 1 ≤ (p2).toInt ∧ (p2).toInt ≤ 10) (rf0 : RG f0 10 0 1023) (sz : Nat) : MI l yX0_firstPartner cX0_firstPartner 6 .int { frames := 1, cells := 0, slots := 0, locals := 24 } [.ref h0, .int p0, .int p1, .ref h3] D cy (wk_a3a6c9aae cy h0 p2 h1 w0 h2 h1 f0 h2 f1 h3 f2) sz (fun r u => ((-1) ≤ r.toInt ∧ r.toInt ≤ 9) ∧ True) (fun u => (wk_a3a6c9aae cy h0 p2 h1 w0 h2 h1 f0 h2 f1 h3 f2)) 0 0 := by
  refine q_ent (own := RX0) (by decide) rfl (Nat.le_of_ble_eq_true rfl) (fun p e s m below meth c ls X hr hlk hnm hK hT h hA hl => ?_)
  obtain ⟨hx, hb, hml, hown, ht⟩ := id X
  replace hl : lv_has ls 6 [(0, .ref h0), (1, .int p0), (2, .int p1), (3, .ref h3)] := hl
  refine lv_aload_n hx hb dX0_firstPartner_0 rfl (lv_at hl 0 rfl) ?_
  refine q_get X hK h 0 rfl rfl wf_0 1 (by decide) rfl wm_1_199 dX0_firstPartner_1 ?_
  refine lv_iload_n hx hb dX0_firstPartner_4 rfl (lv_at hl 1 rfl) ?_
  refine q_iald X hK h 1 rfl (i_in rfl (by omega) (by omega)) dX0_firstPartner_5 ?_
  obtain ⟨z_1, ez_1, hz_1⟩ := rg_get rf0 (x := p0) rfl (by omega) (by omega)
  refine q_c z_1 ez_1 ?_
  clear ez_1
  refine lv_iload_n hx hb dX0_firstPartner_6 rfl (lv_at hl 2 rfl) ?_
  refine lv_iand hx hb dX0_firstPartner_7 ?_
  obtain ⟨z_2, ez_2, hz_2⟩ := e_and2 (x := z_1) (y := p1) rfl (by omega)
  refine q_c z_2 ez_2 ?_
  clear ez_2
  refine lv_istore (lv' := [(4, .int z_2), (0, .ref h0), (1, .int p0), (2, .int p1), (3, .ref h3)]) hx hb dX0_firstPartner_8 hl (by decide) rfl (fun ls_3 hl_3 => ?_)
  clear hl
  refine lv_iload_n hx hb dX0_firstPartner_10 rfl (lv_at hl_3 2 rfl) ?_
  refine lv_iconst (v := 1) hx hb dX0_firstPartner_11 (by decide) ?_
  refine lv_iadd hx hb dX0_firstPartner_12 ?_
  obtain ⟨z_4, ez_4, hz_4⟩ := e_add (x := p0) (y := 1) rfl (show (1 : Int32).toInt = 1 by decide) (by omega) (by omega)
  refine q_c z_4 ez_4 ?_
  clear ez_4
  refine lv_istore (lv' := [(5, .int z_4), (4, .int z_2), (0, .ref h0), (1, .int p0), (2, .int p1), (3, .ref h3)]) hx hb dX0_firstPartner_13 hl_3 (by decide) rfl (fun ls_5 hl_5 => ?_)
  clear hl_3
  refine q_wl (fun (v15_6_0 : Int32) H locs ls => (1 ≤ (v15_6_0).toInt ∧ (v15_6_0).toInt ≤ 10) ∧ qW D (va_A (wk_a3a6c9aae cy h0 p2 h1 w0 h2 h1 f0 h2 f1 h3 f2) sz) s.heap (wk_a3a6c9aae cy h0 p2 h1 w0 h2 h1 f0 h2 f1 h3 f2) H locs ∧ lv_has ls 6 [(0, .ref h0), (1, .int p0), (2, .int p1), (3, .ref h3), (4, .int z_2), (5, .int v15_6_0)]) (fun (v15_6_0 : Int32) => (11 - (v15_6_0).toInt).toNat) (fun q_15 ih_15 H locs ls hP => ?_) z_4 ⟨⟨by omega, by omega⟩, h, (lv_sub hl_5 [2, 3, 4, 5, 1, 0] rfl)⟩
  obtain ⟨v15_6_0, rfl⟩ : ∃ z, z = q_15 := ⟨_, rfl⟩
  obtain ⟨hv15_6_0, h, hl⟩ := hP
  refine lv_iload hx hb dX0_firstPartner_15 (lv_at hl 5 rfl) ?_
  refine lv_aload_n hx hb dX0_firstPartner_17 rfl (lv_at hl 0 rfl) ?_
  refine q_get X hK h 0 rfl rfl wf_0 0 (by decide) rfl wm_1_198 dX0_firstPartner_18 ?_
  refine lv_icmp_ge (tgt := 62) hx hb dX0_firstPartner_21 (by decide) (fun c_7 => ?_) (fun c_7 => ?_)
  · replace c_7 := i_le (x := p2) (y := v15_6_0) rfl rfl c_7
    refine lv_iconst (v := (-1)) hx hb dX0_firstPartner_62 (by decide) ?_
    exact q_iret X hr hlk hK h rfl (fun _ => 0, fun _ _ => 0, fun _ _ => 0) ⟨⟨by decide +kernel, by decide +kernel⟩, trivial⟩ [0, 1, 2, 3] rfl rfl dX0_firstPartner_63 (Nat.le_of_ble_eq_true rfl) (Nat.le_of_ble_eq_true rfl)
  · replace c_7 := i_nle (x := p2) (y := v15_6_0) rfl rfl c_7
    refine lv_iload hx hb dX0_firstPartner_24 (lv_at hl 4 rfl) ?_
    refine lv_iload hx hb dX0_firstPartner_26 (lv_at hl 5 rfl) ?_
    refine lv_ishr hx hb dX0_firstPartner_28 ?_
    obtain ⟨z_8, ez_8, hz_8⟩ := e_shr (x := z_2) v15_6_0 rfl (by omega)
    refine q_c z_8 ez_8 ?_
    clear ez_8
    refine lv_iconst (v := 1) hx hb dX0_firstPartner_29 (by decide) ?_
    refine lv_iand hx hb dX0_firstPartner_30 ?_
    obtain ⟨z_9, ez_9, hz_9⟩ := e_and2 (x := z_8) (y := 1) (show (1 : Int32).toInt = 1 by decide) (by omega)
    refine q_c z_9 ez_9 ?_
    clear ez_9
    refine lv_iconst (v := 1) hx hb dX0_firstPartner_31 (by decide) ?_
    refine q_jn (pc2 := 56) (fun H locs ls st => st = [] ∧ qW D (va_A (wk_a3a6c9aae cy h0 p2 h1 w0 h2 h1 f0 h2 f1 h3 f2) sz) s.heap (wk_a3a6c9aae cy h0 p2 h1 w0 h2 h1 f0 h2 f1 h3 f2) H locs ∧ lv_has ls 6 [(0, .ref h0), (1, .int p0), (2, .int p1), (3, .ref h3), (4, .int z_2), (5, .int v15_6_0)]) (fun H locs ls st hP => ?_) (fun J_56 => ?_)
    · obtain ⟨rfl, h, hl⟩ := hP
      obtain ⟨z_11, ez_11, hz_11⟩ := e_add (x := v15_6_0) (y := Int32.ofInt 1) rfl (b := 1) (by decide) (by omega) (by omega)
      refine lv_iinc (v := z_11) (lv' := [(5, .int z_11), (0, .ref h0), (1, .int p0), (2, .int p1), (3, .ref h3), (4, .int z_2)]) hx hb dX0_firstPartner_56 hl (k := 5) rfl ez_11 (by decide) rfl (fun ls_11 hl_11 => ?_)
      clear hl
      refine lv_goto (tgt := 15) hx hb dX0_firstPartner_59 (by decide) ?_
      exact ih_15 z_11 (by show (11 - (z_11).toInt).toNat < (11 - (v15_6_0).toInt).toNat; omega) _ _ _ ⟨⟨by omega, by omega⟩, h, (lv_sub hl_11 [1, 2, 3, 4, 5, 0] rfl)⟩
    · skip
      refine lv_icmp_ne (tgt := 56) hx hb dX0_firstPartner_32 (by decide) (fun c_12 => ?_) (fun c_12 => ?_)
      · replace c_12 := i_ne (x := z_9) (y := 1) rfl (show (1 : Int32).toInt = 1 by decide) c_12
        exact J_56 _ _ _ _ ⟨rfl, h, (lv_sub hl [0, 1, 2, 3, 4, 5] rfl)⟩
      · replace c_12 := i_eq (x := z_9) (y := 1) rfl (show (1 : Int32).toInt = 1 by decide) c_12
        refine lv_aload_n hx hb dX0_firstPartner_35 rfl (lv_at hl 0 rfl) ?_
        refine lv_iload_n hx hb dX0_firstPartner_36 rfl (lv_at hl 1 rfl) ?_
        refine lv_iload hx hb dX0_firstPartner_37 (lv_at hl 5 rfl) ?_
        refine lv_iload_n hx hb dX0_firstPartner_39 rfl (lv_at hl 2 rfl) ?_
        refine lv_aload_n hx hb dX0_firstPartner_40 rfl (lv_at hl 3 rfl) ?_
        refine q_callVi (rest := []) (wr := [(h1, .inl (cy 1, 10, .inl f0))]) X hK hT hA h (fun sz => gX0_worthWith_017910b l D cy h0 h2 h3 p0 v15_6_0 p1 p2 (.ref h1) w0 f1 f2 hp0 ⟨by omega, by omega⟩ hp1 ⟨by omega, by omega⟩ sz) wm_4_157 wm_4_160 wm_1_6 hd_X0_worthWith wm_4_159 wp_3_6 (ci := 0) (q0 := 0) rfl rfl ⟨Nat.le_of_ble_eq_true rfl, Nat.le_of_ble_eq_true rfl⟩ hl.1 rfl (Nat.le_of_ble_eq_true rfl) dX0_firstPartner_41 ⟨Nat.le_of_ble_eq_true rfl, Nat.le_of_ble_eq_true rfl⟩ [0, 2, 3] [1] rfl rfl (by decide) rfl rfl (fun r_13 u_13 H locs w_13 h_13 => ?_)
        clear h
        obtain ⟨wr_13, _⟩ := w_13
        replace h_13 : qW D _ _ (wk_4a40733b9 cy h1 f0 h0 p2 h1 w0 h2 h2 f1 h3 f2) _ _ := h_13
        refine lv_aload_n hx hb dX0_firstPartner_44 rfl (lv_at hl 0 rfl) ?_
        refine q_get X hK h_13 1 rfl rfl wf_0 3 (by decide) rfl wm_1_203 dX0_firstPartner_45 ?_
        refine lv_iload_n hx hb dX0_firstPartner_48 rfl (lv_at hl 2 rfl) ?_
        refine q_iald X hK h_13 2 rfl (i_in rfl (by omega) (by omega)) dX0_firstPartner_49 ?_
        refine q_any (fun z_14 hz_14 => ?_)
        refine lv_icmp_ne (tgt := 56) hx hb dX0_firstPartner_50 (by decide) (fun c_15 => ?_) (fun c_15 => ?_)
        · replace c_15 := i_ne (x := r_13) (y := z_14) rfl rfl c_15
          exact J_56 _ _ _ _ ⟨rfl, (q_re h_13 [1, 0, 2, 3] rfl rfl), (lv_sub hl [0, 1, 2, 3, 4, 5] rfl)⟩
        · replace c_15 := i_eq (x := r_13) (y := z_14) rfl rfl c_15
          refine lv_iload hx hb dX0_firstPartner_53 (lv_at hl 5 rfl) ?_
          exact q_iret X hr hlk hK h_13 rfl (fun _ => 0, fun _ _ => 0, fun _ _ => 0) ⟨⟨by omega, by omega⟩, trivial⟩ [1, 0, 2, 3] rfl rfl dX0_firstPartner_55 (Nat.le_of_ble_eq_true rfl) (Nat.le_of_ble_eq_true rfl)
set_option maxHeartbeats 4000000 in
set_option maxRecDepth 100000 in
theorem gX0_partnerOf_1a9dd40 (l : Launch) (D : va_G) (cy : Nat → ClassId) (h0 : Nat) (h1 : Nat) (h2 : Nat) (h3 : Nat) (p0 : Int32) (p1 : Int32) (p2 : Int32) (w0 : Value) (f0 : Nat → Int32) (f1 : Nat → Int32) (f2 : Nat → Int32) (hp0 : (-2147483648) ≤ (p0).toInt ∧ (p0).toInt ≤ 2147483647) (hp1 : 0 ≤ (p1).toInt ∧ (p1).toInt ≤ 1023) (hp2 : 0 ≤ (p2).toInt ∧ (p2).toInt ≤ 10) (rf0 : RG f0 10 0 1023) (sz : Nat) : MI l yX0_partnerOf cX0_partnerOf 7 .int { frames := 2, cells := 0, slots := 0, locals := 49 } [.ref h0, .int p0, .int p1, .ref h3] D cy (wk_a3a6c9aae cy h0 p2 h1 w0 h2 h1 f0 h2 f1 h3 f2) sz (fun r u => ((-1) ≤ r.toInt ∧ r.toInt ≤ 9) ∧ True) (fun u => (wk_a3a6c9aae cy h0 p2 h1 w0 h2 h1 f0 h2 f1 h3 f2)) 0 0 := by
  refine q_ent (own := RX0) (by decide) rfl (Nat.le_of_ble_eq_true rfl) (fun p e s m below meth c ls X hr hlk hnm hK hT h hA hl => ?_)
  obtain ⟨hx, hb, hml, hown, ht⟩ := id X
  replace hl : lv_has ls 7 [(0, .ref h0), (1, .int p0), (2, .int p1), (3, .ref h3)] := hl
  refine lv_iload_n hx hb dX0_partnerOf_0 rfl (lv_at hl 2 rfl) ?_
  refine lv_istore (lv' := [(4, .int p1), (0, .ref h0), (1, .int p0), (2, .int p1), (3, .ref h3)]) hx hb dX0_partnerOf_1 hl (by decide) rfl (fun ls_1 hl_1 => ?_)
  clear hl
  refine lv_iconst (v := 0) hx hb dX0_partnerOf_3 (by decide) ?_
  refine lv_istore (lv' := [(5, .int 0), (4, .int p1), (0, .ref h0), (1, .int p0), (2, .int p1), (3, .ref h3)]) hx hb dX0_partnerOf_4 hl_1 (by decide) rfl (fun ls_2 hl_2 => ?_)
  clear hl_1
  refine q_wl (fun (q : Int32 × Int32) H locs ls => match q with | (v6_3_0, v6_3_1) => (0 ≤ (v6_3_0).toInt ∧ (v6_3_0).toInt ≤ 10) ∧ (0 ≤ (v6_3_1).toInt ∧ (v6_3_1).toInt ≤ 1023) ∧ qW D (va_A (wk_a3a6c9aae cy h0 p2 h1 w0 h2 h1 f0 h2 f1 h3 f2) sz) s.heap (wk_a3a6c9aae cy h0 p2 h1 w0 h2 h1 f0 h2 f1 h3 f2) H locs ∧ lv_has ls 7 [(0, .ref h0), (1, .int p0), (2, .int p1), (3, .ref h3), (4, .int v6_3_1), (5, .int v6_3_0)]) (fun (q : Int32 × Int32) => match q with | (v6_3_0, v6_3_1) => (11 - (v6_3_0).toInt).toNat) (fun q_6 ih_6 H locs ls hP => ?_) (0, p1) ⟨⟨by decide +kernel, by decide +kernel⟩, hp1, h, (lv_sub hl_2 [2, 3, 4, 5, 1, 0] rfl)⟩
  obtain ⟨v6_3_0, v6_3_1⟩ := q_6
  obtain ⟨hv6_3_0, hv6_3_1, h, hl⟩ := hP
  refine lv_iload hx hb dX0_partnerOf_6 (lv_at hl 5 rfl) ?_
  refine lv_aload_n hx hb dX0_partnerOf_8 rfl (lv_at hl 0 rfl) ?_
  refine q_get X hK h 0 rfl rfl wf_0 0 (by decide) rfl wm_1_198 dX0_partnerOf_9 ?_
  refine lv_icmp_ge (tgt := 89) hx hb dX0_partnerOf_12 (by decide) (fun c_4 => ?_) (fun c_4 => ?_)
  · replace c_4 := i_le (x := p2) (y := v6_3_0) rfl rfl c_4
    refine lv_iconst (v := (-1)) hx hb dX0_partnerOf_89 (by decide) ?_
    exact q_iret X hr hlk hK h rfl (fun _ => 0, fun _ _ => 0, fun _ _ => 0) ⟨⟨by decide +kernel, by decide +kernel⟩, trivial⟩ [0, 1, 2, 3] rfl rfl dX0_partnerOf_90 (Nat.le_of_ble_eq_true rfl) (Nat.le_of_ble_eq_true rfl)
  · replace c_4 := i_nle (x := p2) (y := v6_3_0) rfl rfl c_4
    refine lv_iload hx hb dX0_partnerOf_15 (lv_at hl 4 rfl) ?_
    refine lv_iload hx hb dX0_partnerOf_17 (lv_at hl 5 rfl) ?_
    refine lv_ishr hx hb dX0_partnerOf_19 ?_
    obtain ⟨z_5, ez_5, hz_5⟩ := e_shr (x := v6_3_1) v6_3_0 rfl (by omega)
    refine q_c z_5 ez_5 ?_
    clear ez_5
    refine lv_iconst (v := 1) hx hb dX0_partnerOf_20 (by decide) ?_
    refine lv_iand hx hb dX0_partnerOf_21 ?_
    obtain ⟨z_6, ez_6, hz_6⟩ := e_and2 (x := z_5) (y := 1) (show (1 : Int32).toInt = 1 by decide) (by omega)
    refine q_c z_6 ez_6 ?_
    clear ez_6
    refine lv_iconst (v := 1) hx hb dX0_partnerOf_22 (by decide) ?_
    refine q_jn (pc2 := 83) (fun H locs ls st => ∃ v83_7_0 : Int32, (0 ≤ (v83_7_0).toInt ∧ (v83_7_0).toInt ≤ 1023) ∧ st = [] ∧ qW D (va_A (wk_a3a6c9aae cy h0 p2 h1 w0 h2 h1 f0 h2 f1 h3 f2) sz) s.heap (wk_a3a6c9aae cy h0 p2 h1 w0 h2 h1 f0 h2 f1 h3 f2) H locs ∧ lv_has ls 7 [(0, .ref h0), (1, .int p0), (2, .int p1), (3, .ref h3), (4, .int v83_7_0), (5, .int v6_3_0)]) (fun H locs ls st hP => ?_) (fun J_83 => ?_)
    · obtain ⟨v83_7_0, hv83_7_0, rfl, h, hl⟩ := hP
      obtain ⟨z_8, ez_8, hz_8⟩ := e_add (x := v6_3_0) (y := Int32.ofInt 1) rfl (b := 1) (by decide) (by omega) (by omega)
      refine lv_iinc (v := z_8) (lv' := [(5, .int z_8), (0, .ref h0), (1, .int p0), (2, .int p1), (3, .ref h3), (4, .int v83_7_0)]) hx hb dX0_partnerOf_83 hl (k := 5) rfl ez_8 (by decide) rfl (fun ls_8 hl_8 => ?_)
      clear hl
      refine lv_goto (tgt := 6) hx hb dX0_partnerOf_86 (by decide) ?_
      exact ih_6 (z_8, v83_7_0) (by show (11 - (z_8).toInt).toNat < (11 - (v6_3_0).toInt).toNat; omega) _ _ _ ⟨⟨by omega, by omega⟩, hv83_7_0, h, (lv_sub hl_8 [1, 2, 3, 4, 5, 0] rfl)⟩
    · skip
      refine lv_icmp_ne (tgt := 83) hx hb dX0_partnerOf_23 (by decide) (fun c_9 => ?_) (fun c_9 => ?_)
      · replace c_9 := i_ne (x := z_6) (y := 1) rfl (show (1 : Int32).toInt = 1 by decide) c_9
        exact J_83 _ _ _ _ ⟨v6_3_1, hv6_3_1, rfl, h, (lv_sub hl [0, 1, 2, 3, 4, 5] rfl)⟩
      · replace c_9 := i_eq (x := z_6) (y := 1) rfl (show (1 : Int32).toInt = 1 by decide) c_9
        refine lv_aload_n hx hb dX0_partnerOf_26 rfl (lv_at hl 0 rfl) ?_
        refine lv_iload hx hb dX0_partnerOf_27 (lv_at hl 5 rfl) ?_
        refine lv_iload hx hb dX0_partnerOf_29 (lv_at hl 4 rfl) ?_
        refine lv_aload_n hx hb dX0_partnerOf_31 rfl (lv_at hl 3 rfl) ?_
        refine q_callVi (rest := []) (wr := []) X hK hT hA h (fun sz => gX0_firstPartner_a791072 l D cy h0 h1 h2 h3 v6_3_0 v6_3_1 p2 w0 f0 f1 f2 ⟨by omega, by omega⟩ hv6_3_1 ⟨by omega, by omega⟩ (rg_wide rf0 (by decide) (by decide)) sz) wm_4_174 wm_4_177 wm_1_6 hd_X0_firstPartner wm_4_176 wp_3_7 (ci := 0) (q0 := 0) rfl rfl ⟨Nat.le_of_ble_eq_true rfl, Nat.le_of_ble_eq_true rfl⟩ hl.1 rfl (Nat.le_of_ble_eq_true rfl) dX0_partnerOf_32 ⟨Nat.le_of_ble_eq_true rfl, Nat.le_of_ble_eq_true rfl⟩ [0, 1, 2, 3] [] rfl rfl (by decide) rfl rfl (fun r_10 u_10 H locs w_10 h_10 => ?_)
        clear h
        obtain ⟨wr_10, _⟩ := w_10
        replace h_10 : qW D _ _ (wk_a3a6c9aae cy h0 p2 h1 w0 h2 h1 f0 h2 f1 h3 f2) _ _ := h_10
        refine lv_istore (lv' := [(6, .int r_10), (0, .ref h0), (1, .int p0), (2, .int p1), (3, .ref h3), (4, .int v6_3_1), (5, .int v6_3_0)]) hx hb dX0_partnerOf_35 hl (by decide) rfl (fun ls_11 hl_11 => ?_)
        clear hl
        refine lv_iload hx hb dX0_partnerOf_37 (lv_at hl_11 6 rfl) ?_
        refine lv_iload_n hx hb dX0_partnerOf_39 rfl (lv_at hl_11 2 rfl) ?_
        refine lv_icmp_ne (tgt := 46) hx hb dX0_partnerOf_40 (by decide) (fun c_12 => ?_) (fun c_12 => ?_)
        · replace c_12 := i_ne (x := v6_3_0) (y := p0) rfl rfl c_12
          refine lv_iload hx hb dX0_partnerOf_46 (lv_at hl_11 0 rfl) ?_
          refine lv_iload_n hx hb dX0_partnerOf_48 rfl (lv_at hl_11 2 rfl) ?_
          refine lv_icmp_ne (tgt := 55) hx hb dX0_partnerOf_49 (by decide) (fun c_13 => ?_) (fun c_13 => ?_)
          · replace c_13 := i_ne (x := r_10) (y := p0) rfl rfl c_13
            refine lv_iload hx hb dX0_partnerOf_55 (lv_at hl_11 5 rfl) ?_
            refine lv_iconst (v := 1) hx hb dX0_partnerOf_57 (by decide) ?_
            refine lv_iload hx hb dX0_partnerOf_58 (lv_at hl_11 6 rfl) ?_
            refine lv_ishl hx hb dX0_partnerOf_60 ?_
            obtain ⟨z_14, ez_14, hz_14⟩ := e_shlk (p := v6_3_0) 9 (by decide) rfl (by omega) (by omega)
            refine q_c z_14 ez_14 ?_
            clear ez_14
            refine lv_iconst (v := (-1)) hx hb dX0_partnerOf_61 (by decide) ?_
            refine lv_ixor hx hb dX0_partnerOf_62 ?_
            refine q_any (fun z_15 hz_15 => ?_)
            refine lv_iand hx hb dX0_partnerOf_63 ?_
            obtain ⟨z_16, ez_16, hz_16⟩ := e_and1 (x := v6_3_1) (y := z_15) rfl (by omega)
            refine q_c z_16 ez_16 ?_
            clear ez_16
            refine lv_istore (lv' := [(4, .int z_16), (6, .int r_10), (0, .ref h0), (1, .int p0), (2, .int p1), (3, .ref h3), (5, .int v6_3_0)]) hx hb dX0_partnerOf_64 hl_11 (by decide) rfl (fun ls_17 hl_17 => ?_)
            clear hl_11
            refine lv_iload hx hb dX0_partnerOf_66 (lv_at hl_17 1 rfl) ?_
            refine lv_iconst (v := (-1)) hx hb dX0_partnerOf_68 (by decide) ?_
            refine lv_icmp_eq (tgt := 83) hx hb dX0_partnerOf_69 (by decide) (fun c_18 => ?_) (fun c_18 => ?_)
            · replace c_18 := i_eq (x := r_10) (y := (-1)) rfl (show ((-1) : Int32).toInt = -1 by decide) c_18
              exact J_83 _ _ _ _ ⟨z_16, ⟨by omega, by omega⟩, rfl, h_10, (lv_sub hl_17 [2, 3, 4, 5, 0, 6] rfl)⟩
            · replace c_18 := i_ne (x := r_10) (y := (-1)) rfl (show ((-1) : Int32).toInt = -1 by decide) c_18
              refine lv_iload hx hb dX0_partnerOf_72 (lv_at hl_17 0 rfl) ?_
              refine lv_iconst (v := 1) hx hb dX0_partnerOf_74 (by decide) ?_
              refine lv_iload hx hb dX0_partnerOf_75 (lv_at hl_17 1 rfl) ?_
              refine lv_ishl hx hb dX0_partnerOf_77 ?_
              obtain ⟨z_19, ez_19, hz_19⟩ := e_shlk (p := r_10) 9 (by decide) rfl (by omega) (by omega)
              refine q_c z_19 ez_19 ?_
              clear ez_19
              refine lv_iconst (v := (-1)) hx hb dX0_partnerOf_78 (by decide) ?_
              refine lv_ixor hx hb dX0_partnerOf_79 ?_
              refine q_any (fun z_20 hz_20 => ?_)
              refine lv_iand hx hb dX0_partnerOf_80 ?_
              obtain ⟨z_21, ez_21, hz_21⟩ := e_and1 (x := z_16) (y := z_20) rfl (by omega)
              refine q_c z_21 ez_21 ?_
              clear ez_21
              refine lv_istore (lv' := [(4, .int z_21), (6, .int r_10), (0, .ref h0), (1, .int p0), (2, .int p1), (3, .ref h3), (5, .int v6_3_0)]) hx hb dX0_partnerOf_81 hl_17 (by decide) rfl (fun ls_22 hl_22 => ?_)
              clear hl_17
              exact J_83 _ _ _ _ ⟨z_21, ⟨by omega, by omega⟩, rfl, h_10, (lv_sub hl_22 [2, 3, 4, 5, 0, 6] rfl)⟩
          · replace c_13 := i_eq (x := r_10) (y := p0) rfl rfl c_13
            refine lv_iload hx hb dX0_partnerOf_52 (lv_at hl_11 6 rfl) ?_
            exact q_iret X hr hlk hK h_10 rfl (fun _ => 0, fun _ _ => 0, fun _ _ => 0) ⟨⟨by omega, by omega⟩, trivial⟩ [0, 1, 2, 3] rfl rfl dX0_partnerOf_54 (Nat.le_of_ble_eq_true rfl) (Nat.le_of_ble_eq_true rfl)
        · replace c_12 := i_eq (x := v6_3_0) (y := p0) rfl rfl c_12
          refine lv_iload hx hb dX0_partnerOf_43 (lv_at hl_11 0 rfl) ?_
          exact q_iret X hr hlk hK h_10 rfl (fun _ => 0, fun _ _ => 0, fun _ _ => 0) ⟨wr_10, trivial⟩ [0, 1, 2, 3] rfl rfl dX0_partnerOf_45 (Nat.le_of_ble_eq_true rfl) (Nat.le_of_ble_eq_true rfl)
set_option maxHeartbeats 4000000 in
set_option maxRecDepth 100000 in
theorem gX0_countPartings_d0ee8ee (l : Launch) (D : va_G) (cy : Nat → ClassId) (h0 : Nat) (h1 : Nat) (h2 : Nat) (p0 : Int32) (w0 : Value) (f0 : Nat → Int32) (f1 : Nat → Int32) (hp0 : 0 ≤ (p0).toInt ∧ (p0).toInt ≤ 10) (rf0 : RG f0 10 0 1023) (sz : Nat) : MV l yX0_countPartings cX0_countPartings 6 { frames := 2, cells := 0, slots := 0, locals := 40 } [.ref h0] D cy (wk_8292aab77 cy h0 p0 h1 h2 w0 h1 f0 h2 f1) sz (fun u => True) (fun u => (wk_8292aab77 cy h0 p0 h1 h2 w0 h1 f0 h2 (u.2.1 0))) 0 0 := by
  refine q_ent (own := RX0) (by decide) rfl (Nat.le_of_ble_eq_true rfl) (fun p e s m below meth c ls X hr hlk hnm hK hT h hA hl => ?_)
  obtain ⟨hx, hb, hml, hown, ht⟩ := id X
  replace hl : lv_has ls 6 [(0, .ref h0)] := hl
  refine lv_aload_n hx hb dX0_countPartings_0 rfl (lv_at hl 0 rfl) ?_
  refine q_get X hK h 0 rfl rfl wf_0 2 (by decide) rfl wm_1_201 dX0_countPartings_1 ?_
  refine lv_iconst (v := 0) hx hb dX0_countPartings_4 (by decide) ?_
  refine lv_iconst (v := 1) hx hb dX0_countPartings_5 (by decide) ?_
  refine q_iast X hK h 2 rfl (q_in (by decide +kernel)) dX0_countPartings_6 (fun H locs h_2 => ?_)
  clear h
  replace h_2 : qW D _ _ (wk_8292aab77 cy h0 p0 h1 h2 w0 h1 f0 h2 (upd f1 (Int32.toNatClampNeg 0) 1)) _ _ := h_2
  obtain ⟨F_1, eF_1⟩ : ∃ z, (upd f1 (Int32.toNatClampNeg 0) 1) = z := ⟨_, rfl⟩
  rw [eF_1] at h_2
  clear eF_1
  refine lv_iconst (v := 1) hx hb dX0_countPartings_7 (by decide) ?_
  refine lv_istore_n (lv' := [(1, .int 1), (0, .ref h0)]) hx hb dX0_countPartings_8 rfl hl (by decide) rfl (fun ls_3 hl_3 => ?_)
  clear hl
  refine q_wl (fun (v9_4_0 : Int32) H locs ls => ∃ v9_4_1 : Nat → Int32, (1 ≤ (v9_4_0).toInt ∧ (v9_4_0).toInt ≤ 1024) ∧ qW D (va_A (wk_8292aab77 cy h0 p0 h1 h2 w0 h1 f0 h2 f1) sz) s.heap (wk_8292aab77 cy h0 p0 h1 h2 w0 h1 f0 h2 v9_4_1) H locs ∧ lv_has ls 6 [(0, .ref h0), (1, .int v9_4_0)]) (fun (v9_4_0 : Int32) => (1025 - (v9_4_0).toInt).toNat) (fun q_9 ih_9 H locs ls hP => ?_) 1 ⟨F_1, ⟨by decide +kernel, by decide +kernel⟩, h_2, (lv_sub hl_3 [1, 0] rfl)⟩
  obtain ⟨v9_4_0, rfl⟩ : ∃ z, z = q_9 := ⟨_, rfl⟩
  obtain ⟨v9_4_1, hv9_4_0, h, hl⟩ := hP
  refine lv_iload_n hx hb dX0_countPartings_9 rfl (lv_at hl 1 rfl) ?_
  refine lv_iconst (v := 1) hx hb dX0_countPartings_10 (by decide) ?_
  refine lv_aload_n hx hb dX0_countPartings_11 rfl (lv_at hl 0 rfl) ?_
  refine q_get X hK h 0 rfl rfl wf_0 0 (by decide) rfl wm_1_198 dX0_countPartings_12 ?_
  refine lv_ishl hx hb dX0_countPartings_15 ?_
  obtain ⟨z_5, ez_5, hz_5⟩ := e_shlk (p := p0) 10 (by decide) rfl (by omega) (by omega)
  refine q_c z_5 ez_5 ?_
  clear ez_5
  refine lv_icmp_ge (tgt := 102) hx hb dX0_countPartings_16 (by decide) (fun c_6 => ?_) (fun c_6 => ?_)
  · replace c_6 := i_le (x := z_5) (y := v9_4_0) rfl rfl c_6
    exact q_vret X hr hlk hK h (fun _ => 0, (vcons v9_4_1 (fun _ => (fun _ => 0))), fun _ _ => 0) trivial [0, 1, 2] rfl rfl dX0_countPartings_102 (Nat.le_of_ble_eq_true rfl) (Nat.le_of_ble_eq_true rfl)
  · replace c_6 := i_nle (x := z_5) (y := v9_4_0) rfl rfl c_6
    refine lv_iload_n hx hb dX0_countPartings_19 rfl (lv_at hl 1 rfl) ?_
    refine q_callSi (rest := []) (wr := (wk_8292aab77 cy h0 p0 h1 h2 w0 h1 f0 h2 v9_4_1)) X hK hT hA h (fun sz => gX0_lowestOf_af0d02d l D cy v9_4_0 ⟨by omega, by omega⟩ sz) wm_4_113 wm_4_115 wm_1_6 hd_X0_lowestOf wm_4_114 ⟨Nat.le_of_ble_eq_true rfl, Nat.le_of_ble_eq_true rfl⟩ hl.1 rfl (Nat.le_of_ble_eq_true rfl) dX0_countPartings_20 ⟨Nat.le_of_ble_eq_true rfl, Nat.le_of_ble_eq_true rfl⟩ [] [0, 1, 2] rfl rfl (by decide) rfl rfl (fun r_7 u_7 H locs w_7 h_7 => ?_)
    clear h
    obtain ⟨wr_7, _⟩ := w_7
    replace h_7 : qW D _ _ (wk_8292aab77 cy h0 p0 h1 h2 w0 h1 f0 h2 v9_4_1) _ _ := h_7
    refine lv_istore_n (lv' := [(2, .int r_7), (0, .ref h0), (1, .int v9_4_0)]) hx hb dX0_countPartings_23 rfl hl (by decide) rfl (fun ls_8 hl_8 => ?_)
    clear hl
    refine lv_aload_n hx hb dX0_countPartings_24 rfl (lv_at hl_8 1 rfl) ?_
    refine q_get X hK h_7 0 rfl rfl wf_0 1 (by decide) rfl wm_1_199 dX0_countPartings_25 ?_
    refine lv_iload_n hx hb dX0_countPartings_28 rfl (lv_at hl_8 0 rfl) ?_
    refine q_iald X hK h_7 1 rfl (i_in rfl (by omega) (by omega)) dX0_countPartings_29 ?_
    obtain ⟨z_9, ez_9, hz_9⟩ := rg_get rf0 (x := r_7) rfl (by omega) (by omega)
    refine q_c z_9 ez_9 ?_
    clear ez_9
    refine lv_iload_n hx hb dX0_countPartings_30 rfl (lv_at hl_8 2 rfl) ?_
    refine lv_iand hx hb dX0_countPartings_31 ?_
    obtain ⟨z_10, ez_10, hz_10⟩ := e_and2 (x := z_9) (y := v9_4_0) rfl (by omega)
    refine q_c z_10 ez_10 ?_
    clear ez_10
    refine lv_istore_n (lv' := [(3, .int z_10), (2, .int r_7), (0, .ref h0), (1, .int v9_4_0)]) hx hb dX0_countPartings_32 rfl hl_8 (by decide) rfl (fun ls_11 hl_11 => ?_)
    clear hl_8
    refine lv_iconst (v := 0) hx hb dX0_countPartings_33 (by decide) ?_
    refine lv_istore (lv' := [(4, .int 0), (3, .int z_10), (2, .int r_7), (0, .ref h0), (1, .int v9_4_0)]) hx hb dX0_countPartings_34 hl_11 (by decide) rfl (fun ls_12 hl_12 => ?_)
    clear hl_11
    refine lv_iload_n hx hb dX0_countPartings_36 rfl (lv_at hl_12 2 rfl) ?_
    refine lv_iconst (v := 1) hx hb dX0_countPartings_37 (by decide) ?_
    refine lv_iadd hx hb dX0_countPartings_38 ?_
    obtain ⟨z_13, ez_13, hz_13⟩ := e_add (x := r_7) (y := 1) rfl (show (1 : Int32).toInt = 1 by decide) (by omega) (by omega)
    refine q_c z_13 ez_13 ?_
    clear ez_13
    refine lv_istore (lv' := [(5, .int z_13), (4, .int 0), (3, .int z_10), (2, .int r_7), (0, .ref h0), (1, .int v9_4_0)]) hx hb dX0_countPartings_39 hl_12 (by decide) rfl (fun ls_14 hl_14 => ?_)
    clear hl_12
    refine q_wl (fun (q : Int32 × Int32) H locs ls => match q with | (v41_15_0, v41_15_1) => (1 ≤ (v41_15_0).toInt ∧ (v41_15_0).toInt ≤ 10) ∧ ((-2147483648) ≤ (v41_15_1).toInt ∧ (v41_15_1).toInt ≤ 2147483647) ∧ qW D (va_A (wk_8292aab77 cy h0 p0 h1 h2 w0 h1 f0 h2 f1) sz) s.heap (wk_8292aab77 cy h0 p0 h1 h2 w0 h1 f0 h2 v9_4_1) H locs ∧ lv_has ls 6 [(0, .ref h0), (1, .int v9_4_0), (2, .int r_7), (3, .int z_10), (4, .int v41_15_1), (5, .int v41_15_0)]) (fun (q : Int32 × Int32) => match q with | (v41_15_0, v41_15_1) => (11 - (v41_15_0).toInt).toNat) (fun q_41 ih_41 H locs ls hP => ?_) (z_13, 0) ⟨⟨by omega, by omega⟩, ⟨by decide +kernel, by decide +kernel⟩, h_7, (lv_sub hl_14 [4, 5, 3, 2, 1, 0] rfl)⟩
    obtain ⟨v41_15_0, v41_15_1⟩ := q_41
    obtain ⟨hv41_15_0, hv41_15_1, h, hl⟩ := hP
    refine lv_iload hx hb dX0_countPartings_41 (lv_at hl 5 rfl) ?_
    refine lv_aload_n hx hb dX0_countPartings_43 rfl (lv_at hl 0 rfl) ?_
    refine q_get X hK h 0 rfl rfl wf_0 0 (by decide) rfl wm_1_198 dX0_countPartings_44 ?_
    refine lv_icmp_ge (tgt := 88) hx hb dX0_countPartings_47 (by decide) (fun c_16 => ?_) (fun c_16 => ?_)
    · replace c_16 := i_le (x := p0) (y := v41_15_0) rfl rfl c_16
      refine lv_aload_n hx hb dX0_countPartings_88 rfl (lv_at hl 0 rfl) ?_
      refine q_get X hK h 0 rfl rfl wf_0 2 (by decide) rfl wm_1_201 dX0_countPartings_89 ?_
      refine lv_iload_n hx hb dX0_countPartings_92 rfl (lv_at hl 1 rfl) ?_
      refine lv_iload hx hb dX0_countPartings_93 (lv_at hl 4 rfl) ?_
      refine q_iast X hK h 2 rfl (i_in rfl (by omega) (by omega)) dX0_countPartings_95 (fun H locs h_18 => ?_)
      clear h
      replace h_18 : qW D _ _ (wk_8292aab77 cy h0 p0 h1 h2 w0 h1 f0 h2 (upd v9_4_1 (Int32.toNatClampNeg v9_4_0) v41_15_1)) _ _ := h_18
      obtain ⟨F_17, eF_17⟩ : ∃ z, (upd v9_4_1 (Int32.toNatClampNeg v9_4_0) v41_15_1) = z := ⟨_, rfl⟩
      rw [eF_17] at h_18
      clear eF_17
      obtain ⟨z_19, ez_19, hz_19⟩ := e_add (x := v9_4_0) (y := Int32.ofInt 1) rfl (b := 1) (by decide) (by omega) (by omega)
      refine lv_iinc (v := z_19) (lv' := [(1, .int z_19), (0, .ref h0), (2, .int r_7), (3, .int z_10), (4, .int v41_15_1), (5, .int v41_15_0)]) hx hb dX0_countPartings_96 hl (k := 1) rfl ez_19 (by decide) rfl (fun ls_19 hl_19 => ?_)
      clear hl
      refine lv_goto (tgt := 9) hx hb dX0_countPartings_99 (by decide) ?_
      exact ih_9 z_19 (by show (1025 - (z_19).toInt).toNat < (1025 - (v9_4_0).toInt).toNat; omega) _ _ _ ⟨F_17, ⟨by omega, by omega⟩, h_18, (lv_sub hl_19 [1, 0] rfl)⟩
    · replace c_16 := i_nle (x := p0) (y := v41_15_0) rfl rfl c_16
      refine lv_iload_n hx hb dX0_countPartings_50 rfl (lv_at hl 3 rfl) ?_
      refine lv_iload hx hb dX0_countPartings_51 (lv_at hl 5 rfl) ?_
      refine lv_ishr hx hb dX0_countPartings_53 ?_
      obtain ⟨z_20, ez_20, hz_20⟩ := e_shr (x := z_10) v41_15_0 rfl (by omega)
      refine q_c z_20 ez_20 ?_
      clear ez_20
      refine lv_iconst (v := 1) hx hb dX0_countPartings_54 (by decide) ?_
      refine lv_iand hx hb dX0_countPartings_55 ?_
      obtain ⟨z_21, ez_21, hz_21⟩ := e_and2 (x := z_20) (y := 1) (show (1 : Int32).toInt = 1 by decide) (by omega)
      refine q_c z_21 ez_21 ?_
      clear ez_21
      refine lv_iconst (v := 1) hx hb dX0_countPartings_56 (by decide) ?_
      refine q_jn (pc2 := 82) (fun H locs ls st => ∃ v82_22_0 : Int32, ((-2147483648) ≤ (v82_22_0).toInt ∧ (v82_22_0).toInt ≤ 2147483647) ∧ st = [] ∧ qW D (va_A (wk_8292aab77 cy h0 p0 h1 h2 w0 h1 f0 h2 f1) sz) s.heap (wk_8292aab77 cy h0 p0 h1 h2 w0 h1 f0 h2 v9_4_1) H locs ∧ lv_has ls 6 [(0, .ref h0), (1, .int v9_4_0), (2, .int r_7), (3, .int z_10), (4, .int v82_22_0), (5, .int v41_15_0)]) (fun H locs ls st hP => ?_) (fun J_82 => ?_)
      · obtain ⟨v82_22_0, hv82_22_0, rfl, h, hl⟩ := hP
        obtain ⟨z_23, ez_23, hz_23⟩ := e_add (x := v41_15_0) (y := Int32.ofInt 1) rfl (b := 1) (by decide) (by omega) (by omega)
        refine lv_iinc (v := z_23) (lv' := [(5, .int z_23), (0, .ref h0), (1, .int v9_4_0), (2, .int r_7), (3, .int z_10), (4, .int v82_22_0)]) hx hb dX0_countPartings_82 hl (k := 5) rfl ez_23 (by decide) rfl (fun ls_23 hl_23 => ?_)
        clear hl
        refine lv_goto (tgt := 41) hx hb dX0_countPartings_85 (by decide) ?_
        exact ih_41 (z_23, v82_22_0) (by show (11 - (z_23).toInt).toNat < (11 - (v41_15_0).toInt).toNat; omega) _ _ _ ⟨⟨by omega, by omega⟩, hv82_22_0, h, (lv_sub hl_23 [1, 2, 3, 4, 5, 0] rfl)⟩
      · skip
        refine lv_icmp_ne (tgt := 82) hx hb dX0_countPartings_57 (by decide) (fun c_24 => ?_) (fun c_24 => ?_)
        · replace c_24 := i_ne (x := z_21) (y := 1) rfl (show (1 : Int32).toInt = 1 by decide) c_24
          exact J_82 _ _ _ _ ⟨v41_15_1, hv41_15_1, rfl, h, (lv_sub hl [0, 1, 2, 3, 4, 5] rfl)⟩
        · replace c_24 := i_eq (x := z_21) (y := 1) rfl (show (1 : Int32).toInt = 1 by decide) c_24
          refine lv_iload hx hb dX0_countPartings_60 (lv_at hl 4 rfl) ?_
          refine lv_aload_n hx hb dX0_countPartings_62 rfl (lv_at hl 0 rfl) ?_
          refine q_get X hK h 0 rfl rfl wf_0 2 (by decide) rfl wm_1_201 dX0_countPartings_63 ?_
          refine lv_iload_n hx hb dX0_countPartings_66 rfl (lv_at hl 1 rfl) ?_
          refine lv_iconst (v := 1) hx hb dX0_countPartings_67 (by decide) ?_
          refine lv_iload_n hx hb dX0_countPartings_68 rfl (lv_at hl 2 rfl) ?_
          refine lv_ishl hx hb dX0_countPartings_69 ?_
          obtain ⟨z_25, ez_25, hz_25⟩ := e_shlk (p := r_7) 9 (by decide) rfl (by omega) (by omega)
          refine q_c z_25 ez_25 ?_
          clear ez_25
          refine lv_iconst (v := 1) hx hb dX0_countPartings_70 (by decide) ?_
          refine lv_iload hx hb dX0_countPartings_71 (lv_at hl 5 rfl) ?_
          refine lv_ishl hx hb dX0_countPartings_73 ?_
          obtain ⟨z_26, ez_26, hz_26⟩ := e_shlk (p := v41_15_0) 9 (by decide) rfl (by omega) (by omega)
          refine q_c z_26 ez_26 ?_
          clear ez_26
          refine lv_ior hx hb dX0_countPartings_74 ?_
          obtain ⟨z_27, ez_27, hz_27⟩ := e_or (x := z_25) (y := z_26) 10 (by decide) rfl rfl (by omega) (by omega) (by omega) (by omega)
          refine q_c z_27 ez_27 ?_
          clear ez_27
          refine lv_iconst (v := (-1)) hx hb dX0_countPartings_75 (by decide) ?_
          refine lv_ixor hx hb dX0_countPartings_76 ?_
          refine q_any (fun z_28 hz_28 => ?_)
          refine lv_iand hx hb dX0_countPartings_77 ?_
          obtain ⟨z_29, ez_29, hz_29⟩ := e_and1 (x := v9_4_0) (y := z_28) rfl (by omega)
          refine q_c z_29 ez_29 ?_
          clear ez_29
          refine q_iald X hK h 2 rfl (i_in rfl (by omega) (by omega)) dX0_countPartings_78 ?_
          refine q_any (fun z_30 hz_30 => ?_)
          refine lv_iadd hx hb dX0_countPartings_79 ?_
          refine q_any (fun z_31 hz_31 => ?_)
          refine lv_istore (lv' := [(4, .int z_31), (0, .ref h0), (1, .int v9_4_0), (2, .int r_7), (3, .int z_10), (5, .int v41_15_0)]) hx hb dX0_countPartings_80 hl (by decide) rfl (fun ls_32 hl_32 => ?_)
          clear hl
          exact J_82 _ _ _ _ ⟨z_31, ⟨by omega, by omega⟩, rfl, h, (lv_sub hl_32 [1, 2, 3, 4, 0, 5] rfl)⟩
set_option maxHeartbeats 4000000 in
set_option maxRecDepth 100000 in
theorem gJ6_bitCount_0f7a4_a4a6115 (l : Launch) (D : va_G) (cy : Nat → ClassId) (p0 : Int32) (hp0 : (-2147483648) ≤ (p0).toInt ∧ (p0).toInt ≤ 2147483647) (sz : Nat) : MI l yJ6_bitCount_0f7a4 cJ6_bitCount_0f7a4 1 .int { frames := 0, cells := 0, slots := 0, locals := 0 } [.int p0] D cy [] sz (fun r u => (0 ≤ r.toInt ∧ r.toInt ≤ 63) ∧ True) (fun u => []) 0 0 := by
  refine q_ent (own := RJ6) (by decide) rfl (Nat.le_of_ble_eq_true rfl) (fun p e s m below meth c ls X hr hlk hnm hK hT h hA hl => ?_)
  obtain ⟨hx, hb, hml, hown, ht⟩ := id X
  replace hl : lv_has ls 1 [(0, .int p0)] := hl
  refine lv_iload_n hx hb dJ6_bitCount_0f7a4_0 rfl (lv_at hl 0 rfl) ?_
  refine lv_iload_n hx hb dJ6_bitCount_0f7a4_1 rfl (lv_at hl 0 rfl) ?_
  refine lv_iconst (v := 1) hx hb dJ6_bitCount_0f7a4_2 (by decide) ?_
  refine lv_iushr hx hb dJ6_bitCount_0f7a4_3 rfl ?_
  refine q_any (fun z_1 hz_1 => ?_)
  refine lv_ldcw hx hb hown (ht _ wm_4_60) dJ6_bitCount_0f7a4_4 ?_
  refine lv_iand hx hb dJ6_bitCount_0f7a4_7 ?_
  obtain ⟨z_2, ez_2, hz_2⟩ := e_and2 (x := z_1) (y := 1431655765) (show (1431655765 : Int32).toInt = 1431655765 by decide) (by omega)
  refine q_c z_2 ez_2 ?_
  clear ez_2
  refine lv_isub hx hb dJ6_bitCount_0f7a4_8 ?_
  refine q_any (fun z_3 hz_3 => ?_)
  refine lv_istore_n (lv' := [(0, .int z_3)]) hx hb dJ6_bitCount_0f7a4_9 rfl hl (by decide) rfl (fun ls_4 hl_4 => ?_)
  clear hl
  refine lv_iload_n hx hb dJ6_bitCount_0f7a4_10 rfl (lv_at hl_4 0 rfl) ?_
  refine lv_ldcw hx hb hown (ht _ wm_4_61) dJ6_bitCount_0f7a4_11 ?_
  refine lv_iand hx hb dJ6_bitCount_0f7a4_14 ?_
  obtain ⟨z_5, ez_5, hz_5⟩ := e_and2 (x := z_3) (y := 858993459) (show (858993459 : Int32).toInt = 858993459 by decide) (by omega)
  refine q_c z_5 ez_5 ?_
  clear ez_5
  refine lv_iload_n hx hb dJ6_bitCount_0f7a4_15 rfl (lv_at hl_4 0 rfl) ?_
  refine lv_iconst (v := 2) hx hb dJ6_bitCount_0f7a4_16 (by decide) ?_
  refine lv_iushr hx hb dJ6_bitCount_0f7a4_17 rfl ?_
  refine q_any (fun z_6 hz_6 => ?_)
  refine lv_ldcw hx hb hown (ht _ wm_4_61) dJ6_bitCount_0f7a4_18 ?_
  refine lv_iand hx hb dJ6_bitCount_0f7a4_21 ?_
  obtain ⟨z_7, ez_7, hz_7⟩ := e_and2 (x := z_6) (y := 858993459) (show (858993459 : Int32).toInt = 858993459 by decide) (by omega)
  refine q_c z_7 ez_7 ?_
  clear ez_7
  refine lv_iadd hx hb dJ6_bitCount_0f7a4_22 ?_
  obtain ⟨z_8, ez_8, hz_8⟩ := e_add (x := z_5) (y := z_7) rfl rfl (by omega) (by omega)
  refine q_c z_8 ez_8 ?_
  clear ez_8
  refine lv_istore_n (lv' := [(0, .int z_8)]) hx hb dJ6_bitCount_0f7a4_23 rfl hl_4 (by decide) rfl (fun ls_9 hl_9 => ?_)
  clear hl_4
  refine lv_iload_n hx hb dJ6_bitCount_0f7a4_24 rfl (lv_at hl_9 0 rfl) ?_
  refine lv_iload_n hx hb dJ6_bitCount_0f7a4_25 rfl (lv_at hl_9 0 rfl) ?_
  refine lv_iconst (v := 4) hx hb dJ6_bitCount_0f7a4_26 (by decide) ?_
  refine lv_iushr hx hb dJ6_bitCount_0f7a4_27 rfl ?_
  refine q_any (fun z_10 hz_10 => ?_)
  refine lv_iadd hx hb dJ6_bitCount_0f7a4_28 ?_
  refine q_any (fun z_11 hz_11 => ?_)
  refine lv_ldcw hx hb hown (ht _ wm_4_62) dJ6_bitCount_0f7a4_29 ?_
  refine lv_iand hx hb dJ6_bitCount_0f7a4_32 ?_
  obtain ⟨z_12, ez_12, hz_12⟩ := e_and2 (x := z_11) (y := 252645135) (show (252645135 : Int32).toInt = 252645135 by decide) (by omega)
  refine q_c z_12 ez_12 ?_
  clear ez_12
  refine lv_istore_n (lv' := [(0, .int z_12)]) hx hb dJ6_bitCount_0f7a4_33 rfl hl_9 (by decide) rfl (fun ls_13 hl_13 => ?_)
  clear hl_9
  refine lv_iload_n hx hb dJ6_bitCount_0f7a4_34 rfl (lv_at hl_13 0 rfl) ?_
  refine lv_iload_n hx hb dJ6_bitCount_0f7a4_35 rfl (lv_at hl_13 0 rfl) ?_
  refine lv_bipush (v := 8) hx hb dJ6_bitCount_0f7a4_36 (by decide) ?_
  refine lv_iushr hx hb dJ6_bitCount_0f7a4_38 rfl ?_
  refine q_any (fun z_14 hz_14 => ?_)
  refine lv_iadd hx hb dJ6_bitCount_0f7a4_39 ?_
  refine q_any (fun z_15 hz_15 => ?_)
  refine lv_istore_n (lv' := [(0, .int z_15)]) hx hb dJ6_bitCount_0f7a4_40 rfl hl_13 (by decide) rfl (fun ls_16 hl_16 => ?_)
  clear hl_13
  refine lv_iload_n hx hb dJ6_bitCount_0f7a4_41 rfl (lv_at hl_16 0 rfl) ?_
  refine lv_iload_n hx hb dJ6_bitCount_0f7a4_42 rfl (lv_at hl_16 0 rfl) ?_
  refine lv_bipush (v := 16) hx hb dJ6_bitCount_0f7a4_43 (by decide) ?_
  refine lv_iushr hx hb dJ6_bitCount_0f7a4_45 rfl ?_
  refine q_any (fun z_17 hz_17 => ?_)
  refine lv_iadd hx hb dJ6_bitCount_0f7a4_46 ?_
  refine q_any (fun z_18 hz_18 => ?_)
  refine lv_istore_n (lv' := [(0, .int z_18)]) hx hb dJ6_bitCount_0f7a4_47 rfl hl_16 (by decide) rfl (fun ls_19 hl_19 => ?_)
  clear hl_16
  refine lv_iload_n hx hb dJ6_bitCount_0f7a4_48 rfl (lv_at hl_19 0 rfl) ?_
  refine lv_bipush (v := 63) hx hb dJ6_bitCount_0f7a4_49 (by decide) ?_
  refine lv_iand hx hb dJ6_bitCount_0f7a4_51 ?_
  obtain ⟨z_20, ez_20, hz_20⟩ := e_and2 (x := z_18) (y := 63) (show (63 : Int32).toInt = 63 by decide) (by omega)
  refine q_c z_20 ez_20 ?_
  clear ez_20
  exact q_iret X hr hlk hK h rfl (fun _ => 0, fun _ _ => 0, fun _ _ => 0) ⟨⟨by omega, by omega⟩, trivial⟩ [] rfl rfl dJ6_bitCount_0f7a4_52 (Nat.le_of_ble_eq_true rfl) (Nat.le_of_ble_eq_true rfl)
set_option maxHeartbeats 4000000 in
set_option maxRecDepth 100000 in
theorem gX0_pieceOf_d720a36 (l : Launch) (D : va_G) (cy : Nat → ClassId) (h0 : Nat) (h1 : Nat) (p0 : Int32) (p1 : Int32) (p2 : Int32) (w0 : Value) (w1 : Value) (f0 : Nat → Int32) (hp0 : 0 ≤ (p0).toInt ∧ (p0).toInt ≤ 1023) (hp1 : 1 ≤ (p1).toInt ∧ (p1).toInt ≤ 1023) (hp2 : 1 ≤ (p2).toInt ∧ (p2).toInt ≤ 10) (rf0 : RG f0 10 0 1023) (sz : Nat) : MI l yX0_pieceOf cX0_pieceOf 8 .int { frames := 2, cells := 0, slots := 0, locals := 40 } [.ref h0, .int p0, .int p1] D cy (wk_61955d11b cy h0 p2 h1 w0 w1 h1 f0) sz (fun r u => (0 ≤ r.toInt ∧ r.toInt ≤ 1023) ∧ True) (fun u => (wk_61955d11b cy h0 p2 h1 w0 w1 h1 f0)) 0 0 := by
  refine q_ent (own := RX0) (by decide) rfl (Nat.le_of_ble_eq_true rfl) (fun p e s m below meth c ls X hr hlk hnm hK hT h hA hl => ?_)
  obtain ⟨hx, hb, hml, hown, ht⟩ := id X
  replace hl : lv_has ls 8 [(0, .ref h0), (1, .int p0), (2, .int p1)] := hl
  refine lv_iload_n hx hb dX0_pieceOf_0 rfl (lv_at hl 1 rfl) ?_
  refine lv_istore_n (lv' := [(3, .int p0), (0, .ref h0), (1, .int p0), (2, .int p1)]) hx hb dX0_pieceOf_1 rfl hl (by decide) rfl (fun ls_1 hl_1 => ?_)
  clear hl
  refine lv_iload_n hx hb dX0_pieceOf_2 rfl (lv_at hl_1 2 rfl) ?_
  refine lv_istore (lv' := [(4, .int p0), (3, .int p0), (0, .ref h0), (1, .int p0), (2, .int p1)]) hx hb dX0_pieceOf_3 hl_1 (by decide) rfl (fun ls_2 hl_2 => ?_)
  clear hl_1
  refine lv_iconst (v := 0) hx hb dX0_pieceOf_5 (by decide) ?_
  refine lv_istore (lv' := [(5, .int 0), (4, .int p0), (3, .int p0), (0, .ref h0), (1, .int p0), (2, .int p1)]) hx hb dX0_pieceOf_6 hl_2 (by decide) rfl (fun ls_3 hl_3 => ?_)
  clear hl_2
  refine q_wl (fun (q : Int32 × Int32 × Int32) H locs ls => match q with | (v8_4_0, v8_4_1, v8_4_2) => (0 ≤ (v8_4_0).toInt ∧ (v8_4_0).toInt ≤ 10) ∧ (0 ≤ (v8_4_1).toInt ∧ (v8_4_1).toInt ≤ 1023) ∧ (0 ≤ (v8_4_2).toInt ∧ (v8_4_2).toInt ≤ 1023) ∧ qW D (va_A (wk_61955d11b cy h0 p2 h1 w0 w1 h1 f0) sz) s.heap (wk_61955d11b cy h0 p2 h1 w0 w1 h1 f0) H locs ∧ lv_has ls 8 [(0, .ref h0), (1, .int p0), (2, .int p1), (3, .int v8_4_2), (4, .int v8_4_1), (5, .int v8_4_0)]) (fun (q : Int32 × Int32 × Int32) => match q with | (v8_4_0, v8_4_1, v8_4_2) => (11 - (v8_4_0).toInt).toNat) (fun q_8 ih_8 H locs ls hP => ?_) (0, p0, p0) ⟨⟨by decide +kernel, by decide +kernel⟩, hp0, hp0, h, (lv_sub hl_3 [3, 4, 5, 2, 1, 0] rfl)⟩
  obtain ⟨v8_4_0, v8_4_1, v8_4_2⟩ := q_8
  obtain ⟨hv8_4_0, hv8_4_1, hv8_4_2, h, hl⟩ := hP
  refine lv_iload hx hb dX0_pieceOf_8 (lv_at hl 5 rfl) ?_
  refine lv_aload_n hx hb dX0_pieceOf_10 rfl (lv_at hl 0 rfl) ?_
  refine q_get X hK h 0 rfl rfl wf_0 0 (by decide) rfl wm_1_198 dX0_pieceOf_11 ?_
  refine q_jn (pc2 := 69) (fun H locs ls st => st = [] ∧ qW D (va_A (wk_61955d11b cy h0 p2 h1 w0 w1 h1 f0) sz) s.heap (wk_61955d11b cy h0 p2 h1 w0 w1 h1 f0) H locs ∧ lv_has ls 8 [(0, .ref h0), (1, .int p0), (2, .int p1), (3, .int v8_4_2), (4, .int v8_4_1), (5, .int v8_4_0)]) (fun H locs ls st hP => ?_) (fun J_69 => ?_)
  · obtain ⟨rfl, h, hl⟩ := hP
    refine lv_iload_n hx hb dX0_pieceOf_69 rfl (lv_at hl 3 rfl) ?_
    exact q_iret X hr hlk hK h rfl (fun _ => 0, fun _ _ => 0, fun _ _ => 0) ⟨hv8_4_2, trivial⟩ [0, 1] rfl rfl dX0_pieceOf_70 (Nat.le_of_ble_eq_true rfl) (Nat.le_of_ble_eq_true rfl)
  · skip
    refine lv_icmp_ge (tgt := 69) hx hb dX0_pieceOf_14 (by decide) (fun c_6 => ?_) (fun c_6 => ?_)
    · replace c_6 := i_le (x := p2) (y := v8_4_0) rfl rfl c_6
      exact J_69 _ _ _ _ ⟨rfl, h, (lv_sub hl [0, 1, 2, 3, 4, 5] rfl)⟩
    · replace c_6 := i_nle (x := p2) (y := v8_4_0) rfl rfl c_6
      refine lv_iload hx hb dX0_pieceOf_17 (lv_at hl 4 rfl) ?_
      refine lv_if_eq (tgt := 69) hx hb dX0_pieceOf_19 (by decide) (fun c_7 => ?_) (fun c_7 => ?_)
      · replace c_7 := i_eq (x := v8_4_1) (y := 0) rfl (show (0 : Int32).toInt = 0 by decide) c_7
        exact J_69 _ _ _ _ ⟨rfl, h, (lv_sub hl [0, 1, 2, 3, 4, 5] rfl)⟩
      · replace c_7 := i_ne (x := v8_4_1) (y := 0) rfl (show (0 : Int32).toInt = 0 by decide) c_7
        refine lv_iload hx hb dX0_pieceOf_22 (lv_at hl 4 rfl) ?_
        refine q_callSi (rest := []) (wr := (wk_61955d11b cy h0 p2 h1 w0 w1 h1 f0)) X hK hT hA h (fun sz => gX0_lowestOf_af0d02d l D cy v8_4_1 ⟨by omega, by omega⟩ sz) wm_4_113 wm_4_115 wm_1_6 hd_X0_lowestOf wm_4_114 ⟨Nat.le_of_ble_eq_true rfl, Nat.le_of_ble_eq_true rfl⟩ hl.1 rfl (Nat.le_of_ble_eq_true rfl) dX0_pieceOf_24 ⟨Nat.le_of_ble_eq_true rfl, Nat.le_of_ble_eq_true rfl⟩ [] [0, 1] rfl rfl (by decide) rfl rfl (fun r_8 u_8 H locs w_8 h_8 => ?_)
        clear h
        obtain ⟨wr_8, _⟩ := w_8
        replace h_8 : qW D _ _ (wk_61955d11b cy h0 p2 h1 w0 w1 h1 f0) _ _ := h_8
        refine lv_istore (lv' := [(6, .int r_8), (0, .ref h0), (1, .int p0), (2, .int p1), (3, .int v8_4_2), (4, .int v8_4_1), (5, .int v8_4_0)]) hx hb dX0_pieceOf_27 hl (by decide) rfl (fun ls_9 hl_9 => ?_)
        clear hl
        refine lv_aload_n hx hb dX0_pieceOf_29 rfl (lv_at hl_9 1 rfl) ?_
        refine q_get X hK h_8 0 rfl rfl wf_0 1 (by decide) rfl wm_1_199 dX0_pieceOf_30 ?_
        refine lv_iload hx hb dX0_pieceOf_33 (lv_at hl_9 0 rfl) ?_
        refine q_iald X hK h_8 1 rfl (i_in rfl (by omega) (by omega)) dX0_pieceOf_35 ?_
        obtain ⟨z_10, ez_10, hz_10⟩ := rg_get rf0 (x := r_8) rfl (by omega) (by omega)
        refine q_c z_10 ez_10 ?_
        clear ez_10
        refine lv_iload_n hx hb dX0_pieceOf_36 rfl (lv_at hl_9 3 rfl) ?_
        refine lv_iand hx hb dX0_pieceOf_37 ?_
        obtain ⟨z_11, ez_11, hz_11⟩ := e_and2 (x := z_10) (y := p1) rfl (by omega)
        refine q_c z_11 ez_11 ?_
        clear ez_11
        refine lv_iload_n hx hb dX0_pieceOf_38 rfl (lv_at hl_9 4 rfl) ?_
        refine lv_iconst (v := (-1)) hx hb dX0_pieceOf_39 (by decide) ?_
        refine lv_ixor hx hb dX0_pieceOf_40 ?_
        refine q_any (fun z_12 hz_12 => ?_)
        refine lv_iand hx hb dX0_pieceOf_41 ?_
        obtain ⟨z_13, ez_13, hz_13⟩ := e_and1 (x := z_11) (y := z_12) rfl (by omega)
        refine q_c z_13 ez_13 ?_
        clear ez_13
        refine lv_istore (lv' := [(7, .int z_13), (6, .int r_8), (0, .ref h0), (1, .int p0), (2, .int p1), (3, .int v8_4_2), (4, .int v8_4_1), (5, .int v8_4_0)]) hx hb dX0_pieceOf_42 hl_9 (by decide) rfl (fun ls_14 hl_14 => ?_)
        clear hl_9
        refine lv_iload_n hx hb dX0_pieceOf_44 rfl (lv_at hl_14 5 rfl) ?_
        refine lv_iload hx hb dX0_pieceOf_45 (lv_at hl_14 0 rfl) ?_
        refine lv_ior hx hb dX0_pieceOf_47 ?_
        obtain ⟨z_15, ez_15, hz_15⟩ := e_or (x := v8_4_2) (y := z_13) 10 (by decide) rfl rfl (by omega) (by omega) (by omega) (by omega)
        refine q_c z_15 ez_15 ?_
        clear ez_15
        refine lv_istore_n (lv' := [(3, .int z_15), (7, .int z_13), (6, .int r_8), (0, .ref h0), (1, .int p0), (2, .int p1), (4, .int v8_4_1), (5, .int v8_4_0)]) hx hb dX0_pieceOf_48 rfl hl_14 (by decide) rfl (fun ls_16 hl_16 => ?_)
        clear hl_14
        refine lv_iload hx hb dX0_pieceOf_49 (lv_at hl_16 6 rfl) ?_
        refine lv_iconst (v := 1) hx hb dX0_pieceOf_51 (by decide) ?_
        refine lv_iload hx hb dX0_pieceOf_52 (lv_at hl_16 2 rfl) ?_
        refine lv_ishl hx hb dX0_pieceOf_54 ?_
        obtain ⟨z_17, ez_17, hz_17⟩ := e_shlk (p := r_8) 9 (by decide) rfl (by omega) (by omega)
        refine q_c z_17 ez_17 ?_
        clear ez_17
        refine lv_iconst (v := (-1)) hx hb dX0_pieceOf_55 (by decide) ?_
        refine lv_ixor hx hb dX0_pieceOf_56 ?_
        refine q_any (fun z_18 hz_18 => ?_)
        refine lv_iand hx hb dX0_pieceOf_57 ?_
        obtain ⟨z_19, ez_19, hz_19⟩ := e_and1 (x := v8_4_1) (y := z_18) rfl (by omega)
        refine q_c z_19 ez_19 ?_
        clear ez_19
        refine lv_iload hx hb dX0_pieceOf_58 (lv_at hl_16 1 rfl) ?_
        refine lv_ior hx hb dX0_pieceOf_60 ?_
        obtain ⟨z_20, ez_20, hz_20⟩ := e_or (x := z_19) (y := z_13) 10 (by decide) rfl rfl (by omega) (by omega) (by omega) (by omega)
        refine q_c z_20 ez_20 ?_
        clear ez_20
        refine lv_istore (lv' := [(4, .int z_20), (3, .int z_15), (7, .int z_13), (6, .int r_8), (0, .ref h0), (1, .int p0), (2, .int p1), (5, .int v8_4_0)]) hx hb dX0_pieceOf_61 hl_16 (by decide) rfl (fun ls_21 hl_21 => ?_)
        clear hl_16
        obtain ⟨z_22, ez_22, hz_22⟩ := e_add (x := v8_4_0) (y := Int32.ofInt 1) rfl (b := 1) (by decide) (by omega) (by omega)
        refine lv_iinc (v := z_22) (lv' := [(5, .int z_22), (4, .int z_20), (3, .int z_15), (7, .int z_13), (6, .int r_8), (0, .ref h0), (1, .int p0), (2, .int p1)]) hx hb dX0_pieceOf_63 hl_21 (k := 7) rfl ez_22 (by decide) rfl (fun ls_22 hl_22 => ?_)
        clear hl_21
        refine lv_goto (tgt := 8) hx hb dX0_pieceOf_66 (by decide) ?_
        exact ih_8 (z_22, z_20, z_15) (by show (11 - (z_22).toInt).toNat < (11 - (v8_4_0).toInt).toNat; omega) _ _ _ ⟨⟨by omega, by omega⟩, ⟨by omega, by omega⟩, ⟨by omega, by omega⟩, h_8, (lv_sub hl_22 [5, 6, 7, 2, 1, 0] rfl)⟩
set_option maxHeartbeats 4000000 in
set_option maxRecDepth 100000 in
theorem gX0_countPieces_960e1a9 (l : Launch) (D : va_G) (cy : Nat → ClassId) (h0 : Nat) (h1 : Nat) (p0 : Int32) (p1 : Int32) (p2 : Int32) (w0 : Value) (w1 : Value) (f0 : Nat → Int32) (hp0 : 0 ≤ (p0).toInt ∧ (p0).toInt ≤ 1023) (hp1 : 0 ≤ (p1).toInt ∧ (p1).toInt ≤ 1) (hp2 : 0 ≤ (p2).toInt ∧ (p2).toInt ≤ 10) (rf0 : RG f0 10 0 1023) (sz : Nat) : MI l yX0_countPieces cX0_countPieces 7 .int { frames := 3, cells := 0, slots := 0, locals := 67 } [.ref h0, .int p0, .int p1] D cy (wk_61955d11b cy h0 p2 h1 w0 w1 h1 f0) sz (fun r u => ((-2147483648) ≤ r.toInt ∧ r.toInt ≤ 2147483647) ∧ True) (fun u => (wk_61955d11b cy h0 p2 h1 w0 w1 h1 f0)) 0 0 := by
  refine q_ent (own := RX0) (by decide) rfl (Nat.le_of_ble_eq_true rfl) (fun p e s m below meth c ls X hr hlk hnm hK hT h hA hl => ?_)
  obtain ⟨hx, hb, hml, hown, ht⟩ := id X
  replace hl : lv_has ls 7 [(0, .ref h0), (1, .int p0), (2, .int p1)] := hl
  refine lv_iload_n hx hb dX0_countPieces_0 rfl (lv_at hl 1 rfl) ?_
  refine lv_istore_n (lv' := [(3, .int p0), (0, .ref h0), (1, .int p0), (2, .int p1)]) hx hb dX0_countPieces_1 rfl hl (by decide) rfl (fun ls_1 hl_1 => ?_)
  clear hl
  refine lv_iconst (v := 0) hx hb dX0_countPieces_2 (by decide) ?_
  refine lv_istore (lv' := [(4, .int 0), (3, .int p0), (0, .ref h0), (1, .int p0), (2, .int p1)]) hx hb dX0_countPieces_3 hl_1 (by decide) rfl (fun ls_2 hl_2 => ?_)
  clear hl_1
  refine lv_iconst (v := 0) hx hb dX0_countPieces_5 (by decide) ?_
  refine lv_istore (lv' := [(5, .int 0), (4, .int 0), (3, .int p0), (0, .ref h0), (1, .int p0), (2, .int p1)]) hx hb dX0_countPieces_6 hl_2 (by decide) rfl (fun ls_3 hl_3 => ?_)
  clear hl_2
  refine q_wl (fun (q : Int32 × Int32 × Int32) H locs ls => match q with | (v8_4_0, v8_4_1, v8_4_2) => (0 ≤ (v8_4_0).toInt ∧ (v8_4_0).toInt ≤ 10) ∧ (0 ≤ (v8_4_1).toInt ∧ (v8_4_1).toInt ≤ 1023) ∧ ((-2147483648) ≤ (v8_4_2).toInt ∧ (v8_4_2).toInt ≤ 2147483647) ∧ qW D (va_A (wk_61955d11b cy h0 p2 h1 w0 w1 h1 f0) sz) s.heap (wk_61955d11b cy h0 p2 h1 w0 w1 h1 f0) H locs ∧ lv_has ls 7 [(0, .ref h0), (1, .int p0), (2, .int p1), (3, .int v8_4_1), (4, .int v8_4_2), (5, .int v8_4_0)]) (fun (q : Int32 × Int32 × Int32) => match q with | (v8_4_0, v8_4_1, v8_4_2) => (11 - (v8_4_0).toInt).toNat) (fun q_8 ih_8 H locs ls hP => ?_) (0, p0, 0) ⟨⟨by decide +kernel, by decide +kernel⟩, hp0, ⟨by decide +kernel, by decide +kernel⟩, h, (lv_sub hl_3 [3, 4, 5, 2, 1, 0] rfl)⟩
  obtain ⟨v8_4_0, v8_4_1, v8_4_2⟩ := q_8
  obtain ⟨hv8_4_0, hv8_4_1, hv8_4_2, h, hl⟩ := hP
  refine lv_iload hx hb dX0_countPieces_8 (lv_at hl 5 rfl) ?_
  refine lv_aload_n hx hb dX0_countPieces_10 rfl (lv_at hl 0 rfl) ?_
  refine q_get X hK h 0 rfl rfl wf_0 0 (by decide) rfl wm_1_198 dX0_countPieces_11 ?_
  refine q_jn (pc2 := 63) (fun H locs ls st => st = [] ∧ qW D (va_A (wk_61955d11b cy h0 p2 h1 w0 w1 h1 f0) sz) s.heap (wk_61955d11b cy h0 p2 h1 w0 w1 h1 f0) H locs ∧ lv_has ls 7 [(0, .ref h0), (1, .int p0), (2, .int p1), (3, .int v8_4_1), (4, .int v8_4_2), (5, .int v8_4_0)]) (fun H locs ls st hP => ?_) (fun J_63 => ?_)
  · obtain ⟨rfl, h, hl⟩ := hP
    refine lv_iload hx hb dX0_countPieces_63 (lv_at hl 4 rfl) ?_
    exact q_iret X hr hlk hK h rfl (fun _ => 0, fun _ _ => 0, fun _ _ => 0) ⟨hv8_4_2, trivial⟩ [0, 1] rfl rfl dX0_countPieces_65 (Nat.le_of_ble_eq_true rfl) (Nat.le_of_ble_eq_true rfl)
  · skip
    refine lv_icmp_ge (tgt := 63) hx hb dX0_countPieces_14 (by decide) (fun c_6 => ?_) (fun c_6 => ?_)
    · replace c_6 := i_le (x := p2) (y := v8_4_0) rfl rfl c_6
      exact J_63 _ _ _ _ ⟨rfl, h, (lv_sub hl [0, 1, 2, 3, 4, 5] rfl)⟩
    · replace c_6 := i_nle (x := p2) (y := v8_4_0) rfl rfl c_6
      refine lv_iload_n hx hb dX0_countPieces_17 rfl (lv_at hl 3 rfl) ?_
      refine lv_if_eq (tgt := 63) hx hb dX0_countPieces_18 (by decide) (fun c_7 => ?_) (fun c_7 => ?_)
      · replace c_7 := i_eq (x := v8_4_1) (y := 0) rfl (show (0 : Int32).toInt = 0 by decide) c_7
        exact J_63 _ _ _ _ ⟨rfl, h, (lv_sub hl [0, 1, 2, 3, 4, 5] rfl)⟩
      · replace c_7 := i_ne (x := v8_4_1) (y := 0) rfl (show (0 : Int32).toInt = 0 by decide) c_7
        refine lv_aload_n hx hb dX0_countPieces_21 rfl (lv_at hl 0 rfl) ?_
        refine lv_iload_n hx hb dX0_countPieces_22 rfl (lv_at hl 3 rfl) ?_
        refine lv_iload_n hx hb dX0_countPieces_23 rfl (lv_at hl 3 rfl) ?_
        refine lv_ineg hx hb dX0_countPieces_24 ?_
        refine q_any (fun z_8 hz_8 => ?_)
        refine lv_iand hx hb dX0_countPieces_25 ?_
        obtain ⟨z_9, ez_9, hz_9⟩ := e_and1 (x := v8_4_1) (y := z_8) rfl (by omega)
        refine q_c z_9 ez_9 ?_
        clear ez_9
        refine lv_iload_n hx hb dX0_countPieces_26 rfl (lv_at hl 3 rfl) ?_
        refine q_callVi (rest := []) (wr := []) X hK hT hA h (fun sz => gX0_pieceOf_d720a36 l D cy h0 h1 z_9 v8_4_1 p2 w0 w1 f0 ⟨by omega, by omega⟩ ⟨by omega, by omega⟩ ⟨by omega, by omega⟩ (rg_wide rf0 (by decide) (by decide)) sz) wm_4_199 wm_4_202 wm_1_6 hd_X0_pieceOf wm_4_201 wp_3_8 (ci := 0) (q0 := 0) rfl rfl ⟨Nat.le_of_ble_eq_true rfl, Nat.le_of_ble_eq_true rfl⟩ hl.1 rfl (Nat.le_of_ble_eq_true rfl) dX0_countPieces_27 ⟨Nat.le_of_ble_eq_true rfl, Nat.le_of_ble_eq_true rfl⟩ [0, 1] [] rfl rfl (by decide) rfl rfl (fun r_10 u_10 H locs w_10 h_10 => ?_)
        clear h
        obtain ⟨wr_10, _⟩ := w_10
        replace h_10 : qW D _ _ (wk_61955d11b cy h0 p2 h1 w0 w1 h1 f0) _ _ := h_10
        refine lv_istore (lv' := [(6, .int r_10), (0, .ref h0), (1, .int p0), (2, .int p1), (3, .int v8_4_1), (4, .int v8_4_2), (5, .int v8_4_0)]) hx hb dX0_countPieces_30 hl (by decide) rfl (fun ls_11 hl_11 => ?_)
        clear hl
        refine lv_iload_n hx hb dX0_countPieces_32 rfl (lv_at hl_11 4 rfl) ?_
        refine lv_iload hx hb dX0_countPieces_33 (lv_at hl_11 0 rfl) ?_
        refine lv_iconst (v := (-1)) hx hb dX0_countPieces_35 (by decide) ?_
        refine lv_ixor hx hb dX0_countPieces_36 ?_
        refine q_any (fun z_12 hz_12 => ?_)
        refine lv_iand hx hb dX0_countPieces_37 ?_
        obtain ⟨z_13, ez_13, hz_13⟩ := e_and1 (x := v8_4_1) (y := z_12) rfl (by omega)
        refine q_c z_13 ez_13 ?_
        clear ez_13
        refine lv_istore_n (lv' := [(3, .int z_13), (6, .int r_10), (0, .ref h0), (1, .int p0), (2, .int p1), (4, .int v8_4_2), (5, .int v8_4_0)]) hx hb dX0_countPieces_38 rfl hl_11 (by decide) rfl (fun ls_14 hl_14 => ?_)
        clear hl_11
        refine lv_iload_n hx hb dX0_countPieces_39 rfl (lv_at hl_14 4 rfl) ?_
        refine q_jn (pc2 := 57) (fun H locs ls st => ∃ v57_15_0 : Int32, ((-2147483648) ≤ (v57_15_0).toInt ∧ (v57_15_0).toInt ≤ 2147483647) ∧ st = [] ∧ qW D (va_A (wk_61955d11b cy h0 p2 h1 w0 w1 h1 f0) sz) s.heap (wk_61955d11b cy h0 p2 h1 w0 w1 h1 f0) H locs ∧ lv_has ls 7 [(0, .ref h0), (1, .int p0), (2, .int p1), (3, .int z_13), (4, .int v57_15_0), (5, .int v8_4_0), (6, .int r_10)]) (fun H locs ls st hP => ?_) (fun J_57 => ?_)
        · obtain ⟨v57_15_0, hv57_15_0, rfl, h, hl⟩ := hP
          obtain ⟨z_16, ez_16, hz_16⟩ := e_add (x := v8_4_0) (y := Int32.ofInt 1) rfl (b := 1) (by decide) (by omega) (by omega)
          refine lv_iinc (v := z_16) (lv' := [(5, .int z_16), (0, .ref h0), (1, .int p0), (2, .int p1), (3, .int z_13), (4, .int v57_15_0), (6, .int r_10)]) hx hb dX0_countPieces_57 hl (k := 5) rfl ez_16 (by decide) rfl (fun ls_16 hl_16 => ?_)
          clear hl
          refine lv_goto (tgt := 8) hx hb dX0_countPieces_60 (by decide) ?_
          exact ih_8 (z_16, z_13, v57_15_0) (by show (11 - (z_16).toInt).toNat < (11 - (v8_4_0).toInt).toNat; omega) _ _ _ ⟨⟨by omega, by omega⟩, ⟨by omega, by omega⟩, hv57_15_0, h, (lv_sub hl_16 [1, 2, 3, 4, 5, 0] rfl)⟩
        · skip
          refine q_jn (pc2 := 54) (fun H locs ls st => st = [] ∧ qW D (va_A (wk_61955d11b cy h0 p2 h1 w0 w1 h1 f0) sz) s.heap (wk_61955d11b cy h0 p2 h1 w0 w1 h1 f0) H locs ∧ lv_has ls 7 [(0, .ref h0), (1, .int p0), (2, .int p1), (3, .int z_13), (4, .int v8_4_2), (5, .int v8_4_0), (6, .int r_10)]) (fun H locs ls st hP => ?_) (fun J_54 => ?_)
          · obtain ⟨rfl, h, hl⟩ := hP
            obtain ⟨z_18, ez_18, hz_18⟩ := e_any (v8_4_2 + Int32.ofInt 1)
            refine lv_iinc (v := z_18) (lv' := [(4, .int z_18), (0, .ref h0), (1, .int p0), (2, .int p1), (3, .int z_13), (5, .int v8_4_0), (6, .int r_10)]) hx hb dX0_countPieces_54 hl (k := 4) rfl ez_18 (by decide) rfl (fun ls_18 hl_18 => ?_)
            clear hl
            exact J_57 _ _ _ _ ⟨z_18, ⟨by omega, by omega⟩, rfl, h, (lv_sub hl_18 [1, 2, 3, 4, 0, 5, 6] rfl)⟩
          · skip
            refine lv_if_eq (tgt := 54) hx hb dX0_countPieces_40 (by decide) (fun c_19 => ?_) (fun c_19 => ?_)
            · replace c_19 := i_eq (x := p1) (y := 0) rfl (show (0 : Int32).toInt = 0 by decide) c_19
              exact J_54 _ _ _ _ ⟨rfl, h_10, (lv_sub hl_14 [2, 3, 4, 0, 5, 6, 1] rfl)⟩
            · replace c_19 := i_ne (x := p1) (y := 0) rfl (show (0 : Int32).toInt = 0 by decide) c_19
              refine lv_iload hx hb dX0_countPieces_43 (lv_at hl_14 1 rfl) ?_
              refine q_callSi (rest := []) (wr := (wk_61955d11b cy h0 p2 h1 w0 w1 h1 f0)) X hK hT hA h_10 (fun sz => gJ6_bitCount_0f7a4_a4a6115 l D cy r_10 (i_rng _) sz) wm_4_116 wm_4_59 wm_1_22 hd_J6_bitCount_0f7a4 wm_4_58 ⟨Nat.le_of_ble_eq_true rfl, Nat.le_of_ble_eq_true rfl⟩ hl_14.1 rfl (Nat.le_of_ble_eq_true rfl) dX0_countPieces_45 ⟨Nat.le_of_ble_eq_true rfl, Nat.le_of_ble_eq_true rfl⟩ [] [0, 1] rfl rfl (by decide) rfl rfl (fun r_20 u_20 H locs w_20 h_20 => ?_)
              clear h_10
              obtain ⟨wr_20, _⟩ := w_20
              replace h_20 : qW D _ _ (wk_61955d11b cy h0 p2 h1 w0 w1 h1 f0) _ _ := h_20
              refine lv_iconst (v := 2) hx hb dX0_countPieces_48 (by decide) ?_
              refine lv_irem hx hb dX0_countPieces_49 (by decide) ?_
              obtain ⟨z_21, ez_21, hz_21⟩ := e_rem (x := r_20) (y := 2) rfl (show (2 : Int32).toInt = 2 by decide) (by omega) (by omega)
              refine q_c z_21 ez_21 ?_
              clear ez_21
              refine lv_iconst (v := 1) hx hb dX0_countPieces_50 (by decide) ?_
              refine lv_icmp_ne (tgt := 57) hx hb dX0_countPieces_51 (by decide) (fun c_22 => ?_) (fun c_22 => ?_)
              · replace c_22 := i_ne (x := z_21) (y := 1) rfl (show (1 : Int32).toInt = 1 by decide) c_22
                exact J_57 _ _ _ _ ⟨v8_4_2, hv8_4_2, rfl, h_20, (lv_sub hl_14 [2, 3, 4, 0, 5, 6, 1] rfl)⟩
              · replace c_22 := i_eq (x := z_21) (y := 1) rfl (show (1 : Int32).toInt = 1 by decide) c_22
                exact J_54 _ _ _ _ ⟨rfl, h_20, (lv_sub hl_14 [2, 3, 4, 0, 5, 6, 1] rfl)⟩
set_option maxHeartbeats 4000000 in
set_option maxRecDepth 100000 in
theorem gX0_leastBar_42671da (l : Launch) (D : va_G) (cy : Nat → ClassId) (h0 : Nat) (h1 : Nat) (h2 : Nat) (p0 : Int32) (p1 : Int32) (w0 : Value) (f0 : Nat → Int32) (f1 : Nat → Int32) (hp0 : 0 ≤ (p0).toInt ∧ (p0).toInt ≤ 1023) (hp1 : 0 ≤ (p1).toInt ∧ (p1).toInt ≤ 10) (rf0 : RG f0 10 0 1023) (sz : Nat) : MI l yX0_leastBar cX0_leastBar 7 .int { frames := 4, cells := 0, slots := 0, locals := 93 } [.ref h0, .int p0] D cy (wk_10d8fb0cf cy h0 p1 h1 w0 h2 h1 f0 h2 f1) sz (fun r u => (0 ≤ r.toInt ∧ r.toInt ≤ 1023) ∧ True) (fun u => (wk_10d8fb0cf cy h0 p1 h1 w0 h2 h1 f0 h2 f1)) 0 0 := by
  refine q_ent (own := RX0) (by decide) rfl (Nat.le_of_ble_eq_true rfl) (fun p e s m below meth c ls X hr hlk hnm hK hT h hA hl => ?_)
  obtain ⟨hx, hb, hml, hown, ht⟩ := id X
  replace hl : lv_has ls 7 [(0, .ref h0), (1, .int p0)] := hl
  refine lv_iload_n hx hb dX0_leastBar_0 rfl (lv_at hl 1 rfl) ?_
  refine q_callSi (rest := []) (wr := (wk_10d8fb0cf cy h0 p1 h1 w0 h2 h1 f0 h2 f1)) X hK hT hA h (fun sz => gJ6_bitCount_0f7a4_a4a6115 l D cy p0 (i_rng _) sz) wm_4_116 wm_4_59 wm_1_22 hd_J6_bitCount_0f7a4 wm_4_58 ⟨Nat.le_of_ble_eq_true rfl, Nat.le_of_ble_eq_true rfl⟩ hl.1 rfl (Nat.le_of_ble_eq_true rfl) dX0_leastBar_1 ⟨Nat.le_of_ble_eq_true rfl, Nat.le_of_ble_eq_true rfl⟩ [] [0, 1, 2] rfl rfl (by decide) rfl rfl (fun r_1 u_1 H locs w_1 h_1 => ?_)
  clear h
  obtain ⟨wr_1, _⟩ := w_1
  replace h_1 : qW D _ _ (wk_10d8fb0cf cy h0 p1 h1 w0 h2 h1 f0 h2 f1) _ _ := h_1
  refine lv_iconst (v := 2) hx hb dX0_leastBar_4 (by decide) ?_
  refine lv_aload_n hx hb dX0_leastBar_5 rfl (lv_at hl 0 rfl) ?_
  refine lv_iload_n hx hb dX0_leastBar_6 rfl (lv_at hl 1 rfl) ?_
  refine q_callVi (rest := [.int 2, .int r_1]) (wr := [(h1, .inl (cy 1, 10, .inl f0))]) X hK hT hA h_1 (fun sz => gX0_twosOf_74d1fba l D cy h0 h2 p0 p1 (.ref h1) w0 f1 hp0 hp1 sz) wm_4_194 wm_4_165 wm_1_6 hd_X0_twosOf wm_4_163 wm_4_164 (ci := 0) (q0 := 0) rfl rfl ⟨Nat.le_of_ble_eq_true rfl, Nat.le_of_ble_eq_true rfl⟩ hl.1 rfl (Nat.le_of_ble_eq_true rfl) dX0_leastBar_7 ⟨Nat.le_of_ble_eq_true rfl, Nat.le_of_ble_eq_true rfl⟩ [0, 2] [1] rfl rfl (by decide) rfl rfl (fun r_2 u_2 H locs w_2 h_2 => ?_)
  clear h_1
  obtain ⟨wr_2, _⟩ := w_2
  replace h_2 : qW D _ _ (wk_1bb86faf4 cy h1 f0 h0 p1 h1 w0 h2 h2 f1) _ _ := h_2
  refine lv_imul hx hb dX0_leastBar_10 ?_
  refine q_any (fun z_3 hz_3 => ?_)
  refine lv_isub hx hb dX0_leastBar_11 ?_
  refine q_any (fun z_4 hz_4 => ?_)
  refine lv_istore_n (lv' := [(2, .int z_4), (0, .ref h0), (1, .int p0)]) hx hb dX0_leastBar_12 rfl hl (by decide) rfl (fun ls_5 hl_5 => ?_)
  clear hl
  refine lv_iconst (v := 0) hx hb dX0_leastBar_13 (by decide) ?_
  refine lv_istore_n (lv' := [(3, .int 0), (2, .int z_4), (0, .ref h0), (1, .int p0)]) hx hb dX0_leastBar_14 rfl hl_5 (by decide) rfl (fun ls_6 hl_6 => ?_)
  clear hl_5
  refine lv_bipush (v := 11) hx hb dX0_leastBar_15 (by decide) ?_
  refine lv_istore (lv' := [(4, .int 11), (3, .int 0), (2, .int z_4), (0, .ref h0), (1, .int p0)]) hx hb dX0_leastBar_17 hl_6 (by decide) rfl (fun ls_7 hl_7 => ?_)
  clear hl_6
  refine lv_iconst (v := 0) hx hb dX0_leastBar_19 (by decide) ?_
  refine lv_istore (lv' := [(5, .int 0), (4, .int 11), (3, .int 0), (2, .int z_4), (0, .ref h0), (1, .int p0)]) hx hb dX0_leastBar_20 hl_7 (by decide) rfl (fun ls_8 hl_8 => ?_)
  clear hl_7
  refine q_wl (fun (q : Int32 × Int32 × Int32) H locs ls => match q with | (v22_9_0, v22_9_1, v22_9_2) => (0 ≤ (v22_9_0).toInt ∧ (v22_9_0).toInt ≤ 1024) ∧ (0 ≤ (v22_9_1).toInt ∧ (v22_9_1).toInt ≤ 11) ∧ (0 ≤ (v22_9_2).toInt ∧ (v22_9_2).toInt ≤ 1023) ∧ qW D (va_A (wk_10d8fb0cf cy h0 p1 h1 w0 h2 h1 f0 h2 f1) sz) s.heap (wk_1bb86faf4 cy h1 f0 h0 p1 h1 w0 h2 h2 f1) H locs ∧ lv_has ls 7 [(0, .ref h0), (1, .int p0), (2, .int z_4), (3, .int v22_9_2), (4, .int v22_9_1), (5, .int v22_9_0)]) (fun (q : Int32 × Int32 × Int32) => match q with | (v22_9_0, v22_9_1, v22_9_2) => (1025 - (v22_9_0).toInt).toNat) (fun q_22 ih_22 H locs ls hP => ?_) (0, 11, 0) ⟨⟨by decide +kernel, by decide +kernel⟩, ⟨by decide +kernel, by decide +kernel⟩, ⟨by decide +kernel, by decide +kernel⟩, h_2, (lv_sub hl_8 [4, 5, 3, 2, 1, 0] rfl)⟩
  obtain ⟨v22_9_0, v22_9_1, v22_9_2⟩ := q_22
  obtain ⟨hv22_9_0, hv22_9_1, hv22_9_2, h, hl⟩ := hP
  refine lv_iload hx hb dX0_leastBar_22 (lv_at hl 5 rfl) ?_
  refine lv_iload_n hx hb dX0_leastBar_24 rfl (lv_at hl 1 rfl) ?_
  refine lv_icmp_gt (tgt := 82) hx hb dX0_leastBar_25 (by decide) (fun c_10 => ?_) (fun c_10 => ?_)
  · replace c_10 := i_lt (x := p0) (y := v22_9_0) rfl rfl c_10
    refine lv_iload_n hx hb dX0_leastBar_82 rfl (lv_at hl 3 rfl) ?_
    exact q_iret X hr hlk hK h rfl (fun _ => 0, fun _ _ => 0, fun _ _ => 0) ⟨hv22_9_2, trivial⟩ [1, 0, 2] rfl rfl dX0_leastBar_83 (Nat.le_of_ble_eq_true rfl) (Nat.le_of_ble_eq_true rfl)
  · replace c_10 := i_nlt (x := p0) (y := v22_9_0) rfl rfl c_10
    refine lv_iload hx hb dX0_leastBar_28 (lv_at hl 5 rfl) ?_
    refine q_callSi (rest := []) (wr := (wk_1bb86faf4 cy h1 f0 h0 p1 h1 w0 h2 h2 f1)) X hK hT hA h (fun sz => gJ6_bitCount_0f7a4_a4a6115 l D cy v22_9_0 (i_rng _) sz) wm_4_116 wm_4_59 wm_1_22 hd_J6_bitCount_0f7a4 wm_4_58 ⟨Nat.le_of_ble_eq_true rfl, Nat.le_of_ble_eq_true rfl⟩ hl.1 rfl (Nat.le_of_ble_eq_true rfl) dX0_leastBar_30 ⟨Nat.le_of_ble_eq_true rfl, Nat.le_of_ble_eq_true rfl⟩ [] [0, 1, 2] rfl rfl (by decide) rfl rfl (fun r_11 u_11 H locs w_11 h_11 => ?_)
    clear h
    obtain ⟨wr_11, _⟩ := w_11
    replace h_11 : qW D _ _ (wk_1bb86faf4 cy h1 f0 h0 p1 h1 w0 h2 h2 f1) _ _ := h_11
    refine lv_istore (lv' := [(6, .int r_11), (0, .ref h0), (1, .int p0), (2, .int z_4), (3, .int v22_9_2), (4, .int v22_9_1), (5, .int v22_9_0)]) hx hb dX0_leastBar_33 hl (by decide) rfl (fun ls_12 hl_12 => ?_)
    clear hl
    refine lv_iload hx hb dX0_leastBar_35 (lv_at hl_12 6 rfl) ?_
    refine lv_iload_n hx hb dX0_leastBar_37 rfl (lv_at hl_12 2 rfl) ?_
    refine lv_iconst (v := (-1)) hx hb dX0_leastBar_38 (by decide) ?_
    refine lv_ixor hx hb dX0_leastBar_39 ?_
    refine q_any (fun z_13 hz_13 => ?_)
    refine lv_iand hx hb dX0_leastBar_40 ?_
    obtain ⟨z_14, ez_14, hz_14⟩ := e_and1 (x := v22_9_0) (y := z_13) rfl (by omega)
    refine q_c z_14 ez_14 ?_
    clear ez_14
    refine q_jn (pc2 := 76) (fun H locs ls st => ∃ v76_15_0 : Int32, ∃ v76_15_1 : Int32, (0 ≤ (v76_15_0).toInt ∧ (v76_15_0).toInt ≤ 11) ∧ (0 ≤ (v76_15_1).toInt ∧ (v76_15_1).toInt ≤ 1023) ∧ st = [] ∧ qW D (va_A (wk_10d8fb0cf cy h0 p1 h1 w0 h2 h1 f0 h2 f1) sz) s.heap (wk_1bb86faf4 cy h1 f0 h0 p1 h1 w0 h2 h2 f1) H locs ∧ lv_has ls 7 [(0, .ref h0), (1, .int p0), (2, .int z_4), (3, .int v76_15_1), (4, .int v76_15_0), (5, .int v22_9_0), (6, .int r_11)]) (fun H locs ls st hP => ?_) (fun J_76 => ?_)
    · obtain ⟨v76_15_0, v76_15_1, hv76_15_0, hv76_15_1, rfl, h, hl⟩ := hP
      obtain ⟨z_16, ez_16, hz_16⟩ := e_add (x := v22_9_0) (y := Int32.ofInt 1) rfl (b := 1) (by decide) (by omega) (by omega)
      refine lv_iinc (v := z_16) (lv' := [(5, .int z_16), (0, .ref h0), (1, .int p0), (2, .int z_4), (3, .int v76_15_1), (4, .int v76_15_0), (6, .int r_11)]) hx hb dX0_leastBar_76 hl (k := 5) rfl ez_16 (by decide) rfl (fun ls_16 hl_16 => ?_)
      clear hl
      refine lv_goto (tgt := 22) hx hb dX0_leastBar_79 (by decide) ?_
      exact ih_22 (z_16, v76_15_0, v76_15_1) (by show (1025 - (z_16).toInt).toNat < (1025 - (v22_9_0).toInt).toNat; omega) _ _ _ ⟨⟨by omega, by omega⟩, hv76_15_0, hv76_15_1, h, (lv_sub hl_16 [1, 2, 3, 4, 5, 0] rfl)⟩
    · skip
      refine lv_if_ne (tgt := 76) hx hb dX0_leastBar_41 (by decide) (fun c_17 => ?_) (fun c_17 => ?_)
      · replace c_17 := i_ne (x := z_14) (y := 0) rfl (show (0 : Int32).toInt = 0 by decide) c_17
        exact J_76 _ _ _ _ ⟨v22_9_1, v22_9_2, hv22_9_1, hv22_9_2, rfl, h_11, (lv_sub hl_12 [1, 2, 3, 4, 5, 6, 0] rfl)⟩
      · replace c_17 := i_eq (x := z_14) (y := 0) rfl (show (0 : Int32).toInt = 0 by decide) c_17
        refine lv_iload hx hb dX0_leastBar_44 (lv_at hl_12 0 rfl) ?_
        refine lv_iload hx hb dX0_leastBar_46 (lv_at hl_12 5 rfl) ?_
        refine lv_icmp_ge (tgt := 76) hx hb dX0_leastBar_48 (by decide) (fun c_18 => ?_) (fun c_18 => ?_)
        · replace c_18 := i_le (x := v22_9_1) (y := r_11) rfl rfl c_18
          exact J_76 _ _ _ _ ⟨v22_9_1, v22_9_2, hv22_9_1, hv22_9_2, rfl, h_11, (lv_sub hl_12 [1, 2, 3, 4, 5, 6, 0] rfl)⟩
        · replace c_18 := i_nle (x := v22_9_1) (y := r_11) rfl rfl c_18
          refine lv_aload_n hx hb dX0_leastBar_51 rfl (lv_at hl_12 1 rfl) ?_
          refine lv_iload_n hx hb dX0_leastBar_52 rfl (lv_at hl_12 2 rfl) ?_
          refine lv_iload hx hb dX0_leastBar_53 (lv_at hl_12 6 rfl) ?_
          refine lv_iconst (v := (-1)) hx hb dX0_leastBar_55 (by decide) ?_
          refine lv_ixor hx hb dX0_leastBar_56 ?_
          refine q_any (fun z_19 hz_19 => ?_)
          refine lv_iand hx hb dX0_leastBar_57 ?_
          obtain ⟨z_20, ez_20, hz_20⟩ := e_and1 (x := p0) (y := z_19) rfl (by omega)
          refine q_c z_20 ez_20 ?_
          clear ez_20
          refine lv_iconst (v := 1) hx hb dX0_leastBar_58 (by decide) ?_
          refine q_callVi (rest := []) (wr := [(h2, .inl (cy 1, 1024, .inl f1))]) X hK hT hA h_11 (fun sz => gX0_countPieces_960e1a9 l D cy h0 h1 z_20 (1 : Int32) p1 w0 (.ref h2) f0 ⟨by omega, by omega⟩ ⟨by decide +kernel, by decide +kernel⟩ hp1 (rg_wide rf0 (by decide) (by decide)) sz) wm_4_195 wm_4_198 wm_1_6 hd_X0_countPieces wm_4_196 wm_4_197 (ci := 0) (q0 := 0) rfl rfl ⟨Nat.le_of_ble_eq_true rfl, Nat.le_of_ble_eq_true rfl⟩ hl_12.1 rfl (Nat.le_of_ble_eq_true rfl) dX0_leastBar_59 ⟨Nat.le_of_ble_eq_true rfl, Nat.le_of_ble_eq_true rfl⟩ [1, 0] [2] rfl rfl (by decide) rfl rfl (fun r_21 u_21 H locs w_21 h_21 => ?_)
          clear h_11
          obtain ⟨wr_21, _⟩ := w_21
          replace h_21 : qW D _ _ [(h2, .inl (cy 1, 1024, .inl f1)), (h0, .inr (0, [.int p1, .ref h1, w0, .ref h2])), (h1, .inl (cy 1, 10, .inl f0))] _ _ := h_21
          refine lv_iload hx hb dX0_leastBar_62 (lv_at hl_12 0 rfl) ?_
          refine lv_isub hx hb dX0_leastBar_64 ?_
          refine q_any (fun z_22 hz_22 => ?_)
          refine lv_iload_n hx hb dX0_leastBar_65 rfl (lv_at hl_12 3 rfl) ?_
          refine lv_icmp_ne (tgt := 76) hx hb dX0_leastBar_66 (by decide) (fun c_23 => ?_) (fun c_23 => ?_)
          · replace c_23 := i_ne (x := z_22) (y := z_4) rfl rfl c_23
            exact J_76 _ _ _ _ ⟨v22_9_1, v22_9_2, hv22_9_1, hv22_9_2, rfl, (q_re h_21 [2, 1, 0] rfl rfl), (lv_sub hl_12 [1, 2, 3, 4, 5, 6, 0] rfl)⟩
          · replace c_23 := i_eq (x := z_22) (y := z_4) rfl rfl c_23
            refine lv_iload hx hb dX0_leastBar_69 (lv_at hl_12 6 rfl) ?_
            refine lv_istore_n (lv' := [(3, .int v22_9_0), (6, .int r_11), (0, .ref h0), (1, .int p0), (2, .int z_4), (4, .int v22_9_1), (5, .int v22_9_0)]) hx hb dX0_leastBar_71 rfl hl_12 (by decide) rfl (fun ls_24 hl_24 => ?_)
            clear hl_12
            refine lv_iload hx hb dX0_leastBar_72 (lv_at hl_24 1 rfl) ?_
            refine lv_istore (lv' := [(4, .int r_11), (3, .int v22_9_0), (6, .int r_11), (0, .ref h0), (1, .int p0), (2, .int z_4), (5, .int v22_9_0)]) hx hb dX0_leastBar_74 hl_24 (by decide) rfl (fun ls_25 hl_25 => ?_)
            clear hl_24
            exact J_76 _ _ _ _ ⟨r_11, v22_9_0, ⟨by omega, by omega⟩, ⟨by omega, by omega⟩, rfl, (q_re h_21 [2, 1, 0] rfl rfl), (lv_sub hl_25 [3, 4, 5, 1, 0, 6, 2] rfl)⟩
set_option maxHeartbeats 4000000 in
set_option maxRecDepth 100000 in
theorem gX0_opposeAllOf_9e70d5d (l : Launch) (D : va_G) (cy : Nat → ClassId) (h0 : Nat) (h1 : Nat) (p0 : Int32) (p1 : Int32) (p2 : Int32) (w0 : Value) (w1 : Value) (f0 : Nat → Int32) (hp0 : 0 ≤ (p0).toInt ∧ (p0).toInt ≤ 1023) (hp1 : 0 ≤ (p1).toInt ∧ (p1).toInt ≤ 1023) (hp2 : 0 ≤ (p2).toInt ∧ (p2).toInt ≤ 10) (rf0 : RG f0 10 0 1023) (sz : Nat) : MI l yX0_opposeAllOf cX0_opposeAllOf 4 .boolean { frames := 0, cells := 0, slots := 0, locals := 0 } [.ref h0, .int p0, .int p1] D cy (wk_61955d11b cy h0 p2 h1 w0 w1 h1 f0) sz (fun r u => (0 ≤ r.toInt ∧ r.toInt ≤ 1) ∧ True) (fun u => (wk_61955d11b cy h0 p2 h1 w0 w1 h1 f0)) 0 0 := by
  refine q_ent (own := RX0) (by decide) rfl (Nat.le_of_ble_eq_true rfl) (fun p e s m below meth c ls X hr hlk hnm hK hT h hA hl => ?_)
  obtain ⟨hx, hb, hml, hown, ht⟩ := id X
  replace hl : lv_has ls 4 [(0, .ref h0), (1, .int p0), (2, .int p1)] := hl
  refine lv_iconst (v := 0) hx hb dX0_opposeAllOf_0 (by decide) ?_
  refine lv_istore_n (lv' := [(3, .int 0), (0, .ref h0), (1, .int p0), (2, .int p1)]) hx hb dX0_opposeAllOf_1 rfl hl (by decide) rfl (fun ls_1 hl_1 => ?_)
  clear hl
  refine q_wl (fun (v2_2_0 : Int32) H locs ls => (0 ≤ (v2_2_0).toInt ∧ (v2_2_0).toInt ≤ 10) ∧ qW D (va_A (wk_61955d11b cy h0 p2 h1 w0 w1 h1 f0) sz) s.heap (wk_61955d11b cy h0 p2 h1 w0 w1 h1 f0) H locs ∧ lv_has ls 4 [(0, .ref h0), (1, .int p0), (2, .int p1), (3, .int v2_2_0)]) (fun (v2_2_0 : Int32) => (11 - (v2_2_0).toInt).toNat) (fun q_2 ih_2 H locs ls hP => ?_) 0 ⟨⟨by decide +kernel, by decide +kernel⟩, h, (lv_sub hl_1 [1, 2, 3, 0] rfl)⟩
  obtain ⟨v2_2_0, rfl⟩ : ∃ z, z = q_2 := ⟨_, rfl⟩
  obtain ⟨hv2_2_0, h, hl⟩ := hP
  refine lv_iload_n hx hb dX0_opposeAllOf_2 rfl (lv_at hl 3 rfl) ?_
  refine lv_aload_n hx hb dX0_opposeAllOf_3 rfl (lv_at hl 0 rfl) ?_
  refine q_get X hK h 0 rfl rfl wf_0 0 (by decide) rfl wm_1_198 dX0_opposeAllOf_4 ?_
  refine lv_icmp_ge (tgt := 38) hx hb dX0_opposeAllOf_7 (by decide) (fun c_3 => ?_) (fun c_3 => ?_)
  · replace c_3 := i_le (x := p2) (y := v2_2_0) rfl rfl c_3
    refine lv_iconst (v := 1) hx hb dX0_opposeAllOf_38 (by decide) ?_
    exact q_iret X hr hlk hK h rfl (fun _ => 0, fun _ _ => 0, fun _ _ => 0) ⟨⟨by decide +kernel, by decide +kernel⟩, trivial⟩ [0, 1] rfl rfl dX0_opposeAllOf_39 (Nat.le_of_ble_eq_true rfl) (Nat.le_of_ble_eq_true rfl)
  · replace c_3 := i_nle (x := p2) (y := v2_2_0) rfl rfl c_3
    refine lv_iload_n hx hb dX0_opposeAllOf_10 rfl (lv_at hl 1 rfl) ?_
    refine lv_iload_n hx hb dX0_opposeAllOf_11 rfl (lv_at hl 3 rfl) ?_
    refine lv_ishr hx hb dX0_opposeAllOf_12 ?_
    obtain ⟨z_4, ez_4, hz_4⟩ := e_shr (x := p0) v2_2_0 rfl (by omega)
    refine q_c z_4 ez_4 ?_
    clear ez_4
    refine lv_iconst (v := 1) hx hb dX0_opposeAllOf_13 (by decide) ?_
    refine lv_iand hx hb dX0_opposeAllOf_14 ?_
    obtain ⟨z_5, ez_5, hz_5⟩ := e_and2 (x := z_4) (y := 1) (show (1 : Int32).toInt = 1 by decide) (by omega)
    refine q_c z_5 ez_5 ?_
    clear ez_5
    refine lv_iconst (v := 1) hx hb dX0_opposeAllOf_15 (by decide) ?_
    refine q_jn (pc2 := 32) (fun H locs ls st => st = [] ∧ qW D (va_A (wk_61955d11b cy h0 p2 h1 w0 w1 h1 f0) sz) s.heap (wk_61955d11b cy h0 p2 h1 w0 w1 h1 f0) H locs ∧ lv_has ls 4 [(0, .ref h0), (1, .int p0), (2, .int p1), (3, .int v2_2_0)]) (fun H locs ls st hP => ?_) (fun J_32 => ?_)
    · obtain ⟨rfl, h, hl⟩ := hP
      obtain ⟨z_7, ez_7, hz_7⟩ := e_add (x := v2_2_0) (y := Int32.ofInt 1) rfl (b := 1) (by decide) (by omega) (by omega)
      refine lv_iinc (v := z_7) (lv' := [(3, .int z_7), (0, .ref h0), (1, .int p0), (2, .int p1)]) hx hb dX0_opposeAllOf_32 hl (k := 3) rfl ez_7 (by decide) rfl (fun ls_7 hl_7 => ?_)
      clear hl
      refine lv_goto (tgt := 2) hx hb dX0_opposeAllOf_35 (by decide) ?_
      exact ih_2 z_7 (by show (11 - (z_7).toInt).toNat < (11 - (v2_2_0).toInt).toNat; omega) _ _ _ ⟨⟨by omega, by omega⟩, h, (lv_sub hl_7 [1, 2, 3, 0] rfl)⟩
    · skip
      refine lv_icmp_ne (tgt := 32) hx hb dX0_opposeAllOf_16 (by decide) (fun c_8 => ?_) (fun c_8 => ?_)
      · replace c_8 := i_ne (x := z_5) (y := 1) rfl (show (1 : Int32).toInt = 1 by decide) c_8
        exact J_32 _ _ _ _ ⟨rfl, h, (lv_sub hl [0, 1, 2, 3] rfl)⟩
      · replace c_8 := i_eq (x := z_5) (y := 1) rfl (show (1 : Int32).toInt = 1 by decide) c_8
        refine lv_aload_n hx hb dX0_opposeAllOf_19 rfl (lv_at hl 0 rfl) ?_
        refine q_get X hK h 0 rfl rfl wf_0 1 (by decide) rfl wm_1_199 dX0_opposeAllOf_20 ?_
        refine lv_iload_n hx hb dX0_opposeAllOf_23 rfl (lv_at hl 3 rfl) ?_
        refine q_iald X hK h 1 rfl (i_in rfl (by omega) (by omega)) dX0_opposeAllOf_24 ?_
        obtain ⟨z_9, ez_9, hz_9⟩ := rg_get rf0 (x := v2_2_0) rfl (by omega) (by omega)
        refine q_c z_9 ez_9 ?_
        clear ez_9
        refine lv_iload_n hx hb dX0_opposeAllOf_25 rfl (lv_at hl 2 rfl) ?_
        refine lv_iand hx hb dX0_opposeAllOf_26 ?_
        obtain ⟨z_10, ez_10, hz_10⟩ := e_and2 (x := z_9) (y := p1) rfl (by omega)
        refine q_c z_10 ez_10 ?_
        clear ez_10
        refine lv_if_ne (tgt := 32) hx hb dX0_opposeAllOf_27 (by decide) (fun c_11 => ?_) (fun c_11 => ?_)
        · replace c_11 := i_ne (x := z_10) (y := 0) rfl (show (0 : Int32).toInt = 0 by decide) c_11
          exact J_32 _ _ _ _ ⟨rfl, h, (lv_sub hl [0, 1, 2, 3] rfl)⟩
        · replace c_11 := i_eq (x := z_10) (y := 0) rfl (show (0 : Int32).toInt = 0 by decide) c_11
          refine lv_iconst (v := 0) hx hb dX0_opposeAllOf_30 (by decide) ?_
          exact q_iret X hr hlk hK h rfl (fun _ => 0, fun _ _ => 0, fun _ _ => 0) ⟨⟨by decide +kernel, by decide +kernel⟩, trivial⟩ [0, 1] rfl rfl dX0_opposeAllOf_31 (Nat.le_of_ble_eq_true rfl) (Nat.le_of_ble_eq_true rfl)
set_option maxHeartbeats 4000000 in
set_option maxRecDepth 100000 in
theorem gX0_leastCover_7de7d93 (l : Launch) (D : va_G) (cy : Nat → ClassId) (h0 : Nat) (h1 : Nat) (p0 : Int32) (p1 : Int32) (p2 : Int32) (w0 : Value) (w1 : Value) (f0 : Nat → Int32) (hp0 : 0 ≤ (p0).toInt ∧ (p0).toInt ≤ 1023) (hp1 : 0 ≤ (p1).toInt ∧ (p1).toInt ≤ 1023) (hp2 : 0 ≤ (p2).toInt ∧ (p2).toInt ≤ 10) (rf0 : RG f0 10 0 1023) (sz : Nat) : MI l yX0_leastCover cX0_leastCover 6 .int { frames := 1, cells := 0, slots := 0, locals := 23 } [.ref h0, .int p0, .int p1] D cy (wk_61955d11b cy h0 p2 h1 w0 w1 h1 f0) sz (fun r u => ((-1) ≤ r.toInt ∧ r.toInt ≤ 1023) ∧ True) (fun u => (wk_61955d11b cy h0 p2 h1 w0 w1 h1 f0)) 0 0 := by
  refine q_ent (own := RX0) (by decide) rfl (Nat.le_of_ble_eq_true rfl) (fun p e s m below meth c ls X hr hlk hnm hK hT h hA hl => ?_)
  obtain ⟨hx, hb, hml, hown, ht⟩ := id X
  replace hl : lv_has ls 6 [(0, .ref h0), (1, .int p0), (2, .int p1)] := hl
  refine lv_iconst (v := (-1)) hx hb dX0_leastCover_0 (by decide) ?_
  refine lv_istore_n (lv' := [(3, .int (-1)), (0, .ref h0), (1, .int p0), (2, .int p1)]) hx hb dX0_leastCover_1 rfl hl (by decide) rfl (fun ls_1 hl_1 => ?_)
  clear hl
  refine lv_bipush (v := 11) hx hb dX0_leastCover_2 (by decide) ?_
  refine lv_istore (lv' := [(4, .int 11), (3, .int (-1)), (0, .ref h0), (1, .int p0), (2, .int p1)]) hx hb dX0_leastCover_4 hl_1 (by decide) rfl (fun ls_2 hl_2 => ?_)
  clear hl_1
  refine lv_iconst (v := 0) hx hb dX0_leastCover_6 (by decide) ?_
  refine lv_istore (lv' := [(5, .int 0), (4, .int 11), (3, .int (-1)), (0, .ref h0), (1, .int p0), (2, .int p1)]) hx hb dX0_leastCover_7 hl_2 (by decide) rfl (fun ls_3 hl_3 => ?_)
  clear hl_2
  refine q_wl (fun (q : Int32 × Int32 × Int32) H locs ls => match q with | (v9_4_0, v9_4_1, v9_4_2) => (0 ≤ (v9_4_0).toInt ∧ (v9_4_0).toInt ≤ 1024) ∧ ((-1) ≤ (v9_4_1).toInt ∧ (v9_4_1).toInt ≤ 1023) ∧ (0 ≤ (v9_4_2).toInt ∧ (v9_4_2).toInt ≤ 63) ∧ qW D (va_A (wk_61955d11b cy h0 p2 h1 w0 w1 h1 f0) sz) s.heap (wk_61955d11b cy h0 p2 h1 w0 w1 h1 f0) H locs ∧ lv_has ls 6 [(0, .ref h0), (1, .int p0), (2, .int p1), (3, .int v9_4_1), (4, .int v9_4_2), (5, .int v9_4_0)]) (fun (q : Int32 × Int32 × Int32) => match q with | (v9_4_0, v9_4_1, v9_4_2) => (1025 - (v9_4_0).toInt).toNat) (fun q_9 ih_9 H locs ls hP => ?_) (0, (-1), 11) ⟨⟨by decide +kernel, by decide +kernel⟩, ⟨by decide +kernel, by decide +kernel⟩, ⟨by decide +kernel, by decide +kernel⟩, h, (lv_sub hl_3 [3, 4, 5, 2, 1, 0] rfl)⟩
  obtain ⟨v9_4_0, v9_4_1, v9_4_2⟩ := q_9
  obtain ⟨hv9_4_0, hv9_4_1, hv9_4_2, h, hl⟩ := hP
  refine lv_iload hx hb dX0_leastCover_9 (lv_at hl 5 rfl) ?_
  refine lv_iload_n hx hb dX0_leastCover_11 rfl (lv_at hl 2 rfl) ?_
  refine lv_icmp_gt (tgt := 60) hx hb dX0_leastCover_12 (by decide) (fun c_5 => ?_) (fun c_5 => ?_)
  · replace c_5 := i_lt (x := p1) (y := v9_4_0) rfl rfl c_5
    refine lv_iload_n hx hb dX0_leastCover_60 rfl (lv_at hl 3 rfl) ?_
    exact q_iret X hr hlk hK h rfl (fun _ => 0, fun _ _ => 0, fun _ _ => 0) ⟨hv9_4_1, trivial⟩ [0, 1] rfl rfl dX0_leastCover_61 (Nat.le_of_ble_eq_true rfl) (Nat.le_of_ble_eq_true rfl)
  · replace c_5 := i_nlt (x := p1) (y := v9_4_0) rfl rfl c_5
    refine lv_iload hx hb dX0_leastCover_15 (lv_at hl 5 rfl) ?_
    refine lv_iload_n hx hb dX0_leastCover_17 rfl (lv_at hl 2 rfl) ?_
    refine lv_iconst (v := (-1)) hx hb dX0_leastCover_18 (by decide) ?_
    refine lv_ixor hx hb dX0_leastCover_19 ?_
    refine q_any (fun z_6 hz_6 => ?_)
    refine lv_iand hx hb dX0_leastCover_20 ?_
    obtain ⟨z_7, ez_7, hz_7⟩ := e_and1 (x := v9_4_0) (y := z_6) rfl (by omega)
    refine q_c z_7 ez_7 ?_
    clear ez_7
    refine q_jn (pc2 := 54) (fun H locs ls st => ∃ v54_8_0 : Int32, ∃ v54_8_1 : Int32, (0 ≤ (v54_8_0).toInt ∧ (v54_8_0).toInt ≤ 63) ∧ ((-1) ≤ (v54_8_1).toInt ∧ (v54_8_1).toInt ≤ 1023) ∧ st = [] ∧ qW D (va_A (wk_61955d11b cy h0 p2 h1 w0 w1 h1 f0) sz) s.heap (wk_61955d11b cy h0 p2 h1 w0 w1 h1 f0) H locs ∧ lv_has ls 6 [(0, .ref h0), (1, .int p0), (2, .int p1), (3, .int v54_8_1), (4, .int v54_8_0), (5, .int v9_4_0)]) (fun H locs ls st hP => ?_) (fun J_54 => ?_)
    · obtain ⟨v54_8_0, v54_8_1, hv54_8_0, hv54_8_1, rfl, h, hl⟩ := hP
      obtain ⟨z_9, ez_9, hz_9⟩ := e_add (x := v9_4_0) (y := Int32.ofInt 1) rfl (b := 1) (by decide) (by omega) (by omega)
      refine lv_iinc (v := z_9) (lv' := [(5, .int z_9), (0, .ref h0), (1, .int p0), (2, .int p1), (3, .int v54_8_1), (4, .int v54_8_0)]) hx hb dX0_leastCover_54 hl (k := 5) rfl ez_9 (by decide) rfl (fun ls_9 hl_9 => ?_)
      clear hl
      refine lv_goto (tgt := 9) hx hb dX0_leastCover_57 (by decide) ?_
      exact ih_9 (z_9, v54_8_1, v54_8_0) (by show (1025 - (z_9).toInt).toNat < (1025 - (v9_4_0).toInt).toNat; omega) _ _ _ ⟨⟨by omega, by omega⟩, hv54_8_1, hv54_8_0, h, (lv_sub hl_9 [1, 2, 3, 4, 5, 0] rfl)⟩
    · skip
      refine lv_if_ne (tgt := 54) hx hb dX0_leastCover_21 (by decide) (fun c_10 => ?_) (fun c_10 => ?_)
      · replace c_10 := i_ne (x := z_7) (y := 0) rfl (show (0 : Int32).toInt = 0 by decide) c_10
        exact J_54 _ _ _ _ ⟨v9_4_2, v9_4_1, hv9_4_2, hv9_4_1, rfl, h, (lv_sub hl [0, 1, 2, 3, 4, 5] rfl)⟩
      · replace c_10 := i_eq (x := z_7) (y := 0) rfl (show (0 : Int32).toInt = 0 by decide) c_10
        refine lv_iload hx hb dX0_leastCover_24 (lv_at hl 5 rfl) ?_
        refine q_callSi (rest := []) (wr := (wk_61955d11b cy h0 p2 h1 w0 w1 h1 f0)) X hK hT hA h (fun sz => gJ6_bitCount_0f7a4_a4a6115 l D cy v9_4_0 (i_rng _) sz) wm_4_116 wm_4_59 wm_1_22 hd_J6_bitCount_0f7a4 wm_4_58 ⟨Nat.le_of_ble_eq_true rfl, Nat.le_of_ble_eq_true rfl⟩ hl.1 rfl (Nat.le_of_ble_eq_true rfl) dX0_leastCover_26 ⟨Nat.le_of_ble_eq_true rfl, Nat.le_of_ble_eq_true rfl⟩ [] [0, 1] rfl rfl (by decide) rfl rfl (fun r_11 u_11 H locs w_11 h_11 => ?_)
        clear h
        obtain ⟨wr_11, _⟩ := w_11
        replace h_11 : qW D _ _ (wk_61955d11b cy h0 p2 h1 w0 w1 h1 f0) _ _ := h_11
        refine lv_iload hx hb dX0_leastCover_29 (lv_at hl 4 rfl) ?_
        refine lv_icmp_ge (tgt := 54) hx hb dX0_leastCover_31 (by decide) (fun c_12 => ?_) (fun c_12 => ?_)
        · replace c_12 := i_le (x := v9_4_2) (y := r_11) rfl rfl c_12
          exact J_54 _ _ _ _ ⟨v9_4_2, v9_4_1, hv9_4_2, hv9_4_1, rfl, h_11, (lv_sub hl [0, 1, 2, 3, 4, 5] rfl)⟩
        · replace c_12 := i_nle (x := v9_4_2) (y := r_11) rfl rfl c_12
          refine lv_aload_n hx hb dX0_leastCover_34 rfl (lv_at hl 0 rfl) ?_
          refine lv_iload_n hx hb dX0_leastCover_35 rfl (lv_at hl 1 rfl) ?_
          refine lv_iload hx hb dX0_leastCover_36 (lv_at hl 5 rfl) ?_
          refine q_callVi (rest := []) (wr := []) X hK hT hA h_11 (fun sz => gX0_opposeAllOf_9e70d5d l D cy h0 h1 p0 v9_4_0 p2 w0 w1 f0 hp0 ⟨by omega, by omega⟩ hp2 (rg_wide rf0 (by decide) (by decide)) sz) wm_4_228 wm_4_231 wm_1_6 hd_X0_opposeAllOf wm_4_230 wp_3_9 (ci := 0) (q0 := 0) rfl rfl ⟨Nat.le_of_ble_eq_true rfl, Nat.le_of_ble_eq_true rfl⟩ hl.1 rfl (Nat.le_of_ble_eq_true rfl) dX0_leastCover_38 ⟨Nat.le_of_ble_eq_true rfl, Nat.le_of_ble_eq_true rfl⟩ [0, 1] [] rfl rfl (by decide) rfl rfl (fun r_13 u_13 H locs w_13 h_13 => ?_)
          clear h_11
          obtain ⟨wr_13, _⟩ := w_13
          replace h_13 : qW D _ _ (wk_61955d11b cy h0 p2 h1 w0 w1 h1 f0) _ _ := h_13
          refine lv_if_eq (tgt := 54) hx hb dX0_leastCover_41 (by decide) (fun c_14 => ?_) (fun c_14 => ?_)
          · replace c_14 := i_eq (x := r_13) (y := 0) rfl (show (0 : Int32).toInt = 0 by decide) c_14
            exact J_54 _ _ _ _ ⟨v9_4_2, v9_4_1, hv9_4_2, hv9_4_1, rfl, h_13, (lv_sub hl [0, 1, 2, 3, 4, 5] rfl)⟩
          · replace c_14 := i_ne (x := r_13) (y := 0) rfl (show (0 : Int32).toInt = 0 by decide) c_14
            refine lv_iload hx hb dX0_leastCover_44 (lv_at hl 5 rfl) ?_
            refine lv_istore_n (lv' := [(3, .int v9_4_0), (0, .ref h0), (1, .int p0), (2, .int p1), (4, .int v9_4_2), (5, .int v9_4_0)]) hx hb dX0_leastCover_46 rfl hl (by decide) rfl (fun ls_15 hl_15 => ?_)
            clear hl
            refine lv_iload hx hb dX0_leastCover_47 (lv_at hl_15 5 rfl) ?_
            refine q_callSi (rest := []) (wr := (wk_61955d11b cy h0 p2 h1 w0 w1 h1 f0)) X hK hT hA h_13 (fun sz => gJ6_bitCount_0f7a4_a4a6115 l D cy v9_4_0 (i_rng _) sz) wm_4_116 wm_4_59 wm_1_22 hd_J6_bitCount_0f7a4 wm_4_58 ⟨Nat.le_of_ble_eq_true rfl, Nat.le_of_ble_eq_true rfl⟩ hl_15.1 rfl (Nat.le_of_ble_eq_true rfl) dX0_leastCover_49 ⟨Nat.le_of_ble_eq_true rfl, Nat.le_of_ble_eq_true rfl⟩ [] [0, 1] rfl rfl (by decide) rfl rfl (fun r_16 u_16 H locs w_16 h_16 => ?_)
            clear h_13
            obtain ⟨wr_16, _⟩ := w_16
            replace h_16 : qW D _ _ (wk_61955d11b cy h0 p2 h1 w0 w1 h1 f0) _ _ := h_16
            refine lv_istore (lv' := [(4, .int r_16), (3, .int v9_4_0), (0, .ref h0), (1, .int p0), (2, .int p1), (5, .int v9_4_0)]) hx hb dX0_leastCover_52 hl_15 (by decide) rfl (fun ls_17 hl_17 => ?_)
            clear hl_15
            exact J_54 _ _ _ _ ⟨r_16, v9_4_0, wr_16, ⟨by omega, by omega⟩, rfl, h_16, (lv_sub hl_17 [2, 3, 4, 1, 0, 5] rfl)⟩
set_option maxHeartbeats 4000000 in
set_option maxRecDepth 100000 in
theorem gX11_numberOrSet_c1d7142 (l : Launch) (D : va_G) (cy : Nat → ClassId) (p0 : Int32) (p1 : Int32) (hp0 : (-1) ≤ (p0).toInt ∧ (p0).toInt ≤ 1023) (hp1 : (-2147483648) ≤ (p1).toInt ∧ (p1).toInt ≤ 2147483647) (sz : Nat) : MI l yX11_numberOrSet cX11_numberOrSet 2 .int { frames := 1, cells := 0, slots := 0, locals := 20 } [.int p0, .int p1] D cy [] sz (fun r u => ((-1) ≤ r.toInt ∧ r.toInt ≤ 1023) ∧ True) (fun u => []) 0 0 := by
  refine q_ent (own := RX11) (by decide) rfl (Nat.le_of_ble_eq_true rfl) (fun p e s m below meth c ls X hr hlk hnm hK hT h hA hl => ?_)
  obtain ⟨hx, hb, hml, hown, ht⟩ := id X
  replace hl : lv_has ls 2 [(0, .int p0), (1, .int p1)] := hl
  refine lv_iload_n hx hb dX11_numberOrSet_0 rfl (lv_at hl 0 rfl) ?_
  refine lv_iconst (v := (-1)) hx hb dX11_numberOrSet_1 (by decide) ?_
  refine lv_icmp_ne (tgt := 7) hx hb dX11_numberOrSet_2 (by decide) (fun c_1 => ?_) (fun c_1 => ?_)
  · replace c_1 := i_ne (x := p0) (y := (-1)) rfl (show ((-1) : Int32).toInt = -1 by decide) c_1
    refine lv_iload_n hx hb dX11_numberOrSet_7 rfl (lv_at hl 1 rfl) ?_
    refine q_jn (pc2 := 19) (fun H locs ls st => ∃ v19_2_0 : Int32, (0 ≤ (v19_2_0).toInt ∧ (v19_2_0).toInt ≤ 1023) ∧ st = [.int v19_2_0] ∧ qW D (va_A [] sz) s.heap [] H locs ∧ lv_has ls 2 [(0, .int p0), (1, .int p1)]) (fun H locs ls st hP => ?_) (fun J_19 => ?_)
    · obtain ⟨v19_2_0, hv19_2_0, rfl, h, hl⟩ := hP
      exact q_iret X hr hlk hK h rfl (fun _ => 0, fun _ _ => 0, fun _ _ => 0) ⟨(bw hv19_2_0 (by decide) (by decide)), trivial⟩ [] rfl rfl dX11_numberOrSet_19 (Nat.le_of_ble_eq_true rfl) (Nat.le_of_ble_eq_true rfl)
    · skip
      refine lv_if_ne (tgt := 18) hx hb dX11_numberOrSet_8 (by decide) (fun c_3 => ?_) (fun c_3 => ?_)
      · replace c_3 := i_ne (x := p1) (y := 0) rfl (show (0 : Int32).toInt = 0 by decide) c_3
        refine lv_iload_n hx hb dX11_numberOrSet_18 rfl (lv_at hl 0 rfl) ?_
        exact J_19 _ _ _ _ ⟨p0, ⟨by omega, by omega⟩, rfl, h, (lv_sub hl [0, 1] rfl)⟩
      · replace c_3 := i_eq (x := p1) (y := 0) rfl (show (0 : Int32).toInt = 0 by decide) c_3
        refine lv_iload_n hx hb dX11_numberOrSet_11 rfl (lv_at hl 0 rfl) ?_
        refine q_callSi (rest := []) (wr := []) X hK hT hA h (fun sz => gJ6_bitCount_0f7a4_a4a6115 l D cy p0 (i_rng _) sz) wm_4_57 wm_4_59 wm_1_22 hd_J6_bitCount_0f7a4 wm_4_58 ⟨Nat.le_of_ble_eq_true rfl, Nat.le_of_ble_eq_true rfl⟩ hl.1 rfl (Nat.le_of_ble_eq_true rfl) dX11_numberOrSet_12 ⟨Nat.le_of_ble_eq_true rfl, Nat.le_of_ble_eq_true rfl⟩ [] [] rfl rfl (by decide) rfl rfl (fun r_4 u_4 H locs w_4 h_4 => ?_)
        clear h
        obtain ⟨wr_4, _⟩ := w_4
        replace h_4 : qW D _ _ [] _ _ := h_4
        refine lv_goto (tgt := 19) hx hb dX11_numberOrSet_15 (by decide) ?_
        exact J_19 _ _ _ _ ⟨r_4, (bw wr_4 (by decide) (by decide)), rfl, h_4, (lv_sub hl [0, 1] rfl)⟩
  · replace c_1 := i_eq (x := p0) (y := (-1)) rfl (show ((-1) : Int32).toInt = -1 by decide) c_1
    refine lv_iconst (v := (-1)) hx hb dX11_numberOrSet_5 (by decide) ?_
    exact q_iret X hr hlk hK h rfl (fun _ => 0, fun _ _ => 0, fun _ _ => 0) ⟨⟨by decide +kernel, by decide +kernel⟩, trivial⟩ [] rfl rfl dX11_numberOrSet_6 (Nat.le_of_ble_eq_true rfl) (Nat.le_of_ble_eq_true rfl)
set_option maxHeartbeats 4000000 in
set_option maxRecDepth 100000 in
theorem gX11_isPerson_078711e (l : Launch) (D : va_G) (cy : Nat → ClassId) (h0 : Nat) (h1 : Nat) (h2 : Nat) (p0 : Int32) (w0 : Value) (p1 : Int32) (p2 : Int32) (p3 : Int32) (w1 : Value) (w2 : Value) (w3 : Value) (w4 : Value) (w5 : Value) (w6 : Value) (w7 : Value) (w8 : Value) (w9 : Value) (w10 : Value) (w11 : Value) (p4 : Int32) (p5 : Int32) (p6 : Int32) (w12 : Value) (p7 : Int32) (p8 : Int32) (p9 : Int32) (p10 : Int32) (w13 : Value) (w14 : Value) (w15 : Value) (w16 : Value) (w17 : Value) (w18 : Value) (w19 : Value) (hp0 : (-2147483648) ≤ (p0).toInt ∧ (p0).toInt ≤ 2147483647) (hp1 : 0 ≤ (p1).toInt ∧ (p1).toInt ≤ 900) (hp2 : (-2147483648) ≤ (p2).toInt ∧ (p2).toInt ≤ 2147483647) (hp3 : (-2147483648) ≤ (p3).toInt ∧ (p3).toInt ≤ 2147483647) (hp4 : (-2147483648) ≤ (p4).toInt ∧ (p4).toInt ≤ 2147483647) (hp5 : (-2147483648) ≤ (p5).toInt ∧ (p5).toInt ≤ 2147483647) (hp6 : (-2147483648) ≤ (p6).toInt ∧ (p6).toInt ≤ 2147483647) (hp7 : 1 ≤ (p7).toInt ∧ (p7).toInt ≤ 3) (hp8 : 0 ≤ (p8).toInt ∧ (p8).toInt ≤ 10) (hp9 : (-2147483648) ≤ (p9).toInt ∧ (p9).toInt ≤ 2147483647) (hp10 : (-2147483648) ≤ (p10).toInt ∧ (p10).toInt ≤ 2147483647) (sz : Nat) : MI l yX11_isPerson cX11_isPerson 2 .boolean { frames := 0, cells := 0, slots := 0, locals := 0 } [.ref h0, .int p0] D cy (wk_0eb249344 h0 w0 p1 p2 p3 w1 h1 w2 w3 w4 w5 w6 w7 w8 w9 w10 w11 p4 h1 h2 p5 p6 w12 h2 p7 p8 p9 p10 w13 w14 w13 w15 w16 w17 w18 w19) sz (fun r u => (0 ≤ r.toInt ∧ r.toInt ≤ 1) ∧ ((r : Int32).toInt = 0 ∨ (0 ≤ (p0 : Int32).toInt ∧ (p0 : Int32).toInt < (p8 : Int32).toInt)) ∧ True) (fun u => (wk_0eb249344 h0 w0 p1 p2 p3 w1 h1 w2 w3 w4 w5 w6 w7 w8 w9 w10 w11 p4 h1 h2 p5 p6 w12 h2 p7 p8 p9 p10 w13 w14 w13 w15 w16 w17 w18 w19)) 0 0 := by
  refine q_ent (own := RX11) (by decide) rfl (Nat.le_of_ble_eq_true rfl) (fun p e s m below meth c ls X hr hlk hnm hK hT h hA hl => ?_)
  obtain ⟨hx, hb, hml, hown, ht⟩ := id X
  replace hl : lv_has ls 2 [(0, .ref h0), (1, .int p0)] := hl
  refine lv_iload_n hx hb dX11_isPerson_0 rfl (lv_at hl 1 rfl) ?_
  refine lv_if_lt (tgt := 22) hx hb dX11_isPerson_1 (by decide) (fun c_1 => ?_) (fun c_1 => ?_)
  · replace c_1 := i_lt (x := p0) (y := 0) rfl (show (0 : Int32).toInt = 0 by decide) c_1
    refine lv_iconst (v := 0) hx hb dX11_isPerson_22 (by decide) ?_
    exact q_iret X hr hlk hK h rfl (fun _ => 0, fun _ _ => 0, fun _ _ => 0) ⟨⟨by decide +kernel, by decide +kernel⟩, (show (0 : Int32).toInt = 0 ∨ (0 ≤ (p0 : Int32).toInt ∧ (p0 : Int32).toInt < (p8 : Int32).toInt) from by have q0 : (0 : Int32).toInt = 0 := (by decide); omega), trivial⟩ [0, 1, 2] rfl rfl dX11_isPerson_23 (Nat.le_of_ble_eq_true rfl) (Nat.le_of_ble_eq_true rfl)
  · replace c_1 := i_nlt (x := p0) (y := 0) rfl (show (0 : Int32).toInt = 0 by decide) c_1
    refine lv_iload_n hx hb dX11_isPerson_4 rfl (lv_at hl 1 rfl) ?_
    refine lv_aload_n hx hb dX11_isPerson_5 rfl (lv_at hl 0 rfl) ?_
    refine q_get X hK h 0 rfl rfl wf_11 5 (by decide) rfl wm_2_103 dX11_isPerson_6 ?_
    refine q_get X hK h 1 rfl rfl wf_7 0 (by decide) rfl wm_2_42 dX11_isPerson_9 ?_
    refine q_get X hK h 2 rfl rfl wf_3 1 (by decide) rfl wm_1_85 dX11_isPerson_12 ?_
    refine lv_icmp_ge (tgt := 22) hx hb dX11_isPerson_15 (by decide) (fun c_2 => ?_) (fun c_2 => ?_)
    · replace c_2 := i_le (x := p8) (y := p0) rfl rfl c_2
      refine lv_iconst (v := 0) hx hb dX11_isPerson_22 (by decide) ?_
      exact q_iret X hr hlk hK h rfl (fun _ => 0, fun _ _ => 0, fun _ _ => 0) ⟨⟨by decide +kernel, by decide +kernel⟩, (show (0 : Int32).toInt = 0 ∨ (0 ≤ (p0 : Int32).toInt ∧ (p0 : Int32).toInt < (p8 : Int32).toInt) from by have q0 : (0 : Int32).toInt = 0 := (by decide); omega), trivial⟩ [0, 1, 2] rfl rfl dX11_isPerson_23 (Nat.le_of_ble_eq_true rfl) (Nat.le_of_ble_eq_true rfl)
    · replace c_2 := i_nle (x := p8) (y := p0) rfl rfl c_2
      refine lv_iconst (v := 1) hx hb dX11_isPerson_18 (by decide) ?_
      refine lv_goto (tgt := 23) hx hb dX11_isPerson_19 (by decide) ?_
      exact q_iret X hr hlk hK h rfl (fun _ => 0, fun _ _ => 0, fun _ _ => 0) ⟨⟨by decide +kernel, by decide +kernel⟩, (show (1 : Int32).toInt = 0 ∨ (0 ≤ (p0 : Int32).toInt ∧ (p0 : Int32).toInt < (p8 : Int32).toInt) from by have q0 : (1 : Int32).toInt = 1 := (by decide); omega), trivial⟩ [0, 1, 2] rfl rfl dX11_isPerson_23 (Nat.le_of_ble_eq_true rfl) (Nat.le_of_ble_eq_true rfl)
set_option maxHeartbeats 4000000 in
set_option maxRecDepth 100000 in
theorem gX11_areTwoPeople_1eaec98 (l : Launch) (D : va_G) (cy : Nat → ClassId) (h0 : Nat) (h1 : Nat) (h2 : Nat) (p0 : Int32) (p1 : Int32) (w0 : Value) (p2 : Int32) (p3 : Int32) (p4 : Int32) (w1 : Value) (w2 : Value) (w3 : Value) (w4 : Value) (w5 : Value) (w6 : Value) (w7 : Value) (w8 : Value) (w9 : Value) (w10 : Value) (w11 : Value) (p5 : Int32) (p6 : Int32) (p7 : Int32) (w12 : Value) (p8 : Int32) (p9 : Int32) (p10 : Int32) (p11 : Int32) (w13 : Value) (w14 : Value) (w15 : Value) (w16 : Value) (w17 : Value) (w18 : Value) (w19 : Value) (hp0 : (-2147483648) ≤ (p0).toInt ∧ (p0).toInt ≤ 2147483647) (hp1 : (-2147483648) ≤ (p1).toInt ∧ (p1).toInt ≤ 2147483647) (hp2 : 0 ≤ (p2).toInt ∧ (p2).toInt ≤ 900) (hp3 : (-2147483648) ≤ (p3).toInt ∧ (p3).toInt ≤ 2147483647) (hp4 : (-2147483648) ≤ (p4).toInt ∧ (p4).toInt ≤ 2147483647) (hp5 : (-2147483648) ≤ (p5).toInt ∧ (p5).toInt ≤ 2147483647) (hp6 : (-2147483648) ≤ (p6).toInt ∧ (p6).toInt ≤ 2147483647) (hp7 : (-2147483648) ≤ (p7).toInt ∧ (p7).toInt ≤ 2147483647) (hp8 : 1 ≤ (p8).toInt ∧ (p8).toInt ≤ 3) (hp9 : 0 ≤ (p9).toInt ∧ (p9).toInt ≤ 10) (hp10 : (-2147483648) ≤ (p10).toInt ∧ (p10).toInt ≤ 2147483647) (hp11 : (-2147483648) ≤ (p11).toInt ∧ (p11).toInt ≤ 2147483647) (sz : Nat) : MI l yX11_areTwoPeople cX11_areTwoPeople 3 .boolean { frames := 1, cells := 0, slots := 0, locals := 21 } [.ref h0, .int p0, .int p1] D cy (wk_0eb249344 h0 w0 p2 p3 p4 w1 h1 w2 w3 w4 w5 w6 w7 w8 w9 w10 w11 p5 h1 h2 p6 p7 w12 h2 p8 p9 p10 p11 w13 w14 w13 w15 w16 w17 w18 w19) sz (fun r u => (0 ≤ r.toInt ∧ r.toInt ≤ 1) ∧ ((r : Int32).toInt = 0 ∨ (0 ≤ (p0 : Int32).toInt ∧ (p0 : Int32).toInt ≤ 9 ∧ 0 ≤ (p1 : Int32).toInt ∧ (p1 : Int32).toInt ≤ 9)) ∧ True) (fun u => (wk_0eb249344 h0 w0 p2 p3 p4 w1 h1 w2 w3 w4 w5 w6 w7 w8 w9 w10 w11 p5 h1 h2 p6 p7 w12 h2 p8 p9 p10 p11 w13 w14 w13 w15 w16 w17 w18 w19)) 0 0 := by
  refine q_ent (own := RX11) (by decide) rfl (Nat.le_of_ble_eq_true rfl) (fun p e s m below meth c ls X hr hlk hnm hK hT h hA hl => ?_)
  obtain ⟨hx, hb, hml, hown, ht⟩ := id X
  replace hl : lv_has ls 3 [(0, .ref h0), (1, .int p0), (2, .int p1)] := hl
  refine lv_aload_n hx hb dX11_areTwoPeople_0 rfl (lv_at hl 0 rfl) ?_
  refine lv_iload_n hx hb dX11_areTwoPeople_1 rfl (lv_at hl 1 rfl) ?_
  refine q_callVi (rest := []) (wr := []) X hK hT hA h (fun sz => gX11_isPerson_078711e l D cy h0 h1 h2 p0 w0 p2 p3 p4 w1 w2 w3 w4 w5 w6 w7 w8 w9 w10 w11 p5 p6 p7 w12 p8 p9 p10 p11 w13 w14 w15 w16 w17 w18 w19 (i_rng _) hp2 (i_rng _) (i_rng _) (i_rng _) (i_rng _) (i_rng _) hp8 hp9 (i_rng _) (i_rng _) sz) wm_3_174 wm_3_177 wm_1_1 hd_X11_isPerson wm_3_176 wp_2_8 (ci := 11) (q0 := 0) rfl rfl ⟨Nat.le_of_ble_eq_true rfl, Nat.le_of_ble_eq_true rfl⟩ hl.1 rfl (Nat.le_of_ble_eq_true rfl) dX11_areTwoPeople_2 ⟨Nat.le_of_ble_eq_true rfl, Nat.le_of_ble_eq_true rfl⟩ [0, 1, 2] [] rfl rfl (by decide) rfl rfl (fun r_1 u_1 H locs w_1 h_1 => ?_)
  clear h
  obtain ⟨wr_1, y1_0, _⟩ := w_1
  replace h_1 : qW D _ _ (wk_0eb249344 h0 w0 p2 p3 p4 w1 h1 w2 w3 w4 w5 w6 w7 w8 w9 w10 w11 p5 h1 h2 p6 p7 w12 h2 p8 p9 p10 p11 w13 w14 w13 w15 w16 w17 w18 w19) _ _ := h_1
  refine lv_if_eq (tgt := 25) hx hb dX11_areTwoPeople_5 (by decide) (fun c_2 => ?_) (fun c_2 => ?_)
  · replace c_2 := i_eq (x := r_1) (y := 0) rfl (show (0 : Int32).toInt = 0 by decide) c_2
    refine lv_iconst (v := 0) hx hb dX11_areTwoPeople_25 (by decide) ?_
    exact q_iret X hr hlk hK h_1 rfl (fun _ => 0, fun _ _ => 0, fun _ _ => 0) ⟨⟨by decide +kernel, by decide +kernel⟩, (show (0 : Int32).toInt = 0 ∨ (0 ≤ (p0 : Int32).toInt ∧ (p0 : Int32).toInt ≤ 9 ∧ 0 ≤ (p1 : Int32).toInt ∧ (p1 : Int32).toInt ≤ 9) from by have q0 : (0 : Int32).toInt = 0 := (by decide); omega), trivial⟩ [0, 1, 2] rfl rfl dX11_areTwoPeople_26 (Nat.le_of_ble_eq_true rfl) (Nat.le_of_ble_eq_true rfl)
  · replace c_2 := i_ne (x := r_1) (y := 0) rfl (show (0 : Int32).toInt = 0 by decide) c_2
    refine lv_aload_n hx hb dX11_areTwoPeople_8 rfl (lv_at hl 0 rfl) ?_
    refine lv_iload_n hx hb dX11_areTwoPeople_9 rfl (lv_at hl 2 rfl) ?_
    refine q_callVi (rest := []) (wr := []) X hK hT hA h_1 (fun sz => gX11_isPerson_078711e l D cy h0 h1 h2 p1 w0 p2 p3 p4 w1 w2 w3 w4 w5 w6 w7 w8 w9 w10 w11 p5 p6 p7 w12 p8 p9 p10 p11 w13 w14 w15 w16 w17 w18 w19 (i_rng _) hp2 (i_rng _) (i_rng _) (i_rng _) (i_rng _) (i_rng _) hp8 hp9 (i_rng _) (i_rng _) sz) wm_3_174 wm_3_177 wm_1_1 hd_X11_isPerson wm_3_176 wp_2_8 (ci := 11) (q0 := 0) rfl rfl ⟨Nat.le_of_ble_eq_true rfl, Nat.le_of_ble_eq_true rfl⟩ hl.1 rfl (Nat.le_of_ble_eq_true rfl) dX11_areTwoPeople_10 ⟨Nat.le_of_ble_eq_true rfl, Nat.le_of_ble_eq_true rfl⟩ [0, 1, 2] [] rfl rfl (by decide) rfl rfl (fun r_3 u_3 H locs w_3 h_3 => ?_)
    clear h_1
    obtain ⟨wr_3, y3_0, _⟩ := w_3
    replace h_3 : qW D _ _ (wk_0eb249344 h0 w0 p2 p3 p4 w1 h1 w2 w3 w4 w5 w6 w7 w8 w9 w10 w11 p5 h1 h2 p6 p7 w12 h2 p8 p9 p10 p11 w13 w14 w13 w15 w16 w17 w18 w19) _ _ := h_3
    refine lv_if_eq (tgt := 25) hx hb dX11_areTwoPeople_13 (by decide) (fun c_4 => ?_) (fun c_4 => ?_)
    · replace c_4 := i_eq (x := r_3) (y := 0) rfl (show (0 : Int32).toInt = 0 by decide) c_4
      refine lv_iconst (v := 0) hx hb dX11_areTwoPeople_25 (by decide) ?_
      exact q_iret X hr hlk hK h_3 rfl (fun _ => 0, fun _ _ => 0, fun _ _ => 0) ⟨⟨by decide +kernel, by decide +kernel⟩, (show (0 : Int32).toInt = 0 ∨ (0 ≤ (p0 : Int32).toInt ∧ (p0 : Int32).toInt ≤ 9 ∧ 0 ≤ (p1 : Int32).toInt ∧ (p1 : Int32).toInt ≤ 9) from by have q0 : (0 : Int32).toInt = 0 := (by decide); omega), trivial⟩ [0, 1, 2] rfl rfl dX11_areTwoPeople_26 (Nat.le_of_ble_eq_true rfl) (Nat.le_of_ble_eq_true rfl)
    · replace c_4 := i_ne (x := r_3) (y := 0) rfl (show (0 : Int32).toInt = 0 by decide) c_4
      refine lv_iload_n hx hb dX11_areTwoPeople_16 rfl (lv_at hl 1 rfl) ?_
      refine lv_iload_n hx hb dX11_areTwoPeople_17 rfl (lv_at hl 2 rfl) ?_
      refine lv_icmp_eq (tgt := 25) hx hb dX11_areTwoPeople_18 (by decide) (fun c_5 => ?_) (fun c_5 => ?_)
      · replace c_5 := i_eq (x := p0) (y := p1) rfl rfl c_5
        refine lv_iconst (v := 0) hx hb dX11_areTwoPeople_25 (by decide) ?_
        exact q_iret X hr hlk hK h_3 rfl (fun _ => 0, fun _ _ => 0, fun _ _ => 0) ⟨⟨by decide +kernel, by decide +kernel⟩, (show (0 : Int32).toInt = 0 ∨ (0 ≤ (p0 : Int32).toInt ∧ (p0 : Int32).toInt ≤ 9 ∧ 0 ≤ (p1 : Int32).toInt ∧ (p1 : Int32).toInt ≤ 9) from by have q0 : (0 : Int32).toInt = 0 := (by decide); omega), trivial⟩ [0, 1, 2] rfl rfl dX11_areTwoPeople_26 (Nat.le_of_ble_eq_true rfl) (Nat.le_of_ble_eq_true rfl)
      · replace c_5 := i_ne (x := p0) (y := p1) rfl rfl c_5
        refine lv_iconst (v := 1) hx hb dX11_areTwoPeople_21 (by decide) ?_
        refine lv_goto (tgt := 26) hx hb dX11_areTwoPeople_22 (by decide) ?_
        exact q_iret X hr hlk hK h_3 rfl (fun _ => 0, fun _ _ => 0, fun _ _ => 0) ⟨⟨by decide +kernel, by decide +kernel⟩, (show (1 : Int32).toInt = 0 ∨ (0 ≤ (p0 : Int32).toInt ∧ (p0 : Int32).toInt ≤ 9 ∧ 0 ≤ (p1 : Int32).toInt ∧ (p1 : Int32).toInt ≤ 9) from by have q0 : (1 : Int32).toInt = 1 := (by decide); omega), trivial⟩ [0, 1, 2] rfl rfl dX11_areTwoPeople_26 (Nat.le_of_ble_eq_true rfl) (Nat.le_of_ble_eq_true rfl)
set_option maxHeartbeats 4000000 in
set_option maxRecDepth 100000 in
theorem gX6_areOpposites_68d373d (l : Launch) (D : va_G) (cy : Nat → ClassId) (h0 : Nat) (h1 : Nat) (h2 : Nat) (h3 : Nat) (p0 : Int32) (p1 : Int32) (p2 : Int32) (p3 : Int32) (w0 : Value) (w1 : Value) (p4 : Int32) (p5 : Int32) (p6 : Int32) (p7 : Int32) (p8 : Int32) (w2 : Value) (w3 : Value) (w4 : Value) (w5 : Value) (w6 : Value) (w7 : Value) (w8 : Value) (f0 : Nat → Int32) (hp0 : 0 ≤ (p0).toInt ∧ (p0).toInt ≤ 9) (hp1 : 0 ≤ (p1).toInt ∧ (p1).toInt ≤ 999) (hp2 : 0 ≤ (p2).toInt ∧ (p2).toInt ≤ 9) (hp3 : (-2147483648) ≤ (p3).toInt ∧ (p3).toInt ≤ 2147483647) (hp4 : (-2147483648) ≤ (p4).toInt ∧ (p4).toInt ≤ 2147483647) (hp5 : 1 ≤ (p5).toInt ∧ (p5).toInt ≤ 3) (hp6 : 0 ≤ (p6).toInt ∧ (p6).toInt ≤ 10) (hp7 : (-2147483648) ≤ (p7).toInt ∧ (p7).toInt ≤ 2147483647) (hp8 : (-2147483648) ≤ (p8).toInt ∧ (p8).toInt ≤ 2147483647) (rf0 : RG f0 10 0 999) (sz : Nat) : MI l yX6_areOpposites cX6_areOpposites 8 .boolean { frames := 0, cells := 0, slots := 0, locals := 0 } [.ref h0, .ref h1, .int p0, .int p1, .int p2, .int p3] D cy (wk_c74bf9a7d cy h0 w0 w1 h1 h2 p3 p4 h3 h2 p5 p6 p7 p8 w2 w3 w4 w5 w6 w7 w8 h3 f0) sz (fun r u => (0 ≤ r.toInt ∧ r.toInt ≤ 1) ∧ True) (fun u => (wk_c74bf9a7d cy h0 w0 w1 h1 h2 p3 p4 h3 h2 p5 p6 p7 p8 w2 w3 w4 w5 w6 w7 w8 h3 f0)) 0 0 := by
  refine q_ent (own := RX6) (by decide) rfl (Nat.le_of_ble_eq_true rfl) (fun p e s m below meth c ls X hr hlk hnm hK hT h hA hl => ?_)
  obtain ⟨hx, hb, hml, hown, ht⟩ := id X
  replace hl : lv_has ls 8 [(0, .ref h0), (1, .ref h1), (2, .int p0), (3, .int p1), (4, .int p2), (5, .int p3)] := hl
  refine lv_aload_n hx hb dX6_areOpposites_0 rfl (lv_at hl 1 rfl) ?_
  refine q_get X hK h 1 rfl rfl wf_7 0 (by decide) rfl wm_2_41 dX6_areOpposites_1 ?_
  refine q_get X hK h 2 rfl rfl wf_3 4 (by decide) rfl wm_1_94 dX6_areOpposites_4 ?_
  refine lv_astoreN (lv' := [(6, .null), (0, .ref h0), (1, .ref h1), (2, .int p0), (3, .int p1), (4, .int p2), (5, .int p3)]) hx hb dX6_areOpposites_7 hl (by decide) rfl (fun ls_1 hl_1 => ?_)
  clear hl
  refine lv_aload_n hx hb dX6_areOpposites_9 rfl (lv_at hl_1 2 rfl) ?_
  refine q_get X hK h 1 rfl rfl wf_7 3 (by decide) rfl wm_2_53 dX6_areOpposites_10 ?_
  refine lv_iload hx hb dX6_areOpposites_13 (lv_at hl_1 5 rfl) ?_
  refine q_iald X hK h 3 rfl (i_in rfl (by omega) (by omega)) dX6_areOpposites_15 ?_
  obtain ⟨z_2, ez_2, hz_2⟩ := rg_get rf0 (x := p2) rfl (by omega) (by omega)
  refine q_c z_2 ez_2 ?_
  clear ez_2
  refine lv_istore (lv' := [(7, .int z_2), (6, .null), (0, .ref h0), (1, .ref h1), (2, .int p0), (3, .int p1), (4, .int p2), (5, .int p3)]) hx hb dX6_areOpposites_16 hl_1 (by decide) rfl (fun ls_3 hl_3 => ?_)
  clear hl_1
  refine lv_aloadN hx hb dX6_areOpposites_18 (lv_at hl_3 1 rfl) ?_
  refine lv_ifnonnullN hx hb dX6_areOpposites_20 ?_
  refine lv_iload_n hx hb dX6_areOpposites_23 rfl (lv_at hl_3 5 rfl) ?_
  refine lv_bipush (v := 100) hx hb dX6_areOpposites_24 (by decide) ?_
  refine lv_idiv hx hb dX6_areOpposites_26 (by decide) ?_
  obtain ⟨z_4, ez_4, hz_4⟩ := e_div (x := p1) (y := 100) rfl (show (100 : Int32).toInt = 100 by decide) (by omega) (by omega)
  refine q_c z_4 ez_4 ?_
  clear ez_4
  refine lv_iload hx hb dX6_areOpposites_27 (lv_at hl_3 0 rfl) ?_
  refine lv_bipush (v := 100) hx hb dX6_areOpposites_29 (by decide) ?_
  refine lv_idiv hx hb dX6_areOpposites_31 (by decide) ?_
  obtain ⟨z_5, ez_5, hz_5⟩ := e_div (x := z_2) (y := 100) rfl (show (100 : Int32).toInt = 100 by decide) (by omega) (by omega)
  refine q_c z_5 ez_5 ?_
  clear ez_5
  refine lv_iadd hx hb dX6_areOpposites_32 ?_
  obtain ⟨z_6, ez_6, hz_6⟩ := e_add (x := z_4) (y := z_5) rfl rfl (by omega) (by omega)
  refine q_c z_6 ez_6 ?_
  clear ez_6
  refine lv_bipush (v := 9) hx hb dX6_areOpposites_33 (by decide) ?_
  refine q_jn (pc2 := 43) (fun H locs ls st => ∃ v43_7_0 : Int32, (0 ≤ (v43_7_0).toInt ∧ (v43_7_0).toInt ≤ 1) ∧ st = [.int v43_7_0] ∧ qW D (va_A (wk_c74bf9a7d cy h0 w0 w1 h1 h2 p3 p4 h3 h2 p5 p6 p7 p8 w2 w3 w4 w5 w6 w7 w8 h3 f0) sz) s.heap (wk_c74bf9a7d cy h0 w0 w1 h1 h2 p3 p4 h3 h2 p5 p6 p7 p8 w2 w3 w4 w5 w6 w7 w8 h3 f0) H locs ∧ lv_has ls 8 [(0, .ref h0), (1, .ref h1), (2, .int p0), (3, .int p1), (4, .int p2), (5, .int p3), (6, .null), (7, .int z_2)]) (fun H locs ls st hP => ?_) (fun J_43 => ?_)
  · obtain ⟨v43_7_0, hv43_7_0, rfl, h, hl⟩ := hP
    exact q_iret X hr hlk hK h (q_nz (by omega) (by omega)) (fun _ => 0, fun _ _ => 0, fun _ _ => 0) ⟨hv43_7_0, trivial⟩ [0, 1, 2, 3] rfl rfl dX6_areOpposites_43 (Nat.le_of_ble_eq_true rfl) (Nat.le_of_ble_eq_true rfl)
  · skip
    refine lv_icmp_ne (tgt := 42) hx hb dX6_areOpposites_35 (by decide) (fun c_8 => ?_) (fun c_8 => ?_)
    · replace c_8 := i_ne (x := z_6) (y := 9) rfl (show (9 : Int32).toInt = 9 by decide) c_8
      refine lv_iconst (v := 0) hx hb dX6_areOpposites_42 (by decide) ?_
      exact J_43 _ _ _ _ ⟨0, ⟨by decide +kernel, by decide +kernel⟩, rfl, h, (lv_sub hl_3 [2, 3, 4, 5, 6, 7, 1, 0] rfl)⟩
    · replace c_8 := i_eq (x := z_6) (y := 9) rfl (show (9 : Int32).toInt = 9 by decide) c_8
      refine lv_iconst (v := 1) hx hb dX6_areOpposites_38 (by decide) ?_
      refine lv_goto (tgt := 43) hx hb dX6_areOpposites_39 (by decide) ?_
      exact J_43 _ _ _ _ ⟨1, ⟨by decide +kernel, by decide +kernel⟩, rfl, h, (lv_sub hl_3 [2, 3, 4, 5, 6, 7, 1, 0] rfl)⟩
set_option maxHeartbeats 4000000 in
set_option maxRecDepth 100000 in
theorem gX7_inTownOn_ef46805 (l : Launch) (D : va_G) (cy : Nat → ClassId) (h0 : Nat) (h1 : Nat) (h2 : Nat) (h3 : Nat) (p0 : Int32) (p1 : Int32) (w0 : Value) (p2 : Int32) (p3 : Int32) (p4 : Int32) (p5 : Int32) (w1 : Value) (w2 : Value) (w3 : Value) (w4 : Value) (w5 : Value) (f0 : Nat → Int32) (f1 : Nat → Int32) (hp0 : (-2147483648) ≤ (p0).toInt ∧ (p0).toInt ≤ 2147483647) (hp1 : (-2147483648) ≤ (p1).toInt ∧ (p1).toInt ≤ 2147483647) (hp2 : 1 ≤ (p2).toInt ∧ (p2).toInt ≤ 3) (hp3 : 0 ≤ (p3).toInt ∧ (p3).toInt ≤ 10) (hp4 : (-2147483648) ≤ (p4).toInt ∧ (p4).toInt ≤ 2147483647) (hp5 : (-2147483648) ≤ (p5).toInt ∧ (p5).toInt ≤ 2147483647) (sz : Nat) : MI l yX7_inTownOn cX7_inTownOn 4 .int { frames := 0, cells := 0, slots := 0, locals := 0 } [.ref h0, .int p0] D cy (wk_c1cec6de2 cy h0 h1 p0 p1 w0 h1 p2 p3 p4 p5 w1 w2 w1 w3 h2 h3 w4 w5 h2 f0 h3 f1) sz (fun r u => (0 ≤ r.toInt ∧ r.toInt ≤ 1023) ∧ True) (fun u => (wk_c1cec6de2 cy h0 h1 p0 p1 w0 h1 p2 p3 p4 p5 w1 w2 w1 w3 h2 h3 w4 w5 h2 f0 h3 f1)) 0 0 := by
  refine q_ent (own := RX7) (by decide) rfl (Nat.le_of_ble_eq_true rfl) (fun p e s m below meth c ls X hr hlk hnm hK hT h hA hl => ?_)
  obtain ⟨hx, hb, hml, hown, ht⟩ := id X
  replace hl : lv_has ls 4 [(0, .ref h0), (1, .int p0)] := hl
  refine lv_iconst (v := 0) hx hb dX7_inTownOn_0 (by decide) ?_
  refine lv_istore_n (lv' := [(2, .int 0), (0, .ref h0), (1, .int p0)]) hx hb dX7_inTownOn_1 rfl hl (by decide) rfl (fun ls_1 hl_1 => ?_)
  clear hl
  refine lv_iconst (v := 0) hx hb dX7_inTownOn_2 (by decide) ?_
  refine lv_istore_n (lv' := [(3, .int 0), (2, .int 0), (0, .ref h0), (1, .int p0)]) hx hb dX7_inTownOn_3 rfl hl_1 (by decide) rfl (fun ls_2 hl_2 => ?_)
  clear hl_1
  refine q_wl (fun (q : Int32 × Int32) H locs ls => match q with | (v4_3_0, v4_3_1) => (0 ≤ (v4_3_0).toInt ∧ (v4_3_0).toInt ≤ 10) ∧ (0 ≤ (v4_3_1).toInt ∧ (v4_3_1).toInt ≤ 1023) ∧ qW D (va_A (wk_c1cec6de2 cy h0 h1 p0 p1 w0 h1 p2 p3 p4 p5 w1 w2 w1 w3 h2 h3 w4 w5 h2 f0 h3 f1) sz) s.heap (wk_c1cec6de2 cy h0 h1 p0 p1 w0 h1 p2 p3 p4 p5 w1 w2 w1 w3 h2 h3 w4 w5 h2 f0 h3 f1) H locs ∧ lv_has ls 4 [(0, .ref h0), (1, .int p0), (2, .int v4_3_1), (3, .int v4_3_0)]) (fun (q : Int32 × Int32) => match q with | (v4_3_0, v4_3_1) => (11 - (v4_3_0).toInt).toNat) (fun q_4 ih_4 H locs ls hP => ?_) (0, 0) ⟨⟨by decide +kernel, by decide +kernel⟩, ⟨by decide +kernel, by decide +kernel⟩, h, (lv_sub hl_2 [2, 3, 1, 0] rfl)⟩
  obtain ⟨v4_3_0, v4_3_1⟩ := q_4
  obtain ⟨hv4_3_0, hv4_3_1, h, hl⟩ := hP
  refine lv_iload_n hx hb dX7_inTownOn_4 rfl (lv_at hl 3 rfl) ?_
  refine lv_aload_n hx hb dX7_inTownOn_5 rfl (lv_at hl 0 rfl) ?_
  refine q_get X hK h 0 rfl rfl wf_7 0 (by decide) rfl wm_2_37 dX7_inTownOn_6 ?_
  refine q_get X hK h 1 rfl rfl wf_3 1 (by decide) rfl wm_1_83 dX7_inTownOn_9 ?_
  refine lv_icmp_ge (tgt := 53) hx hb dX7_inTownOn_12 (by decide) (fun c_4 => ?_) (fun c_4 => ?_)
  · replace c_4 := i_le (x := p3) (y := v4_3_0) rfl rfl c_4
    refine lv_iload_n hx hb dX7_inTownOn_53 rfl (lv_at hl 2 rfl) ?_
    refine lv_aload_n hx hb dX7_inTownOn_54 rfl (lv_at hl 0 rfl) ?_
    refine q_get X hK h 0 rfl rfl wf_7 2 (by decide) rfl wm_2_48 dX7_inTownOn_55 ?_
    refine lv_iconst (v := (-1)) hx hb dX7_inTownOn_58 (by decide) ?_
    refine lv_ixor hx hb dX7_inTownOn_59 ?_
    refine q_any (fun z_5 hz_5 => ?_)
    refine lv_iand hx hb dX7_inTownOn_60 ?_
    obtain ⟨z_6, ez_6, hz_6⟩ := e_and1 (x := v4_3_1) (y := z_5) rfl (by omega)
    refine q_c z_6 ez_6 ?_
    clear ez_6
    exact q_iret X hr hlk hK h rfl (fun _ => 0, fun _ _ => 0, fun _ _ => 0) ⟨⟨by omega, by omega⟩, trivial⟩ [0, 1, 2, 3] rfl rfl dX7_inTownOn_61 (Nat.le_of_ble_eq_true rfl) (Nat.le_of_ble_eq_true rfl)
  · replace c_4 := i_nle (x := p3) (y := v4_3_0) rfl rfl c_4
    refine lv_aload_n hx hb dX7_inTownOn_15 rfl (lv_at hl 0 rfl) ?_
    refine q_get X hK h 0 rfl rfl wf_7 0 (by decide) rfl wm_2_37 dX7_inTownOn_16 ?_
    refine q_get X hK h 1 rfl rfl wf_3 8 (by decide) rfl wm_1_106 dX7_inTownOn_19 ?_
    refine lv_iload_n hx hb dX7_inTownOn_22 rfl (lv_at hl 3 rfl) ?_
    refine q_iald X hK h 2 rfl (i_in rfl (by omega) (by omega)) dX7_inTownOn_23 ?_
    refine q_any (fun z_7 hz_7 => ?_)
    refine lv_iload_n hx hb dX7_inTownOn_24 rfl (lv_at hl 1 rfl) ?_
    refine q_jn (pc2 := 47) (fun H locs ls st => ∃ v47_8_0 : Int32, (0 ≤ (v47_8_0).toInt ∧ (v47_8_0).toInt ≤ 1023) ∧ st = [] ∧ qW D (va_A (wk_c1cec6de2 cy h0 h1 p0 p1 w0 h1 p2 p3 p4 p5 w1 w2 w1 w3 h2 h3 w4 w5 h2 f0 h3 f1) sz) s.heap (wk_c1cec6de2 cy h0 h1 p0 p1 w0 h1 p2 p3 p4 p5 w1 w2 w1 w3 h2 h3 w4 w5 h2 f0 h3 f1) H locs ∧ lv_has ls 4 [(0, .ref h0), (1, .int p0), (2, .int v47_8_0), (3, .int v4_3_0)]) (fun H locs ls st hP => ?_) (fun J_47 => ?_)
    · obtain ⟨v47_8_0, hv47_8_0, rfl, h, hl⟩ := hP
      obtain ⟨z_9, ez_9, hz_9⟩ := e_add (x := v4_3_0) (y := Int32.ofInt 1) rfl (b := 1) (by decide) (by omega) (by omega)
      refine lv_iinc (v := z_9) (lv' := [(3, .int z_9), (0, .ref h0), (1, .int p0), (2, .int v47_8_0)]) hx hb dX7_inTownOn_47 hl (k := 3) rfl ez_9 (by decide) rfl (fun ls_9 hl_9 => ?_)
      clear hl
      refine lv_goto (tgt := 4) hx hb dX7_inTownOn_50 (by decide) ?_
      exact ih_4 (z_9, v47_8_0) (by show (11 - (z_9).toInt).toNat < (11 - (v4_3_0).toInt).toNat; omega) _ _ _ ⟨⟨by omega, by omega⟩, hv47_8_0, h, (lv_sub hl_9 [1, 2, 3, 0] rfl)⟩
    · skip
      refine lv_icmp_gt (tgt := 47) hx hb dX7_inTownOn_25 (by decide) (fun c_10 => ?_) (fun c_10 => ?_)
      · replace c_10 := i_lt (x := p0) (y := z_7) rfl rfl c_10
        exact J_47 _ _ _ _ ⟨v4_3_1, hv4_3_1, rfl, h, (lv_sub hl [0, 1, 2, 3] rfl)⟩
      · replace c_10 := i_nlt (x := p0) (y := z_7) rfl rfl c_10
        refine lv_iload_n hx hb dX7_inTownOn_28 rfl (lv_at hl 1 rfl) ?_
        refine lv_aload_n hx hb dX7_inTownOn_29 rfl (lv_at hl 0 rfl) ?_
        refine q_get X hK h 0 rfl rfl wf_7 0 (by decide) rfl wm_2_37 dX7_inTownOn_30 ?_
        refine q_get X hK h 1 rfl rfl wf_3 9 (by decide) rfl wm_1_110 dX7_inTownOn_33 ?_
        refine lv_iload_n hx hb dX7_inTownOn_36 rfl (lv_at hl 3 rfl) ?_
        refine q_iald X hK h 3 rfl (i_in rfl (by omega) (by omega)) dX7_inTownOn_37 ?_
        refine q_any (fun z_11 hz_11 => ?_)
        refine lv_icmp_gt (tgt := 47) hx hb dX7_inTownOn_38 (by decide) (fun c_12 => ?_) (fun c_12 => ?_)
        · replace c_12 := i_lt (x := z_11) (y := p0) rfl rfl c_12
          exact J_47 _ _ _ _ ⟨v4_3_1, hv4_3_1, rfl, h, (lv_sub hl [0, 1, 2, 3] rfl)⟩
        · replace c_12 := i_nlt (x := z_11) (y := p0) rfl rfl c_12
          refine lv_iload_n hx hb dX7_inTownOn_41 rfl (lv_at hl 2 rfl) ?_
          refine lv_iconst (v := 1) hx hb dX7_inTownOn_42 (by decide) ?_
          refine lv_iload_n hx hb dX7_inTownOn_43 rfl (lv_at hl 3 rfl) ?_
          refine lv_ishl hx hb dX7_inTownOn_44 ?_
          obtain ⟨z_13, ez_13, hz_13⟩ := e_shlk (p := v4_3_0) 9 (by decide) rfl (by omega) (by omega)
          refine q_c z_13 ez_13 ?_
          clear ez_13
          refine lv_ior hx hb dX7_inTownOn_45 ?_
          obtain ⟨z_14, ez_14, hz_14⟩ := e_or (x := v4_3_1) (y := z_13) 10 (by decide) rfl rfl (by omega) (by omega) (by omega) (by omega)
          refine q_c z_14 ez_14 ?_
          clear ez_14
          refine lv_istore_n (lv' := [(2, .int z_14), (0, .ref h0), (1, .int p0), (3, .int v4_3_0)]) hx hb dX7_inTownOn_46 rfl hl (by decide) rfl (fun ls_15 hl_15 => ?_)
          clear hl
          exact J_47 _ _ _ _ ⟨z_14, ⟨by omega, by omega⟩, rfl, h, (lv_sub hl_15 [1, 2, 0, 3] rfl)⟩
set_option maxHeartbeats 4000000 in
set_option maxRecDepth 100000 in
theorem gX7_inTown_f15b0f4 (l : Launch) (D : va_G) (cy : Nat → ClassId) (h0 : Nat) (h1 : Nat) (h2 : Nat) (h3 : Nat) (p0 : Int32) (p1 : Int32) (w0 : Value) (p2 : Int32) (p3 : Int32) (p4 : Int32) (p5 : Int32) (w1 : Value) (w2 : Value) (w3 : Value) (w4 : Value) (w5 : Value) (f0 : Nat → Int32) (f1 : Nat → Int32) (hp0 : (-2147483648) ≤ (p0).toInt ∧ (p0).toInt ≤ 2147483647) (hp1 : (-2147483648) ≤ (p1).toInt ∧ (p1).toInt ≤ 2147483647) (hp2 : 1 ≤ (p2).toInt ∧ (p2).toInt ≤ 3) (hp3 : 0 ≤ (p3).toInt ∧ (p3).toInt ≤ 10) (hp4 : (-2147483648) ≤ (p4).toInt ∧ (p4).toInt ≤ 2147483647) (hp5 : (-2147483648) ≤ (p5).toInt ∧ (p5).toInt ≤ 2147483647) (sz : Nat) : MI l yX7_inTown cX7_inTown 1 .int { frames := 1, cells := 0, slots := 0, locals := 23 } [.ref h0] D cy (wk_c1cec6de2 cy h0 h1 p0 p1 w0 h1 p2 p3 p4 p5 w1 w2 w1 w3 h2 h3 w4 w5 h2 f0 h3 f1) sz (fun r u => (0 ≤ r.toInt ∧ r.toInt ≤ 1023) ∧ True) (fun u => (wk_c1cec6de2 cy h0 h1 p0 p1 w0 h1 p2 p3 p4 p5 w1 w2 w1 w3 h2 h3 w4 w5 h2 f0 h3 f1)) 0 0 := by
  refine q_ent (own := RX7) (by decide) rfl (Nat.le_of_ble_eq_true rfl) (fun p e s m below meth c ls X hr hlk hnm hK hT h hA hl => ?_)
  obtain ⟨hx, hb, hml, hown, ht⟩ := id X
  replace hl : lv_has ls 1 [(0, .ref h0)] := hl
  refine lv_aload_n hx hb dX7_inTown_0 rfl (lv_at hl 0 rfl) ?_
  refine lv_aload_n hx hb dX7_inTown_1 rfl (lv_at hl 0 rfl) ?_
  refine q_get X hK h 0 rfl rfl wf_7 1 (by decide) rfl wm_2_43 dX7_inTown_2 ?_
  refine q_callVi (rest := []) (wr := []) X hK hT hA h (fun sz => gX7_inTownOn_ef46805 l D cy h0 h1 h2 h3 p0 p1 w0 p2 p3 p4 p5 w1 w2 w3 w4 w5 f0 f1 (i_rng _) (i_rng _) hp2 hp3 (i_rng _) (i_rng _) sz) wm_3_183 wm_3_186 wm_1_9 hd_X7_inTownOn wm_3_184 wm_3_185 (ci := 7) (q0 := 0) rfl rfl ⟨Nat.le_of_ble_eq_true rfl, Nat.le_of_ble_eq_true rfl⟩ hl.1 rfl (Nat.le_of_ble_eq_true rfl) dX7_inTown_5 ⟨Nat.le_of_ble_eq_true rfl, Nat.le_of_ble_eq_true rfl⟩ [0, 1, 2, 3] [] rfl rfl (by decide) rfl rfl (fun r_1 u_1 H locs w_1 h_1 => ?_)
  clear h
  obtain ⟨wr_1, _⟩ := w_1
  replace h_1 : qW D _ _ (wk_c1cec6de2 cy h0 h1 p0 p1 w0 h1 p2 p3 p4 p5 w1 w2 w1 w3 h2 h3 w4 w5 h2 f0 h3 f1) _ _ := h_1
  exact q_iret X hr hlk hK h_1 rfl (fun _ => 0, fun _ _ => 0, fun _ _ => 0) ⟨wr_1, trivial⟩ [0, 1, 2, 3] rfl rfl dX7_inTown_8 (Nat.le_of_ble_eq_true rfl) (Nat.le_of_ble_eq_true rfl)
set_option maxHeartbeats 4000000 in
set_option maxRecDepth 100000 in
theorem gJ7_fill_53178_5ed5797 (l : Launch) (D : va_G) (cy : Nat → ClassId) (h0 : Nat) (p0 : Int32) (f0 : Nat → Int32) (hp0 : (-1) ≤ (p0).toInt ∧ (p0).toInt ≤ (-1)) (rf0 : RG f0 1000 (-1) 999) (sz : Nat) : MV l yJ7_fill_53178 cJ7_fill_53178 4 { frames := 0, cells := 0, slots := 0, locals := 0 } [.ref h0, .int p0] D cy [(h0, .inl (cy 1, 1000, .inl f0))] sz (fun u => RG (u.2.1 0) 1000 (-1) 999 ∧ (FLL (u.2.1 0) 1000 p0) ∧ True) (fun u => [(h0, .inl (cy 1, 1000, .inl (u.2.1 0)))]) 0 0 := by
  refine q_ent (own := RJ7) (by decide) rfl (Nat.le_of_ble_eq_true rfl) (fun p e s m below meth c ls X hr hlk hnm hK hT h hA hl => ?_)
  obtain ⟨hx, hb, hml, hown, ht⟩ := id X
  replace hl : lv_has ls 4 [(0, .ref h0), (1, .int p0)] := hl
  refine lv_iconst (v := 0) hx hb dJ7_fill_53178_0 (by decide) ?_
  refine lv_istore_n (lv' := [(2, .int 0), (0, .ref h0), (1, .int p0)]) hx hb dJ7_fill_53178_1 rfl hl (by decide) rfl (fun ls_1 hl_1 => ?_)
  clear hl
  refine lv_aload_n hx hb dJ7_fill_53178_2 rfl (lv_at hl_1 1 rfl) ?_
  refine q_alen X hK h 0 1 rfl rfl 1000 (show Int32.ofNat 1000 = 1000 by decide) dJ7_fill_53178_3 ?_
  refine lv_istore_n (lv' := [(3, .int 1000), (2, .int 0), (0, .ref h0), (1, .int p0)]) hx hb dJ7_fill_53178_4 rfl hl_1 (by decide) rfl (fun ls_2 hl_2 => ?_)
  clear hl_1
  refine q_wl (fun (v5_3_0 : Int32) H locs ls => ∃ v5_3_1 : Nat → Int32, (0 ≤ (v5_3_0).toInt ∧ (v5_3_0).toInt ≤ 1000) ∧ RG v5_3_1 1000 (-1) 999 ∧ (FLL v5_3_1 (v5_3_0 : Int32).toInt p0) ∧ qW D (va_A [(h0, .inl (cy 1, 1000, .inl f0))] sz) s.heap [(h0, .inl (cy 1, 1000, .inl v5_3_1))] H locs ∧ lv_has ls 4 [(0, .ref h0), (1, .int p0), (2, .int v5_3_0), (3, .int 1000)]) (fun (v5_3_0 : Int32) => (1001 - (v5_3_0).toInt).toNat) (fun q_5 ih_5 H locs ls hP => ?_) 0 ⟨f0, ⟨by decide +kernel, by decide +kernel⟩, (rg_wide rf0 (by decide) (by decide)), (fll_0 (by have q0 : (0 : Int32).toInt = 0 := (by decide); omega)), h, (lv_sub hl_2 [2, 3, 1, 0] rfl)⟩
  obtain ⟨v5_3_0, rfl⟩ : ∃ z, z = q_5 := ⟨_, rfl⟩
  obtain ⟨v5_3_1, hv5_3_0, rv5_3_1, x4_0, h, hl⟩ := hP
  refine lv_iload_n hx hb dJ7_fill_53178_5 rfl (lv_at hl 2 rfl) ?_
  refine lv_iload_n hx hb dJ7_fill_53178_6 rfl (lv_at hl 3 rfl) ?_
  refine lv_icmp_ge (tgt := 20) hx hb dJ7_fill_53178_7 (by decide) (fun c_5 => ?_) (fun c_5 => ?_)
  · replace c_5 := i_le (x := 1000) (y := v5_3_0) (show (1000 : Int32).toInt = 1000 by decide) rfl c_5
    exact q_vret X hr hlk hK h (fun _ => 0, (vcons v5_3_1 (fun _ => (fun _ => 0))), fun _ _ => 0) ⟨(rg_wide rv5_3_1 (by decide) (by decide)), (show FLL v5_3_1 1000 p0 from fll_le x4_0 (by omega)), trivial⟩ [0] rfl rfl dJ7_fill_53178_20 (Nat.le_of_ble_eq_true rfl) (Nat.le_of_ble_eq_true rfl)
  · replace c_5 := i_nle (x := 1000) (y := v5_3_0) (show (1000 : Int32).toInt = 1000 by decide) rfl c_5
    refine lv_aload_n hx hb dJ7_fill_53178_10 rfl (lv_at hl 0 rfl) ?_
    refine lv_iload_n hx hb dJ7_fill_53178_11 rfl (lv_at hl 2 rfl) ?_
    refine lv_iload_n hx hb dJ7_fill_53178_12 rfl (lv_at hl 1 rfl) ?_
    refine q_iast X hK h 0 rfl (i_in rfl (by omega) (by omega)) dJ7_fill_53178_13 (fun H locs h_7 => ?_)
    clear h
    replace h_7 : qW D _ _ [(h0, .inl (cy 1, 1000, .inl (upd v5_3_1 (Int32.toNatClampNeg v5_3_0) p0)))] _ _ := h_7
    obtain ⟨F_6, eF_6, rF_6⟩ := rg_upd rv5_3_1 (Int32.toNatClampNeg v5_3_0) (x := p0) rfl (by omega) (by omega)
    rw [eF_6] at h_7
    have fs_8 := fll_s x4_0 (by omega) eF_6
    obtain ⟨z_9, ez_9, hz_9⟩ := e_add (x := v5_3_0) (y := Int32.ofInt 1) rfl (b := 1) (by decide) (by omega) (by omega)
    refine lv_iinc (v := z_9) (lv' := [(2, .int z_9), (0, .ref h0), (1, .int p0), (3, .int 1000)]) hx hb dJ7_fill_53178_14 hl (k := 2) rfl ez_9 (by decide) rfl (fun ls_9 hl_9 => ?_)
    clear hl
    refine lv_goto (tgt := 5) hx hb dJ7_fill_53178_17 (by decide) ?_
    exact ih_5 z_9 (by show (1001 - (z_9).toInt).toNat < (1001 - (v5_3_0).toInt).toNat; omega) _ _ _ ⟨F_6, ⟨by omega, by omega⟩, (rg_wide rF_6 (by decide) (by decide)), (fll_le fs_8 (by omega)), h_7, (lv_sub hl_9 [1, 2, 0, 3] rfl)⟩
set_option maxHeartbeats 4000000 in
set_option maxRecDepth 100000 in
theorem gX6_swayOf_427787b (l : Launch) (D : va_G) (cy : Nat → ClassId) (h0 : Nat) (h1 : Nat) (p0 : Int32) (w0 : Value) (f0 : Nat → Int32) (hp0 : 0 ≤ (p0).toInt ∧ (p0).toInt ≤ 2) (sz : Nat) : MI l yX6_swayOf cX6_swayOf 3 .int { frames := 0, cells := 0, slots := 0, locals := 0 } [.ref h0, .null, .int p0] D cy (wk_01e9d1fed cy h0 h1 w0 h1 f0) sz (fun r u => ((-2147483648) ≤ r.toInt ∧ r.toInt ≤ 2147483647) ∧ True) (fun u => (wk_01e9d1fed cy h0 h1 w0 h1 f0)) 0 0 := by
  refine q_ent (own := RX6) (by decide) rfl (Nat.le_of_ble_eq_true rfl) (fun p e s m below meth c ls X hr hlk hnm hK hT h hA hl => ?_)
  obtain ⟨hx, hb, hml, hown, ht⟩ := id X
  replace hl : lv_has ls 3 [(0, .ref h0), (1, .null), (2, .int p0)] := hl
  refine lv_aload_nN hx hb dX6_swayOf_0 rfl (lv_at hl 1 rfl) ?_
  refine lv_ifnonnullN hx hb dX6_swayOf_1 ?_
  refine lv_aload_n hx hb dX6_swayOf_4 rfl (lv_at hl 0 rfl) ?_
  refine q_get X hK h 0 rfl rfl wf_6 0 (by decide) rfl wm_1_184 dX6_swayOf_5 ?_
  refine lv_iconst (v := 4) hx hb dX6_swayOf_8 (by decide) ?_
  refine lv_iload_n hx hb dX6_swayOf_9 rfl (lv_at hl 2 rfl) ?_
  refine lv_iadd hx hb dX6_swayOf_10 ?_
  obtain ⟨z_1, ez_1, hz_1⟩ := e_add (x := 4) (y := p0) (show (4 : Int32).toInt = 4 by decide) rfl (by omega) (by omega)
  refine q_c z_1 ez_1 ?_
  clear ez_1
  refine q_iald X hK h 1 rfl (i_in rfl (by omega) (by omega)) dX6_swayOf_11 ?_
  refine q_any (fun z_2 hz_2 => ?_)
  refine lv_aload_n hx hb dX6_swayOf_12 rfl (lv_at hl 0 rfl) ?_
  refine q_get X hK h 0 rfl rfl wf_6 0 (by decide) rfl wm_1_184 dX6_swayOf_13 ?_
  refine lv_iconst (v := 0) hx hb dX6_swayOf_16 (by decide) ?_
  refine lv_iload_n hx hb dX6_swayOf_17 rfl (lv_at hl 2 rfl) ?_
  refine lv_iadd hx hb dX6_swayOf_18 ?_
  obtain ⟨z_3, ez_3, hz_3⟩ := e_add (x := 0) (y := p0) (show (0 : Int32).toInt = 0 by decide) rfl (by omega) (by omega)
  refine q_c z_3 ez_3 ?_
  clear ez_3
  refine q_iald X hK h 1 rfl (i_in rfl (by omega) (by omega)) dX6_swayOf_19 ?_
  refine q_any (fun z_4 hz_4 => ?_)
  refine lv_isub hx hb dX6_swayOf_20 ?_
  refine q_any (fun z_5 hz_5 => ?_)
  exact q_iret X hr hlk hK h rfl (fun _ => 0, fun _ _ => 0, fun _ _ => 0) ⟨⟨by omega, by omega⟩, trivial⟩ [0, 1] rfl rfl dX6_swayOf_21 (Nat.le_of_ble_eq_true rfl) (Nat.le_of_ble_eq_true rfl)
set_option maxHeartbeats 4000000 in
set_option maxRecDepth 100000 in
theorem gJ6_compare_7cf53_7a9f5f9 (l : Launch) (D : va_G) (cy : Nat → ClassId) (p0 : Int32) (p1 : Int32) (hp0 : (-2147483648) ≤ (p0).toInt ∧ (p0).toInt ≤ 2147483647) (hp1 : 0 ≤ (p1).toInt ∧ (p1).toInt ≤ 0) (sz : Nat) : MI l yJ6_compare_7cf53 cJ6_compare_7cf53 2 .int { frames := 0, cells := 0, slots := 0, locals := 0 } [.int p0, .int p1] D cy [] sz (fun r u => ((-1) ≤ r.toInt ∧ r.toInt ≤ 1) ∧ True) (fun u => []) 0 0 := by
  refine q_ent (own := RJ6) (by decide) rfl (Nat.le_of_ble_eq_true rfl) (fun p e s m below meth c ls X hr hlk hnm hK hT h hA hl => ?_)
  obtain ⟨hx, hb, hml, hown, ht⟩ := id X
  replace hl : lv_has ls 2 [(0, .int p0), (1, .int p1)] := hl
  refine lv_iload_n hx hb dJ6_compare_7cf53_0 rfl (lv_at hl 0 rfl) ?_
  refine lv_iload_n hx hb dJ6_compare_7cf53_1 rfl (lv_at hl 1 rfl) ?_
  refine q_jn (pc2 := 19) (fun H locs ls st => ∃ v19_1_0 : Int32, ((-1) ≤ (v19_1_0).toInt ∧ (v19_1_0).toInt ≤ 1) ∧ st = [.int v19_1_0] ∧ qW D (va_A [] sz) s.heap [] H locs ∧ lv_has ls 2 [(0, .int p0), (1, .int p1)]) (fun H locs ls st hP => ?_) (fun J_19 => ?_)
  · obtain ⟨v19_1_0, hv19_1_0, rfl, h, hl⟩ := hP
    exact q_iret X hr hlk hK h rfl (fun _ => 0, fun _ _ => 0, fun _ _ => 0) ⟨hv19_1_0, trivial⟩ [] rfl rfl dJ6_compare_7cf53_19 (Nat.le_of_ble_eq_true rfl) (Nat.le_of_ble_eq_true rfl)
  · skip
    refine lv_icmp_ge (tgt := 9) hx hb dJ6_compare_7cf53_2 (by decide) (fun c_2 => ?_) (fun c_2 => ?_)
    · replace c_2 := i_le (x := p1) (y := p0) rfl rfl c_2
      refine lv_iload_n hx hb dJ6_compare_7cf53_9 rfl (lv_at hl 0 rfl) ?_
      refine lv_iload_n hx hb dJ6_compare_7cf53_10 rfl (lv_at hl 1 rfl) ?_
      refine lv_icmp_ne (tgt := 18) hx hb dJ6_compare_7cf53_11 (by decide) (fun c_3 => ?_) (fun c_3 => ?_)
      · replace c_3 := i_ne (x := p0) (y := p1) rfl rfl c_3
        refine lv_iconst (v := 1) hx hb dJ6_compare_7cf53_18 (by decide) ?_
        exact J_19 _ _ _ _ ⟨1, ⟨by decide +kernel, by decide +kernel⟩, rfl, h, (lv_sub hl [0, 1] rfl)⟩
      · replace c_3 := i_eq (x := p0) (y := p1) rfl rfl c_3
        refine lv_iconst (v := 0) hx hb dJ6_compare_7cf53_14 (by decide) ?_
        refine lv_goto (tgt := 19) hx hb dJ6_compare_7cf53_15 (by decide) ?_
        exact J_19 _ _ _ _ ⟨0, ⟨by decide +kernel, by decide +kernel⟩, rfl, h, (lv_sub hl [0, 1] rfl)⟩
    · replace c_2 := i_nle (x := p1) (y := p0) rfl rfl c_2
      refine lv_iconst (v := (-1)) hx hb dJ6_compare_7cf53_5 (by decide) ?_
      refine lv_goto (tgt := 19) hx hb dJ6_compare_7cf53_6 (by decide) ?_
      exact J_19 _ _ _ _ ⟨(-1), ⟨by decide +kernel, by decide +kernel⟩, rfl, h, (lv_sub hl [0, 1] rfl)⟩
set_option maxHeartbeats 4000000 in
set_option maxRecDepth 100000 in
theorem gX6_swayed_24d9f3b (l : Launch) (D : va_G) (cy : Nat → ClassId) (h0 : Nat) (h1 : Nat) (h2 : Nat) (h3 : Nat) (h4 : Nat) (p0 : Int32) (p1 : Int32) (p2 : Int32) (w0 : Value) (f0 : Nat → Int32) (p3 : Int32) (p4 : Int32) (p5 : Int32) (p6 : Int32) (p7 : Int32) (p8 : Int32) (w1 : Value) (w2 : Value) (w3 : Value) (w4 : Value) (w5 : Value) (w6 : Value) (w7 : Value) (f1 : Nat → Int32) (hp0 : 0 ≤ (p0).toInt ∧ (p0).toInt ≤ 9) (hp1 : 0 ≤ (p1).toInt ∧ (p1).toInt ≤ 999) (hp2 : 0 ≤ (p2).toInt ∧ (p2).toInt ≤ 9) (hp3 : (-2147483648) ≤ (p3).toInt ∧ (p3).toInt ≤ 2147483647) (hp4 : (-2147483648) ≤ (p4).toInt ∧ (p4).toInt ≤ 2147483647) (hp5 : 1 ≤ (p5).toInt ∧ (p5).toInt ≤ 3) (hp6 : 0 ≤ (p6).toInt ∧ (p6).toInt ≤ 10) (hp7 : (-2147483648) ≤ (p7).toInt ∧ (p7).toInt ≤ 2147483647) (hp8 : (-2147483648) ≤ (p8).toInt ∧ (p8).toInt ≤ 2147483647) (rf1 : RG f1 10 0 999) (sz : Nat) : MI l yX6_swayed cX6_swayed 9 .int { frames := 1, cells := 0, slots := 0, locals := 23 } [.ref h0, .ref h2, .int p0, .int p1, .int p2] D cy (wk_c05efe297 cy h0 h1 w0 h1 f0 h2 h3 p3 p4 h4 h3 p5 p6 p7 p8 w1 w2 w3 w4 w5 w6 w7 h4 f1) sz (fun r u => (0 ≤ r.toInt ∧ r.toInt ≤ 999) ∧ True) (fun u => (wk_c05efe297 cy h0 h1 w0 h1 (u.2.1 0) h2 h3 p3 p4 h4 h3 p5 p6 p7 p8 w1 w2 w3 w4 w5 w6 w7 h4 f1)) 0 0 := by
  refine q_ent (own := RX6) (by decide) rfl (Nat.le_of_ble_eq_true rfl) (fun p e s m below meth c ls X hr hlk hnm hK hT h hA hl => ?_)
  obtain ⟨hx, hb, hml, hown, ht⟩ := id X
  replace hl : lv_has ls 9 [(0, .ref h0), (1, .ref h2), (2, .int p0), (3, .int p1), (4, .int p2)] := hl
  refine lv_aload_n hx hb dX6_swayed_0 rfl (lv_at hl 0 rfl) ?_
  refine lv_iconst (v := 0) hx hb dX6_swayed_1 (by decide) ?_
  refine lv_iload_n hx hb dX6_swayed_2 rfl (lv_at hl 3 rfl) ?_
  refine lv_iload_n hx hb dX6_swayed_3 rfl (lv_at hl 2 rfl) ?_
  refine q_callVv (rest := []) (wr := (wk_d89942814 cy h2 h3 p3 p4 h4 h3 p5 p6 p7 p8 w1 w2 w3 w4 w5 w6 w7 h4 f1)) X hK hT hA h (fun sz => gX6_put_ab0800e l D cy h0 h1 (0 : Int32) p1 p0 w0 f0 ⟨by decide +kernel, by decide +kernel⟩ hp1 hp0 sz) wm_3_204 wm_3_207 wm_1_5 hd_X6_put wm_3_206 wp_2_10 (ci := 6) (q0 := 0) rfl rfl ⟨Nat.le_of_ble_eq_true rfl, Nat.le_of_ble_eq_true rfl⟩ hl.1 rfl (Nat.le_of_ble_eq_true rfl) dX6_swayed_4 ⟨Nat.le_of_ble_eq_true rfl, Nat.le_of_ble_eq_true rfl⟩ [0, 1] [2, 3, 4] rfl rfl (by decide) rfl rfl (fun u_1 H locs w_1 h_1 => ?_)
  clear h
  clear w_1
  replace h_1 : qW D _ _ (wk_86288d064 cy h2 h3 p3 p4 h4 h3 p5 p6 p7 p8 w1 w2 w3 w4 w5 w6 w7 h4 f1 h0 h1 w0 h1 (u_1.2.1 0)) _ _ := h_1
  refine lv_aload_n hx hb dX6_swayed_7 rfl (lv_at hl 0 rfl) ?_
  refine lv_iconst (v := 4) hx hb dX6_swayed_8 (by decide) ?_
  refine lv_aload_n hx hb dX6_swayed_9 rfl (lv_at hl 1 rfl) ?_
  refine q_get X hK h_1 0 rfl rfl wf_7 3 (by decide) rfl wm_2_53 dX6_swayed_10 ?_
  refine lv_iload hx hb dX6_swayed_13 (lv_at hl 4 rfl) ?_
  refine q_iald X hK h_1 2 rfl (i_in rfl (by omega) (by omega)) dX6_swayed_15 ?_
  obtain ⟨z_2, ez_2, hz_2⟩ := rg_get rf1 (x := p2) rfl (by omega) (by omega)
  refine q_c z_2 ez_2 ?_
  clear ez_2
  refine lv_iload hx hb dX6_swayed_16 (lv_at hl 4 rfl) ?_
  refine q_callVv (rest := []) (wr := (wk_d89942814 cy h2 h3 p3 p4 h4 h3 p5 p6 p7 p8 w1 w2 w3 w4 w5 w6 w7 h4 f1)) X hK hT hA h_1 (fun sz => gX6_put_ab0800e l D cy h0 h1 (4 : Int32) z_2 p2 w0 (u_1.2.1 0) ⟨by decide +kernel, by decide +kernel⟩ ⟨by omega, by omega⟩ hp2 sz) wm_3_204 wm_3_207 wm_1_5 hd_X6_put wm_3_206 wp_2_10 (ci := 6) (q0 := 0) rfl rfl ⟨Nat.le_of_ble_eq_true rfl, Nat.le_of_ble_eq_true rfl⟩ hl.1 rfl (Nat.le_of_ble_eq_true rfl) dX6_swayed_18 ⟨Nat.le_of_ble_eq_true rfl, Nat.le_of_ble_eq_true rfl⟩ [3, 4] [0, 1, 2] rfl rfl (by decide) rfl rfl (fun u_3 H locs w_3 h_3 => ?_)
  clear h_1
  clear w_3
  replace h_3 : qW D _ _ (wk_86288d064 cy h2 h3 p3 p4 h4 h3 p5 p6 p7 p8 w1 w2 w3 w4 w5 w6 w7 h4 f1 h0 h1 w0 h1 (u_3.2.1 0)) _ _ := h_3
  refine lv_aload_n hx hb dX6_swayed_21 rfl (lv_at hl 0 rfl) ?_
  refine q_get X hK h_3 3 rfl rfl wf_6 0 (by decide) rfl wm_1_184 dX6_swayed_22 ?_
  refine lv_bipush (v := 8) hx hb dX6_swayed_25 (by decide) ?_
  refine lv_aload_n hx hb dX6_swayed_27 rfl (lv_at hl 1 rfl) ?_
  refine q_get X hK h_3 0 rfl rfl wf_7 1 (by decide) rfl wm_2_46 dX6_swayed_28 ?_
  refine lv_bipush (v := 7) hx hb dX6_swayed_31 (by decide) ?_
  refine lv_irem hx hb dX6_swayed_33 (by decide) ?_
  refine q_any (fun z_4 hz_4 => ?_)
  refine q_iast X hK h_3 4 rfl (q_in (by decide +kernel)) dX6_swayed_34 (fun H locs h_6 => ?_)
  clear h_3
  replace h_6 : qW D _ _ (wk_86288d064 cy h2 h3 p3 p4 h4 h3 p5 p6 p7 p8 w1 w2 w3 w4 w5 w6 w7 h4 f1 h0 h1 w0 h1 (upd (u_3.2.1 0) (Int32.toNatClampNeg 8) z_4)) _ _ := h_6
  obtain ⟨F_5, eF_5⟩ : ∃ z, (upd (u_3.2.1 0) (Int32.toNatClampNeg 8) z_4) = z := ⟨_, rfl⟩
  rw [eF_5] at h_6
  clear eF_5
  refine lv_iconst (v := 0) hx hb dX6_swayed_35 (by decide) ?_
  refine lv_istore (lv' := [(5, .int 0), (0, .ref h0), (1, .ref h2), (2, .int p0), (3, .int p1), (4, .int p2)]) hx hb dX6_swayed_36 hl (by decide) rfl (fun ls_7 hl_7 => ?_)
  clear hl
  refine lv_iconst (v := 0) hx hb dX6_swayed_38 (by decide) ?_
  refine lv_istore (lv' := [(6, .int 0), (5, .int 0), (0, .ref h0), (1, .ref h2), (2, .int p0), (3, .int p1), (4, .int p2)]) hx hb dX6_swayed_39 hl_7 (by decide) rfl (fun ls_8 hl_8 => ?_)
  clear hl_7
  refine lv_iload hx hb dX6_swayed_41 (lv_at hl_8 0 rfl) ?_
  refine lv_iconst (v := 3) hx hb dX6_swayed_43 (by decide) ?_
  refine lv_icmp_ge (tgt := 121) hx hb dX6_swayed_44 (by decide) (fun c => absurd c (by decide +kernel)) (fun _ => ?_)
  refine lv_iload hx hb dX6_swayed_47 (lv_at hl_8 0 rfl) ?_
  refine lv_aload_n hx hb dX6_swayed_49 rfl (lv_at hl_8 3 rfl) ?_
  refine q_get X hK h_6 0 rfl rfl wf_7 0 (by decide) rfl wm_2_41 dX6_swayed_50 ?_
  refine q_get X hK h_6 1 rfl rfl wf_3 0 (by decide) rfl wm_1_77 dX6_swayed_53 ?_
  refine q_jn (pc2 := 76) (fun H locs ls st => ∃ v76_9_0 : Int32, ((-2147483648) ≤ (v76_9_0).toInt ∧ (v76_9_0).toInt ≤ 2147483647) ∧ st = [.int v76_9_0] ∧ qW D (va_A (wk_c05efe297 cy h0 h1 w0 h1 f0 h2 h3 p3 p4 h4 h3 p5 p6 p7 p8 w1 w2 w3 w4 w5 w6 w7 h4 f1) sz) s.heap (wk_86288d064 cy h2 h3 p3 p4 h4 h3 p5 p6 p7 p8 w1 w2 w3 w4 w5 w6 w7 h4 f1 h0 h1 w0 h1 F_5) H locs ∧ lv_has ls 9 [(0, .ref h0), (1, .ref h2), (2, .int p0), (3, .int p1), (4, .int p2), (5, .int 0), (6, .int 0)]) (fun H locs ls st hP => ?_) (fun J_76 => ?_)
  · obtain ⟨v76_9_0, hv76_9_0, rfl, h, hl⟩ := hP
    refine lv_istore (lv' := [(7, .int v76_9_0), (0, .ref h0), (1, .ref h2), (2, .int p0), (3, .int p1), (4, .int p2), (5, .int 0), (6, .int 0)]) hx hb dX6_swayed_76 hl (by decide) rfl (fun ls_10 hl_10 => ?_)
    clear hl
    refine lv_aload_n hx hb dX6_swayed_78 rfl (lv_at hl_10 1 rfl) ?_
    refine q_get X hK h 3 rfl rfl wf_6 0 (by decide) rfl wm_1_184 dX6_swayed_79 ?_
    refine lv_iconst (v := 0) hx hb dX6_swayed_82 (by decide) ?_
    refine lv_iload hx hb dX6_swayed_83 (lv_at hl_10 7 rfl) ?_
    refine lv_iadd hx hb dX6_swayed_85 ?_
    refine q_c 0 (by decide +kernel) ?_
    refine q_iald X hK h 4 rfl (q_in (by decide +kernel)) dX6_swayed_86 ?_
    refine q_any (fun z_11 hz_11 => ?_)
    refine lv_iload hx hb dX6_swayed_87 (lv_at hl_10 0 rfl) ?_
    refine lv_iconst (v := 0) hx hb dX6_swayed_89 (by decide) ?_
    refine q_callSi (rest := [.int z_11]) (wr := (wk_86288d064 cy h2 h3 p3 p4 h4 h3 p5 p6 p7 p8 w1 w2 w3 w4 w5 w6 w7 h4 f1 h0 h1 w0 h1 F_5)) X hK hT hA h (fun sz => gJ6_compare_7cf53_7a9f5f9 l D cy v76_9_0 (0 : Int32) (i_rng _) ⟨by decide +kernel, by decide +kernel⟩ sz) wm_4_34 wm_4_36 wm_1_22 hd_J6_compare_7cf53 wm_4_35 ⟨Nat.le_of_ble_eq_true rfl, Nat.le_of_ble_eq_true rfl⟩ hl_10.1 rfl (Nat.le_of_ble_eq_true rfl) dX6_swayed_90 ⟨Nat.le_of_ble_eq_true rfl, Nat.le_of_ble_eq_true rfl⟩ [] [0, 1, 2, 3, 4] rfl rfl (by decide) rfl rfl (fun r_12 u_12 H locs w_12 h_12 => ?_)
    clear h
    obtain ⟨wr_12, _⟩ := w_12
    replace h_12 : qW D _ _ (wk_86288d064 cy h2 h3 p3 p4 h4 h3 p5 p6 p7 p8 w1 w2 w3 w4 w5 w6 w7 h4 f1 h0 h1 w0 h1 F_5) _ _ := h_12
    refine lv_iadd hx hb dX6_swayed_93 ?_
    refine q_any (fun z_13 hz_13 => ?_)
    refine lv_istore (lv' := [(8, .int z_13), (7, .int v76_9_0), (0, .ref h0), (1, .ref h2), (2, .int p0), (3, .int p1), (4, .int p2), (5, .int 0), (6, .int 0)]) hx hb dX6_swayed_94 hl_10 (by decide) rfl (fun ls_14 hl_14 => ?_)
    clear hl_10
    refine lv_bipush (v := 10) hx hb dX6_swayed_96 (by decide) ?_
    refine lv_iload hx hb dX6_swayed_98 (lv_at hl_14 7 rfl) ?_
    refine lv_imul hx hb dX6_swayed_100 ?_
    refine q_c 0 (by decide +kernel) ?_
    refine lv_iconst (v := 0) hx hb dX6_swayed_101 (by decide) ?_
    refine lv_bipush (v := 9) hx hb dX6_swayed_102 (by decide) ?_
    refine lv_iload hx hb dX6_swayed_104 (lv_at hl_14 0 rfl) ?_
    refine va_mmin hx hb (hml.trans hl_14.1.symm) hown (ht _ wm_4_37) (ht _ wm_2_171) (ht _ wm_1_13) (ht _ wm_2_172) (Nat.le_of_ble_eq_true rfl) (Nat.le_of_ble_eq_true rfl) (Nat.le_of_ble_eq_true rfl) (Nat.le_of_ble_eq_true rfl) dX6_swayed_106 ?_
    obtain ⟨z_15, ez_15, hz_15⟩ := e_min (x := 9) (y := z_13) (show (9 : Int32).toInt = 9 by decide) rfl
    refine q_c z_15 ez_15 ?_
    clear ez_15
    refine va_mmax hx hb (hml.trans hl_14.1.symm) hown (ht _ wm_4_38) (ht _ wm_3_23) (ht _ wm_1_13) (ht _ wm_3_24) (Nat.le_of_ble_eq_true rfl) (Nat.le_of_ble_eq_true rfl) (Nat.le_of_ble_eq_true rfl) (Nat.le_of_ble_eq_true rfl) dX6_swayed_109 ?_
    obtain ⟨z_16, ez_16, hz_16⟩ := e_max (x := 0) (y := z_15) (show (0 : Int32).toInt = 0 by decide) rfl
    refine q_c z_16 ez_16 ?_
    clear ez_16
    refine lv_iadd hx hb dX6_swayed_112 ?_
    obtain ⟨z_17, ez_17, hz_17⟩ := e_add (x := 0) (y := z_16) (show (0 : Int32).toInt = 0 by decide) rfl (by omega) (by omega)
    refine q_c z_17 ez_17 ?_
    clear ez_17
    refine lv_istore (lv' := [(5, .int z_17), (8, .int z_13), (7, .int v76_9_0), (0, .ref h0), (1, .ref h2), (2, .int p0), (3, .int p1), (4, .int p2), (6, .int 0)]) hx hb dX6_swayed_113 hl_14 (by decide) rfl (fun ls_18 hl_18 => ?_)
    clear hl_14
    refine lv_iinc (v := 1) (lv' := [(6, .int 1), (5, .int z_17), (8, .int z_13), (7, .int v76_9_0), (0, .ref h0), (1, .ref h2), (2, .int p0), (3, .int p1), (4, .int p2)]) hx hb dX6_swayed_115 hl_18 (k := 8) rfl (by decide +kernel) (by decide) rfl (fun ls_19 hl_19 => ?_)
    clear hl_18
    refine lv_goto (tgt := 41) hx hb dX6_swayed_118 (by decide) ?_
    refine lv_iload hx hb dX6_swayed_41 (lv_at hl_19 0 rfl) ?_
    refine lv_iconst (v := 3) hx hb dX6_swayed_43 (by decide) ?_
    refine lv_icmp_ge (tgt := 121) hx hb dX6_swayed_44 (by decide) (fun c => absurd c (by decide +kernel)) (fun _ => ?_)
    refine lv_iload hx hb dX6_swayed_47 (lv_at hl_19 0 rfl) ?_
    refine lv_aload_n hx hb dX6_swayed_49 rfl (lv_at hl_19 5 rfl) ?_
    refine q_get X hK h_12 0 rfl rfl wf_7 0 (by decide) rfl wm_2_41 dX6_swayed_50 ?_
    refine q_get X hK h_12 1 rfl rfl wf_3 0 (by decide) rfl wm_1_77 dX6_swayed_53 ?_
    refine q_jn (pc2 := 76) (fun H locs ls st => ∃ v76_20_0 : Int32, ((-2147483648) ≤ (v76_20_0).toInt ∧ (v76_20_0).toInt ≤ 2147483647) ∧ st = [.int v76_20_0] ∧ qW D (va_A (wk_c05efe297 cy h0 h1 w0 h1 f0 h2 h3 p3 p4 h4 h3 p5 p6 p7 p8 w1 w2 w3 w4 w5 w6 w7 h4 f1) sz) s.heap (wk_86288d064 cy h2 h3 p3 p4 h4 h3 p5 p6 p7 p8 w1 w2 w3 w4 w5 w6 w7 h4 f1 h0 h1 w0 h1 F_5) H locs ∧ lv_has ls 9 [(0, .ref h0), (1, .ref h2), (2, .int p0), (3, .int p1), (4, .int p2), (5, .int z_17), (6, .int 1), (7, .int v76_9_0), (8, .int z_13)]) (fun H locs ls st hP => ?_) (fun J_76 => ?_)
    · obtain ⟨v76_20_0, hv76_20_0, rfl, h, hl⟩ := hP
      refine lv_istore (lv' := [(7, .int v76_20_0), (0, .ref h0), (1, .ref h2), (2, .int p0), (3, .int p1), (4, .int p2), (5, .int z_17), (6, .int 1), (8, .int z_13)]) hx hb dX6_swayed_76 hl (by decide) rfl (fun ls_21 hl_21 => ?_)
      clear hl
      refine lv_aload_n hx hb dX6_swayed_78 rfl (lv_at hl_21 1 rfl) ?_
      refine q_get X hK h 3 rfl rfl wf_6 0 (by decide) rfl wm_1_184 dX6_swayed_79 ?_
      refine lv_iconst (v := 0) hx hb dX6_swayed_82 (by decide) ?_
      refine lv_iload hx hb dX6_swayed_83 (lv_at hl_21 7 rfl) ?_
      refine lv_iadd hx hb dX6_swayed_85 ?_
      refine q_c 1 (by decide +kernel) ?_
      refine q_iald X hK h 4 rfl (q_in (by decide +kernel)) dX6_swayed_86 ?_
      refine q_any (fun z_22 hz_22 => ?_)
      refine lv_iload hx hb dX6_swayed_87 (lv_at hl_21 0 rfl) ?_
      refine lv_iconst (v := 0) hx hb dX6_swayed_89 (by decide) ?_
      refine q_callSi (rest := [.int z_22]) (wr := (wk_86288d064 cy h2 h3 p3 p4 h4 h3 p5 p6 p7 p8 w1 w2 w3 w4 w5 w6 w7 h4 f1 h0 h1 w0 h1 F_5)) X hK hT hA h (fun sz => gJ6_compare_7cf53_7a9f5f9 l D cy v76_20_0 (0 : Int32) (i_rng _) ⟨by decide +kernel, by decide +kernel⟩ sz) wm_4_34 wm_4_36 wm_1_22 hd_J6_compare_7cf53 wm_4_35 ⟨Nat.le_of_ble_eq_true rfl, Nat.le_of_ble_eq_true rfl⟩ hl_21.1 rfl (Nat.le_of_ble_eq_true rfl) dX6_swayed_90 ⟨Nat.le_of_ble_eq_true rfl, Nat.le_of_ble_eq_true rfl⟩ [] [0, 1, 2, 3, 4] rfl rfl (by decide) rfl rfl (fun r_23 u_23 H locs w_23 h_23 => ?_)
      clear h
      obtain ⟨wr_23, _⟩ := w_23
      replace h_23 : qW D _ _ (wk_86288d064 cy h2 h3 p3 p4 h4 h3 p5 p6 p7 p8 w1 w2 w3 w4 w5 w6 w7 h4 f1 h0 h1 w0 h1 F_5) _ _ := h_23
      refine lv_iadd hx hb dX6_swayed_93 ?_
      refine q_any (fun z_24 hz_24 => ?_)
      refine lv_istore (lv' := [(8, .int z_24), (7, .int v76_20_0), (0, .ref h0), (1, .ref h2), (2, .int p0), (3, .int p1), (4, .int p2), (5, .int z_17), (6, .int 1)]) hx hb dX6_swayed_94 hl_21 (by decide) rfl (fun ls_25 hl_25 => ?_)
      clear hl_21
      refine lv_bipush (v := 10) hx hb dX6_swayed_96 (by decide) ?_
      refine lv_iload hx hb dX6_swayed_98 (lv_at hl_25 7 rfl) ?_
      refine lv_imul hx hb dX6_swayed_100 ?_
      obtain ⟨z_26, ez_26, hz_26⟩ := e_mul (x := 10) (y := z_17) (show (10 : Int32).toInt = 10 by decide) rfl (by omega) (by omega)
      refine q_c z_26 ez_26 ?_
      clear ez_26
      refine lv_iconst (v := 0) hx hb dX6_swayed_101 (by decide) ?_
      refine lv_bipush (v := 9) hx hb dX6_swayed_102 (by decide) ?_
      refine lv_iload hx hb dX6_swayed_104 (lv_at hl_25 0 rfl) ?_
      refine va_mmin hx hb (hml.trans hl_25.1.symm) hown (ht _ wm_4_37) (ht _ wm_2_171) (ht _ wm_1_13) (ht _ wm_2_172) (Nat.le_of_ble_eq_true rfl) (Nat.le_of_ble_eq_true rfl) (Nat.le_of_ble_eq_true rfl) (Nat.le_of_ble_eq_true rfl) dX6_swayed_106 ?_
      obtain ⟨z_27, ez_27, hz_27⟩ := e_min (x := 9) (y := z_24) (show (9 : Int32).toInt = 9 by decide) rfl
      refine q_c z_27 ez_27 ?_
      clear ez_27
      refine va_mmax hx hb (hml.trans hl_25.1.symm) hown (ht _ wm_4_38) (ht _ wm_3_23) (ht _ wm_1_13) (ht _ wm_3_24) (Nat.le_of_ble_eq_true rfl) (Nat.le_of_ble_eq_true rfl) (Nat.le_of_ble_eq_true rfl) (Nat.le_of_ble_eq_true rfl) dX6_swayed_109 ?_
      obtain ⟨z_28, ez_28, hz_28⟩ := e_max (x := 0) (y := z_27) (show (0 : Int32).toInt = 0 by decide) rfl
      refine q_c z_28 ez_28 ?_
      clear ez_28
      refine lv_iadd hx hb dX6_swayed_112 ?_
      obtain ⟨z_29, ez_29, hz_29⟩ := e_add (x := z_26) (y := z_28) rfl rfl (by omega) (by omega)
      refine q_c z_29 ez_29 ?_
      clear ez_29
      refine lv_istore (lv' := [(5, .int z_29), (8, .int z_24), (7, .int v76_20_0), (0, .ref h0), (1, .ref h2), (2, .int p0), (3, .int p1), (4, .int p2), (6, .int 1)]) hx hb dX6_swayed_113 hl_25 (by decide) rfl (fun ls_30 hl_30 => ?_)
      clear hl_25
      refine lv_iinc (v := 2) (lv' := [(6, .int 2), (5, .int z_29), (8, .int z_24), (7, .int v76_20_0), (0, .ref h0), (1, .ref h2), (2, .int p0), (3, .int p1), (4, .int p2)]) hx hb dX6_swayed_115 hl_30 (k := 8) rfl (by decide +kernel) (by decide) rfl (fun ls_31 hl_31 => ?_)
      clear hl_30
      refine lv_goto (tgt := 41) hx hb dX6_swayed_118 (by decide) ?_
      refine lv_iload hx hb dX6_swayed_41 (lv_at hl_31 0 rfl) ?_
      refine lv_iconst (v := 3) hx hb dX6_swayed_43 (by decide) ?_
      refine lv_icmp_ge (tgt := 121) hx hb dX6_swayed_44 (by decide) (fun c => absurd c (by decide +kernel)) (fun _ => ?_)
      refine lv_iload hx hb dX6_swayed_47 (lv_at hl_31 0 rfl) ?_
      refine lv_aload_n hx hb dX6_swayed_49 rfl (lv_at hl_31 5 rfl) ?_
      refine q_get X hK h_23 0 rfl rfl wf_7 0 (by decide) rfl wm_2_41 dX6_swayed_50 ?_
      refine q_get X hK h_23 1 rfl rfl wf_3 0 (by decide) rfl wm_1_77 dX6_swayed_53 ?_
      refine q_jn (pc2 := 76) (fun H locs ls st => ∃ v76_32_0 : Int32, ((-2147483648) ≤ (v76_32_0).toInt ∧ (v76_32_0).toInt ≤ 2147483647) ∧ st = [.int v76_32_0] ∧ qW D (va_A (wk_c05efe297 cy h0 h1 w0 h1 f0 h2 h3 p3 p4 h4 h3 p5 p6 p7 p8 w1 w2 w3 w4 w5 w6 w7 h4 f1) sz) s.heap (wk_86288d064 cy h2 h3 p3 p4 h4 h3 p5 p6 p7 p8 w1 w2 w3 w4 w5 w6 w7 h4 f1 h0 h1 w0 h1 F_5) H locs ∧ lv_has ls 9 [(0, .ref h0), (1, .ref h2), (2, .int p0), (3, .int p1), (4, .int p2), (5, .int z_29), (6, .int 2), (7, .int v76_20_0), (8, .int z_24)]) (fun H locs ls st hP => ?_) (fun J_76 => ?_)
      · obtain ⟨v76_32_0, hv76_32_0, rfl, h, hl⟩ := hP
        refine lv_istore (lv' := [(7, .int v76_32_0), (0, .ref h0), (1, .ref h2), (2, .int p0), (3, .int p1), (4, .int p2), (5, .int z_29), (6, .int 2), (8, .int z_24)]) hx hb dX6_swayed_76 hl (by decide) rfl (fun ls_33 hl_33 => ?_)
        clear hl
        refine lv_aload_n hx hb dX6_swayed_78 rfl (lv_at hl_33 1 rfl) ?_
        refine q_get X hK h 3 rfl rfl wf_6 0 (by decide) rfl wm_1_184 dX6_swayed_79 ?_
        refine lv_iconst (v := 0) hx hb dX6_swayed_82 (by decide) ?_
        refine lv_iload hx hb dX6_swayed_83 (lv_at hl_33 7 rfl) ?_
        refine lv_iadd hx hb dX6_swayed_85 ?_
        refine q_c 2 (by decide +kernel) ?_
        refine q_iald X hK h 4 rfl (q_in (by decide +kernel)) dX6_swayed_86 ?_
        refine q_any (fun z_34 hz_34 => ?_)
        refine lv_iload hx hb dX6_swayed_87 (lv_at hl_33 0 rfl) ?_
        refine lv_iconst (v := 0) hx hb dX6_swayed_89 (by decide) ?_
        refine q_callSi (rest := [.int z_34]) (wr := (wk_86288d064 cy h2 h3 p3 p4 h4 h3 p5 p6 p7 p8 w1 w2 w3 w4 w5 w6 w7 h4 f1 h0 h1 w0 h1 F_5)) X hK hT hA h (fun sz => gJ6_compare_7cf53_7a9f5f9 l D cy v76_32_0 (0 : Int32) (i_rng _) ⟨by decide +kernel, by decide +kernel⟩ sz) wm_4_34 wm_4_36 wm_1_22 hd_J6_compare_7cf53 wm_4_35 ⟨Nat.le_of_ble_eq_true rfl, Nat.le_of_ble_eq_true rfl⟩ hl_33.1 rfl (Nat.le_of_ble_eq_true rfl) dX6_swayed_90 ⟨Nat.le_of_ble_eq_true rfl, Nat.le_of_ble_eq_true rfl⟩ [] [0, 1, 2, 3, 4] rfl rfl (by decide) rfl rfl (fun r_35 u_35 H locs w_35 h_35 => ?_)
        clear h
        obtain ⟨wr_35, _⟩ := w_35
        replace h_35 : qW D _ _ (wk_86288d064 cy h2 h3 p3 p4 h4 h3 p5 p6 p7 p8 w1 w2 w3 w4 w5 w6 w7 h4 f1 h0 h1 w0 h1 F_5) _ _ := h_35
        refine lv_iadd hx hb dX6_swayed_93 ?_
        refine q_any (fun z_36 hz_36 => ?_)
        refine lv_istore (lv' := [(8, .int z_36), (7, .int v76_32_0), (0, .ref h0), (1, .ref h2), (2, .int p0), (3, .int p1), (4, .int p2), (5, .int z_29), (6, .int 2)]) hx hb dX6_swayed_94 hl_33 (by decide) rfl (fun ls_37 hl_37 => ?_)
        clear hl_33
        refine lv_bipush (v := 10) hx hb dX6_swayed_96 (by decide) ?_
        refine lv_iload hx hb dX6_swayed_98 (lv_at hl_37 7 rfl) ?_
        refine lv_imul hx hb dX6_swayed_100 ?_
        obtain ⟨z_38, ez_38, hz_38⟩ := e_mul (x := 10) (y := z_29) (show (10 : Int32).toInt = 10 by decide) rfl (by omega) (by omega)
        refine q_c z_38 ez_38 ?_
        clear ez_38
        refine lv_iconst (v := 0) hx hb dX6_swayed_101 (by decide) ?_
        refine lv_bipush (v := 9) hx hb dX6_swayed_102 (by decide) ?_
        refine lv_iload hx hb dX6_swayed_104 (lv_at hl_37 0 rfl) ?_
        refine va_mmin hx hb (hml.trans hl_37.1.symm) hown (ht _ wm_4_37) (ht _ wm_2_171) (ht _ wm_1_13) (ht _ wm_2_172) (Nat.le_of_ble_eq_true rfl) (Nat.le_of_ble_eq_true rfl) (Nat.le_of_ble_eq_true rfl) (Nat.le_of_ble_eq_true rfl) dX6_swayed_106 ?_
        obtain ⟨z_39, ez_39, hz_39⟩ := e_min (x := 9) (y := z_36) (show (9 : Int32).toInt = 9 by decide) rfl
        refine q_c z_39 ez_39 ?_
        clear ez_39
        refine va_mmax hx hb (hml.trans hl_37.1.symm) hown (ht _ wm_4_38) (ht _ wm_3_23) (ht _ wm_1_13) (ht _ wm_3_24) (Nat.le_of_ble_eq_true rfl) (Nat.le_of_ble_eq_true rfl) (Nat.le_of_ble_eq_true rfl) (Nat.le_of_ble_eq_true rfl) dX6_swayed_109 ?_
        obtain ⟨z_40, ez_40, hz_40⟩ := e_max (x := 0) (y := z_39) (show (0 : Int32).toInt = 0 by decide) rfl
        refine q_c z_40 ez_40 ?_
        clear ez_40
        refine lv_iadd hx hb dX6_swayed_112 ?_
        obtain ⟨z_41, ez_41, hz_41⟩ := e_add (x := z_38) (y := z_40) rfl rfl (by omega) (by omega)
        refine q_c z_41 ez_41 ?_
        clear ez_41
        refine lv_istore (lv' := [(5, .int z_41), (8, .int z_36), (7, .int v76_32_0), (0, .ref h0), (1, .ref h2), (2, .int p0), (3, .int p1), (4, .int p2), (6, .int 2)]) hx hb dX6_swayed_113 hl_37 (by decide) rfl (fun ls_42 hl_42 => ?_)
        clear hl_37
        refine lv_iinc (v := 3) (lv' := [(6, .int 3), (5, .int z_41), (8, .int z_36), (7, .int v76_32_0), (0, .ref h0), (1, .ref h2), (2, .int p0), (3, .int p1), (4, .int p2)]) hx hb dX6_swayed_115 hl_42 (k := 8) rfl (by decide +kernel) (by decide) rfl (fun ls_43 hl_43 => ?_)
        clear hl_42
        refine lv_goto (tgt := 41) hx hb dX6_swayed_118 (by decide) ?_
        refine lv_iload hx hb dX6_swayed_41 (lv_at hl_43 0 rfl) ?_
        refine lv_iconst (v := 3) hx hb dX6_swayed_43 (by decide) ?_
        refine lv_icmp_ge (tgt := 121) hx hb dX6_swayed_44 (by decide) (fun _ => ?_) (fun c => absurd c (by decide +kernel))
        refine lv_iload hx hb dX6_swayed_121 (lv_at hl_43 1 rfl) ?_
        exact q_iret X hr hlk hK h_35 rfl (fun _ => 0, (vcons F_5 (fun _ => (fun _ => 0))), fun _ _ => 0) ⟨⟨by omega, by omega⟩, trivial⟩ [3, 4, 0, 1, 2] rfl rfl dX6_swayed_123 (Nat.le_of_ble_eq_true rfl) (Nat.le_of_ble_eq_true rfl)
      · skip
        refine lv_icmp_ge (tgt := 75) hx hb dX6_swayed_56 (by decide) (fun c_44 => ?_) (fun c_44 => ?_)
        · replace c_44 := i_le (x := p5) (y := 2) rfl (show (2 : Int32).toInt = 2 by decide) c_44
          refine lv_iconst (v := 0) hx hb dX6_swayed_75 (by decide) ?_
          exact J_76 _ _ _ _ ⟨0, ⟨by decide +kernel, by decide +kernel⟩, rfl, h_23, (lv_sub hl_31 [4, 5, 6, 7, 8, 1, 0, 3, 2] rfl)⟩
        · replace c_44 := i_nle (x := p5) (y := 2) rfl (show (2 : Int32).toInt = 2 by decide) c_44
          refine lv_aload_n hx hb dX6_swayed_59 rfl (lv_at hl_31 4 rfl) ?_
          refine lv_aload_n hx hb dX6_swayed_60 rfl (lv_at hl_31 5 rfl) ?_
          refine q_get X hK h_23 0 rfl rfl wf_7 0 (by decide) rfl wm_2_41 dX6_swayed_61 ?_
          refine q_get X hK h_23 1 rfl rfl wf_3 6 (by decide) rfl wm_1_100 dX6_swayed_64 ?_
          refine lv_iload hx hb dX6_swayed_67 (lv_at hl_31 0 rfl) ?_
          refine q_callVi (rest := []) (wr := (wk_d89942814 cy h2 h3 p3 p4 h4 h3 p5 p6 p7 p8 w1 w2 w3 w4 w5 w6 w7 h4 f1)) X hK hT hA h_23 (fun sz => gX6_swayOf_427787b l D cy h0 h1 (2 : Int32) w0 F_5 ⟨by decide +kernel, by decide +kernel⟩ sz) wm_4_30 wm_4_33 wm_1_5 hd_X6_swayOf wm_4_32 wp_2_14 (ci := 6) (q0 := 0) rfl rfl ⟨Nat.le_of_ble_eq_true rfl, Nat.le_of_ble_eq_true rfl⟩ hl_31.1 rfl (Nat.le_of_ble_eq_true rfl) dX6_swayed_69 ⟨Nat.le_of_ble_eq_true rfl, Nat.le_of_ble_eq_true rfl⟩ [3, 4] [0, 1, 2] rfl rfl (by decide) rfl rfl (fun r_45 u_45 H locs w_45 h_45 => ?_)
          clear h_23
          obtain ⟨wr_45, _⟩ := w_45
          replace h_45 : qW D _ _ (wk_86288d064 cy h2 h3 p3 p4 h4 h3 p5 p6 p7 p8 w1 w2 w3 w4 w5 w6 w7 h4 f1 h0 h1 w0 h1 F_5) _ _ := h_45
          refine lv_goto (tgt := 76) hx hb dX6_swayed_72 (by decide) ?_
          exact J_76 _ _ _ _ ⟨r_45, wr_45, rfl, h_45, (lv_sub hl_31 [4, 5, 6, 7, 8, 1, 0, 3, 2] rfl)⟩
    · skip
      refine lv_icmp_ge (tgt := 75) hx hb dX6_swayed_56 (by decide) (fun c_46 => ?_) (fun c_46 => ?_)
      · replace c_46 := i_le (x := p5) (y := 1) rfl (show (1 : Int32).toInt = 1 by decide) c_46
        refine lv_iconst (v := 0) hx hb dX6_swayed_75 (by decide) ?_
        exact J_76 _ _ _ _ ⟨0, ⟨by decide +kernel, by decide +kernel⟩, rfl, h_12, (lv_sub hl_19 [4, 5, 6, 7, 8, 1, 0, 3, 2] rfl)⟩
      · replace c_46 := i_nle (x := p5) (y := 1) rfl (show (1 : Int32).toInt = 1 by decide) c_46
        refine lv_aload_n hx hb dX6_swayed_59 rfl (lv_at hl_19 4 rfl) ?_
        refine lv_aload_n hx hb dX6_swayed_60 rfl (lv_at hl_19 5 rfl) ?_
        refine q_get X hK h_12 0 rfl rfl wf_7 0 (by decide) rfl wm_2_41 dX6_swayed_61 ?_
        refine q_get X hK h_12 1 rfl rfl wf_3 6 (by decide) rfl wm_1_100 dX6_swayed_64 ?_
        refine lv_iload hx hb dX6_swayed_67 (lv_at hl_19 0 rfl) ?_
        refine q_callVi (rest := []) (wr := (wk_d89942814 cy h2 h3 p3 p4 h4 h3 p5 p6 p7 p8 w1 w2 w3 w4 w5 w6 w7 h4 f1)) X hK hT hA h_12 (fun sz => gX6_swayOf_427787b l D cy h0 h1 (1 : Int32) w0 F_5 ⟨by decide +kernel, by decide +kernel⟩ sz) wm_4_30 wm_4_33 wm_1_5 hd_X6_swayOf wm_4_32 wp_2_14 (ci := 6) (q0 := 0) rfl rfl ⟨Nat.le_of_ble_eq_true rfl, Nat.le_of_ble_eq_true rfl⟩ hl_19.1 rfl (Nat.le_of_ble_eq_true rfl) dX6_swayed_69 ⟨Nat.le_of_ble_eq_true rfl, Nat.le_of_ble_eq_true rfl⟩ [3, 4] [0, 1, 2] rfl rfl (by decide) rfl rfl (fun r_47 u_47 H locs w_47 h_47 => ?_)
        clear h_12
        obtain ⟨wr_47, _⟩ := w_47
        replace h_47 : qW D _ _ (wk_86288d064 cy h2 h3 p3 p4 h4 h3 p5 p6 p7 p8 w1 w2 w3 w4 w5 w6 w7 h4 f1 h0 h1 w0 h1 F_5) _ _ := h_47
        refine lv_goto (tgt := 76) hx hb dX6_swayed_72 (by decide) ?_
        exact J_76 _ _ _ _ ⟨r_47, wr_47, rfl, h_47, (lv_sub hl_19 [4, 5, 6, 7, 8, 1, 0, 3, 2] rfl)⟩
  · skip
    refine lv_icmp_ge (tgt := 75) hx hb dX6_swayed_56 (by decide) (fun c_48 => ?_) (fun c_48 => ?_)
    · replace c_48 := i_le (x := p5) (y := 0) rfl (show (0 : Int32).toInt = 0 by decide) c_48
      exfalso
      omega
    · replace c_48 := i_nle (x := p5) (y := 0) rfl (show (0 : Int32).toInt = 0 by decide) c_48
      refine lv_aload_n hx hb dX6_swayed_59 rfl (lv_at hl_8 2 rfl) ?_
      refine lv_aload_n hx hb dX6_swayed_60 rfl (lv_at hl_8 3 rfl) ?_
      refine q_get X hK h_6 0 rfl rfl wf_7 0 (by decide) rfl wm_2_41 dX6_swayed_61 ?_
      refine q_get X hK h_6 1 rfl rfl wf_3 6 (by decide) rfl wm_1_100 dX6_swayed_64 ?_
      refine lv_iload hx hb dX6_swayed_67 (lv_at hl_8 0 rfl) ?_
      refine q_callVi (rest := []) (wr := (wk_d89942814 cy h2 h3 p3 p4 h4 h3 p5 p6 p7 p8 w1 w2 w3 w4 w5 w6 w7 h4 f1)) X hK hT hA h_6 (fun sz => gX6_swayOf_427787b l D cy h0 h1 (0 : Int32) w0 F_5 ⟨by decide +kernel, by decide +kernel⟩ sz) wm_4_30 wm_4_33 wm_1_5 hd_X6_swayOf wm_4_32 wp_2_14 (ci := 6) (q0 := 0) rfl rfl ⟨Nat.le_of_ble_eq_true rfl, Nat.le_of_ble_eq_true rfl⟩ hl_8.1 rfl (Nat.le_of_ble_eq_true rfl) dX6_swayed_69 ⟨Nat.le_of_ble_eq_true rfl, Nat.le_of_ble_eq_true rfl⟩ [3, 4] [0, 1, 2] rfl rfl (by decide) rfl rfl (fun r_49 u_49 H locs w_49 h_49 => ?_)
      clear h_6
      obtain ⟨wr_49, _⟩ := w_49
      replace h_49 : qW D _ _ (wk_86288d064 cy h2 h3 p3 p4 h4 h3 p5 p6 p7 p8 w1 w2 w3 w4 w5 w6 w7 h4 f1 h0 h1 w0 h1 F_5) _ _ := h_49
      refine lv_goto (tgt := 76) hx hb dX6_swayed_72 (by decide) ?_
      exact J_76 _ _ _ _ ⟨r_49, wr_49, rfl, h_49, (lv_sub hl_8 [2, 3, 4, 5, 6, 1, 0] rfl)⟩
set_option maxHeartbeats 4000000 in
set_option maxRecDepth 100000 in
theorem gX10_lastViews_9e79eb5 (l : Launch) (D : va_G) (cy : Nat → ClassId) (h0 : Nat) (h1 : Nat) (h2 : Nat) (h3 : Nat) (h4 : Nat) (h5 : Nat) (h6 : Nat) (h7 : Nat) (h8 : Nat) (h9 : Nat) (h10 : Nat) (p0 : Int32) (p1 : Int32) (p2 : Int32) (p3 : Int32) (w0 : Value) (f0 : Nat → Int32) (f1 : Nat → Int32) (f2 : Nat → Int32) (p4 : Int32) (p5 : Int32) (p6 : Int32) (p7 : Int32) (p8 : Int32) (p9 : Int32) (w1 : Value) (w2 : Value) (w3 : Value) (w4 : Value) (f3 : Nat → Int32) (f4 : Nat → Int32) (f5 : Nat → Int32) (w5 : Value) (f6 : Nat → Int32) (hp0 : 0 ≤ (p0).toInt ∧ (p0).toInt ≤ 9) (hp1 : 0 ≤ (p1).toInt ∧ (p1).toInt ≤ 9) (hp2 : (-2147483648) ≤ (p2).toInt ∧ (p2).toInt ≤ 2147483647) (hp3 : (-1) ≤ (p3).toInt ∧ (p3).toInt ≤ 1000) (hp4 : (-2147483648) ≤ (p4).toInt ∧ (p4).toInt ≤ 2147483647) (hp5 : (-2147483648) ≤ (p5).toInt ∧ (p5).toInt ≤ 2147483647) (hp6 : 1 ≤ (p6).toInt ∧ (p6).toInt ≤ 3) (hp7 : 0 ≤ (p7).toInt ∧ (p7).toInt ≤ 10) (hp8 : (-2147483648) ≤ (p8).toInt ∧ (p8).toInt ≤ 2147483647) (hp9 : (-2147483648) ≤ (p9).toInt ∧ (p9).toInt ≤ 2147483647) (rf0 : RG f0 1000 0 999) (rf1 : RG f1 1000 (-1) 999) (rf5 : RG f5 10 0 999) (sz : Nat) : MI l yX10_lastViews cX10_lastViews 10 .int { frames := 2, cells := 0, slots := 0, locals := 51 } [.ref h0, .ref h4, .ref h9] D cy (wk_7461af695 cy h0 p0 p1 p2 p3 w0 h1 h2 h3 h1 f0 h2 f1 h3 f2 h4 h5 p4 p5 h8 h5 p6 p7 p8 p9 w1 w2 h6 h7 w3 w4 h6 f3 h7 f4 h8 f5 h9 h10 w5 h10 f6) sz (fun r u => ((-1) ≤ r.toInt ∧ r.toInt ≤ 999) ∧ RG (u.2.1 0) 1000 0 999 ∧ RG (u.2.1 3) 1000 (-1) 999 ∧ (CH (u.2.1 3)) ∧ (((r : Int32).toInt = -1 ∨ ((u.2.1 3) (r : Int32).toNatClampNeg).toInt ≠ -1)) ∧ True) (fun u => (wk_7461af695 cy h0 p0 p1 p2 p3 w0 h1 h2 h3 h1 (u.2.1 0) h2 (u.2.1 3) h3 (u.2.1 1) h4 h5 p4 p5 h8 h5 p6 p7 p8 p9 w1 w2 h6 h7 w3 w4 h6 f3 h7 f4 h8 f5 h9 h10 w5 h10 (u.2.1 2))) 0 0 := by
  refine q_ent (own := RX10) (by decide) rfl (Nat.le_of_ble_eq_true rfl) (fun p e s m below meth c ls X hr hlk hnm hK hT h hA hl => ?_)
  obtain ⟨hx, hb, hml, hown, ht⟩ := id X
  replace hl : lv_has ls 10 [(0, .ref h0), (1, .ref h4), (2, .ref h9)] := hl
  refine lv_aload_n hx hb dX10_lastViews_0 rfl (lv_at hl 1 rfl) ?_
  refine q_callVi (rest := []) (wr := [(h0, .inr (10, [.int p0, .int p1, .int p2, .int p3, w0, .ref h1, .ref h2, .ref h3])), (h1, .inl (cy 1, 1000, .inl f0)), (h2, .inl (cy 1, 1000, .inl f1)), (h3, .inl (cy 1, 1000, .inl f2)), (h8, .inl (cy 1, 10, .inl f5)), (h9, .inr (6, [.ref h10, w5])), (h10, .inl (cy 1, 11, .inl f6))]) X hK hT hA h (fun sz => gX7_inTown_f15b0f4 l D cy h4 h5 h6 h7 p4 p5 (.ref h8) p6 p7 p8 p9 Value.null w1 w2 w3 w4 f3 f4 (i_rng _) (i_rng _) hp6 hp7 (i_rng _) (i_rng _) sz) wm_5_8 wm_3_182 wm_1_9 hd_X7_inTown wm_3_180 wm_3_181 (ci := 7) (q0 := 0) rfl rfl ⟨Nat.le_of_ble_eq_true rfl, Nat.le_of_ble_eq_true rfl⟩ hl.1 rfl (Nat.le_of_ble_eq_true rfl) dX10_lastViews_1 ⟨Nat.le_of_ble_eq_true rfl, Nat.le_of_ble_eq_true rfl⟩ [4, 5, 6, 7] [0, 1, 2, 3, 8, 9, 10] rfl rfl (by decide) rfl rfl (fun r_1 u_1 H locs w_1 h_1 => ?_)
  clear h
  obtain ⟨wr_1, _⟩ := w_1
  replace h_1 : qW D _ _ [(h0, .inr (10, [.int p0, .int p1, .int p2, .int p3, w0, .ref h1, .ref h2, .ref h3])), (h1, .inl (cy 1, 1000, .inl f0)), (h2, .inl (cy 1, 1000, .inl f1)), (h3, .inl (cy 1, 1000, .inl f2)), (h8, .inl (cy 1, 10, .inl f5)), (h9, .inr (6, [.ref h10, w5])), (h10, .inl (cy 1, 11, .inl f6)), (h4, .inr (7, [.ref h5, .int p4, .int p5, .ref h8])), (h5, .inr (3, [.int p6, .int p7, .int p8, .int p9, .null, w1, .null, w2, .ref h6, .ref h7, w3, w4])), (h6, .inl (cy 1, 10, .inl f3)), (h7, .inl (cy 1, 10, .inl f4))] _ _ := h_1
  refine lv_iconst (v := 1) hx hb dX10_lastViews_4 (by decide) ?_
  refine lv_aload_n hx hb dX10_lastViews_5 rfl (lv_at hl 0 rfl) ?_
  refine q_get X hK h_1 0 rfl rfl wf_10 0 (by decide) rfl wm_1_219 dX10_lastViews_6 ?_
  refine lv_ishl hx hb dX10_lastViews_9 ?_
  obtain ⟨z_2, ez_2, hz_2⟩ := e_shlk (p := p0) 9 (by decide) rfl (by omega) (by omega)
  refine q_c z_2 ez_2 ?_
  clear ez_2
  refine lv_iconst (v := (-1)) hx hb dX10_lastViews_10 (by decide) ?_
  refine lv_ixor hx hb dX10_lastViews_11 ?_
  refine q_any (fun z_3 hz_3 => ?_)
  refine lv_iand hx hb dX10_lastViews_12 ?_
  obtain ⟨z_4, ez_4, hz_4⟩ := e_and1 (x := r_1) (y := z_3) rfl (by omega)
  refine q_c z_4 ez_4 ?_
  clear ez_4
  refine lv_istore_n (lv' := [(3, .int z_4), (0, .ref h0), (1, .ref h4), (2, .ref h9)]) hx hb dX10_lastViews_13 rfl hl (by decide) rfl (fun ls_5 hl_5 => ?_)
  clear hl
  refine lv_aload_n hx hb dX10_lastViews_14 rfl (lv_at hl_5 2 rfl) ?_
  refine q_get X hK h_1 7 rfl rfl wf_7 3 (by decide) rfl wm_2_51 dX10_lastViews_15 ?_
  refine lv_aload_n hx hb dX10_lastViews_18 rfl (lv_at hl_5 1 rfl) ?_
  refine q_get X hK h_1 0 rfl rfl wf_10 0 (by decide) rfl wm_1_219 dX10_lastViews_19 ?_
  refine q_iald X hK h_1 4 rfl (i_in rfl (by omega) (by omega)) dX10_lastViews_22 ?_
  obtain ⟨z_6, ez_6, hz_6⟩ := rg_get rf5 (x := p0) rfl (by omega) (by omega)
  refine q_c z_6 ez_6 ?_
  clear ez_6
  refine lv_istore (lv' := [(4, .int z_6), (3, .int z_4), (0, .ref h0), (1, .ref h4), (2, .ref h9)]) hx hb dX10_lastViews_23 hl_5 (by decide) rfl (fun ls_7 hl_7 => ?_)
  clear hl_5
  refine lv_aload_n hx hb dX10_lastViews_25 rfl (lv_at hl_7 2 rfl) ?_
  refine q_get X hK h_1 0 rfl rfl wf_10 6 (by decide) rfl wm_1_227 dX10_lastViews_26 ?_
  refine lv_iconst (v := (-1)) hx hb dX10_lastViews_29 (by decide) ?_
  refine q_callSv (rest := []) (wr := [(h0, .inr (10, [.int p0, .int p1, .int p2, .int p3, w0, .ref h1, .ref h2, .ref h3])), (h1, .inl (cy 1, 1000, .inl f0)), (h3, .inl (cy 1, 1000, .inl f2)), (h8, .inl (cy 1, 10, .inl f5)), (h9, .inr (6, [.ref h10, w5])), (h10, .inl (cy 1, 11, .inl f6)), (h4, .inr (7, [.ref h5, .int p4, .int p5, .ref h8])), (h5, .inr (3, [.int p6, .int p7, .int p8, .int p9, .null, w1, .null, w2, .ref h6, .ref h7, w3, w4])), (h6, .inl (cy 1, 10, .inl f3)), (h7, .inl (cy 1, 10, .inl f4))]) X hK hT hA h_1 (fun sz => gJ7_fill_53178_5ed5797 l D cy h2 ((-1) : Int32) f1 ⟨by decide +kernel, by decide +kernel⟩ (rg_wide rf1 (by decide) (by decide)) sz) wm_5_13 wm_4_107 wm_1_20 hd_J7_fill_53178 wm_4_106 ⟨Nat.le_of_ble_eq_true rfl, Nat.le_of_ble_eq_true rfl⟩ hl_7.1 rfl (Nat.le_of_ble_eq_true rfl) dX10_lastViews_30 ⟨Nat.le_of_ble_eq_true rfl, Nat.le_of_ble_eq_true rfl⟩ [2] [0, 1, 3, 4, 5, 6, 7, 8, 9, 10] rfl rfl (by decide) rfl rfl (fun u_8 H locs w_8 h_8 => ?_)
  clear h_1
  obtain ⟨w8_0, y8_0, _⟩ := w_8
  replace h_8 : qW D _ _ (wk_c804accc5 cy h0 p0 p1 p2 p3 w0 h1 h2 h3 h1 f0 h3 f2 h8 f5 h9 h10 w5 h10 f6 h4 h5 p4 p5 h8 h5 p6 p7 p8 p9 w1 w2 h6 h7 w3 w4 h6 f3 h7 f4 h2 (u_8.2.1 0)) _ _ := h_8
  refine lv_aload_n hx hb dX10_lastViews_33 rfl (lv_at hl_7 2 rfl) ?_
  refine q_get X hK h_8 0 rfl rfl wf_10 6 (by decide) rfl wm_1_227 dX10_lastViews_34 ?_
  refine lv_iload hx hb dX10_lastViews_37 (lv_at hl_7 0 rfl) ?_
  refine lv_iload hx hb dX10_lastViews_39 (lv_at hl_7 0 rfl) ?_
  refine q_iast X hK h_8 10 rfl (i_in rfl (by omega) (by omega)) dX10_lastViews_41 (fun H locs h_10 => ?_)
  clear h_8
  replace h_10 : qW D _ _ (wk_c804accc5 cy h0 p0 p1 p2 p3 w0 h1 h2 h3 h1 f0 h3 f2 h8 f5 h9 h10 w5 h10 f6 h4 h5 p4 p5 h8 h5 p6 p7 p8 p9 w1 w2 h6 h7 w3 w4 h6 f3 h7 f4 h2 (upd (u_8.2.1 0) (Int32.toNatClampNeg z_6) z_6)) _ _ := h_10
  obtain ⟨F_9, eF_9, rF_9⟩ := rg_upd w8_0 (Int32.toNatClampNeg z_6) (x := z_6) rfl (by omega) (by omega)
  rw [eF_9] at h_10
  refine lv_aload_n hx hb dX10_lastViews_42 rfl (lv_at hl_7 2 rfl) ?_
  refine q_get X hK h_10 0 rfl rfl wf_10 5 (by decide) rfl wm_1_226 dX10_lastViews_43 ?_
  refine lv_iconst (v := 0) hx hb dX10_lastViews_46 (by decide) ?_
  refine lv_iload hx hb dX10_lastViews_47 (lv_at hl_7 0 rfl) ?_
  refine q_iast X hK h_10 1 rfl (q_in (by decide +kernel)) dX10_lastViews_49 (fun H locs h_12 => ?_)
  clear h_10
  replace h_12 : qW D _ _ (wk_c804accc5 cy h0 p0 p1 p2 p3 w0 h1 h2 h3 h1 (upd f0 (Int32.toNatClampNeg 0) z_6) h3 f2 h8 f5 h9 h10 w5 h10 f6 h4 h5 p4 p5 h8 h5 p6 p7 p8 p9 w1 w2 h6 h7 w3 w4 h6 f3 h7 f4 h2 F_9) _ _ := h_12
  obtain ⟨F_11, eF_11, rF_11⟩ := rg_upd rf0 (Int32.toNatClampNeg 0) (x := z_6) rfl (by omega) (by omega)
  rw [eF_11] at h_12
  have cq_a := cq_0 (rg_fll y8_0 (show (-1 : Int32).toInt = -1 by decide)) (by omega) (by omega) eF_9 eF_11 (by decide)
  refine lv_iconst (v := 1) hx hb dX10_lastViews_50 (by decide) ?_
  refine lv_istore (lv' := [(5, .int 1), (4, .int z_6), (3, .int z_4), (0, .ref h0), (1, .ref h4), (2, .ref h9)]) hx hb dX10_lastViews_51 hl_7 (by decide) rfl (fun ls_13 hl_13 => ?_)
  clear hl_7
  refine lv_iconst (v := 0) hx hb dX10_lastViews_53 (by decide) ?_
  refine lv_istore (lv' := [(6, .int 0), (5, .int 1), (4, .int z_6), (3, .int z_4), (0, .ref h0), (1, .ref h4), (2, .ref h9)]) hx hb dX10_lastViews_54 hl_13 (by decide) rfl (fun ls_14 hl_14 => ?_)
  clear hl_13
  refine q_wl (fun (q : Int32 × Int32) H locs ls => match q with | (v56_15_0, v56_15_1) => ∃ v56_15_2 : Nat → Int32, ∃ v56_15_3 : Nat → Int32, ∃ v56_15_4 : Nat → Int32, ∃ v56_15_5 : Nat → Int32, (0 ≤ (v56_15_0).toInt ∧ (v56_15_0).toInt ≤ 1000) ∧ (1 ≤ (v56_15_1).toInt ∧ (v56_15_1).toInt ≤ 1000) ∧ RG v56_15_2 1000 0 999 ∧ RG v56_15_5 1000 (-1) 999 ∧ (CQ v56_15_5 v56_15_2 (v56_15_1 : Int32).toInt) ∧ qW D (va_A (wk_7461af695 cy h0 p0 p1 p2 p3 w0 h1 h2 h3 h1 f0 h2 f1 h3 f2 h4 h5 p4 p5 h8 h5 p6 p7 p8 p9 w1 w2 h6 h7 w3 w4 h6 f3 h7 f4 h8 f5 h9 h10 w5 h10 f6) sz) s.heap (wk_c804accc5 cy h0 p0 p1 p2 p3 w0 h1 h2 h3 h1 v56_15_2 h3 v56_15_3 h8 f5 h9 h10 w5 h10 v56_15_4 h4 h5 p4 p5 h8 h5 p6 p7 p8 p9 w1 w2 h6 h7 w3 w4 h6 f3 h7 f4 h2 v56_15_5) H locs ∧ lv_has ls 10 [(0, .ref h0), (1, .ref h4), (2, .ref h9), (3, .int z_4), (4, .int z_6), (5, .int v56_15_1), (6, .int v56_15_0)]) (fun (q : Int32 × Int32) => match q with | (v56_15_0, v56_15_1) => (1001 - (v56_15_0).toInt).toNat) (fun q_56 ih_56 H locs ls hP => ?_) (0, 1) ⟨F_11, f2, f6, F_9, ⟨by decide +kernel, by decide +kernel⟩, ⟨by decide +kernel, by decide +kernel⟩, (rg_wide rF_11 (by decide) (by decide)), (rg_wide rF_9 (by decide) (by decide)), (cq_n cq_a (by have q0 : (1 : Int32).toInt = 1 := (by decide); omega)), h_12, (lv_sub hl_14 [4, 5, 6, 3, 2, 1, 0] rfl)⟩
  obtain ⟨v56_15_0, v56_15_1⟩ := q_56
  obtain ⟨v56_15_2, v56_15_3, v56_15_4, v56_15_5, hv56_15_0, hv56_15_1, rv56_15_2, rv56_15_5, x16_0, h, hl⟩ := hP
  refine lv_iload hx hb dX10_lastViews_56 (lv_at hl 6 rfl) ?_
  refine lv_iload hx hb dX10_lastViews_58 (lv_at hl 5 rfl) ?_
  refine lv_icmp_ge (tgt := 203) hx hb dX10_lastViews_60 (by decide) (fun c_17 => ?_) (fun c_17 => ?_)
  · replace c_17 := i_le (x := v56_15_1) (y := v56_15_0) rfl rfl c_17
    refine lv_iconst (v := (-1)) hx hb dX10_lastViews_203 (by decide) ?_
    exact q_iret X hr hlk hK h rfl (fun _ => 0, (vcons v56_15_2 (vcons v56_15_3 (vcons v56_15_4 (vcons v56_15_5 (fun _ => (fun _ => 0)))))), fun _ _ => 0) ⟨⟨by decide +kernel, by decide +kernel⟩, (rg_wide rv56_15_2 (by decide) (by decide)), (rg_wide rv56_15_5 (by decide) (by decide)), (show CH v56_15_5 from x16_0.1), (show (((-1) : Int32).toInt = -1 ∨ (v56_15_5 ((-1) : Int32).toNatClampNeg).toInt ≠ -1) from Or.inl (by decide)), trivial⟩ [0, 1, 10, 2, 6, 7, 8, 9, 3, 4, 5] rfl rfl dX10_lastViews_204 (Nat.le_of_ble_eq_true rfl) (Nat.le_of_ble_eq_true rfl)
  · replace c_17 := i_nle (x := v56_15_1) (y := v56_15_0) rfl rfl c_17
    refine lv_aload_n hx hb dX10_lastViews_63 rfl (lv_at hl 0 rfl) ?_
    refine q_get X hK h 0 rfl rfl wf_10 5 (by decide) rfl wm_1_226 dX10_lastViews_64 ?_
    refine lv_iload hx hb dX10_lastViews_67 (lv_at hl 6 rfl) ?_
    refine q_iald X hK h 1 rfl (i_in rfl (by omega) (by omega)) dX10_lastViews_69 ?_
    obtain ⟨z_18, ez_18, hz_18⟩ := rg_get rv56_15_2 (x := v56_15_0) rfl (by omega) (by omega)
    refine q_c z_18 ez_18 ?_
    have fv_19 := cq_view x16_0 (by omega) (by omega) ez_18
    refine lv_istore (lv' := [(7, .int z_18), (0, .ref h0), (1, .ref h4), (2, .ref h9), (3, .int z_4), (4, .int z_6), (5, .int v56_15_1), (6, .int v56_15_0)]) hx hb dX10_lastViews_70 hl (by decide) rfl (fun ls_20 hl_20 => ?_)
    clear hl
    refine lv_iconst (v := 0) hx hb dX10_lastViews_72 (by decide) ?_
    refine lv_istore (lv' := [(8, .int 0), (7, .int z_18), (0, .ref h0), (1, .ref h4), (2, .ref h9), (3, .int z_4), (4, .int z_6), (5, .int v56_15_1), (6, .int v56_15_0)]) hx hb dX10_lastViews_73 hl_20 (by decide) rfl (fun ls_21 hl_21 => ?_)
    clear hl_20
    refine q_wl (fun (q : Int32 × Int32) H locs ls => match q with | (v75_22_0, v75_22_1) => ∃ v75_22_2 : Nat → Int32, ∃ v75_22_3 : Nat → Int32, ∃ v75_22_4 : Nat → Int32, ∃ v75_22_5 : Nat → Int32, (0 ≤ (v75_22_0).toInt ∧ (v75_22_0).toInt ≤ 10) ∧ (1 ≤ (v75_22_1).toInt ∧ (v75_22_1).toInt ≤ 1000) ∧ RG v75_22_2 1000 0 999 ∧ RG v75_22_5 1000 (-1) 999 ∧ (CQ v75_22_5 v75_22_2 (v75_22_1 : Int32).toInt) ∧ ((v75_22_5 (z_18 : Int32).toNatClampNeg).toInt ≠ -1) ∧ qW D (va_A (wk_7461af695 cy h0 p0 p1 p2 p3 w0 h1 h2 h3 h1 f0 h2 f1 h3 f2 h4 h5 p4 p5 h8 h5 p6 p7 p8 p9 w1 w2 h6 h7 w3 w4 h6 f3 h7 f4 h8 f5 h9 h10 w5 h10 f6) sz) s.heap (wk_c804accc5 cy h0 p0 p1 p2 p3 w0 h1 h2 h3 h1 v75_22_2 h3 v75_22_3 h8 f5 h9 h10 w5 h10 v75_22_4 h4 h5 p4 p5 h8 h5 p6 p7 p8 p9 w1 w2 h6 h7 w3 w4 h6 f3 h7 f4 h2 v75_22_5) H locs ∧ lv_has ls 10 [(0, .ref h0), (1, .ref h4), (2, .ref h9), (3, .int z_4), (4, .int z_6), (5, .int v75_22_1), (6, .int v56_15_0), (7, .int z_18), (8, .int v75_22_0)]) (fun (q : Int32 × Int32) => match q with | (v75_22_0, v75_22_1) => (11 - (v75_22_0).toInt).toNat) (fun q_75 ih_75 H locs ls hP => ?_) (0, v56_15_1) ⟨v56_15_2, v56_15_3, v56_15_4, v56_15_5, ⟨by decide +kernel, by decide +kernel⟩, hv56_15_1, (rg_wide rv56_15_2 (by decide) (by decide)), (rg_wide rv56_15_5 (by decide) (by decide)), (cq_n x16_0 (by omega)), (fv_19), h, (lv_sub hl_21 [2, 3, 4, 5, 6, 7, 8, 1, 0] rfl)⟩
    obtain ⟨v75_22_0, v75_22_1⟩ := q_75
    obtain ⟨v75_22_2, v75_22_3, v75_22_4, v75_22_5, hv75_22_0, hv75_22_1, rv75_22_2, rv75_22_5, x23_0, x24_1, h, hl⟩ := hP
    refine lv_iload hx hb dX10_lastViews_75 (lv_at hl 8 rfl) ?_
    refine lv_aload_n hx hb dX10_lastViews_77 rfl (lv_at hl 1 rfl) ?_
    refine q_get X hK h 6 rfl rfl wf_7 0 (by decide) rfl wm_2_40 dX10_lastViews_78 ?_
    refine q_get X hK h 7 rfl rfl wf_3 1 (by decide) rfl wm_1_82 dX10_lastViews_81 ?_
    refine lv_icmp_ge (tgt := 197) hx hb dX10_lastViews_84 (by decide) (fun c_25 => ?_) (fun c_25 => ?_)
    · replace c_25 := i_le (x := p7) (y := v75_22_0) rfl rfl c_25
      obtain ⟨z_26, ez_26, hz_26⟩ := e_add (x := v56_15_0) (y := Int32.ofInt 1) rfl (b := 1) (by decide) (by omega) (by omega)
      refine lv_iinc (v := z_26) (lv' := [(6, .int z_26), (0, .ref h0), (1, .ref h4), (2, .ref h9), (3, .int z_4), (4, .int z_6), (5, .int v75_22_1), (7, .int z_18), (8, .int v75_22_0)]) hx hb dX10_lastViews_197 hl (k := 6) rfl ez_26 (by decide) rfl (fun ls_26 hl_26 => ?_)
      clear hl
      refine lv_goto (tgt := 56) hx hb dX10_lastViews_200 (by decide) ?_
      exact ih_56 (z_26, v75_22_1) (by show (1001 - (z_26).toInt).toNat < (1001 - (v56_15_0).toInt).toNat; omega) _ _ _ ⟨v75_22_2, v75_22_3, v75_22_4, v75_22_5, ⟨by omega, by omega⟩, hv75_22_1, (rg_wide rv75_22_2 (by decide) (by decide)), (rg_wide rv75_22_5 (by decide) (by decide)), (cq_n x23_0 (by omega)), h, (lv_sub hl_26 [1, 2, 3, 4, 5, 6, 0] rfl)⟩
    · replace c_25 := i_nle (x := p7) (y := v75_22_0) rfl rfl c_25
      refine lv_iload_n hx hb dX10_lastViews_87 rfl (lv_at hl 3 rfl) ?_
      refine lv_iload hx hb dX10_lastViews_88 (lv_at hl 8 rfl) ?_
      refine lv_ishr hx hb dX10_lastViews_90 ?_
      obtain ⟨z_27, ez_27, hz_27⟩ := e_shr (x := z_4) v75_22_0 rfl (by omega)
      refine q_c z_27 ez_27 ?_
      clear ez_27
      refine lv_iconst (v := 1) hx hb dX10_lastViews_91 (by decide) ?_
      refine lv_iand hx hb dX10_lastViews_92 ?_
      obtain ⟨z_28, ez_28, hz_28⟩ := e_and2 (x := z_27) (y := 1) (show (1 : Int32).toInt = 1 by decide) (by omega)
      refine q_c z_28 ez_28 ?_
      clear ez_28
      refine lv_iconst (v := 1) hx hb dX10_lastViews_93 (by decide) ?_
      refine q_jn (pc2 := 115) (fun H locs ls st => ∃ v115_29_1 : Int32, ∃ v115_29_0 : Nat → Int32, (0 ≤ (v115_29_1).toInt ∧ (v115_29_1).toInt ≤ 999) ∧ st = [.int v115_29_1] ∧ qW D (va_A (wk_7461af695 cy h0 p0 p1 p2 p3 w0 h1 h2 h3 h1 f0 h2 f1 h3 f2 h4 h5 p4 p5 h8 h5 p6 p7 p8 p9 w1 w2 h6 h7 w3 w4 h6 f3 h7 f4 h8 f5 h9 h10 w5 h10 f6) sz) s.heap (wk_c804accc5 cy h0 p0 p1 p2 p3 w0 h1 h2 h3 h1 v75_22_2 h3 v75_22_3 h8 f5 h9 h10 w5 h10 v115_29_0 h4 h5 p4 p5 h8 h5 p6 p7 p8 p9 w1 w2 h6 h7 w3 w4 h6 f3 h7 f4 h2 v75_22_5) H locs ∧ lv_has ls 10 [(0, .ref h0), (1, .ref h4), (2, .ref h9), (3, .int z_4), (4, .int z_6), (5, .int v75_22_1), (6, .int v56_15_0), (7, .int z_18), (8, .int v75_22_0)]) (fun H locs ls st hP => ?_) (fun J_115 => ?_)
      · obtain ⟨v115_29_1, v115_29_0, hv115_29_1, rfl, h, hl⟩ := hP
        refine lv_istore (lv' := [(9, .int v115_29_1), (0, .ref h0), (1, .ref h4), (2, .ref h9), (3, .int z_4), (4, .int z_6), (5, .int v75_22_1), (6, .int v56_15_0), (7, .int z_18), (8, .int v75_22_0)]) hx hb dX10_lastViews_115 hl (by decide) rfl (fun ls_30 hl_30 => ?_)
        clear hl
        refine lv_aload_n hx hb dX10_lastViews_117 rfl (lv_at hl_30 1 rfl) ?_
        refine q_get X hK h 0 rfl rfl wf_10 6 (by decide) rfl wm_1_227 dX10_lastViews_118 ?_
        refine lv_iload hx hb dX10_lastViews_121 (lv_at hl_30 0 rfl) ?_
        refine q_iald X hK h 10 rfl (i_in rfl (by omega) (by omega)) dX10_lastViews_123 ?_
        obtain ⟨z_31, ez_31, hz_31⟩ := rg_get rv75_22_5 (x := v115_29_1) rfl (by omega) (by omega)
        refine q_c z_31 ez_31 ?_
        refine lv_iconst (v := (-1)) hx hb dX10_lastViews_124 (by decide) ?_
        refine q_jn (pc2 := 191) (fun H locs ls st => ∃ v191_32_0 : Int32, ∃ v191_32_1 : Nat → Int32, ∃ v191_32_2 : Nat → Int32, ∃ v191_32_3 : Nat → Int32, (1 ≤ (v191_32_0).toInt ∧ (v191_32_0).toInt ≤ 1000) ∧ RG v191_32_1 1000 0 999 ∧ RG v191_32_3 1000 (-1) 999 ∧ (CQ v191_32_3 v191_32_1 (v191_32_0 : Int32).toInt) ∧ ((v191_32_3 (z_18 : Int32).toNatClampNeg).toInt ≠ -1) ∧ st = [] ∧ qW D (va_A (wk_7461af695 cy h0 p0 p1 p2 p3 w0 h1 h2 h3 h1 f0 h2 f1 h3 f2 h4 h5 p4 p5 h8 h5 p6 p7 p8 p9 w1 w2 h6 h7 w3 w4 h6 f3 h7 f4 h8 f5 h9 h10 w5 h10 f6) sz) s.heap (wk_c804accc5 cy h0 p0 p1 p2 p3 w0 h1 h2 h3 h1 v191_32_1 h3 v191_32_2 h8 f5 h9 h10 w5 h10 v115_29_0 h4 h5 p4 p5 h8 h5 p6 p7 p8 p9 w1 w2 h6 h7 w3 w4 h6 f3 h7 f4 h2 v191_32_3) H locs ∧ lv_has ls 10 [(0, .ref h0), (1, .ref h4), (2, .ref h9), (3, .int z_4), (4, .int z_6), (5, .int v191_32_0), (6, .int v56_15_0), (7, .int z_18), (8, .int v75_22_0), (9, .int v115_29_1)]) (fun H locs ls st hP => ?_) (fun J_191 => ?_)
        · obtain ⟨v191_32_0, v191_32_1, v191_32_2, v191_32_3, hv191_32_0, rv191_32_1, rv191_32_3, x33_0, x34_1, rfl, h, hl⟩ := hP
          obtain ⟨z_35, ez_35, hz_35⟩ := e_add (x := v75_22_0) (y := Int32.ofInt 1) rfl (b := 1) (by decide) (by omega) (by omega)
          refine lv_iinc (v := z_35) (lv' := [(8, .int z_35), (0, .ref h0), (1, .ref h4), (2, .ref h9), (3, .int z_4), (4, .int z_6), (5, .int v191_32_0), (6, .int v56_15_0), (7, .int z_18), (9, .int v115_29_1)]) hx hb dX10_lastViews_191 hl (k := 8) rfl ez_35 (by decide) rfl (fun ls_35 hl_35 => ?_)
          clear hl
          refine lv_goto (tgt := 75) hx hb dX10_lastViews_194 (by decide) ?_
          exact ih_75 (z_35, v191_32_0) (by show (11 - (z_35).toInt).toNat < (11 - (v75_22_0).toInt).toNat; omega) _ _ _ ⟨v191_32_1, v191_32_2, v115_29_0, v191_32_3, ⟨by omega, by omega⟩, hv191_32_0, (rg_wide rv191_32_1 (by decide) (by decide)), (rg_wide rv191_32_3 (by decide) (by decide)), (cq_n x33_0 (by omega)), (x34_1), h, (lv_sub hl_35 [1, 2, 3, 4, 5, 6, 7, 8, 0] rfl)⟩
        · skip
          refine lv_icmp_ne (tgt := 191) hx hb dX10_lastViews_125 (by decide) (fun c_36 => ?_) (fun c_36 => ?_)
          · replace c_36 := i_ne (x := z_31) (y := (-1)) rfl (show ((-1) : Int32).toInt = -1 by decide) c_36
            exact J_191 _ _ _ _ ⟨v75_22_1, v75_22_2, v75_22_3, v75_22_5, hv75_22_1, (rg_wide rv75_22_2 (by decide) (by decide)), (rg_wide rv75_22_5 (by decide) (by decide)), (cq_n x23_0 (by omega)), (x24_1), rfl, h, (lv_sub hl_30 [1, 2, 3, 4, 5, 6, 7, 8, 9, 0] rfl)⟩
          · replace c_36 := i_eq (x := z_31) (y := (-1)) rfl (show ((-1) : Int32).toInt = -1 by decide) c_36
            refine lv_iload hx hb dX10_lastViews_128 (lv_at hl_30 6 rfl) ?_
            refine lv_sipush (v := 1000) hx hb dX10_lastViews_130 (by decide) ?_
            refine lv_icmp_ge (tgt := 191) hx hb dX10_lastViews_133 (by decide) (fun c_37 => ?_) (fun c_37 => ?_)
            · replace c_37 := i_le (x := 1000) (y := v75_22_1) (show (1000 : Int32).toInt = 1000 by decide) rfl c_37
              exact J_191 _ _ _ _ ⟨v75_22_1, v75_22_2, v75_22_3, v75_22_5, hv75_22_1, (rg_wide rv75_22_2 (by decide) (by decide)), (rg_wide rv75_22_5 (by decide) (by decide)), (cq_n x23_0 (by omega)), (x24_1), rfl, h, (lv_sub hl_30 [1, 2, 3, 4, 5, 6, 7, 8, 9, 0] rfl)⟩
            · replace c_37 := i_nle (x := 1000) (y := v75_22_1) (show (1000 : Int32).toInt = 1000 by decide) rfl c_37
              refine lv_aload_n hx hb dX10_lastViews_136 rfl (lv_at hl_30 1 rfl) ?_
              refine q_get X hK h 0 rfl rfl wf_10 6 (by decide) rfl wm_1_227 dX10_lastViews_137 ?_
              refine lv_iload hx hb dX10_lastViews_140 (lv_at hl_30 0 rfl) ?_
              refine lv_iload hx hb dX10_lastViews_142 (lv_at hl_30 8 rfl) ?_
              refine q_iast X hK h 10 rfl (i_in rfl (by omega) (by omega)) dX10_lastViews_144 (fun H locs h_39 => ?_)
              clear h
              replace h_39 : qW D _ _ (wk_c804accc5 cy h0 p0 p1 p2 p3 w0 h1 h2 h3 h1 v75_22_2 h3 v75_22_3 h8 f5 h9 h10 w5 h10 v115_29_0 h4 h5 p4 p5 h8 h5 p6 p7 p8 p9 w1 w2 h6 h7 w3 w4 h6 f3 h7 f4 h2 (upd v75_22_5 (Int32.toNatClampNeg v115_29_1) z_18)) _ _ := h_39
              obtain ⟨F_38, eF_38, rF_38⟩ := rg_upd rv75_22_5 (Int32.toNatClampNeg v115_29_1) (x := z_18) rfl (by omega) (by omega)
              rw [eF_38] at h_39
              have cn_40 := cq_new x23_0 (by omega) (by omega) (by omega) (by omega) x24_1 (by rw [ez_31]; omega) eF_38
              refine lv_aload_n hx hb dX10_lastViews_145 rfl (lv_at hl_30 1 rfl) ?_
              refine q_get X hK h_39 0 rfl rfl wf_10 7 (by decide) rfl wm_1_228 dX10_lastViews_146 ?_
              refine lv_iload hx hb dX10_lastViews_149 (lv_at hl_30 0 rfl) ?_
              refine lv_iload hx hb dX10_lastViews_151 (lv_at hl_30 9 rfl) ?_
              refine q_iast X hK h_39 2 rfl (i_in rfl (by omega) (by omega)) dX10_lastViews_153 (fun H locs h_42 => ?_)
              clear h_39
              replace h_42 : qW D _ _ (wk_c804accc5 cy h0 p0 p1 p2 p3 w0 h1 h2 h3 h1 v75_22_2 h3 (upd v75_22_3 (Int32.toNatClampNeg v115_29_1) v75_22_0) h8 f5 h9 h10 w5 h10 v115_29_0 h4 h5 p4 p5 h8 h5 p6 p7 p8 p9 w1 w2 h6 h7 w3 w4 h6 f3 h7 f4 h2 F_38) _ _ := h_42
              obtain ⟨F_41, eF_41⟩ : ∃ z, (upd v75_22_3 (Int32.toNatClampNeg v115_29_1) v75_22_0) = z := ⟨_, rfl⟩
              rw [eF_41] at h_42
              clear eF_41
              refine lv_aload_n hx hb dX10_lastViews_154 rfl (lv_at hl_30 3 rfl) ?_
              refine lv_aload_n hx hb dX10_lastViews_155 rfl (lv_at hl_30 2 rfl) ?_
              refine lv_aload_n hx hb dX10_lastViews_156 rfl (lv_at hl_30 1 rfl) ?_
              refine q_get X hK h_42 0 rfl rfl wf_10 0 (by decide) rfl wm_1_219 dX10_lastViews_157 ?_
              refine lv_iload hx hb dX10_lastViews_160 (lv_at hl_30 0 rfl) ?_
              refine lv_aload_n hx hb dX10_lastViews_162 rfl (lv_at hl_30 1 rfl) ?_
              refine q_get X hK h_42 0 rfl rfl wf_10 1 (by decide) rfl wm_1_220 dX10_lastViews_163 ?_
              refine lv_aload_n hx hb dX10_lastViews_166 rfl (lv_at hl_30 2 rfl) ?_
              refine q_get X hK h_42 6 rfl rfl wf_7 1 (by decide) rfl wm_2_44 dX10_lastViews_167 ?_
              refine q_callVi (rest := []) (wr := [(h0, .inr (10, [.int p0, .int p1, .int p2, .int p3, w0, .ref h1, .ref h2, .ref h3])), (h1, .inl (cy 1, 1000, .inl v75_22_2)), (h3, .inl (cy 1, 1000, .inl F_41)), (h10, .inl (cy 1, 11, .inl v115_29_0)), (h6, .inl (cy 1, 10, .inl f3)), (h7, .inl (cy 1, 10, .inl f4)), (h2, .inl (cy 1, 1000, .inl F_38))]) X hK hT hA h_42 (fun sz => gX6_areOpposites_68d373d l D cy h9 h4 h5 h8 p0 v115_29_1 p1 p4 (.ref h10) w5 p5 p6 p7 p8 p9 w1 Value.null w2 (.ref h6) (.ref h7) w3 w4 f5 hp0 hv115_29_1 hp1 (i_rng _) (i_rng _) hp6 hp7 (i_rng _) (i_rng _) (rg_wide rf5 (by decide) (by decide)) sz) wm_5_7 wm_3_199 wm_1_5 hd_X6_areOpposites wm_3_197 wm_3_198 (ci := 6) (q0 := 0) rfl rfl ⟨Nat.le_of_ble_eq_true rfl, Nat.le_of_ble_eq_true rfl⟩ hl_30.1 rfl (Nat.le_of_ble_eq_true rfl) dX10_lastViews_170 ⟨Nat.le_of_ble_eq_true rfl, Nat.le_of_ble_eq_true rfl⟩ [4, 6, 7, 3] [0, 1, 2, 5, 8, 9, 10] rfl rfl (by decide) rfl rfl (fun r_43 u_43 H locs w_43 h_43 => ?_)
              clear h_42
              obtain ⟨wr_43, _⟩ := w_43
              replace h_43 : qW D _ _ (wk_0cebd9814 cy h0 p0 p1 p2 p3 w0 h1 h2 h3 h1 v75_22_2 h3 F_41 h10 v115_29_0 h6 f3 h7 f4 h2 F_38 h9 h10 w5 h4 h5 p4 p5 h8 h5 p6 p7 p8 p9 w1 w2 h6 h7 w3 w4 h8 f5) _ _ := h_43
              refine lv_if_eq (tgt := 179) hx hb dX10_lastViews_173 (by decide) (fun c_44 => ?_) (fun c_44 => ?_)
              · replace c_44 := i_eq (x := r_43) (y := 0) rfl (show (0 : Int32).toInt = 0 by decide) c_44
                refine lv_aload_n hx hb dX10_lastViews_179 rfl (lv_at hl_30 1 rfl) ?_
                refine q_get X hK h_43 0 rfl rfl wf_10 5 (by decide) rfl wm_1_226 dX10_lastViews_180 ?_
                refine lv_iload hx hb dX10_lastViews_183 (lv_at hl_30 6 rfl) ?_
                refine lv_iload hx hb dX10_lastViews_185 (lv_at hl_30 0 rfl) ?_
                refine q_iast X hK h_43 1 rfl (i_in rfl (by omega) (by omega)) dX10_lastViews_187 (fun H locs h_46 => ?_)
                clear h_43
                replace h_46 : qW D _ _ (wk_0cebd9814 cy h0 p0 p1 p2 p3 w0 h1 h2 h3 h1 (upd v75_22_2 (Int32.toNatClampNeg v75_22_1) v115_29_1) h3 F_41 h10 v115_29_0 h6 f3 h7 f4 h2 F_38 h9 h10 w5 h4 h5 p4 p5 h8 h5 p6 p7 p8 p9 w1 w2 h6 h7 w3 w4 h8 f5) _ _ := h_46
                obtain ⟨F_45, eF_45, rF_45⟩ := rg_upd rv75_22_2 (Int32.toNatClampNeg v75_22_1) (x := v115_29_1) rfl (by omega) (by omega)
                rw [eF_45] at h_46
                have cp_47 := cq_push cn_40.1 (by omega) rfl (by omega) (by omega) cn_40.2.2 eF_45
                obtain ⟨z_48, ez_48, hz_48⟩ := e_add (x := v75_22_1) (y := Int32.ofInt 1) rfl (b := 1) (by decide) (by omega) (by omega)
                refine lv_iinc (v := z_48) (lv' := [(5, .int z_48), (9, .int v115_29_1), (0, .ref h0), (1, .ref h4), (2, .ref h9), (3, .int z_4), (4, .int z_6), (6, .int v56_15_0), (7, .int z_18), (8, .int v75_22_0)]) hx hb dX10_lastViews_188 hl_30 (k := 6) rfl ez_48 (by decide) rfl (fun ls_48 hl_48 => ?_)
                clear hl_30
                exact J_191 _ _ _ _ ⟨z_48, F_45, F_41, F_38, ⟨by omega, by omega⟩, (rg_wide rF_45 (by decide) (by decide)), (rg_wide rF_38 (by decide) (by decide)), (cq_n cp_47 (by omega)), (cn_40.2.1), rfl, (q_re h_46 [0, 1, 2, 10, 7, 3, 8, 9, 4, 5, 6] rfl rfl), (lv_sub hl_48 [2, 3, 4, 5, 6, 0, 7, 8, 9, 1] rfl)⟩
              · replace c_44 := i_ne (x := r_43) (y := 0) rfl (show (0 : Int32).toInt = 0 by decide) c_44
                refine lv_iload hx hb dX10_lastViews_176 (lv_at hl_30 0 rfl) ?_
                exact q_iret X hr hlk hK h_43 rfl (fun _ => 0, (vcons v75_22_2 (vcons F_41 (vcons v115_29_0 (vcons F_38 (fun _ => (fun _ => 0)))))), fun _ _ => 0) ⟨(bw hv115_29_1 (by decide) (by decide)), (rg_wide rv75_22_2 (by decide) (by decide)), (rg_wide rF_38 (by decide) (by decide)), (show CH F_38 from cn_40.1.1), (show ((v115_29_1 : Int32).toInt = -1 ∨ (F_38 (v115_29_1 : Int32).toNatClampNeg).toInt ≠ -1) from Or.inr cn_40.2.2), trivial⟩ [0, 1, 6, 2, 8, 9, 4, 5, 10, 7, 3] rfl rfl dX10_lastViews_178 (Nat.le_of_ble_eq_true rfl) (Nat.le_of_ble_eq_true rfl)
      · skip
        refine lv_icmp_ne (tgt := 113) hx hb dX10_lastViews_94 (by decide) (fun c_49 => ?_) (fun c_49 => ?_)
        · replace c_49 := i_ne (x := z_28) (y := 1) rfl (show (1 : Int32).toInt = 1 by decide) c_49
          refine lv_iload hx hb dX10_lastViews_113 (lv_at hl 7 rfl) ?_
          exact J_115 _ _ _ _ ⟨z_18, v75_22_4, ⟨by omega, by omega⟩, rfl, h, (lv_sub hl [0, 1, 2, 3, 4, 5, 6, 7, 8] rfl)⟩
        · replace c_49 := i_eq (x := z_28) (y := 1) rfl (show (1 : Int32).toInt = 1 by decide) c_49
          refine lv_aload_n hx hb dX10_lastViews_97 rfl (lv_at hl 2 rfl) ?_
          refine lv_aload_n hx hb dX10_lastViews_98 rfl (lv_at hl 1 rfl) ?_
          refine lv_aload_n hx hb dX10_lastViews_99 rfl (lv_at hl 0 rfl) ?_
          refine q_get X hK h 0 rfl rfl wf_10 0 (by decide) rfl wm_1_219 dX10_lastViews_100 ?_
          refine lv_iload hx hb dX10_lastViews_103 (lv_at hl 7 rfl) ?_
          refine lv_iload hx hb dX10_lastViews_105 (lv_at hl 8 rfl) ?_
          refine q_callVi (rest := []) (wr := (wk_65d0764b1 cy h0 p0 p1 p2 p3 w0 h1 h2 h3 h1 v75_22_2 h3 v75_22_3 h6 f3 h7 f4 h2 v75_22_5)) X hK hT hA h (fun sz => gX6_swayed_24d9f3b l D cy h9 h10 h4 h5 h8 p0 z_18 v75_22_0 w5 v75_22_4 p4 p5 p6 p7 p8 p9 Value.null w1 w2 (.ref h6) (.ref h7) w3 w4 f5 hp0 ⟨by omega, by omega⟩ ⟨by omega, by omega⟩ (i_rng _) (i_rng _) hp6 hp7 (i_rng _) (i_rng _) (rg_wide rf5 (by decide) (by decide)) sz) wm_5_14 wm_4_29 wm_1_5 hd_X6_swayed wm_4_27 wm_4_28 (ci := 6) (q0 := 0) rfl rfl ⟨Nat.le_of_ble_eq_true rfl, Nat.le_of_ble_eq_true rfl⟩ hl.1 rfl (Nat.le_of_ble_eq_true rfl) dX10_lastViews_107 ⟨Nat.le_of_ble_eq_true rfl, Nat.le_of_ble_eq_true rfl⟩ [4, 5, 6, 7, 3] [0, 1, 2, 8, 9, 10] rfl rfl (by decide) rfl rfl (fun r_50 u_50 H locs w_50 h_50 => ?_)
          clear h
          obtain ⟨wr_50, _⟩ := w_50
          replace h_50 : qW D _ _ [(h0, .inr (10, [.int p0, .int p1, .int p2, .int p3, w0, .ref h1, .ref h2, .ref h3])), (h1, .inl (cy 1, 1000, .inl v75_22_2)), (h3, .inl (cy 1, 1000, .inl v75_22_3)), (h6, .inl (cy 1, 10, .inl f3)), (h7, .inl (cy 1, 10, .inl f4)), (h2, .inl (cy 1, 1000, .inl v75_22_5)), (h9, .inr (6, [.ref h10, w5])), (h10, .inl (cy 1, 11, .inl (u_50.2.1 0))), (h4, .inr (7, [.ref h5, .int p4, .int p5, .ref h8])), (h5, .inr (3, [.int p6, .int p7, .int p8, .int p9, .null, w1, .null, w2, .ref h6, .ref h7, w3, w4])), (h8, .inl (cy 1, 10, .inl f5))] _ _ := h_50
          refine lv_goto (tgt := 115) hx hb dX10_lastViews_110 (by decide) ?_
          exact J_115 _ _ _ _ ⟨r_50, (u_50.2.1 0), wr_50, rfl, (q_re h_50 [0, 1, 2, 10, 6, 7, 8, 9, 3, 4, 5] rfl rfl), (lv_sub hl [0, 1, 2, 3, 4, 5, 6, 7, 8] rfl)⟩
set_option maxHeartbeats 4000000 in
set_option maxRecDepth 100000 in
theorem gX10_trace_97c4dd8 (l : Launch) (D : va_G) (cy : Nat → ClassId) (h0 : Nat) (h1 : Nat) (h2 : Nat) (h3 : Nat) (p0 : Int32) (p1 : Int32) (p2 : Int32) (p3 : Int32) (p4 : Int32) (p5 : Int32) (w0 : Value) (f0 : Nat → Int32) (f1 : Nat → Int32) (f2 : Nat → Int32) (hp0 : 0 ≤ (p0).toInt ∧ (p0).toInt ≤ 999) (hp1 : (-1) ≤ (p1).toInt ∧ (p1).toInt ≤ 999) (hp2 : 0 ≤ (p2).toInt ∧ (p2).toInt ≤ 9) (hp3 : 0 ≤ (p3).toInt ∧ (p3).toInt ≤ 9) (hp4 : (-2147483648) ≤ (p4).toInt ∧ (p4).toInt ≤ 2147483647) (hp5 : (-1) ≤ (p5).toInt ∧ (p5).toInt ≤ 1000) (rf1 : RG f1 1000 (-1) 999) (hpre0 : CH f1) (hpre1 : ((p1 : Int32).toInt = -1 ∨ (f1 (p1 : Int32).toNatClampNeg).toInt ≠ -1)) (sz : Nat) : MV l yX10_trace cX10_trace 5 { frames := 0, cells := 0, slots := 0, locals := 0 } [.ref h0, .int p0, .int p1] D cy (wk_472fec6ee cy h0 p2 p3 p4 p5 h1 w0 h2 h3 h1 f0 h2 f1 h3 f2) sz (fun u => ((-1) ≤ (u.2.1 0 0).toInt ∧ (u.2.1 0 0).toInt ≤ 1000) ∧ True) (fun u => (wk_472fec6ee cy h0 p2 p3 p4 (u.2.1 0 0) h1 w0 h2 h3 h1 (u.2.1 1) h2 f1 h3 f2)) 0 0 := by
  refine q_ent (own := RX10) (by decide) rfl (Nat.le_of_ble_eq_true rfl) (fun p e s m below meth c ls X hr hlk hnm hK hT h hA hl => ?_)
  obtain ⟨hx, hb, hml, hown, ht⟩ := id X
  replace hl : lv_has ls 5 [(0, .ref h0), (1, .int p0), (2, .int p1)] := hl
  refine lv_aload_n hx hb dX10_trace_0 rfl (lv_at hl 0 rfl) ?_
  refine lv_iconst (v := (-1)) hx hb dX10_trace_1 (by decide) ?_
  refine q_put (v := .int (-1)) X hK h 0 rfl rfl wf_10 tyX10 tyX10_ok nmX10 3 (by decide) wm_1_222 rfl rfl rfl (Nat.le_of_ble_eq_true rfl) dX10_trace_2 (fun H locs h_1 => ?_)
  clear h
  replace h_1 : qW D _ _ (wk_472fec6ee cy h0 p2 p3 p4 (-1) h1 w0 h2 h3 h1 f0 h2 f1 h3 f2) _ _ := h_1
  refine lv_iload_n hx hb dX10_trace_5 rfl (lv_at hl 2 rfl) ?_
  refine lv_iconst (v := (-1)) hx hb dX10_trace_6 (by decide) ?_
  refine lv_icmp_ne (tgt := 11) hx hb dX10_trace_7 (by decide) (fun c_2 => ?_) (fun c_2 => ?_)
  · replace c_2 := i_ne (x := p1) (y := (-1)) rfl (show ((-1) : Int32).toInt = -1 by decide) c_2
    refine lv_iconst (v := 0) hx hb dX10_trace_11 (by decide) ?_
    refine lv_istore_n (lv' := [(3, .int 0), (0, .ref h0), (1, .int p0), (2, .int p1)]) hx hb dX10_trace_12 rfl hl (by decide) rfl (fun ls_3 hl_3 => ?_)
    clear hl
    refine lv_iload_n hx hb dX10_trace_13 rfl (lv_at hl_3 3 rfl) ?_
    refine lv_istore (lv' := [(4, .int p1), (3, .int 0), (0, .ref h0), (1, .int p0), (2, .int p1)]) hx hb dX10_trace_14 hl_3 (by decide) rfl (fun ls_4 hl_4 => ?_)
    clear hl_3
    refine q_wl (fun (q : Int32 × Int32) H locs ls => match q with | (v16_5_0, v16_5_1) => (0 ≤ (v16_5_0).toInt ∧ (v16_5_0).toInt ≤ 999) ∧ (0 ≤ (v16_5_1).toInt ∧ (v16_5_1).toInt ≤ 1000) ∧ ((f1 (v16_5_0 : Int32).toNatClampNeg).toInt ≠ -1) ∧ qW D (va_A (wk_472fec6ee cy h0 p2 p3 p4 p5 h1 w0 h2 h3 h1 f0 h2 f1 h3 f2) sz) s.heap (wk_472fec6ee cy h0 p2 p3 p4 (-1) h1 w0 h2 h3 h1 f0 h2 f1 h3 f2) H locs ∧ lv_has ls 5 [(0, .ref h0), (1, .int p0), (2, .int p1), (3, .int v16_5_1), (4, .int v16_5_0)]) (fun (q : Int32 × Int32) => match q with | (v16_5_0, v16_5_1) => (1001 - (v16_5_1).toInt).toNat) (fun q_16 ih_16 H locs ls hP => ?_) (p1, 0) ⟨⟨by omega, by omega⟩, ⟨by decide +kernel, by decide +kernel⟩, ((hpre1).resolve_left (by omega)), h_1, (lv_sub hl_4 [2, 3, 4, 1, 0] rfl)⟩
    obtain ⟨v16_5_0, v16_5_1⟩ := q_16
    obtain ⟨hv16_5_0, hv16_5_1, x6_0, h, hl⟩ := hP
    refine lv_iload hx hb dX10_trace_16 (lv_at hl 4 rfl) ?_
    refine lv_iload_n hx hb dX10_trace_18 rfl (lv_at hl 1 rfl) ?_
    refine q_jn (pc2 := 44) (fun H locs ls st => st = [] ∧ qW D (va_A (wk_472fec6ee cy h0 p2 p3 p4 p5 h1 w0 h2 h3 h1 f0 h2 f1 h3 f2) sz) s.heap (wk_472fec6ee cy h0 p2 p3 p4 (-1) h1 w0 h2 h3 h1 f0 h2 f1 h3 f2) H locs ∧ lv_has ls 5 [(0, .ref h0), (1, .int p0), (2, .int p1), (3, .int v16_5_1), (4, .int v16_5_0)]) (fun H locs ls st hP => ?_) (fun J_44 => ?_)
    · obtain ⟨rfl, h, hl⟩ := hP
      refine lv_aload_n hx hb dX10_trace_44 rfl (lv_at hl 0 rfl) ?_
      refine lv_iload_n hx hb dX10_trace_45 rfl (lv_at hl 3 rfl) ?_
      refine q_put (v := .int v16_5_1) X hK h 0 rfl rfl wf_10 tyX10 tyX10_ok nmX10 3 (by decide) wm_1_222 rfl rfl rfl (Nat.le_of_ble_eq_true rfl) dX10_trace_46 (fun H locs h_8 => ?_)
      clear h
      replace h_8 : qW D _ _ (wk_472fec6ee cy h0 p2 p3 p4 v16_5_1 h1 w0 h2 h3 h1 f0 h2 f1 h3 f2) _ _ := h_8
      refine lv_iload_n hx hb dX10_trace_49 rfl (lv_at hl 2 rfl) ?_
      refine lv_istore (lv' := [(4, .int p1), (0, .ref h0), (1, .int p0), (2, .int p1), (3, .int v16_5_1)]) hx hb dX10_trace_50 hl (by decide) rfl (fun ls_9 hl_9 => ?_)
      clear hl
      refine q_wl (fun (q : Int32 × Int32) H locs ls => match q with | (v52_10_0, v52_10_1) => ∃ v52_10_2 : Nat → Int32, (0 ≤ (v52_10_0).toInt ∧ (v52_10_0).toInt ≤ 999) ∧ (0 ≤ (v52_10_1).toInt ∧ (v52_10_1).toInt ≤ 1000) ∧ ((f1 (v52_10_0 : Int32).toNatClampNeg).toInt ≠ -1) ∧ qW D (va_A (wk_472fec6ee cy h0 p2 p3 p4 p5 h1 w0 h2 h3 h1 f0 h2 f1 h3 f2) sz) s.heap (wk_472fec6ee cy h0 p2 p3 p4 v16_5_1 h1 w0 h2 h3 h1 v52_10_2 h2 f1 h3 f2) H locs ∧ lv_has ls 5 [(0, .ref h0), (1, .int p0), (2, .int p1), (3, .int v52_10_1), (4, .int v52_10_0)]) (fun (q : Int32 × Int32) => match q with | (v52_10_0, v52_10_1) => ((v52_10_1).toInt - (-1)).toNat) (fun q_52 ih_52 H locs ls hP => ?_) (p1, v16_5_1) ⟨f0, ⟨by omega, by omega⟩, hv16_5_1, ((hpre1).resolve_left (by omega)), h_8, (lv_sub hl_9 [1, 2, 3, 4, 0] rfl)⟩
      obtain ⟨v52_10_0, v52_10_1⟩ := q_52
      obtain ⟨v52_10_2, hv52_10_0, hv52_10_1, x11_0, h, hl⟩ := hP
      refine lv_iload hx hb dX10_trace_52 (lv_at hl 4 rfl) ?_
      refine lv_iload_n hx hb dX10_trace_54 rfl (lv_at hl 1 rfl) ?_
      refine q_jn (pc2 := 90) (fun H locs ls st => st = [] ∧ qW D (va_A (wk_472fec6ee cy h0 p2 p3 p4 p5 h1 w0 h2 h3 h1 f0 h2 f1 h3 f2) sz) s.heap (wk_472fec6ee cy h0 p2 p3 p4 v16_5_1 h1 w0 h2 h3 h1 v52_10_2 h2 f1 h3 f2) H locs ∧ lv_has ls 5 [(0, .ref h0), (1, .int p0), (2, .int p1), (3, .int v52_10_1), (4, .int v52_10_0)]) (fun H locs ls st hP => ?_) (fun J_90 => ?_)
      · obtain ⟨rfl, h, hl⟩ := hP
        exact q_vret X hr hlk hK h (fun _ => 0, (vcons (fun _ => v16_5_1) (vcons v52_10_2 (fun _ => (fun _ => 0)))), fun _ _ => 0) ⟨(bw hv16_5_1 (by decide) (by decide)), trivial⟩ [0, 1, 2, 3] rfl rfl dX10_trace_90 (Nat.le_of_ble_eq_true rfl) (Nat.le_of_ble_eq_true rfl)
      · skip
        refine lv_icmp_eq (tgt := 90) hx hb dX10_trace_55 (by decide) (fun c_13 => ?_) (fun c_13 => ?_)
        · replace c_13 := i_eq (x := v52_10_0) (y := p0) rfl rfl c_13
          exact J_90 _ _ _ _ ⟨rfl, h, (lv_sub hl [0, 1, 2, 3, 4] rfl)⟩
        · replace c_13 := i_ne (x := v52_10_0) (y := p0) rfl rfl c_13
          refine lv_iload_n hx hb dX10_trace_58 rfl (lv_at hl 3 rfl) ?_
          refine lv_if_le (tgt := 90) hx hb dX10_trace_59 (by decide) (fun c_14 => ?_) (fun c_14 => ?_)
          · replace c_14 := i_le (x := v52_10_1) (y := 0) rfl (show (0 : Int32).toInt = 0 by decide) c_14
            exact J_90 _ _ _ _ ⟨rfl, h, (lv_sub hl [0, 1, 2, 3, 4] rfl)⟩
          · replace c_14 := i_nle (x := v52_10_1) (y := 0) rfl (show (0 : Int32).toInt = 0 by decide) c_14
            obtain ⟨z_15, ez_15, hz_15⟩ := e_add (x := v52_10_1) (y := Int32.ofInt (-1)) rfl (b := (-1)) (by decide) (by omega) (by omega)
            refine lv_iinc (v := z_15) (lv' := [(3, .int z_15), (0, .ref h0), (1, .int p0), (2, .int p1), (4, .int v52_10_0)]) hx hb dX10_trace_62 hl (k := 3) rfl ez_15 (by decide) rfl (fun ls_15 hl_15 => ?_)
            clear hl
            refine lv_aload_n hx hb dX10_trace_65 rfl (lv_at hl_15 1 rfl) ?_
            refine q_get X hK h 0 rfl rfl wf_10 4 (by decide) rfl wm_1_224 dX10_trace_66 ?_
            refine lv_iload_n hx hb dX10_trace_69 rfl (lv_at hl_15 0 rfl) ?_
            refine lv_aload_n hx hb dX10_trace_70 rfl (lv_at hl_15 1 rfl) ?_
            refine q_get X hK h 0 rfl rfl wf_10 7 (by decide) rfl wm_1_228 dX10_trace_71 ?_
            refine lv_iload hx hb dX10_trace_74 (lv_at hl_15 4 rfl) ?_
            refine q_iald X hK h 3 rfl (i_in rfl (by omega) (by omega)) dX10_trace_76 ?_
            refine q_any (fun z_16 hz_16 => ?_)
            refine q_iast X hK h 1 rfl (i_in rfl (by omega) (by omega)) dX10_trace_77 (fun H locs h_18 => ?_)
            clear h
            replace h_18 : qW D _ _ (wk_472fec6ee cy h0 p2 p3 p4 v16_5_1 h1 w0 h2 h3 h1 (upd v52_10_2 (Int32.toNatClampNeg z_15) z_16) h2 f1 h3 f2) _ _ := h_18
            obtain ⟨F_17, eF_17⟩ : ∃ z, (upd v52_10_2 (Int32.toNatClampNeg z_15) z_16) = z := ⟨_, rfl⟩
            rw [eF_17] at h_18
            clear eF_17
            refine lv_aload_n hx hb dX10_trace_78 rfl (lv_at hl_15 1 rfl) ?_
            refine q_get X hK h_18 0 rfl rfl wf_10 6 (by decide) rfl wm_1_227 dX10_trace_79 ?_
            refine lv_iload hx hb dX10_trace_82 (lv_at hl_15 4 rfl) ?_
            refine q_iald X hK h_18 2 rfl (i_in rfl (by omega) (by omega)) dX10_trace_84 ?_
            obtain ⟨z_19, ez_19, hz_19⟩ := rg_get rf1 (x := v52_10_0) rfl (by omega) (by omega)
            refine q_c z_19 ez_19 ?_
            have fv_20 := ch_step hpre0 (by omega) (by omega) x11_0 ez_19
            refine lv_istore (lv' := [(4, .int z_19), (3, .int z_15), (0, .ref h0), (1, .int p0), (2, .int p1)]) hx hb dX10_trace_85 hl_15 (by decide) rfl (fun ls_21 hl_21 => ?_)
            clear hl_15
            refine lv_goto (tgt := 52) hx hb dX10_trace_87 (by decide) ?_
            exact ih_52 (z_19, z_15) (by show ((z_15).toInt - (-1)).toNat < ((v52_10_1).toInt - (-1)).toNat; omega) _ _ _ ⟨F_17, ⟨by omega, by omega⟩, ⟨by omega, by omega⟩, (fv_20.2.2), h_18, (lv_sub hl_21 [2, 3, 4, 1, 0] rfl)⟩
    · skip
      refine lv_icmp_eq (tgt := 44) hx hb dX10_trace_19 (by decide) (fun c_22 => ?_) (fun c_22 => ?_)
      · replace c_22 := i_eq (x := v16_5_0) (y := p0) rfl rfl c_22
        exact J_44 _ _ _ _ ⟨rfl, h, (lv_sub hl [0, 1, 2, 3, 4] rfl)⟩
      · replace c_22 := i_ne (x := v16_5_0) (y := p0) rfl rfl c_22
        refine lv_iload_n hx hb dX10_trace_22 rfl (lv_at hl 3 rfl) ?_
        refine lv_sipush (v := 1000) hx hb dX10_trace_23 (by decide) ?_
        refine lv_icmp_ge (tgt := 44) hx hb dX10_trace_26 (by decide) (fun c_23 => ?_) (fun c_23 => ?_)
        · replace c_23 := i_le (x := 1000) (y := v16_5_1) (show (1000 : Int32).toInt = 1000 by decide) rfl c_23
          exact J_44 _ _ _ _ ⟨rfl, h, (lv_sub hl [0, 1, 2, 3, 4] rfl)⟩
        · replace c_23 := i_nle (x := 1000) (y := v16_5_1) (show (1000 : Int32).toInt = 1000 by decide) rfl c_23
          obtain ⟨z_24, ez_24, hz_24⟩ := e_add (x := v16_5_1) (y := Int32.ofInt 1) rfl (b := 1) (by decide) (by omega) (by omega)
          refine lv_iinc (v := z_24) (lv' := [(3, .int z_24), (0, .ref h0), (1, .int p0), (2, .int p1), (4, .int v16_5_0)]) hx hb dX10_trace_29 hl (k := 3) rfl ez_24 (by decide) rfl (fun ls_24 hl_24 => ?_)
          clear hl
          refine lv_aload_n hx hb dX10_trace_32 rfl (lv_at hl_24 1 rfl) ?_
          refine q_get X hK h 0 rfl rfl wf_10 6 (by decide) rfl wm_1_227 dX10_trace_33 ?_
          refine lv_iload hx hb dX10_trace_36 (lv_at hl_24 4 rfl) ?_
          refine q_iald X hK h 2 rfl (i_in rfl (by omega) (by omega)) dX10_trace_38 ?_
          obtain ⟨z_25, ez_25, hz_25⟩ := rg_get rf1 (x := v16_5_0) rfl (by omega) (by omega)
          refine q_c z_25 ez_25 ?_
          have fv_26 := ch_step hpre0 (by omega) (by omega) x6_0 ez_25
          refine lv_istore (lv' := [(4, .int z_25), (3, .int z_24), (0, .ref h0), (1, .int p0), (2, .int p1)]) hx hb dX10_trace_39 hl_24 (by decide) rfl (fun ls_27 hl_27 => ?_)
          clear hl_24
          refine lv_goto (tgt := 16) hx hb dX10_trace_41 (by decide) ?_
          exact ih_16 (z_25, z_24) (by show (1001 - (z_24).toInt).toNat < (1001 - (v16_5_1).toInt).toNat; omega) _ _ _ ⟨⟨by omega, by omega⟩, ⟨by omega, by omega⟩, (fv_26.2.2), h, (lv_sub hl_27 [2, 3, 4, 1, 0] rfl)⟩
  · replace c_2 := i_eq (x := p1) (y := (-1)) rfl (show ((-1) : Int32).toInt = -1 by decide) c_2
    exact q_vret X hr hlk hK h_1 (fun _ => 0, (vcons (fun _ => (-1)) (vcons f0 (fun _ => (fun _ => 0)))), fun _ _ => 0) ⟨(⟨by decide +kernel, by decide +kernel⟩ : (-1) ≤ ((-1) : Int32).toInt ∧ ((-1) : Int32).toInt ≤ 1000), trivial⟩ [0, 1, 2, 3] rfl rfl dX10_trace_10 (Nat.le_of_ble_eq_true rfl) (Nat.le_of_ble_eq_true rfl)
