def wk_04d6d8a2c (cy : Nat → ClassId) (a0 : Nat) (a1 : Int32) (a2 : Nat) (a3 : Value) (a4 a5 : Nat) (a6 a7 a8 a9 a10 a11 a12 a13 a14 a15 a16 : Int32) (a17 a18 a19 a20 a21 : Value) (a22 a23 : Int32) (a24 a25 a26 : Value) (a27 a28 : Int32) (a29 a30 a31 a32 a33 : Value) (a34 : Int32) (a35 a36 a37 : Value) (a38 : Nat) (a39 : Nat → Int32) (a40 : Nat) (a41 : Nat → Int32) (a42 : Nat) (a43 : Nat → Int32) : va_W := [(a0, .inr (12, [.int a1, .ref a2, a3, .ref a4, .ref a5, .int a6, .int a7, .int a8, .int a9, .int a10, .int a11, .int a12, .int a13, .int a14, .int a15, .int a16, a17, a18, a19, a20, a21, .int a22, .int a23, a24, a25, a26, .int a27, .int a28, a29, a30, a31, a32, a33, .int a34, a35, a36, a37])), (a38, .inl (cy 1, 3918, .inl a39)), (a40, .inl (cy 1, 900, .inl a41)), (a42, .inl (cy 1, 1306, .inl a43))]
def wk_7c5ca55a5 (cy : Nat → ClassId) (a0 : Nat) (a1 : Nat → Int32) (a2 : Nat) (a3 : Nat → Int32) : va_W := [(a0, .inl (cy 1, 3918, .inl a1)), (a2, .inl (cy 1, 1306, .inl a3))]
def wk_db69142ea (cy : Nat → ClassId) (a0 : Nat) (a1 : Nat → Int32) (a2 : Nat) (a3 : Nat → Int32) (a4 : Nat) (a5 : Int32) (a6 : Nat) (a7 : Value) (a8 a9 : Nat) (a10 a11 a12 a13 a14 a15 a16 a17 a18 a19 a20 : Int32) (a21 a22 a23 a24 a25 : Value) (a26 a27 : Int32) (a28 a29 a30 : Value) (a31 a32 : Int32) (a33 a34 a35 a36 a37 : Value) (a38 : Int32) (a39 a40 a41 : Value) (a42 : Nat) (a43 : Nat → Int32) : va_W := [(a0, .inl (cy 1, 3918, .inl a1)), (a2, .inl (cy 1, 1306, .inl a3)), (a4, .inr (12, [.int a5, .ref a6, a7, .ref a8, .ref a9, .int a10, .int a11, .int a12, .int a13, .int a14, .int a15, .int a16, .int a17, .int a18, .int a19, .int a20, a21, a22, a23, a24, a25, .int a26, .int a27, a28, a29, a30, .int a31, .int a32, a33, a34, a35, a36, a37, .int a38, a39, a40, a41])), (a42, .inl (cy 1, 900, .inl a43))]
def wk_dab8c81bb (cy : Nat → ClassId) (a0 : Nat) (a1 : Nat → Int32) (a2 : Nat) (a3 : Int32) (a4 : Nat) (a5 : Value) (a6 a7 : Nat) (a8 a9 a10 a11 a12 a13 a14 a15 a16 a17 a18 : Int32) (a19 a20 a21 a22 a23 : Value) (a24 a25 : Int32) (a26 a27 a28 : Value) (a29 a30 : Int32) (a31 a32 a33 a34 a35 : Value) (a36 : Int32) (a37 a38 a39 : Value) (a40 : Nat) (a41 : Nat → Int32) (a42 : Nat) (a43 : Nat → Int32) : va_W := [(a0, .inl (cy 1, 3918, .inl a1)), (a2, .inr (12, [.int a3, .ref a4, a5, .ref a6, .ref a7, .int a8, .int a9, .int a10, .int a11, .int a12, .int a13, .int a14, .int a15, .int a16, .int a17, .int a18, a19, a20, a21, a22, a23, .int a24, .int a25, a26, a27, a28, .int a29, .int a30, a31, a32, a33, a34, a35, .int a36, a37, a38, a39])), (a40, .inl (cy 1, 900, .inl a41)), (a42, .inl (cy 1, 1306, .inl a43))]
def wk_eece9000b (cy : Nat → ClassId) (a0 : Nat) (a1 : Nat → Int32) (a2 : Nat) (a3 : Nat → Int32) (a4 : Nat) (a5 : Nat → Int32) : va_W := [(a0, .inl (cy 1, 3918, .inl a1)), (a2, .inl (cy 1, 1306, .inl a3)), (a4, .inl (cy 1, 900, .inl a5))]
def wk_735259578 (cy : Nat → ClassId) (a0 : Nat) (a1 : Nat → Int32) (a2 : Nat) (a3 : Nat → Int32) (a4 : Nat) (a5 : Nat → Int32) (a6 : Nat) (a7 : Int32) (a8 : Nat) (a9 : Value) (a10 a11 : Nat) (a12 a13 a14 a15 a16 a17 a18 a19 a20 a21 a22 : Int32) (a23 a24 a25 a26 a27 : Value) (a28 a29 : Int32) (a30 a31 a32 : Value) (a33 a34 : Int32) (a35 a36 a37 a38 a39 : Value) (a40 : Int32) (a41 a42 a43 : Value) : va_W := [(a0, .inl (cy 1, 3918, .inl a1)), (a2, .inl (cy 1, 1306, .inl a3)), (a4, .inl (cy 1, 900, .inl a5)), (a6, .inr (12, [.int a7, .ref a8, a9, .ref a10, .ref a11, .int a12, .int a13, .int a14, .int a15, .int a16, .int a17, .int a18, .int a19, .int a20, .int a21, .int a22, a23, a24, a25, a26, a27, .int a28, .int a29, a30, a31, a32, .int a33, .int a34, a35, a36, a37, a38, a39, .int a40, a41, a42, a43]))]
def wk_e1f596b07 (cy : Nat → ClassId) (a0 : Nat) (a1 : Int32) (a2 : Nat) (a3 a4 a5 : Value) (a6 a7 a8 a9 a10 a11 a12 a13 a14 a15 a16 : Int32) (a17 a18 a19 a20 a21 : Value) (a22 a23 : Int32) (a24 a25 a26 : Value) (a27 a28 : Int32) (a29 a30 a31 a32 a33 : Value) (a34 : Int32) (a35 a36 a37 : Value) (a38 : Nat) (a39 : Nat → Int32) : va_W := [(a0, .inr (12, [.int a1, .ref a2, a3, a4, a5, .int a6, .int a7, .int a8, .int a9, .int a10, .int a11, .int a12, .int a13, .int a14, .int a15, .int a16, a17, a18, a19, a20, a21, .int a22, .int a23, a24, a25, a26, .int a27, .int a28, a29, a30, a31, a32, a33, .int a34, a35, a36, a37])), (a38, .inl (cy 1, 3918, .inl a39))]
def wk_177a9dc22 (cy : Nat → ClassId) (a0 : Nat) (a1 : Int32) (a2 : Nat) (a3 a4 a5 : Value) (a6 a7 a8 a9 a10 a11 a12 a13 a14 a15 a16 : Int32) (a17 : Value) (a18 : Nat) (a19 a20 a21 : Value) (a22 a23 : Int32) (a24 a25 a26 : Value) (a27 a28 : Int32) (a29 a30 a31 a32 a33 : Value) (a34 : Int32) (a35 a36 a37 : Value) (a38 : Nat) (a39 : Nat → Int32) (a40 : Nat) (a41 : Nat → Int32) : va_W := [(a0, .inr (12, [.int a1, .ref a2, a3, a4, a5, .int a6, .int a7, .int a8, .int a9, .int a10, .int a11, .int a12, .int a13, .int a14, .int a15, .int a16, a17, .ref a18, a19, a20, a21, .int a22, .int a23, a24, a25, a26, .int a27, .int a28, a29, a30, a31, a32, a33, .int a34, a35, a36, a37])), (a38, .inl (cy 1, 3918, .inl a39)), (a40, .inl (cy 1, 11, .inl a41))]
def wk_d5826a772 (cy : Nat → ClassId) (a0 : Nat) (a1 : Int32) (a2 : Nat) (a3 a4 a5 : Value) (a6 a7 a8 a9 a10 a11 a12 a13 a14 a15 a16 : Int32) (a17 a18 : Nat) (a19 a20 a21 : Value) (a22 a23 : Int32) (a24 a25 a26 : Value) (a27 a28 : Int32) (a29 a30 a31 a32 a33 : Value) (a34 : Int32) (a35 a36 a37 : Value) (a38 : Nat) (a39 : Nat → Int32) (a40 : Nat) (a41 : Nat → Int32) (a42 : Nat) (a43 : Nat → Int32) : va_W := [(a0, .inr (12, [.int a1, .ref a2, a3, a4, a5, .int a6, .int a7, .int a8, .int a9, .int a10, .int a11, .int a12, .int a13, .int a14, .int a15, .int a16, .ref a17, .ref a18, a19, a20, a21, .int a22, .int a23, a24, a25, a26, .int a27, .int a28, a29, a30, a31, a32, a33, .int a34, a35, a36, a37])), (a38, .inl (cy 1, 3918, .inl a39)), (a40, .inl (cy 1, 900, .inl a41)), (a42, .inl (cy 1, 11, .inl a43))]
def wk_e4244dc24 (cy : Nat → ClassId) (a0 : Nat) (a1 : Nat → Int32) (a2 : Nat) (a3 : Int32) (a4 : Nat) (a5 a6 a7 : Value) (a8 a9 a10 a11 a12 a13 a14 a15 a16 a17 a18 : Int32) (a19 a20 : Nat) (a21 a22 a23 : Value) (a24 a25 : Int32) (a26 a27 a28 : Value) (a29 a30 : Int32) (a31 a32 a33 a34 a35 : Value) (a36 : Int32) (a37 a38 a39 : Value) (a40 : Nat) (a41 : Nat → Int32) (a42 : Nat) (a43 : Nat → Int32) : va_W := [(a0, .inl (cy 1, 900, .inl a1)), (a2, .inr (12, [.int a3, .ref a4, a5, a6, a7, .int a8, .int a9, .int a10, .int a11, .int a12, .int a13, .int a14, .int a15, .int a16, .int a17, .int a18, .ref a19, .ref a20, a21, a22, a23, .int a24, .int a25, a26, a27, a28, .int a29, .int a30, a31, a32, a33, a34, a35, .int a36, a37, a38, a39])), (a40, .inl (cy 1, 3918, .inl a41)), (a42, .inl (cy 1, 11, .inl a43))]
def wk_3fb6de35f (cy : Nat → ClassId) (a0 : Nat) (a1 : Nat → Int32) (a2 : Nat) (a3 : Nat → Int32) : va_W := [(a0, .inl (cy 1, 900, .inl a1)), (a2, .inl (cy 1, 11, .inl a3))]
def wk_974fbaca6 (cy : Nat → ClassId) (a0 : Nat) (a1 : Nat → Int32) (a2 : Nat) (a3 : Nat → Int32) (a4 : Nat) (a5 : Int32) (a6 : Nat) (a7 a8 a9 : Value) (a10 a11 a12 a13 a14 a15 a16 a17 a18 a19 a20 : Int32) (a21 a22 : Nat) (a23 a24 a25 : Value) (a26 a27 : Int32) (a28 a29 a30 : Value) (a31 a32 : Int32) (a33 a34 a35 a36 a37 : Value) (a38 : Int32) (a39 a40 a41 : Value) (a42 : Nat) (a43 : Nat → Int32) : va_W := [(a0, .inl (cy 1, 900, .inl a1)), (a2, .inl (cy 1, 11, .inl a3)), (a4, .inr (12, [.int a5, .ref a6, a7, a8, a9, .int a10, .int a11, .int a12, .int a13, .int a14, .int a15, .int a16, .int a17, .int a18, .int a19, .int a20, .ref a21, .ref a22, a23, a24, a25, .int a26, .int a27, a28, a29, a30, .int a31, .int a32, a33, a34, a35, a36, a37, .int a38, a39, a40, a41])), (a42, .inl (cy 1, 3918, .inl a43))]
def wk_22f40a116 (cy : Nat → ClassId) (a0 : Nat) (a1 : Int32) (a2 : Nat) (a3 a4 a5 : Value) (a6 a7 a8 a9 a10 a11 a12 a13 a14 a15 a16 : Int32) (a17 a18 a19 a20 : Value) (a21 : Nat) (a22 a23 : Int32) (a24 a25 a26 : Value) (a27 a28 : Int32) (a29 a30 a31 a32 a33 : Value) (a34 : Int32) (a35 a36 a37 : Value) (a38 : Nat) (a39 : Nat → Int32) (a40 : Nat) (a41 : Nat → Int32) : va_W := [(a0, .inr (12, [.int a1, .ref a2, a3, a4, a5, .int a6, .int a7, .int a8, .int a9, .int a10, .int a11, .int a12, .int a13, .int a14, .int a15, .int a16, a17, a18, a19, a20, .ref a21, .int a22, .int a23, a24, a25, a26, .int a27, .int a28, a29, a30, a31, a32, a33, .int a34, a35, a36, a37])), (a38, .inl (cy 1, 3918, .inl a39)), (a40, .inl (cy 1, 32, .inl a41))]
theorem wm_5_170 : Cond.fieldLink RX12 1 "OppositeHouseModel" "thrown" "I" ∈ WG := wg_t5 (List.mem_of_getElem? (i := 170) rfl) rfl
theorem wm_5_175 : Cond.fieldLink RX12 83 "OppositeHouseModel" "taped" "I" ∈ WG := wg_t5 (List.mem_of_getElem? (i := 175) rfl) rfl
theorem wm_5_167 : Cond.methodLink RX12 79 yX12_plain ∈ WG := wg_t5 (List.mem_of_getElem? (i := 167) rfl) rfl
theorem wm_5_169 : Cond.code yX12_plain cX12_plain 2 none ∈ WG := wg_t5 (List.mem_of_getElem? (i := 169) rfl) rfl
theorem wm_5_168 : Cond.static yX12_plain ∈ WG := wg_t5 (List.mem_of_getElem? (i := 168) rfl) rfl
theorem wm_6_91 : Cond.methodLink RX12 208 yX12_ends ∈ WG := wg_t6 (List.mem_of_getElem? (i := 91) rfl) rfl
theorem wm_6_94 : Cond.code yX12_ends cX12_ends 1 none ∈ WG := wg_t6 (List.mem_of_getElem? (i := 94) rfl) rfl
theorem wm_6_93 : Cond.instanceMethod yX12_ends ∈ WG := wg_t6 (List.mem_of_getElem? (i := 93) rfl) rfl
theorem wp_4_10 : Cond.selects RX12 yX12_ends yX12_ends ∈ WG := wg_p (q := (yX12_ends, 37)) (wg_p4 (List.mem_of_getElem? (i := 10) rfl)) rfl
theorem wm_6_108 : Cond.constantLong RX12 201 (7) ∈ WG := wg_t6 (List.mem_of_getElem? (i := 108) rfl) rfl
theorem wm_6_109 : Cond.constantLong RX12 203 (9) ∈ WG := wg_t6 (List.mem_of_getElem? (i := 109) rfl) rfl
theorem wm_6_110 : Cond.methodLink RX12 205 yX12_readLaw ∈ WG := wg_t6 (List.mem_of_getElem? (i := 110) rfl) rfl
theorem wm_6_113 : Cond.code yX12_readLaw cX12_readLaw 3 none ∈ WG := wg_t6 (List.mem_of_getElem? (i := 113) rfl) rfl
theorem wm_6_112 : Cond.instanceMethod yX12_readLaw ∈ WG := wg_t6 (List.mem_of_getElem? (i := 112) rfl) rfl
theorem wp_4_14 : Cond.selects RX12 yX12_readLaw yX12_readLaw ∈ WG := wg_p (q := (yX12_readLaw, 37)) (wg_p4 (List.mem_of_getElem? (i := 14) rfl)) rfl
theorem wm_6_99 : Cond.methodLink RX12 198 yX12_readPerson ∈ WG := wg_t6 (List.mem_of_getElem? (i := 99) rfl) rfl
theorem wm_6_102 : Cond.code yX12_readPerson cX12_readPerson 3 none ∈ WG := wg_t6 (List.mem_of_getElem? (i := 102) rfl) rfl
theorem wm_6_101 : Cond.instanceMethod yX12_readPerson ∈ WG := wg_t6 (List.mem_of_getElem? (i := 101) rfl) rfl
theorem wp_4_12 : Cond.selects RX12 yX12_readPerson yX12_readPerson ∈ WG := wg_p (q := (yX12_readPerson, 37)) (wg_p4 (List.mem_of_getElem? (i := 12) rfl)) rfl
theorem wm_6_95 : Cond.methodLink RX12 211 yX12_readLine ∈ WG := wg_t6 (List.mem_of_getElem? (i := 95) rfl) rfl
theorem wm_6_98 : Cond.code yX12_readLine cX12_readLine 1 none ∈ WG := wg_t6 (List.mem_of_getElem? (i := 98) rfl) rfl
theorem wm_6_97 : Cond.instanceMethod yX12_readLine ∈ WG := wg_t6 (List.mem_of_getElem? (i := 97) rfl) rfl
theorem wp_4_11 : Cond.selects RX12 yX12_readLine yX12_readLine ∈ WG := wg_p (q := (yX12_readLine, 37)) (wg_p4 (List.mem_of_getElem? (i := 11) rfl)) rfl
theorem wm_5_183 : Cond.fieldLink RX12 214 "OppositeHouseModel" "faultKind" "I" ∈ WG := wg_t5 (List.mem_of_getElem? (i := 183) rfl) rfl
theorem wm_5_184 : Cond.fieldLink RX12 27 "OppositeHouseModel" "faultPlace" "I" ∈ WG := wg_t5 (List.mem_of_getElem? (i := 184) rfl) rfl
theorem wm_5_171 : Cond.fieldLink RX12 13 "OppositeHouseModel" "all" "[I" ∈ WG := wg_t5 (List.mem_of_getElem? (i := 171) rfl) rfl
theorem wm_6_162 : Cond.methodLink RX12 245 yX12_isPerson ∈ WG := wg_t6 (List.mem_of_getElem? (i := 162) rfl) rfl
theorem wm_6_165 : Cond.code yX12_isPerson cX12_isPerson 3 (some .boolean) ∈ WG := wg_t6 (List.mem_of_getElem? (i := 165) rfl) rfl
theorem wm_6_164 : Cond.instanceMethod yX12_isPerson ∈ WG := wg_t6 (List.mem_of_getElem? (i := 164) rfl) rfl
theorem wp_5_8 : Cond.selects RX12 yX12_isPerson yX12_isPerson ∈ WG := wg_p (q := (yX12_isPerson, 37)) (wg_p5 (List.mem_of_getElem? (i := 8) rfl)) rfl
theorem wm_6_166 : Cond.constantLong RX12 249 (2) ∈ WG := wg_t6 (List.mem_of_getElem? (i := 166) rfl) rfl
theorem wm_6_167 : Cond.methodLink RX12 251 yX12_isIn ∈ WG := wg_t6 (List.mem_of_getElem? (i := 167) rfl) rfl
theorem wm_6_169 : Cond.code yX12_isIn cX12_isIn 3 (some .boolean) ∈ WG := wg_t6 (List.mem_of_getElem? (i := 169) rfl) rfl
theorem wm_6_168 : Cond.static yX12_isIn ∈ WG := wg_t6 (List.mem_of_getElem? (i := 168) rfl) rfl
theorem wm_6_174 : Cond.methodLink RX12 220 yX12_townOn ∈ WG := wg_t6 (List.mem_of_getElem? (i := 174) rfl) rfl
theorem wm_6_177 : Cond.code yX12_townOn cX12_townOn 4 (some .int) ∈ WG := wg_t6 (List.mem_of_getElem? (i := 177) rfl) rfl
theorem wm_6_176 : Cond.instanceMethod yX12_townOn ∈ WG := wg_t6 (List.mem_of_getElem? (i := 176) rfl) rfl
theorem wp_5_10 : Cond.selects RX12 yX12_townOn yX12_townOn ∈ WG := wg_p (q := (yX12_townOn, 37)) (wg_p5 (List.mem_of_getElem? (i := 10) rfl)) rfl
theorem wm_6_170 : Cond.methodLink RX12 255 yX12_townNow ∈ WG := wg_t6 (List.mem_of_getElem? (i := 170) rfl) rfl
theorem wm_6_173 : Cond.code yX12_townNow cX12_townNow 1 (some .int) ∈ WG := wg_t6 (List.mem_of_getElem? (i := 173) rfl) rfl
theorem wm_6_172 : Cond.instanceMethod yX12_townNow ∈ WG := wg_t6 (List.mem_of_getElem? (i := 172) rfl) rfl
theorem wp_5_9 : Cond.selects RX12 yX12_townNow yX12_townNow ∈ WG := wg_p (q := (yX12_townNow, 37)) (wg_p5 (List.mem_of_getElem? (i := 9) rfl)) rfl
theorem wm_6_182 : Cond.constantLong RX12 258 (999) ∈ WG := wg_t6 (List.mem_of_getElem? (i := 182) rfl) rfl
theorem wm_5_187 : Cond.fieldLink RX12 33 "OppositeHouseModel" "words" "[I" ∈ WG := wg_t5 (List.mem_of_getElem? (i := 187) rfl) rfl
theorem wm_6_191 : Cond.methodLink RX12 231 yX12_asks ∈ WG := wg_t6 (List.mem_of_getElem? (i := 191) rfl) rfl
theorem wm_6_194 : Cond.code yX12_asks cX12_asks 5 none ∈ WG := wg_t6 (List.mem_of_getElem? (i := 194) rfl) rfl
theorem wm_6_193 : Cond.instanceMethod yX12_asks ∈ WG := wg_t6 (List.mem_of_getElem? (i := 193) rfl) rfl
theorem wp_5_12 : Cond.selects RX12 yX12_asks yX12_asks ∈ WG := wg_p (q := (yX12_asks, 37)) (wg_p5 (List.mem_of_getElem? (i := 12) rfl)) rfl
theorem wm_5_186 : Cond.fieldLink RX12 30 "OppositeHouseModel" "reckoned" "[I" ∈ WG := wg_t5 (List.mem_of_getElem? (i := 186) rfl) rfl
theorem wm_6_202 : Cond.constantLong RX12 223 (1000000) ∈ WG := wg_t6 (List.mem_of_getElem? (i := 202) rfl) rfl
theorem wm_6_203 : Cond.constantLong RX12 225 (-1000000) ∈ WG := wg_t6 (List.mem_of_getElem? (i := 203) rfl) rfl
theorem wm_6_199 : Cond.methodLink RX12 227 yX12_between ∈ WG := wg_t6 (List.mem_of_getElem? (i := 199) rfl) rfl
theorem wm_6_201 : Cond.code yX12_between cX12_between 5 (some .int) ∈ WG := wg_t6 (List.mem_of_getElem? (i := 201) rfl) rfl
theorem wm_6_200 : Cond.static yX12_between ∈ WG := wg_t6 (List.mem_of_getElem? (i := 200) rfl) rfl
theorem wm_6_195 : Cond.methodLink RX12 235 yX12_reckons ∈ WG := wg_t6 (List.mem_of_getElem? (i := 195) rfl) rfl
theorem wm_6_198 : Cond.code yX12_reckons cX12_reckons 5 (some .int) ∈ WG := wg_t6 (List.mem_of_getElem? (i := 198) rfl) rfl
theorem wm_6_197 : Cond.instanceMethod yX12_reckons ∈ WG := wg_t6 (List.mem_of_getElem? (i := 197) rfl) rfl
theorem wp_5_13 : Cond.selects RX12 yX12_reckons yX12_reckons ∈ WG := wg_p (q := (yX12_reckons, 37)) (wg_p5 (List.mem_of_getElem? (i := 13) rfl)) rfl
theorem wm_6_187 : Cond.methodLink RX12 241 yX12_areOpposed ∈ WG := wg_t6 (List.mem_of_getElem? (i := 187) rfl) rfl
theorem wm_6_190 : Cond.code yX12_areOpposed cX12_areOpposed 4 (some .boolean) ∈ WG := wg_t6 (List.mem_of_getElem? (i := 190) rfl) rfl
theorem wm_6_189 : Cond.instanceMethod yX12_areOpposed ∈ WG := wg_t6 (List.mem_of_getElem? (i := 189) rfl) rfl
theorem wp_5_11 : Cond.selects RX12 yX12_areOpposed yX12_areOpposed ∈ WG := wg_p (q := (yX12_areOpposed, 37)) (wg_p5 (List.mem_of_getElem? (i := 11) rfl)) rfl
theorem wm_6_208 : Cond.methodLink RX12 260 yX12_opposedTo ∈ WG := wg_t6 (List.mem_of_getElem? (i := 208) rfl) rfl
theorem wm_6_211 : Cond.code yX12_opposedTo cX12_opposedTo 4 (some .int) ∈ WG := wg_t6 (List.mem_of_getElem? (i := 211) rfl) rfl
theorem wm_6_210 : Cond.instanceMethod yX12_opposedTo ∈ WG := wg_t6 (List.mem_of_getElem? (i := 210) rfl) rfl
theorem wp_5_14 : Cond.selects RX12 yX12_opposedTo yX12_opposedTo ∈ WG := wg_p (q := (yX12_opposedTo, 37)) (wg_p5 (List.mem_of_getElem? (i := 14) rfl)) rfl
theorem wm_5_190 : Cond.fieldLink RX12 42 "OppositeHouseModel" "was" "[I" ∈ WG := wg_t5 (List.mem_of_getElem? (i := 190) rfl) rfl
theorem hd_X12_plain : yX12_plain.cls ≠ "java/lang/invoke/MethodHandle" ∧ yX12_plain.cls ≠ "java/lang/invoke/VarHandle" ∧ (parseMethodDescriptor yX12_plain.desc).map (fun d => d.parameters.length) = some 1 := by decide +kernel
theorem hd_X12_ends : yX12_ends.cls ≠ "java/lang/invoke/MethodHandle" ∧ yX12_ends.cls ≠ "java/lang/invoke/VarHandle" ∧ (parseMethodDescriptor yX12_ends.desc).map (fun d => d.parameters.length) = some 0 := by decide +kernel
theorem hd_X12_readLaw : yX12_readLaw.cls ≠ "java/lang/invoke/MethodHandle" ∧ yX12_readLaw.cls ≠ "java/lang/invoke/VarHandle" ∧ (parseMethodDescriptor yX12_readLaw.desc).map (fun d => d.parameters.length) = some 1 := by decide +kernel
theorem hd_X12_readPerson : yX12_readPerson.cls ≠ "java/lang/invoke/MethodHandle" ∧ yX12_readPerson.cls ≠ "java/lang/invoke/VarHandle" ∧ (parseMethodDescriptor yX12_readPerson.desc).map (fun d => d.parameters.length) = some 0 := by decide +kernel
theorem hd_X12_readLine : yX12_readLine.cls ≠ "java/lang/invoke/MethodHandle" ∧ yX12_readLine.cls ≠ "java/lang/invoke/VarHandle" ∧ (parseMethodDescriptor yX12_readLine.desc).map (fun d => d.parameters.length) = some 0 := by decide +kernel
theorem hd_X12_isPerson : yX12_isPerson.cls ≠ "java/lang/invoke/MethodHandle" ∧ yX12_isPerson.cls ≠ "java/lang/invoke/VarHandle" ∧ (parseMethodDescriptor yX12_isPerson.desc).map (fun d => d.parameters.length) = some 1 := by decide +kernel
theorem hd_X12_isIn : yX12_isIn.cls ≠ "java/lang/invoke/MethodHandle" ∧ yX12_isIn.cls ≠ "java/lang/invoke/VarHandle" ∧ (parseMethodDescriptor yX12_isIn.desc).map (fun d => d.parameters.length) = some 2 := by decide +kernel
theorem hd_X12_townOn : yX12_townOn.cls ≠ "java/lang/invoke/MethodHandle" ∧ yX12_townOn.cls ≠ "java/lang/invoke/VarHandle" ∧ (parseMethodDescriptor yX12_townOn.desc).map (fun d => d.parameters.length) = some 1 := by decide +kernel
theorem hd_X12_townNow : yX12_townNow.cls ≠ "java/lang/invoke/MethodHandle" ∧ yX12_townNow.cls ≠ "java/lang/invoke/VarHandle" ∧ (parseMethodDescriptor yX12_townNow.desc).map (fun d => d.parameters.length) = some 0 := by decide +kernel
theorem hd_X12_asks : yX12_asks.cls ≠ "java/lang/invoke/MethodHandle" ∧ yX12_asks.cls ≠ "java/lang/invoke/VarHandle" ∧ (parseMethodDescriptor yX12_asks.desc).map (fun d => d.parameters.length) = some 3 := by decide +kernel
theorem hd_X12_between : yX12_between.cls ≠ "java/lang/invoke/MethodHandle" ∧ yX12_between.cls ≠ "java/lang/invoke/VarHandle" ∧ (parseMethodDescriptor yX12_between.desc).map (fun d => d.parameters.length) = some 3 := by decide +kernel
theorem hd_X12_reckons : yX12_reckons.cls ≠ "java/lang/invoke/MethodHandle" ∧ yX12_reckons.cls ≠ "java/lang/invoke/VarHandle" ∧ (parseMethodDescriptor yX12_reckons.desc).map (fun d => d.parameters.length) = some 1 := by decide +kernel
theorem hd_X12_areOpposed : yX12_areOpposed.cls ≠ "java/lang/invoke/MethodHandle" ∧ yX12_areOpposed.cls ≠ "java/lang/invoke/VarHandle" ∧ (parseMethodDescriptor yX12_areOpposed.desc).map (fun d => d.parameters.length) = some 3 := by decide +kernel
theorem hd_X12_opposedTo : yX12_opposedTo.cls ≠ "java/lang/invoke/MethodHandle" ∧ yX12_opposedTo.cls ≠ "java/lang/invoke/VarHandle" ∧ (parseMethodDescriptor yX12_opposedTo.desc).map (fun d => d.parameters.length) = some 1 := by decide +kernel
theorem dX12_areOpposed_0 : decode cX12_areOpposed 0 = .ok (.aload_n 0, 1) := by decide +kernel
theorem dX12_areOpposed_1 : decode cX12_areOpposed 1 = .ok (.getfield 13, 3) := by decide +kernel
theorem dX12_areOpposed_4 : decode cX12_areOpposed 4 = .ok (.iconst 3, 1) := by decide +kernel
theorem dX12_areOpposed_5 : decode cX12_areOpposed 5 = .ok (.iaload, 1) := by decide +kernel
theorem dX12_areOpposed_6 : decode cX12_areOpposed 6 = .ok (.ifCond .ne 37, 3) := by decide +kernel
theorem dX12_areOpposed_9 : decode cX12_areOpposed 9 = .ok (.aload_n 0, 1) := by decide +kernel
theorem dX12_areOpposed_10 : decode cX12_areOpposed 10 = .ok (.getfield 13, 3) := by decide +kernel
theorem dX12_areOpposed_13 : decode cX12_areOpposed 13 = .ok (.bipush 54, 2) := by decide +kernel
theorem dX12_areOpposed_15 : decode cX12_areOpposed 15 = .ok (.iconst 3, 1) := by decide +kernel
theorem dX12_areOpposed_16 : decode cX12_areOpposed 16 = .ok (.iload_n 1, 1) := by decide +kernel
theorem dX12_areOpposed_17 : decode cX12_areOpposed 17 = .ok (.imul, 1) := by decide +kernel
theorem dX12_areOpposed_18 : decode cX12_areOpposed 18 = .ok (.iadd, 1) := by decide +kernel
theorem dX12_areOpposed_19 : decode cX12_areOpposed 19 = .ok (.iaload, 1) := by decide +kernel
theorem dX12_areOpposed_20 : decode cX12_areOpposed 20 = .ok (.aload_n 0, 1) := by decide +kernel
theorem dX12_areOpposed_21 : decode cX12_areOpposed 21 = .ok (.getfield 13, 3) := by decide +kernel
theorem dX12_areOpposed_24 : decode cX12_areOpposed 24 = .ok (.bipush 54, 2) := by decide +kernel
theorem dX12_areOpposed_26 : decode cX12_areOpposed 26 = .ok (.iconst 3, 1) := by decide +kernel
theorem dX12_areOpposed_27 : decode cX12_areOpposed 27 = .ok (.iload_n 2, 1) := by decide +kernel
theorem dX12_areOpposed_28 : decode cX12_areOpposed 28 = .ok (.imul, 1) := by decide +kernel
theorem dX12_areOpposed_29 : decode cX12_areOpposed 29 = .ok (.iadd, 1) := by decide +kernel
theorem dX12_areOpposed_30 : decode cX12_areOpposed 30 = .ok (.iaload, 1) := by decide +kernel
theorem dX12_areOpposed_31 : decode cX12_areOpposed 31 = .ok (.iadd, 1) := by decide +kernel
theorem dX12_areOpposed_32 : decode cX12_areOpposed 32 = .ok (.bipush 9, 2) := by decide +kernel
theorem dX12_areOpposed_34 : decode cX12_areOpposed 34 = .ok (.if_icmp .ne 7, 3) := by decide +kernel
theorem dX12_areOpposed_37 : decode cX12_areOpposed 37 = .ok (.iconst 1, 1) := by decide +kernel
theorem dX12_areOpposed_38 : decode cX12_areOpposed 38 = .ok (.goto 4, 3) := by decide +kernel
theorem dX12_areOpposed_41 : decode cX12_areOpposed 41 = .ok (.iconst 0, 1) := by decide +kernel
theorem dX12_areOpposed_42 : decode cX12_areOpposed 42 = .ok (.ireturn, 1) := by decide +kernel
theorem dX12_areOpposed_43 : decode cX12_areOpposed 43 = .ok (.aload_n 0, 1) := by decide +kernel
theorem dX12_areOpposed_44 : decode cX12_areOpposed 44 = .ok (.iload_n 1, 1) := by decide +kernel
theorem dX12_areOpposed_45 : decode cX12_areOpposed 45 = .ok (.iload_n 2, 1) := by decide +kernel
theorem dX12_areOpposed_46 : decode cX12_areOpposed 46 = .ok (.iload_n 3, 1) := by decide +kernel
theorem dX12_areOpposed_47 : decode cX12_areOpposed 47 = .ok (.invokevirtual 231, 3) := by decide +kernel
theorem dX12_areOpposed_50 : decode cX12_areOpposed 50 = .ok (.aload_n 0, 1) := by decide +kernel
theorem dX12_areOpposed_51 : decode cX12_areOpposed 51 = .ok (.iconst 0, 1) := by decide +kernel
theorem dX12_areOpposed_52 : decode cX12_areOpposed 52 = .ok (.invokevirtual 235, 3) := by decide +kernel
theorem dX12_areOpposed_55 : decode cX12_areOpposed 55 = .ok (.iconst 1, 1) := by decide +kernel
theorem dX12_areOpposed_56 : decode cX12_areOpposed 56 = .ok (.if_icmp .ne 5, 3) := by decide +kernel
theorem dX12_areOpposed_59 : decode cX12_areOpposed 59 = .ok (.iconst 1, 1) := by decide +kernel
theorem dX12_areOpposed_60 : decode cX12_areOpposed 60 = .ok (.ireturn, 1) := by decide +kernel
theorem dX12_areOpposed_61 : decode cX12_areOpposed 61 = .ok (.aload_n 0, 1) := by decide +kernel
theorem dX12_areOpposed_62 : decode cX12_areOpposed 62 = .ok (.iload_n 2, 1) := by decide +kernel
theorem dX12_areOpposed_63 : decode cX12_areOpposed 63 = .ok (.iload_n 1, 1) := by decide +kernel
theorem dX12_areOpposed_64 : decode cX12_areOpposed 64 = .ok (.iload_n 3, 1) := by decide +kernel
theorem dX12_areOpposed_65 : decode cX12_areOpposed 65 = .ok (.invokevirtual 231, 3) := by decide +kernel
theorem dX12_areOpposed_68 : decode cX12_areOpposed 68 = .ok (.aload_n 0, 1) := by decide +kernel
theorem dX12_areOpposed_69 : decode cX12_areOpposed 69 = .ok (.iconst 0, 1) := by decide +kernel
theorem dX12_areOpposed_70 : decode cX12_areOpposed 70 = .ok (.invokevirtual 235, 3) := by decide +kernel
theorem dX12_areOpposed_73 : decode cX12_areOpposed 73 = .ok (.iconst 1, 1) := by decide +kernel
theorem dX12_areOpposed_74 : decode cX12_areOpposed 74 = .ok (.if_icmp .ne 7, 3) := by decide +kernel
theorem dX12_areOpposed_77 : decode cX12_areOpposed 77 = .ok (.iconst 1, 1) := by decide +kernel
theorem dX12_areOpposed_78 : decode cX12_areOpposed 78 = .ok (.goto 4, 3) := by decide +kernel
theorem dX12_areOpposed_81 : decode cX12_areOpposed 81 = .ok (.iconst 0, 1) := by decide +kernel
theorem dX12_areOpposed_82 : decode cX12_areOpposed 82 = .ok (.ireturn, 1) := by decide +kernel
theorem dX12_asks_0 : decode cX12_asks 0 = .ok (.iconst 0, 1) := by decide +kernel
theorem dX12_asks_1 : decode cX12_asks 1 = .ok (.istore 4, 2) := by decide +kernel
theorem dX12_asks_3 : decode cX12_asks 3 = .ok (.iload 4, 2) := by decide +kernel
theorem dX12_asks_5 : decode cX12_asks 5 = .ok (.iconst 3, 1) := by decide +kernel
theorem dX12_asks_6 : decode cX12_asks 6 = .ok (.if_icmp .ge 53, 3) := by decide +kernel
theorem dX12_asks_9 : decode cX12_asks 9 = .ok (.aload_n 0, 1) := by decide +kernel
theorem dX12_asks_10 : decode cX12_asks 10 = .ok (.getfield 33, 3) := by decide +kernel
theorem dX12_asks_13 : decode cX12_asks 13 = .ok (.iload 4, 2) := by decide +kernel
theorem dX12_asks_15 : decode cX12_asks 15 = .ok (.aload_n 0, 1) := by decide +kernel
theorem dX12_asks_16 : decode cX12_asks 16 = .ok (.getfield 13, 3) := by decide +kernel
theorem dX12_asks_19 : decode cX12_asks 19 = .ok (.bipush 54, 2) := by decide +kernel
theorem dX12_asks_21 : decode cX12_asks 21 = .ok (.iconst 3, 1) := by decide +kernel
theorem dX12_asks_22 : decode cX12_asks 22 = .ok (.iload_n 1, 1) := by decide +kernel
theorem dX12_asks_23 : decode cX12_asks 23 = .ok (.imul, 1) := by decide +kernel
theorem dX12_asks_24 : decode cX12_asks 24 = .ok (.iadd, 1) := by decide +kernel
theorem dX12_asks_25 : decode cX12_asks 25 = .ok (.iload 4, 2) := by decide +kernel
theorem dX12_asks_27 : decode cX12_asks 27 = .ok (.iadd, 1) := by decide +kernel
theorem dX12_asks_28 : decode cX12_asks 28 = .ok (.iaload, 1) := by decide +kernel
theorem dX12_asks_29 : decode cX12_asks 29 = .ok (.iastore, 1) := by decide +kernel
theorem dX12_asks_30 : decode cX12_asks 30 = .ok (.aload_n 0, 1) := by decide +kernel
theorem dX12_asks_31 : decode cX12_asks 31 = .ok (.getfield 33, 3) := by decide +kernel
theorem dX12_asks_34 : decode cX12_asks 34 = .ok (.iconst 5, 1) := by decide +kernel
theorem dX12_asks_35 : decode cX12_asks 35 = .ok (.iload 4, 2) := by decide +kernel
theorem dX12_asks_37 : decode cX12_asks 37 = .ok (.iadd, 1) := by decide +kernel
theorem dX12_asks_38 : decode cX12_asks 38 = .ok (.aload_n 0, 1) := by decide +kernel
theorem dX12_asks_39 : decode cX12_asks 39 = .ok (.getfield 13, 3) := by decide +kernel
theorem dX12_asks_42 : decode cX12_asks 42 = .ok (.bipush 54, 2) := by decide +kernel
theorem dX12_asks_44 : decode cX12_asks 44 = .ok (.iconst 3, 1) := by decide +kernel
theorem dX12_asks_45 : decode cX12_asks 45 = .ok (.iload_n 2, 1) := by decide +kernel
theorem dX12_asks_46 : decode cX12_asks 46 = .ok (.imul, 1) := by decide +kernel
theorem dX12_asks_47 : decode cX12_asks 47 = .ok (.iadd, 1) := by decide +kernel
theorem dX12_asks_48 : decode cX12_asks 48 = .ok (.iload 4, 2) := by decide +kernel
theorem dX12_asks_50 : decode cX12_asks 50 = .ok (.iadd, 1) := by decide +kernel
theorem dX12_asks_51 : decode cX12_asks 51 = .ok (.iaload, 1) := by decide +kernel
theorem dX12_asks_52 : decode cX12_asks 52 = .ok (.iastore, 1) := by decide +kernel
theorem dX12_asks_53 : decode cX12_asks 53 = .ok (.iinc 4 1, 3) := by decide +kernel
theorem dX12_asks_56 : decode cX12_asks 56 = .ok (.goto (-53), 3) := by decide +kernel
theorem dX12_asks_59 : decode cX12_asks 59 = .ok (.aload_n 0, 1) := by decide +kernel
theorem dX12_asks_60 : decode cX12_asks 60 = .ok (.getfield 33, 3) := by decide +kernel
theorem dX12_asks_63 : decode cX12_asks 63 = .ok (.iconst 3, 1) := by decide +kernel
theorem dX12_asks_64 : decode cX12_asks 64 = .ok (.iload_n 1, 1) := by decide +kernel
theorem dX12_asks_65 : decode cX12_asks 65 = .ok (.iastore, 1) := by decide +kernel
theorem dX12_asks_66 : decode cX12_asks 66 = .ok (.aload_n 0, 1) := by decide +kernel
theorem dX12_asks_67 : decode cX12_asks 67 = .ok (.getfield 33, 3) := by decide +kernel
theorem dX12_asks_70 : decode cX12_asks 70 = .ok (.bipush 8, 2) := by decide +kernel
theorem dX12_asks_72 : decode cX12_asks 72 = .ok (.iload_n 2, 1) := by decide +kernel
theorem dX12_asks_73 : decode cX12_asks 73 = .ok (.iastore, 1) := by decide +kernel
theorem dX12_asks_74 : decode cX12_asks 74 = .ok (.aload_n 0, 1) := by decide +kernel
theorem dX12_asks_75 : decode cX12_asks 75 = .ok (.getfield 33, 3) := by decide +kernel
theorem dX12_asks_78 : decode cX12_asks 78 = .ok (.iconst 4, 1) := by decide +kernel
theorem dX12_asks_79 : decode cX12_asks 79 = .ok (.iload_n 3, 1) := by decide +kernel
theorem dX12_asks_80 : decode cX12_asks 80 = .ok (.bipush 7, 2) := by decide +kernel
theorem dX12_asks_82 : decode cX12_asks 82 = .ok (.irem, 1) := by decide +kernel
theorem dX12_asks_83 : decode cX12_asks 83 = .ok (.iastore, 1) := by decide +kernel
theorem dX12_asks_84 : decode cX12_asks 84 = .ok (.return_, 1) := by decide +kernel
theorem dX12_between_0 : decode cX12_between 0 = .ok (.iload_n 0, 1) := by decide +kernel
theorem dX12_between_1 : decode cX12_between 1 = .ok (.tableswitch 80 3003 3008 #[39, 50, 61, 80, 72, 76], 39) := by decide +kernel
theorem dX12_between_40 : decode cX12_between 40 = .ok (.iload_n 1, 1) := by decide +kernel
theorem dX12_between_41 : decode cX12_between 41 = .ok (.iload_n 2, 1) := by decide +kernel
theorem dX12_between_42 : decode cX12_between 42 = .ok (.if_icmp .ne 7, 3) := by decide +kernel
theorem dX12_between_45 : decode cX12_between 45 = .ok (.iconst 1, 1) := by decide +kernel
theorem dX12_between_46 : decode cX12_between 46 = .ok (.goto 4, 3) := by decide +kernel
theorem dX12_between_49 : decode cX12_between 49 = .ok (.iconst 0, 1) := by decide +kernel
theorem dX12_between_50 : decode cX12_between 50 = .ok (.ireturn, 1) := by decide +kernel
theorem dX12_between_51 : decode cX12_between 51 = .ok (.iload_n 1, 1) := by decide +kernel
theorem dX12_between_52 : decode cX12_between 52 = .ok (.iload_n 2, 1) := by decide +kernel
theorem dX12_between_53 : decode cX12_between 53 = .ok (.if_icmp .ge 7, 3) := by decide +kernel
theorem dX12_between_56 : decode cX12_between 56 = .ok (.iconst 1, 1) := by decide +kernel
theorem dX12_between_57 : decode cX12_between 57 = .ok (.goto 4, 3) := by decide +kernel
theorem dX12_between_60 : decode cX12_between 60 = .ok (.iconst 0, 1) := by decide +kernel
theorem dX12_between_61 : decode cX12_between 61 = .ok (.ireturn, 1) := by decide +kernel
theorem dX12_between_62 : decode cX12_between 62 = .ok (.iload_n 1, 1) := by decide +kernel
theorem dX12_between_63 : decode cX12_between 63 = .ok (.iload_n 2, 1) := by decide +kernel
theorem dX12_between_64 : decode cX12_between 64 = .ok (.if_icmp .le 7, 3) := by decide +kernel
theorem dX12_between_67 : decode cX12_between 67 = .ok (.iconst 1, 1) := by decide +kernel
theorem dX12_between_68 : decode cX12_between 68 = .ok (.goto 4, 3) := by decide +kernel
theorem dX12_between_71 : decode cX12_between 71 = .ok (.iconst 0, 1) := by decide +kernel
theorem dX12_between_72 : decode cX12_between 72 = .ok (.ireturn, 1) := by decide +kernel
theorem dX12_between_73 : decode cX12_between 73 = .ok (.iload_n 1, 1) := by decide +kernel
theorem dX12_between_74 : decode cX12_between 74 = .ok (.iload_n 2, 1) := by decide +kernel
theorem dX12_between_75 : decode cX12_between 75 = .ok (.iand, 1) := by decide +kernel
theorem dX12_between_76 : decode cX12_between 76 = .ok (.ireturn, 1) := by decide +kernel
theorem dX12_between_77 : decode cX12_between 77 = .ok (.iload_n 1, 1) := by decide +kernel
theorem dX12_between_78 : decode cX12_between 78 = .ok (.iload_n 2, 1) := by decide +kernel
theorem dX12_between_79 : decode cX12_between 79 = .ok (.ior, 1) := by decide +kernel
theorem dX12_between_80 : decode cX12_between 80 = .ok (.ireturn, 1) := by decide +kernel
theorem dX12_between_81 : decode cX12_between 81 = .ok (.iload_n 0, 1) := by decide +kernel
theorem dX12_between_82 : decode cX12_between 82 = .ok (.sipush 3000, 3) := by decide +kernel
theorem dX12_between_85 : decode cX12_between 85 = .ok (.if_icmp .ne 11, 3) := by decide +kernel
theorem dX12_between_88 : decode cX12_between 88 = .ok (.iload_n 1, 1) := by decide +kernel
theorem dX12_between_89 : decode cX12_between 89 = .ok (.i2l, 1) := by decide +kernel
theorem dX12_between_90 : decode cX12_between 90 = .ok (.iload_n 2, 1) := by decide +kernel
theorem dX12_between_91 : decode cX12_between 91 = .ok (.i2l, 1) := by decide +kernel
theorem dX12_between_92 : decode cX12_between 92 = .ok (.ladd, 1) := by decide +kernel
theorem dX12_between_93 : decode cX12_between 93 = .ok (.goto 23, 3) := by decide +kernel
theorem dX12_between_96 : decode cX12_between 96 = .ok (.iload_n 0, 1) := by decide +kernel
theorem dX12_between_97 : decode cX12_between 97 = .ok (.sipush 3001, 3) := by decide +kernel
theorem dX12_between_100 : decode cX12_between 100 = .ok (.if_icmp .ne 11, 3) := by decide +kernel
theorem dX12_between_103 : decode cX12_between 103 = .ok (.iload_n 1, 1) := by decide +kernel
theorem dX12_between_104 : decode cX12_between 104 = .ok (.i2l, 1) := by decide +kernel
theorem dX12_between_105 : decode cX12_between 105 = .ok (.iload_n 2, 1) := by decide +kernel
theorem dX12_between_106 : decode cX12_between 106 = .ok (.i2l, 1) := by decide +kernel
theorem dX12_between_107 : decode cX12_between 107 = .ok (.lsub, 1) := by decide +kernel
theorem dX12_between_108 : decode cX12_between 108 = .ok (.goto 8, 3) := by decide +kernel
theorem dX12_between_111 : decode cX12_between 111 = .ok (.iload_n 1, 1) := by decide +kernel
theorem dX12_between_112 : decode cX12_between 112 = .ok (.i2l, 1) := by decide +kernel
theorem dX12_between_113 : decode cX12_between 113 = .ok (.iload_n 2, 1) := by decide +kernel
theorem dX12_between_114 : decode cX12_between 114 = .ok (.i2l, 1) := by decide +kernel
theorem dX12_between_115 : decode cX12_between 115 = .ok (.lmul, 1) := by decide +kernel
theorem dX12_between_116 : decode cX12_between 116 = .ok (.lstore_n 3, 1) := by decide +kernel
theorem dX12_between_117 : decode cX12_between 117 = .ok (.lload_n 3, 1) := by decide +kernel
theorem dX12_between_118 : decode cX12_between 118 = .ok (.ldc2_w 223, 3) := by decide +kernel
theorem dX12_between_121 : decode cX12_between 121 = .ok (.lcmp, 1) := by decide +kernel
theorem dX12_between_122 : decode cX12_between 122 = .ok (.ifCond .le 9, 3) := by decide +kernel
theorem dX12_between_125 : decode cX12_between 125 = .ok (.ldc2_w 223, 3) := by decide +kernel
theorem dX12_between_128 : decode cX12_between 128 = .ok (.goto 18, 3) := by decide +kernel
theorem dX12_between_131 : decode cX12_between 131 = .ok (.lload_n 3, 1) := by decide +kernel
theorem dX12_between_132 : decode cX12_between 132 = .ok (.ldc2_w 225, 3) := by decide +kernel
theorem dX12_between_135 : decode cX12_between 135 = .ok (.lcmp, 1) := by decide +kernel
theorem dX12_between_136 : decode cX12_between 136 = .ok (.ifCond .ge 9, 3) := by decide +kernel
theorem dX12_between_139 : decode cX12_between 139 = .ok (.ldc2_w 225, 3) := by decide +kernel
theorem dX12_between_142 : decode cX12_between 142 = .ok (.goto 4, 3) := by decide +kernel
theorem dX12_between_145 : decode cX12_between 145 = .ok (.lload_n 3, 1) := by decide +kernel
theorem dX12_between_146 : decode cX12_between 146 = .ok (.l2i, 1) := by decide +kernel
theorem dX12_between_147 : decode cX12_between 147 = .ok (.ireturn, 1) := by decide +kernel
theorem dX12_house_0 : decode cX12_house 0 = .ok (.aload_n 0, 1) := by decide +kernel
theorem dX12_house_1 : decode cX12_house 1 = .ok (.iconst 0, 1) := by decide +kernel
theorem dX12_house_2 : decode cX12_house 2 = .ok (.putfield 1, 3) := by decide +kernel
theorem dX12_house_5 : decode cX12_house 5 = .ok (.iload_n 1, 1) := by decide +kernel
theorem dX12_house_6 : decode cX12_house 6 = .ok (.i2l, 1) := by decide +kernel
theorem dX12_house_7 : decode cX12_house 7 = .ok (.lconst 0, 1) := by decide +kernel
theorem dX12_house_8 : decode cX12_house 8 = .ok (.aload_n 0, 1) := by decide +kernel
theorem dX12_house_9 : decode cX12_house 9 = .ok (.getfield 83, 3) := by decide +kernel
theorem dX12_house_12 : decode cX12_house 12 = .ok (.i2l, 1) := by decide +kernel
theorem dX12_house_13 : decode cX12_house 13 = .ok (.invokestatic 145, 3) := by decide +kernel
theorem dX12_house_16 : decode cX12_house 16 = .ok (.ifCond .ne 6, 3) := by decide +kernel
theorem dX12_house_19 : decode cX12_house 19 = .ok (.bipush (-3), 2) := by decide +kernel
theorem dX12_house_21 : decode cX12_house 21 = .ok (.ireturn, 1) := by decide +kernel
theorem dX12_house_22 : decode cX12_house 22 = .ok (.aload_n 0, 1) := by decide +kernel
theorem dX12_house_23 : decode cX12_house 23 = .ok (.iload_n 1, 1) := by decide +kernel
theorem dX12_house_24 : decode cX12_house 24 = .ok (.putfield 86, 3) := by decide +kernel
theorem dX12_house_27 : decode cX12_house 27 = .ok (.aload_n 0, 1) := by decide +kernel
theorem dX12_house_28 : decode cX12_house 28 = .ok (.iconst 0, 1) := by decide +kernel
theorem dX12_house_29 : decode cX12_house 29 = .ok (.putfield 83, 3) := by decide +kernel
theorem dX12_house_32 : decode cX12_house 32 = .ok (.aload_n 0, 1) := by decide +kernel
theorem dX12_house_33 : decode cX12_house 33 = .ok (.iconst 0, 1) := by decide +kernel
theorem dX12_house_34 : decode cX12_house 34 = .ok (.putfield 104, 3) := by decide +kernel
theorem dX12_house_37 : decode cX12_house 37 = .ok (.aload_n 0, 1) := by decide +kernel
theorem dX12_house_38 : decode cX12_house 38 = .ok (.iconst 0, 1) := by decide +kernel
theorem dX12_house_39 : decode cX12_house 39 = .ok (.putfield 129, 3) := by decide +kernel
theorem dX12_house_42 : decode cX12_house 42 = .ok (.aload_n 0, 1) := by decide +kernel
theorem dX12_house_43 : decode cX12_house 43 = .ok (.getfield 24, 3) := by decide +kernel
theorem dX12_house_46 : decode cX12_house 46 = .ok (.invokestatic 79, 3) := by decide +kernel
theorem dX12_house_49 : decode cX12_house 49 = .ok (.aload_n 0, 1) := by decide +kernel
theorem dX12_house_50 : decode cX12_house 50 = .ok (.invokevirtual 138, 3) := by decide +kernel
theorem dX12_house_53 : decode cX12_house 53 = .ok (.aload_n 0, 1) := by decide +kernel
theorem dX12_house_54 : decode cX12_house 54 = .ok (.iconst 0, 1) := by decide +kernel
theorem dX12_house_55 : decode cX12_house 55 = .ok (.invokevirtual 172, 3) := by decide +kernel
theorem dX12_house_58 : decode cX12_house 58 = .ok (.ifCond .ne 8, 3) := by decide +kernel
theorem dX12_house_61 : decode cX12_house 61 = .ok (.aload_n 0, 1) := by decide +kernel
theorem dX12_house_62 : decode cX12_house 62 = .ok (.iconst 2, 1) := by decide +kernel
theorem dX12_house_63 : decode cX12_house 63 = .ok (.invokevirtual 141, 3) := by decide +kernel
theorem dX12_house_66 : decode cX12_house 66 = .ok (.aload_n 0, 1) := by decide +kernel
theorem dX12_house_67 : decode cX12_house 67 = .ok (.iconst 1, 1) := by decide +kernel
theorem dX12_house_68 : decode cX12_house 68 = .ok (.invokevirtual 172, 3) := by decide +kernel
theorem dX12_house_71 : decode cX12_house 71 = .ok (.ifCond .ne 8, 3) := by decide +kernel
theorem dX12_house_74 : decode cX12_house 74 = .ok (.aload_n 0, 1) := by decide +kernel
theorem dX12_house_75 : decode cX12_house 75 = .ok (.iconst 2, 1) := by decide +kernel
theorem dX12_house_76 : decode cX12_house 76 = .ok (.invokevirtual 141, 3) := by decide +kernel
theorem dX12_house_79 : decode cX12_house 79 = .ok (.aload_n 0, 1) := by decide +kernel
theorem dX12_house_80 : decode cX12_house 80 = .ok (.getfield 24, 3) := by decide +kernel
theorem dX12_house_83 : decode cX12_house 83 = .ok (.iconst 1, 1) := by decide +kernel
theorem dX12_house_84 : decode cX12_house 84 = .ok (.aload_n 0, 1) := by decide +kernel
theorem dX12_house_85 : decode cX12_house 85 = .ok (.iconst 1, 1) := by decide +kernel
theorem dX12_house_86 : decode cX12_house 86 = .ok (.iconst 3, 1) := by decide +kernel
theorem dX12_house_87 : decode cX12_house 87 = .ok (.invokevirtual 190, 3) := by decide +kernel
theorem dX12_house_90 : decode cX12_house 90 = .ok (.iastore, 1) := by decide +kernel
theorem dX12_house_91 : decode cX12_house 91 = .ok (.aload_n 0, 1) := by decide +kernel
theorem dX12_house_92 : decode cX12_house 92 = .ok (.invokevirtual 208, 3) := by decide +kernel
theorem dX12_house_95 : decode cX12_house 95 = .ok (.aload_n 0, 1) := by decide +kernel
theorem dX12_house_96 : decode cX12_house 96 = .ok (.getfield 129, 3) := by decide +kernel
theorem dX12_house_99 : decode cX12_house 99 = .ok (.ifCond .ne 23, 3) := by decide +kernel
theorem dX12_house_102 : decode cX12_house 102 = .ok (.aload_n 0, 1) := by decide +kernel
theorem dX12_house_103 : decode cX12_house 103 = .ok (.getfield 111, 3) := by decide +kernel
theorem dX12_house_106 : decode cX12_house 106 = .ok (.bipush 26, 2) := by decide +kernel
theorem dX12_house_108 : decode cX12_house 108 = .ok (.if_icmp .eq 14, 3) := by decide +kernel
theorem dX12_house_111 : decode cX12_house 111 = .ok (.aload_n 0, 1) := by decide +kernel
theorem dX12_house_112 : decode cX12_house 112 = .ok (.invokevirtual 211, 3) := by decide +kernel
theorem dX12_house_115 : decode cX12_house 115 = .ok (.aload_n 0, 1) := by decide +kernel
theorem dX12_house_116 : decode cX12_house 116 = .ok (.invokevirtual 208, 3) := by decide +kernel
theorem dX12_house_119 : decode cX12_house 119 = .ok (.goto (-24), 3) := by decide +kernel
theorem dX12_house_122 : decode cX12_house 122 = .ok (.aload_n 0, 1) := by decide +kernel
theorem dX12_house_123 : decode cX12_house 123 = .ok (.aload_n 0, 1) := by decide +kernel
theorem dX12_house_124 : decode cX12_house 124 = .ok (.getfield 129, 3) := by decide +kernel
theorem dX12_house_127 : decode cX12_house 127 = .ok (.putfield 214, 3) := by decide +kernel
theorem dX12_house_130 : decode cX12_house 130 = .ok (.aload_n 0, 1) := by decide +kernel
theorem dX12_house_131 : decode cX12_house 131 = .ok (.aload_n 0, 1) := by decide +kernel
theorem dX12_house_132 : decode cX12_house 132 = .ok (.getfield 129, 3) := by decide +kernel
theorem dX12_house_135 : decode cX12_house 135 = .ok (.ifCond .ne 7, 3) := by decide +kernel
theorem dX12_house_138 : decode cX12_house 138 = .ok (.iconst (-1), 1) := by decide +kernel
theorem dX12_house_139 : decode cX12_house 139 = .ok (.goto 7, 3) := by decide +kernel
theorem dX12_house_142 : decode cX12_house 142 = .ok (.aload_n 0, 1) := by decide +kernel
theorem dX12_house_143 : decode cX12_house 143 = .ok (.getfield 132, 3) := by decide +kernel
theorem dX12_house_146 : decode cX12_house 146 = .ok (.putfield 27, 3) := by decide +kernel
theorem dX12_house_149 : decode cX12_house 149 = .ok (.aload_n 0, 1) := by decide +kernel
theorem dX12_house_150 : decode cX12_house 150 = .ok (.getfield 129, 3) := by decide +kernel
theorem dX12_house_153 : decode cX12_house 153 = .ok (.ifCond .eq 11, 3) := by decide +kernel
theorem dX12_house_156 : decode cX12_house 156 = .ok (.bipush (-30), 2) := by decide +kernel
theorem dX12_house_158 : decode cX12_house 158 = .ok (.aload_n 0, 1) := by decide +kernel
theorem dX12_house_159 : decode cX12_house 159 = .ok (.getfield 129, 3) := by decide +kernel
theorem dX12_house_162 : decode cX12_house 162 = .ok (.isub, 1) := by decide +kernel
theorem dX12_house_163 : decode cX12_house 163 = .ok (.ireturn, 1) := by decide +kernel
theorem dX12_house_164 : decode cX12_house 164 = .ok (.iconst 0, 1) := by decide +kernel
theorem dX12_house_165 : decode cX12_house 165 = .ok (.istore_n 2, 1) := by decide +kernel
theorem dX12_house_166 : decode cX12_house 166 = .ok (.iload_n 2, 1) := by decide +kernel
theorem dX12_house_167 : decode cX12_house 167 = .ok (.sipush 1306, 3) := by decide +kernel
theorem dX12_house_170 : decode cX12_house 170 = .ok (.if_icmp .ge 21, 3) := by decide +kernel
theorem dX12_house_173 : decode cX12_house 173 = .ok (.aload_n 0, 1) := by decide +kernel
theorem dX12_house_174 : decode cX12_house 174 = .ok (.getfield 13, 3) := by decide +kernel
theorem dX12_house_177 : decode cX12_house 177 = .ok (.iload_n 2, 1) := by decide +kernel
theorem dX12_house_178 : decode cX12_house 178 = .ok (.aload_n 0, 1) := by decide +kernel
theorem dX12_house_179 : decode cX12_house 179 = .ok (.getfield 24, 3) := by decide +kernel
theorem dX12_house_182 : decode cX12_house 182 = .ok (.iload_n 2, 1) := by decide +kernel
theorem dX12_house_183 : decode cX12_house 183 = .ok (.iaload, 1) := by decide +kernel
theorem dX12_house_184 : decode cX12_house 184 = .ok (.iastore, 1) := by decide +kernel
theorem dX12_house_185 : decode cX12_house 185 = .ok (.iinc 2 1, 3) := by decide +kernel
theorem dX12_house_188 : decode cX12_house 188 = .ok (.goto (-22), 3) := by decide +kernel
theorem dX12_house_191 : decode cX12_house 191 = .ok (.aload_n 0, 1) := by decide +kernel
theorem dX12_house_192 : decode cX12_house 192 = .ok (.getfield 13, 3) := by decide +kernel
theorem dX12_house_195 : decode cX12_house 195 = .ok (.iconst 0, 1) := by decide +kernel
theorem dX12_house_196 : decode cX12_house 196 = .ok (.iaload, 1) := by decide +kernel
theorem dX12_house_197 : decode cX12_house 197 = .ok (.ireturn, 1) := by decide +kernel
theorem dX12_isIn_0 : decode cX12_isIn 0 = .ok (.lload_n 0, 1) := by decide +kernel
theorem dX12_isIn_1 : decode cX12_isIn 1 = .ok (.iload_n 2, 1) := by decide +kernel
theorem dX12_isIn_2 : decode cX12_isIn 2 = .ok (.lshr, 1) := by decide +kernel
theorem dX12_isIn_3 : decode cX12_isIn 3 = .ok (.lconst 1, 1) := by decide +kernel
theorem dX12_isIn_4 : decode cX12_isIn 4 = .ok (.land, 1) := by decide +kernel
theorem dX12_isIn_5 : decode cX12_isIn 5 = .ok (.lconst 1, 1) := by decide +kernel
theorem dX12_isIn_6 : decode cX12_isIn 6 = .ok (.lcmp, 1) := by decide +kernel
theorem dX12_isIn_7 : decode cX12_isIn 7 = .ok (.ifCond .ne 7, 3) := by decide +kernel
theorem dX12_isIn_10 : decode cX12_isIn 10 = .ok (.iconst 1, 1) := by decide +kernel
theorem dX12_isIn_11 : decode cX12_isIn 11 = .ok (.goto 4, 3) := by decide +kernel
theorem dX12_isIn_14 : decode cX12_isIn 14 = .ok (.iconst 0, 1) := by decide +kernel
theorem dX12_isIn_15 : decode cX12_isIn 15 = .ok (.ireturn, 1) := by decide +kernel
theorem dX12_isPerson_0 : decode cX12_isPerson 0 = .ok (.lload_n 1, 1) := by decide +kernel
theorem dX12_isPerson_1 : decode cX12_isPerson 1 = .ok (.lconst 0, 1) := by decide +kernel
theorem dX12_isPerson_2 : decode cX12_isPerson 2 = .ok (.aload_n 0, 1) := by decide +kernel
theorem dX12_isPerson_3 : decode cX12_isPerson 3 = .ok (.getfield 13, 3) := by decide +kernel
theorem dX12_isPerson_6 : decode cX12_isPerson 6 = .ok (.iconst 2, 1) := by decide +kernel
theorem dX12_isPerson_7 : decode cX12_isPerson 7 = .ok (.iaload, 1) := by decide +kernel
theorem dX12_isPerson_8 : decode cX12_isPerson 8 = .ok (.iconst 1, 1) := by decide +kernel
theorem dX12_isPerson_9 : decode cX12_isPerson 9 = .ok (.isub, 1) := by decide +kernel
theorem dX12_isPerson_10 : decode cX12_isPerson 10 = .ok (.i2l, 1) := by decide +kernel
theorem dX12_isPerson_11 : decode cX12_isPerson 11 = .ok (.invokestatic 145, 3) := by decide +kernel
theorem dX12_isPerson_14 : decode cX12_isPerson 14 = .ok (.ireturn, 1) := by decide +kernel
theorem dX12_keeps_0 : decode cX12_keeps 0 = .ok (.iconst 0, 1) := by decide +kernel
theorem dX12_keeps_1 : decode cX12_keeps 1 = .ok (.istore_n 1, 1) := by decide +kernel
theorem dX12_keeps_2 : decode cX12_keeps 2 = .ok (.iload_n 1, 1) := by decide +kernel
theorem dX12_keeps_3 : decode cX12_keeps 3 = .ok (.bipush 32, 2) := by decide +kernel
theorem dX12_keeps_5 : decode cX12_keeps 5 = .ok (.if_icmp .ge 24, 3) := by decide +kernel
theorem dX12_keeps_8 : decode cX12_keeps 8 = .ok (.aload_n 0, 1) := by decide +kernel
theorem dX12_keeps_9 : decode cX12_keeps 9 = .ok (.getfield 42, 3) := by decide +kernel
theorem dX12_keeps_12 : decode cX12_keeps 12 = .ok (.iload_n 1, 1) := by decide +kernel
theorem dX12_keeps_13 : decode cX12_keeps 13 = .ok (.aload_n 0, 1) := by decide +kernel
theorem dX12_keeps_14 : decode cX12_keeps 14 = .ok (.getfield 13, 3) := by decide +kernel
theorem dX12_keeps_17 : decode cX12_keeps 17 = .ok (.bipush 52, 2) := by decide +kernel
theorem dX12_keeps_19 : decode cX12_keeps 19 = .ok (.iload_n 1, 1) := by decide +kernel
theorem dX12_keeps_20 : decode cX12_keeps 20 = .ok (.iadd, 1) := by decide +kernel
theorem dX12_keeps_21 : decode cX12_keeps 21 = .ok (.iaload, 1) := by decide +kernel
theorem dX12_keeps_22 : decode cX12_keeps 22 = .ok (.iastore, 1) := by decide +kernel
theorem dX12_keeps_23 : decode cX12_keeps 23 = .ok (.iinc 1 1, 3) := by decide +kernel
theorem dX12_keeps_26 : decode cX12_keeps 26 = .ok (.goto (-24), 3) := by decide +kernel
theorem dX12_keeps_29 : decode cX12_keeps 29 = .ok (.return_, 1) := by decide +kernel
theorem dX12_opposed_0 : decode cX12_opposed 0 = .ok (.aload_n 0, 1) := by decide +kernel
theorem dX12_opposed_1 : decode cX12_opposed 1 = .ok (.iconst 0, 1) := by decide +kernel
theorem dX12_opposed_2 : decode cX12_opposed 2 = .ok (.putfield 1, 3) := by decide +kernel
theorem dX12_opposed_5 : decode cX12_opposed 5 = .ok (.aload_n 0, 1) := by decide +kernel
theorem dX12_opposed_6 : decode cX12_opposed 6 = .ok (.iload_n 1, 1) := by decide +kernel
theorem dX12_opposed_7 : decode cX12_opposed 7 = .ok (.i2l, 1) := by decide +kernel
theorem dX12_opposed_8 : decode cX12_opposed 8 = .ok (.invokevirtual 245, 3) := by decide +kernel
theorem dX12_opposed_11 : decode cX12_opposed 11 = .ok (.ifCond .eq 36, 3) := by decide +kernel
theorem dX12_opposed_14 : decode cX12_opposed 14 = .ok (.aload_n 0, 1) := by decide +kernel
theorem dX12_opposed_15 : decode cX12_opposed 15 = .ok (.iload_n 2, 1) := by decide +kernel
theorem dX12_opposed_16 : decode cX12_opposed 16 = .ok (.i2l, 1) := by decide +kernel
theorem dX12_opposed_17 : decode cX12_opposed 17 = .ok (.invokevirtual 245, 3) := by decide +kernel
theorem dX12_opposed_20 : decode cX12_opposed 20 = .ok (.ifCond .eq 27, 3) := by decide +kernel
theorem dX12_opposed_23 : decode cX12_opposed 23 = .ok (.aload_n 0, 1) := by decide +kernel
theorem dX12_opposed_24 : decode cX12_opposed 24 = .ok (.iload_n 1, 1) := by decide +kernel
theorem dX12_opposed_25 : decode cX12_opposed 25 = .ok (.iload_n 2, 1) := by decide +kernel
theorem dX12_opposed_26 : decode cX12_opposed 26 = .ok (.aload_n 0, 1) := by decide +kernel
theorem dX12_opposed_27 : decode cX12_opposed 27 = .ok (.getfield 13, 3) := by decide +kernel
theorem dX12_opposed_30 : decode cX12_opposed 30 = .ok (.bipush 52, 2) := by decide +kernel
theorem dX12_opposed_32 : decode cX12_opposed 32 = .ok (.iaload, 1) := by decide +kernel
theorem dX12_opposed_33 : decode cX12_opposed 33 = .ok (.invokevirtual 241, 3) := by decide +kernel
theorem dX12_opposed_36 : decode cX12_opposed 36 = .ok (.ifCond .eq 7, 3) := by decide +kernel
theorem dX12_opposed_39 : decode cX12_opposed 39 = .ok (.iconst 1, 1) := by decide +kernel
theorem dX12_opposed_40 : decode cX12_opposed 40 = .ok (.goto 9, 3) := by decide +kernel
theorem dX12_opposed_43 : decode cX12_opposed 43 = .ok (.iconst 0, 1) := by decide +kernel
theorem dX12_opposed_44 : decode cX12_opposed 44 = .ok (.goto 5, 3) := by decide +kernel
theorem dX12_opposed_47 : decode cX12_opposed 47 = .ok (.bipush (-2), 2) := by decide +kernel
theorem dX12_opposed_49 : decode cX12_opposed 49 = .ok (.ireturn, 1) := by decide +kernel
theorem dX12_opposedTo_0 : decode cX12_opposedTo 0 = .ok (.iconst 0, 1) := by decide +kernel
theorem dX12_opposedTo_1 : decode cX12_opposedTo 1 = .ok (.istore_n 2, 1) := by decide +kernel
theorem dX12_opposedTo_2 : decode cX12_opposedTo 2 = .ok (.iconst 0, 1) := by decide +kernel
theorem dX12_opposedTo_3 : decode cX12_opposedTo 3 = .ok (.istore_n 3, 1) := by decide +kernel
theorem dX12_opposedTo_4 : decode cX12_opposedTo 4 = .ok (.iload_n 3, 1) := by decide +kernel
theorem dX12_opposedTo_5 : decode cX12_opposedTo 5 = .ok (.aload_n 0, 1) := by decide +kernel
theorem dX12_opposedTo_6 : decode cX12_opposedTo 6 = .ok (.getfield 13, 3) := by decide +kernel
theorem dX12_opposedTo_9 : decode cX12_opposedTo 9 = .ok (.iconst 2, 1) := by decide +kernel
theorem dX12_opposedTo_10 : decode cX12_opposedTo 10 = .ok (.iaload, 1) := by decide +kernel
theorem dX12_opposedTo_11 : decode cX12_opposedTo 11 = .ok (.if_icmp .ge 40, 3) := by decide +kernel
theorem dX12_opposedTo_14 : decode cX12_opposedTo 14 = .ok (.iload_n 2, 1) := by decide +kernel
theorem dX12_opposedTo_15 : decode cX12_opposedTo 15 = .ok (.iload_n 3, 1) := by decide +kernel
theorem dX12_opposedTo_16 : decode cX12_opposedTo 16 = .ok (.iload_n 1, 1) := by decide +kernel
theorem dX12_opposedTo_17 : decode cX12_opposedTo 17 = .ok (.if_icmp .eq 25, 3) := by decide +kernel
theorem dX12_opposedTo_20 : decode cX12_opposedTo 20 = .ok (.aload_n 0, 1) := by decide +kernel
theorem dX12_opposedTo_21 : decode cX12_opposedTo 21 = .ok (.iload_n 1, 1) := by decide +kernel
theorem dX12_opposedTo_22 : decode cX12_opposedTo 22 = .ok (.iload_n 3, 1) := by decide +kernel
theorem dX12_opposedTo_23 : decode cX12_opposedTo 23 = .ok (.aload_n 0, 1) := by decide +kernel
theorem dX12_opposedTo_24 : decode cX12_opposedTo 24 = .ok (.getfield 13, 3) := by decide +kernel
theorem dX12_opposedTo_27 : decode cX12_opposedTo 27 = .ok (.bipush 52, 2) := by decide +kernel
theorem dX12_opposedTo_29 : decode cX12_opposedTo 29 = .ok (.iaload, 1) := by decide +kernel
theorem dX12_opposedTo_30 : decode cX12_opposedTo 30 = .ok (.invokevirtual 241, 3) := by decide +kernel
theorem dX12_opposedTo_33 : decode cX12_opposedTo 33 = .ok (.ifCond .eq 9, 3) := by decide +kernel
theorem dX12_opposedTo_36 : decode cX12_opposedTo 36 = .ok (.iconst 1, 1) := by decide +kernel
theorem dX12_opposedTo_37 : decode cX12_opposedTo 37 = .ok (.iload_n 3, 1) := by decide +kernel
theorem dX12_opposedTo_38 : decode cX12_opposedTo 38 = .ok (.ishl, 1) := by decide +kernel
theorem dX12_opposedTo_39 : decode cX12_opposedTo 39 = .ok (.goto 4, 3) := by decide +kernel
theorem dX12_opposedTo_42 : decode cX12_opposedTo 42 = .ok (.iconst 0, 1) := by decide +kernel
theorem dX12_opposedTo_43 : decode cX12_opposedTo 43 = .ok (.ior, 1) := by decide +kernel
theorem dX12_opposedTo_44 : decode cX12_opposedTo 44 = .ok (.istore_n 2, 1) := by decide +kernel
theorem dX12_opposedTo_45 : decode cX12_opposedTo 45 = .ok (.iinc 3 1, 3) := by decide +kernel
theorem dX12_opposedTo_48 : decode cX12_opposedTo 48 = .ok (.goto (-44), 3) := by decide +kernel
theorem dX12_opposedTo_51 : decode cX12_opposedTo 51 = .ok (.iload_n 2, 1) := by decide +kernel
theorem dX12_opposedTo_52 : decode cX12_opposedTo 52 = .ok (.ireturn, 1) := by decide +kernel
theorem dX12_opposites_0 : decode cX12_opposites 0 = .ok (.aload_n 0, 1) := by decide +kernel
theorem dX12_opposites_1 : decode cX12_opposites 1 = .ok (.iconst 0, 1) := by decide +kernel
theorem dX12_opposites_2 : decode cX12_opposites 2 = .ok (.putfield 1, 3) := by decide +kernel
theorem dX12_opposites_5 : decode cX12_opposites 5 = .ok (.aload_n 0, 1) := by decide +kernel
theorem dX12_opposites_6 : decode cX12_opposites 6 = .ok (.iload_n 1, 1) := by decide +kernel
theorem dX12_opposites_7 : decode cX12_opposites 7 = .ok (.i2l, 1) := by decide +kernel
theorem dX12_opposites_8 : decode cX12_opposites 8 = .ok (.invokevirtual 245, 3) := by decide +kernel
theorem dX12_opposites_11 : decode cX12_opposites 11 = .ok (.ifCond .eq 11, 3) := by decide +kernel
theorem dX12_opposites_14 : decode cX12_opposites 14 = .ok (.aload_n 0, 1) := by decide +kernel
theorem dX12_opposites_15 : decode cX12_opposites 15 = .ok (.iload_n 1, 1) := by decide +kernel
theorem dX12_opposites_16 : decode cX12_opposites 16 = .ok (.invokevirtual 260, 3) := by decide +kernel
theorem dX12_opposites_19 : decode cX12_opposites 19 = .ok (.goto 5, 3) := by decide +kernel
theorem dX12_opposites_22 : decode cX12_opposites 22 = .ok (.bipush (-2), 2) := by decide +kernel
theorem dX12_opposites_24 : decode cX12_opposites 24 = .ok (.ireturn, 1) := by decide +kernel
theorem dX12_person_0 : decode cX12_person 0 = .ok (.aload_n 0, 1) := by decide +kernel
theorem dX12_person_1 : decode cX12_person 1 = .ok (.iconst 0, 1) := by decide +kernel
theorem dX12_person_2 : decode cX12_person 2 = .ok (.putfield 1, 3) := by decide +kernel
theorem dX12_person_5 : decode cX12_person 5 = .ok (.aload_n 0, 1) := by decide +kernel
theorem dX12_person_6 : decode cX12_person 6 = .ok (.iload_n 1, 1) := by decide +kernel
theorem dX12_person_7 : decode cX12_person 7 = .ok (.i2l, 1) := by decide +kernel
theorem dX12_person_8 : decode cX12_person 8 = .ok (.invokevirtual 245, 3) := by decide +kernel
theorem dX12_person_11 : decode cX12_person 11 = .ok (.ifCond .ne 6, 3) := by decide +kernel
theorem dX12_person_14 : decode cX12_person 14 = .ok (.bipush (-2), 2) := by decide +kernel
theorem dX12_person_16 : decode cX12_person 16 = .ok (.ireturn, 1) := by decide +kernel
theorem dX12_person_17 : decode cX12_person 17 = .ok (.iload_n 2, 1) := by decide +kernel
theorem dX12_person_18 : decode cX12_person 18 = .ok (.i2l, 1) := by decide +kernel
theorem dX12_person_19 : decode cX12_person 19 = .ok (.lconst 0, 1) := by decide +kernel
theorem dX12_person_20 : decode cX12_person 20 = .ok (.ldc2_w 249, 3) := by decide +kernel
theorem dX12_person_23 : decode cX12_person 23 = .ok (.invokestatic 145, 3) := by decide +kernel
theorem dX12_person_26 : decode cX12_person 26 = .ok (.ifCond .eq 17, 3) := by decide +kernel
theorem dX12_person_29 : decode cX12_person 29 = .ok (.aload_n 0, 1) := by decide +kernel
theorem dX12_person_30 : decode cX12_person 30 = .ok (.getfield 13, 3) := by decide +kernel
theorem dX12_person_33 : decode cX12_person 33 = .ok (.bipush 54, 2) := by decide +kernel
theorem dX12_person_35 : decode cX12_person 35 = .ok (.iconst 3, 1) := by decide +kernel
theorem dX12_person_36 : decode cX12_person 36 = .ok (.iload_n 1, 1) := by decide +kernel
theorem dX12_person_37 : decode cX12_person 37 = .ok (.imul, 1) := by decide +kernel
theorem dX12_person_38 : decode cX12_person 38 = .ok (.iadd, 1) := by decide +kernel
theorem dX12_person_39 : decode cX12_person 39 = .ok (.iload_n 2, 1) := by decide +kernel
theorem dX12_person_40 : decode cX12_person 40 = .ok (.iadd, 1) := by decide +kernel
theorem dX12_person_41 : decode cX12_person 41 = .ok (.iaload, 1) := by decide +kernel
theorem dX12_person_42 : decode cX12_person 42 = .ok (.ireturn, 1) := by decide +kernel
theorem dX12_person_43 : decode cX12_person 43 = .ok (.iload_n 2, 1) := by decide +kernel
theorem dX12_person_44 : decode cX12_person 44 = .ok (.tableswitch 139 3 8 #[40, 50, 80, 90, 100, 121], 40) := by decide +kernel
theorem dX12_person_84 : decode cX12_person 84 = .ok (.aload_n 0, 1) := by decide +kernel
theorem dX12_person_85 : decode cX12_person 85 = .ok (.getfield 13, 3) := by decide +kernel
theorem dX12_person_88 : decode cX12_person 88 = .ok (.bipush 12, 2) := by decide +kernel
theorem dX12_person_90 : decode cX12_person 90 = .ok (.iload_n 1, 1) := by decide +kernel
theorem dX12_person_91 : decode cX12_person 91 = .ok (.iadd, 1) := by decide +kernel
theorem dX12_person_92 : decode cX12_person 92 = .ok (.iaload, 1) := by decide +kernel
theorem dX12_person_93 : decode cX12_person 93 = .ok (.ireturn, 1) := by decide +kernel
theorem dX12_person_94 : decode cX12_person 94 = .ok (.aload_n 0, 1) := by decide +kernel
theorem dX12_person_95 : decode cX12_person 95 = .ok (.getfield 13, 3) := by decide +kernel
theorem dX12_person_98 : decode cX12_person 98 = .ok (.bipush 22, 2) := by decide +kernel
theorem dX12_person_100 : decode cX12_person 100 = .ok (.iload_n 1, 1) := by decide +kernel
theorem dX12_person_101 : decode cX12_person 101 = .ok (.iadd, 1) := by decide +kernel
theorem dX12_person_102 : decode cX12_person 102 = .ok (.iaload, 1) := by decide +kernel
theorem dX12_person_103 : decode cX12_person 103 = .ok (.ldc 194, 2) := by decide +kernel
theorem dX12_person_105 : decode cX12_person 105 = .ok (.if_icmp .ne 9, 3) := by decide +kernel
theorem dX12_person_108 : decode cX12_person 108 = .ok (.sipush 999, 3) := by decide +kernel
theorem dX12_person_111 : decode cX12_person 111 = .ok (.goto 12, 3) := by decide +kernel
theorem dX12_person_114 : decode cX12_person 114 = .ok (.aload_n 0, 1) := by decide +kernel
theorem dX12_person_115 : decode cX12_person 115 = .ok (.getfield 13, 3) := by decide +kernel
theorem dX12_person_118 : decode cX12_person 118 = .ok (.bipush 22, 2) := by decide +kernel
theorem dX12_person_120 : decode cX12_person 120 = .ok (.iload_n 1, 1) := by decide +kernel
theorem dX12_person_121 : decode cX12_person 121 = .ok (.iadd, 1) := by decide +kernel
theorem dX12_person_122 : decode cX12_person 122 = .ok (.iaload, 1) := by decide +kernel
theorem dX12_person_123 : decode cX12_person 123 = .ok (.ireturn, 1) := by decide +kernel
theorem dX12_person_124 : decode cX12_person 124 = .ok (.aload_n 0, 1) := by decide +kernel
theorem dX12_person_125 : decode cX12_person 125 = .ok (.getfield 13, 3) := by decide +kernel
theorem dX12_person_128 : decode cX12_person 128 = .ok (.bipush 32, 2) := by decide +kernel
theorem dX12_person_130 : decode cX12_person 130 = .ok (.iload_n 1, 1) := by decide +kernel
theorem dX12_person_131 : decode cX12_person 131 = .ok (.iadd, 1) := by decide +kernel
theorem dX12_person_132 : decode cX12_person 132 = .ok (.iaload, 1) := by decide +kernel
theorem dX12_person_133 : decode cX12_person 133 = .ok (.ireturn, 1) := by decide +kernel
theorem dX12_person_134 : decode cX12_person 134 = .ok (.aload_n 0, 1) := by decide +kernel
theorem dX12_person_135 : decode cX12_person 135 = .ok (.getfield 13, 3) := by decide +kernel
theorem dX12_person_138 : decode cX12_person 138 = .ok (.bipush 42, 2) := by decide +kernel
theorem dX12_person_140 : decode cX12_person 140 = .ok (.iload_n 1, 1) := by decide +kernel
theorem dX12_person_141 : decode cX12_person 141 = .ok (.iadd, 1) := by decide +kernel
theorem dX12_person_142 : decode cX12_person 142 = .ok (.iaload, 1) := by decide +kernel
theorem dX12_person_143 : decode cX12_person 143 = .ok (.ireturn, 1) := by decide +kernel
theorem dX12_person_144 : decode cX12_person 144 = .ok (.aload_n 0, 1) := by decide +kernel
theorem dX12_person_145 : decode cX12_person 145 = .ok (.getfield 13, 3) := by decide +kernel
theorem dX12_person_148 : decode cX12_person 148 = .ok (.bipush 53, 2) := by decide +kernel
theorem dX12_person_150 : decode cX12_person 150 = .ok (.iaload, 1) := by decide +kernel
theorem dX12_person_151 : decode cX12_person 151 = .ok (.i2l, 1) := by decide +kernel
theorem dX12_person_152 : decode cX12_person 152 = .ok (.iload_n 1, 1) := by decide +kernel
theorem dX12_person_153 : decode cX12_person 153 = .ok (.invokestatic 251, 3) := by decide +kernel
theorem dX12_person_156 : decode cX12_person 156 = .ok (.ifCond .eq 7, 3) := by decide +kernel
theorem dX12_person_159 : decode cX12_person 159 = .ok (.iconst 1, 1) := by decide +kernel
theorem dX12_person_160 : decode cX12_person 160 = .ok (.goto 4, 3) := by decide +kernel
theorem dX12_person_163 : decode cX12_person 163 = .ok (.iconst 0, 1) := by decide +kernel
theorem dX12_person_164 : decode cX12_person 164 = .ok (.ireturn, 1) := by decide +kernel
theorem dX12_person_165 : decode cX12_person 165 = .ok (.aload_n 0, 1) := by decide +kernel
theorem dX12_person_166 : decode cX12_person 166 = .ok (.invokevirtual 255, 3) := by decide +kernel
theorem dX12_person_169 : decode cX12_person 169 = .ok (.i2l, 1) := by decide +kernel
theorem dX12_person_170 : decode cX12_person 170 = .ok (.iload_n 1, 1) := by decide +kernel
theorem dX12_person_171 : decode cX12_person 171 = .ok (.invokestatic 251, 3) := by decide +kernel
theorem dX12_person_174 : decode cX12_person 174 = .ok (.ifCond .eq 7, 3) := by decide +kernel
theorem dX12_person_177 : decode cX12_person 177 = .ok (.iconst 1, 1) := by decide +kernel
theorem dX12_person_178 : decode cX12_person 178 = .ok (.goto 4, 3) := by decide +kernel
theorem dX12_person_181 : decode cX12_person 181 = .ok (.iconst 0, 1) := by decide +kernel
theorem dX12_person_182 : decode cX12_person 182 = .ok (.ireturn, 1) := by decide +kernel
theorem dX12_person_183 : decode cX12_person 183 = .ok (.bipush (-2), 2) := by decide +kernel
theorem dX12_person_185 : decode cX12_person 185 = .ok (.ireturn, 1) := by decide +kernel
theorem dX12_readLaw_0 : decode cX12_readLaw 0 = .ok (.aload_n 0, 1) := by decide +kernel
theorem dX12_readLaw_1 : decode cX12_readLaw 1 = .ok (.invokevirtual 138, 3) := by decide +kernel
theorem dX12_readLaw_4 : decode cX12_readLaw 4 = .ok (.aload_n 0, 1) := by decide +kernel
theorem dX12_readLaw_5 : decode cX12_readLaw 5 = .ok (.bipush 31, 2) := by decide +kernel
theorem dX12_readLaw_7 : decode cX12_readLaw 7 = .ok (.invokevirtual 172, 3) := by decide +kernel
theorem dX12_readLaw_10 : decode cX12_readLaw 10 = .ok (.ifCond .ne 8, 3) := by decide +kernel
theorem dX12_readLaw_13 : decode cX12_readLaw 13 = .ok (.aload_n 0, 1) := by decide +kernel
theorem dX12_readLaw_14 : decode cX12_readLaw 14 = .ok (.iconst 2, 1) := by decide +kernel
theorem dX12_readLaw_15 : decode cX12_readLaw 15 = .ok (.invokevirtual 141, 3) := by decide +kernel
theorem dX12_readLaw_18 : decode cX12_readLaw 18 = .ok (.aload_n 0, 1) := by decide +kernel
theorem dX12_readLaw_19 : decode cX12_readLaw 19 = .ok (.getfield 24, 3) := by decide +kernel
theorem dX12_readLaw_22 : decode cX12_readLaw 22 = .ok (.sipush 405, 3) := by decide +kernel
theorem dX12_readLaw_25 : decode cX12_readLaw 25 = .ok (.iaload, 1) := by decide +kernel
theorem dX12_readLaw_26 : decode cX12_readLaw 26 = .ok (.istore_n 2, 1) := by decide +kernel
theorem dX12_readLaw_27 : decode cX12_readLaw 27 = .ok (.aload_n 0, 1) := by decide +kernel
theorem dX12_readLaw_28 : decode cX12_readLaw 28 = .ok (.iload_n 1, 1) := by decide +kernel
theorem dX12_readLaw_29 : decode cX12_readLaw 29 = .ok (.putfield 157, 3) := by decide +kernel
theorem dX12_readLaw_32 : decode cX12_readLaw 32 = .ok (.iload_n 1, 1) := by decide +kernel
theorem dX12_readLaw_33 : decode cX12_readLaw 33 = .ok (.iconst 2, 1) := by decide +kernel
theorem dX12_readLaw_34 : decode cX12_readLaw 34 = .ok (.if_icmp .ne 11, 3) := by decide +kernel
theorem dX12_readLaw_37 : decode cX12_readLaw 37 = .ok (.aload_n 0, 1) := by decide +kernel
theorem dX12_readLaw_38 : decode cX12_readLaw 38 = .ok (.iconst 0, 1) := by decide +kernel
theorem dX12_readLaw_39 : decode cX12_readLaw 39 = .ok (.invokevirtual 169, 3) := by decide +kernel
theorem dX12_readLaw_42 : decode cX12_readLaw 42 = .ok (.goto 8, 3) := by decide +kernel
theorem dX12_readLaw_45 : decode cX12_readLaw 45 = .ok (.aload_n 0, 1) := by decide +kernel
theorem dX12_readLaw_46 : decode cX12_readLaw 46 = .ok (.iconst 0, 1) := by decide +kernel
theorem dX12_readLaw_47 : decode cX12_readLaw 47 = .ok (.invokevirtual 184, 3) := by decide +kernel
theorem dX12_readLaw_50 : decode cX12_readLaw 50 = .ok (.aload_n 0, 1) := by decide +kernel
theorem dX12_readLaw_51 : decode cX12_readLaw 51 = .ok (.getfield 129, 3) := by decide +kernel
theorem dX12_readLaw_54 : decode cX12_readLaw 54 = .ok (.ifCond .eq 4, 3) := by decide +kernel
theorem dX12_readLaw_57 : decode cX12_readLaw 57 = .ok (.return_, 1) := by decide +kernel
theorem dX12_readLaw_58 : decode cX12_readLaw 58 = .ok (.aload_n 0, 1) := by decide +kernel
theorem dX12_readLaw_59 : decode cX12_readLaw 59 = .ok (.getfield 24, 3) := by decide +kernel
theorem dX12_readLaw_62 : decode cX12_readLaw 62 = .ok (.iconst 3, 1) := by decide +kernel
theorem dX12_readLaw_63 : decode cX12_readLaw 63 = .ok (.iload_n 1, 1) := by decide +kernel
theorem dX12_readLaw_64 : decode cX12_readLaw 64 = .ok (.iadd, 1) := by decide +kernel
theorem dX12_readLaw_65 : decode cX12_readLaw 65 = .ok (.iconst 1, 1) := by decide +kernel
theorem dX12_readLaw_66 : decode cX12_readLaw 66 = .ok (.iastore, 1) := by decide +kernel
theorem dX12_readLaw_67 : decode cX12_readLaw 67 = .ok (.aload_n 0, 1) := by decide +kernel
theorem dX12_readLaw_68 : decode cX12_readLaw 68 = .ok (.getfield 24, 3) := by decide +kernel
theorem dX12_readLaw_71 : decode cX12_readLaw 71 = .ok (.bipush 6, 2) := by decide +kernel
theorem dX12_readLaw_73 : decode cX12_readLaw 73 = .ok (.iload_n 1, 1) := by decide +kernel
theorem dX12_readLaw_74 : decode cX12_readLaw 74 = .ok (.iadd, 1) := by decide +kernel
theorem dX12_readLaw_75 : decode cX12_readLaw 75 = .ok (.iload_n 2, 1) := by decide +kernel
theorem dX12_readLaw_76 : decode cX12_readLaw 76 = .ok (.iastore, 1) := by decide +kernel
theorem dX12_readLaw_77 : decode cX12_readLaw 77 = .ok (.aload_n 0, 1) := by decide +kernel
theorem dX12_readLaw_78 : decode cX12_readLaw 78 = .ok (.getfield 24, 3) := by decide +kernel
theorem dX12_readLaw_81 : decode cX12_readLaw 81 = .ok (.bipush 9, 2) := by decide +kernel
theorem dX12_readLaw_83 : decode cX12_readLaw 83 = .ok (.iload_n 1, 1) := by decide +kernel
theorem dX12_readLaw_84 : decode cX12_readLaw 84 = .ok (.iadd, 1) := by decide +kernel
theorem dX12_readLaw_85 : decode cX12_readLaw 85 = .ok (.aload_n 0, 1) := by decide +kernel
theorem dX12_readLaw_86 : decode cX12_readLaw 86 = .ok (.getfield 24, 3) := by decide +kernel
theorem dX12_readLaw_89 : decode cX12_readLaw 89 = .ok (.sipush 405, 3) := by decide +kernel
theorem dX12_readLaw_92 : decode cX12_readLaw 92 = .ok (.iaload, 1) := by decide +kernel
theorem dX12_readLaw_93 : decode cX12_readLaw 93 = .ok (.iload_n 2, 1) := by decide +kernel
theorem dX12_readLaw_94 : decode cX12_readLaw 94 = .ok (.isub, 1) := by decide +kernel
theorem dX12_readLaw_95 : decode cX12_readLaw 95 = .ok (.iastore, 1) := by decide +kernel
theorem dX12_readLaw_96 : decode cX12_readLaw 96 = .ok (.return_, 1) := by decide +kernel
theorem dX12_readLine_0 : decode cX12_readLine 0 = .ok (.aload_n 0, 1) := by decide +kernel
theorem dX12_readLine_1 : decode cX12_readLine 1 = .ok (.getfield 129, 3) := by decide +kernel
theorem dX12_readLine_4 : decode cX12_readLine 4 = .ok (.ifCond .eq 4, 3) := by decide +kernel
theorem dX12_readLine_7 : decode cX12_readLine 7 = .ok (.return_, 1) := by decide +kernel
theorem dX12_readLine_8 : decode cX12_readLine 8 = .ok (.aload_n 0, 1) := by decide +kernel
theorem dX12_readLine_9 : decode cX12_readLine 9 = .ok (.iconst 2, 1) := by decide +kernel
theorem dX12_readLine_10 : decode cX12_readLine 10 = .ok (.invokevirtual 135, 3) := by decide +kernel
theorem dX12_readLine_13 : decode cX12_readLine 13 = .ok (.ifCond .eq 10, 3) := by decide +kernel
theorem dX12_readLine_16 : decode cX12_readLine 16 = .ok (.aload_n 0, 1) := by decide +kernel
theorem dX12_readLine_17 : decode cX12_readLine 17 = .ok (.invokevirtual 198, 3) := by decide +kernel
theorem dX12_readLine_20 : decode cX12_readLine 20 = .ok (.goto 66, 3) := by decide +kernel
theorem dX12_readLine_23 : decode cX12_readLine 23 = .ok (.aload_n 0, 1) := by decide +kernel
theorem dX12_readLine_24 : decode cX12_readLine 24 = .ok (.getfield 111, 3) := by decide +kernel
theorem dX12_readLine_27 : decode cX12_readLine 27 = .ok (.i2l, 1) := by decide +kernel
theorem dX12_readLine_28 : decode cX12_readLine 28 = .ok (.ldc2_w 201, 3) := by decide +kernel
theorem dX12_readLine_31 : decode cX12_readLine 31 = .ok (.ldc2_w 203, 3) := by decide +kernel
theorem dX12_readLine_34 : decode cX12_readLine 34 = .ok (.invokestatic 145, 3) := by decide +kernel
theorem dX12_readLine_37 : decode cX12_readLine 37 = .ok (.ifCond .eq 17, 3) := by decide +kernel
theorem dX12_readLine_40 : decode cX12_readLine 40 = .ok (.aload_n 0, 1) := by decide +kernel
theorem dX12_readLine_41 : decode cX12_readLine 41 = .ok (.aload_n 0, 1) := by decide +kernel
theorem dX12_readLine_42 : decode cX12_readLine 42 = .ok (.getfield 111, 3) := by decide +kernel
theorem dX12_readLine_45 : decode cX12_readLine 45 = .ok (.bipush 7, 2) := by decide +kernel
theorem dX12_readLine_47 : decode cX12_readLine 47 = .ok (.isub, 1) := by decide +kernel
theorem dX12_readLine_48 : decode cX12_readLine 48 = .ok (.invokevirtual 205, 3) := by decide +kernel
theorem dX12_readLine_51 : decode cX12_readLine 51 = .ok (.goto 35, 3) := by decide +kernel
theorem dX12_readLine_54 : decode cX12_readLine 54 = .ok (.aload_n 0, 1) := by decide +kernel
theorem dX12_readLine_55 : decode cX12_readLine 55 = .ok (.bipush 10, 2) := by decide +kernel
theorem dX12_readLine_57 : decode cX12_readLine 57 = .ok (.invokevirtual 172, 3) := by decide +kernel
theorem dX12_readLine_60 : decode cX12_readLine 60 = .ok (.ifCond .eq 21, 3) := by decide +kernel
theorem dX12_readLine_63 : decode cX12_readLine 63 = .ok (.aload_n 0, 1) := by decide +kernel
theorem dX12_readLine_64 : decode cX12_readLine 64 = .ok (.getfield 24, 3) := by decide +kernel
theorem dX12_readLine_67 : decode cX12_readLine 67 = .ok (.bipush 52, 2) := by decide +kernel
theorem dX12_readLine_69 : decode cX12_readLine 69 = .ok (.aload_n 0, 1) := by decide +kernel
theorem dX12_readLine_70 : decode cX12_readLine 70 = .ok (.iconst 0, 1) := by decide +kernel
theorem dX12_readLine_71 : decode cX12_readLine 71 = .ok (.sipush 999, 3) := by decide +kernel
theorem dX12_readLine_74 : decode cX12_readLine 74 = .ok (.invokevirtual 190, 3) := by decide +kernel
theorem dX12_readLine_77 : decode cX12_readLine 77 = .ok (.iastore, 1) := by decide +kernel
theorem dX12_readLine_78 : decode cX12_readLine 78 = .ok (.goto 8, 3) := by decide +kernel
theorem dX12_readLine_81 : decode cX12_readLine 81 = .ok (.aload_n 0, 1) := by decide +kernel
theorem dX12_readLine_82 : decode cX12_readLine 82 = .ok (.iconst 2, 1) := by decide +kernel
theorem dX12_readLine_83 : decode cX12_readLine 83 = .ok (.invokevirtual 141, 3) := by decide +kernel
theorem dX12_readLine_86 : decode cX12_readLine 86 = .ok (.return_, 1) := by decide +kernel
theorem dX12_reckons_0 : decode cX12_reckons 0 = .ok (.iconst 0, 1) := by decide +kernel
theorem dX12_reckons_1 : decode cX12_reckons 1 = .ok (.istore_n 2, 1) := by decide +kernel
theorem dX12_reckons_2 : decode cX12_reckons 2 = .ok (.iconst 0, 1) := by decide +kernel
theorem dX12_reckons_3 : decode cX12_reckons 3 = .ok (.istore_n 3, 1) := by decide +kernel
theorem dX12_reckons_4 : decode cX12_reckons 4 = .ok (.iload_n 3, 1) := by decide +kernel
theorem dX12_reckons_5 : decode cX12_reckons 5 = .ok (.aload_n 0, 1) := by decide +kernel
theorem dX12_reckons_6 : decode cX12_reckons 6 = .ok (.getfield 13, 3) := by decide +kernel
theorem dX12_reckons_9 : decode cX12_reckons 9 = .ok (.bipush 9, 2) := by decide +kernel
theorem dX12_reckons_11 : decode cX12_reckons 11 = .ok (.iload_n 1, 1) := by decide +kernel
theorem dX12_reckons_12 : decode cX12_reckons 12 = .ok (.iadd, 1) := by decide +kernel
theorem dX12_reckons_13 : decode cX12_reckons 13 = .ok (.iaload, 1) := by decide +kernel
theorem dX12_reckons_14 : decode cX12_reckons 14 = .ok (.if_icmp .ge 134, 3) := by decide +kernel
theorem dX12_reckons_17 : decode cX12_reckons 17 = .ok (.aload_n 0, 1) := by decide +kernel
theorem dX12_reckons_18 : decode cX12_reckons 18 = .ok (.getfield 13, 3) := by decide +kernel
theorem dX12_reckons_21 : decode cX12_reckons 21 = .ok (.sipush 406, 3) := by decide +kernel
theorem dX12_reckons_24 : decode cX12_reckons 24 = .ok (.aload_n 0, 1) := by decide +kernel
theorem dX12_reckons_25 : decode cX12_reckons 25 = .ok (.getfield 13, 3) := by decide +kernel
theorem dX12_reckons_28 : decode cX12_reckons 28 = .ok (.bipush 6, 2) := by decide +kernel
theorem dX12_reckons_30 : decode cX12_reckons 30 = .ok (.iload_n 1, 1) := by decide +kernel
theorem dX12_reckons_31 : decode cX12_reckons 31 = .ok (.iadd, 1) := by decide +kernel
theorem dX12_reckons_32 : decode cX12_reckons 32 = .ok (.iaload, 1) := by decide +kernel
theorem dX12_reckons_33 : decode cX12_reckons 33 = .ok (.iadd, 1) := by decide +kernel
theorem dX12_reckons_34 : decode cX12_reckons 34 = .ok (.iload_n 3, 1) := by decide +kernel
theorem dX12_reckons_35 : decode cX12_reckons 35 = .ok (.iadd, 1) := by decide +kernel
theorem dX12_reckons_36 : decode cX12_reckons 36 = .ok (.iaload, 1) := by decide +kernel
theorem dX12_reckons_37 : decode cX12_reckons 37 = .ok (.istore 4, 2) := by decide +kernel
theorem dX12_reckons_39 : decode cX12_reckons 39 = .ok (.iload 4, 2) := by decide +kernel
theorem dX12_reckons_41 : decode cX12_reckons 41 = .ok (.sipush 3000, 3) := by decide +kernel
theorem dX12_reckons_44 : decode cX12_reckons 44 = .ok (.if_icmp .ge 39, 3) := by decide +kernel
theorem dX12_reckons_47 : decode cX12_reckons 47 = .ok (.aload_n 0, 1) := by decide +kernel
theorem dX12_reckons_48 : decode cX12_reckons 48 = .ok (.getfield 30, 3) := by decide +kernel
theorem dX12_reckons_51 : decode cX12_reckons 51 = .ok (.iload_n 2, 1) := by decide +kernel
theorem dX12_reckons_52 : decode cX12_reckons 52 = .ok (.iload 4, 2) := by decide +kernel
theorem dX12_reckons_54 : decode cX12_reckons 54 = .ok (.sipush 1000, 3) := by decide +kernel
theorem dX12_reckons_57 : decode cX12_reckons 57 = .ok (.if_icmp .ge 8, 3) := by decide +kernel
theorem dX12_reckons_60 : decode cX12_reckons 60 = .ok (.iload 4, 2) := by decide +kernel
theorem dX12_reckons_62 : decode cX12_reckons 62 = .ok (.goto 14, 3) := by decide +kernel
theorem dX12_reckons_65 : decode cX12_reckons 65 = .ok (.aload_n 0, 1) := by decide +kernel
theorem dX12_reckons_66 : decode cX12_reckons 66 = .ok (.getfield 33, 3) := by decide +kernel
theorem dX12_reckons_69 : decode cX12_reckons 69 = .ok (.iload 4, 2) := by decide +kernel
theorem dX12_reckons_71 : decode cX12_reckons 71 = .ok (.sipush 1000, 3) := by decide +kernel
theorem dX12_reckons_74 : decode cX12_reckons 74 = .ok (.isub, 1) := by decide +kernel
theorem dX12_reckons_75 : decode cX12_reckons 75 = .ok (.iaload, 1) := by decide +kernel
theorem dX12_reckons_76 : decode cX12_reckons 76 = .ok (.iastore, 1) := by decide +kernel
theorem dX12_reckons_77 : decode cX12_reckons 77 = .ok (.iinc 2 1, 3) := by decide +kernel
theorem dX12_reckons_80 : decode cX12_reckons 80 = .ok (.goto 62, 3) := by decide +kernel
theorem dX12_reckons_83 : decode cX12_reckons 83 = .ok (.iload 4, 2) := by decide +kernel
theorem dX12_reckons_85 : decode cX12_reckons 85 = .ok (.sipush 3006, 3) := by decide +kernel
theorem dX12_reckons_88 : decode cX12_reckons 88 = .ok (.if_icmp .ne 24, 3) := by decide +kernel
theorem dX12_reckons_91 : decode cX12_reckons 91 = .ok (.aload_n 0, 1) := by decide +kernel
theorem dX12_reckons_92 : decode cX12_reckons 92 = .ok (.getfield 30, 3) := by decide +kernel
theorem dX12_reckons_95 : decode cX12_reckons 95 = .ok (.iload_n 2, 1) := by decide +kernel
theorem dX12_reckons_96 : decode cX12_reckons 96 = .ok (.iconst 1, 1) := by decide +kernel
theorem dX12_reckons_97 : decode cX12_reckons 97 = .ok (.isub, 1) := by decide +kernel
theorem dX12_reckons_98 : decode cX12_reckons 98 = .ok (.iconst 1, 1) := by decide +kernel
theorem dX12_reckons_99 : decode cX12_reckons 99 = .ok (.aload_n 0, 1) := by decide +kernel
theorem dX12_reckons_100 : decode cX12_reckons 100 = .ok (.getfield 30, 3) := by decide +kernel
theorem dX12_reckons_103 : decode cX12_reckons 103 = .ok (.iload_n 2, 1) := by decide +kernel
theorem dX12_reckons_104 : decode cX12_reckons 104 = .ok (.iconst 1, 1) := by decide +kernel
theorem dX12_reckons_105 : decode cX12_reckons 105 = .ok (.isub, 1) := by decide +kernel
theorem dX12_reckons_106 : decode cX12_reckons 106 = .ok (.iaload, 1) := by decide +kernel
theorem dX12_reckons_107 : decode cX12_reckons 107 = .ok (.isub, 1) := by decide +kernel
theorem dX12_reckons_108 : decode cX12_reckons 108 = .ok (.iastore, 1) := by decide +kernel
theorem dX12_reckons_109 : decode cX12_reckons 109 = .ok (.goto 33, 3) := by decide +kernel
theorem dX12_reckons_112 : decode cX12_reckons 112 = .ok (.iinc 2 (-1), 3) := by decide +kernel
theorem dX12_reckons_115 : decode cX12_reckons 115 = .ok (.aload_n 0, 1) := by decide +kernel
theorem dX12_reckons_116 : decode cX12_reckons 116 = .ok (.getfield 30, 3) := by decide +kernel
theorem dX12_reckons_119 : decode cX12_reckons 119 = .ok (.iload_n 2, 1) := by decide +kernel
theorem dX12_reckons_120 : decode cX12_reckons 120 = .ok (.iconst 1, 1) := by decide +kernel
theorem dX12_reckons_121 : decode cX12_reckons 121 = .ok (.isub, 1) := by decide +kernel
theorem dX12_reckons_122 : decode cX12_reckons 122 = .ok (.iload 4, 2) := by decide +kernel
theorem dX12_reckons_124 : decode cX12_reckons 124 = .ok (.aload_n 0, 1) := by decide +kernel
theorem dX12_reckons_125 : decode cX12_reckons 125 = .ok (.getfield 30, 3) := by decide +kernel
theorem dX12_reckons_128 : decode cX12_reckons 128 = .ok (.iload_n 2, 1) := by decide +kernel
theorem dX12_reckons_129 : decode cX12_reckons 129 = .ok (.iconst 1, 1) := by decide +kernel
theorem dX12_reckons_130 : decode cX12_reckons 130 = .ok (.isub, 1) := by decide +kernel
theorem dX12_reckons_131 : decode cX12_reckons 131 = .ok (.iaload, 1) := by decide +kernel
theorem dX12_reckons_132 : decode cX12_reckons 132 = .ok (.aload_n 0, 1) := by decide +kernel
theorem dX12_reckons_133 : decode cX12_reckons 133 = .ok (.getfield 30, 3) := by decide +kernel
theorem dX12_reckons_136 : decode cX12_reckons 136 = .ok (.iload_n 2, 1) := by decide +kernel
theorem dX12_reckons_137 : decode cX12_reckons 137 = .ok (.iaload, 1) := by decide +kernel
theorem dX12_reckons_138 : decode cX12_reckons 138 = .ok (.invokestatic 227, 3) := by decide +kernel
theorem dX12_reckons_141 : decode cX12_reckons 141 = .ok (.iastore, 1) := by decide +kernel
theorem dX12_reckons_142 : decode cX12_reckons 142 = .ok (.iinc 3 1, 3) := by decide +kernel
theorem dX12_reckons_145 : decode cX12_reckons 145 = .ok (.goto (-141), 3) := by decide +kernel
theorem dX12_reckons_148 : decode cX12_reckons 148 = .ok (.aload_n 0, 1) := by decide +kernel
theorem dX12_reckons_149 : decode cX12_reckons 149 = .ok (.getfield 30, 3) := by decide +kernel
theorem dX12_reckons_152 : decode cX12_reckons 152 = .ok (.iconst 0, 1) := by decide +kernel
theorem dX12_reckons_153 : decode cX12_reckons 153 = .ok (.iaload, 1) := by decide +kernel
theorem dX12_reckons_154 : decode cX12_reckons 154 = .ok (.ireturn, 1) := by decide +kernel
theorem dX12_town_0 : decode cX12_town 0 = .ok (.aload_n 0, 1) := by decide +kernel
theorem dX12_town_1 : decode cX12_town 1 = .ok (.iconst 0, 1) := by decide +kernel
theorem dX12_town_2 : decode cX12_town 2 = .ok (.putfield 1, 3) := by decide +kernel
theorem dX12_town_5 : decode cX12_town 5 = .ok (.iload_n 1, 1) := by decide +kernel
theorem dX12_town_6 : decode cX12_town 6 = .ok (.i2l, 1) := by decide +kernel
theorem dX12_town_7 : decode cX12_town 7 = .ok (.lconst 0, 1) := by decide +kernel
theorem dX12_town_8 : decode cX12_town 8 = .ok (.ldc2_w 258, 3) := by decide +kernel
theorem dX12_town_11 : decode cX12_town 11 = .ok (.invokestatic 145, 3) := by decide +kernel
theorem dX12_town_14 : decode cX12_town 14 = .ok (.ifCond .eq 19, 3) := by decide +kernel
theorem dX12_town_17 : decode cX12_town 17 = .ok (.aload_n 0, 1) := by decide +kernel
theorem dX12_town_18 : decode cX12_town 18 = .ok (.aload_n 0, 1) := by decide +kernel
theorem dX12_town_19 : decode cX12_town 19 = .ok (.getfield 13, 3) := by decide +kernel
theorem dX12_town_22 : decode cX12_town 22 = .ok (.bipush 52, 2) := by decide +kernel
theorem dX12_town_24 : decode cX12_town 24 = .ok (.iaload, 1) := by decide +kernel
theorem dX12_town_25 : decode cX12_town 25 = .ok (.iload_n 1, 1) := by decide +kernel
theorem dX12_town_26 : decode cX12_town 26 = .ok (.iadd, 1) := by decide +kernel
theorem dX12_town_27 : decode cX12_town 27 = .ok (.invokevirtual 220, 3) := by decide +kernel
theorem dX12_town_30 : decode cX12_town 30 = .ok (.goto 5, 3) := by decide +kernel
theorem dX12_town_33 : decode cX12_town 33 = .ok (.bipush (-3), 2) := by decide +kernel
theorem dX12_town_35 : decode cX12_town 35 = .ok (.ireturn, 1) := by decide +kernel
theorem dX12_townNow_0 : decode cX12_townNow 0 = .ok (.aload_n 0, 1) := by decide +kernel
theorem dX12_townNow_1 : decode cX12_townNow 1 = .ok (.aload_n 0, 1) := by decide +kernel
theorem dX12_townNow_2 : decode cX12_townNow 2 = .ok (.getfield 13, 3) := by decide +kernel
theorem dX12_townNow_5 : decode cX12_townNow 5 = .ok (.bipush 52, 2) := by decide +kernel
theorem dX12_townNow_7 : decode cX12_townNow 7 = .ok (.iaload, 1) := by decide +kernel
theorem dX12_townNow_8 : decode cX12_townNow 8 = .ok (.invokevirtual 220, 3) := by decide +kernel
theorem dX12_townNow_11 : decode cX12_townNow 11 = .ok (.ireturn, 1) := by decide +kernel
theorem dX12_townOn_0 : decode cX12_townOn 0 = .ok (.iconst 0, 1) := by decide +kernel
theorem dX12_townOn_1 : decode cX12_townOn 1 = .ok (.istore_n 2, 1) := by decide +kernel
theorem dX12_townOn_2 : decode cX12_townOn 2 = .ok (.iconst 0, 1) := by decide +kernel
theorem dX12_townOn_3 : decode cX12_townOn 3 = .ok (.istore_n 3, 1) := by decide +kernel
theorem dX12_townOn_4 : decode cX12_townOn 4 = .ok (.iload_n 3, 1) := by decide +kernel
theorem dX12_townOn_5 : decode cX12_townOn 5 = .ok (.aload_n 0, 1) := by decide +kernel
theorem dX12_townOn_6 : decode cX12_townOn 6 = .ok (.getfield 13, 3) := by decide +kernel
theorem dX12_townOn_9 : decode cX12_townOn 9 = .ok (.iconst 2, 1) := by decide +kernel
theorem dX12_townOn_10 : decode cX12_townOn 10 = .ok (.iaload, 1) := by decide +kernel
theorem dX12_townOn_11 : decode cX12_townOn 11 = .ok (.if_icmp .ge 47, 3) := by decide +kernel
theorem dX12_townOn_14 : decode cX12_townOn 14 = .ok (.iload_n 2, 1) := by decide +kernel
theorem dX12_townOn_15 : decode cX12_townOn 15 = .ok (.iload_n 1, 1) := by decide +kernel
theorem dX12_townOn_16 : decode cX12_townOn 16 = .ok (.i2l, 1) := by decide +kernel
theorem dX12_townOn_17 : decode cX12_townOn 17 = .ok (.aload_n 0, 1) := by decide +kernel
theorem dX12_townOn_18 : decode cX12_townOn 18 = .ok (.getfield 13, 3) := by decide +kernel
theorem dX12_townOn_21 : decode cX12_townOn 21 = .ok (.bipush 12, 2) := by decide +kernel
theorem dX12_townOn_23 : decode cX12_townOn 23 = .ok (.iload_n 3, 1) := by decide +kernel
theorem dX12_townOn_24 : decode cX12_townOn 24 = .ok (.iadd, 1) := by decide +kernel
theorem dX12_townOn_25 : decode cX12_townOn 25 = .ok (.iaload, 1) := by decide +kernel
theorem dX12_townOn_26 : decode cX12_townOn 26 = .ok (.i2l, 1) := by decide +kernel
theorem dX12_townOn_27 : decode cX12_townOn 27 = .ok (.aload_n 0, 1) := by decide +kernel
theorem dX12_townOn_28 : decode cX12_townOn 28 = .ok (.getfield 13, 3) := by decide +kernel
theorem dX12_townOn_31 : decode cX12_townOn 31 = .ok (.bipush 22, 2) := by decide +kernel
theorem dX12_townOn_33 : decode cX12_townOn 33 = .ok (.iload_n 3, 1) := by decide +kernel
theorem dX12_townOn_34 : decode cX12_townOn 34 = .ok (.iadd, 1) := by decide +kernel
theorem dX12_townOn_35 : decode cX12_townOn 35 = .ok (.iaload, 1) := by decide +kernel
theorem dX12_townOn_36 : decode cX12_townOn 36 = .ok (.i2l, 1) := by decide +kernel
theorem dX12_townOn_37 : decode cX12_townOn 37 = .ok (.invokestatic 145, 3) := by decide +kernel
theorem dX12_townOn_40 : decode cX12_townOn 40 = .ok (.ifCond .eq 9, 3) := by decide +kernel
theorem dX12_townOn_43 : decode cX12_townOn 43 = .ok (.iconst 1, 1) := by decide +kernel
theorem dX12_townOn_44 : decode cX12_townOn 44 = .ok (.iload_n 3, 1) := by decide +kernel
theorem dX12_townOn_45 : decode cX12_townOn 45 = .ok (.ishl, 1) := by decide +kernel
theorem dX12_townOn_46 : decode cX12_townOn 46 = .ok (.goto 4, 3) := by decide +kernel
theorem dX12_townOn_49 : decode cX12_townOn 49 = .ok (.iconst 0, 1) := by decide +kernel
theorem dX12_townOn_50 : decode cX12_townOn 50 = .ok (.ior, 1) := by decide +kernel
theorem dX12_townOn_51 : decode cX12_townOn 51 = .ok (.istore_n 2, 1) := by decide +kernel
theorem dX12_townOn_52 : decode cX12_townOn 52 = .ok (.iinc 3 1, 3) := by decide +kernel
theorem dX12_townOn_55 : decode cX12_townOn 55 = .ok (.goto (-51), 3) := by decide +kernel
theorem dX12_townOn_58 : decode cX12_townOn 58 = .ok (.iload_n 2, 1) := by decide +kernel
theorem dX12_townOn_59 : decode cX12_townOn 59 = .ok (.aload_n 0, 1) := by decide +kernel
theorem dX12_townOn_60 : decode cX12_townOn 60 = .ok (.getfield 13, 3) := by decide +kernel
theorem dX12_townOn_63 : decode cX12_townOn 63 = .ok (.bipush 53, 2) := by decide +kernel
theorem dX12_townOn_65 : decode cX12_townOn 65 = .ok (.iaload, 1) := by decide +kernel
theorem dX12_townOn_66 : decode cX12_townOn 66 = .ok (.iconst (-1), 1) := by decide +kernel
theorem dX12_townOn_67 : decode cX12_townOn 67 = .ok (.ixor, 1) := by decide +kernel
theorem dX12_townOn_68 : decode cX12_townOn 68 = .ok (.iand, 1) := by decide +kernel
theorem dX12_townOn_69 : decode cX12_townOn 69 = .ok (.ireturn, 1) := by decide +kernel
theorem dX12_whyTalk_0 : decode cX12_whyTalk 0 = .ok (.aload_n 0, 1) := by decide +kernel
theorem dX12_whyTalk_1 : decode cX12_whyTalk 1 = .ok (.lload_n 1, 1) := by decide +kernel
theorem dX12_whyTalk_2 : decode cX12_whyTalk 2 = .ok (.invokevirtual 245, 3) := by decide +kernel
theorem dX12_whyTalk_5 : decode cX12_whyTalk 5 = .ok (.ifCond .eq 17, 3) := by decide +kernel
theorem dX12_whyTalk_8 : decode cX12_whyTalk 8 = .ok (.aload_n 0, 1) := by decide +kernel
theorem dX12_whyTalk_9 : decode cX12_whyTalk 9 = .ok (.lload_n 3, 1) := by decide +kernel
theorem dX12_whyTalk_10 : decode cX12_whyTalk 10 = .ok (.invokevirtual 245, 3) := by decide +kernel
theorem dX12_whyTalk_13 : decode cX12_whyTalk 13 = .ok (.ifCond .eq 9, 3) := by decide +kernel
theorem dX12_whyTalk_16 : decode cX12_whyTalk 16 = .ok (.lload_n 1, 1) := by decide +kernel
theorem dX12_whyTalk_17 : decode cX12_whyTalk 17 = .ok (.lload_n 3, 1) := by decide +kernel
theorem dX12_whyTalk_18 : decode cX12_whyTalk 18 = .ok (.lcmp, 1) := by decide +kernel
theorem dX12_whyTalk_19 : decode cX12_whyTalk 19 = .ok (.ifCond .ne 5, 3) := by decide +kernel
theorem dX12_whyTalk_22 : decode cX12_whyTalk 22 = .ok (.iconst 1, 1) := by decide +kernel
theorem dX12_whyTalk_23 : decode cX12_whyTalk 23 = .ok (.ireturn, 1) := by decide +kernel
theorem dX12_whyTalk_24 : decode cX12_whyTalk 24 = .ok (.aload_n 0, 1) := by decide +kernel
theorem dX12_whyTalk_25 : decode cX12_whyTalk 25 = .ok (.invokevirtual 255, 3) := by decide +kernel
theorem dX12_whyTalk_28 : decode cX12_whyTalk 28 = .ok (.i2l, 1) := by decide +kernel
theorem dX12_whyTalk_29 : decode cX12_whyTalk 29 = .ok (.lload_n 1, 1) := by decide +kernel
theorem dX12_whyTalk_30 : decode cX12_whyTalk 30 = .ok (.l2i, 1) := by decide +kernel
theorem dX12_whyTalk_31 : decode cX12_whyTalk 31 = .ok (.invokestatic 251, 3) := by decide +kernel
theorem dX12_whyTalk_34 : decode cX12_whyTalk 34 = .ok (.ifCond .eq 20, 3) := by decide +kernel
theorem dX12_whyTalk_37 : decode cX12_whyTalk 37 = .ok (.aload_n 0, 1) := by decide +kernel
theorem dX12_whyTalk_38 : decode cX12_whyTalk 38 = .ok (.invokevirtual 255, 3) := by decide +kernel
theorem dX12_whyTalk_41 : decode cX12_whyTalk 41 = .ok (.i2l, 1) := by decide +kernel
theorem dX12_whyTalk_42 : decode cX12_whyTalk 42 = .ok (.lload_n 3, 1) := by decide +kernel
theorem dX12_whyTalk_43 : decode cX12_whyTalk 43 = .ok (.l2i, 1) := by decide +kernel
theorem dX12_whyTalk_44 : decode cX12_whyTalk 44 = .ok (.invokestatic 251, 3) := by decide +kernel
theorem dX12_whyTalk_47 : decode cX12_whyTalk 47 = .ok (.ifCond .eq 7, 3) := by decide +kernel
theorem dX12_whyTalk_50 : decode cX12_whyTalk 50 = .ok (.iconst 0, 1) := by decide +kernel
theorem dX12_whyTalk_51 : decode cX12_whyTalk 51 = .ok (.goto 4, 3) := by decide +kernel
theorem dX12_whyTalk_54 : decode cX12_whyTalk 54 = .ok (.iconst 2, 1) := by decide +kernel
theorem dX12_whyTalk_55 : decode cX12_whyTalk 55 = .ok (.ireturn, 1) := by decide +kernel
set_option maxHeartbeats 4000000 in
set_option maxRecDepth 100000 in
theorem gX12_readLaw_73baa2c (l : Launch) (D : va_G) (cy : Nat → ClassId) (h0 : Nat) (h1 : Nat) (h2 : Nat) (p0 : Int32) (p1 : Int32) (w0 : Value) (w1 : Value) (p2 : Int32) (p3 : Int32) (p4 : Int32) (p5 : Int32) (p6 : Int32) (p7 : Int32) (p8 : Int32) (p9 : Int32) (p10 : Int32) (p11 : Int32) (p12 : Int32) (w2 : Value) (w3 : Value) (w4 : Value) (w5 : Value) (w6 : Value) (p13 : Int32) (p14 : Int32) (w7 : Value) (w8 : Value) (w9 : Value) (p15 : Int32) (p16 : Int32) (w10 : Value) (w11 : Value) (w12 : Value) (w13 : Value) (w14 : Value) (p17 : Int32) (w15 : Value) (w16 : Value) (w17 : Value) (f0 : Nat → Int32) (f1 : Nat → Int32) (p18 : Int32) (p19 : Int32) (p20 : Int32) (p21 : Int32) (hp0 : 0 ≤ (p0).toInt ∧ (p0).toInt ≤ 2) (hp1 : 0 ≤ (p1).toInt ∧ (p1).toInt ≤ 0) (hp2 : 0 ≤ (p2).toInt ∧ (p2).toInt ≤ 900) (hp3 : 0 ≤ (p3).toInt ∧ (p3).toInt ≤ 900) (hp4 : 0 ≤ (p4).toInt ∧ (p4).toInt ≤ 900) (hp5 : 0 ≤ (p5).toInt ∧ (p5).toInt ≤ 900) (hp6 : (-2147483648) ≤ (p6).toInt ∧ (p6).toInt ≤ 2147483647) (hp7 : 0 ≤ (p7).toInt ∧ (p7).toInt ≤ 999) (hp8 : (-2147483648) ≤ (p8).toInt ∧ (p8).toInt ≤ 2147483647) (hp9 : (-2147483648) ≤ (p9).toInt ∧ (p9).toInt ≤ 2147483647) (hp10 : (-2147483648) ≤ (p10).toInt ∧ (p10).toInt ≤ 2147483647) (hp11 : (-2147483648) ≤ (p11).toInt ∧ (p11).toInt ≤ 2147483647) (hp12 : (-2147483648) ≤ (p12).toInt ∧ (p12).toInt ≤ 2147483647) (hp13 : (-2147483648) ≤ (p13).toInt ∧ (p13).toInt ≤ 2147483647) (hp14 : (-2147483648) ≤ (p14).toInt ∧ (p14).toInt ≤ 2147483647) (hp15 : (-2147483648) ≤ (p15).toInt ∧ (p15).toInt ≤ 2147483647) (hp16 : (-2147483648) ≤ (p16).toInt ∧ (p16).toInt ≤ 2147483647) (hp17 : (-2147483648) ≤ (p17).toInt ∧ (p17).toInt ≤ 2147483647) (hp18 : 0 ≤ (p18).toInt ∧ (p18).toInt ≤ 902) (hp19 : (-2147483648) ≤ (p19).toInt ∧ (p19).toInt ≤ 2147483647) (hp20 : 0 ≤ (p20).toInt ∧ (p20).toInt ≤ 10) (hp21 : 0 ≤ (p21).toInt ∧ (p21).toInt ≤ 900) (htf1_0 : f1 0 = p18) (htf1_1 : f1 1 = p19) (htf1_2 : f1 2 = p20) (htf1_405 : f1 405 = p21) (hpre0 : 0 ≤ (p3 : Int32).toInt ∧ (p3 : Int32).toInt ≤ (p4 : Int32).toInt ∧ (p4 : Int32).toInt ≤ (p5 : Int32).toInt) (hpre1 : (p6 : Int32).toInt = 26 ∨ (p3 : Int32).toInt < (p4 : Int32).toInt) (hpre2 : (p8 : Int32).toInt ≠ 0 ∨ (p21 : Int32).toInt ≤ (p3 : Int32).toInt) (hpre3 : HF (p8 : Int32).toInt f1 ((p21 : Int32).toInt).toNat) (hpre4 : (p6 : Int32).toInt ≠ 26) (hpre5 : (p6 : Int32).toInt = 7 + (p0 : Int32).toInt ∧ (p8 : Int32).toInt = 0 ∧ 0 ≤ (p0 : Int32).toInt ∧ (p0 : Int32).toInt ≤ 2) (sz : Nat) : MV l yX12_readLaw cX12_readLaw 3 { frames := 31, cells := 0, slots := 0, locals := 758 } [.ref h0, .int p0] D cy (wk_8d528f753 cy h0 p1 w0 w1 h1 h2 p2 p3 p4 p5 p6 p7 p8 p9 p10 p11 p12 w2 w3 w4 w5 w6 p13 p14 w7 w8 w9 p15 p16 w10 w11 w12 w13 w14 p17 w15 w16 w17 h1 f0 h2 f1) sz (fun u => (0 ≤ (u.2.1 0 0).toInt ∧ (u.2.1 0 0).toInt ≤ 900) ∧ (0 ≤ (u.2.1 1 0).toInt ∧ (u.2.1 1 0).toInt ≤ 900) ∧ ((-2147483648) ≤ (u.2.1 2 0).toInt ∧ (u.2.1 2 0).toInt ≤ 2147483647) ∧ (0 ≤ (u.2.1 3 0).toInt ∧ (u.2.1 3 0).toInt ≤ 999) ∧ ((-2147483648) ≤ (u.2.1 4 0).toInt ∧ (u.2.1 4 0).toInt ≤ 2147483647) ∧ ((-2147483648) ≤ (u.2.1 5 0).toInt ∧ (u.2.1 5 0).toInt ≤ 2147483647) ∧ (0 ≤ (u.2.1 6 0).toInt ∧ (u.2.1 6 0).toInt ≤ 2) ∧ (0 ≤ (u.2.1 8 0).toInt ∧ (u.2.1 8 0).toInt ≤ 900) ∧ (u.2.1 7) 0 = p18 ∧ (u.2.1 7) 1 = p19 ∧ (u.2.1 7) 2 = p20 ∧ (u.2.1 7) 405 = (u.2.1 8 0) ∧ (0 ≤ ((u.2.1 0 0) : Int32).toInt ∧ ((u.2.1 0 0) : Int32).toInt ≤ ((u.2.1 1 0) : Int32).toInt ∧ ((u.2.1 1 0) : Int32).toInt ≤ (p5 : Int32).toInt) ∧ (((u.2.1 2 0) : Int32).toInt = 26 ∨ ((u.2.1 0 0) : Int32).toInt < ((u.2.1 1 0) : Int32).toInt) ∧ ((p3 : Int32).toInt ≤ ((u.2.1 0 0) : Int32).toInt) ∧ (((u.2.1 4 0) : Int32).toInt ≠ 0 ∨ (p8 : Int32).toInt = 0) ∧ (((u.2.1 4 0) : Int32).toInt ≠ 0 ∨ ((u.2.1 8 0) : Int32).toInt ≤ ((u.2.1 0 0) : Int32).toInt) ∧ (HF ((u.2.1 4 0) : Int32).toInt (u.2.1 7) (((u.2.1 8 0) : Int32).toInt).toNat) ∧ (SIMR f0 (p5 : Int32).toInt (lawS (nmR (p0 : Int32).toInt)) (p3 : Int32).toInt (p4 : Int32).toInt (p6 : Int32).toInt (p7 : Int32).toInt (p8 : Int32).toInt (p9 : Int32).toInt ((u.2.1 0 0) : Int32).toInt ((u.2.1 1 0) : Int32).toInt ((u.2.1 2 0) : Int32).toInt ((u.2.1 3 0) : Int32).toInt ((u.2.1 4 0) : Int32).toInt ((u.2.1 5 0) : Int32).toInt) ∧ True) (fun u => (wk_8d528f753 cy h0 p1 w0 w1 h1 h2 p2 (u.2.1 0 0) (u.2.1 1 0) p5 (u.2.1 2 0) (u.2.1 3 0) (u.2.1 4 0) (u.2.1 5 0) p10 p11 (u.2.1 6 0) w2 w3 w4 w5 w6 p13 p14 w7 w8 w9 p15 p16 w10 w11 w12 w13 w14 p17 w15 w16 w17 h1 f0 h2 (u.2.1 7))) 0 0 := by
  refine q_ent (own := RX12) (by decide) rfl (Nat.le_of_ble_eq_true rfl) (fun p e s m below meth c ls X hr hlk hnm hK hT h hA hl => ?_)
  obtain ⟨hx, hb, hml, hown, ht⟩ := id X
  replace hl : lv_has ls 3 [(0, .ref h0), (1, .int p0)] := hl
  refine lv_aload_n hx hb dX12_readLaw_0 rfl (lv_at hl 0 rfl) ?_
  refine q_callVv (rest := []) (wr := [(h2, .inl (cy 1, 1306, .inl f1))]) X hK hT hA h (fun sz => gX12_next_c515fc5 l D cy h0 h1 p1 w0 w1 (.ref h2) p2 p3 p4 p5 p6 p7 p8 p9 p10 p11 p12 w2 w3 w4 w5 w6 p13 p14 w7 w8 w9 p15 p16 w10 w11 w12 w13 w14 p17 w15 w16 w17 f0 hp1 hp2 hp3 hp4 hp5 (i_rng _) hp7 (i_rng _) (i_rng _) (i_rng _) (i_rng _) (i_rng _) (i_rng _) (i_rng _) (i_rng _) (i_rng _) (i_rng _) (by (first | (clear hpre1 hpre2; omega) | omega)) sz) wm_6_53 wm_6_56 wm_1_12 hd_X12_next wm_6_55 wp_4_3 (ci := 12) (q0 := 0) rfl rfl ⟨Nat.le_of_ble_eq_true rfl, Nat.le_of_ble_eq_true rfl⟩ hl.1 rfl (Nat.le_of_ble_eq_true rfl) dX12_readLaw_1 ⟨Nat.le_of_ble_eq_true rfl, Nat.le_of_ble_eq_true rfl⟩ [0, 1] [2] rfl rfl (by decide) rfl rfl (fun u_1 H locs w_1 h_1 => ?_)
  clear h
  obtain ⟨w1_0, w1_1, w1_2, w1_3, y1_0, y1_1, y1_2, y1_3, _⟩ := w_1
  replace h_1 : qW D _ _ (wk_1d090495b cy h2 f1 h0 p1 w0 w1 h1 h2 p2 (u_1.2.1 0 0) (u_1.2.1 1 0) p5 (u_1.2.1 2 0) (u_1.2.1 3 0) p8 p9 p10 p11 p12 w2 w3 w4 w5 w6 p13 p14 w7 w8 w9 p15 p16 w10 w11 w12 w13 w14 p17 w15 w16 w17 h1 f0) _ _ := h_1
  refine lv_aload_n hx hb dX12_readLaw_4 rfl (lv_at hl 0 rfl) ?_
  refine lv_bipush (v := 31) hx hb dX12_readLaw_5 (by decide) ?_
  refine q_callVi (rest := []) (wr := [(h2, .inl (cy 1, 1306, .inl f1))]) X hK hT hA h_1 (fun sz => gX12_eats_b7d3d7f l D cy h0 h1 p1 w0 w1 (.ref h2) p2 (u_1.2.1 0 0) (u_1.2.1 1 0) p5 (u_1.2.1 2 0) (u_1.2.1 3 0) p8 p9 p10 p11 p12 w2 w3 w4 w5 w6 p13 p14 w7 w8 w9 p15 p16 w10 w11 w12 w13 w14 p17 w15 w16 w17 f0 hp1 hp2 w1_0 w1_1 hp5 (i_rng _) w1_3 (i_rng _) (i_rng _) (i_rng _) (i_rng _) (i_rng _) (i_rng _) (i_rng _) (i_rng _) (i_rng _) (i_rng _) (y1_0) (y1_1) sz) wm_6_75 wm_6_78 wm_1_12 hd_X12_eats wm_6_77 wp_4_6 (ci := 12) (q0 := 0) rfl rfl ⟨Nat.le_of_ble_eq_true rfl, Nat.le_of_ble_eq_true rfl⟩ hl.1 rfl (Nat.le_of_ble_eq_true rfl) dX12_readLaw_7 ⟨Nat.le_of_ble_eq_true rfl, Nat.le_of_ble_eq_true rfl⟩ [1, 2] [0] rfl rfl (by decide) rfl rfl (fun r_2 u_2 H locs w_2 h_2 => ?_)
  clear h_1
  obtain ⟨wr_2, w2_0, w2_1, w2_2, w2_3, y2_0, y2_1, y2_2, y2_3, y2_4, _⟩ := w_2
  have lq_2_1 : (31 : Int32).toInt = 31 := (by decide)
  replace h_2 : qW D _ _ (wk_1d090495b cy h2 f1 h0 p1 w0 w1 h1 h2 p2 (u_2.2.1 0 0) (u_2.2.1 1 0) p5 (u_2.2.1 2 0) (u_2.2.1 3 0) p8 p9 p10 p11 p12 w2 w3 w4 w5 w6 p13 p14 w7 w8 w9 p15 p16 w10 w11 w12 w13 w14 p17 w15 w16 w17 h1 f0) _ _ := h_2
  refine lv_if_ne (tgt := 18) hx hb dX12_readLaw_10 (by decide) (fun c_3 => ?_) (fun c_3 => ?_)
  · replace c_3 := i_ne (x := r_2) (y := 0) rfl (show (0 : Int32).toInt = 0 by decide) c_3
    replace y2_2 := a01_1 y2_2 c_3
    refine lv_aload_n hx hb dX12_readLaw_18 rfl (lv_at hl 0 rfl) ?_
    refine q_get X hK h_2 1 rfl rfl wf_12 4 (by decide) rfl wm_5_174 dX12_readLaw_19 ?_
    refine lv_sipush (v := 405) hx hb dX12_readLaw_22 (by decide) ?_
    refine q_iald X hK h_2 0 rfl (q_in (by decide +kernel)) dX12_readLaw_25 ?_
    refine q_c p21 htf1_405 ?_
    refine lv_istore_n (lv' := [(2, .int p21), (0, .ref h0), (1, .int p0)]) hx hb dX12_readLaw_26 rfl hl (by decide) rfl (fun ls_4 hl_4 => ?_)
    clear hl
    refine lv_aload_n hx hb dX12_readLaw_27 rfl (lv_at hl_4 1 rfl) ?_
    refine lv_iload_n hx hb dX12_readLaw_28 rfl (lv_at hl_4 2 rfl) ?_
    refine q_put (v := .int p0) X hK h_2 1 rfl rfl wf_12 tyX12 tyX12_ok nmX12 15 (by decide) wm_5_185 rfl rfl rfl (Nat.le_of_ble_eq_true rfl) dX12_readLaw_29 (fun H locs h_5 => ?_)
    clear h_2
    replace h_5 : qW D _ _ (wk_1d090495b cy h2 f1 h0 p1 w0 w1 h1 h2 p2 (u_2.2.1 0 0) (u_2.2.1 1 0) p5 (u_2.2.1 2 0) (u_2.2.1 3 0) p8 p9 p10 p11 p0 w2 w3 w4 w5 w6 p13 p14 w7 w8 w9 p15 p16 w10 w11 w12 w13 w14 p17 w15 w16 w17 h1 f0) _ _ := h_5
    refine lv_iload_n hx hb dX12_readLaw_32 rfl (lv_at hl_4 2 rfl) ?_
    refine lv_iconst (v := 2) hx hb dX12_readLaw_33 (by decide) ?_
    refine lv_icmp_ne (tgt := 45) hx hb dX12_readLaw_34 (by decide) (fun c_6 => ?_) (fun c_6 => ?_)
    · replace c_6 := i_ne (x := p0) (y := 2) rfl (show (2 : Int32).toInt = 2 by decide) c_6
      refine lv_aload_n hx hb dX12_readLaw_45 rfl (lv_at hl_4 1 rfl) ?_
      refine lv_iconst (v := 0) hx hb dX12_readLaw_46 (by decide) ?_
      refine q_callVv (rest := []) (wr := []) X hK hT hA h_5 (fun sz => (gX12_ALLT_8be2bf7 l D cy 6).1  h0 h1 h2 (0 : Int32) p1 w0 w1 p2 (u_2.2.1 0 0) (u_2.2.1 1 0) p5 (u_2.2.1 2 0) (u_2.2.1 3 0) p8 p9 p10 p11 p0 w2 w3 w4 w5 w6 p13 p14 w7 w8 w9 p15 p16 w10 w11 w12 w13 w14 p17 w15 w16 w17 f0 f1 p18 p19 p20 p21 ⟨by decide +kernel, by decide +kernel⟩ hp1 hp2 w2_0 w2_1 hp5 (i_rng _) w2_3 (i_rng _) (i_rng _) (i_rng _) (i_rng _) (i_rng _) (i_rng _) (i_rng _) (i_rng _) (i_rng _) (i_rng _) hp18 (i_rng _) hp20 hp21 htf1_0 htf1_1 htf1_2 htf1_405 (y2_0) (y2_1) (by (first | (clear hpre1 hpre2 y1_1 y2_1 y2_4; omega) | omega)) (by decide) sz) wm_6_142 wm_6_145 wm_1_12 hd_X12_readTruth wm_6_144 wp_5_5 (ci := 12) (q0 := 0) rfl rfl ⟨Nat.le_of_ble_eq_true rfl, Nat.le_of_ble_eq_true rfl⟩ hl_4.1 rfl (Nat.le_of_ble_eq_true rfl) dX12_readLaw_47 ⟨Nat.le_of_ble_eq_true rfl, Nat.le_of_ble_eq_true rfl⟩ [1, 2, 0] [] rfl rfl (by decide) rfl rfl (fun u_7 H locs w_7 h_7 => ?_)
      clear h_5
      obtain ⟨w7_0, w7_1, w7_2, w7_3, w7_4, w7_5, w7_6, w7_7, w7_8, w7_9, w7_10, y7_0, y7_1, y7_2, y7_3, y7_4, y7_5, y7_6, y7_7, _⟩ := w_7
      have lq_7_1 : (0 : Int32).toInt = 0 := (by decide)
      replace h_7 : qW D _ _ (wk_8d528f753 cy h0 p1 w0 w1 h1 h2 p2 (u_7.2.1 2 0) (u_7.2.1 3 0) p5 (u_7.2.1 4 0) (u_7.2.1 5 0) (u_7.2.1 6 0) (u_7.2.1 7 0) p10 p11 p0 w2 w3 w4 w5 w6 p13 p14 w7 w8 w9 p15 p16 w10 w11 w12 w13 w14 p17 w15 w16 w17 h1 f0 h2 (u_7.2.1 0)) _ _ := h_7
      refine lv_aload_n hx hb dX12_readLaw_50 rfl (lv_at hl_4 1 rfl) ?_
      refine q_get X hK h_7 0 rfl rfl wf_12 11 (by decide) rfl wm_5_181 dX12_readLaw_51 ?_
      refine lv_if_eq (tgt := 58) hx hb dX12_readLaw_54 (by decide) (fun c_9 => ?_) (fun c_9 => ?_)
      · replace c_9 := i_eq (x := (u_7.2.1 6 0)) (y := 0) rfl (show (0 : Int32).toInt = 0 by decide) c_9
        refine lv_aload_n hx hb dX12_readLaw_58 rfl (lv_at hl_4 1 rfl) ?_
        refine q_get X hK h_7 0 rfl rfl wf_12 4 (by decide) rfl wm_5_174 dX12_readLaw_59 ?_
        refine lv_iconst (v := 3) hx hb dX12_readLaw_62 (by decide) ?_
        refine lv_iload_n hx hb dX12_readLaw_63 rfl (lv_at hl_4 2 rfl) ?_
        refine lv_iadd hx hb dX12_readLaw_64 ?_
        obtain ⟨z_10, ez_10, hz_10⟩ := e_add (x := 3) (y := p0) (show (3 : Int32).toInt = 3 by decide) rfl (by omega) (by omega)
        refine q_c z_10 ez_10 ?_
        clear ez_10
        refine lv_iconst (v := 1) hx hb dX12_readLaw_65 (by decide) ?_
        refine q_iast X hK h_7 2 rfl (i_in rfl (by omega) (by omega)) dX12_readLaw_66 (fun H locs h_12 => ?_)
        clear h_7
        replace h_12 : qW D _ _ (wk_8d528f753 cy h0 p1 w0 w1 h1 h2 p2 (u_7.2.1 2 0) (u_7.2.1 3 0) p5 (u_7.2.1 4 0) (u_7.2.1 5 0) (u_7.2.1 6 0) (u_7.2.1 7 0) p10 p11 p0 w2 w3 w4 w5 w6 p13 p14 w7 w8 w9 p15 p16 w10 w11 w12 w13 w14 p17 w15 w16 w17 h1 f0 h2 (upd (u_7.2.1 0) (Int32.toNatClampNeg z_10) 1)) _ _ := h_12
        obtain ⟨F_11, eF_11⟩ : ∃ z, (upd (u_7.2.1 0) (Int32.toNatClampNeg z_10) 1) = z := ⟨_, rfl⟩
        have trF_11_0 := (tr_ne eF_11 w7_7 rfl (by omega))
        have trF_11_1 := (tr_ne eF_11 w7_8 rfl (by omega))
        have trF_11_2 := (tr_ne eF_11 w7_9 rfl (by omega))
        have trF_11_405 := (tr_ne eF_11 w7_10 rfl (by omega))
        rw [eF_11] at h_12
        refine lv_aload_n hx hb dX12_readLaw_67 rfl (lv_at hl_4 1 rfl) ?_
        refine q_get X hK h_12 0 rfl rfl wf_12 4 (by decide) rfl wm_5_174 dX12_readLaw_68 ?_
        refine lv_bipush (v := 6) hx hb dX12_readLaw_71 (by decide) ?_
        refine lv_iload_n hx hb dX12_readLaw_73 rfl (lv_at hl_4 2 rfl) ?_
        refine lv_iadd hx hb dX12_readLaw_74 ?_
        obtain ⟨z_13, ez_13, hz_13⟩ := e_add (x := 6) (y := p0) (show (6 : Int32).toInt = 6 by decide) rfl (by omega) (by omega)
        refine q_c z_13 ez_13 ?_
        clear ez_13
        refine lv_iload_n hx hb dX12_readLaw_75 rfl (lv_at hl_4 0 rfl) ?_
        refine q_iast X hK h_12 2 rfl (i_in rfl (by omega) (by omega)) dX12_readLaw_76 (fun H locs h_15 => ?_)
        clear h_12
        replace h_15 : qW D _ _ (wk_8d528f753 cy h0 p1 w0 w1 h1 h2 p2 (u_7.2.1 2 0) (u_7.2.1 3 0) p5 (u_7.2.1 4 0) (u_7.2.1 5 0) (u_7.2.1 6 0) (u_7.2.1 7 0) p10 p11 p0 w2 w3 w4 w5 w6 p13 p14 w7 w8 w9 p15 p16 w10 w11 w12 w13 w14 p17 w15 w16 w17 h1 f0 h2 (upd F_11 (Int32.toNatClampNeg z_13) p21)) _ _ := h_15
        obtain ⟨F_14, eF_14⟩ : ∃ z, (upd F_11 (Int32.toNatClampNeg z_13) p21) = z := ⟨_, rfl⟩
        have trF_14_0 := (tr_ne eF_14 trF_11_0 rfl (by omega))
        have trF_14_1 := (tr_ne eF_14 trF_11_1 rfl (by omega))
        have trF_14_2 := (tr_ne eF_14 trF_11_2 rfl (by omega))
        have trF_14_405 := (tr_ne eF_14 trF_11_405 rfl (by omega))
        rw [eF_14] at h_15
        refine lv_aload_n hx hb dX12_readLaw_77 rfl (lv_at hl_4 1 rfl) ?_
        refine q_get X hK h_15 0 rfl rfl wf_12 4 (by decide) rfl wm_5_174 dX12_readLaw_78 ?_
        refine lv_bipush (v := 9) hx hb dX12_readLaw_81 (by decide) ?_
        refine lv_iload_n hx hb dX12_readLaw_83 rfl (lv_at hl_4 2 rfl) ?_
        refine lv_iadd hx hb dX12_readLaw_84 ?_
        obtain ⟨z_16, ez_16, hz_16⟩ := e_add (x := 9) (y := p0) (show (9 : Int32).toInt = 9 by decide) rfl (by omega) (by omega)
        refine q_c z_16 ez_16 ?_
        clear ez_16
        refine lv_aload_n hx hb dX12_readLaw_85 rfl (lv_at hl_4 1 rfl) ?_
        refine q_get X hK h_15 0 rfl rfl wf_12 4 (by decide) rfl wm_5_174 dX12_readLaw_86 ?_
        refine lv_sipush (v := 405) hx hb dX12_readLaw_89 (by decide) ?_
        refine q_iald X hK h_15 2 rfl (q_in (by decide +kernel)) dX12_readLaw_92 ?_
        refine q_c (u_7.2.1 1 0) trF_14_405 ?_
        refine lv_iload_n hx hb dX12_readLaw_93 rfl (lv_at hl_4 0 rfl) ?_
        refine lv_isub hx hb dX12_readLaw_94 ?_
        obtain ⟨z_17, ez_17, hz_17⟩ := e_sub (x := (u_7.2.1 1 0)) (y := p21) rfl rfl (by omega) (by omega)
        refine q_c z_17 ez_17 ?_
        clear ez_17
        refine q_iast X hK h_15 2 rfl (i_in rfl (by omega) (by omega)) dX12_readLaw_95 (fun H locs h_19 => ?_)
        clear h_15
        replace h_19 : qW D _ _ (wk_8d528f753 cy h0 p1 w0 w1 h1 h2 p2 (u_7.2.1 2 0) (u_7.2.1 3 0) p5 (u_7.2.1 4 0) (u_7.2.1 5 0) (u_7.2.1 6 0) (u_7.2.1 7 0) p10 p11 p0 w2 w3 w4 w5 w6 p13 p14 w7 w8 w9 p15 p16 w10 w11 w12 w13 w14 p17 w15 w16 w17 h1 f0 h2 (upd F_14 (Int32.toNatClampNeg z_16) z_17)) _ _ := h_19
        obtain ⟨F_18, eF_18⟩ : ∃ z, (upd F_14 (Int32.toNatClampNeg z_16) z_17) = z := ⟨_, rfl⟩
        have trF_18_0 := (tr_ne eF_18 trF_14_0 rfl (by omega))
        have trF_18_1 := (tr_ne eF_18 trF_14_1 rfl (by omega))
        have trF_18_2 := (tr_ne eF_18 trF_14_2 rfl (by omega))
        have trF_18_405 := (tr_ne eF_18 trF_14_405 rfl (by omega))
        rw [eF_18] at h_19
        exact q_vret X hr hlk hK h_19 (fun _ => 0, (vcons (fun _ => (u_7.2.1 2 0)) (vcons (fun _ => (u_7.2.1 3 0)) (vcons (fun _ => (u_7.2.1 4 0)) (vcons (fun _ => (u_7.2.1 5 0)) (vcons (fun _ => (u_7.2.1 6 0)) (vcons (fun _ => (u_7.2.1 7 0)) (vcons (fun _ => p0) (vcons F_18 (vcons (fun _ => (u_7.2.1 1 0)) (fun _ => (fun _ => 0))))))))))), fun _ _ => 0) ⟨w7_1, w7_2, w7_3, w7_4, w7_5, w7_6, hp0, w7_0, trF_18_0, trF_18_1, trF_18_2, trF_18_405, y7_0, y7_1, (show (p3 : Int32).toInt ≤ ((u_7.2.1 2 0) : Int32).toInt from by (first | (clear hpre1 hpre2 y1_1 y2_1 y2_4 y7_1 y7_3 y7_4 y7_5; omega) | omega)), y7_3, y7_5, (show HF ((u_7.2.1 6 0) : Int32).toInt F_18 (((u_7.2.1 1 0) : Int32).toInt).toNat from hf_w (hf_law (hf_rx hpre3 y7_6 (by (first | assumption | (clear hpre1 hpre2 y1_1 y2_1 y2_4 y7_1 y7_3 y7_4 y7_5; omega) | omega))) y7_6 eF_11 eF_14 eF_18 (by (first | assumption | (clear hpre1 hpre2 y1_1 y2_1 y2_4 y7_1 y7_3 y7_4 y7_5; omega) | omega)) (by (first | assumption | (clear hpre1 hpre2 y1_1 y2_1 y2_4 y7_1 y7_3 y7_4 y7_5; omega) | omega)) (by (first | assumption | (clear hpre1 hpre2 y1_1 y2_1 y2_4 y7_1 y7_3 y7_4 y7_5; omega) | omega)) (by (first | assumption | (clear hpre1 hpre2 y1_1 y2_1 y2_4 y7_1 y7_3 y7_4 y7_5; omega) | omega)) (by (first | assumption | (clear hpre1 hpre2 y1_1 y2_1 y2_4 y7_1 y7_3 y7_4 y7_5; omega) | omega))) (by (first | assumption | (clear hpre1 hpre2 y1_1 y2_1 y2_4 y7_1 y7_3 y7_4 y7_5; omega) | omega))), (show SIMR f0 (p5 : Int32).toInt (lawS (nmR (p0 : Int32).toInt)) (p3 : Int32).toInt (p4 : Int32).toInt (p6 : Int32).toInt (p7 : Int32).toInt (p8 : Int32).toInt (p9 : Int32).toInt ((u_7.2.1 2 0) : Int32).toInt ((u_7.2.1 3 0) : Int32).toInt ((u_7.2.1 4 0) : Int32).toInt ((u_7.2.1 5 0) : Int32).toInt ((u_7.2.1 6 0) : Int32).toInt ((u_7.2.1 7 0) : Int32).toInt from smr_la (W2 := (p8 : Int32).toInt) (X2 := (p9 : Int32).toInt) (by (first | assumption | (clear hpre1 hpre2 y1_1 y2_1 y2_4 y7_1 y7_3 y7_4 y7_5; omega) | omega)) (by (first | assumption | (clear hpre1 hpre2 y1_1 y2_1 y2_4 y7_1 y7_3 y7_4 y7_5; omega) | omega)) (by (first | assumption | (clear hpre1 hpre2 y1_1 y2_1 y2_4 y7_1 y7_3 y7_4 y7_5; omega) | omega)) (by (first | assumption | (clear hpre1 hpre2 y1_1 y2_1 y2_4 y7_1 y7_3 y7_4 y7_5; omega) | omega)) y1_3 (by (first | assumption | (clear hpre1 hpre2 y1_1 y2_1 y2_4 y7_1 y7_3 y7_4 y7_5; omega) | omega)) (smr_tk1 (by (first | assumption | (clear hpre1 hpre2 y1_1 y2_1 y2_4 y7_1 y7_3 y7_4 y7_5; omega) | omega)) vk58 mk58 (by (first | assumption | (clear hpre1 hpre2 y1_1 y2_1 y2_4 y7_1 y7_3 y7_4 y7_5; omega) | omega)) (by (first | assumption | (clear hpre1 hpre2 y1_1 y2_1 y2_4 y7_1 y7_3 y7_4 y7_5; omega) | omega)) (by (first | assumption | (clear hpre1 hpre2 y1_1 y2_1 y2_4 y7_1 y7_3 y7_4 y7_5; omega) | omega)) (alt_r y2_3 (by (first | assumption | (clear hpre1 hpre2 y1_1 y2_1 y2_4 y7_1 y7_3 y7_4 y7_5; omega) | omega))) (by (first | assumption | (clear hpre1 hpre2 y1_1 y2_1 y2_4 y7_1 y7_3 y7_4 y7_5; omega) | omega))) (Or.inr ⟨(by (first | assumption | (clear hpre1 hpre2 y1_1 y2_1 y2_4 y7_1 y7_3 y7_4 y7_5; omega) | omega)), y7_7⟩)), trivial⟩ [0, 1, 2] rfl rfl dX12_readLaw_96 (Nat.le_of_ble_eq_true rfl) (Nat.le_of_ble_eq_true rfl)
      · replace c_9 := i_ne (x := (u_7.2.1 6 0)) (y := 0) rfl (show (0 : Int32).toInt = 0 by decide) c_9
        exact q_vret X hr hlk hK h_7 (fun _ => 0, (vcons (fun _ => (u_7.2.1 2 0)) (vcons (fun _ => (u_7.2.1 3 0)) (vcons (fun _ => (u_7.2.1 4 0)) (vcons (fun _ => (u_7.2.1 5 0)) (vcons (fun _ => (u_7.2.1 6 0)) (vcons (fun _ => (u_7.2.1 7 0)) (vcons (fun _ => p0) (vcons (u_7.2.1 0) (vcons (fun _ => (u_7.2.1 1 0)) (fun _ => (fun _ => 0))))))))))), fun _ _ => 0) ⟨w7_1, w7_2, w7_3, w7_4, w7_5, w7_6, hp0, w7_0, w7_7, w7_8, w7_9, w7_10, y7_0, y7_1, (show (p3 : Int32).toInt ≤ ((u_7.2.1 2 0) : Int32).toInt from by (first | (clear hpre1 hpre2 y1_1 y2_1 y2_4 y7_1 y7_3 y7_4 y7_5; omega) | omega)), y7_3, y7_5, (show HF ((u_7.2.1 6 0) : Int32).toInt (u_7.2.1 0) (((u_7.2.1 1 0) : Int32).toInt).toNat from hf_w (hf_rx hpre3 y7_6 (by (first | assumption | (clear hpre1 hpre2 y1_1 y2_1 y2_4 y7_1 y7_3 y7_4 y7_5; omega) | omega))) (by (first | assumption | (clear hpre1 hpre2 y1_1 y2_1 y2_4 y7_1 y7_3 y7_4 y7_5; omega) | omega))), (show SIMR f0 (p5 : Int32).toInt (lawS (nmR (p0 : Int32).toInt)) (p3 : Int32).toInt (p4 : Int32).toInt (p6 : Int32).toInt (p7 : Int32).toInt (p8 : Int32).toInt (p9 : Int32).toInt ((u_7.2.1 2 0) : Int32).toInt ((u_7.2.1 3 0) : Int32).toInt ((u_7.2.1 4 0) : Int32).toInt ((u_7.2.1 5 0) : Int32).toInt ((u_7.2.1 6 0) : Int32).toInt ((u_7.2.1 7 0) : Int32).toInt from smr_la (W2 := (p8 : Int32).toInt) (X2 := (p9 : Int32).toInt) (by (first | assumption | (clear hpre1 hpre2 y1_1 y2_1 y2_4 y7_1 y7_3 y7_4 y7_5; omega) | omega)) (by (first | assumption | (clear hpre1 hpre2 y1_1 y2_1 y2_4 y7_1 y7_3 y7_4 y7_5; omega) | omega)) (by (first | assumption | (clear hpre1 hpre2 y1_1 y2_1 y2_4 y7_1 y7_3 y7_4 y7_5; omega) | omega)) (by (first | assumption | (clear hpre1 hpre2 y1_1 y2_1 y2_4 y7_1 y7_3 y7_4 y7_5; omega) | omega)) y1_3 (by (first | assumption | (clear hpre1 hpre2 y1_1 y2_1 y2_4 y7_1 y7_3 y7_4 y7_5; omega) | omega)) (smr_tk1 (by (first | assumption | (clear hpre1 hpre2 y1_1 y2_1 y2_4 y7_1 y7_3 y7_4 y7_5; omega) | omega)) vk58 mk58 (by (first | assumption | (clear hpre1 hpre2 y1_1 y2_1 y2_4 y7_1 y7_3 y7_4 y7_5; omega) | omega)) (by (first | assumption | (clear hpre1 hpre2 y1_1 y2_1 y2_4 y7_1 y7_3 y7_4 y7_5; omega) | omega)) (by (first | assumption | (clear hpre1 hpre2 y1_1 y2_1 y2_4 y7_1 y7_3 y7_4 y7_5; omega) | omega)) (alt_r y2_3 (by (first | assumption | (clear hpre1 hpre2 y1_1 y2_1 y2_4 y7_1 y7_3 y7_4 y7_5; omega) | omega))) (by (first | assumption | (clear hpre1 hpre2 y1_1 y2_1 y2_4 y7_1 y7_3 y7_4 y7_5; omega) | omega))) (Or.inr ⟨(by (first | assumption | (clear hpre1 hpre2 y1_1 y2_1 y2_4 y7_1 y7_3 y7_4 y7_5; omega) | omega)), y7_7⟩)), trivial⟩ [0, 1, 2] rfl rfl dX12_readLaw_57 (Nat.le_of_ble_eq_true rfl) (Nat.le_of_ble_eq_true rfl)
    · replace c_6 := i_eq (x := p0) (y := 2) rfl (show (2 : Int32).toInt = 2 by decide) c_6
      refine lv_aload_n hx hb dX12_readLaw_37 rfl (lv_at hl_4 1 rfl) ?_
      refine lv_iconst (v := 0) hx hb dX12_readLaw_38 (by decide) ?_
      refine q_callVv (rest := []) (wr := []) X hK hT hA h_5 (fun sz => (gX12_ALLS_4ceebbc l D cy 6)  h0 h1 h2 (0 : Int32) p1 w0 w1 p2 (u_2.2.1 0 0) (u_2.2.1 1 0) p5 (u_2.2.1 2 0) (u_2.2.1 3 0) p8 p9 p10 p11 p0 w2 w3 w4 w5 w6 p13 p14 w7 w8 w9 p15 p16 w10 w11 w12 w13 w14 p17 w15 w16 w17 f0 f1 p18 p19 p20 p21 ⟨by decide +kernel, by decide +kernel⟩ hp1 hp2 w2_0 w2_1 hp5 (i_rng _) w2_3 (i_rng _) (i_rng _) (i_rng _) (i_rng _) (i_rng _) (i_rng _) (i_rng _) (i_rng _) (i_rng _) (i_rng _) hp18 (i_rng _) hp20 hp21 htf1_0 htf1_1 htf1_2 htf1_405 (y2_0) (y2_1) (by (first | (clear hpre1 hpre2 y1_1 y2_1 y2_4; omega) | omega)) (by decide) sz) wm_6_114 wm_6_117 wm_1_12 hd_X12_readSum wm_6_116 wp_4_15 (ci := 12) (q0 := 0) rfl rfl ⟨Nat.le_of_ble_eq_true rfl, Nat.le_of_ble_eq_true rfl⟩ hl_4.1 rfl (Nat.le_of_ble_eq_true rfl) dX12_readLaw_39 ⟨Nat.le_of_ble_eq_true rfl, Nat.le_of_ble_eq_true rfl⟩ [1, 2, 0] [] rfl rfl (by decide) rfl rfl (fun u_20 H locs w_20 h_20 => ?_)
      clear h_5
      obtain ⟨w20_0, w20_1, w20_2, w20_3, w20_4, w20_5, w20_6, w20_7, w20_8, w20_9, w20_10, y20_0, y20_1, y20_2, y20_3, y20_4, y20_5, y20_6, y20_7, _⟩ := w_20
      have lq_20_1 : (0 : Int32).toInt = 0 := (by decide)
      replace h_20 : qW D _ _ (wk_8d528f753 cy h0 p1 w0 w1 h1 h2 p2 (u_20.2.1 2 0) (u_20.2.1 3 0) p5 (u_20.2.1 4 0) (u_20.2.1 5 0) (u_20.2.1 6 0) (u_20.2.1 7 0) p10 p11 p0 w2 w3 w4 w5 w6 p13 p14 w7 w8 w9 p15 p16 w10 w11 w12 w13 w14 p17 w15 w16 w17 h1 f0 h2 (u_20.2.1 0)) _ _ := h_20
      refine lv_goto (tgt := 50) hx hb dX12_readLaw_42 (by decide) ?_
      refine lv_aload_n hx hb dX12_readLaw_50 rfl (lv_at hl_4 1 rfl) ?_
      refine q_get X hK h_20 0 rfl rfl wf_12 11 (by decide) rfl wm_5_181 dX12_readLaw_51 ?_
      refine lv_if_eq (tgt := 58) hx hb dX12_readLaw_54 (by decide) (fun c_22 => ?_) (fun c_22 => ?_)
      · replace c_22 := i_eq (x := (u_20.2.1 6 0)) (y := 0) rfl (show (0 : Int32).toInt = 0 by decide) c_22
        refine lv_aload_n hx hb dX12_readLaw_58 rfl (lv_at hl_4 1 rfl) ?_
        refine q_get X hK h_20 0 rfl rfl wf_12 4 (by decide) rfl wm_5_174 dX12_readLaw_59 ?_
        refine lv_iconst (v := 3) hx hb dX12_readLaw_62 (by decide) ?_
        refine lv_iload_n hx hb dX12_readLaw_63 rfl (lv_at hl_4 2 rfl) ?_
        refine lv_iadd hx hb dX12_readLaw_64 ?_
        obtain ⟨z_23, ez_23, hz_23⟩ := e_add (x := 3) (y := p0) (show (3 : Int32).toInt = 3 by decide) rfl (by omega) (by omega)
        refine q_c z_23 ez_23 ?_
        clear ez_23
        refine lv_iconst (v := 1) hx hb dX12_readLaw_65 (by decide) ?_
        refine q_iast X hK h_20 2 rfl (i_in rfl (by omega) (by omega)) dX12_readLaw_66 (fun H locs h_25 => ?_)
        clear h_20
        replace h_25 : qW D _ _ (wk_8d528f753 cy h0 p1 w0 w1 h1 h2 p2 (u_20.2.1 2 0) (u_20.2.1 3 0) p5 (u_20.2.1 4 0) (u_20.2.1 5 0) (u_20.2.1 6 0) (u_20.2.1 7 0) p10 p11 p0 w2 w3 w4 w5 w6 p13 p14 w7 w8 w9 p15 p16 w10 w11 w12 w13 w14 p17 w15 w16 w17 h1 f0 h2 (upd (u_20.2.1 0) (Int32.toNatClampNeg z_23) 1)) _ _ := h_25
        obtain ⟨F_24, eF_24⟩ : ∃ z, (upd (u_20.2.1 0) (Int32.toNatClampNeg z_23) 1) = z := ⟨_, rfl⟩
        have trF_24_0 := (tr_ne eF_24 w20_7 rfl (by omega))
        have trF_24_1 := (tr_ne eF_24 w20_8 rfl (by omega))
        have trF_24_2 := (tr_ne eF_24 w20_9 rfl (by omega))
        have trF_24_405 := (tr_ne eF_24 w20_10 rfl (by omega))
        rw [eF_24] at h_25
        refine lv_aload_n hx hb dX12_readLaw_67 rfl (lv_at hl_4 1 rfl) ?_
        refine q_get X hK h_25 0 rfl rfl wf_12 4 (by decide) rfl wm_5_174 dX12_readLaw_68 ?_
        refine lv_bipush (v := 6) hx hb dX12_readLaw_71 (by decide) ?_
        refine lv_iload_n hx hb dX12_readLaw_73 rfl (lv_at hl_4 2 rfl) ?_
        refine lv_iadd hx hb dX12_readLaw_74 ?_
        obtain ⟨z_26, ez_26, hz_26⟩ := e_add (x := 6) (y := p0) (show (6 : Int32).toInt = 6 by decide) rfl (by omega) (by omega)
        refine q_c z_26 ez_26 ?_
        clear ez_26
        refine lv_iload_n hx hb dX12_readLaw_75 rfl (lv_at hl_4 0 rfl) ?_
        refine q_iast X hK h_25 2 rfl (i_in rfl (by omega) (by omega)) dX12_readLaw_76 (fun H locs h_28 => ?_)
        clear h_25
        replace h_28 : qW D _ _ (wk_8d528f753 cy h0 p1 w0 w1 h1 h2 p2 (u_20.2.1 2 0) (u_20.2.1 3 0) p5 (u_20.2.1 4 0) (u_20.2.1 5 0) (u_20.2.1 6 0) (u_20.2.1 7 0) p10 p11 p0 w2 w3 w4 w5 w6 p13 p14 w7 w8 w9 p15 p16 w10 w11 w12 w13 w14 p17 w15 w16 w17 h1 f0 h2 (upd F_24 (Int32.toNatClampNeg z_26) p21)) _ _ := h_28
        obtain ⟨F_27, eF_27⟩ : ∃ z, (upd F_24 (Int32.toNatClampNeg z_26) p21) = z := ⟨_, rfl⟩
        have trF_27_0 := (tr_ne eF_27 trF_24_0 rfl (by omega))
        have trF_27_1 := (tr_ne eF_27 trF_24_1 rfl (by omega))
        have trF_27_2 := (tr_ne eF_27 trF_24_2 rfl (by omega))
        have trF_27_405 := (tr_ne eF_27 trF_24_405 rfl (by omega))
        rw [eF_27] at h_28
        refine lv_aload_n hx hb dX12_readLaw_77 rfl (lv_at hl_4 1 rfl) ?_
        refine q_get X hK h_28 0 rfl rfl wf_12 4 (by decide) rfl wm_5_174 dX12_readLaw_78 ?_
        refine lv_bipush (v := 9) hx hb dX12_readLaw_81 (by decide) ?_
        refine lv_iload_n hx hb dX12_readLaw_83 rfl (lv_at hl_4 2 rfl) ?_
        refine lv_iadd hx hb dX12_readLaw_84 ?_
        obtain ⟨z_29, ez_29, hz_29⟩ := e_add (x := 9) (y := p0) (show (9 : Int32).toInt = 9 by decide) rfl (by omega) (by omega)
        refine q_c z_29 ez_29 ?_
        clear ez_29
        refine lv_aload_n hx hb dX12_readLaw_85 rfl (lv_at hl_4 1 rfl) ?_
        refine q_get X hK h_28 0 rfl rfl wf_12 4 (by decide) rfl wm_5_174 dX12_readLaw_86 ?_
        refine lv_sipush (v := 405) hx hb dX12_readLaw_89 (by decide) ?_
        refine q_iald X hK h_28 2 rfl (q_in (by decide +kernel)) dX12_readLaw_92 ?_
        refine q_c (u_20.2.1 1 0) trF_27_405 ?_
        refine lv_iload_n hx hb dX12_readLaw_93 rfl (lv_at hl_4 0 rfl) ?_
        refine lv_isub hx hb dX12_readLaw_94 ?_
        obtain ⟨z_30, ez_30, hz_30⟩ := e_sub (x := (u_20.2.1 1 0)) (y := p21) rfl rfl (by omega) (by omega)
        refine q_c z_30 ez_30 ?_
        clear ez_30
        refine q_iast X hK h_28 2 rfl (i_in rfl (by omega) (by omega)) dX12_readLaw_95 (fun H locs h_32 => ?_)
        clear h_28
        replace h_32 : qW D _ _ (wk_8d528f753 cy h0 p1 w0 w1 h1 h2 p2 (u_20.2.1 2 0) (u_20.2.1 3 0) p5 (u_20.2.1 4 0) (u_20.2.1 5 0) (u_20.2.1 6 0) (u_20.2.1 7 0) p10 p11 p0 w2 w3 w4 w5 w6 p13 p14 w7 w8 w9 p15 p16 w10 w11 w12 w13 w14 p17 w15 w16 w17 h1 f0 h2 (upd F_27 (Int32.toNatClampNeg z_29) z_30)) _ _ := h_32
        obtain ⟨F_31, eF_31⟩ : ∃ z, (upd F_27 (Int32.toNatClampNeg z_29) z_30) = z := ⟨_, rfl⟩
        have trF_31_0 := (tr_ne eF_31 trF_27_0 rfl (by omega))
        have trF_31_1 := (tr_ne eF_31 trF_27_1 rfl (by omega))
        have trF_31_2 := (tr_ne eF_31 trF_27_2 rfl (by omega))
        have trF_31_405 := (tr_ne eF_31 trF_27_405 rfl (by omega))
        rw [eF_31] at h_32
        exact q_vret X hr hlk hK h_32 (fun _ => 0, (vcons (fun _ => (u_20.2.1 2 0)) (vcons (fun _ => (u_20.2.1 3 0)) (vcons (fun _ => (u_20.2.1 4 0)) (vcons (fun _ => (u_20.2.1 5 0)) (vcons (fun _ => (u_20.2.1 6 0)) (vcons (fun _ => (u_20.2.1 7 0)) (vcons (fun _ => p0) (vcons F_31 (vcons (fun _ => (u_20.2.1 1 0)) (fun _ => (fun _ => 0))))))))))), fun _ _ => 0) ⟨w20_1, w20_2, w20_3, w20_4, w20_5, w20_6, hp0, w20_0, trF_31_0, trF_31_1, trF_31_2, trF_31_405, y20_0, y20_1, (show (p3 : Int32).toInt ≤ ((u_20.2.1 2 0) : Int32).toInt from by (first | (clear hpre1 hpre2 y1_1 y2_1 y2_4 y20_1 y20_3 y20_4 y20_5; omega) | omega)), y20_3, y20_5, (show HF ((u_20.2.1 6 0) : Int32).toInt F_31 (((u_20.2.1 1 0) : Int32).toInt).toNat from hf_w (hf_law (hf_rx hpre3 y20_6 (by (first | assumption | (clear hpre1 hpre2 y1_1 y2_1 y2_4 y20_1 y20_3 y20_4 y20_5; omega) | omega))) y20_6 eF_24 eF_27 eF_31 (by (first | assumption | (clear hpre1 hpre2 y1_1 y2_1 y2_4 y20_1 y20_3 y20_4 y20_5; omega) | omega)) (by (first | assumption | (clear hpre1 hpre2 y1_1 y2_1 y2_4 y20_1 y20_3 y20_4 y20_5; omega) | omega)) (by (first | assumption | (clear hpre1 hpre2 y1_1 y2_1 y2_4 y20_1 y20_3 y20_4 y20_5; omega) | omega)) (by (first | assumption | (clear hpre1 hpre2 y1_1 y2_1 y2_4 y20_1 y20_3 y20_4 y20_5; omega) | omega)) (by (first | assumption | (clear hpre1 hpre2 y1_1 y2_1 y2_4 y20_1 y20_3 y20_4 y20_5; omega) | omega))) (by (first | assumption | (clear hpre1 hpre2 y1_1 y2_1 y2_4 y20_1 y20_3 y20_4 y20_5; omega) | omega))), (show SIMR f0 (p5 : Int32).toInt (lawS (nmR (p0 : Int32).toInt)) (p3 : Int32).toInt (p4 : Int32).toInt (p6 : Int32).toInt (p7 : Int32).toInt (p8 : Int32).toInt (p9 : Int32).toInt ((u_20.2.1 2 0) : Int32).toInt ((u_20.2.1 3 0) : Int32).toInt ((u_20.2.1 4 0) : Int32).toInt ((u_20.2.1 5 0) : Int32).toInt ((u_20.2.1 6 0) : Int32).toInt ((u_20.2.1 7 0) : Int32).toInt from smr_la (W2 := (p8 : Int32).toInt) (X2 := (p9 : Int32).toInt) (by (first | assumption | (clear hpre1 hpre2 y1_1 y2_1 y2_4 y20_1 y20_3 y20_4 y20_5; omega) | omega)) (by (first | assumption | (clear hpre1 hpre2 y1_1 y2_1 y2_4 y20_1 y20_3 y20_4 y20_5; omega) | omega)) (by (first | assumption | (clear hpre1 hpre2 y1_1 y2_1 y2_4 y20_1 y20_3 y20_4 y20_5; omega) | omega)) (by (first | assumption | (clear hpre1 hpre2 y1_1 y2_1 y2_4 y20_1 y20_3 y20_4 y20_5; omega) | omega)) y1_3 (by (first | assumption | (clear hpre1 hpre2 y1_1 y2_1 y2_4 y20_1 y20_3 y20_4 y20_5; omega) | omega)) (smr_tk1 (by (first | assumption | (clear hpre1 hpre2 y1_1 y2_1 y2_4 y20_1 y20_3 y20_4 y20_5; omega) | omega)) vk58 mk58 (by (first | assumption | (clear hpre1 hpre2 y1_1 y2_1 y2_4 y20_1 y20_3 y20_4 y20_5; omega) | omega)) (by (first | assumption | (clear hpre1 hpre2 y1_1 y2_1 y2_4 y20_1 y20_3 y20_4 y20_5; omega) | omega)) (by (first | assumption | (clear hpre1 hpre2 y1_1 y2_1 y2_4 y20_1 y20_3 y20_4 y20_5; omega) | omega)) (alt_r y2_3 (by (first | assumption | (clear hpre1 hpre2 y1_1 y2_1 y2_4 y20_1 y20_3 y20_4 y20_5; omega) | omega))) (by (first | assumption | (clear hpre1 hpre2 y1_1 y2_1 y2_4 y20_1 y20_3 y20_4 y20_5; omega) | omega))) (Or.inl ⟨(by (first | assumption | (clear hpre1 hpre2 y1_1 y2_1 y2_4 y20_1 y20_3 y20_4 y20_5; omega) | omega)), y20_7⟩)), trivial⟩ [0, 1, 2] rfl rfl dX12_readLaw_96 (Nat.le_of_ble_eq_true rfl) (Nat.le_of_ble_eq_true rfl)
      · replace c_22 := i_ne (x := (u_20.2.1 6 0)) (y := 0) rfl (show (0 : Int32).toInt = 0 by decide) c_22
        exact q_vret X hr hlk hK h_20 (fun _ => 0, (vcons (fun _ => (u_20.2.1 2 0)) (vcons (fun _ => (u_20.2.1 3 0)) (vcons (fun _ => (u_20.2.1 4 0)) (vcons (fun _ => (u_20.2.1 5 0)) (vcons (fun _ => (u_20.2.1 6 0)) (vcons (fun _ => (u_20.2.1 7 0)) (vcons (fun _ => p0) (vcons (u_20.2.1 0) (vcons (fun _ => (u_20.2.1 1 0)) (fun _ => (fun _ => 0))))))))))), fun _ _ => 0) ⟨w20_1, w20_2, w20_3, w20_4, w20_5, w20_6, hp0, w20_0, w20_7, w20_8, w20_9, w20_10, y20_0, y20_1, (show (p3 : Int32).toInt ≤ ((u_20.2.1 2 0) : Int32).toInt from by (first | (clear hpre1 hpre2 y1_1 y2_1 y2_4 y20_1 y20_3 y20_4 y20_5; omega) | omega)), y20_3, y20_5, (show HF ((u_20.2.1 6 0) : Int32).toInt (u_20.2.1 0) (((u_20.2.1 1 0) : Int32).toInt).toNat from hf_w (hf_rx hpre3 y20_6 (by (first | assumption | (clear hpre1 hpre2 y1_1 y2_1 y2_4 y20_1 y20_3 y20_4 y20_5; omega) | omega))) (by (first | assumption | (clear hpre1 hpre2 y1_1 y2_1 y2_4 y20_1 y20_3 y20_4 y20_5; omega) | omega))), (show SIMR f0 (p5 : Int32).toInt (lawS (nmR (p0 : Int32).toInt)) (p3 : Int32).toInt (p4 : Int32).toInt (p6 : Int32).toInt (p7 : Int32).toInt (p8 : Int32).toInt (p9 : Int32).toInt ((u_20.2.1 2 0) : Int32).toInt ((u_20.2.1 3 0) : Int32).toInt ((u_20.2.1 4 0) : Int32).toInt ((u_20.2.1 5 0) : Int32).toInt ((u_20.2.1 6 0) : Int32).toInt ((u_20.2.1 7 0) : Int32).toInt from smr_la (W2 := (p8 : Int32).toInt) (X2 := (p9 : Int32).toInt) (by (first | assumption | (clear hpre1 hpre2 y1_1 y2_1 y2_4 y20_1 y20_3 y20_4 y20_5; omega) | omega)) (by (first | assumption | (clear hpre1 hpre2 y1_1 y2_1 y2_4 y20_1 y20_3 y20_4 y20_5; omega) | omega)) (by (first | assumption | (clear hpre1 hpre2 y1_1 y2_1 y2_4 y20_1 y20_3 y20_4 y20_5; omega) | omega)) (by (first | assumption | (clear hpre1 hpre2 y1_1 y2_1 y2_4 y20_1 y20_3 y20_4 y20_5; omega) | omega)) y1_3 (by (first | assumption | (clear hpre1 hpre2 y1_1 y2_1 y2_4 y20_1 y20_3 y20_4 y20_5; omega) | omega)) (smr_tk1 (by (first | assumption | (clear hpre1 hpre2 y1_1 y2_1 y2_4 y20_1 y20_3 y20_4 y20_5; omega) | omega)) vk58 mk58 (by (first | assumption | (clear hpre1 hpre2 y1_1 y2_1 y2_4 y20_1 y20_3 y20_4 y20_5; omega) | omega)) (by (first | assumption | (clear hpre1 hpre2 y1_1 y2_1 y2_4 y20_1 y20_3 y20_4 y20_5; omega) | omega)) (by (first | assumption | (clear hpre1 hpre2 y1_1 y2_1 y2_4 y20_1 y20_3 y20_4 y20_5; omega) | omega)) (alt_r y2_3 (by (first | assumption | (clear hpre1 hpre2 y1_1 y2_1 y2_4 y20_1 y20_3 y20_4 y20_5; omega) | omega))) (by (first | assumption | (clear hpre1 hpre2 y1_1 y2_1 y2_4 y20_1 y20_3 y20_4 y20_5; omega) | omega))) (Or.inl ⟨(by (first | assumption | (clear hpre1 hpre2 y1_1 y2_1 y2_4 y20_1 y20_3 y20_4 y20_5; omega) | omega)), y20_7⟩)), trivial⟩ [0, 1, 2] rfl rfl dX12_readLaw_57 (Nat.le_of_ble_eq_true rfl) (Nat.le_of_ble_eq_true rfl)
  · replace c_3 := i_eq (x := r_2) (y := 0) rfl (show (0 : Int32).toInt = 0 by decide) c_3
    replace y2_2 := a01_0 y2_2 c_3
    obtain ⟨y2_2a, y2_2b, y2_2c, y2_2d⟩ := y2_2
    refine lv_aload_n hx hb dX12_readLaw_13 rfl (lv_at hl 0 rfl) ?_
    refine lv_iconst (v := 2) hx hb dX12_readLaw_14 (by decide) ?_
    refine q_callVv (rest := []) (wr := (wk_8c87e24ed cy h2 f1 h1 f0)) X hK hT hA h_2 (fun sz => gX12_fails_1e02d40 l D cy h0 p1 w0 w1 (.ref h1) (.ref h2) p2 (u_2.2.1 0 0) (u_2.2.1 1 0) p5 (u_2.2.1 2 0) (u_2.2.1 3 0) p8 p9 p10 p11 p12 w2 w3 w4 w5 w6 p13 p14 w7 w8 w9 p15 p16 w10 w11 w12 w13 w14 p17 w15 w16 w17 hp1 hp2 w2_0 w2_1 hp5 (i_rng _) w2_3 (i_rng _) (i_rng _) (i_rng _) (i_rng _) (i_rng _) (i_rng _) (i_rng _) (i_rng _) (i_rng _) (i_rng _) sz) wm_6_83 wm_6_86 wm_1_12 hd_X12_fails wm_6_85 wp_4_8 (ci := 12) (q0 := 0) rfl rfl ⟨Nat.le_of_ble_eq_true rfl, Nat.le_of_ble_eq_true rfl⟩ hl.1 rfl (Nat.le_of_ble_eq_true rfl) dX12_readLaw_15 ⟨Nat.le_of_ble_eq_true rfl, Nat.le_of_ble_eq_true rfl⟩ [1] [0, 2] rfl rfl (by decide) rfl rfl (fun u_33 H locs w_33 h_33 => ?_)
    clear h_2
    obtain ⟨w33_0, w33_1, y33_0, y33_1, _⟩ := w_33
    have lq_33_1 : (2 : Int32).toInt = 2 := (by decide)
    replace h_33 : qW D _ _ (wk_a24e8cc19 cy h2 f1 h1 f0 h0 p1 w0 w1 h1 h2 p2 (u_2.2.1 0 0) (u_2.2.1 1 0) p5 (u_2.2.1 2 0) (u_2.2.1 3 0) (u_33.2.1 0 0) (u_33.2.1 1 0) p10 p11 p12 w2 w3 w4 w5 w6 p13 p14 w7 w8 w9 p15 p16 w10 w11 w12 w13 w14 p17 w15 w16 w17) _ _ := h_33
    refine lv_aload_n hx hb dX12_readLaw_18 rfl (lv_at hl 0 rfl) ?_
    refine q_get X hK h_33 2 rfl rfl wf_12 4 (by decide) rfl wm_5_174 dX12_readLaw_19 ?_
    refine lv_sipush (v := 405) hx hb dX12_readLaw_22 (by decide) ?_
    refine q_iald X hK h_33 0 rfl (q_in (by decide +kernel)) dX12_readLaw_25 ?_
    refine q_c p21 htf1_405 ?_
    refine lv_istore_n (lv' := [(2, .int p21), (0, .ref h0), (1, .int p0)]) hx hb dX12_readLaw_26 rfl hl (by decide) rfl (fun ls_34 hl_34 => ?_)
    clear hl
    refine lv_aload_n hx hb dX12_readLaw_27 rfl (lv_at hl_34 1 rfl) ?_
    refine lv_iload_n hx hb dX12_readLaw_28 rfl (lv_at hl_34 2 rfl) ?_
    refine q_put (v := .int p0) X hK h_33 2 rfl rfl wf_12 tyX12 tyX12_ok nmX12 15 (by decide) wm_5_185 rfl rfl rfl (Nat.le_of_ble_eq_true rfl) dX12_readLaw_29 (fun H locs h_35 => ?_)
    clear h_33
    replace h_35 : qW D _ _ (wk_a24e8cc19 cy h2 f1 h1 f0 h0 p1 w0 w1 h1 h2 p2 (u_2.2.1 0 0) (u_2.2.1 1 0) p5 (u_2.2.1 2 0) (u_2.2.1 3 0) (u_33.2.1 0 0) (u_33.2.1 1 0) p10 p11 p0 w2 w3 w4 w5 w6 p13 p14 w7 w8 w9 p15 p16 w10 w11 w12 w13 w14 p17 w15 w16 w17) _ _ := h_35
    refine lv_iload_n hx hb dX12_readLaw_32 rfl (lv_at hl_34 2 rfl) ?_
    refine lv_iconst (v := 2) hx hb dX12_readLaw_33 (by decide) ?_
    refine lv_icmp_ne (tgt := 45) hx hb dX12_readLaw_34 (by decide) (fun c_36 => ?_) (fun c_36 => ?_)
    · replace c_36 := i_ne (x := p0) (y := 2) rfl (show (2 : Int32).toInt = 2 by decide) c_36
      refine lv_aload_n hx hb dX12_readLaw_45 rfl (lv_at hl_34 1 rfl) ?_
      refine lv_iconst (v := 0) hx hb dX12_readLaw_46 (by decide) ?_
      refine q_callVv (rest := []) (wr := []) X hK hT hA h_35 (fun sz => (gX12_ALLT_8be2bf7 l D cy 6).1  h0 h1 h2 (0 : Int32) p1 w0 w1 p2 (u_2.2.1 0 0) (u_2.2.1 1 0) p5 (u_2.2.1 2 0) (u_2.2.1 3 0) (u_33.2.1 0 0) (u_33.2.1 1 0) p10 p11 p0 w2 w3 w4 w5 w6 p13 p14 w7 w8 w9 p15 p16 w10 w11 w12 w13 w14 p17 w15 w16 w17 f0 f1 p18 p19 p20 p21 ⟨by decide +kernel, by decide +kernel⟩ hp1 hp2 w2_0 w2_1 hp5 (i_rng _) w2_3 (i_rng _) (i_rng _) (i_rng _) (i_rng _) (i_rng _) (i_rng _) (i_rng _) (i_rng _) (i_rng _) (i_rng _) hp18 (i_rng _) hp20 hp21 htf1_0 htf1_1 htf1_2 htf1_405 (y2_0) (y2_1) (by (first | (clear hpre1 hpre2 y1_1 y2_1 y2_4 y2_2d; omega) | omega)) (by decide) sz) wm_6_142 wm_6_145 wm_1_12 hd_X12_readTruth wm_6_144 wp_5_5 (ci := 12) (q0 := 0) rfl rfl ⟨Nat.le_of_ble_eq_true rfl, Nat.le_of_ble_eq_true rfl⟩ hl_34.1 rfl (Nat.le_of_ble_eq_true rfl) dX12_readLaw_47 ⟨Nat.le_of_ble_eq_true rfl, Nat.le_of_ble_eq_true rfl⟩ [2, 1, 0] [] rfl rfl (by decide) rfl rfl (fun u_37 H locs w_37 h_37 => ?_)
      clear h_35
      obtain ⟨w37_0, w37_1, w37_2, w37_3, w37_4, w37_5, w37_6, w37_7, w37_8, w37_9, w37_10, y37_0, y37_1, y37_2, y37_3, y37_4, y37_5, y37_6, y37_7, _⟩ := w_37
      have lq_37_1 : (0 : Int32).toInt = 0 := (by decide)
      replace h_37 : qW D _ _ (wk_8d528f753 cy h0 p1 w0 w1 h1 h2 p2 (u_37.2.1 2 0) (u_37.2.1 3 0) p5 (u_37.2.1 4 0) (u_37.2.1 5 0) (u_37.2.1 6 0) (u_37.2.1 7 0) p10 p11 p0 w2 w3 w4 w5 w6 p13 p14 w7 w8 w9 p15 p16 w10 w11 w12 w13 w14 p17 w15 w16 w17 h1 f0 h2 (u_37.2.1 0)) _ _ := h_37
      refine lv_aload_n hx hb dX12_readLaw_50 rfl (lv_at hl_34 1 rfl) ?_
      refine q_get X hK h_37 0 rfl rfl wf_12 11 (by decide) rfl wm_5_181 dX12_readLaw_51 ?_
      refine lv_if_eq (tgt := 58) hx hb dX12_readLaw_54 (by decide) (fun c_39 => ?_) (fun c_39 => ?_)
      · replace c_39 := i_eq (x := (u_37.2.1 6 0)) (y := 0) rfl (show (0 : Int32).toInt = 0 by decide) c_39
        refine lv_aload_n hx hb dX12_readLaw_58 rfl (lv_at hl_34 1 rfl) ?_
        refine q_get X hK h_37 0 rfl rfl wf_12 4 (by decide) rfl wm_5_174 dX12_readLaw_59 ?_
        refine lv_iconst (v := 3) hx hb dX12_readLaw_62 (by decide) ?_
        refine lv_iload_n hx hb dX12_readLaw_63 rfl (lv_at hl_34 2 rfl) ?_
        refine lv_iadd hx hb dX12_readLaw_64 ?_
        obtain ⟨z_40, ez_40, hz_40⟩ := e_add (x := 3) (y := p0) (show (3 : Int32).toInt = 3 by decide) rfl (by omega) (by omega)
        refine q_c z_40 ez_40 ?_
        clear ez_40
        refine lv_iconst (v := 1) hx hb dX12_readLaw_65 (by decide) ?_
        refine q_iast X hK h_37 2 rfl (i_in rfl (by omega) (by omega)) dX12_readLaw_66 (fun H locs h_42 => ?_)
        clear h_37
        replace h_42 : qW D _ _ (wk_8d528f753 cy h0 p1 w0 w1 h1 h2 p2 (u_37.2.1 2 0) (u_37.2.1 3 0) p5 (u_37.2.1 4 0) (u_37.2.1 5 0) (u_37.2.1 6 0) (u_37.2.1 7 0) p10 p11 p0 w2 w3 w4 w5 w6 p13 p14 w7 w8 w9 p15 p16 w10 w11 w12 w13 w14 p17 w15 w16 w17 h1 f0 h2 (upd (u_37.2.1 0) (Int32.toNatClampNeg z_40) 1)) _ _ := h_42
        obtain ⟨F_41, eF_41⟩ : ∃ z, (upd (u_37.2.1 0) (Int32.toNatClampNeg z_40) 1) = z := ⟨_, rfl⟩
        have trF_41_0 := (tr_ne eF_41 w37_7 rfl (by omega))
        have trF_41_1 := (tr_ne eF_41 w37_8 rfl (by omega))
        have trF_41_2 := (tr_ne eF_41 w37_9 rfl (by omega))
        have trF_41_405 := (tr_ne eF_41 w37_10 rfl (by omega))
        rw [eF_41] at h_42
        refine lv_aload_n hx hb dX12_readLaw_67 rfl (lv_at hl_34 1 rfl) ?_
        refine q_get X hK h_42 0 rfl rfl wf_12 4 (by decide) rfl wm_5_174 dX12_readLaw_68 ?_
        refine lv_bipush (v := 6) hx hb dX12_readLaw_71 (by decide) ?_
        refine lv_iload_n hx hb dX12_readLaw_73 rfl (lv_at hl_34 2 rfl) ?_
        refine lv_iadd hx hb dX12_readLaw_74 ?_
        obtain ⟨z_43, ez_43, hz_43⟩ := e_add (x := 6) (y := p0) (show (6 : Int32).toInt = 6 by decide) rfl (by omega) (by omega)
        refine q_c z_43 ez_43 ?_
        clear ez_43
        refine lv_iload_n hx hb dX12_readLaw_75 rfl (lv_at hl_34 0 rfl) ?_
        refine q_iast X hK h_42 2 rfl (i_in rfl (by omega) (by omega)) dX12_readLaw_76 (fun H locs h_45 => ?_)
        clear h_42
        replace h_45 : qW D _ _ (wk_8d528f753 cy h0 p1 w0 w1 h1 h2 p2 (u_37.2.1 2 0) (u_37.2.1 3 0) p5 (u_37.2.1 4 0) (u_37.2.1 5 0) (u_37.2.1 6 0) (u_37.2.1 7 0) p10 p11 p0 w2 w3 w4 w5 w6 p13 p14 w7 w8 w9 p15 p16 w10 w11 w12 w13 w14 p17 w15 w16 w17 h1 f0 h2 (upd F_41 (Int32.toNatClampNeg z_43) p21)) _ _ := h_45
        obtain ⟨F_44, eF_44⟩ : ∃ z, (upd F_41 (Int32.toNatClampNeg z_43) p21) = z := ⟨_, rfl⟩
        have trF_44_0 := (tr_ne eF_44 trF_41_0 rfl (by omega))
        have trF_44_1 := (tr_ne eF_44 trF_41_1 rfl (by omega))
        have trF_44_2 := (tr_ne eF_44 trF_41_2 rfl (by omega))
        have trF_44_405 := (tr_ne eF_44 trF_41_405 rfl (by omega))
        rw [eF_44] at h_45
        refine lv_aload_n hx hb dX12_readLaw_77 rfl (lv_at hl_34 1 rfl) ?_
        refine q_get X hK h_45 0 rfl rfl wf_12 4 (by decide) rfl wm_5_174 dX12_readLaw_78 ?_
        refine lv_bipush (v := 9) hx hb dX12_readLaw_81 (by decide) ?_
        refine lv_iload_n hx hb dX12_readLaw_83 rfl (lv_at hl_34 2 rfl) ?_
        refine lv_iadd hx hb dX12_readLaw_84 ?_
        obtain ⟨z_46, ez_46, hz_46⟩ := e_add (x := 9) (y := p0) (show (9 : Int32).toInt = 9 by decide) rfl (by omega) (by omega)
        refine q_c z_46 ez_46 ?_
        clear ez_46
        refine lv_aload_n hx hb dX12_readLaw_85 rfl (lv_at hl_34 1 rfl) ?_
        refine q_get X hK h_45 0 rfl rfl wf_12 4 (by decide) rfl wm_5_174 dX12_readLaw_86 ?_
        refine lv_sipush (v := 405) hx hb dX12_readLaw_89 (by decide) ?_
        refine q_iald X hK h_45 2 rfl (q_in (by decide +kernel)) dX12_readLaw_92 ?_
        refine q_c (u_37.2.1 1 0) trF_44_405 ?_
        refine lv_iload_n hx hb dX12_readLaw_93 rfl (lv_at hl_34 0 rfl) ?_
        refine lv_isub hx hb dX12_readLaw_94 ?_
        obtain ⟨z_47, ez_47, hz_47⟩ := e_sub (x := (u_37.2.1 1 0)) (y := p21) rfl rfl (by omega) (by omega)
        refine q_c z_47 ez_47 ?_
        clear ez_47
        refine q_iast X hK h_45 2 rfl (i_in rfl (by omega) (by omega)) dX12_readLaw_95 (fun H locs h_49 => ?_)
        clear h_45
        replace h_49 : qW D _ _ (wk_8d528f753 cy h0 p1 w0 w1 h1 h2 p2 (u_37.2.1 2 0) (u_37.2.1 3 0) p5 (u_37.2.1 4 0) (u_37.2.1 5 0) (u_37.2.1 6 0) (u_37.2.1 7 0) p10 p11 p0 w2 w3 w4 w5 w6 p13 p14 w7 w8 w9 p15 p16 w10 w11 w12 w13 w14 p17 w15 w16 w17 h1 f0 h2 (upd F_44 (Int32.toNatClampNeg z_46) z_47)) _ _ := h_49
        obtain ⟨F_48, eF_48⟩ : ∃ z, (upd F_44 (Int32.toNatClampNeg z_46) z_47) = z := ⟨_, rfl⟩
        have trF_48_0 := (tr_ne eF_48 trF_44_0 rfl (by omega))
        have trF_48_1 := (tr_ne eF_48 trF_44_1 rfl (by omega))
        have trF_48_2 := (tr_ne eF_48 trF_44_2 rfl (by omega))
        have trF_48_405 := (tr_ne eF_48 trF_44_405 rfl (by omega))
        rw [eF_48] at h_49
        exact q_vret X hr hlk hK h_49 (fun _ => 0, (vcons (fun _ => (u_37.2.1 2 0)) (vcons (fun _ => (u_37.2.1 3 0)) (vcons (fun _ => (u_37.2.1 4 0)) (vcons (fun _ => (u_37.2.1 5 0)) (vcons (fun _ => (u_37.2.1 6 0)) (vcons (fun _ => (u_37.2.1 7 0)) (vcons (fun _ => p0) (vcons F_48 (vcons (fun _ => (u_37.2.1 1 0)) (fun _ => (fun _ => 0))))))))))), fun _ _ => 0) ⟨w37_1, w37_2, w37_3, w37_4, w37_5, w37_6, hp0, w37_0, trF_48_0, trF_48_1, trF_48_2, trF_48_405, y37_0, y37_1, (show (p3 : Int32).toInt ≤ ((u_37.2.1 2 0) : Int32).toInt from by (first | (clear hpre1 hpre2 y1_1 y2_1 y2_4 y2_2d y37_1 y37_3 y37_4 y37_5; omega) | omega)), (show ((u_37.2.1 6 0) : Int32).toInt ≠ 0 ∨ (p8 : Int32).toInt = 0 from by (first | (clear hpre1 hpre2 y1_1 y2_1 y2_4 y2_2d y37_1 y37_3 y37_4 y37_5; omega) | omega)), y37_5, (show HF ((u_37.2.1 6 0) : Int32).toInt F_48 (((u_37.2.1 1 0) : Int32).toInt).toNat from hf_w (hf_law (hf_rx hpre3 y37_6 (by (first | assumption | (clear hpre1 hpre2 y1_1 y2_1 y2_4 y2_2d y37_1 y37_3 y37_4 y37_5; omega) | omega))) y37_6 eF_41 eF_44 eF_48 (by (first | assumption | (clear hpre1 hpre2 y1_1 y2_1 y2_4 y2_2d y37_1 y37_3 y37_4 y37_5; omega) | omega)) (by (first | assumption | (clear hpre1 hpre2 y1_1 y2_1 y2_4 y2_2d y37_1 y37_3 y37_4 y37_5; omega) | omega)) (by (first | assumption | (clear hpre1 hpre2 y1_1 y2_1 y2_4 y2_2d y37_1 y37_3 y37_4 y37_5; omega) | omega)) (by (first | assumption | (clear hpre1 hpre2 y1_1 y2_1 y2_4 y2_2d y37_1 y37_3 y37_4 y37_5; omega) | omega)) (by (first | assumption | (clear hpre1 hpre2 y1_1 y2_1 y2_4 y2_2d y37_1 y37_3 y37_4 y37_5; omega) | omega))) (by (first | assumption | (clear hpre1 hpre2 y1_1 y2_1 y2_4 y2_2d y37_1 y37_3 y37_4 y37_5; omega) | omega))), (show SIMR f0 (p5 : Int32).toInt (lawS (nmR (p0 : Int32).toInt)) (p3 : Int32).toInt (p4 : Int32).toInt (p6 : Int32).toInt (p7 : Int32).toInt (p8 : Int32).toInt (p9 : Int32).toInt ((u_37.2.1 2 0) : Int32).toInt ((u_37.2.1 3 0) : Int32).toInt ((u_37.2.1 4 0) : Int32).toInt ((u_37.2.1 5 0) : Int32).toInt ((u_37.2.1 6 0) : Int32).toInt ((u_37.2.1 7 0) : Int32).toInt from smr_la (W2 := (p8 : Int32).toInt) (X2 := (p9 : Int32).toInt) (by (first | assumption | (clear hpre1 hpre2 y1_1 y2_1 y2_4 y2_2d y37_1 y37_3 y37_4 y37_5; omega) | omega)) (by (first | assumption | (clear hpre1 hpre2 y1_1 y2_1 y2_4 y2_2d y37_1 y37_3 y37_4 y37_5; omega) | omega)) (by (first | assumption | (clear hpre1 hpre2 y1_1 y2_1 y2_4 y2_2d y37_1 y37_3 y37_4 y37_5; omega) | omega)) (by (first | assumption | (clear hpre1 hpre2 y1_1 y2_1 y2_4 y2_2d y37_1 y37_3 y37_4 y37_5; omega) | omega)) y1_3 (by (first | assumption | (clear hpre1 hpre2 y1_1 y2_1 y2_4 y2_2d y37_1 y37_3 y37_4 y37_5; omega) | omega)) (smr_tkn (by (first | assumption | (clear hpre1 hpre2 y1_1 y2_1 y2_4 y2_2d y37_1 y37_3 y37_4 y37_5; omega) | omega)) (by (first | assumption | (clear hpre1 hpre2 y1_1 y2_1 y2_4 y2_2d y37_1 y37_3 y37_4 y37_5; omega) | omega)) (by (first | assumption | (clear hpre1 hpre2 y1_1 y2_1 y2_4 y2_2d y37_1 y37_3 y37_4 y37_5; omega) | omega)) (by (first | assumption | (clear hpre1 hpre2 y1_1 y2_1 y2_4 y2_2d y37_1 y37_3 y37_4 y37_5; omega) | omega)) (by (first | assumption | (clear hpre1 hpre2 y1_1 y2_1 y2_4 y2_2d y37_1 y37_3 y37_4 y37_5; omega) | omega)) mk58 y33_1) (Or.inr ⟨(by (first | assumption | (clear hpre1 hpre2 y1_1 y2_1 y2_4 y2_2d y37_1 y37_3 y37_4 y37_5; omega) | omega)), y37_7⟩)), trivial⟩ [0, 1, 2] rfl rfl dX12_readLaw_96 (Nat.le_of_ble_eq_true rfl) (Nat.le_of_ble_eq_true rfl)
      · replace c_39 := i_ne (x := (u_37.2.1 6 0)) (y := 0) rfl (show (0 : Int32).toInt = 0 by decide) c_39
        exact q_vret X hr hlk hK h_37 (fun _ => 0, (vcons (fun _ => (u_37.2.1 2 0)) (vcons (fun _ => (u_37.2.1 3 0)) (vcons (fun _ => (u_37.2.1 4 0)) (vcons (fun _ => (u_37.2.1 5 0)) (vcons (fun _ => (u_37.2.1 6 0)) (vcons (fun _ => (u_37.2.1 7 0)) (vcons (fun _ => p0) (vcons (u_37.2.1 0) (vcons (fun _ => (u_37.2.1 1 0)) (fun _ => (fun _ => 0))))))))))), fun _ _ => 0) ⟨w37_1, w37_2, w37_3, w37_4, w37_5, w37_6, hp0, w37_0, w37_7, w37_8, w37_9, w37_10, y37_0, y37_1, (show (p3 : Int32).toInt ≤ ((u_37.2.1 2 0) : Int32).toInt from by (first | (clear hpre1 hpre2 y1_1 y2_1 y2_4 y2_2d y37_1 y37_3 y37_4 y37_5; omega) | omega)), (show ((u_37.2.1 6 0) : Int32).toInt ≠ 0 ∨ (p8 : Int32).toInt = 0 from by (first | (clear hpre1 hpre2 y1_1 y2_1 y2_4 y2_2d y37_1 y37_3 y37_4 y37_5; omega) | omega)), y37_5, (show HF ((u_37.2.1 6 0) : Int32).toInt (u_37.2.1 0) (((u_37.2.1 1 0) : Int32).toInt).toNat from hf_w (hf_rx hpre3 y37_6 (by (first | assumption | (clear hpre1 hpre2 y1_1 y2_1 y2_4 y2_2d y37_1 y37_3 y37_4 y37_5; omega) | omega))) (by (first | assumption | (clear hpre1 hpre2 y1_1 y2_1 y2_4 y2_2d y37_1 y37_3 y37_4 y37_5; omega) | omega))), (show SIMR f0 (p5 : Int32).toInt (lawS (nmR (p0 : Int32).toInt)) (p3 : Int32).toInt (p4 : Int32).toInt (p6 : Int32).toInt (p7 : Int32).toInt (p8 : Int32).toInt (p9 : Int32).toInt ((u_37.2.1 2 0) : Int32).toInt ((u_37.2.1 3 0) : Int32).toInt ((u_37.2.1 4 0) : Int32).toInt ((u_37.2.1 5 0) : Int32).toInt ((u_37.2.1 6 0) : Int32).toInt ((u_37.2.1 7 0) : Int32).toInt from smr_la (W2 := (p8 : Int32).toInt) (X2 := (p9 : Int32).toInt) (by (first | assumption | (clear hpre1 hpre2 y1_1 y2_1 y2_4 y2_2d y37_1 y37_3 y37_4 y37_5; omega) | omega)) (by (first | assumption | (clear hpre1 hpre2 y1_1 y2_1 y2_4 y2_2d y37_1 y37_3 y37_4 y37_5; omega) | omega)) (by (first | assumption | (clear hpre1 hpre2 y1_1 y2_1 y2_4 y2_2d y37_1 y37_3 y37_4 y37_5; omega) | omega)) (by (first | assumption | (clear hpre1 hpre2 y1_1 y2_1 y2_4 y2_2d y37_1 y37_3 y37_4 y37_5; omega) | omega)) y1_3 (by (first | assumption | (clear hpre1 hpre2 y1_1 y2_1 y2_4 y2_2d y37_1 y37_3 y37_4 y37_5; omega) | omega)) (smr_tkn (by (first | assumption | (clear hpre1 hpre2 y1_1 y2_1 y2_4 y2_2d y37_1 y37_3 y37_4 y37_5; omega) | omega)) (by (first | assumption | (clear hpre1 hpre2 y1_1 y2_1 y2_4 y2_2d y37_1 y37_3 y37_4 y37_5; omega) | omega)) (by (first | assumption | (clear hpre1 hpre2 y1_1 y2_1 y2_4 y2_2d y37_1 y37_3 y37_4 y37_5; omega) | omega)) (by (first | assumption | (clear hpre1 hpre2 y1_1 y2_1 y2_4 y2_2d y37_1 y37_3 y37_4 y37_5; omega) | omega)) (by (first | assumption | (clear hpre1 hpre2 y1_1 y2_1 y2_4 y2_2d y37_1 y37_3 y37_4 y37_5; omega) | omega)) mk58 y33_1) (Or.inr ⟨(by (first | assumption | (clear hpre1 hpre2 y1_1 y2_1 y2_4 y2_2d y37_1 y37_3 y37_4 y37_5; omega) | omega)), y37_7⟩)), trivial⟩ [0, 1, 2] rfl rfl dX12_readLaw_57 (Nat.le_of_ble_eq_true rfl) (Nat.le_of_ble_eq_true rfl)
    · replace c_36 := i_eq (x := p0) (y := 2) rfl (show (2 : Int32).toInt = 2 by decide) c_36
      refine lv_aload_n hx hb dX12_readLaw_37 rfl (lv_at hl_34 1 rfl) ?_
      refine lv_iconst (v := 0) hx hb dX12_readLaw_38 (by decide) ?_
      refine q_callVv (rest := []) (wr := []) X hK hT hA h_35 (fun sz => (gX12_ALLS_4ceebbc l D cy 6)  h0 h1 h2 (0 : Int32) p1 w0 w1 p2 (u_2.2.1 0 0) (u_2.2.1 1 0) p5 (u_2.2.1 2 0) (u_2.2.1 3 0) (u_33.2.1 0 0) (u_33.2.1 1 0) p10 p11 p0 w2 w3 w4 w5 w6 p13 p14 w7 w8 w9 p15 p16 w10 w11 w12 w13 w14 p17 w15 w16 w17 f0 f1 p18 p19 p20 p21 ⟨by decide +kernel, by decide +kernel⟩ hp1 hp2 w2_0 w2_1 hp5 (i_rng _) w2_3 (i_rng _) (i_rng _) (i_rng _) (i_rng _) (i_rng _) (i_rng _) (i_rng _) (i_rng _) (i_rng _) (i_rng _) hp18 (i_rng _) hp20 hp21 htf1_0 htf1_1 htf1_2 htf1_405 (y2_0) (y2_1) (by (first | (clear hpre1 hpre2 y1_1 y2_1 y2_4 y2_2d; omega) | omega)) (by decide) sz) wm_6_114 wm_6_117 wm_1_12 hd_X12_readSum wm_6_116 wp_4_15 (ci := 12) (q0 := 0) rfl rfl ⟨Nat.le_of_ble_eq_true rfl, Nat.le_of_ble_eq_true rfl⟩ hl_34.1 rfl (Nat.le_of_ble_eq_true rfl) dX12_readLaw_39 ⟨Nat.le_of_ble_eq_true rfl, Nat.le_of_ble_eq_true rfl⟩ [2, 1, 0] [] rfl rfl (by decide) rfl rfl (fun u_50 H locs w_50 h_50 => ?_)
      clear h_35
      obtain ⟨w50_0, w50_1, w50_2, w50_3, w50_4, w50_5, w50_6, w50_7, w50_8, w50_9, w50_10, y50_0, y50_1, y50_2, y50_3, y50_4, y50_5, y50_6, y50_7, _⟩ := w_50
      have lq_50_1 : (0 : Int32).toInt = 0 := (by decide)
      replace h_50 : qW D _ _ (wk_8d528f753 cy h0 p1 w0 w1 h1 h2 p2 (u_50.2.1 2 0) (u_50.2.1 3 0) p5 (u_50.2.1 4 0) (u_50.2.1 5 0) (u_50.2.1 6 0) (u_50.2.1 7 0) p10 p11 p0 w2 w3 w4 w5 w6 p13 p14 w7 w8 w9 p15 p16 w10 w11 w12 w13 w14 p17 w15 w16 w17 h1 f0 h2 (u_50.2.1 0)) _ _ := h_50
      refine lv_goto (tgt := 50) hx hb dX12_readLaw_42 (by decide) ?_
      refine lv_aload_n hx hb dX12_readLaw_50 rfl (lv_at hl_34 1 rfl) ?_
      refine q_get X hK h_50 0 rfl rfl wf_12 11 (by decide) rfl wm_5_181 dX12_readLaw_51 ?_
      refine lv_if_eq (tgt := 58) hx hb dX12_readLaw_54 (by decide) (fun c_52 => ?_) (fun c_52 => ?_)
      · replace c_52 := i_eq (x := (u_50.2.1 6 0)) (y := 0) rfl (show (0 : Int32).toInt = 0 by decide) c_52
        refine lv_aload_n hx hb dX12_readLaw_58 rfl (lv_at hl_34 1 rfl) ?_
        refine q_get X hK h_50 0 rfl rfl wf_12 4 (by decide) rfl wm_5_174 dX12_readLaw_59 ?_
        refine lv_iconst (v := 3) hx hb dX12_readLaw_62 (by decide) ?_
        refine lv_iload_n hx hb dX12_readLaw_63 rfl (lv_at hl_34 2 rfl) ?_
        refine lv_iadd hx hb dX12_readLaw_64 ?_
        obtain ⟨z_53, ez_53, hz_53⟩ := e_add (x := 3) (y := p0) (show (3 : Int32).toInt = 3 by decide) rfl (by omega) (by omega)
        refine q_c z_53 ez_53 ?_
        clear ez_53
        refine lv_iconst (v := 1) hx hb dX12_readLaw_65 (by decide) ?_
        refine q_iast X hK h_50 2 rfl (i_in rfl (by omega) (by omega)) dX12_readLaw_66 (fun H locs h_55 => ?_)
        clear h_50
        replace h_55 : qW D _ _ (wk_8d528f753 cy h0 p1 w0 w1 h1 h2 p2 (u_50.2.1 2 0) (u_50.2.1 3 0) p5 (u_50.2.1 4 0) (u_50.2.1 5 0) (u_50.2.1 6 0) (u_50.2.1 7 0) p10 p11 p0 w2 w3 w4 w5 w6 p13 p14 w7 w8 w9 p15 p16 w10 w11 w12 w13 w14 p17 w15 w16 w17 h1 f0 h2 (upd (u_50.2.1 0) (Int32.toNatClampNeg z_53) 1)) _ _ := h_55
        obtain ⟨F_54, eF_54⟩ : ∃ z, (upd (u_50.2.1 0) (Int32.toNatClampNeg z_53) 1) = z := ⟨_, rfl⟩
        have trF_54_0 := (tr_ne eF_54 w50_7 rfl (by omega))
        have trF_54_1 := (tr_ne eF_54 w50_8 rfl (by omega))
        have trF_54_2 := (tr_ne eF_54 w50_9 rfl (by omega))
        have trF_54_405 := (tr_ne eF_54 w50_10 rfl (by omega))
        rw [eF_54] at h_55
        refine lv_aload_n hx hb dX12_readLaw_67 rfl (lv_at hl_34 1 rfl) ?_
        refine q_get X hK h_55 0 rfl rfl wf_12 4 (by decide) rfl wm_5_174 dX12_readLaw_68 ?_
        refine lv_bipush (v := 6) hx hb dX12_readLaw_71 (by decide) ?_
        refine lv_iload_n hx hb dX12_readLaw_73 rfl (lv_at hl_34 2 rfl) ?_
        refine lv_iadd hx hb dX12_readLaw_74 ?_
        obtain ⟨z_56, ez_56, hz_56⟩ := e_add (x := 6) (y := p0) (show (6 : Int32).toInt = 6 by decide) rfl (by omega) (by omega)
        refine q_c z_56 ez_56 ?_
        clear ez_56
        refine lv_iload_n hx hb dX12_readLaw_75 rfl (lv_at hl_34 0 rfl) ?_
        refine q_iast X hK h_55 2 rfl (i_in rfl (by omega) (by omega)) dX12_readLaw_76 (fun H locs h_58 => ?_)
        clear h_55
        replace h_58 : qW D _ _ (wk_8d528f753 cy h0 p1 w0 w1 h1 h2 p2 (u_50.2.1 2 0) (u_50.2.1 3 0) p5 (u_50.2.1 4 0) (u_50.2.1 5 0) (u_50.2.1 6 0) (u_50.2.1 7 0) p10 p11 p0 w2 w3 w4 w5 w6 p13 p14 w7 w8 w9 p15 p16 w10 w11 w12 w13 w14 p17 w15 w16 w17 h1 f0 h2 (upd F_54 (Int32.toNatClampNeg z_56) p21)) _ _ := h_58
        obtain ⟨F_57, eF_57⟩ : ∃ z, (upd F_54 (Int32.toNatClampNeg z_56) p21) = z := ⟨_, rfl⟩
        have trF_57_0 := (tr_ne eF_57 trF_54_0 rfl (by omega))
        have trF_57_1 := (tr_ne eF_57 trF_54_1 rfl (by omega))
        have trF_57_2 := (tr_ne eF_57 trF_54_2 rfl (by omega))
        have trF_57_405 := (tr_ne eF_57 trF_54_405 rfl (by omega))
        rw [eF_57] at h_58
        refine lv_aload_n hx hb dX12_readLaw_77 rfl (lv_at hl_34 1 rfl) ?_
        refine q_get X hK h_58 0 rfl rfl wf_12 4 (by decide) rfl wm_5_174 dX12_readLaw_78 ?_
        refine lv_bipush (v := 9) hx hb dX12_readLaw_81 (by decide) ?_
        refine lv_iload_n hx hb dX12_readLaw_83 rfl (lv_at hl_34 2 rfl) ?_
        refine lv_iadd hx hb dX12_readLaw_84 ?_
        obtain ⟨z_59, ez_59, hz_59⟩ := e_add (x := 9) (y := p0) (show (9 : Int32).toInt = 9 by decide) rfl (by omega) (by omega)
        refine q_c z_59 ez_59 ?_
        clear ez_59
        refine lv_aload_n hx hb dX12_readLaw_85 rfl (lv_at hl_34 1 rfl) ?_
        refine q_get X hK h_58 0 rfl rfl wf_12 4 (by decide) rfl wm_5_174 dX12_readLaw_86 ?_
        refine lv_sipush (v := 405) hx hb dX12_readLaw_89 (by decide) ?_
        refine q_iald X hK h_58 2 rfl (q_in (by decide +kernel)) dX12_readLaw_92 ?_
        refine q_c (u_50.2.1 1 0) trF_57_405 ?_
        refine lv_iload_n hx hb dX12_readLaw_93 rfl (lv_at hl_34 0 rfl) ?_
        refine lv_isub hx hb dX12_readLaw_94 ?_
        obtain ⟨z_60, ez_60, hz_60⟩ := e_sub (x := (u_50.2.1 1 0)) (y := p21) rfl rfl (by omega) (by omega)
        refine q_c z_60 ez_60 ?_
        clear ez_60
        refine q_iast X hK h_58 2 rfl (i_in rfl (by omega) (by omega)) dX12_readLaw_95 (fun H locs h_62 => ?_)
        clear h_58
        replace h_62 : qW D _ _ (wk_8d528f753 cy h0 p1 w0 w1 h1 h2 p2 (u_50.2.1 2 0) (u_50.2.1 3 0) p5 (u_50.2.1 4 0) (u_50.2.1 5 0) (u_50.2.1 6 0) (u_50.2.1 7 0) p10 p11 p0 w2 w3 w4 w5 w6 p13 p14 w7 w8 w9 p15 p16 w10 w11 w12 w13 w14 p17 w15 w16 w17 h1 f0 h2 (upd F_57 (Int32.toNatClampNeg z_59) z_60)) _ _ := h_62
        obtain ⟨F_61, eF_61⟩ : ∃ z, (upd F_57 (Int32.toNatClampNeg z_59) z_60) = z := ⟨_, rfl⟩
        have trF_61_0 := (tr_ne eF_61 trF_57_0 rfl (by omega))
        have trF_61_1 := (tr_ne eF_61 trF_57_1 rfl (by omega))
        have trF_61_2 := (tr_ne eF_61 trF_57_2 rfl (by omega))
        have trF_61_405 := (tr_ne eF_61 trF_57_405 rfl (by omega))
        rw [eF_61] at h_62
        exact q_vret X hr hlk hK h_62 (fun _ => 0, (vcons (fun _ => (u_50.2.1 2 0)) (vcons (fun _ => (u_50.2.1 3 0)) (vcons (fun _ => (u_50.2.1 4 0)) (vcons (fun _ => (u_50.2.1 5 0)) (vcons (fun _ => (u_50.2.1 6 0)) (vcons (fun _ => (u_50.2.1 7 0)) (vcons (fun _ => p0) (vcons F_61 (vcons (fun _ => (u_50.2.1 1 0)) (fun _ => (fun _ => 0))))))))))), fun _ _ => 0) ⟨w50_1, w50_2, w50_3, w50_4, w50_5, w50_6, hp0, w50_0, trF_61_0, trF_61_1, trF_61_2, trF_61_405, y50_0, y50_1, (show (p3 : Int32).toInt ≤ ((u_50.2.1 2 0) : Int32).toInt from by (first | (clear hpre1 hpre2 y1_1 y2_1 y2_4 y2_2d y50_1 y50_3 y50_4 y50_5; omega) | omega)), (show ((u_50.2.1 6 0) : Int32).toInt ≠ 0 ∨ (p8 : Int32).toInt = 0 from by (first | (clear hpre1 hpre2 y1_1 y2_1 y2_4 y2_2d y50_1 y50_3 y50_4 y50_5; omega) | omega)), y50_5, (show HF ((u_50.2.1 6 0) : Int32).toInt F_61 (((u_50.2.1 1 0) : Int32).toInt).toNat from hf_w (hf_law (hf_rx hpre3 y50_6 (by (first | assumption | (clear hpre1 hpre2 y1_1 y2_1 y2_4 y2_2d y50_1 y50_3 y50_4 y50_5; omega) | omega))) y50_6 eF_54 eF_57 eF_61 (by (first | assumption | (clear hpre1 hpre2 y1_1 y2_1 y2_4 y2_2d y50_1 y50_3 y50_4 y50_5; omega) | omega)) (by (first | assumption | (clear hpre1 hpre2 y1_1 y2_1 y2_4 y2_2d y50_1 y50_3 y50_4 y50_5; omega) | omega)) (by (first | assumption | (clear hpre1 hpre2 y1_1 y2_1 y2_4 y2_2d y50_1 y50_3 y50_4 y50_5; omega) | omega)) (by (first | assumption | (clear hpre1 hpre2 y1_1 y2_1 y2_4 y2_2d y50_1 y50_3 y50_4 y50_5; omega) | omega)) (by (first | assumption | (clear hpre1 hpre2 y1_1 y2_1 y2_4 y2_2d y50_1 y50_3 y50_4 y50_5; omega) | omega))) (by (first | assumption | (clear hpre1 hpre2 y1_1 y2_1 y2_4 y2_2d y50_1 y50_3 y50_4 y50_5; omega) | omega))), (show SIMR f0 (p5 : Int32).toInt (lawS (nmR (p0 : Int32).toInt)) (p3 : Int32).toInt (p4 : Int32).toInt (p6 : Int32).toInt (p7 : Int32).toInt (p8 : Int32).toInt (p9 : Int32).toInt ((u_50.2.1 2 0) : Int32).toInt ((u_50.2.1 3 0) : Int32).toInt ((u_50.2.1 4 0) : Int32).toInt ((u_50.2.1 5 0) : Int32).toInt ((u_50.2.1 6 0) : Int32).toInt ((u_50.2.1 7 0) : Int32).toInt from smr_la (W2 := (p8 : Int32).toInt) (X2 := (p9 : Int32).toInt) (by (first | assumption | (clear hpre1 hpre2 y1_1 y2_1 y2_4 y2_2d y50_1 y50_3 y50_4 y50_5; omega) | omega)) (by (first | assumption | (clear hpre1 hpre2 y1_1 y2_1 y2_4 y2_2d y50_1 y50_3 y50_4 y50_5; omega) | omega)) (by (first | assumption | (clear hpre1 hpre2 y1_1 y2_1 y2_4 y2_2d y50_1 y50_3 y50_4 y50_5; omega) | omega)) (by (first | assumption | (clear hpre1 hpre2 y1_1 y2_1 y2_4 y2_2d y50_1 y50_3 y50_4 y50_5; omega) | omega)) y1_3 (by (first | assumption | (clear hpre1 hpre2 y1_1 y2_1 y2_4 y2_2d y50_1 y50_3 y50_4 y50_5; omega) | omega)) (smr_tkn (by (first | assumption | (clear hpre1 hpre2 y1_1 y2_1 y2_4 y2_2d y50_1 y50_3 y50_4 y50_5; omega) | omega)) (by (first | assumption | (clear hpre1 hpre2 y1_1 y2_1 y2_4 y2_2d y50_1 y50_3 y50_4 y50_5; omega) | omega)) (by (first | assumption | (clear hpre1 hpre2 y1_1 y2_1 y2_4 y2_2d y50_1 y50_3 y50_4 y50_5; omega) | omega)) (by (first | assumption | (clear hpre1 hpre2 y1_1 y2_1 y2_4 y2_2d y50_1 y50_3 y50_4 y50_5; omega) | omega)) (by (first | assumption | (clear hpre1 hpre2 y1_1 y2_1 y2_4 y2_2d y50_1 y50_3 y50_4 y50_5; omega) | omega)) mk58 y33_1) (Or.inl ⟨(by (first | assumption | (clear hpre1 hpre2 y1_1 y2_1 y2_4 y2_2d y50_1 y50_3 y50_4 y50_5; omega) | omega)), y50_7⟩)), trivial⟩ [0, 1, 2] rfl rfl dX12_readLaw_96 (Nat.le_of_ble_eq_true rfl) (Nat.le_of_ble_eq_true rfl)
      · replace c_52 := i_ne (x := (u_50.2.1 6 0)) (y := 0) rfl (show (0 : Int32).toInt = 0 by decide) c_52
        exact q_vret X hr hlk hK h_50 (fun _ => 0, (vcons (fun _ => (u_50.2.1 2 0)) (vcons (fun _ => (u_50.2.1 3 0)) (vcons (fun _ => (u_50.2.1 4 0)) (vcons (fun _ => (u_50.2.1 5 0)) (vcons (fun _ => (u_50.2.1 6 0)) (vcons (fun _ => (u_50.2.1 7 0)) (vcons (fun _ => p0) (vcons (u_50.2.1 0) (vcons (fun _ => (u_50.2.1 1 0)) (fun _ => (fun _ => 0))))))))))), fun _ _ => 0) ⟨w50_1, w50_2, w50_3, w50_4, w50_5, w50_6, hp0, w50_0, w50_7, w50_8, w50_9, w50_10, y50_0, y50_1, (show (p3 : Int32).toInt ≤ ((u_50.2.1 2 0) : Int32).toInt from by (first | (clear hpre1 hpre2 y1_1 y2_1 y2_4 y2_2d y50_1 y50_3 y50_4 y50_5; omega) | omega)), (show ((u_50.2.1 6 0) : Int32).toInt ≠ 0 ∨ (p8 : Int32).toInt = 0 from by (first | (clear hpre1 hpre2 y1_1 y2_1 y2_4 y2_2d y50_1 y50_3 y50_4 y50_5; omega) | omega)), y50_5, (show HF ((u_50.2.1 6 0) : Int32).toInt (u_50.2.1 0) (((u_50.2.1 1 0) : Int32).toInt).toNat from hf_w (hf_rx hpre3 y50_6 (by (first | assumption | (clear hpre1 hpre2 y1_1 y2_1 y2_4 y2_2d y50_1 y50_3 y50_4 y50_5; omega) | omega))) (by (first | assumption | (clear hpre1 hpre2 y1_1 y2_1 y2_4 y2_2d y50_1 y50_3 y50_4 y50_5; omega) | omega))), (show SIMR f0 (p5 : Int32).toInt (lawS (nmR (p0 : Int32).toInt)) (p3 : Int32).toInt (p4 : Int32).toInt (p6 : Int32).toInt (p7 : Int32).toInt (p8 : Int32).toInt (p9 : Int32).toInt ((u_50.2.1 2 0) : Int32).toInt ((u_50.2.1 3 0) : Int32).toInt ((u_50.2.1 4 0) : Int32).toInt ((u_50.2.1 5 0) : Int32).toInt ((u_50.2.1 6 0) : Int32).toInt ((u_50.2.1 7 0) : Int32).toInt from smr_la (W2 := (p8 : Int32).toInt) (X2 := (p9 : Int32).toInt) (by (first | assumption | (clear hpre1 hpre2 y1_1 y2_1 y2_4 y2_2d y50_1 y50_3 y50_4 y50_5; omega) | omega)) (by (first | assumption | (clear hpre1 hpre2 y1_1 y2_1 y2_4 y2_2d y50_1 y50_3 y50_4 y50_5; omega) | omega)) (by (first | assumption | (clear hpre1 hpre2 y1_1 y2_1 y2_4 y2_2d y50_1 y50_3 y50_4 y50_5; omega) | omega)) (by (first | assumption | (clear hpre1 hpre2 y1_1 y2_1 y2_4 y2_2d y50_1 y50_3 y50_4 y50_5; omega) | omega)) y1_3 (by (first | assumption | (clear hpre1 hpre2 y1_1 y2_1 y2_4 y2_2d y50_1 y50_3 y50_4 y50_5; omega) | omega)) (smr_tkn (by (first | assumption | (clear hpre1 hpre2 y1_1 y2_1 y2_4 y2_2d y50_1 y50_3 y50_4 y50_5; omega) | omega)) (by (first | assumption | (clear hpre1 hpre2 y1_1 y2_1 y2_4 y2_2d y50_1 y50_3 y50_4 y50_5; omega) | omega)) (by (first | assumption | (clear hpre1 hpre2 y1_1 y2_1 y2_4 y2_2d y50_1 y50_3 y50_4 y50_5; omega) | omega)) (by (first | assumption | (clear hpre1 hpre2 y1_1 y2_1 y2_4 y2_2d y50_1 y50_3 y50_4 y50_5; omega) | omega)) (by (first | assumption | (clear hpre1 hpre2 y1_1 y2_1 y2_4 y2_2d y50_1 y50_3 y50_4 y50_5; omega) | omega)) mk58 y33_1) (Or.inl ⟨(by (first | assumption | (clear hpre1 hpre2 y1_1 y2_1 y2_4 y2_2d y50_1 y50_3 y50_4 y50_5; omega) | omega)), y50_7⟩)), trivial⟩ [0, 1, 2] rfl rfl dX12_readLaw_57 (Nat.le_of_ble_eq_true rfl) (Nat.le_of_ble_eq_true rfl)
set_option maxHeartbeats 4000000 in
set_option maxRecDepth 100000 in
theorem gX12_readLine_526f797 (l : Launch) (D : va_G) (cy : Nat → ClassId) (h0 : Nat) (h1 : Nat) (h2 : Nat) (p0 : Int32) (w0 : Value) (w1 : Value) (p1 : Int32) (p2 : Int32) (p3 : Int32) (p4 : Int32) (p5 : Int32) (p6 : Int32) (p7 : Int32) (p8 : Int32) (p9 : Int32) (p10 : Int32) (p11 : Int32) (w2 : Value) (w3 : Value) (w4 : Value) (w5 : Value) (w6 : Value) (p12 : Int32) (p13 : Int32) (w7 : Value) (w8 : Value) (w9 : Value) (p14 : Int32) (p15 : Int32) (w10 : Value) (w11 : Value) (w12 : Value) (w13 : Value) (w14 : Value) (p16 : Int32) (w15 : Value) (w16 : Value) (w17 : Value) (f0 : Nat → Int32) (f1 : Nat → Int32) (p17 : Int32) (p18 : Int32) (p19 : Int32) (p20 : Int32) (hp0 : 0 ≤ (p0).toInt ∧ (p0).toInt ≤ 0) (hp1 : 0 ≤ (p1).toInt ∧ (p1).toInt ≤ 900) (hp2 : 0 ≤ (p2).toInt ∧ (p2).toInt ≤ 900) (hp3 : 0 ≤ (p3).toInt ∧ (p3).toInt ≤ 900) (hp4 : 0 ≤ (p4).toInt ∧ (p4).toInt ≤ 900) (hp5 : (-2147483648) ≤ (p5).toInt ∧ (p5).toInt ≤ 2147483647) (hp6 : 0 ≤ (p6).toInt ∧ (p6).toInt ≤ 999) (hp7 : (-2147483648) ≤ (p7).toInt ∧ (p7).toInt ≤ 2147483647) (hp8 : (-2147483648) ≤ (p8).toInt ∧ (p8).toInt ≤ 2147483647) (hp9 : (-2147483648) ≤ (p9).toInt ∧ (p9).toInt ≤ 2147483647) (hp10 : (-2147483648) ≤ (p10).toInt ∧ (p10).toInt ≤ 2147483647) (hp11 : (-2147483648) ≤ (p11).toInt ∧ (p11).toInt ≤ 2147483647) (hp12 : (-2147483648) ≤ (p12).toInt ∧ (p12).toInt ≤ 2147483647) (hp13 : (-2147483648) ≤ (p13).toInt ∧ (p13).toInt ≤ 2147483647) (hp14 : (-2147483648) ≤ (p14).toInt ∧ (p14).toInt ≤ 2147483647) (hp15 : (-2147483648) ≤ (p15).toInt ∧ (p15).toInt ≤ 2147483647) (hp16 : (-2147483648) ≤ (p16).toInt ∧ (p16).toInt ≤ 2147483647) (hp17 : 0 ≤ (p17).toInt ∧ (p17).toInt ≤ 902) (hp18 : (-2147483648) ≤ (p18).toInt ∧ (p18).toInt ≤ 2147483647) (hp19 : 0 ≤ (p19).toInt ∧ (p19).toInt ≤ 10) (hp20 : 0 ≤ (p20).toInt ∧ (p20).toInt ≤ 900) (htf1_0 : f1 0 = p17) (htf1_1 : f1 1 = p18) (htf1_2 : f1 2 = p19) (htf1_405 : f1 405 = p20) (hpre0 : 0 ≤ (p2 : Int32).toInt ∧ (p2 : Int32).toInt ≤ (p3 : Int32).toInt ∧ (p3 : Int32).toInt ≤ (p4 : Int32).toInt) (hpre1 : (p5 : Int32).toInt = 26 ∨ (p2 : Int32).toInt < (p3 : Int32).toInt) (hpre2 : (p7 : Int32).toInt ≠ 0 ∨ (p20 : Int32).toInt ≤ (p2 : Int32).toInt) (hpre3 : HF (p7 : Int32).toInt f1 ((p20 : Int32).toInt).toNat) (hpre4 : (p7 : Int32).toInt ≠ 0 ∨ (0 ≤ (p18 : Int32).toInt ∧ (p18 : Int32).toInt ≤ 3)) (sz : Nat) : MV l yX12_readLine cX12_readLine 1 { frames := 32, cells := 0, slots := 0, locals := 780 } [.ref h0] D cy (wk_8d528f753 cy h0 p0 w0 w1 h1 h2 p1 p2 p3 p4 p5 p6 p7 p8 p9 p10 p11 w2 w3 w4 w5 w6 p12 p13 w7 w8 w9 p14 p15 w10 w11 w12 w13 w14 p16 w15 w16 w17 h1 f0 h2 f1) sz (fun u => (0 ≤ (u.2.1 0 0).toInt ∧ (u.2.1 0 0).toInt ≤ 900) ∧ (0 ≤ (u.2.1 1 0).toInt ∧ (u.2.1 1 0).toInt ≤ 900) ∧ ((-2147483648) ≤ (u.2.1 2 0).toInt ∧ (u.2.1 2 0).toInt ≤ 2147483647) ∧ (0 ≤ (u.2.1 3 0).toInt ∧ (u.2.1 3 0).toInt ≤ 999) ∧ ((-2147483648) ≤ (u.2.1 4 0).toInt ∧ (u.2.1 4 0).toInt ≤ 2147483647) ∧ ((-2147483648) ≤ (u.2.1 5 0).toInt ∧ (u.2.1 5 0).toInt ≤ 2147483647) ∧ ((-2147483648) ≤ (u.2.1 7 0).toInt ∧ (u.2.1 7 0).toInt ≤ 2147483647) ∧ (0 ≤ (u.2.1 8 0).toInt ∧ (u.2.1 8 0).toInt ≤ 900) ∧ (0 ≤ (u.2.1 9 0).toInt ∧ (u.2.1 9 0).toInt ≤ 10) ∧ (u.2.1 6) 0 = p17 ∧ (u.2.1 6) 1 = p18 ∧ (u.2.1 6) 2 = (u.2.1 9 0) ∧ (u.2.1 6) 405 = (u.2.1 8 0) ∧ (0 ≤ ((u.2.1 0 0) : Int32).toInt ∧ ((u.2.1 0 0) : Int32).toInt ≤ ((u.2.1 1 0) : Int32).toInt ∧ ((u.2.1 1 0) : Int32).toInt ≤ (p4 : Int32).toInt) ∧ (((u.2.1 2 0) : Int32).toInt = 26 ∨ ((u.2.1 0 0) : Int32).toInt < ((u.2.1 1 0) : Int32).toInt) ∧ ((p2 : Int32).toInt ≤ ((u.2.1 0 0) : Int32).toInt) ∧ (((u.2.1 4 0) : Int32).toInt ≠ 0 ∨ (p7 : Int32).toInt = 0) ∧ (((u.2.1 4 0) : Int32).toInt ≠ 0 ∨ ((u.2.1 8 0) : Int32).toInt ≤ ((u.2.1 0 0) : Int32).toInt) ∧ (HF ((u.2.1 4 0) : Int32).toInt (u.2.1 6) (((u.2.1 8 0) : Int32).toInt).toNat) ∧ (SIMR f0 (p4 : Int32).toInt (lineS (p18 : Int32).toInt (p19 : Int32).toInt) (p2 : Int32).toInt (p3 : Int32).toInt (p5 : Int32).toInt (p6 : Int32).toInt (p7 : Int32).toInt (p8 : Int32).toInt ((u.2.1 0 0) : Int32).toInt ((u.2.1 1 0) : Int32).toInt ((u.2.1 2 0) : Int32).toInt ((u.2.1 3 0) : Int32).toInt ((u.2.1 4 0) : Int32).toInt ((u.2.1 5 0) : Int32).toInt) ∧ (((u.2.1 4 0) : Int32).toInt ≠ 0 ∨ ((p5 : Int32).toInt = 2 ∧ ((u.2.1 9 0) : Int32).toInt = (p19 : Int32).toInt + 1) ∨ ((p5 : Int32).toInt ≠ 2 ∧ ((u.2.1 9 0) : Int32).toInt = (p19 : Int32).toInt)) ∧ ((p17 : Int32).toInt = (p17 : Int32).toInt) ∧ True) (fun u => (wk_8d528f753 cy h0 p0 w0 w1 h1 h2 p1 (u.2.1 0 0) (u.2.1 1 0) p4 (u.2.1 2 0) (u.2.1 3 0) (u.2.1 4 0) (u.2.1 5 0) p9 p10 (u.2.1 7 0) w2 w3 w4 w5 w6 p12 p13 w7 w8 w9 p14 p15 w10 w11 w12 w13 w14 p16 w15 w16 w17 h1 f0 h2 (u.2.1 6))) 0 0 := by
  refine q_ent (own := RX12) (by decide) rfl (Nat.le_of_ble_eq_true rfl) (fun p e s m below meth c ls X hr hlk hnm hK hT h hA hl => ?_)
  obtain ⟨hx, hb, hml, hown, ht⟩ := id X
  replace hl : lv_has ls 1 [(0, .ref h0)] := hl
  refine lv_aload_n hx hb dX12_readLine_0 rfl (lv_at hl 0 rfl) ?_
  refine q_get X hK h 0 rfl rfl wf_12 11 (by decide) rfl wm_5_181 dX12_readLine_1 ?_
  refine lv_if_eq (tgt := 8) hx hb dX12_readLine_4 (by decide) (fun c_1 => ?_) (fun c_1 => ?_)
  · replace c_1 := i_eq (x := p7) (y := 0) rfl (show (0 : Int32).toInt = 0 by decide) c_1
    refine lv_aload_n hx hb dX12_readLine_8 rfl (lv_at hl 0 rfl) ?_
    refine lv_iconst (v := 2) hx hb dX12_readLine_9 (by decide) ?_
    refine q_callVi (rest := []) (wr := (wk_0ba1d1dd1 cy h1 f0 h2 f1)) X hK hT hA h (fun sz => gX12_is_fe57bf5 l D cy h0 p0 w0 w1 (.ref h1) (.ref h2) p1 p2 p3 p4 p5 p6 p7 p8 p9 p10 p11 w2 w3 w4 w5 w6 p12 p13 w7 w8 w9 p14 p15 w10 w11 w12 w13 w14 p16 w15 w16 w17 hp0 hp1 hp2 hp3 hp4 (i_rng _) hp6 (i_rng _) (i_rng _) (i_rng _) (i_rng _) (i_rng _) (i_rng _) (i_rng _) (i_rng _) (i_rng _) (i_rng _) sz) wm_6_79 wm_6_82 wm_1_12 hd_X12_is wm_6_81 wp_4_7 (ci := 12) (q0 := 0) rfl rfl ⟨Nat.le_of_ble_eq_true rfl, Nat.le_of_ble_eq_true rfl⟩ hl.1 rfl (Nat.le_of_ble_eq_true rfl) dX12_readLine_10 ⟨Nat.le_of_ble_eq_true rfl, Nat.le_of_ble_eq_true rfl⟩ [0] [1, 2] rfl rfl (by decide) rfl rfl (fun r_2 u_2 H locs w_2 h_2 => ?_)
    clear h
    obtain ⟨wr_2, y2_0, _⟩ := w_2
    have lq_2_1 : (2 : Int32).toInt = 2 := (by decide)
    replace h_2 : qW D _ _ (wk_3227d7053 cy h1 f0 h2 f1 h0 p0 w0 w1 h1 h2 p1 p2 p3 p4 p5 p6 p7 p8 p9 p10 p11 w2 w3 w4 w5 w6 p12 p13 w7 w8 w9 p14 p15 w10 w11 w12 w13 w14 p16 w15 w16 w17) _ _ := h_2
    refine lv_if_eq (tgt := 23) hx hb dX12_readLine_13 (by decide) (fun c_3 => ?_) (fun c_3 => ?_)
    · replace c_3 := i_eq (x := r_2) (y := 0) rfl (show (0 : Int32).toInt = 0 by decide) c_3
      replace y2_0 := a10_0 y2_0 c_3
      refine lv_aload_n hx hb dX12_readLine_23 rfl (lv_at hl 0 rfl) ?_
      refine q_get X hK h_2 2 rfl rfl wf_12 9 (by decide) rfl wm_5_179 dX12_readLine_24 ?_
      refine lv_i2l hx hb dX12_readLine_27 rfl ?_
      obtain ⟨z_4, ez_4, hz_4⟩ := e_i2l (x := p5) rfl
      refine q_cl z_4 ez_4 ?_
      clear ez_4
      refine lv_ldc2 hx hb hown (ht _ wm_6_108) dX12_readLine_28 ?_
      refine lv_ldc2 hx hb hown (ht _ wm_6_109) dX12_readLine_31 ?_
      refine q_callSi (rest := []) (wr := (wk_3227d7053 cy h1 f0 h2 f1 h0 p0 w0 w1 h1 h2 p1 p2 p3 p4 p5 p6 p7 p8 p9 p10 p11 w2 w3 w4 w5 w6 p12 p13 w7 w8 w9 p14 p15 w10 w11 w12 w13 w14 p16 w15 w16 w17)) X hK hT hA h_2 (fun sz => gX12_within_00c7897 l D cy z_4 (7 : Int64) (9 : Int64) (j_rng _) ⟨by decide +kernel, by decide +kernel⟩ ⟨by decide +kernel, by decide +kernel⟩ sz) wm_6_50 wm_6_52 wm_1_12 hd_X12_within wm_6_51 ⟨Nat.le_of_ble_eq_true rfl, Nat.le_of_ble_eq_true rfl⟩ hl.1 rfl (Nat.le_of_ble_eq_true rfl) dX12_readLine_34 ⟨Nat.le_of_ble_eq_true rfl, Nat.le_of_ble_eq_true rfl⟩ [] [0, 1, 2] rfl rfl (by decide) rfl rfl (fun r_5 u_5 H locs w_5 h_5 => ?_)
      clear h_2
      obtain ⟨wr_5, y5_0, _⟩ := w_5
      have lq_5_1 : (7 : Int64).toInt = 7 := (by decide)
      have lq_5_2 : (9 : Int64).toInt = 9 := (by decide)
      replace h_5 : qW D _ _ (wk_3227d7053 cy h1 f0 h2 f1 h0 p0 w0 w1 h1 h2 p1 p2 p3 p4 p5 p6 p7 p8 p9 p10 p11 w2 w3 w4 w5 w6 p12 p13 w7 w8 w9 p14 p15 w10 w11 w12 w13 w14 p16 w15 w16 w17) _ _ := h_5
      refine lv_if_eq (tgt := 54) hx hb dX12_readLine_37 (by decide) (fun c_6 => ?_) (fun c_6 => ?_)
      · replace c_6 := i_eq (x := r_5) (y := 0) rfl (show (0 : Int32).toInt = 0 by decide) c_6
        replace y5_0 := a10_0 y5_0 c_6
        refine lv_aload_n hx hb dX12_readLine_54 rfl (lv_at hl 0 rfl) ?_
        refine lv_bipush (v := 10) hx hb dX12_readLine_55 (by decide) ?_
        refine q_callVi (rest := []) (wr := [(h2, .inl (cy 1, 1306, .inl f1))]) X hK hT hA h_5 (fun sz => gX12_eats_dbe8d69 l D cy h0 h1 p0 w0 w1 (.ref h2) p1 p2 p3 p4 p5 p6 p7 p8 p9 p10 p11 w2 w3 w4 w5 w6 p12 p13 w7 w8 w9 p14 p15 w10 w11 w12 w13 w14 p16 w15 w16 w17 f0 hp0 hp1 hp2 hp3 hp4 (i_rng _) hp6 (i_rng _) (i_rng _) (i_rng _) (i_rng _) (i_rng _) (i_rng _) (i_rng _) (i_rng _) (i_rng _) (i_rng _) (hpre0) (hpre1) sz) wm_6_75 wm_6_78 wm_1_12 hd_X12_eats wm_6_77 wp_4_6 (ci := 12) (q0 := 0) rfl rfl ⟨Nat.le_of_ble_eq_true rfl, Nat.le_of_ble_eq_true rfl⟩ hl.1 rfl (Nat.le_of_ble_eq_true rfl) dX12_readLine_57 ⟨Nat.le_of_ble_eq_true rfl, Nat.le_of_ble_eq_true rfl⟩ [2, 0] [1] rfl rfl (by decide) rfl rfl (fun r_7 u_7 H locs w_7 h_7 => ?_)
        clear h_5
        obtain ⟨wr_7, w7_0, w7_1, w7_2, w7_3, y7_0, y7_1, y7_2, y7_3, y7_4, _⟩ := w_7
        have lq_7_1 : (10 : Int32).toInt = 10 := (by decide)
        replace h_7 : qW D _ _ (wk_1d090495b cy h2 f1 h0 p0 w0 w1 h1 h2 p1 (u_7.2.1 0 0) (u_7.2.1 1 0) p4 (u_7.2.1 2 0) (u_7.2.1 3 0) p7 p8 p9 p10 p11 w2 w3 w4 w5 w6 p12 p13 w7 w8 w9 p14 p15 w10 w11 w12 w13 w14 p16 w15 w16 w17 h1 f0) _ _ := h_7
        refine lv_if_eq (tgt := 81) hx hb dX12_readLine_60 (by decide) (fun c_8 => ?_) (fun c_8 => ?_)
        · replace c_8 := i_eq (x := r_7) (y := 0) rfl (show (0 : Int32).toInt = 0 by decide) c_8
          replace y7_2 := a01_0 y7_2 c_8
          obtain ⟨y7_2a, y7_2b, y7_2c, y7_2d⟩ := y7_2
          refine lv_aload_n hx hb dX12_readLine_81 rfl (lv_at hl 0 rfl) ?_
          refine lv_iconst (v := 2) hx hb dX12_readLine_82 (by decide) ?_
          refine q_callVv (rest := []) (wr := (wk_8c87e24ed cy h2 f1 h1 f0)) X hK hT hA h_7 (fun sz => gX12_fails_1e02d40 l D cy h0 p0 w0 w1 (.ref h1) (.ref h2) p1 (u_7.2.1 0 0) (u_7.2.1 1 0) p4 (u_7.2.1 2 0) (u_7.2.1 3 0) p7 p8 p9 p10 p11 w2 w3 w4 w5 w6 p12 p13 w7 w8 w9 p14 p15 w10 w11 w12 w13 w14 p16 w15 w16 w17 hp0 hp1 w7_0 w7_1 hp4 (i_rng _) w7_3 (i_rng _) (i_rng _) (i_rng _) (i_rng _) (i_rng _) (i_rng _) (i_rng _) (i_rng _) (i_rng _) (i_rng _) sz) wm_6_83 wm_6_86 wm_1_12 hd_X12_fails wm_6_85 wp_4_8 (ci := 12) (q0 := 0) rfl rfl ⟨Nat.le_of_ble_eq_true rfl, Nat.le_of_ble_eq_true rfl⟩ hl.1 rfl (Nat.le_of_ble_eq_true rfl) dX12_readLine_83 ⟨Nat.le_of_ble_eq_true rfl, Nat.le_of_ble_eq_true rfl⟩ [1] [0, 2] rfl rfl (by decide) rfl rfl (fun u_9 H locs w_9 h_9 => ?_)
          clear h_7
          obtain ⟨w9_0, w9_1, y9_0, y9_1, _⟩ := w_9
          have lq_9_1 : (2 : Int32).toInt = 2 := (by decide)
          replace h_9 : qW D _ _ (wk_a24e8cc19 cy h2 f1 h1 f0 h0 p0 w0 w1 h1 h2 p1 (u_7.2.1 0 0) (u_7.2.1 1 0) p4 (u_7.2.1 2 0) (u_7.2.1 3 0) (u_9.2.1 0 0) (u_9.2.1 1 0) p9 p10 p11 w2 w3 w4 w5 w6 p12 p13 w7 w8 w9 p14 p15 w10 w11 w12 w13 w14 p16 w15 w16 w17) _ _ := h_9
          exact q_vret X hr hlk hK h_9 (fun _ => 0, (vcons (fun _ => (u_7.2.1 0 0)) (vcons (fun _ => (u_7.2.1 1 0)) (vcons (fun _ => (u_7.2.1 2 0)) (vcons (fun _ => (u_7.2.1 3 0)) (vcons (fun _ => (u_9.2.1 0 0)) (vcons (fun _ => (u_9.2.1 1 0)) (vcons f1 (vcons (fun _ => p11) (vcons (fun _ => p20) (vcons (fun _ => p19) (fun _ => (fun _ => 0)))))))))))), fun _ _ => 0) ⟨w7_0, w7_1, w7_2, w7_3, w9_0, w9_1, hp11, hp20, hp19, htf1_0, htf1_1, htf1_2, htf1_405, y7_0, y7_1, (show (p2 : Int32).toInt ≤ ((u_7.2.1 0 0) : Int32).toInt from by (first | (clear hpre1 hpre2 hpre4 y2_0 y5_0 y7_1 y7_4 y7_2d; omega) | omega)), (show ((u_9.2.1 0 0) : Int32).toInt ≠ 0 ∨ (p7 : Int32).toInt = 0 from by (first | (clear hpre1 hpre2 hpre4 y2_0 y5_0 y7_1 y7_4 y7_2d; omega) | omega)), (show ((u_9.2.1 0 0) : Int32).toInt ≠ 0 ∨ (p20 : Int32).toInt ≤ ((u_7.2.1 0 0) : Int32).toInt from by (first | (clear hpre1 hpre2 hpre4 y2_0 y5_0 y7_1 y7_4 y7_2d; omega) | omega)), (show HF ((u_9.2.1 0 0) : Int32).toInt f1 ((p20 : Int32).toInt).toNat from hf_w hpre3 (by (first | assumption | (clear hpre1 hpre2 hpre4 y2_0 y5_0 y7_1 y7_4 y7_2d; omega) | omega))), (show SIMR f0 (p4 : Int32).toInt (lineS (p18 : Int32).toInt (p19 : Int32).toInt) (p2 : Int32).toInt (p3 : Int32).toInt (p5 : Int32).toInt (p6 : Int32).toInt (p7 : Int32).toInt (p8 : Int32).toInt ((u_7.2.1 0 0) : Int32).toInt ((u_7.2.1 1 0) : Int32).toInt ((u_7.2.1 2 0) : Int32).toInt ((u_7.2.1 3 0) : Int32).toInt ((u_9.2.1 0 0) : Int32).toInt ((u_9.2.1 1 0) : Int32).toInt from smr_li (Or.inr (Or.inr (Or.inr (Or.inr ⟨(by (first | assumption | (clear hpre1 hpre2 hpre4 y2_0 y5_0 y7_1 y7_4 y7_2d; omega) | omega)), smr_ern (by (first | assumption | (clear hpre1 hpre2 hpre4 y2_0 y5_0 y7_1 y7_4 y7_2d; omega) | omega)) (by (first | assumption | (clear hpre1 hpre2 hpre4 y2_0 y5_0 y7_1 y7_4 y7_2d; omega) | omega)) (by (first | assumption | (clear hpre1 hpre2 hpre4 y2_0 y5_0 y7_1 y7_4 y7_2d; omega) | omega)) (by (first | assumption | (clear hpre1 hpre2 hpre4 y2_0 y5_0 y7_1 y7_4 y7_2d; omega) | omega)) (by (first | assumption | (clear hpre1 hpre2 hpre4 y2_0 y5_0 y7_1 y7_4 y7_2d; omega) | omega)) y9_1⟩))))), (show ((u_9.2.1 0 0) : Int32).toInt ≠ 0 ∨ ((p5 : Int32).toInt = 2 ∧ (p19 : Int32).toInt = (p19 : Int32).toInt + 1) ∨ ((p5 : Int32).toInt ≠ 2 ∧ (p19 : Int32).toInt = (p19 : Int32).toInt) from by (first | (clear hpre1 hpre2 hpre4 y2_0 y5_0 y7_1 y7_4 y7_2d; omega) | omega)), (show (p17 : Int32).toInt = (p17 : Int32).toInt from by (first | (clear hpre1 hpre2 hpre4 y2_0 y5_0 y7_1 y7_4 y7_2d; omega) | omega)), trivial⟩ [2, 1, 0] rfl rfl dX12_readLine_86 (Nat.le_of_ble_eq_true rfl) (Nat.le_of_ble_eq_true rfl)
        · replace c_8 := i_ne (x := r_7) (y := 0) rfl (show (0 : Int32).toInt = 0 by decide) c_8
          replace y7_2 := a01_1 y7_2 c_8
          refine lv_aload_n hx hb dX12_readLine_63 rfl (lv_at hl 0 rfl) ?_
          refine q_get X hK h_7 1 rfl rfl wf_12 4 (by decide) rfl wm_5_174 dX12_readLine_64 ?_
          refine lv_bipush (v := 52) hx hb dX12_readLine_67 (by decide) ?_
          refine lv_aload_n hx hb dX12_readLine_69 rfl (lv_at hl 0 rfl) ?_
          refine lv_iconst (v := 0) hx hb dX12_readLine_70 (by decide) ?_
          refine lv_sipush (v := 999) hx hb dX12_readLine_71 (by decide) ?_
          refine q_callVi (rest := [.int 52, .ref h2]) (wr := [(h2, .inl (cy 1, 1306, .inl f1))]) X hK hT hA h_7 (fun sz => gX12_takes_bfb9e22 l D cy h0 h1 (0 : Int32) (999 : Int32) p0 w0 w1 (.ref h2) p1 (u_7.2.1 0 0) (u_7.2.1 1 0) p4 (u_7.2.1 2 0) (u_7.2.1 3 0) p7 p8 p9 p10 p11 w2 w3 w4 w5 w6 p12 p13 w7 w8 w9 p14 p15 w10 w11 w12 w13 w14 p16 w15 w16 w17 f0 ⟨by decide +kernel, by decide +kernel⟩ ⟨by decide +kernel, by decide +kernel⟩ hp0 hp1 w7_0 w7_1 hp4 (i_rng _) w7_3 (i_rng _) (i_rng _) (i_rng _) (i_rng _) (i_rng _) (i_rng _) (i_rng _) (i_rng _) (i_rng _) (i_rng _) (y7_0) (y7_1) sz) wm_6_87 wm_6_90 wm_1_12 hd_X12_takes wm_6_89 wp_4_9 (ci := 12) (q0 := 0) rfl rfl ⟨Nat.le_of_ble_eq_true rfl, Nat.le_of_ble_eq_true rfl⟩ hl.1 rfl (Nat.le_of_ble_eq_true rfl) dX12_readLine_74 ⟨Nat.le_of_ble_eq_true rfl, Nat.le_of_ble_eq_true rfl⟩ [1, 2] [0] rfl rfl (by decide) rfl rfl (fun r_10 u_10 H locs w_10 h_10 => ?_)
          clear h_7
          obtain ⟨wr_10, w10_0, w10_1, w10_2, w10_3, w10_4, w10_5, y10_0, y10_1, y10_2, y10_3, y10_4, y10_5, y10_6, _⟩ := w_10
          have lq_10_1 : (0 : Int32).toInt = 0 := (by decide)
          have lq_10_2 : (999 : Int32).toInt = 999 := (by decide)
          replace h_10 : qW D _ _ (wk_1d090495b cy h2 f1 h0 p0 w0 w1 h1 h2 p1 (u_10.2.1 0 0) (u_10.2.1 1 0) p4 (u_10.2.1 2 0) (u_10.2.1 3 0) (u_10.2.1 4 0) (u_10.2.1 5 0) p9 p10 p11 w2 w3 w4 w5 w6 p12 p13 w7 w8 w9 p14 p15 w10 w11 w12 w13 w14 p16 w15 w16 w17 h1 f0) _ _ := h_10
          refine q_iast X hK h_10 0 rfl (q_in (by decide +kernel)) dX12_readLine_77 (fun H locs h_12 => ?_)
          clear h_10
          replace h_12 : qW D _ _ (wk_1d090495b cy h2 (upd f1 (Int32.toNatClampNeg 52) r_10) h0 p0 w0 w1 h1 h2 p1 (u_10.2.1 0 0) (u_10.2.1 1 0) p4 (u_10.2.1 2 0) (u_10.2.1 3 0) (u_10.2.1 4 0) (u_10.2.1 5 0) p9 p10 p11 w2 w3 w4 w5 w6 p12 p13 w7 w8 w9 p14 p15 w10 w11 w12 w13 w14 p16 w15 w16 w17 h1 f0) _ _ := h_12
          obtain ⟨F_11, eF_11⟩ : ∃ z, (upd f1 (Int32.toNatClampNeg 52) r_10) = z := ⟨_, rfl⟩
          have trF_11_0 := (tr_ne eF_11 htf1_0 (show (52 : Int32).toInt = 52 by decide) (by omega))
          have trF_11_1 := (tr_ne eF_11 htf1_1 (show (52 : Int32).toInt = 52 by decide) (by omega))
          have trF_11_2 := (tr_ne eF_11 htf1_2 (show (52 : Int32).toInt = 52 by decide) (by omega))
          have trF_11_405 := (tr_ne eF_11 htf1_405 (show (52 : Int32).toInt = 52 by decide) (by omega))
          rw [eF_11] at h_12
          have hf_13 := hf_upd hpre3 eF_11 (by first | omega | decide)
          refine lv_goto (tgt := 86) hx hb dX12_readLine_78 (by decide) ?_
          exact q_vret X hr hlk hK h_12 (fun _ => 0, (vcons (fun _ => (u_10.2.1 0 0)) (vcons (fun _ => (u_10.2.1 1 0)) (vcons (fun _ => (u_10.2.1 2 0)) (vcons (fun _ => (u_10.2.1 3 0)) (vcons (fun _ => (u_10.2.1 4 0)) (vcons (fun _ => (u_10.2.1 5 0)) (vcons F_11 (vcons (fun _ => p11) (vcons (fun _ => p20) (vcons (fun _ => p19) (fun _ => (fun _ => 0)))))))))))), fun _ _ => 0) ⟨w10_0, w10_1, w10_2, w10_3, w10_4, w10_5, hp11, hp20, hp19, trF_11_0, trF_11_1, trF_11_2, trF_11_405, y10_0, y10_1, (show (p2 : Int32).toInt ≤ ((u_10.2.1 0 0) : Int32).toInt from by (first | (clear hpre1 hpre2 hpre4 y2_0 y5_0 y7_1 y7_4 y10_1 y10_3 y10_4; omega) | omega)), y10_3, (show ((u_10.2.1 4 0) : Int32).toInt ≠ 0 ∨ (p20 : Int32).toInt ≤ ((u_10.2.1 0 0) : Int32).toInt from by (first | (clear hpre1 hpre2 hpre4 y2_0 y5_0 y7_1 y7_4 y10_1 y10_3 y10_4; omega) | omega)), (show HF ((u_10.2.1 4 0) : Int32).toInt F_11 ((p20 : Int32).toInt).toNat from hf_w hf_13 (by (first | assumption | (clear hpre1 hpre2 hpre4 y2_0 y5_0 y7_1 y7_4 y10_1 y10_3 y10_4; omega) | omega))), (show SIMR f0 (p4 : Int32).toInt (lineS (p18 : Int32).toInt (p19 : Int32).toInt) (p2 : Int32).toInt (p3 : Int32).toInt (p5 : Int32).toInt (p6 : Int32).toInt (p7 : Int32).toInt (p8 : Int32).toInt ((u_10.2.1 0 0) : Int32).toInt ((u_10.2.1 1 0) : Int32).toInt ((u_10.2.1 2 0) : Int32).toInt ((u_10.2.1 3 0) : Int32).toInt ((u_10.2.1 4 0) : Int32).toInt ((u_10.2.1 5 0) : Int32).toInt from smr_li (Or.inr (Or.inr (Or.inr (Or.inl ⟨(by (first | assumption | (clear hpre1 hpre2 hpre4 y2_0 y5_0 y7_1 y7_4 y10_1 y10_3 y10_4; omega) | omega)), smr_sq (smr_adv (c := 8) (by (first | assumption | (clear hpre1 hpre2 hpre4 y2_0 y5_0 y7_1 y7_4 y10_1 y10_3 y10_4; omega) | omega)) vk8 mk8 (by (first | assumption | (clear hpre1 hpre2 hpre4 y2_0 y5_0 y7_1 y7_4 y10_1 y10_3 y10_4; omega) | omega)) (by (first | assumption | (clear hpre1 hpre2 hpre4 y2_0 y5_0 y7_1 y7_4 y10_1 y10_3 y10_4; omega) | omega)) (by (first | assumption | (clear hpre1 hpre2 hpre4 y2_0 y5_0 y7_1 y7_4 y10_1 y10_3 y10_4; omega) | omega)) (alt_r y7_3 (by (first | assumption | (clear hpre1 hpre2 hpre4 y2_0 y5_0 y7_1 y7_4 y10_1 y10_3 y10_4; omega) | omega))) (by (first | assumption | (clear hpre1 hpre2 hpre4 y2_0 y5_0 y7_1 y7_4 y10_1 y10_3 y10_4; omega) | omega))) (smr_nmq y10_5 (by decide) (by decide))⟩))))), (show ((u_10.2.1 4 0) : Int32).toInt ≠ 0 ∨ ((p5 : Int32).toInt = 2 ∧ (p19 : Int32).toInt = (p19 : Int32).toInt + 1) ∨ ((p5 : Int32).toInt ≠ 2 ∧ (p19 : Int32).toInt = (p19 : Int32).toInt) from by (first | (clear hpre1 hpre2 hpre4 y2_0 y5_0 y7_1 y7_4 y10_1 y10_3 y10_4; omega) | omega)), (show (p17 : Int32).toInt = (p17 : Int32).toInt from by (first | (clear hpre1 hpre2 hpre4 y2_0 y5_0 y7_1 y7_4 y10_1 y10_3 y10_4; omega) | omega)), trivial⟩ [1, 2, 0] rfl rfl dX12_readLine_86 (Nat.le_of_ble_eq_true rfl) (Nat.le_of_ble_eq_true rfl)
      · replace c_6 := i_ne (x := r_5) (y := 0) rfl (show (0 : Int32).toInt = 0 by decide) c_6
        replace y5_0 := a10_1 y5_0 c_6
        refine lv_aload_n hx hb dX12_readLine_40 rfl (lv_at hl 0 rfl) ?_
        refine lv_aload_n hx hb dX12_readLine_41 rfl (lv_at hl 0 rfl) ?_
        refine q_get X hK h_5 2 rfl rfl wf_12 9 (by decide) rfl wm_5_179 dX12_readLine_42 ?_
        refine lv_bipush (v := 7) hx hb dX12_readLine_45 (by decide) ?_
        refine lv_isub hx hb dX12_readLine_47 ?_
        obtain ⟨z_14, ez_14, hz_14⟩ := e_sub (x := p5) (y := 7) rfl (show (7 : Int32).toInt = 7 by decide) (by omega) (by omega)
        refine q_c z_14 ez_14 ?_
        clear ez_14
        refine q_callVv (rest := []) (wr := []) X hK hT hA h_5 (fun sz => gX12_readLaw_73baa2c l D cy h0 h1 h2 z_14 p0 w0 w1 p1 p2 p3 p4 p5 p6 p7 p8 p9 p10 p11 w2 w3 w4 w5 w6 p12 p13 w7 w8 w9 p14 p15 w10 w11 w12 w13 w14 p16 w15 w16 w17 f0 f1 p17 p18 p19 p20 ⟨by omega, by omega⟩ hp0 hp1 hp2 hp3 hp4 (i_rng _) hp6 (i_rng _) (i_rng _) (i_rng _) (i_rng _) (i_rng _) (i_rng _) (i_rng _) (i_rng _) (i_rng _) (i_rng _) hp17 (i_rng _) hp19 hp20 htf1_0 htf1_1 htf1_2 htf1_405 (hpre0) (hpre1) (hpre2) (hf_w hpre3 (by (first | assumption | (clear hpre1 hpre2 hpre4 y2_0; omega) | omega))) (by (first | (clear hpre1 hpre2 hpre4 y2_0; omega) | omega)) (by (first | (clear hpre1 hpre2 hpre4 y2_0; omega) | omega)) sz) wm_6_110 wm_6_113 wm_1_12 hd_X12_readLaw wm_6_112 wp_4_14 (ci := 12) (q0 := 0) rfl rfl ⟨Nat.le_of_ble_eq_true rfl, Nat.le_of_ble_eq_true rfl⟩ hl.1 rfl (Nat.le_of_ble_eq_true rfl) dX12_readLine_48 ⟨Nat.le_of_ble_eq_true rfl, Nat.le_of_ble_eq_true rfl⟩ [2, 0, 1] [] rfl rfl (by decide) rfl rfl (fun u_15 H locs w_15 h_15 => ?_)
        clear h_5
        obtain ⟨w15_0, w15_1, w15_2, w15_3, w15_4, w15_5, w15_6, w15_7, w15_8, w15_9, w15_10, w15_11, y15_0, y15_1, y15_2, y15_3, y15_4, y15_5, y15_6, _⟩ := w_15
        replace h_15 : qW D _ _ (wk_8d528f753 cy h0 p0 w0 w1 h1 h2 p1 (u_15.2.1 0 0) (u_15.2.1 1 0) p4 (u_15.2.1 2 0) (u_15.2.1 3 0) (u_15.2.1 4 0) (u_15.2.1 5 0) p9 p10 (u_15.2.1 6 0) w2 w3 w4 w5 w6 p12 p13 w7 w8 w9 p14 p15 w10 w11 w12 w13 w14 p16 w15 w16 w17 h1 f0 h2 (u_15.2.1 7)) _ _ := h_15
        refine lv_goto (tgt := 86) hx hb dX12_readLine_51 (by decide) ?_
        exact q_vret X hr hlk hK h_15 (fun _ => 0, (vcons (fun _ => (u_15.2.1 0 0)) (vcons (fun _ => (u_15.2.1 1 0)) (vcons (fun _ => (u_15.2.1 2 0)) (vcons (fun _ => (u_15.2.1 3 0)) (vcons (fun _ => (u_15.2.1 4 0)) (vcons (fun _ => (u_15.2.1 5 0)) (vcons (u_15.2.1 7) (vcons (fun _ => (u_15.2.1 6 0)) (vcons (fun _ => (u_15.2.1 8 0)) (vcons (fun _ => p19) (fun _ => (fun _ => 0)))))))))))), fun _ _ => 0) ⟨w15_0, w15_1, w15_2, w15_3, w15_4, w15_5, (bw w15_6 (by decide) (by decide)), w15_7, hp19, w15_8, w15_9, w15_10, w15_11, y15_0, y15_1, y15_2, y15_3, y15_4, (show HF ((u_15.2.1 4 0) : Int32).toInt (u_15.2.1 7) (((u_15.2.1 8 0) : Int32).toInt).toNat from hf_w y15_5 (by (first | assumption | (clear hpre1 hpre2 hpre4 y2_0 y15_1 y15_3 y15_4; omega) | omega))), (show SIMR f0 (p4 : Int32).toInt (lineS (p18 : Int32).toInt (p19 : Int32).toInt) (p2 : Int32).toInt (p3 : Int32).toInt (p5 : Int32).toInt (p6 : Int32).toInt (p7 : Int32).toInt (p8 : Int32).toInt ((u_15.2.1 0 0) : Int32).toInt ((u_15.2.1 1 0) : Int32).toInt ((u_15.2.1 2 0) : Int32).toInt ((u_15.2.1 3 0) : Int32).toInt ((u_15.2.1 4 0) : Int32).toInt ((u_15.2.1 5 0) : Int32).toInt from smr_li (Or.inr (Or.inr (Or.inl ⟨(z_14 : Int32).toInt, (by (first | assumption | (clear hpre1 hpre2 hpre4 y2_0 y15_1 y15_3 y15_4; omega) | omega)), (by (first | assumption | (clear hpre1 hpre2 hpre4 y2_0 y15_1 y15_3 y15_4; omega) | omega)), (by (first | assumption | (clear hpre1 hpre2 hpre4 y2_0 y15_1 y15_3 y15_4; omega) | omega)), y15_6⟩)))), (show ((u_15.2.1 4 0) : Int32).toInt ≠ 0 ∨ ((p5 : Int32).toInt = 2 ∧ (p19 : Int32).toInt = (p19 : Int32).toInt + 1) ∨ ((p5 : Int32).toInt ≠ 2 ∧ (p19 : Int32).toInt = (p19 : Int32).toInt) from by (first | (clear hpre1 hpre2 hpre4 y2_0 y15_1 y15_3 y15_4; omega) | omega)), (show (p17 : Int32).toInt = (p17 : Int32).toInt from by (first | (clear hpre1 hpre2 hpre4 y2_0 y15_1 y15_3 y15_4; omega) | omega)), trivial⟩ [0, 1, 2] rfl rfl dX12_readLine_86 (Nat.le_of_ble_eq_true rfl) (Nat.le_of_ble_eq_true rfl)
    · replace c_3 := i_ne (x := r_2) (y := 0) rfl (show (0 : Int32).toInt = 0 by decide) c_3
      replace y2_0 := a10_1 y2_0 c_3
      refine lv_aload_n hx hb dX12_readLine_16 rfl (lv_at hl 0 rfl) ?_
      refine q_callVv (rest := []) (wr := []) X hK hT hA h_2 (fun sz => gX12_readPerson_5b9c391 l D cy h0 h1 h2 p0 w0 w1 p1 p2 p3 p4 p5 p6 p7 p8 p9 p10 p11 w2 w3 w4 w5 w6 p12 p13 w7 w8 w9 p14 p15 w10 w11 w12 w13 w14 p16 w15 w16 w17 f0 f1 p17 p18 p19 p20 hp0 hp1 hp2 hp3 hp4 (i_rng _) hp6 (i_rng _) (i_rng _) (i_rng _) (i_rng _) (i_rng _) (i_rng _) (i_rng _) (i_rng _) (i_rng _) (i_rng _) hp17 (i_rng _) hp19 hp20 htf1_0 htf1_1 htf1_2 htf1_405 (hpre0) (hpre1) (hf_w hpre3 (by (first | assumption | (clear hpre1 hpre2 hpre4; omega) | omega))) (by (first | (clear hpre1 hpre2 hpre4; omega) | omega)) (by (first | (clear hpre1 hpre2 hpre4; omega) | omega)) (by (first | (clear hpre1 hpre2 hpre4; omega) | omega)) sz) wm_6_99 wm_6_102 wm_1_12 hd_X12_readPerson wm_6_101 wp_4_12 (ci := 12) (q0 := 0) rfl rfl ⟨Nat.le_of_ble_eq_true rfl, Nat.le_of_ble_eq_true rfl⟩ hl.1 rfl (Nat.le_of_ble_eq_true rfl) dX12_readLine_17 ⟨Nat.le_of_ble_eq_true rfl, Nat.le_of_ble_eq_true rfl⟩ [2, 0, 1] [] rfl rfl (by decide) rfl rfl (fun u_16 H locs w_16 h_16 => ?_)
      clear h_2
      obtain ⟨w16_0, w16_1, w16_2, w16_3, w16_4, w16_5, w16_6, w16_7, w16_8, w16_9, w16_10, y16_0, y16_1, y16_2, y16_3, y16_4, y16_5, y16_6, _⟩ := w_16
      replace h_16 : qW D _ _ (wk_8d528f753 cy h0 p0 w0 w1 h1 h2 p1 (u_16.2.1 1 0) (u_16.2.1 2 0) p4 (u_16.2.1 3 0) (u_16.2.1 4 0) (u_16.2.1 5 0) (u_16.2.1 6 0) p9 p10 p11 w2 w3 w4 w5 w6 p12 p13 w7 w8 w9 p14 p15 w10 w11 w12 w13 w14 p16 w15 w16 w17 h1 f0 h2 (u_16.2.1 0)) _ _ := h_16
      refine lv_goto (tgt := 86) hx hb dX12_readLine_20 (by decide) ?_
      exact q_vret X hr hlk hK h_16 (fun _ => 0, (vcons (fun _ => (u_16.2.1 1 0)) (vcons (fun _ => (u_16.2.1 2 0)) (vcons (fun _ => (u_16.2.1 3 0)) (vcons (fun _ => (u_16.2.1 4 0)) (vcons (fun _ => (u_16.2.1 5 0)) (vcons (fun _ => (u_16.2.1 6 0)) (vcons (u_16.2.1 0) (vcons (fun _ => p11) (vcons (fun _ => p20) (vcons (fun _ => (u_16.2.1 7 0)) (fun _ => (fun _ => 0)))))))))))), fun _ _ => 0) ⟨w16_0, w16_1, w16_2, w16_3, w16_4, w16_5, hp11, hp20, w16_6, w16_7, w16_8, w16_9, w16_10, y16_0, y16_1, y16_2, y16_3, (show ((u_16.2.1 5 0) : Int32).toInt ≠ 0 ∨ (p20 : Int32).toInt ≤ ((u_16.2.1 1 0) : Int32).toInt from by (first | (clear hpre1 hpre2 hpre4 y16_1 y16_3 y16_6; omega) | omega)), (show HF ((u_16.2.1 5 0) : Int32).toInt (u_16.2.1 0) ((p20 : Int32).toInt).toNat from hf_w y16_4 (by (first | assumption | (clear hpre1 hpre2 hpre4 y16_1 y16_3 y16_6; omega) | omega))), (show SIMR f0 (p4 : Int32).toInt (lineS (p18 : Int32).toInt (p19 : Int32).toInt) (p2 : Int32).toInt (p3 : Int32).toInt (p5 : Int32).toInt (p6 : Int32).toInt (p7 : Int32).toInt (p8 : Int32).toInt ((u_16.2.1 1 0) : Int32).toInt ((u_16.2.1 2 0) : Int32).toInt ((u_16.2.1 3 0) : Int32).toInt ((u_16.2.1 4 0) : Int32).toInt ((u_16.2.1 5 0) : Int32).toInt ((u_16.2.1 6 0) : Int32).toInt from smr_li (Or.inr (Or.inl ⟨(by (first | assumption | (clear hpre1 hpre2 hpre4 y16_1 y16_3 y16_6; omega) | omega)), y16_5⟩))), (show ((u_16.2.1 5 0) : Int32).toInt ≠ 0 ∨ ((p5 : Int32).toInt = 2 ∧ ((u_16.2.1 7 0) : Int32).toInt = (p19 : Int32).toInt + 1) ∨ ((p5 : Int32).toInt ≠ 2 ∧ ((u_16.2.1 7 0) : Int32).toInt = (p19 : Int32).toInt) from by (first | (clear hpre1 hpre2 hpre4 y16_1 y16_3 y16_6; omega) | omega)), (show (p17 : Int32).toInt = (p17 : Int32).toInt from by (first | (clear hpre1 hpre2 hpre4 y16_1 y16_3 y16_6; omega) | omega)), trivial⟩ [0, 1, 2] rfl rfl dX12_readLine_86 (Nat.le_of_ble_eq_true rfl) (Nat.le_of_ble_eq_true rfl)
  · replace c_1 := i_ne (x := p7) (y := 0) rfl (show (0 : Int32).toInt = 0 by decide) c_1
    exact q_vret X hr hlk hK h (fun _ => 0, (vcons (fun _ => p2) (vcons (fun _ => p3) (vcons (fun _ => p5) (vcons (fun _ => p6) (vcons (fun _ => p7) (vcons (fun _ => p8) (vcons f1 (vcons (fun _ => p11) (vcons (fun _ => p20) (vcons (fun _ => p19) (fun _ => (fun _ => 0)))))))))))), fun _ _ => 0) ⟨hp2, hp3, hp5, hp6, hp7, hp8, hp11, hp20, hp19, htf1_0, htf1_1, htf1_2, htf1_405, hpre0, hpre1, (show (p2 : Int32).toInt ≤ (p2 : Int32).toInt from (Int.le_refl _)), (show (p7 : Int32).toInt ≠ 0 ∨ (p7 : Int32).toInt = 0 from (ne_or _)), hpre2, (show HF (p7 : Int32).toInt f1 ((p20 : Int32).toInt).toNat from hf_w hpre3 (by (first | assumption | (clear hpre1 hpre2 hpre4; omega) | omega))), (show SIMR f0 (p4 : Int32).toInt (lineS (p18 : Int32).toInt (p19 : Int32).toInt) (p2 : Int32).toInt (p3 : Int32).toInt (p5 : Int32).toInt (p6 : Int32).toInt (p7 : Int32).toInt (p8 : Int32).toInt (p2 : Int32).toInt (p3 : Int32).toInt (p5 : Int32).toInt (p6 : Int32).toInt (p7 : Int32).toInt (p8 : Int32).toInt from smr_li (Or.inl ⟨(by (first | assumption | (clear hpre1 hpre2 hpre4; omega) | omega)), rfl, rfl, rfl, rfl, rfl, rfl⟩)), (show (p7 : Int32).toInt ≠ 0 ∨ ((p5 : Int32).toInt = 2 ∧ (p19 : Int32).toInt = (p19 : Int32).toInt + 1) ∨ ((p5 : Int32).toInt ≠ 2 ∧ (p19 : Int32).toInt = (p19 : Int32).toInt) from by (first | (clear hpre1 hpre2 hpre4; omega) | omega)), (show (p17 : Int32).toInt = (p17 : Int32).toInt from by (first | (clear hpre1 hpre2 hpre4; omega) | omega)), trivial⟩ [0, 1, 2] rfl rfl dX12_readLine_7 (Nat.le_of_ble_eq_true rfl) (Nat.le_of_ble_eq_true rfl)
set_option maxHeartbeats 60000000 in
set_option maxRecDepth 100000 in
theorem gX12_house_f76b5d3 (l : Launch) (D : va_G) (cy : Nat → ClassId) (h0 : Nat) (h1 : Nat) (h2 : Nat) (h3 : Nat) (p0 : Int32) (p1 : Int32) (w0 : Value) (p2 : Int32) (p3 : Int32) (p4 : Int32) (p5 : Int32) (p6 : Int32) (p7 : Int32) (p8 : Int32) (p9 : Int32) (p10 : Int32) (p11 : Int32) (p12 : Int32) (w1 : Value) (w2 : Value) (w3 : Value) (w4 : Value) (w5 : Value) (p13 : Int32) (p14 : Int32) (w6 : Value) (w7 : Value) (w8 : Value) (p15 : Int32) (p16 : Int32) (w9 : Value) (w10 : Value) (w11 : Value) (w12 : Value) (w13 : Value) (p17 : Int32) (w14 : Value) (w15 : Value) (w16 : Value) (f0 : Nat → Int32) (p18 : Int32) (f1 : Nat → Int32) (f2 : Nat → Int32) (p19 : Int32) (p20 : Int32) (p21 : Int32) (p22 : Int32) (hp0 : (-2147483648) ≤ (p0).toInt ∧ (p0).toInt ≤ 2147483647) (hp1 : (-2147483648) ≤ (p1).toInt ∧ (p1).toInt ≤ 2147483647) (hp2 : 0 ≤ (p2).toInt ∧ (p2).toInt ≤ 900) (hp3 : 0 ≤ (p3).toInt ∧ (p3).toInt ≤ 900) (hp4 : 0 ≤ (p4).toInt ∧ (p4).toInt ≤ 900) (hp5 : 0 ≤ (p5).toInt ∧ (p5).toInt ≤ 900) (hp6 : (-2147483648) ≤ (p6).toInt ∧ (p6).toInt ≤ 2147483647) (hp7 : 0 ≤ (p7).toInt ∧ (p7).toInt ≤ 999) (hp8 : (-2147483648) ≤ (p8).toInt ∧ (p8).toInt ≤ 2147483647) (hp9 : (-2147483648) ≤ (p9).toInt ∧ (p9).toInt ≤ 2147483647) (hp10 : (-2147483648) ≤ (p10).toInt ∧ (p10).toInt ≤ 2147483647) (hp11 : (-2147483648) ≤ (p11).toInt ∧ (p11).toInt ≤ 2147483647) (hp12 : (-2147483648) ≤ (p12).toInt ∧ (p12).toInt ≤ 2147483647) (hp13 : (-2147483648) ≤ (p13).toInt ∧ (p13).toInt ≤ 2147483647) (hp14 : (-2147483648) ≤ (p14).toInt ∧ (p14).toInt ≤ 2147483647) (hp15 : (-2147483648) ≤ (p15).toInt ∧ (p15).toInt ≤ 2147483647) (hp16 : (-2147483648) ≤ (p16).toInt ∧ (p16).toInt ≤ 2147483647) (hp17 : (-2147483648) ≤ (p17).toInt ∧ (p17).toInt ≤ 2147483647) (hp18 : 0 ≤ (p18).toInt ∧ (p18).toInt ≤ 10) (hp19 : 0 ≤ (p19).toInt ∧ (p19).toInt ≤ 1000) (hp20 : (-2147483648) ≤ (p20).toInt ∧ (p20).toInt ≤ 2147483647) (hp21 : 0 ≤ (p21).toInt ∧ (p21).toInt ≤ 10) (hp22 : 0 ≤ (p22).toInt ∧ (p22).toInt ≤ 900) (htf0_84 : f0 84 = p18) (rf0 : AL f0) (htf2_0 : f2 0 = p19) (htf2_1 : f2 1 = p20) (htf2_2 : f2 2 = p21) (htf2_405 : f2 405 = p22) (sz : Nat) : MI l yX12_house cX12_house 3 .int { frames := 33, cells := 0, slots := 0, locals := 800 } [.ref h0, .int p0] D cy (wk_04d6d8a2c cy h0 p1 h1 w0 h2 h3 p2 p3 p4 p5 p6 p7 p8 p9 p10 p11 p12 w1 w2 w3 w4 w5 p13 p14 w6 w7 w8 p15 p16 w9 w10 w11 w12 w13 p17 w14 w15 w16 h1 f0 h2 f1 h3 f2) sz (fun r u => ((-2147483648) ≤ r.toInt ∧ r.toInt ≤ 2147483647) ∧ AL (u.2.1 0) ∧ (0 ≤ (u.2.1 1 0).toInt ∧ (u.2.1 1 0).toInt ≤ 10) ∧ (0 ≤ (u.2.1 2 0).toInt ∧ (u.2.1 2 0).toInt ≤ 0) ∧ (0 ≤ (u.2.1 3 0).toInt ∧ (u.2.1 3 0).toInt ≤ 900) ∧ (0 ≤ (u.2.1 4 0).toInt ∧ (u.2.1 4 0).toInt ≤ 900) ∧ (0 ≤ (u.2.1 5 0).toInt ∧ (u.2.1 5 0).toInt ≤ 900) ∧ (0 ≤ (u.2.1 6 0).toInt ∧ (u.2.1 6 0).toInt ≤ 900) ∧ ((-2147483648) ≤ (u.2.1 7 0).toInt ∧ (u.2.1 7 0).toInt ≤ 2147483647) ∧ (0 ≤ (u.2.1 8 0).toInt ∧ (u.2.1 8 0).toInt ≤ 999) ∧ ((-2147483648) ≤ (u.2.1 9 0).toInt ∧ (u.2.1 9 0).toInt ≤ 2147483647) ∧ ((-2147483648) ≤ (u.2.1 10 0).toInt ∧ (u.2.1 10 0).toInt ≤ 2147483647) ∧ ((-2147483648) ≤ (u.2.1 11 0).toInt ∧ (u.2.1 11 0).toInt ≤ 2147483647) ∧ ((-2147483648) ≤ (u.2.1 12 0).toInt ∧ (u.2.1 12 0).toInt ≤ 2147483647) ∧ ((-2147483648) ≤ (u.2.1 13 0).toInt ∧ (u.2.1 13 0).toInt ≤ 2147483647) ∧ (0 ≤ (u.2.1 15 0).toInt ∧ (u.2.1 15 0).toInt ≤ 1000) ∧ ((-2147483648) ≤ (u.2.1 16 0).toInt ∧ (u.2.1 16 0).toInt ≤ 2147483647) ∧ (0 ≤ (u.2.1 17 0).toInt ∧ (u.2.1 17 0).toInt ≤ 10) ∧ (0 ≤ (u.2.1 18 0).toInt ∧ (u.2.1 18 0).toInt ≤ 900) ∧ (u.2.1 0) 84 = (u.2.1 1 0) ∧ (u.2.1 14) 0 = (u.2.1 15 0) ∧ (u.2.1 14) 1 = (u.2.1 16 0) ∧ (u.2.1 14) 2 = (u.2.1 17 0) ∧ (u.2.1 14) 405 = (u.2.1 18 0) ∧ ((((p0 : Int32).toInt < 0 ∨ (p2 : Int32).toInt < (p0 : Int32).toInt) ∧ (r : Int32).toInt = -3 ∧ ((u.2.1 3 0) : Int32).toInt = (p2 : Int32).toInt ∧ ((u.2.1 11 0) : Int32).toInt = (p10 : Int32).toInt ∧ ((u.2.1 12 0) : Int32).toInt = (p11 : Int32).toInt) ∨ (0 ≤ (p0 : Int32).toInt ∧ (p0 : Int32).toInt ≤ (p2 : Int32).toInt ∧ ((u.2.1 3 0) : Int32).toInt = 0 ∧ HSE (r : Int32).toInt ((u.2.1 11 0) : Int32).toInt ((u.2.1 12 0) : Int32).toInt (PF (bM f1) ((p0 : Int32).toInt).toNat))) ∧ True) (fun u => (wk_04d6d8a2c cy h0 (u.2.1 2 0) h1 w0 h2 h3 (u.2.1 3 0) (u.2.1 4 0) (u.2.1 5 0) (u.2.1 6 0) (u.2.1 7 0) (u.2.1 8 0) (u.2.1 9 0) (u.2.1 10 0) (u.2.1 11 0) (u.2.1 12 0) (u.2.1 13 0) w1 w2 w3 w4 w5 p13 p14 w6 w7 w8 p15 p16 w9 w10 w11 w12 w13 p17 w14 w15 w16 h1 (u.2.1 0) h2 f1 h3 (u.2.1 14))) 0 0 := by
  refine q_ent (own := RX12) (by decide) rfl (Nat.le_of_ble_eq_true rfl) (fun p e s m below meth c ls X hr hlk hnm hK hT h hA hl => ?_)
  obtain ⟨hx, hb, hml, hown, ht⟩ := id X
  replace hl : lv_has ls 3 [(0, .ref h0), (1, .int p0)] := hl
  refine lv_aload_n hx hb dX12_house_0 rfl (lv_at hl 0 rfl) ?_
  refine lv_iconst (v := 0) hx hb dX12_house_1 (by decide) ?_
  refine q_put (v := .int 0) X hK h 0 rfl rfl wf_12 tyX12 tyX12_ok nmX12 0 (by decide) wm_5_170 rfl rfl rfl (Nat.le_of_ble_eq_true rfl) dX12_house_2 (fun H locs h_1 => ?_)
  clear h
  replace h_1 : qW D _ _ (wk_04d6d8a2c cy h0 0 h1 w0 h2 h3 p2 p3 p4 p5 p6 p7 p8 p9 p10 p11 p12 w1 w2 w3 w4 w5 p13 p14 w6 w7 w8 p15 p16 w9 w10 w11 w12 w13 p17 w14 w15 w16 h1 f0 h2 f1 h3 f2) _ _ := h_1
  refine lv_iload_n hx hb dX12_house_5 rfl (lv_at hl 1 rfl) ?_
  refine lv_i2l hx hb dX12_house_6 rfl ?_
  obtain ⟨z_2, ez_2, hz_2⟩ := e_i2l (x := p0) rfl
  refine q_cl z_2 ez_2 ?_
  clear ez_2
  refine lv_lconst (v := 0) hx hb dX12_house_7 (by decide) ?_
  refine lv_aload_n hx hb dX12_house_8 rfl (lv_at hl 0 rfl) ?_
  refine q_get X hK h_1 0 rfl rfl wf_12 5 (by decide) rfl wm_5_175 dX12_house_9 ?_
  refine lv_i2l hx hb dX12_house_12 rfl ?_
  obtain ⟨z_3, ez_3, hz_3⟩ := e_i2l (x := p2) rfl
  refine q_cl z_3 ez_3 ?_
  clear ez_3
  refine q_callSi (rest := []) (wr := (wk_04d6d8a2c cy h0 0 h1 w0 h2 h3 p2 p3 p4 p5 p6 p7 p8 p9 p10 p11 p12 w1 w2 w3 w4 w5 p13 p14 w6 w7 w8 p15 p16 w9 w10 w11 w12 w13 p17 w14 w15 w16 h1 f0 h2 f1 h3 f2)) X hK hT hA h_1 (fun sz => gX12_within_00c7897 l D cy z_2 (0 : Int64) z_3 (j_rng _) ⟨by decide +kernel, by decide +kernel⟩ ⟨by omega, by omega⟩ sz) wm_6_50 wm_6_52 wm_1_12 hd_X12_within wm_6_51 ⟨Nat.le_of_ble_eq_true rfl, Nat.le_of_ble_eq_true rfl⟩ hl.1 rfl (Nat.le_of_ble_eq_true rfl) dX12_house_13 ⟨Nat.le_of_ble_eq_true rfl, Nat.le_of_ble_eq_true rfl⟩ [] [0, 1, 2, 3] rfl rfl (by decide) rfl rfl (fun r_4 u_4 H locs w_4 h_4 => ?_)
  clear h_1
  obtain ⟨wr_4, y4_0, _⟩ := w_4
  have lq_4_1 : (0 : Int64).toInt = 0 := (by decide)
  replace h_4 : qW D _ _ (wk_04d6d8a2c cy h0 0 h1 w0 h2 h3 p2 p3 p4 p5 p6 p7 p8 p9 p10 p11 p12 w1 w2 w3 w4 w5 p13 p14 w6 w7 w8 p15 p16 w9 w10 w11 w12 w13 p17 w14 w15 w16 h1 f0 h2 f1 h3 f2) _ _ := h_4
  refine lv_if_ne (tgt := 22) hx hb dX12_house_16 (by decide) (fun c_5 => ?_) (fun c_5 => ?_)
  · replace c_5 := i_ne (x := r_4) (y := 0) rfl (show (0 : Int32).toInt = 0 by decide) c_5
    replace y4_0 := a10_1 y4_0 c_5
    refine lv_aload_n hx hb dX12_house_22 rfl (lv_at hl 0 rfl) ?_
    refine lv_iload_n hx hb dX12_house_23 rfl (lv_at hl 1 rfl) ?_
    refine q_put (v := .int p0) X hK h_4 0 rfl rfl wf_12 tyX12 tyX12_ok nmX12 8 (by decide) wm_5_178 rfl rfl rfl (Nat.le_of_ble_eq_true rfl) dX12_house_24 (fun H locs h_6 => ?_)
    clear h_4
    replace h_6 : qW D _ _ (wk_04d6d8a2c cy h0 0 h1 w0 h2 h3 p2 p3 p4 p0 p6 p7 p8 p9 p10 p11 p12 w1 w2 w3 w4 w5 p13 p14 w6 w7 w8 p15 p16 w9 w10 w11 w12 w13 p17 w14 w15 w16 h1 f0 h2 f1 h3 f2) _ _ := h_6
    refine lv_aload_n hx hb dX12_house_27 rfl (lv_at hl 0 rfl) ?_
    refine lv_iconst (v := 0) hx hb dX12_house_28 (by decide) ?_
    refine q_put (v := .int 0) X hK h_6 0 rfl rfl wf_12 tyX12 tyX12_ok nmX12 5 (by decide) wm_5_175 rfl rfl rfl (Nat.le_of_ble_eq_true rfl) dX12_house_29 (fun H locs h_7 => ?_)
    clear h_6
    replace h_7 : qW D _ _ (wk_04d6d8a2c cy h0 0 h1 w0 h2 h3 0 p3 p4 p0 p6 p7 p8 p9 p10 p11 p12 w1 w2 w3 w4 w5 p13 p14 w6 w7 w8 p15 p16 w9 w10 w11 w12 w13 p17 w14 w15 w16 h1 f0 h2 f1 h3 f2) _ _ := h_7
    refine lv_aload_n hx hb dX12_house_32 rfl (lv_at hl 0 rfl) ?_
    refine lv_iconst (v := 0) hx hb dX12_house_33 (by decide) ?_
    refine q_put (v := .int 0) X hK h_7 0 rfl rfl wf_12 tyX12 tyX12_ok nmX12 7 (by decide) wm_5_177 rfl rfl rfl (Nat.le_of_ble_eq_true rfl) dX12_house_34 (fun H locs h_8 => ?_)
    clear h_7
    replace h_8 : qW D _ _ (wk_04d6d8a2c cy h0 0 h1 w0 h2 h3 0 p3 0 p0 p6 p7 p8 p9 p10 p11 p12 w1 w2 w3 w4 w5 p13 p14 w6 w7 w8 p15 p16 w9 w10 w11 w12 w13 p17 w14 w15 w16 h1 f0 h2 f1 h3 f2) _ _ := h_8
    refine lv_aload_n hx hb dX12_house_37 rfl (lv_at hl 0 rfl) ?_
    refine lv_iconst (v := 0) hx hb dX12_house_38 (by decide) ?_
    refine q_put (v := .int 0) X hK h_8 0 rfl rfl wf_12 tyX12 tyX12_ok nmX12 11 (by decide) wm_5_181 rfl rfl rfl (Nat.le_of_ble_eq_true rfl) dX12_house_39 (fun H locs h_9 => ?_)
    clear h_8
    replace h_9 : qW D _ _ (wk_04d6d8a2c cy h0 0 h1 w0 h2 h3 0 p3 0 p0 p6 p7 0 p9 p10 p11 p12 w1 w2 w3 w4 w5 p13 p14 w6 w7 w8 p15 p16 w9 w10 w11 w12 w13 p17 w14 w15 w16 h1 f0 h2 f1 h3 f2) _ _ := h_9
    refine lv_aload_n hx hb dX12_house_42 rfl (lv_at hl 0 rfl) ?_
    refine q_get X hK h_9 0 rfl rfl wf_12 4 (by decide) rfl wm_5_174 dX12_house_43 ?_
    refine q_callSv (rest := []) (wr := [(h0, .inr (12, [.int 0, .ref h1, w0, .ref h2, .ref h3, .int 0, .int p3, .int 0, .int p0, .int p6, .int p7, .int 0, .int p9, .int p10, .int p11, .int p12, w1, w2, w3, w4, w5, .int p13, .int p14, w6, w7, w8, .int p15, .int p16, w9, w10, w11, w12, w13, .int p17, w14, w15, w16])), (h1, .inl (cy 1, 3918, .inl f0)), (h2, .inl (cy 1, 900, .inl f1))]) X hK hT hA h_9 (fun sz => gX12_plain_0c5a33d l D cy h3 f2 p19 p20 p21 p22 hp19 (i_rng _) hp21 hp22 htf2_0 htf2_1 htf2_2 htf2_405 sz) wm_5_167 wm_5_169 wm_1_12 hd_X12_plain wm_5_168 ⟨Nat.le_of_ble_eq_true rfl, Nat.le_of_ble_eq_true rfl⟩ hl.1 rfl (Nat.le_of_ble_eq_true rfl) dX12_house_46 ⟨Nat.le_of_ble_eq_true rfl, Nat.le_of_ble_eq_true rfl⟩ [3] [0, 1, 2] rfl rfl (by decide) rfl rfl (fun u_10 H locs w_10 h_10 => ?_)
    clear h_9
    obtain ⟨w10_0, w10_1, w10_2, w10_3, w10_4, w10_5, w10_6, w10_7, y10_0, _⟩ := w_10
    replace h_10 : qW D _ _ (wk_04d6d8a2c cy h0 0 h1 w0 h2 h3 0 p3 0 p0 p6 p7 0 p9 p10 p11 p12 w1 w2 w3 w4 w5 p13 p14 w6 w7 w8 p15 p16 w9 w10 w11 w12 w13 p17 w14 w15 w16 h1 f0 h2 f1 h3 (u_10.2.1 0)) _ _ := h_10
    have hf_11 : HF (0 : Int32).toInt (u_10.2.1 0) (((u_10.2.1 4 0) : Int32).toInt).toNat := hf_0 y10_0
    refine lv_aload_n hx hb dX12_house_49 rfl (lv_at hl 0 rfl) ?_
    refine q_callVv (rest := []) (wr := (wk_7c5ca55a5 cy h1 f0 h3 (u_10.2.1 0))) X hK hT hA h_10 (fun sz => gX12_next_c515fc5 l D cy h0 h2 (0 : Int32) (.ref h1) w0 (.ref h3) (0 : Int32) p3 (0 : Int32) p0 p6 p7 (0 : Int32) p9 p10 p11 p12 w1 w2 w3 w4 w5 p13 p14 w6 w7 w8 p15 p16 w9 w10 w11 w12 w13 p17 w14 w15 w16 f1 ⟨by decide +kernel, by decide +kernel⟩ ⟨by decide +kernel, by decide +kernel⟩ hp3 ⟨by decide +kernel, by decide +kernel⟩ ⟨by omega, by omega⟩ (i_rng _) hp7 (i_rng _) (i_rng _) (i_rng _) (i_rng _) (i_rng _) (i_rng _) (i_rng _) (i_rng _) (i_rng _) (i_rng _) (by have q0 : (0 : Int32).toInt = 0 := (by decide); omega) sz) wm_6_53 wm_6_56 wm_1_12 hd_X12_next wm_6_55 wp_4_3 (ci := 12) (q0 := 0) rfl rfl ⟨Nat.le_of_ble_eq_true rfl, Nat.le_of_ble_eq_true rfl⟩ hl.1 rfl (Nat.le_of_ble_eq_true rfl) dX12_house_50 ⟨Nat.le_of_ble_eq_true rfl, Nat.le_of_ble_eq_true rfl⟩ [0, 2] [1, 3] rfl rfl (by decide) rfl rfl (fun u_12 H locs w_12 h_12 => ?_)
    clear h_10
    obtain ⟨w12_0, w12_1, w12_2, w12_3, y12_0, y12_1, y12_2, y12_3, _⟩ := w_12
    replace h_12 : qW D _ _ (wk_db69142ea cy h1 f0 h3 (u_10.2.1 0) h0 0 h1 w0 h2 h3 0 (u_12.2.1 0 0) (u_12.2.1 1 0) p0 (u_12.2.1 2 0) (u_12.2.1 3 0) 0 p9 p10 p11 p12 w1 w2 w3 w4 w5 p13 p14 w6 w7 w8 p15 p16 w9 w10 w11 w12 w13 p17 w14 w15 w16 h2 f1) _ _ := h_12
    have rr_13 := rr_st (W2 := (0 : Int32).toInt) (X2 := (p9 : Int32).toInt) y12_3 (by decide) (by decide)
    refine lv_aload_n hx hb dX12_house_53 rfl (lv_at hl 0 rfl) ?_
    refine lv_iconst (v := 0) hx hb dX12_house_54 (by decide) ?_
    refine q_callVi (rest := []) (wr := (wk_7c5ca55a5 cy h1 f0 h3 (u_10.2.1 0))) X hK hT hA h_12 (fun sz => gX12_eats_cc4ff34 l D cy h0 h2 (0 : Int32) (.ref h1) w0 (.ref h3) (0 : Int32) (u_12.2.1 0 0) (u_12.2.1 1 0) p0 (u_12.2.1 2 0) (u_12.2.1 3 0) (0 : Int32) p9 p10 p11 p12 w1 w2 w3 w4 w5 p13 p14 w6 w7 w8 p15 p16 w9 w10 w11 w12 w13 p17 w14 w15 w16 f1 ⟨by decide +kernel, by decide +kernel⟩ ⟨by decide +kernel, by decide +kernel⟩ w12_0 w12_1 ⟨by omega, by omega⟩ (i_rng _) w12_3 (i_rng _) (i_rng _) (i_rng _) (i_rng _) (i_rng _) (i_rng _) (i_rng _) (i_rng _) (i_rng _) (i_rng _) (y12_0) (y12_1) sz) wm_6_75 wm_6_78 wm_1_12 hd_X12_eats wm_6_77 wp_4_6 (ci := 12) (q0 := 0) rfl rfl ⟨Nat.le_of_ble_eq_true rfl, Nat.le_of_ble_eq_true rfl⟩ hl.1 rfl (Nat.le_of_ble_eq_true rfl) dX12_house_55 ⟨Nat.le_of_ble_eq_true rfl, Nat.le_of_ble_eq_true rfl⟩ [2, 3] [0, 1] rfl rfl (by decide) rfl rfl (fun r_14 u_14 H locs w_14 h_14 => ?_)
    clear h_12
    obtain ⟨wr_14, w14_0, w14_1, w14_2, w14_3, y14_0, y14_1, y14_2, y14_3, y14_4, _⟩ := w_14
    have lq_14_1 : (0 : Int32).toInt = 0 := (by decide)
    replace h_14 : qW D _ _ (wk_db69142ea cy h1 f0 h3 (u_10.2.1 0) h0 0 h1 w0 h2 h3 0 (u_14.2.1 0 0) (u_14.2.1 1 0) p0 (u_14.2.1 2 0) (u_14.2.1 3 0) 0 p9 p10 p11 p12 w1 w2 w3 w4 w5 p13 p14 w6 w7 w8 p15 p16 w9 w10 w11 w12 w13 p17 w14 w15 w16 h2 f1) _ _ := h_14
    refine q_jn (pc2 := 66) (fun H locs ls st => ∃ v66_15_0 : Int32, ∃ v66_15_1 : Int32, ((-2147483648) ≤ (v66_15_0).toInt ∧ (v66_15_0).toInt ≤ 2147483647) ∧ ((-2147483648) ≤ (v66_15_1).toInt ∧ (v66_15_1).toInt ≤ 2147483647) ∧ (0 ≤ ((u_14.2.1 0 0) : Int32).toInt ∧ ((u_14.2.1 0 0) : Int32).toInt ≤ ((u_14.2.1 1 0) : Int32).toInt ∧ ((u_14.2.1 1 0) : Int32).toInt ≤ (p0 : Int32).toInt) ∧ (((u_14.2.1 2 0) : Int32).toInt = 26 ∨ ((u_14.2.1 0 0) : Int32).toInt < ((u_14.2.1 1 0) : Int32).toInt) ∧ ((v66_15_0 : Int32).toInt ≠ 0 ∨ ((u_10.2.1 4 0) : Int32).toInt ≤ ((u_14.2.1 0 0) : Int32).toInt) ∧ (HF (v66_15_0 : Int32).toInt (u_10.2.1 0) (((u_10.2.1 4 0) : Int32).toInt).toNat) ∧ (0 ≤ (p0 : Int32).toInt ∧ (p0 : Int32).toInt ≤ 900) ∧ (RR (bM f1) ((p0 : Int32).toInt).toNat (pb (startS (bM f1) ((p0 : Int32).toInt).toNat) (tak 11 (bM f1) ((p0 : Int32).toInt).toNat)) ((u_14.2.1 0 0) : Int32).toInt ((u_14.2.1 1 0) : Int32).toInt ((u_14.2.1 2 0) : Int32).toInt ((u_14.2.1 3 0) : Int32).toInt (v66_15_0 : Int32).toInt (v66_15_1 : Int32).toInt) ∧ (0 ≤ (p0 : Int32).toInt ∧ (p0 : Int32).toInt ≤ (p2 : Int32).toInt) ∧ st = [] ∧ qW D (va_A (wk_04d6d8a2c cy h0 p1 h1 w0 h2 h3 p2 p3 p4 p5 p6 p7 p8 p9 p10 p11 p12 w1 w2 w3 w4 w5 p13 p14 w6 w7 w8 p15 p16 w9 w10 w11 w12 w13 p17 w14 w15 w16 h1 f0 h2 f1 h3 f2) sz) s.heap (wk_db69142ea cy h1 f0 h3 (u_10.2.1 0) h0 0 h1 w0 h2 h3 0 (u_14.2.1 0 0) (u_14.2.1 1 0) p0 (u_14.2.1 2 0) (u_14.2.1 3 0) v66_15_0 v66_15_1 p10 p11 p12 w1 w2 w3 w4 w5 p13 p14 w6 w7 w8 p15 p16 w9 w10 w11 w12 w13 p17 w14 w15 w16 h2 f1) H locs ∧ lv_has ls 3 [(0, .ref h0), (1, .int p0)]) (fun H locs ls st hP => ?_) (fun J_66 => ?_)
    · obtain ⟨v66_15_0, v66_15_1, hv66_15_0, hv66_15_1, x16_0, x17_1, x18_2, x19_3, x20_4, x21_5, x22_6, rfl, h, hl⟩ := hP
      refine lv_aload_n hx hb dX12_house_66 rfl (lv_at hl 0 rfl) ?_
      refine lv_iconst (v := 1) hx hb dX12_house_67 (by decide) ?_
      refine q_callVi (rest := []) (wr := (wk_7c5ca55a5 cy h1 f0 h3 (u_10.2.1 0))) X hK hT hA h (fun sz => gX12_eats_b39a967 l D cy h0 h2 (0 : Int32) (.ref h1) w0 (.ref h3) (0 : Int32) (u_14.2.1 0 0) (u_14.2.1 1 0) p0 (u_14.2.1 2 0) (u_14.2.1 3 0) v66_15_0 v66_15_1 p10 p11 p12 w1 w2 w3 w4 w5 p13 p14 w6 w7 w8 p15 p16 w9 w10 w11 w12 w13 p17 w14 w15 w16 f1 ⟨by decide +kernel, by decide +kernel⟩ ⟨by decide +kernel, by decide +kernel⟩ w14_0 w14_1 ⟨by omega, by omega⟩ (i_rng _) w14_3 (i_rng _) (i_rng _) (i_rng _) (i_rng _) (i_rng _) (i_rng _) (i_rng _) (i_rng _) (i_rng _) (i_rng _) (x16_0) (x17_1) sz) wm_6_75 wm_6_78 wm_1_12 hd_X12_eats wm_6_77 wp_4_6 (ci := 12) (q0 := 0) rfl rfl ⟨Nat.le_of_ble_eq_true rfl, Nat.le_of_ble_eq_true rfl⟩ hl.1 rfl (Nat.le_of_ble_eq_true rfl) dX12_house_68 ⟨Nat.le_of_ble_eq_true rfl, Nat.le_of_ble_eq_true rfl⟩ [2, 3] [0, 1] rfl rfl (by decide) rfl rfl (fun r_23 u_23 H locs w_23 h_23 => ?_)
      clear h
      obtain ⟨wr_23, w23_0, w23_1, w23_2, w23_3, y23_0, y23_1, y23_2, y23_3, y23_4, _⟩ := w_23
      have lq_23_1 : (1 : Int32).toInt = 1 := (by decide)
      replace h_23 : qW D _ _ (wk_db69142ea cy h1 f0 h3 (u_10.2.1 0) h0 0 h1 w0 h2 h3 0 (u_23.2.1 0 0) (u_23.2.1 1 0) p0 (u_23.2.1 2 0) (u_23.2.1 3 0) v66_15_0 v66_15_1 p10 p11 p12 w1 w2 w3 w4 w5 p13 p14 w6 w7 w8 p15 p16 w9 w10 w11 w12 w13 p17 w14 w15 w16 h2 f1) _ _ := h_23
      refine q_jn (pc2 := 79) (fun H locs ls st => ∃ v79_24_0 : Int32, ∃ v79_24_1 : Int32, ((-2147483648) ≤ (v79_24_0).toInt ∧ (v79_24_0).toInt ≤ 2147483647) ∧ ((-2147483648) ≤ (v79_24_1).toInt ∧ (v79_24_1).toInt ≤ 2147483647) ∧ (0 ≤ ((u_23.2.1 0 0) : Int32).toInt ∧ ((u_23.2.1 0 0) : Int32).toInt ≤ ((u_23.2.1 1 0) : Int32).toInt ∧ ((u_23.2.1 1 0) : Int32).toInt ≤ (p0 : Int32).toInt) ∧ (((u_23.2.1 2 0) : Int32).toInt = 26 ∨ ((u_23.2.1 0 0) : Int32).toInt < ((u_23.2.1 1 0) : Int32).toInt) ∧ ((v79_24_0 : Int32).toInt ≠ 0 ∨ ((u_10.2.1 4 0) : Int32).toInt ≤ ((u_23.2.1 0 0) : Int32).toInt) ∧ (HF (v79_24_0 : Int32).toInt (u_10.2.1 0) (((u_10.2.1 4 0) : Int32).toInt).toNat) ∧ (0 ≤ (p0 : Int32).toInt ∧ (p0 : Int32).toInt ≤ 900) ∧ (RR (bM f1) ((p0 : Int32).toInt).toNat (headS (bM f1) ((p0 : Int32).toInt).toNat) ((u_23.2.1 0 0) : Int32).toInt ((u_23.2.1 1 0) : Int32).toInt ((u_23.2.1 2 0) : Int32).toInt ((u_23.2.1 3 0) : Int32).toInt (v79_24_0 : Int32).toInt (v79_24_1 : Int32).toInt) ∧ (0 ≤ (p0 : Int32).toInt ∧ (p0 : Int32).toInt ≤ (p2 : Int32).toInt) ∧ st = [] ∧ qW D (va_A (wk_04d6d8a2c cy h0 p1 h1 w0 h2 h3 p2 p3 p4 p5 p6 p7 p8 p9 p10 p11 p12 w1 w2 w3 w4 w5 p13 p14 w6 w7 w8 p15 p16 w9 w10 w11 w12 w13 p17 w14 w15 w16 h1 f0 h2 f1 h3 f2) sz) s.heap (wk_db69142ea cy h1 f0 h3 (u_10.2.1 0) h0 0 h1 w0 h2 h3 0 (u_23.2.1 0 0) (u_23.2.1 1 0) p0 (u_23.2.1 2 0) (u_23.2.1 3 0) v79_24_0 v79_24_1 p10 p11 p12 w1 w2 w3 w4 w5 p13 p14 w6 w7 w8 p15 p16 w9 w10 w11 w12 w13 p17 w14 w15 w16 h2 f1) H locs ∧ lv_has ls 3 [(0, .ref h0), (1, .int p0)]) (fun H locs ls st hP => ?_) (fun J_79 => ?_)
      · obtain ⟨v79_24_0, v79_24_1, hv79_24_0, hv79_24_1, x25_0, x26_1, x27_2, x28_3, x29_4, x30_5, x31_6, rfl, h, hl⟩ := hP
        refine lv_aload_n hx hb dX12_house_79 rfl (lv_at hl 0 rfl) ?_
        refine q_get X hK h 2 rfl rfl wf_12 4 (by decide) rfl wm_5_174 dX12_house_80 ?_
        refine lv_iconst (v := 1) hx hb dX12_house_83 (by decide) ?_
        refine lv_aload_n hx hb dX12_house_84 rfl (lv_at hl 0 rfl) ?_
        refine lv_iconst (v := 1) hx hb dX12_house_85 (by decide) ?_
        refine lv_iconst (v := 3) hx hb dX12_house_86 (by decide) ?_
        refine q_callVi (rest := [.int 1, .ref h3]) (wr := (wk_7c5ca55a5 cy h1 f0 h3 (u_10.2.1 0))) X hK hT hA h (fun sz => gX12_takes_bfb9e22 l D cy h0 h2 (1 : Int32) (3 : Int32) (0 : Int32) (.ref h1) w0 (.ref h3) (0 : Int32) (u_23.2.1 0 0) (u_23.2.1 1 0) p0 (u_23.2.1 2 0) (u_23.2.1 3 0) v79_24_0 v79_24_1 p10 p11 p12 w1 w2 w3 w4 w5 p13 p14 w6 w7 w8 p15 p16 w9 w10 w11 w12 w13 p17 w14 w15 w16 f1 ⟨by decide +kernel, by decide +kernel⟩ ⟨by decide +kernel, by decide +kernel⟩ ⟨by decide +kernel, by decide +kernel⟩ ⟨by decide +kernel, by decide +kernel⟩ w23_0 w23_1 ⟨by omega, by omega⟩ (i_rng _) w23_3 (i_rng _) (i_rng _) (i_rng _) (i_rng _) (i_rng _) (i_rng _) (i_rng _) (i_rng _) (i_rng _) (i_rng _) (x25_0) (x26_1) sz) wm_6_87 wm_6_90 wm_1_12 hd_X12_takes wm_6_89 wp_4_9 (ci := 12) (q0 := 0) rfl rfl ⟨Nat.le_of_ble_eq_true rfl, Nat.le_of_ble_eq_true rfl⟩ hl.1 rfl (Nat.le_of_ble_eq_true rfl) dX12_house_87 ⟨Nat.le_of_ble_eq_true rfl, Nat.le_of_ble_eq_true rfl⟩ [2, 3] [0, 1] rfl rfl (by decide) rfl rfl (fun r_32 u_32 H locs w_32 h_32 => ?_)
        clear h
        obtain ⟨wr_32, w32_0, w32_1, w32_2, w32_3, w32_4, w32_5, y32_0, y32_1, y32_2, y32_3, y32_4, y32_5, y32_6, _⟩ := w_32
        have lq_32_1 : (1 : Int32).toInt = 1 := (by decide)
        have lq_32_2 : (3 : Int32).toInt = 3 := (by decide)
        replace h_32 : qW D _ _ (wk_db69142ea cy h1 f0 h3 (u_10.2.1 0) h0 0 h1 w0 h2 h3 0 (u_32.2.1 0 0) (u_32.2.1 1 0) p0 (u_32.2.1 2 0) (u_32.2.1 3 0) (u_32.2.1 4 0) (u_32.2.1 5 0) p10 p11 p12 w1 w2 w3 w4 w5 p13 p14 w6 w7 w8 p15 p16 w9 w10 w11 w12 w13 p17 w14 w15 w16 h2 f1) _ _ := h_32
        refine q_iast X hK h_32 1 rfl (q_in (by decide +kernel)) dX12_house_90 (fun H locs h_34 => ?_)
        clear h_32
        replace h_34 : qW D _ _ (wk_db69142ea cy h1 f0 h3 (upd (u_10.2.1 0) (Int32.toNatClampNeg 1) r_32) h0 0 h1 w0 h2 h3 0 (u_32.2.1 0 0) (u_32.2.1 1 0) p0 (u_32.2.1 2 0) (u_32.2.1 3 0) (u_32.2.1 4 0) (u_32.2.1 5 0) p10 p11 p12 w1 w2 w3 w4 w5 p13 p14 w6 w7 w8 p15 p16 w9 w10 w11 w12 w13 p17 w14 w15 w16 h2 f1) _ _ := h_34
        obtain ⟨F_33, eF_33⟩ : ∃ z, (upd (u_10.2.1 0) (Int32.toNatClampNeg 1) r_32) = z := ⟨_, rfl⟩
        have trF_33_0 := (tr_ne eF_33 w10_4 (show (1 : Int32).toInt = 1 by decide) (by omega))
        have trF_33_1 := (tr_eq eF_33 (k := 1) (x := 1) (by decide))
        have trF_33_2 := (tr_ne eF_33 w10_6 (show (1 : Int32).toInt = 1 by decide) (by omega))
        have trF_33_405 := (tr_ne eF_33 w10_7 (show (1 : Int32).toInt = 1 by decide) (by omega))
        rw [eF_33] at h_34
        have hf_35 : HF ((u_32.2.1 4 0) : Int32).toInt F_33 (((u_10.2.1 4 0) : Int32).toInt).toNat := hf_upd (hf_w (w2 := ((u_32.2.1 4 0) : Int32).toInt) x28_3 (by omega)) eF_33 (by decide)
        refine lv_aload_n hx hb dX12_house_91 rfl (lv_at hl 0 rfl) ?_
        refine q_callVv (rest := []) (wr := [(h1, .inl (cy 1, 3918, .inl f0))]) X hK hT hA h_34 (fun sz => gX12_ends_3a5e2d0 l D cy h0 h2 h3 (0 : Int32) (.ref h1) w0 (0 : Int32) (u_32.2.1 0 0) (u_32.2.1 1 0) p0 (u_32.2.1 2 0) (u_32.2.1 3 0) (u_32.2.1 4 0) (u_32.2.1 5 0) p10 p11 p12 w1 w2 w3 w4 w5 p13 p14 w6 w7 w8 p15 p16 w9 w10 w11 w12 w13 p17 w14 w15 w16 f1 F_33 (u_10.2.1 1 0) r_32 (u_10.2.1 3 0) (u_10.2.1 4 0) ⟨by decide +kernel, by decide +kernel⟩ ⟨by decide +kernel, by decide +kernel⟩ w32_0 w32_1 ⟨by omega, by omega⟩ (i_rng _) w32_3 (i_rng _) (i_rng _) (i_rng _) (i_rng _) (i_rng _) (i_rng _) (i_rng _) (i_rng _) (i_rng _) (i_rng _) (bw w10_0 (by decide) (by decide)) (i_rng _) (bw w10_2 (by decide) (by decide)) (bw w10_3 (by decide) (by decide)) trF_33_0 trF_33_1 trF_33_2 trF_33_405 (y32_0) (y32_1) (by (first | (clear y12_1 x17_1 y14_2 y14_4 x18_2 x26_1 y23_2 y23_4 x27_2 y32_1 y32_3 y32_4; omega) | omega)) (hf_w hf_35 (by (first | assumption | (clear y12_1 x17_1 y14_2 y14_4 x18_2 x26_1 y23_2 y23_4 x27_2 y32_1 y32_3 y32_4; omega) | omega))) (by (first | (clear y12_1 x17_1 y14_2 y14_4 x18_2 x26_1 y23_2 y23_4 x27_2 y32_1 y32_3 y32_4; omega) | omega)) sz) wm_6_91 wm_6_94 wm_1_12 hd_X12_ends wm_6_93 wp_4_10 (ci := 12) (q0 := 0) rfl rfl ⟨Nat.le_of_ble_eq_true rfl, Nat.le_of_ble_eq_true rfl⟩ hl.1 rfl (Nat.le_of_ble_eq_true rfl) dX12_house_92 ⟨Nat.le_of_ble_eq_true rfl, Nat.le_of_ble_eq_true rfl⟩ [2, 3, 1] [0] rfl rfl (by decide) rfl rfl (fun u_36 H locs w_36 h_36 => ?_)
        clear h_34
        obtain ⟨w36_0, w36_1, w36_2, w36_3, w36_4, w36_5, w36_6, w36_7, w36_8, w36_9, w36_10, y36_0, y36_1, y36_2, y36_3, y36_4, y36_5, y36_6, y36_7, y36_8, _⟩ := w_36
        replace h_36 : qW D _ _ (wk_dab8c81bb cy h1 f0 h0 0 h1 w0 h2 h3 0 (u_36.2.1 2 0) (u_36.2.1 3 0) p0 (u_36.2.1 4 0) (u_36.2.1 5 0) (u_36.2.1 6 0) (u_36.2.1 7 0) p10 p11 p12 w1 w2 w3 w4 w5 p13 p14 w6 w7 w8 p15 p16 w9 w10 w11 w12 w13 p17 w14 w15 w16 h2 f1 h3 (u_36.2.1 0)) _ _ := h_36
        refine q_wl (fun (q : Int32 × Int32 × Int32 × Int32 × Int32 × Int32 × Int32 × Int32 × Int32 × Int32) H locs ls => match q with | (v95_37_0, v95_37_1, v95_37_2, v95_37_3, v95_37_4, v95_37_5, v95_37_6, v95_37_8, v95_37_9, v95_37_10) => ∃ v95_37_7 : Nat → Int32, (0 ≤ (v95_37_0).toInt ∧ (v95_37_0).toInt ≤ 900) ∧ (0 ≤ (v95_37_1).toInt ∧ (v95_37_1).toInt ≤ 900) ∧ ((-2147483648) ≤ (v95_37_2).toInt ∧ (v95_37_2).toInt ≤ 2147483647) ∧ (0 ≤ (v95_37_3).toInt ∧ (v95_37_3).toInt ≤ 999) ∧ ((-2147483648) ≤ (v95_37_4).toInt ∧ (v95_37_4).toInt ≤ 2147483647) ∧ ((-2147483648) ≤ (v95_37_5).toInt ∧ (v95_37_5).toInt ≤ 2147483647) ∧ ((-2147483648) ≤ (v95_37_6).toInt ∧ (v95_37_6).toInt ≤ 2147483647) ∧ (0 ≤ (v95_37_8).toInt ∧ (v95_37_8).toInt ≤ 901) ∧ (0 ≤ (v95_37_9).toInt ∧ (v95_37_9).toInt ≤ 10) ∧ (0 ≤ (v95_37_10).toInt ∧ (v95_37_10).toInt ≤ 900) ∧ v95_37_7 0 = v95_37_8 ∧ v95_37_7 1 = r_32 ∧ v95_37_7 2 = v95_37_9 ∧ v95_37_7 405 = v95_37_10 ∧ (0 ≤ (v95_37_0 : Int32).toInt ∧ (v95_37_0 : Int32).toInt ≤ (v95_37_1 : Int32).toInt ∧ (v95_37_1 : Int32).toInt ≤ (p0 : Int32).toInt) ∧ ((v95_37_2 : Int32).toInt = 26 ∨ (v95_37_0 : Int32).toInt < (v95_37_1 : Int32).toInt) ∧ ((v95_37_4 : Int32).toInt ≠ 0 ∨ (v95_37_10 : Int32).toInt ≤ (v95_37_0 : Int32).toInt) ∧ (HF (v95_37_4 : Int32).toInt v95_37_7 ((v95_37_10 : Int32).toInt).toNat) ∧ ((v95_37_4 : Int32).toInt ≠ 0 ∨ (0 ≤ (r_32 : Int32).toInt ∧ (r_32 : Int32).toInt ≤ 3)) ∧ (0 ≤ (p0 : Int32).toInt ∧ (p0 : Int32).toInt ≤ 900) ∧ (0 ≤ (p0 : Int32).toInt ∧ (p0 : Int32).toInt ≤ (p2 : Int32).toInt) ∧ (LNR (bM f1) ((p0 : Int32).toInt).toNat (r_32 : Int32).toInt (v95_37_9 : Int32).toInt (v95_37_8 : Int32).toInt (v95_37_0 : Int32).toInt (v95_37_1 : Int32).toInt (v95_37_2 : Int32).toInt (v95_37_3 : Int32).toInt (v95_37_4 : Int32).toInt (v95_37_5 : Int32).toInt) ∧ ((v95_37_4 : Int32).toInt ≠ 0 ∨ (0 ≤ (v95_37_8 : Int32).toInt ∧ (v95_37_8 : Int32).toInt ≤ (v95_37_0 : Int32).toInt)) ∧ qW D (va_A (wk_04d6d8a2c cy h0 p1 h1 w0 h2 h3 p2 p3 p4 p5 p6 p7 p8 p9 p10 p11 p12 w1 w2 w3 w4 w5 p13 p14 w6 w7 w8 p15 p16 w9 w10 w11 w12 w13 p17 w14 w15 w16 h1 f0 h2 f1 h3 f2) sz) s.heap (wk_dab8c81bb cy h1 f0 h0 0 h1 w0 h2 h3 0 v95_37_0 v95_37_1 p0 v95_37_2 v95_37_3 v95_37_4 v95_37_5 p10 p11 v95_37_6 w1 w2 w3 w4 w5 p13 p14 w6 w7 w8 p15 p16 w9 w10 w11 w12 w13 p17 w14 w15 w16 h2 f1 h3 v95_37_7) H locs ∧ lv_has ls 3 [(0, .ref h0), (1, .int p0)]) (fun (q : Int32 × Int32 × Int32 × Int32 × Int32 × Int32 × Int32 × Int32 × Int32 × Int32) => match q with | (v95_37_0, v95_37_1, v95_37_2, v95_37_3, v95_37_4, v95_37_5, v95_37_6, v95_37_8, v95_37_9, v95_37_10) => hmu (v95_37_0).toInt (v95_37_4).toInt) (fun q_95 ih_95 H locs ls hP => ?_) ((u_36.2.1 2 0), (u_36.2.1 3 0), (u_36.2.1 4 0), (u_36.2.1 5 0), (u_36.2.1 6 0), (u_36.2.1 7 0), p12, (u_36.2.1 1 0), (u_10.2.1 3 0), (u_10.2.1 4 0)) ⟨(u_36.2.1 0), w36_1, w36_2, w36_3, w36_4, w36_5, w36_6, hp12, ⟨by omega, by omega⟩, (bw w10_2 (by decide) (by decide)), (bw w10_3 (by decide) (by decide)), w36_7, w36_8, w36_9, w36_10, (y36_0), (y36_1), (y36_4), (hf_w y36_5 (by (first | assumption | (clear y12_1 x17_1 y14_2 y14_4 x18_2 x26_1 y23_2 y23_4 x27_2 y32_1 y32_3 y32_4 y36_1 y36_3 y36_4 y36_6; omega) | omega))), (by (first | (clear y12_1 x17_1 y14_2 y14_4 x18_2 x26_1 y23_2 y23_4 x27_2 y32_1 y32_3 y32_4 y36_1 y36_3 y36_4 y36_6; omega) | omega)), (x29_4), (x31_6), (lnr_n (lnr_1 x30_5 (smr_nmq y32_5 (by decide) (by decide)) y32_6 rfl y36_7) rfl (by (first | assumption | (clear y12_1 x17_1 y14_2 y14_4 x18_2 x26_1 y23_2 y23_4 x27_2 y32_1 y32_3 y32_4 y36_1 y36_3 y36_4 y36_6; omega) | omega)) (by (first | assumption | (clear y12_1 x17_1 y14_2 y14_4 x18_2 x26_1 y23_2 y23_4 x27_2 y32_1 y32_3 y32_4 y36_1 y36_3 y36_4 y36_6; omega) | omega))), (by (first | (clear y12_1 x17_1 y14_2 y14_4 x18_2 x26_1 y23_2 y23_4 x27_2 y32_1 y32_3 y32_4 y36_1 y36_3 y36_4 y36_6; omega) | omega)), h_36, (lv_sub hl [0, 1] rfl)⟩
        obtain ⟨v95_37_0, v95_37_1, v95_37_2, v95_37_3, v95_37_4, v95_37_5, v95_37_6, v95_37_8, v95_37_9, v95_37_10⟩ := q_95
        obtain ⟨v95_37_7, hv95_37_0, hv95_37_1, hv95_37_2, hv95_37_3, hv95_37_4, hv95_37_5, hv95_37_6, hv95_37_8, hv95_37_9, hv95_37_10, trv95_37_7_0, trv95_37_7_1, trv95_37_7_2, trv95_37_7_405, x38_0, x39_1, x40_2, x41_3, x42_4, x43_5, x44_6, x45_7, x46_8, h, hl⟩ := hP
        try clear c_5
        try clear lq_14_1
        try clear lq_23_1
        try clear lq_32_1
        try clear lq_32_2
        try clear lq_4_1
        try clear y10_0
        try clear y12_0
        try clear y12_1
        try clear y12_2
        try clear y12_3
        try clear y14_0
        try clear y14_1
        try clear y14_2
        try clear y14_3
        try clear y14_4
        try clear y23_0
        try clear y23_1
        try clear y23_2
        try clear y23_3
        try clear y23_4
        try clear y32_0
        try clear y32_1
        try clear y32_2
        try clear y32_3
        try clear y32_4
        try clear y32_5
        try clear y32_6
        try clear y36_0
        try clear y36_1
        try clear y36_2
        try clear y36_3
        try clear y36_4
        try clear y36_5
        try clear y36_6
        try clear y36_7
        try clear y36_8
        try clear y4_0
        refine lv_aload_n hx hb dX12_house_95 rfl (lv_at hl 0 rfl) ?_
        refine q_get X hK h 1 rfl rfl wf_12 11 (by decide) rfl wm_5_181 dX12_house_96 ?_
        refine q_jn (pc2 := 122) (fun H locs ls st => (0 ≤ (p0 : Int32).toInt ∧ (p0 : Int32).toInt ≤ (p2 : Int32).toInt) ∧ (LNR (bM f1) ((p0 : Int32).toInt).toNat (r_32 : Int32).toInt (v95_37_9 : Int32).toInt (v95_37_8 : Int32).toInt (v95_37_0 : Int32).toInt (v95_37_1 : Int32).toInt (v95_37_2 : Int32).toInt (v95_37_3 : Int32).toInt (v95_37_4 : Int32).toInt (v95_37_5 : Int32).toInt) ∧ ((v95_37_4 : Int32).toInt ≠ 0 ∨ (v95_37_2 : Int32).toInt = 26) ∧ st = [] ∧ qW D (va_A (wk_04d6d8a2c cy h0 p1 h1 w0 h2 h3 p2 p3 p4 p5 p6 p7 p8 p9 p10 p11 p12 w1 w2 w3 w4 w5 p13 p14 w6 w7 w8 p15 p16 w9 w10 w11 w12 w13 p17 w14 w15 w16 h1 f0 h2 f1 h3 f2) sz) s.heap (wk_dab8c81bb cy h1 f0 h0 0 h1 w0 h2 h3 0 v95_37_0 v95_37_1 p0 v95_37_2 v95_37_3 v95_37_4 v95_37_5 p10 p11 v95_37_6 w1 w2 w3 w4 w5 p13 p14 w6 w7 w8 p15 p16 w9 w10 w11 w12 w13 p17 w14 w15 w16 h2 f1 h3 v95_37_7) H locs ∧ lv_has ls 3 [(0, .ref h0), (1, .int p0)]) (fun H locs ls st hP => ?_) (fun J_122 => ?_)
        · obtain ⟨x48_0, x49_1, x50_2, rfl, h, hl⟩ := hP
          refine lv_aload_n hx hb dX12_house_122 rfl (lv_at hl 0 rfl) ?_
          refine lv_aload_n hx hb dX12_house_123 rfl (lv_at hl 0 rfl) ?_
          refine q_get X hK h 1 rfl rfl wf_12 11 (by decide) rfl wm_5_181 dX12_house_124 ?_
          refine q_put (v := .int v95_37_4) X hK h 1 rfl rfl wf_12 tyX12 tyX12_ok nmX12 13 (by decide) wm_5_183 rfl rfl rfl (Nat.le_of_ble_eq_true rfl) dX12_house_127 (fun H locs h_51 => ?_)
          clear h
          replace h_51 : qW D _ _ (wk_dab8c81bb cy h1 f0 h0 0 h1 w0 h2 h3 0 v95_37_0 v95_37_1 p0 v95_37_2 v95_37_3 v95_37_4 v95_37_5 v95_37_4 p11 v95_37_6 w1 w2 w3 w4 w5 p13 p14 w6 w7 w8 p15 p16 w9 w10 w11 w12 w13 p17 w14 w15 w16 h2 f1 h3 v95_37_7) _ _ := h_51
          refine lv_aload_n hx hb dX12_house_130 rfl (lv_at hl 0 rfl) ?_
          refine lv_aload_n hx hb dX12_house_131 rfl (lv_at hl 0 rfl) ?_
          refine q_get X hK h_51 1 rfl rfl wf_12 11 (by decide) rfl wm_5_181 dX12_house_132 ?_
          refine lv_if_ne (tgt := 142) hx hb dX12_house_135 (by decide) (fun c_52 => ?_) (fun c_52 => ?_)
          · replace c_52 := i_ne (x := v95_37_4) (y := 0) rfl (show (0 : Int32).toInt = 0 by decide) c_52
            refine lv_aload_n hx hb dX12_house_142 rfl (lv_at hl 0 rfl) ?_
            refine q_get X hK h_51 1 rfl rfl wf_12 12 (by decide) rfl wm_5_182 dX12_house_143 ?_
            refine q_put (v := .int v95_37_5) X hK h_51 1 rfl rfl wf_12 tyX12 tyX12_ok nmX12 14 (by decide) wm_5_184 rfl rfl rfl (Nat.le_of_ble_eq_true rfl) dX12_house_146 (fun H locs h_53 => ?_)
            clear h_51
            replace h_53 : qW D _ _ (wk_dab8c81bb cy h1 f0 h0 0 h1 w0 h2 h3 0 v95_37_0 v95_37_1 p0 v95_37_2 v95_37_3 v95_37_4 v95_37_5 v95_37_4 v95_37_5 v95_37_6 w1 w2 w3 w4 w5 p13 p14 w6 w7 w8 p15 p16 w9 w10 w11 w12 w13 p17 w14 w15 w16 h2 f1 h3 v95_37_7) _ _ := h_53
            have pf_54 := (show PFR (bM f1) ((p0 : Int32).toInt).toNat (v95_37_4 : Int32).toInt (v95_37_5 : Int32).toInt (v95_37_8 : Int32).toInt from pfr_r x49_1 (by (first | assumption | (clear x17_1 x18_2 x26_1 x27_2 x39_1 x40_2 x42_4 x46_8 x50_2; omega) | omega)) rfl (by first | exact Or.inl ⟨(by (first | assumption | (clear x17_1 x18_2 x26_1 x27_2 x39_1 x40_2 x42_4 x46_8 x50_2; omega) | omega)), by decide⟩ | exact Or.inr ⟨(by (first | assumption | (clear x17_1 x18_2 x26_1 x27_2 x39_1 x40_2 x42_4 x46_8 x50_2; omega) | omega)), rfl⟩))
            refine lv_aload_n hx hb dX12_house_149 rfl (lv_at hl 0 rfl) ?_
            refine q_get X hK h_53 1 rfl rfl wf_12 11 (by decide) rfl wm_5_181 dX12_house_150 ?_
            refine lv_if_eq (tgt := 164) hx hb dX12_house_153 (by decide) (fun c_55 => ?_) (fun c_55 => ?_)
            · replace c_55 := i_eq (x := v95_37_4) (y := 0) rfl (show (0 : Int32).toInt = 0 by decide) c_55
              refine lv_iconst (v := 0) hx hb dX12_house_164 (by decide) ?_
              refine lv_istore_n (lv' := [(2, .int 0), (0, .ref h0), (1, .int p0)]) hx hb dX12_house_165 rfl hl (by decide) rfl (fun ls_56 hl_56 => ?_)
              clear hl
              refine q_wl (fun (v166_57_0 : Int32) H locs ls => ∃ v166_57_1 : Nat → Int32, (0 ≤ (v166_57_0).toInt ∧ (v166_57_0).toInt ≤ 1306) ∧ (CPY v166_57_1 f0 0 v95_37_7 0 ((v166_57_0 : Int32).toInt).toNat) ∧ (HF (v95_37_4 : Int32).toInt v95_37_7 ((v95_37_10 : Int32).toInt).toNat) ∧ ((v95_37_4 : Int32).toInt = 0) ∧ ((v95_37_4 : Int32).toInt ≠ 0 ∨ (0 ≤ (r_32 : Int32).toInt ∧ (r_32 : Int32).toInt ≤ 3)) ∧ (0 ≤ (p0 : Int32).toInt ∧ (p0 : Int32).toInt ≤ 900) ∧ (0 ≤ (p0 : Int32).toInt ∧ (p0 : Int32).toInt ≤ (p2 : Int32).toInt) ∧ (PFR (bM f1) ((p0 : Int32).toInt).toNat (v95_37_4 : Int32).toInt (v95_37_5 : Int32).toInt (v95_37_8 : Int32).toInt) ∧ ((v95_37_4 : Int32).toInt = 0) ∧ qW D (va_A (wk_04d6d8a2c cy h0 p1 h1 w0 h2 h3 p2 p3 p4 p5 p6 p7 p8 p9 p10 p11 p12 w1 w2 w3 w4 w5 p13 p14 w6 w7 w8 p15 p16 w9 w10 w11 w12 w13 p17 w14 w15 w16 h1 f0 h2 f1 h3 f2) sz) s.heap (wk_dab8c81bb cy h1 v166_57_1 h0 0 h1 w0 h2 h3 0 v95_37_0 v95_37_1 p0 v95_37_2 v95_37_3 v95_37_4 v95_37_5 v95_37_4 v95_37_5 v95_37_6 w1 w2 w3 w4 w5 p13 p14 w6 w7 w8 p15 p16 w9 w10 w11 w12 w13 p17 w14 w15 w16 h2 f1 h3 v95_37_7) H locs ∧ lv_has ls 3 [(0, .ref h0), (1, .int p0), (2, .int v166_57_0)]) (fun (v166_57_0 : Int32) => (1307 - (v166_57_0).toInt).toNat) (fun q_166 ih_166 H locs ls hP => ?_) 0 ⟨f0, ⟨by decide +kernel, by decide +kernel⟩, (cp_0 (by decide)), (hf_w x41_3 (by (first | assumption | (clear x17_1 x18_2 x26_1 x27_2 x39_1 x40_2 x42_4 x46_8 x50_2; omega) | omega))), (by (first | (clear x17_1 x18_2 x26_1 x27_2 x39_1 x40_2 x42_4 x46_8 x50_2; omega) | omega)), (x42_4), (x43_5), (x48_0), (pf_54), (by (first | (clear x17_1 x18_2 x26_1 x27_2 x39_1 x40_2 x42_4 x46_8 x50_2; omega) | omega)), h_53, (lv_sub hl_56 [1, 2, 0] rfl)⟩
              obtain ⟨v166_57_0, rfl⟩ : ∃ z, z = q_166 := ⟨_, rfl⟩
              obtain ⟨v166_57_1, hv166_57_0, x58_0, x59_1, x60_2, x61_3, x62_4, x63_5, x64_6, x65_7, h, hl⟩ := hP
              try clear c_5
              try clear c_52
              try clear c_55
              try clear lq_14_1
              try clear lq_23_1
              try clear lq_32_1
              try clear lq_32_2
              try clear lq_4_1
              try clear y10_0
              try clear y12_0
              try clear y12_1
              try clear y12_2
              try clear y12_3
              try clear y14_0
              try clear y14_1
              try clear y14_2
              try clear y14_3
              try clear y14_4
              try clear y23_0
              try clear y23_1
              try clear y23_2
              try clear y23_3
              try clear y23_4
              try clear y32_0
              try clear y32_1
              try clear y32_2
              try clear y32_3
              try clear y32_4
              try clear y32_5
              try clear y32_6
              try clear y36_0
              try clear y36_1
              try clear y36_2
              try clear y36_3
              try clear y36_4
              try clear y36_5
              try clear y36_6
              try clear y36_7
              try clear y36_8
              try clear y4_0
              refine lv_iload_n hx hb dX12_house_166 rfl (lv_at hl 2 rfl) ?_
              refine lv_sipush (v := 1306) hx hb dX12_house_167 (by decide) ?_
              refine lv_icmp_ge (tgt := 191) hx hb dX12_house_170 (by decide) (fun c_66 => ?_) (fun c_66 => ?_)
              · replace c_66 := i_le (x := 1306) (y := v166_57_0) (show (1306 : Int32).toInt = 1306 by decide) rfl c_66
                have cx_67 := al_house x58_0 (by omega) rf0 x59_1 (by omega) trv95_37_7_1 trv95_37_7_2 (by omega) (by omega) (by omega)
                obtain ⟨z_68, ez_68, hz_68⟩ := al_N84 cx_67
                refine lv_aload_n hx hb dX12_house_191 rfl (lv_at hl 0 rfl) ?_
                refine q_get X hK h 1 rfl rfl wf_12 1 (by decide) rfl wm_5_171 dX12_house_192 ?_
                refine lv_iconst (v := 0) hx hb dX12_house_195 (by decide) ?_
                refine q_iald X hK h 0 rfl (q_in (by decide +kernel)) dX12_house_196 ?_
                obtain ⟨z_69, ez_69, hz_69⟩ := e_any (v166_57_1 0)
                refine q_c z_69 ez_69 ?_
                exact q_iret X hr hlk hK h rfl (fun _ => 0, (vcons v166_57_1 (vcons (fun _ => z_68) (vcons (fun _ => 0) (vcons (fun _ => 0) (vcons (fun _ => v95_37_0) (vcons (fun _ => v95_37_1) (vcons (fun _ => p0) (vcons (fun _ => v95_37_2) (vcons (fun _ => v95_37_3) (vcons (fun _ => v95_37_4) (vcons (fun _ => v95_37_5) (vcons (fun _ => v95_37_4) (vcons (fun _ => v95_37_5) (vcons (fun _ => v95_37_6) (vcons v95_37_7 (vcons (fun _ => v95_37_8) (vcons (fun _ => r_32) (vcons (fun _ => v95_37_9) (vcons (fun _ => v95_37_10) (fun _ => (fun _ => 0))))))))))))))))))))), fun _ _ => 0) ⟨⟨by omega, by omega⟩, cx_67, (⟨by omega, by omega⟩ : 0 ≤ (z_68 : Int32).toInt ∧ (z_68 : Int32).toInt ≤ 10), (⟨by decide +kernel, by decide +kernel⟩ : 0 ≤ (0 : Int32).toInt ∧ (0 : Int32).toInt ≤ 0), (⟨by decide +kernel, by decide +kernel⟩ : 0 ≤ (0 : Int32).toInt ∧ (0 : Int32).toInt ≤ 900), hv95_37_0, hv95_37_1, (⟨by omega, by omega⟩ : 0 ≤ (p0 : Int32).toInt ∧ (p0 : Int32).toInt ≤ 900), hv95_37_2, hv95_37_3, hv95_37_4, hv95_37_5, hv95_37_4, hv95_37_5, hv95_37_6, (bw hv95_37_8 (by decide) (by decide)), (bw wr_32 (by decide) (by decide)), hv95_37_9, hv95_37_10, ez_68, trv95_37_7_0, trv95_37_7_1, trv95_37_7_2, trv95_37_7_405, (show (((p0 : Int32).toInt < 0 ∨ (p2 : Int32).toInt < (p0 : Int32).toInt) ∧ (z_69 : Int32).toInt = -3 ∧ (0 : Int32).toInt = (p2 : Int32).toInt ∧ (v95_37_4 : Int32).toInt = (p10 : Int32).toInt ∧ (v95_37_5 : Int32).toInt = (p11 : Int32).toInt) ∨ (0 ≤ (p0 : Int32).toInt ∧ (p0 : Int32).toInt ≤ (p2 : Int32).toInt ∧ (0 : Int32).toInt = 0 ∧ HSE (z_69 : Int32).toInt (v95_37_4 : Int32).toInt (v95_37_5 : Int32).toInt (PF (bM f1) ((p0 : Int32).toInt).toNat)) from Or.inr ⟨(by (first | assumption | (clear x17_1 x18_2 x26_1 x27_2 x39_1 x40_2 x61_3 x46_8 x50_2; omega) | omega)), (by (first | assumption | (clear x17_1 x18_2 x26_1 x27_2 x39_1 x40_2 x61_3 x46_8 x50_2; omega) | omega)), by decide, hse_l x64_6 (by (first | assumption | (clear x17_1 x18_2 x26_1 x27_2 x39_1 x40_2 x61_3 x46_8 x50_2; omega) | omega)) (congrArg Int32.toInt (cp_at x58_0 (by (first | assumption | (clear x17_1 x18_2 x26_1 x27_2 x39_1 x40_2 x61_3 x46_8 x50_2; omega) | omega)) ez_69 trv95_37_7_0))⟩), trivial⟩ [1, 0, 2, 3] rfl rfl dX12_house_197 (Nat.le_of_ble_eq_true rfl) (Nat.le_of_ble_eq_true rfl)
              · replace c_66 := i_nle (x := 1306) (y := v166_57_0) (show (1306 : Int32).toInt = 1306 by decide) rfl c_66
                refine lv_aload_n hx hb dX12_house_173 rfl (lv_at hl 0 rfl) ?_
                refine q_get X hK h 1 rfl rfl wf_12 1 (by decide) rfl wm_5_171 dX12_house_174 ?_
                refine lv_iload_n hx hb dX12_house_177 rfl (lv_at hl 2 rfl) ?_
                refine lv_aload_n hx hb dX12_house_178 rfl (lv_at hl 0 rfl) ?_
                refine q_get X hK h 1 rfl rfl wf_12 4 (by decide) rfl wm_5_174 dX12_house_179 ?_
                refine lv_iload_n hx hb dX12_house_182 rfl (lv_at hl 2 rfl) ?_
                refine q_iald X hK h 3 rfl (i_in rfl (by omega) (by omega)) dX12_house_183 ?_
                obtain ⟨z_70, ez_70, hz_70⟩ := e_any (v95_37_7 v166_57_0.toNatClampNeg)
                refine q_c z_70 ez_70 ?_
                refine q_iast X hK h 0 rfl (i_in rfl (by omega) (by omega)) dX12_house_184 (fun H locs h_72 => ?_)
                clear h
                replace h_72 : qW D _ _ (wk_dab8c81bb cy h1 (upd v166_57_1 (Int32.toNatClampNeg v166_57_0) z_70) h0 0 h1 w0 h2 h3 0 v95_37_0 v95_37_1 p0 v95_37_2 v95_37_3 v95_37_4 v95_37_5 v95_37_4 v95_37_5 v95_37_6 w1 w2 w3 w4 w5 p13 p14 w6 w7 w8 p15 p16 w9 w10 w11 w12 w13 p17 w14 w15 w16 h2 f1 h3 v95_37_7) _ _ := h_72
                obtain ⟨F_71, eF_71⟩ : ∃ z, (upd v166_57_1 (Int32.toNatClampNeg v166_57_0) z_70) = z := ⟨_, rfl⟩
                rw [eF_71] at h_72
                have cs_73 := cp_s x58_0 ez_70 eF_71 (by omega) (by omega)
                obtain ⟨z_74, ez_74, hz_74⟩ := e_add (x := v166_57_0) (y := Int32.ofInt 1) rfl (b := 1) (by decide) (by omega) (by omega)
                refine lv_iinc (v := z_74) (lv' := [(2, .int z_74), (0, .ref h0), (1, .int p0)]) hx hb dX12_house_185 hl (k := 2) rfl ez_74 (by decide) rfl (fun ls_74 hl_74 => ?_)
                clear hl
                refine lv_goto (tgt := 166) hx hb dX12_house_188 (by decide) ?_
                exact ih_166 z_74 (by show (1307 - (z_74).toInt).toNat < (1307 - (v166_57_0).toInt).toNat; omega) _ _ _ ⟨F_71, ⟨by omega, by omega⟩, (cp_n cs_73 (by (first | assumption | (clear x17_1 x18_2 x26_1 x27_2 x39_1 x40_2 x61_3 x46_8 x50_2; omega) | omega))), (hf_w x59_1 (by (first | assumption | (clear x17_1 x18_2 x26_1 x27_2 x39_1 x40_2 x61_3 x46_8 x50_2; omega) | omega))), (x65_7), (x61_3), (x62_4), (x63_5), (x64_6), (x65_7), h_72, (lv_sub hl_74 [1, 2, 0] rfl)⟩
            · replace c_55 := i_ne (x := v95_37_4) (y := 0) rfl (show (0 : Int32).toInt = 0 by decide) c_55
              refine lv_bipush (v := (-30)) hx hb dX12_house_156 (by decide) ?_
              refine lv_aload_n hx hb dX12_house_158 rfl (lv_at hl 0 rfl) ?_
              refine q_get X hK h_53 1 rfl rfl wf_12 11 (by decide) rfl wm_5_181 dX12_house_159 ?_
              have fb_75 := pfr_rng pf_54
              refine lv_isub hx hb dX12_house_162 ?_
              obtain ⟨z_76, ez_76, hz_76⟩ := e_sub (x := (-30)) (y := v95_37_4) (show ((-30) : Int32).toInt = -30 by decide) rfl (by omega) (by omega)
              refine q_c z_76 ez_76 ?_
              clear ez_76
              exact q_iret X hr hlk hK h_53 rfl (fun _ => 0, (vcons f0 (vcons (fun _ => p18) (vcons (fun _ => 0) (vcons (fun _ => 0) (vcons (fun _ => v95_37_0) (vcons (fun _ => v95_37_1) (vcons (fun _ => p0) (vcons (fun _ => v95_37_2) (vcons (fun _ => v95_37_3) (vcons (fun _ => v95_37_4) (vcons (fun _ => v95_37_5) (vcons (fun _ => v95_37_4) (vcons (fun _ => v95_37_5) (vcons (fun _ => v95_37_6) (vcons v95_37_7 (vcons (fun _ => v95_37_8) (vcons (fun _ => r_32) (vcons (fun _ => v95_37_9) (vcons (fun _ => v95_37_10) (fun _ => (fun _ => 0))))))))))))))))))))), fun _ _ => 0) ⟨⟨by omega, by omega⟩, rf0, hp18, (⟨by decide +kernel, by decide +kernel⟩ : 0 ≤ (0 : Int32).toInt ∧ (0 : Int32).toInt ≤ 0), (⟨by decide +kernel, by decide +kernel⟩ : 0 ≤ (0 : Int32).toInt ∧ (0 : Int32).toInt ≤ 900), hv95_37_0, hv95_37_1, (⟨by omega, by omega⟩ : 0 ≤ (p0 : Int32).toInt ∧ (p0 : Int32).toInt ≤ 900), hv95_37_2, hv95_37_3, hv95_37_4, hv95_37_5, hv95_37_4, hv95_37_5, hv95_37_6, (bw hv95_37_8 (by decide) (by decide)), (bw wr_32 (by decide) (by decide)), hv95_37_9, hv95_37_10, htf0_84, trv95_37_7_0, trv95_37_7_1, trv95_37_7_2, trv95_37_7_405, (show (((p0 : Int32).toInt < 0 ∨ (p2 : Int32).toInt < (p0 : Int32).toInt) ∧ (z_76 : Int32).toInt = -3 ∧ (0 : Int32).toInt = (p2 : Int32).toInt ∧ (v95_37_4 : Int32).toInt = (p10 : Int32).toInt ∧ (v95_37_5 : Int32).toInt = (p11 : Int32).toInt) ∨ (0 ≤ (p0 : Int32).toInt ∧ (p0 : Int32).toInt ≤ (p2 : Int32).toInt ∧ (0 : Int32).toInt = 0 ∧ HSE (z_76 : Int32).toInt (v95_37_4 : Int32).toInt (v95_37_5 : Int32).toInt (PF (bM f1) ((p0 : Int32).toInt).toNat)) from Or.inr ⟨(by (first | assumption | (clear x17_1 x18_2 x26_1 x27_2 x39_1 x40_2 x42_4 x46_8 x50_2; omega) | omega)), (by (first | assumption | (clear x17_1 x18_2 x26_1 x27_2 x39_1 x40_2 x42_4 x46_8 x50_2; omega) | omega)), by decide, hse_f pf_54 (by (first | assumption | (clear x17_1 x18_2 x26_1 x27_2 x39_1 x40_2 x42_4 x46_8 x50_2; omega) | omega)) (by (first | assumption | (clear x17_1 x18_2 x26_1 x27_2 x39_1 x40_2 x42_4 x46_8 x50_2; omega) | omega))⟩), trivial⟩ [1, 0, 2, 3] rfl rfl dX12_house_163 (Nat.le_of_ble_eq_true rfl) (Nat.le_of_ble_eq_true rfl)
          · replace c_52 := i_eq (x := v95_37_4) (y := 0) rfl (show (0 : Int32).toInt = 0 by decide) c_52
            refine lv_iconst (v := (-1)) hx hb dX12_house_138 (by decide) ?_
            refine lv_goto (tgt := 146) hx hb dX12_house_139 (by decide) ?_
            refine q_put (v := .int (-1)) X hK h_51 1 rfl rfl wf_12 tyX12 tyX12_ok nmX12 14 (by decide) wm_5_184 rfl rfl rfl (Nat.le_of_ble_eq_true rfl) dX12_house_146 (fun H locs h_77 => ?_)
            clear h_51
            replace h_77 : qW D _ _ (wk_dab8c81bb cy h1 f0 h0 0 h1 w0 h2 h3 0 v95_37_0 v95_37_1 p0 v95_37_2 v95_37_3 v95_37_4 v95_37_5 v95_37_4 (-1) v95_37_6 w1 w2 w3 w4 w5 p13 p14 w6 w7 w8 p15 p16 w9 w10 w11 w12 w13 p17 w14 w15 w16 h2 f1 h3 v95_37_7) _ _ := h_77
            have pf_78 := (show PFR (bM f1) ((p0 : Int32).toInt).toNat (v95_37_4 : Int32).toInt ((-1) : Int32).toInt (v95_37_8 : Int32).toInt from pfr_r x49_1 (by (first | assumption | (clear x17_1 x18_2 x26_1 x27_2 x39_1 x40_2 x42_4 x46_8 x50_2; omega) | omega)) rfl (by first | exact Or.inl ⟨(by (first | assumption | (clear x17_1 x18_2 x26_1 x27_2 x39_1 x40_2 x42_4 x46_8 x50_2; omega) | omega)), by decide⟩ | exact Or.inr ⟨(by (first | assumption | (clear x17_1 x18_2 x26_1 x27_2 x39_1 x40_2 x42_4 x46_8 x50_2; omega) | omega)), rfl⟩))
            refine lv_aload_n hx hb dX12_house_149 rfl (lv_at hl 0 rfl) ?_
            refine q_get X hK h_77 1 rfl rfl wf_12 11 (by decide) rfl wm_5_181 dX12_house_150 ?_
            refine lv_if_eq (tgt := 164) hx hb dX12_house_153 (by decide) (fun c_79 => ?_) (fun c_79 => ?_)
            · replace c_79 := i_eq (x := v95_37_4) (y := 0) rfl (show (0 : Int32).toInt = 0 by decide) c_79
              refine lv_iconst (v := 0) hx hb dX12_house_164 (by decide) ?_
              refine lv_istore_n (lv' := [(2, .int 0), (0, .ref h0), (1, .int p0)]) hx hb dX12_house_165 rfl hl (by decide) rfl (fun ls_80 hl_80 => ?_)
              clear hl
              refine q_wl (fun (v166_81_0 : Int32) H locs ls => ∃ v166_81_1 : Nat → Int32, (0 ≤ (v166_81_0).toInt ∧ (v166_81_0).toInt ≤ 1306) ∧ (CPY v166_81_1 f0 0 v95_37_7 0 ((v166_81_0 : Int32).toInt).toNat) ∧ (HF (v95_37_4 : Int32).toInt v95_37_7 ((v95_37_10 : Int32).toInt).toNat) ∧ ((v95_37_4 : Int32).toInt = 0) ∧ ((v95_37_4 : Int32).toInt ≠ 0 ∨ (0 ≤ (r_32 : Int32).toInt ∧ (r_32 : Int32).toInt ≤ 3)) ∧ (0 ≤ (p0 : Int32).toInt ∧ (p0 : Int32).toInt ≤ 900) ∧ (0 ≤ (p0 : Int32).toInt ∧ (p0 : Int32).toInt ≤ (p2 : Int32).toInt) ∧ (PFR (bM f1) ((p0 : Int32).toInt).toNat (v95_37_4 : Int32).toInt ((-1) : Int32).toInt (v95_37_8 : Int32).toInt) ∧ ((v95_37_4 : Int32).toInt = 0) ∧ qW D (va_A (wk_04d6d8a2c cy h0 p1 h1 w0 h2 h3 p2 p3 p4 p5 p6 p7 p8 p9 p10 p11 p12 w1 w2 w3 w4 w5 p13 p14 w6 w7 w8 p15 p16 w9 w10 w11 w12 w13 p17 w14 w15 w16 h1 f0 h2 f1 h3 f2) sz) s.heap (wk_dab8c81bb cy h1 v166_81_1 h0 0 h1 w0 h2 h3 0 v95_37_0 v95_37_1 p0 v95_37_2 v95_37_3 v95_37_4 v95_37_5 v95_37_4 (-1) v95_37_6 w1 w2 w3 w4 w5 p13 p14 w6 w7 w8 p15 p16 w9 w10 w11 w12 w13 p17 w14 w15 w16 h2 f1 h3 v95_37_7) H locs ∧ lv_has ls 3 [(0, .ref h0), (1, .int p0), (2, .int v166_81_0)]) (fun (v166_81_0 : Int32) => (1307 - (v166_81_0).toInt).toNat) (fun q_166 ih_166 H locs ls hP => ?_) 0 ⟨f0, ⟨by decide +kernel, by decide +kernel⟩, (cp_0 (by decide)), (hf_w x41_3 (by (first | assumption | (clear x17_1 x18_2 x26_1 x27_2 x39_1 x40_2 x42_4 x46_8 x50_2; omega) | omega))), (by (first | (clear x17_1 x18_2 x26_1 x27_2 x39_1 x40_2 x42_4 x46_8 x50_2; omega) | omega)), (x42_4), (x43_5), (x48_0), (pf_78), (by (first | (clear x17_1 x18_2 x26_1 x27_2 x39_1 x40_2 x42_4 x46_8 x50_2; omega) | omega)), h_77, (lv_sub hl_80 [1, 2, 0] rfl)⟩
              obtain ⟨v166_81_0, rfl⟩ : ∃ z, z = q_166 := ⟨_, rfl⟩
              obtain ⟨v166_81_1, hv166_81_0, x82_0, x83_1, x84_2, x85_3, x86_4, x87_5, x88_6, x89_7, h, hl⟩ := hP
              try clear c_5
              try clear c_52
              try clear c_55
              try clear c_66
              try clear c_79
              try clear lq_14_1
              try clear lq_23_1
              try clear lq_32_1
              try clear lq_32_2
              try clear lq_4_1
              try clear y10_0
              try clear y12_0
              try clear y12_1
              try clear y12_2
              try clear y12_3
              try clear y14_0
              try clear y14_1
              try clear y14_2
              try clear y14_3
              try clear y14_4
              try clear y23_0
              try clear y23_1
              try clear y23_2
              try clear y23_3
              try clear y23_4
              try clear y32_0
              try clear y32_1
              try clear y32_2
              try clear y32_3
              try clear y32_4
              try clear y32_5
              try clear y32_6
              try clear y36_0
              try clear y36_1
              try clear y36_2
              try clear y36_3
              try clear y36_4
              try clear y36_5
              try clear y36_6
              try clear y36_7
              try clear y36_8
              try clear y4_0
              refine lv_iload_n hx hb dX12_house_166 rfl (lv_at hl 2 rfl) ?_
              refine lv_sipush (v := 1306) hx hb dX12_house_167 (by decide) ?_
              refine lv_icmp_ge (tgt := 191) hx hb dX12_house_170 (by decide) (fun c_90 => ?_) (fun c_90 => ?_)
              · replace c_90 := i_le (x := 1306) (y := v166_81_0) (show (1306 : Int32).toInt = 1306 by decide) rfl c_90
                have cx_91 := al_house x82_0 (by omega) rf0 x83_1 (by omega) trv95_37_7_1 trv95_37_7_2 (by omega) (by omega) (by omega)
                obtain ⟨z_92, ez_92, hz_92⟩ := al_N84 cx_91
                refine lv_aload_n hx hb dX12_house_191 rfl (lv_at hl 0 rfl) ?_
                refine q_get X hK h 1 rfl rfl wf_12 1 (by decide) rfl wm_5_171 dX12_house_192 ?_
                refine lv_iconst (v := 0) hx hb dX12_house_195 (by decide) ?_
                refine q_iald X hK h 0 rfl (q_in (by decide +kernel)) dX12_house_196 ?_
                obtain ⟨z_93, ez_93, hz_93⟩ := e_any (v166_81_1 0)
                refine q_c z_93 ez_93 ?_
                exact q_iret X hr hlk hK h rfl (fun _ => 0, (vcons v166_81_1 (vcons (fun _ => z_92) (vcons (fun _ => 0) (vcons (fun _ => 0) (vcons (fun _ => v95_37_0) (vcons (fun _ => v95_37_1) (vcons (fun _ => p0) (vcons (fun _ => v95_37_2) (vcons (fun _ => v95_37_3) (vcons (fun _ => v95_37_4) (vcons (fun _ => v95_37_5) (vcons (fun _ => v95_37_4) (vcons (fun _ => (-1)) (vcons (fun _ => v95_37_6) (vcons v95_37_7 (vcons (fun _ => v95_37_8) (vcons (fun _ => r_32) (vcons (fun _ => v95_37_9) (vcons (fun _ => v95_37_10) (fun _ => (fun _ => 0))))))))))))))))))))), fun _ _ => 0) ⟨⟨by omega, by omega⟩, cx_91, (⟨by omega, by omega⟩ : 0 ≤ (z_92 : Int32).toInt ∧ (z_92 : Int32).toInt ≤ 10), (⟨by decide +kernel, by decide +kernel⟩ : 0 ≤ (0 : Int32).toInt ∧ (0 : Int32).toInt ≤ 0), (⟨by decide +kernel, by decide +kernel⟩ : 0 ≤ (0 : Int32).toInt ∧ (0 : Int32).toInt ≤ 900), hv95_37_0, hv95_37_1, (⟨by omega, by omega⟩ : 0 ≤ (p0 : Int32).toInt ∧ (p0 : Int32).toInt ≤ 900), hv95_37_2, hv95_37_3, hv95_37_4, hv95_37_5, hv95_37_4, (⟨by decide +kernel, by decide +kernel⟩ : (-2147483648) ≤ ((-1) : Int32).toInt ∧ ((-1) : Int32).toInt ≤ 2147483647), hv95_37_6, (bw hv95_37_8 (by decide) (by decide)), (bw wr_32 (by decide) (by decide)), hv95_37_9, hv95_37_10, ez_92, trv95_37_7_0, trv95_37_7_1, trv95_37_7_2, trv95_37_7_405, (show (((p0 : Int32).toInt < 0 ∨ (p2 : Int32).toInt < (p0 : Int32).toInt) ∧ (z_93 : Int32).toInt = -3 ∧ (0 : Int32).toInt = (p2 : Int32).toInt ∧ (v95_37_4 : Int32).toInt = (p10 : Int32).toInt ∧ ((-1) : Int32).toInt = (p11 : Int32).toInt) ∨ (0 ≤ (p0 : Int32).toInt ∧ (p0 : Int32).toInt ≤ (p2 : Int32).toInt ∧ (0 : Int32).toInt = 0 ∧ HSE (z_93 : Int32).toInt (v95_37_4 : Int32).toInt ((-1) : Int32).toInt (PF (bM f1) ((p0 : Int32).toInt).toNat)) from Or.inr ⟨(by (first | assumption | (clear x17_1 x18_2 x26_1 x27_2 x39_1 x40_2 x85_3 x46_8 x50_2; omega) | omega)), (by (first | assumption | (clear x17_1 x18_2 x26_1 x27_2 x39_1 x40_2 x85_3 x46_8 x50_2; omega) | omega)), by decide, hse_l x88_6 (by (first | assumption | (clear x17_1 x18_2 x26_1 x27_2 x39_1 x40_2 x85_3 x46_8 x50_2; omega) | omega)) (congrArg Int32.toInt (cp_at x82_0 (by (first | assumption | (clear x17_1 x18_2 x26_1 x27_2 x39_1 x40_2 x85_3 x46_8 x50_2; omega) | omega)) ez_93 trv95_37_7_0))⟩), trivial⟩ [1, 0, 2, 3] rfl rfl dX12_house_197 (Nat.le_of_ble_eq_true rfl) (Nat.le_of_ble_eq_true rfl)
              · replace c_90 := i_nle (x := 1306) (y := v166_81_0) (show (1306 : Int32).toInt = 1306 by decide) rfl c_90
                refine lv_aload_n hx hb dX12_house_173 rfl (lv_at hl 0 rfl) ?_
                refine q_get X hK h 1 rfl rfl wf_12 1 (by decide) rfl wm_5_171 dX12_house_174 ?_
                refine lv_iload_n hx hb dX12_house_177 rfl (lv_at hl 2 rfl) ?_
                refine lv_aload_n hx hb dX12_house_178 rfl (lv_at hl 0 rfl) ?_
                refine q_get X hK h 1 rfl rfl wf_12 4 (by decide) rfl wm_5_174 dX12_house_179 ?_
                refine lv_iload_n hx hb dX12_house_182 rfl (lv_at hl 2 rfl) ?_
                refine q_iald X hK h 3 rfl (i_in rfl (by omega) (by omega)) dX12_house_183 ?_
                obtain ⟨z_94, ez_94, hz_94⟩ := e_any (v95_37_7 v166_81_0.toNatClampNeg)
                refine q_c z_94 ez_94 ?_
                refine q_iast X hK h 0 rfl (i_in rfl (by omega) (by omega)) dX12_house_184 (fun H locs h_96 => ?_)
                clear h
                replace h_96 : qW D _ _ (wk_dab8c81bb cy h1 (upd v166_81_1 (Int32.toNatClampNeg v166_81_0) z_94) h0 0 h1 w0 h2 h3 0 v95_37_0 v95_37_1 p0 v95_37_2 v95_37_3 v95_37_4 v95_37_5 v95_37_4 (-1) v95_37_6 w1 w2 w3 w4 w5 p13 p14 w6 w7 w8 p15 p16 w9 w10 w11 w12 w13 p17 w14 w15 w16 h2 f1 h3 v95_37_7) _ _ := h_96
                obtain ⟨F_95, eF_95⟩ : ∃ z, (upd v166_81_1 (Int32.toNatClampNeg v166_81_0) z_94) = z := ⟨_, rfl⟩
                rw [eF_95] at h_96
                have cs_97 := cp_s x82_0 ez_94 eF_95 (by omega) (by omega)
                obtain ⟨z_98, ez_98, hz_98⟩ := e_add (x := v166_81_0) (y := Int32.ofInt 1) rfl (b := 1) (by decide) (by omega) (by omega)
                refine lv_iinc (v := z_98) (lv' := [(2, .int z_98), (0, .ref h0), (1, .int p0)]) hx hb dX12_house_185 hl (k := 2) rfl ez_98 (by decide) rfl (fun ls_98 hl_98 => ?_)
                clear hl
                refine lv_goto (tgt := 166) hx hb dX12_house_188 (by decide) ?_
                exact ih_166 z_98 (by show (1307 - (z_98).toInt).toNat < (1307 - (v166_81_0).toInt).toNat; omega) _ _ _ ⟨F_95, ⟨by omega, by omega⟩, (cp_n cs_97 (by (first | assumption | (clear x17_1 x18_2 x26_1 x27_2 x39_1 x40_2 x85_3 x46_8 x50_2; omega) | omega))), (hf_w x83_1 (by (first | assumption | (clear x17_1 x18_2 x26_1 x27_2 x39_1 x40_2 x85_3 x46_8 x50_2; omega) | omega))), (x89_7), (x85_3), (x86_4), (x87_5), (x88_6), (x89_7), h_96, (lv_sub hl_98 [1, 2, 0] rfl)⟩
            · replace c_79 := i_ne (x := v95_37_4) (y := 0) rfl (show (0 : Int32).toInt = 0 by decide) c_79
              exfalso
              omega
        · skip
          refine lv_if_ne (tgt := 122) hx hb dX12_house_99 (by decide) (fun c_99 => ?_) (fun c_99 => ?_)
          · replace c_99 := i_ne (x := v95_37_4) (y := 0) rfl (show (0 : Int32).toInt = 0 by decide) c_99
            exact J_122 _ _ _ _ ⟨(x44_6), (x45_7), (by (first | (clear x17_1 x18_2 x26_1 x27_2 x39_1 x40_2 x42_4 x46_8; omega) | omega)), rfl, h, (lv_sub hl [0, 1] rfl)⟩
          · replace c_99 := i_eq (x := v95_37_4) (y := 0) rfl (show (0 : Int32).toInt = 0 by decide) c_99
            refine lv_aload_n hx hb dX12_house_102 rfl (lv_at hl 0 rfl) ?_
            refine q_get X hK h 1 rfl rfl wf_12 9 (by decide) rfl wm_5_179 dX12_house_103 ?_
            refine lv_bipush (v := 26) hx hb dX12_house_106 (by decide) ?_
            refine lv_icmp_eq (tgt := 122) hx hb dX12_house_108 (by decide) (fun c_100 => ?_) (fun c_100 => ?_)
            · replace c_100 := i_eq (x := v95_37_2) (y := 26) rfl (show (26 : Int32).toInt = 26 by decide) c_100
              exact J_122 _ _ _ _ ⟨(x44_6), (x45_7), (by (first | (clear x17_1 x18_2 x26_1 x27_2 x39_1 x40_2 x42_4 x46_8; omega) | omega)), rfl, h, (lv_sub hl [0, 1] rfl)⟩
            · replace c_100 := i_ne (x := v95_37_2) (y := 26) rfl (show (26 : Int32).toInt = 26 by decide) c_100
              refine lv_aload_n hx hb dX12_house_111 rfl (lv_at hl 0 rfl) ?_
              refine q_callVv (rest := []) (wr := [(h1, .inl (cy 1, 3918, .inl f0))]) X hK hT hA h (fun sz => gX12_readLine_526f797 l D cy h0 h2 h3 (0 : Int32) (.ref h1) w0 (0 : Int32) v95_37_0 v95_37_1 p0 v95_37_2 v95_37_3 v95_37_4 v95_37_5 p10 p11 v95_37_6 w1 w2 w3 w4 w5 p13 p14 w6 w7 w8 p15 p16 w9 w10 w11 w12 w13 p17 w14 w15 w16 f1 v95_37_7 v95_37_8 r_32 v95_37_9 v95_37_10 ⟨by decide +kernel, by decide +kernel⟩ ⟨by decide +kernel, by decide +kernel⟩ hv95_37_0 hv95_37_1 ⟨by omega, by omega⟩ (i_rng _) hv95_37_3 (i_rng _) (i_rng _) (i_rng _) (i_rng _) (i_rng _) (i_rng _) (i_rng _) (i_rng _) (i_rng _) (i_rng _) (bw hv95_37_8 (by decide) (by decide)) (i_rng _) hv95_37_9 hv95_37_10 trv95_37_7_0 trv95_37_7_1 trv95_37_7_2 trv95_37_7_405 (x38_0) (x39_1) (x40_2) (hf_w x41_3 (by (first | assumption | (clear x17_1 x18_2 x26_1 x27_2 x39_1 x40_2 x42_4 x46_8; omega) | omega))) (x42_4) sz) wm_6_95 wm_6_98 wm_1_12 hd_X12_readLine wm_6_97 wp_4_11 (ci := 12) (q0 := 0) rfl rfl ⟨Nat.le_of_ble_eq_true rfl, Nat.le_of_ble_eq_true rfl⟩ hl.1 rfl (Nat.le_of_ble_eq_true rfl) dX12_house_112 ⟨Nat.le_of_ble_eq_true rfl, Nat.le_of_ble_eq_true rfl⟩ [1, 2, 3] [0] rfl rfl (by decide) rfl rfl (fun u_101 H locs w_101 h_101 => ?_)
              clear h
              obtain ⟨w101_0, w101_1, w101_2, w101_3, w101_4, w101_5, w101_6, w101_7, w101_8, w101_9, w101_10, w101_11, w101_12, y101_0, y101_1, y101_2, y101_3, y101_4, y101_5, y101_6, y101_7, y101_8, _⟩ := w_101
              replace h_101 : qW D _ _ (wk_dab8c81bb cy h1 f0 h0 0 h1 w0 h2 h3 0 (u_101.2.1 0 0) (u_101.2.1 1 0) p0 (u_101.2.1 2 0) (u_101.2.1 3 0) (u_101.2.1 4 0) (u_101.2.1 5 0) p10 p11 (u_101.2.1 7 0) w1 w2 w3 w4 w5 p13 p14 w6 w7 w8 p15 p16 w9 w10 w11 w12 w13 p17 w14 w15 w16 h2 f1 h3 (u_101.2.1 6)) _ _ := h_101
              refine lv_aload_n hx hb dX12_house_115 rfl (lv_at hl 0 rfl) ?_
              refine q_callVv (rest := []) (wr := [(h1, .inl (cy 1, 3918, .inl f0))]) X hK hT hA h_101 (fun sz => gX12_ends_3a5e2d0 l D cy h0 h2 h3 (0 : Int32) (.ref h1) w0 (0 : Int32) (u_101.2.1 0 0) (u_101.2.1 1 0) p0 (u_101.2.1 2 0) (u_101.2.1 3 0) (u_101.2.1 4 0) (u_101.2.1 5 0) p10 p11 (u_101.2.1 7 0) w1 w2 w3 w4 w5 p13 p14 w6 w7 w8 p15 p16 w9 w10 w11 w12 w13 p17 w14 w15 w16 f1 (u_101.2.1 6) v95_37_8 r_32 (u_101.2.1 9 0) (u_101.2.1 8 0) ⟨by decide +kernel, by decide +kernel⟩ ⟨by decide +kernel, by decide +kernel⟩ w101_0 w101_1 ⟨by omega, by omega⟩ (i_rng _) w101_3 (i_rng _) (i_rng _) (i_rng _) (i_rng _) (i_rng _) (i_rng _) (i_rng _) (i_rng _) (i_rng _) (i_rng _) hv95_37_8 (i_rng _) w101_8 w101_7 w101_9 w101_10 w101_11 w101_12 (y101_0) (y101_1) (y101_4) (hf_w y101_5 (by (first | assumption | (clear x17_1 x18_2 x26_1 x27_2 x39_1 x40_2 x42_4 x46_8 y101_1 y101_3 y101_4 y101_7; omega) | omega))) (by (first | (clear x17_1 x18_2 x26_1 x27_2 x39_1 x40_2 x42_4 x46_8 y101_1 y101_3 y101_4 y101_7; omega) | omega)) sz) wm_6_91 wm_6_94 wm_1_12 hd_X12_ends wm_6_93 wp_4_10 (ci := 12) (q0 := 0) rfl rfl ⟨Nat.le_of_ble_eq_true rfl, Nat.le_of_ble_eq_true rfl⟩ hl.1 rfl (Nat.le_of_ble_eq_true rfl) dX12_house_116 ⟨Nat.le_of_ble_eq_true rfl, Nat.le_of_ble_eq_true rfl⟩ [1, 2, 3] [0] rfl rfl (by decide) rfl rfl (fun u_102 H locs w_102 h_102 => ?_)
              clear h_101
              obtain ⟨w102_0, w102_1, w102_2, w102_3, w102_4, w102_5, w102_6, w102_7, w102_8, w102_9, w102_10, y102_0, y102_1, y102_2, y102_3, y102_4, y102_5, y102_6, y102_7, y102_8, _⟩ := w_102
              replace h_102 : qW D _ _ (wk_dab8c81bb cy h1 f0 h0 0 h1 w0 h2 h3 0 (u_102.2.1 2 0) (u_102.2.1 3 0) p0 (u_102.2.1 4 0) (u_102.2.1 5 0) (u_102.2.1 6 0) (u_102.2.1 7 0) p10 p11 (u_101.2.1 7 0) w1 w2 w3 w4 w5 p13 p14 w6 w7 w8 p15 p16 w9 w10 w11 w12 w13 p17 w14 w15 w16 h2 f1 h3 (u_102.2.1 0)) _ _ := h_102
              refine lv_goto (tgt := 95) hx hb dX12_house_119 (by decide) ?_
              exact ih_95 ((u_102.2.1 2 0), (u_102.2.1 3 0), (u_102.2.1 4 0), (u_102.2.1 5 0), (u_102.2.1 6 0), (u_102.2.1 7 0), (u_101.2.1 7 0), (u_102.2.1 1 0), (u_101.2.1 9 0), (u_101.2.1 8 0)) (by show hmu ((u_102.2.1 2 0)).toInt ((u_102.2.1 6 0)).toInt < hmu (v95_37_0).toInt (v95_37_4).toInt; exact hmu_lt (by omega) (by omega) (by omega) (by omega)) _ _ _ ⟨(u_102.2.1 0), w102_1, w102_2, w102_3, w102_4, w102_5, w102_6, w101_6, ⟨by omega, by omega⟩, w101_8, w101_7, w102_7, w102_8, w102_9, w102_10, (y102_0), (y102_1), (y102_4), (hf_w y102_5 (by (first | assumption | (clear x17_1 x18_2 x26_1 x27_2 x39_1 x40_2 x42_4 x46_8 y101_1 y101_3 y101_4 y101_7 y102_1 y102_3 y102_4 y102_6; omega) | omega))), (by (first | (clear x17_1 x18_2 x26_1 x27_2 x39_1 x40_2 x42_4 x46_8 y101_1 y101_3 y101_4 y101_7 y102_1 y102_3 y102_4 y102_6; omega) | omega)), (x43_5), (x44_6), (lnr_s x45_7 (by (first | assumption | (clear x17_1 x18_2 x26_1 x27_2 x39_1 x40_2 x42_4 x46_8 y101_1 y101_3 y101_4 y101_7 y102_1 y102_3 y102_4 y102_6; omega) | omega)) (by (first | assumption | (clear x17_1 x18_2 x26_1 x27_2 x39_1 x40_2 x42_4 x46_8 y101_1 y101_3 y101_4 y101_7 y102_1 y102_3 y102_4 y102_6; omega) | omega)) y101_6 y102_7 (hp_li y102_3 y101_7) (by (first | assumption | (clear x17_1 x18_2 x26_1 x27_2 x39_1 x40_2 x42_4 x46_8 y101_1 y101_3 y101_4 y101_7 y102_1 y102_3 y102_4 y102_6; omega) | omega))), (lln_s x46_8 y101_3 y102_3 y101_2 y102_6 (by (first | assumption | (clear x17_1 x18_2 x26_1 x27_2 x39_1 x40_2 x42_4 x46_8 y101_1 y101_3 y101_4 y101_7 y102_1 y102_3 y102_4 y102_6; omega) | omega))), h_102, (lv_sub hl [0, 1] rfl)⟩
      · skip
        refine lv_if_ne (tgt := 79) hx hb dX12_house_71 (by decide) (fun c_103 => ?_) (fun c_103 => ?_)
        · replace c_103 := i_ne (x := r_23) (y := 0) rfl (show (0 : Int32).toInt = 0 by decide) c_103
          replace y23_2 := a01_1 y23_2 c_103
          exact J_79 _ _ _ _ ⟨v66_15_0, v66_15_1, hv66_15_0, hv66_15_1, (y23_0), (y23_1), (by (first | (clear y12_1 x17_1 y14_2 y14_4 x18_2 y23_1 y23_4; omega) | omega)), (hf_w x19_3 (by (first | assumption | (clear y12_1 x17_1 y14_2 y14_4 x18_2 y23_1 y23_4; omega) | omega))), (x20_4), (rr_h (rr_c x21_5 (smr_tk1 (by (first | assumption | (clear y12_1 x17_1 y14_2 y14_4 x18_2 y23_1 y23_4; omega) | omega)) vk12 mk12 (by (first | assumption | (clear y12_1 x17_1 y14_2 y14_4 x18_2 y23_1 y23_4; omega) | omega)) (by (first | assumption | (clear y12_1 x17_1 y14_2 y14_4 x18_2 y23_1 y23_4; omega) | omega)) (by (first | assumption | (clear y12_1 x17_1 y14_2 y14_4 x18_2 y23_1 y23_4; omega) | omega)) (alt_r y23_3 (by (first | assumption | (clear y12_1 x17_1 y14_2 y14_4 x18_2 y23_1 y23_4; omega) | omega))) (by (first | assumption | (clear y12_1 x17_1 y14_2 y14_4 x18_2 y23_1 y23_4; omega) | omega))))), (x22_6), rfl, h_23, (lv_sub hl [0, 1] rfl)⟩
        · replace c_103 := i_eq (x := r_23) (y := 0) rfl (show (0 : Int32).toInt = 0 by decide) c_103
          replace y23_2 := a01_0 y23_2 c_103
          obtain ⟨y23_2a, y23_2b, y23_2c, y23_2d⟩ := y23_2
          refine lv_aload_n hx hb dX12_house_74 rfl (lv_at hl 0 rfl) ?_
          refine lv_iconst (v := 2) hx hb dX12_house_75 (by decide) ?_
          refine q_callVv (rest := []) (wr := (wk_eece9000b cy h1 f0 h3 (u_10.2.1 0) h2 f1)) X hK hT hA h_23 (fun sz => gX12_fails_1e02d40 l D cy h0 (0 : Int32) (.ref h1) w0 (.ref h2) (.ref h3) (0 : Int32) (u_23.2.1 0 0) (u_23.2.1 1 0) p0 (u_23.2.1 2 0) (u_23.2.1 3 0) v66_15_0 v66_15_1 p10 p11 p12 w1 w2 w3 w4 w5 p13 p14 w6 w7 w8 p15 p16 w9 w10 w11 w12 w13 p17 w14 w15 w16 ⟨by decide +kernel, by decide +kernel⟩ ⟨by decide +kernel, by decide +kernel⟩ w23_0 w23_1 ⟨by omega, by omega⟩ (i_rng _) w23_3 (i_rng _) (i_rng _) (i_rng _) (i_rng _) (i_rng _) (i_rng _) (i_rng _) (i_rng _) (i_rng _) (i_rng _) sz) wm_6_83 wm_6_86 wm_1_12 hd_X12_fails wm_6_85 wp_4_8 (ci := 12) (q0 := 0) rfl rfl ⟨Nat.le_of_ble_eq_true rfl, Nat.le_of_ble_eq_true rfl⟩ hl.1 rfl (Nat.le_of_ble_eq_true rfl) dX12_house_76 ⟨Nat.le_of_ble_eq_true rfl, Nat.le_of_ble_eq_true rfl⟩ [2] [0, 1, 3] rfl rfl (by decide) rfl rfl (fun u_104 H locs w_104 h_104 => ?_)
          clear h_23
          obtain ⟨w104_0, w104_1, y104_0, y104_1, _⟩ := w_104
          have lq_104_1 : (2 : Int32).toInt = 2 := (by decide)
          replace h_104 : qW D _ _ (wk_735259578 cy h1 f0 h3 (u_10.2.1 0) h2 f1 h0 0 h1 w0 h2 h3 0 (u_23.2.1 0 0) (u_23.2.1 1 0) p0 (u_23.2.1 2 0) (u_23.2.1 3 0) (u_104.2.1 0 0) (u_104.2.1 1 0) p10 p11 p12 w1 w2 w3 w4 w5 p13 p14 w6 w7 w8 p15 p16 w9 w10 w11 w12 w13 p17 w14 w15 w16) _ _ := h_104
          exact J_79 _ _ _ _ ⟨(u_104.2.1 0 0), (u_104.2.1 1 0), w104_0, w104_1, (y23_0), (y23_1), (by (first | (clear y12_1 x17_1 y14_2 y14_4 x18_2 y23_1 y23_4 y23_2d; omega) | omega)), (hf_w x19_3 (by (first | assumption | (clear y12_1 x17_1 y14_2 y14_4 x18_2 y23_1 y23_4 y23_2d; omega) | omega))), (x20_4), (rr_h (rr_c x21_5 (smr_tkn (by (first | assumption | (clear y12_1 x17_1 y14_2 y14_4 x18_2 y23_1 y23_4 y23_2d; omega) | omega)) (by (first | assumption | (clear y12_1 x17_1 y14_2 y14_4 x18_2 y23_1 y23_4 y23_2d; omega) | omega)) (by (first | assumption | (clear y12_1 x17_1 y14_2 y14_4 x18_2 y23_1 y23_4 y23_2d; omega) | omega)) (by (first | assumption | (clear y12_1 x17_1 y14_2 y14_4 x18_2 y23_1 y23_4 y23_2d; omega) | omega)) (by (first | assumption | (clear y12_1 x17_1 y14_2 y14_4 x18_2 y23_1 y23_4 y23_2d; omega) | omega)) mk12 y104_1))), (x22_6), rfl, (q_re h_104 [0, 1, 3, 2] rfl rfl), (lv_sub hl [0, 1] rfl)⟩
    · skip
      refine lv_if_ne (tgt := 66) hx hb dX12_house_58 (by decide) (fun c_105 => ?_) (fun c_105 => ?_)
      · replace c_105 := i_ne (x := r_14) (y := 0) rfl (show (0 : Int32).toInt = 0 by decide) c_105
        replace y14_2 := a01_1 y14_2 c_105
        exact J_66 _ _ _ _ ⟨0, p9, ⟨by decide +kernel, by decide +kernel⟩, hp9, (y14_0), (y14_1), (by have q0 : (0 : Int32).toInt = 0 := (by decide); (first | (clear y12_1 y14_1 y14_4; omega) | omega)), (hf_w hf_11 (by have q0 : (0 : Int32).toInt = 0 := (by decide); omega)), (by (first | (clear y12_1 y14_1 y14_4; omega) | omega)), (rr_c rr_13 (smr_tk1 (by (first | assumption | (clear y12_1 y14_1 y14_4; omega) | omega)) vk11 mk11 (by (first | assumption | (clear y12_1 y14_1 y14_4; omega) | omega)) (by (first | assumption | (clear y12_1 y14_1 y14_4; omega) | omega)) (by (first | assumption | (clear y12_1 y14_1 y14_4; omega) | omega)) (alt_r y14_3 (by (first | assumption | (clear y12_1 y14_1 y14_4; omega) | omega))) (by (first | assumption | (clear y12_1 y14_1 y14_4; omega) | omega)))), (by (first | (clear y12_1 y14_1 y14_4; omega) | omega)), rfl, h_14, (lv_sub hl [0, 1] rfl)⟩
      · replace c_105 := i_eq (x := r_14) (y := 0) rfl (show (0 : Int32).toInt = 0 by decide) c_105
        replace y14_2 := a01_0 y14_2 c_105
        obtain ⟨y14_2a, y14_2b, y14_2c, y14_2d⟩ := y14_2
        refine lv_aload_n hx hb dX12_house_61 rfl (lv_at hl 0 rfl) ?_
        refine lv_iconst (v := 2) hx hb dX12_house_62 (by decide) ?_
        refine q_callVv (rest := []) (wr := (wk_eece9000b cy h1 f0 h3 (u_10.2.1 0) h2 f1)) X hK hT hA h_14 (fun sz => gX12_fails_1e02d40 l D cy h0 (0 : Int32) (.ref h1) w0 (.ref h2) (.ref h3) (0 : Int32) (u_14.2.1 0 0) (u_14.2.1 1 0) p0 (u_14.2.1 2 0) (u_14.2.1 3 0) (0 : Int32) p9 p10 p11 p12 w1 w2 w3 w4 w5 p13 p14 w6 w7 w8 p15 p16 w9 w10 w11 w12 w13 p17 w14 w15 w16 ⟨by decide +kernel, by decide +kernel⟩ ⟨by decide +kernel, by decide +kernel⟩ w14_0 w14_1 ⟨by omega, by omega⟩ (i_rng _) w14_3 (i_rng _) (i_rng _) (i_rng _) (i_rng _) (i_rng _) (i_rng _) (i_rng _) (i_rng _) (i_rng _) (i_rng _) sz) wm_6_83 wm_6_86 wm_1_12 hd_X12_fails wm_6_85 wp_4_8 (ci := 12) (q0 := 0) rfl rfl ⟨Nat.le_of_ble_eq_true rfl, Nat.le_of_ble_eq_true rfl⟩ hl.1 rfl (Nat.le_of_ble_eq_true rfl) dX12_house_63 ⟨Nat.le_of_ble_eq_true rfl, Nat.le_of_ble_eq_true rfl⟩ [2] [0, 1, 3] rfl rfl (by decide) rfl rfl (fun u_106 H locs w_106 h_106 => ?_)
        clear h_14
        obtain ⟨w106_0, w106_1, y106_0, y106_1, _⟩ := w_106
        have lq_106_1 : (2 : Int32).toInt = 2 := (by decide)
        replace h_106 : qW D _ _ (wk_735259578 cy h1 f0 h3 (u_10.2.1 0) h2 f1 h0 0 h1 w0 h2 h3 0 (u_14.2.1 0 0) (u_14.2.1 1 0) p0 (u_14.2.1 2 0) (u_14.2.1 3 0) (u_106.2.1 0 0) (u_106.2.1 1 0) p10 p11 p12 w1 w2 w3 w4 w5 p13 p14 w6 w7 w8 p15 p16 w9 w10 w11 w12 w13 p17 w14 w15 w16) _ _ := h_106
        exact J_66 _ _ _ _ ⟨(u_106.2.1 0 0), (u_106.2.1 1 0), w106_0, w106_1, (y14_0), (y14_1), (by (first | (clear y12_1 y14_1 y14_4 y14_2d; omega) | omega)), (hf_w hf_11 (by (first | assumption | (clear y12_1 y14_1 y14_4 y14_2d; omega) | omega))), (by (first | (clear y12_1 y14_1 y14_4 y14_2d; omega) | omega)), (rr_c rr_13 (smr_tkn (by (first | assumption | (clear y12_1 y14_1 y14_4 y14_2d; omega) | omega)) (by (first | assumption | (clear y12_1 y14_1 y14_4 y14_2d; omega) | omega)) (by (first | assumption | (clear y12_1 y14_1 y14_4 y14_2d; omega) | omega)) (by (first | assumption | (clear y12_1 y14_1 y14_4 y14_2d; omega) | omega)) (by (first | assumption | (clear y12_1 y14_1 y14_4 y14_2d; omega) | omega)) mk11 y106_1)), (by (first | (clear y12_1 y14_1 y14_4 y14_2d; omega) | omega)), rfl, (q_re h_106 [0, 1, 3, 2] rfl rfl), (lv_sub hl [0, 1] rfl)⟩
  · replace c_5 := i_eq (x := r_4) (y := 0) rfl (show (0 : Int32).toInt = 0 by decide) c_5
    replace y4_0 := a10_0 y4_0 c_5
    refine lv_bipush (v := (-3)) hx hb dX12_house_19 (by decide) ?_
    exact q_iret X hr hlk hK h_4 rfl (fun _ => 0, (vcons f0 (vcons (fun _ => p18) (vcons (fun _ => 0) (vcons (fun _ => p2) (vcons (fun _ => p3) (vcons (fun _ => p4) (vcons (fun _ => p5) (vcons (fun _ => p6) (vcons (fun _ => p7) (vcons (fun _ => p8) (vcons (fun _ => p9) (vcons (fun _ => p10) (vcons (fun _ => p11) (vcons (fun _ => p12) (vcons f2 (vcons (fun _ => p19) (vcons (fun _ => p20) (vcons (fun _ => p21) (vcons (fun _ => p22) (fun _ => (fun _ => 0))))))))))))))))))))), fun _ _ => 0) ⟨⟨by decide +kernel, by decide +kernel⟩, rf0, hp18, (⟨by decide +kernel, by decide +kernel⟩ : 0 ≤ (0 : Int32).toInt ∧ (0 : Int32).toInt ≤ 0), hp2, hp3, hp4, hp5, hp6, hp7, hp8, hp9, hp10, hp11, hp12, hp19, hp20, hp21, hp22, htf0_84, htf2_0, htf2_1, htf2_2, htf2_405, (show (((p0 : Int32).toInt < 0 ∨ (p2 : Int32).toInt < (p0 : Int32).toInt) ∧ ((-3) : Int32).toInt = -3 ∧ (p2 : Int32).toInt = (p2 : Int32).toInt ∧ (p10 : Int32).toInt = (p10 : Int32).toInt ∧ (p11 : Int32).toInt = (p11 : Int32).toInt) ∨ (0 ≤ (p0 : Int32).toInt ∧ (p0 : Int32).toInt ≤ (p2 : Int32).toInt ∧ (p2 : Int32).toInt = 0 ∧ HSE ((-3) : Int32).toInt (p10 : Int32).toInt (p11 : Int32).toInt (PF (bM f1) ((p0 : Int32).toInt).toNat)) from Or.inl ⟨(by (first | assumption | (clear y4_0; omega) | omega)), by decide, rfl, rfl, rfl⟩), trivial⟩ [0, 1, 2, 3] rfl rfl dX12_house_21 (Nat.le_of_ble_eq_true rfl) (Nat.le_of_ble_eq_true rfl)
set_option maxHeartbeats 4000000 in
set_option maxRecDepth 100000 in
theorem gX12_isPerson_039c8d6 (l : Launch) (D : va_G) (cy : Nat → ClassId) (h0 : Nat) (h1 : Nat) (j0 : Int64) (p0 : Int32) (w0 : Value) (w1 : Value) (w2 : Value) (p1 : Int32) (p2 : Int32) (p3 : Int32) (p4 : Int32) (p5 : Int32) (p6 : Int32) (p7 : Int32) (p8 : Int32) (p9 : Int32) (p10 : Int32) (p11 : Int32) (w3 : Value) (w4 : Value) (w5 : Value) (w6 : Value) (w7 : Value) (p12 : Int32) (p13 : Int32) (w8 : Value) (w9 : Value) (w10 : Value) (p14 : Int32) (p15 : Int32) (w11 : Value) (w12 : Value) (w13 : Value) (w14 : Value) (w15 : Value) (p16 : Int32) (w16 : Value) (w17 : Value) (w18 : Value) (f0 : Nat → Int32) (p17 : Int32) (hj0 : (-2147483648) ≤ (j0).toInt ∧ (j0).toInt ≤ 2147483647) (hp0 : 0 ≤ (p0).toInt ∧ (p0).toInt ≤ 0) (hp1 : 0 ≤ (p1).toInt ∧ (p1).toInt ≤ 900) (hp2 : 0 ≤ (p2).toInt ∧ (p2).toInt ≤ 900) (hp3 : 0 ≤ (p3).toInt ∧ (p3).toInt ≤ 900) (hp4 : 0 ≤ (p4).toInt ∧ (p4).toInt ≤ 900) (hp5 : (-2147483648) ≤ (p5).toInt ∧ (p5).toInt ≤ 2147483647) (hp6 : 0 ≤ (p6).toInt ∧ (p6).toInt ≤ 999) (hp7 : (-2147483648) ≤ (p7).toInt ∧ (p7).toInt ≤ 2147483647) (hp8 : (-2147483648) ≤ (p8).toInt ∧ (p8).toInt ≤ 2147483647) (hp9 : (-2147483648) ≤ (p9).toInt ∧ (p9).toInt ≤ 2147483647) (hp10 : (-2147483648) ≤ (p10).toInt ∧ (p10).toInt ≤ 2147483647) (hp11 : (-2147483648) ≤ (p11).toInt ∧ (p11).toInt ≤ 2147483647) (hp12 : (-2147483648) ≤ (p12).toInt ∧ (p12).toInt ≤ 2147483647) (hp13 : (-2147483648) ≤ (p13).toInt ∧ (p13).toInt ≤ 2147483647) (hp14 : (-2147483648) ≤ (p14).toInt ∧ (p14).toInt ≤ 2147483647) (hp15 : (-2147483648) ≤ (p15).toInt ∧ (p15).toInt ≤ 2147483647) (hp16 : (-2147483648) ≤ (p16).toInt ∧ (p16).toInt ≤ 2147483647) (hp17 : 0 ≤ (p17).toInt ∧ (p17).toInt ≤ 10) (htf0_84 : f0 84 = p17) (rf0 : AL f0) (sz : Nat) : MI l yX12_isPerson cX12_isPerson 3 .boolean { frames := 1, cells := 0, slots := 0, locals := 25 } [.ref h0, .long j0] D cy (wk_e1f596b07 cy h0 p0 h1 w0 w1 w2 p1 p2 p3 p4 p5 p6 p7 p8 p9 p10 p11 w3 w4 w5 w6 w7 p12 p13 w8 w9 w10 p14 p15 w11 w12 w13 w14 w15 p16 w16 w17 w18 h1 f0) sz (fun r u => (0 ≤ r.toInt ∧ r.toInt ≤ 1) ∧ ((r : Int32).toInt = 0 ∨ ((r : Int32).toInt = 1 ∧ 0 ≤ (j0 : Int64).toInt ∧ (j0 : Int64).toInt ≤ 9)) ∧ True) (fun u => (wk_e1f596b07 cy h0 p0 h1 w0 w1 w2 p1 p2 p3 p4 p5 p6 p7 p8 p9 p10 p11 w3 w4 w5 w6 w7 p12 p13 w8 w9 w10 p14 p15 w11 w12 w13 w14 w15 p16 w16 w17 w18 h1 f0)) 0 0 := by
  refine q_ent (own := RX12) (by decide) rfl (Nat.le_of_ble_eq_true rfl) (fun p e s m below meth c ls X hr hlk hnm hK hT h hA hl => ?_)
  obtain ⟨hx, hb, hml, hown, ht⟩ := id X
  replace hl : lv_has ls 3 [(0, .ref h0), (1, .long j0)] := hl
  refine lv_lload_n hx hb dX12_isPerson_0 rfl (lv_at hl 1 rfl) ?_
  refine lv_lconst (v := 0) hx hb dX12_isPerson_1 (by decide) ?_
  refine lv_aload_n hx hb dX12_isPerson_2 rfl (lv_at hl 0 rfl) ?_
  refine q_get X hK h 0 rfl rfl wf_12 1 (by decide) rfl wm_5_171 dX12_isPerson_3 ?_
  refine lv_iconst (v := 2) hx hb dX12_isPerson_6 (by decide) ?_
  refine q_iald X hK h 1 rfl (q_in (by decide +kernel)) dX12_isPerson_7 ?_
  obtain ⟨z_1, ez_1, hz_1⟩ := al_P rf0 (x := 2) (show (2 : Int32).toInt = 2 by decide) (by omega) (by omega)
  refine q_c z_1 ez_1 ?_
  clear ez_1
  refine lv_iconst (v := 1) hx hb dX12_isPerson_8 (by decide) ?_
  refine lv_isub hx hb dX12_isPerson_9 ?_
  obtain ⟨z_2, ez_2, hz_2⟩ := e_sub (x := z_1) (y := 1) rfl (show (1 : Int32).toInt = 1 by decide) (by omega) (by omega)
  refine q_c z_2 ez_2 ?_
  clear ez_2
  refine lv_i2l hx hb dX12_isPerson_10 rfl ?_
  obtain ⟨z_3, ez_3, hz_3⟩ := e_i2l (x := z_2) rfl
  refine q_cl z_3 ez_3 ?_
  clear ez_3
  refine q_callSi (rest := []) (wr := (wk_e1f596b07 cy h0 p0 h1 w0 w1 w2 p1 p2 p3 p4 p5 p6 p7 p8 p9 p10 p11 w3 w4 w5 w6 w7 p12 p13 w8 w9 w10 p14 p15 w11 w12 w13 w14 w15 p16 w16 w17 w18 h1 f0)) X hK hT hA h (fun sz => gX12_within_00c7897 l D cy j0 (0 : Int64) z_3 (j_rng _) ⟨by decide +kernel, by decide +kernel⟩ ⟨by omega, by omega⟩ sz) wm_6_50 wm_6_52 wm_1_12 hd_X12_within wm_6_51 ⟨Nat.le_of_ble_eq_true rfl, Nat.le_of_ble_eq_true rfl⟩ hl.1 rfl (Nat.le_of_ble_eq_true rfl) dX12_isPerson_11 ⟨Nat.le_of_ble_eq_true rfl, Nat.le_of_ble_eq_true rfl⟩ [] [0, 1] rfl rfl (by decide) rfl rfl (fun r_4 u_4 H locs w_4 h_4 => ?_)
  clear h
  obtain ⟨wr_4, y4_0, _⟩ := w_4
  have lq_4_1 : (0 : Int64).toInt = 0 := (by decide)
  replace h_4 : qW D _ _ (wk_e1f596b07 cy h0 p0 h1 w0 w1 w2 p1 p2 p3 p4 p5 p6 p7 p8 p9 p10 p11 w3 w4 w5 w6 w7 p12 p13 w8 w9 w10 p14 p15 w11 w12 w13 w14 w15 p16 w16 w17 w18 h1 f0) _ _ := h_4
  exact q_iret X hr hlk hK h_4 (q_nz (by omega) (by omega)) (fun _ => 0, fun _ _ => 0, fun _ _ => 0) ⟨wr_4, (show (r_4 : Int32).toInt = 0 ∨ ((r_4 : Int32).toInt = 1 ∧ 0 ≤ (j0 : Int64).toInt ∧ (j0 : Int64).toInt ≤ 9) from by (first | (clear y4_0; omega) | omega)), trivial⟩ [0, 1] rfl rfl dX12_isPerson_14 (Nat.le_of_ble_eq_true rfl) (Nat.le_of_ble_eq_true rfl)
set_option maxHeartbeats 4000000 in
set_option maxRecDepth 100000 in
theorem gX12_isIn_b0455a8 (l : Launch) (D : va_G) (cy : Nat → ClassId) (j0 : Int64) (p0 : Int32) (hj0 : (-2147483648) ≤ (j0).toInt ∧ (j0).toInt ≤ 2147483647) (hp0 : 0 ≤ (p0).toInt ∧ (p0).toInt ≤ 9) (sz : Nat) : MI l yX12_isIn cX12_isIn 3 .boolean { frames := 0, cells := 0, slots := 0, locals := 0 } [.long j0, .int p0] D cy [] sz (fun r u => (0 ≤ r.toInt ∧ r.toInt ≤ 1) ∧ True) (fun u => []) 0 0 := by
  refine q_ent (own := RX12) (by decide) rfl (Nat.le_of_ble_eq_true rfl) (fun p e s m below meth c ls X hr hlk hnm hK hT h hA hl => ?_)
  obtain ⟨hx, hb, hml, hown, ht⟩ := id X
  replace hl : lv_has ls 3 [(0, .long j0), (2, .int p0)] := hl
  refine lv_lload_n hx hb dX12_isIn_0 rfl (lv_at hl 0 rfl) ?_
  refine lv_iload_n hx hb dX12_isIn_1 rfl (lv_at hl 1 rfl) ?_
  refine lv_lshr hx hb dX12_isIn_2 rfl ?_
  refine q_anyJ (fun z_1 hz_1 => ?_)
  refine lv_lconst (v := 1) hx hb dX12_isIn_3 (by decide) ?_
  refine lv_land hx hb dX12_isIn_4 ?_
  refine q_anyJ (fun z_2 hz_2 => ?_)
  refine lv_lconst (v := 1) hx hb dX12_isIn_5 (by decide) ?_
  refine W.lcmp hx hb dX12_isIn_6 ?_
  refine lv_if_ne (tgt := 14) hx hb dX12_isIn_7 (by decide) (fun c_3 => ?_) (fun c_3 => ?_)
  · replace c_3 := j_neq (x := z_2) (y := 1) rfl (show (1 : Int64).toInt = 1 by decide) c_3
    refine lv_iconst (v := 0) hx hb dX12_isIn_14 (by decide) ?_
    exact q_iret X hr hlk hK h rfl (fun _ => 0, fun _ _ => 0, fun _ _ => 0) ⟨⟨by decide +kernel, by decide +kernel⟩, trivial⟩ [] rfl rfl dX12_isIn_15 (Nat.le_of_ble_eq_true rfl) (Nat.le_of_ble_eq_true rfl)
  · replace c_3 := j_eq (x := z_2) (y := 1) rfl (show (1 : Int64).toInt = 1 by decide) c_3
    refine lv_iconst (v := 1) hx hb dX12_isIn_10 (by decide) ?_
    refine lv_goto (tgt := 15) hx hb dX12_isIn_11 (by decide) ?_
    exact q_iret X hr hlk hK h rfl (fun _ => 0, fun _ _ => 0, fun _ _ => 0) ⟨⟨by decide +kernel, by decide +kernel⟩, trivial⟩ [] rfl rfl dX12_isIn_15 (Nat.le_of_ble_eq_true rfl) (Nat.le_of_ble_eq_true rfl)
set_option maxHeartbeats 4000000 in
set_option maxRecDepth 100000 in
theorem gX12_townOn_aa3becc (l : Launch) (D : va_G) (cy : Nat → ClassId) (h0 : Nat) (h1 : Nat) (p0 : Int32) (p1 : Int32) (w0 : Value) (w1 : Value) (w2 : Value) (p2 : Int32) (p3 : Int32) (p4 : Int32) (p5 : Int32) (p6 : Int32) (p7 : Int32) (p8 : Int32) (p9 : Int32) (p10 : Int32) (p11 : Int32) (p12 : Int32) (w3 : Value) (w4 : Value) (w5 : Value) (w6 : Value) (w7 : Value) (p13 : Int32) (p14 : Int32) (w8 : Value) (w9 : Value) (w10 : Value) (p15 : Int32) (p16 : Int32) (w11 : Value) (w12 : Value) (w13 : Value) (w14 : Value) (w15 : Value) (p17 : Int32) (w16 : Value) (w17 : Value) (w18 : Value) (f0 : Nat → Int32) (p18 : Int32) (hp0 : (-2147483648) ≤ (p0).toInt ∧ (p0).toInt ≤ 2147483647) (hp1 : 0 ≤ (p1).toInt ∧ (p1).toInt ≤ 0) (hp2 : 0 ≤ (p2).toInt ∧ (p2).toInt ≤ 900) (hp3 : 0 ≤ (p3).toInt ∧ (p3).toInt ≤ 900) (hp4 : 0 ≤ (p4).toInt ∧ (p4).toInt ≤ 900) (hp5 : 0 ≤ (p5).toInt ∧ (p5).toInt ≤ 900) (hp6 : (-2147483648) ≤ (p6).toInt ∧ (p6).toInt ≤ 2147483647) (hp7 : 0 ≤ (p7).toInt ∧ (p7).toInt ≤ 999) (hp8 : (-2147483648) ≤ (p8).toInt ∧ (p8).toInt ≤ 2147483647) (hp9 : (-2147483648) ≤ (p9).toInt ∧ (p9).toInt ≤ 2147483647) (hp10 : (-2147483648) ≤ (p10).toInt ∧ (p10).toInt ≤ 2147483647) (hp11 : (-2147483648) ≤ (p11).toInt ∧ (p11).toInt ≤ 2147483647) (hp12 : (-2147483648) ≤ (p12).toInt ∧ (p12).toInt ≤ 2147483647) (hp13 : (-2147483648) ≤ (p13).toInt ∧ (p13).toInt ≤ 2147483647) (hp14 : (-2147483648) ≤ (p14).toInt ∧ (p14).toInt ≤ 2147483647) (hp15 : (-2147483648) ≤ (p15).toInt ∧ (p15).toInt ≤ 2147483647) (hp16 : (-2147483648) ≤ (p16).toInt ∧ (p16).toInt ≤ 2147483647) (hp17 : (-2147483648) ≤ (p17).toInt ∧ (p17).toInt ≤ 2147483647) (hp18 : 0 ≤ (p18).toInt ∧ (p18).toInt ≤ 10) (htf0_84 : f0 84 = p18) (rf0 : AL f0) (sz : Nat) : MI l yX12_townOn cX12_townOn 4 .int { frames := 1, cells := 0, slots := 0, locals := 25 } [.ref h0, .int p0] D cy (wk_e1f596b07 cy h0 p1 h1 w0 w1 w2 p2 p3 p4 p5 p6 p7 p8 p9 p10 p11 p12 w3 w4 w5 w6 w7 p13 p14 w8 w9 w10 p15 p16 w11 w12 w13 w14 w15 p17 w16 w17 w18 h1 f0) sz (fun r u => (0 ≤ r.toInt ∧ r.toInt ≤ 1023) ∧ True) (fun u => (wk_e1f596b07 cy h0 p1 h1 w0 w1 w2 p2 p3 p4 p5 p6 p7 p8 p9 p10 p11 p12 w3 w4 w5 w6 w7 p13 p14 w8 w9 w10 p15 p16 w11 w12 w13 w14 w15 p17 w16 w17 w18 h1 f0)) 0 0 := by
  refine q_ent (own := RX12) (by decide) rfl (Nat.le_of_ble_eq_true rfl) (fun p e s m below meth c ls X hr hlk hnm hK hT h hA hl => ?_)
  obtain ⟨hx, hb, hml, hown, ht⟩ := id X
  replace hl : lv_has ls 4 [(0, .ref h0), (1, .int p0)] := hl
  refine lv_iconst (v := 0) hx hb dX12_townOn_0 (by decide) ?_
  refine lv_istore_n (lv' := [(2, .int 0), (0, .ref h0), (1, .int p0)]) hx hb dX12_townOn_1 rfl hl (by decide) rfl (fun ls_1 hl_1 => ?_)
  clear hl
  refine lv_iconst (v := 0) hx hb dX12_townOn_2 (by decide) ?_
  refine lv_istore_n (lv' := [(3, .int 0), (2, .int 0), (0, .ref h0), (1, .int p0)]) hx hb dX12_townOn_3 rfl hl_1 (by decide) rfl (fun ls_2 hl_2 => ?_)
  clear hl_1
  refine q_wl (fun (q : Int32 × Int32) H locs ls => match q with | (v4_3_0, v4_3_1) => (0 ≤ (v4_3_0).toInt ∧ (v4_3_0).toInt ≤ 10) ∧ (0 ≤ (v4_3_1).toInt ∧ (v4_3_1).toInt ≤ 1023) ∧ qW D (va_A (wk_e1f596b07 cy h0 p1 h1 w0 w1 w2 p2 p3 p4 p5 p6 p7 p8 p9 p10 p11 p12 w3 w4 w5 w6 w7 p13 p14 w8 w9 w10 p15 p16 w11 w12 w13 w14 w15 p17 w16 w17 w18 h1 f0) sz) s.heap (wk_e1f596b07 cy h0 p1 h1 w0 w1 w2 p2 p3 p4 p5 p6 p7 p8 p9 p10 p11 p12 w3 w4 w5 w6 w7 p13 p14 w8 w9 w10 p15 p16 w11 w12 w13 w14 w15 p17 w16 w17 w18 h1 f0) H locs ∧ lv_has ls 4 [(0, .ref h0), (1, .int p0), (2, .int v4_3_1), (3, .int v4_3_0)]) (fun (q : Int32 × Int32) => match q with | (v4_3_0, v4_3_1) => (11 - (v4_3_0).toInt).toNat) (fun q_4 ih_4 H locs ls hP => ?_) (0, 0) ⟨⟨by decide +kernel, by decide +kernel⟩, ⟨by decide +kernel, by decide +kernel⟩, h, (lv_sub hl_2 [2, 3, 1, 0] rfl)⟩
  obtain ⟨v4_3_0, v4_3_1⟩ := q_4
  obtain ⟨hv4_3_0, hv4_3_1, h, hl⟩ := hP
  refine lv_iload_n hx hb dX12_townOn_4 rfl (lv_at hl 3 rfl) ?_
  refine lv_aload_n hx hb dX12_townOn_5 rfl (lv_at hl 0 rfl) ?_
  refine q_get X hK h 0 rfl rfl wf_12 1 (by decide) rfl wm_5_171 dX12_townOn_6 ?_
  refine lv_iconst (v := 2) hx hb dX12_townOn_9 (by decide) ?_
  refine q_iald X hK h 1 rfl (q_in (by decide +kernel)) dX12_townOn_10 ?_
  obtain ⟨z_4, ez_4, hz_4⟩ := al_P rf0 (x := 2) (show (2 : Int32).toInt = 2 by decide) (by omega) (by omega)
  refine q_c z_4 ez_4 ?_
  clear ez_4
  refine lv_icmp_ge (tgt := 58) hx hb dX12_townOn_11 (by decide) (fun c_5 => ?_) (fun c_5 => ?_)
  · replace c_5 := i_le (x := z_4) (y := v4_3_0) rfl rfl c_5
    refine lv_iload_n hx hb dX12_townOn_58 rfl (lv_at hl 2 rfl) ?_
    refine lv_aload_n hx hb dX12_townOn_59 rfl (lv_at hl 0 rfl) ?_
    refine q_get X hK h 0 rfl rfl wf_12 1 (by decide) rfl wm_5_171 dX12_townOn_60 ?_
    refine lv_bipush (v := 53) hx hb dX12_townOn_63 (by decide) ?_
    refine q_iald X hK h 1 rfl (q_in (by decide +kernel)) dX12_townOn_65 ?_
    refine q_any (fun z_6 hz_6 => ?_)
    refine lv_iconst (v := (-1)) hx hb dX12_townOn_66 (by decide) ?_
    refine lv_ixor hx hb dX12_townOn_67 ?_
    refine q_any (fun z_7 hz_7 => ?_)
    refine lv_iand hx hb dX12_townOn_68 ?_
    obtain ⟨z_8, ez_8, hz_8⟩ := e_and1 (x := v4_3_1) (y := z_7) rfl (by omega)
    refine q_c z_8 ez_8 ?_
    clear ez_8
    exact q_iret X hr hlk hK h rfl (fun _ => 0, fun _ _ => 0, fun _ _ => 0) ⟨⟨by omega, by omega⟩, trivial⟩ [0, 1] rfl rfl dX12_townOn_69 (Nat.le_of_ble_eq_true rfl) (Nat.le_of_ble_eq_true rfl)
  · replace c_5 := i_nle (x := z_4) (y := v4_3_0) rfl rfl c_5
    refine lv_iload_n hx hb dX12_townOn_14 rfl (lv_at hl 2 rfl) ?_
    refine lv_iload_n hx hb dX12_townOn_15 rfl (lv_at hl 1 rfl) ?_
    refine lv_i2l hx hb dX12_townOn_16 rfl ?_
    obtain ⟨z_9, ez_9, hz_9⟩ := e_i2l (x := p0) rfl
    refine q_cl z_9 ez_9 ?_
    clear ez_9
    refine lv_aload_n hx hb dX12_townOn_17 rfl (lv_at hl 0 rfl) ?_
    refine q_get X hK h 0 rfl rfl wf_12 1 (by decide) rfl wm_5_171 dX12_townOn_18 ?_
    refine lv_bipush (v := 12) hx hb dX12_townOn_21 (by decide) ?_
    refine lv_iload_n hx hb dX12_townOn_23 rfl (lv_at hl 3 rfl) ?_
    refine lv_iadd hx hb dX12_townOn_24 ?_
    obtain ⟨z_10, ez_10, hz_10⟩ := e_add (x := 12) (y := v4_3_0) (show (12 : Int32).toInt = 12 by decide) rfl (by omega) (by omega)
    refine q_c z_10 ez_10 ?_
    clear ez_10
    refine q_iald X hK h 1 rfl (i_in rfl (by omega) (by omega)) dX12_townOn_25 ?_
    refine q_any (fun z_11 hz_11 => ?_)
    refine lv_i2l hx hb dX12_townOn_26 rfl ?_
    obtain ⟨z_12, ez_12, hz_12⟩ := e_i2l (x := z_11) rfl
    refine q_cl z_12 ez_12 ?_
    clear ez_12
    refine lv_aload_n hx hb dX12_townOn_27 rfl (lv_at hl 0 rfl) ?_
    refine q_get X hK h 0 rfl rfl wf_12 1 (by decide) rfl wm_5_171 dX12_townOn_28 ?_
    refine lv_bipush (v := 22) hx hb dX12_townOn_31 (by decide) ?_
    refine lv_iload_n hx hb dX12_townOn_33 rfl (lv_at hl 3 rfl) ?_
    refine lv_iadd hx hb dX12_townOn_34 ?_
    obtain ⟨z_13, ez_13, hz_13⟩ := e_add (x := 22) (y := v4_3_0) (show (22 : Int32).toInt = 22 by decide) rfl (by omega) (by omega)
    refine q_c z_13 ez_13 ?_
    clear ez_13
    refine q_iald X hK h 1 rfl (i_in rfl (by omega) (by omega)) dX12_townOn_35 ?_
    refine q_any (fun z_14 hz_14 => ?_)
    refine lv_i2l hx hb dX12_townOn_36 rfl ?_
    obtain ⟨z_15, ez_15, hz_15⟩ := e_i2l (x := z_14) rfl
    refine q_cl z_15 ez_15 ?_
    clear ez_15
    refine q_callSi (rest := [.int v4_3_1]) (wr := (wk_e1f596b07 cy h0 p1 h1 w0 w1 w2 p2 p3 p4 p5 p6 p7 p8 p9 p10 p11 p12 w3 w4 w5 w6 w7 p13 p14 w8 w9 w10 p15 p16 w11 w12 w13 w14 w15 p17 w16 w17 w18 h1 f0)) X hK hT hA h (fun sz => gX12_within_00c7897 l D cy z_9 z_12 z_15 (j_rng _) ⟨by omega, by omega⟩ ⟨by omega, by omega⟩ sz) wm_6_50 wm_6_52 wm_1_12 hd_X12_within wm_6_51 ⟨Nat.le_of_ble_eq_true rfl, Nat.le_of_ble_eq_true rfl⟩ hl.1 rfl (Nat.le_of_ble_eq_true rfl) dX12_townOn_37 ⟨Nat.le_of_ble_eq_true rfl, Nat.le_of_ble_eq_true rfl⟩ [] [0, 1] rfl rfl (by decide) rfl rfl (fun r_16 u_16 H locs w_16 h_16 => ?_)
    clear h
    obtain ⟨wr_16, y16_0, _⟩ := w_16
    replace h_16 : qW D _ _ (wk_e1f596b07 cy h0 p1 h1 w0 w1 w2 p2 p3 p4 p5 p6 p7 p8 p9 p10 p11 p12 w3 w4 w5 w6 w7 p13 p14 w8 w9 w10 p15 p16 w11 w12 w13 w14 w15 p17 w16 w17 w18 h1 f0) _ _ := h_16
    refine q_jn (pc2 := 50) (fun H locs ls st => ∃ v50_17_0 : Int32, (0 ≤ (v50_17_0).toInt ∧ (v50_17_0).toInt ≤ 512) ∧ st = [.int v50_17_0, .int v4_3_1] ∧ qW D (va_A (wk_e1f596b07 cy h0 p1 h1 w0 w1 w2 p2 p3 p4 p5 p6 p7 p8 p9 p10 p11 p12 w3 w4 w5 w6 w7 p13 p14 w8 w9 w10 p15 p16 w11 w12 w13 w14 w15 p17 w16 w17 w18 h1 f0) sz) s.heap (wk_e1f596b07 cy h0 p1 h1 w0 w1 w2 p2 p3 p4 p5 p6 p7 p8 p9 p10 p11 p12 w3 w4 w5 w6 w7 p13 p14 w8 w9 w10 p15 p16 w11 w12 w13 w14 w15 p17 w16 w17 w18 h1 f0) H locs ∧ lv_has ls 4 [(0, .ref h0), (1, .int p0), (2, .int v4_3_1), (3, .int v4_3_0)]) (fun H locs ls st hP => ?_) (fun J_50 => ?_)
    · obtain ⟨v50_17_0, hv50_17_0, rfl, h, hl⟩ := hP
      refine lv_ior hx hb dX12_townOn_50 ?_
      obtain ⟨z_18, ez_18, hz_18⟩ := e_orm (x := v4_3_1) (y := v50_17_0) 10 (by decide) rfl rfl (by omega) (by omega) (by omega) (by omega)
      refine q_c z_18 ez_18 ?_
      clear ez_18
      refine lv_istore_n (lv' := [(2, .int z_18), (0, .ref h0), (1, .int p0), (3, .int v4_3_0)]) hx hb dX12_townOn_51 rfl hl (by decide) rfl (fun ls_19 hl_19 => ?_)
      clear hl
      obtain ⟨z_20, ez_20, hz_20⟩ := e_add (x := v4_3_0) (y := Int32.ofInt 1) rfl (b := 1) (by decide) (by omega) (by omega)
      refine lv_iinc (v := z_20) (lv' := [(3, .int z_20), (2, .int z_18), (0, .ref h0), (1, .int p0)]) hx hb dX12_townOn_52 hl_19 (k := 3) rfl ez_20 (by decide) rfl (fun ls_20 hl_20 => ?_)
      clear hl_19
      refine lv_goto (tgt := 4) hx hb dX12_townOn_55 (by decide) ?_
      exact ih_4 (z_20, z_18) (by show (11 - (z_20).toInt).toNat < (11 - (v4_3_0).toInt).toNat; omega) _ _ _ ⟨⟨by omega, by omega⟩, ⟨by omega, by omega⟩, h, (lv_sub hl_20 [2, 3, 1, 0] rfl)⟩
    · skip
      refine lv_if_eq (tgt := 49) hx hb dX12_townOn_40 (by decide) (fun c_21 => ?_) (fun c_21 => ?_)
      · replace c_21 := i_eq (x := r_16) (y := 0) rfl (show (0 : Int32).toInt = 0 by decide) c_21
        replace y16_0 := a10_0 y16_0 c_21
        refine lv_iconst (v := 0) hx hb dX12_townOn_49 (by decide) ?_
        exact J_50 _ _ _ _ ⟨0, ⟨by decide +kernel, by decide +kernel⟩, rfl, h_16, (lv_sub hl [0, 1, 2, 3] rfl)⟩
      · replace c_21 := i_ne (x := r_16) (y := 0) rfl (show (0 : Int32).toInt = 0 by decide) c_21
        replace y16_0 := a10_1 y16_0 c_21
        refine lv_iconst (v := 1) hx hb dX12_townOn_43 (by decide) ?_
        refine lv_iload_n hx hb dX12_townOn_44 rfl (lv_at hl 3 rfl) ?_
        refine lv_ishl hx hb dX12_townOn_45 ?_
        obtain ⟨z_22, ez_22, hz_22⟩ := e_shlk (p := v4_3_0) 9 (by decide) rfl (by omega) (by omega)
        refine q_c z_22 ez_22 ?_
        clear ez_22
        refine lv_goto (tgt := 50) hx hb dX12_townOn_46 (by decide) ?_
        exact J_50 _ _ _ _ ⟨z_22, ⟨by omega, by omega⟩, rfl, h_16, (lv_sub hl [0, 1, 2, 3] rfl)⟩
set_option maxHeartbeats 4000000 in
set_option maxRecDepth 100000 in
theorem gX12_townNow_2907b4b (l : Launch) (D : va_G) (cy : Nat → ClassId) (h0 : Nat) (h1 : Nat) (p0 : Int32) (w0 : Value) (w1 : Value) (w2 : Value) (p1 : Int32) (p2 : Int32) (p3 : Int32) (p4 : Int32) (p5 : Int32) (p6 : Int32) (p7 : Int32) (p8 : Int32) (p9 : Int32) (p10 : Int32) (p11 : Int32) (w3 : Value) (w4 : Value) (w5 : Value) (w6 : Value) (w7 : Value) (p12 : Int32) (p13 : Int32) (w8 : Value) (w9 : Value) (w10 : Value) (p14 : Int32) (p15 : Int32) (w11 : Value) (w12 : Value) (w13 : Value) (w14 : Value) (w15 : Value) (p16 : Int32) (w16 : Value) (w17 : Value) (w18 : Value) (f0 : Nat → Int32) (p17 : Int32) (hp0 : 0 ≤ (p0).toInt ∧ (p0).toInt ≤ 0) (hp1 : 0 ≤ (p1).toInt ∧ (p1).toInt ≤ 900) (hp2 : 0 ≤ (p2).toInt ∧ (p2).toInt ≤ 900) (hp3 : 0 ≤ (p3).toInt ∧ (p3).toInt ≤ 900) (hp4 : 0 ≤ (p4).toInt ∧ (p4).toInt ≤ 900) (hp5 : (-2147483648) ≤ (p5).toInt ∧ (p5).toInt ≤ 2147483647) (hp6 : 0 ≤ (p6).toInt ∧ (p6).toInt ≤ 999) (hp7 : (-2147483648) ≤ (p7).toInt ∧ (p7).toInt ≤ 2147483647) (hp8 : (-2147483648) ≤ (p8).toInt ∧ (p8).toInt ≤ 2147483647) (hp9 : (-2147483648) ≤ (p9).toInt ∧ (p9).toInt ≤ 2147483647) (hp10 : (-2147483648) ≤ (p10).toInt ∧ (p10).toInt ≤ 2147483647) (hp11 : (-2147483648) ≤ (p11).toInt ∧ (p11).toInt ≤ 2147483647) (hp12 : (-2147483648) ≤ (p12).toInt ∧ (p12).toInt ≤ 2147483647) (hp13 : (-2147483648) ≤ (p13).toInt ∧ (p13).toInt ≤ 2147483647) (hp14 : (-2147483648) ≤ (p14).toInt ∧ (p14).toInt ≤ 2147483647) (hp15 : (-2147483648) ≤ (p15).toInt ∧ (p15).toInt ≤ 2147483647) (hp16 : (-2147483648) ≤ (p16).toInt ∧ (p16).toInt ≤ 2147483647) (hp17 : 0 ≤ (p17).toInt ∧ (p17).toInt ≤ 10) (htf0_84 : f0 84 = p17) (rf0 : AL f0) (sz : Nat) : MI l yX12_townNow cX12_townNow 1 .int { frames := 2, cells := 0, slots := 0, locals := 48 } [.ref h0] D cy (wk_e1f596b07 cy h0 p0 h1 w0 w1 w2 p1 p2 p3 p4 p5 p6 p7 p8 p9 p10 p11 w3 w4 w5 w6 w7 p12 p13 w8 w9 w10 p14 p15 w11 w12 w13 w14 w15 p16 w16 w17 w18 h1 f0) sz (fun r u => (0 ≤ r.toInt ∧ r.toInt ≤ 1023) ∧ True) (fun u => (wk_e1f596b07 cy h0 p0 h1 w0 w1 w2 p1 p2 p3 p4 p5 p6 p7 p8 p9 p10 p11 w3 w4 w5 w6 w7 p12 p13 w8 w9 w10 p14 p15 w11 w12 w13 w14 w15 p16 w16 w17 w18 h1 f0)) 0 0 := by
  refine q_ent (own := RX12) (by decide) rfl (Nat.le_of_ble_eq_true rfl) (fun p e s m below meth c ls X hr hlk hnm hK hT h hA hl => ?_)
  obtain ⟨hx, hb, hml, hown, ht⟩ := id X
  replace hl : lv_has ls 1 [(0, .ref h0)] := hl
  refine lv_aload_n hx hb dX12_townNow_0 rfl (lv_at hl 0 rfl) ?_
  refine lv_aload_n hx hb dX12_townNow_1 rfl (lv_at hl 0 rfl) ?_
  refine q_get X hK h 0 rfl rfl wf_12 1 (by decide) rfl wm_5_171 dX12_townNow_2 ?_
  refine lv_bipush (v := 52) hx hb dX12_townNow_5 (by decide) ?_
  refine q_iald X hK h 1 rfl (q_in (by decide +kernel)) dX12_townNow_7 ?_
  refine q_any (fun z_1 hz_1 => ?_)
  refine q_callVi (rest := []) (wr := []) X hK hT hA h (fun sz => gX12_townOn_aa3becc l D cy h0 h1 z_1 p0 w0 w1 w2 p1 p2 p3 p4 p5 p6 p7 p8 p9 p10 p11 w3 w4 w5 w6 w7 p12 p13 w8 w9 w10 p14 p15 w11 w12 w13 w14 w15 p16 w16 w17 w18 f0 p17 (i_rng _) hp0 hp1 hp2 hp3 hp4 (i_rng _) hp6 (i_rng _) (i_rng _) (i_rng _) (i_rng _) (i_rng _) (i_rng _) (i_rng _) (i_rng _) (i_rng _) (i_rng _) hp17 htf0_84 rf0 sz) wm_6_174 wm_6_177 wm_1_12 hd_X12_townOn wm_6_176 wp_5_10 (ci := 12) (q0 := 0) rfl rfl ⟨Nat.le_of_ble_eq_true rfl, Nat.le_of_ble_eq_true rfl⟩ hl.1 rfl (Nat.le_of_ble_eq_true rfl) dX12_townNow_8 ⟨Nat.le_of_ble_eq_true rfl, Nat.le_of_ble_eq_true rfl⟩ [0, 1] [] rfl rfl (by decide) rfl rfl (fun r_2 u_2 H locs w_2 h_2 => ?_)
  clear h
  obtain ⟨wr_2, _⟩ := w_2
  replace h_2 : qW D _ _ (wk_e1f596b07 cy h0 p0 h1 w0 w1 w2 p1 p2 p3 p4 p5 p6 p7 p8 p9 p10 p11 w3 w4 w5 w6 w7 p12 p13 w8 w9 w10 p14 p15 w11 w12 w13 w14 w15 p16 w16 w17 w18 h1 f0) _ _ := h_2
  exact q_iret X hr hlk hK h_2 rfl (fun _ => 0, fun _ _ => 0, fun _ _ => 0) ⟨wr_2, trivial⟩ [0, 1] rfl rfl dX12_townNow_11 (Nat.le_of_ble_eq_true rfl) (Nat.le_of_ble_eq_true rfl)
set_option maxHeartbeats 4000000 in
set_option maxRecDepth 100000 in
theorem gX12_person_05e7eb9 (l : Launch) (D : va_G) (cy : Nat → ClassId) (h0 : Nat) (h1 : Nat) (p0 : Int32) (p1 : Int32) (p2 : Int32) (w0 : Value) (w1 : Value) (w2 : Value) (p3 : Int32) (p4 : Int32) (p5 : Int32) (p6 : Int32) (p7 : Int32) (p8 : Int32) (p9 : Int32) (p10 : Int32) (p11 : Int32) (p12 : Int32) (p13 : Int32) (w3 : Value) (w4 : Value) (w5 : Value) (w6 : Value) (w7 : Value) (p14 : Int32) (p15 : Int32) (w8 : Value) (w9 : Value) (w10 : Value) (p16 : Int32) (p17 : Int32) (w11 : Value) (w12 : Value) (w13 : Value) (w14 : Value) (w15 : Value) (p18 : Int32) (w16 : Value) (w17 : Value) (w18 : Value) (f0 : Nat → Int32) (p19 : Int32) (hp0 : (-2147483648) ≤ (p0).toInt ∧ (p0).toInt ≤ 2147483647) (hp1 : (-2147483648) ≤ (p1).toInt ∧ (p1).toInt ≤ 2147483647) (hp2 : (-2147483648) ≤ (p2).toInt ∧ (p2).toInt ≤ 2147483647) (hp3 : 0 ≤ (p3).toInt ∧ (p3).toInt ≤ 900) (hp4 : 0 ≤ (p4).toInt ∧ (p4).toInt ≤ 900) (hp5 : 0 ≤ (p5).toInt ∧ (p5).toInt ≤ 900) (hp6 : 0 ≤ (p6).toInt ∧ (p6).toInt ≤ 900) (hp7 : (-2147483648) ≤ (p7).toInt ∧ (p7).toInt ≤ 2147483647) (hp8 : 0 ≤ (p8).toInt ∧ (p8).toInt ≤ 999) (hp9 : (-2147483648) ≤ (p9).toInt ∧ (p9).toInt ≤ 2147483647) (hp10 : (-2147483648) ≤ (p10).toInt ∧ (p10).toInt ≤ 2147483647) (hp11 : (-2147483648) ≤ (p11).toInt ∧ (p11).toInt ≤ 2147483647) (hp12 : (-2147483648) ≤ (p12).toInt ∧ (p12).toInt ≤ 2147483647) (hp13 : (-2147483648) ≤ (p13).toInt ∧ (p13).toInt ≤ 2147483647) (hp14 : (-2147483648) ≤ (p14).toInt ∧ (p14).toInt ≤ 2147483647) (hp15 : (-2147483648) ≤ (p15).toInt ∧ (p15).toInt ≤ 2147483647) (hp16 : (-2147483648) ≤ (p16).toInt ∧ (p16).toInt ≤ 2147483647) (hp17 : (-2147483648) ≤ (p17).toInt ∧ (p17).toInt ≤ 2147483647) (hp18 : (-2147483648) ≤ (p18).toInt ∧ (p18).toInt ≤ 2147483647) (hp19 : 0 ≤ (p19).toInt ∧ (p19).toInt ≤ 10) (htf0_84 : f0 84 = p19) (rf0 : AL f0) (sz : Nat) : MI l yX12_person cX12_person 3 .int { frames := 3, cells := 0, slots := 0, locals := 68 } [.ref h0, .int p0, .int p1] D cy (wk_e1f596b07 cy h0 p2 h1 w0 w1 w2 p3 p4 p5 p6 p7 p8 p9 p10 p11 p12 p13 w3 w4 w5 w6 w7 p14 p15 w8 w9 w10 p16 p17 w11 w12 w13 w14 w15 p18 w16 w17 w18 h1 f0) sz (fun r u => ((-2147483648) ≤ r.toInt ∧ r.toInt ≤ 2147483647) ∧ (0 ≤ (u.2.1 0 0).toInt ∧ (u.2.1 0 0).toInt ≤ 0) ∧ True) (fun u => (wk_e1f596b07 cy h0 (u.2.1 0 0) h1 w0 w1 w2 p3 p4 p5 p6 p7 p8 p9 p10 p11 p12 p13 w3 w4 w5 w6 w7 p14 p15 w8 w9 w10 p16 p17 w11 w12 w13 w14 w15 p18 w16 w17 w18 h1 f0)) 0 0 := by
  refine q_ent (own := RX12) (by decide) rfl (Nat.le_of_ble_eq_true rfl) (fun p e s m below meth c ls X hr hlk hnm hK hT h hA hl => ?_)
  obtain ⟨hx, hb, hml, hown, ht⟩ := id X
  replace hl : lv_has ls 3 [(0, .ref h0), (1, .int p0), (2, .int p1)] := hl
  refine lv_aload_n hx hb dX12_person_0 rfl (lv_at hl 0 rfl) ?_
  refine lv_iconst (v := 0) hx hb dX12_person_1 (by decide) ?_
  refine q_put (v := .int 0) X hK h 0 rfl rfl wf_12 tyX12 tyX12_ok nmX12 0 (by decide) wm_5_170 rfl rfl rfl (Nat.le_of_ble_eq_true rfl) dX12_person_2 (fun H locs h_1 => ?_)
  clear h
  replace h_1 : qW D _ _ (wk_e1f596b07 cy h0 0 h1 w0 w1 w2 p3 p4 p5 p6 p7 p8 p9 p10 p11 p12 p13 w3 w4 w5 w6 w7 p14 p15 w8 w9 w10 p16 p17 w11 w12 w13 w14 w15 p18 w16 w17 w18 h1 f0) _ _ := h_1
  refine lv_aload_n hx hb dX12_person_5 rfl (lv_at hl 0 rfl) ?_
  refine lv_iload_n hx hb dX12_person_6 rfl (lv_at hl 1 rfl) ?_
  refine lv_i2l hx hb dX12_person_7 rfl ?_
  obtain ⟨z_2, ez_2, hz_2⟩ := e_i2l (x := p0) rfl
  refine q_cl z_2 ez_2 ?_
  clear ez_2
  refine q_callVi (rest := []) (wr := []) X hK hT hA h_1 (fun sz => gX12_isPerson_039c8d6 l D cy h0 h1 z_2 (0 : Int32) w0 w1 w2 p3 p4 p5 p6 p7 p8 p9 p10 p11 p12 p13 w3 w4 w5 w6 w7 p14 p15 w8 w9 w10 p16 p17 w11 w12 w13 w14 w15 p18 w16 w17 w18 f0 p19 ⟨by omega, by omega⟩ ⟨by decide +kernel, by decide +kernel⟩ hp3 hp4 hp5 hp6 (i_rng _) hp8 (i_rng _) (i_rng _) (i_rng _) (i_rng _) (i_rng _) (i_rng _) (i_rng _) (i_rng _) (i_rng _) (i_rng _) hp19 htf0_84 rf0 sz) wm_6_162 wm_6_165 wm_1_12 hd_X12_isPerson wm_6_164 wp_5_8 (ci := 12) (q0 := 0) rfl rfl ⟨Nat.le_of_ble_eq_true rfl, Nat.le_of_ble_eq_true rfl⟩ hl.1 rfl (Nat.le_of_ble_eq_true rfl) dX12_person_8 ⟨Nat.le_of_ble_eq_true rfl, Nat.le_of_ble_eq_true rfl⟩ [0, 1] [] rfl rfl (by decide) rfl rfl (fun r_3 u_3 H locs w_3 h_3 => ?_)
  clear h_1
  obtain ⟨wr_3, y3_0, _⟩ := w_3
  replace h_3 : qW D _ _ (wk_e1f596b07 cy h0 0 h1 w0 w1 w2 p3 p4 p5 p6 p7 p8 p9 p10 p11 p12 p13 w3 w4 w5 w6 w7 p14 p15 w8 w9 w10 p16 p17 w11 w12 w13 w14 w15 p18 w16 w17 w18 h1 f0) _ _ := h_3
  refine lv_if_ne (tgt := 17) hx hb dX12_person_11 (by decide) (fun c_4 => ?_) (fun c_4 => ?_)
  · replace c_4 := i_ne (x := r_3) (y := 0) rfl (show (0 : Int32).toInt = 0 by decide) c_4
    refine lv_iload_n hx hb dX12_person_17 rfl (lv_at hl 2 rfl) ?_
    refine lv_i2l hx hb dX12_person_18 rfl ?_
    obtain ⟨z_5, ez_5, hz_5⟩ := e_i2l (x := p1) rfl
    refine q_cl z_5 ez_5 ?_
    clear ez_5
    refine lv_lconst (v := 0) hx hb dX12_person_19 (by decide) ?_
    refine lv_ldc2 hx hb hown (ht _ wm_6_166) dX12_person_20 ?_
    refine q_callSi (rest := []) (wr := (wk_e1f596b07 cy h0 0 h1 w0 w1 w2 p3 p4 p5 p6 p7 p8 p9 p10 p11 p12 p13 w3 w4 w5 w6 w7 p14 p15 w8 w9 w10 p16 p17 w11 w12 w13 w14 w15 p18 w16 w17 w18 h1 f0)) X hK hT hA h_3 (fun sz => gX12_within_00c7897 l D cy z_5 (0 : Int64) (2 : Int64) (j_rng _) ⟨by decide +kernel, by decide +kernel⟩ ⟨by decide +kernel, by decide +kernel⟩ sz) wm_6_50 wm_6_52 wm_1_12 hd_X12_within wm_6_51 ⟨Nat.le_of_ble_eq_true rfl, Nat.le_of_ble_eq_true rfl⟩ hl.1 rfl (Nat.le_of_ble_eq_true rfl) dX12_person_23 ⟨Nat.le_of_ble_eq_true rfl, Nat.le_of_ble_eq_true rfl⟩ [] [0, 1] rfl rfl (by decide) rfl rfl (fun r_6 u_6 H locs w_6 h_6 => ?_)
    clear h_3
    obtain ⟨wr_6, y6_0, _⟩ := w_6
    have lq_6_1 : (0 : Int64).toInt = 0 := (by decide)
    have lq_6_2 : (2 : Int64).toInt = 2 := (by decide)
    replace h_6 : qW D _ _ (wk_e1f596b07 cy h0 0 h1 w0 w1 w2 p3 p4 p5 p6 p7 p8 p9 p10 p11 p12 p13 w3 w4 w5 w6 w7 p14 p15 w8 w9 w10 p16 p17 w11 w12 w13 w14 w15 p18 w16 w17 w18 h1 f0) _ _ := h_6
    refine lv_if_eq (tgt := 43) hx hb dX12_person_26 (by decide) (fun c_7 => ?_) (fun c_7 => ?_)
    · replace c_7 := i_eq (x := r_6) (y := 0) rfl (show (0 : Int32).toInt = 0 by decide) c_7
      replace y6_0 := a10_0 y6_0 c_7
      refine lv_iload_n hx hb dX12_person_43 rfl (lv_at hl 2 rfl) ?_
      by_cases c_8 : p1 = 3
      · have ec_8 : (p1).toInt = 3 := by rw [c_8]; decide
        refine lv_tableIn (off := 40) (tgt := 84) hx hb dX12_person_44 (by rw [c_8]; decide +kernel) (by rw [c_8]; decide +kernel) (by rw [c_8]; decide +kernel) (by decide) ?_
        refine lv_aload_n hx hb dX12_person_84 rfl (lv_at hl 0 rfl) ?_
        refine q_get X hK h_6 0 rfl rfl wf_12 1 (by decide) rfl wm_5_171 dX12_person_85 ?_
        refine lv_bipush (v := 12) hx hb dX12_person_88 (by decide) ?_
        refine lv_iload_n hx hb dX12_person_90 rfl (lv_at hl 1 rfl) ?_
        refine lv_iadd hx hb dX12_person_91 ?_
        obtain ⟨z_9, ez_9, hz_9⟩ := e_add (x := 12) (y := p0) (show (12 : Int32).toInt = 12 by decide) rfl (by omega) (by omega)
        refine q_c z_9 ez_9 ?_
        clear ez_9
        refine q_iald X hK h_6 1 rfl (i_in rfl (by omega) (by omega)) dX12_person_92 ?_
        refine q_any (fun z_10 hz_10 => ?_)
        exact q_iret X hr hlk hK h_6 rfl (fun _ => 0, (vcons (fun _ => 0) (fun _ => (fun _ => 0))), fun _ _ => 0) ⟨⟨by omega, by omega⟩, (⟨by decide +kernel, by decide +kernel⟩ : 0 ≤ (0 : Int32).toInt ∧ (0 : Int32).toInt ≤ 0), trivial⟩ [0, 1] rfl rfl dX12_person_93 (Nat.le_of_ble_eq_true rfl) (Nat.le_of_ble_eq_true rfl)
      by_cases c_11 : p1 = 4
      · have ec_11 : (p1).toInt = 4 := by rw [c_11]; decide
        refine lv_tableIn (off := 50) (tgt := 94) hx hb dX12_person_44 (by rw [c_11]; decide +kernel) (by rw [c_11]; decide +kernel) (by rw [c_11]; decide +kernel) (by decide) ?_
        refine lv_aload_n hx hb dX12_person_94 rfl (lv_at hl 0 rfl) ?_
        refine q_get X hK h_6 0 rfl rfl wf_12 1 (by decide) rfl wm_5_171 dX12_person_95 ?_
        refine lv_bipush (v := 22) hx hb dX12_person_98 (by decide) ?_
        refine lv_iload_n hx hb dX12_person_100 rfl (lv_at hl 1 rfl) ?_
        refine lv_iadd hx hb dX12_person_101 ?_
        obtain ⟨z_12, ez_12, hz_12⟩ := e_add (x := 22) (y := p0) (show (22 : Int32).toInt = 22 by decide) rfl (by omega) (by omega)
        refine q_c z_12 ez_12 ?_
        clear ez_12
        refine q_iald X hK h_6 1 rfl (i_in rfl (by omega) (by omega)) dX12_person_102 ?_
        refine q_any (fun z_13 hz_13 => ?_)
        refine lv_ldc hx hb hown (ht _ wm_6_103) dX12_person_103 ?_
        refine q_jn (pc2 := 123) (fun H locs ls st => ∃ v123_14_0 : Int32, ((-2147483648) ≤ (v123_14_0).toInt ∧ (v123_14_0).toInt ≤ 2147483647) ∧ st = [.int v123_14_0] ∧ qW D (va_A (wk_e1f596b07 cy h0 p2 h1 w0 w1 w2 p3 p4 p5 p6 p7 p8 p9 p10 p11 p12 p13 w3 w4 w5 w6 w7 p14 p15 w8 w9 w10 p16 p17 w11 w12 w13 w14 w15 p18 w16 w17 w18 h1 f0) sz) s.heap (wk_e1f596b07 cy h0 0 h1 w0 w1 w2 p3 p4 p5 p6 p7 p8 p9 p10 p11 p12 p13 w3 w4 w5 w6 w7 p14 p15 w8 w9 w10 p16 p17 w11 w12 w13 w14 w15 p18 w16 w17 w18 h1 f0) H locs ∧ lv_has ls 3 [(0, .ref h0), (1, .int p0), (2, .int p1)]) (fun H locs ls st hP => ?_) (fun J_123 => ?_)
        · obtain ⟨v123_14_0, hv123_14_0, rfl, h, hl⟩ := hP
          exact q_iret X hr hlk hK h rfl (fun _ => 0, (vcons (fun _ => 0) (fun _ => (fun _ => 0))), fun _ _ => 0) ⟨hv123_14_0, (⟨by decide +kernel, by decide +kernel⟩ : 0 ≤ (0 : Int32).toInt ∧ (0 : Int32).toInt ≤ 0), trivial⟩ [0, 1] rfl rfl dX12_person_123 (Nat.le_of_ble_eq_true rfl) (Nat.le_of_ble_eq_true rfl)
        · skip
          refine lv_icmp_ne (tgt := 114) hx hb dX12_person_105 (by decide) (fun c_15 => ?_) (fun c_15 => ?_)
          · replace c_15 := i_ne (x := z_13) (y := 268435456) rfl (show (268435456 : Int32).toInt = 268435456 by decide) c_15
            refine lv_aload_n hx hb dX12_person_114 rfl (lv_at hl 0 rfl) ?_
            refine q_get X hK h_6 0 rfl rfl wf_12 1 (by decide) rfl wm_5_171 dX12_person_115 ?_
            refine lv_bipush (v := 22) hx hb dX12_person_118 (by decide) ?_
            refine lv_iload_n hx hb dX12_person_120 rfl (lv_at hl 1 rfl) ?_
            refine lv_iadd hx hb dX12_person_121 ?_
            obtain ⟨z_16, ez_16, hz_16⟩ := e_add (x := 22) (y := p0) (show (22 : Int32).toInt = 22 by decide) rfl (by omega) (by omega)
            refine q_c z_16 ez_16 ?_
            clear ez_16
            refine q_iald X hK h_6 1 rfl (i_in rfl (by omega) (by omega)) dX12_person_122 ?_
            refine q_any (fun z_17 hz_17 => ?_)
            exact J_123 _ _ _ _ ⟨z_17, ⟨by omega, by omega⟩, rfl, h_6, (lv_sub hl [0, 1, 2] rfl)⟩
          · replace c_15 := i_eq (x := z_13) (y := 268435456) rfl (show (268435456 : Int32).toInt = 268435456 by decide) c_15
            refine lv_sipush (v := 999) hx hb dX12_person_108 (by decide) ?_
            refine lv_goto (tgt := 123) hx hb dX12_person_111 (by decide) ?_
            exact J_123 _ _ _ _ ⟨999, ⟨by decide +kernel, by decide +kernel⟩, rfl, h_6, (lv_sub hl [0, 1, 2] rfl)⟩
      by_cases c_18 : p1 = 5
      · have ec_18 : (p1).toInt = 5 := by rw [c_18]; decide
        refine lv_tableIn (off := 80) (tgt := 124) hx hb dX12_person_44 (by rw [c_18]; decide +kernel) (by rw [c_18]; decide +kernel) (by rw [c_18]; decide +kernel) (by decide) ?_
        refine lv_aload_n hx hb dX12_person_124 rfl (lv_at hl 0 rfl) ?_
        refine q_get X hK h_6 0 rfl rfl wf_12 1 (by decide) rfl wm_5_171 dX12_person_125 ?_
        refine lv_bipush (v := 32) hx hb dX12_person_128 (by decide) ?_
        refine lv_iload_n hx hb dX12_person_130 rfl (lv_at hl 1 rfl) ?_
        refine lv_iadd hx hb dX12_person_131 ?_
        obtain ⟨z_19, ez_19, hz_19⟩ := e_add (x := 32) (y := p0) (show (32 : Int32).toInt = 32 by decide) rfl (by omega) (by omega)
        refine q_c z_19 ez_19 ?_
        clear ez_19
        refine q_iald X hK h_6 1 rfl (i_in rfl (by omega) (by omega)) dX12_person_132 ?_
        refine q_any (fun z_20 hz_20 => ?_)
        exact q_iret X hr hlk hK h_6 rfl (fun _ => 0, (vcons (fun _ => 0) (fun _ => (fun _ => 0))), fun _ _ => 0) ⟨⟨by omega, by omega⟩, (⟨by decide +kernel, by decide +kernel⟩ : 0 ≤ (0 : Int32).toInt ∧ (0 : Int32).toInt ≤ 0), trivial⟩ [0, 1] rfl rfl dX12_person_133 (Nat.le_of_ble_eq_true rfl) (Nat.le_of_ble_eq_true rfl)
      by_cases c_21 : p1 = 6
      · have ec_21 : (p1).toInt = 6 := by rw [c_21]; decide
        refine lv_tableIn (off := 90) (tgt := 134) hx hb dX12_person_44 (by rw [c_21]; decide +kernel) (by rw [c_21]; decide +kernel) (by rw [c_21]; decide +kernel) (by decide) ?_
        refine lv_aload_n hx hb dX12_person_134 rfl (lv_at hl 0 rfl) ?_
        refine q_get X hK h_6 0 rfl rfl wf_12 1 (by decide) rfl wm_5_171 dX12_person_135 ?_
        refine lv_bipush (v := 42) hx hb dX12_person_138 (by decide) ?_
        refine lv_iload_n hx hb dX12_person_140 rfl (lv_at hl 1 rfl) ?_
        refine lv_iadd hx hb dX12_person_141 ?_
        obtain ⟨z_22, ez_22, hz_22⟩ := e_add (x := 42) (y := p0) (show (42 : Int32).toInt = 42 by decide) rfl (by omega) (by omega)
        refine q_c z_22 ez_22 ?_
        clear ez_22
        refine q_iald X hK h_6 1 rfl (i_in rfl (by omega) (by omega)) dX12_person_142 ?_
        refine q_any (fun z_23 hz_23 => ?_)
        exact q_iret X hr hlk hK h_6 rfl (fun _ => 0, (vcons (fun _ => 0) (fun _ => (fun _ => 0))), fun _ _ => 0) ⟨⟨by omega, by omega⟩, (⟨by decide +kernel, by decide +kernel⟩ : 0 ≤ (0 : Int32).toInt ∧ (0 : Int32).toInt ≤ 0), trivial⟩ [0, 1] rfl rfl dX12_person_143 (Nat.le_of_ble_eq_true rfl) (Nat.le_of_ble_eq_true rfl)
      by_cases c_24 : p1 = 7
      · have ec_24 : (p1).toInt = 7 := by rw [c_24]; decide
        refine lv_tableIn (off := 100) (tgt := 144) hx hb dX12_person_44 (by rw [c_24]; decide +kernel) (by rw [c_24]; decide +kernel) (by rw [c_24]; decide +kernel) (by decide) ?_
        refine lv_aload_n hx hb dX12_person_144 rfl (lv_at hl 0 rfl) ?_
        refine q_get X hK h_6 0 rfl rfl wf_12 1 (by decide) rfl wm_5_171 dX12_person_145 ?_
        refine lv_bipush (v := 53) hx hb dX12_person_148 (by decide) ?_
        refine q_iald X hK h_6 1 rfl (q_in (by decide +kernel)) dX12_person_150 ?_
        refine q_any (fun z_25 hz_25 => ?_)
        refine lv_i2l hx hb dX12_person_151 rfl ?_
        obtain ⟨z_26, ez_26, hz_26⟩ := e_i2l (x := z_25) rfl
        refine q_cl z_26 ez_26 ?_
        clear ez_26
        refine lv_iload_n hx hb dX12_person_152 rfl (lv_at hl 1 rfl) ?_
        refine q_callSi (rest := []) (wr := (wk_e1f596b07 cy h0 0 h1 w0 w1 w2 p3 p4 p5 p6 p7 p8 p9 p10 p11 p12 p13 w3 w4 w5 w6 w7 p14 p15 w8 w9 w10 p16 p17 w11 w12 w13 w14 w15 p18 w16 w17 w18 h1 f0)) X hK hT hA h_6 (fun sz => gX12_isIn_b0455a8 l D cy z_26 p0 ⟨by omega, by omega⟩ ⟨by omega, by omega⟩ sz) wm_6_167 wm_6_169 wm_1_12 hd_X12_isIn wm_6_168 ⟨Nat.le_of_ble_eq_true rfl, Nat.le_of_ble_eq_true rfl⟩ hl.1 rfl (Nat.le_of_ble_eq_true rfl) dX12_person_153 ⟨Nat.le_of_ble_eq_true rfl, Nat.le_of_ble_eq_true rfl⟩ [] [0, 1] rfl rfl (by decide) rfl rfl (fun r_27 u_27 H locs w_27 h_27 => ?_)
        clear h_6
        obtain ⟨wr_27, _⟩ := w_27
        replace h_27 : qW D _ _ (wk_e1f596b07 cy h0 0 h1 w0 w1 w2 p3 p4 p5 p6 p7 p8 p9 p10 p11 p12 p13 w3 w4 w5 w6 w7 p14 p15 w8 w9 w10 p16 p17 w11 w12 w13 w14 w15 p18 w16 w17 w18 h1 f0) _ _ := h_27
        refine q_jn (pc2 := 164) (fun H locs ls st => ∃ v164_28_0 : Int32, (0 ≤ (v164_28_0).toInt ∧ (v164_28_0).toInt ≤ 1) ∧ st = [.int v164_28_0] ∧ qW D (va_A (wk_e1f596b07 cy h0 p2 h1 w0 w1 w2 p3 p4 p5 p6 p7 p8 p9 p10 p11 p12 p13 w3 w4 w5 w6 w7 p14 p15 w8 w9 w10 p16 p17 w11 w12 w13 w14 w15 p18 w16 w17 w18 h1 f0) sz) s.heap (wk_e1f596b07 cy h0 0 h1 w0 w1 w2 p3 p4 p5 p6 p7 p8 p9 p10 p11 p12 p13 w3 w4 w5 w6 w7 p14 p15 w8 w9 w10 p16 p17 w11 w12 w13 w14 w15 p18 w16 w17 w18 h1 f0) H locs ∧ lv_has ls 3 [(0, .ref h0), (1, .int p0), (2, .int p1)]) (fun H locs ls st hP => ?_) (fun J_164 => ?_)
        · obtain ⟨v164_28_0, hv164_28_0, rfl, h, hl⟩ := hP
          exact q_iret X hr hlk hK h rfl (fun _ => 0, (vcons (fun _ => 0) (fun _ => (fun _ => 0))), fun _ _ => 0) ⟨(bw hv164_28_0 (by decide) (by decide)), (⟨by decide +kernel, by decide +kernel⟩ : 0 ≤ (0 : Int32).toInt ∧ (0 : Int32).toInt ≤ 0), trivial⟩ [0, 1] rfl rfl dX12_person_164 (Nat.le_of_ble_eq_true rfl) (Nat.le_of_ble_eq_true rfl)
        · skip
          refine lv_if_eq (tgt := 163) hx hb dX12_person_156 (by decide) (fun c_29 => ?_) (fun c_29 => ?_)
          · replace c_29 := i_eq (x := r_27) (y := 0) rfl (show (0 : Int32).toInt = 0 by decide) c_29
            refine lv_iconst (v := 0) hx hb dX12_person_163 (by decide) ?_
            exact J_164 _ _ _ _ ⟨0, ⟨by decide +kernel, by decide +kernel⟩, rfl, h_27, (lv_sub hl [0, 1, 2] rfl)⟩
          · replace c_29 := i_ne (x := r_27) (y := 0) rfl (show (0 : Int32).toInt = 0 by decide) c_29
            refine lv_iconst (v := 1) hx hb dX12_person_159 (by decide) ?_
            refine lv_goto (tgt := 164) hx hb dX12_person_160 (by decide) ?_
            exact J_164 _ _ _ _ ⟨1, ⟨by decide +kernel, by decide +kernel⟩, rfl, h_27, (lv_sub hl [0, 1, 2] rfl)⟩
      by_cases c_30 : p1 = 8
      · have ec_30 : (p1).toInt = 8 := by rw [c_30]; decide
        refine lv_tableIn (off := 121) (tgt := 165) hx hb dX12_person_44 (by rw [c_30]; decide +kernel) (by rw [c_30]; decide +kernel) (by rw [c_30]; decide +kernel) (by decide) ?_
        refine lv_aload_n hx hb dX12_person_165 rfl (lv_at hl 0 rfl) ?_
        refine q_callVi (rest := []) (wr := []) X hK hT hA h_6 (fun sz => gX12_townNow_2907b4b l D cy h0 h1 (0 : Int32) w0 w1 w2 p3 p4 p5 p6 p7 p8 p9 p10 p11 p12 p13 w3 w4 w5 w6 w7 p14 p15 w8 w9 w10 p16 p17 w11 w12 w13 w14 w15 p18 w16 w17 w18 f0 p19 ⟨by decide +kernel, by decide +kernel⟩ hp3 hp4 hp5 hp6 (i_rng _) hp8 (i_rng _) (i_rng _) (i_rng _) (i_rng _) (i_rng _) (i_rng _) (i_rng _) (i_rng _) (i_rng _) (i_rng _) hp19 htf0_84 rf0 sz) wm_6_170 wm_6_173 wm_1_12 hd_X12_townNow wm_6_172 wp_5_9 (ci := 12) (q0 := 0) rfl rfl ⟨Nat.le_of_ble_eq_true rfl, Nat.le_of_ble_eq_true rfl⟩ hl.1 rfl (Nat.le_of_ble_eq_true rfl) dX12_person_166 ⟨Nat.le_of_ble_eq_true rfl, Nat.le_of_ble_eq_true rfl⟩ [0, 1] [] rfl rfl (by decide) rfl rfl (fun r_31 u_31 H locs w_31 h_31 => ?_)
        clear h_6
        obtain ⟨wr_31, _⟩ := w_31
        replace h_31 : qW D _ _ (wk_e1f596b07 cy h0 0 h1 w0 w1 w2 p3 p4 p5 p6 p7 p8 p9 p10 p11 p12 p13 w3 w4 w5 w6 w7 p14 p15 w8 w9 w10 p16 p17 w11 w12 w13 w14 w15 p18 w16 w17 w18 h1 f0) _ _ := h_31
        refine lv_i2l hx hb dX12_person_169 rfl ?_
        obtain ⟨z_32, ez_32, hz_32⟩ := e_i2l (x := r_31) rfl
        refine q_cl z_32 ez_32 ?_
        clear ez_32
        refine lv_iload_n hx hb dX12_person_170 rfl (lv_at hl 1 rfl) ?_
        refine q_callSi (rest := []) (wr := (wk_e1f596b07 cy h0 0 h1 w0 w1 w2 p3 p4 p5 p6 p7 p8 p9 p10 p11 p12 p13 w3 w4 w5 w6 w7 p14 p15 w8 w9 w10 p16 p17 w11 w12 w13 w14 w15 p18 w16 w17 w18 h1 f0)) X hK hT hA h_31 (fun sz => gX12_isIn_b0455a8 l D cy z_32 p0 ⟨by omega, by omega⟩ ⟨by omega, by omega⟩ sz) wm_6_167 wm_6_169 wm_1_12 hd_X12_isIn wm_6_168 ⟨Nat.le_of_ble_eq_true rfl, Nat.le_of_ble_eq_true rfl⟩ hl.1 rfl (Nat.le_of_ble_eq_true rfl) dX12_person_171 ⟨Nat.le_of_ble_eq_true rfl, Nat.le_of_ble_eq_true rfl⟩ [] [0, 1] rfl rfl (by decide) rfl rfl (fun r_33 u_33 H locs w_33 h_33 => ?_)
        clear h_31
        obtain ⟨wr_33, _⟩ := w_33
        replace h_33 : qW D _ _ (wk_e1f596b07 cy h0 0 h1 w0 w1 w2 p3 p4 p5 p6 p7 p8 p9 p10 p11 p12 p13 w3 w4 w5 w6 w7 p14 p15 w8 w9 w10 p16 p17 w11 w12 w13 w14 w15 p18 w16 w17 w18 h1 f0) _ _ := h_33
        refine q_jn (pc2 := 182) (fun H locs ls st => ∃ v182_34_0 : Int32, (0 ≤ (v182_34_0).toInt ∧ (v182_34_0).toInt ≤ 1) ∧ st = [.int v182_34_0] ∧ qW D (va_A (wk_e1f596b07 cy h0 p2 h1 w0 w1 w2 p3 p4 p5 p6 p7 p8 p9 p10 p11 p12 p13 w3 w4 w5 w6 w7 p14 p15 w8 w9 w10 p16 p17 w11 w12 w13 w14 w15 p18 w16 w17 w18 h1 f0) sz) s.heap (wk_e1f596b07 cy h0 0 h1 w0 w1 w2 p3 p4 p5 p6 p7 p8 p9 p10 p11 p12 p13 w3 w4 w5 w6 w7 p14 p15 w8 w9 w10 p16 p17 w11 w12 w13 w14 w15 p18 w16 w17 w18 h1 f0) H locs ∧ lv_has ls 3 [(0, .ref h0), (1, .int p0), (2, .int p1)]) (fun H locs ls st hP => ?_) (fun J_182 => ?_)
        · obtain ⟨v182_34_0, hv182_34_0, rfl, h, hl⟩ := hP
          exact q_iret X hr hlk hK h rfl (fun _ => 0, (vcons (fun _ => 0) (fun _ => (fun _ => 0))), fun _ _ => 0) ⟨(bw hv182_34_0 (by decide) (by decide)), (⟨by decide +kernel, by decide +kernel⟩ : 0 ≤ (0 : Int32).toInt ∧ (0 : Int32).toInt ≤ 0), trivial⟩ [0, 1] rfl rfl dX12_person_182 (Nat.le_of_ble_eq_true rfl) (Nat.le_of_ble_eq_true rfl)
        · skip
          refine lv_if_eq (tgt := 181) hx hb dX12_person_174 (by decide) (fun c_35 => ?_) (fun c_35 => ?_)
          · replace c_35 := i_eq (x := r_33) (y := 0) rfl (show (0 : Int32).toInt = 0 by decide) c_35
            refine lv_iconst (v := 0) hx hb dX12_person_181 (by decide) ?_
            exact J_182 _ _ _ _ ⟨0, ⟨by decide +kernel, by decide +kernel⟩, rfl, h_33, (lv_sub hl [0, 1, 2] rfl)⟩
          · replace c_35 := i_ne (x := r_33) (y := 0) rfl (show (0 : Int32).toInt = 0 by decide) c_35
            refine lv_iconst (v := 1) hx hb dX12_person_177 (by decide) ?_
            refine lv_goto (tgt := 182) hx hb dX12_person_178 (by decide) ?_
            exact J_182 _ _ _ _ ⟨1, ⟨by decide +kernel, by decide +kernel⟩, rfl, h_33, (lv_sub hl [0, 1, 2] rfl)⟩
      have nc_8 := lv_neT c_8 (show (3 : Int32).toInt = 3 by decide)
      have nc_11 := lv_neT c_11 (show (4 : Int32).toInt = 4 by decide)
      have nc_18 := lv_neT c_18 (show (5 : Int32).toInt = 5 by decide)
      have nc_21 := lv_neT c_21 (show (6 : Int32).toInt = 6 by decide)
      have nc_24 := lv_neT c_24 (show (7 : Int32).toInt = 7 by decide)
      have nc_30 := lv_neT c_30 (show (8 : Int32).toInt = 8 by decide)
      refine lv_tableOut (tgt := 183) hx hb dX12_person_44 (by omega) (by decide) ?_
      refine lv_bipush (v := (-2)) hx hb dX12_person_183 (by decide) ?_
      exact q_iret X hr hlk hK h_6 rfl (fun _ => 0, (vcons (fun _ => 0) (fun _ => (fun _ => 0))), fun _ _ => 0) ⟨⟨by decide +kernel, by decide +kernel⟩, (⟨by decide +kernel, by decide +kernel⟩ : 0 ≤ (0 : Int32).toInt ∧ (0 : Int32).toInt ≤ 0), trivial⟩ [0, 1] rfl rfl dX12_person_185 (Nat.le_of_ble_eq_true rfl) (Nat.le_of_ble_eq_true rfl)
    · replace c_7 := i_ne (x := r_6) (y := 0) rfl (show (0 : Int32).toInt = 0 by decide) c_7
      replace y6_0 := a10_1 y6_0 c_7
      refine lv_aload_n hx hb dX12_person_29 rfl (lv_at hl 0 rfl) ?_
      refine q_get X hK h_6 0 rfl rfl wf_12 1 (by decide) rfl wm_5_171 dX12_person_30 ?_
      refine lv_bipush (v := 54) hx hb dX12_person_33 (by decide) ?_
      refine lv_iconst (v := 3) hx hb dX12_person_35 (by decide) ?_
      refine lv_iload_n hx hb dX12_person_36 rfl (lv_at hl 1 rfl) ?_
      refine lv_imul hx hb dX12_person_37 ?_
      obtain ⟨z_36, ez_36, hz_36⟩ := e_mul (x := 3) (y := p0) (show (3 : Int32).toInt = 3 by decide) rfl (by omega) (by omega)
      refine q_c z_36 ez_36 ?_
      clear ez_36
      refine lv_iadd hx hb dX12_person_38 ?_
      obtain ⟨z_37, ez_37, hz_37⟩ := e_add (x := 54) (y := z_36) (show (54 : Int32).toInt = 54 by decide) rfl (by omega) (by omega)
      refine q_c z_37 ez_37 ?_
      clear ez_37
      refine lv_iload_n hx hb dX12_person_39 rfl (lv_at hl 2 rfl) ?_
      refine lv_iadd hx hb dX12_person_40 ?_
      obtain ⟨z_38, ez_38, hz_38⟩ := e_add (x := z_37) (y := p1) rfl rfl (by omega) (by omega)
      refine q_c z_38 ez_38 ?_
      clear ez_38
      refine q_iald X hK h_6 1 rfl (i_in rfl (by omega) (by omega)) dX12_person_41 ?_
      obtain ⟨z_39, ez_39, hz_39⟩ := al_W rf0 (x := z_38) rfl (by omega) (by omega)
      refine q_c z_39 ez_39 ?_
      clear ez_39
      exact q_iret X hr hlk hK h_6 rfl (fun _ => 0, (vcons (fun _ => 0) (fun _ => (fun _ => 0))), fun _ _ => 0) ⟨⟨by omega, by omega⟩, (⟨by decide +kernel, by decide +kernel⟩ : 0 ≤ (0 : Int32).toInt ∧ (0 : Int32).toInt ≤ 0), trivial⟩ [0, 1] rfl rfl dX12_person_42 (Nat.le_of_ble_eq_true rfl) (Nat.le_of_ble_eq_true rfl)
  · replace c_4 := i_eq (x := r_3) (y := 0) rfl (show (0 : Int32).toInt = 0 by decide) c_4
    refine lv_bipush (v := (-2)) hx hb dX12_person_14 (by decide) ?_
    exact q_iret X hr hlk hK h_3 rfl (fun _ => 0, (vcons (fun _ => 0) (fun _ => (fun _ => 0))), fun _ _ => 0) ⟨⟨by decide +kernel, by decide +kernel⟩, (⟨by decide +kernel, by decide +kernel⟩ : 0 ≤ (0 : Int32).toInt ∧ (0 : Int32).toInt ≤ 0), trivial⟩ [0, 1] rfl rfl dX12_person_16 (Nat.le_of_ble_eq_true rfl) (Nat.le_of_ble_eq_true rfl)
set_option maxHeartbeats 4000000 in
set_option maxRecDepth 100000 in
theorem gX12_town_98d5f2e (l : Launch) (D : va_G) (cy : Nat → ClassId) (h0 : Nat) (h1 : Nat) (p0 : Int32) (p1 : Int32) (w0 : Value) (w1 : Value) (w2 : Value) (p2 : Int32) (p3 : Int32) (p4 : Int32) (p5 : Int32) (p6 : Int32) (p7 : Int32) (p8 : Int32) (p9 : Int32) (p10 : Int32) (p11 : Int32) (p12 : Int32) (w3 : Value) (w4 : Value) (w5 : Value) (w6 : Value) (w7 : Value) (p13 : Int32) (p14 : Int32) (w8 : Value) (w9 : Value) (w10 : Value) (p15 : Int32) (p16 : Int32) (w11 : Value) (w12 : Value) (w13 : Value) (w14 : Value) (w15 : Value) (p17 : Int32) (w16 : Value) (w17 : Value) (w18 : Value) (f0 : Nat → Int32) (p18 : Int32) (hp0 : (-2147483648) ≤ (p0).toInt ∧ (p0).toInt ≤ 2147483647) (hp1 : (-2147483648) ≤ (p1).toInt ∧ (p1).toInt ≤ 2147483647) (hp2 : 0 ≤ (p2).toInt ∧ (p2).toInt ≤ 900) (hp3 : 0 ≤ (p3).toInt ∧ (p3).toInt ≤ 900) (hp4 : 0 ≤ (p4).toInt ∧ (p4).toInt ≤ 900) (hp5 : 0 ≤ (p5).toInt ∧ (p5).toInt ≤ 900) (hp6 : (-2147483648) ≤ (p6).toInt ∧ (p6).toInt ≤ 2147483647) (hp7 : 0 ≤ (p7).toInt ∧ (p7).toInt ≤ 999) (hp8 : (-2147483648) ≤ (p8).toInt ∧ (p8).toInt ≤ 2147483647) (hp9 : (-2147483648) ≤ (p9).toInt ∧ (p9).toInt ≤ 2147483647) (hp10 : (-2147483648) ≤ (p10).toInt ∧ (p10).toInt ≤ 2147483647) (hp11 : (-2147483648) ≤ (p11).toInt ∧ (p11).toInt ≤ 2147483647) (hp12 : (-2147483648) ≤ (p12).toInt ∧ (p12).toInt ≤ 2147483647) (hp13 : (-2147483648) ≤ (p13).toInt ∧ (p13).toInt ≤ 2147483647) (hp14 : (-2147483648) ≤ (p14).toInt ∧ (p14).toInt ≤ 2147483647) (hp15 : (-2147483648) ≤ (p15).toInt ∧ (p15).toInt ≤ 2147483647) (hp16 : (-2147483648) ≤ (p16).toInt ∧ (p16).toInt ≤ 2147483647) (hp17 : (-2147483648) ≤ (p17).toInt ∧ (p17).toInt ≤ 2147483647) (hp18 : 0 ≤ (p18).toInt ∧ (p18).toInt ≤ 10) (htf0_84 : f0 84 = p18) (rf0 : AL f0) (sz : Nat) : MI l yX12_town cX12_town 2 .int { frames := 2, cells := 0, slots := 0, locals := 48 } [.ref h0, .int p0] D cy (wk_e1f596b07 cy h0 p1 h1 w0 w1 w2 p2 p3 p4 p5 p6 p7 p8 p9 p10 p11 p12 w3 w4 w5 w6 w7 p13 p14 w8 w9 w10 p15 p16 w11 w12 w13 w14 w15 p17 w16 w17 w18 h1 f0) sz (fun r u => ((-3) ≤ r.toInt ∧ r.toInt ≤ 1023) ∧ (0 ≤ (u.2.1 0 0).toInt ∧ (u.2.1 0 0).toInt ≤ 0) ∧ True) (fun u => (wk_e1f596b07 cy h0 (u.2.1 0 0) h1 w0 w1 w2 p2 p3 p4 p5 p6 p7 p8 p9 p10 p11 p12 w3 w4 w5 w6 w7 p13 p14 w8 w9 w10 p15 p16 w11 w12 w13 w14 w15 p17 w16 w17 w18 h1 f0)) 0 0 := by
  refine q_ent (own := RX12) (by decide) rfl (Nat.le_of_ble_eq_true rfl) (fun p e s m below meth c ls X hr hlk hnm hK hT h hA hl => ?_)
  obtain ⟨hx, hb, hml, hown, ht⟩ := id X
  replace hl : lv_has ls 2 [(0, .ref h0), (1, .int p0)] := hl
  refine lv_aload_n hx hb dX12_town_0 rfl (lv_at hl 0 rfl) ?_
  refine lv_iconst (v := 0) hx hb dX12_town_1 (by decide) ?_
  refine q_put (v := .int 0) X hK h 0 rfl rfl wf_12 tyX12 tyX12_ok nmX12 0 (by decide) wm_5_170 rfl rfl rfl (Nat.le_of_ble_eq_true rfl) dX12_town_2 (fun H locs h_1 => ?_)
  clear h
  replace h_1 : qW D _ _ (wk_e1f596b07 cy h0 0 h1 w0 w1 w2 p2 p3 p4 p5 p6 p7 p8 p9 p10 p11 p12 w3 w4 w5 w6 w7 p13 p14 w8 w9 w10 p15 p16 w11 w12 w13 w14 w15 p17 w16 w17 w18 h1 f0) _ _ := h_1
  refine lv_iload_n hx hb dX12_town_5 rfl (lv_at hl 1 rfl) ?_
  refine lv_i2l hx hb dX12_town_6 rfl ?_
  obtain ⟨z_2, ez_2, hz_2⟩ := e_i2l (x := p0) rfl
  refine q_cl z_2 ez_2 ?_
  clear ez_2
  refine lv_lconst (v := 0) hx hb dX12_town_7 (by decide) ?_
  refine lv_ldc2 hx hb hown (ht _ wm_6_182) dX12_town_8 ?_
  refine q_callSi (rest := []) (wr := (wk_e1f596b07 cy h0 0 h1 w0 w1 w2 p2 p3 p4 p5 p6 p7 p8 p9 p10 p11 p12 w3 w4 w5 w6 w7 p13 p14 w8 w9 w10 p15 p16 w11 w12 w13 w14 w15 p17 w16 w17 w18 h1 f0)) X hK hT hA h_1 (fun sz => gX12_within_00c7897 l D cy z_2 (0 : Int64) (999 : Int64) (j_rng _) ⟨by decide +kernel, by decide +kernel⟩ ⟨by decide +kernel, by decide +kernel⟩ sz) wm_6_50 wm_6_52 wm_1_12 hd_X12_within wm_6_51 ⟨Nat.le_of_ble_eq_true rfl, Nat.le_of_ble_eq_true rfl⟩ hl.1 rfl (Nat.le_of_ble_eq_true rfl) dX12_town_11 ⟨Nat.le_of_ble_eq_true rfl, Nat.le_of_ble_eq_true rfl⟩ [] [0, 1] rfl rfl (by decide) rfl rfl (fun r_3 u_3 H locs w_3 h_3 => ?_)
  clear h_1
  obtain ⟨wr_3, y3_0, _⟩ := w_3
  have lq_3_1 : (0 : Int64).toInt = 0 := (by decide)
  have lq_3_2 : (999 : Int64).toInt = 999 := (by decide)
  replace h_3 : qW D _ _ (wk_e1f596b07 cy h0 0 h1 w0 w1 w2 p2 p3 p4 p5 p6 p7 p8 p9 p10 p11 p12 w3 w4 w5 w6 w7 p13 p14 w8 w9 w10 p15 p16 w11 w12 w13 w14 w15 p17 w16 w17 w18 h1 f0) _ _ := h_3
  refine q_jn (pc2 := 35) (fun H locs ls st => ∃ v35_4_0 : Int32, ((-3) ≤ (v35_4_0).toInt ∧ (v35_4_0).toInt ≤ 1023) ∧ st = [.int v35_4_0] ∧ qW D (va_A (wk_e1f596b07 cy h0 p1 h1 w0 w1 w2 p2 p3 p4 p5 p6 p7 p8 p9 p10 p11 p12 w3 w4 w5 w6 w7 p13 p14 w8 w9 w10 p15 p16 w11 w12 w13 w14 w15 p17 w16 w17 w18 h1 f0) sz) s.heap (wk_e1f596b07 cy h0 0 h1 w0 w1 w2 p2 p3 p4 p5 p6 p7 p8 p9 p10 p11 p12 w3 w4 w5 w6 w7 p13 p14 w8 w9 w10 p15 p16 w11 w12 w13 w14 w15 p17 w16 w17 w18 h1 f0) H locs ∧ lv_has ls 2 [(0, .ref h0), (1, .int p0)]) (fun H locs ls st hP => ?_) (fun J_35 => ?_)
  · obtain ⟨v35_4_0, hv35_4_0, rfl, h, hl⟩ := hP
    exact q_iret X hr hlk hK h rfl (fun _ => 0, (vcons (fun _ => 0) (fun _ => (fun _ => 0))), fun _ _ => 0) ⟨hv35_4_0, (⟨by decide +kernel, by decide +kernel⟩ : 0 ≤ (0 : Int32).toInt ∧ (0 : Int32).toInt ≤ 0), trivial⟩ [0, 1] rfl rfl dX12_town_35 (Nat.le_of_ble_eq_true rfl) (Nat.le_of_ble_eq_true rfl)
  · skip
    refine lv_if_eq (tgt := 33) hx hb dX12_town_14 (by decide) (fun c_5 => ?_) (fun c_5 => ?_)
    · replace c_5 := i_eq (x := r_3) (y := 0) rfl (show (0 : Int32).toInt = 0 by decide) c_5
      replace y3_0 := a10_0 y3_0 c_5
      refine lv_bipush (v := (-3)) hx hb dX12_town_33 (by decide) ?_
      exact J_35 _ _ _ _ ⟨(-3), ⟨by decide +kernel, by decide +kernel⟩, rfl, h_3, (lv_sub hl [0, 1] rfl)⟩
    · replace c_5 := i_ne (x := r_3) (y := 0) rfl (show (0 : Int32).toInt = 0 by decide) c_5
      replace y3_0 := a10_1 y3_0 c_5
      refine lv_aload_n hx hb dX12_town_17 rfl (lv_at hl 0 rfl) ?_
      refine lv_aload_n hx hb dX12_town_18 rfl (lv_at hl 0 rfl) ?_
      refine q_get X hK h_3 0 rfl rfl wf_12 1 (by decide) rfl wm_5_171 dX12_town_19 ?_
      refine lv_bipush (v := 52) hx hb dX12_town_22 (by decide) ?_
      refine q_iald X hK h_3 1 rfl (q_in (by decide +kernel)) dX12_town_24 ?_
      refine q_any (fun z_6 hz_6 => ?_)
      refine lv_iload_n hx hb dX12_town_25 rfl (lv_at hl 1 rfl) ?_
      refine lv_iadd hx hb dX12_town_26 ?_
      refine q_any (fun z_7 hz_7 => ?_)
      refine q_callVi (rest := []) (wr := []) X hK hT hA h_3 (fun sz => gX12_townOn_aa3becc l D cy h0 h1 z_7 (0 : Int32) w0 w1 w2 p2 p3 p4 p5 p6 p7 p8 p9 p10 p11 p12 w3 w4 w5 w6 w7 p13 p14 w8 w9 w10 p15 p16 w11 w12 w13 w14 w15 p17 w16 w17 w18 f0 p18 (i_rng _) ⟨by decide +kernel, by decide +kernel⟩ hp2 hp3 hp4 hp5 (i_rng _) hp7 (i_rng _) (i_rng _) (i_rng _) (i_rng _) (i_rng _) (i_rng _) (i_rng _) (i_rng _) (i_rng _) (i_rng _) hp18 htf0_84 rf0 sz) wm_6_174 wm_6_177 wm_1_12 hd_X12_townOn wm_6_176 wp_5_10 (ci := 12) (q0 := 0) rfl rfl ⟨Nat.le_of_ble_eq_true rfl, Nat.le_of_ble_eq_true rfl⟩ hl.1 rfl (Nat.le_of_ble_eq_true rfl) dX12_town_27 ⟨Nat.le_of_ble_eq_true rfl, Nat.le_of_ble_eq_true rfl⟩ [0, 1] [] rfl rfl (by decide) rfl rfl (fun r_8 u_8 H locs w_8 h_8 => ?_)
      clear h_3
      obtain ⟨wr_8, _⟩ := w_8
      replace h_8 : qW D _ _ (wk_e1f596b07 cy h0 0 h1 w0 w1 w2 p2 p3 p4 p5 p6 p7 p8 p9 p10 p11 p12 w3 w4 w5 w6 w7 p13 p14 w8 w9 w10 p15 p16 w11 w12 w13 w14 w15 p17 w16 w17 w18 h1 f0) _ _ := h_8
      refine lv_goto (tgt := 35) hx hb dX12_town_30 (by decide) ?_
      exact J_35 _ _ _ _ ⟨r_8, (bw wr_8 (by decide) (by decide)), rfl, h_8, (lv_sub hl [0, 1] rfl)⟩
set_option maxHeartbeats 4000000 in
set_option maxRecDepth 100000 in
theorem gX12_asks_64a3bea (l : Launch) (D : va_G) (cy : Nat → ClassId) (h0 : Nat) (h1 : Nat) (h2 : Nat) (p0 : Int32) (p1 : Int32) (p2 : Int32) (p3 : Int32) (w0 : Value) (w1 : Value) (w2 : Value) (p4 : Int32) (p5 : Int32) (p6 : Int32) (p7 : Int32) (p8 : Int32) (p9 : Int32) (p10 : Int32) (p11 : Int32) (p12 : Int32) (p13 : Int32) (p14 : Int32) (w3 : Value) (w4 : Value) (w5 : Value) (w6 : Value) (p15 : Int32) (p16 : Int32) (w7 : Value) (w8 : Value) (w9 : Value) (p17 : Int32) (p18 : Int32) (w10 : Value) (w11 : Value) (w12 : Value) (w13 : Value) (w14 : Value) (p19 : Int32) (w15 : Value) (w16 : Value) (w17 : Value) (f0 : Nat → Int32) (p20 : Int32) (f1 : Nat → Int32) (hp0 : 0 ≤ (p0).toInt ∧ (p0).toInt ≤ 9) (hp1 : 0 ≤ (p1).toInt ∧ (p1).toInt ≤ 9) (hp2 : (-2147483648) ≤ (p2).toInt ∧ (p2).toInt ≤ 2147483647) (hp3 : 0 ≤ (p3).toInt ∧ (p3).toInt ≤ 0) (hp4 : 0 ≤ (p4).toInt ∧ (p4).toInt ≤ 900) (hp5 : 0 ≤ (p5).toInt ∧ (p5).toInt ≤ 900) (hp6 : 0 ≤ (p6).toInt ∧ (p6).toInt ≤ 900) (hp7 : 0 ≤ (p7).toInt ∧ (p7).toInt ≤ 900) (hp8 : (-2147483648) ≤ (p8).toInt ∧ (p8).toInt ≤ 2147483647) (hp9 : 0 ≤ (p9).toInt ∧ (p9).toInt ≤ 999) (hp10 : (-2147483648) ≤ (p10).toInt ∧ (p10).toInt ≤ 2147483647) (hp11 : (-2147483648) ≤ (p11).toInt ∧ (p11).toInt ≤ 2147483647) (hp12 : (-2147483648) ≤ (p12).toInt ∧ (p12).toInt ≤ 2147483647) (hp13 : (-2147483648) ≤ (p13).toInt ∧ (p13).toInt ≤ 2147483647) (hp14 : (-2147483648) ≤ (p14).toInt ∧ (p14).toInt ≤ 2147483647) (hp15 : (-2147483648) ≤ (p15).toInt ∧ (p15).toInt ≤ 2147483647) (hp16 : (-2147483648) ≤ (p16).toInt ∧ (p16).toInt ≤ 2147483647) (hp17 : (-2147483648) ≤ (p17).toInt ∧ (p17).toInt ≤ 2147483647) (hp18 : (-2147483648) ≤ (p18).toInt ∧ (p18).toInt ≤ 2147483647) (hp19 : (-2147483648) ≤ (p19).toInt ∧ (p19).toInt ≤ 2147483647) (hp20 : 0 ≤ (p20).toInt ∧ (p20).toInt ≤ 10) (htf0_84 : f0 84 = p20) (rf0 : AL f0) (sz : Nat) : MV l yX12_asks cX12_asks 5 { frames := 0, cells := 0, slots := 0, locals := 0 } [.ref h0, .int p0, .int p1, .int p2] D cy (wk_177a9dc22 cy h0 p3 h1 w0 w1 w2 p4 p5 p6 p7 p8 p9 p10 p11 p12 p13 p14 w3 h2 w4 w5 w6 p15 p16 w7 w8 w9 p17 p18 w10 w11 w12 w13 w14 p19 w15 w16 w17 h1 f0 h2 f1) sz (fun u => True) (fun u => (wk_177a9dc22 cy h0 p3 h1 w0 w1 w2 p4 p5 p6 p7 p8 p9 p10 p11 p12 p13 p14 w3 h2 w4 w5 w6 p15 p16 w7 w8 w9 p17 p18 w10 w11 w12 w13 w14 p19 w15 w16 w17 h1 f0 h2 (u.2.1 0))) 0 0 := by
  refine q_ent (own := RX12) (by decide) rfl (Nat.le_of_ble_eq_true rfl) (fun p e s m below meth c ls X hr hlk hnm hK hT h hA hl => ?_)
  obtain ⟨hx, hb, hml, hown, ht⟩ := id X
  replace hl : lv_has ls 5 [(0, .ref h0), (1, .int p0), (2, .int p1), (3, .int p2)] := hl
  refine lv_iconst (v := 0) hx hb dX12_asks_0 (by decide) ?_
  refine lv_istore (lv' := [(4, .int 0), (0, .ref h0), (1, .int p0), (2, .int p1), (3, .int p2)]) hx hb dX12_asks_1 hl (by decide) rfl (fun ls_1 hl_1 => ?_)
  clear hl
  refine lv_iload hx hb dX12_asks_3 (lv_at hl_1 0 rfl) ?_
  refine lv_iconst (v := 3) hx hb dX12_asks_5 (by decide) ?_
  refine lv_icmp_ge (tgt := 59) hx hb dX12_asks_6 (by decide) (fun c => absurd c (by decide +kernel)) (fun _ => ?_)
  refine lv_aload_n hx hb dX12_asks_9 rfl (lv_at hl_1 1 rfl) ?_
  refine q_get X hK h 0 rfl rfl wf_12 17 (by decide) rfl wm_5_187 dX12_asks_10 ?_
  refine lv_iload hx hb dX12_asks_13 (lv_at hl_1 0 rfl) ?_
  refine lv_aload_n hx hb dX12_asks_15 rfl (lv_at hl_1 1 rfl) ?_
  refine q_get X hK h 0 rfl rfl wf_12 1 (by decide) rfl wm_5_171 dX12_asks_16 ?_
  refine lv_bipush (v := 54) hx hb dX12_asks_19 (by decide) ?_
  refine lv_iconst (v := 3) hx hb dX12_asks_21 (by decide) ?_
  refine lv_iload_n hx hb dX12_asks_22 rfl (lv_at hl_1 2 rfl) ?_
  refine lv_imul hx hb dX12_asks_23 ?_
  obtain ⟨z_2, ez_2, hz_2⟩ := e_mul (x := 3) (y := p0) (show (3 : Int32).toInt = 3 by decide) rfl (by omega) (by omega)
  refine q_c z_2 ez_2 ?_
  clear ez_2
  refine lv_iadd hx hb dX12_asks_24 ?_
  obtain ⟨z_3, ez_3, hz_3⟩ := e_add (x := 54) (y := z_2) (show (54 : Int32).toInt = 54 by decide) rfl (by omega) (by omega)
  refine q_c z_3 ez_3 ?_
  clear ez_3
  refine lv_iload hx hb dX12_asks_25 (lv_at hl_1 0 rfl) ?_
  refine lv_iadd hx hb dX12_asks_27 ?_
  obtain ⟨z_4, ez_4, hz_4⟩ := e_add (x := z_3) (y := 0) rfl (show (0 : Int32).toInt = 0 by decide) (by omega) (by omega)
  refine q_c z_4 ez_4 ?_
  clear ez_4
  refine q_iald X hK h 1 rfl (i_in rfl (by omega) (by omega)) dX12_asks_28 ?_
  obtain ⟨z_5, ez_5, hz_5⟩ := al_W rf0 (x := z_4) rfl (by omega) (by omega)
  refine q_c z_5 ez_5 ?_
  clear ez_5
  refine q_iast X hK h 2 rfl (q_in (by decide +kernel)) dX12_asks_29 (fun H locs h_7 => ?_)
  clear h
  replace h_7 : qW D _ _ (wk_177a9dc22 cy h0 p3 h1 w0 w1 w2 p4 p5 p6 p7 p8 p9 p10 p11 p12 p13 p14 w3 h2 w4 w5 w6 p15 p16 w7 w8 w9 p17 p18 w10 w11 w12 w13 w14 p19 w15 w16 w17 h1 f0 h2 (upd f1 (Int32.toNatClampNeg 0) z_5)) _ _ := h_7
  obtain ⟨F_6, eF_6⟩ : ∃ z, (upd f1 (Int32.toNatClampNeg 0) z_5) = z := ⟨_, rfl⟩
  rw [eF_6] at h_7
  clear eF_6
  refine lv_aload_n hx hb dX12_asks_30 rfl (lv_at hl_1 1 rfl) ?_
  refine q_get X hK h_7 0 rfl rfl wf_12 17 (by decide) rfl wm_5_187 dX12_asks_31 ?_
  refine lv_iconst (v := 5) hx hb dX12_asks_34 (by decide) ?_
  refine lv_iload hx hb dX12_asks_35 (lv_at hl_1 0 rfl) ?_
  refine lv_iadd hx hb dX12_asks_37 ?_
  refine q_c 5 (by decide +kernel) ?_
  refine lv_aload_n hx hb dX12_asks_38 rfl (lv_at hl_1 1 rfl) ?_
  refine q_get X hK h_7 0 rfl rfl wf_12 1 (by decide) rfl wm_5_171 dX12_asks_39 ?_
  refine lv_bipush (v := 54) hx hb dX12_asks_42 (by decide) ?_
  refine lv_iconst (v := 3) hx hb dX12_asks_44 (by decide) ?_
  refine lv_iload_n hx hb dX12_asks_45 rfl (lv_at hl_1 3 rfl) ?_
  refine lv_imul hx hb dX12_asks_46 ?_
  obtain ⟨z_8, ez_8, hz_8⟩ := e_mul (x := 3) (y := p1) (show (3 : Int32).toInt = 3 by decide) rfl (by omega) (by omega)
  refine q_c z_8 ez_8 ?_
  clear ez_8
  refine lv_iadd hx hb dX12_asks_47 ?_
  obtain ⟨z_9, ez_9, hz_9⟩ := e_add (x := 54) (y := z_8) (show (54 : Int32).toInt = 54 by decide) rfl (by omega) (by omega)
  refine q_c z_9 ez_9 ?_
  clear ez_9
  refine lv_iload hx hb dX12_asks_48 (lv_at hl_1 0 rfl) ?_
  refine lv_iadd hx hb dX12_asks_50 ?_
  obtain ⟨z_10, ez_10, hz_10⟩ := e_add (x := z_9) (y := 0) rfl (show (0 : Int32).toInt = 0 by decide) (by omega) (by omega)
  refine q_c z_10 ez_10 ?_
  clear ez_10
  refine q_iald X hK h_7 1 rfl (i_in rfl (by omega) (by omega)) dX12_asks_51 ?_
  obtain ⟨z_11, ez_11, hz_11⟩ := al_W rf0 (x := z_10) rfl (by omega) (by omega)
  refine q_c z_11 ez_11 ?_
  clear ez_11
  refine q_iast X hK h_7 2 rfl (q_in (by decide +kernel)) dX12_asks_52 (fun H locs h_13 => ?_)
  clear h_7
  replace h_13 : qW D _ _ (wk_177a9dc22 cy h0 p3 h1 w0 w1 w2 p4 p5 p6 p7 p8 p9 p10 p11 p12 p13 p14 w3 h2 w4 w5 w6 p15 p16 w7 w8 w9 p17 p18 w10 w11 w12 w13 w14 p19 w15 w16 w17 h1 f0 h2 (upd F_6 (Int32.toNatClampNeg 5) z_11)) _ _ := h_13
  obtain ⟨F_12, eF_12⟩ : ∃ z, (upd F_6 (Int32.toNatClampNeg 5) z_11) = z := ⟨_, rfl⟩
  rw [eF_12] at h_13
  clear eF_12
  refine lv_iinc (v := 1) (lv' := [(4, .int 1), (0, .ref h0), (1, .int p0), (2, .int p1), (3, .int p2)]) hx hb dX12_asks_53 hl_1 (k := 0) rfl (by decide +kernel) (by decide) rfl (fun ls_14 hl_14 => ?_)
  clear hl_1
  refine lv_goto (tgt := 3) hx hb dX12_asks_56 (by decide) ?_
  refine lv_iload hx hb dX12_asks_3 (lv_at hl_14 0 rfl) ?_
  refine lv_iconst (v := 3) hx hb dX12_asks_5 (by decide) ?_
  refine lv_icmp_ge (tgt := 59) hx hb dX12_asks_6 (by decide) (fun c => absurd c (by decide +kernel)) (fun _ => ?_)
  refine lv_aload_n hx hb dX12_asks_9 rfl (lv_at hl_14 1 rfl) ?_
  refine q_get X hK h_13 0 rfl rfl wf_12 17 (by decide) rfl wm_5_187 dX12_asks_10 ?_
  refine lv_iload hx hb dX12_asks_13 (lv_at hl_14 0 rfl) ?_
  refine lv_aload_n hx hb dX12_asks_15 rfl (lv_at hl_14 1 rfl) ?_
  refine q_get X hK h_13 0 rfl rfl wf_12 1 (by decide) rfl wm_5_171 dX12_asks_16 ?_
  refine lv_bipush (v := 54) hx hb dX12_asks_19 (by decide) ?_
  refine lv_iconst (v := 3) hx hb dX12_asks_21 (by decide) ?_
  refine lv_iload_n hx hb dX12_asks_22 rfl (lv_at hl_14 2 rfl) ?_
  refine lv_imul hx hb dX12_asks_23 ?_
  obtain ⟨z_15, ez_15, hz_15⟩ := e_mul (x := 3) (y := p0) (show (3 : Int32).toInt = 3 by decide) rfl (by omega) (by omega)
  refine q_c z_15 ez_15 ?_
  clear ez_15
  refine lv_iadd hx hb dX12_asks_24 ?_
  obtain ⟨z_16, ez_16, hz_16⟩ := e_add (x := 54) (y := z_15) (show (54 : Int32).toInt = 54 by decide) rfl (by omega) (by omega)
  refine q_c z_16 ez_16 ?_
  clear ez_16
  refine lv_iload hx hb dX12_asks_25 (lv_at hl_14 0 rfl) ?_
  refine lv_iadd hx hb dX12_asks_27 ?_
  obtain ⟨z_17, ez_17, hz_17⟩ := e_add (x := z_16) (y := 1) rfl (show (1 : Int32).toInt = 1 by decide) (by omega) (by omega)
  refine q_c z_17 ez_17 ?_
  clear ez_17
  refine q_iald X hK h_13 1 rfl (i_in rfl (by omega) (by omega)) dX12_asks_28 ?_
  obtain ⟨z_18, ez_18, hz_18⟩ := al_W rf0 (x := z_17) rfl (by omega) (by omega)
  refine q_c z_18 ez_18 ?_
  clear ez_18
  refine q_iast X hK h_13 2 rfl (q_in (by decide +kernel)) dX12_asks_29 (fun H locs h_20 => ?_)
  clear h_13
  replace h_20 : qW D _ _ (wk_177a9dc22 cy h0 p3 h1 w0 w1 w2 p4 p5 p6 p7 p8 p9 p10 p11 p12 p13 p14 w3 h2 w4 w5 w6 p15 p16 w7 w8 w9 p17 p18 w10 w11 w12 w13 w14 p19 w15 w16 w17 h1 f0 h2 (upd F_12 (Int32.toNatClampNeg 1) z_18)) _ _ := h_20
  obtain ⟨F_19, eF_19⟩ : ∃ z, (upd F_12 (Int32.toNatClampNeg 1) z_18) = z := ⟨_, rfl⟩
  rw [eF_19] at h_20
  clear eF_19
  refine lv_aload_n hx hb dX12_asks_30 rfl (lv_at hl_14 1 rfl) ?_
  refine q_get X hK h_20 0 rfl rfl wf_12 17 (by decide) rfl wm_5_187 dX12_asks_31 ?_
  refine lv_iconst (v := 5) hx hb dX12_asks_34 (by decide) ?_
  refine lv_iload hx hb dX12_asks_35 (lv_at hl_14 0 rfl) ?_
  refine lv_iadd hx hb dX12_asks_37 ?_
  refine q_c 6 (by decide +kernel) ?_
  refine lv_aload_n hx hb dX12_asks_38 rfl (lv_at hl_14 1 rfl) ?_
  refine q_get X hK h_20 0 rfl rfl wf_12 1 (by decide) rfl wm_5_171 dX12_asks_39 ?_
  refine lv_bipush (v := 54) hx hb dX12_asks_42 (by decide) ?_
  refine lv_iconst (v := 3) hx hb dX12_asks_44 (by decide) ?_
  refine lv_iload_n hx hb dX12_asks_45 rfl (lv_at hl_14 3 rfl) ?_
  refine lv_imul hx hb dX12_asks_46 ?_
  obtain ⟨z_21, ez_21, hz_21⟩ := e_mul (x := 3) (y := p1) (show (3 : Int32).toInt = 3 by decide) rfl (by omega) (by omega)
  refine q_c z_21 ez_21 ?_
  clear ez_21
  refine lv_iadd hx hb dX12_asks_47 ?_
  obtain ⟨z_22, ez_22, hz_22⟩ := e_add (x := 54) (y := z_21) (show (54 : Int32).toInt = 54 by decide) rfl (by omega) (by omega)
  refine q_c z_22 ez_22 ?_
  clear ez_22
  refine lv_iload hx hb dX12_asks_48 (lv_at hl_14 0 rfl) ?_
  refine lv_iadd hx hb dX12_asks_50 ?_
  obtain ⟨z_23, ez_23, hz_23⟩ := e_add (x := z_22) (y := 1) rfl (show (1 : Int32).toInt = 1 by decide) (by omega) (by omega)
  refine q_c z_23 ez_23 ?_
  clear ez_23
  refine q_iald X hK h_20 1 rfl (i_in rfl (by omega) (by omega)) dX12_asks_51 ?_
  obtain ⟨z_24, ez_24, hz_24⟩ := al_W rf0 (x := z_23) rfl (by omega) (by omega)
  refine q_c z_24 ez_24 ?_
  clear ez_24
  refine q_iast X hK h_20 2 rfl (q_in (by decide +kernel)) dX12_asks_52 (fun H locs h_26 => ?_)
  clear h_20
  replace h_26 : qW D _ _ (wk_177a9dc22 cy h0 p3 h1 w0 w1 w2 p4 p5 p6 p7 p8 p9 p10 p11 p12 p13 p14 w3 h2 w4 w5 w6 p15 p16 w7 w8 w9 p17 p18 w10 w11 w12 w13 w14 p19 w15 w16 w17 h1 f0 h2 (upd F_19 (Int32.toNatClampNeg 6) z_24)) _ _ := h_26
  obtain ⟨F_25, eF_25⟩ : ∃ z, (upd F_19 (Int32.toNatClampNeg 6) z_24) = z := ⟨_, rfl⟩
  rw [eF_25] at h_26
  clear eF_25
  refine lv_iinc (v := 2) (lv' := [(4, .int 2), (0, .ref h0), (1, .int p0), (2, .int p1), (3, .int p2)]) hx hb dX12_asks_53 hl_14 (k := 0) rfl (by decide +kernel) (by decide) rfl (fun ls_27 hl_27 => ?_)
  clear hl_14
  refine lv_goto (tgt := 3) hx hb dX12_asks_56 (by decide) ?_
  refine lv_iload hx hb dX12_asks_3 (lv_at hl_27 0 rfl) ?_
  refine lv_iconst (v := 3) hx hb dX12_asks_5 (by decide) ?_
  refine lv_icmp_ge (tgt := 59) hx hb dX12_asks_6 (by decide) (fun c => absurd c (by decide +kernel)) (fun _ => ?_)
  refine lv_aload_n hx hb dX12_asks_9 rfl (lv_at hl_27 1 rfl) ?_
  refine q_get X hK h_26 0 rfl rfl wf_12 17 (by decide) rfl wm_5_187 dX12_asks_10 ?_
  refine lv_iload hx hb dX12_asks_13 (lv_at hl_27 0 rfl) ?_
  refine lv_aload_n hx hb dX12_asks_15 rfl (lv_at hl_27 1 rfl) ?_
  refine q_get X hK h_26 0 rfl rfl wf_12 1 (by decide) rfl wm_5_171 dX12_asks_16 ?_
  refine lv_bipush (v := 54) hx hb dX12_asks_19 (by decide) ?_
  refine lv_iconst (v := 3) hx hb dX12_asks_21 (by decide) ?_
  refine lv_iload_n hx hb dX12_asks_22 rfl (lv_at hl_27 2 rfl) ?_
  refine lv_imul hx hb dX12_asks_23 ?_
  obtain ⟨z_28, ez_28, hz_28⟩ := e_mul (x := 3) (y := p0) (show (3 : Int32).toInt = 3 by decide) rfl (by omega) (by omega)
  refine q_c z_28 ez_28 ?_
  clear ez_28
  refine lv_iadd hx hb dX12_asks_24 ?_
  obtain ⟨z_29, ez_29, hz_29⟩ := e_add (x := 54) (y := z_28) (show (54 : Int32).toInt = 54 by decide) rfl (by omega) (by omega)
  refine q_c z_29 ez_29 ?_
  clear ez_29
  refine lv_iload hx hb dX12_asks_25 (lv_at hl_27 0 rfl) ?_
  refine lv_iadd hx hb dX12_asks_27 ?_
  obtain ⟨z_30, ez_30, hz_30⟩ := e_add (x := z_29) (y := 2) rfl (show (2 : Int32).toInt = 2 by decide) (by omega) (by omega)
  refine q_c z_30 ez_30 ?_
  clear ez_30
  refine q_iald X hK h_26 1 rfl (i_in rfl (by omega) (by omega)) dX12_asks_28 ?_
  obtain ⟨z_31, ez_31, hz_31⟩ := al_W rf0 (x := z_30) rfl (by omega) (by omega)
  refine q_c z_31 ez_31 ?_
  clear ez_31
  refine q_iast X hK h_26 2 rfl (q_in (by decide +kernel)) dX12_asks_29 (fun H locs h_33 => ?_)
  clear h_26
  replace h_33 : qW D _ _ (wk_177a9dc22 cy h0 p3 h1 w0 w1 w2 p4 p5 p6 p7 p8 p9 p10 p11 p12 p13 p14 w3 h2 w4 w5 w6 p15 p16 w7 w8 w9 p17 p18 w10 w11 w12 w13 w14 p19 w15 w16 w17 h1 f0 h2 (upd F_25 (Int32.toNatClampNeg 2) z_31)) _ _ := h_33
  obtain ⟨F_32, eF_32⟩ : ∃ z, (upd F_25 (Int32.toNatClampNeg 2) z_31) = z := ⟨_, rfl⟩
  rw [eF_32] at h_33
  clear eF_32
  refine lv_aload_n hx hb dX12_asks_30 rfl (lv_at hl_27 1 rfl) ?_
  refine q_get X hK h_33 0 rfl rfl wf_12 17 (by decide) rfl wm_5_187 dX12_asks_31 ?_
  refine lv_iconst (v := 5) hx hb dX12_asks_34 (by decide) ?_
  refine lv_iload hx hb dX12_asks_35 (lv_at hl_27 0 rfl) ?_
  refine lv_iadd hx hb dX12_asks_37 ?_
  refine q_c 7 (by decide +kernel) ?_
  refine lv_aload_n hx hb dX12_asks_38 rfl (lv_at hl_27 1 rfl) ?_
  refine q_get X hK h_33 0 rfl rfl wf_12 1 (by decide) rfl wm_5_171 dX12_asks_39 ?_
  refine lv_bipush (v := 54) hx hb dX12_asks_42 (by decide) ?_
  refine lv_iconst (v := 3) hx hb dX12_asks_44 (by decide) ?_
  refine lv_iload_n hx hb dX12_asks_45 rfl (lv_at hl_27 3 rfl) ?_
  refine lv_imul hx hb dX12_asks_46 ?_
  obtain ⟨z_34, ez_34, hz_34⟩ := e_mul (x := 3) (y := p1) (show (3 : Int32).toInt = 3 by decide) rfl (by omega) (by omega)
  refine q_c z_34 ez_34 ?_
  clear ez_34
  refine lv_iadd hx hb dX12_asks_47 ?_
  obtain ⟨z_35, ez_35, hz_35⟩ := e_add (x := 54) (y := z_34) (show (54 : Int32).toInt = 54 by decide) rfl (by omega) (by omega)
  refine q_c z_35 ez_35 ?_
  clear ez_35
  refine lv_iload hx hb dX12_asks_48 (lv_at hl_27 0 rfl) ?_
  refine lv_iadd hx hb dX12_asks_50 ?_
  obtain ⟨z_36, ez_36, hz_36⟩ := e_add (x := z_35) (y := 2) rfl (show (2 : Int32).toInt = 2 by decide) (by omega) (by omega)
  refine q_c z_36 ez_36 ?_
  clear ez_36
  refine q_iald X hK h_33 1 rfl (i_in rfl (by omega) (by omega)) dX12_asks_51 ?_
  obtain ⟨z_37, ez_37, hz_37⟩ := al_W rf0 (x := z_36) rfl (by omega) (by omega)
  refine q_c z_37 ez_37 ?_
  clear ez_37
  refine q_iast X hK h_33 2 rfl (q_in (by decide +kernel)) dX12_asks_52 (fun H locs h_39 => ?_)
  clear h_33
  replace h_39 : qW D _ _ (wk_177a9dc22 cy h0 p3 h1 w0 w1 w2 p4 p5 p6 p7 p8 p9 p10 p11 p12 p13 p14 w3 h2 w4 w5 w6 p15 p16 w7 w8 w9 p17 p18 w10 w11 w12 w13 w14 p19 w15 w16 w17 h1 f0 h2 (upd F_32 (Int32.toNatClampNeg 7) z_37)) _ _ := h_39
  obtain ⟨F_38, eF_38⟩ : ∃ z, (upd F_32 (Int32.toNatClampNeg 7) z_37) = z := ⟨_, rfl⟩
  rw [eF_38] at h_39
  clear eF_38
  refine lv_iinc (v := 3) (lv' := [(4, .int 3), (0, .ref h0), (1, .int p0), (2, .int p1), (3, .int p2)]) hx hb dX12_asks_53 hl_27 (k := 0) rfl (by decide +kernel) (by decide) rfl (fun ls_40 hl_40 => ?_)
  clear hl_27
  refine lv_goto (tgt := 3) hx hb dX12_asks_56 (by decide) ?_
  refine lv_iload hx hb dX12_asks_3 (lv_at hl_40 0 rfl) ?_
  refine lv_iconst (v := 3) hx hb dX12_asks_5 (by decide) ?_
  refine lv_icmp_ge (tgt := 59) hx hb dX12_asks_6 (by decide) (fun _ => ?_) (fun c => absurd c (by decide +kernel))
  refine lv_aload_n hx hb dX12_asks_59 rfl (lv_at hl_40 1 rfl) ?_
  refine q_get X hK h_39 0 rfl rfl wf_12 17 (by decide) rfl wm_5_187 dX12_asks_60 ?_
  refine lv_iconst (v := 3) hx hb dX12_asks_63 (by decide) ?_
  refine lv_iload_n hx hb dX12_asks_64 rfl (lv_at hl_40 2 rfl) ?_
  refine q_iast X hK h_39 2 rfl (q_in (by decide +kernel)) dX12_asks_65 (fun H locs h_42 => ?_)
  clear h_39
  replace h_42 : qW D _ _ (wk_177a9dc22 cy h0 p3 h1 w0 w1 w2 p4 p5 p6 p7 p8 p9 p10 p11 p12 p13 p14 w3 h2 w4 w5 w6 p15 p16 w7 w8 w9 p17 p18 w10 w11 w12 w13 w14 p19 w15 w16 w17 h1 f0 h2 (upd F_38 (Int32.toNatClampNeg 3) p0)) _ _ := h_42
  obtain ⟨F_41, eF_41⟩ : ∃ z, (upd F_38 (Int32.toNatClampNeg 3) p0) = z := ⟨_, rfl⟩
  rw [eF_41] at h_42
  clear eF_41
  refine lv_aload_n hx hb dX12_asks_66 rfl (lv_at hl_40 1 rfl) ?_
  refine q_get X hK h_42 0 rfl rfl wf_12 17 (by decide) rfl wm_5_187 dX12_asks_67 ?_
  refine lv_bipush (v := 8) hx hb dX12_asks_70 (by decide) ?_
  refine lv_iload_n hx hb dX12_asks_72 rfl (lv_at hl_40 3 rfl) ?_
  refine q_iast X hK h_42 2 rfl (q_in (by decide +kernel)) dX12_asks_73 (fun H locs h_44 => ?_)
  clear h_42
  replace h_44 : qW D _ _ (wk_177a9dc22 cy h0 p3 h1 w0 w1 w2 p4 p5 p6 p7 p8 p9 p10 p11 p12 p13 p14 w3 h2 w4 w5 w6 p15 p16 w7 w8 w9 p17 p18 w10 w11 w12 w13 w14 p19 w15 w16 w17 h1 f0 h2 (upd F_41 (Int32.toNatClampNeg 8) p1)) _ _ := h_44
  obtain ⟨F_43, eF_43⟩ : ∃ z, (upd F_41 (Int32.toNatClampNeg 8) p1) = z := ⟨_, rfl⟩
  rw [eF_43] at h_44
  clear eF_43
  refine lv_aload_n hx hb dX12_asks_74 rfl (lv_at hl_40 1 rfl) ?_
  refine q_get X hK h_44 0 rfl rfl wf_12 17 (by decide) rfl wm_5_187 dX12_asks_75 ?_
  refine lv_iconst (v := 4) hx hb dX12_asks_78 (by decide) ?_
  refine lv_iload_n hx hb dX12_asks_79 rfl (lv_at hl_40 4 rfl) ?_
  refine lv_bipush (v := 7) hx hb dX12_asks_80 (by decide) ?_
  refine lv_irem hx hb dX12_asks_82 (by decide) ?_
  refine q_any (fun z_45 hz_45 => ?_)
  refine q_iast X hK h_44 2 rfl (q_in (by decide +kernel)) dX12_asks_83 (fun H locs h_47 => ?_)
  clear h_44
  replace h_47 : qW D _ _ (wk_177a9dc22 cy h0 p3 h1 w0 w1 w2 p4 p5 p6 p7 p8 p9 p10 p11 p12 p13 p14 w3 h2 w4 w5 w6 p15 p16 w7 w8 w9 p17 p18 w10 w11 w12 w13 w14 p19 w15 w16 w17 h1 f0 h2 (upd F_43 (Int32.toNatClampNeg 4) z_45)) _ _ := h_47
  obtain ⟨F_46, eF_46⟩ : ∃ z, (upd F_43 (Int32.toNatClampNeg 4) z_45) = z := ⟨_, rfl⟩
  rw [eF_46] at h_47
  clear eF_46
  exact q_vret X hr hlk hK h_47 (fun _ => 0, (vcons F_46 (fun _ => (fun _ => 0))), fun _ _ => 0) trivial [0, 1, 2] rfl rfl dX12_asks_84 (Nat.le_of_ble_eq_true rfl) (Nat.le_of_ble_eq_true rfl)
set_option maxHeartbeats 4000000 in
set_option maxRecDepth 100000 in
theorem gX12_between_b825dc3 (l : Launch) (D : va_G) (cy : Nat → ClassId) (p0 : Int32) (p1 : Int32) (p2 : Int32) (hp0 : 3000 ≤ (p0).toInt ∧ (p0).toInt ≤ 2147483647) (hp1 : (-2147483648) ≤ (p1).toInt ∧ (p1).toInt ≤ 2147483647) (hp2 : (-2147483648) ≤ (p2).toInt ∧ (p2).toInt ≤ 2147483647) (sz : Nat) : MI l yX12_between cX12_between 5 .int { frames := 0, cells := 0, slots := 0, locals := 0 } [.int p0, .int p1, .int p2] D cy [] sz (fun r u => ((-2147483648) ≤ r.toInt ∧ r.toInt ≤ 2147483647) ∧ True) (fun u => []) 0 0 := by
  refine q_ent (own := RX12) (by decide) rfl (Nat.le_of_ble_eq_true rfl) (fun p e s m below meth c ls X hr hlk hnm hK hT h hA hl => ?_)
  obtain ⟨hx, hb, hml, hown, ht⟩ := id X
  replace hl : lv_has ls 5 [(0, .int p0), (1, .int p1), (2, .int p2)] := hl
  refine lv_iload_n hx hb dX12_between_0 rfl (lv_at hl 0 rfl) ?_
  by_cases c_1 : p0 = 3003
  · have ec_1 : (p0).toInt = 3003 := by rw [c_1]; decide
    refine lv_tableIn (off := 39) (tgt := 40) hx hb dX12_between_1 (by rw [c_1]; decide +kernel) (by rw [c_1]; decide +kernel) (by rw [c_1]; decide +kernel) (by decide) ?_
    refine lv_iload_n hx hb dX12_between_40 rfl (lv_at hl 1 rfl) ?_
    refine lv_iload_n hx hb dX12_between_41 rfl (lv_at hl 2 rfl) ?_
    refine q_jn (pc2 := 50) (fun H locs ls st => ∃ v50_2_0 : Int32, (0 ≤ (v50_2_0).toInt ∧ (v50_2_0).toInt ≤ 1) ∧ st = [.int v50_2_0] ∧ qW D (va_A [] sz) s.heap [] H locs ∧ lv_has ls 5 [(0, .int p0), (1, .int p1), (2, .int p2)]) (fun H locs ls st hP => ?_) (fun J_50 => ?_)
    · obtain ⟨v50_2_0, hv50_2_0, rfl, h, hl⟩ := hP
      exact q_iret X hr hlk hK h rfl (fun _ => 0, fun _ _ => 0, fun _ _ => 0) ⟨(bw hv50_2_0 (by decide) (by decide)), trivial⟩ [] rfl rfl dX12_between_50 (Nat.le_of_ble_eq_true rfl) (Nat.le_of_ble_eq_true rfl)
    · skip
      refine lv_icmp_ne (tgt := 49) hx hb dX12_between_42 (by decide) (fun c_3 => ?_) (fun c_3 => ?_)
      · replace c_3 := i_ne (x := p1) (y := p2) rfl rfl c_3
        refine lv_iconst (v := 0) hx hb dX12_between_49 (by decide) ?_
        exact J_50 _ _ _ _ ⟨0, ⟨by decide +kernel, by decide +kernel⟩, rfl, h, (lv_sub hl [0, 1, 2] rfl)⟩
      · replace c_3 := i_eq (x := p1) (y := p2) rfl rfl c_3
        refine lv_iconst (v := 1) hx hb dX12_between_45 (by decide) ?_
        refine lv_goto (tgt := 50) hx hb dX12_between_46 (by decide) ?_
        exact J_50 _ _ _ _ ⟨1, ⟨by decide +kernel, by decide +kernel⟩, rfl, h, (lv_sub hl [0, 1, 2] rfl)⟩
  by_cases c_4 : p0 = 3004
  · have ec_4 : (p0).toInt = 3004 := by rw [c_4]; decide
    refine lv_tableIn (off := 50) (tgt := 51) hx hb dX12_between_1 (by rw [c_4]; decide +kernel) (by rw [c_4]; decide +kernel) (by rw [c_4]; decide +kernel) (by decide) ?_
    refine lv_iload_n hx hb dX12_between_51 rfl (lv_at hl 1 rfl) ?_
    refine lv_iload_n hx hb dX12_between_52 rfl (lv_at hl 2 rfl) ?_
    refine q_jn (pc2 := 61) (fun H locs ls st => ∃ v61_5_0 : Int32, (0 ≤ (v61_5_0).toInt ∧ (v61_5_0).toInt ≤ 1) ∧ st = [.int v61_5_0] ∧ qW D (va_A [] sz) s.heap [] H locs ∧ lv_has ls 5 [(0, .int p0), (1, .int p1), (2, .int p2)]) (fun H locs ls st hP => ?_) (fun J_61 => ?_)
    · obtain ⟨v61_5_0, hv61_5_0, rfl, h, hl⟩ := hP
      exact q_iret X hr hlk hK h rfl (fun _ => 0, fun _ _ => 0, fun _ _ => 0) ⟨(bw hv61_5_0 (by decide) (by decide)), trivial⟩ [] rfl rfl dX12_between_61 (Nat.le_of_ble_eq_true rfl) (Nat.le_of_ble_eq_true rfl)
    · skip
      refine lv_icmp_ge (tgt := 60) hx hb dX12_between_53 (by decide) (fun c_6 => ?_) (fun c_6 => ?_)
      · replace c_6 := i_le (x := p2) (y := p1) rfl rfl c_6
        refine lv_iconst (v := 0) hx hb dX12_between_60 (by decide) ?_
        exact J_61 _ _ _ _ ⟨0, ⟨by decide +kernel, by decide +kernel⟩, rfl, h, (lv_sub hl [0, 1, 2] rfl)⟩
      · replace c_6 := i_nle (x := p2) (y := p1) rfl rfl c_6
        refine lv_iconst (v := 1) hx hb dX12_between_56 (by decide) ?_
        refine lv_goto (tgt := 61) hx hb dX12_between_57 (by decide) ?_
        exact J_61 _ _ _ _ ⟨1, ⟨by decide +kernel, by decide +kernel⟩, rfl, h, (lv_sub hl [0, 1, 2] rfl)⟩
  by_cases c_7 : p0 = 3005
  · have ec_7 : (p0).toInt = 3005 := by rw [c_7]; decide
    refine lv_tableIn (off := 61) (tgt := 62) hx hb dX12_between_1 (by rw [c_7]; decide +kernel) (by rw [c_7]; decide +kernel) (by rw [c_7]; decide +kernel) (by decide) ?_
    refine lv_iload_n hx hb dX12_between_62 rfl (lv_at hl 1 rfl) ?_
    refine lv_iload_n hx hb dX12_between_63 rfl (lv_at hl 2 rfl) ?_
    refine q_jn (pc2 := 72) (fun H locs ls st => ∃ v72_8_0 : Int32, (0 ≤ (v72_8_0).toInt ∧ (v72_8_0).toInt ≤ 1) ∧ st = [.int v72_8_0] ∧ qW D (va_A [] sz) s.heap [] H locs ∧ lv_has ls 5 [(0, .int p0), (1, .int p1), (2, .int p2)]) (fun H locs ls st hP => ?_) (fun J_72 => ?_)
    · obtain ⟨v72_8_0, hv72_8_0, rfl, h, hl⟩ := hP
      exact q_iret X hr hlk hK h rfl (fun _ => 0, fun _ _ => 0, fun _ _ => 0) ⟨(bw hv72_8_0 (by decide) (by decide)), trivial⟩ [] rfl rfl dX12_between_72 (Nat.le_of_ble_eq_true rfl) (Nat.le_of_ble_eq_true rfl)
    · skip
      refine lv_icmp_le (tgt := 71) hx hb dX12_between_64 (by decide) (fun c_9 => ?_) (fun c_9 => ?_)
      · replace c_9 := i_le (x := p1) (y := p2) rfl rfl c_9
        refine lv_iconst (v := 0) hx hb dX12_between_71 (by decide) ?_
        exact J_72 _ _ _ _ ⟨0, ⟨by decide +kernel, by decide +kernel⟩, rfl, h, (lv_sub hl [0, 1, 2] rfl)⟩
      · replace c_9 := i_nle (x := p1) (y := p2) rfl rfl c_9
        refine lv_iconst (v := 1) hx hb dX12_between_67 (by decide) ?_
        refine lv_goto (tgt := 72) hx hb dX12_between_68 (by decide) ?_
        exact J_72 _ _ _ _ ⟨1, ⟨by decide +kernel, by decide +kernel⟩, rfl, h, (lv_sub hl [0, 1, 2] rfl)⟩
  by_cases c_10 : p0 = 3006
  · have ec_10 : (p0).toInt = 3006 := by rw [c_10]; decide
    refine lv_tableIn (off := 80) (tgt := 81) hx hb dX12_between_1 (by rw [c_10]; decide +kernel) (by rw [c_10]; decide +kernel) (by rw [c_10]; decide +kernel) (by decide) ?_
    refine lv_iload_n hx hb dX12_between_81 rfl (lv_at hl 0 rfl) ?_
    refine lv_sipush (v := 3000) hx hb dX12_between_82 (by decide) ?_
    refine q_jn (pc2 := 116) (fun H locs ls st => ∃ v116_11_0 : Int64, ((-9223372036854775808) ≤ (v116_11_0).toInt ∧ (v116_11_0).toInt ≤ 9223372036854775807) ∧ st = [.long v116_11_0] ∧ qW D (va_A [] sz) s.heap [] H locs ∧ lv_has ls 5 [(0, .int p0), (1, .int p1), (2, .int p2)]) (fun H locs ls st hP => ?_) (fun J_116 => ?_)
    · obtain ⟨v116_11_0, hv116_11_0, rfl, h, hl⟩ := hP
      refine lv_lstore_n (lv' := [(3, .long v116_11_0), (0, .int p0), (1, .int p1), (2, .int p2)]) hx hb dX12_between_116 rfl hl (by decide) rfl (fun ls_12 hl_12 => ?_)
      clear hl
      refine lv_lload_n hx hb dX12_between_117 rfl (lv_at hl_12 0 rfl) ?_
      refine lv_ldc2 hx hb hown (ht _ wm_6_202) dX12_between_118 ?_
      refine W.lcmp hx hb dX12_between_121 ?_
      refine q_jn (pc2 := 146) (fun H locs ls st => ∃ v146_13_0 : Int64, ((-1000000) ≤ (v146_13_0).toInt ∧ (v146_13_0).toInt ≤ 1000000) ∧ st = [.long v146_13_0] ∧ qW D (va_A [] sz) s.heap [] H locs ∧ lv_has ls 5 [(0, .int p0), (1, .int p1), (2, .int p2), (3, .long v116_11_0)]) (fun H locs ls st hP => ?_) (fun J_146 => ?_)
      · obtain ⟨v146_13_0, hv146_13_0, rfl, h, hl⟩ := hP
        refine lv_l2i hx hb dX12_between_146 rfl ?_
        obtain ⟨z_14, ez_14, hz_14⟩ := e_l2i (x := v146_13_0) rfl (by omega) (by omega)
        refine q_c z_14 ez_14 ?_
        clear ez_14
        exact q_iret X hr hlk hK h rfl (fun _ => 0, fun _ _ => 0, fun _ _ => 0) ⟨⟨by omega, by omega⟩, trivial⟩ [] rfl rfl dX12_between_147 (Nat.le_of_ble_eq_true rfl) (Nat.le_of_ble_eq_true rfl)
      · skip
        refine lv_if_le (tgt := 131) hx hb dX12_between_122 (by decide) (fun c_15 => ?_) (fun c_15 => ?_)
        · replace c_15 := j_le (x := v116_11_0) (y := 1000000) rfl (show (1000000 : Int64).toInt = 1000000 by decide) c_15
          refine lv_lload_n hx hb dX12_between_131 rfl (lv_at hl_12 0 rfl) ?_
          refine lv_ldc2 hx hb hown (ht _ wm_6_203) dX12_between_132 ?_
          refine W.lcmp hx hb dX12_between_135 ?_
          refine lv_if_ge (tgt := 145) hx hb dX12_between_136 (by decide) (fun c_16 => ?_) (fun c_16 => ?_)
          · replace c_16 := j_ge (x := v116_11_0) (y := (-1000000)) rfl (show ((-1000000) : Int64).toInt = -1000000 by decide) c_16
            refine lv_lload_n hx hb dX12_between_145 rfl (lv_at hl_12 0 rfl) ?_
            exact J_146 _ _ _ _ ⟨v116_11_0, ⟨by omega, by omega⟩, rfl, h, (lv_sub hl_12 [1, 2, 3, 0] rfl)⟩
          · replace c_16 := j_nge (x := v116_11_0) (y := (-1000000)) rfl (show ((-1000000) : Int64).toInt = -1000000 by decide) c_16
            refine lv_ldc2 hx hb hown (ht _ wm_6_203) dX12_between_139 ?_
            refine lv_goto (tgt := 146) hx hb dX12_between_142 (by decide) ?_
            exact J_146 _ _ _ _ ⟨(-1000000), ⟨by decide +kernel, by decide +kernel⟩, rfl, h, (lv_sub hl_12 [1, 2, 3, 0] rfl)⟩
        · replace c_15 := j_nle (x := v116_11_0) (y := 1000000) rfl (show (1000000 : Int64).toInt = 1000000 by decide) c_15
          refine lv_ldc2 hx hb hown (ht _ wm_6_202) dX12_between_125 ?_
          refine lv_goto (tgt := 146) hx hb dX12_between_128 (by decide) ?_
          exact J_146 _ _ _ _ ⟨1000000, ⟨by decide +kernel, by decide +kernel⟩, rfl, h, (lv_sub hl_12 [1, 2, 3, 0] rfl)⟩
    · skip
      refine lv_icmp_ne (tgt := 96) hx hb dX12_between_85 (by decide) (fun c_17 => ?_) (fun c_17 => ?_)
      · replace c_17 := i_ne (x := p0) (y := 3000) rfl (show (3000 : Int32).toInt = 3000 by decide) c_17
        refine lv_iload_n hx hb dX12_between_96 rfl (lv_at hl 0 rfl) ?_
        refine lv_sipush (v := 3001) hx hb dX12_between_97 (by decide) ?_
        refine lv_icmp_ne (tgt := 111) hx hb dX12_between_100 (by decide) (fun c_18 => ?_) (fun c_18 => ?_)
        · replace c_18 := i_ne (x := p0) (y := 3001) rfl (show (3001 : Int32).toInt = 3001 by decide) c_18
          refine lv_iload_n hx hb dX12_between_111 rfl (lv_at hl 1 rfl) ?_
          refine lv_i2l hx hb dX12_between_112 rfl ?_
          obtain ⟨z_19, ez_19, hz_19⟩ := e_i2l (x := p1) rfl
          refine q_cl z_19 ez_19 ?_
          clear ez_19
          refine lv_iload_n hx hb dX12_between_113 rfl (lv_at hl 2 rfl) ?_
          refine lv_i2l hx hb dX12_between_114 rfl ?_
          obtain ⟨z_20, ez_20, hz_20⟩ := e_i2l (x := p2) rfl
          refine q_cl z_20 ez_20 ?_
          clear ez_20
          refine lv_lmul hx hb dX12_between_115 ?_
          refine q_anyJ (fun z_21 hz_21 => ?_)
          exact J_116 _ _ _ _ ⟨z_21, ⟨by omega, by omega⟩, rfl, h, (lv_sub hl [0, 1, 2] rfl)⟩
        · replace c_18 := i_eq (x := p0) (y := 3001) rfl (show (3001 : Int32).toInt = 3001 by decide) c_18
          exfalso
          omega
      · replace c_17 := i_eq (x := p0) (y := 3000) rfl (show (3000 : Int32).toInt = 3000 by decide) c_17
        exfalso
        omega
  by_cases c_22 : p0 = 3007
  · have ec_22 : (p0).toInt = 3007 := by rw [c_22]; decide
    refine lv_tableIn (off := 72) (tgt := 73) hx hb dX12_between_1 (by rw [c_22]; decide +kernel) (by rw [c_22]; decide +kernel) (by rw [c_22]; decide +kernel) (by decide) ?_
    refine lv_iload_n hx hb dX12_between_73 rfl (lv_at hl 1 rfl) ?_
    refine lv_iload_n hx hb dX12_between_74 rfl (lv_at hl 2 rfl) ?_
    refine lv_iand hx hb dX12_between_75 ?_
    refine q_any (fun z_23 hz_23 => ?_)
    exact q_iret X hr hlk hK h rfl (fun _ => 0, fun _ _ => 0, fun _ _ => 0) ⟨⟨by omega, by omega⟩, trivial⟩ [] rfl rfl dX12_between_76 (Nat.le_of_ble_eq_true rfl) (Nat.le_of_ble_eq_true rfl)
  by_cases c_24 : p0 = 3008
  · have ec_24 : (p0).toInt = 3008 := by rw [c_24]; decide
    refine lv_tableIn (off := 76) (tgt := 77) hx hb dX12_between_1 (by rw [c_24]; decide +kernel) (by rw [c_24]; decide +kernel) (by rw [c_24]; decide +kernel) (by decide) ?_
    refine lv_iload_n hx hb dX12_between_77 rfl (lv_at hl 1 rfl) ?_
    refine lv_iload_n hx hb dX12_between_78 rfl (lv_at hl 2 rfl) ?_
    refine lv_ior hx hb dX12_between_79 ?_
    refine q_any (fun z_25 hz_25 => ?_)
    exact q_iret X hr hlk hK h rfl (fun _ => 0, fun _ _ => 0, fun _ _ => 0) ⟨⟨by omega, by omega⟩, trivial⟩ [] rfl rfl dX12_between_80 (Nat.le_of_ble_eq_true rfl) (Nat.le_of_ble_eq_true rfl)
  have nc_1 := lv_neT c_1 (show (3003 : Int32).toInt = 3003 by decide)
  have nc_4 := lv_neT c_4 (show (3004 : Int32).toInt = 3004 by decide)
  have nc_7 := lv_neT c_7 (show (3005 : Int32).toInt = 3005 by decide)
  have nc_10 := lv_neT c_10 (show (3006 : Int32).toInt = 3006 by decide)
  have nc_22 := lv_neT c_22 (show (3007 : Int32).toInt = 3007 by decide)
  have nc_24 := lv_neT c_24 (show (3008 : Int32).toInt = 3008 by decide)
  refine lv_tableOut (tgt := 81) hx hb dX12_between_1 (by omega) (by decide) ?_
  refine lv_iload_n hx hb dX12_between_81 rfl (lv_at hl 0 rfl) ?_
  refine lv_sipush (v := 3000) hx hb dX12_between_82 (by decide) ?_
  refine q_jn (pc2 := 116) (fun H locs ls st => ∃ v116_26_0 : Int64, ((-9223372036854775808) ≤ (v116_26_0).toInt ∧ (v116_26_0).toInt ≤ 9223372036854775807) ∧ st = [.long v116_26_0] ∧ qW D (va_A [] sz) s.heap [] H locs ∧ lv_has ls 5 [(0, .int p0), (1, .int p1), (2, .int p2)]) (fun H locs ls st hP => ?_) (fun J_116 => ?_)
  · obtain ⟨v116_26_0, hv116_26_0, rfl, h, hl⟩ := hP
    refine lv_lstore_n (lv' := [(3, .long v116_26_0), (0, .int p0), (1, .int p1), (2, .int p2)]) hx hb dX12_between_116 rfl hl (by decide) rfl (fun ls_27 hl_27 => ?_)
    clear hl
    refine lv_lload_n hx hb dX12_between_117 rfl (lv_at hl_27 0 rfl) ?_
    refine lv_ldc2 hx hb hown (ht _ wm_6_202) dX12_between_118 ?_
    refine W.lcmp hx hb dX12_between_121 ?_
    refine q_jn (pc2 := 146) (fun H locs ls st => ∃ v146_28_0 : Int64, ((-1000000) ≤ (v146_28_0).toInt ∧ (v146_28_0).toInt ≤ 1000000) ∧ st = [.long v146_28_0] ∧ qW D (va_A [] sz) s.heap [] H locs ∧ lv_has ls 5 [(0, .int p0), (1, .int p1), (2, .int p2), (3, .long v116_26_0)]) (fun H locs ls st hP => ?_) (fun J_146 => ?_)
    · obtain ⟨v146_28_0, hv146_28_0, rfl, h, hl⟩ := hP
      refine lv_l2i hx hb dX12_between_146 rfl ?_
      obtain ⟨z_29, ez_29, hz_29⟩ := e_l2i (x := v146_28_0) rfl (by omega) (by omega)
      refine q_c z_29 ez_29 ?_
      clear ez_29
      exact q_iret X hr hlk hK h rfl (fun _ => 0, fun _ _ => 0, fun _ _ => 0) ⟨⟨by omega, by omega⟩, trivial⟩ [] rfl rfl dX12_between_147 (Nat.le_of_ble_eq_true rfl) (Nat.le_of_ble_eq_true rfl)
    · skip
      refine lv_if_le (tgt := 131) hx hb dX12_between_122 (by decide) (fun c_30 => ?_) (fun c_30 => ?_)
      · replace c_30 := j_le (x := v116_26_0) (y := 1000000) rfl (show (1000000 : Int64).toInt = 1000000 by decide) c_30
        refine lv_lload_n hx hb dX12_between_131 rfl (lv_at hl_27 0 rfl) ?_
        refine lv_ldc2 hx hb hown (ht _ wm_6_203) dX12_between_132 ?_
        refine W.lcmp hx hb dX12_between_135 ?_
        refine lv_if_ge (tgt := 145) hx hb dX12_between_136 (by decide) (fun c_31 => ?_) (fun c_31 => ?_)
        · replace c_31 := j_ge (x := v116_26_0) (y := (-1000000)) rfl (show ((-1000000) : Int64).toInt = -1000000 by decide) c_31
          refine lv_lload_n hx hb dX12_between_145 rfl (lv_at hl_27 0 rfl) ?_
          exact J_146 _ _ _ _ ⟨v116_26_0, ⟨by omega, by omega⟩, rfl, h, (lv_sub hl_27 [1, 2, 3, 0] rfl)⟩
        · replace c_31 := j_nge (x := v116_26_0) (y := (-1000000)) rfl (show ((-1000000) : Int64).toInt = -1000000 by decide) c_31
          refine lv_ldc2 hx hb hown (ht _ wm_6_203) dX12_between_139 ?_
          refine lv_goto (tgt := 146) hx hb dX12_between_142 (by decide) ?_
          exact J_146 _ _ _ _ ⟨(-1000000), ⟨by decide +kernel, by decide +kernel⟩, rfl, h, (lv_sub hl_27 [1, 2, 3, 0] rfl)⟩
      · replace c_30 := j_nle (x := v116_26_0) (y := 1000000) rfl (show (1000000 : Int64).toInt = 1000000 by decide) c_30
        refine lv_ldc2 hx hb hown (ht _ wm_6_202) dX12_between_125 ?_
        refine lv_goto (tgt := 146) hx hb dX12_between_128 (by decide) ?_
        exact J_146 _ _ _ _ ⟨1000000, ⟨by decide +kernel, by decide +kernel⟩, rfl, h, (lv_sub hl_27 [1, 2, 3, 0] rfl)⟩
  · skip
    refine lv_icmp_ne (tgt := 96) hx hb dX12_between_85 (by decide) (fun c_32 => ?_) (fun c_32 => ?_)
    · replace c_32 := i_ne (x := p0) (y := 3000) rfl (show (3000 : Int32).toInt = 3000 by decide) c_32
      refine lv_iload_n hx hb dX12_between_96 rfl (lv_at hl 0 rfl) ?_
      refine lv_sipush (v := 3001) hx hb dX12_between_97 (by decide) ?_
      refine lv_icmp_ne (tgt := 111) hx hb dX12_between_100 (by decide) (fun c_33 => ?_) (fun c_33 => ?_)
      · replace c_33 := i_ne (x := p0) (y := 3001) rfl (show (3001 : Int32).toInt = 3001 by decide) c_33
        refine lv_iload_n hx hb dX12_between_111 rfl (lv_at hl 1 rfl) ?_
        refine lv_i2l hx hb dX12_between_112 rfl ?_
        obtain ⟨z_34, ez_34, hz_34⟩ := e_i2l (x := p1) rfl
        refine q_cl z_34 ez_34 ?_
        clear ez_34
        refine lv_iload_n hx hb dX12_between_113 rfl (lv_at hl 2 rfl) ?_
        refine lv_i2l hx hb dX12_between_114 rfl ?_
        obtain ⟨z_35, ez_35, hz_35⟩ := e_i2l (x := p2) rfl
        refine q_cl z_35 ez_35 ?_
        clear ez_35
        refine lv_lmul hx hb dX12_between_115 ?_
        refine q_anyJ (fun z_36 hz_36 => ?_)
        exact J_116 _ _ _ _ ⟨z_36, ⟨by omega, by omega⟩, rfl, h, (lv_sub hl [0, 1, 2] rfl)⟩
      · replace c_33 := i_eq (x := p0) (y := 3001) rfl (show (3001 : Int32).toInt = 3001 by decide) c_33
        refine lv_iload_n hx hb dX12_between_103 rfl (lv_at hl 1 rfl) ?_
        refine lv_i2l hx hb dX12_between_104 rfl ?_
        obtain ⟨z_37, ez_37, hz_37⟩ := e_i2l (x := p1) rfl
        refine q_cl z_37 ez_37 ?_
        clear ez_37
        refine lv_iload_n hx hb dX12_between_105 rfl (lv_at hl 2 rfl) ?_
        refine lv_i2l hx hb dX12_between_106 rfl ?_
        obtain ⟨z_38, ez_38, hz_38⟩ := e_i2l (x := p2) rfl
        refine q_cl z_38 ez_38 ?_
        clear ez_38
        refine lv_lsub hx hb dX12_between_107 ?_
        obtain ⟨z_39, ez_39, hz_39⟩ := e_subJ (x := z_37) (y := z_38) rfl rfl (by omega) (by omega)
        refine q_cl z_39 ez_39 ?_
        clear ez_39
        refine lv_goto (tgt := 116) hx hb dX12_between_108 (by decide) ?_
        exact J_116 _ _ _ _ ⟨z_39, ⟨by omega, by omega⟩, rfl, h, (lv_sub hl [0, 1, 2] rfl)⟩
    · replace c_32 := i_eq (x := p0) (y := 3000) rfl (show (3000 : Int32).toInt = 3000 by decide) c_32
      refine lv_iload_n hx hb dX12_between_88 rfl (lv_at hl 1 rfl) ?_
      refine lv_i2l hx hb dX12_between_89 rfl ?_
      obtain ⟨z_40, ez_40, hz_40⟩ := e_i2l (x := p1) rfl
      refine q_cl z_40 ez_40 ?_
      clear ez_40
      refine lv_iload_n hx hb dX12_between_90 rfl (lv_at hl 2 rfl) ?_
      refine lv_i2l hx hb dX12_between_91 rfl ?_
      obtain ⟨z_41, ez_41, hz_41⟩ := e_i2l (x := p2) rfl
      refine q_cl z_41 ez_41 ?_
      clear ez_41
      refine lv_ladd hx hb dX12_between_92 ?_
      obtain ⟨z_42, ez_42, hz_42⟩ := e_addJ (x := z_40) (y := z_41) rfl rfl (by omega) (by omega)
      refine q_cl z_42 ez_42 ?_
      clear ez_42
      refine lv_goto (tgt := 116) hx hb dX12_between_93 (by decide) ?_
      exact J_116 _ _ _ _ ⟨z_42, ⟨by omega, by omega⟩, rfl, h, (lv_sub hl [0, 1, 2] rfl)⟩
set_option maxHeartbeats 4000000 in
set_option maxRecDepth 100000 in
theorem gX12_reckons_4dca281 (l : Launch) (D : va_G) (cy : Nat → ClassId) (h0 : Nat) (h1 : Nat) (h2 : Nat) (h3 : Nat) (p0 : Int32) (w0 : Value) (w1 : Value) (w2 : Value) (p1 : Int32) (p2 : Int32) (p3 : Int32) (p4 : Int32) (p5 : Int32) (p6 : Int32) (p7 : Int32) (p8 : Int32) (p9 : Int32) (p10 : Int32) (p11 : Int32) (w3 : Value) (w4 : Value) (w5 : Value) (p12 : Int32) (p13 : Int32) (w6 : Value) (w7 : Value) (w8 : Value) (p14 : Int32) (p15 : Int32) (w9 : Value) (w10 : Value) (w11 : Value) (w12 : Value) (w13 : Value) (p16 : Int32) (w14 : Value) (w15 : Value) (w16 : Value) (f0 : Nat → Int32) (p17 : Int32) (f1 : Nat → Int32) (f2 : Nat → Int32) (hp0 : 0 ≤ (p0).toInt ∧ (p0).toInt ≤ 0) (hp1 : 0 ≤ (p1).toInt ∧ (p1).toInt ≤ 900) (hp2 : 0 ≤ (p2).toInt ∧ (p2).toInt ≤ 900) (hp3 : 0 ≤ (p3).toInt ∧ (p3).toInt ≤ 900) (hp4 : 0 ≤ (p4).toInt ∧ (p4).toInt ≤ 900) (hp5 : (-2147483648) ≤ (p5).toInt ∧ (p5).toInt ≤ 2147483647) (hp6 : 0 ≤ (p6).toInt ∧ (p6).toInt ≤ 999) (hp7 : (-2147483648) ≤ (p7).toInt ∧ (p7).toInt ≤ 2147483647) (hp8 : (-2147483648) ≤ (p8).toInt ∧ (p8).toInt ≤ 2147483647) (hp9 : (-2147483648) ≤ (p9).toInt ∧ (p9).toInt ≤ 2147483647) (hp10 : (-2147483648) ≤ (p10).toInt ∧ (p10).toInt ≤ 2147483647) (hp11 : (-2147483648) ≤ (p11).toInt ∧ (p11).toInt ≤ 2147483647) (hp12 : (-2147483648) ≤ (p12).toInt ∧ (p12).toInt ≤ 2147483647) (hp13 : (-2147483648) ≤ (p13).toInt ∧ (p13).toInt ≤ 2147483647) (hp14 : (-2147483648) ≤ (p14).toInt ∧ (p14).toInt ≤ 2147483647) (hp15 : (-2147483648) ≤ (p15).toInt ∧ (p15).toInt ≤ 2147483647) (hp16 : (-2147483648) ≤ (p16).toInt ∧ (p16).toInt ≤ 2147483647) (hp17 : 0 ≤ (p17).toInt ∧ (p17).toInt ≤ 10) (htf0_84 : f0 84 = p17) (rf0 : AL f0) (hpre0 : WFL f0 0) (sz : Nat) : MI l yX12_reckons cX12_reckons 5 .int { frames := 1, cells := 0, slots := 0, locals := 24 } [.ref h0, .int 0] D cy (wk_d5826a772 cy h0 p0 h1 w0 w1 w2 p1 p2 p3 p4 p5 p6 p7 p8 p9 p10 p11 h2 h3 w3 w4 w5 p12 p13 w6 w7 w8 p14 p15 w9 w10 w11 w12 w13 p16 w14 w15 w16 h1 f0 h2 f1 h3 f2) sz (fun r u => ((-2147483648) ≤ r.toInt ∧ r.toInt ≤ 2147483647) ∧ True) (fun u => (wk_d5826a772 cy h0 p0 h1 w0 w1 w2 p1 p2 p3 p4 p5 p6 p7 p8 p9 p10 p11 h2 h3 w3 w4 w5 p12 p13 w6 w7 w8 p14 p15 w9 w10 w11 w12 w13 p16 w14 w15 w16 h1 f0 h2 (u.2.1 0) h3 f2)) 0 0 := by
  refine q_ent (own := RX12) (by decide) rfl (Nat.le_of_ble_eq_true rfl) (fun p e s m below meth c ls X hr hlk hnm hK hT h hA hl => ?_)
  obtain ⟨hx, hb, hml, hown, ht⟩ := id X
  replace hl : lv_has ls 5 [(0, .ref h0), (1, .int 0)] := hl
  obtain ⟨wf1, wf2, wf3, wf4⟩ : 0 ≤ (f0 6).toInt ∧ 0 ≤ (f0 9).toInt ∧ (f0 6).toInt + (f0 9).toInt ≤ 900 ∧ ∃ x, sk f0 (406 + (f0 6).toInt.toNat) (f0 9).toInt.toNat 0 = some x := hpre0
  refine lv_iconst (v := 0) hx hb dX12_reckons_0 (by decide) ?_
  refine lv_istore_n (lv' := [(2, .int 0), (0, .ref h0), (1, .int 0)]) hx hb dX12_reckons_1 rfl hl (by decide) rfl (fun ls_1 hl_1 => ?_)
  clear hl
  refine lv_iconst (v := 0) hx hb dX12_reckons_2 (by decide) ?_
  refine lv_istore_n (lv' := [(3, .int 0), (2, .int 0), (0, .ref h0), (1, .int 0)]) hx hb dX12_reckons_3 rfl hl_1 (by decide) rfl (fun ls_2 hl_2 => ?_)
  clear hl_1
  refine q_wl (fun (q : Int32 × Int32) H locs ls => match q with | (v4_3_0, v4_3_1) => ∃ v4_3_2 : Nat → Int32, (0 ≤ (v4_3_0).toInt ∧ (v4_3_0).toInt ≤ 900) ∧ (0 ≤ (v4_3_1).toInt ∧ (v4_3_1).toInt ≤ 900) ∧ (sk f0 (406 + (f0 6).toInt.toNat) ((v4_3_0 : Int32).toInt).toNat 0 = some ((v4_3_1 : Int32).toInt).toNat) ∧ (0 ≤ (v4_3_1 : Int32).toInt ∧ (v4_3_1 : Int32).toInt ≤ (v4_3_0 : Int32).toInt) ∧ qW D (va_A (wk_d5826a772 cy h0 p0 h1 w0 w1 w2 p1 p2 p3 p4 p5 p6 p7 p8 p9 p10 p11 h2 h3 w3 w4 w5 p12 p13 w6 w7 w8 p14 p15 w9 w10 w11 w12 w13 p16 w14 w15 w16 h1 f0 h2 f1 h3 f2) sz) s.heap (wk_d5826a772 cy h0 p0 h1 w0 w1 w2 p1 p2 p3 p4 p5 p6 p7 p8 p9 p10 p11 h2 h3 w3 w4 w5 p12 p13 w6 w7 w8 p14 p15 w9 w10 w11 w12 w13 p16 w14 w15 w16 h1 f0 h2 v4_3_2 h3 f2) H locs ∧ lv_has ls 5 [(0, .ref h0), (1, .int 0), (2, .int v4_3_1), (3, .int v4_3_0)]) (fun (q : Int32 × Int32) => match q with | (v4_3_0, v4_3_1) => (901 - (v4_3_0).toInt).toNat) (fun q_4 ih_4 H locs ls hP => ?_) (0, 0) ⟨f1, ⟨by decide +kernel, by decide +kernel⟩, ⟨by decide +kernel, by decide +kernel⟩, (rfl), (by have q0 : (0 : Int32).toInt = 0 := (by decide); omega), h, (lv_sub hl_2 [2, 3, 1, 0] rfl)⟩
  obtain ⟨v4_3_0, v4_3_1⟩ := q_4
  obtain ⟨v4_3_2, hv4_3_0, hv4_3_1, x4_0, x5_1, h, hl⟩ := hP
  refine lv_iload_n hx hb dX12_reckons_4 rfl (lv_at hl 3 rfl) ?_
  refine lv_aload_n hx hb dX12_reckons_5 rfl (lv_at hl 0 rfl) ?_
  refine q_get X hK h 0 rfl rfl wf_12 1 (by decide) rfl wm_5_171 dX12_reckons_6 ?_
  refine lv_bipush (v := 9) hx hb dX12_reckons_9 (by decide) ?_
  refine lv_iload_n hx hb dX12_reckons_11 rfl (lv_at hl 1 rfl) ?_
  refine lv_iadd hx hb dX12_reckons_12 ?_
  refine q_c 9 (by decide +kernel) ?_
  refine q_iald X hK h 1 rfl (q_in (by decide +kernel)) dX12_reckons_13 ?_
  obtain ⟨z_6, ez_6, hz_6⟩ := e_any (f0 9)
  refine q_c z_6 ez_6 ?_
  have ei_6 := congrArg Int32.toInt ez_6
  refine lv_icmp_ge (tgt := 148) hx hb dX12_reckons_14 (by decide) (fun c_7 => ?_) (fun c_7 => ?_)
  · replace c_7 := i_le (x := z_6) (y := v4_3_0) rfl rfl c_7
    refine lv_aload_n hx hb dX12_reckons_148 rfl (lv_at hl 0 rfl) ?_
    refine q_get X hK h 0 rfl rfl wf_12 16 (by decide) rfl wm_5_186 dX12_reckons_149 ?_
    refine lv_iconst (v := 0) hx hb dX12_reckons_152 (by decide) ?_
    refine q_iald X hK h 2 rfl (q_in (by decide +kernel)) dX12_reckons_153 ?_
    refine q_any (fun z_8 hz_8 => ?_)
    exact q_iret X hr hlk hK h rfl (fun _ => 0, (vcons v4_3_2 (fun _ => (fun _ => 0))), fun _ _ => 0) ⟨⟨by omega, by omega⟩, trivial⟩ [0, 1, 2, 3] rfl rfl dX12_reckons_154 (Nat.le_of_ble_eq_true rfl) (Nat.le_of_ble_eq_true rfl)
  · replace c_7 := i_nle (x := z_6) (y := v4_3_0) rfl rfl c_7
    refine lv_aload_n hx hb dX12_reckons_17 rfl (lv_at hl 0 rfl) ?_
    refine q_get X hK h 0 rfl rfl wf_12 1 (by decide) rfl wm_5_171 dX12_reckons_18 ?_
    refine lv_sipush (v := 406) hx hb dX12_reckons_21 (by decide) ?_
    refine lv_aload_n hx hb dX12_reckons_24 rfl (lv_at hl 0 rfl) ?_
    refine q_get X hK h 0 rfl rfl wf_12 1 (by decide) rfl wm_5_171 dX12_reckons_25 ?_
    refine lv_bipush (v := 6) hx hb dX12_reckons_28 (by decide) ?_
    refine lv_iload_n hx hb dX12_reckons_30 rfl (lv_at hl 1 rfl) ?_
    refine lv_iadd hx hb dX12_reckons_31 ?_
    refine q_c 6 (by decide +kernel) ?_
    refine q_iald X hK h 1 rfl (q_in (by decide +kernel)) dX12_reckons_32 ?_
    obtain ⟨z_9, ez_9, hz_9⟩ := e_any (f0 6)
    refine q_c z_9 ez_9 ?_
    have ei_9 := congrArg Int32.toInt ez_9
    refine lv_iadd hx hb dX12_reckons_33 ?_
    obtain ⟨z_10, ez_10, hz_10⟩ := e_add (x := 406) (y := z_9) (show (406 : Int32).toInt = 406 by decide) rfl (by omega) (by omega)
    refine q_c z_10 ez_10 ?_
    clear ez_10
    refine lv_iload_n hx hb dX12_reckons_34 rfl (lv_at hl 3 rfl) ?_
    refine lv_iadd hx hb dX12_reckons_35 ?_
    obtain ⟨z_11, ez_11, hz_11⟩ := e_add (x := z_10) (y := v4_3_0) rfl rfl (by omega) (by omega)
    refine q_c z_11 ez_11 ?_
    clear ez_11
    refine q_iald X hK h 1 rfl (i_in rfl (by omega) (by omega)) dX12_reckons_36 ?_
    obtain ⟨z_12, ez_12, hz_12⟩ := e_any (f0 z_11.toNatClampNeg)
    refine q_c z_12 ez_12 ?_
    obtain ⟨hh_13, s1_13, s2_13⟩ := sk_step wf4 x4_0 (by omega) (by omega) (by omega) ez_12
    have s3_13 := skc_cases s1_13
    refine lv_istore (lv' := [(4, .int z_12), (0, .ref h0), (1, .int 0), (2, .int v4_3_1), (3, .int v4_3_0)]) hx hb dX12_reckons_37 hl (by decide) rfl (fun ls_14 hl_14 => ?_)
    clear hl
    refine lv_iload hx hb dX12_reckons_39 (lv_at hl_14 0 rfl) ?_
    refine lv_sipush (v := 3000) hx hb dX12_reckons_41 (by decide) ?_
    refine q_jn (pc2 := 142) (fun H locs ls st => ∃ v142_15_0 : Int32, ∃ v142_15_1 : Nat → Int32, (0 ≤ (v142_15_0).toInt ∧ (v142_15_0).toInt ≤ 900) ∧ ((v142_15_0 : Int32).toInt = (hh_13 : Int)) ∧ st = [] ∧ qW D (va_A (wk_d5826a772 cy h0 p0 h1 w0 w1 w2 p1 p2 p3 p4 p5 p6 p7 p8 p9 p10 p11 h2 h3 w3 w4 w5 p12 p13 w6 w7 w8 p14 p15 w9 w10 w11 w12 w13 p16 w14 w15 w16 h1 f0 h2 f1 h3 f2) sz) s.heap (wk_d5826a772 cy h0 p0 h1 w0 w1 w2 p1 p2 p3 p4 p5 p6 p7 p8 p9 p10 p11 h2 h3 w3 w4 w5 p12 p13 w6 w7 w8 p14 p15 w9 w10 w11 w12 w13 p16 w14 w15 w16 h1 f0 h2 v142_15_1 h3 f2) H locs ∧ lv_has ls 5 [(0, .ref h0), (1, .int 0), (2, .int v142_15_0), (3, .int v4_3_0), (4, .int z_12)]) (fun H locs ls st hP => ?_) (fun J_142 => ?_)
    · obtain ⟨v142_15_0, v142_15_1, hv142_15_0, x16_0, rfl, h, hl⟩ := hP
      obtain ⟨z_17, ez_17, hz_17⟩ := e_add (x := v4_3_0) (y := Int32.ofInt 1) rfl (b := 1) (by decide) (by omega) (by omega)
      refine lv_iinc (v := z_17) (lv' := [(3, .int z_17), (0, .ref h0), (1, .int 0), (2, .int v142_15_0), (4, .int z_12)]) hx hb dX12_reckons_142 hl (k := 3) rfl ez_17 (by decide) rfl (fun ls_17 hl_17 => ?_)
      clear hl
      refine lv_goto (tgt := 4) hx hb dX12_reckons_145 (by decide) ?_
      exact ih_4 (z_17, v142_15_0) (by show (901 - (z_17).toInt).toNat < (901 - (v4_3_0).toInt).toNat; omega) _ _ _ ⟨v142_15_1, ⟨by omega, by omega⟩, hv142_15_0, (sk_arr s2_13 (by (first | assumption | omega)) (by (first | assumption | omega))), (by omega), h, (lv_sub hl_17 [1, 2, 3, 0] rfl)⟩
    · skip
      refine lv_icmp_ge (tgt := 83) hx hb dX12_reckons_44 (by decide) (fun c_18 => ?_) (fun c_18 => ?_)
      · replace c_18 := i_le (x := 3000) (y := z_12) (show (3000 : Int32).toInt = 3000 by decide) rfl c_18
        refine lv_iload hx hb dX12_reckons_83 (lv_at hl_14 0 rfl) ?_
        refine lv_sipush (v := 3006) hx hb dX12_reckons_85 (by decide) ?_
        refine lv_icmp_ne (tgt := 112) hx hb dX12_reckons_88 (by decide) (fun c_19 => ?_) (fun c_19 => ?_)
        · replace c_19 := i_ne (x := z_12) (y := 3006) rfl (show (3006 : Int32).toInt = 3006 by decide) c_19
          obtain ⟨z_20, ez_20, hz_20⟩ := e_add (x := v4_3_1) (y := Int32.ofInt (-1)) rfl (b := (-1)) (by decide) (by omega) (by omega)
          refine lv_iinc (v := z_20) (lv' := [(2, .int z_20), (4, .int z_12), (0, .ref h0), (1, .int 0), (3, .int v4_3_0)]) hx hb dX12_reckons_112 hl_14 (k := 3) rfl ez_20 (by decide) rfl (fun ls_20 hl_20 => ?_)
          clear hl_14
          refine lv_aload_n hx hb dX12_reckons_115 rfl (lv_at hl_20 2 rfl) ?_
          refine q_get X hK h 0 rfl rfl wf_12 16 (by decide) rfl wm_5_186 dX12_reckons_116 ?_
          refine lv_iload_n hx hb dX12_reckons_119 rfl (lv_at hl_20 0 rfl) ?_
          refine lv_iconst (v := 1) hx hb dX12_reckons_120 (by decide) ?_
          refine lv_isub hx hb dX12_reckons_121 ?_
          obtain ⟨z_21, ez_21, hz_21⟩ := e_sub (x := z_20) (y := 1) rfl (show (1 : Int32).toInt = 1 by decide) (by omega) (by omega)
          refine q_c z_21 ez_21 ?_
          clear ez_21
          refine lv_iload hx hb dX12_reckons_122 (lv_at hl_20 1 rfl) ?_
          refine lv_aload_n hx hb dX12_reckons_124 rfl (lv_at hl_20 2 rfl) ?_
          refine q_get X hK h 0 rfl rfl wf_12 16 (by decide) rfl wm_5_186 dX12_reckons_125 ?_
          refine lv_iload_n hx hb dX12_reckons_128 rfl (lv_at hl_20 0 rfl) ?_
          refine lv_iconst (v := 1) hx hb dX12_reckons_129 (by decide) ?_
          refine lv_isub hx hb dX12_reckons_130 ?_
          obtain ⟨z_22, ez_22, hz_22⟩ := e_sub (x := z_20) (y := 1) rfl (show (1 : Int32).toInt = 1 by decide) (by omega) (by omega)
          refine q_c z_22 ez_22 ?_
          clear ez_22
          refine q_iald X hK h 2 rfl (i_in rfl (by omega) (by omega)) dX12_reckons_131 ?_
          refine q_any (fun z_23 hz_23 => ?_)
          refine lv_aload_n hx hb dX12_reckons_132 rfl (lv_at hl_20 2 rfl) ?_
          refine q_get X hK h 0 rfl rfl wf_12 16 (by decide) rfl wm_5_186 dX12_reckons_133 ?_
          refine lv_iload_n hx hb dX12_reckons_136 rfl (lv_at hl_20 0 rfl) ?_
          refine q_iald X hK h 2 rfl (i_in rfl (by omega) (by omega)) dX12_reckons_137 ?_
          refine q_any (fun z_24 hz_24 => ?_)
          refine q_callSi (rest := [.int z_21, .ref h2]) (wr := (wk_d5826a772 cy h0 p0 h1 w0 w1 w2 p1 p2 p3 p4 p5 p6 p7 p8 p9 p10 p11 h2 h3 w3 w4 w5 p12 p13 w6 w7 w8 p14 p15 w9 w10 w11 w12 w13 p16 w14 w15 w16 h1 f0 h2 v4_3_2 h3 f2)) X hK hT hA h (fun sz => gX12_between_b825dc3 l D cy z_12 z_23 z_24 ⟨by omega, by omega⟩ (i_rng _) (i_rng _) sz) wm_6_199 wm_6_201 wm_1_12 hd_X12_between wm_6_200 ⟨Nat.le_of_ble_eq_true rfl, Nat.le_of_ble_eq_true rfl⟩ hl_20.1 rfl (Nat.le_of_ble_eq_true rfl) dX12_reckons_138 ⟨Nat.le_of_ble_eq_true rfl, Nat.le_of_ble_eq_true rfl⟩ [] [0, 1, 2, 3] rfl rfl (by decide) rfl rfl (fun r_25 u_25 H locs w_25 h_25 => ?_)
          clear h
          obtain ⟨wr_25, _⟩ := w_25
          replace h_25 : qW D _ _ (wk_d5826a772 cy h0 p0 h1 w0 w1 w2 p1 p2 p3 p4 p5 p6 p7 p8 p9 p10 p11 h2 h3 w3 w4 w5 p12 p13 w6 w7 w8 p14 p15 w9 w10 w11 w12 w13 p16 w14 w15 w16 h1 f0 h2 v4_3_2 h3 f2) _ _ := h_25
          refine q_iast X hK h_25 2 rfl (i_in rfl (by omega) (by omega)) dX12_reckons_141 (fun H locs h_27 => ?_)
          clear h_25
          replace h_27 : qW D _ _ (wk_d5826a772 cy h0 p0 h1 w0 w1 w2 p1 p2 p3 p4 p5 p6 p7 p8 p9 p10 p11 h2 h3 w3 w4 w5 p12 p13 w6 w7 w8 p14 p15 w9 w10 w11 w12 w13 p16 w14 w15 w16 h1 f0 h2 (upd v4_3_2 (Int32.toNatClampNeg z_21) r_25) h3 f2) _ _ := h_27
          obtain ⟨F_26, eF_26⟩ : ∃ z, (upd v4_3_2 (Int32.toNatClampNeg z_21) r_25) = z := ⟨_, rfl⟩
          rw [eF_26] at h_27
          clear eF_26
          exact J_142 _ _ _ _ ⟨z_20, F_26, ⟨by omega, by omega⟩, (by omega), rfl, h_27, (lv_sub hl_20 [2, 3, 0, 4, 1] rfl)⟩
        · replace c_19 := i_eq (x := z_12) (y := 3006) rfl (show (3006 : Int32).toInt = 3006 by decide) c_19
          refine lv_aload_n hx hb dX12_reckons_91 rfl (lv_at hl_14 1 rfl) ?_
          refine q_get X hK h 0 rfl rfl wf_12 16 (by decide) rfl wm_5_186 dX12_reckons_92 ?_
          refine lv_iload_n hx hb dX12_reckons_95 rfl (lv_at hl_14 3 rfl) ?_
          refine lv_iconst (v := 1) hx hb dX12_reckons_96 (by decide) ?_
          refine lv_isub hx hb dX12_reckons_97 ?_
          obtain ⟨z_28, ez_28, hz_28⟩ := e_sub (x := v4_3_1) (y := 1) rfl (show (1 : Int32).toInt = 1 by decide) (by omega) (by omega)
          refine q_c z_28 ez_28 ?_
          clear ez_28
          refine lv_iconst (v := 1) hx hb dX12_reckons_98 (by decide) ?_
          refine lv_aload_n hx hb dX12_reckons_99 rfl (lv_at hl_14 1 rfl) ?_
          refine q_get X hK h 0 rfl rfl wf_12 16 (by decide) rfl wm_5_186 dX12_reckons_100 ?_
          refine lv_iload_n hx hb dX12_reckons_103 rfl (lv_at hl_14 3 rfl) ?_
          refine lv_iconst (v := 1) hx hb dX12_reckons_104 (by decide) ?_
          refine lv_isub hx hb dX12_reckons_105 ?_
          obtain ⟨z_29, ez_29, hz_29⟩ := e_sub (x := v4_3_1) (y := 1) rfl (show (1 : Int32).toInt = 1 by decide) (by omega) (by omega)
          refine q_c z_29 ez_29 ?_
          clear ez_29
          refine q_iald X hK h 2 rfl (i_in rfl (by omega) (by omega)) dX12_reckons_106 ?_
          refine q_any (fun z_30 hz_30 => ?_)
          refine lv_isub hx hb dX12_reckons_107 ?_
          refine q_any (fun z_31 hz_31 => ?_)
          refine q_iast X hK h 2 rfl (i_in rfl (by omega) (by omega)) dX12_reckons_108 (fun H locs h_33 => ?_)
          clear h
          replace h_33 : qW D _ _ (wk_d5826a772 cy h0 p0 h1 w0 w1 w2 p1 p2 p3 p4 p5 p6 p7 p8 p9 p10 p11 h2 h3 w3 w4 w5 p12 p13 w6 w7 w8 p14 p15 w9 w10 w11 w12 w13 p16 w14 w15 w16 h1 f0 h2 (upd v4_3_2 (Int32.toNatClampNeg z_28) z_31) h3 f2) _ _ := h_33
          obtain ⟨F_32, eF_32⟩ : ∃ z, (upd v4_3_2 (Int32.toNatClampNeg z_28) z_31) = z := ⟨_, rfl⟩
          rw [eF_32] at h_33
          clear eF_32
          refine lv_goto (tgt := 142) hx hb dX12_reckons_109 (by decide) ?_
          exact J_142 _ _ _ _ ⟨v4_3_1, F_32, hv4_3_1, (by omega), rfl, h_33, (lv_sub hl_14 [1, 2, 3, 4, 0] rfl)⟩
      · replace c_18 := i_nle (x := 3000) (y := z_12) (show (3000 : Int32).toInt = 3000 by decide) rfl c_18
        refine lv_aload_n hx hb dX12_reckons_47 rfl (lv_at hl_14 1 rfl) ?_
        refine q_get X hK h 0 rfl rfl wf_12 16 (by decide) rfl wm_5_186 dX12_reckons_48 ?_
        refine lv_iload_n hx hb dX12_reckons_51 rfl (lv_at hl_14 3 rfl) ?_
        refine lv_iload hx hb dX12_reckons_52 (lv_at hl_14 0 rfl) ?_
        refine lv_sipush (v := 1000) hx hb dX12_reckons_54 (by decide) ?_
        refine q_jn (pc2 := 76) (fun H locs ls st => ∃ v76_34_0 : Int32, ((-2147483648) ≤ (v76_34_0).toInt ∧ (v76_34_0).toInt ≤ 2147483647) ∧ st = [.int v76_34_0, .int v4_3_1, .ref h2] ∧ qW D (va_A (wk_d5826a772 cy h0 p0 h1 w0 w1 w2 p1 p2 p3 p4 p5 p6 p7 p8 p9 p10 p11 h2 h3 w3 w4 w5 p12 p13 w6 w7 w8 p14 p15 w9 w10 w11 w12 w13 p16 w14 w15 w16 h1 f0 h2 f1 h3 f2) sz) s.heap (wk_d5826a772 cy h0 p0 h1 w0 w1 w2 p1 p2 p3 p4 p5 p6 p7 p8 p9 p10 p11 h2 h3 w3 w4 w5 p12 p13 w6 w7 w8 p14 p15 w9 w10 w11 w12 w13 p16 w14 w15 w16 h1 f0 h2 v4_3_2 h3 f2) H locs ∧ lv_has ls 5 [(0, .ref h0), (1, .int 0), (2, .int v4_3_1), (3, .int v4_3_0), (4, .int z_12)]) (fun H locs ls st hP => ?_) (fun J_76 => ?_)
        · obtain ⟨v76_34_0, hv76_34_0, rfl, h, hl⟩ := hP
          refine q_iast X hK h 2 rfl (i_in rfl (by omega) (by omega)) dX12_reckons_76 (fun H locs h_36 => ?_)
          clear h
          replace h_36 : qW D _ _ (wk_d5826a772 cy h0 p0 h1 w0 w1 w2 p1 p2 p3 p4 p5 p6 p7 p8 p9 p10 p11 h2 h3 w3 w4 w5 p12 p13 w6 w7 w8 p14 p15 w9 w10 w11 w12 w13 p16 w14 w15 w16 h1 f0 h2 (upd v4_3_2 (Int32.toNatClampNeg v4_3_1) v76_34_0) h3 f2) _ _ := h_36
          obtain ⟨F_35, eF_35⟩ : ∃ z, (upd v4_3_2 (Int32.toNatClampNeg v4_3_1) v76_34_0) = z := ⟨_, rfl⟩
          rw [eF_35] at h_36
          clear eF_35
          obtain ⟨z_37, ez_37, hz_37⟩ := e_add (x := v4_3_1) (y := Int32.ofInt 1) rfl (b := 1) (by decide) (by omega) (by omega)
          refine lv_iinc (v := z_37) (lv' := [(2, .int z_37), (0, .ref h0), (1, .int 0), (3, .int v4_3_0), (4, .int z_12)]) hx hb dX12_reckons_77 hl (k := 2) rfl ez_37 (by decide) rfl (fun ls_37 hl_37 => ?_)
          clear hl
          refine lv_goto (tgt := 142) hx hb dX12_reckons_80 (by decide) ?_
          exact J_142 _ _ _ _ ⟨z_37, F_35, ⟨by omega, by omega⟩, (by omega), rfl, h_36, (lv_sub hl_37 [1, 2, 0, 3, 4] rfl)⟩
        · skip
          refine lv_icmp_ge (tgt := 65) hx hb dX12_reckons_57 (by decide) (fun c_38 => ?_) (fun c_38 => ?_)
          · replace c_38 := i_le (x := 1000) (y := z_12) (show (1000 : Int32).toInt = 1000 by decide) rfl c_38
            refine lv_aload_n hx hb dX12_reckons_65 rfl (lv_at hl_14 1 rfl) ?_
            refine q_get X hK h 0 rfl rfl wf_12 17 (by decide) rfl wm_5_187 dX12_reckons_66 ?_
            refine lv_iload hx hb dX12_reckons_69 (lv_at hl_14 0 rfl) ?_
            refine lv_sipush (v := 1000) hx hb dX12_reckons_71 (by decide) ?_
            refine lv_isub hx hb dX12_reckons_74 ?_
            obtain ⟨z_39, ez_39, hz_39⟩ := e_sub (x := z_12) (y := 1000) rfl (show (1000 : Int32).toInt = 1000 by decide) (by omega) (by omega)
            refine q_c z_39 ez_39 ?_
            clear ez_39
            refine q_iald X hK h 3 rfl (i_in rfl (by omega) (by omega)) dX12_reckons_75 ?_
            refine q_any (fun z_40 hz_40 => ?_)
            exact J_76 _ _ _ _ ⟨z_40, ⟨by omega, by omega⟩, rfl, h, (lv_sub hl_14 [1, 2, 3, 4, 0] rfl)⟩
          · replace c_38 := i_nle (x := 1000) (y := z_12) (show (1000 : Int32).toInt = 1000 by decide) rfl c_38
            refine lv_iload hx hb dX12_reckons_60 (lv_at hl_14 0 rfl) ?_
            refine lv_goto (tgt := 76) hx hb dX12_reckons_62 (by decide) ?_
            exact J_76 _ _ _ _ ⟨z_12, ⟨by omega, by omega⟩, rfl, h, (lv_sub hl_14 [1, 2, 3, 4, 0] rfl)⟩
set_option maxHeartbeats 4000000 in
set_option maxRecDepth 100000 in
theorem gX12_areOpposed_e7e6c1a (l : Launch) (D : va_G) (cy : Nat → ClassId) (h0 : Nat) (h1 : Nat) (h2 : Nat) (h3 : Nat) (p0 : Int32) (p1 : Int32) (p2 : Int32) (p3 : Int32) (w0 : Value) (w1 : Value) (w2 : Value) (p4 : Int32) (p5 : Int32) (p6 : Int32) (p7 : Int32) (p8 : Int32) (p9 : Int32) (p10 : Int32) (p11 : Int32) (p12 : Int32) (p13 : Int32) (p14 : Int32) (w3 : Value) (w4 : Value) (w5 : Value) (p15 : Int32) (p16 : Int32) (w6 : Value) (w7 : Value) (w8 : Value) (p17 : Int32) (p18 : Int32) (w9 : Value) (w10 : Value) (w11 : Value) (w12 : Value) (w13 : Value) (p19 : Int32) (w14 : Value) (w15 : Value) (w16 : Value) (f0 : Nat → Int32) (p20 : Int32) (f1 : Nat → Int32) (f2 : Nat → Int32) (hp0 : 0 ≤ (p0).toInt ∧ (p0).toInt ≤ 9) (hp1 : 0 ≤ (p1).toInt ∧ (p1).toInt ≤ 9) (hp2 : (-2147483648) ≤ (p2).toInt ∧ (p2).toInt ≤ 2147483647) (hp3 : 0 ≤ (p3).toInt ∧ (p3).toInt ≤ 0) (hp4 : 0 ≤ (p4).toInt ∧ (p4).toInt ≤ 900) (hp5 : 0 ≤ (p5).toInt ∧ (p5).toInt ≤ 900) (hp6 : 0 ≤ (p6).toInt ∧ (p6).toInt ≤ 900) (hp7 : 0 ≤ (p7).toInt ∧ (p7).toInt ≤ 900) (hp8 : (-2147483648) ≤ (p8).toInt ∧ (p8).toInt ≤ 2147483647) (hp9 : 0 ≤ (p9).toInt ∧ (p9).toInt ≤ 999) (hp10 : (-2147483648) ≤ (p10).toInt ∧ (p10).toInt ≤ 2147483647) (hp11 : (-2147483648) ≤ (p11).toInt ∧ (p11).toInt ≤ 2147483647) (hp12 : (-2147483648) ≤ (p12).toInt ∧ (p12).toInt ≤ 2147483647) (hp13 : (-2147483648) ≤ (p13).toInt ∧ (p13).toInt ≤ 2147483647) (hp14 : (-2147483648) ≤ (p14).toInt ∧ (p14).toInt ≤ 2147483647) (hp15 : (-2147483648) ≤ (p15).toInt ∧ (p15).toInt ≤ 2147483647) (hp16 : (-2147483648) ≤ (p16).toInt ∧ (p16).toInt ≤ 2147483647) (hp17 : (-2147483648) ≤ (p17).toInt ∧ (p17).toInt ≤ 2147483647) (hp18 : (-2147483648) ≤ (p18).toInt ∧ (p18).toInt ≤ 2147483647) (hp19 : (-2147483648) ≤ (p19).toInt ∧ (p19).toInt ≤ 2147483647) (hp20 : 0 ≤ (p20).toInt ∧ (p20).toInt ≤ 10) (htf0_84 : f0 84 = p20) (rf0 : AL f0) (sz : Nat) : MI l yX12_areOpposed cX12_areOpposed 4 .boolean { frames := 2, cells := 0, slots := 0, locals := 48 } [.ref h0, .int p0, .int p1, .int p2] D cy (wk_d5826a772 cy h0 p3 h1 w0 w1 w2 p4 p5 p6 p7 p8 p9 p10 p11 p12 p13 p14 h2 h3 w3 w4 w5 p15 p16 w6 w7 w8 p17 p18 w9 w10 w11 w12 w13 p19 w14 w15 w16 h1 f0 h2 f1 h3 f2) sz (fun r u => (0 ≤ r.toInt ∧ r.toInt ≤ 1) ∧ True) (fun u => (wk_d5826a772 cy h0 p3 h1 w0 w1 w2 p4 p5 p6 p7 p8 p9 p10 p11 p12 p13 p14 h2 h3 w3 w4 w5 p15 p16 w6 w7 w8 p17 p18 w9 w10 w11 w12 w13 p19 w14 w15 w16 h1 f0 h2 (u.2.1 0) h3 (u.2.1 1))) 0 0 := by
  refine q_ent (own := RX12) (by decide) rfl (Nat.le_of_ble_eq_true rfl) (fun p e s m below meth c ls X hr hlk hnm hK hT h hA hl => ?_)
  obtain ⟨hx, hb, hml, hown, ht⟩ := id X
  replace hl : lv_has ls 4 [(0, .ref h0), (1, .int p0), (2, .int p1), (3, .int p2)] := hl
  refine lv_aload_n hx hb dX12_areOpposed_0 rfl (lv_at hl 0 rfl) ?_
  refine q_get X hK h 0 rfl rfl wf_12 1 (by decide) rfl wm_5_171 dX12_areOpposed_1 ?_
  refine lv_iconst (v := 3) hx hb dX12_areOpposed_4 (by decide) ?_
  refine q_iald X hK h 1 rfl (q_in (by decide +kernel)) dX12_areOpposed_5 ?_
  obtain ⟨z_1, ez_1, hz_1⟩ := e_any (f0 3)
  refine q_c z_1 ez_1 ?_
  have ei_1 := congrArg Int32.toInt ez_1
  refine lv_if_ne (tgt := 43) hx hb dX12_areOpposed_6 (by decide) (fun c_2 => ?_) (fun c_2 => ?_)
  · replace c_2 := i_ne (x := z_1) (y := 0) rfl (show (0 : Int32).toInt = 0 by decide) c_2
    refine lv_aload_n hx hb dX12_areOpposed_43 rfl (lv_at hl 0 rfl) ?_
    refine lv_iload_n hx hb dX12_areOpposed_44 rfl (lv_at hl 1 rfl) ?_
    refine lv_iload_n hx hb dX12_areOpposed_45 rfl (lv_at hl 2 rfl) ?_
    refine lv_iload_n hx hb dX12_areOpposed_46 rfl (lv_at hl 3 rfl) ?_
    refine q_callVv (rest := []) (wr := [(h2, .inl (cy 1, 900, .inl f1))]) X hK hT hA h (fun sz => gX12_asks_64a3bea l D cy h0 h1 h3 p0 p1 p2 p3 w0 w1 w2 p4 p5 p6 p7 p8 p9 p10 p11 p12 p13 p14 (.ref h2) w3 w4 w5 p15 p16 w6 w7 w8 p17 p18 w9 w10 w11 w12 w13 p19 w14 w15 w16 f0 p20 f2 hp0 hp1 (i_rng _) hp3 hp4 hp5 hp6 hp7 (i_rng _) hp9 (i_rng _) (i_rng _) (i_rng _) (i_rng _) (i_rng _) (i_rng _) (i_rng _) (i_rng _) (i_rng _) (i_rng _) hp20 htf0_84 rf0 sz) wm_6_191 wm_6_194 wm_1_12 hd_X12_asks wm_6_193 wp_5_12 (ci := 12) (q0 := 0) rfl rfl ⟨Nat.le_of_ble_eq_true rfl, Nat.le_of_ble_eq_true rfl⟩ hl.1 rfl (Nat.le_of_ble_eq_true rfl) dX12_areOpposed_47 ⟨Nat.le_of_ble_eq_true rfl, Nat.le_of_ble_eq_true rfl⟩ [0, 1, 3] [2] rfl rfl (by decide) rfl rfl (fun u_3 H locs w_3 h_3 => ?_)
    clear h
    clear w_3
    replace h_3 : qW D _ _ (wk_e4244dc24 cy h2 f1 h0 p3 h1 w0 w1 w2 p4 p5 p6 p7 p8 p9 p10 p11 p12 p13 p14 h2 h3 w3 w4 w5 p15 p16 w6 w7 w8 p17 p18 w9 w10 w11 w12 w13 p19 w14 w15 w16 h1 f0 h3 (u_3.2.1 0)) _ _ := h_3
    refine lv_aload_n hx hb dX12_areOpposed_50 rfl (lv_at hl 0 rfl) ?_
    refine lv_iconst (v := 0) hx hb dX12_areOpposed_51 (by decide) ?_
    refine q_callVi (rest := []) (wr := []) X hK hT hA h_3 (fun sz => gX12_reckons_4dca281 l D cy h0 h1 h2 h3 p3 w0 w1 w2 p4 p5 p6 p7 p8 p9 p10 p11 p12 p13 p14 w3 w4 w5 p15 p16 w6 w7 w8 p17 p18 w9 w10 w11 w12 w13 p19 w14 w15 w16 f0 p20 f1 (u_3.2.1 0) hp3 hp4 hp5 hp6 hp7 (i_rng _) hp9 (i_rng _) (i_rng _) (i_rng _) (i_rng _) (i_rng _) (i_rng _) (i_rng _) (i_rng _) (i_rng _) (i_rng _) hp20 htf0_84 rf0 (al_law rf0 0 (by decide) (by show (f0 3).toInt ≠ 0; omega)) sz) wm_6_195 wm_6_198 wm_1_12 hd_X12_reckons wm_6_197 wp_5_13 (ci := 12) (q0 := 0) rfl rfl ⟨Nat.le_of_ble_eq_true rfl, Nat.le_of_ble_eq_true rfl⟩ hl.1 rfl (Nat.le_of_ble_eq_true rfl) dX12_areOpposed_52 ⟨Nat.le_of_ble_eq_true rfl, Nat.le_of_ble_eq_true rfl⟩ [1, 2, 0, 3] [] rfl rfl (by decide) rfl rfl (fun r_4 u_4 H locs w_4 h_4 => ?_)
    clear h_3
    obtain ⟨wr_4, _⟩ := w_4
    replace h_4 : qW D _ _ (wk_d5826a772 cy h0 p3 h1 w0 w1 w2 p4 p5 p6 p7 p8 p9 p10 p11 p12 p13 p14 h2 h3 w3 w4 w5 p15 p16 w6 w7 w8 p17 p18 w9 w10 w11 w12 w13 p19 w14 w15 w16 h1 f0 h2 (u_4.2.1 0) h3 (u_3.2.1 0)) _ _ := h_4
    refine lv_iconst (v := 1) hx hb dX12_areOpposed_55 (by decide) ?_
    refine lv_icmp_ne (tgt := 61) hx hb dX12_areOpposed_56 (by decide) (fun c_5 => ?_) (fun c_5 => ?_)
    · replace c_5 := i_ne (x := r_4) (y := 1) rfl (show (1 : Int32).toInt = 1 by decide) c_5
      refine lv_aload_n hx hb dX12_areOpposed_61 rfl (lv_at hl 0 rfl) ?_
      refine lv_iload_n hx hb dX12_areOpposed_62 rfl (lv_at hl 2 rfl) ?_
      refine lv_iload_n hx hb dX12_areOpposed_63 rfl (lv_at hl 1 rfl) ?_
      refine lv_iload_n hx hb dX12_areOpposed_64 rfl (lv_at hl 3 rfl) ?_
      refine q_callVv (rest := []) (wr := [(h2, .inl (cy 1, 900, .inl (u_4.2.1 0)))]) X hK hT hA h_4 (fun sz => gX12_asks_64a3bea l D cy h0 h1 h3 p1 p0 p2 p3 w0 w1 w2 p4 p5 p6 p7 p8 p9 p10 p11 p12 p13 p14 (.ref h2) w3 w4 w5 p15 p16 w6 w7 w8 p17 p18 w9 w10 w11 w12 w13 p19 w14 w15 w16 f0 p20 (u_3.2.1 0) hp1 hp0 (i_rng _) hp3 hp4 hp5 hp6 hp7 (i_rng _) hp9 (i_rng _) (i_rng _) (i_rng _) (i_rng _) (i_rng _) (i_rng _) (i_rng _) (i_rng _) (i_rng _) (i_rng _) hp20 htf0_84 rf0 sz) wm_6_191 wm_6_194 wm_1_12 hd_X12_asks wm_6_193 wp_5_12 (ci := 12) (q0 := 0) rfl rfl ⟨Nat.le_of_ble_eq_true rfl, Nat.le_of_ble_eq_true rfl⟩ hl.1 rfl (Nat.le_of_ble_eq_true rfl) dX12_areOpposed_65 ⟨Nat.le_of_ble_eq_true rfl, Nat.le_of_ble_eq_true rfl⟩ [0, 1, 3] [2] rfl rfl (by decide) rfl rfl (fun u_6 H locs w_6 h_6 => ?_)
      clear h_4
      clear w_6
      replace h_6 : qW D _ _ (wk_e4244dc24 cy h2 (u_4.2.1 0) h0 p3 h1 w0 w1 w2 p4 p5 p6 p7 p8 p9 p10 p11 p12 p13 p14 h2 h3 w3 w4 w5 p15 p16 w6 w7 w8 p17 p18 w9 w10 w11 w12 w13 p19 w14 w15 w16 h1 f0 h3 (u_6.2.1 0)) _ _ := h_6
      refine lv_aload_n hx hb dX12_areOpposed_68 rfl (lv_at hl 0 rfl) ?_
      refine lv_iconst (v := 0) hx hb dX12_areOpposed_69 (by decide) ?_
      refine q_callVi (rest := []) (wr := []) X hK hT hA h_6 (fun sz => gX12_reckons_4dca281 l D cy h0 h1 h2 h3 p3 w0 w1 w2 p4 p5 p6 p7 p8 p9 p10 p11 p12 p13 p14 w3 w4 w5 p15 p16 w6 w7 w8 p17 p18 w9 w10 w11 w12 w13 p19 w14 w15 w16 f0 p20 (u_4.2.1 0) (u_6.2.1 0) hp3 hp4 hp5 hp6 hp7 (i_rng _) hp9 (i_rng _) (i_rng _) (i_rng _) (i_rng _) (i_rng _) (i_rng _) (i_rng _) (i_rng _) (i_rng _) (i_rng _) hp20 htf0_84 rf0 (al_law rf0 0 (by decide) (by show (f0 3).toInt ≠ 0; omega)) sz) wm_6_195 wm_6_198 wm_1_12 hd_X12_reckons wm_6_197 wp_5_13 (ci := 12) (q0 := 0) rfl rfl ⟨Nat.le_of_ble_eq_true rfl, Nat.le_of_ble_eq_true rfl⟩ hl.1 rfl (Nat.le_of_ble_eq_true rfl) dX12_areOpposed_70 ⟨Nat.le_of_ble_eq_true rfl, Nat.le_of_ble_eq_true rfl⟩ [1, 2, 0, 3] [] rfl rfl (by decide) rfl rfl (fun r_7 u_7 H locs w_7 h_7 => ?_)
      clear h_6
      obtain ⟨wr_7, _⟩ := w_7
      replace h_7 : qW D _ _ (wk_d5826a772 cy h0 p3 h1 w0 w1 w2 p4 p5 p6 p7 p8 p9 p10 p11 p12 p13 p14 h2 h3 w3 w4 w5 p15 p16 w6 w7 w8 p17 p18 w9 w10 w11 w12 w13 p19 w14 w15 w16 h1 f0 h2 (u_7.2.1 0) h3 (u_6.2.1 0)) _ _ := h_7
      refine lv_iconst (v := 1) hx hb dX12_areOpposed_73 (by decide) ?_
      refine lv_icmp_ne (tgt := 81) hx hb dX12_areOpposed_74 (by decide) (fun c_8 => ?_) (fun c_8 => ?_)
      · replace c_8 := i_ne (x := r_7) (y := 1) rfl (show (1 : Int32).toInt = 1 by decide) c_8
        refine lv_iconst (v := 0) hx hb dX12_areOpposed_81 (by decide) ?_
        exact q_iret X hr hlk hK h_7 rfl (fun _ => 0, (vcons (u_7.2.1 0) (vcons (u_6.2.1 0) (fun _ => (fun _ => 0)))), fun _ _ => 0) ⟨⟨by decide +kernel, by decide +kernel⟩, trivial⟩ [0, 1, 2, 3] rfl rfl dX12_areOpposed_82 (Nat.le_of_ble_eq_true rfl) (Nat.le_of_ble_eq_true rfl)
      · replace c_8 := i_eq (x := r_7) (y := 1) rfl (show (1 : Int32).toInt = 1 by decide) c_8
        refine lv_iconst (v := 1) hx hb dX12_areOpposed_77 (by decide) ?_
        refine lv_goto (tgt := 82) hx hb dX12_areOpposed_78 (by decide) ?_
        exact q_iret X hr hlk hK h_7 rfl (fun _ => 0, (vcons (u_7.2.1 0) (vcons (u_6.2.1 0) (fun _ => (fun _ => 0)))), fun _ _ => 0) ⟨⟨by decide +kernel, by decide +kernel⟩, trivial⟩ [0, 1, 2, 3] rfl rfl dX12_areOpposed_82 (Nat.le_of_ble_eq_true rfl) (Nat.le_of_ble_eq_true rfl)
    · replace c_5 := i_eq (x := r_4) (y := 1) rfl (show (1 : Int32).toInt = 1 by decide) c_5
      refine lv_iconst (v := 1) hx hb dX12_areOpposed_59 (by decide) ?_
      exact q_iret X hr hlk hK h_4 rfl (fun _ => 0, (vcons (u_4.2.1 0) (vcons (u_3.2.1 0) (fun _ => (fun _ => 0)))), fun _ _ => 0) ⟨⟨by decide +kernel, by decide +kernel⟩, trivial⟩ [0, 1, 2, 3] rfl rfl dX12_areOpposed_60 (Nat.le_of_ble_eq_true rfl) (Nat.le_of_ble_eq_true rfl)
  · replace c_2 := i_eq (x := z_1) (y := 0) rfl (show (0 : Int32).toInt = 0 by decide) c_2
    refine lv_aload_n hx hb dX12_areOpposed_9 rfl (lv_at hl 0 rfl) ?_
    refine q_get X hK h 0 rfl rfl wf_12 1 (by decide) rfl wm_5_171 dX12_areOpposed_10 ?_
    refine lv_bipush (v := 54) hx hb dX12_areOpposed_13 (by decide) ?_
    refine lv_iconst (v := 3) hx hb dX12_areOpposed_15 (by decide) ?_
    refine lv_iload_n hx hb dX12_areOpposed_16 rfl (lv_at hl 1 rfl) ?_
    refine lv_imul hx hb dX12_areOpposed_17 ?_
    obtain ⟨z_9, ez_9, hz_9⟩ := e_mul (x := 3) (y := p0) (show (3 : Int32).toInt = 3 by decide) rfl (by omega) (by omega)
    refine q_c z_9 ez_9 ?_
    clear ez_9
    refine lv_iadd hx hb dX12_areOpposed_18 ?_
    obtain ⟨z_10, ez_10, hz_10⟩ := e_add (x := 54) (y := z_9) (show (54 : Int32).toInt = 54 by decide) rfl (by omega) (by omega)
    refine q_c z_10 ez_10 ?_
    clear ez_10
    refine q_iald X hK h 1 rfl (i_in rfl (by omega) (by omega)) dX12_areOpposed_19 ?_
    obtain ⟨z_11, ez_11, hz_11⟩ := al_W rf0 (x := z_10) rfl (by omega) (by omega)
    refine q_c z_11 ez_11 ?_
    clear ez_11
    refine lv_aload_n hx hb dX12_areOpposed_20 rfl (lv_at hl 0 rfl) ?_
    refine q_get X hK h 0 rfl rfl wf_12 1 (by decide) rfl wm_5_171 dX12_areOpposed_21 ?_
    refine lv_bipush (v := 54) hx hb dX12_areOpposed_24 (by decide) ?_
    refine lv_iconst (v := 3) hx hb dX12_areOpposed_26 (by decide) ?_
    refine lv_iload_n hx hb dX12_areOpposed_27 rfl (lv_at hl 2 rfl) ?_
    refine lv_imul hx hb dX12_areOpposed_28 ?_
    obtain ⟨z_12, ez_12, hz_12⟩ := e_mul (x := 3) (y := p1) (show (3 : Int32).toInt = 3 by decide) rfl (by omega) (by omega)
    refine q_c z_12 ez_12 ?_
    clear ez_12
    refine lv_iadd hx hb dX12_areOpposed_29 ?_
    obtain ⟨z_13, ez_13, hz_13⟩ := e_add (x := 54) (y := z_12) (show (54 : Int32).toInt = 54 by decide) rfl (by omega) (by omega)
    refine q_c z_13 ez_13 ?_
    clear ez_13
    refine q_iald X hK h 1 rfl (i_in rfl (by omega) (by omega)) dX12_areOpposed_30 ?_
    obtain ⟨z_14, ez_14, hz_14⟩ := al_W rf0 (x := z_13) rfl (by omega) (by omega)
    refine q_c z_14 ez_14 ?_
    clear ez_14
    refine lv_iadd hx hb dX12_areOpposed_31 ?_
    obtain ⟨z_15, ez_15, hz_15⟩ := e_add (x := z_11) (y := z_14) rfl rfl (by omega) (by omega)
    refine q_c z_15 ez_15 ?_
    clear ez_15
    refine lv_bipush (v := 9) hx hb dX12_areOpposed_32 (by decide) ?_
    refine lv_icmp_ne (tgt := 41) hx hb dX12_areOpposed_34 (by decide) (fun c_16 => ?_) (fun c_16 => ?_)
    · replace c_16 := i_ne (x := z_15) (y := 9) rfl (show (9 : Int32).toInt = 9 by decide) c_16
      refine lv_iconst (v := 0) hx hb dX12_areOpposed_41 (by decide) ?_
      exact q_iret X hr hlk hK h rfl (fun _ => 0, (vcons f1 (vcons f2 (fun _ => (fun _ => 0)))), fun _ _ => 0) ⟨⟨by decide +kernel, by decide +kernel⟩, trivial⟩ [0, 1, 2, 3] rfl rfl dX12_areOpposed_42 (Nat.le_of_ble_eq_true rfl) (Nat.le_of_ble_eq_true rfl)
    · replace c_16 := i_eq (x := z_15) (y := 9) rfl (show (9 : Int32).toInt = 9 by decide) c_16
      refine lv_iconst (v := 1) hx hb dX12_areOpposed_37 (by decide) ?_
      refine lv_goto (tgt := 42) hx hb dX12_areOpposed_38 (by decide) ?_
      exact q_iret X hr hlk hK h rfl (fun _ => 0, (vcons f1 (vcons f2 (fun _ => (fun _ => 0)))), fun _ _ => 0) ⟨⟨by decide +kernel, by decide +kernel⟩, trivial⟩ [0, 1, 2, 3] rfl rfl dX12_areOpposed_42 (Nat.le_of_ble_eq_true rfl) (Nat.le_of_ble_eq_true rfl)
set_option maxHeartbeats 4000000 in
set_option maxRecDepth 100000 in
theorem gX12_opposed_1ff26f5 (l : Launch) (D : va_G) (cy : Nat → ClassId) (h0 : Nat) (h1 : Nat) (h2 : Nat) (h3 : Nat) (p0 : Int32) (p1 : Int32) (p2 : Int32) (w0 : Value) (w1 : Value) (w2 : Value) (p3 : Int32) (p4 : Int32) (p5 : Int32) (p6 : Int32) (p7 : Int32) (p8 : Int32) (p9 : Int32) (p10 : Int32) (p11 : Int32) (p12 : Int32) (p13 : Int32) (w3 : Value) (w4 : Value) (w5 : Value) (p14 : Int32) (p15 : Int32) (w6 : Value) (w7 : Value) (w8 : Value) (p16 : Int32) (p17 : Int32) (w9 : Value) (w10 : Value) (w11 : Value) (w12 : Value) (w13 : Value) (p18 : Int32) (w14 : Value) (w15 : Value) (w16 : Value) (f0 : Nat → Int32) (p19 : Int32) (f1 : Nat → Int32) (f2 : Nat → Int32) (hp0 : (-2147483648) ≤ (p0).toInt ∧ (p0).toInt ≤ 2147483647) (hp1 : (-2147483648) ≤ (p1).toInt ∧ (p1).toInt ≤ 2147483647) (hp2 : (-2147483648) ≤ (p2).toInt ∧ (p2).toInt ≤ 2147483647) (hp3 : 0 ≤ (p3).toInt ∧ (p3).toInt ≤ 900) (hp4 : 0 ≤ (p4).toInt ∧ (p4).toInt ≤ 900) (hp5 : 0 ≤ (p5).toInt ∧ (p5).toInt ≤ 900) (hp6 : 0 ≤ (p6).toInt ∧ (p6).toInt ≤ 900) (hp7 : (-2147483648) ≤ (p7).toInt ∧ (p7).toInt ≤ 2147483647) (hp8 : 0 ≤ (p8).toInt ∧ (p8).toInt ≤ 999) (hp9 : (-2147483648) ≤ (p9).toInt ∧ (p9).toInt ≤ 2147483647) (hp10 : (-2147483648) ≤ (p10).toInt ∧ (p10).toInt ≤ 2147483647) (hp11 : (-2147483648) ≤ (p11).toInt ∧ (p11).toInt ≤ 2147483647) (hp12 : (-2147483648) ≤ (p12).toInt ∧ (p12).toInt ≤ 2147483647) (hp13 : (-2147483648) ≤ (p13).toInt ∧ (p13).toInt ≤ 2147483647) (hp14 : (-2147483648) ≤ (p14).toInt ∧ (p14).toInt ≤ 2147483647) (hp15 : (-2147483648) ≤ (p15).toInt ∧ (p15).toInt ≤ 2147483647) (hp16 : (-2147483648) ≤ (p16).toInt ∧ (p16).toInt ≤ 2147483647) (hp17 : (-2147483648) ≤ (p17).toInt ∧ (p17).toInt ≤ 2147483647) (hp18 : (-2147483648) ≤ (p18).toInt ∧ (p18).toInt ≤ 2147483647) (hp19 : 0 ≤ (p19).toInt ∧ (p19).toInt ≤ 10) (htf0_84 : f0 84 = p19) (rf0 : AL f0) (sz : Nat) : MI l yX12_opposed cX12_opposed 3 .int { frames := 3, cells := 0, slots := 0, locals := 71 } [.ref h0, .int p0, .int p1] D cy (wk_d5826a772 cy h0 p2 h1 w0 w1 w2 p3 p4 p5 p6 p7 p8 p9 p10 p11 p12 p13 h2 h3 w3 w4 w5 p14 p15 w6 w7 w8 p16 p17 w9 w10 w11 w12 w13 p18 w14 w15 w16 h1 f0 h2 f1 h3 f2) sz (fun r u => ((-2) ≤ r.toInt ∧ r.toInt ≤ 1) ∧ (0 ≤ (u.2.1 2 0).toInt ∧ (u.2.1 2 0).toInt ≤ 0) ∧ True) (fun u => (wk_d5826a772 cy h0 (u.2.1 2 0) h1 w0 w1 w2 p3 p4 p5 p6 p7 p8 p9 p10 p11 p12 p13 h2 h3 w3 w4 w5 p14 p15 w6 w7 w8 p16 p17 w9 w10 w11 w12 w13 p18 w14 w15 w16 h1 f0 h2 (u.2.1 0) h3 (u.2.1 1))) 0 0 := by
  refine q_ent (own := RX12) (by decide) rfl (Nat.le_of_ble_eq_true rfl) (fun p e s m below meth c ls X hr hlk hnm hK hT h hA hl => ?_)
  obtain ⟨hx, hb, hml, hown, ht⟩ := id X
  replace hl : lv_has ls 3 [(0, .ref h0), (1, .int p0), (2, .int p1)] := hl
  refine lv_aload_n hx hb dX12_opposed_0 rfl (lv_at hl 0 rfl) ?_
  refine lv_iconst (v := 0) hx hb dX12_opposed_1 (by decide) ?_
  refine q_put (v := .int 0) X hK h 0 rfl rfl wf_12 tyX12 tyX12_ok nmX12 0 (by decide) wm_5_170 rfl rfl rfl (Nat.le_of_ble_eq_true rfl) dX12_opposed_2 (fun H locs h_1 => ?_)
  clear h
  replace h_1 : qW D _ _ (wk_d5826a772 cy h0 0 h1 w0 w1 w2 p3 p4 p5 p6 p7 p8 p9 p10 p11 p12 p13 h2 h3 w3 w4 w5 p14 p15 w6 w7 w8 p16 p17 w9 w10 w11 w12 w13 p18 w14 w15 w16 h1 f0 h2 f1 h3 f2) _ _ := h_1
  refine lv_aload_n hx hb dX12_opposed_5 rfl (lv_at hl 0 rfl) ?_
  refine lv_iload_n hx hb dX12_opposed_6 rfl (lv_at hl 1 rfl) ?_
  refine lv_i2l hx hb dX12_opposed_7 rfl ?_
  obtain ⟨z_2, ez_2, hz_2⟩ := e_i2l (x := p0) rfl
  refine q_cl z_2 ez_2 ?_
  clear ez_2
  refine q_callVi (rest := []) (wr := (wk_3fb6de35f cy h2 f1 h3 f2)) X hK hT hA h_1 (fun sz => gX12_isPerson_039c8d6 l D cy h0 h1 z_2 (0 : Int32) w0 w1 w2 p3 p4 p5 p6 p7 p8 p9 p10 p11 p12 p13 (.ref h2) (.ref h3) w3 w4 w5 p14 p15 w6 w7 w8 p16 p17 w9 w10 w11 w12 w13 p18 w14 w15 w16 f0 p19 ⟨by omega, by omega⟩ ⟨by decide +kernel, by decide +kernel⟩ hp3 hp4 hp5 hp6 (i_rng _) hp8 (i_rng _) (i_rng _) (i_rng _) (i_rng _) (i_rng _) (i_rng _) (i_rng _) (i_rng _) (i_rng _) (i_rng _) hp19 htf0_84 rf0 sz) wm_6_162 wm_6_165 wm_1_12 hd_X12_isPerson wm_6_164 wp_5_8 (ci := 12) (q0 := 0) rfl rfl ⟨Nat.le_of_ble_eq_true rfl, Nat.le_of_ble_eq_true rfl⟩ hl.1 rfl (Nat.le_of_ble_eq_true rfl) dX12_opposed_8 ⟨Nat.le_of_ble_eq_true rfl, Nat.le_of_ble_eq_true rfl⟩ [0, 1] [2, 3] rfl rfl (by decide) rfl rfl (fun r_3 u_3 H locs w_3 h_3 => ?_)
  clear h_1
  obtain ⟨wr_3, y3_0, _⟩ := w_3
  replace h_3 : qW D _ _ (wk_974fbaca6 cy h2 f1 h3 f2 h0 0 h1 w0 w1 w2 p3 p4 p5 p6 p7 p8 p9 p10 p11 p12 p13 h2 h3 w3 w4 w5 p14 p15 w6 w7 w8 p16 p17 w9 w10 w11 w12 w13 p18 w14 w15 w16 h1 f0) _ _ := h_3
  refine q_jn (pc2 := 49) (fun H locs ls st => ∃ v49_4_2 : Int32, ∃ v49_4_0 : Nat → Int32, ∃ v49_4_1 : Nat → Int32, ((-2) ≤ (v49_4_2).toInt ∧ (v49_4_2).toInt ≤ 1) ∧ st = [.int v49_4_2] ∧ qW D (va_A (wk_d5826a772 cy h0 p2 h1 w0 w1 w2 p3 p4 p5 p6 p7 p8 p9 p10 p11 p12 p13 h2 h3 w3 w4 w5 p14 p15 w6 w7 w8 p16 p17 w9 w10 w11 w12 w13 p18 w14 w15 w16 h1 f0 h2 f1 h3 f2) sz) s.heap (wk_974fbaca6 cy h2 v49_4_0 h3 v49_4_1 h0 0 h1 w0 w1 w2 p3 p4 p5 p6 p7 p8 p9 p10 p11 p12 p13 h2 h3 w3 w4 w5 p14 p15 w6 w7 w8 p16 p17 w9 w10 w11 w12 w13 p18 w14 w15 w16 h1 f0) H locs ∧ lv_has ls 3 [(0, .ref h0), (1, .int p0), (2, .int p1)]) (fun H locs ls st hP => ?_) (fun J_49 => ?_)
  · obtain ⟨v49_4_2, v49_4_0, v49_4_1, hv49_4_2, rfl, h, hl⟩ := hP
    exact q_iret X hr hlk hK h rfl (fun _ => 0, (vcons v49_4_0 (vcons v49_4_1 (vcons (fun _ => 0) (fun _ => (fun _ => 0))))), fun _ _ => 0) ⟨hv49_4_2, (⟨by decide +kernel, by decide +kernel⟩ : 0 ≤ (0 : Int32).toInt ∧ (0 : Int32).toInt ≤ 0), trivial⟩ [2, 3, 0, 1] rfl rfl dX12_opposed_49 (Nat.le_of_ble_eq_true rfl) (Nat.le_of_ble_eq_true rfl)
  · skip
    refine q_jn (pc2 := 47) (fun H locs ls st => st = [] ∧ qW D (va_A (wk_d5826a772 cy h0 p2 h1 w0 w1 w2 p3 p4 p5 p6 p7 p8 p9 p10 p11 p12 p13 h2 h3 w3 w4 w5 p14 p15 w6 w7 w8 p16 p17 w9 w10 w11 w12 w13 p18 w14 w15 w16 h1 f0 h2 f1 h3 f2) sz) s.heap (wk_974fbaca6 cy h2 f1 h3 f2 h0 0 h1 w0 w1 w2 p3 p4 p5 p6 p7 p8 p9 p10 p11 p12 p13 h2 h3 w3 w4 w5 p14 p15 w6 w7 w8 p16 p17 w9 w10 w11 w12 w13 p18 w14 w15 w16 h1 f0) H locs ∧ lv_has ls 3 [(0, .ref h0), (1, .int p0), (2, .int p1)]) (fun H locs ls st hP => ?_) (fun J_47 => ?_)
    · obtain ⟨rfl, h, hl⟩ := hP
      refine lv_bipush (v := (-2)) hx hb dX12_opposed_47 (by decide) ?_
      exact J_49 _ _ _ _ ⟨(-2), f1, f2, ⟨by decide +kernel, by decide +kernel⟩, rfl, h, (lv_sub hl [0, 1, 2] rfl)⟩
    · skip
      refine lv_if_eq (tgt := 47) hx hb dX12_opposed_11 (by decide) (fun c_6 => ?_) (fun c_6 => ?_)
      · replace c_6 := i_eq (x := r_3) (y := 0) rfl (show (0 : Int32).toInt = 0 by decide) c_6
        exact J_47 _ _ _ _ ⟨rfl, h_3, (lv_sub hl [0, 1, 2] rfl)⟩
      · replace c_6 := i_ne (x := r_3) (y := 0) rfl (show (0 : Int32).toInt = 0 by decide) c_6
        refine lv_aload_n hx hb dX12_opposed_14 rfl (lv_at hl 0 rfl) ?_
        refine lv_iload_n hx hb dX12_opposed_15 rfl (lv_at hl 2 rfl) ?_
        refine lv_i2l hx hb dX12_opposed_16 rfl ?_
        obtain ⟨z_7, ez_7, hz_7⟩ := e_i2l (x := p1) rfl
        refine q_cl z_7 ez_7 ?_
        clear ez_7
        refine q_callVi (rest := []) (wr := (wk_3fb6de35f cy h2 f1 h3 f2)) X hK hT hA h_3 (fun sz => gX12_isPerson_039c8d6 l D cy h0 h1 z_7 (0 : Int32) w0 w1 w2 p3 p4 p5 p6 p7 p8 p9 p10 p11 p12 p13 (.ref h2) (.ref h3) w3 w4 w5 p14 p15 w6 w7 w8 p16 p17 w9 w10 w11 w12 w13 p18 w14 w15 w16 f0 p19 ⟨by omega, by omega⟩ ⟨by decide +kernel, by decide +kernel⟩ hp3 hp4 hp5 hp6 (i_rng _) hp8 (i_rng _) (i_rng _) (i_rng _) (i_rng _) (i_rng _) (i_rng _) (i_rng _) (i_rng _) (i_rng _) (i_rng _) hp19 htf0_84 rf0 sz) wm_6_162 wm_6_165 wm_1_12 hd_X12_isPerson wm_6_164 wp_5_8 (ci := 12) (q0 := 0) rfl rfl ⟨Nat.le_of_ble_eq_true rfl, Nat.le_of_ble_eq_true rfl⟩ hl.1 rfl (Nat.le_of_ble_eq_true rfl) dX12_opposed_17 ⟨Nat.le_of_ble_eq_true rfl, Nat.le_of_ble_eq_true rfl⟩ [2, 3] [0, 1] rfl rfl (by decide) rfl rfl (fun r_8 u_8 H locs w_8 h_8 => ?_)
        clear h_3
        obtain ⟨wr_8, y8_0, _⟩ := w_8
        replace h_8 : qW D _ _ (wk_974fbaca6 cy h2 f1 h3 f2 h0 0 h1 w0 w1 w2 p3 p4 p5 p6 p7 p8 p9 p10 p11 p12 p13 h2 h3 w3 w4 w5 p14 p15 w6 w7 w8 p16 p17 w9 w10 w11 w12 w13 p18 w14 w15 w16 h1 f0) _ _ := h_8
        refine lv_if_eq (tgt := 47) hx hb dX12_opposed_20 (by decide) (fun c_9 => ?_) (fun c_9 => ?_)
        · replace c_9 := i_eq (x := r_8) (y := 0) rfl (show (0 : Int32).toInt = 0 by decide) c_9
          exact J_47 _ _ _ _ ⟨rfl, h_8, (lv_sub hl [0, 1, 2] rfl)⟩
        · replace c_9 := i_ne (x := r_8) (y := 0) rfl (show (0 : Int32).toInt = 0 by decide) c_9
          refine lv_aload_n hx hb dX12_opposed_23 rfl (lv_at hl 0 rfl) ?_
          refine lv_iload_n hx hb dX12_opposed_24 rfl (lv_at hl 1 rfl) ?_
          refine lv_iload_n hx hb dX12_opposed_25 rfl (lv_at hl 2 rfl) ?_
          refine lv_aload_n hx hb dX12_opposed_26 rfl (lv_at hl 0 rfl) ?_
          refine q_get X hK h_8 2 rfl rfl wf_12 1 (by decide) rfl wm_5_171 dX12_opposed_27 ?_
          refine lv_bipush (v := 52) hx hb dX12_opposed_30 (by decide) ?_
          refine q_iald X hK h_8 3 rfl (q_in (by decide +kernel)) dX12_opposed_32 ?_
          refine q_any (fun z_10 hz_10 => ?_)
          refine q_callVi (rest := []) (wr := []) X hK hT hA h_8 (fun sz => gX12_areOpposed_e7e6c1a l D cy h0 h1 h2 h3 p0 p1 z_10 (0 : Int32) w0 w1 w2 p3 p4 p5 p6 p7 p8 p9 p10 p11 p12 p13 w3 w4 w5 p14 p15 w6 w7 w8 p16 p17 w9 w10 w11 w12 w13 p18 w14 w15 w16 f0 p19 f1 f2 ⟨by omega, by omega⟩ ⟨by omega, by omega⟩ (i_rng _) ⟨by decide +kernel, by decide +kernel⟩ hp3 hp4 hp5 hp6 (i_rng _) hp8 (i_rng _) (i_rng _) (i_rng _) (i_rng _) (i_rng _) (i_rng _) (i_rng _) (i_rng _) (i_rng _) (i_rng _) hp19 htf0_84 rf0 sz) wm_6_187 wm_6_190 wm_1_12 hd_X12_areOpposed wm_6_189 wp_5_11 (ci := 12) (q0 := 0) rfl rfl ⟨Nat.le_of_ble_eq_true rfl, Nat.le_of_ble_eq_true rfl⟩ hl.1 rfl (Nat.le_of_ble_eq_true rfl) dX12_opposed_33 ⟨Nat.le_of_ble_eq_true rfl, Nat.le_of_ble_eq_true rfl⟩ [2, 3, 0, 1] [] rfl rfl (by decide) rfl rfl (fun r_11 u_11 H locs w_11 h_11 => ?_)
          clear h_8
          obtain ⟨wr_11, _⟩ := w_11
          replace h_11 : qW D _ _ (wk_d5826a772 cy h0 0 h1 w0 w1 w2 p3 p4 p5 p6 p7 p8 p9 p10 p11 p12 p13 h2 h3 w3 w4 w5 p14 p15 w6 w7 w8 p16 p17 w9 w10 w11 w12 w13 p18 w14 w15 w16 h1 f0 h2 (u_11.2.1 0) h3 (u_11.2.1 1)) _ _ := h_11
          refine lv_if_eq (tgt := 43) hx hb dX12_opposed_36 (by decide) (fun c_12 => ?_) (fun c_12 => ?_)
          · replace c_12 := i_eq (x := r_11) (y := 0) rfl (show (0 : Int32).toInt = 0 by decide) c_12
            refine lv_iconst (v := 0) hx hb dX12_opposed_43 (by decide) ?_
            refine lv_goto (tgt := 49) hx hb dX12_opposed_44 (by decide) ?_
            exact J_49 _ _ _ _ ⟨0, (u_11.2.1 0), (u_11.2.1 1), ⟨by decide +kernel, by decide +kernel⟩, rfl, (q_re h_11 [2, 3, 0, 1] rfl rfl), (lv_sub hl [0, 1, 2] rfl)⟩
          · replace c_12 := i_ne (x := r_11) (y := 0) rfl (show (0 : Int32).toInt = 0 by decide) c_12
            refine lv_iconst (v := 1) hx hb dX12_opposed_39 (by decide) ?_
            refine lv_goto (tgt := 49) hx hb dX12_opposed_40 (by decide) ?_
            exact J_49 _ _ _ _ ⟨1, (u_11.2.1 0), (u_11.2.1 1), ⟨by decide +kernel, by decide +kernel⟩, rfl, (q_re h_11 [2, 3, 0, 1] rfl rfl), (lv_sub hl [0, 1, 2] rfl)⟩
set_option maxHeartbeats 4000000 in
set_option maxRecDepth 100000 in
theorem gX12_opposedTo_12aa0ac (l : Launch) (D : va_G) (cy : Nat → ClassId) (h0 : Nat) (h1 : Nat) (h2 : Nat) (h3 : Nat) (p0 : Int32) (p1 : Int32) (w0 : Value) (w1 : Value) (w2 : Value) (p2 : Int32) (p3 : Int32) (p4 : Int32) (p5 : Int32) (p6 : Int32) (p7 : Int32) (p8 : Int32) (p9 : Int32) (p10 : Int32) (p11 : Int32) (p12 : Int32) (w3 : Value) (w4 : Value) (w5 : Value) (p13 : Int32) (p14 : Int32) (w6 : Value) (w7 : Value) (w8 : Value) (p15 : Int32) (p16 : Int32) (w9 : Value) (w10 : Value) (w11 : Value) (w12 : Value) (w13 : Value) (p17 : Int32) (w14 : Value) (w15 : Value) (w16 : Value) (f0 : Nat → Int32) (p18 : Int32) (f1 : Nat → Int32) (f2 : Nat → Int32) (hp0 : 0 ≤ (p0).toInt ∧ (p0).toInt ≤ 9) (hp1 : 0 ≤ (p1).toInt ∧ (p1).toInt ≤ 0) (hp2 : 0 ≤ (p2).toInt ∧ (p2).toInt ≤ 900) (hp3 : 0 ≤ (p3).toInt ∧ (p3).toInt ≤ 900) (hp4 : 0 ≤ (p4).toInt ∧ (p4).toInt ≤ 900) (hp5 : 0 ≤ (p5).toInt ∧ (p5).toInt ≤ 900) (hp6 : (-2147483648) ≤ (p6).toInt ∧ (p6).toInt ≤ 2147483647) (hp7 : 0 ≤ (p7).toInt ∧ (p7).toInt ≤ 999) (hp8 : (-2147483648) ≤ (p8).toInt ∧ (p8).toInt ≤ 2147483647) (hp9 : (-2147483648) ≤ (p9).toInt ∧ (p9).toInt ≤ 2147483647) (hp10 : (-2147483648) ≤ (p10).toInt ∧ (p10).toInt ≤ 2147483647) (hp11 : (-2147483648) ≤ (p11).toInt ∧ (p11).toInt ≤ 2147483647) (hp12 : (-2147483648) ≤ (p12).toInt ∧ (p12).toInt ≤ 2147483647) (hp13 : (-2147483648) ≤ (p13).toInt ∧ (p13).toInt ≤ 2147483647) (hp14 : (-2147483648) ≤ (p14).toInt ∧ (p14).toInt ≤ 2147483647) (hp15 : (-2147483648) ≤ (p15).toInt ∧ (p15).toInt ≤ 2147483647) (hp16 : (-2147483648) ≤ (p16).toInt ∧ (p16).toInt ≤ 2147483647) (hp17 : (-2147483648) ≤ (p17).toInt ∧ (p17).toInt ≤ 2147483647) (hp18 : 0 ≤ (p18).toInt ∧ (p18).toInt ≤ 10) (htf0_84 : f0 84 = p18) (rf0 : AL f0) (sz : Nat) : MI l yX12_opposedTo cX12_opposedTo 4 .int { frames := 3, cells := 0, slots := 0, locals := 71 } [.ref h0, .int p0] D cy (wk_d5826a772 cy h0 p1 h1 w0 w1 w2 p2 p3 p4 p5 p6 p7 p8 p9 p10 p11 p12 h2 h3 w3 w4 w5 p13 p14 w6 w7 w8 p15 p16 w9 w10 w11 w12 w13 p17 w14 w15 w16 h1 f0 h2 f1 h3 f2) sz (fun r u => (0 ≤ r.toInt ∧ r.toInt ≤ 1023) ∧ True) (fun u => (wk_d5826a772 cy h0 p1 h1 w0 w1 w2 p2 p3 p4 p5 p6 p7 p8 p9 p10 p11 p12 h2 h3 w3 w4 w5 p13 p14 w6 w7 w8 p15 p16 w9 w10 w11 w12 w13 p17 w14 w15 w16 h1 f0 h2 (u.2.1 0) h3 (u.2.1 1))) 0 0 := by
  refine q_ent (own := RX12) (by decide) rfl (Nat.le_of_ble_eq_true rfl) (fun p e s m below meth c ls X hr hlk hnm hK hT h hA hl => ?_)
  obtain ⟨hx, hb, hml, hown, ht⟩ := id X
  replace hl : lv_has ls 4 [(0, .ref h0), (1, .int p0)] := hl
  refine lv_iconst (v := 0) hx hb dX12_opposedTo_0 (by decide) ?_
  refine lv_istore_n (lv' := [(2, .int 0), (0, .ref h0), (1, .int p0)]) hx hb dX12_opposedTo_1 rfl hl (by decide) rfl (fun ls_1 hl_1 => ?_)
  clear hl
  refine lv_iconst (v := 0) hx hb dX12_opposedTo_2 (by decide) ?_
  refine lv_istore_n (lv' := [(3, .int 0), (2, .int 0), (0, .ref h0), (1, .int p0)]) hx hb dX12_opposedTo_3 rfl hl_1 (by decide) rfl (fun ls_2 hl_2 => ?_)
  clear hl_1
  refine q_wl (fun (q : Int32 × Int32) H locs ls => match q with | (v4_3_0, v4_3_1) => ∃ v4_3_2 : Nat → Int32, ∃ v4_3_3 : Nat → Int32, (0 ≤ (v4_3_0).toInt ∧ (v4_3_0).toInt ≤ 10) ∧ (0 ≤ (v4_3_1).toInt ∧ (v4_3_1).toInt ≤ 1023) ∧ qW D (va_A (wk_d5826a772 cy h0 p1 h1 w0 w1 w2 p2 p3 p4 p5 p6 p7 p8 p9 p10 p11 p12 h2 h3 w3 w4 w5 p13 p14 w6 w7 w8 p15 p16 w9 w10 w11 w12 w13 p17 w14 w15 w16 h1 f0 h2 f1 h3 f2) sz) s.heap (wk_d5826a772 cy h0 p1 h1 w0 w1 w2 p2 p3 p4 p5 p6 p7 p8 p9 p10 p11 p12 h2 h3 w3 w4 w5 p13 p14 w6 w7 w8 p15 p16 w9 w10 w11 w12 w13 p17 w14 w15 w16 h1 f0 h2 v4_3_2 h3 v4_3_3) H locs ∧ lv_has ls 4 [(0, .ref h0), (1, .int p0), (2, .int v4_3_1), (3, .int v4_3_0)]) (fun (q : Int32 × Int32) => match q with | (v4_3_0, v4_3_1) => (11 - (v4_3_0).toInt).toNat) (fun q_4 ih_4 H locs ls hP => ?_) (0, 0) ⟨f1, f2, ⟨by decide +kernel, by decide +kernel⟩, ⟨by decide +kernel, by decide +kernel⟩, h, (lv_sub hl_2 [2, 3, 1, 0] rfl)⟩
  obtain ⟨v4_3_0, v4_3_1⟩ := q_4
  obtain ⟨v4_3_2, v4_3_3, hv4_3_0, hv4_3_1, h, hl⟩ := hP
  refine lv_iload_n hx hb dX12_opposedTo_4 rfl (lv_at hl 3 rfl) ?_
  refine lv_aload_n hx hb dX12_opposedTo_5 rfl (lv_at hl 0 rfl) ?_
  refine q_get X hK h 0 rfl rfl wf_12 1 (by decide) rfl wm_5_171 dX12_opposedTo_6 ?_
  refine lv_iconst (v := 2) hx hb dX12_opposedTo_9 (by decide) ?_
  refine q_iald X hK h 1 rfl (q_in (by decide +kernel)) dX12_opposedTo_10 ?_
  obtain ⟨z_4, ez_4, hz_4⟩ := al_P rf0 (x := 2) (show (2 : Int32).toInt = 2 by decide) (by omega) (by omega)
  refine q_c z_4 ez_4 ?_
  clear ez_4
  refine lv_icmp_ge (tgt := 51) hx hb dX12_opposedTo_11 (by decide) (fun c_5 => ?_) (fun c_5 => ?_)
  · replace c_5 := i_le (x := z_4) (y := v4_3_0) rfl rfl c_5
    refine lv_iload_n hx hb dX12_opposedTo_51 rfl (lv_at hl 2 rfl) ?_
    exact q_iret X hr hlk hK h rfl (fun _ => 0, (vcons v4_3_2 (vcons v4_3_3 (fun _ => (fun _ => 0)))), fun _ _ => 0) ⟨hv4_3_1, trivial⟩ [0, 1, 2, 3] rfl rfl dX12_opposedTo_52 (Nat.le_of_ble_eq_true rfl) (Nat.le_of_ble_eq_true rfl)
  · replace c_5 := i_nle (x := z_4) (y := v4_3_0) rfl rfl c_5
    refine lv_iload_n hx hb dX12_opposedTo_14 rfl (lv_at hl 2 rfl) ?_
    refine lv_iload_n hx hb dX12_opposedTo_15 rfl (lv_at hl 3 rfl) ?_
    refine lv_iload_n hx hb dX12_opposedTo_16 rfl (lv_at hl 1 rfl) ?_
    refine q_jn (pc2 := 43) (fun H locs ls st => ∃ v43_6_2 : Int32, ∃ v43_6_0 : Nat → Int32, ∃ v43_6_1 : Nat → Int32, (0 ≤ (v43_6_2).toInt ∧ (v43_6_2).toInt ≤ 512) ∧ st = [.int v43_6_2, .int v4_3_1] ∧ qW D (va_A (wk_d5826a772 cy h0 p1 h1 w0 w1 w2 p2 p3 p4 p5 p6 p7 p8 p9 p10 p11 p12 h2 h3 w3 w4 w5 p13 p14 w6 w7 w8 p15 p16 w9 w10 w11 w12 w13 p17 w14 w15 w16 h1 f0 h2 f1 h3 f2) sz) s.heap (wk_d5826a772 cy h0 p1 h1 w0 w1 w2 p2 p3 p4 p5 p6 p7 p8 p9 p10 p11 p12 h2 h3 w3 w4 w5 p13 p14 w6 w7 w8 p15 p16 w9 w10 w11 w12 w13 p17 w14 w15 w16 h1 f0 h2 v43_6_0 h3 v43_6_1) H locs ∧ lv_has ls 4 [(0, .ref h0), (1, .int p0), (2, .int v4_3_1), (3, .int v4_3_0)]) (fun H locs ls st hP => ?_) (fun J_43 => ?_)
    · obtain ⟨v43_6_2, v43_6_0, v43_6_1, hv43_6_2, rfl, h, hl⟩ := hP
      refine lv_ior hx hb dX12_opposedTo_43 ?_
      obtain ⟨z_7, ez_7, hz_7⟩ := e_orm (x := v4_3_1) (y := v43_6_2) 10 (by decide) rfl rfl (by omega) (by omega) (by omega) (by omega)
      refine q_c z_7 ez_7 ?_
      clear ez_7
      refine lv_istore_n (lv' := [(2, .int z_7), (0, .ref h0), (1, .int p0), (3, .int v4_3_0)]) hx hb dX12_opposedTo_44 rfl hl (by decide) rfl (fun ls_8 hl_8 => ?_)
      clear hl
      obtain ⟨z_9, ez_9, hz_9⟩ := e_add (x := v4_3_0) (y := Int32.ofInt 1) rfl (b := 1) (by decide) (by omega) (by omega)
      refine lv_iinc (v := z_9) (lv' := [(3, .int z_9), (2, .int z_7), (0, .ref h0), (1, .int p0)]) hx hb dX12_opposedTo_45 hl_8 (k := 3) rfl ez_9 (by decide) rfl (fun ls_9 hl_9 => ?_)
      clear hl_8
      refine lv_goto (tgt := 4) hx hb dX12_opposedTo_48 (by decide) ?_
      exact ih_4 (z_9, z_7) (by show (11 - (z_9).toInt).toNat < (11 - (v4_3_0).toInt).toNat; omega) _ _ _ ⟨v43_6_0, v43_6_1, ⟨by omega, by omega⟩, ⟨by omega, by omega⟩, h, (lv_sub hl_9 [2, 3, 1, 0] rfl)⟩
    · skip
      refine q_jn (pc2 := 42) (fun H locs ls st => ∃ v42_10_0 : Nat → Int32, ∃ v42_10_1 : Nat → Int32, st = [.int v4_3_1] ∧ qW D (va_A (wk_d5826a772 cy h0 p1 h1 w0 w1 w2 p2 p3 p4 p5 p6 p7 p8 p9 p10 p11 p12 h2 h3 w3 w4 w5 p13 p14 w6 w7 w8 p15 p16 w9 w10 w11 w12 w13 p17 w14 w15 w16 h1 f0 h2 f1 h3 f2) sz) s.heap (wk_d5826a772 cy h0 p1 h1 w0 w1 w2 p2 p3 p4 p5 p6 p7 p8 p9 p10 p11 p12 h2 h3 w3 w4 w5 p13 p14 w6 w7 w8 p15 p16 w9 w10 w11 w12 w13 p17 w14 w15 w16 h1 f0 h2 v42_10_0 h3 v42_10_1) H locs ∧ lv_has ls 4 [(0, .ref h0), (1, .int p0), (2, .int v4_3_1), (3, .int v4_3_0)]) (fun H locs ls st hP => ?_) (fun J_42 => ?_)
      · obtain ⟨v42_10_0, v42_10_1, rfl, h, hl⟩ := hP
        refine lv_iconst (v := 0) hx hb dX12_opposedTo_42 (by decide) ?_
        exact J_43 _ _ _ _ ⟨0, v42_10_0, v42_10_1, ⟨by decide +kernel, by decide +kernel⟩, rfl, h, (lv_sub hl [0, 1, 2, 3] rfl)⟩
      · skip
        refine lv_icmp_eq (tgt := 42) hx hb dX12_opposedTo_17 (by decide) (fun c_11 => ?_) (fun c_11 => ?_)
        · replace c_11 := i_eq (x := v4_3_0) (y := p0) rfl rfl c_11
          exact J_42 _ _ _ _ ⟨v4_3_2, v4_3_3, rfl, h, (lv_sub hl [0, 1, 2, 3] rfl)⟩
        · replace c_11 := i_ne (x := v4_3_0) (y := p0) rfl rfl c_11
          refine lv_aload_n hx hb dX12_opposedTo_20 rfl (lv_at hl 0 rfl) ?_
          refine lv_iload_n hx hb dX12_opposedTo_21 rfl (lv_at hl 1 rfl) ?_
          refine lv_iload_n hx hb dX12_opposedTo_22 rfl (lv_at hl 3 rfl) ?_
          refine lv_aload_n hx hb dX12_opposedTo_23 rfl (lv_at hl 0 rfl) ?_
          refine q_get X hK h 0 rfl rfl wf_12 1 (by decide) rfl wm_5_171 dX12_opposedTo_24 ?_
          refine lv_bipush (v := 52) hx hb dX12_opposedTo_27 (by decide) ?_
          refine q_iald X hK h 1 rfl (q_in (by decide +kernel)) dX12_opposedTo_29 ?_
          refine q_any (fun z_12 hz_12 => ?_)
          refine q_callVi (rest := [.int v4_3_1]) (wr := []) X hK hT hA h (fun sz => gX12_areOpposed_e7e6c1a l D cy h0 h1 h2 h3 p0 v4_3_0 z_12 p1 w0 w1 w2 p2 p3 p4 p5 p6 p7 p8 p9 p10 p11 p12 w3 w4 w5 p13 p14 w6 w7 w8 p15 p16 w9 w10 w11 w12 w13 p17 w14 w15 w16 f0 p18 v4_3_2 v4_3_3 hp0 ⟨by omega, by omega⟩ (i_rng _) hp1 hp2 hp3 hp4 hp5 (i_rng _) hp7 (i_rng _) (i_rng _) (i_rng _) (i_rng _) (i_rng _) (i_rng _) (i_rng _) (i_rng _) (i_rng _) (i_rng _) hp18 htf0_84 rf0 sz) wm_6_187 wm_6_190 wm_1_12 hd_X12_areOpposed wm_6_189 wp_5_11 (ci := 12) (q0 := 0) rfl rfl ⟨Nat.le_of_ble_eq_true rfl, Nat.le_of_ble_eq_true rfl⟩ hl.1 rfl (Nat.le_of_ble_eq_true rfl) dX12_opposedTo_30 ⟨Nat.le_of_ble_eq_true rfl, Nat.le_of_ble_eq_true rfl⟩ [0, 1, 2, 3] [] rfl rfl (by decide) rfl rfl (fun r_13 u_13 H locs w_13 h_13 => ?_)
          clear h
          obtain ⟨wr_13, _⟩ := w_13
          replace h_13 : qW D _ _ (wk_d5826a772 cy h0 p1 h1 w0 w1 w2 p2 p3 p4 p5 p6 p7 p8 p9 p10 p11 p12 h2 h3 w3 w4 w5 p13 p14 w6 w7 w8 p15 p16 w9 w10 w11 w12 w13 p17 w14 w15 w16 h1 f0 h2 (u_13.2.1 0) h3 (u_13.2.1 1)) _ _ := h_13
          refine lv_if_eq (tgt := 42) hx hb dX12_opposedTo_33 (by decide) (fun c_14 => ?_) (fun c_14 => ?_)
          · replace c_14 := i_eq (x := r_13) (y := 0) rfl (show (0 : Int32).toInt = 0 by decide) c_14
            exact J_42 _ _ _ _ ⟨(u_13.2.1 0), (u_13.2.1 1), rfl, h_13, (lv_sub hl [0, 1, 2, 3] rfl)⟩
          · replace c_14 := i_ne (x := r_13) (y := 0) rfl (show (0 : Int32).toInt = 0 by decide) c_14
            refine lv_iconst (v := 1) hx hb dX12_opposedTo_36 (by decide) ?_
            refine lv_iload_n hx hb dX12_opposedTo_37 rfl (lv_at hl 3 rfl) ?_
            refine lv_ishl hx hb dX12_opposedTo_38 ?_
            obtain ⟨z_15, ez_15, hz_15⟩ := e_shlk (p := v4_3_0) 9 (by decide) rfl (by omega) (by omega)
            refine q_c z_15 ez_15 ?_
            clear ez_15
            refine lv_goto (tgt := 43) hx hb dX12_opposedTo_39 (by decide) ?_
            exact J_43 _ _ _ _ ⟨z_15, (u_13.2.1 0), (u_13.2.1 1), ⟨by omega, by omega⟩, rfl, h_13, (lv_sub hl [0, 1, 2, 3] rfl)⟩
set_option maxHeartbeats 4000000 in
set_option maxRecDepth 100000 in
theorem gX12_opposites_bc4718e (l : Launch) (D : va_G) (cy : Nat → ClassId) (h0 : Nat) (h1 : Nat) (h2 : Nat) (h3 : Nat) (p0 : Int32) (p1 : Int32) (w0 : Value) (w1 : Value) (w2 : Value) (p2 : Int32) (p3 : Int32) (p4 : Int32) (p5 : Int32) (p6 : Int32) (p7 : Int32) (p8 : Int32) (p9 : Int32) (p10 : Int32) (p11 : Int32) (p12 : Int32) (w3 : Value) (w4 : Value) (w5 : Value) (p13 : Int32) (p14 : Int32) (w6 : Value) (w7 : Value) (w8 : Value) (p15 : Int32) (p16 : Int32) (w9 : Value) (w10 : Value) (w11 : Value) (w12 : Value) (w13 : Value) (p17 : Int32) (w14 : Value) (w15 : Value) (w16 : Value) (f0 : Nat → Int32) (p18 : Int32) (f1 : Nat → Int32) (f2 : Nat → Int32) (hp0 : (-2147483648) ≤ (p0).toInt ∧ (p0).toInt ≤ 2147483647) (hp1 : (-2147483648) ≤ (p1).toInt ∧ (p1).toInt ≤ 2147483647) (hp2 : 0 ≤ (p2).toInt ∧ (p2).toInt ≤ 900) (hp3 : 0 ≤ (p3).toInt ∧ (p3).toInt ≤ 900) (hp4 : 0 ≤ (p4).toInt ∧ (p4).toInt ≤ 900) (hp5 : 0 ≤ (p5).toInt ∧ (p5).toInt ≤ 900) (hp6 : (-2147483648) ≤ (p6).toInt ∧ (p6).toInt ≤ 2147483647) (hp7 : 0 ≤ (p7).toInt ∧ (p7).toInt ≤ 999) (hp8 : (-2147483648) ≤ (p8).toInt ∧ (p8).toInt ≤ 2147483647) (hp9 : (-2147483648) ≤ (p9).toInt ∧ (p9).toInt ≤ 2147483647) (hp10 : (-2147483648) ≤ (p10).toInt ∧ (p10).toInt ≤ 2147483647) (hp11 : (-2147483648) ≤ (p11).toInt ∧ (p11).toInt ≤ 2147483647) (hp12 : (-2147483648) ≤ (p12).toInt ∧ (p12).toInt ≤ 2147483647) (hp13 : (-2147483648) ≤ (p13).toInt ∧ (p13).toInt ≤ 2147483647) (hp14 : (-2147483648) ≤ (p14).toInt ∧ (p14).toInt ≤ 2147483647) (hp15 : (-2147483648) ≤ (p15).toInt ∧ (p15).toInt ≤ 2147483647) (hp16 : (-2147483648) ≤ (p16).toInt ∧ (p16).toInt ≤ 2147483647) (hp17 : (-2147483648) ≤ (p17).toInt ∧ (p17).toInt ≤ 2147483647) (hp18 : 0 ≤ (p18).toInt ∧ (p18).toInt ≤ 10) (htf0_84 : f0 84 = p18) (rf0 : AL f0) (sz : Nat) : MI l yX12_opposites cX12_opposites 2 .int { frames := 4, cells := 0, slots := 0, locals := 94 } [.ref h0, .int p0] D cy (wk_d5826a772 cy h0 p1 h1 w0 w1 w2 p2 p3 p4 p5 p6 p7 p8 p9 p10 p11 p12 h2 h3 w3 w4 w5 p13 p14 w6 w7 w8 p15 p16 w9 w10 w11 w12 w13 p17 w14 w15 w16 h1 f0 h2 f1 h3 f2) sz (fun r u => ((-2) ≤ r.toInt ∧ r.toInt ≤ 1023) ∧ (0 ≤ (u.2.1 2 0).toInt ∧ (u.2.1 2 0).toInt ≤ 0) ∧ True) (fun u => (wk_d5826a772 cy h0 (u.2.1 2 0) h1 w0 w1 w2 p2 p3 p4 p5 p6 p7 p8 p9 p10 p11 p12 h2 h3 w3 w4 w5 p13 p14 w6 w7 w8 p15 p16 w9 w10 w11 w12 w13 p17 w14 w15 w16 h1 f0 h2 (u.2.1 0) h3 (u.2.1 1))) 0 0 := by
  refine q_ent (own := RX12) (by decide) rfl (Nat.le_of_ble_eq_true rfl) (fun p e s m below meth c ls X hr hlk hnm hK hT h hA hl => ?_)
  obtain ⟨hx, hb, hml, hown, ht⟩ := id X
  replace hl : lv_has ls 2 [(0, .ref h0), (1, .int p0)] := hl
  refine lv_aload_n hx hb dX12_opposites_0 rfl (lv_at hl 0 rfl) ?_
  refine lv_iconst (v := 0) hx hb dX12_opposites_1 (by decide) ?_
  refine q_put (v := .int 0) X hK h 0 rfl rfl wf_12 tyX12 tyX12_ok nmX12 0 (by decide) wm_5_170 rfl rfl rfl (Nat.le_of_ble_eq_true rfl) dX12_opposites_2 (fun H locs h_1 => ?_)
  clear h
  replace h_1 : qW D _ _ (wk_d5826a772 cy h0 0 h1 w0 w1 w2 p2 p3 p4 p5 p6 p7 p8 p9 p10 p11 p12 h2 h3 w3 w4 w5 p13 p14 w6 w7 w8 p15 p16 w9 w10 w11 w12 w13 p17 w14 w15 w16 h1 f0 h2 f1 h3 f2) _ _ := h_1
  refine lv_aload_n hx hb dX12_opposites_5 rfl (lv_at hl 0 rfl) ?_
  refine lv_iload_n hx hb dX12_opposites_6 rfl (lv_at hl 1 rfl) ?_
  refine lv_i2l hx hb dX12_opposites_7 rfl ?_
  obtain ⟨z_2, ez_2, hz_2⟩ := e_i2l (x := p0) rfl
  refine q_cl z_2 ez_2 ?_
  clear ez_2
  refine q_callVi (rest := []) (wr := (wk_3fb6de35f cy h2 f1 h3 f2)) X hK hT hA h_1 (fun sz => gX12_isPerson_039c8d6 l D cy h0 h1 z_2 (0 : Int32) w0 w1 w2 p2 p3 p4 p5 p6 p7 p8 p9 p10 p11 p12 (.ref h2) (.ref h3) w3 w4 w5 p13 p14 w6 w7 w8 p15 p16 w9 w10 w11 w12 w13 p17 w14 w15 w16 f0 p18 ⟨by omega, by omega⟩ ⟨by decide +kernel, by decide +kernel⟩ hp2 hp3 hp4 hp5 (i_rng _) hp7 (i_rng _) (i_rng _) (i_rng _) (i_rng _) (i_rng _) (i_rng _) (i_rng _) (i_rng _) (i_rng _) (i_rng _) hp18 htf0_84 rf0 sz) wm_6_162 wm_6_165 wm_1_12 hd_X12_isPerson wm_6_164 wp_5_8 (ci := 12) (q0 := 0) rfl rfl ⟨Nat.le_of_ble_eq_true rfl, Nat.le_of_ble_eq_true rfl⟩ hl.1 rfl (Nat.le_of_ble_eq_true rfl) dX12_opposites_8 ⟨Nat.le_of_ble_eq_true rfl, Nat.le_of_ble_eq_true rfl⟩ [0, 1] [2, 3] rfl rfl (by decide) rfl rfl (fun r_3 u_3 H locs w_3 h_3 => ?_)
  clear h_1
  obtain ⟨wr_3, y3_0, _⟩ := w_3
  replace h_3 : qW D _ _ (wk_974fbaca6 cy h2 f1 h3 f2 h0 0 h1 w0 w1 w2 p2 p3 p4 p5 p6 p7 p8 p9 p10 p11 p12 h2 h3 w3 w4 w5 p13 p14 w6 w7 w8 p15 p16 w9 w10 w11 w12 w13 p17 w14 w15 w16 h1 f0) _ _ := h_3
  refine q_jn (pc2 := 24) (fun H locs ls st => ∃ v24_4_2 : Int32, ∃ v24_4_0 : Nat → Int32, ∃ v24_4_1 : Nat → Int32, ((-2) ≤ (v24_4_2).toInt ∧ (v24_4_2).toInt ≤ 1023) ∧ st = [.int v24_4_2] ∧ qW D (va_A (wk_d5826a772 cy h0 p1 h1 w0 w1 w2 p2 p3 p4 p5 p6 p7 p8 p9 p10 p11 p12 h2 h3 w3 w4 w5 p13 p14 w6 w7 w8 p15 p16 w9 w10 w11 w12 w13 p17 w14 w15 w16 h1 f0 h2 f1 h3 f2) sz) s.heap (wk_974fbaca6 cy h2 v24_4_0 h3 v24_4_1 h0 0 h1 w0 w1 w2 p2 p3 p4 p5 p6 p7 p8 p9 p10 p11 p12 h2 h3 w3 w4 w5 p13 p14 w6 w7 w8 p15 p16 w9 w10 w11 w12 w13 p17 w14 w15 w16 h1 f0) H locs ∧ lv_has ls 2 [(0, .ref h0), (1, .int p0)]) (fun H locs ls st hP => ?_) (fun J_24 => ?_)
  · obtain ⟨v24_4_2, v24_4_0, v24_4_1, hv24_4_2, rfl, h, hl⟩ := hP
    exact q_iret X hr hlk hK h rfl (fun _ => 0, (vcons v24_4_0 (vcons v24_4_1 (vcons (fun _ => 0) (fun _ => (fun _ => 0))))), fun _ _ => 0) ⟨hv24_4_2, (⟨by decide +kernel, by decide +kernel⟩ : 0 ≤ (0 : Int32).toInt ∧ (0 : Int32).toInt ≤ 0), trivial⟩ [2, 3, 0, 1] rfl rfl dX12_opposites_24 (Nat.le_of_ble_eq_true rfl) (Nat.le_of_ble_eq_true rfl)
  · skip
    refine lv_if_eq (tgt := 22) hx hb dX12_opposites_11 (by decide) (fun c_5 => ?_) (fun c_5 => ?_)
    · replace c_5 := i_eq (x := r_3) (y := 0) rfl (show (0 : Int32).toInt = 0 by decide) c_5
      refine lv_bipush (v := (-2)) hx hb dX12_opposites_22 (by decide) ?_
      exact J_24 _ _ _ _ ⟨(-2), f1, f2, ⟨by decide +kernel, by decide +kernel⟩, rfl, h_3, (lv_sub hl [0, 1] rfl)⟩
    · replace c_5 := i_ne (x := r_3) (y := 0) rfl (show (0 : Int32).toInt = 0 by decide) c_5
      refine lv_aload_n hx hb dX12_opposites_14 rfl (lv_at hl 0 rfl) ?_
      refine lv_iload_n hx hb dX12_opposites_15 rfl (lv_at hl 1 rfl) ?_
      refine q_callVi (rest := []) (wr := []) X hK hT hA h_3 (fun sz => gX12_opposedTo_12aa0ac l D cy h0 h1 h2 h3 p0 (0 : Int32) w0 w1 w2 p2 p3 p4 p5 p6 p7 p8 p9 p10 p11 p12 w3 w4 w5 p13 p14 w6 w7 w8 p15 p16 w9 w10 w11 w12 w13 p17 w14 w15 w16 f0 p18 f1 f2 ⟨by omega, by omega⟩ ⟨by decide +kernel, by decide +kernel⟩ hp2 hp3 hp4 hp5 (i_rng _) hp7 (i_rng _) (i_rng _) (i_rng _) (i_rng _) (i_rng _) (i_rng _) (i_rng _) (i_rng _) (i_rng _) (i_rng _) hp18 htf0_84 rf0 sz) wm_6_208 wm_6_211 wm_1_12 hd_X12_opposedTo wm_6_210 wp_5_14 (ci := 12) (q0 := 0) rfl rfl ⟨Nat.le_of_ble_eq_true rfl, Nat.le_of_ble_eq_true rfl⟩ hl.1 rfl (Nat.le_of_ble_eq_true rfl) dX12_opposites_16 ⟨Nat.le_of_ble_eq_true rfl, Nat.le_of_ble_eq_true rfl⟩ [2, 3, 0, 1] [] rfl rfl (by decide) rfl rfl (fun r_6 u_6 H locs w_6 h_6 => ?_)
      clear h_3
      obtain ⟨wr_6, _⟩ := w_6
      replace h_6 : qW D _ _ (wk_d5826a772 cy h0 0 h1 w0 w1 w2 p2 p3 p4 p5 p6 p7 p8 p9 p10 p11 p12 h2 h3 w3 w4 w5 p13 p14 w6 w7 w8 p15 p16 w9 w10 w11 w12 w13 p17 w14 w15 w16 h1 f0 h2 (u_6.2.1 0) h3 (u_6.2.1 1)) _ _ := h_6
      refine lv_goto (tgt := 24) hx hb dX12_opposites_19 (by decide) ?_
      exact J_24 _ _ _ _ ⟨r_6, (u_6.2.1 0), (u_6.2.1 1), (bw wr_6 (by decide) (by decide)), rfl, (q_re h_6 [2, 3, 0, 1] rfl rfl), (lv_sub hl [0, 1] rfl)⟩
set_option maxHeartbeats 4000000 in
set_option maxRecDepth 100000 in
theorem gX12_whyTalk_1a9da66 (l : Launch) (D : va_G) (cy : Nat → ClassId) (h0 : Nat) (h1 : Nat) (j0 : Int64) (j1 : Int64) (p0 : Int32) (w0 : Value) (w1 : Value) (w2 : Value) (p1 : Int32) (p2 : Int32) (p3 : Int32) (p4 : Int32) (p5 : Int32) (p6 : Int32) (p7 : Int32) (p8 : Int32) (p9 : Int32) (p10 : Int32) (p11 : Int32) (w3 : Value) (w4 : Value) (w5 : Value) (w6 : Value) (w7 : Value) (p12 : Int32) (p13 : Int32) (w8 : Value) (w9 : Value) (w10 : Value) (p14 : Int32) (p15 : Int32) (w11 : Value) (w12 : Value) (w13 : Value) (w14 : Value) (w15 : Value) (p16 : Int32) (w16 : Value) (w17 : Value) (w18 : Value) (f0 : Nat → Int32) (p17 : Int32) (hj0 : (-2147483648) ≤ (j0).toInt ∧ (j0).toInt ≤ 2147483647) (hj1 : (-2147483648) ≤ (j1).toInt ∧ (j1).toInt ≤ 2147483647) (hp0 : 0 ≤ (p0).toInt ∧ (p0).toInt ≤ 0) (hp1 : 0 ≤ (p1).toInt ∧ (p1).toInt ≤ 900) (hp2 : 0 ≤ (p2).toInt ∧ (p2).toInt ≤ 900) (hp3 : 0 ≤ (p3).toInt ∧ (p3).toInt ≤ 900) (hp4 : 0 ≤ (p4).toInt ∧ (p4).toInt ≤ 900) (hp5 : (-2147483648) ≤ (p5).toInt ∧ (p5).toInt ≤ 2147483647) (hp6 : 0 ≤ (p6).toInt ∧ (p6).toInt ≤ 999) (hp7 : (-2147483648) ≤ (p7).toInt ∧ (p7).toInt ≤ 2147483647) (hp8 : (-2147483648) ≤ (p8).toInt ∧ (p8).toInt ≤ 2147483647) (hp9 : (-2147483648) ≤ (p9).toInt ∧ (p9).toInt ≤ 2147483647) (hp10 : (-2147483648) ≤ (p10).toInt ∧ (p10).toInt ≤ 2147483647) (hp11 : (-2147483648) ≤ (p11).toInt ∧ (p11).toInt ≤ 2147483647) (hp12 : (-2147483648) ≤ (p12).toInt ∧ (p12).toInt ≤ 2147483647) (hp13 : (-2147483648) ≤ (p13).toInt ∧ (p13).toInt ≤ 2147483647) (hp14 : (-2147483648) ≤ (p14).toInt ∧ (p14).toInt ≤ 2147483647) (hp15 : (-2147483648) ≤ (p15).toInt ∧ (p15).toInt ≤ 2147483647) (hp16 : (-2147483648) ≤ (p16).toInt ∧ (p16).toInt ≤ 2147483647) (hp17 : 0 ≤ (p17).toInt ∧ (p17).toInt ≤ 10) (htf0_84 : f0 84 = p17) (rf0 : AL f0) (sz : Nat) : MI l yX12_whyTalk cX12_whyTalk 5 .int { frames := 3, cells := 0, slots := 0, locals := 68 } [.ref h0, .long j0, .long j1] D cy (wk_e1f596b07 cy h0 p0 h1 w0 w1 w2 p1 p2 p3 p4 p5 p6 p7 p8 p9 p10 p11 w3 w4 w5 w6 w7 p12 p13 w8 w9 w10 p14 p15 w11 w12 w13 w14 w15 p16 w16 w17 w18 h1 f0) sz (fun r u => (0 ≤ r.toInt ∧ r.toInt ≤ 2) ∧ ((r : Int32).toInt = 1 ∨ (r : Int32).toInt = 2 ∨ (0 ≤ (j0 : Int64).toInt ∧ (j0 : Int64).toInt ≤ 9 ∧ 0 ≤ (j1 : Int64).toInt ∧ (j1 : Int64).toInt ≤ 9)) ∧ True) (fun u => (wk_e1f596b07 cy h0 p0 h1 w0 w1 w2 p1 p2 p3 p4 p5 p6 p7 p8 p9 p10 p11 w3 w4 w5 w6 w7 p12 p13 w8 w9 w10 p14 p15 w11 w12 w13 w14 w15 p16 w16 w17 w18 h1 f0)) 0 0 := by
  refine q_ent (own := RX12) (by decide) rfl (Nat.le_of_ble_eq_true rfl) (fun p e s m below meth c ls X hr hlk hnm hK hT h hA hl => ?_)
  obtain ⟨hx, hb, hml, hown, ht⟩ := id X
  replace hl : lv_has ls 5 [(0, .ref h0), (1, .long j0), (3, .long j1)] := hl
  refine lv_aload_n hx hb dX12_whyTalk_0 rfl (lv_at hl 0 rfl) ?_
  refine lv_lload_n hx hb dX12_whyTalk_1 rfl (lv_at hl 1 rfl) ?_
  refine q_callVi (rest := []) (wr := []) X hK hT hA h (fun sz => gX12_isPerson_039c8d6 l D cy h0 h1 j0 p0 w0 w1 w2 p1 p2 p3 p4 p5 p6 p7 p8 p9 p10 p11 w3 w4 w5 w6 w7 p12 p13 w8 w9 w10 p14 p15 w11 w12 w13 w14 w15 p16 w16 w17 w18 f0 p17 ⟨by omega, by omega⟩ hp0 hp1 hp2 hp3 hp4 (i_rng _) hp6 (i_rng _) (i_rng _) (i_rng _) (i_rng _) (i_rng _) (i_rng _) (i_rng _) (i_rng _) (i_rng _) (i_rng _) hp17 htf0_84 rf0 sz) wm_6_162 wm_6_165 wm_1_12 hd_X12_isPerson wm_6_164 wp_5_8 (ci := 12) (q0 := 0) rfl rfl ⟨Nat.le_of_ble_eq_true rfl, Nat.le_of_ble_eq_true rfl⟩ hl.1 rfl (Nat.le_of_ble_eq_true rfl) dX12_whyTalk_2 ⟨Nat.le_of_ble_eq_true rfl, Nat.le_of_ble_eq_true rfl⟩ [0, 1] [] rfl rfl (by decide) rfl rfl (fun r_1 u_1 H locs w_1 h_1 => ?_)
  clear h
  obtain ⟨wr_1, y1_0, _⟩ := w_1
  replace h_1 : qW D _ _ (wk_e1f596b07 cy h0 p0 h1 w0 w1 w2 p1 p2 p3 p4 p5 p6 p7 p8 p9 p10 p11 w3 w4 w5 w6 w7 p12 p13 w8 w9 w10 p14 p15 w11 w12 w13 w14 w15 p16 w16 w17 w18 h1 f0) _ _ := h_1
  refine lv_if_eq (tgt := 22) hx hb dX12_whyTalk_5 (by decide) (fun c_2 => ?_) (fun c_2 => ?_)
  · replace c_2 := i_eq (x := r_1) (y := 0) rfl (show (0 : Int32).toInt = 0 by decide) c_2
    refine lv_iconst (v := 1) hx hb dX12_whyTalk_22 (by decide) ?_
    exact q_iret X hr hlk hK h_1 rfl (fun _ => 0, fun _ _ => 0, fun _ _ => 0) ⟨⟨by decide +kernel, by decide +kernel⟩, (show (1 : Int32).toInt = 1 ∨ (1 : Int32).toInt = 2 ∨ (0 ≤ (j0 : Int64).toInt ∧ (j0 : Int64).toInt ≤ 9 ∧ 0 ≤ (j1 : Int64).toInt ∧ (j1 : Int64).toInt ≤ 9) from by have q0 : (1 : Int32).toInt = 1 := (by decide); (first | (clear y1_0; omega) | omega)), trivial⟩ [0, 1] rfl rfl dX12_whyTalk_23 (Nat.le_of_ble_eq_true rfl) (Nat.le_of_ble_eq_true rfl)
  · replace c_2 := i_ne (x := r_1) (y := 0) rfl (show (0 : Int32).toInt = 0 by decide) c_2
    refine lv_aload_n hx hb dX12_whyTalk_8 rfl (lv_at hl 0 rfl) ?_
    refine lv_lload_n hx hb dX12_whyTalk_9 rfl (lv_at hl 2 rfl) ?_
    refine q_callVi (rest := []) (wr := []) X hK hT hA h_1 (fun sz => gX12_isPerson_039c8d6 l D cy h0 h1 j1 p0 w0 w1 w2 p1 p2 p3 p4 p5 p6 p7 p8 p9 p10 p11 w3 w4 w5 w6 w7 p12 p13 w8 w9 w10 p14 p15 w11 w12 w13 w14 w15 p16 w16 w17 w18 f0 p17 ⟨by omega, by omega⟩ hp0 hp1 hp2 hp3 hp4 (i_rng _) hp6 (i_rng _) (i_rng _) (i_rng _) (i_rng _) (i_rng _) (i_rng _) (i_rng _) (i_rng _) (i_rng _) (i_rng _) hp17 htf0_84 rf0 sz) wm_6_162 wm_6_165 wm_1_12 hd_X12_isPerson wm_6_164 wp_5_8 (ci := 12) (q0 := 0) rfl rfl ⟨Nat.le_of_ble_eq_true rfl, Nat.le_of_ble_eq_true rfl⟩ hl.1 rfl (Nat.le_of_ble_eq_true rfl) dX12_whyTalk_10 ⟨Nat.le_of_ble_eq_true rfl, Nat.le_of_ble_eq_true rfl⟩ [0, 1] [] rfl rfl (by decide) rfl rfl (fun r_3 u_3 H locs w_3 h_3 => ?_)
    clear h_1
    obtain ⟨wr_3, y3_0, _⟩ := w_3
    replace h_3 : qW D _ _ (wk_e1f596b07 cy h0 p0 h1 w0 w1 w2 p1 p2 p3 p4 p5 p6 p7 p8 p9 p10 p11 w3 w4 w5 w6 w7 p12 p13 w8 w9 w10 p14 p15 w11 w12 w13 w14 w15 p16 w16 w17 w18 h1 f0) _ _ := h_3
    refine lv_if_eq (tgt := 22) hx hb dX12_whyTalk_13 (by decide) (fun c_4 => ?_) (fun c_4 => ?_)
    · replace c_4 := i_eq (x := r_3) (y := 0) rfl (show (0 : Int32).toInt = 0 by decide) c_4
      refine lv_iconst (v := 1) hx hb dX12_whyTalk_22 (by decide) ?_
      exact q_iret X hr hlk hK h_3 rfl (fun _ => 0, fun _ _ => 0, fun _ _ => 0) ⟨⟨by decide +kernel, by decide +kernel⟩, (show (1 : Int32).toInt = 1 ∨ (1 : Int32).toInt = 2 ∨ (0 ≤ (j0 : Int64).toInt ∧ (j0 : Int64).toInt ≤ 9 ∧ 0 ≤ (j1 : Int64).toInt ∧ (j1 : Int64).toInt ≤ 9) from by have q0 : (1 : Int32).toInt = 1 := (by decide); (first | (clear y1_0 y3_0; omega) | omega)), trivial⟩ [0, 1] rfl rfl dX12_whyTalk_23 (Nat.le_of_ble_eq_true rfl) (Nat.le_of_ble_eq_true rfl)
    · replace c_4 := i_ne (x := r_3) (y := 0) rfl (show (0 : Int32).toInt = 0 by decide) c_4
      refine lv_lload_n hx hb dX12_whyTalk_16 rfl (lv_at hl 1 rfl) ?_
      refine lv_lload_n hx hb dX12_whyTalk_17 rfl (lv_at hl 2 rfl) ?_
      refine W.lcmp hx hb dX12_whyTalk_18 ?_
      refine lv_if_ne (tgt := 24) hx hb dX12_whyTalk_19 (by decide) (fun c_5 => ?_) (fun c_5 => ?_)
      · replace c_5 := j_neq (x := j0) (y := j1) rfl rfl c_5
        refine lv_aload_n hx hb dX12_whyTalk_24 rfl (lv_at hl 0 rfl) ?_
        refine q_callVi (rest := []) (wr := []) X hK hT hA h_3 (fun sz => gX12_townNow_2907b4b l D cy h0 h1 p0 w0 w1 w2 p1 p2 p3 p4 p5 p6 p7 p8 p9 p10 p11 w3 w4 w5 w6 w7 p12 p13 w8 w9 w10 p14 p15 w11 w12 w13 w14 w15 p16 w16 w17 w18 f0 p17 hp0 hp1 hp2 hp3 hp4 (i_rng _) hp6 (i_rng _) (i_rng _) (i_rng _) (i_rng _) (i_rng _) (i_rng _) (i_rng _) (i_rng _) (i_rng _) (i_rng _) hp17 htf0_84 rf0 sz) wm_6_170 wm_6_173 wm_1_12 hd_X12_townNow wm_6_172 wp_5_9 (ci := 12) (q0 := 0) rfl rfl ⟨Nat.le_of_ble_eq_true rfl, Nat.le_of_ble_eq_true rfl⟩ hl.1 rfl (Nat.le_of_ble_eq_true rfl) dX12_whyTalk_25 ⟨Nat.le_of_ble_eq_true rfl, Nat.le_of_ble_eq_true rfl⟩ [0, 1] [] rfl rfl (by decide) rfl rfl (fun r_6 u_6 H locs w_6 h_6 => ?_)
        clear h_3
        obtain ⟨wr_6, _⟩ := w_6
        replace h_6 : qW D _ _ (wk_e1f596b07 cy h0 p0 h1 w0 w1 w2 p1 p2 p3 p4 p5 p6 p7 p8 p9 p10 p11 w3 w4 w5 w6 w7 p12 p13 w8 w9 w10 p14 p15 w11 w12 w13 w14 w15 p16 w16 w17 w18 h1 f0) _ _ := h_6
        refine lv_i2l hx hb dX12_whyTalk_28 rfl ?_
        obtain ⟨z_7, ez_7, hz_7⟩ := e_i2l (x := r_6) rfl
        refine q_cl z_7 ez_7 ?_
        clear ez_7
        refine lv_lload_n hx hb dX12_whyTalk_29 rfl (lv_at hl 1 rfl) ?_
        refine lv_l2i hx hb dX12_whyTalk_30 rfl ?_
        obtain ⟨z_8, ez_8, hz_8⟩ := e_l2i (x := j0) rfl (by omega) (by omega)
        refine q_c z_8 ez_8 ?_
        clear ez_8
        refine q_callSi (rest := []) (wr := (wk_e1f596b07 cy h0 p0 h1 w0 w1 w2 p1 p2 p3 p4 p5 p6 p7 p8 p9 p10 p11 w3 w4 w5 w6 w7 p12 p13 w8 w9 w10 p14 p15 w11 w12 w13 w14 w15 p16 w16 w17 w18 h1 f0)) X hK hT hA h_6 (fun sz => gX12_isIn_b0455a8 l D cy z_7 z_8 ⟨by omega, by omega⟩ ⟨by omega, by omega⟩ sz) wm_6_167 wm_6_169 wm_1_12 hd_X12_isIn wm_6_168 ⟨Nat.le_of_ble_eq_true rfl, Nat.le_of_ble_eq_true rfl⟩ hl.1 rfl (Nat.le_of_ble_eq_true rfl) dX12_whyTalk_31 ⟨Nat.le_of_ble_eq_true rfl, Nat.le_of_ble_eq_true rfl⟩ [] [0, 1] rfl rfl (by decide) rfl rfl (fun r_9 u_9 H locs w_9 h_9 => ?_)
        clear h_6
        obtain ⟨wr_9, _⟩ := w_9
        replace h_9 : qW D _ _ (wk_e1f596b07 cy h0 p0 h1 w0 w1 w2 p1 p2 p3 p4 p5 p6 p7 p8 p9 p10 p11 w3 w4 w5 w6 w7 p12 p13 w8 w9 w10 p14 p15 w11 w12 w13 w14 w15 p16 w16 w17 w18 h1 f0) _ _ := h_9
        refine lv_if_eq (tgt := 54) hx hb dX12_whyTalk_34 (by decide) (fun c_10 => ?_) (fun c_10 => ?_)
        · replace c_10 := i_eq (x := r_9) (y := 0) rfl (show (0 : Int32).toInt = 0 by decide) c_10
          refine lv_iconst (v := 2) hx hb dX12_whyTalk_54 (by decide) ?_
          exact q_iret X hr hlk hK h_9 rfl (fun _ => 0, fun _ _ => 0, fun _ _ => 0) ⟨⟨by decide +kernel, by decide +kernel⟩, (show (2 : Int32).toInt = 1 ∨ (2 : Int32).toInt = 2 ∨ (0 ≤ (j0 : Int64).toInt ∧ (j0 : Int64).toInt ≤ 9 ∧ 0 ≤ (j1 : Int64).toInt ∧ (j1 : Int64).toInt ≤ 9) from by have q0 : (2 : Int32).toInt = 2 := (by decide); (first | (clear y1_0 y3_0; omega) | omega)), trivial⟩ [0, 1] rfl rfl dX12_whyTalk_55 (Nat.le_of_ble_eq_true rfl) (Nat.le_of_ble_eq_true rfl)
        · replace c_10 := i_ne (x := r_9) (y := 0) rfl (show (0 : Int32).toInt = 0 by decide) c_10
          refine lv_aload_n hx hb dX12_whyTalk_37 rfl (lv_at hl 0 rfl) ?_
          refine q_callVi (rest := []) (wr := []) X hK hT hA h_9 (fun sz => gX12_townNow_2907b4b l D cy h0 h1 p0 w0 w1 w2 p1 p2 p3 p4 p5 p6 p7 p8 p9 p10 p11 w3 w4 w5 w6 w7 p12 p13 w8 w9 w10 p14 p15 w11 w12 w13 w14 w15 p16 w16 w17 w18 f0 p17 hp0 hp1 hp2 hp3 hp4 (i_rng _) hp6 (i_rng _) (i_rng _) (i_rng _) (i_rng _) (i_rng _) (i_rng _) (i_rng _) (i_rng _) (i_rng _) (i_rng _) hp17 htf0_84 rf0 sz) wm_6_170 wm_6_173 wm_1_12 hd_X12_townNow wm_6_172 wp_5_9 (ci := 12) (q0 := 0) rfl rfl ⟨Nat.le_of_ble_eq_true rfl, Nat.le_of_ble_eq_true rfl⟩ hl.1 rfl (Nat.le_of_ble_eq_true rfl) dX12_whyTalk_38 ⟨Nat.le_of_ble_eq_true rfl, Nat.le_of_ble_eq_true rfl⟩ [0, 1] [] rfl rfl (by decide) rfl rfl (fun r_11 u_11 H locs w_11 h_11 => ?_)
          clear h_9
          obtain ⟨wr_11, _⟩ := w_11
          replace h_11 : qW D _ _ (wk_e1f596b07 cy h0 p0 h1 w0 w1 w2 p1 p2 p3 p4 p5 p6 p7 p8 p9 p10 p11 w3 w4 w5 w6 w7 p12 p13 w8 w9 w10 p14 p15 w11 w12 w13 w14 w15 p16 w16 w17 w18 h1 f0) _ _ := h_11
          refine lv_i2l hx hb dX12_whyTalk_41 rfl ?_
          obtain ⟨z_12, ez_12, hz_12⟩ := e_i2l (x := r_11) rfl
          refine q_cl z_12 ez_12 ?_
          clear ez_12
          refine lv_lload_n hx hb dX12_whyTalk_42 rfl (lv_at hl 2 rfl) ?_
          refine lv_l2i hx hb dX12_whyTalk_43 rfl ?_
          obtain ⟨z_13, ez_13, hz_13⟩ := e_l2i (x := j1) rfl (by omega) (by omega)
          refine q_c z_13 ez_13 ?_
          clear ez_13
          refine q_callSi (rest := []) (wr := (wk_e1f596b07 cy h0 p0 h1 w0 w1 w2 p1 p2 p3 p4 p5 p6 p7 p8 p9 p10 p11 w3 w4 w5 w6 w7 p12 p13 w8 w9 w10 p14 p15 w11 w12 w13 w14 w15 p16 w16 w17 w18 h1 f0)) X hK hT hA h_11 (fun sz => gX12_isIn_b0455a8 l D cy z_12 z_13 ⟨by omega, by omega⟩ ⟨by omega, by omega⟩ sz) wm_6_167 wm_6_169 wm_1_12 hd_X12_isIn wm_6_168 ⟨Nat.le_of_ble_eq_true rfl, Nat.le_of_ble_eq_true rfl⟩ hl.1 rfl (Nat.le_of_ble_eq_true rfl) dX12_whyTalk_44 ⟨Nat.le_of_ble_eq_true rfl, Nat.le_of_ble_eq_true rfl⟩ [] [0, 1] rfl rfl (by decide) rfl rfl (fun r_14 u_14 H locs w_14 h_14 => ?_)
          clear h_11
          obtain ⟨wr_14, _⟩ := w_14
          replace h_14 : qW D _ _ (wk_e1f596b07 cy h0 p0 h1 w0 w1 w2 p1 p2 p3 p4 p5 p6 p7 p8 p9 p10 p11 w3 w4 w5 w6 w7 p12 p13 w8 w9 w10 p14 p15 w11 w12 w13 w14 w15 p16 w16 w17 w18 h1 f0) _ _ := h_14
          refine lv_if_eq (tgt := 54) hx hb dX12_whyTalk_47 (by decide) (fun c_15 => ?_) (fun c_15 => ?_)
          · replace c_15 := i_eq (x := r_14) (y := 0) rfl (show (0 : Int32).toInt = 0 by decide) c_15
            refine lv_iconst (v := 2) hx hb dX12_whyTalk_54 (by decide) ?_
            exact q_iret X hr hlk hK h_14 rfl (fun _ => 0, fun _ _ => 0, fun _ _ => 0) ⟨⟨by decide +kernel, by decide +kernel⟩, (show (2 : Int32).toInt = 1 ∨ (2 : Int32).toInt = 2 ∨ (0 ≤ (j0 : Int64).toInt ∧ (j0 : Int64).toInt ≤ 9 ∧ 0 ≤ (j1 : Int64).toInt ∧ (j1 : Int64).toInt ≤ 9) from by have q0 : (2 : Int32).toInt = 2 := (by decide); (first | (clear y1_0 y3_0; omega) | omega)), trivial⟩ [0, 1] rfl rfl dX12_whyTalk_55 (Nat.le_of_ble_eq_true rfl) (Nat.le_of_ble_eq_true rfl)
          · replace c_15 := i_ne (x := r_14) (y := 0) rfl (show (0 : Int32).toInt = 0 by decide) c_15
            refine lv_iconst (v := 0) hx hb dX12_whyTalk_50 (by decide) ?_
            refine lv_goto (tgt := 55) hx hb dX12_whyTalk_51 (by decide) ?_
            exact q_iret X hr hlk hK h_14 rfl (fun _ => 0, fun _ _ => 0, fun _ _ => 0) ⟨⟨by decide +kernel, by decide +kernel⟩, (show (0 : Int32).toInt = 1 ∨ (0 : Int32).toInt = 2 ∨ (0 ≤ (j0 : Int64).toInt ∧ (j0 : Int64).toInt ≤ 9 ∧ 0 ≤ (j1 : Int64).toInt ∧ (j1 : Int64).toInt ≤ 9) from by have q0 : (0 : Int32).toInt = 0 := (by decide); (first | (clear y1_0 y3_0; omega) | omega)), trivial⟩ [0, 1] rfl rfl dX12_whyTalk_55 (Nat.le_of_ble_eq_true rfl) (Nat.le_of_ble_eq_true rfl)
      · replace c_5 := j_eq (x := j0) (y := j1) rfl rfl c_5
        refine lv_iconst (v := 1) hx hb dX12_whyTalk_22 (by decide) ?_
        exact q_iret X hr hlk hK h_3 rfl (fun _ => 0, fun _ _ => 0, fun _ _ => 0) ⟨⟨by decide +kernel, by decide +kernel⟩, (show (1 : Int32).toInt = 1 ∨ (1 : Int32).toInt = 2 ∨ (0 ≤ (j0 : Int64).toInt ∧ (j0 : Int64).toInt ≤ 9 ∧ 0 ≤ (j1 : Int64).toInt ∧ (j1 : Int64).toInt ≤ 9) from by have q0 : (1 : Int32).toInt = 1 := (by decide); (first | (clear y1_0 y3_0; omega) | omega)), trivial⟩ [0, 1] rfl rfl dX12_whyTalk_23 (Nat.le_of_ble_eq_true rfl) (Nat.le_of_ble_eq_true rfl)
set_option maxHeartbeats 4000000 in
set_option maxRecDepth 100000 in
theorem gX12_keeps_814ac6b (l : Launch) (D : va_G) (cy : Nat → ClassId) (h0 : Nat) (h1 : Nat) (h2 : Nat) (p0 : Int32) (w0 : Value) (w1 : Value) (w2 : Value) (p1 : Int32) (p2 : Int32) (p3 : Int32) (p4 : Int32) (p5 : Int32) (p6 : Int32) (p7 : Int32) (p8 : Int32) (p9 : Int32) (p10 : Int32) (p11 : Int32) (w3 : Value) (w4 : Value) (w5 : Value) (w6 : Value) (p12 : Int32) (p13 : Int32) (w7 : Value) (w8 : Value) (w9 : Value) (p14 : Int32) (p15 : Int32) (w10 : Value) (w11 : Value) (w12 : Value) (w13 : Value) (w14 : Value) (p16 : Int32) (w15 : Value) (w16 : Value) (w17 : Value) (f0 : Nat → Int32) (p17 : Int32) (f1 : Nat → Int32) (hp0 : 0 ≤ (p0).toInt ∧ (p0).toInt ≤ 0) (hp1 : 0 ≤ (p1).toInt ∧ (p1).toInt ≤ 900) (hp2 : 0 ≤ (p2).toInt ∧ (p2).toInt ≤ 900) (hp3 : 0 ≤ (p3).toInt ∧ (p3).toInt ≤ 900) (hp4 : 0 ≤ (p4).toInt ∧ (p4).toInt ≤ 900) (hp5 : (-2147483648) ≤ (p5).toInt ∧ (p5).toInt ≤ 2147483647) (hp6 : 0 ≤ (p6).toInt ∧ (p6).toInt ≤ 999) (hp7 : (-2147483648) ≤ (p7).toInt ∧ (p7).toInt ≤ 2147483647) (hp8 : (-2147483648) ≤ (p8).toInt ∧ (p8).toInt ≤ 2147483647) (hp9 : (-2147483648) ≤ (p9).toInt ∧ (p9).toInt ≤ 2147483647) (hp10 : (-2147483648) ≤ (p10).toInt ∧ (p10).toInt ≤ 2147483647) (hp11 : (-2147483648) ≤ (p11).toInt ∧ (p11).toInt ≤ 2147483647) (hp12 : (-2147483648) ≤ (p12).toInt ∧ (p12).toInt ≤ 2147483647) (hp13 : (-2147483648) ≤ (p13).toInt ∧ (p13).toInt ≤ 2147483647) (hp14 : (-2147483648) ≤ (p14).toInt ∧ (p14).toInt ≤ 2147483647) (hp15 : (-2147483648) ≤ (p15).toInt ∧ (p15).toInt ≤ 2147483647) (hp16 : (-2147483648) ≤ (p16).toInt ∧ (p16).toInt ≤ 2147483647) (hp17 : 0 ≤ (p17).toInt ∧ (p17).toInt ≤ 10) (htf0_84 : f0 84 = p17) (rf0 : AL f0) (rf1 : WA f1) (sz : Nat) : MV l yX12_keeps cX12_keeps 2 { frames := 0, cells := 0, slots := 0, locals := 0 } [.ref h0] D cy (wk_22f40a116 cy h0 p0 h1 w0 w1 w2 p1 p2 p3 p4 p5 p6 p7 p8 p9 p10 p11 w3 w4 w5 w6 h2 p12 p13 w7 w8 w9 p14 p15 w10 w11 w12 w13 w14 p16 w15 w16 w17 h1 f0 h2 f1) sz (fun u => WA (u.2.1 0) ∧ True) (fun u => (wk_22f40a116 cy h0 p0 h1 w0 w1 w2 p1 p2 p3 p4 p5 p6 p7 p8 p9 p10 p11 w3 w4 w5 w6 h2 p12 p13 w7 w8 w9 p14 p15 w10 w11 w12 w13 w14 p16 w15 w16 w17 h1 f0 h2 (u.2.1 0))) 0 0 := by
  refine q_ent (own := RX12) (by decide) rfl (Nat.le_of_ble_eq_true rfl) (fun p e s m below meth c ls X hr hlk hnm hK hT h hA hl => ?_)
  obtain ⟨hx, hb, hml, hown, ht⟩ := id X
  replace hl : lv_has ls 2 [(0, .ref h0)] := hl
  refine lv_iconst (v := 0) hx hb dX12_keeps_0 (by decide) ?_
  refine lv_istore_n (lv' := [(1, .int 0), (0, .ref h0)]) hx hb dX12_keeps_1 rfl hl (by decide) rfl (fun ls_1 hl_1 => ?_)
  clear hl
  refine q_wl (fun (v2_2_0 : Int32) H locs ls => ∃ v2_2_1 : Nat → Int32, (0 ≤ (v2_2_0).toInt ∧ (v2_2_0).toInt ≤ 32) ∧ (CPY v2_2_1 f1 0 f0 52 ((v2_2_0 : Int32).toInt).toNat) ∧ qW D (va_A (wk_22f40a116 cy h0 p0 h1 w0 w1 w2 p1 p2 p3 p4 p5 p6 p7 p8 p9 p10 p11 w3 w4 w5 w6 h2 p12 p13 w7 w8 w9 p14 p15 w10 w11 w12 w13 w14 p16 w15 w16 w17 h1 f0 h2 f1) sz) s.heap (wk_22f40a116 cy h0 p0 h1 w0 w1 w2 p1 p2 p3 p4 p5 p6 p7 p8 p9 p10 p11 w3 w4 w5 w6 h2 p12 p13 w7 w8 w9 p14 p15 w10 w11 w12 w13 w14 p16 w15 w16 w17 h1 f0 h2 v2_2_1) H locs ∧ lv_has ls 2 [(0, .ref h0), (1, .int v2_2_0)]) (fun (v2_2_0 : Int32) => (33 - (v2_2_0).toInt).toNat) (fun q_2 ih_2 H locs ls hP => ?_) 0 ⟨f1, ⟨by decide +kernel, by decide +kernel⟩, (cp_0 (by decide)), h, (lv_sub hl_1 [1, 0] rfl)⟩
  obtain ⟨v2_2_0, rfl⟩ : ∃ z, z = q_2 := ⟨_, rfl⟩
  obtain ⟨v2_2_1, hv2_2_0, x3_0, h, hl⟩ := hP
  refine lv_iload_n hx hb dX12_keeps_2 rfl (lv_at hl 1 rfl) ?_
  refine lv_bipush (v := 32) hx hb dX12_keeps_3 (by decide) ?_
  refine lv_icmp_ge (tgt := 29) hx hb dX12_keeps_5 (by decide) (fun c_4 => ?_) (fun c_4 => ?_)
  · replace c_4 := i_le (x := 32) (y := v2_2_0) (show (32 : Int32).toInt = 32 by decide) rfl c_4
    have cx_5 := wa_of x3_0 (by omega) rf0
    exact q_vret X hr hlk hK h (fun _ => 0, (vcons v2_2_1 (fun _ => (fun _ => 0))), fun _ _ => 0) ⟨cx_5, trivial⟩ [0, 1, 2] rfl rfl dX12_keeps_29 (Nat.le_of_ble_eq_true rfl) (Nat.le_of_ble_eq_true rfl)
  · replace c_4 := i_nle (x := 32) (y := v2_2_0) (show (32 : Int32).toInt = 32 by decide) rfl c_4
    refine lv_aload_n hx hb dX12_keeps_8 rfl (lv_at hl 0 rfl) ?_
    refine q_get X hK h 0 rfl rfl wf_12 20 (by decide) rfl wm_5_190 dX12_keeps_9 ?_
    refine lv_iload_n hx hb dX12_keeps_12 rfl (lv_at hl 1 rfl) ?_
    refine lv_aload_n hx hb dX12_keeps_13 rfl (lv_at hl 0 rfl) ?_
    refine q_get X hK h 0 rfl rfl wf_12 1 (by decide) rfl wm_5_171 dX12_keeps_14 ?_
    refine lv_bipush (v := 52) hx hb dX12_keeps_17 (by decide) ?_
    refine lv_iload_n hx hb dX12_keeps_19 rfl (lv_at hl 1 rfl) ?_
    refine lv_iadd hx hb dX12_keeps_20 ?_
    obtain ⟨z_6, ez_6, hz_6⟩ := e_add (x := 52) (y := v2_2_0) (show (52 : Int32).toInt = 52 by decide) rfl (by omega) (by omega)
    refine q_c z_6 ez_6 ?_
    clear ez_6
    refine q_iald X hK h 1 rfl (i_in rfl (by omega) (by omega)) dX12_keeps_21 ?_
    obtain ⟨z_7, ez_7, hz_7⟩ := e_any (f0 z_6.toNatClampNeg)
    refine q_c z_7 ez_7 ?_
    refine q_iast X hK h 2 rfl (i_in rfl (by omega) (by omega)) dX12_keeps_22 (fun H locs h_9 => ?_)
    clear h
    replace h_9 : qW D _ _ (wk_22f40a116 cy h0 p0 h1 w0 w1 w2 p1 p2 p3 p4 p5 p6 p7 p8 p9 p10 p11 w3 w4 w5 w6 h2 p12 p13 w7 w8 w9 p14 p15 w10 w11 w12 w13 w14 p16 w15 w16 w17 h1 f0 h2 (upd v2_2_1 (Int32.toNatClampNeg v2_2_0) z_7)) _ _ := h_9
    obtain ⟨F_8, eF_8⟩ : ∃ z, (upd v2_2_1 (Int32.toNatClampNeg v2_2_0) z_7) = z := ⟨_, rfl⟩
    rw [eF_8] at h_9
    have cs_10 := cp_s x3_0 ez_7 eF_8 (by omega) (by omega)
    obtain ⟨z_11, ez_11, hz_11⟩ := e_add (x := v2_2_0) (y := Int32.ofInt 1) rfl (b := 1) (by decide) (by omega) (by omega)
    refine lv_iinc (v := z_11) (lv' := [(1, .int z_11), (0, .ref h0)]) hx hb dX12_keeps_23 hl (k := 1) rfl ez_11 (by decide) rfl (fun ls_11 hl_11 => ?_)
    clear hl
    refine lv_goto (tgt := 2) hx hb dX12_keeps_26 (by decide) ?_
    exact ih_2 z_11 (by show (33 - (z_11).toInt).toNat < (33 - (v2_2_0).toInt).toNat; omega) _ _ _ ⟨F_8, ⟨by omega, by omega⟩, (cp_n cs_10 (by (first | assumption | omega))), h_9, (lv_sub hl_11 [1, 0] rfl)⟩
set_option maxHeartbeats 4000000 in
set_option maxRecDepth 100000 in
theorem gX12_reckons_cad4a39 (l : Launch) (D : va_G) (cy : Nat → ClassId) (h0 : Nat) (h1 : Nat) (h2 : Nat) (h3 : Nat) (p0 : Int32) (w0 : Value) (w1 : Value) (w2 : Value) (p1 : Int32) (p2 : Int32) (p3 : Int32) (p4 : Int32) (p5 : Int32) (p6 : Int32) (p7 : Int32) (p8 : Int32) (p9 : Int32) (p10 : Int32) (p11 : Int32) (w3 : Value) (w4 : Value) (w5 : Value) (p12 : Int32) (p13 : Int32) (w6 : Value) (w7 : Value) (w8 : Value) (p14 : Int32) (p15 : Int32) (w9 : Value) (w10 : Value) (w11 : Value) (w12 : Value) (w13 : Value) (p16 : Int32) (w14 : Value) (w15 : Value) (w16 : Value) (f0 : Nat → Int32) (p17 : Int32) (f1 : Nat → Int32) (f2 : Nat → Int32) (hp0 : 0 ≤ (p0).toInt ∧ (p0).toInt ≤ 0) (hp1 : 0 ≤ (p1).toInt ∧ (p1).toInt ≤ 900) (hp2 : 0 ≤ (p2).toInt ∧ (p2).toInt ≤ 900) (hp3 : 0 ≤ (p3).toInt ∧ (p3).toInt ≤ 900) (hp4 : 0 ≤ (p4).toInt ∧ (p4).toInt ≤ 900) (hp5 : (-2147483648) ≤ (p5).toInt ∧ (p5).toInt ≤ 2147483647) (hp6 : 0 ≤ (p6).toInt ∧ (p6).toInt ≤ 999) (hp7 : (-2147483648) ≤ (p7).toInt ∧ (p7).toInt ≤ 2147483647) (hp8 : (-2147483648) ≤ (p8).toInt ∧ (p8).toInt ≤ 2147483647) (hp9 : (-2147483648) ≤ (p9).toInt ∧ (p9).toInt ≤ 2147483647) (hp10 : (-2147483648) ≤ (p10).toInt ∧ (p10).toInt ≤ 2147483647) (hp11 : (-2147483648) ≤ (p11).toInt ∧ (p11).toInt ≤ 2147483647) (hp12 : (-2147483648) ≤ (p12).toInt ∧ (p12).toInt ≤ 2147483647) (hp13 : (-2147483648) ≤ (p13).toInt ∧ (p13).toInt ≤ 2147483647) (hp14 : (-2147483648) ≤ (p14).toInt ∧ (p14).toInt ≤ 2147483647) (hp15 : (-2147483648) ≤ (p15).toInt ∧ (p15).toInt ≤ 2147483647) (hp16 : (-2147483648) ≤ (p16).toInt ∧ (p16).toInt ≤ 2147483647) (hp17 : 0 ≤ (p17).toInt ∧ (p17).toInt ≤ 10) (htf0_84 : f0 84 = p17) (rf0 : AL f0) (hpre0 : WFL f0 2) (sz : Nat) : MI l yX12_reckons cX12_reckons 5 .int { frames := 1, cells := 0, slots := 0, locals := 24 } [.ref h0, .int 2] D cy (wk_d5826a772 cy h0 p0 h1 w0 w1 w2 p1 p2 p3 p4 p5 p6 p7 p8 p9 p10 p11 h2 h3 w3 w4 w5 p12 p13 w6 w7 w8 p14 p15 w9 w10 w11 w12 w13 p16 w14 w15 w16 h1 f0 h2 f1 h3 f2) sz (fun r u => ((-2147483648) ≤ r.toInt ∧ r.toInt ≤ 2147483647) ∧ True) (fun u => (wk_d5826a772 cy h0 p0 h1 w0 w1 w2 p1 p2 p3 p4 p5 p6 p7 p8 p9 p10 p11 h2 h3 w3 w4 w5 p12 p13 w6 w7 w8 p14 p15 w9 w10 w11 w12 w13 p16 w14 w15 w16 h1 f0 h2 (u.2.1 0) h3 f2)) 0 0 := by
  refine q_ent (own := RX12) (by decide) rfl (Nat.le_of_ble_eq_true rfl) (fun p e s m below meth c ls X hr hlk hnm hK hT h hA hl => ?_)
  obtain ⟨hx, hb, hml, hown, ht⟩ := id X
  replace hl : lv_has ls 5 [(0, .ref h0), (1, .int 2)] := hl
  obtain ⟨wf1, wf2, wf3, wf4⟩ : 0 ≤ (f0 8).toInt ∧ 0 ≤ (f0 11).toInt ∧ (f0 8).toInt + (f0 11).toInt ≤ 900 ∧ ∃ x, sk f0 (406 + (f0 8).toInt.toNat) (f0 11).toInt.toNat 0 = some x := hpre0
  refine lv_iconst (v := 0) hx hb dX12_reckons_0 (by decide) ?_
  refine lv_istore_n (lv' := [(2, .int 0), (0, .ref h0), (1, .int 2)]) hx hb dX12_reckons_1 rfl hl (by decide) rfl (fun ls_1 hl_1 => ?_)
  clear hl
  refine lv_iconst (v := 0) hx hb dX12_reckons_2 (by decide) ?_
  refine lv_istore_n (lv' := [(3, .int 0), (2, .int 0), (0, .ref h0), (1, .int 2)]) hx hb dX12_reckons_3 rfl hl_1 (by decide) rfl (fun ls_2 hl_2 => ?_)
  clear hl_1
  refine q_wl (fun (q : Int32 × Int32) H locs ls => match q with | (v4_3_0, v4_3_1) => ∃ v4_3_2 : Nat → Int32, (0 ≤ (v4_3_0).toInt ∧ (v4_3_0).toInt ≤ 900) ∧ (0 ≤ (v4_3_1).toInt ∧ (v4_3_1).toInt ≤ 900) ∧ (sk f0 (406 + (f0 8).toInt.toNat) ((v4_3_0 : Int32).toInt).toNat 0 = some ((v4_3_1 : Int32).toInt).toNat) ∧ (0 ≤ (v4_3_1 : Int32).toInt ∧ (v4_3_1 : Int32).toInt ≤ (v4_3_0 : Int32).toInt) ∧ qW D (va_A (wk_d5826a772 cy h0 p0 h1 w0 w1 w2 p1 p2 p3 p4 p5 p6 p7 p8 p9 p10 p11 h2 h3 w3 w4 w5 p12 p13 w6 w7 w8 p14 p15 w9 w10 w11 w12 w13 p16 w14 w15 w16 h1 f0 h2 f1 h3 f2) sz) s.heap (wk_d5826a772 cy h0 p0 h1 w0 w1 w2 p1 p2 p3 p4 p5 p6 p7 p8 p9 p10 p11 h2 h3 w3 w4 w5 p12 p13 w6 w7 w8 p14 p15 w9 w10 w11 w12 w13 p16 w14 w15 w16 h1 f0 h2 v4_3_2 h3 f2) H locs ∧ lv_has ls 5 [(0, .ref h0), (1, .int 2), (2, .int v4_3_1), (3, .int v4_3_0)]) (fun (q : Int32 × Int32) => match q with | (v4_3_0, v4_3_1) => (901 - (v4_3_0).toInt).toNat) (fun q_4 ih_4 H locs ls hP => ?_) (0, 0) ⟨f1, ⟨by decide +kernel, by decide +kernel⟩, ⟨by decide +kernel, by decide +kernel⟩, (rfl), (by have q0 : (0 : Int32).toInt = 0 := (by decide); omega), h, (lv_sub hl_2 [2, 3, 1, 0] rfl)⟩
  obtain ⟨v4_3_0, v4_3_1⟩ := q_4
  obtain ⟨v4_3_2, hv4_3_0, hv4_3_1, x4_0, x5_1, h, hl⟩ := hP
  refine lv_iload_n hx hb dX12_reckons_4 rfl (lv_at hl 3 rfl) ?_
  refine lv_aload_n hx hb dX12_reckons_5 rfl (lv_at hl 0 rfl) ?_
  refine q_get X hK h 0 rfl rfl wf_12 1 (by decide) rfl wm_5_171 dX12_reckons_6 ?_
  refine lv_bipush (v := 9) hx hb dX12_reckons_9 (by decide) ?_
  refine lv_iload_n hx hb dX12_reckons_11 rfl (lv_at hl 1 rfl) ?_
  refine lv_iadd hx hb dX12_reckons_12 ?_
  refine q_c 11 (by decide +kernel) ?_
  refine q_iald X hK h 1 rfl (q_in (by decide +kernel)) dX12_reckons_13 ?_
  obtain ⟨z_6, ez_6, hz_6⟩ := e_any (f0 11)
  refine q_c z_6 ez_6 ?_
  have ei_6 := congrArg Int32.toInt ez_6
  refine lv_icmp_ge (tgt := 148) hx hb dX12_reckons_14 (by decide) (fun c_7 => ?_) (fun c_7 => ?_)
  · replace c_7 := i_le (x := z_6) (y := v4_3_0) rfl rfl c_7
    refine lv_aload_n hx hb dX12_reckons_148 rfl (lv_at hl 0 rfl) ?_
    refine q_get X hK h 0 rfl rfl wf_12 16 (by decide) rfl wm_5_186 dX12_reckons_149 ?_
    refine lv_iconst (v := 0) hx hb dX12_reckons_152 (by decide) ?_
    refine q_iald X hK h 2 rfl (q_in (by decide +kernel)) dX12_reckons_153 ?_
    refine q_any (fun z_8 hz_8 => ?_)
    exact q_iret X hr hlk hK h rfl (fun _ => 0, (vcons v4_3_2 (fun _ => (fun _ => 0))), fun _ _ => 0) ⟨⟨by omega, by omega⟩, trivial⟩ [0, 1, 2, 3] rfl rfl dX12_reckons_154 (Nat.le_of_ble_eq_true rfl) (Nat.le_of_ble_eq_true rfl)
  · replace c_7 := i_nle (x := z_6) (y := v4_3_0) rfl rfl c_7
    refine lv_aload_n hx hb dX12_reckons_17 rfl (lv_at hl 0 rfl) ?_
    refine q_get X hK h 0 rfl rfl wf_12 1 (by decide) rfl wm_5_171 dX12_reckons_18 ?_
    refine lv_sipush (v := 406) hx hb dX12_reckons_21 (by decide) ?_
    refine lv_aload_n hx hb dX12_reckons_24 rfl (lv_at hl 0 rfl) ?_
    refine q_get X hK h 0 rfl rfl wf_12 1 (by decide) rfl wm_5_171 dX12_reckons_25 ?_
    refine lv_bipush (v := 6) hx hb dX12_reckons_28 (by decide) ?_
    refine lv_iload_n hx hb dX12_reckons_30 rfl (lv_at hl 1 rfl) ?_
    refine lv_iadd hx hb dX12_reckons_31 ?_
    refine q_c 8 (by decide +kernel) ?_
    refine q_iald X hK h 1 rfl (q_in (by decide +kernel)) dX12_reckons_32 ?_
    obtain ⟨z_9, ez_9, hz_9⟩ := e_any (f0 8)
    refine q_c z_9 ez_9 ?_
    have ei_9 := congrArg Int32.toInt ez_9
    refine lv_iadd hx hb dX12_reckons_33 ?_
    obtain ⟨z_10, ez_10, hz_10⟩ := e_add (x := 406) (y := z_9) (show (406 : Int32).toInt = 406 by decide) rfl (by omega) (by omega)
    refine q_c z_10 ez_10 ?_
    clear ez_10
    refine lv_iload_n hx hb dX12_reckons_34 rfl (lv_at hl 3 rfl) ?_
    refine lv_iadd hx hb dX12_reckons_35 ?_
    obtain ⟨z_11, ez_11, hz_11⟩ := e_add (x := z_10) (y := v4_3_0) rfl rfl (by omega) (by omega)
    refine q_c z_11 ez_11 ?_
    clear ez_11
    refine q_iald X hK h 1 rfl (i_in rfl (by omega) (by omega)) dX12_reckons_36 ?_
    obtain ⟨z_12, ez_12, hz_12⟩ := e_any (f0 z_11.toNatClampNeg)
    refine q_c z_12 ez_12 ?_
    obtain ⟨hh_13, s1_13, s2_13⟩ := sk_step wf4 x4_0 (by omega) (by omega) (by omega) ez_12
    have s3_13 := skc_cases s1_13
    refine lv_istore (lv' := [(4, .int z_12), (0, .ref h0), (1, .int 2), (2, .int v4_3_1), (3, .int v4_3_0)]) hx hb dX12_reckons_37 hl (by decide) rfl (fun ls_14 hl_14 => ?_)
    clear hl
    refine lv_iload hx hb dX12_reckons_39 (lv_at hl_14 0 rfl) ?_
    refine lv_sipush (v := 3000) hx hb dX12_reckons_41 (by decide) ?_
    refine q_jn (pc2 := 142) (fun H locs ls st => ∃ v142_15_0 : Int32, ∃ v142_15_1 : Nat → Int32, (0 ≤ (v142_15_0).toInt ∧ (v142_15_0).toInt ≤ 900) ∧ ((v142_15_0 : Int32).toInt = (hh_13 : Int)) ∧ st = [] ∧ qW D (va_A (wk_d5826a772 cy h0 p0 h1 w0 w1 w2 p1 p2 p3 p4 p5 p6 p7 p8 p9 p10 p11 h2 h3 w3 w4 w5 p12 p13 w6 w7 w8 p14 p15 w9 w10 w11 w12 w13 p16 w14 w15 w16 h1 f0 h2 f1 h3 f2) sz) s.heap (wk_d5826a772 cy h0 p0 h1 w0 w1 w2 p1 p2 p3 p4 p5 p6 p7 p8 p9 p10 p11 h2 h3 w3 w4 w5 p12 p13 w6 w7 w8 p14 p15 w9 w10 w11 w12 w13 p16 w14 w15 w16 h1 f0 h2 v142_15_1 h3 f2) H locs ∧ lv_has ls 5 [(0, .ref h0), (1, .int 2), (2, .int v142_15_0), (3, .int v4_3_0), (4, .int z_12)]) (fun H locs ls st hP => ?_) (fun J_142 => ?_)
    · obtain ⟨v142_15_0, v142_15_1, hv142_15_0, x16_0, rfl, h, hl⟩ := hP
      obtain ⟨z_17, ez_17, hz_17⟩ := e_add (x := v4_3_0) (y := Int32.ofInt 1) rfl (b := 1) (by decide) (by omega) (by omega)
      refine lv_iinc (v := z_17) (lv' := [(3, .int z_17), (0, .ref h0), (1, .int 2), (2, .int v142_15_0), (4, .int z_12)]) hx hb dX12_reckons_142 hl (k := 3) rfl ez_17 (by decide) rfl (fun ls_17 hl_17 => ?_)
      clear hl
      refine lv_goto (tgt := 4) hx hb dX12_reckons_145 (by decide) ?_
      exact ih_4 (z_17, v142_15_0) (by show (901 - (z_17).toInt).toNat < (901 - (v4_3_0).toInt).toNat; omega) _ _ _ ⟨v142_15_1, ⟨by omega, by omega⟩, hv142_15_0, (sk_arr s2_13 (by (first | assumption | omega)) (by (first | assumption | omega))), (by omega), h, (lv_sub hl_17 [1, 2, 3, 0] rfl)⟩
    · skip
      refine lv_icmp_ge (tgt := 83) hx hb dX12_reckons_44 (by decide) (fun c_18 => ?_) (fun c_18 => ?_)
      · replace c_18 := i_le (x := 3000) (y := z_12) (show (3000 : Int32).toInt = 3000 by decide) rfl c_18
        refine lv_iload hx hb dX12_reckons_83 (lv_at hl_14 0 rfl) ?_
        refine lv_sipush (v := 3006) hx hb dX12_reckons_85 (by decide) ?_
        refine lv_icmp_ne (tgt := 112) hx hb dX12_reckons_88 (by decide) (fun c_19 => ?_) (fun c_19 => ?_)
        · replace c_19 := i_ne (x := z_12) (y := 3006) rfl (show (3006 : Int32).toInt = 3006 by decide) c_19
          obtain ⟨z_20, ez_20, hz_20⟩ := e_add (x := v4_3_1) (y := Int32.ofInt (-1)) rfl (b := (-1)) (by decide) (by omega) (by omega)
          refine lv_iinc (v := z_20) (lv' := [(2, .int z_20), (4, .int z_12), (0, .ref h0), (1, .int 2), (3, .int v4_3_0)]) hx hb dX12_reckons_112 hl_14 (k := 3) rfl ez_20 (by decide) rfl (fun ls_20 hl_20 => ?_)
          clear hl_14
          refine lv_aload_n hx hb dX12_reckons_115 rfl (lv_at hl_20 2 rfl) ?_
          refine q_get X hK h 0 rfl rfl wf_12 16 (by decide) rfl wm_5_186 dX12_reckons_116 ?_
          refine lv_iload_n hx hb dX12_reckons_119 rfl (lv_at hl_20 0 rfl) ?_
          refine lv_iconst (v := 1) hx hb dX12_reckons_120 (by decide) ?_
          refine lv_isub hx hb dX12_reckons_121 ?_
          obtain ⟨z_21, ez_21, hz_21⟩ := e_sub (x := z_20) (y := 1) rfl (show (1 : Int32).toInt = 1 by decide) (by omega) (by omega)
          refine q_c z_21 ez_21 ?_
          clear ez_21
          refine lv_iload hx hb dX12_reckons_122 (lv_at hl_20 1 rfl) ?_
          refine lv_aload_n hx hb dX12_reckons_124 rfl (lv_at hl_20 2 rfl) ?_
          refine q_get X hK h 0 rfl rfl wf_12 16 (by decide) rfl wm_5_186 dX12_reckons_125 ?_
          refine lv_iload_n hx hb dX12_reckons_128 rfl (lv_at hl_20 0 rfl) ?_
          refine lv_iconst (v := 1) hx hb dX12_reckons_129 (by decide) ?_
          refine lv_isub hx hb dX12_reckons_130 ?_
          obtain ⟨z_22, ez_22, hz_22⟩ := e_sub (x := z_20) (y := 1) rfl (show (1 : Int32).toInt = 1 by decide) (by omega) (by omega)
          refine q_c z_22 ez_22 ?_
          clear ez_22
          refine q_iald X hK h 2 rfl (i_in rfl (by omega) (by omega)) dX12_reckons_131 ?_
          refine q_any (fun z_23 hz_23 => ?_)
          refine lv_aload_n hx hb dX12_reckons_132 rfl (lv_at hl_20 2 rfl) ?_
          refine q_get X hK h 0 rfl rfl wf_12 16 (by decide) rfl wm_5_186 dX12_reckons_133 ?_
          refine lv_iload_n hx hb dX12_reckons_136 rfl (lv_at hl_20 0 rfl) ?_
          refine q_iald X hK h 2 rfl (i_in rfl (by omega) (by omega)) dX12_reckons_137 ?_
          refine q_any (fun z_24 hz_24 => ?_)
          refine q_callSi (rest := [.int z_21, .ref h2]) (wr := (wk_d5826a772 cy h0 p0 h1 w0 w1 w2 p1 p2 p3 p4 p5 p6 p7 p8 p9 p10 p11 h2 h3 w3 w4 w5 p12 p13 w6 w7 w8 p14 p15 w9 w10 w11 w12 w13 p16 w14 w15 w16 h1 f0 h2 v4_3_2 h3 f2)) X hK hT hA h (fun sz => gX12_between_b825dc3 l D cy z_12 z_23 z_24 ⟨by omega, by omega⟩ (i_rng _) (i_rng _) sz) wm_6_199 wm_6_201 wm_1_12 hd_X12_between wm_6_200 ⟨Nat.le_of_ble_eq_true rfl, Nat.le_of_ble_eq_true rfl⟩ hl_20.1 rfl (Nat.le_of_ble_eq_true rfl) dX12_reckons_138 ⟨Nat.le_of_ble_eq_true rfl, Nat.le_of_ble_eq_true rfl⟩ [] [0, 1, 2, 3] rfl rfl (by decide) rfl rfl (fun r_25 u_25 H locs w_25 h_25 => ?_)
          clear h
          obtain ⟨wr_25, _⟩ := w_25
          replace h_25 : qW D _ _ (wk_d5826a772 cy h0 p0 h1 w0 w1 w2 p1 p2 p3 p4 p5 p6 p7 p8 p9 p10 p11 h2 h3 w3 w4 w5 p12 p13 w6 w7 w8 p14 p15 w9 w10 w11 w12 w13 p16 w14 w15 w16 h1 f0 h2 v4_3_2 h3 f2) _ _ := h_25
          refine q_iast X hK h_25 2 rfl (i_in rfl (by omega) (by omega)) dX12_reckons_141 (fun H locs h_27 => ?_)
          clear h_25
          replace h_27 : qW D _ _ (wk_d5826a772 cy h0 p0 h1 w0 w1 w2 p1 p2 p3 p4 p5 p6 p7 p8 p9 p10 p11 h2 h3 w3 w4 w5 p12 p13 w6 w7 w8 p14 p15 w9 w10 w11 w12 w13 p16 w14 w15 w16 h1 f0 h2 (upd v4_3_2 (Int32.toNatClampNeg z_21) r_25) h3 f2) _ _ := h_27
          obtain ⟨F_26, eF_26⟩ : ∃ z, (upd v4_3_2 (Int32.toNatClampNeg z_21) r_25) = z := ⟨_, rfl⟩
          rw [eF_26] at h_27
          clear eF_26
          exact J_142 _ _ _ _ ⟨z_20, F_26, ⟨by omega, by omega⟩, (by omega), rfl, h_27, (lv_sub hl_20 [2, 3, 0, 4, 1] rfl)⟩
        · replace c_19 := i_eq (x := z_12) (y := 3006) rfl (show (3006 : Int32).toInt = 3006 by decide) c_19
          refine lv_aload_n hx hb dX12_reckons_91 rfl (lv_at hl_14 1 rfl) ?_
          refine q_get X hK h 0 rfl rfl wf_12 16 (by decide) rfl wm_5_186 dX12_reckons_92 ?_
          refine lv_iload_n hx hb dX12_reckons_95 rfl (lv_at hl_14 3 rfl) ?_
          refine lv_iconst (v := 1) hx hb dX12_reckons_96 (by decide) ?_
          refine lv_isub hx hb dX12_reckons_97 ?_
          obtain ⟨z_28, ez_28, hz_28⟩ := e_sub (x := v4_3_1) (y := 1) rfl (show (1 : Int32).toInt = 1 by decide) (by omega) (by omega)
          refine q_c z_28 ez_28 ?_
          clear ez_28
          refine lv_iconst (v := 1) hx hb dX12_reckons_98 (by decide) ?_
          refine lv_aload_n hx hb dX12_reckons_99 rfl (lv_at hl_14 1 rfl) ?_
          refine q_get X hK h 0 rfl rfl wf_12 16 (by decide) rfl wm_5_186 dX12_reckons_100 ?_
          refine lv_iload_n hx hb dX12_reckons_103 rfl (lv_at hl_14 3 rfl) ?_
          refine lv_iconst (v := 1) hx hb dX12_reckons_104 (by decide) ?_
          refine lv_isub hx hb dX12_reckons_105 ?_
          obtain ⟨z_29, ez_29, hz_29⟩ := e_sub (x := v4_3_1) (y := 1) rfl (show (1 : Int32).toInt = 1 by decide) (by omega) (by omega)
          refine q_c z_29 ez_29 ?_
          clear ez_29
          refine q_iald X hK h 2 rfl (i_in rfl (by omega) (by omega)) dX12_reckons_106 ?_
          refine q_any (fun z_30 hz_30 => ?_)
          refine lv_isub hx hb dX12_reckons_107 ?_
          refine q_any (fun z_31 hz_31 => ?_)
          refine q_iast X hK h 2 rfl (i_in rfl (by omega) (by omega)) dX12_reckons_108 (fun H locs h_33 => ?_)
          clear h
          replace h_33 : qW D _ _ (wk_d5826a772 cy h0 p0 h1 w0 w1 w2 p1 p2 p3 p4 p5 p6 p7 p8 p9 p10 p11 h2 h3 w3 w4 w5 p12 p13 w6 w7 w8 p14 p15 w9 w10 w11 w12 w13 p16 w14 w15 w16 h1 f0 h2 (upd v4_3_2 (Int32.toNatClampNeg z_28) z_31) h3 f2) _ _ := h_33
          obtain ⟨F_32, eF_32⟩ : ∃ z, (upd v4_3_2 (Int32.toNatClampNeg z_28) z_31) = z := ⟨_, rfl⟩
          rw [eF_32] at h_33
          clear eF_32
          refine lv_goto (tgt := 142) hx hb dX12_reckons_109 (by decide) ?_
          exact J_142 _ _ _ _ ⟨v4_3_1, F_32, hv4_3_1, (by omega), rfl, h_33, (lv_sub hl_14 [1, 2, 3, 4, 0] rfl)⟩
      · replace c_18 := i_nle (x := 3000) (y := z_12) (show (3000 : Int32).toInt = 3000 by decide) rfl c_18
        refine lv_aload_n hx hb dX12_reckons_47 rfl (lv_at hl_14 1 rfl) ?_
        refine q_get X hK h 0 rfl rfl wf_12 16 (by decide) rfl wm_5_186 dX12_reckons_48 ?_
        refine lv_iload_n hx hb dX12_reckons_51 rfl (lv_at hl_14 3 rfl) ?_
        refine lv_iload hx hb dX12_reckons_52 (lv_at hl_14 0 rfl) ?_
        refine lv_sipush (v := 1000) hx hb dX12_reckons_54 (by decide) ?_
        refine q_jn (pc2 := 76) (fun H locs ls st => ∃ v76_34_0 : Int32, ((-2147483648) ≤ (v76_34_0).toInt ∧ (v76_34_0).toInt ≤ 2147483647) ∧ st = [.int v76_34_0, .int v4_3_1, .ref h2] ∧ qW D (va_A (wk_d5826a772 cy h0 p0 h1 w0 w1 w2 p1 p2 p3 p4 p5 p6 p7 p8 p9 p10 p11 h2 h3 w3 w4 w5 p12 p13 w6 w7 w8 p14 p15 w9 w10 w11 w12 w13 p16 w14 w15 w16 h1 f0 h2 f1 h3 f2) sz) s.heap (wk_d5826a772 cy h0 p0 h1 w0 w1 w2 p1 p2 p3 p4 p5 p6 p7 p8 p9 p10 p11 h2 h3 w3 w4 w5 p12 p13 w6 w7 w8 p14 p15 w9 w10 w11 w12 w13 p16 w14 w15 w16 h1 f0 h2 v4_3_2 h3 f2) H locs ∧ lv_has ls 5 [(0, .ref h0), (1, .int 2), (2, .int v4_3_1), (3, .int v4_3_0), (4, .int z_12)]) (fun H locs ls st hP => ?_) (fun J_76 => ?_)
        · obtain ⟨v76_34_0, hv76_34_0, rfl, h, hl⟩ := hP
          refine q_iast X hK h 2 rfl (i_in rfl (by omega) (by omega)) dX12_reckons_76 (fun H locs h_36 => ?_)
          clear h
          replace h_36 : qW D _ _ (wk_d5826a772 cy h0 p0 h1 w0 w1 w2 p1 p2 p3 p4 p5 p6 p7 p8 p9 p10 p11 h2 h3 w3 w4 w5 p12 p13 w6 w7 w8 p14 p15 w9 w10 w11 w12 w13 p16 w14 w15 w16 h1 f0 h2 (upd v4_3_2 (Int32.toNatClampNeg v4_3_1) v76_34_0) h3 f2) _ _ := h_36
          obtain ⟨F_35, eF_35⟩ : ∃ z, (upd v4_3_2 (Int32.toNatClampNeg v4_3_1) v76_34_0) = z := ⟨_, rfl⟩
          rw [eF_35] at h_36
          clear eF_35
          obtain ⟨z_37, ez_37, hz_37⟩ := e_add (x := v4_3_1) (y := Int32.ofInt 1) rfl (b := 1) (by decide) (by omega) (by omega)
          refine lv_iinc (v := z_37) (lv' := [(2, .int z_37), (0, .ref h0), (1, .int 2), (3, .int v4_3_0), (4, .int z_12)]) hx hb dX12_reckons_77 hl (k := 2) rfl ez_37 (by decide) rfl (fun ls_37 hl_37 => ?_)
          clear hl
          refine lv_goto (tgt := 142) hx hb dX12_reckons_80 (by decide) ?_
          exact J_142 _ _ _ _ ⟨z_37, F_35, ⟨by omega, by omega⟩, (by omega), rfl, h_36, (lv_sub hl_37 [1, 2, 0, 3, 4] rfl)⟩
        · skip
          refine lv_icmp_ge (tgt := 65) hx hb dX12_reckons_57 (by decide) (fun c_38 => ?_) (fun c_38 => ?_)
          · replace c_38 := i_le (x := 1000) (y := z_12) (show (1000 : Int32).toInt = 1000 by decide) rfl c_38
            refine lv_aload_n hx hb dX12_reckons_65 rfl (lv_at hl_14 1 rfl) ?_
            refine q_get X hK h 0 rfl rfl wf_12 17 (by decide) rfl wm_5_187 dX12_reckons_66 ?_
            refine lv_iload hx hb dX12_reckons_69 (lv_at hl_14 0 rfl) ?_
            refine lv_sipush (v := 1000) hx hb dX12_reckons_71 (by decide) ?_
            refine lv_isub hx hb dX12_reckons_74 ?_
            obtain ⟨z_39, ez_39, hz_39⟩ := e_sub (x := z_12) (y := 1000) rfl (show (1000 : Int32).toInt = 1000 by decide) (by omega) (by omega)
            refine q_c z_39 ez_39 ?_
            clear ez_39
            refine q_iald X hK h 3 rfl (i_in rfl (by omega) (by omega)) dX12_reckons_75 ?_
            refine q_any (fun z_40 hz_40 => ?_)
            exact J_76 _ _ _ _ ⟨z_40, ⟨by omega, by omega⟩, rfl, h, (lv_sub hl_14 [1, 2, 3, 4, 0] rfl)⟩
          · replace c_38 := i_nle (x := 1000) (y := z_12) (show (1000 : Int32).toInt = 1000 by decide) rfl c_38
            refine lv_iload hx hb dX12_reckons_60 (lv_at hl_14 0 rfl) ?_
            refine lv_goto (tgt := 76) hx hb dX12_reckons_62 (by decide) ?_
            exact J_76 _ _ _ _ ⟨z_12, ⟨by omega, by omega⟩, rfl, h, (lv_sub hl_14 [1, 2, 3, 4, 0] rfl)⟩
