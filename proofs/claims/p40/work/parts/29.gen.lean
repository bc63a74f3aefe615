def wk_a2686efad (cy : Nat → ClassId) (a0 : Nat) (a1 : Int32) (a2 : Nat) (a3 a4 a5 : Value) (a6 a7 a8 a9 a10 a11 a12 a13 a14 a15 a16 : Int32) (a17 a18 a19 a20 a21 : Nat) (a22 a23 : Int32) (a24 : Nat) (a25 a26 : Value) (a27 a28 : Int32) (a29 a30 a31 a32 a33 : Value) (a34 : Int32) (a35 a36 a37 a38 : Nat) (a39 : Nat → Int32) (a40 : Nat) (a41 : Nat → Int32) (a42 : Nat) (a43 : Nat → Int32) (a44 : Nat) (a45 : Nat → Int32) (a46 : Nat) (a47 : Nat → Int32) (a48 : Nat) (a49 : Nat → Int32) (a50 : Nat) (a51 : Nat → Int32) (a52 : Nat) (a53 : Nat → Int32) (a54 : Nat) (a55 : Nat → Int32) (a56 : Nat) (a57 : Nat → Int64) : va_W := [(a0, .inr (12, [.int a1, .ref a2, a3, a4, a5, .int a6, .int a7, .int a8, .int a9, .int a10, .int a11, .int a12, .int a13, .int a14, .int a15, .int a16, .ref a17, .ref a18, .ref a19, .ref a20, .ref a21, .int a22, .int a23, .ref a24, a25, a26, .int a27, .int a28, a29, a30, a31, a32, a33, .int a34, .ref a35, .ref a36, .ref a37])), (a38, .inl (cy 1, 3918, .inl a39)), (a40, .inl (cy 1, 900, .inl a41)), (a42, .inl (cy 1, 11, .inl a43)), (a44, .inl (cy 1, 3, .inl a45)), (a46, .inl (cy 1, 10, .inl a47)), (a48, .inl (cy 1, 32, .inl a49)), (a50, .inl (cy 1, 1024, .inl a51)), (a52, .inl (cy 1, 4, .inl a53)), (a54, .inl (cy 1, 4, .inl a55)), (a56, .inl (cy 2, 160, .inr (.inl a57)))]
def wk_4a85b29b6 (cy : Nat → ClassId) (a0 : Nat) (a1 : Nat → Int32) (a2 : Nat) (a3 : Nat → Int32) (a4 : Nat) (a5 : Nat → Int32) (a6 : Nat) (a7 : Nat → Int32) (a8 : Nat) (a9 : Nat → Int64) (a10 : Nat) (a11 : Int32) (a12 : Nat) (a13 a14 a15 : Value) (a16 a17 a18 a19 a20 a21 a22 a23 a24 a25 a26 : Int32) (a27 a28 a29 a30 a31 : Nat) (a32 a33 : Int32) (a34 : Nat) (a35 a36 : Value) (a37 a38 : Int32) (a39 a40 a41 a42 a43 : Value) (a44 : Int32) (a45 a46 a47 a48 : Nat) (a49 : Nat → Int32) (a50 : Nat) (a51 : Nat → Int32) (a52 : Nat) (a53 : Nat → Int32) (a54 : Nat) (a55 : Nat → Int32) (a56 : Nat) (a57 : Nat → Int32) : va_W := [(a0, .inl (cy 1, 4, .inl a1)), (a2, .inl (cy 1, 32, .inl a3)), (a4, .inl (cy 1, 3, .inl a5)), (a6, .inl (cy 1, 4, .inl a7)), (a8, .inl (cy 2, 160, .inr (.inl a9))), (a10, .inr (12, [.int a11, .ref a12, a13, a14, a15, .int a16, .int a17, .int a18, .int a19, .int a20, .int a21, .int a22, .int a23, .int a24, .int a25, .int a26, .ref a27, .ref a28, .ref a29, .ref a30, .ref a31, .int a32, .int a33, .ref a34, a35, a36, .int a37, .int a38, a39, a40, a41, a42, a43, .int a44, .ref a45, .ref a46, .ref a47])), (a48, .inl (cy 1, 3918, .inl a49)), (a50, .inl (cy 1, 900, .inl a51)), (a52, .inl (cy 1, 11, .inl a53)), (a54, .inl (cy 1, 10, .inl a55)), (a56, .inl (cy 1, 1024, .inl a57))]
def wk_ec32a311a (cy : Nat → ClassId) (a0 : Nat) (a1 : Nat → Int32) (a2 : Nat) (a3 : Nat → Int32) (a4 : Nat) (a5 : Nat → Int32) (a6 : Nat) (a7 : Nat → Int64) (a8 : Nat) (a9 : Nat → Int32) (a10 : Nat) (a11 : Nat → Int32) (a12 : Nat) (a13 : Nat → Int32) (a14 : Nat) (a15 : Nat → Int32) (a16 : Nat) (a17 : Int32) (a18 : Nat) (a19 a20 a21 : Value) (a22 a23 a24 a25 a26 a27 a28 a29 a30 a31 a32 : Int32) (a33 a34 a35 a36 a37 : Nat) (a38 a39 : Int32) (a40 : Nat) (a41 a42 : Value) (a43 a44 : Int32) (a45 a46 a47 a48 a49 : Value) (a50 : Int32) (a51 a52 a53 a54 : Nat) (a55 : Nat → Int32) (a56 : Nat) (a57 : Nat → Int32) : va_W := [(a0, .inl (cy 1, 4, .inl a1)), (a2, .inl (cy 1, 3, .inl a3)), (a4, .inl (cy 1, 4, .inl a5)), (a6, .inl (cy 2, 160, .inr (.inl a7))), (a8, .inl (cy 1, 900, .inl a9)), (a10, .inl (cy 1, 11, .inl a11)), (a12, .inl (cy 1, 10, .inl a13)), (a14, .inl (cy 1, 1024, .inl a15)), (a16, .inr (12, [.int a17, .ref a18, a19, a20, a21, .int a22, .int a23, .int a24, .int a25, .int a26, .int a27, .int a28, .int a29, .int a30, .int a31, .int a32, .ref a33, .ref a34, .ref a35, .ref a36, .ref a37, .int a38, .int a39, .ref a40, a41, a42, .int a43, .int a44, a45, a46, a47, a48, a49, .int a50, .ref a51, .ref a52, .ref a53])), (a54, .inl (cy 1, 3918, .inl a55)), (a56, .inl (cy 1, 32, .inl a57))]
def wk_de5320454 (cy : Nat → ClassId) (a0 : Nat) (a1 : Int32) (a2 : Nat) (a3 a4 a5 : Value) (a6 a7 a8 a9 a10 a11 a12 a13 a14 a15 a16 : Int32) (a17 a18 a19 : Nat) (a20 : Value) (a21 : Nat) (a22 a23 : Int32) (a24 a25 a26 : Value) (a27 a28 : Int32) (a29 a30 a31 a32 a33 : Value) (a34 : Int32) (a35 a36 a37 a38 : Nat) (a39 : Nat → Int32) (a40 : Nat) (a41 : Nat → Int32) (a42 : Nat) (a43 : Nat → Int32) (a44 : Nat) (a45 : Nat → Int32) (a46 : Nat) (a47 : Nat → Int32) (a48 : Nat) (a49 : Nat → Int32) (a50 : Nat) (a51 : Nat → Int32) (a52 : Nat) (a53 : Nat → Int64) : va_W := [(a0, .inr (12, [.int a1, .ref a2, a3, a4, a5, .int a6, .int a7, .int a8, .int a9, .int a10, .int a11, .int a12, .int a13, .int a14, .int a15, .int a16, .ref a17, .ref a18, .ref a19, a20, .ref a21, .int a22, .int a23, a24, a25, a26, .int a27, .int a28, a29, a30, a31, a32, a33, .int a34, .ref a35, .ref a36, .ref a37])), (a38, .inl (cy 1, 3918, .inl a39)), (a40, .inl (cy 1, 900, .inl a41)), (a42, .inl (cy 1, 11, .inl a43)), (a44, .inl (cy 1, 3, .inl a45)), (a46, .inl (cy 1, 32, .inl a47)), (a48, .inl (cy 1, 4, .inl a49)), (a50, .inl (cy 1, 4, .inl a51)), (a52, .inl (cy 2, 160, .inr (.inl a53)))]
def wk_ec84e3810 (cy : Nat → ClassId) (a0 : Nat) (a1 : Nat → Int32) (a2 : Nat) (a3 : Nat → Int32) (a4 : Nat) (a5 : Int32) (a6 : Nat) (a7 a8 a9 : Value) (a10 a11 a12 a13 a14 a15 a16 a17 a18 a19 a20 : Int32) (a21 a22 a23 : Nat) (a24 : Value) (a25 : Nat) (a26 a27 : Int32) (a28 a29 a30 : Value) (a31 a32 : Int32) (a33 a34 a35 a36 a37 : Value) (a38 : Int32) (a39 a40 a41 a42 : Nat) (a43 : Nat → Int32) (a44 : Nat) (a45 : Nat → Int32) (a46 : Nat) (a47 : Nat → Int32) (a48 : Nat) (a49 : Nat → Int32) (a50 : Nat) (a51 : Nat → Int32) (a52 : Nat) (a53 : Nat → Int64) : va_W := [(a0, .inl (cy 1, 4, .inl a1)), (a2, .inl (cy 1, 32, .inl a3)), (a4, .inr (12, [.int a5, .ref a6, a7, a8, a9, .int a10, .int a11, .int a12, .int a13, .int a14, .int a15, .int a16, .int a17, .int a18, .int a19, .int a20, .ref a21, .ref a22, .ref a23, a24, .ref a25, .int a26, .int a27, a28, a29, a30, .int a31, .int a32, a33, a34, a35, a36, a37, .int a38, .ref a39, .ref a40, .ref a41])), (a42, .inl (cy 1, 3918, .inl a43)), (a44, .inl (cy 1, 900, .inl a45)), (a46, .inl (cy 1, 11, .inl a47)), (a48, .inl (cy 1, 3, .inl a49)), (a50, .inl (cy 1, 4, .inl a51)), (a52, .inl (cy 2, 160, .inr (.inl a53)))]
def wk_1ed1fcc35 (cy : Nat → ClassId) (a0 : Nat) (a1 : Nat → Int32) (a2 : Nat) (a3 : Nat → Int32) (a4 : Nat) (a5 : Nat → Int32) (a6 : Nat) (a7 : Nat → Int32) : va_W := [(a0, .inl (cy 1, 900, .inl a1)), (a2, .inl (cy 1, 11, .inl a3)), (a4, .inl (cy 1, 10, .inl a5)), (a6, .inl (cy 1, 1024, .inl a7))]
def wk_143caa1ee (cy : Nat → ClassId) (a0 : Nat) (a1 : Nat → Int32) (a2 : Nat) (a3 : Nat → Int32) (a4 : Nat) (a5 : Nat → Int32) (a6 : Nat) (a7 : Nat → Int32) (a8 : Nat) (a9 : Int32) (a10 : Nat) (a11 a12 a13 : Value) (a14 a15 a16 a17 a18 a19 a20 a21 a22 a23 a24 : Int32) (a25 a26 : Nat) (a27 : Value) (a28 : Nat) (a29 : Value) (a30 a31 : Int32) (a32 : Nat) (a33 a34 : Value) (a35 a36 : Int32) (a37 a38 a39 a40 a41 : Value) (a42 : Int32) (a43 a44 a45 : Value) (a46 : Nat) (a47 : Nat → Int32) : va_W := [(a0, .inl (cy 1, 900, .inl a1)), (a2, .inl (cy 1, 11, .inl a3)), (a4, .inl (cy 1, 10, .inl a5)), (a6, .inl (cy 1, 1024, .inl a7)), (a8, .inr (12, [.int a9, .ref a10, a11, a12, a13, .int a14, .int a15, .int a16, .int a17, .int a18, .int a19, .int a20, .int a21, .int a22, .int a23, .int a24, .ref a25, .ref a26, a27, .ref a28, a29, .int a30, .int a31, .ref a32, a33, a34, .int a35, .int a36, a37, a38, a39, a40, a41, .int a42, a43, a44, a45])), (a46, .inl (cy 1, 3918, .inl a47))]
def wk_c2316df04 (cy : Nat → ClassId) (a0 : Nat) (a1 : Int32) (a2 a3 a4 a5 : Value) (a6 a7 a8 a9 a10 a11 a12 a13 a14 a15 a16 : Int32) (a17 a18 a19 a20 a21 : Value) (a22 a23 : Int32) (a24 : Value) (a25 a26 : Nat) (a27 a28 : Int32) (a29 a30 a31 a32 a33 : Value) (a34 : Int32) (a35 a36 a37 : Value) (a38 : Nat) (a39 : Nat → Int32) (a40 : Nat) (a41 : Nat → Int32) : va_W := [(a0, .inr (12, [.int a1, a2, a3, a4, a5, .int a6, .int a7, .int a8, .int a9, .int a10, .int a11, .int a12, .int a13, .int a14, .int a15, .int a16, a17, a18, a19, a20, a21, .int a22, .int a23, a24, .ref a25, .ref a26, .int a27, .int a28, a29, a30, a31, a32, a33, .int a34, a35, a36, a37])), (a38, .inl (cy 1, 10, .inl a39)), (a40, .inl (cy 1, 10, .inl a41))]
def wk_f147cc4b8 (cy : Nat → ClassId) (a0 : Nat) (a1 : Int32) (a2 : Nat) (a3 a4 a5 : Value) (a6 a7 a8 a9 a10 a11 a12 a13 a14 a15 a16 : Int32) (a17 a18 a19 : Value) (a20 : Nat) (a21 : Value) (a22 a23 : Int32) (a24 : Value) (a25 a26 : Nat) (a27 a28 : Int32) (a29 a30 a31 a32 a33 : Value) (a34 : Int32) (a35 a36 a37 : Value) (a38 : Nat) (a39 : Nat → Int32) (a40 : Nat) (a41 : Nat → Int32) (a42 : Nat) (a43 : Nat → Int32) (a44 : Nat) (a45 : Nat → Int32) : va_W := [(a0, .inr (12, [.int a1, .ref a2, a3, a4, a5, .int a6, .int a7, .int a8, .int a9, .int a10, .int a11, .int a12, .int a13, .int a14, .int a15, .int a16, a17, a18, a19, .ref a20, a21, .int a22, .int a23, a24, .ref a25, .ref a26, .int a27, .int a28, a29, a30, a31, a32, a33, .int a34, a35, a36, a37])), (a38, .inl (cy 1, 3918, .inl a39)), (a40, .inl (cy 1, 10, .inl a41)), (a42, .inl (cy 1, 10, .inl a43)), (a44, .inl (cy 1, 10, .inl a45))]
def wk_d2b1692f1 (cy : Nat → ClassId) (a0 : Nat) (a1 : Nat → Int32) (a2 : Nat) (a3 : Nat → Int32) : va_W := [(a0, .inl (cy 1, 3918, .inl a1)), (a2, .inl (cy 1, 10, .inl a3))]
def wk_5e3f1f655 (cy : Nat → ClassId) (a0 : Nat) (a1 : Nat → Int32) (a2 : Nat) (a3 : Nat → Int32) (a4 : Nat) (a5 : Int32) (a6 : Nat) (a7 a8 a9 : Value) (a10 a11 a12 a13 a14 a15 a16 a17 a18 a19 a20 : Int32) (a21 a22 a23 : Value) (a24 : Nat) (a25 : Value) (a26 a27 : Int32) (a28 : Value) (a29 a30 : Nat) (a31 a32 : Int32) (a33 a34 a35 a36 a37 : Value) (a38 : Int32) (a39 a40 a41 : Value) (a42 : Nat) (a43 : Nat → Int32) (a44 : Nat) (a45 : Nat → Int32) : va_W := [(a0, .inl (cy 1, 3918, .inl a1)), (a2, .inl (cy 1, 10, .inl a3)), (a4, .inr (12, [.int a5, .ref a6, a7, a8, a9, .int a10, .int a11, .int a12, .int a13, .int a14, .int a15, .int a16, .int a17, .int a18, .int a19, .int a20, a21, a22, a23, .ref a24, a25, .int a26, .int a27, a28, .ref a29, .ref a30, .int a31, .int a32, a33, a34, a35, a36, a37, .int a38, a39, a40, a41])), (a42, .inl (cy 1, 10, .inl a43)), (a44, .inl (cy 1, 10, .inl a45))]
theorem wm_7_30 : Cond.methodLink RX12 313 yX12_noTray ∈ WG := wg_t7 (List.mem_of_getElem? (i := 30) rfl) rfl
theorem wm_7_33 : Cond.code yX12_noTray cX12_noTray 2 (some .int) ∈ WG := wg_t7 (List.mem_of_getElem? (i := 33) rfl) rfl
theorem wm_7_32 : Cond.instanceMethod yX12_noTray ∈ WG := wg_t7 (List.mem_of_getElem? (i := 32) rfl) rfl
theorem wp_6_6 : Cond.selects RX12 yX12_noTray yX12_noTray ∈ WG := wg_p (q := (yX12_noTray, 37)) (wg_p6 (List.mem_of_getElem? (i := 6) rfl)) rfl
theorem wm_7_34 : Cond.methodLink RX12 316 yX12_tells ∈ WG := wg_t7 (List.mem_of_getElem? (i := 34) rfl) rfl
theorem wm_7_37 : Cond.code yX12_tells cX12_tells 3 (some .int) ∈ WG := wg_t7 (List.mem_of_getElem? (i := 37) rfl) rfl
theorem wm_7_36 : Cond.instanceMethod yX12_tells ∈ WG := wg_t7 (List.mem_of_getElem? (i := 36) rfl) rfl
theorem wp_6_7 : Cond.selects RX12 yX12_tells yX12_tells ∈ WG := wg_p (q := (yX12_tells, 37)) (wg_p6 (List.mem_of_getElem? (i := 7) rfl)) rfl
theorem wm_7_55 : Cond.methodLink RX12 346 yX12_laysNow ∈ WG := wg_t7 (List.mem_of_getElem? (i := 55) rfl) rfl
theorem wm_7_58 : Cond.code yX12_laysNow cX12_laysNow 1 none ∈ WG := wg_t7 (List.mem_of_getElem? (i := 58) rfl) rfl
theorem wm_7_57 : Cond.instanceMethod yX12_laysNow ∈ WG := wg_t7 (List.mem_of_getElem? (i := 57) rfl) rfl
theorem wp_6_11 : Cond.selects RX12 yX12_laysNow yX12_laysNow ∈ WG := wg_p (q := (yX12_laysNow, 37)) (wg_p6 (List.mem_of_getElem? (i := 11) rfl)) rfl
theorem wm_7_51 : Cond.methodLink RX12 319 yX12_sitsNow ∈ WG := wg_t7 (List.mem_of_getElem? (i := 51) rfl) rfl
theorem wm_7_54 : Cond.code yX12_sitsNow cX12_sitsNow 2 (some .boolean) ∈ WG := wg_t7 (List.mem_of_getElem? (i := 54) rfl) rfl
theorem wm_7_53 : Cond.instanceMethod yX12_sitsNow ∈ WG := wg_t7 (List.mem_of_getElem? (i := 53) rfl) rfl
theorem wp_6_10 : Cond.selects RX12 yX12_sitsNow yX12_sitsNow ∈ WG := wg_p (q := (yX12_sitsNow, 37)) (wg_p6 (List.mem_of_getElem? (i := 10) rfl)) rfl
theorem wm_7_70 : Cond.methodLink RX12 322 yX12_isAgain ∈ WG := wg_t7 (List.mem_of_getElem? (i := 70) rfl) rfl
theorem wm_7_73 : Cond.code yX12_isAgain cX12_isAgain 2 none ∈ WG := wg_t7 (List.mem_of_getElem? (i := 73) rfl) rfl
theorem wm_7_72 : Cond.instanceMethod yX12_isAgain ∈ WG := wg_t7 (List.mem_of_getElem? (i := 72) rfl) rfl
theorem wp_6_14 : Cond.selects RX12 yX12_isAgain yX12_isAgain ∈ WG := wg_p (q := (yX12_isAgain, 37)) (wg_p6 (List.mem_of_getElem? (i := 14) rfl)) rfl
theorem wm_7_82 : Cond.constantLong RX12 332 (40) ∈ WG := wg_t7 (List.mem_of_getElem? (i := 82) rfl) rfl
theorem wm_5_192 : Cond.fieldLink RX12 326 "OppositeHouseModel" "x" "I" ∈ WG := wg_t5 (List.mem_of_getElem? (i := 192) rfl) rfl
theorem wm_7_91 : Cond.constant RX12 325 (1103515245) ∈ WG := wg_t7 (List.mem_of_getElem? (i := 91) rfl) rfl
theorem wm_7_87 : Cond.methodLink RX12 329 yX12_draw ∈ WG := wg_t7 (List.mem_of_getElem? (i := 87) rfl) rfl
theorem wm_7_90 : Cond.code yX12_draw cX12_draw 2 (some .int) ∈ WG := wg_t7 (List.mem_of_getElem? (i := 90) rfl) rfl
theorem wm_7_89 : Cond.instanceMethod yX12_draw ∈ WG := wg_t7 (List.mem_of_getElem? (i := 89) rfl) rfl
theorem wp_7_0 : Cond.selects RX12 yX12_draw yX12_draw ∈ WG := wg_p (q := (yX12_draw, 37)) (wg_p7 (List.mem_of_getElem? (i := 0) rfl)) rfl
theorem wm_7_83 : Cond.methodLink RX12 334 yX12_drawn ∈ WG := wg_t7 (List.mem_of_getElem? (i := 83) rfl) rfl
theorem wm_7_86 : Cond.code yX12_drawn cX12_drawn 3 (some .int) ∈ WG := wg_t7 (List.mem_of_getElem? (i := 86) rfl) rfl
theorem wm_7_85 : Cond.instanceMethod yX12_drawn ∈ WG := wg_t7 (List.mem_of_getElem? (i := 85) rfl) rfl
theorem wp_6_15 : Cond.selects RX12 yX12_drawn yX12_drawn ∈ WG := wg_p (q := (yX12_drawn, 37)) (wg_p6 (List.mem_of_getElem? (i := 15) rfl)) rfl
theorem wm_7_100 : Cond.methodLink RX12 217 yX12_everybody ∈ WG := wg_t7 (List.mem_of_getElem? (i := 100) rfl) rfl
theorem wm_7_103 : Cond.code yX12_everybody cX12_everybody 1 (some .int) ∈ WG := wg_t7 (List.mem_of_getElem? (i := 103) rfl) rfl
theorem wm_7_102 : Cond.instanceMethod yX12_everybody ∈ WG := wg_t7 (List.mem_of_getElem? (i := 102) rfl) rfl
theorem wp_7_2 : Cond.selects RX12 yX12_everybody yX12_everybody ∈ WG := wg_p (q := (yX12_everybody, 37)) (wg_p7 (List.mem_of_getElem? (i := 2) rfl)) rfl
theorem wm_7_96 : Cond.methodLink RX12 349 yX12_isSet ∈ WG := wg_t7 (List.mem_of_getElem? (i := 96) rfl) rfl
theorem wm_7_99 : Cond.code yX12_isSet cX12_isSet 2 (some .boolean) ∈ WG := wg_t7 (List.mem_of_getElem? (i := 99) rfl) rfl
theorem wm_7_98 : Cond.instanceMethod yX12_isSet ∈ WG := wg_t7 (List.mem_of_getElem? (i := 98) rfl) rfl
theorem wp_7_1 : Cond.selects RX12 yX12_isSet yX12_isSet ∈ WG := wg_p (q := (yX12_isSet, 37)) (wg_p7 (List.mem_of_getElem? (i := 1) rfl)) rfl
theorem wm_5_196 : Cond.fieldLink RX12 352 "OppositeHouseModel" "bestTwos" "I" ∈ WG := wg_t5 (List.mem_of_getElem? (i := 196) rfl) rfl
theorem wm_5_197 : Cond.fieldLink RX12 355 "OppositeHouseModel" "bestWeight" "I" ∈ WG := wg_t5 (List.mem_of_getElem? (i := 197) rfl) rfl
theorem wm_5_194 : Cond.fieldLink RX12 48 "OppositeHouseModel" "with" "[I" ∈ WG := wg_t5 (List.mem_of_getElem? (i := 194) rfl) rfl
theorem wm_5_195 : Cond.fieldLink RX12 51 "OppositeHouseModel" "bestWith" "[I" ∈ WG := wg_t5 (List.mem_of_getElem? (i := 195) rfl) rfl
theorem wm_7_116 : Cond.methodLink RX12 358 yX12_goesPairs ∈ WG := wg_t7 (List.mem_of_getElem? (i := 116) rfl) rfl
theorem wm_7_119 : Cond.code yX12_goesPairs cX12_goesPairs 7 none ∈ WG := wg_t7 (List.mem_of_getElem? (i := 119) rfl) rfl
theorem wm_7_118 : Cond.instanceMethod yX12_goesPairs ∈ WG := wg_t7 (List.mem_of_getElem? (i := 118) rfl) rfl
theorem wp_7_4 : Cond.selects RX12 yX12_goesPairs yX12_goesPairs ∈ WG := wg_p (q := (yX12_goesPairs, 37)) (wg_p7 (List.mem_of_getElem? (i := 4) rfl)) rfl
theorem hd_X12_noTray : yX12_noTray.cls ≠ "java/lang/invoke/MethodHandle" ∧ yX12_noTray.cls ≠ "java/lang/invoke/VarHandle" ∧ (parseMethodDescriptor yX12_noTray.desc).map (fun d => d.parameters.length) = some 1 := by decide +kernel
theorem hd_X12_tells : yX12_tells.cls ≠ "java/lang/invoke/MethodHandle" ∧ yX12_tells.cls ≠ "java/lang/invoke/VarHandle" ∧ (parseMethodDescriptor yX12_tells.desc).map (fun d => d.parameters.length) = some 1 := by decide +kernel
theorem hd_X12_laysNow : yX12_laysNow.cls ≠ "java/lang/invoke/MethodHandle" ∧ yX12_laysNow.cls ≠ "java/lang/invoke/VarHandle" ∧ (parseMethodDescriptor yX12_laysNow.desc).map (fun d => d.parameters.length) = some 0 := by decide +kernel
theorem hd_X12_sitsNow : yX12_sitsNow.cls ≠ "java/lang/invoke/MethodHandle" ∧ yX12_sitsNow.cls ≠ "java/lang/invoke/VarHandle" ∧ (parseMethodDescriptor yX12_sitsNow.desc).map (fun d => d.parameters.length) = some 1 := by decide +kernel
theorem hd_X12_isAgain : yX12_isAgain.cls ≠ "java/lang/invoke/MethodHandle" ∧ yX12_isAgain.cls ≠ "java/lang/invoke/VarHandle" ∧ (parseMethodDescriptor yX12_isAgain.desc).map (fun d => d.parameters.length) = some 0 := by decide +kernel
theorem hd_X12_draw : yX12_draw.cls ≠ "java/lang/invoke/MethodHandle" ∧ yX12_draw.cls ≠ "java/lang/invoke/VarHandle" ∧ (parseMethodDescriptor yX12_draw.desc).map (fun d => d.parameters.length) = some 1 := by decide +kernel
theorem hd_X12_drawn : yX12_drawn.cls ≠ "java/lang/invoke/MethodHandle" ∧ yX12_drawn.cls ≠ "java/lang/invoke/VarHandle" ∧ (parseMethodDescriptor yX12_drawn.desc).map (fun d => d.parameters.length) = some 0 := by decide +kernel
theorem hd_X12_everybody : yX12_everybody.cls ≠ "java/lang/invoke/MethodHandle" ∧ yX12_everybody.cls ≠ "java/lang/invoke/VarHandle" ∧ (parseMethodDescriptor yX12_everybody.desc).map (fun d => d.parameters.length) = some 0 := by decide +kernel
theorem hd_X12_isSet : yX12_isSet.cls ≠ "java/lang/invoke/MethodHandle" ∧ yX12_isSet.cls ≠ "java/lang/invoke/VarHandle" ∧ (parseMethodDescriptor yX12_isSet.desc).map (fun d => d.parameters.length) = some 1 := by decide +kernel
theorem hd_X12_goesPairs : yX12_goesPairs.cls ≠ "java/lang/invoke/MethodHandle" ∧ yX12_goesPairs.cls ≠ "java/lang/invoke/VarHandle" ∧ (parseMethodDescriptor yX12_goesPairs.desc).map (fun d => d.parameters.length) = some 3 := by decide +kernel
theorem dX12_draw_0 : decode cX12_draw 0 = .ok (.aload_n 0, 1) := by decide +kernel
theorem dX12_draw_1 : decode cX12_draw 1 = .ok (.ldc_w 325, 3) := by decide +kernel
theorem dX12_draw_4 : decode cX12_draw 4 = .ok (.aload_n 0, 1) := by decide +kernel
theorem dX12_draw_5 : decode cX12_draw 5 = .ok (.getfield 326, 3) := by decide +kernel
theorem dX12_draw_8 : decode cX12_draw 8 = .ok (.imul, 1) := by decide +kernel
theorem dX12_draw_9 : decode cX12_draw 9 = .ok (.sipush 12345, 3) := by decide +kernel
theorem dX12_draw_12 : decode cX12_draw 12 = .ok (.iadd, 1) := by decide +kernel
theorem dX12_draw_13 : decode cX12_draw 13 = .ok (.putfield 326, 3) := by decide +kernel
theorem dX12_draw_16 : decode cX12_draw 16 = .ok (.aload_n 0, 1) := by decide +kernel
theorem dX12_draw_17 : decode cX12_draw 17 = .ok (.getfield 326, 3) := by decide +kernel
theorem dX12_draw_20 : decode cX12_draw 20 = .ok (.bipush 16, 2) := by decide +kernel
theorem dX12_draw_22 : decode cX12_draw 22 = .ok (.iushr, 1) := by decide +kernel
theorem dX12_draw_23 : decode cX12_draw 23 = .ok (.iload_n 1, 1) := by decide +kernel
theorem dX12_draw_24 : decode cX12_draw 24 = .ok (.irem, 1) := by decide +kernel
theorem dX12_draw_25 : decode cX12_draw 25 = .ok (.ireturn, 1) := by decide +kernel
theorem dX12_drawn_0 : decode cX12_drawn 0 = .ok (.aload_n 0, 1) := by decide +kernel
theorem dX12_drawn_1 : decode cX12_drawn 1 = .ok (.iconst 4, 1) := by decide +kernel
theorem dX12_drawn_2 : decode cX12_drawn 2 = .ok (.invokevirtual 329, 3) := by decide +kernel
theorem dX12_drawn_5 : decode cX12_drawn 5 = .ok (.istore_n 1, 1) := by decide +kernel
theorem dX12_drawn_6 : decode cX12_drawn 6 = .ok (.iload_n 1, 1) := by decide +kernel
theorem dX12_drawn_7 : decode cX12_drawn 7 = .ok (.ifCond .ne 5, 3) := by decide +kernel
theorem dX12_drawn_10 : decode cX12_drawn 10 = .ok (.iconst (-1), 1) := by decide +kernel
theorem dX12_drawn_11 : decode cX12_drawn 11 = .ok (.ireturn, 1) := by decide +kernel
theorem dX12_drawn_12 : decode cX12_drawn 12 = .ok (.aload_n 0, 1) := by decide +kernel
theorem dX12_drawn_13 : decode cX12_drawn 13 = .ok (.bipush 10, 2) := by decide +kernel
theorem dX12_drawn_15 : decode cX12_drawn 15 = .ok (.invokevirtual 329, 3) := by decide +kernel
theorem dX12_drawn_18 : decode cX12_drawn 18 = .ok (.istore_n 2, 1) := by decide +kernel
theorem dX12_drawn_19 : decode cX12_drawn 19 = .ok (.iload_n 1, 1) := by decide +kernel
theorem dX12_drawn_20 : decode cX12_drawn 20 = .ok (.iconst 1, 1) := by decide +kernel
theorem dX12_drawn_21 : decode cX12_drawn 21 = .ok (.if_icmp .ne 17, 3) := by decide +kernel
theorem dX12_drawn_24 : decode cX12_drawn 24 = .ok (.bipush 10, 2) := by decide +kernel
theorem dX12_drawn_26 : decode cX12_drawn 26 = .ok (.iload_n 2, 1) := by decide +kernel
theorem dX12_drawn_27 : decode cX12_drawn 27 = .ok (.imul, 1) := by decide +kernel
theorem dX12_drawn_28 : decode cX12_drawn 28 = .ok (.aload_n 0, 1) := by decide +kernel
theorem dX12_drawn_29 : decode cX12_drawn 29 = .ok (.bipush 10, 2) := by decide +kernel
theorem dX12_drawn_31 : decode cX12_drawn 31 = .ok (.invokevirtual 329, 3) := by decide +kernel
theorem dX12_drawn_34 : decode cX12_drawn 34 = .ok (.iadd, 1) := by decide +kernel
theorem dX12_drawn_35 : decode cX12_drawn 35 = .ok (.goto 20, 3) := by decide +kernel
theorem dX12_drawn_38 : decode cX12_drawn 38 = .ok (.iload_n 1, 1) := by decide +kernel
theorem dX12_drawn_39 : decode cX12_drawn 39 = .ok (.iconst 2, 1) := by decide +kernel
theorem dX12_drawn_40 : decode cX12_drawn 40 = .ok (.if_icmp .ne 10, 3) := by decide +kernel
theorem dX12_drawn_43 : decode cX12_drawn 43 = .ok (.bipush 100, 2) := by decide +kernel
theorem dX12_drawn_45 : decode cX12_drawn 45 = .ok (.iload_n 2, 1) := by decide +kernel
theorem dX12_drawn_46 : decode cX12_drawn 46 = .ok (.iadd, 1) := by decide +kernel
theorem dX12_drawn_47 : decode cX12_drawn 47 = .ok (.goto 8, 3) := by decide +kernel
theorem dX12_drawn_50 : decode cX12_drawn 50 = .ok (.sipush 200, 3) := by decide +kernel
theorem dX12_drawn_53 : decode cX12_drawn 53 = .ok (.iload_n 2, 1) := by decide +kernel
theorem dX12_drawn_54 : decode cX12_drawn 54 = .ok (.iadd, 1) := by decide +kernel
theorem dX12_drawn_55 : decode cX12_drawn 55 = .ok (.ireturn, 1) := by decide +kernel
theorem dX12_everybody_0 : decode cX12_everybody 0 = .ok (.iconst 1, 1) := by decide +kernel
theorem dX12_everybody_1 : decode cX12_everybody 1 = .ok (.aload_n 0, 1) := by decide +kernel
theorem dX12_everybody_2 : decode cX12_everybody 2 = .ok (.getfield 13, 3) := by decide +kernel
theorem dX12_everybody_5 : decode cX12_everybody 5 = .ok (.iconst 2, 1) := by decide +kernel
theorem dX12_everybody_6 : decode cX12_everybody 6 = .ok (.iaload, 1) := by decide +kernel
theorem dX12_everybody_7 : decode cX12_everybody 7 = .ok (.ishl, 1) := by decide +kernel
theorem dX12_everybody_8 : decode cX12_everybody 8 = .ok (.iconst 1, 1) := by decide +kernel
theorem dX12_everybody_9 : decode cX12_everybody 9 = .ok (.isub, 1) := by decide +kernel
theorem dX12_everybody_10 : decode cX12_everybody 10 = .ok (.ireturn, 1) := by decide +kernel
theorem dX12_goesPairs_0 : decode cX12_goesPairs 0 = .ok (.iload_n 1, 1) := by decide +kernel
theorem dX12_goesPairs_1 : decode cX12_goesPairs 1 = .ok (.ifCond .ne 69, 3) := by decide +kernel
theorem dX12_goesPairs_4 : decode cX12_goesPairs 4 = .ok (.iload_n 2, 1) := by decide +kernel
theorem dX12_goesPairs_5 : decode cX12_goesPairs 5 = .ok (.aload_n 0, 1) := by decide +kernel
theorem dX12_goesPairs_6 : decode cX12_goesPairs 6 = .ok (.getfield 352, 3) := by decide +kernel
theorem dX12_goesPairs_9 : decode cX12_goesPairs 9 = .ok (.if_icmp .lt 19, 3) := by decide +kernel
theorem dX12_goesPairs_12 : decode cX12_goesPairs 12 = .ok (.iload_n 2, 1) := by decide +kernel
theorem dX12_goesPairs_13 : decode cX12_goesPairs 13 = .ok (.aload_n 0, 1) := by decide +kernel
theorem dX12_goesPairs_14 : decode cX12_goesPairs 14 = .ok (.getfield 352, 3) := by decide +kernel
theorem dX12_goesPairs_17 : decode cX12_goesPairs 17 = .ok (.if_icmp .ne 12, 3) := by decide +kernel
theorem dX12_goesPairs_20 : decode cX12_goesPairs 20 = .ok (.iload_n 3, 1) := by decide +kernel
theorem dX12_goesPairs_21 : decode cX12_goesPairs 21 = .ok (.aload_n 0, 1) := by decide +kernel
theorem dX12_goesPairs_22 : decode cX12_goesPairs 22 = .ok (.getfield 355, 3) := by decide +kernel
theorem dX12_goesPairs_25 : decode cX12_goesPairs 25 = .ok (.if_icmp .gt 4, 3) := by decide +kernel
theorem dX12_goesPairs_28 : decode cX12_goesPairs 28 = .ok (.return_, 1) := by decide +kernel
theorem dX12_goesPairs_29 : decode cX12_goesPairs 29 = .ok (.aload_n 0, 1) := by decide +kernel
theorem dX12_goesPairs_30 : decode cX12_goesPairs 30 = .ok (.iload_n 2, 1) := by decide +kernel
theorem dX12_goesPairs_31 : decode cX12_goesPairs 31 = .ok (.putfield 352, 3) := by decide +kernel
theorem dX12_goesPairs_34 : decode cX12_goesPairs 34 = .ok (.aload_n 0, 1) := by decide +kernel
theorem dX12_goesPairs_35 : decode cX12_goesPairs 35 = .ok (.iload_n 3, 1) := by decide +kernel
theorem dX12_goesPairs_36 : decode cX12_goesPairs 36 = .ok (.putfield 355, 3) := by decide +kernel
theorem dX12_goesPairs_39 : decode cX12_goesPairs 39 = .ok (.iconst 0, 1) := by decide +kernel
theorem dX12_goesPairs_40 : decode cX12_goesPairs 40 = .ok (.istore 4, 2) := by decide +kernel
theorem dX12_goesPairs_42 : decode cX12_goesPairs 42 = .ok (.iload 4, 2) := by decide +kernel
theorem dX12_goesPairs_44 : decode cX12_goesPairs 44 = .ok (.bipush 10, 2) := by decide +kernel
theorem dX12_goesPairs_46 : decode cX12_goesPairs 46 = .ok (.if_icmp .ge 23, 3) := by decide +kernel
theorem dX12_goesPairs_49 : decode cX12_goesPairs 49 = .ok (.aload_n 0, 1) := by decide +kernel
theorem dX12_goesPairs_50 : decode cX12_goesPairs 50 = .ok (.getfield 51, 3) := by decide +kernel
theorem dX12_goesPairs_53 : decode cX12_goesPairs 53 = .ok (.iload 4, 2) := by decide +kernel
theorem dX12_goesPairs_55 : decode cX12_goesPairs 55 = .ok (.aload_n 0, 1) := by decide +kernel
theorem dX12_goesPairs_56 : decode cX12_goesPairs 56 = .ok (.getfield 48, 3) := by decide +kernel
theorem dX12_goesPairs_59 : decode cX12_goesPairs 59 = .ok (.iload 4, 2) := by decide +kernel
theorem dX12_goesPairs_61 : decode cX12_goesPairs 61 = .ok (.iaload, 1) := by decide +kernel
theorem dX12_goesPairs_62 : decode cX12_goesPairs 62 = .ok (.iastore, 1) := by decide +kernel
theorem dX12_goesPairs_63 : decode cX12_goesPairs 63 = .ok (.iinc 4 1, 3) := by decide +kernel
theorem dX12_goesPairs_66 : decode cX12_goesPairs 66 = .ok (.goto (-24), 3) := by decide +kernel
theorem dX12_goesPairs_69 : decode cX12_goesPairs 69 = .ok (.return_, 1) := by decide +kernel
theorem dX12_goesPairs_70 : decode cX12_goesPairs 70 = .ok (.iload_n 1, 1) := by decide +kernel
theorem dX12_goesPairs_71 : decode cX12_goesPairs 71 = .ok (.invokestatic 337, 3) := by decide +kernel
theorem dX12_goesPairs_74 : decode cX12_goesPairs 74 = .ok (.istore 4, 2) := by decide +kernel
theorem dX12_goesPairs_76 : decode cX12_goesPairs 76 = .ok (.iload_n 1, 1) := by decide +kernel
theorem dX12_goesPairs_77 : decode cX12_goesPairs 77 = .ok (.iconst 1, 1) := by decide +kernel
theorem dX12_goesPairs_78 : decode cX12_goesPairs 78 = .ok (.iload 4, 2) := by decide +kernel
theorem dX12_goesPairs_80 : decode cX12_goesPairs 80 = .ok (.ishl, 1) := by decide +kernel
theorem dX12_goesPairs_81 : decode cX12_goesPairs 81 = .ok (.iconst (-1), 1) := by decide +kernel
theorem dX12_goesPairs_82 : decode cX12_goesPairs 82 = .ok (.ixor, 1) := by decide +kernel
theorem dX12_goesPairs_83 : decode cX12_goesPairs 83 = .ok (.iand, 1) := by decide +kernel
theorem dX12_goesPairs_84 : decode cX12_goesPairs 84 = .ok (.istore 5, 2) := by decide +kernel
theorem dX12_goesPairs_86 : decode cX12_goesPairs 86 = .ok (.iload 4, 2) := by decide +kernel
theorem dX12_goesPairs_88 : decode cX12_goesPairs 88 = .ok (.iconst 1, 1) := by decide +kernel
theorem dX12_goesPairs_89 : decode cX12_goesPairs 89 = .ok (.iadd, 1) := by decide +kernel
theorem dX12_goesPairs_90 : decode cX12_goesPairs 90 = .ok (.istore 6, 2) := by decide +kernel
theorem dX12_goesPairs_92 : decode cX12_goesPairs 92 = .ok (.iload 6, 2) := by decide +kernel
theorem dX12_goesPairs_94 : decode cX12_goesPairs 94 = .ok (.aload_n 0, 1) := by decide +kernel
theorem dX12_goesPairs_95 : decode cX12_goesPairs 95 = .ok (.getfield 13, 3) := by decide +kernel
theorem dX12_goesPairs_98 : decode cX12_goesPairs 98 = .ok (.iconst 2, 1) := by decide +kernel
theorem dX12_goesPairs_99 : decode cX12_goesPairs 99 = .ok (.iaload, 1) := by decide +kernel
theorem dX12_goesPairs_100 : decode cX12_goesPairs 100 = .ok (.if_icmp .ge 96, 3) := by decide +kernel
theorem dX12_goesPairs_103 : decode cX12_goesPairs 103 = .ok (.iload 5, 2) := by decide +kernel
theorem dX12_goesPairs_105 : decode cX12_goesPairs 105 = .ok (.aload_n 0, 1) := by decide +kernel
theorem dX12_goesPairs_106 : decode cX12_goesPairs 106 = .ok (.getfield 39, 3) := by decide +kernel
theorem dX12_goesPairs_109 : decode cX12_goesPairs 109 = .ok (.iload 4, 2) := by decide +kernel
theorem dX12_goesPairs_111 : decode cX12_goesPairs 111 = .ok (.iaload, 1) := by decide +kernel
theorem dX12_goesPairs_112 : decode cX12_goesPairs 112 = .ok (.iand, 1) := by decide +kernel
theorem dX12_goesPairs_113 : decode cX12_goesPairs 113 = .ok (.i2l, 1) := by decide +kernel
theorem dX12_goesPairs_114 : decode cX12_goesPairs 114 = .ok (.iload 6, 2) := by decide +kernel
theorem dX12_goesPairs_116 : decode cX12_goesPairs 116 = .ok (.invokestatic 251, 3) := by decide +kernel
theorem dX12_goesPairs_119 : decode cX12_goesPairs 119 = .ok (.ifCond .ne 6, 3) := by decide +kernel
theorem dX12_goesPairs_122 : decode cX12_goesPairs 122 = .ok (.goto 68, 3) := by decide +kernel
theorem dX12_goesPairs_125 : decode cX12_goesPairs 125 = .ok (.aload_n 0, 1) := by decide +kernel
theorem dX12_goesPairs_126 : decode cX12_goesPairs 126 = .ok (.getfield 48, 3) := by decide +kernel
theorem dX12_goesPairs_129 : decode cX12_goesPairs 129 = .ok (.iload 4, 2) := by decide +kernel
theorem dX12_goesPairs_131 : decode cX12_goesPairs 131 = .ok (.iload 6, 2) := by decide +kernel
theorem dX12_goesPairs_133 : decode cX12_goesPairs 133 = .ok (.iastore, 1) := by decide +kernel
theorem dX12_goesPairs_134 : decode cX12_goesPairs 134 = .ok (.aload_n 0, 1) := by decide +kernel
theorem dX12_goesPairs_135 : decode cX12_goesPairs 135 = .ok (.getfield 48, 3) := by decide +kernel
theorem dX12_goesPairs_138 : decode cX12_goesPairs 138 = .ok (.iload 6, 2) := by decide +kernel
theorem dX12_goesPairs_140 : decode cX12_goesPairs 140 = .ok (.iload 4, 2) := by decide +kernel
theorem dX12_goesPairs_142 : decode cX12_goesPairs 142 = .ok (.iastore, 1) := by decide +kernel
theorem dX12_goesPairs_143 : decode cX12_goesPairs 143 = .ok (.aload_n 0, 1) := by decide +kernel
theorem dX12_goesPairs_144 : decode cX12_goesPairs 144 = .ok (.iload 5, 2) := by decide +kernel
theorem dX12_goesPairs_146 : decode cX12_goesPairs 146 = .ok (.iconst 1, 1) := by decide +kernel
theorem dX12_goesPairs_147 : decode cX12_goesPairs 147 = .ok (.iload 6, 2) := by decide +kernel
theorem dX12_goesPairs_149 : decode cX12_goesPairs 149 = .ok (.ishl, 1) := by decide +kernel
theorem dX12_goesPairs_150 : decode cX12_goesPairs 150 = .ok (.iconst (-1), 1) := by decide +kernel
theorem dX12_goesPairs_151 : decode cX12_goesPairs 151 = .ok (.ixor, 1) := by decide +kernel
theorem dX12_goesPairs_152 : decode cX12_goesPairs 152 = .ok (.iand, 1) := by decide +kernel
theorem dX12_goesPairs_153 : decode cX12_goesPairs 153 = .ok (.iload_n 2, 1) := by decide +kernel
theorem dX12_goesPairs_154 : decode cX12_goesPairs 154 = .ok (.iconst 1, 1) := by decide +kernel
theorem dX12_goesPairs_155 : decode cX12_goesPairs 155 = .ok (.iadd, 1) := by decide +kernel
theorem dX12_goesPairs_156 : decode cX12_goesPairs 156 = .ok (.iload_n 3, 1) := by decide +kernel
theorem dX12_goesPairs_157 : decode cX12_goesPairs 157 = .ok (.aload_n 0, 1) := by decide +kernel
theorem dX12_goesPairs_158 : decode cX12_goesPairs 158 = .ok (.getfield 13, 3) := by decide +kernel
theorem dX12_goesPairs_161 : decode cX12_goesPairs 161 = .ok (.bipush 42, 2) := by decide +kernel
theorem dX12_goesPairs_163 : decode cX12_goesPairs 163 = .ok (.iload 4, 2) := by decide +kernel
theorem dX12_goesPairs_165 : decode cX12_goesPairs 165 = .ok (.iadd, 1) := by decide +kernel
theorem dX12_goesPairs_166 : decode cX12_goesPairs 166 = .ok (.iaload, 1) := by decide +kernel
theorem dX12_goesPairs_167 : decode cX12_goesPairs 167 = .ok (.iadd, 1) := by decide +kernel
theorem dX12_goesPairs_168 : decode cX12_goesPairs 168 = .ok (.aload_n 0, 1) := by decide +kernel
theorem dX12_goesPairs_169 : decode cX12_goesPairs 169 = .ok (.getfield 13, 3) := by decide +kernel
theorem dX12_goesPairs_172 : decode cX12_goesPairs 172 = .ok (.bipush 42, 2) := by decide +kernel
theorem dX12_goesPairs_174 : decode cX12_goesPairs 174 = .ok (.iload 6, 2) := by decide +kernel
theorem dX12_goesPairs_176 : decode cX12_goesPairs 176 = .ok (.iadd, 1) := by decide +kernel
theorem dX12_goesPairs_177 : decode cX12_goesPairs 177 = .ok (.iaload, 1) := by decide +kernel
theorem dX12_goesPairs_178 : decode cX12_goesPairs 178 = .ok (.iadd, 1) := by decide +kernel
theorem dX12_goesPairs_179 : decode cX12_goesPairs 179 = .ok (.invokevirtual 358, 3) := by decide +kernel
theorem dX12_goesPairs_182 : decode cX12_goesPairs 182 = .ok (.aload_n 0, 1) := by decide +kernel
theorem dX12_goesPairs_183 : decode cX12_goesPairs 183 = .ok (.getfield 48, 3) := by decide +kernel
theorem dX12_goesPairs_186 : decode cX12_goesPairs 186 = .ok (.iload 6, 2) := by decide +kernel
theorem dX12_goesPairs_188 : decode cX12_goesPairs 188 = .ok (.iconst (-1), 1) := by decide +kernel
theorem dX12_goesPairs_189 : decode cX12_goesPairs 189 = .ok (.iastore, 1) := by decide +kernel
theorem dX12_goesPairs_190 : decode cX12_goesPairs 190 = .ok (.iinc 6 1, 3) := by decide +kernel
theorem dX12_goesPairs_193 : decode cX12_goesPairs 193 = .ok (.goto (-101), 3) := by decide +kernel
theorem dX12_goesPairs_196 : decode cX12_goesPairs 196 = .ok (.aload_n 0, 1) := by decide +kernel
theorem dX12_goesPairs_197 : decode cX12_goesPairs 197 = .ok (.getfield 48, 3) := by decide +kernel
theorem dX12_goesPairs_200 : decode cX12_goesPairs 200 = .ok (.iload 4, 2) := by decide +kernel
theorem dX12_goesPairs_202 : decode cX12_goesPairs 202 = .ok (.iconst (-1), 1) := by decide +kernel
theorem dX12_goesPairs_203 : decode cX12_goesPairs 203 = .ok (.iastore, 1) := by decide +kernel
theorem dX12_goesPairs_204 : decode cX12_goesPairs 204 = .ok (.aload_n 0, 1) := by decide +kernel
theorem dX12_goesPairs_205 : decode cX12_goesPairs 205 = .ok (.iload 5, 2) := by decide +kernel
theorem dX12_goesPairs_207 : decode cX12_goesPairs 207 = .ok (.iload_n 2, 1) := by decide +kernel
theorem dX12_goesPairs_208 : decode cX12_goesPairs 208 = .ok (.iload_n 3, 1) := by decide +kernel
theorem dX12_goesPairs_209 : decode cX12_goesPairs 209 = .ok (.invokevirtual 358, 3) := by decide +kernel
theorem dX12_goesPairs_212 : decode cX12_goesPairs 212 = .ok (.return_, 1) := by decide +kernel
theorem dX12_isAgain_0 : decode cX12_isAgain 0 = .ok (.iconst 0, 1) := by decide +kernel
theorem dX12_isAgain_1 : decode cX12_isAgain 1 = .ok (.istore_n 1, 1) := by decide +kernel
theorem dX12_isAgain_2 : decode cX12_isAgain 2 = .ok (.iload_n 1, 1) := by decide +kernel
theorem dX12_isAgain_3 : decode cX12_isAgain 3 = .ok (.bipush 32, 2) := by decide +kernel
theorem dX12_isAgain_5 : decode cX12_isAgain 5 = .ok (.if_icmp .ge 24, 3) := by decide +kernel
theorem dX12_isAgain_8 : decode cX12_isAgain 8 = .ok (.aload_n 0, 1) := by decide +kernel
theorem dX12_isAgain_9 : decode cX12_isAgain 9 = .ok (.getfield 13, 3) := by decide +kernel
theorem dX12_isAgain_12 : decode cX12_isAgain 12 = .ok (.bipush 52, 2) := by decide +kernel
theorem dX12_isAgain_14 : decode cX12_isAgain 14 = .ok (.iload_n 1, 1) := by decide +kernel
theorem dX12_isAgain_15 : decode cX12_isAgain 15 = .ok (.iadd, 1) := by decide +kernel
theorem dX12_isAgain_16 : decode cX12_isAgain 16 = .ok (.aload_n 0, 1) := by decide +kernel
theorem dX12_isAgain_17 : decode cX12_isAgain 17 = .ok (.getfield 42, 3) := by decide +kernel
theorem dX12_isAgain_20 : decode cX12_isAgain 20 = .ok (.iload_n 1, 1) := by decide +kernel
theorem dX12_isAgain_21 : decode cX12_isAgain 21 = .ok (.iaload, 1) := by decide +kernel
theorem dX12_isAgain_22 : decode cX12_isAgain 22 = .ok (.iastore, 1) := by decide +kernel
theorem dX12_isAgain_23 : decode cX12_isAgain 23 = .ok (.iinc 1 1, 3) := by decide +kernel
theorem dX12_isAgain_26 : decode cX12_isAgain 26 = .ok (.goto (-24), 3) := by decide +kernel
theorem dX12_isAgain_29 : decode cX12_isAgain 29 = .ok (.return_, 1) := by decide +kernel
theorem dX12_isSet_0 : decode cX12_isSet 0 = .ok (.iload_n 1, 1) := by decide +kernel
theorem dX12_isSet_1 : decode cX12_isSet 1 = .ok (.aload_n 0, 1) := by decide +kernel
theorem dX12_isSet_2 : decode cX12_isSet 2 = .ok (.invokevirtual 217, 3) := by decide +kernel
theorem dX12_isSet_5 : decode cX12_isSet 5 = .ok (.iconst (-1), 1) := by decide +kernel
theorem dX12_isSet_6 : decode cX12_isSet 6 = .ok (.ixor, 1) := by decide +kernel
theorem dX12_isSet_7 : decode cX12_isSet 7 = .ok (.iand, 1) := by decide +kernel
theorem dX12_isSet_8 : decode cX12_isSet 8 = .ok (.ifCond .ne 7, 3) := by decide +kernel
theorem dX12_isSet_11 : decode cX12_isSet 11 = .ok (.iconst 1, 1) := by decide +kernel
theorem dX12_isSet_12 : decode cX12_isSet 12 = .ok (.goto 4, 3) := by decide +kernel
theorem dX12_isSet_15 : decode cX12_isSet 15 = .ok (.iconst 0, 1) := by decide +kernel
theorem dX12_isSet_16 : decode cX12_isSet 16 = .ok (.ireturn, 1) := by decide +kernel
theorem dX12_judge_0 : decode cX12_judge 0 = .ok (.aload_n 0, 1) := by decide +kernel
theorem dX12_judge_1 : decode cX12_judge 1 = .ok (.iconst 0, 1) := by decide +kernel
theorem dX12_judge_2 : decode cX12_judge 2 = .ok (.putfield 1, 3) := by decide +kernel
theorem dX12_judge_5 : decode cX12_judge 5 = .ok (.iload_n 2, 1) := by decide +kernel
theorem dX12_judge_6 : decode cX12_judge 6 = .ok (.i2l, 1) := by decide +kernel
theorem dX12_judge_7 : decode cX12_judge 7 = .ok (.lconst 0, 1) := by decide +kernel
theorem dX12_judge_8 : decode cX12_judge 8 = .ok (.ldc2_w 311, 3) := by decide +kernel
theorem dX12_judge_11 : decode cX12_judge 11 = .ok (.invokestatic 145, 3) := by decide +kernel
theorem dX12_judge_14 : decode cX12_judge 14 = .ok (.ifCond .ne 6, 3) := by decide +kernel
theorem dX12_judge_17 : decode cX12_judge 17 = .ok (.bipush (-2), 2) := by decide +kernel
theorem dX12_judge_19 : decode cX12_judge 19 = .ok (.ireturn, 1) := by decide +kernel
theorem dX12_judge_20 : decode cX12_judge 20 = .ok (.aload_n 0, 1) := by decide +kernel
theorem dX12_judge_21 : decode cX12_judge 21 = .ok (.iload_n 1, 1) := by decide +kernel
theorem dX12_judge_22 : decode cX12_judge 22 = .ok (.invokevirtual 313, 3) := by decide +kernel
theorem dX12_judge_25 : decode cX12_judge 25 = .ok (.istore_n 3, 1) := by decide +kernel
theorem dX12_judge_26 : decode cX12_judge 26 = .ok (.iload_n 3, 1) := by decide +kernel
theorem dX12_judge_27 : decode cX12_judge 27 = .ok (.ifCond .eq 5, 3) := by decide +kernel
theorem dX12_judge_30 : decode cX12_judge 30 = .ok (.iload_n 3, 1) := by decide +kernel
theorem dX12_judge_31 : decode cX12_judge 31 = .ok (.ireturn, 1) := by decide +kernel
theorem dX12_judge_32 : decode cX12_judge 32 = .ok (.aload_n 0, 1) := by decide +kernel
theorem dX12_judge_33 : decode cX12_judge 33 = .ok (.invokevirtual 267, 3) := by decide +kernel
theorem dX12_judge_36 : decode cX12_judge 36 = .ok (.aload_n 0, 1) := by decide +kernel
theorem dX12_judge_37 : decode cX12_judge 37 = .ok (.iload_n 1, 1) := by decide +kernel
theorem dX12_judge_38 : decode cX12_judge 38 = .ok (.invokevirtual 316, 3) := by decide +kernel
theorem dX12_judge_41 : decode cX12_judge 41 = .ok (.istore 4, 2) := by decide +kernel
theorem dX12_judge_43 : decode cX12_judge 43 = .ok (.aload_n 0, 1) := by decide +kernel
theorem dX12_judge_44 : decode cX12_judge 44 = .ok (.aload_n 0, 1) := by decide +kernel
theorem dX12_judge_45 : decode cX12_judge 45 = .ok (.invokevirtual 255, 3) := by decide +kernel
theorem dX12_judge_48 : decode cX12_judge 48 = .ok (.invokevirtual 319, 3) := by decide +kernel
theorem dX12_judge_51 : decode cX12_judge 51 = .ok (.ifCond .eq 7, 3) := by decide +kernel
theorem dX12_judge_54 : decode cX12_judge 54 = .ok (.iconst 1, 1) := by decide +kernel
theorem dX12_judge_55 : decode cX12_judge 55 = .ok (.goto 4, 3) := by decide +kernel
theorem dX12_judge_58 : decode cX12_judge 58 = .ok (.iconst 0, 1) := by decide +kernel
theorem dX12_judge_59 : decode cX12_judge 59 = .ok (.istore 5, 2) := by decide +kernel
theorem dX12_judge_61 : decode cX12_judge 61 = .ok (.aload_n 0, 1) := by decide +kernel
theorem dX12_judge_62 : decode cX12_judge 62 = .ok (.getfield 13, 3) := by decide +kernel
theorem dX12_judge_65 : decode cX12_judge 65 = .ok (.bipush 52, 2) := by decide +kernel
theorem dX12_judge_67 : decode cX12_judge 67 = .ok (.iaload, 1) := by decide +kernel
theorem dX12_judge_68 : decode cX12_judge 68 = .ok (.istore 6, 2) := by decide +kernel
theorem dX12_judge_70 : decode cX12_judge 70 = .ok (.aload_n 0, 1) := by decide +kernel
theorem dX12_judge_71 : decode cX12_judge 71 = .ok (.invokevirtual 322, 3) := by decide +kernel
theorem dX12_judge_74 : decode cX12_judge 74 = .ok (.iload_n 2, 1) := by decide +kernel
theorem dX12_judge_75 : decode cX12_judge 75 = .ok (.ifCond .ne 19, 3) := by decide +kernel
theorem dX12_judge_78 : decode cX12_judge 78 = .ok (.aload_n 0, 1) := by decide +kernel
theorem dX12_judge_79 : decode cX12_judge 79 = .ok (.getfield 301, 3) := by decide +kernel
theorem dX12_judge_82 : decode cX12_judge 82 = .ok (.ifCond .ne 7, 3) := by decide +kernel
theorem dX12_judge_85 : decode cX12_judge 85 = .ok (.iconst (-1), 1) := by decide +kernel
theorem dX12_judge_86 : decode cX12_judge 86 = .ok (.goto 32, 3) := by decide +kernel
theorem dX12_judge_89 : decode cX12_judge 89 = .ok (.iload 4, 2) := by decide +kernel
theorem dX12_judge_91 : decode cX12_judge 91 = .ok (.goto 27, 3) := by decide +kernel
theorem dX12_judge_94 : decode cX12_judge 94 = .ok (.iload_n 2, 1) := by decide +kernel
theorem dX12_judge_95 : decode cX12_judge 95 = .ok (.iconst 1, 1) := by decide +kernel
theorem dX12_judge_96 : decode cX12_judge 96 = .ok (.if_icmp .ne 10, 3) := by decide +kernel
theorem dX12_judge_99 : decode cX12_judge 99 = .ok (.aload_n 0, 1) := by decide +kernel
theorem dX12_judge_100 : decode cX12_judge 100 = .ok (.getfield 301, 3) := by decide +kernel
theorem dX12_judge_103 : decode cX12_judge 103 = .ok (.goto 15, 3) := by decide +kernel
theorem dX12_judge_106 : decode cX12_judge 106 = .ok (.iload_n 2, 1) := by decide +kernel
theorem dX12_judge_107 : decode cX12_judge 107 = .ok (.iconst 2, 1) := by decide +kernel
theorem dX12_judge_108 : decode cX12_judge 108 = .ok (.if_icmp .ne 8, 3) := by decide +kernel
theorem dX12_judge_111 : decode cX12_judge 111 = .ok (.iload 5, 2) := by decide +kernel
theorem dX12_judge_113 : decode cX12_judge 113 = .ok (.goto 5, 3) := by decide +kernel
theorem dX12_judge_116 : decode cX12_judge 116 = .ok (.iload 6, 2) := by decide +kernel
theorem dX12_judge_118 : decode cX12_judge 118 = .ok (.ireturn, 1) := by decide +kernel
theorem dX12_perform_0 : decode cX12_perform 0 = .ok (.aload_n 0, 1) := by decide +kernel
theorem dX12_perform_1 : decode cX12_perform 1 = .ok (.iconst 0, 1) := by decide +kernel
theorem dX12_perform_2 : decode cX12_perform 2 = .ok (.putfield 1, 3) := by decide +kernel
theorem dX12_perform_5 : decode cX12_perform 5 = .ok (.aload_n 0, 1) := by decide +kernel
theorem dX12_perform_6 : decode cX12_perform 6 = .ok (.iload_n 1, 1) := by decide +kernel
theorem dX12_perform_7 : decode cX12_perform 7 = .ok (.invokevirtual 313, 3) := by decide +kernel
theorem dX12_perform_10 : decode cX12_perform 10 = .ok (.istore_n 2, 1) := by decide +kernel
theorem dX12_perform_11 : decode cX12_perform 11 = .ok (.iload_n 2, 1) := by decide +kernel
theorem dX12_perform_12 : decode cX12_perform 12 = .ok (.ifCond .eq 5, 3) := by decide +kernel
theorem dX12_perform_15 : decode cX12_perform 15 = .ok (.iload_n 2, 1) := by decide +kernel
theorem dX12_perform_16 : decode cX12_perform 16 = .ok (.ireturn, 1) := by decide +kernel
theorem dX12_perform_17 : decode cX12_perform 17 = .ok (.aload_n 0, 1) := by decide +kernel
theorem dX12_perform_18 : decode cX12_perform 18 = .ok (.invokevirtual 267, 3) := by decide +kernel
theorem dX12_perform_21 : decode cX12_perform 21 = .ok (.aload_n 0, 1) := by decide +kernel
theorem dX12_perform_22 : decode cX12_perform 22 = .ok (.iload_n 1, 1) := by decide +kernel
theorem dX12_perform_23 : decode cX12_perform 23 = .ok (.invokevirtual 316, 3) := by decide +kernel
theorem dX12_perform_26 : decode cX12_perform 26 = .ok (.istore_n 3, 1) := by decide +kernel
theorem dX12_perform_27 : decode cX12_perform 27 = .ok (.iload_n 3, 1) := by decide +kernel
theorem dX12_perform_28 : decode cX12_perform 28 = .ok (.ifCond .le 7, 3) := by decide +kernel
theorem dX12_perform_31 : decode cX12_perform 31 = .ok (.aload_n 0, 1) := by decide +kernel
theorem dX12_perform_32 : decode cX12_perform 32 = .ok (.invokevirtual 274, 3) := by decide +kernel
theorem dX12_perform_35 : decode cX12_perform 35 = .ok (.iload_n 3, 1) := by decide +kernel
theorem dX12_perform_36 : decode cX12_perform 36 = .ok (.ireturn, 1) := by decide +kernel
theorem dX12_sits_0 : decode cX12_sits 0 = .ok (.aload_n 0, 1) := by decide +kernel
theorem dX12_sits_1 : decode cX12_sits 1 = .ok (.iconst 0, 1) := by decide +kernel
theorem dX12_sits_2 : decode cX12_sits 2 = .ok (.putfield 1, 3) := by decide +kernel
theorem dX12_sits_5 : decode cX12_sits 5 = .ok (.aload_n 0, 1) := by decide +kernel
theorem dX12_sits_6 : decode cX12_sits 6 = .ok (.iload_n 1, 1) := by decide +kernel
theorem dX12_sits_7 : decode cX12_sits 7 = .ok (.invokevirtual 349, 3) := by decide +kernel
theorem dX12_sits_10 : decode cX12_sits 10 = .ok (.ifCond .ne 8, 3) := by decide +kernel
theorem dX12_sits_13 : decode cX12_sits 13 = .ok (.bipush (-3), 2) := by decide +kernel
theorem dX12_sits_15 : decode cX12_sits 15 = .ok (.goto 16, 3) := by decide +kernel
theorem dX12_sits_18 : decode cX12_sits 18 = .ok (.aload_n 0, 1) := by decide +kernel
theorem dX12_sits_19 : decode cX12_sits 19 = .ok (.iload_n 1, 1) := by decide +kernel
theorem dX12_sits_20 : decode cX12_sits 20 = .ok (.invokevirtual 319, 3) := by decide +kernel
theorem dX12_sits_23 : decode cX12_sits 23 = .ok (.ifCond .eq 7, 3) := by decide +kernel
theorem dX12_sits_26 : decode cX12_sits 26 = .ok (.iconst 1, 1) := by decide +kernel
theorem dX12_sits_27 : decode cX12_sits 27 = .ok (.goto 4, 3) := by decide +kernel
theorem dX12_sits_30 : decode cX12_sits 30 = .ok (.iconst 0, 1) := by decide +kernel
theorem dX12_sits_31 : decode cX12_sits 31 = .ok (.ireturn, 1) := by decide +kernel
theorem dX12_sitsNow_0 : decode cX12_sitsNow 0 = .ok (.aload_n 0, 1) := by decide +kernel
theorem dX12_sitsNow_1 : decode cX12_sitsNow 1 = .ok (.invokevirtual 346, 3) := by decide +kernel
theorem dX12_sitsNow_4 : decode cX12_sitsNow 4 = .ok (.aload_n 0, 1) := by decide +kernel
theorem dX12_sitsNow_5 : decode cX12_sitsNow 5 = .ok (.getfield 45, 3) := by decide +kernel
theorem dX12_sitsNow_8 : decode cX12_sitsNow 8 = .ok (.iload_n 1, 1) := by decide +kernel
theorem dX12_sitsNow_9 : decode cX12_sitsNow 9 = .ok (.iaload, 1) := by decide +kernel
theorem dX12_sitsNow_10 : decode cX12_sitsNow 10 = .ok (.ifCond .le 7, 3) := by decide +kernel
theorem dX12_sitsNow_13 : decode cX12_sitsNow 13 = .ok (.iconst 1, 1) := by decide +kernel
theorem dX12_sitsNow_14 : decode cX12_sitsNow 14 = .ok (.goto 4, 3) := by decide +kernel
theorem dX12_sitsNow_17 : decode cX12_sitsNow 17 = .ok (.iconst 0, 1) := by decide +kernel
theorem dX12_sitsNow_18 : decode cX12_sitsNow 18 = .ok (.ireturn, 1) := by decide +kernel
theorem dX12_year_0 : decode cX12_year 0 = .ok (.aload_n 0, 1) := by decide +kernel
theorem dX12_year_1 : decode cX12_year 1 = .ok (.iconst 0, 1) := by decide +kernel
theorem dX12_year_2 : decode cX12_year 2 = .ok (.putfield 1, 3) := by decide +kernel
theorem dX12_year_5 : decode cX12_year 5 = .ok (.iload_n 2, 1) := by decide +kernel
theorem dX12_year_6 : decode cX12_year 6 = .ok (.i2l, 1) := by decide +kernel
theorem dX12_year_7 : decode cX12_year 7 = .ok (.lconst 1, 1) := by decide +kernel
theorem dX12_year_8 : decode cX12_year 8 = .ok (.ldc2_w 332, 3) := by decide +kernel
theorem dX12_year_11 : decode cX12_year 11 = .ok (.invokestatic 145, 3) := by decide +kernel
theorem dX12_year_14 : decode cX12_year 14 = .ok (.ifCond .ne 6, 3) := by decide +kernel
theorem dX12_year_17 : decode cX12_year 17 = .ok (.bipush (-3), 2) := by decide +kernel
theorem dX12_year_19 : decode cX12_year 19 = .ok (.ireturn, 1) := by decide +kernel
theorem dX12_year_20 : decode cX12_year 20 = .ok (.aload_n 0, 1) := by decide +kernel
theorem dX12_year_21 : decode cX12_year 21 = .ok (.invokevirtual 267, 3) := by decide +kernel
theorem dX12_year_24 : decode cX12_year 24 = .ok (.aload_n 0, 1) := by decide +kernel
theorem dX12_year_25 : decode cX12_year 25 = .ok (.iload_n 1, 1) := by decide +kernel
theorem dX12_year_26 : decode cX12_year 26 = .ok (.putfield 326, 3) := by decide +kernel
theorem dX12_year_29 : decode cX12_year 29 = .ok (.iconst 0, 1) := by decide +kernel
theorem dX12_year_30 : decode cX12_year 30 = .ok (.istore_n 3, 1) := by decide +kernel
theorem dX12_year_31 : decode cX12_year 31 = .ok (.iconst 0, 1) := by decide +kernel
theorem dX12_year_32 : decode cX12_year 32 = .ok (.istore 4, 2) := by decide +kernel
theorem dX12_year_34 : decode cX12_year 34 = .ok (.iload 4, 2) := by decide +kernel
theorem dX12_year_36 : decode cX12_year 36 = .ok (.iload_n 2, 1) := by decide +kernel
theorem dX12_year_37 : decode cX12_year 37 = .ok (.if_icmp .ge 37, 3) := by decide +kernel
theorem dX12_year_40 : decode cX12_year 40 = .ok (.aload_n 0, 1) := by decide +kernel
theorem dX12_year_41 : decode cX12_year 41 = .ok (.invokevirtual 334, 3) := by decide +kernel
theorem dX12_year_44 : decode cX12_year 44 = .ok (.istore 5, 2) := by decide +kernel
theorem dX12_year_46 : decode cX12_year 46 = .ok (.aload_n 0, 1) := by decide +kernel
theorem dX12_year_47 : decode cX12_year 47 = .ok (.iload 5, 2) := by decide +kernel
theorem dX12_year_49 : decode cX12_year 49 = .ok (.i2l, 1) := by decide +kernel
theorem dX12_year_50 : decode cX12_year 50 = .ok (.invokevirtual 304, 3) := by decide +kernel
theorem dX12_year_53 : decode cX12_year 53 = .ok (.ifCond .eq 6, 3) := by decide +kernel
theorem dX12_year_56 : decode cX12_year 56 = .ok (.goto 12, 3) := by decide +kernel
theorem dX12_year_59 : decode cX12_year 59 = .ok (.aload_n 0, 1) := by decide +kernel
theorem dX12_year_60 : decode cX12_year 60 = .ok (.iload 5, 2) := by decide +kernel
theorem dX12_year_62 : decode cX12_year 62 = .ok (.invokevirtual 308, 3) := by decide +kernel
theorem dX12_year_65 : decode cX12_year 65 = .ok (.iinc 3 1, 3) := by decide +kernel
theorem dX12_year_68 : decode cX12_year 68 = .ok (.iinc 4 1, 3) := by decide +kernel
theorem dX12_year_71 : decode cX12_year 71 = .ok (.goto (-37), 3) := by decide +kernel
theorem dX12_year_74 : decode cX12_year 74 = .ok (.iload_n 3, 1) := by decide +kernel
theorem dX12_year_75 : decode cX12_year 75 = .ok (.ifCond .le 7, 3) := by decide +kernel
theorem dX12_year_78 : decode cX12_year 78 = .ok (.aload_n 0, 1) := by decide +kernel
theorem dX12_year_79 : decode cX12_year 79 = .ok (.invokevirtual 274, 3) := by decide +kernel
theorem dX12_year_82 : decode cX12_year 82 = .ok (.iload_n 3, 1) := by decide +kernel
theorem dX12_year_83 : decode cX12_year 83 = .ok (.ireturn, 1) := by decide +kernel
set_option maxHeartbeats 4000000 in
set_option maxRecDepth 100000 in
theorem gX12_sitsNow_472ffcf (l : Launch) (D : va_G) (cy : Nat → ClassId) (h0 : Nat) (h1 : Nat) (h2 : Nat) (h3 : Nat) (h4 : Nat) (h5 : Nat) (p0 : Int32) (p1 : Int32) (w0 : Value) (w1 : Value) (w2 : Value) (p2 : Int32) (p3 : Int32) (p4 : Int32) (p5 : Int32) (p6 : Int32) (p7 : Int32) (p8 : Int32) (p9 : Int32) (p10 : Int32) (p11 : Int32) (p12 : Int32) (w3 : Value) (w4 : Value) (p13 : Int32) (p14 : Int32) (w5 : Value) (w6 : Value) (p15 : Int32) (p16 : Int32) (w7 : Value) (w8 : Value) (w9 : Value) (w10 : Value) (w11 : Value) (p17 : Int32) (w12 : Value) (w13 : Value) (w14 : Value) (f0 : Nat → Int32) (p18 : Int32) (f1 : Nat → Int32) (f2 : Nat → Int32) (f3 : Nat → Int32) (f4 : Nat → Int32) (hp0 : 0 ≤ (p0).toInt ∧ (p0).toInt ≤ 1023) (hp1 : 0 ≤ (p1).toInt ∧ (p1).toInt ≤ 0) (hp2 : 0 ≤ (p2).toInt ∧ (p2).toInt ≤ 900) (hp3 : 0 ≤ (p3).toInt ∧ (p3).toInt ≤ 900) (hp4 : 0 ≤ (p4).toInt ∧ (p4).toInt ≤ 900) (hp5 : 0 ≤ (p5).toInt ∧ (p5).toInt ≤ 900) (hp6 : (-2147483648) ≤ (p6).toInt ∧ (p6).toInt ≤ 2147483647) (hp7 : 0 ≤ (p7).toInt ∧ (p7).toInt ≤ 999) (hp8 : (-2147483648) ≤ (p8).toInt ∧ (p8).toInt ≤ 2147483647) (hp9 : (-2147483648) ≤ (p9).toInt ∧ (p9).toInt ≤ 2147483647) (hp10 : (-2147483648) ≤ (p10).toInt ∧ (p10).toInt ≤ 2147483647) (hp11 : (-2147483648) ≤ (p11).toInt ∧ (p11).toInt ≤ 2147483647) (hp12 : (-2147483648) ≤ (p12).toInt ∧ (p12).toInt ≤ 2147483647) (hp13 : (-2147483648) ≤ (p13).toInt ∧ (p13).toInt ≤ 2147483647) (hp14 : (-2147483648) ≤ (p14).toInt ∧ (p14).toInt ≤ 2147483647) (hp15 : (-2147483648) ≤ (p15).toInt ∧ (p15).toInt ≤ 2147483647) (hp16 : (-2147483648) ≤ (p16).toInt ∧ (p16).toInt ≤ 2147483647) (hp17 : (-2147483648) ≤ (p17).toInt ∧ (p17).toInt ≤ 2147483647) (hp18 : 0 ≤ (p18).toInt ∧ (p18).toInt ≤ 10) (htf0_84 : f0 84 = p18) (rf0 : AL f0) (rf3 : RG f3 10 0 1023) (sz : Nat) : MI l yX12_sitsNow cX12_sitsNow 2 .boolean { frames := 5, cells := 0, slots := 0, locals := 114 } [.ref h0, .int p0] D cy (wk_eecab3214 cy h0 p1 h1 w0 w1 w2 p2 p3 p4 p5 p6 p7 p8 p9 p10 p11 p12 h2 h3 w3 h4 w4 p13 p14 h5 w5 w6 p15 p16 w7 w8 w9 w10 w11 p17 w12 w13 w14 h1 f0 h2 f1 h3 f2 h4 f3 h5 f4) sz (fun r u => (0 ≤ r.toInt ∧ r.toInt ≤ 1) ∧ RG (u.2.1 2) 10 0 1023 ∧ True) (fun u => (wk_eecab3214 cy h0 p1 h1 w0 w1 w2 p2 p3 p4 p5 p6 p7 p8 p9 p10 p11 p12 h2 h3 w3 h4 w4 p13 p14 h5 w5 w6 p15 p16 w7 w8 w9 w10 w11 p17 w12 w13 w14 h1 f0 h2 (u.2.1 0) h3 (u.2.1 1) h4 (u.2.1 2) h5 (u.2.1 3))) 0 0 := by
  refine q_ent (own := RX12) (by decide) rfl (Nat.le_of_ble_eq_true rfl) (fun p e s m below meth c ls X hr hlk hnm hK hT h hA hl => ?_)
  obtain ⟨hx, hb, hml, hown, ht⟩ := id X
  replace hl : lv_has ls 2 [(0, .ref h0), (1, .int p0)] := hl
  refine lv_aload_n hx hb dX12_sitsNow_0 rfl (lv_at hl 0 rfl) ?_
  refine q_callVv (rest := []) (wr := []) X hK hT hA h (fun sz => gX12_laysNow_7e7bd2c l D cy h0 h1 h2 h3 h4 h5 p1 w0 w1 w2 p2 p3 p4 p5 p6 p7 p8 p9 p10 p11 p12 w3 w4 p13 p14 w5 w6 p15 p16 w7 w8 w9 w10 w11 p17 w12 w13 w14 f0 p18 f1 f2 f3 f4 hp1 hp2 hp3 hp4 hp5 (i_rng _) hp7 (i_rng _) (i_rng _) (i_rng _) (i_rng _) (i_rng _) (i_rng _) (i_rng _) (i_rng _) (i_rng _) (i_rng _) hp18 htf0_84 rf0 (rg_wide rf3 (by decide) (by decide)) sz) wm_7_55 wm_7_58 wm_1_12 hd_X12_laysNow wm_7_57 wp_6_11 (ci := 12) (q0 := 0) rfl rfl ⟨Nat.le_of_ble_eq_true rfl, Nat.le_of_ble_eq_true rfl⟩ hl.1 rfl (Nat.le_of_ble_eq_true rfl) dX12_sitsNow_1 ⟨Nat.le_of_ble_eq_true rfl, Nat.le_of_ble_eq_true rfl⟩ [0, 1, 2, 3, 4, 5] [] rfl rfl (by decide) rfl rfl (fun u_1 H locs w_1 h_1 => ?_)
  clear h
  obtain ⟨w1_0, _⟩ := w_1
  replace h_1 : qW D _ _ (wk_eecab3214 cy h0 p1 h1 w0 w1 w2 p2 p3 p4 p5 p6 p7 p8 p9 p10 p11 p12 h2 h3 w3 h4 w4 p13 p14 h5 w5 w6 p15 p16 w7 w8 w9 w10 w11 p17 w12 w13 w14 h1 f0 h2 (u_1.2.1 0) h3 (u_1.2.1 1) h4 (u_1.2.1 2) h5 (u_1.2.1 3)) _ _ := h_1
  refine lv_aload_n hx hb dX12_sitsNow_4 rfl (lv_at hl 0 rfl) ?_
  refine q_get X hK h_1 0 rfl rfl wf_12 23 (by decide) rfl wm_5_193 dX12_sitsNow_5 ?_
  refine lv_iload_n hx hb dX12_sitsNow_8 rfl (lv_at hl 1 rfl) ?_
  refine q_iald X hK h_1 5 rfl (i_in rfl (by omega) (by omega)) dX12_sitsNow_9 ?_
  refine q_any (fun z_2 hz_2 => ?_)
  refine q_jn (pc2 := 18) (fun H locs ls st => ∃ v18_3_0 : Int32, (0 ≤ (v18_3_0).toInt ∧ (v18_3_0).toInt ≤ 1) ∧ st = [.int v18_3_0] ∧ qW D (va_A (wk_eecab3214 cy h0 p1 h1 w0 w1 w2 p2 p3 p4 p5 p6 p7 p8 p9 p10 p11 p12 h2 h3 w3 h4 w4 p13 p14 h5 w5 w6 p15 p16 w7 w8 w9 w10 w11 p17 w12 w13 w14 h1 f0 h2 f1 h3 f2 h4 f3 h5 f4) sz) s.heap (wk_eecab3214 cy h0 p1 h1 w0 w1 w2 p2 p3 p4 p5 p6 p7 p8 p9 p10 p11 p12 h2 h3 w3 h4 w4 p13 p14 h5 w5 w6 p15 p16 w7 w8 w9 w10 w11 p17 w12 w13 w14 h1 f0 h2 (u_1.2.1 0) h3 (u_1.2.1 1) h4 (u_1.2.1 2) h5 (u_1.2.1 3)) H locs ∧ lv_has ls 2 [(0, .ref h0), (1, .int p0)]) (fun H locs ls st hP => ?_) (fun J_18 => ?_)
  · obtain ⟨v18_3_0, hv18_3_0, rfl, h, hl⟩ := hP
    exact q_iret X hr hlk hK h (q_nz (by omega) (by omega)) (fun _ => 0, (vcons (u_1.2.1 0) (vcons (u_1.2.1 1) (vcons (u_1.2.1 2) (vcons (u_1.2.1 3) (fun _ => (fun _ => 0)))))), fun _ _ => 0) ⟨hv18_3_0, (rg_wide w1_0 (by decide) (by decide)), trivial⟩ [0, 1, 2, 3, 4, 5] rfl rfl dX12_sitsNow_18 (Nat.le_of_ble_eq_true rfl) (Nat.le_of_ble_eq_true rfl)
  · skip
    refine lv_if_le (tgt := 17) hx hb dX12_sitsNow_10 (by decide) (fun c_4 => ?_) (fun c_4 => ?_)
    · replace c_4 := i_le (x := z_2) (y := 0) rfl (show (0 : Int32).toInt = 0 by decide) c_4
      refine lv_iconst (v := 0) hx hb dX12_sitsNow_17 (by decide) ?_
      exact J_18 _ _ _ _ ⟨0, ⟨by decide +kernel, by decide +kernel⟩, rfl, h_1, (lv_sub hl [0, 1] rfl)⟩
    · replace c_4 := i_nle (x := z_2) (y := 0) rfl (show (0 : Int32).toInt = 0 by decide) c_4
      refine lv_iconst (v := 1) hx hb dX12_sitsNow_13 (by decide) ?_
      refine lv_goto (tgt := 18) hx hb dX12_sitsNow_14 (by decide) ?_
      exact J_18 _ _ _ _ ⟨1, ⟨by decide +kernel, by decide +kernel⟩, rfl, h_1, (lv_sub hl [0, 1] rfl)⟩
set_option maxHeartbeats 4000000 in
set_option maxRecDepth 100000 in
theorem gX12_isAgain_2833386 (l : Launch) (D : va_G) (cy : Nat → ClassId) (h0 : Nat) (h1 : Nat) (h2 : Nat) (p0 : Int32) (w0 : Value) (w1 : Value) (w2 : Value) (p1 : Int32) (p2 : Int32) (p3 : Int32) (p4 : Int32) (p5 : Int32) (p6 : Int32) (p7 : Int32) (p8 : Int32) (p9 : Int32) (p10 : Int32) (p11 : Int32) (w3 : Value) (w4 : Value) (w5 : Value) (w6 : Value) (p12 : Int32) (p13 : Int32) (w7 : Value) (w8 : Value) (w9 : Value) (p14 : Int32) (p15 : Int32) (w10 : Value) (w11 : Value) (w12 : Value) (w13 : Value) (w14 : Value) (p16 : Int32) (w15 : Value) (w16 : Value) (w17 : Value) (f0 : Nat → Int32) (p17 : Int32) (f1 : Nat → Int32) (hp0 : 0 ≤ (p0).toInt ∧ (p0).toInt ≤ 0) (hp1 : 0 ≤ (p1).toInt ∧ (p1).toInt ≤ 900) (hp2 : 0 ≤ (p2).toInt ∧ (p2).toInt ≤ 900) (hp3 : 0 ≤ (p3).toInt ∧ (p3).toInt ≤ 900) (hp4 : 0 ≤ (p4).toInt ∧ (p4).toInt ≤ 900) (hp5 : (-2147483648) ≤ (p5).toInt ∧ (p5).toInt ≤ 2147483647) (hp6 : 0 ≤ (p6).toInt ∧ (p6).toInt ≤ 999) (hp7 : (-2147483648) ≤ (p7).toInt ∧ (p7).toInt ≤ 2147483647) (hp8 : (-2147483648) ≤ (p8).toInt ∧ (p8).toInt ≤ 2147483647) (hp9 : (-2147483648) ≤ (p9).toInt ∧ (p9).toInt ≤ 2147483647) (hp10 : (-2147483648) ≤ (p10).toInt ∧ (p10).toInt ≤ 2147483647) (hp11 : (-2147483648) ≤ (p11).toInt ∧ (p11).toInt ≤ 2147483647) (hp12 : 0 ≤ (p12).toInt ∧ (p12).toInt ≤ 2) (hp13 : (-2147483648) ≤ (p13).toInt ∧ (p13).toInt ≤ 2147483647) (hp14 : (-2147483648) ≤ (p14).toInt ∧ (p14).toInt ≤ 2147483647) (hp15 : (-2147483648) ≤ (p15).toInt ∧ (p15).toInt ≤ 2147483647) (hp16 : (-2147483648) ≤ (p16).toInt ∧ (p16).toInt ≤ 2147483647) (hp17 : 0 ≤ (p17).toInt ∧ (p17).toInt ≤ 10) (htf0_84 : f0 84 = p17) (rf0 : AL f0) (rf1 : WA f1) (sz : Nat) : MV l yX12_isAgain cX12_isAgain 2 { frames := 0, cells := 0, slots := 0, locals := 0 } [.ref h0] D cy (wk_22f40a116 cy h0 p0 h1 w0 w1 w2 p1 p2 p3 p4 p5 p6 p7 p8 p9 p10 p11 w3 w4 w5 w6 h2 p12 p13 w7 w8 w9 p14 p15 w10 w11 w12 w13 w14 p16 w15 w16 w17 h1 f0 h2 f1) sz (fun u => AL (u.2.1 0) ∧ (u.2.1 0) 84 = p17 ∧ True) (fun u => (wk_22f40a116 cy h0 p0 h1 w0 w1 w2 p1 p2 p3 p4 p5 p6 p7 p8 p9 p10 p11 w3 w4 w5 w6 h2 p12 p13 w7 w8 w9 p14 p15 w10 w11 w12 w13 w14 p16 w15 w16 w17 h1 (u.2.1 0) h2 f1)) 0 0 := by
  refine q_ent (own := RX12) (by decide) rfl (Nat.le_of_ble_eq_true rfl) (fun p e s m below meth c ls X hr hlk hnm hK hT h hA hl => ?_)
  obtain ⟨hx, hb, hml, hown, ht⟩ := id X
  replace hl : lv_has ls 2 [(0, .ref h0)] := hl
  refine lv_iconst (v := 0) hx hb dX12_isAgain_0 (by decide) ?_
  refine lv_istore_n (lv' := [(1, .int 0), (0, .ref h0)]) hx hb dX12_isAgain_1 rfl hl (by decide) rfl (fun ls_1 hl_1 => ?_)
  clear hl
  refine q_wl (fun (v2_2_0 : Int32) H locs ls => ∃ v2_2_1 : Nat → Int32, (0 ≤ (v2_2_0).toInt ∧ (v2_2_0).toInt ≤ 32) ∧ v2_2_1 84 = p17 ∧ (CPY v2_2_1 f0 52 f1 0 ((v2_2_0 : Int32).toInt).toNat) ∧ qW D (va_A (wk_22f40a116 cy h0 p0 h1 w0 w1 w2 p1 p2 p3 p4 p5 p6 p7 p8 p9 p10 p11 w3 w4 w5 w6 h2 p12 p13 w7 w8 w9 p14 p15 w10 w11 w12 w13 w14 p16 w15 w16 w17 h1 f0 h2 f1) sz) s.heap (wk_22f40a116 cy h0 p0 h1 w0 w1 w2 p1 p2 p3 p4 p5 p6 p7 p8 p9 p10 p11 w3 w4 w5 w6 h2 p12 p13 w7 w8 w9 p14 p15 w10 w11 w12 w13 w14 p16 w15 w16 w17 h1 v2_2_1 h2 f1) H locs ∧ lv_has ls 2 [(0, .ref h0), (1, .int v2_2_0)]) (fun (v2_2_0 : Int32) => (33 - (v2_2_0).toInt).toNat) (fun q_2 ih_2 H locs ls hP => ?_) 0 ⟨f0, ⟨by decide +kernel, by decide +kernel⟩, htf0_84, (cp_0 (by decide)), h, (lv_sub hl_1 [1, 0] rfl)⟩
  obtain ⟨v2_2_0, rfl⟩ : ∃ z, z = q_2 := ⟨_, rfl⟩
  obtain ⟨v2_2_1, hv2_2_0, trv2_2_1_84, x3_0, h, hl⟩ := hP
  refine lv_iload_n hx hb dX12_isAgain_2 rfl (lv_at hl 1 rfl) ?_
  refine lv_bipush (v := 32) hx hb dX12_isAgain_3 (by decide) ?_
  refine lv_icmp_ge (tgt := 29) hx hb dX12_isAgain_5 (by decide) (fun c_4 => ?_) (fun c_4 => ?_)
  · replace c_4 := i_le (x := 32) (y := v2_2_0) (show (32 : Int32).toInt = 32 by decide) rfl c_4
    have cx_5 := al_again x3_0 (by omega) rf0 rf1
    exact q_vret X hr hlk hK h (fun _ => 0, (vcons v2_2_1 (fun _ => (fun _ => 0))), fun _ _ => 0) ⟨cx_5, trv2_2_1_84, trivial⟩ [0, 1, 2] rfl rfl dX12_isAgain_29 (Nat.le_of_ble_eq_true rfl) (Nat.le_of_ble_eq_true rfl)
  · replace c_4 := i_nle (x := 32) (y := v2_2_0) (show (32 : Int32).toInt = 32 by decide) rfl c_4
    refine lv_aload_n hx hb dX12_isAgain_8 rfl (lv_at hl 0 rfl) ?_
    refine q_get X hK h 0 rfl rfl wf_12 1 (by decide) rfl wm_5_171 dX12_isAgain_9 ?_
    refine lv_bipush (v := 52) hx hb dX12_isAgain_12 (by decide) ?_
    refine lv_iload_n hx hb dX12_isAgain_14 rfl (lv_at hl 1 rfl) ?_
    refine lv_iadd hx hb dX12_isAgain_15 ?_
    obtain ⟨z_6, ez_6, hz_6⟩ := e_add (x := 52) (y := v2_2_0) (show (52 : Int32).toInt = 52 by decide) rfl (by omega) (by omega)
    refine q_c z_6 ez_6 ?_
    clear ez_6
    refine lv_aload_n hx hb dX12_isAgain_16 rfl (lv_at hl 0 rfl) ?_
    refine q_get X hK h 0 rfl rfl wf_12 20 (by decide) rfl wm_5_190 dX12_isAgain_17 ?_
    refine lv_iload_n hx hb dX12_isAgain_20 rfl (lv_at hl 1 rfl) ?_
    refine q_iald X hK h 2 rfl (i_in rfl (by omega) (by omega)) dX12_isAgain_21 ?_
    obtain ⟨z_7, ez_7, hz_7⟩ := e_any (f1 v2_2_0.toNatClampNeg)
    refine q_c z_7 ez_7 ?_
    refine q_iast X hK h 1 rfl (i_in rfl (by omega) (by omega)) dX12_isAgain_22 (fun H locs h_9 => ?_)
    clear h
    replace h_9 : qW D _ _ (wk_22f40a116 cy h0 p0 h1 w0 w1 w2 p1 p2 p3 p4 p5 p6 p7 p8 p9 p10 p11 w3 w4 w5 w6 h2 p12 p13 w7 w8 w9 p14 p15 w10 w11 w12 w13 w14 p16 w15 w16 w17 h1 (upd v2_2_1 (Int32.toNatClampNeg z_6) z_7) h2 f1) _ _ := h_9
    obtain ⟨F_8, eF_8⟩ : ∃ z, (upd v2_2_1 (Int32.toNatClampNeg z_6) z_7) = z := ⟨_, rfl⟩
    have trF_8_84 := (tr_ne eF_8 trv2_2_1_84 rfl (by omega))
    rw [eF_8] at h_9
    have cs_10 := cp_s x3_0 ez_7 eF_8 (by omega) (by omega)
    obtain ⟨z_11, ez_11, hz_11⟩ := e_add (x := v2_2_0) (y := Int32.ofInt 1) rfl (b := 1) (by decide) (by omega) (by omega)
    refine lv_iinc (v := z_11) (lv' := [(1, .int z_11), (0, .ref h0)]) hx hb dX12_isAgain_23 hl (k := 1) rfl ez_11 (by decide) rfl (fun ls_11 hl_11 => ?_)
    clear hl
    refine lv_goto (tgt := 2) hx hb dX12_isAgain_26 (by decide) ?_
    exact ih_2 z_11 (by show (33 - (z_11).toInt).toNat < (33 - (v2_2_0).toInt).toNat; omega) _ _ _ ⟨F_8, ⟨by omega, by omega⟩, trF_8_84, (cp_n cs_10 (by (first | assumption | omega))), h_9, (lv_sub hl_11 [1, 0] rfl)⟩
set_option maxHeartbeats 4000000 in
set_option maxRecDepth 100000 in
theorem gX12_judge_669095e (l : Launch) (D : va_G) (cy : Nat → ClassId) (h0 : Nat) (h1 : Nat) (h2 : Nat) (h3 : Nat) (h4 : Nat) (h5 : Nat) (h6 : Nat) (h7 : Nat) (h8 : Nat) (h9 : Nat) (h10 : Nat) (p0 : Int32) (p1 : Int32) (p2 : Int32) (w0 : Value) (w1 : Value) (w2 : Value) (p3 : Int32) (p4 : Int32) (p5 : Int32) (p6 : Int32) (p7 : Int32) (p8 : Int32) (p9 : Int32) (p10 : Int32) (p11 : Int32) (p12 : Int32) (p13 : Int32) (p14 : Int32) (p15 : Int32) (w3 : Value) (w4 : Value) (p16 : Int32) (p17 : Int32) (w5 : Value) (w6 : Value) (w7 : Value) (w8 : Value) (w9 : Value) (p18 : Int32) (f0 : Nat → Int32) (p19 : Int32) (f1 : Nat → Int32) (f2 : Nat → Int32) (f3 : Nat → Int32) (f4 : Nat → Int32) (f5 : Nat → Int32) (f6 : Nat → Int32) (f7 : Nat → Int32) (f8 : Nat → Int32) (g0 : Nat → Int64) (hp0 : (-2147483648) ≤ (p0).toInt ∧ (p0).toInt ≤ 2147483647) (hp1 : (-2147483648) ≤ (p1).toInt ∧ (p1).toInt ≤ 2147483647) (hp2 : (-2147483648) ≤ (p2).toInt ∧ (p2).toInt ≤ 2147483647) (hp3 : 0 ≤ (p3).toInt ∧ (p3).toInt ≤ 900) (hp4 : 0 ≤ (p4).toInt ∧ (p4).toInt ≤ 900) (hp5 : 0 ≤ (p5).toInt ∧ (p5).toInt ≤ 900) (hp6 : 0 ≤ (p6).toInt ∧ (p6).toInt ≤ 900) (hp7 : (-2147483648) ≤ (p7).toInt ∧ (p7).toInt ≤ 2147483647) (hp8 : 0 ≤ (p8).toInt ∧ (p8).toInt ≤ 999) (hp9 : (-2147483648) ≤ (p9).toInt ∧ (p9).toInt ≤ 2147483647) (hp10 : (-2147483648) ≤ (p10).toInt ∧ (p10).toInt ≤ 2147483647) (hp11 : (-2147483648) ≤ (p11).toInt ∧ (p11).toInt ≤ 2147483647) (hp12 : (-2147483648) ≤ (p12).toInt ∧ (p12).toInt ≤ 2147483647) (hp13 : (-2147483648) ≤ (p13).toInt ∧ (p13).toInt ≤ 2147483647) (hp14 : (-2147483648) ≤ (p14).toInt ∧ (p14).toInt ≤ 2147483647) (hp15 : (-2147483648) ≤ (p15).toInt ∧ (p15).toInt ≤ 2147483647) (hp16 : (-2147483648) ≤ (p16).toInt ∧ (p16).toInt ≤ 2147483647) (hp17 : (-2147483648) ≤ (p17).toInt ∧ (p17).toInt ≤ 2147483647) (hp18 : (-2147483648) ≤ (p18).toInt ∧ (p18).toInt ≤ 2147483647) (hp19 : 0 ≤ (p19).toInt ∧ (p19).toInt ≤ 10) (htf0_84 : f0 84 = p19) (rf0 : AL f0) (rf3 : RG f3 3 0 9) (rf4 : RG f4 10 0 1023) (rf5 : WA f5) (rf8 : RG f8 4 0 40) (sz : Nat) : MI l yX12_judge cX12_judge 7 .int { frames := 6, cells := 0, slots := 0, locals := 139 } [.ref h0, .int p0, .int p1] D cy (wk_a2686efad cy h0 p2 h1 w0 w1 w2 p3 p4 p5 p6 p7 p8 p9 p10 p11 p12 p13 h2 h3 h4 h5 h6 p14 p15 h7 w3 w4 p16 p17 w5 w6 w7 w8 w9 p18 h8 h9 h10 h1 f0 h2 f1 h3 f2 h4 f3 h5 f4 h6 f5 h7 f6 h8 f7 h9 f8 h10 g0) sz (fun r u => ((-2147483648) ≤ r.toInt ∧ r.toInt ≤ 2147483647) ∧ RG (u.2.1 0) 3 0 9 ∧ RG (u.2.1 3) 10 0 1023 ∧ (0 ≤ (u.2.1 5 0).toInt ∧ (u.2.1 5 0).toInt ≤ 0) ∧ ((-2147483648) ≤ (u.2.1 6 0).toInt ∧ (u.2.1 6 0).toInt ≤ 2147483647) ∧ AL (u.2.1 7) ∧ WA (u.2.1 8) ∧ (u.2.1 7) 84 = p19 ∧ True) (fun u => (wk_a2686efad cy h0 (u.2.1 5 0) h1 w0 w1 w2 p3 p4 p5 p6 p7 p8 p9 p10 p11 p12 p13 h2 h3 h4 h5 h6 (u.2.1 6 0) p15 h7 w3 w4 p16 p17 w5 w6 w7 w8 w9 p18 h8 h9 h10 h1 (u.2.1 7) h2 (u.2.1 1) h3 (u.2.1 2) h4 (u.2.1 0) h5 (u.2.1 3) h6 (u.2.1 8) h7 (u.2.1 4) h8 f7 h9 f8 h10 g0)) 0 0 := by
  refine q_ent (own := RX12) (by decide) rfl (Nat.le_of_ble_eq_true rfl) (fun p e s m below meth c ls X hr hlk hnm hK hT h hA hl => ?_)
  obtain ⟨hx, hb, hml, hown, ht⟩ := id X
  replace hl : lv_has ls 7 [(0, .ref h0), (1, .int p0), (2, .int p1)] := hl
  refine lv_aload_n hx hb dX12_judge_0 rfl (lv_at hl 0 rfl) ?_
  refine lv_iconst (v := 0) hx hb dX12_judge_1 (by decide) ?_
  refine q_put (v := .int 0) X hK h 0 rfl rfl wf_12 tyX12 tyX12_ok nmX12 0 (by decide) wm_5_170 rfl rfl rfl (Nat.le_of_ble_eq_true rfl) dX12_judge_2 (fun H locs h_1 => ?_)
  clear h
  replace h_1 : qW D _ _ (wk_a2686efad cy h0 0 h1 w0 w1 w2 p3 p4 p5 p6 p7 p8 p9 p10 p11 p12 p13 h2 h3 h4 h5 h6 p14 p15 h7 w3 w4 p16 p17 w5 w6 w7 w8 w9 p18 h8 h9 h10 h1 f0 h2 f1 h3 f2 h4 f3 h5 f4 h6 f5 h7 f6 h8 f7 h9 f8 h10 g0) _ _ := h_1
  refine lv_iload_n hx hb dX12_judge_5 rfl (lv_at hl 2 rfl) ?_
  refine lv_i2l hx hb dX12_judge_6 rfl ?_
  obtain ⟨z_2, ez_2, hz_2⟩ := e_i2l (x := p1) rfl
  refine q_cl z_2 ez_2 ?_
  clear ez_2
  refine lv_lconst (v := 0) hx hb dX12_judge_7 (by decide) ?_
  refine lv_ldc2 hx hb hown (ht _ wm_7_29) dX12_judge_8 ?_
  refine q_callSi (rest := []) (wr := (wk_a2686efad cy h0 0 h1 w0 w1 w2 p3 p4 p5 p6 p7 p8 p9 p10 p11 p12 p13 h2 h3 h4 h5 h6 p14 p15 h7 w3 w4 p16 p17 w5 w6 w7 w8 w9 p18 h8 h9 h10 h1 f0 h2 f1 h3 f2 h4 f3 h5 f4 h6 f5 h7 f6 h8 f7 h9 f8 h10 g0)) X hK hT hA h_1 (fun sz => gX12_within_00c7897 l D cy z_2 (0 : Int64) (3 : Int64) (j_rng _) ⟨by decide +kernel, by decide +kernel⟩ ⟨by decide +kernel, by decide +kernel⟩ sz) wm_6_50 wm_6_52 wm_1_12 hd_X12_within wm_6_51 ⟨Nat.le_of_ble_eq_true rfl, Nat.le_of_ble_eq_true rfl⟩ hl.1 rfl (Nat.le_of_ble_eq_true rfl) dX12_judge_11 ⟨Nat.le_of_ble_eq_true rfl, Nat.le_of_ble_eq_true rfl⟩ [] [0, 1, 2, 3, 4, 5, 6, 7, 8, 9, 10] rfl rfl (by decide) rfl rfl (fun r_3 u_3 H locs w_3 h_3 => ?_)
  clear h_1
  obtain ⟨wr_3, y3_0, _⟩ := w_3
  have lq_3_1 : (0 : Int64).toInt = 0 := (by decide)
  have lq_3_2 : (3 : Int64).toInt = 3 := (by decide)
  replace h_3 : qW D _ _ (wk_a2686efad cy h0 0 h1 w0 w1 w2 p3 p4 p5 p6 p7 p8 p9 p10 p11 p12 p13 h2 h3 h4 h5 h6 p14 p15 h7 w3 w4 p16 p17 w5 w6 w7 w8 w9 p18 h8 h9 h10 h1 f0 h2 f1 h3 f2 h4 f3 h5 f4 h6 f5 h7 f6 h8 f7 h9 f8 h10 g0) _ _ := h_3
  refine lv_if_ne (tgt := 20) hx hb dX12_judge_14 (by decide) (fun c_4 => ?_) (fun c_4 => ?_)
  · replace c_4 := i_ne (x := r_3) (y := 0) rfl (show (0 : Int32).toInt = 0 by decide) c_4
    replace y3_0 := a10_1 y3_0 c_4
    refine lv_aload_n hx hb dX12_judge_20 rfl (lv_at hl 0 rfl) ?_
    refine lv_iload_n hx hb dX12_judge_21 rfl (lv_at hl 1 rfl) ?_
    refine q_callVi (rest := []) (wr := [(h1, .inl (cy 1, 3918, .inl f0)), (h2, .inl (cy 1, 900, .inl f1)), (h3, .inl (cy 1, 11, .inl f2)), (h4, .inl (cy 1, 3, .inl f3)), (h5, .inl (cy 1, 10, .inl f4)), (h6, .inl (cy 1, 32, .inl f5)), (h7, .inl (cy 1, 1024, .inl f6)), (h9, .inl (cy 1, 4, .inl f8)), (h10, .inl (cy 2, 160, .inr (.inl g0)))]) X hK hT hA h_3 (fun sz => gX12_noTray_c6f52ea l D cy h0 h8 p0 (0 : Int32) (.ref h1) w0 w1 w2 p3 p4 p5 p6 p7 p8 p9 p10 p11 p12 p13 (.ref h2) (.ref h3) (.ref h4) (.ref h5) (.ref h6) p14 p15 (.ref h7) w3 w4 p16 p17 w5 w6 w7 w8 w9 p18 (.ref h9) (.ref h10) f7 (i_rng _) ⟨by decide +kernel, by decide +kernel⟩ hp3 hp4 hp5 hp6 (i_rng _) hp8 (i_rng _) (i_rng _) (i_rng _) (i_rng _) (i_rng _) (i_rng _) (i_rng _) (i_rng _) (i_rng _) (i_rng _) sz) wm_7_30 wm_7_33 wm_1_12 hd_X12_noTray wm_7_32 wp_6_6 (ci := 12) (q0 := 0) rfl rfl ⟨Nat.le_of_ble_eq_true rfl, Nat.le_of_ble_eq_true rfl⟩ hl.1 rfl (Nat.le_of_ble_eq_true rfl) dX12_judge_22 ⟨Nat.le_of_ble_eq_true rfl, Nat.le_of_ble_eq_true rfl⟩ [0, 8] [1, 2, 3, 4, 5, 6, 7, 9, 10] rfl rfl (by decide) rfl rfl (fun r_5 u_5 H locs w_5 h_5 => ?_)
    clear h_3
    obtain ⟨wr_5, y5_0, _⟩ := w_5
    replace h_5 : qW D _ _ [(h1, .inl (cy 1, 3918, .inl f0)), (h2, .inl (cy 1, 900, .inl f1)), (h3, .inl (cy 1, 11, .inl f2)), (h4, .inl (cy 1, 3, .inl f3)), (h5, .inl (cy 1, 10, .inl f4)), (h6, .inl (cy 1, 32, .inl f5)), (h7, .inl (cy 1, 1024, .inl f6)), (h9, .inl (cy 1, 4, .inl f8)), (h10, .inl (cy 2, 160, .inr (.inl g0))), (h0, .inr (12, [.int 0, .ref h1, w0, w1, w2, .int p3, .int p4, .int p5, .int p6, .int p7, .int p8, .int p9, .int p10, .int p11, .int p12, .int p13, .ref h2, .ref h3, .ref h4, .ref h5, .ref h6, .int p14, .int p15, .ref h7, w3, w4, .int p16, .int p17, w5, w6, w7, w8, w9, .int p18, .ref h8, .ref h9, .ref h10])), (h8, .inl (cy 1, 4, .inl f7))] _ _ := h_5
    refine lv_istore_n (lv' := [(3, .int r_5), (0, .ref h0), (1, .int p0), (2, .int p1)]) hx hb dX12_judge_25 rfl hl (by decide) rfl (fun ls_6 hl_6 => ?_)
    clear hl
    refine lv_iload_n hx hb dX12_judge_26 rfl (lv_at hl_6 0 rfl) ?_
    refine lv_if_eq (tgt := 32) hx hb dX12_judge_27 (by decide) (fun c_7 => ?_) (fun c_7 => ?_)
    · replace c_7 := i_eq (x := r_5) (y := 0) rfl (show (0 : Int32).toInt = 0 by decide) c_7
      refine lv_aload_n hx hb dX12_judge_32 rfl (lv_at hl_6 1 rfl) ?_
      refine q_callVv (rest := []) (wr := [(h2, .inl (cy 1, 900, .inl f1)), (h3, .inl (cy 1, 11, .inl f2)), (h4, .inl (cy 1, 3, .inl f3)), (h5, .inl (cy 1, 10, .inl f4)), (h7, .inl (cy 1, 1024, .inl f6)), (h9, .inl (cy 1, 4, .inl f8)), (h10, .inl (cy 2, 160, .inr (.inl g0))), (h8, .inl (cy 1, 4, .inl f7))]) X hK hT hA h_5 (fun sz => gX12_keeps_814ac6b l D cy h0 h1 h6 (0 : Int32) w0 w1 w2 p3 p4 p5 p6 p7 p8 p9 p10 p11 p12 p13 (.ref h2) (.ref h3) (.ref h4) (.ref h5) p14 p15 (.ref h7) w3 w4 p16 p17 w5 w6 w7 w8 w9 p18 (.ref h8) (.ref h9) (.ref h10) f0 p19 f5 ⟨by decide +kernel, by decide +kernel⟩ hp3 hp4 hp5 hp6 (i_rng _) hp8 (i_rng _) (i_rng _) (i_rng _) (i_rng _) (i_rng _) (i_rng _) (i_rng _) (i_rng _) (i_rng _) (i_rng _) hp19 htf0_84 rf0 rf5 sz) wm_6_220 wm_6_223 wm_1_12 hd_X12_keeps wm_6_222 wp_6_0 (ci := 12) (q0 := 0) rfl rfl ⟨Nat.le_of_ble_eq_true rfl, Nat.le_of_ble_eq_true rfl⟩ hl_6.1 rfl (Nat.le_of_ble_eq_true rfl) dX12_judge_33 ⟨Nat.le_of_ble_eq_true rfl, Nat.le_of_ble_eq_true rfl⟩ [9, 0, 5] [1, 2, 3, 4, 6, 7, 8, 10] rfl rfl (by decide) rfl rfl (fun u_8 H locs w_8 h_8 => ?_)
      clear h_5
      obtain ⟨w8_0, _⟩ := w_8
      replace h_8 : qW D _ _ [(h2, .inl (cy 1, 900, .inl f1)), (h3, .inl (cy 1, 11, .inl f2)), (h4, .inl (cy 1, 3, .inl f3)), (h5, .inl (cy 1, 10, .inl f4)), (h7, .inl (cy 1, 1024, .inl f6)), (h9, .inl (cy 1, 4, .inl f8)), (h10, .inl (cy 2, 160, .inr (.inl g0))), (h8, .inl (cy 1, 4, .inl f7)), (h0, .inr (12, [.int 0, .ref h1, w0, w1, w2, .int p3, .int p4, .int p5, .int p6, .int p7, .int p8, .int p9, .int p10, .int p11, .int p12, .int p13, .ref h2, .ref h3, .ref h4, .ref h5, .ref h6, .int p14, .int p15, .ref h7, w3, w4, .int p16, .int p17, w5, w6, w7, w8, w9, .int p18, .ref h8, .ref h9, .ref h10])), (h1, .inl (cy 1, 3918, .inl f0)), (h6, .inl (cy 1, 32, .inl (u_8.2.1 0)))] _ _ := h_8
      refine lv_aload_n hx hb dX12_judge_36 rfl (lv_at hl_6 1 rfl) ?_
      refine lv_iload_n hx hb dX12_judge_37 rfl (lv_at hl_6 2 rfl) ?_
      refine q_callVi (rest := []) (wr := [(h5, .inl (cy 1, 10, .inl f4)), (h7, .inl (cy 1, 1024, .inl f6)), (h8, .inl (cy 1, 4, .inl f7)), (h6, .inl (cy 1, 32, .inl (u_8.2.1 0)))]) X hK hT hA h_8 (fun sz => gX12_tells_f7a3d50 l D cy h0 h1 h2 h3 h4 h9 h10 p0 (0 : Int32) w0 w1 w2 p3 p4 p5 p6 p7 p8 p9 p10 p11 p12 p13 (.ref h5) (.ref h6) p14 p15 (.ref h7) w3 w4 p16 p17 w5 w6 w7 w8 w9 p18 (.ref h8) f0 p19 f1 f2 f3 f8 g0 ⟨by omega, by omega⟩ ⟨by decide +kernel, by decide +kernel⟩ hp3 hp4 hp5 hp6 (i_rng _) hp8 (i_rng _) (i_rng _) (i_rng _) (i_rng _) (i_rng _) (i_rng _) (i_rng _) (i_rng _) (i_rng _) (i_rng _) hp19 htf0_84 rf0 (rg_wide rf3 (by decide) (by decide)) (rg_wide rf8 (by decide) (by decide)) sz) wm_7_34 wm_7_37 wm_1_12 hd_X12_tells wm_7_36 wp_6_7 (ci := 12) (q0 := 0) rfl rfl ⟨Nat.le_of_ble_eq_true rfl, Nat.le_of_ble_eq_true rfl⟩ hl_6.1 rfl (Nat.le_of_ble_eq_true rfl) dX12_judge_38 ⟨Nat.le_of_ble_eq_true rfl, Nat.le_of_ble_eq_true rfl⟩ [8, 9, 0, 1, 2, 5, 6] [3, 4, 7, 10] rfl rfl (by decide) rfl rfl (fun r_9 u_9 H locs w_9 h_9 => ?_)
      clear h_8
      obtain ⟨wr_9, w9_0, w9_1, w9_2, w9_3, _⟩ := w_9
      replace h_9 : qW D _ _ [(h5, .inl (cy 1, 10, .inl f4)), (h7, .inl (cy 1, 1024, .inl f6)), (h8, .inl (cy 1, 4, .inl f7)), (h6, .inl (cy 1, 32, .inl (u_8.2.1 0))), (h0, .inr (12, [.int 0, .ref h1, w0, w1, w2, .int p3, .int p4, .int p5, .int p6, .int p7, .int p8, .int p9, .int p10, .int p11, .int p12, .int p13, .ref h2, .ref h3, .ref h4, .ref h5, .ref h6, .int (u_9.2.1 0 0), .int p15, .ref h7, w3, w4, .int p16, .int p17, w5, w6, w7, w8, w9, .int p18, .ref h8, .ref h9, .ref h10])), (h1, .inl (cy 1, 3918, .inl (u_9.2.1 1))), (h2, .inl (cy 1, 900, .inl (u_9.2.1 2))), (h3, .inl (cy 1, 11, .inl (u_9.2.1 3))), (h4, .inl (cy 1, 3, .inl (u_9.2.1 4))), (h9, .inl (cy 1, 4, .inl f8)), (h10, .inl (cy 2, 160, .inr (.inl g0)))] _ _ := h_9
      refine lv_istore (lv' := [(4, .int r_9), (3, .int r_5), (0, .ref h0), (1, .int p0), (2, .int p1)]) hx hb dX12_judge_41 hl_6 (by decide) rfl (fun ls_10 hl_10 => ?_)
      clear hl_6
      refine lv_aload_n hx hb dX12_judge_43 rfl (lv_at hl_10 2 rfl) ?_
      refine lv_aload_n hx hb dX12_judge_44 rfl (lv_at hl_10 2 rfl) ?_
      refine q_callVi (rest := [.ref h0]) (wr := [(h5, .inl (cy 1, 10, .inl f4)), (h7, .inl (cy 1, 1024, .inl f6)), (h8, .inl (cy 1, 4, .inl f7)), (h6, .inl (cy 1, 32, .inl (u_8.2.1 0))), (h2, .inl (cy 1, 900, .inl (u_9.2.1 2))), (h3, .inl (cy 1, 11, .inl (u_9.2.1 3))), (h4, .inl (cy 1, 3, .inl (u_9.2.1 4))), (h9, .inl (cy 1, 4, .inl f8)), (h10, .inl (cy 2, 160, .inr (.inl g0)))]) X hK hT hA h_9 (fun sz => gX12_townNow_2907b4b l D cy h0 h1 (0 : Int32) w0 w1 w2 p3 p4 p5 p6 p7 p8 p9 p10 p11 p12 p13 (.ref h2) (.ref h3) (.ref h4) (.ref h5) (.ref h6) (u_9.2.1 0 0) p15 (.ref h7) w3 w4 p16 p17 w5 w6 w7 w8 w9 p18 (.ref h8) (.ref h9) (.ref h10) (u_9.2.1 1) p19 ⟨by decide +kernel, by decide +kernel⟩ hp3 hp4 hp5 hp6 (i_rng _) hp8 (i_rng _) (i_rng _) (i_rng _) (i_rng _) (i_rng _) (i_rng _) (i_rng _) (i_rng _) (i_rng _) (i_rng _) hp19 w9_3 w9_1 sz) wm_6_170 wm_6_173 wm_1_12 hd_X12_townNow wm_6_172 wp_5_9 (ci := 12) (q0 := 0) rfl rfl ⟨Nat.le_of_ble_eq_true rfl, Nat.le_of_ble_eq_true rfl⟩ hl_10.1 rfl (Nat.le_of_ble_eq_true rfl) dX12_judge_45 ⟨Nat.le_of_ble_eq_true rfl, Nat.le_of_ble_eq_true rfl⟩ [4, 5] [0, 1, 2, 3, 6, 7, 8, 9, 10] rfl rfl (by decide) rfl rfl (fun r_11 u_11 H locs w_11 h_11 => ?_)
      clear h_9
      obtain ⟨wr_11, _⟩ := w_11
      replace h_11 : qW D _ _ [(h5, .inl (cy 1, 10, .inl f4)), (h7, .inl (cy 1, 1024, .inl f6)), (h8, .inl (cy 1, 4, .inl f7)), (h6, .inl (cy 1, 32, .inl (u_8.2.1 0))), (h2, .inl (cy 1, 900, .inl (u_9.2.1 2))), (h3, .inl (cy 1, 11, .inl (u_9.2.1 3))), (h4, .inl (cy 1, 3, .inl (u_9.2.1 4))), (h9, .inl (cy 1, 4, .inl f8)), (h10, .inl (cy 2, 160, .inr (.inl g0))), (h0, .inr (12, [.int 0, .ref h1, w0, w1, w2, .int p3, .int p4, .int p5, .int p6, .int p7, .int p8, .int p9, .int p10, .int p11, .int p12, .int p13, .ref h2, .ref h3, .ref h4, .ref h5, .ref h6, .int (u_9.2.1 0 0), .int p15, .ref h7, w3, w4, .int p16, .int p17, w5, w6, w7, w8, w9, .int p18, .ref h8, .ref h9, .ref h10])), (h1, .inl (cy 1, 3918, .inl (u_9.2.1 1)))] _ _ := h_11
      refine q_callVi (rest := []) (wr := [(h8, .inl (cy 1, 4, .inl f7)), (h6, .inl (cy 1, 32, .inl (u_8.2.1 0))), (h4, .inl (cy 1, 3, .inl (u_9.2.1 4))), (h9, .inl (cy 1, 4, .inl f8)), (h10, .inl (cy 2, 160, .inr (.inl g0)))]) X hK hT hA h_11 (fun sz => gX12_sitsNow_472ffcf l D cy h0 h1 h2 h3 h5 h7 r_11 (0 : Int32) w0 w1 w2 p3 p4 p5 p6 p7 p8 p9 p10 p11 p12 p13 (.ref h4) (.ref h6) (u_9.2.1 0 0) p15 w3 w4 p16 p17 w5 w6 w7 w8 w9 p18 (.ref h8) (.ref h9) (.ref h10) (u_9.2.1 1) p19 (u_9.2.1 2) (u_9.2.1 3) f4 f6 wr_11 ⟨by decide +kernel, by decide +kernel⟩ hp3 hp4 hp5 hp6 (i_rng _) hp8 (i_rng _) (i_rng _) (i_rng _) (i_rng _) (i_rng _) (i_rng _) (i_rng _) (i_rng _) (i_rng _) (i_rng _) hp19 w9_3 w9_1 (rg_wide rf4 (by decide) (by decide)) sz) wm_7_51 wm_7_54 wm_1_12 hd_X12_sitsNow wm_7_53 wp_6_10 (ci := 12) (q0 := 0) rfl rfl ⟨Nat.le_of_ble_eq_true rfl, Nat.le_of_ble_eq_true rfl⟩ hl_10.1 rfl (Nat.le_of_ble_eq_true rfl) dX12_judge_48 ⟨Nat.le_of_ble_eq_true rfl, Nat.le_of_ble_eq_true rfl⟩ [9, 10, 4, 5, 0, 1] [2, 3, 6, 7, 8] rfl rfl (by decide) rfl rfl (fun r_12 u_12 H locs w_12 h_12 => ?_)
      clear h_11
      obtain ⟨wr_12, w12_0, _⟩ := w_12
      replace h_12 : qW D _ _ (wk_4a85b29b6 cy h8 f7 h6 (u_8.2.1 0) h4 (u_9.2.1 4) h9 f8 h10 g0 h0 0 h1 w0 w1 w2 p3 p4 p5 p6 p7 p8 p9 p10 p11 p12 p13 h2 h3 h4 h5 h6 (u_9.2.1 0 0) p15 h7 w3 w4 p16 p17 w5 w6 w7 w8 w9 p18 h8 h9 h10 h1 (u_9.2.1 1) h2 (u_12.2.1 0) h3 (u_12.2.1 1) h5 (u_12.2.1 2) h7 (u_12.2.1 3)) _ _ := h_12
      refine q_jn (pc2 := 59) (fun H locs ls st => ∃ v59_13_0 : Int32, (0 ≤ (v59_13_0).toInt ∧ (v59_13_0).toInt ≤ 1) ∧ st = [.int v59_13_0] ∧ qW D (va_A (wk_a2686efad cy h0 p2 h1 w0 w1 w2 p3 p4 p5 p6 p7 p8 p9 p10 p11 p12 p13 h2 h3 h4 h5 h6 p14 p15 h7 w3 w4 p16 p17 w5 w6 w7 w8 w9 p18 h8 h9 h10 h1 f0 h2 f1 h3 f2 h4 f3 h5 f4 h6 f5 h7 f6 h8 f7 h9 f8 h10 g0) sz) s.heap (wk_4a85b29b6 cy h8 f7 h6 (u_8.2.1 0) h4 (u_9.2.1 4) h9 f8 h10 g0 h0 0 h1 w0 w1 w2 p3 p4 p5 p6 p7 p8 p9 p10 p11 p12 p13 h2 h3 h4 h5 h6 (u_9.2.1 0 0) p15 h7 w3 w4 p16 p17 w5 w6 w7 w8 w9 p18 h8 h9 h10 h1 (u_9.2.1 1) h2 (u_12.2.1 0) h3 (u_12.2.1 1) h5 (u_12.2.1 2) h7 (u_12.2.1 3)) H locs ∧ lv_has ls 7 [(0, .ref h0), (1, .int p0), (2, .int p1), (3, .int r_5), (4, .int r_9)]) (fun H locs ls st hP => ?_) (fun J_59 => ?_)
      · obtain ⟨v59_13_0, hv59_13_0, rfl, h, hl⟩ := hP
        refine lv_istore (lv' := [(5, .int v59_13_0), (0, .ref h0), (1, .int p0), (2, .int p1), (3, .int r_5), (4, .int r_9)]) hx hb dX12_judge_59 hl (by decide) rfl (fun ls_14 hl_14 => ?_)
        clear hl
        refine lv_aload_n hx hb dX12_judge_61 rfl (lv_at hl_14 1 rfl) ?_
        refine q_get X hK h 5 rfl rfl wf_12 1 (by decide) rfl wm_5_171 dX12_judge_62 ?_
        refine lv_bipush (v := 52) hx hb dX12_judge_65 (by decide) ?_
        refine q_iald X hK h 6 rfl (q_in (by decide +kernel)) dX12_judge_67 ?_
        refine q_any (fun z_15 hz_15 => ?_)
        refine lv_istore (lv' := [(6, .int z_15), (5, .int v59_13_0), (0, .ref h0), (1, .int p0), (2, .int p1), (3, .int r_5), (4, .int r_9)]) hx hb dX12_judge_68 hl_14 (by decide) rfl (fun ls_16 hl_16 => ?_)
        clear hl_14
        refine lv_aload_n hx hb dX12_judge_70 rfl (lv_at hl_16 2 rfl) ?_
        refine q_callVv (rest := []) (wr := [(h8, .inl (cy 1, 4, .inl f7)), (h4, .inl (cy 1, 3, .inl (u_9.2.1 4))), (h9, .inl (cy 1, 4, .inl f8)), (h10, .inl (cy 2, 160, .inr (.inl g0))), (h2, .inl (cy 1, 900, .inl (u_12.2.1 0))), (h3, .inl (cy 1, 11, .inl (u_12.2.1 1))), (h5, .inl (cy 1, 10, .inl (u_12.2.1 2))), (h7, .inl (cy 1, 1024, .inl (u_12.2.1 3)))]) X hK hT hA h (fun sz => gX12_isAgain_2833386 l D cy h0 h1 h6 (0 : Int32) w0 w1 w2 p3 p4 p5 p6 p7 p8 p9 p10 p11 p12 p13 (.ref h2) (.ref h3) (.ref h4) (.ref h5) (u_9.2.1 0 0) p15 (.ref h7) w3 w4 p16 p17 w5 w6 w7 w8 w9 p18 (.ref h8) (.ref h9) (.ref h10) (u_9.2.1 1) p19 (u_8.2.1 0) ⟨by decide +kernel, by decide +kernel⟩ hp3 hp4 hp5 hp6 (i_rng _) hp8 (i_rng _) (i_rng _) (i_rng _) (i_rng _) (i_rng _) w9_0 (i_rng _) (i_rng _) (i_rng _) (i_rng _) hp19 w9_3 w9_1 w8_0 sz) wm_7_70 wm_7_73 wm_1_12 hd_X12_isAgain wm_7_72 wp_6_14 (ci := 12) (q0 := 0) rfl rfl ⟨Nat.le_of_ble_eq_true rfl, Nat.le_of_ble_eq_true rfl⟩ hl_16.1 rfl (Nat.le_of_ble_eq_true rfl) dX12_judge_71 ⟨Nat.le_of_ble_eq_true rfl, Nat.le_of_ble_eq_true rfl⟩ [5, 6, 1] [0, 2, 3, 4, 7, 8, 9, 10] rfl rfl (by decide) rfl rfl (fun u_17 H locs w_17 h_17 => ?_)
        clear h
        obtain ⟨w17_0, w17_1, _⟩ := w_17
        replace h_17 : qW D _ _ (wk_ec32a311a cy h8 f7 h4 (u_9.2.1 4) h9 f8 h10 g0 h2 (u_12.2.1 0) h3 (u_12.2.1 1) h5 (u_12.2.1 2) h7 (u_12.2.1 3) h0 0 h1 w0 w1 w2 p3 p4 p5 p6 p7 p8 p9 p10 p11 p12 p13 h2 h3 h4 h5 h6 (u_9.2.1 0 0) p15 h7 w3 w4 p16 p17 w5 w6 w7 w8 w9 p18 h8 h9 h10 h1 (u_17.2.1 0) h6 (u_8.2.1 0)) _ _ := h_17
        refine lv_iload_n hx hb dX12_judge_74 rfl (lv_at hl_16 4 rfl) ?_
        refine q_jn (pc2 := 118) (fun H locs ls st => ∃ v118_18_0 : Int32, ((-2147483648) ≤ (v118_18_0).toInt ∧ (v118_18_0).toInt ≤ 2147483647) ∧ st = [.int v118_18_0] ∧ qW D (va_A (wk_a2686efad cy h0 p2 h1 w0 w1 w2 p3 p4 p5 p6 p7 p8 p9 p10 p11 p12 p13 h2 h3 h4 h5 h6 p14 p15 h7 w3 w4 p16 p17 w5 w6 w7 w8 w9 p18 h8 h9 h10 h1 f0 h2 f1 h3 f2 h4 f3 h5 f4 h6 f5 h7 f6 h8 f7 h9 f8 h10 g0) sz) s.heap (wk_ec32a311a cy h8 f7 h4 (u_9.2.1 4) h9 f8 h10 g0 h2 (u_12.2.1 0) h3 (u_12.2.1 1) h5 (u_12.2.1 2) h7 (u_12.2.1 3) h0 0 h1 w0 w1 w2 p3 p4 p5 p6 p7 p8 p9 p10 p11 p12 p13 h2 h3 h4 h5 h6 (u_9.2.1 0 0) p15 h7 w3 w4 p16 p17 w5 w6 w7 w8 w9 p18 h8 h9 h10 h1 (u_17.2.1 0) h6 (u_8.2.1 0)) H locs ∧ lv_has ls 7 [(0, .ref h0), (1, .int p0), (2, .int p1), (3, .int r_5), (4, .int r_9), (5, .int v59_13_0), (6, .int z_15)]) (fun H locs ls st hP => ?_) (fun J_118 => ?_)
        · obtain ⟨v118_18_0, hv118_18_0, rfl, h, hl⟩ := hP
          exact q_iret X hr hlk hK h rfl (fun _ => 0, (vcons (u_9.2.1 4) (vcons (u_12.2.1 0) (vcons (u_12.2.1 1) (vcons (u_12.2.1 2) (vcons (u_12.2.1 3) (vcons (fun _ => 0) (vcons (fun _ => (u_9.2.1 0 0)) (vcons (u_17.2.1 0) (vcons (u_8.2.1 0) (fun _ => (fun _ => 0))))))))))), fun _ _ => 0) ⟨hv118_18_0, (rg_wide w9_2 (by decide) (by decide)), (rg_wide w12_0 (by decide) (by decide)), (⟨by decide +kernel, by decide +kernel⟩ : 0 ≤ (0 : Int32).toInt ∧ (0 : Int32).toInt ≤ 0), (bw w9_0 (by decide) (by decide)), w17_0, w8_0, w17_1, trivial⟩ [8, 9, 4, 5, 1, 6, 10, 7, 0, 2, 3] rfl rfl dX12_judge_118 (Nat.le_of_ble_eq_true rfl) (Nat.le_of_ble_eq_true rfl)
        · skip
          refine lv_if_ne (tgt := 94) hx hb dX12_judge_75 (by decide) (fun c_19 => ?_) (fun c_19 => ?_)
          · replace c_19 := i_ne (x := p1) (y := 0) rfl (show (0 : Int32).toInt = 0 by decide) c_19
            refine lv_iload_n hx hb dX12_judge_94 rfl (lv_at hl_16 4 rfl) ?_
            refine lv_iconst (v := 1) hx hb dX12_judge_95 (by decide) ?_
            refine lv_icmp_ne (tgt := 106) hx hb dX12_judge_96 (by decide) (fun c_20 => ?_) (fun c_20 => ?_)
            · replace c_20 := i_ne (x := p1) (y := 1) rfl (show (1 : Int32).toInt = 1 by decide) c_20
              refine lv_iload_n hx hb dX12_judge_106 rfl (lv_at hl_16 4 rfl) ?_
              refine lv_iconst (v := 2) hx hb dX12_judge_107 (by decide) ?_
              refine lv_icmp_ne (tgt := 116) hx hb dX12_judge_108 (by decide) (fun c_21 => ?_) (fun c_21 => ?_)
              · replace c_21 := i_ne (x := p1) (y := 2) rfl (show (2 : Int32).toInt = 2 by decide) c_21
                refine lv_iload hx hb dX12_judge_116 (lv_at hl_16 0 rfl) ?_
                exact J_118 _ _ _ _ ⟨z_15, ⟨by omega, by omega⟩, rfl, h_17, (lv_sub hl_16 [2, 3, 4, 5, 6, 1, 0] rfl)⟩
              · replace c_21 := i_eq (x := p1) (y := 2) rfl (show (2 : Int32).toInt = 2 by decide) c_21
                refine lv_iload hx hb dX12_judge_111 (lv_at hl_16 1 rfl) ?_
                refine lv_goto (tgt := 118) hx hb dX12_judge_113 (by decide) ?_
                exact J_118 _ _ _ _ ⟨v59_13_0, (bw hv59_13_0 (by decide) (by decide)), rfl, h_17, (lv_sub hl_16 [2, 3, 4, 5, 6, 1, 0] rfl)⟩
            · replace c_20 := i_eq (x := p1) (y := 1) rfl (show (1 : Int32).toInt = 1 by decide) c_20
              refine lv_aload_n hx hb dX12_judge_99 rfl (lv_at hl_16 2 rfl) ?_
              refine q_get X hK h_17 8 rfl rfl wf_12 21 (by decide) rfl wm_5_191 dX12_judge_100 ?_
              refine lv_goto (tgt := 118) hx hb dX12_judge_103 (by decide) ?_
              exact J_118 _ _ _ _ ⟨(u_9.2.1 0 0), (bw w9_0 (by decide) (by decide)), rfl, h_17, (lv_sub hl_16 [2, 3, 4, 5, 6, 1, 0] rfl)⟩
          · replace c_19 := i_eq (x := p1) (y := 0) rfl (show (0 : Int32).toInt = 0 by decide) c_19
            refine lv_aload_n hx hb dX12_judge_78 rfl (lv_at hl_16 2 rfl) ?_
            refine q_get X hK h_17 8 rfl rfl wf_12 21 (by decide) rfl wm_5_191 dX12_judge_79 ?_
            refine lv_if_ne (tgt := 89) hx hb dX12_judge_82 (by decide) (fun c_22 => ?_) (fun c_22 => ?_)
            · replace c_22 := i_ne (x := (u_9.2.1 0 0)) (y := 0) rfl (show (0 : Int32).toInt = 0 by decide) c_22
              refine lv_iload hx hb dX12_judge_89 (lv_at hl_16 6 rfl) ?_
              refine lv_goto (tgt := 118) hx hb dX12_judge_91 (by decide) ?_
              exact J_118 _ _ _ _ ⟨r_9, (bw wr_9 (by decide) (by decide)), rfl, h_17, (lv_sub hl_16 [2, 3, 4, 5, 6, 1, 0] rfl)⟩
            · replace c_22 := i_eq (x := (u_9.2.1 0 0)) (y := 0) rfl (show (0 : Int32).toInt = 0 by decide) c_22
              refine lv_iconst (v := (-1)) hx hb dX12_judge_85 (by decide) ?_
              refine lv_goto (tgt := 118) hx hb dX12_judge_86 (by decide) ?_
              exact J_118 _ _ _ _ ⟨(-1), ⟨by decide +kernel, by decide +kernel⟩, rfl, h_17, (lv_sub hl_16 [2, 3, 4, 5, 6, 1, 0] rfl)⟩
      · skip
        refine lv_if_eq (tgt := 58) hx hb dX12_judge_51 (by decide) (fun c_23 => ?_) (fun c_23 => ?_)
        · replace c_23 := i_eq (x := r_12) (y := 0) rfl (show (0 : Int32).toInt = 0 by decide) c_23
          refine lv_iconst (v := 0) hx hb dX12_judge_58 (by decide) ?_
          exact J_59 _ _ _ _ ⟨0, ⟨by decide +kernel, by decide +kernel⟩, rfl, h_12, (lv_sub hl_10 [2, 3, 4, 1, 0] rfl)⟩
        · replace c_23 := i_ne (x := r_12) (y := 0) rfl (show (0 : Int32).toInt = 0 by decide) c_23
          refine lv_iconst (v := 1) hx hb dX12_judge_54 (by decide) ?_
          refine lv_goto (tgt := 59) hx hb dX12_judge_55 (by decide) ?_
          exact J_59 _ _ _ _ ⟨1, ⟨by decide +kernel, by decide +kernel⟩, rfl, h_12, (lv_sub hl_10 [2, 3, 4, 1, 0] rfl)⟩
    · replace c_7 := i_ne (x := r_5) (y := 0) rfl (show (0 : Int32).toInt = 0 by decide) c_7
      refine lv_iload_n hx hb dX12_judge_30 rfl (lv_at hl_6 0 rfl) ?_
      exact q_iret X hr hlk hK h_5 rfl (fun _ => 0, (vcons f3 (vcons f1 (vcons f2 (vcons f4 (vcons f6 (vcons (fun _ => 0) (vcons (fun _ => p14) (vcons f0 (vcons f5 (fun _ => (fun _ => 0))))))))))), fun _ _ => 0) ⟨(bw wr_5 (by decide) (by decide)), (rg_wide rf3 (by decide) (by decide)), (rg_wide rf4 (by decide) (by decide)), (⟨by decide +kernel, by decide +kernel⟩ : 0 ≤ (0 : Int32).toInt ∧ (0 : Int32).toInt ≤ 0), hp14, rf0, rf5, htf0_84, trivial⟩ [9, 0, 1, 2, 3, 4, 5, 6, 10, 7, 8] rfl rfl dX12_judge_31 (Nat.le_of_ble_eq_true rfl) (Nat.le_of_ble_eq_true rfl)
  · replace c_4 := i_eq (x := r_3) (y := 0) rfl (show (0 : Int32).toInt = 0 by decide) c_4
    replace y3_0 := a10_0 y3_0 c_4
    refine lv_bipush (v := (-2)) hx hb dX12_judge_17 (by decide) ?_
    exact q_iret X hr hlk hK h_3 rfl (fun _ => 0, (vcons f3 (vcons f1 (vcons f2 (vcons f4 (vcons f6 (vcons (fun _ => 0) (vcons (fun _ => p14) (vcons f0 (vcons f5 (fun _ => (fun _ => 0))))))))))), fun _ _ => 0) ⟨⟨by decide +kernel, by decide +kernel⟩, (rg_wide rf3 (by decide) (by decide)), (rg_wide rf4 (by decide) (by decide)), (⟨by decide +kernel, by decide +kernel⟩ : 0 ≤ (0 : Int32).toInt ∧ (0 : Int32).toInt ≤ 0), hp14, rf0, rf5, htf0_84, trivial⟩ [0, 1, 2, 3, 4, 5, 6, 7, 8, 9, 10] rfl rfl dX12_judge_19 (Nat.le_of_ble_eq_true rfl) (Nat.le_of_ble_eq_true rfl)
set_option maxHeartbeats 4000000 in
set_option maxRecDepth 100000 in
theorem gX12_perform_224864d (l : Launch) (D : va_G) (cy : Nat → ClassId) (h0 : Nat) (h1 : Nat) (h2 : Nat) (h3 : Nat) (h4 : Nat) (h5 : Nat) (h6 : Nat) (h7 : Nat) (h8 : Nat) (p0 : Int32) (p1 : Int32) (w0 : Value) (w1 : Value) (w2 : Value) (p2 : Int32) (p3 : Int32) (p4 : Int32) (p5 : Int32) (p6 : Int32) (p7 : Int32) (p8 : Int32) (p9 : Int32) (p10 : Int32) (p11 : Int32) (p12 : Int32) (w3 : Value) (p13 : Int32) (p14 : Int32) (w4 : Value) (w5 : Value) (w6 : Value) (p15 : Int32) (p16 : Int32) (w7 : Value) (w8 : Value) (w9 : Value) (w10 : Value) (w11 : Value) (p17 : Int32) (f0 : Nat → Int32) (p18 : Int32) (f1 : Nat → Int32) (f2 : Nat → Int32) (f3 : Nat → Int32) (f4 : Nat → Int32) (f5 : Nat → Int32) (f6 : Nat → Int32) (g0 : Nat → Int64) (hp0 : (-2147483648) ≤ (p0).toInt ∧ (p0).toInt ≤ 2147483647) (hp1 : (-2147483648) ≤ (p1).toInt ∧ (p1).toInt ≤ 2147483647) (hp2 : 0 ≤ (p2).toInt ∧ (p2).toInt ≤ 900) (hp3 : 0 ≤ (p3).toInt ∧ (p3).toInt ≤ 900) (hp4 : 0 ≤ (p4).toInt ∧ (p4).toInt ≤ 900) (hp5 : 0 ≤ (p5).toInt ∧ (p5).toInt ≤ 900) (hp6 : (-2147483648) ≤ (p6).toInt ∧ (p6).toInt ≤ 2147483647) (hp7 : 0 ≤ (p7).toInt ∧ (p7).toInt ≤ 999) (hp8 : (-2147483648) ≤ (p8).toInt ∧ (p8).toInt ≤ 2147483647) (hp9 : (-2147483648) ≤ (p9).toInt ∧ (p9).toInt ≤ 2147483647) (hp10 : (-2147483648) ≤ (p10).toInt ∧ (p10).toInt ≤ 2147483647) (hp11 : (-2147483648) ≤ (p11).toInt ∧ (p11).toInt ≤ 2147483647) (hp12 : (-2147483648) ≤ (p12).toInt ∧ (p12).toInt ≤ 2147483647) (hp13 : (-2147483648) ≤ (p13).toInt ∧ (p13).toInt ≤ 2147483647) (hp14 : (-2147483648) ≤ (p14).toInt ∧ (p14).toInt ≤ 2147483647) (hp15 : (-2147483648) ≤ (p15).toInt ∧ (p15).toInt ≤ 2147483647) (hp16 : (-2147483648) ≤ (p16).toInt ∧ (p16).toInt ≤ 2147483647) (hp17 : (-2147483648) ≤ (p17).toInt ∧ (p17).toInt ≤ 2147483647) (hp18 : 0 ≤ (p18).toInt ∧ (p18).toInt ≤ 10) (htf0_84 : f0 84 = p18) (rf0 : AL f0) (rf3 : RG f3 3 0 9) (rf4 : WA f4) (rf6 : RG f6 4 0 40) (sz : Nat) : MI l yX12_perform cX12_perform 4 .int { frames := 6, cells := 0, slots := 0, locals := 139 } [.ref h0, .int p0] D cy (wk_de5320454 cy h0 p1 h1 w0 w1 w2 p2 p3 p4 p5 p6 p7 p8 p9 p10 p11 p12 h2 h3 h4 w3 h5 p13 p14 w4 w5 w6 p15 p16 w7 w8 w9 w10 w11 p17 h6 h7 h8 h1 f0 h2 f1 h3 f2 h4 f3 h5 f4 h6 f5 h7 f6 h8 g0) sz (fun r u => ((-6) ≤ r.toInt ∧ r.toInt ≤ 40) ∧ WA (u.2.1 0) ∧ (0 ≤ (u.2.1 1 0).toInt ∧ (u.2.1 1 0).toInt ≤ 0) ∧ ((-2147483648) ≤ (u.2.1 2 0).toInt ∧ (u.2.1 2 0).toInt ≤ 2147483647) ∧ AL (u.2.1 3) ∧ (0 ≤ (u.2.1 4 0).toInt ∧ (u.2.1 4 0).toInt ≤ 10) ∧ RG (u.2.1 7) 3 0 9 ∧ (u.2.1 3) 84 = (u.2.1 4 0) ∧ True) (fun u => (wk_de5320454 cy h0 (u.2.1 1 0) h1 w0 w1 w2 p2 p3 p4 p5 p6 p7 p8 p9 p10 p11 p12 h2 h3 h4 w3 h5 (u.2.1 2 0) p14 w4 w5 w6 p15 p16 w7 w8 w9 w10 w11 p17 h6 h7 h8 h1 (u.2.1 3) h2 (u.2.1 5) h3 (u.2.1 6) h4 (u.2.1 7) h5 (u.2.1 0) h6 f5 h7 f6 h8 g0)) 0 0 := by
  refine q_ent (own := RX12) (by decide) rfl (Nat.le_of_ble_eq_true rfl) (fun p e s m below meth c ls X hr hlk hnm hK hT h hA hl => ?_)
  obtain ⟨hx, hb, hml, hown, ht⟩ := id X
  replace hl : lv_has ls 4 [(0, .ref h0), (1, .int p0)] := hl
  refine lv_aload_n hx hb dX12_perform_0 rfl (lv_at hl 0 rfl) ?_
  refine lv_iconst (v := 0) hx hb dX12_perform_1 (by decide) ?_
  refine q_put (v := .int 0) X hK h 0 rfl rfl wf_12 tyX12 tyX12_ok nmX12 0 (by decide) wm_5_170 rfl rfl rfl (Nat.le_of_ble_eq_true rfl) dX12_perform_2 (fun H locs h_1 => ?_)
  clear h
  replace h_1 : qW D _ _ (wk_de5320454 cy h0 0 h1 w0 w1 w2 p2 p3 p4 p5 p6 p7 p8 p9 p10 p11 p12 h2 h3 h4 w3 h5 p13 p14 w4 w5 w6 p15 p16 w7 w8 w9 w10 w11 p17 h6 h7 h8 h1 f0 h2 f1 h3 f2 h4 f3 h5 f4 h6 f5 h7 f6 h8 g0) _ _ := h_1
  refine lv_aload_n hx hb dX12_perform_5 rfl (lv_at hl 0 rfl) ?_
  refine lv_iload_n hx hb dX12_perform_6 rfl (lv_at hl 1 rfl) ?_
  refine q_callVi (rest := []) (wr := [(h1, .inl (cy 1, 3918, .inl f0)), (h2, .inl (cy 1, 900, .inl f1)), (h3, .inl (cy 1, 11, .inl f2)), (h4, .inl (cy 1, 3, .inl f3)), (h5, .inl (cy 1, 32, .inl f4)), (h7, .inl (cy 1, 4, .inl f6)), (h8, .inl (cy 2, 160, .inr (.inl g0)))]) X hK hT hA h_1 (fun sz => gX12_noTray_c6f52ea l D cy h0 h6 p0 (0 : Int32) (.ref h1) w0 w1 w2 p2 p3 p4 p5 p6 p7 p8 p9 p10 p11 p12 (.ref h2) (.ref h3) (.ref h4) w3 (.ref h5) p13 p14 w4 w5 w6 p15 p16 w7 w8 w9 w10 w11 p17 (.ref h7) (.ref h8) f5 (i_rng _) ⟨by decide +kernel, by decide +kernel⟩ hp2 hp3 hp4 hp5 (i_rng _) hp7 (i_rng _) (i_rng _) (i_rng _) (i_rng _) (i_rng _) (i_rng _) (i_rng _) (i_rng _) (i_rng _) (i_rng _) sz) wm_7_30 wm_7_33 wm_1_12 hd_X12_noTray wm_7_32 wp_6_6 (ci := 12) (q0 := 0) rfl rfl ⟨Nat.le_of_ble_eq_true rfl, Nat.le_of_ble_eq_true rfl⟩ hl.1 rfl (Nat.le_of_ble_eq_true rfl) dX12_perform_7 ⟨Nat.le_of_ble_eq_true rfl, Nat.le_of_ble_eq_true rfl⟩ [0, 6] [1, 2, 3, 4, 5, 7, 8] rfl rfl (by decide) rfl rfl (fun r_2 u_2 H locs w_2 h_2 => ?_)
  clear h_1
  obtain ⟨wr_2, y2_0, _⟩ := w_2
  replace h_2 : qW D _ _ [(h1, .inl (cy 1, 3918, .inl f0)), (h2, .inl (cy 1, 900, .inl f1)), (h3, .inl (cy 1, 11, .inl f2)), (h4, .inl (cy 1, 3, .inl f3)), (h5, .inl (cy 1, 32, .inl f4)), (h7, .inl (cy 1, 4, .inl f6)), (h8, .inl (cy 2, 160, .inr (.inl g0))), (h0, .inr (12, [.int 0, .ref h1, w0, w1, w2, .int p2, .int p3, .int p4, .int p5, .int p6, .int p7, .int p8, .int p9, .int p10, .int p11, .int p12, .ref h2, .ref h3, .ref h4, w3, .ref h5, .int p13, .int p14, w4, w5, w6, .int p15, .int p16, w7, w8, w9, w10, w11, .int p17, .ref h6, .ref h7, .ref h8])), (h6, .inl (cy 1, 4, .inl f5))] _ _ := h_2
  refine lv_istore_n (lv' := [(2, .int r_2), (0, .ref h0), (1, .int p0)]) hx hb dX12_perform_10 rfl hl (by decide) rfl (fun ls_3 hl_3 => ?_)
  clear hl
  refine lv_iload_n hx hb dX12_perform_11 rfl (lv_at hl_3 0 rfl) ?_
  refine lv_if_eq (tgt := 17) hx hb dX12_perform_12 (by decide) (fun c_4 => ?_) (fun c_4 => ?_)
  · replace c_4 := i_eq (x := r_2) (y := 0) rfl (show (0 : Int32).toInt = 0 by decide) c_4
    refine lv_aload_n hx hb dX12_perform_17 rfl (lv_at hl_3 1 rfl) ?_
    refine q_callVv (rest := []) (wr := [(h2, .inl (cy 1, 900, .inl f1)), (h3, .inl (cy 1, 11, .inl f2)), (h4, .inl (cy 1, 3, .inl f3)), (h7, .inl (cy 1, 4, .inl f6)), (h8, .inl (cy 2, 160, .inr (.inl g0))), (h6, .inl (cy 1, 4, .inl f5))]) X hK hT hA h_2 (fun sz => gX12_keeps_814ac6b l D cy h0 h1 h5 (0 : Int32) w0 w1 w2 p2 p3 p4 p5 p6 p7 p8 p9 p10 p11 p12 (.ref h2) (.ref h3) (.ref h4) w3 p13 p14 w4 w5 w6 p15 p16 w7 w8 w9 w10 w11 p17 (.ref h6) (.ref h7) (.ref h8) f0 p18 f4 ⟨by decide +kernel, by decide +kernel⟩ hp2 hp3 hp4 hp5 (i_rng _) hp7 (i_rng _) (i_rng _) (i_rng _) (i_rng _) (i_rng _) (i_rng _) (i_rng _) (i_rng _) (i_rng _) (i_rng _) hp18 htf0_84 rf0 rf4 sz) wm_6_220 wm_6_223 wm_1_12 hd_X12_keeps wm_6_222 wp_6_0 (ci := 12) (q0 := 0) rfl rfl ⟨Nat.le_of_ble_eq_true rfl, Nat.le_of_ble_eq_true rfl⟩ hl_3.1 rfl (Nat.le_of_ble_eq_true rfl) dX12_perform_18 ⟨Nat.le_of_ble_eq_true rfl, Nat.le_of_ble_eq_true rfl⟩ [7, 0, 4] [1, 2, 3, 5, 6, 8] rfl rfl (by decide) rfl rfl (fun u_5 H locs w_5 h_5 => ?_)
    clear h_2
    obtain ⟨w5_0, _⟩ := w_5
    replace h_5 : qW D _ _ [(h2, .inl (cy 1, 900, .inl f1)), (h3, .inl (cy 1, 11, .inl f2)), (h4, .inl (cy 1, 3, .inl f3)), (h7, .inl (cy 1, 4, .inl f6)), (h8, .inl (cy 2, 160, .inr (.inl g0))), (h6, .inl (cy 1, 4, .inl f5)), (h0, .inr (12, [.int 0, .ref h1, w0, w1, w2, .int p2, .int p3, .int p4, .int p5, .int p6, .int p7, .int p8, .int p9, .int p10, .int p11, .int p12, .ref h2, .ref h3, .ref h4, w3, .ref h5, .int p13, .int p14, w4, w5, w6, .int p15, .int p16, w7, w8, w9, w10, w11, .int p17, .ref h6, .ref h7, .ref h8])), (h1, .inl (cy 1, 3918, .inl f0)), (h5, .inl (cy 1, 32, .inl (u_5.2.1 0)))] _ _ := h_5
    refine lv_aload_n hx hb dX12_perform_21 rfl (lv_at hl_3 1 rfl) ?_
    refine lv_iload_n hx hb dX12_perform_22 rfl (lv_at hl_3 2 rfl) ?_
    refine q_callVi (rest := []) (wr := [(h6, .inl (cy 1, 4, .inl f5)), (h5, .inl (cy 1, 32, .inl (u_5.2.1 0)))]) X hK hT hA h_5 (fun sz => gX12_tells_f7a3d50 l D cy h0 h1 h2 h3 h4 h7 h8 p0 (0 : Int32) w0 w1 w2 p2 p3 p4 p5 p6 p7 p8 p9 p10 p11 p12 w3 (.ref h5) p13 p14 w4 w5 w6 p15 p16 w7 w8 w9 w10 w11 p17 (.ref h6) f0 p18 f1 f2 f3 f6 g0 ⟨by omega, by omega⟩ ⟨by decide +kernel, by decide +kernel⟩ hp2 hp3 hp4 hp5 (i_rng _) hp7 (i_rng _) (i_rng _) (i_rng _) (i_rng _) (i_rng _) (i_rng _) (i_rng _) (i_rng _) (i_rng _) (i_rng _) hp18 htf0_84 rf0 (rg_wide rf3 (by decide) (by decide)) (rg_wide rf6 (by decide) (by decide)) sz) wm_7_34 wm_7_37 wm_1_12 hd_X12_tells wm_7_36 wp_6_7 (ci := 12) (q0 := 0) rfl rfl ⟨Nat.le_of_ble_eq_true rfl, Nat.le_of_ble_eq_true rfl⟩ hl_3.1 rfl (Nat.le_of_ble_eq_true rfl) dX12_perform_23 ⟨Nat.le_of_ble_eq_true rfl, Nat.le_of_ble_eq_true rfl⟩ [6, 7, 0, 1, 2, 3, 4] [5, 8] rfl rfl (by decide) rfl rfl (fun r_6 u_6 H locs w_6 h_6 => ?_)
    clear h_5
    obtain ⟨wr_6, w6_0, w6_1, w6_2, w6_3, _⟩ := w_6
    replace h_6 : qW D _ _ (wk_ec84e3810 cy h6 f5 h5 (u_5.2.1 0) h0 0 h1 w0 w1 w2 p2 p3 p4 p5 p6 p7 p8 p9 p10 p11 p12 h2 h3 h4 w3 h5 (u_6.2.1 0 0) p14 w4 w5 w6 p15 p16 w7 w8 w9 w10 w11 p17 h6 h7 h8 h1 (u_6.2.1 1) h2 (u_6.2.1 2) h3 (u_6.2.1 3) h4 (u_6.2.1 4) h7 f6 h8 g0) _ _ := h_6
    refine lv_istore_n (lv' := [(3, .int r_6), (2, .int r_2), (0, .ref h0), (1, .int p0)]) hx hb dX12_perform_26 rfl hl_3 (by decide) rfl (fun ls_7 hl_7 => ?_)
    clear hl_3
    refine lv_iload_n hx hb dX12_perform_27 rfl (lv_at hl_7 0 rfl) ?_
    refine q_jn (pc2 := 35) (fun H locs ls st => ∃ v35_8_1 : Int32, ∃ v35_8_0 : Nat → Int32, (0 ≤ (v35_8_1).toInt ∧ (v35_8_1).toInt ≤ 10) ∧ v35_8_0 84 = v35_8_1 ∧ AL v35_8_0 ∧ st = [] ∧ qW D (va_A (wk_de5320454 cy h0 p1 h1 w0 w1 w2 p2 p3 p4 p5 p6 p7 p8 p9 p10 p11 p12 h2 h3 h4 w3 h5 p13 p14 w4 w5 w6 p15 p16 w7 w8 w9 w10 w11 p17 h6 h7 h8 h1 f0 h2 f1 h3 f2 h4 f3 h5 f4 h6 f5 h7 f6 h8 g0) sz) s.heap (wk_ec84e3810 cy h6 f5 h5 (u_5.2.1 0) h0 0 h1 w0 w1 w2 p2 p3 p4 p5 p6 p7 p8 p9 p10 p11 p12 h2 h3 h4 w3 h5 (u_6.2.1 0 0) p14 w4 w5 w6 p15 p16 w7 w8 w9 w10 w11 p17 h6 h7 h8 h1 v35_8_0 h2 (u_6.2.1 2) h3 (u_6.2.1 3) h4 (u_6.2.1 4) h7 f6 h8 g0) H locs ∧ lv_has ls 4 [(0, .ref h0), (1, .int p0), (2, .int r_2), (3, .int r_6)]) (fun H locs ls st hP => ?_) (fun J_35 => ?_)
    · obtain ⟨v35_8_1, v35_8_0, hv35_8_1, trv35_8_0_84, rv35_8_0, rfl, h, hl⟩ := hP
      refine lv_iload_n hx hb dX12_perform_35 rfl (lv_at hl 3 rfl) ?_
      exact q_iret X hr hlk hK h rfl (fun _ => 0, (vcons (u_5.2.1 0) (vcons (fun _ => 0) (vcons (fun _ => (u_6.2.1 0 0)) (vcons v35_8_0 (vcons (fun _ => v35_8_1) (vcons (u_6.2.1 2) (vcons (u_6.2.1 3) (vcons (u_6.2.1 4) (fun _ => (fun _ => 0)))))))))), fun _ _ => 0) ⟨(bw wr_6 (by decide) (by decide)), w5_0, (⟨by decide +kernel, by decide +kernel⟩ : 0 ≤ (0 : Int32).toInt ∧ (0 : Int32).toInt ≤ 0), (bw w6_0 (by decide) (by decide)), rv35_8_0, hv35_8_1, (rg_wide w6_2 (by decide) (by decide)), trv35_8_0_84, trivial⟩ [2, 3, 4, 5, 6, 1, 0, 7, 8] rfl rfl dX12_perform_36 (Nat.le_of_ble_eq_true rfl) (Nat.le_of_ble_eq_true rfl)
    · skip
      refine lv_if_le (tgt := 35) hx hb dX12_perform_28 (by decide) (fun c_9 => ?_) (fun c_9 => ?_)
      · replace c_9 := i_le (x := r_6) (y := 0) rfl (show (0 : Int32).toInt = 0 by decide) c_9
        exact J_35 _ _ _ _ ⟨p18, (u_6.2.1 1), hp18, w6_3, w6_1, rfl, h_6, (lv_sub hl_7 [2, 3, 1, 0] rfl)⟩
      · replace c_9 := i_nle (x := r_6) (y := 0) rfl (show (0 : Int32).toInt = 0 by decide) c_9
        refine lv_aload_n hx hb dX12_perform_31 rfl (lv_at hl_7 2 rfl) ?_
        refine q_callVv (rest := []) (wr := [(h6, .inl (cy 1, 4, .inl f5)), (h2, .inl (cy 1, 900, .inl (u_6.2.1 2))), (h3, .inl (cy 1, 11, .inl (u_6.2.1 3))), (h4, .inl (cy 1, 3, .inl (u_6.2.1 4))), (h7, .inl (cy 1, 4, .inl f6)), (h8, .inl (cy 2, 160, .inr (.inl g0)))]) X hK hT hA h_6 (fun sz => gX12_notes_fd80d29 l D cy h0 h1 h5 (0 : Int32) w0 w1 w2 p2 p3 p4 p5 p6 p7 p8 p9 p10 p11 p12 (.ref h2) (.ref h3) (.ref h4) w3 (u_6.2.1 0 0) p14 w4 w5 w6 p15 p16 w7 w8 w9 w10 w11 p17 (.ref h6) (.ref h7) (.ref h8) (u_6.2.1 1) p18 (u_5.2.1 0) ⟨by decide +kernel, by decide +kernel⟩ hp2 hp3 hp4 hp5 (i_rng _) hp7 (i_rng _) (i_rng _) (i_rng _) (i_rng _) (i_rng _) (i_rng _) (i_rng _) (i_rng _) (i_rng _) (i_rng _) hp18 w6_3 w6_1 w5_0 sz) wm_6_232 wm_6_235 wm_1_12 hd_X12_notes wm_6_234 wp_6_3 (ci := 12) (q0 := 0) rfl rfl ⟨Nat.le_of_ble_eq_true rfl, Nat.le_of_ble_eq_true rfl⟩ hl_7.1 rfl (Nat.le_of_ble_eq_true rfl) dX12_perform_32 ⟨Nat.le_of_ble_eq_true rfl, Nat.le_of_ble_eq_true rfl⟩ [2, 3, 1] [0, 4, 5, 6, 7, 8] rfl rfl (by decide) rfl rfl (fun u_10 H locs w_10 h_10 => ?_)
        clear h_6
        obtain ⟨w10_0, w10_1, w10_2, _⟩ := w_10
        replace h_10 : qW D _ _ [(h6, .inl (cy 1, 4, .inl f5)), (h2, .inl (cy 1, 900, .inl (u_6.2.1 2))), (h3, .inl (cy 1, 11, .inl (u_6.2.1 3))), (h4, .inl (cy 1, 3, .inl (u_6.2.1 4))), (h7, .inl (cy 1, 4, .inl f6)), (h8, .inl (cy 2, 160, .inr (.inl g0))), (h0, .inr (12, [.int 0, .ref h1, w0, w1, w2, .int p2, .int p3, .int p4, .int p5, .int p6, .int p7, .int p8, .int p9, .int p10, .int p11, .int p12, .ref h2, .ref h3, .ref h4, w3, .ref h5, .int (u_6.2.1 0 0), .int p14, w4, w5, w6, .int p15, .int p16, w7, w8, w9, w10, w11, .int p17, .ref h6, .ref h7, .ref h8])), (h1, .inl (cy 1, 3918, .inl (u_10.2.1 0))), (h5, .inl (cy 1, 32, .inl (u_5.2.1 0)))] _ _ := h_10
        exact J_35 _ _ _ _ ⟨(u_10.2.1 1 0), (u_10.2.1 0), (bw w10_1 (by decide) (by decide)), w10_2, w10_0, rfl, (q_re h_10 [0, 8, 6, 7, 1, 2, 3, 4, 5] rfl rfl), (lv_sub hl_7 [2, 3, 1, 0] rfl)⟩
  · replace c_4 := i_ne (x := r_2) (y := 0) rfl (show (0 : Int32).toInt = 0 by decide) c_4
    refine lv_iload_n hx hb dX12_perform_15 rfl (lv_at hl_3 0 rfl) ?_
    exact q_iret X hr hlk hK h_2 rfl (fun _ => 0, (vcons f4 (vcons (fun _ => 0) (vcons (fun _ => p13) (vcons f0 (vcons (fun _ => p18) (vcons f1 (vcons f2 (vcons f3 (fun _ => (fun _ => 0)))))))))), fun _ _ => 0) ⟨(bw wr_2 (by decide) (by decide)), rf4, (⟨by decide +kernel, by decide +kernel⟩ : 0 ≤ (0 : Int32).toInt ∧ (0 : Int32).toInt ≤ 0), hp13, rf0, hp18, (rg_wide rf3 (by decide) (by decide)), htf0_84, trivial⟩ [7, 0, 1, 2, 3, 4, 8, 5, 6] rfl rfl dX12_perform_16 (Nat.le_of_ble_eq_true rfl) (Nat.le_of_ble_eq_true rfl)
set_option maxHeartbeats 4000000 in
set_option maxRecDepth 100000 in
theorem gX12_draw_4456584 (l : Launch) (D : va_G) (cy : Nat → ClassId) (h0 : Nat) (p0 : Int32) (w0 : Value) (w1 : Value) (w2 : Value) (w3 : Value) (p1 : Int32) (p2 : Int32) (p3 : Int32) (p4 : Int32) (p5 : Int32) (p6 : Int32) (p7 : Int32) (p8 : Int32) (p9 : Int32) (p10 : Int32) (p11 : Int32) (w4 : Value) (w5 : Value) (w6 : Value) (w7 : Value) (w8 : Value) (p12 : Int32) (p13 : Int32) (w9 : Value) (w10 : Value) (w11 : Value) (p14 : Int32) (p15 : Int32) (w12 : Value) (w13 : Value) (w14 : Value) (w15 : Value) (w16 : Value) (p16 : Int32) (w17 : Value) (w18 : Value) (w19 : Value) (hp0 : 0 ≤ (p0).toInt ∧ (p0).toInt ≤ 0) (hp1 : 0 ≤ (p1).toInt ∧ (p1).toInt ≤ 900) (hp2 : 0 ≤ (p2).toInt ∧ (p2).toInt ≤ 900) (hp3 : 0 ≤ (p3).toInt ∧ (p3).toInt ≤ 900) (hp4 : 0 ≤ (p4).toInt ∧ (p4).toInt ≤ 900) (hp5 : (-2147483648) ≤ (p5).toInt ∧ (p5).toInt ≤ 2147483647) (hp6 : 0 ≤ (p6).toInt ∧ (p6).toInt ≤ 999) (hp7 : (-2147483648) ≤ (p7).toInt ∧ (p7).toInt ≤ 2147483647) (hp8 : (-2147483648) ≤ (p8).toInt ∧ (p8).toInt ≤ 2147483647) (hp9 : (-2147483648) ≤ (p9).toInt ∧ (p9).toInt ≤ 2147483647) (hp10 : (-2147483648) ≤ (p10).toInt ∧ (p10).toInt ≤ 2147483647) (hp11 : (-2147483648) ≤ (p11).toInt ∧ (p11).toInt ≤ 2147483647) (hp12 : (-2147483648) ≤ (p12).toInt ∧ (p12).toInt ≤ 2147483647) (hp13 : (-2147483648) ≤ (p13).toInt ∧ (p13).toInt ≤ 2147483647) (hp14 : (-2147483648) ≤ (p14).toInt ∧ (p14).toInt ≤ 2147483647) (hp15 : (-2147483648) ≤ (p15).toInt ∧ (p15).toInt ≤ 2147483647) (hp16 : (-2147483648) ≤ (p16).toInt ∧ (p16).toInt ≤ 2147483647) (sz : Nat) : MI l yX12_draw cX12_draw 2 .int { frames := 0, cells := 0, slots := 0, locals := 0 } [.ref h0, .int 4] D cy [(h0, .inr (12, [.int p0, w0, w1, w2, w3, .int p1, .int p2, .int p3, .int p4, .int p5, .int p6, .int p7, .int p8, .int p9, .int p10, .int p11, w4, w5, w6, w7, w8, .int p12, .int p13, w9, w10, w11, .int p14, .int p15, w12, w13, w14, w15, w16, .int p16, w17, w18, w19]))] sz (fun r u => ((-2147483648) ≤ r.toInt ∧ r.toInt ≤ 2147483647) ∧ ((-2147483648) ≤ (u.2.1 0 0).toInt ∧ (u.2.1 0 0).toInt ≤ 2147483647) ∧ True) (fun u => [(h0, .inr (12, [.int p0, w0, w1, w2, w3, .int p1, .int p2, .int p3, .int p4, .int p5, .int p6, .int p7, .int p8, .int p9, .int p10, .int p11, w4, w5, w6, w7, w8, .int p12, .int (u.2.1 0 0), w9, w10, w11, .int p14, .int p15, w12, w13, w14, w15, w16, .int p16, w17, w18, w19]))]) 0 0 := by
  refine q_ent (own := RX12) (by decide) rfl (Nat.le_of_ble_eq_true rfl) (fun p e s m below meth c ls X hr hlk hnm hK hT h hA hl => ?_)
  obtain ⟨hx, hb, hml, hown, ht⟩ := id X
  replace hl : lv_has ls 2 [(0, .ref h0), (1, .int 4)] := hl
  refine lv_aload_n hx hb dX12_draw_0 rfl (lv_at hl 0 rfl) ?_
  refine lv_ldcw hx hb hown (ht _ wm_7_91) dX12_draw_1 ?_
  refine lv_aload_n hx hb dX12_draw_4 rfl (lv_at hl 0 rfl) ?_
  refine q_get X hK h 0 rfl rfl wf_12 22 (by decide) rfl wm_5_192 dX12_draw_5 ?_
  refine lv_imul hx hb dX12_draw_8 ?_
  refine q_any (fun z_1 hz_1 => ?_)
  refine lv_sipush (v := 12345) hx hb dX12_draw_9 (by decide) ?_
  refine lv_iadd hx hb dX12_draw_12 ?_
  refine q_any (fun z_2 hz_2 => ?_)
  refine q_put (v := .int z_2) X hK h 0 rfl rfl wf_12 tyX12 tyX12_ok nmX12 22 (by decide) wm_5_192 rfl rfl rfl (Nat.le_of_ble_eq_true rfl) dX12_draw_13 (fun H locs h_3 => ?_)
  clear h
  replace h_3 : qW D _ _ [(h0, .inr (12, [.int p0, w0, w1, w2, w3, .int p1, .int p2, .int p3, .int p4, .int p5, .int p6, .int p7, .int p8, .int p9, .int p10, .int p11, w4, w5, w6, w7, w8, .int p12, .int z_2, w9, w10, w11, .int p14, .int p15, w12, w13, w14, w15, w16, .int p16, w17, w18, w19]))] _ _ := h_3
  refine lv_aload_n hx hb dX12_draw_16 rfl (lv_at hl 0 rfl) ?_
  refine q_get X hK h_3 0 rfl rfl wf_12 22 (by decide) rfl wm_5_192 dX12_draw_17 ?_
  refine lv_bipush (v := 16) hx hb dX12_draw_20 (by decide) ?_
  refine lv_iushr hx hb dX12_draw_22 rfl ?_
  refine q_any (fun z_4 hz_4 => ?_)
  refine lv_iload_n hx hb dX12_draw_23 rfl (lv_at hl 1 rfl) ?_
  refine lv_irem hx hb dX12_draw_24 (by decide) ?_
  refine q_any (fun z_5 hz_5 => ?_)
  exact q_iret X hr hlk hK h_3 rfl (fun _ => 0, (vcons (fun _ => z_2) (fun _ => (fun _ => 0))), fun _ _ => 0) ⟨⟨by omega, by omega⟩, (⟨by omega, by omega⟩ : (-2147483648) ≤ (z_2 : Int32).toInt ∧ (z_2 : Int32).toInt ≤ 2147483647), trivial⟩ [0] rfl rfl dX12_draw_25 (Nat.le_of_ble_eq_true rfl) (Nat.le_of_ble_eq_true rfl)
set_option maxHeartbeats 4000000 in
set_option maxRecDepth 100000 in
theorem gX12_draw_a844e70 (l : Launch) (D : va_G) (cy : Nat → ClassId) (h0 : Nat) (p0 : Int32) (w0 : Value) (w1 : Value) (w2 : Value) (w3 : Value) (p1 : Int32) (p2 : Int32) (p3 : Int32) (p4 : Int32) (p5 : Int32) (p6 : Int32) (p7 : Int32) (p8 : Int32) (p9 : Int32) (p10 : Int32) (p11 : Int32) (w4 : Value) (w5 : Value) (w6 : Value) (w7 : Value) (w8 : Value) (p12 : Int32) (p13 : Int32) (w9 : Value) (w10 : Value) (w11 : Value) (p14 : Int32) (p15 : Int32) (w12 : Value) (w13 : Value) (w14 : Value) (w15 : Value) (w16 : Value) (p16 : Int32) (w17 : Value) (w18 : Value) (w19 : Value) (hp0 : 0 ≤ (p0).toInt ∧ (p0).toInt ≤ 0) (hp1 : 0 ≤ (p1).toInt ∧ (p1).toInt ≤ 900) (hp2 : 0 ≤ (p2).toInt ∧ (p2).toInt ≤ 900) (hp3 : 0 ≤ (p3).toInt ∧ (p3).toInt ≤ 900) (hp4 : 0 ≤ (p4).toInt ∧ (p4).toInt ≤ 900) (hp5 : (-2147483648) ≤ (p5).toInt ∧ (p5).toInt ≤ 2147483647) (hp6 : 0 ≤ (p6).toInt ∧ (p6).toInt ≤ 999) (hp7 : (-2147483648) ≤ (p7).toInt ∧ (p7).toInt ≤ 2147483647) (hp8 : (-2147483648) ≤ (p8).toInt ∧ (p8).toInt ≤ 2147483647) (hp9 : (-2147483648) ≤ (p9).toInt ∧ (p9).toInt ≤ 2147483647) (hp10 : (-2147483648) ≤ (p10).toInt ∧ (p10).toInt ≤ 2147483647) (hp11 : (-2147483648) ≤ (p11).toInt ∧ (p11).toInt ≤ 2147483647) (hp12 : (-2147483648) ≤ (p12).toInt ∧ (p12).toInt ≤ 2147483647) (hp13 : (-2147483648) ≤ (p13).toInt ∧ (p13).toInt ≤ 2147483647) (hp14 : (-2147483648) ≤ (p14).toInt ∧ (p14).toInt ≤ 2147483647) (hp15 : (-2147483648) ≤ (p15).toInt ∧ (p15).toInt ≤ 2147483647) (hp16 : (-2147483648) ≤ (p16).toInt ∧ (p16).toInt ≤ 2147483647) (sz : Nat) : MI l yX12_draw cX12_draw 2 .int { frames := 0, cells := 0, slots := 0, locals := 0 } [.ref h0, .int 10] D cy [(h0, .inr (12, [.int p0, w0, w1, w2, w3, .int p1, .int p2, .int p3, .int p4, .int p5, .int p6, .int p7, .int p8, .int p9, .int p10, .int p11, w4, w5, w6, w7, w8, .int p12, .int p13, w9, w10, w11, .int p14, .int p15, w12, w13, w14, w15, w16, .int p16, w17, w18, w19]))] sz (fun r u => ((-2147483648) ≤ r.toInt ∧ r.toInt ≤ 2147483647) ∧ ((-2147483648) ≤ (u.2.1 0 0).toInt ∧ (u.2.1 0 0).toInt ≤ 2147483647) ∧ True) (fun u => [(h0, .inr (12, [.int p0, w0, w1, w2, w3, .int p1, .int p2, .int p3, .int p4, .int p5, .int p6, .int p7, .int p8, .int p9, .int p10, .int p11, w4, w5, w6, w7, w8, .int p12, .int (u.2.1 0 0), w9, w10, w11, .int p14, .int p15, w12, w13, w14, w15, w16, .int p16, w17, w18, w19]))]) 0 0 := by
  refine q_ent (own := RX12) (by decide) rfl (Nat.le_of_ble_eq_true rfl) (fun p e s m below meth c ls X hr hlk hnm hK hT h hA hl => ?_)
  obtain ⟨hx, hb, hml, hown, ht⟩ := id X
  replace hl : lv_has ls 2 [(0, .ref h0), (1, .int 10)] := hl
  refine lv_aload_n hx hb dX12_draw_0 rfl (lv_at hl 0 rfl) ?_
  refine lv_ldcw hx hb hown (ht _ wm_7_91) dX12_draw_1 ?_
  refine lv_aload_n hx hb dX12_draw_4 rfl (lv_at hl 0 rfl) ?_
  refine q_get X hK h 0 rfl rfl wf_12 22 (by decide) rfl wm_5_192 dX12_draw_5 ?_
  refine lv_imul hx hb dX12_draw_8 ?_
  refine q_any (fun z_1 hz_1 => ?_)
  refine lv_sipush (v := 12345) hx hb dX12_draw_9 (by decide) ?_
  refine lv_iadd hx hb dX12_draw_12 ?_
  refine q_any (fun z_2 hz_2 => ?_)
  refine q_put (v := .int z_2) X hK h 0 rfl rfl wf_12 tyX12 tyX12_ok nmX12 22 (by decide) wm_5_192 rfl rfl rfl (Nat.le_of_ble_eq_true rfl) dX12_draw_13 (fun H locs h_3 => ?_)
  clear h
  replace h_3 : qW D _ _ [(h0, .inr (12, [.int p0, w0, w1, w2, w3, .int p1, .int p2, .int p3, .int p4, .int p5, .int p6, .int p7, .int p8, .int p9, .int p10, .int p11, w4, w5, w6, w7, w8, .int p12, .int z_2, w9, w10, w11, .int p14, .int p15, w12, w13, w14, w15, w16, .int p16, w17, w18, w19]))] _ _ := h_3
  refine lv_aload_n hx hb dX12_draw_16 rfl (lv_at hl 0 rfl) ?_
  refine q_get X hK h_3 0 rfl rfl wf_12 22 (by decide) rfl wm_5_192 dX12_draw_17 ?_
  refine lv_bipush (v := 16) hx hb dX12_draw_20 (by decide) ?_
  refine lv_iushr hx hb dX12_draw_22 rfl ?_
  refine q_any (fun z_4 hz_4 => ?_)
  refine lv_iload_n hx hb dX12_draw_23 rfl (lv_at hl 1 rfl) ?_
  refine lv_irem hx hb dX12_draw_24 (by decide) ?_
  refine q_any (fun z_5 hz_5 => ?_)
  exact q_iret X hr hlk hK h_3 rfl (fun _ => 0, (vcons (fun _ => z_2) (fun _ => (fun _ => 0))), fun _ _ => 0) ⟨⟨by omega, by omega⟩, (⟨by omega, by omega⟩ : (-2147483648) ≤ (z_2 : Int32).toInt ∧ (z_2 : Int32).toInt ≤ 2147483647), trivial⟩ [0] rfl rfl dX12_draw_25 (Nat.le_of_ble_eq_true rfl) (Nat.le_of_ble_eq_true rfl)
set_option maxHeartbeats 4000000 in
set_option maxRecDepth 100000 in
theorem gX12_drawn_2a50122 (l : Launch) (D : va_G) (cy : Nat → ClassId) (h0 : Nat) (p0 : Int32) (w0 : Value) (w1 : Value) (w2 : Value) (w3 : Value) (p1 : Int32) (p2 : Int32) (p3 : Int32) (p4 : Int32) (p5 : Int32) (p6 : Int32) (p7 : Int32) (p8 : Int32) (p9 : Int32) (p10 : Int32) (p11 : Int32) (w4 : Value) (w5 : Value) (w6 : Value) (w7 : Value) (w8 : Value) (p12 : Int32) (p13 : Int32) (w9 : Value) (w10 : Value) (w11 : Value) (p14 : Int32) (p15 : Int32) (w12 : Value) (w13 : Value) (w14 : Value) (w15 : Value) (w16 : Value) (p16 : Int32) (w17 : Value) (w18 : Value) (w19 : Value) (hp0 : 0 ≤ (p0).toInt ∧ (p0).toInt ≤ 0) (hp1 : 0 ≤ (p1).toInt ∧ (p1).toInt ≤ 900) (hp2 : 0 ≤ (p2).toInt ∧ (p2).toInt ≤ 900) (hp3 : 0 ≤ (p3).toInt ∧ (p3).toInt ≤ 900) (hp4 : 0 ≤ (p4).toInt ∧ (p4).toInt ≤ 900) (hp5 : (-2147483648) ≤ (p5).toInt ∧ (p5).toInt ≤ 2147483647) (hp6 : 0 ≤ (p6).toInt ∧ (p6).toInt ≤ 999) (hp7 : (-2147483648) ≤ (p7).toInt ∧ (p7).toInt ≤ 2147483647) (hp8 : (-2147483648) ≤ (p8).toInt ∧ (p8).toInt ≤ 2147483647) (hp9 : (-2147483648) ≤ (p9).toInt ∧ (p9).toInt ≤ 2147483647) (hp10 : (-2147483648) ≤ (p10).toInt ∧ (p10).toInt ≤ 2147483647) (hp11 : (-2147483648) ≤ (p11).toInt ∧ (p11).toInt ≤ 2147483647) (hp12 : (-2147483648) ≤ (p12).toInt ∧ (p12).toInt ≤ 2147483647) (hp13 : (-2147483648) ≤ (p13).toInt ∧ (p13).toInt ≤ 2147483647) (hp14 : (-2147483648) ≤ (p14).toInt ∧ (p14).toInt ≤ 2147483647) (hp15 : (-2147483648) ≤ (p15).toInt ∧ (p15).toInt ≤ 2147483647) (hp16 : (-2147483648) ≤ (p16).toInt ∧ (p16).toInt ≤ 2147483647) (sz : Nat) : MI l yX12_drawn cX12_drawn 3 .int { frames := 1, cells := 0, slots := 0, locals := 21 } [.ref h0] D cy [(h0, .inr (12, [.int p0, w0, w1, w2, w3, .int p1, .int p2, .int p3, .int p4, .int p5, .int p6, .int p7, .int p8, .int p9, .int p10, .int p11, w4, w5, w6, w7, w8, .int p12, .int p13, w9, w10, w11, .int p14, .int p15, w12, w13, w14, w15, w16, .int p16, w17, w18, w19]))] sz (fun r u => ((-2147483648) ≤ r.toInt ∧ r.toInt ≤ 2147483647) ∧ ((-2147483648) ≤ (u.2.1 0 0).toInt ∧ (u.2.1 0 0).toInt ≤ 2147483647) ∧ True) (fun u => [(h0, .inr (12, [.int p0, w0, w1, w2, w3, .int p1, .int p2, .int p3, .int p4, .int p5, .int p6, .int p7, .int p8, .int p9, .int p10, .int p11, w4, w5, w6, w7, w8, .int p12, .int (u.2.1 0 0), w9, w10, w11, .int p14, .int p15, w12, w13, w14, w15, w16, .int p16, w17, w18, w19]))]) 0 0 := by
  refine q_ent (own := RX12) (by decide) rfl (Nat.le_of_ble_eq_true rfl) (fun p e s m below meth c ls X hr hlk hnm hK hT h hA hl => ?_)
  obtain ⟨hx, hb, hml, hown, ht⟩ := id X
  replace hl : lv_has ls 3 [(0, .ref h0)] := hl
  refine lv_aload_n hx hb dX12_drawn_0 rfl (lv_at hl 0 rfl) ?_
  refine lv_iconst (v := 4) hx hb dX12_drawn_1 (by decide) ?_
  refine q_callVi (rest := []) (wr := []) X hK hT hA h (fun sz => gX12_draw_4456584 l D cy h0 p0 w0 w1 w2 w3 p1 p2 p3 p4 p5 p6 p7 p8 p9 p10 p11 w4 w5 w6 w7 w8 p12 p13 w9 w10 w11 p14 p15 w12 w13 w14 w15 w16 p16 w17 w18 w19 hp0 hp1 hp2 hp3 hp4 (i_rng _) hp6 (i_rng _) (i_rng _) (i_rng _) (i_rng _) (i_rng _) (i_rng _) (i_rng _) (i_rng _) (i_rng _) (i_rng _) sz) wm_7_87 wm_7_90 wm_1_12 hd_X12_draw wm_7_89 wp_7_0 (ci := 12) (q0 := 0) rfl rfl ⟨Nat.le_of_ble_eq_true rfl, Nat.le_of_ble_eq_true rfl⟩ hl.1 rfl (Nat.le_of_ble_eq_true rfl) dX12_drawn_2 ⟨Nat.le_of_ble_eq_true rfl, Nat.le_of_ble_eq_true rfl⟩ [0] [] rfl rfl (by decide) rfl rfl (fun r_1 u_1 H locs w_1 h_1 => ?_)
  clear h
  obtain ⟨wr_1, w1_0, _⟩ := w_1
  replace h_1 : qW D _ _ [(h0, .inr (12, [.int p0, w0, w1, w2, w3, .int p1, .int p2, .int p3, .int p4, .int p5, .int p6, .int p7, .int p8, .int p9, .int p10, .int p11, w4, w5, w6, w7, w8, .int p12, .int (u_1.2.1 0 0), w9, w10, w11, .int p14, .int p15, w12, w13, w14, w15, w16, .int p16, w17, w18, w19]))] _ _ := h_1
  refine lv_istore_n (lv' := [(1, .int r_1), (0, .ref h0)]) hx hb dX12_drawn_5 rfl hl (by decide) rfl (fun ls_2 hl_2 => ?_)
  clear hl
  refine lv_iload_n hx hb dX12_drawn_6 rfl (lv_at hl_2 0 rfl) ?_
  refine lv_if_ne (tgt := 12) hx hb dX12_drawn_7 (by decide) (fun c_3 => ?_) (fun c_3 => ?_)
  · replace c_3 := i_ne (x := r_1) (y := 0) rfl (show (0 : Int32).toInt = 0 by decide) c_3
    refine lv_aload_n hx hb dX12_drawn_12 rfl (lv_at hl_2 1 rfl) ?_
    refine lv_bipush (v := 10) hx hb dX12_drawn_13 (by decide) ?_
    refine q_callVi (rest := []) (wr := []) X hK hT hA h_1 (fun sz => gX12_draw_a844e70 l D cy h0 p0 w0 w1 w2 w3 p1 p2 p3 p4 p5 p6 p7 p8 p9 p10 p11 w4 w5 w6 w7 w8 p12 (u_1.2.1 0 0) w9 w10 w11 p14 p15 w12 w13 w14 w15 w16 p16 w17 w18 w19 hp0 hp1 hp2 hp3 hp4 (i_rng _) hp6 (i_rng _) (i_rng _) (i_rng _) (i_rng _) (i_rng _) (i_rng _) (i_rng _) (i_rng _) (i_rng _) (i_rng _) sz) wm_7_87 wm_7_90 wm_1_12 hd_X12_draw wm_7_89 wp_7_0 (ci := 12) (q0 := 0) rfl rfl ⟨Nat.le_of_ble_eq_true rfl, Nat.le_of_ble_eq_true rfl⟩ hl_2.1 rfl (Nat.le_of_ble_eq_true rfl) dX12_drawn_15 ⟨Nat.le_of_ble_eq_true rfl, Nat.le_of_ble_eq_true rfl⟩ [0] [] rfl rfl (by decide) rfl rfl (fun r_4 u_4 H locs w_4 h_4 => ?_)
    clear h_1
    obtain ⟨wr_4, w4_0, _⟩ := w_4
    replace h_4 : qW D _ _ [(h0, .inr (12, [.int p0, w0, w1, w2, w3, .int p1, .int p2, .int p3, .int p4, .int p5, .int p6, .int p7, .int p8, .int p9, .int p10, .int p11, w4, w5, w6, w7, w8, .int p12, .int (u_4.2.1 0 0), w9, w10, w11, .int p14, .int p15, w12, w13, w14, w15, w16, .int p16, w17, w18, w19]))] _ _ := h_4
    refine lv_istore_n (lv' := [(2, .int r_4), (1, .int r_1), (0, .ref h0)]) hx hb dX12_drawn_18 rfl hl_2 (by decide) rfl (fun ls_5 hl_5 => ?_)
    clear hl_2
    refine lv_iload_n hx hb dX12_drawn_19 rfl (lv_at hl_5 1 rfl) ?_
    refine lv_iconst (v := 1) hx hb dX12_drawn_20 (by decide) ?_
    refine q_jn (pc2 := 55) (fun H locs ls st => ∃ v55_6_0 : Int32, ∃ v55_6_1 : Int32, ((-2147483648) ≤ (v55_6_0).toInt ∧ (v55_6_0).toInt ≤ 2147483647) ∧ ((-2147483648) ≤ (v55_6_1).toInt ∧ (v55_6_1).toInt ≤ 2147483647) ∧ st = [.int v55_6_1] ∧ qW D (va_A [(h0, .inr (12, [.int p0, w0, w1, w2, w3, .int p1, .int p2, .int p3, .int p4, .int p5, .int p6, .int p7, .int p8, .int p9, .int p10, .int p11, w4, w5, w6, w7, w8, .int p12, .int p13, w9, w10, w11, .int p14, .int p15, w12, w13, w14, w15, w16, .int p16, w17, w18, w19]))] sz) s.heap [(h0, .inr (12, [.int p0, w0, w1, w2, w3, .int p1, .int p2, .int p3, .int p4, .int p5, .int p6, .int p7, .int p8, .int p9, .int p10, .int p11, w4, w5, w6, w7, w8, .int p12, .int v55_6_0, w9, w10, w11, .int p14, .int p15, w12, w13, w14, w15, w16, .int p16, w17, w18, w19]))] H locs ∧ lv_has ls 3 [(0, .ref h0), (1, .int r_1), (2, .int r_4)]) (fun H locs ls st hP => ?_) (fun J_55 => ?_)
    · obtain ⟨v55_6_0, v55_6_1, hv55_6_0, hv55_6_1, rfl, h, hl⟩ := hP
      exact q_iret X hr hlk hK h rfl (fun _ => 0, (vcons (fun _ => v55_6_0) (fun _ => (fun _ => 0))), fun _ _ => 0) ⟨hv55_6_1, hv55_6_0, trivial⟩ [0] rfl rfl dX12_drawn_55 (Nat.le_of_ble_eq_true rfl) (Nat.le_of_ble_eq_true rfl)
    · skip
      refine lv_icmp_ne (tgt := 38) hx hb dX12_drawn_21 (by decide) (fun c_7 => ?_) (fun c_7 => ?_)
      · replace c_7 := i_ne (x := r_1) (y := 1) rfl (show (1 : Int32).toInt = 1 by decide) c_7
        refine lv_iload_n hx hb dX12_drawn_38 rfl (lv_at hl_5 1 rfl) ?_
        refine lv_iconst (v := 2) hx hb dX12_drawn_39 (by decide) ?_
        refine lv_icmp_ne (tgt := 50) hx hb dX12_drawn_40 (by decide) (fun c_8 => ?_) (fun c_8 => ?_)
        · replace c_8 := i_ne (x := r_1) (y := 2) rfl (show (2 : Int32).toInt = 2 by decide) c_8
          refine lv_sipush (v := 200) hx hb dX12_drawn_50 (by decide) ?_
          refine lv_iload_n hx hb dX12_drawn_53 rfl (lv_at hl_5 0 rfl) ?_
          refine lv_iadd hx hb dX12_drawn_54 ?_
          refine q_any (fun z_9 hz_9 => ?_)
          exact J_55 _ _ _ _ ⟨(u_4.2.1 0 0), z_9, w4_0, ⟨by omega, by omega⟩, rfl, h_4, (lv_sub hl_5 [2, 1, 0] rfl)⟩
        · replace c_8 := i_eq (x := r_1) (y := 2) rfl (show (2 : Int32).toInt = 2 by decide) c_8
          refine lv_bipush (v := 100) hx hb dX12_drawn_43 (by decide) ?_
          refine lv_iload_n hx hb dX12_drawn_45 rfl (lv_at hl_5 0 rfl) ?_
          refine lv_iadd hx hb dX12_drawn_46 ?_
          refine q_any (fun z_10 hz_10 => ?_)
          refine lv_goto (tgt := 55) hx hb dX12_drawn_47 (by decide) ?_
          exact J_55 _ _ _ _ ⟨(u_4.2.1 0 0), z_10, w4_0, ⟨by omega, by omega⟩, rfl, h_4, (lv_sub hl_5 [2, 1, 0] rfl)⟩
      · replace c_7 := i_eq (x := r_1) (y := 1) rfl (show (1 : Int32).toInt = 1 by decide) c_7
        refine lv_bipush (v := 10) hx hb dX12_drawn_24 (by decide) ?_
        refine lv_iload_n hx hb dX12_drawn_26 rfl (lv_at hl_5 0 rfl) ?_
        refine lv_imul hx hb dX12_drawn_27 ?_
        refine q_any (fun z_11 hz_11 => ?_)
        refine lv_aload_n hx hb dX12_drawn_28 rfl (lv_at hl_5 2 rfl) ?_
        refine lv_bipush (v := 10) hx hb dX12_drawn_29 (by decide) ?_
        refine q_callVi (rest := [.int z_11]) (wr := []) X hK hT hA h_4 (fun sz => gX12_draw_a844e70 l D cy h0 p0 w0 w1 w2 w3 p1 p2 p3 p4 p5 p6 p7 p8 p9 p10 p11 w4 w5 w6 w7 w8 p12 (u_4.2.1 0 0) w9 w10 w11 p14 p15 w12 w13 w14 w15 w16 p16 w17 w18 w19 hp0 hp1 hp2 hp3 hp4 (i_rng _) hp6 (i_rng _) (i_rng _) (i_rng _) (i_rng _) (i_rng _) (i_rng _) (i_rng _) (i_rng _) (i_rng _) (i_rng _) sz) wm_7_87 wm_7_90 wm_1_12 hd_X12_draw wm_7_89 wp_7_0 (ci := 12) (q0 := 0) rfl rfl ⟨Nat.le_of_ble_eq_true rfl, Nat.le_of_ble_eq_true rfl⟩ hl_5.1 rfl (Nat.le_of_ble_eq_true rfl) dX12_drawn_31 ⟨Nat.le_of_ble_eq_true rfl, Nat.le_of_ble_eq_true rfl⟩ [0] [] rfl rfl (by decide) rfl rfl (fun r_12 u_12 H locs w_12 h_12 => ?_)
        clear h_4
        obtain ⟨wr_12, w12_0, _⟩ := w_12
        replace h_12 : qW D _ _ [(h0, .inr (12, [.int p0, w0, w1, w2, w3, .int p1, .int p2, .int p3, .int p4, .int p5, .int p6, .int p7, .int p8, .int p9, .int p10, .int p11, w4, w5, w6, w7, w8, .int p12, .int (u_12.2.1 0 0), w9, w10, w11, .int p14, .int p15, w12, w13, w14, w15, w16, .int p16, w17, w18, w19]))] _ _ := h_12
        refine lv_iadd hx hb dX12_drawn_34 ?_
        refine q_any (fun z_13 hz_13 => ?_)
        refine lv_goto (tgt := 55) hx hb dX12_drawn_35 (by decide) ?_
        exact J_55 _ _ _ _ ⟨(u_12.2.1 0 0), z_13, w12_0, ⟨by omega, by omega⟩, rfl, h_12, (lv_sub hl_5 [2, 1, 0] rfl)⟩
  · replace c_3 := i_eq (x := r_1) (y := 0) rfl (show (0 : Int32).toInt = 0 by decide) c_3
    refine lv_iconst (v := (-1)) hx hb dX12_drawn_10 (by decide) ?_
    exact q_iret X hr hlk hK h_1 rfl (fun _ => 0, (vcons (fun _ => (u_1.2.1 0 0)) (fun _ => (fun _ => 0))), fun _ _ => 0) ⟨⟨by decide +kernel, by decide +kernel⟩, w1_0, trivial⟩ [0] rfl rfl dX12_drawn_11 (Nat.le_of_ble_eq_true rfl) (Nat.le_of_ble_eq_true rfl)
set_option maxHeartbeats 4000000 in
set_option maxRecDepth 100000 in
theorem gX12_year_fa35dbf (l : Launch) (D : va_G) (cy : Nat → ClassId) (h0 : Nat) (h1 : Nat) (h2 : Nat) (h3 : Nat) (h4 : Nat) (h5 : Nat) (p0 : Int32) (p1 : Int32) (p2 : Int32) (w0 : Value) (w1 : Value) (w2 : Value) (p3 : Int32) (p4 : Int32) (p5 : Int32) (p6 : Int32) (p7 : Int32) (p8 : Int32) (p9 : Int32) (p10 : Int32) (p11 : Int32) (p12 : Int32) (p13 : Int32) (w3 : Value) (p14 : Int32) (p15 : Int32) (w4 : Value) (w5 : Value) (w6 : Value) (p16 : Int32) (p17 : Int32) (w7 : Value) (w8 : Value) (w9 : Value) (w10 : Value) (w11 : Value) (p18 : Int32) (w12 : Value) (w13 : Value) (w14 : Value) (f0 : Nat → Int32) (p19 : Int32) (f1 : Nat → Int32) (f2 : Nat → Int32) (f3 : Nat → Int32) (f4 : Nat → Int32) (hp0 : (-2147483648) ≤ (p0).toInt ∧ (p0).toInt ≤ 2147483647) (hp1 : (-2147483648) ≤ (p1).toInt ∧ (p1).toInt ≤ 2147483647) (hp2 : (-2147483648) ≤ (p2).toInt ∧ (p2).toInt ≤ 2147483647) (hp3 : 0 ≤ (p3).toInt ∧ (p3).toInt ≤ 900) (hp4 : 0 ≤ (p4).toInt ∧ (p4).toInt ≤ 900) (hp5 : 0 ≤ (p5).toInt ∧ (p5).toInt ≤ 900) (hp6 : 0 ≤ (p6).toInt ∧ (p6).toInt ≤ 900) (hp7 : (-2147483648) ≤ (p7).toInt ∧ (p7).toInt ≤ 2147483647) (hp8 : 0 ≤ (p8).toInt ∧ (p8).toInt ≤ 999) (hp9 : (-2147483648) ≤ (p9).toInt ∧ (p9).toInt ≤ 2147483647) (hp10 : (-2147483648) ≤ (p10).toInt ∧ (p10).toInt ≤ 2147483647) (hp11 : (-2147483648) ≤ (p11).toInt ∧ (p11).toInt ≤ 2147483647) (hp12 : (-2147483648) ≤ (p12).toInt ∧ (p12).toInt ≤ 2147483647) (hp13 : (-2147483648) ≤ (p13).toInt ∧ (p13).toInt ≤ 2147483647) (hp14 : (-2147483648) ≤ (p14).toInt ∧ (p14).toInt ≤ 2147483647) (hp15 : (-2147483648) ≤ (p15).toInt ∧ (p15).toInt ≤ 2147483647) (hp16 : (-2147483648) ≤ (p16).toInt ∧ (p16).toInt ≤ 2147483647) (hp17 : (-2147483648) ≤ (p17).toInt ∧ (p17).toInt ≤ 2147483647) (hp18 : (-2147483648) ≤ (p18).toInt ∧ (p18).toInt ≤ 2147483647) (hp19 : 0 ≤ (p19).toInt ∧ (p19).toInt ≤ 10) (htf0_84 : f0 84 = p19) (rf0 : AL f0) (rf3 : RG f3 3 0 9) (rf4 : WA f4) (sz : Nat) : MI l yX12_year cX12_year 6 .int { frames := 5, cells := 0, slots := 0, locals := 117 } [.ref h0, .int p0, .int p1] D cy (wk_c1caaabd7 cy h0 p2 h1 w0 w1 w2 p3 p4 p5 p6 p7 p8 p9 p10 p11 p12 p13 h2 h3 h4 w3 h5 p14 p15 w4 w5 w6 p16 p17 w7 w8 w9 w10 w11 p18 w12 w13 w14 h1 f0 h2 f1 h3 f2 h4 f3 h5 f4) sz (fun r u => ((-2147483648) ≤ r.toInt ∧ r.toInt ≤ 2147483647) ∧ RG (u.2.1 2) 3 0 9 ∧ (0 ≤ (u.2.1 3 0).toInt ∧ (u.2.1 3 0).toInt ≤ 0) ∧ ((-2147483648) ≤ (u.2.1 4 0).toInt ∧ (u.2.1 4 0).toInt ≤ 2147483647) ∧ AL (u.2.1 5) ∧ (0 ≤ (u.2.1 6 0).toInt ∧ (u.2.1 6 0).toInt ≤ 10) ∧ WA (u.2.1 7) ∧ (u.2.1 5) 84 = (u.2.1 6 0) ∧ True) (fun u => (wk_c1caaabd7 cy h0 (u.2.1 3 0) h1 w0 w1 w2 p3 p4 p5 p6 p7 p8 p9 p10 p11 p12 p13 h2 h3 h4 w3 h5 p14 (u.2.1 4 0) w4 w5 w6 p16 p17 w7 w8 w9 w10 w11 p18 w12 w13 w14 h1 (u.2.1 5) h2 (u.2.1 0) h3 (u.2.1 1) h4 (u.2.1 2) h5 (u.2.1 7))) 0 0 := by
  refine q_ent (own := RX12) (by decide) rfl (Nat.le_of_ble_eq_true rfl) (fun p e s m below meth c ls X hr hlk hnm hK hT h hA hl => ?_)
  obtain ⟨hx, hb, hml, hown, ht⟩ := id X
  replace hl : lv_has ls 6 [(0, .ref h0), (1, .int p0), (2, .int p1)] := hl
  refine lv_aload_n hx hb dX12_year_0 rfl (lv_at hl 0 rfl) ?_
  refine lv_iconst (v := 0) hx hb dX12_year_1 (by decide) ?_
  refine q_put (v := .int 0) X hK h 0 rfl rfl wf_12 tyX12 tyX12_ok nmX12 0 (by decide) wm_5_170 rfl rfl rfl (Nat.le_of_ble_eq_true rfl) dX12_year_2 (fun H locs h_1 => ?_)
  clear h
  replace h_1 : qW D _ _ (wk_c1caaabd7 cy h0 0 h1 w0 w1 w2 p3 p4 p5 p6 p7 p8 p9 p10 p11 p12 p13 h2 h3 h4 w3 h5 p14 p15 w4 w5 w6 p16 p17 w7 w8 w9 w10 w11 p18 w12 w13 w14 h1 f0 h2 f1 h3 f2 h4 f3 h5 f4) _ _ := h_1
  refine lv_iload_n hx hb dX12_year_5 rfl (lv_at hl 2 rfl) ?_
  refine lv_i2l hx hb dX12_year_6 rfl ?_
  obtain ⟨z_2, ez_2, hz_2⟩ := e_i2l (x := p1) rfl
  refine q_cl z_2 ez_2 ?_
  clear ez_2
  refine lv_lconst (v := 1) hx hb dX12_year_7 (by decide) ?_
  refine lv_ldc2 hx hb hown (ht _ wm_7_82) dX12_year_8 ?_
  refine q_callSi (rest := []) (wr := (wk_c1caaabd7 cy h0 0 h1 w0 w1 w2 p3 p4 p5 p6 p7 p8 p9 p10 p11 p12 p13 h2 h3 h4 w3 h5 p14 p15 w4 w5 w6 p16 p17 w7 w8 w9 w10 w11 p18 w12 w13 w14 h1 f0 h2 f1 h3 f2 h4 f3 h5 f4)) X hK hT hA h_1 (fun sz => gX12_within_00c7897 l D cy z_2 (1 : Int64) (40 : Int64) (j_rng _) ⟨by decide +kernel, by decide +kernel⟩ ⟨by decide +kernel, by decide +kernel⟩ sz) wm_6_50 wm_6_52 wm_1_12 hd_X12_within wm_6_51 ⟨Nat.le_of_ble_eq_true rfl, Nat.le_of_ble_eq_true rfl⟩ hl.1 rfl (Nat.le_of_ble_eq_true rfl) dX12_year_11 ⟨Nat.le_of_ble_eq_true rfl, Nat.le_of_ble_eq_true rfl⟩ [] [0, 1, 2, 3, 4, 5] rfl rfl (by decide) rfl rfl (fun r_3 u_3 H locs w_3 h_3 => ?_)
  clear h_1
  obtain ⟨wr_3, y3_0, _⟩ := w_3
  have lq_3_1 : (1 : Int64).toInt = 1 := (by decide)
  have lq_3_2 : (40 : Int64).toInt = 40 := (by decide)
  replace h_3 : qW D _ _ (wk_c1caaabd7 cy h0 0 h1 w0 w1 w2 p3 p4 p5 p6 p7 p8 p9 p10 p11 p12 p13 h2 h3 h4 w3 h5 p14 p15 w4 w5 w6 p16 p17 w7 w8 w9 w10 w11 p18 w12 w13 w14 h1 f0 h2 f1 h3 f2 h4 f3 h5 f4) _ _ := h_3
  refine lv_if_ne (tgt := 20) hx hb dX12_year_14 (by decide) (fun c_4 => ?_) (fun c_4 => ?_)
  · replace c_4 := i_ne (x := r_3) (y := 0) rfl (show (0 : Int32).toInt = 0 by decide) c_4
    replace y3_0 := a10_1 y3_0 c_4
    refine lv_aload_n hx hb dX12_year_20 rfl (lv_at hl 0 rfl) ?_
    refine q_callVv (rest := []) (wr := (wk_840316d5a cy h2 f1 h3 f2 h4 f3)) X hK hT hA h_3 (fun sz => gX12_keeps_814ac6b l D cy h0 h1 h5 (0 : Int32) w0 w1 w2 p3 p4 p5 p6 p7 p8 p9 p10 p11 p12 p13 (.ref h2) (.ref h3) (.ref h4) w3 p14 p15 w4 w5 w6 p16 p17 w7 w8 w9 w10 w11 p18 w12 w13 w14 f0 p19 f4 ⟨by decide +kernel, by decide +kernel⟩ hp3 hp4 hp5 hp6 (i_rng _) hp8 (i_rng _) (i_rng _) (i_rng _) (i_rng _) (i_rng _) (i_rng _) (i_rng _) (i_rng _) (i_rng _) (i_rng _) hp19 htf0_84 rf0 rf4 sz) wm_6_220 wm_6_223 wm_1_12 hd_X12_keeps wm_6_222 wp_6_0 (ci := 12) (q0 := 0) rfl rfl ⟨Nat.le_of_ble_eq_true rfl, Nat.le_of_ble_eq_true rfl⟩ hl.1 rfl (Nat.le_of_ble_eq_true rfl) dX12_year_21 ⟨Nat.le_of_ble_eq_true rfl, Nat.le_of_ble_eq_true rfl⟩ [0, 1, 5] [2, 3, 4] rfl rfl (by decide) rfl rfl (fun u_5 H locs w_5 h_5 => ?_)
    clear h_3
    obtain ⟨w5_0, _⟩ := w_5
    replace h_5 : qW D _ _ (wk_e7966dd3c cy h2 f1 h3 f2 h4 f3 h0 0 h1 w0 w1 w2 p3 p4 p5 p6 p7 p8 p9 p10 p11 p12 p13 h2 h3 h4 w3 h5 p14 p15 w4 w5 w6 p16 p17 w7 w8 w9 w10 w11 p18 w12 w13 w14 h1 f0 h5 (u_5.2.1 0)) _ _ := h_5
    refine lv_aload_n hx hb dX12_year_24 rfl (lv_at hl 0 rfl) ?_
    refine lv_iload_n hx hb dX12_year_25 rfl (lv_at hl 1 rfl) ?_
    refine q_put (v := .int p0) X hK h_5 3 rfl rfl wf_12 tyX12 tyX12_ok nmX12 22 (by decide) wm_5_192 rfl rfl rfl (Nat.le_of_ble_eq_true rfl) dX12_year_26 (fun H locs h_6 => ?_)
    clear h_5
    replace h_6 : qW D _ _ (wk_e7966dd3c cy h2 f1 h3 f2 h4 f3 h0 0 h1 w0 w1 w2 p3 p4 p5 p6 p7 p8 p9 p10 p11 p12 p13 h2 h3 h4 w3 h5 p14 p0 w4 w5 w6 p16 p17 w7 w8 w9 w10 w11 p18 w12 w13 w14 h1 f0 h5 (u_5.2.1 0)) _ _ := h_6
    refine lv_iconst (v := 0) hx hb dX12_year_29 (by decide) ?_
    refine lv_istore_n (lv' := [(3, .int 0), (0, .ref h0), (1, .int p0), (2, .int p1)]) hx hb dX12_year_30 rfl hl (by decide) rfl (fun ls_7 hl_7 => ?_)
    clear hl
    refine lv_iconst (v := 0) hx hb dX12_year_31 (by decide) ?_
    refine lv_istore (lv' := [(4, .int 0), (3, .int 0), (0, .ref h0), (1, .int p0), (2, .int p1)]) hx hb dX12_year_32 hl_7 (by decide) rfl (fun ls_8 hl_8 => ?_)
    clear hl_7
    refine q_wl (fun (q : Int32 × Int32 × Int32) H locs ls => match q with | (v34_9_0, v34_9_1, v34_9_5) => ∃ v34_9_2 : Nat → Int32, ∃ v34_9_3 : Nat → Int32, ∃ v34_9_4 : Nat → Int32, ∃ v34_9_6 : Nat → Int32, (0 ≤ (v34_9_0).toInt ∧ (v34_9_0).toInt ≤ 40) ∧ ((-2147483648) ≤ (v34_9_1).toInt ∧ (v34_9_1).toInt ≤ 2147483647) ∧ ((-2147483648) ≤ (v34_9_5).toInt ∧ (v34_9_5).toInt ≤ 2147483647) ∧ RG v34_9_4 3 0 9 ∧ v34_9_6 84 = p19 ∧ AL v34_9_6 ∧ qW D (va_A (wk_c1caaabd7 cy h0 p2 h1 w0 w1 w2 p3 p4 p5 p6 p7 p8 p9 p10 p11 p12 p13 h2 h3 h4 w3 h5 p14 p15 w4 w5 w6 p16 p17 w7 w8 w9 w10 w11 p18 w12 w13 w14 h1 f0 h2 f1 h3 f2 h4 f3 h5 f4) sz) s.heap (wk_e7966dd3c cy h2 v34_9_2 h3 v34_9_3 h4 v34_9_4 h0 0 h1 w0 w1 w2 p3 p4 p5 p6 p7 p8 p9 p10 p11 p12 p13 h2 h3 h4 w3 h5 p14 v34_9_5 w4 w5 w6 p16 p17 w7 w8 w9 w10 w11 p18 w12 w13 w14 h1 v34_9_6 h5 (u_5.2.1 0)) H locs ∧ lv_has ls 6 [(0, .ref h0), (1, .int p0), (2, .int p1), (3, .int v34_9_1), (4, .int v34_9_0)]) (fun (q : Int32 × Int32 × Int32) => match q with | (v34_9_0, v34_9_1, v34_9_5) => (41 - (v34_9_0).toInt).toNat) (fun q_34 ih_34 H locs ls hP => ?_) (0, 0, p0) ⟨f1, f2, f3, f0, ⟨by decide +kernel, by decide +kernel⟩, ⟨by decide +kernel, by decide +kernel⟩, hp0, (rg_wide rf3 (by decide) (by decide)), htf0_84, rf0, h_6, (lv_sub hl_8 [2, 3, 4, 1, 0] rfl)⟩
    obtain ⟨v34_9_0, v34_9_1, v34_9_5⟩ := q_34
    obtain ⟨v34_9_2, v34_9_3, v34_9_4, v34_9_6, hv34_9_0, hv34_9_1, hv34_9_5, rv34_9_4, trv34_9_6_84, rv34_9_6, h, hl⟩ := hP
    refine lv_iload hx hb dX12_year_34 (lv_at hl 4 rfl) ?_
    refine lv_iload_n hx hb dX12_year_36 rfl (lv_at hl 2 rfl) ?_
    refine lv_icmp_ge (tgt := 74) hx hb dX12_year_37 (by decide) (fun c_10 => ?_) (fun c_10 => ?_)
    · replace c_10 := i_le (x := p1) (y := v34_9_0) rfl rfl c_10
      refine lv_iload_n hx hb dX12_year_74 rfl (lv_at hl 3 rfl) ?_
      refine q_jn (pc2 := 82) (fun H locs ls st => ∃ v82_11_1 : Int32, ∃ v82_11_0 : Nat → Int32, (0 ≤ (v82_11_1).toInt ∧ (v82_11_1).toInt ≤ 10) ∧ v82_11_0 84 = v82_11_1 ∧ AL v82_11_0 ∧ st = [] ∧ qW D (va_A (wk_c1caaabd7 cy h0 p2 h1 w0 w1 w2 p3 p4 p5 p6 p7 p8 p9 p10 p11 p12 p13 h2 h3 h4 w3 h5 p14 p15 w4 w5 w6 p16 p17 w7 w8 w9 w10 w11 p18 w12 w13 w14 h1 f0 h2 f1 h3 f2 h4 f3 h5 f4) sz) s.heap (wk_e7966dd3c cy h2 v34_9_2 h3 v34_9_3 h4 v34_9_4 h0 0 h1 w0 w1 w2 p3 p4 p5 p6 p7 p8 p9 p10 p11 p12 p13 h2 h3 h4 w3 h5 p14 v34_9_5 w4 w5 w6 p16 p17 w7 w8 w9 w10 w11 p18 w12 w13 w14 h1 v82_11_0 h5 (u_5.2.1 0)) H locs ∧ lv_has ls 6 [(0, .ref h0), (1, .int p0), (2, .int p1), (3, .int v34_9_1), (4, .int v34_9_0)]) (fun H locs ls st hP => ?_) (fun J_82 => ?_)
      · obtain ⟨v82_11_1, v82_11_0, hv82_11_1, trv82_11_0_84, rv82_11_0, rfl, h, hl⟩ := hP
        refine lv_iload_n hx hb dX12_year_82 rfl (lv_at hl 3 rfl) ?_
        exact q_iret X hr hlk hK h rfl (fun _ => 0, (vcons v34_9_2 (vcons v34_9_3 (vcons v34_9_4 (vcons (fun _ => 0) (vcons (fun _ => v34_9_5) (vcons v82_11_0 (vcons (fun _ => v82_11_1) (vcons (u_5.2.1 0) (fun _ => (fun _ => 0)))))))))), fun _ _ => 0) ⟨hv34_9_1, (rg_wide rv34_9_4 (by decide) (by decide)), (⟨by decide +kernel, by decide +kernel⟩ : 0 ≤ (0 : Int32).toInt ∧ (0 : Int32).toInt ≤ 0), hv34_9_5, rv82_11_0, hv82_11_1, w5_0, trv82_11_0_84, trivial⟩ [3, 4, 0, 1, 2, 5] rfl rfl dX12_year_83 (Nat.le_of_ble_eq_true rfl) (Nat.le_of_ble_eq_true rfl)
      · skip
        refine lv_if_le (tgt := 82) hx hb dX12_year_75 (by decide) (fun c_12 => ?_) (fun c_12 => ?_)
        · replace c_12 := i_le (x := v34_9_1) (y := 0) rfl (show (0 : Int32).toInt = 0 by decide) c_12
          exact J_82 _ _ _ _ ⟨p19, v34_9_6, hp19, trv34_9_6_84, rv34_9_6, rfl, h, (lv_sub hl [0, 1, 2, 3, 4] rfl)⟩
        · replace c_12 := i_nle (x := v34_9_1) (y := 0) rfl (show (0 : Int32).toInt = 0 by decide) c_12
          refine lv_aload_n hx hb dX12_year_78 rfl (lv_at hl 0 rfl) ?_
          refine q_callVv (rest := []) (wr := (wk_840316d5a cy h2 v34_9_2 h3 v34_9_3 h4 v34_9_4)) X hK hT hA h (fun sz => gX12_notes_fd80d29 l D cy h0 h1 h5 (0 : Int32) w0 w1 w2 p3 p4 p5 p6 p7 p8 p9 p10 p11 p12 p13 (.ref h2) (.ref h3) (.ref h4) w3 p14 v34_9_5 w4 w5 w6 p16 p17 w7 w8 w9 w10 w11 p18 w12 w13 w14 v34_9_6 p19 (u_5.2.1 0) ⟨by decide +kernel, by decide +kernel⟩ hp3 hp4 hp5 hp6 (i_rng _) hp8 (i_rng _) (i_rng _) (i_rng _) (i_rng _) (i_rng _) (i_rng _) (i_rng _) (i_rng _) (i_rng _) (i_rng _) hp19 trv34_9_6_84 rv34_9_6 w5_0 sz) wm_6_232 wm_6_235 wm_1_12 hd_X12_notes wm_6_234 wp_6_3 (ci := 12) (q0 := 0) rfl rfl ⟨Nat.le_of_ble_eq_true rfl, Nat.le_of_ble_eq_true rfl⟩ hl.1 rfl (Nat.le_of_ble_eq_true rfl) dX12_year_79 ⟨Nat.le_of_ble_eq_true rfl, Nat.le_of_ble_eq_true rfl⟩ [3, 4, 5] [0, 1, 2] rfl rfl (by decide) rfl rfl (fun u_13 H locs w_13 h_13 => ?_)
          clear h
          obtain ⟨w13_0, w13_1, w13_2, _⟩ := w_13
          replace h_13 : qW D _ _ (wk_e7966dd3c cy h2 v34_9_2 h3 v34_9_3 h4 v34_9_4 h0 0 h1 w0 w1 w2 p3 p4 p5 p6 p7 p8 p9 p10 p11 p12 p13 h2 h3 h4 w3 h5 p14 v34_9_5 w4 w5 w6 p16 p17 w7 w8 w9 w10 w11 p18 w12 w13 w14 h1 (u_13.2.1 0) h5 (u_5.2.1 0)) _ _ := h_13
          exact J_82 _ _ _ _ ⟨(u_13.2.1 1 0), (u_13.2.1 0), (bw w13_1 (by decide) (by decide)), w13_2, w13_0, rfl, h_13, (lv_sub hl [0, 1, 2, 3, 4] rfl)⟩
    · replace c_10 := i_nle (x := p1) (y := v34_9_0) rfl rfl c_10
      refine lv_aload_n hx hb dX12_year_40 rfl (lv_at hl 0 rfl) ?_
      refine q_callVi (rest := []) (wr := [(h2, .inl (cy 1, 900, .inl v34_9_2)), (h3, .inl (cy 1, 11, .inl v34_9_3)), (h4, .inl (cy 1, 3, .inl v34_9_4)), (h1, .inl (cy 1, 3918, .inl v34_9_6)), (h5, .inl (cy 1, 32, .inl (u_5.2.1 0)))]) X hK hT hA h (fun sz => gX12_drawn_2a50122 l D cy h0 (0 : Int32) (.ref h1) w0 w1 w2 p3 p4 p5 p6 p7 p8 p9 p10 p11 p12 p13 (.ref h2) (.ref h3) (.ref h4) w3 (.ref h5) p14 v34_9_5 w4 w5 w6 p16 p17 w7 w8 w9 w10 w11 p18 w12 w13 w14 ⟨by decide +kernel, by decide +kernel⟩ hp3 hp4 hp5 hp6 (i_rng _) hp8 (i_rng _) (i_rng _) (i_rng _) (i_rng _) (i_rng _) (i_rng _) (i_rng _) (i_rng _) (i_rng _) (i_rng _) sz) wm_7_83 wm_7_86 wm_1_12 hd_X12_drawn wm_7_85 wp_6_15 (ci := 12) (q0 := 0) rfl rfl ⟨Nat.le_of_ble_eq_true rfl, Nat.le_of_ble_eq_true rfl⟩ hl.1 rfl (Nat.le_of_ble_eq_true rfl) dX12_year_41 ⟨Nat.le_of_ble_eq_true rfl, Nat.le_of_ble_eq_true rfl⟩ [3] [0, 1, 2, 4, 5] rfl rfl (by decide) rfl rfl (fun r_14 u_14 H locs w_14 h_14 => ?_)
      clear h
      obtain ⟨wr_14, w14_0, _⟩ := w_14
      replace h_14 : qW D _ _ [(h2, .inl (cy 1, 900, .inl v34_9_2)), (h3, .inl (cy 1, 11, .inl v34_9_3)), (h4, .inl (cy 1, 3, .inl v34_9_4)), (h1, .inl (cy 1, 3918, .inl v34_9_6)), (h5, .inl (cy 1, 32, .inl (u_5.2.1 0))), (h0, .inr (12, [.int 0, .ref h1, w0, w1, w2, .int p3, .int p4, .int p5, .int p6, .int p7, .int p8, .int p9, .int p10, .int p11, .int p12, .int p13, .ref h2, .ref h3, .ref h4, w3, .ref h5, .int p14, .int (u_14.2.1 0 0), w4, w5, w6, .int p16, .int p17, w7, w8, w9, w10, w11, .int p18, w12, w13, w14]))] _ _ := h_14
      refine lv_istore (lv' := [(5, .int r_14), (0, .ref h0), (1, .int p0), (2, .int p1), (3, .int v34_9_1), (4, .int v34_9_0)]) hx hb dX12_year_44 hl (by decide) rfl (fun ls_15 hl_15 => ?_)
      clear hl
      refine lv_aload_n hx hb dX12_year_46 rfl (lv_at hl_15 1 rfl) ?_
      refine lv_iload hx hb dX12_year_47 (lv_at hl_15 0 rfl) ?_
      refine lv_i2l hx hb dX12_year_49 rfl ?_
      obtain ⟨z_16, ez_16, hz_16⟩ := e_i2l (x := r_14) rfl
      refine q_cl z_16 ez_16 ?_
      clear ez_16
      refine q_callVi (rest := []) (wr := (wk_3a288e38f cy h2 v34_9_2 h3 v34_9_3 h4 v34_9_4 h5 (u_5.2.1 0))) X hK hT hA h_14 (fun sz => gX12_whyNot_70f43d9 l D cy h0 h1 z_16 (0 : Int32) w0 w1 w2 p3 p4 p5 p6 p7 p8 p9 p10 p11 p12 p13 (.ref h2) (.ref h3) (.ref h4) w3 (.ref h5) p14 (u_14.2.1 0 0) w4 w5 w6 p16 p17 w7 w8 w9 w10 w11 p18 w12 w13 w14 v34_9_6 p19 (j_rng _) ⟨by decide +kernel, by decide +kernel⟩ hp3 hp4 hp5 hp6 (i_rng _) hp8 (i_rng _) (i_rng _) (i_rng _) (i_rng _) (i_rng _) (i_rng _) (i_rng _) (i_rng _) (i_rng _) (i_rng _) hp19 trv34_9_6_84 rv34_9_6 sz) wm_7_38 wm_7_41 wm_1_12 hd_X12_whyNot wm_7_40 wp_6_8 (ci := 12) (q0 := 0) rfl rfl ⟨Nat.le_of_ble_eq_true rfl, Nat.le_of_ble_eq_true rfl⟩ hl_15.1 rfl (Nat.le_of_ble_eq_true rfl) dX12_year_50 ⟨Nat.le_of_ble_eq_true rfl, Nat.le_of_ble_eq_true rfl⟩ [5, 3] [0, 1, 2, 4] rfl rfl (by decide) rfl rfl (fun r_17 u_17 H locs w_17 h_17 => ?_)
      clear h_14
      obtain ⟨wr_17, y17_0, _⟩ := w_17
      replace h_17 : qW D _ _ (wk_f610781b9 cy h2 v34_9_2 h3 v34_9_3 h4 v34_9_4 h5 (u_5.2.1 0) h0 0 h1 w0 w1 w2 p3 p4 p5 p6 p7 p8 p9 p10 p11 p12 p13 h2 h3 h4 w3 h5 p14 (u_14.2.1 0 0) w4 w5 w6 p16 p17 w7 w8 w9 w10 w11 p18 w12 w13 w14 h1 v34_9_6) _ _ := h_17
      refine q_jn (pc2 := 68) (fun H locs ls st => ∃ v68_18_0 : Int32, ∃ v68_18_1 : Nat → Int32, ∃ v68_18_2 : Nat → Int32, ∃ v68_18_3 : Nat → Int32, ∃ v68_18_4 : Nat → Int32, ((-2147483648) ≤ (v68_18_0).toInt ∧ (v68_18_0).toInt ≤ 2147483647) ∧ v68_18_1 84 = p19 ∧ AL v68_18_1 ∧ RG v68_18_4 3 0 9 ∧ st = [] ∧ qW D (va_A (wk_c1caaabd7 cy h0 p2 h1 w0 w1 w2 p3 p4 p5 p6 p7 p8 p9 p10 p11 p12 p13 h2 h3 h4 w3 h5 p14 p15 w4 w5 w6 p16 p17 w7 w8 w9 w10 w11 p18 w12 w13 w14 h1 f0 h2 f1 h3 f2 h4 f3 h5 f4) sz) s.heap (wk_f610781b9 cy h2 v68_18_2 h3 v68_18_3 h4 v68_18_4 h5 (u_5.2.1 0) h0 0 h1 w0 w1 w2 p3 p4 p5 p6 p7 p8 p9 p10 p11 p12 p13 h2 h3 h4 w3 h5 p14 (u_14.2.1 0 0) w4 w5 w6 p16 p17 w7 w8 w9 w10 w11 p18 w12 w13 w14 h1 v68_18_1) H locs ∧ lv_has ls 6 [(0, .ref h0), (1, .int p0), (2, .int p1), (3, .int v68_18_0), (4, .int v34_9_0), (5, .int r_14)]) (fun H locs ls st hP => ?_) (fun J_68 => ?_)
      · obtain ⟨v68_18_0, v68_18_1, v68_18_2, v68_18_3, v68_18_4, hv68_18_0, trv68_18_1_84, rv68_18_1, rv68_18_4, rfl, h, hl⟩ := hP
        obtain ⟨z_19, ez_19, hz_19⟩ := e_add (x := v34_9_0) (y := Int32.ofInt 1) rfl (b := 1) (by decide) (by omega) (by omega)
        refine lv_iinc (v := z_19) (lv' := [(4, .int z_19), (0, .ref h0), (1, .int p0), (2, .int p1), (3, .int v68_18_0), (5, .int r_14)]) hx hb dX12_year_68 hl (k := 4) rfl ez_19 (by decide) rfl (fun ls_19 hl_19 => ?_)
        clear hl
        refine lv_goto (tgt := 34) hx hb dX12_year_71 (by decide) ?_
        exact ih_34 (z_19, v68_18_0, (u_14.2.1 0 0)) (by show (41 - (z_19).toInt).toNat < (41 - (v34_9_0).toInt).toNat; omega) _ _ _ ⟨v68_18_2, v68_18_3, v68_18_4, v68_18_1, ⟨by omega, by omega⟩, hv68_18_0, w14_0, (rg_wide rv68_18_4 (by decide) (by decide)), trv68_18_1_84, rv68_18_1, (q_re h [0, 1, 2, 4, 5, 3] rfl rfl), (lv_sub hl_19 [1, 2, 3, 4, 0] rfl)⟩
      · skip
        refine lv_if_eq (tgt := 59) hx hb dX12_year_53 (by decide) (fun c_20 => ?_) (fun c_20 => ?_)
        · replace c_20 := i_eq (x := r_17) (y := 0) rfl (show (0 : Int32).toInt = 0 by decide) c_20
          refine lv_aload_n hx hb dX12_year_59 rfl (lv_at hl_15 1 rfl) ?_
          refine lv_iload hx hb dX12_year_60 (lv_at hl_15 0 rfl) ?_
          refine q_callVv (rest := []) (wr := [(h5, .inl (cy 1, 32, .inl (u_5.2.1 0)))]) X hK hT hA h_17 (fun sz => gX12_does_b30d22d l D cy h0 h1 h2 h3 h4 r_14 (0 : Int32) w0 w1 w2 p3 p4 p5 p6 p7 p8 p9 p10 p11 p12 p13 w3 (.ref h5) p14 (u_14.2.1 0 0) w4 w5 w6 p16 p17 w7 w8 w9 w10 w11 p18 w12 w13 w14 v34_9_6 p19 v34_9_2 v34_9_3 v34_9_4 ⟨by omega, by omega⟩ ⟨by decide +kernel, by decide +kernel⟩ hp3 hp4 hp5 hp6 (i_rng _) hp8 (i_rng _) (i_rng _) (i_rng _) (i_rng _) (i_rng _) (i_rng _) (i_rng _) (i_rng _) (i_rng _) (i_rng _) hp19 trv34_9_6_84 rv34_9_6 (rg_wide rv34_9_4 (by decide) (by decide)) (by (first | (clear y17_0; omega) | omega)) sz) wm_7_47 wm_7_50 wm_1_12 hd_X12_does wm_7_49 wp_6_9 (ci := 12) (q0 := 0) rfl rfl ⟨Nat.le_of_ble_eq_true rfl, Nat.le_of_ble_eq_true rfl⟩ hl_15.1 rfl (Nat.le_of_ble_eq_true rfl) dX12_year_62 ⟨Nat.le_of_ble_eq_true rfl, Nat.le_of_ble_eq_true rfl⟩ [4, 5, 0, 1, 2] [3] rfl rfl (by decide) rfl rfl (fun u_21 H locs w_21 h_21 => ?_)
          clear h_17
          obtain ⟨w21_0, w21_1, w21_2, _⟩ := w_21
          replace h_21 : qW D _ _ (wk_7edf1f2f5 cy h5 (u_5.2.1 0) h0 0 h1 w0 w1 w2 p3 p4 p5 p6 p7 p8 p9 p10 p11 p12 p13 h2 h3 h4 w3 h5 p14 (u_14.2.1 0 0) w4 w5 w6 p16 p17 w7 w8 w9 w10 w11 p18 w12 w13 w14 h1 (u_21.2.1 0) h2 (u_21.2.1 1) h3 (u_21.2.1 2) h4 (u_21.2.1 3)) _ _ := h_21
          obtain ⟨z_22, ez_22, hz_22⟩ := e_any (v34_9_1 + Int32.ofInt 1)
          refine lv_iinc (v := z_22) (lv' := [(3, .int z_22), (5, .int r_14), (0, .ref h0), (1, .int p0), (2, .int p1), (4, .int v34_9_0)]) hx hb dX12_year_65 hl_15 (k := 4) rfl ez_22 (by decide) rfl (fun ls_22 hl_22 => ?_)
          clear hl_15
          exact J_68 _ _ _ _ ⟨z_22, (u_21.2.1 0), (u_21.2.1 1), (u_21.2.1 2), (u_21.2.1 3), ⟨by omega, by omega⟩, w21_2, w21_0, (rg_wide w21_1 (by decide) (by decide)), rfl, (q_re h_21 [3, 4, 5, 0, 1, 2] rfl rfl), (lv_sub hl_22 [2, 3, 4, 0, 5, 1] rfl)⟩
        · replace c_20 := i_ne (x := r_17) (y := 0) rfl (show (0 : Int32).toInt = 0 by decide) c_20
          refine lv_goto (tgt := 68) hx hb dX12_year_56 (by decide) ?_
          exact J_68 _ _ _ _ ⟨v34_9_1, v34_9_6, v34_9_2, v34_9_3, v34_9_4, hv34_9_1, trv34_9_6_84, rv34_9_6, (rg_wide rv34_9_4 (by decide) (by decide)), rfl, h_17, (lv_sub hl_15 [1, 2, 3, 4, 5, 0] rfl)⟩
  · replace c_4 := i_eq (x := r_3) (y := 0) rfl (show (0 : Int32).toInt = 0 by decide) c_4
    replace y3_0 := a10_0 y3_0 c_4
    refine lv_bipush (v := (-3)) hx hb dX12_year_17 (by decide) ?_
    exact q_iret X hr hlk hK h_3 rfl (fun _ => 0, (vcons f1 (vcons f2 (vcons f3 (vcons (fun _ => 0) (vcons (fun _ => p15) (vcons f0 (vcons (fun _ => p19) (vcons f4 (fun _ => (fun _ => 0)))))))))), fun _ _ => 0) ⟨⟨by decide +kernel, by decide +kernel⟩, (rg_wide rf3 (by decide) (by decide)), (⟨by decide +kernel, by decide +kernel⟩ : 0 ≤ (0 : Int32).toInt ∧ (0 : Int32).toInt ≤ 0), hp15, rf0, hp19, rf4, htf0_84, trivial⟩ [0, 1, 2, 3, 4, 5] rfl rfl dX12_year_19 (Nat.le_of_ble_eq_true rfl) (Nat.le_of_ble_eq_true rfl)
set_option maxHeartbeats 4000000 in
set_option maxRecDepth 100000 in
theorem gX12_everybody_0c25b78 (l : Launch) (D : va_G) (cy : Nat → ClassId) (h0 : Nat) (h1 : Nat) (p0 : Int32) (w0 : Value) (w1 : Value) (w2 : Value) (p1 : Int32) (p2 : Int32) (p3 : Int32) (p4 : Int32) (p5 : Int32) (p6 : Int32) (p7 : Int32) (p8 : Int32) (p9 : Int32) (p10 : Int32) (p11 : Int32) (w3 : Value) (w4 : Value) (w5 : Value) (w6 : Value) (w7 : Value) (p12 : Int32) (p13 : Int32) (w8 : Value) (w9 : Value) (w10 : Value) (p14 : Int32) (p15 : Int32) (w11 : Value) (w12 : Value) (w13 : Value) (w14 : Value) (w15 : Value) (p16 : Int32) (w16 : Value) (w17 : Value) (w18 : Value) (f0 : Nat → Int32) (p17 : Int32) (hp0 : 0 ≤ (p0).toInt ∧ (p0).toInt ≤ 0) (hp1 : 0 ≤ (p1).toInt ∧ (p1).toInt ≤ 900) (hp2 : 0 ≤ (p2).toInt ∧ (p2).toInt ≤ 900) (hp3 : 0 ≤ (p3).toInt ∧ (p3).toInt ≤ 900) (hp4 : 0 ≤ (p4).toInt ∧ (p4).toInt ≤ 900) (hp5 : (-2147483648) ≤ (p5).toInt ∧ (p5).toInt ≤ 2147483647) (hp6 : 0 ≤ (p6).toInt ∧ (p6).toInt ≤ 999) (hp7 : (-2147483648) ≤ (p7).toInt ∧ (p7).toInt ≤ 2147483647) (hp8 : (-2147483648) ≤ (p8).toInt ∧ (p8).toInt ≤ 2147483647) (hp9 : (-2147483648) ≤ (p9).toInt ∧ (p9).toInt ≤ 2147483647) (hp10 : (-2147483648) ≤ (p10).toInt ∧ (p10).toInt ≤ 2147483647) (hp11 : (-2147483648) ≤ (p11).toInt ∧ (p11).toInt ≤ 2147483647) (hp12 : (-2147483648) ≤ (p12).toInt ∧ (p12).toInt ≤ 2147483647) (hp13 : (-2147483648) ≤ (p13).toInt ∧ (p13).toInt ≤ 2147483647) (hp14 : (-2147483648) ≤ (p14).toInt ∧ (p14).toInt ≤ 2147483647) (hp15 : (-2147483648) ≤ (p15).toInt ∧ (p15).toInt ≤ 2147483647) (hp16 : (-2147483648) ≤ (p16).toInt ∧ (p16).toInt ≤ 2147483647) (hp17 : 0 ≤ (p17).toInt ∧ (p17).toInt ≤ 10) (htf0_84 : f0 84 = p17) (rf0 : AL f0) (sz : Nat) : MI l yX12_everybody cX12_everybody 1 .int { frames := 0, cells := 0, slots := 0, locals := 0 } [.ref h0] D cy (wk_e1f596b07 cy h0 p0 h1 w0 w1 w2 p1 p2 p3 p4 p5 p6 p7 p8 p9 p10 p11 w3 w4 w5 w6 w7 p12 p13 w8 w9 w10 p14 p15 w11 w12 w13 w14 w15 p16 w16 w17 w18 h1 f0) sz (fun r u => (0 ≤ r.toInt ∧ r.toInt ≤ 1023) ∧ True) (fun u => (wk_e1f596b07 cy h0 p0 h1 w0 w1 w2 p1 p2 p3 p4 p5 p6 p7 p8 p9 p10 p11 w3 w4 w5 w6 w7 p12 p13 w8 w9 w10 p14 p15 w11 w12 w13 w14 w15 p16 w16 w17 w18 h1 f0)) 0 0 := by
  refine q_ent (own := RX12) (by decide) rfl (Nat.le_of_ble_eq_true rfl) (fun p e s m below meth c ls X hr hlk hnm hK hT h hA hl => ?_)
  obtain ⟨hx, hb, hml, hown, ht⟩ := id X
  replace hl : lv_has ls 1 [(0, .ref h0)] := hl
  refine lv_iconst (v := 1) hx hb dX12_everybody_0 (by decide) ?_
  refine lv_aload_n hx hb dX12_everybody_1 rfl (lv_at hl 0 rfl) ?_
  refine q_get X hK h 0 rfl rfl wf_12 1 (by decide) rfl wm_5_171 dX12_everybody_2 ?_
  refine lv_iconst (v := 2) hx hb dX12_everybody_5 (by decide) ?_
  refine q_iald X hK h 1 rfl (q_in (by decide +kernel)) dX12_everybody_6 ?_
  obtain ⟨z_1, ez_1, hz_1⟩ := al_P rf0 (x := 2) (show (2 : Int32).toInt = 2 by decide) (by omega) (by omega)
  refine q_c z_1 ez_1 ?_
  clear ez_1
  refine lv_ishl hx hb dX12_everybody_7 ?_
  obtain ⟨z_2, ez_2, hz_2⟩ := e_shlk (p := z_1) 10 (by decide) rfl (by omega) (by omega)
  refine q_c z_2 ez_2 ?_
  clear ez_2
  refine lv_iconst (v := 1) hx hb dX12_everybody_8 (by decide) ?_
  refine lv_isub hx hb dX12_everybody_9 ?_
  obtain ⟨z_3, ez_3, hz_3⟩ := e_sub (x := z_2) (y := 1) rfl (show (1 : Int32).toInt = 1 by decide) (by omega) (by omega)
  refine q_c z_3 ez_3 ?_
  clear ez_3
  exact q_iret X hr hlk hK h rfl (fun _ => 0, fun _ _ => 0, fun _ _ => 0) ⟨⟨by omega, by omega⟩, trivial⟩ [0, 1] rfl rfl dX12_everybody_10 (Nat.le_of_ble_eq_true rfl) (Nat.le_of_ble_eq_true rfl)
set_option maxHeartbeats 4000000 in
set_option maxRecDepth 100000 in
theorem gX12_isSet_9166d70 (l : Launch) (D : va_G) (cy : Nat → ClassId) (h0 : Nat) (h1 : Nat) (p0 : Int32) (p1 : Int32) (w0 : Value) (w1 : Value) (w2 : Value) (p2 : Int32) (p3 : Int32) (p4 : Int32) (p5 : Int32) (p6 : Int32) (p7 : Int32) (p8 : Int32) (p9 : Int32) (p10 : Int32) (p11 : Int32) (p12 : Int32) (w3 : Value) (w4 : Value) (w5 : Value) (w6 : Value) (w7 : Value) (p13 : Int32) (p14 : Int32) (w8 : Value) (w9 : Value) (w10 : Value) (p15 : Int32) (p16 : Int32) (w11 : Value) (w12 : Value) (w13 : Value) (w14 : Value) (w15 : Value) (p17 : Int32) (w16 : Value) (w17 : Value) (w18 : Value) (f0 : Nat → Int32) (p18 : Int32) (hp0 : (-2147483648) ≤ (p0).toInt ∧ (p0).toInt ≤ 2147483647) (hp1 : 0 ≤ (p1).toInt ∧ (p1).toInt ≤ 0) (hp2 : 0 ≤ (p2).toInt ∧ (p2).toInt ≤ 900) (hp3 : 0 ≤ (p3).toInt ∧ (p3).toInt ≤ 900) (hp4 : 0 ≤ (p4).toInt ∧ (p4).toInt ≤ 900) (hp5 : 0 ≤ (p5).toInt ∧ (p5).toInt ≤ 900) (hp6 : (-2147483648) ≤ (p6).toInt ∧ (p6).toInt ≤ 2147483647) (hp7 : 0 ≤ (p7).toInt ∧ (p7).toInt ≤ 999) (hp8 : (-2147483648) ≤ (p8).toInt ∧ (p8).toInt ≤ 2147483647) (hp9 : (-2147483648) ≤ (p9).toInt ∧ (p9).toInt ≤ 2147483647) (hp10 : (-2147483648) ≤ (p10).toInt ∧ (p10).toInt ≤ 2147483647) (hp11 : (-2147483648) ≤ (p11).toInt ∧ (p11).toInt ≤ 2147483647) (hp12 : (-2147483648) ≤ (p12).toInt ∧ (p12).toInt ≤ 2147483647) (hp13 : (-2147483648) ≤ (p13).toInt ∧ (p13).toInt ≤ 2147483647) (hp14 : (-2147483648) ≤ (p14).toInt ∧ (p14).toInt ≤ 2147483647) (hp15 : (-2147483648) ≤ (p15).toInt ∧ (p15).toInt ≤ 2147483647) (hp16 : (-2147483648) ≤ (p16).toInt ∧ (p16).toInt ≤ 2147483647) (hp17 : (-2147483648) ≤ (p17).toInt ∧ (p17).toInt ≤ 2147483647) (hp18 : 0 ≤ (p18).toInt ∧ (p18).toInt ≤ 10) (htf0_84 : f0 84 = p18) (rf0 : AL f0) (sz : Nat) : MI l yX12_isSet cX12_isSet 2 .boolean { frames := 1, cells := 0, slots := 0, locals := 20 } [.ref h0, .int p0] D cy (wk_e1f596b07 cy h0 p1 h1 w0 w1 w2 p2 p3 p4 p5 p6 p7 p8 p9 p10 p11 p12 w3 w4 w5 w6 w7 p13 p14 w8 w9 w10 p15 p16 w11 w12 w13 w14 w15 p17 w16 w17 w18 h1 f0) sz (fun r u => (0 ≤ r.toInt ∧ r.toInt ≤ 1) ∧ ((r : Int32).toInt = 0 ∨ (0 ≤ (p0 : Int32).toInt ∧ (p0 : Int32).toInt ≤ 1023)) ∧ True) (fun u => (wk_e1f596b07 cy h0 p1 h1 w0 w1 w2 p2 p3 p4 p5 p6 p7 p8 p9 p10 p11 p12 w3 w4 w5 w6 w7 p13 p14 w8 w9 w10 p15 p16 w11 w12 w13 w14 w15 p17 w16 w17 w18 h1 f0)) 0 0 := by
  refine q_ent (own := RX12) (by decide) rfl (Nat.le_of_ble_eq_true rfl) (fun p e s m below meth c ls X hr hlk hnm hK hT h hA hl => ?_)
  obtain ⟨hx, hb, hml, hown, ht⟩ := id X
  replace hl : lv_has ls 2 [(0, .ref h0), (1, .int p0)] := hl
  refine lv_iload_n hx hb dX12_isSet_0 rfl (lv_at hl 1 rfl) ?_
  refine lv_aload_n hx hb dX12_isSet_1 rfl (lv_at hl 0 rfl) ?_
  refine q_callVi (rest := [.int p0]) (wr := []) X hK hT hA h (fun sz => gX12_everybody_0c25b78 l D cy h0 h1 p1 w0 w1 w2 p2 p3 p4 p5 p6 p7 p8 p9 p10 p11 p12 w3 w4 w5 w6 w7 p13 p14 w8 w9 w10 p15 p16 w11 w12 w13 w14 w15 p17 w16 w17 w18 f0 p18 hp1 hp2 hp3 hp4 hp5 (i_rng _) hp7 (i_rng _) (i_rng _) (i_rng _) (i_rng _) (i_rng _) (i_rng _) (i_rng _) (i_rng _) (i_rng _) (i_rng _) hp18 htf0_84 rf0 sz) wm_7_100 wm_7_103 wm_1_12 hd_X12_everybody wm_7_102 wp_7_2 (ci := 12) (q0 := 0) rfl rfl ⟨Nat.le_of_ble_eq_true rfl, Nat.le_of_ble_eq_true rfl⟩ hl.1 rfl (Nat.le_of_ble_eq_true rfl) dX12_isSet_2 ⟨Nat.le_of_ble_eq_true rfl, Nat.le_of_ble_eq_true rfl⟩ [0, 1] [] rfl rfl (by decide) rfl rfl (fun r_1 u_1 H locs w_1 h_1 => ?_)
  clear h
  obtain ⟨wr_1, _⟩ := w_1
  replace h_1 : qW D _ _ (wk_e1f596b07 cy h0 p1 h1 w0 w1 w2 p2 p3 p4 p5 p6 p7 p8 p9 p10 p11 p12 w3 w4 w5 w6 w7 p13 p14 w8 w9 w10 p15 p16 w11 w12 w13 w14 w15 p17 w16 w17 w18 h1 f0) _ _ := h_1
  refine lv_iconst (v := (-1)) hx hb dX12_isSet_5 (by decide) ?_
  refine lv_ixor hx hb dX12_isSet_6 ?_
  refine lv_iand hx hb dX12_isSet_7 ?_
  refine lv_if_ne (tgt := 15) hx hb dX12_isSet_8 (by decide) (fun c_2 => ?_) (fun c_2 => ?_)
  · replace c_2 := i_ne (x := (p0 &&& (r_1 ^^^ (-1)))) (y := 0) rfl (show (0 : Int32).toInt = 0 by decide) c_2
    refine lv_iconst (v := 0) hx hb dX12_isSet_15 (by decide) ?_
    exact q_iret X hr hlk hK h_1 rfl (fun _ => 0, fun _ _ => 0, fun _ _ => 0) ⟨⟨by decide +kernel, by decide +kernel⟩, (show (0 : Int32).toInt = 0 ∨ (0 ≤ (p0 : Int32).toInt ∧ (p0 : Int32).toInt ≤ 1023) from by have q0 : (0 : Int32).toInt = 0 := (by decide); omega), trivial⟩ [0, 1] rfl rfl dX12_isSet_16 (Nat.le_of_ble_eq_true rfl) (Nat.le_of_ble_eq_true rfl)
  · replace c_2 := i_eq (x := (p0 &&& (r_1 ^^^ (-1)))) (y := 0) rfl (show (0 : Int32).toInt = 0 by decide) c_2
    have is_3 := bs_set (x := p0) c_2 (by omega)
    refine lv_iconst (v := 1) hx hb dX12_isSet_11 (by decide) ?_
    refine lv_goto (tgt := 16) hx hb dX12_isSet_12 (by decide) ?_
    exact q_iret X hr hlk hK h_1 rfl (fun _ => 0, fun _ _ => 0, fun _ _ => 0) ⟨⟨by decide +kernel, by decide +kernel⟩, (show (1 : Int32).toInt = 0 ∨ (0 ≤ (p0 : Int32).toInt ∧ (p0 : Int32).toInt ≤ 1023) from by have q0 : (1 : Int32).toInt = 1 := (by decide); omega), trivial⟩ [0, 1] rfl rfl dX12_isSet_16 (Nat.le_of_ble_eq_true rfl) (Nat.le_of_ble_eq_true rfl)
set_option maxHeartbeats 4000000 in
set_option maxRecDepth 100000 in
theorem gX12_sits_31fe8a1 (l : Launch) (D : va_G) (cy : Nat → ClassId) (h0 : Nat) (h1 : Nat) (h2 : Nat) (h3 : Nat) (h4 : Nat) (h5 : Nat) (p0 : Int32) (p1 : Int32) (w0 : Value) (w1 : Value) (w2 : Value) (p2 : Int32) (p3 : Int32) (p4 : Int32) (p5 : Int32) (p6 : Int32) (p7 : Int32) (p8 : Int32) (p9 : Int32) (p10 : Int32) (p11 : Int32) (p12 : Int32) (w3 : Value) (w4 : Value) (p13 : Int32) (p14 : Int32) (w5 : Value) (w6 : Value) (p15 : Int32) (p16 : Int32) (w7 : Value) (w8 : Value) (w9 : Value) (w10 : Value) (w11 : Value) (p17 : Int32) (w12 : Value) (w13 : Value) (w14 : Value) (f0 : Nat → Int32) (p18 : Int32) (f1 : Nat → Int32) (f2 : Nat → Int32) (f3 : Nat → Int32) (f4 : Nat → Int32) (hp0 : (-2147483648) ≤ (p0).toInt ∧ (p0).toInt ≤ 2147483647) (hp1 : (-2147483648) ≤ (p1).toInt ∧ (p1).toInt ≤ 2147483647) (hp2 : 0 ≤ (p2).toInt ∧ (p2).toInt ≤ 900) (hp3 : 0 ≤ (p3).toInt ∧ (p3).toInt ≤ 900) (hp4 : 0 ≤ (p4).toInt ∧ (p4).toInt ≤ 900) (hp5 : 0 ≤ (p5).toInt ∧ (p5).toInt ≤ 900) (hp6 : (-2147483648) ≤ (p6).toInt ∧ (p6).toInt ≤ 2147483647) (hp7 : 0 ≤ (p7).toInt ∧ (p7).toInt ≤ 999) (hp8 : (-2147483648) ≤ (p8).toInt ∧ (p8).toInt ≤ 2147483647) (hp9 : (-2147483648) ≤ (p9).toInt ∧ (p9).toInt ≤ 2147483647) (hp10 : (-2147483648) ≤ (p10).toInt ∧ (p10).toInt ≤ 2147483647) (hp11 : (-2147483648) ≤ (p11).toInt ∧ (p11).toInt ≤ 2147483647) (hp12 : (-2147483648) ≤ (p12).toInt ∧ (p12).toInt ≤ 2147483647) (hp13 : (-2147483648) ≤ (p13).toInt ∧ (p13).toInt ≤ 2147483647) (hp14 : (-2147483648) ≤ (p14).toInt ∧ (p14).toInt ≤ 2147483647) (hp15 : (-2147483648) ≤ (p15).toInt ∧ (p15).toInt ≤ 2147483647) (hp16 : (-2147483648) ≤ (p16).toInt ∧ (p16).toInt ≤ 2147483647) (hp17 : (-2147483648) ≤ (p17).toInt ∧ (p17).toInt ≤ 2147483647) (hp18 : 0 ≤ (p18).toInt ∧ (p18).toInt ≤ 10) (htf0_84 : f0 84 = p18) (rf0 : AL f0) (rf3 : RG f3 10 0 1023) (sz : Nat) : MI l yX12_sits cX12_sits 2 .int { frames := 6, cells := 0, slots := 0, locals := 135 } [.ref h0, .int p0] D cy (wk_eecab3214 cy h0 p1 h1 w0 w1 w2 p2 p3 p4 p5 p6 p7 p8 p9 p10 p11 p12 h2 h3 w3 h4 w4 p13 p14 h5 w5 w6 p15 p16 w7 w8 w9 w10 w11 p17 w12 w13 w14 h1 f0 h2 f1 h3 f2 h4 f3 h5 f4) sz (fun r u => ((-3) ≤ r.toInt ∧ r.toInt ≤ 1) ∧ RG (u.2.1 2) 10 0 1023 ∧ (0 ≤ (u.2.1 4 0).toInt ∧ (u.2.1 4 0).toInt ≤ 0) ∧ True) (fun u => (wk_eecab3214 cy h0 (u.2.1 4 0) h1 w0 w1 w2 p2 p3 p4 p5 p6 p7 p8 p9 p10 p11 p12 h2 h3 w3 h4 w4 p13 p14 h5 w5 w6 p15 p16 w7 w8 w9 w10 w11 p17 w12 w13 w14 h1 f0 h2 (u.2.1 0) h3 (u.2.1 1) h4 (u.2.1 2) h5 (u.2.1 3))) 0 0 := by
  refine q_ent (own := RX12) (by decide) rfl (Nat.le_of_ble_eq_true rfl) (fun p e s m below meth c ls X hr hlk hnm hK hT h hA hl => ?_)
  obtain ⟨hx, hb, hml, hown, ht⟩ := id X
  replace hl : lv_has ls 2 [(0, .ref h0), (1, .int p0)] := hl
  refine lv_aload_n hx hb dX12_sits_0 rfl (lv_at hl 0 rfl) ?_
  refine lv_iconst (v := 0) hx hb dX12_sits_1 (by decide) ?_
  refine q_put (v := .int 0) X hK h 0 rfl rfl wf_12 tyX12 tyX12_ok nmX12 0 (by decide) wm_5_170 rfl rfl rfl (Nat.le_of_ble_eq_true rfl) dX12_sits_2 (fun H locs h_1 => ?_)
  clear h
  replace h_1 : qW D _ _ (wk_eecab3214 cy h0 0 h1 w0 w1 w2 p2 p3 p4 p5 p6 p7 p8 p9 p10 p11 p12 h2 h3 w3 h4 w4 p13 p14 h5 w5 w6 p15 p16 w7 w8 w9 w10 w11 p17 w12 w13 w14 h1 f0 h2 f1 h3 f2 h4 f3 h5 f4) _ _ := h_1
  refine lv_aload_n hx hb dX12_sits_5 rfl (lv_at hl 0 rfl) ?_
  refine lv_iload_n hx hb dX12_sits_6 rfl (lv_at hl 1 rfl) ?_
  refine q_callVi (rest := []) (wr := (wk_1ed1fcc35 cy h2 f1 h3 f2 h4 f3 h5 f4)) X hK hT hA h_1 (fun sz => gX12_isSet_9166d70 l D cy h0 h1 p0 (0 : Int32) w0 w1 w2 p2 p3 p4 p5 p6 p7 p8 p9 p10 p11 p12 (.ref h2) (.ref h3) w3 (.ref h4) w4 p13 p14 (.ref h5) w5 w6 p15 p16 w7 w8 w9 w10 w11 p17 w12 w13 w14 f0 p18 (i_rng _) ⟨by decide +kernel, by decide +kernel⟩ hp2 hp3 hp4 hp5 (i_rng _) hp7 (i_rng _) (i_rng _) (i_rng _) (i_rng _) (i_rng _) (i_rng _) (i_rng _) (i_rng _) (i_rng _) (i_rng _) hp18 htf0_84 rf0 sz) wm_7_96 wm_7_99 wm_1_12 hd_X12_isSet wm_7_98 wp_7_1 (ci := 12) (q0 := 0) rfl rfl ⟨Nat.le_of_ble_eq_true rfl, Nat.le_of_ble_eq_true rfl⟩ hl.1 rfl (Nat.le_of_ble_eq_true rfl) dX12_sits_7 ⟨Nat.le_of_ble_eq_true rfl, Nat.le_of_ble_eq_true rfl⟩ [0, 1] [2, 3, 4, 5] rfl rfl (by decide) rfl rfl (fun r_2 u_2 H locs w_2 h_2 => ?_)
  clear h_1
  obtain ⟨wr_2, y2_0, _⟩ := w_2
  replace h_2 : qW D _ _ (wk_143caa1ee cy h2 f1 h3 f2 h4 f3 h5 f4 h0 0 h1 w0 w1 w2 p2 p3 p4 p5 p6 p7 p8 p9 p10 p11 p12 h2 h3 w3 h4 w4 p13 p14 h5 w5 w6 p15 p16 w7 w8 w9 w10 w11 p17 w12 w13 w14 h1 f0) _ _ := h_2
  refine q_jn (pc2 := 31) (fun H locs ls st => ∃ v31_3_4 : Int32, ∃ v31_3_0 : Nat → Int32, ∃ v31_3_1 : Nat → Int32, ∃ v31_3_2 : Nat → Int32, ∃ v31_3_3 : Nat → Int32, ((-3) ≤ (v31_3_4).toInt ∧ (v31_3_4).toInt ≤ 1) ∧ RG v31_3_2 10 0 1023 ∧ st = [.int v31_3_4] ∧ qW D (va_A (wk_eecab3214 cy h0 p1 h1 w0 w1 w2 p2 p3 p4 p5 p6 p7 p8 p9 p10 p11 p12 h2 h3 w3 h4 w4 p13 p14 h5 w5 w6 p15 p16 w7 w8 w9 w10 w11 p17 w12 w13 w14 h1 f0 h2 f1 h3 f2 h4 f3 h5 f4) sz) s.heap (wk_143caa1ee cy h2 v31_3_0 h3 v31_3_1 h4 v31_3_2 h5 v31_3_3 h0 0 h1 w0 w1 w2 p2 p3 p4 p5 p6 p7 p8 p9 p10 p11 p12 h2 h3 w3 h4 w4 p13 p14 h5 w5 w6 p15 p16 w7 w8 w9 w10 w11 p17 w12 w13 w14 h1 f0) H locs ∧ lv_has ls 2 [(0, .ref h0), (1, .int p0)]) (fun H locs ls st hP => ?_) (fun J_31 => ?_)
  · obtain ⟨v31_3_4, v31_3_0, v31_3_1, v31_3_2, v31_3_3, hv31_3_4, rv31_3_2, rfl, h, hl⟩ := hP
    exact q_iret X hr hlk hK h rfl (fun _ => 0, (vcons v31_3_0 (vcons v31_3_1 (vcons v31_3_2 (vcons v31_3_3 (vcons (fun _ => 0) (fun _ => (fun _ => 0))))))), fun _ _ => 0) ⟨hv31_3_4, (rg_wide rv31_3_2 (by decide) (by decide)), (⟨by decide +kernel, by decide +kernel⟩ : 0 ≤ (0 : Int32).toInt ∧ (0 : Int32).toInt ≤ 0), trivial⟩ [4, 5, 0, 1, 2, 3] rfl rfl dX12_sits_31 (Nat.le_of_ble_eq_true rfl) (Nat.le_of_ble_eq_true rfl)
  · skip
    refine lv_if_ne (tgt := 18) hx hb dX12_sits_10 (by decide) (fun c_4 => ?_) (fun c_4 => ?_)
    · replace c_4 := i_ne (x := r_2) (y := 0) rfl (show (0 : Int32).toInt = 0 by decide) c_4
      refine lv_aload_n hx hb dX12_sits_18 rfl (lv_at hl 0 rfl) ?_
      refine lv_iload_n hx hb dX12_sits_19 rfl (lv_at hl 1 rfl) ?_
      refine q_callVi (rest := []) (wr := []) X hK hT hA h_2 (fun sz => gX12_sitsNow_472ffcf l D cy h0 h1 h2 h3 h4 h5 p0 (0 : Int32) w0 w1 w2 p2 p3 p4 p5 p6 p7 p8 p9 p10 p11 p12 w3 w4 p13 p14 w5 w6 p15 p16 w7 w8 w9 w10 w11 p17 w12 w13 w14 f0 p18 f1 f2 f3 f4 ⟨by omega, by omega⟩ ⟨by decide +kernel, by decide +kernel⟩ hp2 hp3 hp4 hp5 (i_rng _) hp7 (i_rng _) (i_rng _) (i_rng _) (i_rng _) (i_rng _) (i_rng _) (i_rng _) (i_rng _) (i_rng _) (i_rng _) hp18 htf0_84 rf0 (rg_wide rf3 (by decide) (by decide)) sz) wm_7_51 wm_7_54 wm_1_12 hd_X12_sitsNow wm_7_53 wp_6_10 (ci := 12) (q0 := 0) rfl rfl ⟨Nat.le_of_ble_eq_true rfl, Nat.le_of_ble_eq_true rfl⟩ hl.1 rfl (Nat.le_of_ble_eq_true rfl) dX12_sits_20 ⟨Nat.le_of_ble_eq_true rfl, Nat.le_of_ble_eq_true rfl⟩ [4, 5, 0, 1, 2, 3] [] rfl rfl (by decide) rfl rfl (fun r_5 u_5 H locs w_5 h_5 => ?_)
      clear h_2
      obtain ⟨wr_5, w5_0, _⟩ := w_5
      replace h_5 : qW D _ _ (wk_eecab3214 cy h0 0 h1 w0 w1 w2 p2 p3 p4 p5 p6 p7 p8 p9 p10 p11 p12 h2 h3 w3 h4 w4 p13 p14 h5 w5 w6 p15 p16 w7 w8 w9 w10 w11 p17 w12 w13 w14 h1 f0 h2 (u_5.2.1 0) h3 (u_5.2.1 1) h4 (u_5.2.1 2) h5 (u_5.2.1 3)) _ _ := h_5
      refine lv_if_eq (tgt := 30) hx hb dX12_sits_23 (by decide) (fun c_6 => ?_) (fun c_6 => ?_)
      · replace c_6 := i_eq (x := r_5) (y := 0) rfl (show (0 : Int32).toInt = 0 by decide) c_6
        refine lv_iconst (v := 0) hx hb dX12_sits_30 (by decide) ?_
        exact J_31 _ _ _ _ ⟨0, (u_5.2.1 0), (u_5.2.1 1), (u_5.2.1 2), (u_5.2.1 3), ⟨by decide +kernel, by decide +kernel⟩, (rg_wide w5_0 (by decide) (by decide)), rfl, (q_re h_5 [2, 3, 4, 5, 0, 1] rfl rfl), (lv_sub hl [0, 1] rfl)⟩
      · replace c_6 := i_ne (x := r_5) (y := 0) rfl (show (0 : Int32).toInt = 0 by decide) c_6
        refine lv_iconst (v := 1) hx hb dX12_sits_26 (by decide) ?_
        refine lv_goto (tgt := 31) hx hb dX12_sits_27 (by decide) ?_
        exact J_31 _ _ _ _ ⟨1, (u_5.2.1 0), (u_5.2.1 1), (u_5.2.1 2), (u_5.2.1 3), ⟨by decide +kernel, by decide +kernel⟩, (rg_wide w5_0 (by decide) (by decide)), rfl, (q_re h_5 [2, 3, 4, 5, 0, 1] rfl rfl), (lv_sub hl [0, 1] rfl)⟩
    · replace c_4 := i_eq (x := r_2) (y := 0) rfl (show (0 : Int32).toInt = 0 by decide) c_4
      refine lv_bipush (v := (-3)) hx hb dX12_sits_13 (by decide) ?_
      refine lv_goto (tgt := 31) hx hb dX12_sits_15 (by decide) ?_
      exact J_31 _ _ _ _ ⟨(-3), f1, f2, f3, f4, ⟨by decide +kernel, by decide +kernel⟩, (rg_wide rf3 (by decide) (by decide)), rfl, h_2, (lv_sub hl [0, 1] rfl)⟩
set_option maxHeartbeats 4000000 in
set_option maxRecDepth 100000 in
theorem gX12_goesPairs_aec2824 (l : Launch) (D : va_G) (cy : Nat → ClassId) (h0 : Nat) (h1 : Nat) (h2 : Nat) (p0 : Int32) (p1 : Int32) (p2 : Int32) (p3 : Int32) (w0 : Value) (w1 : Value) (w2 : Value) (w3 : Value) (p4 : Int32) (p5 : Int32) (p6 : Int32) (p7 : Int32) (p8 : Int32) (p9 : Int32) (p10 : Int32) (p11 : Int32) (p12 : Int32) (p13 : Int32) (p14 : Int32) (w4 : Value) (w5 : Value) (w6 : Value) (w7 : Value) (w8 : Value) (p15 : Int32) (p16 : Int32) (w9 : Value) (p17 : Int32) (p18 : Int32) (w10 : Value) (w11 : Value) (w12 : Value) (w13 : Value) (w14 : Value) (p19 : Int32) (w15 : Value) (w16 : Value) (w17 : Value) (f0 : Nat → Int32) (f1 : Nat → Int32) (hp0 : 0 ≤ (p0).toInt ∧ (p0).toInt ≤ 1023) (hp1 : 0 ≤ (p1).toInt ∧ (p1).toInt ≤ 10) (hp2 : (-2147483648) ≤ (p2).toInt ∧ (p2).toInt ≤ 2147483647) (hp3 : 0 ≤ (p3).toInt ∧ (p3).toInt ≤ 0) (hp4 : 0 ≤ (p4).toInt ∧ (p4).toInt ≤ 900) (hp5 : 0 ≤ (p5).toInt ∧ (p5).toInt ≤ 900) (hp6 : 0 ≤ (p6).toInt ∧ (p6).toInt ≤ 900) (hp7 : 0 ≤ (p7).toInt ∧ (p7).toInt ≤ 900) (hp8 : (-2147483648) ≤ (p8).toInt ∧ (p8).toInt ≤ 2147483647) (hp9 : 0 ≤ (p9).toInt ∧ (p9).toInt ≤ 999) (hp10 : (-2147483648) ≤ (p10).toInt ∧ (p10).toInt ≤ 2147483647) (hp11 : (-2147483648) ≤ (p11).toInt ∧ (p11).toInt ≤ 2147483647) (hp12 : (-2147483648) ≤ (p12).toInt ∧ (p12).toInt ≤ 2147483647) (hp13 : (-2147483648) ≤ (p13).toInt ∧ (p13).toInt ≤ 2147483647) (hp14 : (-2147483648) ≤ (p14).toInt ∧ (p14).toInt ≤ 2147483647) (hp15 : (-2147483648) ≤ (p15).toInt ∧ (p15).toInt ≤ 2147483647) (hp16 : (-2147483648) ≤ (p16).toInt ∧ (p16).toInt ≤ 2147483647) (hp17 : (-1) ≤ (p17).toInt ∧ (p17).toInt ≤ 10) (hp18 : (-2147483648) ≤ (p18).toInt ∧ (p18).toInt ≤ 2147483647) (hp19 : (-2147483648) ≤ (p19).toInt ∧ (p19).toInt ≤ 2147483647) (hpre0 : (p0 : Int32).toInt % 1024 = 0) (sz : Nat) : MV l yX12_goesPairs cX12_goesPairs 7 { frames := 0, cells := 0, slots := 0, locals := 0 } [.ref h0, .int p0, .int p1, .int p2] D cy (wk_c2316df04 cy h0 p3 w0 w1 w2 w3 p4 p5 p6 p7 p8 p9 p10 p11 p12 p13 p14 w4 w5 w6 w7 w8 p15 p16 w9 h1 h2 p17 p18 w10 w11 w12 w13 w14 p19 w15 w16 w17 h1 f0 h2 f1) sz (fun u => ((-1) ≤ (u.2.1 0 0).toInt ∧ (u.2.1 0 0).toInt ≤ 10) ∧ ((-2147483648) ≤ (u.2.1 1 0).toInt ∧ (u.2.1 1 0).toInt ≤ 2147483647) ∧ True) (fun u => (wk_c2316df04 cy h0 p3 w0 w1 w2 w3 p4 p5 p6 p7 p8 p9 p10 p11 p12 p13 p14 w4 w5 w6 w7 w8 p15 p16 w9 h1 h2 (u.2.1 0 0) (u.2.1 1 0) w10 w11 w12 w13 w14 p19 w15 w16 w17 h1 f0 h2 (u.2.1 2))) 0 0 := by
  refine q_ent (own := RX12) (by decide) rfl (Nat.le_of_ble_eq_true rfl) (fun p e s m below meth c ls X hr hlk hnm hK hT h hA hl => ?_)
  obtain ⟨hx, hb, hml, hown, ht⟩ := id X
  replace hl : lv_has ls 7 [(0, .ref h0), (1, .int p0), (2, .int p1), (3, .int p2)] := hl
  refine lv_iload_n hx hb dX12_goesPairs_0 rfl (lv_at hl 1 rfl) ?_
  refine lv_if_ne (tgt := 70) hx hb dX12_goesPairs_1 (by decide) (fun c_1 => ?_) (fun c_1 => ?_)
  · replace c_1 := i_ne (x := p0) (y := 0) rfl (show (0 : Int32).toInt = 0 by decide) c_1
    exfalso
    omega
  · replace c_1 := i_eq (x := p0) (y := 0) rfl (show (0 : Int32).toInt = 0 by decide) c_1
    refine lv_iload_n hx hb dX12_goesPairs_4 rfl (lv_at hl 2 rfl) ?_
    refine lv_aload_n hx hb dX12_goesPairs_5 rfl (lv_at hl 0 rfl) ?_
    refine q_get X hK h 0 rfl rfl wf_12 26 (by decide) rfl wm_5_196 dX12_goesPairs_6 ?_
    refine q_jn (pc2 := 28) (fun H locs ls st => st = [] ∧ qW D (va_A (wk_c2316df04 cy h0 p3 w0 w1 w2 w3 p4 p5 p6 p7 p8 p9 p10 p11 p12 p13 p14 w4 w5 w6 w7 w8 p15 p16 w9 h1 h2 p17 p18 w10 w11 w12 w13 w14 p19 w15 w16 w17 h1 f0 h2 f1) sz) s.heap (wk_c2316df04 cy h0 p3 w0 w1 w2 w3 p4 p5 p6 p7 p8 p9 p10 p11 p12 p13 p14 w4 w5 w6 w7 w8 p15 p16 w9 h1 h2 p17 p18 w10 w11 w12 w13 w14 p19 w15 w16 w17 h1 f0 h2 f1) H locs ∧ lv_has ls 7 [(0, .ref h0), (1, .int p0), (2, .int p1), (3, .int p2)]) (fun H locs ls st hP => ?_) (fun J_28 => ?_)
    · obtain ⟨rfl, h, hl⟩ := hP
      exact q_vret X hr hlk hK h (fun _ => 0, (vcons (fun _ => p17) (vcons (fun _ => p18) (vcons f1 (fun _ => (fun _ => 0))))), fun _ _ => 0) ⟨hp17, hp18, trivial⟩ [0, 1, 2] rfl rfl dX12_goesPairs_28 (Nat.le_of_ble_eq_true rfl) (Nat.le_of_ble_eq_true rfl)
    · skip
      refine lv_icmp_lt (tgt := 28) hx hb dX12_goesPairs_9 (by decide) (fun c_3 => ?_) (fun c_3 => ?_)
      · replace c_3 := i_lt (x := p1) (y := p17) rfl rfl c_3
        exact J_28 _ _ _ _ ⟨rfl, h, (lv_sub hl [0, 1, 2, 3] rfl)⟩
      · replace c_3 := i_nlt (x := p1) (y := p17) rfl rfl c_3
        refine lv_iload_n hx hb dX12_goesPairs_12 rfl (lv_at hl 2 rfl) ?_
        refine lv_aload_n hx hb dX12_goesPairs_13 rfl (lv_at hl 0 rfl) ?_
        refine q_get X hK h 0 rfl rfl wf_12 26 (by decide) rfl wm_5_196 dX12_goesPairs_14 ?_
        refine q_jn (pc2 := 29) (fun H locs ls st => st = [] ∧ qW D (va_A (wk_c2316df04 cy h0 p3 w0 w1 w2 w3 p4 p5 p6 p7 p8 p9 p10 p11 p12 p13 p14 w4 w5 w6 w7 w8 p15 p16 w9 h1 h2 p17 p18 w10 w11 w12 w13 w14 p19 w15 w16 w17 h1 f0 h2 f1) sz) s.heap (wk_c2316df04 cy h0 p3 w0 w1 w2 w3 p4 p5 p6 p7 p8 p9 p10 p11 p12 p13 p14 w4 w5 w6 w7 w8 p15 p16 w9 h1 h2 p17 p18 w10 w11 w12 w13 w14 p19 w15 w16 w17 h1 f0 h2 f1) H locs ∧ lv_has ls 7 [(0, .ref h0), (1, .int p0), (2, .int p1), (3, .int p2)]) (fun H locs ls st hP => ?_) (fun J_29 => ?_)
        · obtain ⟨rfl, h, hl⟩ := hP
          refine lv_aload_n hx hb dX12_goesPairs_29 rfl (lv_at hl 0 rfl) ?_
          refine lv_iload_n hx hb dX12_goesPairs_30 rfl (lv_at hl 2 rfl) ?_
          refine q_put (v := .int p1) X hK h 0 rfl rfl wf_12 tyX12 tyX12_ok nmX12 26 (by decide) wm_5_196 rfl rfl rfl (Nat.le_of_ble_eq_true rfl) dX12_goesPairs_31 (fun H locs h_5 => ?_)
          clear h
          replace h_5 : qW D _ _ (wk_c2316df04 cy h0 p3 w0 w1 w2 w3 p4 p5 p6 p7 p8 p9 p10 p11 p12 p13 p14 w4 w5 w6 w7 w8 p15 p16 w9 h1 h2 p1 p18 w10 w11 w12 w13 w14 p19 w15 w16 w17 h1 f0 h2 f1) _ _ := h_5
          refine lv_aload_n hx hb dX12_goesPairs_34 rfl (lv_at hl 0 rfl) ?_
          refine lv_iload_n hx hb dX12_goesPairs_35 rfl (lv_at hl 3 rfl) ?_
          refine q_put (v := .int p2) X hK h_5 0 rfl rfl wf_12 tyX12 tyX12_ok nmX12 27 (by decide) wm_5_197 rfl rfl rfl (Nat.le_of_ble_eq_true rfl) dX12_goesPairs_36 (fun H locs h_6 => ?_)
          clear h_5
          replace h_6 : qW D _ _ (wk_c2316df04 cy h0 p3 w0 w1 w2 w3 p4 p5 p6 p7 p8 p9 p10 p11 p12 p13 p14 w4 w5 w6 w7 w8 p15 p16 w9 h1 h2 p1 p2 w10 w11 w12 w13 w14 p19 w15 w16 w17 h1 f0 h2 f1) _ _ := h_6
          refine lv_iconst (v := 0) hx hb dX12_goesPairs_39 (by decide) ?_
          refine lv_istore (lv' := [(4, .int 0), (0, .ref h0), (1, .int p0), (2, .int p1), (3, .int p2)]) hx hb dX12_goesPairs_40 hl (by decide) rfl (fun ls_7 hl_7 => ?_)
          clear hl
          refine q_wl (fun (v42_8_0 : Int32) H locs ls => ∃ v42_8_1 : Nat → Int32, (0 ≤ (v42_8_0).toInt ∧ (v42_8_0).toInt ≤ 10) ∧ qW D (va_A (wk_c2316df04 cy h0 p3 w0 w1 w2 w3 p4 p5 p6 p7 p8 p9 p10 p11 p12 p13 p14 w4 w5 w6 w7 w8 p15 p16 w9 h1 h2 p17 p18 w10 w11 w12 w13 w14 p19 w15 w16 w17 h1 f0 h2 f1) sz) s.heap (wk_c2316df04 cy h0 p3 w0 w1 w2 w3 p4 p5 p6 p7 p8 p9 p10 p11 p12 p13 p14 w4 w5 w6 w7 w8 p15 p16 w9 h1 h2 p1 p2 w10 w11 w12 w13 w14 p19 w15 w16 w17 h1 f0 h2 v42_8_1) H locs ∧ lv_has ls 7 [(0, .ref h0), (1, .int p0), (2, .int p1), (3, .int p2), (4, .int v42_8_0)]) (fun (v42_8_0 : Int32) => (11 - (v42_8_0).toInt).toNat) (fun q_42 ih_42 H locs ls hP => ?_) 0 ⟨f1, ⟨by decide +kernel, by decide +kernel⟩, h_6, (lv_sub hl_7 [1, 2, 3, 4, 0] rfl)⟩
          obtain ⟨v42_8_0, rfl⟩ : ∃ z, z = q_42 := ⟨_, rfl⟩
          obtain ⟨v42_8_1, hv42_8_0, h, hl⟩ := hP
          refine lv_iload hx hb dX12_goesPairs_42 (lv_at hl 4 rfl) ?_
          refine lv_bipush (v := 10) hx hb dX12_goesPairs_44 (by decide) ?_
          refine lv_icmp_ge (tgt := 69) hx hb dX12_goesPairs_46 (by decide) (fun c_9 => ?_) (fun c_9 => ?_)
          · replace c_9 := i_le (x := 10) (y := v42_8_0) (show (10 : Int32).toInt = 10 by decide) rfl c_9
            exact q_vret X hr hlk hK h (fun _ => 0, (vcons (fun _ => p1) (vcons (fun _ => p2) (vcons v42_8_1 (fun _ => (fun _ => 0))))), fun _ _ => 0) ⟨(bw hp1 (by decide) (by decide)), hp2, trivial⟩ [0, 1, 2] rfl rfl dX12_goesPairs_69 (Nat.le_of_ble_eq_true rfl) (Nat.le_of_ble_eq_true rfl)
          · replace c_9 := i_nle (x := 10) (y := v42_8_0) (show (10 : Int32).toInt = 10 by decide) rfl c_9
            refine lv_aload_n hx hb dX12_goesPairs_49 rfl (lv_at hl 0 rfl) ?_
            refine q_get X hK h 0 rfl rfl wf_12 25 (by decide) rfl wm_5_195 dX12_goesPairs_50 ?_
            refine lv_iload hx hb dX12_goesPairs_53 (lv_at hl 4 rfl) ?_
            refine lv_aload_n hx hb dX12_goesPairs_55 rfl (lv_at hl 0 rfl) ?_
            refine q_get X hK h 0 rfl rfl wf_12 24 (by decide) rfl wm_5_194 dX12_goesPairs_56 ?_
            refine lv_iload hx hb dX12_goesPairs_59 (lv_at hl 4 rfl) ?_
            refine q_iald X hK h 1 rfl (i_in rfl (by omega) (by omega)) dX12_goesPairs_61 ?_
            refine q_any (fun z_10 hz_10 => ?_)
            refine q_iast X hK h 2 rfl (i_in rfl (by omega) (by omega)) dX12_goesPairs_62 (fun H locs h_12 => ?_)
            clear h
            replace h_12 : qW D _ _ (wk_c2316df04 cy h0 p3 w0 w1 w2 w3 p4 p5 p6 p7 p8 p9 p10 p11 p12 p13 p14 w4 w5 w6 w7 w8 p15 p16 w9 h1 h2 p1 p2 w10 w11 w12 w13 w14 p19 w15 w16 w17 h1 f0 h2 (upd v42_8_1 (Int32.toNatClampNeg v42_8_0) z_10)) _ _ := h_12
            obtain ⟨F_11, eF_11⟩ : ∃ z, (upd v42_8_1 (Int32.toNatClampNeg v42_8_0) z_10) = z := ⟨_, rfl⟩
            rw [eF_11] at h_12
            clear eF_11
            obtain ⟨z_13, ez_13, hz_13⟩ := e_add (x := v42_8_0) (y := Int32.ofInt 1) rfl (b := 1) (by decide) (by omega) (by omega)
            refine lv_iinc (v := z_13) (lv' := [(4, .int z_13), (0, .ref h0), (1, .int p0), (2, .int p1), (3, .int p2)]) hx hb dX12_goesPairs_63 hl (k := 4) rfl ez_13 (by decide) rfl (fun ls_13 hl_13 => ?_)
            clear hl
            refine lv_goto (tgt := 42) hx hb dX12_goesPairs_66 (by decide) ?_
            exact ih_42 z_13 (by show (11 - (z_13).toInt).toNat < (11 - (v42_8_0).toInt).toNat; omega) _ _ _ ⟨F_11, ⟨by omega, by omega⟩, h_12, (lv_sub hl_13 [1, 2, 3, 4, 0] rfl)⟩
        · skip
          refine lv_icmp_ne (tgt := 29) hx hb dX12_goesPairs_17 (by decide) (fun c_14 => ?_) (fun c_14 => ?_)
          · replace c_14 := i_ne (x := p1) (y := p17) rfl rfl c_14
            exact J_29 _ _ _ _ ⟨rfl, h, (lv_sub hl [0, 1, 2, 3] rfl)⟩
          · replace c_14 := i_eq (x := p1) (y := p17) rfl rfl c_14
            refine lv_iload_n hx hb dX12_goesPairs_20 rfl (lv_at hl 3 rfl) ?_
            refine lv_aload_n hx hb dX12_goesPairs_21 rfl (lv_at hl 0 rfl) ?_
            refine q_get X hK h 0 rfl rfl wf_12 27 (by decide) rfl wm_5_197 dX12_goesPairs_22 ?_
            refine lv_icmp_gt (tgt := 29) hx hb dX12_goesPairs_25 (by decide) (fun c_15 => ?_) (fun c_15 => ?_)
            · replace c_15 := i_lt (x := p18) (y := p2) rfl rfl c_15
              exact J_29 _ _ _ _ ⟨rfl, h, (lv_sub hl [0, 1, 2, 3] rfl)⟩
            · replace c_15 := i_nlt (x := p18) (y := p2) rfl rfl c_15
              exact J_28 _ _ _ _ ⟨rfl, h, (lv_sub hl [0, 1, 2, 3] rfl)⟩
set_option maxHeartbeats 4000000 in
set_option maxRecDepth 100000 in
theorem gX12_goesPairs_b37398b (l : Launch) (D : va_G) (cy : Nat → ClassId) (h0 : Nat) (h1 : Nat) (h2 : Nat) (h3 : Nat) (h4 : Nat) (p0 : Int32) (p1 : Int32) (p2 : Int32) (p3 : Int32) (w0 : Value) (w1 : Value) (w2 : Value) (p4 : Int32) (p5 : Int32) (p6 : Int32) (p7 : Int32) (p8 : Int32) (p9 : Int32) (p10 : Int32) (p11 : Int32) (p12 : Int32) (p13 : Int32) (p14 : Int32) (w3 : Value) (w4 : Value) (w5 : Value) (w6 : Value) (p15 : Int32) (p16 : Int32) (w7 : Value) (p17 : Int32) (p18 : Int32) (w8 : Value) (w9 : Value) (w10 : Value) (w11 : Value) (w12 : Value) (p19 : Int32) (w13 : Value) (w14 : Value) (w15 : Value) (f0 : Nat → Int32) (p20 : Int32) (f1 : Nat → Int32) (f2 : Nat → Int32) (f3 : Nat → Int32) (hp0 : 0 ≤ (p0).toInt ∧ (p0).toInt ≤ 1023) (hp1 : 0 ≤ (p1).toInt ∧ (p1).toInt ≤ 9) (hp2 : (-2147483648) ≤ (p2).toInt ∧ (p2).toInt ≤ 2147483647) (hp3 : 0 ≤ (p3).toInt ∧ (p3).toInt ≤ 0) (hp4 : 0 ≤ (p4).toInt ∧ (p4).toInt ≤ 900) (hp5 : 0 ≤ (p5).toInt ∧ (p5).toInt ≤ 900) (hp6 : 0 ≤ (p6).toInt ∧ (p6).toInt ≤ 900) (hp7 : 0 ≤ (p7).toInt ∧ (p7).toInt ≤ 900) (hp8 : (-2147483648) ≤ (p8).toInt ∧ (p8).toInt ≤ 2147483647) (hp9 : 0 ≤ (p9).toInt ∧ (p9).toInt ≤ 999) (hp10 : (-2147483648) ≤ (p10).toInt ∧ (p10).toInt ≤ 2147483647) (hp11 : (-2147483648) ≤ (p11).toInt ∧ (p11).toInt ≤ 2147483647) (hp12 : (-2147483648) ≤ (p12).toInt ∧ (p12).toInt ≤ 2147483647) (hp13 : (-2147483648) ≤ (p13).toInt ∧ (p13).toInt ≤ 2147483647) (hp14 : (-2147483648) ≤ (p14).toInt ∧ (p14).toInt ≤ 2147483647) (hp15 : (-2147483648) ≤ (p15).toInt ∧ (p15).toInt ≤ 2147483647) (hp16 : (-2147483648) ≤ (p16).toInt ∧ (p16).toInt ≤ 2147483647) (hp17 : (-1) ≤ (p17).toInt ∧ (p17).toInt ≤ 10) (hp18 : (-2147483648) ≤ (p18).toInt ∧ (p18).toInt ≤ 2147483647) (hp19 : (-2147483648) ≤ (p19).toInt ∧ (p19).toInt ≤ 2147483647) (hp20 : 0 ≤ (p20).toInt ∧ (p20).toInt ≤ 10) (htf0_84 : f0 84 = p20) (rf0 : AL f0) (rf1 : RG f1 10 0 1023) (hpre0 : (p0 : Int32).toInt % 512 = 0) (sz : Nat) : MV l yX12_goesPairs cX12_goesPairs 7 { frames := 2, cells := 0, slots := 0, locals := 43 } [.ref h0, .int p0, .int p1, .int p2] D cy (wk_f147cc4b8 cy h0 p3 h1 w0 w1 w2 p4 p5 p6 p7 p8 p9 p10 p11 p12 p13 p14 w3 w4 w5 h2 w6 p15 p16 w7 h3 h4 p17 p18 w8 w9 w10 w11 w12 p19 w13 w14 w15 h1 f0 h2 f1 h3 f2 h4 f3) sz (fun u => ((-1) ≤ (u.2.1 0 0).toInt ∧ (u.2.1 0 0).toInt ≤ 10) ∧ ((-2147483648) ≤ (u.2.1 1 0).toInt ∧ (u.2.1 1 0).toInt ≤ 2147483647) ∧ True) (fun u => (wk_f147cc4b8 cy h0 p3 h1 w0 w1 w2 p4 p5 p6 p7 p8 p9 p10 p11 p12 p13 p14 w3 w4 w5 h2 w6 p15 p16 w7 h3 h4 (u.2.1 0 0) (u.2.1 1 0) w8 w9 w10 w11 w12 p19 w13 w14 w15 h1 f0 h2 f1 h3 (u.2.1 2) h4 (u.2.1 3))) 0 0 := by
  refine q_ent (own := RX12) (by decide) rfl (Nat.le_of_ble_eq_true rfl) (fun p e s m below meth c ls X hr hlk hnm hK hT h hA hl => ?_)
  obtain ⟨hx, hb, hml, hown, ht⟩ := id X
  replace hl : lv_has ls 7 [(0, .ref h0), (1, .int p0), (2, .int p1), (3, .int p2)] := hl
  refine lv_iload_n hx hb dX12_goesPairs_0 rfl (lv_at hl 1 rfl) ?_
  refine lv_if_ne (tgt := 70) hx hb dX12_goesPairs_1 (by decide) (fun c_1 => ?_) (fun c_1 => ?_)
  · replace c_1 := i_ne (x := p0) (y := 0) rfl (show (0 : Int32).toInt = 0 by decide) c_1
    refine lv_iload_n hx hb dX12_goesPairs_70 rfl (lv_at hl 1 rfl) ?_
    refine q_callSi (rest := []) (wr := (wk_f147cc4b8 cy h0 p3 h1 w0 w1 w2 p4 p5 p6 p7 p8 p9 p10 p11 p12 p13 p14 w3 w4 w5 h2 w6 p15 p16 w7 h3 h4 p17 p18 w8 w9 w10 w11 w12 p19 w13 w14 w15 h1 f0 h2 f1 h3 f2 h4 f3)) X hK hT hA h (fun sz => gX12_lowest_51df8cb l D cy p0 ⟨by omega, by omega⟩ sz) wm_7_67 wm_7_69 wm_1_12 hd_X12_lowest wm_7_68 ⟨Nat.le_of_ble_eq_true rfl, Nat.le_of_ble_eq_true rfl⟩ hl.1 rfl (Nat.le_of_ble_eq_true rfl) dX12_goesPairs_71 ⟨Nat.le_of_ble_eq_true rfl, Nat.le_of_ble_eq_true rfl⟩ [] [0, 1, 2, 3, 4] rfl rfl (by decide) rfl rfl (fun r_2 u_2 H locs w_2 h_2 => ?_)
    clear h
    obtain ⟨wr_2, y2_0, _⟩ := w_2
    replace h_2 : qW D _ _ (wk_f147cc4b8 cy h0 p3 h1 w0 w1 w2 p4 p5 p6 p7 p8 p9 p10 p11 p12 p13 p14 w3 w4 w5 h2 w6 p15 p16 w7 h3 h4 p17 p18 w8 w9 w10 w11 w12 p19 w13 w14 w15 h1 f0 h2 f1 h3 f2 h4 f3) _ _ := h_2
    refine lv_istore (lv' := [(4, .int r_2), (0, .ref h0), (1, .int p0), (2, .int p1), (3, .int p2)]) hx hb dX12_goesPairs_74 hl (by decide) rfl (fun ls_3 hl_3 => ?_)
    clear hl
    refine lv_iload_n hx hb dX12_goesPairs_76 rfl (lv_at hl_3 2 rfl) ?_
    refine lv_iconst (v := 1) hx hb dX12_goesPairs_77 (by decide) ?_
    refine lv_iload hx hb dX12_goesPairs_78 (lv_at hl_3 0 rfl) ?_
    refine lv_ishl hx hb dX12_goesPairs_80 ?_
    obtain ⟨z_4, ez_4, hz_4⟩ := e_shlk (p := r_2) 9 (by decide) rfl (by omega) (by omega)
    refine q_c z_4 ez_4 ?_
    refine lv_iconst (v := (-1)) hx hb dX12_goesPairs_81 (by decide) ?_
    refine lv_ixor hx hb dX12_goesPairs_82 ?_
    obtain ⟨z_5, ez_5, hz_5⟩ := e_any (z_4 ^^^ (-1))
    refine q_c z_5 ez_5 ?_
    refine lv_iand hx hb dX12_goesPairs_83 ?_
    obtain ⟨z_6, ez_6, hz_6⟩ := e_and1 (x := p0) (y := z_5) rfl (by omega)
    refine q_c z_6 ez_6 ?_
    have rs_7 := rest_low 9 (by omega) y2_0 (by omega) ez_4 ez_5 ez_6
    refine lv_istore (lv' := [(5, .int z_6), (4, .int r_2), (0, .ref h0), (1, .int p0), (2, .int p1), (3, .int p2)]) hx hb dX12_goesPairs_84 hl_3 (by decide) rfl (fun ls_8 hl_8 => ?_)
    clear hl_3
    refine lv_iload hx hb dX12_goesPairs_86 (lv_at hl_8 1 rfl) ?_
    refine lv_iconst (v := 1) hx hb dX12_goesPairs_88 (by decide) ?_
    refine lv_iadd hx hb dX12_goesPairs_89 ?_
    obtain ⟨z_9, ez_9, hz_9⟩ := e_add (x := r_2) (y := 1) rfl (show (1 : Int32).toInt = 1 by decide) (by omega) (by omega)
    refine q_c z_9 ez_9 ?_
    clear ez_9
    refine lv_istore (lv' := [(6, .int z_9), (5, .int z_6), (4, .int r_2), (0, .ref h0), (1, .int p0), (2, .int p1), (3, .int p2)]) hx hb dX12_goesPairs_90 hl_8 (by decide) rfl (fun ls_10 hl_10 => ?_)
    clear hl_8
    refine q_wl (fun (q : Int32 × Int32 × Int32) H locs ls => match q with | (v92_11_0, v92_11_1, v92_11_2) => ∃ v92_11_3 : Nat → Int32, ∃ v92_11_4 : Nat → Int32, (1 ≤ (v92_11_0).toInt ∧ (v92_11_0).toInt ≤ 10) ∧ ((-1) ≤ (v92_11_1).toInt ∧ (v92_11_1).toInt ≤ 10) ∧ ((-2147483648) ≤ (v92_11_2).toInt ∧ (v92_11_2).toInt ≤ 2147483647) ∧ qW D (va_A (wk_f147cc4b8 cy h0 p3 h1 w0 w1 w2 p4 p5 p6 p7 p8 p9 p10 p11 p12 p13 p14 w3 w4 w5 h2 w6 p15 p16 w7 h3 h4 p17 p18 w8 w9 w10 w11 w12 p19 w13 w14 w15 h1 f0 h2 f1 h3 f2 h4 f3) sz) s.heap (wk_f147cc4b8 cy h0 p3 h1 w0 w1 w2 p4 p5 p6 p7 p8 p9 p10 p11 p12 p13 p14 w3 w4 w5 h2 w6 p15 p16 w7 h3 h4 v92_11_1 v92_11_2 w8 w9 w10 w11 w12 p19 w13 w14 w15 h1 f0 h2 f1 h3 v92_11_3 h4 v92_11_4) H locs ∧ lv_has ls 7 [(0, .ref h0), (1, .int p0), (2, .int p1), (3, .int p2), (4, .int r_2), (5, .int z_6), (6, .int v92_11_0)]) (fun (q : Int32 × Int32 × Int32) => match q with | (v92_11_0, v92_11_1, v92_11_2) => (11 - (v92_11_0).toInt).toNat) (fun q_92 ih_92 H locs ls hP => ?_) (z_9, p17, p18) ⟨f2, f3, ⟨by omega, by omega⟩, hp17, hp18, h_2, (lv_sub hl_10 [3, 4, 5, 6, 2, 1, 0] rfl)⟩
    obtain ⟨v92_11_0, v92_11_1, v92_11_2⟩ := q_92
    obtain ⟨v92_11_3, v92_11_4, hv92_11_0, hv92_11_1, hv92_11_2, h, hl⟩ := hP
    refine lv_iload hx hb dX12_goesPairs_92 (lv_at hl 6 rfl) ?_
    refine lv_aload_n hx hb dX12_goesPairs_94 rfl (lv_at hl 0 rfl) ?_
    refine q_get X hK h 0 rfl rfl wf_12 1 (by decide) rfl wm_5_171 dX12_goesPairs_95 ?_
    refine lv_iconst (v := 2) hx hb dX12_goesPairs_98 (by decide) ?_
    refine q_iald X hK h 1 rfl (q_in (by decide +kernel)) dX12_goesPairs_99 ?_
    obtain ⟨z_12, ez_12, hz_12⟩ := al_P rf0 (x := 2) (show (2 : Int32).toInt = 2 by decide) (by omega) (by omega)
    refine q_c z_12 ez_12 ?_
    clear ez_12
    refine lv_icmp_ge (tgt := 196) hx hb dX12_goesPairs_100 (by decide) (fun c_13 => ?_) (fun c_13 => ?_)
    · replace c_13 := i_le (x := z_12) (y := v92_11_0) rfl rfl c_13
      refine lv_aload_n hx hb dX12_goesPairs_196 rfl (lv_at hl 0 rfl) ?_
      refine q_get X hK h 0 rfl rfl wf_12 24 (by decide) rfl wm_5_194 dX12_goesPairs_197 ?_
      refine lv_iload hx hb dX12_goesPairs_200 (lv_at hl 4 rfl) ?_
      refine lv_iconst (v := (-1)) hx hb dX12_goesPairs_202 (by decide) ?_
      refine q_iast X hK h 3 rfl (i_in rfl (by omega) (by omega)) dX12_goesPairs_203 (fun H locs h_15 => ?_)
      clear h
      replace h_15 : qW D _ _ (wk_f147cc4b8 cy h0 p3 h1 w0 w1 w2 p4 p5 p6 p7 p8 p9 p10 p11 p12 p13 p14 w3 w4 w5 h2 w6 p15 p16 w7 h3 h4 v92_11_1 v92_11_2 w8 w9 w10 w11 w12 p19 w13 w14 w15 h1 f0 h2 f1 h3 (upd v92_11_3 (Int32.toNatClampNeg r_2) (-1)) h4 v92_11_4) _ _ := h_15
      obtain ⟨F_14, eF_14⟩ : ∃ z, (upd v92_11_3 (Int32.toNatClampNeg r_2) (-1)) = z := ⟨_, rfl⟩
      rw [eF_14] at h_15
      clear eF_14
      refine lv_aload_n hx hb dX12_goesPairs_204 rfl (lv_at hl 0 rfl) ?_
      refine lv_iload hx hb dX12_goesPairs_205 (lv_at hl 5 rfl) ?_
      refine lv_iload_n hx hb dX12_goesPairs_207 rfl (lv_at hl 2 rfl) ?_
      refine lv_iload_n hx hb dX12_goesPairs_208 rfl (lv_at hl 3 rfl) ?_
      refine q_callVv (rest := []) (wr := (wk_d2b1692f1 cy h1 f0 h2 f1)) X hK hT hA h_15 (fun sz => gX12_goesPairs_aec2824 l D cy h0 h3 h4 z_6 p1 p2 p3 (.ref h1) w0 w1 w2 p4 p5 p6 p7 p8 p9 p10 p11 p12 p13 p14 w3 w4 w5 (.ref h2) w6 p15 p16 w7 v92_11_1 v92_11_2 w8 w9 w10 w11 w12 p19 w13 w14 w15 F_14 v92_11_4 ⟨by omega, by omega⟩ (bw hp1 (by decide) (by decide)) (i_rng _) hp3 hp4 hp5 hp6 hp7 (i_rng _) hp9 (i_rng _) (i_rng _) (i_rng _) (i_rng _) (i_rng _) (i_rng _) (i_rng _) hv92_11_1 (i_rng _) (i_rng _) ((show _ % 1024 = 0 from rs_7.1)) sz) wm_7_116 wm_7_119 wm_1_12 hd_X12_goesPairs wm_7_118 wp_7_4 (ci := 12) (q0 := 0) rfl rfl ⟨Nat.le_of_ble_eq_true rfl, Nat.le_of_ble_eq_true rfl⟩ hl.1 rfl (Nat.le_of_ble_eq_true rfl) dX12_goesPairs_209 ⟨Nat.le_of_ble_eq_true rfl, Nat.le_of_ble_eq_true rfl⟩ [0, 3, 4] [1, 2] rfl rfl (by decide) rfl rfl (fun u_16 H locs w_16 h_16 => ?_)
      clear h_15
      obtain ⟨w16_0, w16_1, _⟩ := w_16
      replace h_16 : qW D _ _ (wk_5e3f1f655 cy h1 f0 h2 f1 h0 p3 h1 w0 w1 w2 p4 p5 p6 p7 p8 p9 p10 p11 p12 p13 p14 w3 w4 w5 h2 w6 p15 p16 w7 h3 h4 (u_16.2.1 0 0) (u_16.2.1 1 0) w8 w9 w10 w11 w12 p19 w13 w14 w15 h3 F_14 h4 (u_16.2.1 2)) _ _ := h_16
      exact q_vret X hr hlk hK h_16 (fun _ => 0, (vcons (fun _ => (u_16.2.1 0 0)) (vcons (fun _ => (u_16.2.1 1 0)) (vcons F_14 (vcons (u_16.2.1 2) (fun _ => (fun _ => 0)))))), fun _ _ => 0) ⟨w16_0, w16_1, trivial⟩ [2, 0, 1, 3, 4] rfl rfl dX12_goesPairs_212 (Nat.le_of_ble_eq_true rfl) (Nat.le_of_ble_eq_true rfl)
    · replace c_13 := i_nle (x := z_12) (y := v92_11_0) rfl rfl c_13
      refine lv_iload hx hb dX12_goesPairs_103 (lv_at hl 5 rfl) ?_
      refine lv_aload_n hx hb dX12_goesPairs_105 rfl (lv_at hl 0 rfl) ?_
      refine q_get X hK h 0 rfl rfl wf_12 19 (by decide) rfl wm_5_189 dX12_goesPairs_106 ?_
      refine lv_iload hx hb dX12_goesPairs_109 (lv_at hl 4 rfl) ?_
      refine q_iald X hK h 2 rfl (i_in rfl (by omega) (by omega)) dX12_goesPairs_111 ?_
      obtain ⟨z_17, ez_17, hz_17⟩ := rg_get rf1 (x := r_2) rfl (by omega) (by omega)
      refine q_c z_17 ez_17 ?_
      clear ez_17
      refine lv_iand hx hb dX12_goesPairs_112 ?_
      obtain ⟨z_18, ez_18, hz_18⟩ := e_and2 (x := z_6) (y := z_17) rfl (by omega)
      refine q_c z_18 ez_18 ?_
      clear ez_18
      refine lv_i2l hx hb dX12_goesPairs_113 rfl ?_
      obtain ⟨z_19, ez_19, hz_19⟩ := e_i2l (x := z_18) rfl
      refine q_cl z_19 ez_19 ?_
      clear ez_19
      refine lv_iload hx hb dX12_goesPairs_114 (lv_at hl 6 rfl) ?_
      refine q_callSi (rest := []) (wr := (wk_f147cc4b8 cy h0 p3 h1 w0 w1 w2 p4 p5 p6 p7 p8 p9 p10 p11 p12 p13 p14 w3 w4 w5 h2 w6 p15 p16 w7 h3 h4 v92_11_1 v92_11_2 w8 w9 w10 w11 w12 p19 w13 w14 w15 h1 f0 h2 f1 h3 v92_11_3 h4 v92_11_4)) X hK hT hA h (fun sz => gX12_isIn_b0455a8 l D cy z_19 v92_11_0 ⟨by omega, by omega⟩ ⟨by omega, by omega⟩ sz) wm_6_167 wm_6_169 wm_1_12 hd_X12_isIn wm_6_168 ⟨Nat.le_of_ble_eq_true rfl, Nat.le_of_ble_eq_true rfl⟩ hl.1 rfl (Nat.le_of_ble_eq_true rfl) dX12_goesPairs_116 ⟨Nat.le_of_ble_eq_true rfl, Nat.le_of_ble_eq_true rfl⟩ [] [0, 1, 2, 3, 4] rfl rfl (by decide) rfl rfl (fun r_20 u_20 H locs w_20 h_20 => ?_)
      clear h
      obtain ⟨wr_20, _⟩ := w_20
      replace h_20 : qW D _ _ (wk_f147cc4b8 cy h0 p3 h1 w0 w1 w2 p4 p5 p6 p7 p8 p9 p10 p11 p12 p13 p14 w3 w4 w5 h2 w6 p15 p16 w7 h3 h4 v92_11_1 v92_11_2 w8 w9 w10 w11 w12 p19 w13 w14 w15 h1 f0 h2 f1 h3 v92_11_3 h4 v92_11_4) _ _ := h_20
      refine q_jn (pc2 := 190) (fun H locs ls st => ∃ v190_21_0 : Int32, ∃ v190_21_1 : Int32, ∃ v190_21_2 : Nat → Int32, ∃ v190_21_3 : Nat → Int32, ((-1) ≤ (v190_21_0).toInt ∧ (v190_21_0).toInt ≤ 10) ∧ ((-2147483648) ≤ (v190_21_1).toInt ∧ (v190_21_1).toInt ≤ 2147483647) ∧ st = [] ∧ qW D (va_A (wk_f147cc4b8 cy h0 p3 h1 w0 w1 w2 p4 p5 p6 p7 p8 p9 p10 p11 p12 p13 p14 w3 w4 w5 h2 w6 p15 p16 w7 h3 h4 p17 p18 w8 w9 w10 w11 w12 p19 w13 w14 w15 h1 f0 h2 f1 h3 f2 h4 f3) sz) s.heap (wk_f147cc4b8 cy h0 p3 h1 w0 w1 w2 p4 p5 p6 p7 p8 p9 p10 p11 p12 p13 p14 w3 w4 w5 h2 w6 p15 p16 w7 h3 h4 v190_21_0 v190_21_1 w8 w9 w10 w11 w12 p19 w13 w14 w15 h1 f0 h2 f1 h3 v190_21_2 h4 v190_21_3) H locs ∧ lv_has ls 7 [(0, .ref h0), (1, .int p0), (2, .int p1), (3, .int p2), (4, .int r_2), (5, .int z_6), (6, .int v92_11_0)]) (fun H locs ls st hP => ?_) (fun J_190 => ?_)
      · obtain ⟨v190_21_0, v190_21_1, v190_21_2, v190_21_3, hv190_21_0, hv190_21_1, rfl, h, hl⟩ := hP
        obtain ⟨z_22, ez_22, hz_22⟩ := e_add (x := v92_11_0) (y := Int32.ofInt 1) rfl (b := 1) (by decide) (by omega) (by omega)
        refine lv_iinc (v := z_22) (lv' := [(6, .int z_22), (0, .ref h0), (1, .int p0), (2, .int p1), (3, .int p2), (4, .int r_2), (5, .int z_6)]) hx hb dX12_goesPairs_190 hl (k := 6) rfl ez_22 (by decide) rfl (fun ls_22 hl_22 => ?_)
        clear hl
        refine lv_goto (tgt := 92) hx hb dX12_goesPairs_193 (by decide) ?_
        exact ih_92 (z_22, v190_21_0, v190_21_1) (by show (11 - (z_22).toInt).toNat < (11 - (v92_11_0).toInt).toNat; omega) _ _ _ ⟨v190_21_2, v190_21_3, ⟨by omega, by omega⟩, hv190_21_0, hv190_21_1, h, (lv_sub hl_22 [1, 2, 3, 4, 5, 6, 0] rfl)⟩
      · skip
        refine lv_if_ne (tgt := 125) hx hb dX12_goesPairs_119 (by decide) (fun c_23 => ?_) (fun c_23 => ?_)
        · replace c_23 := i_ne (x := r_20) (y := 0) rfl (show (0 : Int32).toInt = 0 by decide) c_23
          refine lv_aload_n hx hb dX12_goesPairs_125 rfl (lv_at hl 0 rfl) ?_
          refine q_get X hK h_20 0 rfl rfl wf_12 24 (by decide) rfl wm_5_194 dX12_goesPairs_126 ?_
          refine lv_iload hx hb dX12_goesPairs_129 (lv_at hl 4 rfl) ?_
          refine lv_iload hx hb dX12_goesPairs_131 (lv_at hl 6 rfl) ?_
          refine q_iast X hK h_20 3 rfl (i_in rfl (by omega) (by omega)) dX12_goesPairs_133 (fun H locs h_25 => ?_)
          clear h_20
          replace h_25 : qW D _ _ (wk_f147cc4b8 cy h0 p3 h1 w0 w1 w2 p4 p5 p6 p7 p8 p9 p10 p11 p12 p13 p14 w3 w4 w5 h2 w6 p15 p16 w7 h3 h4 v92_11_1 v92_11_2 w8 w9 w10 w11 w12 p19 w13 w14 w15 h1 f0 h2 f1 h3 (upd v92_11_3 (Int32.toNatClampNeg r_2) v92_11_0) h4 v92_11_4) _ _ := h_25
          obtain ⟨F_24, eF_24⟩ : ∃ z, (upd v92_11_3 (Int32.toNatClampNeg r_2) v92_11_0) = z := ⟨_, rfl⟩
          rw [eF_24] at h_25
          clear eF_24
          refine lv_aload_n hx hb dX12_goesPairs_134 rfl (lv_at hl 0 rfl) ?_
          refine q_get X hK h_25 0 rfl rfl wf_12 24 (by decide) rfl wm_5_194 dX12_goesPairs_135 ?_
          refine lv_iload hx hb dX12_goesPairs_138 (lv_at hl 6 rfl) ?_
          refine lv_iload hx hb dX12_goesPairs_140 (lv_at hl 4 rfl) ?_
          refine q_iast X hK h_25 3 rfl (i_in rfl (by omega) (by omega)) dX12_goesPairs_142 (fun H locs h_27 => ?_)
          clear h_25
          replace h_27 : qW D _ _ (wk_f147cc4b8 cy h0 p3 h1 w0 w1 w2 p4 p5 p6 p7 p8 p9 p10 p11 p12 p13 p14 w3 w4 w5 h2 w6 p15 p16 w7 h3 h4 v92_11_1 v92_11_2 w8 w9 w10 w11 w12 p19 w13 w14 w15 h1 f0 h2 f1 h3 (upd F_24 (Int32.toNatClampNeg v92_11_0) r_2) h4 v92_11_4) _ _ := h_27
          obtain ⟨F_26, eF_26⟩ : ∃ z, (upd F_24 (Int32.toNatClampNeg v92_11_0) r_2) = z := ⟨_, rfl⟩
          rw [eF_26] at h_27
          clear eF_26
          refine lv_aload_n hx hb dX12_goesPairs_143 rfl (lv_at hl 0 rfl) ?_
          refine lv_iload hx hb dX12_goesPairs_144 (lv_at hl 5 rfl) ?_
          refine lv_iconst (v := 1) hx hb dX12_goesPairs_146 (by decide) ?_
          refine lv_iload hx hb dX12_goesPairs_147 (lv_at hl 6 rfl) ?_
          refine lv_ishl hx hb dX12_goesPairs_149 ?_
          obtain ⟨z_28, ez_28, hz_28⟩ := e_shlk (p := v92_11_0) 9 (by decide) rfl (by omega) (by omega)
          refine q_c z_28 ez_28 ?_
          clear ez_28
          refine lv_iconst (v := (-1)) hx hb dX12_goesPairs_150 (by decide) ?_
          refine lv_ixor hx hb dX12_goesPairs_151 ?_
          refine q_any (fun z_29 hz_29 => ?_)
          refine lv_iand hx hb dX12_goesPairs_152 ?_
          obtain ⟨z_30, ez_30, hz_30⟩ := e_and1 (x := z_6) (y := z_29) rfl (by omega)
          refine q_c z_30 ez_30 ?_
          have ad_31 := and_div 10 (by omega) rs_7.1 ez_30
          refine lv_iload_n hx hb dX12_goesPairs_153 rfl (lv_at hl 2 rfl) ?_
          refine lv_iconst (v := 1) hx hb dX12_goesPairs_154 (by decide) ?_
          refine lv_iadd hx hb dX12_goesPairs_155 ?_
          obtain ⟨z_32, ez_32, hz_32⟩ := e_add (x := p1) (y := 1) rfl (show (1 : Int32).toInt = 1 by decide) (by omega) (by omega)
          refine q_c z_32 ez_32 ?_
          clear ez_32
          refine lv_iload_n hx hb dX12_goesPairs_156 rfl (lv_at hl 3 rfl) ?_
          refine lv_aload_n hx hb dX12_goesPairs_157 rfl (lv_at hl 0 rfl) ?_
          refine q_get X hK h_27 0 rfl rfl wf_12 1 (by decide) rfl wm_5_171 dX12_goesPairs_158 ?_
          refine lv_bipush (v := 42) hx hb dX12_goesPairs_161 (by decide) ?_
          refine lv_iload hx hb dX12_goesPairs_163 (lv_at hl 4 rfl) ?_
          refine lv_iadd hx hb dX12_goesPairs_165 ?_
          obtain ⟨z_33, ez_33, hz_33⟩ := e_add (x := 42) (y := r_2) (show (42 : Int32).toInt = 42 by decide) rfl (by omega) (by omega)
          refine q_c z_33 ez_33 ?_
          clear ez_33
          refine q_iald X hK h_27 1 rfl (i_in rfl (by omega) (by omega)) dX12_goesPairs_166 ?_
          refine q_any (fun z_34 hz_34 => ?_)
          refine lv_iadd hx hb dX12_goesPairs_167 ?_
          refine q_any (fun z_35 hz_35 => ?_)
          refine lv_aload_n hx hb dX12_goesPairs_168 rfl (lv_at hl 0 rfl) ?_
          refine q_get X hK h_27 0 rfl rfl wf_12 1 (by decide) rfl wm_5_171 dX12_goesPairs_169 ?_
          refine lv_bipush (v := 42) hx hb dX12_goesPairs_172 (by decide) ?_
          refine lv_iload hx hb dX12_goesPairs_174 (lv_at hl 6 rfl) ?_
          refine lv_iadd hx hb dX12_goesPairs_176 ?_
          obtain ⟨z_36, ez_36, hz_36⟩ := e_add (x := 42) (y := v92_11_0) (show (42 : Int32).toInt = 42 by decide) rfl (by omega) (by omega)
          refine q_c z_36 ez_36 ?_
          clear ez_36
          refine q_iald X hK h_27 1 rfl (i_in rfl (by omega) (by omega)) dX12_goesPairs_177 ?_
          refine q_any (fun z_37 hz_37 => ?_)
          refine lv_iadd hx hb dX12_goesPairs_178 ?_
          refine q_any (fun z_38 hz_38 => ?_)
          refine q_callVv (rest := []) (wr := (wk_d2b1692f1 cy h1 f0 h2 f1)) X hK hT hA h_27 (fun sz => gX12_goesPairs_aec2824 l D cy h0 h3 h4 z_30 z_32 z_38 p3 (.ref h1) w0 w1 w2 p4 p5 p6 p7 p8 p9 p10 p11 p12 p13 p14 w3 w4 w5 (.ref h2) w6 p15 p16 w7 v92_11_1 v92_11_2 w8 w9 w10 w11 w12 p19 w13 w14 w15 F_26 v92_11_4 ⟨by omega, by omega⟩ ⟨by omega, by omega⟩ (i_rng _) hp3 hp4 hp5 hp6 hp7 (i_rng _) hp9 (i_rng _) (i_rng _) (i_rng _) (i_rng _) (i_rng _) (i_rng _) (i_rng _) hv92_11_1 (i_rng _) (i_rng _) ((show _ % 1024 = 0 from ad_31)) sz) wm_7_116 wm_7_119 wm_1_12 hd_X12_goesPairs wm_7_118 wp_7_4 (ci := 12) (q0 := 0) rfl rfl ⟨Nat.le_of_ble_eq_true rfl, Nat.le_of_ble_eq_true rfl⟩ hl.1 rfl (Nat.le_of_ble_eq_true rfl) dX12_goesPairs_179 ⟨Nat.le_of_ble_eq_true rfl, Nat.le_of_ble_eq_true rfl⟩ [0, 3, 4] [1, 2] rfl rfl (by decide) rfl rfl (fun u_39 H locs w_39 h_39 => ?_)
          clear h_27
          obtain ⟨w39_0, w39_1, _⟩ := w_39
          replace h_39 : qW D _ _ (wk_5e3f1f655 cy h1 f0 h2 f1 h0 p3 h1 w0 w1 w2 p4 p5 p6 p7 p8 p9 p10 p11 p12 p13 p14 w3 w4 w5 h2 w6 p15 p16 w7 h3 h4 (u_39.2.1 0 0) (u_39.2.1 1 0) w8 w9 w10 w11 w12 p19 w13 w14 w15 h3 F_26 h4 (u_39.2.1 2)) _ _ := h_39
          refine lv_aload_n hx hb dX12_goesPairs_182 rfl (lv_at hl 0 rfl) ?_
          refine q_get X hK h_39 2 rfl rfl wf_12 24 (by decide) rfl wm_5_194 dX12_goesPairs_183 ?_
          refine lv_iload hx hb dX12_goesPairs_186 (lv_at hl 6 rfl) ?_
          refine lv_iconst (v := (-1)) hx hb dX12_goesPairs_188 (by decide) ?_
          refine q_iast X hK h_39 3 rfl (i_in rfl (by omega) (by omega)) dX12_goesPairs_189 (fun H locs h_41 => ?_)
          clear h_39
          replace h_41 : qW D _ _ (wk_5e3f1f655 cy h1 f0 h2 f1 h0 p3 h1 w0 w1 w2 p4 p5 p6 p7 p8 p9 p10 p11 p12 p13 p14 w3 w4 w5 h2 w6 p15 p16 w7 h3 h4 (u_39.2.1 0 0) (u_39.2.1 1 0) w8 w9 w10 w11 w12 p19 w13 w14 w15 h3 (upd F_26 (Int32.toNatClampNeg v92_11_0) (-1)) h4 (u_39.2.1 2)) _ _ := h_41
          obtain ⟨F_40, eF_40⟩ : ∃ z, (upd F_26 (Int32.toNatClampNeg v92_11_0) (-1)) = z := ⟨_, rfl⟩
          rw [eF_40] at h_41
          clear eF_40
          exact J_190 _ _ _ _ ⟨(u_39.2.1 0 0), (u_39.2.1 1 0), F_40, (u_39.2.1 2), w39_0, w39_1, rfl, (q_re h_41 [2, 0, 1, 3, 4] rfl rfl), (lv_sub hl [0, 1, 2, 3, 4, 5, 6] rfl)⟩
        · replace c_23 := i_eq (x := r_20) (y := 0) rfl (show (0 : Int32).toInt = 0 by decide) c_23
          refine lv_goto (tgt := 190) hx hb dX12_goesPairs_122 (by decide) ?_
          exact J_190 _ _ _ _ ⟨v92_11_1, v92_11_2, v92_11_3, v92_11_4, hv92_11_1, hv92_11_2, rfl, h_20, (lv_sub hl [0, 1, 2, 3, 4, 5, 6] rfl)⟩
  · replace c_1 := i_eq (x := p0) (y := 0) rfl (show (0 : Int32).toInt = 0 by decide) c_1
    refine lv_iload_n hx hb dX12_goesPairs_4 rfl (lv_at hl 2 rfl) ?_
    refine lv_aload_n hx hb dX12_goesPairs_5 rfl (lv_at hl 0 rfl) ?_
    refine q_get X hK h 0 rfl rfl wf_12 26 (by decide) rfl wm_5_196 dX12_goesPairs_6 ?_
    refine q_jn (pc2 := 28) (fun H locs ls st => st = [] ∧ qW D (va_A (wk_f147cc4b8 cy h0 p3 h1 w0 w1 w2 p4 p5 p6 p7 p8 p9 p10 p11 p12 p13 p14 w3 w4 w5 h2 w6 p15 p16 w7 h3 h4 p17 p18 w8 w9 w10 w11 w12 p19 w13 w14 w15 h1 f0 h2 f1 h3 f2 h4 f3) sz) s.heap (wk_f147cc4b8 cy h0 p3 h1 w0 w1 w2 p4 p5 p6 p7 p8 p9 p10 p11 p12 p13 p14 w3 w4 w5 h2 w6 p15 p16 w7 h3 h4 p17 p18 w8 w9 w10 w11 w12 p19 w13 w14 w15 h1 f0 h2 f1 h3 f2 h4 f3) H locs ∧ lv_has ls 7 [(0, .ref h0), (1, .int p0), (2, .int p1), (3, .int p2)]) (fun H locs ls st hP => ?_) (fun J_28 => ?_)
    · obtain ⟨rfl, h, hl⟩ := hP
      exact q_vret X hr hlk hK h (fun _ => 0, (vcons (fun _ => p17) (vcons (fun _ => p18) (vcons f2 (vcons f3 (fun _ => (fun _ => 0)))))), fun _ _ => 0) ⟨hp17, hp18, trivial⟩ [0, 1, 2, 3, 4] rfl rfl dX12_goesPairs_28 (Nat.le_of_ble_eq_true rfl) (Nat.le_of_ble_eq_true rfl)
    · skip
      refine lv_icmp_lt (tgt := 28) hx hb dX12_goesPairs_9 (by decide) (fun c_43 => ?_) (fun c_43 => ?_)
      · replace c_43 := i_lt (x := p1) (y := p17) rfl rfl c_43
        exact J_28 _ _ _ _ ⟨rfl, h, (lv_sub hl [0, 1, 2, 3] rfl)⟩
      · replace c_43 := i_nlt (x := p1) (y := p17) rfl rfl c_43
        refine lv_iload_n hx hb dX12_goesPairs_12 rfl (lv_at hl 2 rfl) ?_
        refine lv_aload_n hx hb dX12_goesPairs_13 rfl (lv_at hl 0 rfl) ?_
        refine q_get X hK h 0 rfl rfl wf_12 26 (by decide) rfl wm_5_196 dX12_goesPairs_14 ?_
        refine q_jn (pc2 := 29) (fun H locs ls st => st = [] ∧ qW D (va_A (wk_f147cc4b8 cy h0 p3 h1 w0 w1 w2 p4 p5 p6 p7 p8 p9 p10 p11 p12 p13 p14 w3 w4 w5 h2 w6 p15 p16 w7 h3 h4 p17 p18 w8 w9 w10 w11 w12 p19 w13 w14 w15 h1 f0 h2 f1 h3 f2 h4 f3) sz) s.heap (wk_f147cc4b8 cy h0 p3 h1 w0 w1 w2 p4 p5 p6 p7 p8 p9 p10 p11 p12 p13 p14 w3 w4 w5 h2 w6 p15 p16 w7 h3 h4 p17 p18 w8 w9 w10 w11 w12 p19 w13 w14 w15 h1 f0 h2 f1 h3 f2 h4 f3) H locs ∧ lv_has ls 7 [(0, .ref h0), (1, .int p0), (2, .int p1), (3, .int p2)]) (fun H locs ls st hP => ?_) (fun J_29 => ?_)
        · obtain ⟨rfl, h, hl⟩ := hP
          refine lv_aload_n hx hb dX12_goesPairs_29 rfl (lv_at hl 0 rfl) ?_
          refine lv_iload_n hx hb dX12_goesPairs_30 rfl (lv_at hl 2 rfl) ?_
          refine q_put (v := .int p1) X hK h 0 rfl rfl wf_12 tyX12 tyX12_ok nmX12 26 (by decide) wm_5_196 rfl rfl rfl (Nat.le_of_ble_eq_true rfl) dX12_goesPairs_31 (fun H locs h_45 => ?_)
          clear h
          replace h_45 : qW D _ _ (wk_f147cc4b8 cy h0 p3 h1 w0 w1 w2 p4 p5 p6 p7 p8 p9 p10 p11 p12 p13 p14 w3 w4 w5 h2 w6 p15 p16 w7 h3 h4 p1 p18 w8 w9 w10 w11 w12 p19 w13 w14 w15 h1 f0 h2 f1 h3 f2 h4 f3) _ _ := h_45
          refine lv_aload_n hx hb dX12_goesPairs_34 rfl (lv_at hl 0 rfl) ?_
          refine lv_iload_n hx hb dX12_goesPairs_35 rfl (lv_at hl 3 rfl) ?_
          refine q_put (v := .int p2) X hK h_45 0 rfl rfl wf_12 tyX12 tyX12_ok nmX12 27 (by decide) wm_5_197 rfl rfl rfl (Nat.le_of_ble_eq_true rfl) dX12_goesPairs_36 (fun H locs h_46 => ?_)
          clear h_45
          replace h_46 : qW D _ _ (wk_f147cc4b8 cy h0 p3 h1 w0 w1 w2 p4 p5 p6 p7 p8 p9 p10 p11 p12 p13 p14 w3 w4 w5 h2 w6 p15 p16 w7 h3 h4 p1 p2 w8 w9 w10 w11 w12 p19 w13 w14 w15 h1 f0 h2 f1 h3 f2 h4 f3) _ _ := h_46
          refine lv_iconst (v := 0) hx hb dX12_goesPairs_39 (by decide) ?_
          refine lv_istore (lv' := [(4, .int 0), (0, .ref h0), (1, .int p0), (2, .int p1), (3, .int p2)]) hx hb dX12_goesPairs_40 hl (by decide) rfl (fun ls_47 hl_47 => ?_)
          clear hl
          refine q_wl (fun (v42_48_0 : Int32) H locs ls => ∃ v42_48_1 : Nat → Int32, (0 ≤ (v42_48_0).toInt ∧ (v42_48_0).toInt ≤ 10) ∧ qW D (va_A (wk_f147cc4b8 cy h0 p3 h1 w0 w1 w2 p4 p5 p6 p7 p8 p9 p10 p11 p12 p13 p14 w3 w4 w5 h2 w6 p15 p16 w7 h3 h4 p17 p18 w8 w9 w10 w11 w12 p19 w13 w14 w15 h1 f0 h2 f1 h3 f2 h4 f3) sz) s.heap (wk_f147cc4b8 cy h0 p3 h1 w0 w1 w2 p4 p5 p6 p7 p8 p9 p10 p11 p12 p13 p14 w3 w4 w5 h2 w6 p15 p16 w7 h3 h4 p1 p2 w8 w9 w10 w11 w12 p19 w13 w14 w15 h1 f0 h2 f1 h3 f2 h4 v42_48_1) H locs ∧ lv_has ls 7 [(0, .ref h0), (1, .int p0), (2, .int p1), (3, .int p2), (4, .int v42_48_0)]) (fun (v42_48_0 : Int32) => (11 - (v42_48_0).toInt).toNat) (fun q_42 ih_42 H locs ls hP => ?_) 0 ⟨f3, ⟨by decide +kernel, by decide +kernel⟩, h_46, (lv_sub hl_47 [1, 2, 3, 4, 0] rfl)⟩
          obtain ⟨v42_48_0, rfl⟩ : ∃ z, z = q_42 := ⟨_, rfl⟩
          obtain ⟨v42_48_1, hv42_48_0, h, hl⟩ := hP
          refine lv_iload hx hb dX12_goesPairs_42 (lv_at hl 4 rfl) ?_
          refine lv_bipush (v := 10) hx hb dX12_goesPairs_44 (by decide) ?_
          refine lv_icmp_ge (tgt := 69) hx hb dX12_goesPairs_46 (by decide) (fun c_49 => ?_) (fun c_49 => ?_)
          · replace c_49 := i_le (x := 10) (y := v42_48_0) (show (10 : Int32).toInt = 10 by decide) rfl c_49
            exact q_vret X hr hlk hK h (fun _ => 0, (vcons (fun _ => p1) (vcons (fun _ => p2) (vcons f2 (vcons v42_48_1 (fun _ => (fun _ => 0)))))), fun _ _ => 0) ⟨(bw hp1 (by decide) (by decide)), hp2, trivial⟩ [0, 1, 2, 3, 4] rfl rfl dX12_goesPairs_69 (Nat.le_of_ble_eq_true rfl) (Nat.le_of_ble_eq_true rfl)
          · replace c_49 := i_nle (x := 10) (y := v42_48_0) (show (10 : Int32).toInt = 10 by decide) rfl c_49
            refine lv_aload_n hx hb dX12_goesPairs_49 rfl (lv_at hl 0 rfl) ?_
            refine q_get X hK h 0 rfl rfl wf_12 25 (by decide) rfl wm_5_195 dX12_goesPairs_50 ?_
            refine lv_iload hx hb dX12_goesPairs_53 (lv_at hl 4 rfl) ?_
            refine lv_aload_n hx hb dX12_goesPairs_55 rfl (lv_at hl 0 rfl) ?_
            refine q_get X hK h 0 rfl rfl wf_12 24 (by decide) rfl wm_5_194 dX12_goesPairs_56 ?_
            refine lv_iload hx hb dX12_goesPairs_59 (lv_at hl 4 rfl) ?_
            refine q_iald X hK h 3 rfl (i_in rfl (by omega) (by omega)) dX12_goesPairs_61 ?_
            refine q_any (fun z_50 hz_50 => ?_)
            refine q_iast X hK h 4 rfl (i_in rfl (by omega) (by omega)) dX12_goesPairs_62 (fun H locs h_52 => ?_)
            clear h
            replace h_52 : qW D _ _ (wk_f147cc4b8 cy h0 p3 h1 w0 w1 w2 p4 p5 p6 p7 p8 p9 p10 p11 p12 p13 p14 w3 w4 w5 h2 w6 p15 p16 w7 h3 h4 p1 p2 w8 w9 w10 w11 w12 p19 w13 w14 w15 h1 f0 h2 f1 h3 f2 h4 (upd v42_48_1 (Int32.toNatClampNeg v42_48_0) z_50)) _ _ := h_52
            obtain ⟨F_51, eF_51⟩ : ∃ z, (upd v42_48_1 (Int32.toNatClampNeg v42_48_0) z_50) = z := ⟨_, rfl⟩
            rw [eF_51] at h_52
            clear eF_51
            obtain ⟨z_53, ez_53, hz_53⟩ := e_add (x := v42_48_0) (y := Int32.ofInt 1) rfl (b := 1) (by decide) (by omega) (by omega)
            refine lv_iinc (v := z_53) (lv' := [(4, .int z_53), (0, .ref h0), (1, .int p0), (2, .int p1), (3, .int p2)]) hx hb dX12_goesPairs_63 hl (k := 4) rfl ez_53 (by decide) rfl (fun ls_53 hl_53 => ?_)
            clear hl
            refine lv_goto (tgt := 42) hx hb dX12_goesPairs_66 (by decide) ?_
            exact ih_42 z_53 (by show (11 - (z_53).toInt).toNat < (11 - (v42_48_0).toInt).toNat; omega) _ _ _ ⟨F_51, ⟨by omega, by omega⟩, h_52, (lv_sub hl_53 [1, 2, 3, 4, 0] rfl)⟩
        · skip
          refine lv_icmp_ne (tgt := 29) hx hb dX12_goesPairs_17 (by decide) (fun c_54 => ?_) (fun c_54 => ?_)
          · replace c_54 := i_ne (x := p1) (y := p17) rfl rfl c_54
            exact J_29 _ _ _ _ ⟨rfl, h, (lv_sub hl [0, 1, 2, 3] rfl)⟩
          · replace c_54 := i_eq (x := p1) (y := p17) rfl rfl c_54
            refine lv_iload_n hx hb dX12_goesPairs_20 rfl (lv_at hl 3 rfl) ?_
            refine lv_aload_n hx hb dX12_goesPairs_21 rfl (lv_at hl 0 rfl) ?_
            refine q_get X hK h 0 rfl rfl wf_12 27 (by decide) rfl wm_5_197 dX12_goesPairs_22 ?_
            refine lv_icmp_gt (tgt := 29) hx hb dX12_goesPairs_25 (by decide) (fun c_55 => ?_) (fun c_55 => ?_)
            · replace c_55 := i_lt (x := p18) (y := p2) rfl rfl c_55
              exact J_29 _ _ _ _ ⟨rfl, h, (lv_sub hl [0, 1, 2, 3] rfl)⟩
            · replace c_55 := i_nlt (x := p18) (y := p2) rfl rfl c_55
              exact J_28 _ _ _ _ ⟨rfl, h, (lv_sub hl [0, 1, 2, 3] rfl)⟩
set_option maxHeartbeats 4000000 in
set_option maxRecDepth 100000 in
theorem gX12_goesPairs_cec3488 (l : Launch) (D : va_G) (cy : Nat → ClassId) (h0 : Nat) (h1 : Nat) (h2 : Nat) (h3 : Nat) (h4 : Nat) (p0 : Int32) (p1 : Int32) (p2 : Int32) (p3 : Int32) (w0 : Value) (w1 : Value) (w2 : Value) (p4 : Int32) (p5 : Int32) (p6 : Int32) (p7 : Int32) (p8 : Int32) (p9 : Int32) (p10 : Int32) (p11 : Int32) (p12 : Int32) (p13 : Int32) (p14 : Int32) (w3 : Value) (w4 : Value) (w5 : Value) (w6 : Value) (p15 : Int32) (p16 : Int32) (w7 : Value) (p17 : Int32) (p18 : Int32) (w8 : Value) (w9 : Value) (w10 : Value) (w11 : Value) (w12 : Value) (p19 : Int32) (w13 : Value) (w14 : Value) (w15 : Value) (f0 : Nat → Int32) (p20 : Int32) (f1 : Nat → Int32) (f2 : Nat → Int32) (f3 : Nat → Int32) (hp0 : 0 ≤ (p0).toInt ∧ (p0).toInt ≤ 1023) (hp1 : 0 ≤ (p1).toInt ∧ (p1).toInt ≤ 8) (hp2 : (-2147483648) ≤ (p2).toInt ∧ (p2).toInt ≤ 2147483647) (hp3 : 0 ≤ (p3).toInt ∧ (p3).toInt ≤ 0) (hp4 : 0 ≤ (p4).toInt ∧ (p4).toInt ≤ 900) (hp5 : 0 ≤ (p5).toInt ∧ (p5).toInt ≤ 900) (hp6 : 0 ≤ (p6).toInt ∧ (p6).toInt ≤ 900) (hp7 : 0 ≤ (p7).toInt ∧ (p7).toInt ≤ 900) (hp8 : (-2147483648) ≤ (p8).toInt ∧ (p8).toInt ≤ 2147483647) (hp9 : 0 ≤ (p9).toInt ∧ (p9).toInt ≤ 999) (hp10 : (-2147483648) ≤ (p10).toInt ∧ (p10).toInt ≤ 2147483647) (hp11 : (-2147483648) ≤ (p11).toInt ∧ (p11).toInt ≤ 2147483647) (hp12 : (-2147483648) ≤ (p12).toInt ∧ (p12).toInt ≤ 2147483647) (hp13 : (-2147483648) ≤ (p13).toInt ∧ (p13).toInt ≤ 2147483647) (hp14 : (-2147483648) ≤ (p14).toInt ∧ (p14).toInt ≤ 2147483647) (hp15 : (-2147483648) ≤ (p15).toInt ∧ (p15).toInt ≤ 2147483647) (hp16 : (-2147483648) ≤ (p16).toInt ∧ (p16).toInt ≤ 2147483647) (hp17 : (-1) ≤ (p17).toInt ∧ (p17).toInt ≤ 10) (hp18 : (-2147483648) ≤ (p18).toInt ∧ (p18).toInt ≤ 2147483647) (hp19 : (-2147483648) ≤ (p19).toInt ∧ (p19).toInt ≤ 2147483647) (hp20 : 0 ≤ (p20).toInt ∧ (p20).toInt ≤ 10) (htf0_84 : f0 84 = p20) (rf0 : AL f0) (rf1 : RG f1 10 0 1023) (hpre0 : (p0 : Int32).toInt % 256 = 0) (sz : Nat) : MV l yX12_goesPairs cX12_goesPairs 7 { frames := 3, cells := 0, slots := 0, locals := 69 } [.ref h0, .int p0, .int p1, .int p2] D cy (wk_f147cc4b8 cy h0 p3 h1 w0 w1 w2 p4 p5 p6 p7 p8 p9 p10 p11 p12 p13 p14 w3 w4 w5 h2 w6 p15 p16 w7 h3 h4 p17 p18 w8 w9 w10 w11 w12 p19 w13 w14 w15 h1 f0 h2 f1 h3 f2 h4 f3) sz (fun u => ((-1) ≤ (u.2.1 0 0).toInt ∧ (u.2.1 0 0).toInt ≤ 10) ∧ ((-2147483648) ≤ (u.2.1 1 0).toInt ∧ (u.2.1 1 0).toInt ≤ 2147483647) ∧ True) (fun u => (wk_f147cc4b8 cy h0 p3 h1 w0 w1 w2 p4 p5 p6 p7 p8 p9 p10 p11 p12 p13 p14 w3 w4 w5 h2 w6 p15 p16 w7 h3 h4 (u.2.1 0 0) (u.2.1 1 0) w8 w9 w10 w11 w12 p19 w13 w14 w15 h1 f0 h2 f1 h3 (u.2.1 2) h4 (u.2.1 3))) 0 0 := by
  refine q_ent (own := RX12) (by decide) rfl (Nat.le_of_ble_eq_true rfl) (fun p e s m below meth c ls X hr hlk hnm hK hT h hA hl => ?_)
  obtain ⟨hx, hb, hml, hown, ht⟩ := id X
  replace hl : lv_has ls 7 [(0, .ref h0), (1, .int p0), (2, .int p1), (3, .int p2)] := hl
  refine lv_iload_n hx hb dX12_goesPairs_0 rfl (lv_at hl 1 rfl) ?_
  refine lv_if_ne (tgt := 70) hx hb dX12_goesPairs_1 (by decide) (fun c_1 => ?_) (fun c_1 => ?_)
  · replace c_1 := i_ne (x := p0) (y := 0) rfl (show (0 : Int32).toInt = 0 by decide) c_1
    refine lv_iload_n hx hb dX12_goesPairs_70 rfl (lv_at hl 1 rfl) ?_
    refine q_callSi (rest := []) (wr := (wk_f147cc4b8 cy h0 p3 h1 w0 w1 w2 p4 p5 p6 p7 p8 p9 p10 p11 p12 p13 p14 w3 w4 w5 h2 w6 p15 p16 w7 h3 h4 p17 p18 w8 w9 w10 w11 w12 p19 w13 w14 w15 h1 f0 h2 f1 h3 f2 h4 f3)) X hK hT hA h (fun sz => gX12_lowest_51df8cb l D cy p0 ⟨by omega, by omega⟩ sz) wm_7_67 wm_7_69 wm_1_12 hd_X12_lowest wm_7_68 ⟨Nat.le_of_ble_eq_true rfl, Nat.le_of_ble_eq_true rfl⟩ hl.1 rfl (Nat.le_of_ble_eq_true rfl) dX12_goesPairs_71 ⟨Nat.le_of_ble_eq_true rfl, Nat.le_of_ble_eq_true rfl⟩ [] [0, 1, 2, 3, 4] rfl rfl (by decide) rfl rfl (fun r_2 u_2 H locs w_2 h_2 => ?_)
    clear h
    obtain ⟨wr_2, y2_0, _⟩ := w_2
    replace h_2 : qW D _ _ (wk_f147cc4b8 cy h0 p3 h1 w0 w1 w2 p4 p5 p6 p7 p8 p9 p10 p11 p12 p13 p14 w3 w4 w5 h2 w6 p15 p16 w7 h3 h4 p17 p18 w8 w9 w10 w11 w12 p19 w13 w14 w15 h1 f0 h2 f1 h3 f2 h4 f3) _ _ := h_2
    refine lv_istore (lv' := [(4, .int r_2), (0, .ref h0), (1, .int p0), (2, .int p1), (3, .int p2)]) hx hb dX12_goesPairs_74 hl (by decide) rfl (fun ls_3 hl_3 => ?_)
    clear hl
    refine lv_iload_n hx hb dX12_goesPairs_76 rfl (lv_at hl_3 2 rfl) ?_
    refine lv_iconst (v := 1) hx hb dX12_goesPairs_77 (by decide) ?_
    refine lv_iload hx hb dX12_goesPairs_78 (lv_at hl_3 0 rfl) ?_
    refine lv_ishl hx hb dX12_goesPairs_80 ?_
    obtain ⟨z_4, ez_4, hz_4⟩ := e_shlk (p := r_2) 9 (by decide) rfl (by omega) (by omega)
    refine q_c z_4 ez_4 ?_
    refine lv_iconst (v := (-1)) hx hb dX12_goesPairs_81 (by decide) ?_
    refine lv_ixor hx hb dX12_goesPairs_82 ?_
    obtain ⟨z_5, ez_5, hz_5⟩ := e_any (z_4 ^^^ (-1))
    refine q_c z_5 ez_5 ?_
    refine lv_iand hx hb dX12_goesPairs_83 ?_
    obtain ⟨z_6, ez_6, hz_6⟩ := e_and1 (x := p0) (y := z_5) rfl (by omega)
    refine q_c z_6 ez_6 ?_
    have rs_7 := rest_low 8 (by omega) y2_0 (by omega) ez_4 ez_5 ez_6
    refine lv_istore (lv' := [(5, .int z_6), (4, .int r_2), (0, .ref h0), (1, .int p0), (2, .int p1), (3, .int p2)]) hx hb dX12_goesPairs_84 hl_3 (by decide) rfl (fun ls_8 hl_8 => ?_)
    clear hl_3
    refine lv_iload hx hb dX12_goesPairs_86 (lv_at hl_8 1 rfl) ?_
    refine lv_iconst (v := 1) hx hb dX12_goesPairs_88 (by decide) ?_
    refine lv_iadd hx hb dX12_goesPairs_89 ?_
    obtain ⟨z_9, ez_9, hz_9⟩ := e_add (x := r_2) (y := 1) rfl (show (1 : Int32).toInt = 1 by decide) (by omega) (by omega)
    refine q_c z_9 ez_9 ?_
    clear ez_9
    refine lv_istore (lv' := [(6, .int z_9), (5, .int z_6), (4, .int r_2), (0, .ref h0), (1, .int p0), (2, .int p1), (3, .int p2)]) hx hb dX12_goesPairs_90 hl_8 (by decide) rfl (fun ls_10 hl_10 => ?_)
    clear hl_8
    refine q_wl (fun (q : Int32 × Int32 × Int32) H locs ls => match q with | (v92_11_0, v92_11_1, v92_11_2) => ∃ v92_11_3 : Nat → Int32, ∃ v92_11_4 : Nat → Int32, (1 ≤ (v92_11_0).toInt ∧ (v92_11_0).toInt ≤ 10) ∧ ((-1) ≤ (v92_11_1).toInt ∧ (v92_11_1).toInt ≤ 10) ∧ ((-2147483648) ≤ (v92_11_2).toInt ∧ (v92_11_2).toInt ≤ 2147483647) ∧ qW D (va_A (wk_f147cc4b8 cy h0 p3 h1 w0 w1 w2 p4 p5 p6 p7 p8 p9 p10 p11 p12 p13 p14 w3 w4 w5 h2 w6 p15 p16 w7 h3 h4 p17 p18 w8 w9 w10 w11 w12 p19 w13 w14 w15 h1 f0 h2 f1 h3 f2 h4 f3) sz) s.heap (wk_f147cc4b8 cy h0 p3 h1 w0 w1 w2 p4 p5 p6 p7 p8 p9 p10 p11 p12 p13 p14 w3 w4 w5 h2 w6 p15 p16 w7 h3 h4 v92_11_1 v92_11_2 w8 w9 w10 w11 w12 p19 w13 w14 w15 h1 f0 h2 f1 h3 v92_11_3 h4 v92_11_4) H locs ∧ lv_has ls 7 [(0, .ref h0), (1, .int p0), (2, .int p1), (3, .int p2), (4, .int r_2), (5, .int z_6), (6, .int v92_11_0)]) (fun (q : Int32 × Int32 × Int32) => match q with | (v92_11_0, v92_11_1, v92_11_2) => (11 - (v92_11_0).toInt).toNat) (fun q_92 ih_92 H locs ls hP => ?_) (z_9, p17, p18) ⟨f2, f3, ⟨by omega, by omega⟩, hp17, hp18, h_2, (lv_sub hl_10 [3, 4, 5, 6, 2, 1, 0] rfl)⟩
    obtain ⟨v92_11_0, v92_11_1, v92_11_2⟩ := q_92
    obtain ⟨v92_11_3, v92_11_4, hv92_11_0, hv92_11_1, hv92_11_2, h, hl⟩ := hP
    refine lv_iload hx hb dX12_goesPairs_92 (lv_at hl 6 rfl) ?_
    refine lv_aload_n hx hb dX12_goesPairs_94 rfl (lv_at hl 0 rfl) ?_
    refine q_get X hK h 0 rfl rfl wf_12 1 (by decide) rfl wm_5_171 dX12_goesPairs_95 ?_
    refine lv_iconst (v := 2) hx hb dX12_goesPairs_98 (by decide) ?_
    refine q_iald X hK h 1 rfl (q_in (by decide +kernel)) dX12_goesPairs_99 ?_
    obtain ⟨z_12, ez_12, hz_12⟩ := al_P rf0 (x := 2) (show (2 : Int32).toInt = 2 by decide) (by omega) (by omega)
    refine q_c z_12 ez_12 ?_
    clear ez_12
    refine lv_icmp_ge (tgt := 196) hx hb dX12_goesPairs_100 (by decide) (fun c_13 => ?_) (fun c_13 => ?_)
    · replace c_13 := i_le (x := z_12) (y := v92_11_0) rfl rfl c_13
      refine lv_aload_n hx hb dX12_goesPairs_196 rfl (lv_at hl 0 rfl) ?_
      refine q_get X hK h 0 rfl rfl wf_12 24 (by decide) rfl wm_5_194 dX12_goesPairs_197 ?_
      refine lv_iload hx hb dX12_goesPairs_200 (lv_at hl 4 rfl) ?_
      refine lv_iconst (v := (-1)) hx hb dX12_goesPairs_202 (by decide) ?_
      refine q_iast X hK h 3 rfl (i_in rfl (by omega) (by omega)) dX12_goesPairs_203 (fun H locs h_15 => ?_)
      clear h
      replace h_15 : qW D _ _ (wk_f147cc4b8 cy h0 p3 h1 w0 w1 w2 p4 p5 p6 p7 p8 p9 p10 p11 p12 p13 p14 w3 w4 w5 h2 w6 p15 p16 w7 h3 h4 v92_11_1 v92_11_2 w8 w9 w10 w11 w12 p19 w13 w14 w15 h1 f0 h2 f1 h3 (upd v92_11_3 (Int32.toNatClampNeg r_2) (-1)) h4 v92_11_4) _ _ := h_15
      obtain ⟨F_14, eF_14⟩ : ∃ z, (upd v92_11_3 (Int32.toNatClampNeg r_2) (-1)) = z := ⟨_, rfl⟩
      rw [eF_14] at h_15
      clear eF_14
      refine lv_aload_n hx hb dX12_goesPairs_204 rfl (lv_at hl 0 rfl) ?_
      refine lv_iload hx hb dX12_goesPairs_205 (lv_at hl 5 rfl) ?_
      refine lv_iload_n hx hb dX12_goesPairs_207 rfl (lv_at hl 2 rfl) ?_
      refine lv_iload_n hx hb dX12_goesPairs_208 rfl (lv_at hl 3 rfl) ?_
      refine q_callVv (rest := []) (wr := []) X hK hT hA h_15 (fun sz => gX12_goesPairs_b37398b l D cy h0 h1 h2 h3 h4 z_6 p1 p2 p3 w0 w1 w2 p4 p5 p6 p7 p8 p9 p10 p11 p12 p13 p14 w3 w4 w5 w6 p15 p16 w7 v92_11_1 v92_11_2 w8 w9 w10 w11 w12 p19 w13 w14 w15 f0 p20 f1 F_14 v92_11_4 ⟨by omega, by omega⟩ (bw hp1 (by decide) (by decide)) (i_rng _) hp3 hp4 hp5 hp6 hp7 (i_rng _) hp9 (i_rng _) (i_rng _) (i_rng _) (i_rng _) (i_rng _) (i_rng _) (i_rng _) hv92_11_1 (i_rng _) (i_rng _) hp20 htf0_84 rf0 (rg_wide rf1 (by decide) (by decide)) ((show _ % 512 = 0 from rs_7.1)) sz) wm_7_116 wm_7_119 wm_1_12 hd_X12_goesPairs wm_7_118 wp_7_4 (ci := 12) (q0 := 0) rfl rfl ⟨Nat.le_of_ble_eq_true rfl, Nat.le_of_ble_eq_true rfl⟩ hl.1 rfl (Nat.le_of_ble_eq_true rfl) dX12_goesPairs_209 ⟨Nat.le_of_ble_eq_true rfl, Nat.le_of_ble_eq_true rfl⟩ [0, 1, 2, 3, 4] [] rfl rfl (by decide) rfl rfl (fun u_16 H locs w_16 h_16 => ?_)
      clear h_15
      obtain ⟨w16_0, w16_1, _⟩ := w_16
      replace h_16 : qW D _ _ (wk_f147cc4b8 cy h0 p3 h1 w0 w1 w2 p4 p5 p6 p7 p8 p9 p10 p11 p12 p13 p14 w3 w4 w5 h2 w6 p15 p16 w7 h3 h4 (u_16.2.1 0 0) (u_16.2.1 1 0) w8 w9 w10 w11 w12 p19 w13 w14 w15 h1 f0 h2 f1 h3 (u_16.2.1 2) h4 (u_16.2.1 3)) _ _ := h_16
      exact q_vret X hr hlk hK h_16 (fun _ => 0, (vcons (fun _ => (u_16.2.1 0 0)) (vcons (fun _ => (u_16.2.1 1 0)) (vcons (u_16.2.1 2) (vcons (u_16.2.1 3) (fun _ => (fun _ => 0)))))), fun _ _ => 0) ⟨w16_0, w16_1, trivial⟩ [0, 1, 2, 3, 4] rfl rfl dX12_goesPairs_212 (Nat.le_of_ble_eq_true rfl) (Nat.le_of_ble_eq_true rfl)
    · replace c_13 := i_nle (x := z_12) (y := v92_11_0) rfl rfl c_13
      refine lv_iload hx hb dX12_goesPairs_103 (lv_at hl 5 rfl) ?_
      refine lv_aload_n hx hb dX12_goesPairs_105 rfl (lv_at hl 0 rfl) ?_
      refine q_get X hK h 0 rfl rfl wf_12 19 (by decide) rfl wm_5_189 dX12_goesPairs_106 ?_
      refine lv_iload hx hb dX12_goesPairs_109 (lv_at hl 4 rfl) ?_
      refine q_iald X hK h 2 rfl (i_in rfl (by omega) (by omega)) dX12_goesPairs_111 ?_
      obtain ⟨z_17, ez_17, hz_17⟩ := rg_get rf1 (x := r_2) rfl (by omega) (by omega)
      refine q_c z_17 ez_17 ?_
      clear ez_17
      refine lv_iand hx hb dX12_goesPairs_112 ?_
      obtain ⟨z_18, ez_18, hz_18⟩ := e_and2 (x := z_6) (y := z_17) rfl (by omega)
      refine q_c z_18 ez_18 ?_
      clear ez_18
      refine lv_i2l hx hb dX12_goesPairs_113 rfl ?_
      obtain ⟨z_19, ez_19, hz_19⟩ := e_i2l (x := z_18) rfl
      refine q_cl z_19 ez_19 ?_
      clear ez_19
      refine lv_iload hx hb dX12_goesPairs_114 (lv_at hl 6 rfl) ?_
      refine q_callSi (rest := []) (wr := (wk_f147cc4b8 cy h0 p3 h1 w0 w1 w2 p4 p5 p6 p7 p8 p9 p10 p11 p12 p13 p14 w3 w4 w5 h2 w6 p15 p16 w7 h3 h4 v92_11_1 v92_11_2 w8 w9 w10 w11 w12 p19 w13 w14 w15 h1 f0 h2 f1 h3 v92_11_3 h4 v92_11_4)) X hK hT hA h (fun sz => gX12_isIn_b0455a8 l D cy z_19 v92_11_0 ⟨by omega, by omega⟩ ⟨by omega, by omega⟩ sz) wm_6_167 wm_6_169 wm_1_12 hd_X12_isIn wm_6_168 ⟨Nat.le_of_ble_eq_true rfl, Nat.le_of_ble_eq_true rfl⟩ hl.1 rfl (Nat.le_of_ble_eq_true rfl) dX12_goesPairs_116 ⟨Nat.le_of_ble_eq_true rfl, Nat.le_of_ble_eq_true rfl⟩ [] [0, 1, 2, 3, 4] rfl rfl (by decide) rfl rfl (fun r_20 u_20 H locs w_20 h_20 => ?_)
      clear h
      obtain ⟨wr_20, _⟩ := w_20
      replace h_20 : qW D _ _ (wk_f147cc4b8 cy h0 p3 h1 w0 w1 w2 p4 p5 p6 p7 p8 p9 p10 p11 p12 p13 p14 w3 w4 w5 h2 w6 p15 p16 w7 h3 h4 v92_11_1 v92_11_2 w8 w9 w10 w11 w12 p19 w13 w14 w15 h1 f0 h2 f1 h3 v92_11_3 h4 v92_11_4) _ _ := h_20
      refine q_jn (pc2 := 190) (fun H locs ls st => ∃ v190_21_0 : Int32, ∃ v190_21_1 : Int32, ∃ v190_21_2 : Nat → Int32, ∃ v190_21_3 : Nat → Int32, ((-1) ≤ (v190_21_0).toInt ∧ (v190_21_0).toInt ≤ 10) ∧ ((-2147483648) ≤ (v190_21_1).toInt ∧ (v190_21_1).toInt ≤ 2147483647) ∧ st = [] ∧ qW D (va_A (wk_f147cc4b8 cy h0 p3 h1 w0 w1 w2 p4 p5 p6 p7 p8 p9 p10 p11 p12 p13 p14 w3 w4 w5 h2 w6 p15 p16 w7 h3 h4 p17 p18 w8 w9 w10 w11 w12 p19 w13 w14 w15 h1 f0 h2 f1 h3 f2 h4 f3) sz) s.heap (wk_f147cc4b8 cy h0 p3 h1 w0 w1 w2 p4 p5 p6 p7 p8 p9 p10 p11 p12 p13 p14 w3 w4 w5 h2 w6 p15 p16 w7 h3 h4 v190_21_0 v190_21_1 w8 w9 w10 w11 w12 p19 w13 w14 w15 h1 f0 h2 f1 h3 v190_21_2 h4 v190_21_3) H locs ∧ lv_has ls 7 [(0, .ref h0), (1, .int p0), (2, .int p1), (3, .int p2), (4, .int r_2), (5, .int z_6), (6, .int v92_11_0)]) (fun H locs ls st hP => ?_) (fun J_190 => ?_)
      · obtain ⟨v190_21_0, v190_21_1, v190_21_2, v190_21_3, hv190_21_0, hv190_21_1, rfl, h, hl⟩ := hP
        obtain ⟨z_22, ez_22, hz_22⟩ := e_add (x := v92_11_0) (y := Int32.ofInt 1) rfl (b := 1) (by decide) (by omega) (by omega)
        refine lv_iinc (v := z_22) (lv' := [(6, .int z_22), (0, .ref h0), (1, .int p0), (2, .int p1), (3, .int p2), (4, .int r_2), (5, .int z_6)]) hx hb dX12_goesPairs_190 hl (k := 6) rfl ez_22 (by decide) rfl (fun ls_22 hl_22 => ?_)
        clear hl
        refine lv_goto (tgt := 92) hx hb dX12_goesPairs_193 (by decide) ?_
        exact ih_92 (z_22, v190_21_0, v190_21_1) (by show (11 - (z_22).toInt).toNat < (11 - (v92_11_0).toInt).toNat; omega) _ _ _ ⟨v190_21_2, v190_21_3, ⟨by omega, by omega⟩, hv190_21_0, hv190_21_1, h, (lv_sub hl_22 [1, 2, 3, 4, 5, 6, 0] rfl)⟩
      · skip
        refine lv_if_ne (tgt := 125) hx hb dX12_goesPairs_119 (by decide) (fun c_23 => ?_) (fun c_23 => ?_)
        · replace c_23 := i_ne (x := r_20) (y := 0) rfl (show (0 : Int32).toInt = 0 by decide) c_23
          refine lv_aload_n hx hb dX12_goesPairs_125 rfl (lv_at hl 0 rfl) ?_
          refine q_get X hK h_20 0 rfl rfl wf_12 24 (by decide) rfl wm_5_194 dX12_goesPairs_126 ?_
          refine lv_iload hx hb dX12_goesPairs_129 (lv_at hl 4 rfl) ?_
          refine lv_iload hx hb dX12_goesPairs_131 (lv_at hl 6 rfl) ?_
          refine q_iast X hK h_20 3 rfl (i_in rfl (by omega) (by omega)) dX12_goesPairs_133 (fun H locs h_25 => ?_)
          clear h_20
          replace h_25 : qW D _ _ (wk_f147cc4b8 cy h0 p3 h1 w0 w1 w2 p4 p5 p6 p7 p8 p9 p10 p11 p12 p13 p14 w3 w4 w5 h2 w6 p15 p16 w7 h3 h4 v92_11_1 v92_11_2 w8 w9 w10 w11 w12 p19 w13 w14 w15 h1 f0 h2 f1 h3 (upd v92_11_3 (Int32.toNatClampNeg r_2) v92_11_0) h4 v92_11_4) _ _ := h_25
          obtain ⟨F_24, eF_24⟩ : ∃ z, (upd v92_11_3 (Int32.toNatClampNeg r_2) v92_11_0) = z := ⟨_, rfl⟩
          rw [eF_24] at h_25
          clear eF_24
          refine lv_aload_n hx hb dX12_goesPairs_134 rfl (lv_at hl 0 rfl) ?_
          refine q_get X hK h_25 0 rfl rfl wf_12 24 (by decide) rfl wm_5_194 dX12_goesPairs_135 ?_
          refine lv_iload hx hb dX12_goesPairs_138 (lv_at hl 6 rfl) ?_
          refine lv_iload hx hb dX12_goesPairs_140 (lv_at hl 4 rfl) ?_
          refine q_iast X hK h_25 3 rfl (i_in rfl (by omega) (by omega)) dX12_goesPairs_142 (fun H locs h_27 => ?_)
          clear h_25
          replace h_27 : qW D _ _ (wk_f147cc4b8 cy h0 p3 h1 w0 w1 w2 p4 p5 p6 p7 p8 p9 p10 p11 p12 p13 p14 w3 w4 w5 h2 w6 p15 p16 w7 h3 h4 v92_11_1 v92_11_2 w8 w9 w10 w11 w12 p19 w13 w14 w15 h1 f0 h2 f1 h3 (upd F_24 (Int32.toNatClampNeg v92_11_0) r_2) h4 v92_11_4) _ _ := h_27
          obtain ⟨F_26, eF_26⟩ : ∃ z, (upd F_24 (Int32.toNatClampNeg v92_11_0) r_2) = z := ⟨_, rfl⟩
          rw [eF_26] at h_27
          clear eF_26
          refine lv_aload_n hx hb dX12_goesPairs_143 rfl (lv_at hl 0 rfl) ?_
          refine lv_iload hx hb dX12_goesPairs_144 (lv_at hl 5 rfl) ?_
          refine lv_iconst (v := 1) hx hb dX12_goesPairs_146 (by decide) ?_
          refine lv_iload hx hb dX12_goesPairs_147 (lv_at hl 6 rfl) ?_
          refine lv_ishl hx hb dX12_goesPairs_149 ?_
          obtain ⟨z_28, ez_28, hz_28⟩ := e_shlk (p := v92_11_0) 9 (by decide) rfl (by omega) (by omega)
          refine q_c z_28 ez_28 ?_
          clear ez_28
          refine lv_iconst (v := (-1)) hx hb dX12_goesPairs_150 (by decide) ?_
          refine lv_ixor hx hb dX12_goesPairs_151 ?_
          refine q_any (fun z_29 hz_29 => ?_)
          refine lv_iand hx hb dX12_goesPairs_152 ?_
          obtain ⟨z_30, ez_30, hz_30⟩ := e_and1 (x := z_6) (y := z_29) rfl (by omega)
          refine q_c z_30 ez_30 ?_
          have ad_31 := and_div 9 (by omega) rs_7.1 ez_30
          refine lv_iload_n hx hb dX12_goesPairs_153 rfl (lv_at hl 2 rfl) ?_
          refine lv_iconst (v := 1) hx hb dX12_goesPairs_154 (by decide) ?_
          refine lv_iadd hx hb dX12_goesPairs_155 ?_
          obtain ⟨z_32, ez_32, hz_32⟩ := e_add (x := p1) (y := 1) rfl (show (1 : Int32).toInt = 1 by decide) (by omega) (by omega)
          refine q_c z_32 ez_32 ?_
          clear ez_32
          refine lv_iload_n hx hb dX12_goesPairs_156 rfl (lv_at hl 3 rfl) ?_
          refine lv_aload_n hx hb dX12_goesPairs_157 rfl (lv_at hl 0 rfl) ?_
          refine q_get X hK h_27 0 rfl rfl wf_12 1 (by decide) rfl wm_5_171 dX12_goesPairs_158 ?_
          refine lv_bipush (v := 42) hx hb dX12_goesPairs_161 (by decide) ?_
          refine lv_iload hx hb dX12_goesPairs_163 (lv_at hl 4 rfl) ?_
          refine lv_iadd hx hb dX12_goesPairs_165 ?_
          obtain ⟨z_33, ez_33, hz_33⟩ := e_add (x := 42) (y := r_2) (show (42 : Int32).toInt = 42 by decide) rfl (by omega) (by omega)
          refine q_c z_33 ez_33 ?_
          clear ez_33
          refine q_iald X hK h_27 1 rfl (i_in rfl (by omega) (by omega)) dX12_goesPairs_166 ?_
          refine q_any (fun z_34 hz_34 => ?_)
          refine lv_iadd hx hb dX12_goesPairs_167 ?_
          refine q_any (fun z_35 hz_35 => ?_)
          refine lv_aload_n hx hb dX12_goesPairs_168 rfl (lv_at hl 0 rfl) ?_
          refine q_get X hK h_27 0 rfl rfl wf_12 1 (by decide) rfl wm_5_171 dX12_goesPairs_169 ?_
          refine lv_bipush (v := 42) hx hb dX12_goesPairs_172 (by decide) ?_
          refine lv_iload hx hb dX12_goesPairs_174 (lv_at hl 6 rfl) ?_
          refine lv_iadd hx hb dX12_goesPairs_176 ?_
          obtain ⟨z_36, ez_36, hz_36⟩ := e_add (x := 42) (y := v92_11_0) (show (42 : Int32).toInt = 42 by decide) rfl (by omega) (by omega)
          refine q_c z_36 ez_36 ?_
          clear ez_36
          refine q_iald X hK h_27 1 rfl (i_in rfl (by omega) (by omega)) dX12_goesPairs_177 ?_
          refine q_any (fun z_37 hz_37 => ?_)
          refine lv_iadd hx hb dX12_goesPairs_178 ?_
          refine q_any (fun z_38 hz_38 => ?_)
          refine q_callVv (rest := []) (wr := []) X hK hT hA h_27 (fun sz => gX12_goesPairs_b37398b l D cy h0 h1 h2 h3 h4 z_30 z_32 z_38 p3 w0 w1 w2 p4 p5 p6 p7 p8 p9 p10 p11 p12 p13 p14 w3 w4 w5 w6 p15 p16 w7 v92_11_1 v92_11_2 w8 w9 w10 w11 w12 p19 w13 w14 w15 f0 p20 f1 F_26 v92_11_4 ⟨by omega, by omega⟩ ⟨by omega, by omega⟩ (i_rng _) hp3 hp4 hp5 hp6 hp7 (i_rng _) hp9 (i_rng _) (i_rng _) (i_rng _) (i_rng _) (i_rng _) (i_rng _) (i_rng _) hv92_11_1 (i_rng _) (i_rng _) hp20 htf0_84 rf0 (rg_wide rf1 (by decide) (by decide)) ((show _ % 512 = 0 from ad_31)) sz) wm_7_116 wm_7_119 wm_1_12 hd_X12_goesPairs wm_7_118 wp_7_4 (ci := 12) (q0 := 0) rfl rfl ⟨Nat.le_of_ble_eq_true rfl, Nat.le_of_ble_eq_true rfl⟩ hl.1 rfl (Nat.le_of_ble_eq_true rfl) dX12_goesPairs_179 ⟨Nat.le_of_ble_eq_true rfl, Nat.le_of_ble_eq_true rfl⟩ [0, 1, 2, 3, 4] [] rfl rfl (by decide) rfl rfl (fun u_39 H locs w_39 h_39 => ?_)
          clear h_27
          obtain ⟨w39_0, w39_1, _⟩ := w_39
          replace h_39 : qW D _ _ (wk_f147cc4b8 cy h0 p3 h1 w0 w1 w2 p4 p5 p6 p7 p8 p9 p10 p11 p12 p13 p14 w3 w4 w5 h2 w6 p15 p16 w7 h3 h4 (u_39.2.1 0 0) (u_39.2.1 1 0) w8 w9 w10 w11 w12 p19 w13 w14 w15 h1 f0 h2 f1 h3 (u_39.2.1 2) h4 (u_39.2.1 3)) _ _ := h_39
          refine lv_aload_n hx hb dX12_goesPairs_182 rfl (lv_at hl 0 rfl) ?_
          refine q_get X hK h_39 0 rfl rfl wf_12 24 (by decide) rfl wm_5_194 dX12_goesPairs_183 ?_
          refine lv_iload hx hb dX12_goesPairs_186 (lv_at hl 6 rfl) ?_
          refine lv_iconst (v := (-1)) hx hb dX12_goesPairs_188 (by decide) ?_
          refine q_iast X hK h_39 3 rfl (i_in rfl (by omega) (by omega)) dX12_goesPairs_189 (fun H locs h_41 => ?_)
          clear h_39
          replace h_41 : qW D _ _ (wk_f147cc4b8 cy h0 p3 h1 w0 w1 w2 p4 p5 p6 p7 p8 p9 p10 p11 p12 p13 p14 w3 w4 w5 h2 w6 p15 p16 w7 h3 h4 (u_39.2.1 0 0) (u_39.2.1 1 0) w8 w9 w10 w11 w12 p19 w13 w14 w15 h1 f0 h2 f1 h3 (upd (u_39.2.1 2) (Int32.toNatClampNeg v92_11_0) (-1)) h4 (u_39.2.1 3)) _ _ := h_41
          obtain ⟨F_40, eF_40⟩ : ∃ z, (upd (u_39.2.1 2) (Int32.toNatClampNeg v92_11_0) (-1)) = z := ⟨_, rfl⟩
          rw [eF_40] at h_41
          clear eF_40
          exact J_190 _ _ _ _ ⟨(u_39.2.1 0 0), (u_39.2.1 1 0), F_40, (u_39.2.1 3), w39_0, w39_1, rfl, h_41, (lv_sub hl [0, 1, 2, 3, 4, 5, 6] rfl)⟩
        · replace c_23 := i_eq (x := r_20) (y := 0) rfl (show (0 : Int32).toInt = 0 by decide) c_23
          refine lv_goto (tgt := 190) hx hb dX12_goesPairs_122 (by decide) ?_
          exact J_190 _ _ _ _ ⟨v92_11_1, v92_11_2, v92_11_3, v92_11_4, hv92_11_1, hv92_11_2, rfl, h_20, (lv_sub hl [0, 1, 2, 3, 4, 5, 6] rfl)⟩
  · replace c_1 := i_eq (x := p0) (y := 0) rfl (show (0 : Int32).toInt = 0 by decide) c_1
    refine lv_iload_n hx hb dX12_goesPairs_4 rfl (lv_at hl 2 rfl) ?_
    refine lv_aload_n hx hb dX12_goesPairs_5 rfl (lv_at hl 0 rfl) ?_
    refine q_get X hK h 0 rfl rfl wf_12 26 (by decide) rfl wm_5_196 dX12_goesPairs_6 ?_
    refine q_jn (pc2 := 28) (fun H locs ls st => st = [] ∧ qW D (va_A (wk_f147cc4b8 cy h0 p3 h1 w0 w1 w2 p4 p5 p6 p7 p8 p9 p10 p11 p12 p13 p14 w3 w4 w5 h2 w6 p15 p16 w7 h3 h4 p17 p18 w8 w9 w10 w11 w12 p19 w13 w14 w15 h1 f0 h2 f1 h3 f2 h4 f3) sz) s.heap (wk_f147cc4b8 cy h0 p3 h1 w0 w1 w2 p4 p5 p6 p7 p8 p9 p10 p11 p12 p13 p14 w3 w4 w5 h2 w6 p15 p16 w7 h3 h4 p17 p18 w8 w9 w10 w11 w12 p19 w13 w14 w15 h1 f0 h2 f1 h3 f2 h4 f3) H locs ∧ lv_has ls 7 [(0, .ref h0), (1, .int p0), (2, .int p1), (3, .int p2)]) (fun H locs ls st hP => ?_) (fun J_28 => ?_)
    · obtain ⟨rfl, h, hl⟩ := hP
      exact q_vret X hr hlk hK h (fun _ => 0, (vcons (fun _ => p17) (vcons (fun _ => p18) (vcons f2 (vcons f3 (fun _ => (fun _ => 0)))))), fun _ _ => 0) ⟨hp17, hp18, trivial⟩ [0, 1, 2, 3, 4] rfl rfl dX12_goesPairs_28 (Nat.le_of_ble_eq_true rfl) (Nat.le_of_ble_eq_true rfl)
    · skip
      refine lv_icmp_lt (tgt := 28) hx hb dX12_goesPairs_9 (by decide) (fun c_43 => ?_) (fun c_43 => ?_)
      · replace c_43 := i_lt (x := p1) (y := p17) rfl rfl c_43
        exact J_28 _ _ _ _ ⟨rfl, h, (lv_sub hl [0, 1, 2, 3] rfl)⟩
      · replace c_43 := i_nlt (x := p1) (y := p17) rfl rfl c_43
        refine lv_iload_n hx hb dX12_goesPairs_12 rfl (lv_at hl 2 rfl) ?_
        refine lv_aload_n hx hb dX12_goesPairs_13 rfl (lv_at hl 0 rfl) ?_
        refine q_get X hK h 0 rfl rfl wf_12 26 (by decide) rfl wm_5_196 dX12_goesPairs_14 ?_
        refine q_jn (pc2 := 29) (fun H locs ls st => st = [] ∧ qW D (va_A (wk_f147cc4b8 cy h0 p3 h1 w0 w1 w2 p4 p5 p6 p7 p8 p9 p10 p11 p12 p13 p14 w3 w4 w5 h2 w6 p15 p16 w7 h3 h4 p17 p18 w8 w9 w10 w11 w12 p19 w13 w14 w15 h1 f0 h2 f1 h3 f2 h4 f3) sz) s.heap (wk_f147cc4b8 cy h0 p3 h1 w0 w1 w2 p4 p5 p6 p7 p8 p9 p10 p11 p12 p13 p14 w3 w4 w5 h2 w6 p15 p16 w7 h3 h4 p17 p18 w8 w9 w10 w11 w12 p19 w13 w14 w15 h1 f0 h2 f1 h3 f2 h4 f3) H locs ∧ lv_has ls 7 [(0, .ref h0), (1, .int p0), (2, .int p1), (3, .int p2)]) (fun H locs ls st hP => ?_) (fun J_29 => ?_)
        · obtain ⟨rfl, h, hl⟩ := hP
          refine lv_aload_n hx hb dX12_goesPairs_29 rfl (lv_at hl 0 rfl) ?_
          refine lv_iload_n hx hb dX12_goesPairs_30 rfl (lv_at hl 2 rfl) ?_
          refine q_put (v := .int p1) X hK h 0 rfl rfl wf_12 tyX12 tyX12_ok nmX12 26 (by decide) wm_5_196 rfl rfl rfl (Nat.le_of_ble_eq_true rfl) dX12_goesPairs_31 (fun H locs h_45 => ?_)
          clear h
          replace h_45 : qW D _ _ (wk_f147cc4b8 cy h0 p3 h1 w0 w1 w2 p4 p5 p6 p7 p8 p9 p10 p11 p12 p13 p14 w3 w4 w5 h2 w6 p15 p16 w7 h3 h4 p1 p18 w8 w9 w10 w11 w12 p19 w13 w14 w15 h1 f0 h2 f1 h3 f2 h4 f3) _ _ := h_45
          refine lv_aload_n hx hb dX12_goesPairs_34 rfl (lv_at hl 0 rfl) ?_
          refine lv_iload_n hx hb dX12_goesPairs_35 rfl (lv_at hl 3 rfl) ?_
          refine q_put (v := .int p2) X hK h_45 0 rfl rfl wf_12 tyX12 tyX12_ok nmX12 27 (by decide) wm_5_197 rfl rfl rfl (Nat.le_of_ble_eq_true rfl) dX12_goesPairs_36 (fun H locs h_46 => ?_)
          clear h_45
          replace h_46 : qW D _ _ (wk_f147cc4b8 cy h0 p3 h1 w0 w1 w2 p4 p5 p6 p7 p8 p9 p10 p11 p12 p13 p14 w3 w4 w5 h2 w6 p15 p16 w7 h3 h4 p1 p2 w8 w9 w10 w11 w12 p19 w13 w14 w15 h1 f0 h2 f1 h3 f2 h4 f3) _ _ := h_46
          refine lv_iconst (v := 0) hx hb dX12_goesPairs_39 (by decide) ?_
          refine lv_istore (lv' := [(4, .int 0), (0, .ref h0), (1, .int p0), (2, .int p1), (3, .int p2)]) hx hb dX12_goesPairs_40 hl (by decide) rfl (fun ls_47 hl_47 => ?_)
          clear hl
          refine q_wl (fun (v42_48_0 : Int32) H locs ls => ∃ v42_48_1 : Nat → Int32, (0 ≤ (v42_48_0).toInt ∧ (v42_48_0).toInt ≤ 10) ∧ qW D (va_A (wk_f147cc4b8 cy h0 p3 h1 w0 w1 w2 p4 p5 p6 p7 p8 p9 p10 p11 p12 p13 p14 w3 w4 w5 h2 w6 p15 p16 w7 h3 h4 p17 p18 w8 w9 w10 w11 w12 p19 w13 w14 w15 h1 f0 h2 f1 h3 f2 h4 f3) sz) s.heap (wk_f147cc4b8 cy h0 p3 h1 w0 w1 w2 p4 p5 p6 p7 p8 p9 p10 p11 p12 p13 p14 w3 w4 w5 h2 w6 p15 p16 w7 h3 h4 p1 p2 w8 w9 w10 w11 w12 p19 w13 w14 w15 h1 f0 h2 f1 h3 f2 h4 v42_48_1) H locs ∧ lv_has ls 7 [(0, .ref h0), (1, .int p0), (2, .int p1), (3, .int p2), (4, .int v42_48_0)]) (fun (v42_48_0 : Int32) => (11 - (v42_48_0).toInt).toNat) (fun q_42 ih_42 H locs ls hP => ?_) 0 ⟨f3, ⟨by decide +kernel, by decide +kernel⟩, h_46, (lv_sub hl_47 [1, 2, 3, 4, 0] rfl)⟩
          obtain ⟨v42_48_0, rfl⟩ : ∃ z, z = q_42 := ⟨_, rfl⟩
          obtain ⟨v42_48_1, hv42_48_0, h, hl⟩ := hP
          refine lv_iload hx hb dX12_goesPairs_42 (lv_at hl 4 rfl) ?_
          refine lv_bipush (v := 10) hx hb dX12_goesPairs_44 (by decide) ?_
          refine lv_icmp_ge (tgt := 69) hx hb dX12_goesPairs_46 (by decide) (fun c_49 => ?_) (fun c_49 => ?_)
          · replace c_49 := i_le (x := 10) (y := v42_48_0) (show (10 : Int32).toInt = 10 by decide) rfl c_49
            exact q_vret X hr hlk hK h (fun _ => 0, (vcons (fun _ => p1) (vcons (fun _ => p2) (vcons f2 (vcons v42_48_1 (fun _ => (fun _ => 0)))))), fun _ _ => 0) ⟨(bw hp1 (by decide) (by decide)), hp2, trivial⟩ [0, 1, 2, 3, 4] rfl rfl dX12_goesPairs_69 (Nat.le_of_ble_eq_true rfl) (Nat.le_of_ble_eq_true rfl)
          · replace c_49 := i_nle (x := 10) (y := v42_48_0) (show (10 : Int32).toInt = 10 by decide) rfl c_49
            refine lv_aload_n hx hb dX12_goesPairs_49 rfl (lv_at hl 0 rfl) ?_
            refine q_get X hK h 0 rfl rfl wf_12 25 (by decide) rfl wm_5_195 dX12_goesPairs_50 ?_
            refine lv_iload hx hb dX12_goesPairs_53 (lv_at hl 4 rfl) ?_
            refine lv_aload_n hx hb dX12_goesPairs_55 rfl (lv_at hl 0 rfl) ?_
            refine q_get X hK h 0 rfl rfl wf_12 24 (by decide) rfl wm_5_194 dX12_goesPairs_56 ?_
            refine lv_iload hx hb dX12_goesPairs_59 (lv_at hl 4 rfl) ?_
            refine q_iald X hK h 3 rfl (i_in rfl (by omega) (by omega)) dX12_goesPairs_61 ?_
            refine q_any (fun z_50 hz_50 => ?_)
            refine q_iast X hK h 4 rfl (i_in rfl (by omega) (by omega)) dX12_goesPairs_62 (fun H locs h_52 => ?_)
            clear h
            replace h_52 : qW D _ _ (wk_f147cc4b8 cy h0 p3 h1 w0 w1 w2 p4 p5 p6 p7 p8 p9 p10 p11 p12 p13 p14 w3 w4 w5 h2 w6 p15 p16 w7 h3 h4 p1 p2 w8 w9 w10 w11 w12 p19 w13 w14 w15 h1 f0 h2 f1 h3 f2 h4 (upd v42_48_1 (Int32.toNatClampNeg v42_48_0) z_50)) _ _ := h_52
            obtain ⟨F_51, eF_51⟩ : ∃ z, (upd v42_48_1 (Int32.toNatClampNeg v42_48_0) z_50) = z := ⟨_, rfl⟩
            rw [eF_51] at h_52
            clear eF_51
            obtain ⟨z_53, ez_53, hz_53⟩ := e_add (x := v42_48_0) (y := Int32.ofInt 1) rfl (b := 1) (by decide) (by omega) (by omega)
            refine lv_iinc (v := z_53) (lv' := [(4, .int z_53), (0, .ref h0), (1, .int p0), (2, .int p1), (3, .int p2)]) hx hb dX12_goesPairs_63 hl (k := 4) rfl ez_53 (by decide) rfl (fun ls_53 hl_53 => ?_)
            clear hl
            refine lv_goto (tgt := 42) hx hb dX12_goesPairs_66 (by decide) ?_
            exact ih_42 z_53 (by show (11 - (z_53).toInt).toNat < (11 - (v42_48_0).toInt).toNat; omega) _ _ _ ⟨F_51, ⟨by omega, by omega⟩, h_52, (lv_sub hl_53 [1, 2, 3, 4, 0] rfl)⟩
        · skip
          refine lv_icmp_ne (tgt := 29) hx hb dX12_goesPairs_17 (by decide) (fun c_54 => ?_) (fun c_54 => ?_)
          · replace c_54 := i_ne (x := p1) (y := p17) rfl rfl c_54
            exact J_29 _ _ _ _ ⟨rfl, h, (lv_sub hl [0, 1, 2, 3] rfl)⟩
          · replace c_54 := i_eq (x := p1) (y := p17) rfl rfl c_54
            refine lv_iload_n hx hb dX12_goesPairs_20 rfl (lv_at hl 3 rfl) ?_
            refine lv_aload_n hx hb dX12_goesPairs_21 rfl (lv_at hl 0 rfl) ?_
            refine q_get X hK h 0 rfl rfl wf_12 27 (by decide) rfl wm_5_197 dX12_goesPairs_22 ?_
            refine lv_icmp_gt (tgt := 29) hx hb dX12_goesPairs_25 (by decide) (fun c_55 => ?_) (fun c_55 => ?_)
            · replace c_55 := i_lt (x := p18) (y := p2) rfl rfl c_55
              exact J_29 _ _ _ _ ⟨rfl, h, (lv_sub hl [0, 1, 2, 3] rfl)⟩
            · replace c_55 := i_nlt (x := p18) (y := p2) rfl rfl c_55
              exact J_28 _ _ _ _ ⟨rfl, h, (lv_sub hl [0, 1, 2, 3] rfl)⟩
set_option maxHeartbeats 4000000 in
set_option maxRecDepth 100000 in
theorem gX12_goesPairs_c3c2d4b (l : Launch) (D : va_G) (cy : Nat → ClassId) (h0 : Nat) (h1 : Nat) (h2 : Nat) (h3 : Nat) (h4 : Nat) (p0 : Int32) (p1 : Int32) (p2 : Int32) (p3 : Int32) (w0 : Value) (w1 : Value) (w2 : Value) (p4 : Int32) (p5 : Int32) (p6 : Int32) (p7 : Int32) (p8 : Int32) (p9 : Int32) (p10 : Int32) (p11 : Int32) (p12 : Int32) (p13 : Int32) (p14 : Int32) (w3 : Value) (w4 : Value) (w5 : Value) (w6 : Value) (p15 : Int32) (p16 : Int32) (w7 : Value) (p17 : Int32) (p18 : Int32) (w8 : Value) (w9 : Value) (w10 : Value) (w11 : Value) (w12 : Value) (p19 : Int32) (w13 : Value) (w14 : Value) (w15 : Value) (f0 : Nat → Int32) (p20 : Int32) (f1 : Nat → Int32) (f2 : Nat → Int32) (f3 : Nat → Int32) (hp0 : 0 ≤ (p0).toInt ∧ (p0).toInt ≤ 1023) (hp1 : 0 ≤ (p1).toInt ∧ (p1).toInt ≤ 7) (hp2 : (-2147483648) ≤ (p2).toInt ∧ (p2).toInt ≤ 2147483647) (hp3 : 0 ≤ (p3).toInt ∧ (p3).toInt ≤ 0) (hp4 : 0 ≤ (p4).toInt ∧ (p4).toInt ≤ 900) (hp5 : 0 ≤ (p5).toInt ∧ (p5).toInt ≤ 900) (hp6 : 0 ≤ (p6).toInt ∧ (p6).toInt ≤ 900) (hp7 : 0 ≤ (p7).toInt ∧ (p7).toInt ≤ 900) (hp8 : (-2147483648) ≤ (p8).toInt ∧ (p8).toInt ≤ 2147483647) (hp9 : 0 ≤ (p9).toInt ∧ (p9).toInt ≤ 999) (hp10 : (-2147483648) ≤ (p10).toInt ∧ (p10).toInt ≤ 2147483647) (hp11 : (-2147483648) ≤ (p11).toInt ∧ (p11).toInt ≤ 2147483647) (hp12 : (-2147483648) ≤ (p12).toInt ∧ (p12).toInt ≤ 2147483647) (hp13 : (-2147483648) ≤ (p13).toInt ∧ (p13).toInt ≤ 2147483647) (hp14 : (-2147483648) ≤ (p14).toInt ∧ (p14).toInt ≤ 2147483647) (hp15 : (-2147483648) ≤ (p15).toInt ∧ (p15).toInt ≤ 2147483647) (hp16 : (-2147483648) ≤ (p16).toInt ∧ (p16).toInt ≤ 2147483647) (hp17 : (-1) ≤ (p17).toInt ∧ (p17).toInt ≤ 10) (hp18 : (-2147483648) ≤ (p18).toInt ∧ (p18).toInt ≤ 2147483647) (hp19 : (-2147483648) ≤ (p19).toInt ∧ (p19).toInt ≤ 2147483647) (hp20 : 0 ≤ (p20).toInt ∧ (p20).toInt ≤ 10) (htf0_84 : f0 84 = p20) (rf0 : AL f0) (rf1 : RG f1 10 0 1023) (hpre0 : (p0 : Int32).toInt % 128 = 0) (sz : Nat) : MV l yX12_goesPairs cX12_goesPairs 7 { frames := 4, cells := 0, slots := 0, locals := 95 } [.ref h0, .int p0, .int p1, .int p2] D cy (wk_f147cc4b8 cy h0 p3 h1 w0 w1 w2 p4 p5 p6 p7 p8 p9 p10 p11 p12 p13 p14 w3 w4 w5 h2 w6 p15 p16 w7 h3 h4 p17 p18 w8 w9 w10 w11 w12 p19 w13 w14 w15 h1 f0 h2 f1 h3 f2 h4 f3) sz (fun u => ((-1) ≤ (u.2.1 0 0).toInt ∧ (u.2.1 0 0).toInt ≤ 10) ∧ ((-2147483648) ≤ (u.2.1 1 0).toInt ∧ (u.2.1 1 0).toInt ≤ 2147483647) ∧ True) (fun u => (wk_f147cc4b8 cy h0 p3 h1 w0 w1 w2 p4 p5 p6 p7 p8 p9 p10 p11 p12 p13 p14 w3 w4 w5 h2 w6 p15 p16 w7 h3 h4 (u.2.1 0 0) (u.2.1 1 0) w8 w9 w10 w11 w12 p19 w13 w14 w15 h1 f0 h2 f1 h3 (u.2.1 2) h4 (u.2.1 3))) 0 0 := by
  refine q_ent (own := RX12) (by decide) rfl (Nat.le_of_ble_eq_true rfl) (fun p e s m below meth c ls X hr hlk hnm hK hT h hA hl => ?_)
  obtain ⟨hx, hb, hml, hown, ht⟩ := id X
  replace hl : lv_has ls 7 [(0, .ref h0), (1, .int p0), (2, .int p1), (3, .int p2)] := hl
  refine lv_iload_n hx hb dX12_goesPairs_0 rfl (lv_at hl 1 rfl) ?_
  refine lv_if_ne (tgt := 70) hx hb dX12_goesPairs_1 (by decide) (fun c_1 => ?_) (fun c_1 => ?_)
  · replace c_1 := i_ne (x := p0) (y := 0) rfl (show (0 : Int32).toInt = 0 by decide) c_1
    refine lv_iload_n hx hb dX12_goesPairs_70 rfl (lv_at hl 1 rfl) ?_
    refine q_callSi (rest := []) (wr := (wk_f147cc4b8 cy h0 p3 h1 w0 w1 w2 p4 p5 p6 p7 p8 p9 p10 p11 p12 p13 p14 w3 w4 w5 h2 w6 p15 p16 w7 h3 h4 p17 p18 w8 w9 w10 w11 w12 p19 w13 w14 w15 h1 f0 h2 f1 h3 f2 h4 f3)) X hK hT hA h (fun sz => gX12_lowest_51df8cb l D cy p0 ⟨by omega, by omega⟩ sz) wm_7_67 wm_7_69 wm_1_12 hd_X12_lowest wm_7_68 ⟨Nat.le_of_ble_eq_true rfl, Nat.le_of_ble_eq_true rfl⟩ hl.1 rfl (Nat.le_of_ble_eq_true rfl) dX12_goesPairs_71 ⟨Nat.le_of_ble_eq_true rfl, Nat.le_of_ble_eq_true rfl⟩ [] [0, 1, 2, 3, 4] rfl rfl (by decide) rfl rfl (fun r_2 u_2 H locs w_2 h_2 => ?_)
    clear h
    obtain ⟨wr_2, y2_0, _⟩ := w_2
    replace h_2 : qW D _ _ (wk_f147cc4b8 cy h0 p3 h1 w0 w1 w2 p4 p5 p6 p7 p8 p9 p10 p11 p12 p13 p14 w3 w4 w5 h2 w6 p15 p16 w7 h3 h4 p17 p18 w8 w9 w10 w11 w12 p19 w13 w14 w15 h1 f0 h2 f1 h3 f2 h4 f3) _ _ := h_2
    refine lv_istore (lv' := [(4, .int r_2), (0, .ref h0), (1, .int p0), (2, .int p1), (3, .int p2)]) hx hb dX12_goesPairs_74 hl (by decide) rfl (fun ls_3 hl_3 => ?_)
    clear hl
    refine lv_iload_n hx hb dX12_goesPairs_76 rfl (lv_at hl_3 2 rfl) ?_
    refine lv_iconst (v := 1) hx hb dX12_goesPairs_77 (by decide) ?_
    refine lv_iload hx hb dX12_goesPairs_78 (lv_at hl_3 0 rfl) ?_
    refine lv_ishl hx hb dX12_goesPairs_80 ?_
    obtain ⟨z_4, ez_4, hz_4⟩ := e_shlk (p := r_2) 9 (by decide) rfl (by omega) (by omega)
    refine q_c z_4 ez_4 ?_
    refine lv_iconst (v := (-1)) hx hb dX12_goesPairs_81 (by decide) ?_
    refine lv_ixor hx hb dX12_goesPairs_82 ?_
    obtain ⟨z_5, ez_5, hz_5⟩ := e_any (z_4 ^^^ (-1))
    refine q_c z_5 ez_5 ?_
    refine lv_iand hx hb dX12_goesPairs_83 ?_
    obtain ⟨z_6, ez_6, hz_6⟩ := e_and1 (x := p0) (y := z_5) rfl (by omega)
    refine q_c z_6 ez_6 ?_
    have rs_7 := rest_low 7 (by omega) y2_0 (by omega) ez_4 ez_5 ez_6
    refine lv_istore (lv' := [(5, .int z_6), (4, .int r_2), (0, .ref h0), (1, .int p0), (2, .int p1), (3, .int p2)]) hx hb dX12_goesPairs_84 hl_3 (by decide) rfl (fun ls_8 hl_8 => ?_)
    clear hl_3
    refine lv_iload hx hb dX12_goesPairs_86 (lv_at hl_8 1 rfl) ?_
    refine lv_iconst (v := 1) hx hb dX12_goesPairs_88 (by decide) ?_
    refine lv_iadd hx hb dX12_goesPairs_89 ?_
    obtain ⟨z_9, ez_9, hz_9⟩ := e_add (x := r_2) (y := 1) rfl (show (1 : Int32).toInt = 1 by decide) (by omega) (by omega)
    refine q_c z_9 ez_9 ?_
    clear ez_9
    refine lv_istore (lv' := [(6, .int z_9), (5, .int z_6), (4, .int r_2), (0, .ref h0), (1, .int p0), (2, .int p1), (3, .int p2)]) hx hb dX12_goesPairs_90 hl_8 (by decide) rfl (fun ls_10 hl_10 => ?_)
    clear hl_8
    refine q_wl (fun (q : Int32 × Int32 × Int32) H locs ls => match q with | (v92_11_0, v92_11_1, v92_11_2) => ∃ v92_11_3 : Nat → Int32, ∃ v92_11_4 : Nat → Int32, (1 ≤ (v92_11_0).toInt ∧ (v92_11_0).toInt ≤ 10) ∧ ((-1) ≤ (v92_11_1).toInt ∧ (v92_11_1).toInt ≤ 10) ∧ ((-2147483648) ≤ (v92_11_2).toInt ∧ (v92_11_2).toInt ≤ 2147483647) ∧ qW D (va_A (wk_f147cc4b8 cy h0 p3 h1 w0 w1 w2 p4 p5 p6 p7 p8 p9 p10 p11 p12 p13 p14 w3 w4 w5 h2 w6 p15 p16 w7 h3 h4 p17 p18 w8 w9 w10 w11 w12 p19 w13 w14 w15 h1 f0 h2 f1 h3 f2 h4 f3) sz) s.heap (wk_f147cc4b8 cy h0 p3 h1 w0 w1 w2 p4 p5 p6 p7 p8 p9 p10 p11 p12 p13 p14 w3 w4 w5 h2 w6 p15 p16 w7 h3 h4 v92_11_1 v92_11_2 w8 w9 w10 w11 w12 p19 w13 w14 w15 h1 f0 h2 f1 h3 v92_11_3 h4 v92_11_4) H locs ∧ lv_has ls 7 [(0, .ref h0), (1, .int p0), (2, .int p1), (3, .int p2), (4, .int r_2), (5, .int z_6), (6, .int v92_11_0)]) (fun (q : Int32 × Int32 × Int32) => match q with | (v92_11_0, v92_11_1, v92_11_2) => (11 - (v92_11_0).toInt).toNat) (fun q_92 ih_92 H locs ls hP => ?_) (z_9, p17, p18) ⟨f2, f3, ⟨by omega, by omega⟩, hp17, hp18, h_2, (lv_sub hl_10 [3, 4, 5, 6, 2, 1, 0] rfl)⟩
    obtain ⟨v92_11_0, v92_11_1, v92_11_2⟩ := q_92
    obtain ⟨v92_11_3, v92_11_4, hv92_11_0, hv92_11_1, hv92_11_2, h, hl⟩ := hP
    refine lv_iload hx hb dX12_goesPairs_92 (lv_at hl 6 rfl) ?_
    refine lv_aload_n hx hb dX12_goesPairs_94 rfl (lv_at hl 0 rfl) ?_
    refine q_get X hK h 0 rfl rfl wf_12 1 (by decide) rfl wm_5_171 dX12_goesPairs_95 ?_
    refine lv_iconst (v := 2) hx hb dX12_goesPairs_98 (by decide) ?_
    refine q_iald X hK h 1 rfl (q_in (by decide +kernel)) dX12_goesPairs_99 ?_
    obtain ⟨z_12, ez_12, hz_12⟩ := al_P rf0 (x := 2) (show (2 : Int32).toInt = 2 by decide) (by omega) (by omega)
    refine q_c z_12 ez_12 ?_
    clear ez_12
    refine lv_icmp_ge (tgt := 196) hx hb dX12_goesPairs_100 (by decide) (fun c_13 => ?_) (fun c_13 => ?_)
    · replace c_13 := i_le (x := z_12) (y := v92_11_0) rfl rfl c_13
      refine lv_aload_n hx hb dX12_goesPairs_196 rfl (lv_at hl 0 rfl) ?_
      refine q_get X hK h 0 rfl rfl wf_12 24 (by decide) rfl wm_5_194 dX12_goesPairs_197 ?_
      refine lv_iload hx hb dX12_goesPairs_200 (lv_at hl 4 rfl) ?_
      refine lv_iconst (v := (-1)) hx hb dX12_goesPairs_202 (by decide) ?_
      refine q_iast X hK h 3 rfl (i_in rfl (by omega) (by omega)) dX12_goesPairs_203 (fun H locs h_15 => ?_)
      clear h
      replace h_15 : qW D _ _ (wk_f147cc4b8 cy h0 p3 h1 w0 w1 w2 p4 p5 p6 p7 p8 p9 p10 p11 p12 p13 p14 w3 w4 w5 h2 w6 p15 p16 w7 h3 h4 v92_11_1 v92_11_2 w8 w9 w10 w11 w12 p19 w13 w14 w15 h1 f0 h2 f1 h3 (upd v92_11_3 (Int32.toNatClampNeg r_2) (-1)) h4 v92_11_4) _ _ := h_15
      obtain ⟨F_14, eF_14⟩ : ∃ z, (upd v92_11_3 (Int32.toNatClampNeg r_2) (-1)) = z := ⟨_, rfl⟩
      rw [eF_14] at h_15
      clear eF_14
      refine lv_aload_n hx hb dX12_goesPairs_204 rfl (lv_at hl 0 rfl) ?_
      refine lv_iload hx hb dX12_goesPairs_205 (lv_at hl 5 rfl) ?_
      refine lv_iload_n hx hb dX12_goesPairs_207 rfl (lv_at hl 2 rfl) ?_
      refine lv_iload_n hx hb dX12_goesPairs_208 rfl (lv_at hl 3 rfl) ?_
      refine q_callVv (rest := []) (wr := []) X hK hT hA h_15 (fun sz => gX12_goesPairs_cec3488 l D cy h0 h1 h2 h3 h4 z_6 p1 p2 p3 w0 w1 w2 p4 p5 p6 p7 p8 p9 p10 p11 p12 p13 p14 w3 w4 w5 w6 p15 p16 w7 v92_11_1 v92_11_2 w8 w9 w10 w11 w12 p19 w13 w14 w15 f0 p20 f1 F_14 v92_11_4 ⟨by omega, by omega⟩ (bw hp1 (by decide) (by decide)) (i_rng _) hp3 hp4 hp5 hp6 hp7 (i_rng _) hp9 (i_rng _) (i_rng _) (i_rng _) (i_rng _) (i_rng _) (i_rng _) (i_rng _) hv92_11_1 (i_rng _) (i_rng _) hp20 htf0_84 rf0 (rg_wide rf1 (by decide) (by decide)) ((show _ % 256 = 0 from rs_7.1)) sz) wm_7_116 wm_7_119 wm_1_12 hd_X12_goesPairs wm_7_118 wp_7_4 (ci := 12) (q0 := 0) rfl rfl ⟨Nat.le_of_ble_eq_true rfl, Nat.le_of_ble_eq_true rfl⟩ hl.1 rfl (Nat.le_of_ble_eq_true rfl) dX12_goesPairs_209 ⟨Nat.le_of_ble_eq_true rfl, Nat.le_of_ble_eq_true rfl⟩ [0, 1, 2, 3, 4] [] rfl rfl (by decide) rfl rfl (fun u_16 H locs w_16 h_16 => ?_)
      clear h_15
      obtain ⟨w16_0, w16_1, _⟩ := w_16
      replace h_16 : qW D _ _ (wk_f147cc4b8 cy h0 p3 h1 w0 w1 w2 p4 p5 p6 p7 p8 p9 p10 p11 p12 p13 p14 w3 w4 w5 h2 w6 p15 p16 w7 h3 h4 (u_16.2.1 0 0) (u_16.2.1 1 0) w8 w9 w10 w11 w12 p19 w13 w14 w15 h1 f0 h2 f1 h3 (u_16.2.1 2) h4 (u_16.2.1 3)) _ _ := h_16
      exact q_vret X hr hlk hK h_16 (fun _ => 0, (vcons (fun _ => (u_16.2.1 0 0)) (vcons (fun _ => (u_16.2.1 1 0)) (vcons (u_16.2.1 2) (vcons (u_16.2.1 3) (fun _ => (fun _ => 0)))))), fun _ _ => 0) ⟨w16_0, w16_1, trivial⟩ [0, 1, 2, 3, 4] rfl rfl dX12_goesPairs_212 (Nat.le_of_ble_eq_true rfl) (Nat.le_of_ble_eq_true rfl)
    · replace c_13 := i_nle (x := z_12) (y := v92_11_0) rfl rfl c_13
      refine lv_iload hx hb dX12_goesPairs_103 (lv_at hl 5 rfl) ?_
      refine lv_aload_n hx hb dX12_goesPairs_105 rfl (lv_at hl 0 rfl) ?_
      refine q_get X hK h 0 rfl rfl wf_12 19 (by decide) rfl wm_5_189 dX12_goesPairs_106 ?_
      refine lv_iload hx hb dX12_goesPairs_109 (lv_at hl 4 rfl) ?_
      refine q_iald X hK h 2 rfl (i_in rfl (by omega) (by omega)) dX12_goesPairs_111 ?_
      obtain ⟨z_17, ez_17, hz_17⟩ := rg_get rf1 (x := r_2) rfl (by omega) (by omega)
      refine q_c z_17 ez_17 ?_
      clear ez_17
      refine lv_iand hx hb dX12_goesPairs_112 ?_
      obtain ⟨z_18, ez_18, hz_18⟩ := e_and2 (x := z_6) (y := z_17) rfl (by omega)
      refine q_c z_18 ez_18 ?_
      clear ez_18
      refine lv_i2l hx hb dX12_goesPairs_113 rfl ?_
      obtain ⟨z_19, ez_19, hz_19⟩ := e_i2l (x := z_18) rfl
      refine q_cl z_19 ez_19 ?_
      clear ez_19
      refine lv_iload hx hb dX12_goesPairs_114 (lv_at hl 6 rfl) ?_
      refine q_callSi (rest := []) (wr := (wk_f147cc4b8 cy h0 p3 h1 w0 w1 w2 p4 p5 p6 p7 p8 p9 p10 p11 p12 p13 p14 w3 w4 w5 h2 w6 p15 p16 w7 h3 h4 v92_11_1 v92_11_2 w8 w9 w10 w11 w12 p19 w13 w14 w15 h1 f0 h2 f1 h3 v92_11_3 h4 v92_11_4)) X hK hT hA h (fun sz => gX12_isIn_b0455a8 l D cy z_19 v92_11_0 ⟨by omega, by omega⟩ ⟨by omega, by omega⟩ sz) wm_6_167 wm_6_169 wm_1_12 hd_X12_isIn wm_6_168 ⟨Nat.le_of_ble_eq_true rfl, Nat.le_of_ble_eq_true rfl⟩ hl.1 rfl (Nat.le_of_ble_eq_true rfl) dX12_goesPairs_116 ⟨Nat.le_of_ble_eq_true rfl, Nat.le_of_ble_eq_true rfl⟩ [] [0, 1, 2, 3, 4] rfl rfl (by decide) rfl rfl (fun r_20 u_20 H locs w_20 h_20 => ?_)
      clear h
      obtain ⟨wr_20, _⟩ := w_20
      replace h_20 : qW D _ _ (wk_f147cc4b8 cy h0 p3 h1 w0 w1 w2 p4 p5 p6 p7 p8 p9 p10 p11 p12 p13 p14 w3 w4 w5 h2 w6 p15 p16 w7 h3 h4 v92_11_1 v92_11_2 w8 w9 w10 w11 w12 p19 w13 w14 w15 h1 f0 h2 f1 h3 v92_11_3 h4 v92_11_4) _ _ := h_20
      refine q_jn (pc2 := 190) (fun H locs ls st => ∃ v190_21_0 : Int32, ∃ v190_21_1 : Int32, ∃ v190_21_2 : Nat → Int32, ∃ v190_21_3 : Nat → Int32, ((-1) ≤ (v190_21_0).toInt ∧ (v190_21_0).toInt ≤ 10) ∧ ((-2147483648) ≤ (v190_21_1).toInt ∧ (v190_21_1).toInt ≤ 2147483647) ∧ st = [] ∧ qW D (va_A (wk_f147cc4b8 cy h0 p3 h1 w0 w1 w2 p4 p5 p6 p7 p8 p9 p10 p11 p12 p13 p14 w3 w4 w5 h2 w6 p15 p16 w7 h3 h4 p17 p18 w8 w9 w10 w11 w12 p19 w13 w14 w15 h1 f0 h2 f1 h3 f2 h4 f3) sz) s.heap (wk_f147cc4b8 cy h0 p3 h1 w0 w1 w2 p4 p5 p6 p7 p8 p9 p10 p11 p12 p13 p14 w3 w4 w5 h2 w6 p15 p16 w7 h3 h4 v190_21_0 v190_21_1 w8 w9 w10 w11 w12 p19 w13 w14 w15 h1 f0 h2 f1 h3 v190_21_2 h4 v190_21_3) H locs ∧ lv_has ls 7 [(0, .ref h0), (1, .int p0), (2, .int p1), (3, .int p2), (4, .int r_2), (5, .int z_6), (6, .int v92_11_0)]) (fun H locs ls st hP => ?_) (fun J_190 => ?_)
      · obtain ⟨v190_21_0, v190_21_1, v190_21_2, v190_21_3, hv190_21_0, hv190_21_1, rfl, h, hl⟩ := hP
        obtain ⟨z_22, ez_22, hz_22⟩ := e_add (x := v92_11_0) (y := Int32.ofInt 1) rfl (b := 1) (by decide) (by omega) (by omega)
        refine lv_iinc (v := z_22) (lv' := [(6, .int z_22), (0, .ref h0), (1, .int p0), (2, .int p1), (3, .int p2), (4, .int r_2), (5, .int z_6)]) hx hb dX12_goesPairs_190 hl (k := 6) rfl ez_22 (by decide) rfl (fun ls_22 hl_22 => ?_)
        clear hl
        refine lv_goto (tgt := 92) hx hb dX12_goesPairs_193 (by decide) ?_
        exact ih_92 (z_22, v190_21_0, v190_21_1) (by show (11 - (z_22).toInt).toNat < (11 - (v92_11_0).toInt).toNat; omega) _ _ _ ⟨v190_21_2, v190_21_3, ⟨by omega, by omega⟩, hv190_21_0, hv190_21_1, h, (lv_sub hl_22 [1, 2, 3, 4, 5, 6, 0] rfl)⟩
      · skip
        refine lv_if_ne (tgt := 125) hx hb dX12_goesPairs_119 (by decide) (fun c_23 => ?_) (fun c_23 => ?_)
        · replace c_23 := i_ne (x := r_20) (y := 0) rfl (show (0 : Int32).toInt = 0 by decide) c_23
          refine lv_aload_n hx hb dX12_goesPairs_125 rfl (lv_at hl 0 rfl) ?_
          refine q_get X hK h_20 0 rfl rfl wf_12 24 (by decide) rfl wm_5_194 dX12_goesPairs_126 ?_
          refine lv_iload hx hb dX12_goesPairs_129 (lv_at hl 4 rfl) ?_
          refine lv_iload hx hb dX12_goesPairs_131 (lv_at hl 6 rfl) ?_
          refine q_iast X hK h_20 3 rfl (i_in rfl (by omega) (by omega)) dX12_goesPairs_133 (fun H locs h_25 => ?_)
          clear h_20
          replace h_25 : qW D _ _ (wk_f147cc4b8 cy h0 p3 h1 w0 w1 w2 p4 p5 p6 p7 p8 p9 p10 p11 p12 p13 p14 w3 w4 w5 h2 w6 p15 p16 w7 h3 h4 v92_11_1 v92_11_2 w8 w9 w10 w11 w12 p19 w13 w14 w15 h1 f0 h2 f1 h3 (upd v92_11_3 (Int32.toNatClampNeg r_2) v92_11_0) h4 v92_11_4) _ _ := h_25
          obtain ⟨F_24, eF_24⟩ : ∃ z, (upd v92_11_3 (Int32.toNatClampNeg r_2) v92_11_0) = z := ⟨_, rfl⟩
          rw [eF_24] at h_25
          clear eF_24
          refine lv_aload_n hx hb dX12_goesPairs_134 rfl (lv_at hl 0 rfl) ?_
          refine q_get X hK h_25 0 rfl rfl wf_12 24 (by decide) rfl wm_5_194 dX12_goesPairs_135 ?_
          refine lv_iload hx hb dX12_goesPairs_138 (lv_at hl 6 rfl) ?_
          refine lv_iload hx hb dX12_goesPairs_140 (lv_at hl 4 rfl) ?_
          refine q_iast X hK h_25 3 rfl (i_in rfl (by omega) (by omega)) dX12_goesPairs_142 (fun H locs h_27 => ?_)
          clear h_25
          replace h_27 : qW D _ _ (wk_f147cc4b8 cy h0 p3 h1 w0 w1 w2 p4 p5 p6 p7 p8 p9 p10 p11 p12 p13 p14 w3 w4 w5 h2 w6 p15 p16 w7 h3 h4 v92_11_1 v92_11_2 w8 w9 w10 w11 w12 p19 w13 w14 w15 h1 f0 h2 f1 h3 (upd F_24 (Int32.toNatClampNeg v92_11_0) r_2) h4 v92_11_4) _ _ := h_27
          obtain ⟨F_26, eF_26⟩ : ∃ z, (upd F_24 (Int32.toNatClampNeg v92_11_0) r_2) = z := ⟨_, rfl⟩
          rw [eF_26] at h_27
          clear eF_26
          refine lv_aload_n hx hb dX12_goesPairs_143 rfl (lv_at hl 0 rfl) ?_
          refine lv_iload hx hb dX12_goesPairs_144 (lv_at hl 5 rfl) ?_
          refine lv_iconst (v := 1) hx hb dX12_goesPairs_146 (by decide) ?_
          refine lv_iload hx hb dX12_goesPairs_147 (lv_at hl 6 rfl) ?_
          refine lv_ishl hx hb dX12_goesPairs_149 ?_
          obtain ⟨z_28, ez_28, hz_28⟩ := e_shlk (p := v92_11_0) 9 (by decide) rfl (by omega) (by omega)
          refine q_c z_28 ez_28 ?_
          clear ez_28
          refine lv_iconst (v := (-1)) hx hb dX12_goesPairs_150 (by decide) ?_
          refine lv_ixor hx hb dX12_goesPairs_151 ?_
          refine q_any (fun z_29 hz_29 => ?_)
          refine lv_iand hx hb dX12_goesPairs_152 ?_
          obtain ⟨z_30, ez_30, hz_30⟩ := e_and1 (x := z_6) (y := z_29) rfl (by omega)
          refine q_c z_30 ez_30 ?_
          have ad_31 := and_div 8 (by omega) rs_7.1 ez_30
          refine lv_iload_n hx hb dX12_goesPairs_153 rfl (lv_at hl 2 rfl) ?_
          refine lv_iconst (v := 1) hx hb dX12_goesPairs_154 (by decide) ?_
          refine lv_iadd hx hb dX12_goesPairs_155 ?_
          obtain ⟨z_32, ez_32, hz_32⟩ := e_add (x := p1) (y := 1) rfl (show (1 : Int32).toInt = 1 by decide) (by omega) (by omega)
          refine q_c z_32 ez_32 ?_
          clear ez_32
          refine lv_iload_n hx hb dX12_goesPairs_156 rfl (lv_at hl 3 rfl) ?_
          refine lv_aload_n hx hb dX12_goesPairs_157 rfl (lv_at hl 0 rfl) ?_
          refine q_get X hK h_27 0 rfl rfl wf_12 1 (by decide) rfl wm_5_171 dX12_goesPairs_158 ?_
          refine lv_bipush (v := 42) hx hb dX12_goesPairs_161 (by decide) ?_
          refine lv_iload hx hb dX12_goesPairs_163 (lv_at hl 4 rfl) ?_
          refine lv_iadd hx hb dX12_goesPairs_165 ?_
          obtain ⟨z_33, ez_33, hz_33⟩ := e_add (x := 42) (y := r_2) (show (42 : Int32).toInt = 42 by decide) rfl (by omega) (by omega)
          refine q_c z_33 ez_33 ?_
          clear ez_33
          refine q_iald X hK h_27 1 rfl (i_in rfl (by omega) (by omega)) dX12_goesPairs_166 ?_
          refine q_any (fun z_34 hz_34 => ?_)
          refine lv_iadd hx hb dX12_goesPairs_167 ?_
          refine q_any (fun z_35 hz_35 => ?_)
          refine lv_aload_n hx hb dX12_goesPairs_168 rfl (lv_at hl 0 rfl) ?_
          refine q_get X hK h_27 0 rfl rfl wf_12 1 (by decide) rfl wm_5_171 dX12_goesPairs_169 ?_
          refine lv_bipush (v := 42) hx hb dX12_goesPairs_172 (by decide) ?_
          refine lv_iload hx hb dX12_goesPairs_174 (lv_at hl 6 rfl) ?_
          refine lv_iadd hx hb dX12_goesPairs_176 ?_
          obtain ⟨z_36, ez_36, hz_36⟩ := e_add (x := 42) (y := v92_11_0) (show (42 : Int32).toInt = 42 by decide) rfl (by omega) (by omega)
          refine q_c z_36 ez_36 ?_
          clear ez_36
          refine q_iald X hK h_27 1 rfl (i_in rfl (by omega) (by omega)) dX12_goesPairs_177 ?_
          refine q_any (fun z_37 hz_37 => ?_)
          refine lv_iadd hx hb dX12_goesPairs_178 ?_
          refine q_any (fun z_38 hz_38 => ?_)
          refine q_callVv (rest := []) (wr := []) X hK hT hA h_27 (fun sz => gX12_goesPairs_cec3488 l D cy h0 h1 h2 h3 h4 z_30 z_32 z_38 p3 w0 w1 w2 p4 p5 p6 p7 p8 p9 p10 p11 p12 p13 p14 w3 w4 w5 w6 p15 p16 w7 v92_11_1 v92_11_2 w8 w9 w10 w11 w12 p19 w13 w14 w15 f0 p20 f1 F_26 v92_11_4 ⟨by omega, by omega⟩ ⟨by omega, by omega⟩ (i_rng _) hp3 hp4 hp5 hp6 hp7 (i_rng _) hp9 (i_rng _) (i_rng _) (i_rng _) (i_rng _) (i_rng _) (i_rng _) (i_rng _) hv92_11_1 (i_rng _) (i_rng _) hp20 htf0_84 rf0 (rg_wide rf1 (by decide) (by decide)) ((show _ % 256 = 0 from ad_31)) sz) wm_7_116 wm_7_119 wm_1_12 hd_X12_goesPairs wm_7_118 wp_7_4 (ci := 12) (q0 := 0) rfl rfl ⟨Nat.le_of_ble_eq_true rfl, Nat.le_of_ble_eq_true rfl⟩ hl.1 rfl (Nat.le_of_ble_eq_true rfl) dX12_goesPairs_179 ⟨Nat.le_of_ble_eq_true rfl, Nat.le_of_ble_eq_true rfl⟩ [0, 1, 2, 3, 4] [] rfl rfl (by decide) rfl rfl (fun u_39 H locs w_39 h_39 => ?_)
          clear h_27
          obtain ⟨w39_0, w39_1, _⟩ := w_39
          replace h_39 : qW D _ _ (wk_f147cc4b8 cy h0 p3 h1 w0 w1 w2 p4 p5 p6 p7 p8 p9 p10 p11 p12 p13 p14 w3 w4 w5 h2 w6 p15 p16 w7 h3 h4 (u_39.2.1 0 0) (u_39.2.1 1 0) w8 w9 w10 w11 w12 p19 w13 w14 w15 h1 f0 h2 f1 h3 (u_39.2.1 2) h4 (u_39.2.1 3)) _ _ := h_39
          refine lv_aload_n hx hb dX12_goesPairs_182 rfl (lv_at hl 0 rfl) ?_
          refine q_get X hK h_39 0 rfl rfl wf_12 24 (by decide) rfl wm_5_194 dX12_goesPairs_183 ?_
          refine lv_iload hx hb dX12_goesPairs_186 (lv_at hl 6 rfl) ?_
          refine lv_iconst (v := (-1)) hx hb dX12_goesPairs_188 (by decide) ?_
          refine q_iast X hK h_39 3 rfl (i_in rfl (by omega) (by omega)) dX12_goesPairs_189 (fun H locs h_41 => ?_)
          clear h_39
          replace h_41 : qW D _ _ (wk_f147cc4b8 cy h0 p3 h1 w0 w1 w2 p4 p5 p6 p7 p8 p9 p10 p11 p12 p13 p14 w3 w4 w5 h2 w6 p15 p16 w7 h3 h4 (u_39.2.1 0 0) (u_39.2.1 1 0) w8 w9 w10 w11 w12 p19 w13 w14 w15 h1 f0 h2 f1 h3 (upd (u_39.2.1 2) (Int32.toNatClampNeg v92_11_0) (-1)) h4 (u_39.2.1 3)) _ _ := h_41
          obtain ⟨F_40, eF_40⟩ : ∃ z, (upd (u_39.2.1 2) (Int32.toNatClampNeg v92_11_0) (-1)) = z := ⟨_, rfl⟩
          rw [eF_40] at h_41
          clear eF_40
          exact J_190 _ _ _ _ ⟨(u_39.2.1 0 0), (u_39.2.1 1 0), F_40, (u_39.2.1 3), w39_0, w39_1, rfl, h_41, (lv_sub hl [0, 1, 2, 3, 4, 5, 6] rfl)⟩
        · replace c_23 := i_eq (x := r_20) (y := 0) rfl (show (0 : Int32).toInt = 0 by decide) c_23
          refine lv_goto (tgt := 190) hx hb dX12_goesPairs_122 (by decide) ?_
          exact J_190 _ _ _ _ ⟨v92_11_1, v92_11_2, v92_11_3, v92_11_4, hv92_11_1, hv92_11_2, rfl, h_20, (lv_sub hl [0, 1, 2, 3, 4, 5, 6] rfl)⟩
  · replace c_1 := i_eq (x := p0) (y := 0) rfl (show (0 : Int32).toInt = 0 by decide) c_1
    refine lv_iload_n hx hb dX12_goesPairs_4 rfl (lv_at hl 2 rfl) ?_
    refine lv_aload_n hx hb dX12_goesPairs_5 rfl (lv_at hl 0 rfl) ?_
    refine q_get X hK h 0 rfl rfl wf_12 26 (by decide) rfl wm_5_196 dX12_goesPairs_6 ?_
    refine q_jn (pc2 := 28) (fun H locs ls st => st = [] ∧ qW D (va_A (wk_f147cc4b8 cy h0 p3 h1 w0 w1 w2 p4 p5 p6 p7 p8 p9 p10 p11 p12 p13 p14 w3 w4 w5 h2 w6 p15 p16 w7 h3 h4 p17 p18 w8 w9 w10 w11 w12 p19 w13 w14 w15 h1 f0 h2 f1 h3 f2 h4 f3) sz) s.heap (wk_f147cc4b8 cy h0 p3 h1 w0 w1 w2 p4 p5 p6 p7 p8 p9 p10 p11 p12 p13 p14 w3 w4 w5 h2 w6 p15 p16 w7 h3 h4 p17 p18 w8 w9 w10 w11 w12 p19 w13 w14 w15 h1 f0 h2 f1 h3 f2 h4 f3) H locs ∧ lv_has ls 7 [(0, .ref h0), (1, .int p0), (2, .int p1), (3, .int p2)]) (fun H locs ls st hP => ?_) (fun J_28 => ?_)
    · obtain ⟨rfl, h, hl⟩ := hP
      exact q_vret X hr hlk hK h (fun _ => 0, (vcons (fun _ => p17) (vcons (fun _ => p18) (vcons f2 (vcons f3 (fun _ => (fun _ => 0)))))), fun _ _ => 0) ⟨hp17, hp18, trivial⟩ [0, 1, 2, 3, 4] rfl rfl dX12_goesPairs_28 (Nat.le_of_ble_eq_true rfl) (Nat.le_of_ble_eq_true rfl)
    · skip
      refine lv_icmp_lt (tgt := 28) hx hb dX12_goesPairs_9 (by decide) (fun c_43 => ?_) (fun c_43 => ?_)
      · replace c_43 := i_lt (x := p1) (y := p17) rfl rfl c_43
        exact J_28 _ _ _ _ ⟨rfl, h, (lv_sub hl [0, 1, 2, 3] rfl)⟩
      · replace c_43 := i_nlt (x := p1) (y := p17) rfl rfl c_43
        refine lv_iload_n hx hb dX12_goesPairs_12 rfl (lv_at hl 2 rfl) ?_
        refine lv_aload_n hx hb dX12_goesPairs_13 rfl (lv_at hl 0 rfl) ?_
        refine q_get X hK h 0 rfl rfl wf_12 26 (by decide) rfl wm_5_196 dX12_goesPairs_14 ?_
        refine q_jn (pc2 := 29) (fun H locs ls st => st = [] ∧ qW D (va_A (wk_f147cc4b8 cy h0 p3 h1 w0 w1 w2 p4 p5 p6 p7 p8 p9 p10 p11 p12 p13 p14 w3 w4 w5 h2 w6 p15 p16 w7 h3 h4 p17 p18 w8 w9 w10 w11 w12 p19 w13 w14 w15 h1 f0 h2 f1 h3 f2 h4 f3) sz) s.heap (wk_f147cc4b8 cy h0 p3 h1 w0 w1 w2 p4 p5 p6 p7 p8 p9 p10 p11 p12 p13 p14 w3 w4 w5 h2 w6 p15 p16 w7 h3 h4 p17 p18 w8 w9 w10 w11 w12 p19 w13 w14 w15 h1 f0 h2 f1 h3 f2 h4 f3) H locs ∧ lv_has ls 7 [(0, .ref h0), (1, .int p0), (2, .int p1), (3, .int p2)]) (fun H locs ls st hP => ?_) (fun J_29 => ?_)
        · obtain ⟨rfl, h, hl⟩ := hP
          refine lv_aload_n hx hb dX12_goesPairs_29 rfl (lv_at hl 0 rfl) ?_
          refine lv_iload_n hx hb dX12_goesPairs_30 rfl (lv_at hl 2 rfl) ?_
          refine q_put (v := .int p1) X hK h 0 rfl rfl wf_12 tyX12 tyX12_ok nmX12 26 (by decide) wm_5_196 rfl rfl rfl (Nat.le_of_ble_eq_true rfl) dX12_goesPairs_31 (fun H locs h_45 => ?_)
          clear h
          replace h_45 : qW D _ _ (wk_f147cc4b8 cy h0 p3 h1 w0 w1 w2 p4 p5 p6 p7 p8 p9 p10 p11 p12 p13 p14 w3 w4 w5 h2 w6 p15 p16 w7 h3 h4 p1 p18 w8 w9 w10 w11 w12 p19 w13 w14 w15 h1 f0 h2 f1 h3 f2 h4 f3) _ _ := h_45
          refine lv_aload_n hx hb dX12_goesPairs_34 rfl (lv_at hl 0 rfl) ?_
          refine lv_iload_n hx hb dX12_goesPairs_35 rfl (lv_at hl 3 rfl) ?_
          refine q_put (v := .int p2) X hK h_45 0 rfl rfl wf_12 tyX12 tyX12_ok nmX12 27 (by decide) wm_5_197 rfl rfl rfl (Nat.le_of_ble_eq_true rfl) dX12_goesPairs_36 (fun H locs h_46 => ?_)
          clear h_45
          replace h_46 : qW D _ _ (wk_f147cc4b8 cy h0 p3 h1 w0 w1 w2 p4 p5 p6 p7 p8 p9 p10 p11 p12 p13 p14 w3 w4 w5 h2 w6 p15 p16 w7 h3 h4 p1 p2 w8 w9 w10 w11 w12 p19 w13 w14 w15 h1 f0 h2 f1 h3 f2 h4 f3) _ _ := h_46
          refine lv_iconst (v := 0) hx hb dX12_goesPairs_39 (by decide) ?_
          refine lv_istore (lv' := [(4, .int 0), (0, .ref h0), (1, .int p0), (2, .int p1), (3, .int p2)]) hx hb dX12_goesPairs_40 hl (by decide) rfl (fun ls_47 hl_47 => ?_)
          clear hl
          refine q_wl (fun (v42_48_0 : Int32) H locs ls => ∃ v42_48_1 : Nat → Int32, (0 ≤ (v42_48_0).toInt ∧ (v42_48_0).toInt ≤ 10) ∧ qW D (va_A (wk_f147cc4b8 cy h0 p3 h1 w0 w1 w2 p4 p5 p6 p7 p8 p9 p10 p11 p12 p13 p14 w3 w4 w5 h2 w6 p15 p16 w7 h3 h4 p17 p18 w8 w9 w10 w11 w12 p19 w13 w14 w15 h1 f0 h2 f1 h3 f2 h4 f3) sz) s.heap (wk_f147cc4b8 cy h0 p3 h1 w0 w1 w2 p4 p5 p6 p7 p8 p9 p10 p11 p12 p13 p14 w3 w4 w5 h2 w6 p15 p16 w7 h3 h4 p1 p2 w8 w9 w10 w11 w12 p19 w13 w14 w15 h1 f0 h2 f1 h3 f2 h4 v42_48_1) H locs ∧ lv_has ls 7 [(0, .ref h0), (1, .int p0), (2, .int p1), (3, .int p2), (4, .int v42_48_0)]) (fun (v42_48_0 : Int32) => (11 - (v42_48_0).toInt).toNat) (fun q_42 ih_42 H locs ls hP => ?_) 0 ⟨f3, ⟨by decide +kernel, by decide +kernel⟩, h_46, (lv_sub hl_47 [1, 2, 3, 4, 0] rfl)⟩
          obtain ⟨v42_48_0, rfl⟩ : ∃ z, z = q_42 := ⟨_, rfl⟩
          obtain ⟨v42_48_1, hv42_48_0, h, hl⟩ := hP
          refine lv_iload hx hb dX12_goesPairs_42 (lv_at hl 4 rfl) ?_
          refine lv_bipush (v := 10) hx hb dX12_goesPairs_44 (by decide) ?_
          refine lv_icmp_ge (tgt := 69) hx hb dX12_goesPairs_46 (by decide) (fun c_49 => ?_) (fun c_49 => ?_)
          · replace c_49 := i_le (x := 10) (y := v42_48_0) (show (10 : Int32).toInt = 10 by decide) rfl c_49
            exact q_vret X hr hlk hK h (fun _ => 0, (vcons (fun _ => p1) (vcons (fun _ => p2) (vcons f2 (vcons v42_48_1 (fun _ => (fun _ => 0)))))), fun _ _ => 0) ⟨(bw hp1 (by decide) (by decide)), hp2, trivial⟩ [0, 1, 2, 3, 4] rfl rfl dX12_goesPairs_69 (Nat.le_of_ble_eq_true rfl) (Nat.le_of_ble_eq_true rfl)
          · replace c_49 := i_nle (x := 10) (y := v42_48_0) (show (10 : Int32).toInt = 10 by decide) rfl c_49
            refine lv_aload_n hx hb dX12_goesPairs_49 rfl (lv_at hl 0 rfl) ?_
            refine q_get X hK h 0 rfl rfl wf_12 25 (by decide) rfl wm_5_195 dX12_goesPairs_50 ?_
            refine lv_iload hx hb dX12_goesPairs_53 (lv_at hl 4 rfl) ?_
            refine lv_aload_n hx hb dX12_goesPairs_55 rfl (lv_at hl 0 rfl) ?_
            refine q_get X hK h 0 rfl rfl wf_12 24 (by decide) rfl wm_5_194 dX12_goesPairs_56 ?_
            refine lv_iload hx hb dX12_goesPairs_59 (lv_at hl 4 rfl) ?_
            refine q_iald X hK h 3 rfl (i_in rfl (by omega) (by omega)) dX12_goesPairs_61 ?_
            refine q_any (fun z_50 hz_50 => ?_)
            refine q_iast X hK h 4 rfl (i_in rfl (by omega) (by omega)) dX12_goesPairs_62 (fun H locs h_52 => ?_)
            clear h
            replace h_52 : qW D _ _ (wk_f147cc4b8 cy h0 p3 h1 w0 w1 w2 p4 p5 p6 p7 p8 p9 p10 p11 p12 p13 p14 w3 w4 w5 h2 w6 p15 p16 w7 h3 h4 p1 p2 w8 w9 w10 w11 w12 p19 w13 w14 w15 h1 f0 h2 f1 h3 f2 h4 (upd v42_48_1 (Int32.toNatClampNeg v42_48_0) z_50)) _ _ := h_52
            obtain ⟨F_51, eF_51⟩ : ∃ z, (upd v42_48_1 (Int32.toNatClampNeg v42_48_0) z_50) = z := ⟨_, rfl⟩
            rw [eF_51] at h_52
            clear eF_51
            obtain ⟨z_53, ez_53, hz_53⟩ := e_add (x := v42_48_0) (y := Int32.ofInt 1) rfl (b := 1) (by decide) (by omega) (by omega)
            refine lv_iinc (v := z_53) (lv' := [(4, .int z_53), (0, .ref h0), (1, .int p0), (2, .int p1), (3, .int p2)]) hx hb dX12_goesPairs_63 hl (k := 4) rfl ez_53 (by decide) rfl (fun ls_53 hl_53 => ?_)
            clear hl
            refine lv_goto (tgt := 42) hx hb dX12_goesPairs_66 (by decide) ?_
            exact ih_42 z_53 (by show (11 - (z_53).toInt).toNat < (11 - (v42_48_0).toInt).toNat; omega) _ _ _ ⟨F_51, ⟨by omega, by omega⟩, h_52, (lv_sub hl_53 [1, 2, 3, 4, 0] rfl)⟩
        · skip
          refine lv_icmp_ne (tgt := 29) hx hb dX12_goesPairs_17 (by decide) (fun c_54 => ?_) (fun c_54 => ?_)
          · replace c_54 := i_ne (x := p1) (y := p17) rfl rfl c_54
            exact J_29 _ _ _ _ ⟨rfl, h, (lv_sub hl [0, 1, 2, 3] rfl)⟩
          · replace c_54 := i_eq (x := p1) (y := p17) rfl rfl c_54
            refine lv_iload_n hx hb dX12_goesPairs_20 rfl (lv_at hl 3 rfl) ?_
            refine lv_aload_n hx hb dX12_goesPairs_21 rfl (lv_at hl 0 rfl) ?_
            refine q_get X hK h 0 rfl rfl wf_12 27 (by decide) rfl wm_5_197 dX12_goesPairs_22 ?_
            refine lv_icmp_gt (tgt := 29) hx hb dX12_goesPairs_25 (by decide) (fun c_55 => ?_) (fun c_55 => ?_)
            · replace c_55 := i_lt (x := p18) (y := p2) rfl rfl c_55
              exact J_29 _ _ _ _ ⟨rfl, h, (lv_sub hl [0, 1, 2, 3] rfl)⟩
            · replace c_55 := i_nlt (x := p18) (y := p2) rfl rfl c_55
              exact J_28 _ _ _ _ ⟨rfl, h, (lv_sub hl [0, 1, 2, 3] rfl)⟩
set_option maxHeartbeats 4000000 in
set_option maxRecDepth 100000 in
theorem gX12_goesPairs_71e4c98 (l : Launch) (D : va_G) (cy : Nat → ClassId) (h0 : Nat) (h1 : Nat) (h2 : Nat) (h3 : Nat) (h4 : Nat) (p0 : Int32) (p1 : Int32) (p2 : Int32) (p3 : Int32) (w0 : Value) (w1 : Value) (w2 : Value) (p4 : Int32) (p5 : Int32) (p6 : Int32) (p7 : Int32) (p8 : Int32) (p9 : Int32) (p10 : Int32) (p11 : Int32) (p12 : Int32) (p13 : Int32) (p14 : Int32) (w3 : Value) (w4 : Value) (w5 : Value) (w6 : Value) (p15 : Int32) (p16 : Int32) (w7 : Value) (p17 : Int32) (p18 : Int32) (w8 : Value) (w9 : Value) (w10 : Value) (w11 : Value) (w12 : Value) (p19 : Int32) (w13 : Value) (w14 : Value) (w15 : Value) (f0 : Nat → Int32) (p20 : Int32) (f1 : Nat → Int32) (f2 : Nat → Int32) (f3 : Nat → Int32) (hp0 : 0 ≤ (p0).toInt ∧ (p0).toInt ≤ 1023) (hp1 : 0 ≤ (p1).toInt ∧ (p1).toInt ≤ 6) (hp2 : (-2147483648) ≤ (p2).toInt ∧ (p2).toInt ≤ 2147483647) (hp3 : 0 ≤ (p3).toInt ∧ (p3).toInt ≤ 0) (hp4 : 0 ≤ (p4).toInt ∧ (p4).toInt ≤ 900) (hp5 : 0 ≤ (p5).toInt ∧ (p5).toInt ≤ 900) (hp6 : 0 ≤ (p6).toInt ∧ (p6).toInt ≤ 900) (hp7 : 0 ≤ (p7).toInt ∧ (p7).toInt ≤ 900) (hp8 : (-2147483648) ≤ (p8).toInt ∧ (p8).toInt ≤ 2147483647) (hp9 : 0 ≤ (p9).toInt ∧ (p9).toInt ≤ 999) (hp10 : (-2147483648) ≤ (p10).toInt ∧ (p10).toInt ≤ 2147483647) (hp11 : (-2147483648) ≤ (p11).toInt ∧ (p11).toInt ≤ 2147483647) (hp12 : (-2147483648) ≤ (p12).toInt ∧ (p12).toInt ≤ 2147483647) (hp13 : (-2147483648) ≤ (p13).toInt ∧ (p13).toInt ≤ 2147483647) (hp14 : (-2147483648) ≤ (p14).toInt ∧ (p14).toInt ≤ 2147483647) (hp15 : (-2147483648) ≤ (p15).toInt ∧ (p15).toInt ≤ 2147483647) (hp16 : (-2147483648) ≤ (p16).toInt ∧ (p16).toInt ≤ 2147483647) (hp17 : (-1) ≤ (p17).toInt ∧ (p17).toInt ≤ 10) (hp18 : (-2147483648) ≤ (p18).toInt ∧ (p18).toInt ≤ 2147483647) (hp19 : (-2147483648) ≤ (p19).toInt ∧ (p19).toInt ≤ 2147483647) (hp20 : 0 ≤ (p20).toInt ∧ (p20).toInt ≤ 10) (htf0_84 : f0 84 = p20) (rf0 : AL f0) (rf1 : RG f1 10 0 1023) (hpre0 : (p0 : Int32).toInt % 64 = 0) (sz : Nat) : MV l yX12_goesPairs cX12_goesPairs 7 { frames := 5, cells := 0, slots := 0, locals := 121 } [.ref h0, .int p0, .int p1, .int p2] D cy (wk_f147cc4b8 cy h0 p3 h1 w0 w1 w2 p4 p5 p6 p7 p8 p9 p10 p11 p12 p13 p14 w3 w4 w5 h2 w6 p15 p16 w7 h3 h4 p17 p18 w8 w9 w10 w11 w12 p19 w13 w14 w15 h1 f0 h2 f1 h3 f2 h4 f3) sz (fun u => ((-1) ≤ (u.2.1 0 0).toInt ∧ (u.2.1 0 0).toInt ≤ 10) ∧ ((-2147483648) ≤ (u.2.1 1 0).toInt ∧ (u.2.1 1 0).toInt ≤ 2147483647) ∧ True) (fun u => (wk_f147cc4b8 cy h0 p3 h1 w0 w1 w2 p4 p5 p6 p7 p8 p9 p10 p11 p12 p13 p14 w3 w4 w5 h2 w6 p15 p16 w7 h3 h4 (u.2.1 0 0) (u.2.1 1 0) w8 w9 w10 w11 w12 p19 w13 w14 w15 h1 f0 h2 f1 h3 (u.2.1 2) h4 (u.2.1 3))) 0 0 := by
  refine q_ent (own := RX12) (by decide) rfl (Nat.le_of_ble_eq_true rfl) (fun p e s m below meth c ls X hr hlk hnm hK hT h hA hl => ?_)
  obtain ⟨hx, hb, hml, hown, ht⟩ := id X
  replace hl : lv_has ls 7 [(0, .ref h0), (1, .int p0), (2, .int p1), (3, .int p2)] := hl
  refine lv_iload_n hx hb dX12_goesPairs_0 rfl (lv_at hl 1 rfl) ?_
  refine lv_if_ne (tgt := 70) hx hb dX12_goesPairs_1 (by decide) (fun c_1 => ?_) (fun c_1 => ?_)
  · replace c_1 := i_ne (x := p0) (y := 0) rfl (show (0 : Int32).toInt = 0 by decide) c_1
    refine lv_iload_n hx hb dX12_goesPairs_70 rfl (lv_at hl 1 rfl) ?_
    refine q_callSi (rest := []) (wr := (wk_f147cc4b8 cy h0 p3 h1 w0 w1 w2 p4 p5 p6 p7 p8 p9 p10 p11 p12 p13 p14 w3 w4 w5 h2 w6 p15 p16 w7 h3 h4 p17 p18 w8 w9 w10 w11 w12 p19 w13 w14 w15 h1 f0 h2 f1 h3 f2 h4 f3)) X hK hT hA h (fun sz => gX12_lowest_51df8cb l D cy p0 ⟨by omega, by omega⟩ sz) wm_7_67 wm_7_69 wm_1_12 hd_X12_lowest wm_7_68 ⟨Nat.le_of_ble_eq_true rfl, Nat.le_of_ble_eq_true rfl⟩ hl.1 rfl (Nat.le_of_ble_eq_true rfl) dX12_goesPairs_71 ⟨Nat.le_of_ble_eq_true rfl, Nat.le_of_ble_eq_true rfl⟩ [] [0, 1, 2, 3, 4] rfl rfl (by decide) rfl rfl (fun r_2 u_2 H locs w_2 h_2 => ?_)
    clear h
    obtain ⟨wr_2, y2_0, _⟩ := w_2
    replace h_2 : qW D _ _ (wk_f147cc4b8 cy h0 p3 h1 w0 w1 w2 p4 p5 p6 p7 p8 p9 p10 p11 p12 p13 p14 w3 w4 w5 h2 w6 p15 p16 w7 h3 h4 p17 p18 w8 w9 w10 w11 w12 p19 w13 w14 w15 h1 f0 h2 f1 h3 f2 h4 f3) _ _ := h_2
    refine lv_istore (lv' := [(4, .int r_2), (0, .ref h0), (1, .int p0), (2, .int p1), (3, .int p2)]) hx hb dX12_goesPairs_74 hl (by decide) rfl (fun ls_3 hl_3 => ?_)
    clear hl
    refine lv_iload_n hx hb dX12_goesPairs_76 rfl (lv_at hl_3 2 rfl) ?_
    refine lv_iconst (v := 1) hx hb dX12_goesPairs_77 (by decide) ?_
    refine lv_iload hx hb dX12_goesPairs_78 (lv_at hl_3 0 rfl) ?_
    refine lv_ishl hx hb dX12_goesPairs_80 ?_
    obtain ⟨z_4, ez_4, hz_4⟩ := e_shlk (p := r_2) 9 (by decide) rfl (by omega) (by omega)
    refine q_c z_4 ez_4 ?_
    refine lv_iconst (v := (-1)) hx hb dX12_goesPairs_81 (by decide) ?_
    refine lv_ixor hx hb dX12_goesPairs_82 ?_
    obtain ⟨z_5, ez_5, hz_5⟩ := e_any (z_4 ^^^ (-1))
    refine q_c z_5 ez_5 ?_
    refine lv_iand hx hb dX12_goesPairs_83 ?_
    obtain ⟨z_6, ez_6, hz_6⟩ := e_and1 (x := p0) (y := z_5) rfl (by omega)
    refine q_c z_6 ez_6 ?_
    have rs_7 := rest_low 6 (by omega) y2_0 (by omega) ez_4 ez_5 ez_6
    refine lv_istore (lv' := [(5, .int z_6), (4, .int r_2), (0, .ref h0), (1, .int p0), (2, .int p1), (3, .int p2)]) hx hb dX12_goesPairs_84 hl_3 (by decide) rfl (fun ls_8 hl_8 => ?_)
    clear hl_3
    refine lv_iload hx hb dX12_goesPairs_86 (lv_at hl_8 1 rfl) ?_
    refine lv_iconst (v := 1) hx hb dX12_goesPairs_88 (by decide) ?_
    refine lv_iadd hx hb dX12_goesPairs_89 ?_
    obtain ⟨z_9, ez_9, hz_9⟩ := e_add (x := r_2) (y := 1) rfl (show (1 : Int32).toInt = 1 by decide) (by omega) (by omega)
    refine q_c z_9 ez_9 ?_
    clear ez_9
    refine lv_istore (lv' := [(6, .int z_9), (5, .int z_6), (4, .int r_2), (0, .ref h0), (1, .int p0), (2, .int p1), (3, .int p2)]) hx hb dX12_goesPairs_90 hl_8 (by decide) rfl (fun ls_10 hl_10 => ?_)
    clear hl_8
    refine q_wl (fun (q : Int32 × Int32 × Int32) H locs ls => match q with | (v92_11_0, v92_11_1, v92_11_2) => ∃ v92_11_3 : Nat → Int32, ∃ v92_11_4 : Nat → Int32, (1 ≤ (v92_11_0).toInt ∧ (v92_11_0).toInt ≤ 10) ∧ ((-1) ≤ (v92_11_1).toInt ∧ (v92_11_1).toInt ≤ 10) ∧ ((-2147483648) ≤ (v92_11_2).toInt ∧ (v92_11_2).toInt ≤ 2147483647) ∧ qW D (va_A (wk_f147cc4b8 cy h0 p3 h1 w0 w1 w2 p4 p5 p6 p7 p8 p9 p10 p11 p12 p13 p14 w3 w4 w5 h2 w6 p15 p16 w7 h3 h4 p17 p18 w8 w9 w10 w11 w12 p19 w13 w14 w15 h1 f0 h2 f1 h3 f2 h4 f3) sz) s.heap (wk_f147cc4b8 cy h0 p3 h1 w0 w1 w2 p4 p5 p6 p7 p8 p9 p10 p11 p12 p13 p14 w3 w4 w5 h2 w6 p15 p16 w7 h3 h4 v92_11_1 v92_11_2 w8 w9 w10 w11 w12 p19 w13 w14 w15 h1 f0 h2 f1 h3 v92_11_3 h4 v92_11_4) H locs ∧ lv_has ls 7 [(0, .ref h0), (1, .int p0), (2, .int p1), (3, .int p2), (4, .int r_2), (5, .int z_6), (6, .int v92_11_0)]) (fun (q : Int32 × Int32 × Int32) => match q with | (v92_11_0, v92_11_1, v92_11_2) => (11 - (v92_11_0).toInt).toNat) (fun q_92 ih_92 H locs ls hP => ?_) (z_9, p17, p18) ⟨f2, f3, ⟨by omega, by omega⟩, hp17, hp18, h_2, (lv_sub hl_10 [3, 4, 5, 6, 2, 1, 0] rfl)⟩
    obtain ⟨v92_11_0, v92_11_1, v92_11_2⟩ := q_92
    obtain ⟨v92_11_3, v92_11_4, hv92_11_0, hv92_11_1, hv92_11_2, h, hl⟩ := hP
    refine lv_iload hx hb dX12_goesPairs_92 (lv_at hl 6 rfl) ?_
    refine lv_aload_n hx hb dX12_goesPairs_94 rfl (lv_at hl 0 rfl) ?_
    refine q_get X hK h 0 rfl rfl wf_12 1 (by decide) rfl wm_5_171 dX12_goesPairs_95 ?_
    refine lv_iconst (v := 2) hx hb dX12_goesPairs_98 (by decide) ?_
    refine q_iald X hK h 1 rfl (q_in (by decide +kernel)) dX12_goesPairs_99 ?_
    obtain ⟨z_12, ez_12, hz_12⟩ := al_P rf0 (x := 2) (show (2 : Int32).toInt = 2 by decide) (by omega) (by omega)
    refine q_c z_12 ez_12 ?_
    clear ez_12
    refine lv_icmp_ge (tgt := 196) hx hb dX12_goesPairs_100 (by decide) (fun c_13 => ?_) (fun c_13 => ?_)
    · replace c_13 := i_le (x := z_12) (y := v92_11_0) rfl rfl c_13
      refine lv_aload_n hx hb dX12_goesPairs_196 rfl (lv_at hl 0 rfl) ?_
      refine q_get X hK h 0 rfl rfl wf_12 24 (by decide) rfl wm_5_194 dX12_goesPairs_197 ?_
      refine lv_iload hx hb dX12_goesPairs_200 (lv_at hl 4 rfl) ?_
      refine lv_iconst (v := (-1)) hx hb dX12_goesPairs_202 (by decide) ?_
      refine q_iast X hK h 3 rfl (i_in rfl (by omega) (by omega)) dX12_goesPairs_203 (fun H locs h_15 => ?_)
      clear h
      replace h_15 : qW D _ _ (wk_f147cc4b8 cy h0 p3 h1 w0 w1 w2 p4 p5 p6 p7 p8 p9 p10 p11 p12 p13 p14 w3 w4 w5 h2 w6 p15 p16 w7 h3 h4 v92_11_1 v92_11_2 w8 w9 w10 w11 w12 p19 w13 w14 w15 h1 f0 h2 f1 h3 (upd v92_11_3 (Int32.toNatClampNeg r_2) (-1)) h4 v92_11_4) _ _ := h_15
      obtain ⟨F_14, eF_14⟩ : ∃ z, (upd v92_11_3 (Int32.toNatClampNeg r_2) (-1)) = z := ⟨_, rfl⟩
      rw [eF_14] at h_15
      clear eF_14
      refine lv_aload_n hx hb dX12_goesPairs_204 rfl (lv_at hl 0 rfl) ?_
      refine lv_iload hx hb dX12_goesPairs_205 (lv_at hl 5 rfl) ?_
      refine lv_iload_n hx hb dX12_goesPairs_207 rfl (lv_at hl 2 rfl) ?_
      refine lv_iload_n hx hb dX12_goesPairs_208 rfl (lv_at hl 3 rfl) ?_
      refine q_callVv (rest := []) (wr := []) X hK hT hA h_15 (fun sz => gX12_goesPairs_c3c2d4b l D cy h0 h1 h2 h3 h4 z_6 p1 p2 p3 w0 w1 w2 p4 p5 p6 p7 p8 p9 p10 p11 p12 p13 p14 w3 w4 w5 w6 p15 p16 w7 v92_11_1 v92_11_2 w8 w9 w10 w11 w12 p19 w13 w14 w15 f0 p20 f1 F_14 v92_11_4 ⟨by omega, by omega⟩ (bw hp1 (by decide) (by decide)) (i_rng _) hp3 hp4 hp5 hp6 hp7 (i_rng _) hp9 (i_rng _) (i_rng _) (i_rng _) (i_rng _) (i_rng _) (i_rng _) (i_rng _) hv92_11_1 (i_rng _) (i_rng _) hp20 htf0_84 rf0 (rg_wide rf1 (by decide) (by decide)) ((show _ % 128 = 0 from rs_7.1)) sz) wm_7_116 wm_7_119 wm_1_12 hd_X12_goesPairs wm_7_118 wp_7_4 (ci := 12) (q0 := 0) rfl rfl ⟨Nat.le_of_ble_eq_true rfl, Nat.le_of_ble_eq_true rfl⟩ hl.1 rfl (Nat.le_of_ble_eq_true rfl) dX12_goesPairs_209 ⟨Nat.le_of_ble_eq_true rfl, Nat.le_of_ble_eq_true rfl⟩ [0, 1, 2, 3, 4] [] rfl rfl (by decide) rfl rfl (fun u_16 H locs w_16 h_16 => ?_)
      clear h_15
      obtain ⟨w16_0, w16_1, _⟩ := w_16
      replace h_16 : qW D _ _ (wk_f147cc4b8 cy h0 p3 h1 w0 w1 w2 p4 p5 p6 p7 p8 p9 p10 p11 p12 p13 p14 w3 w4 w5 h2 w6 p15 p16 w7 h3 h4 (u_16.2.1 0 0) (u_16.2.1 1 0) w8 w9 w10 w11 w12 p19 w13 w14 w15 h1 f0 h2 f1 h3 (u_16.2.1 2) h4 (u_16.2.1 3)) _ _ := h_16
      exact q_vret X hr hlk hK h_16 (fun _ => 0, (vcons (fun _ => (u_16.2.1 0 0)) (vcons (fun _ => (u_16.2.1 1 0)) (vcons (u_16.2.1 2) (vcons (u_16.2.1 3) (fun _ => (fun _ => 0)))))), fun _ _ => 0) ⟨w16_0, w16_1, trivial⟩ [0, 1, 2, 3, 4] rfl rfl dX12_goesPairs_212 (Nat.le_of_ble_eq_true rfl) (Nat.le_of_ble_eq_true rfl)
    · replace c_13 := i_nle (x := z_12) (y := v92_11_0) rfl rfl c_13
      refine lv_iload hx hb dX12_goesPairs_103 (lv_at hl 5 rfl) ?_
      refine lv_aload_n hx hb dX12_goesPairs_105 rfl (lv_at hl 0 rfl) ?_
      refine q_get X hK h 0 rfl rfl wf_12 19 (by decide) rfl wm_5_189 dX12_goesPairs_106 ?_
      refine lv_iload hx hb dX12_goesPairs_109 (lv_at hl 4 rfl) ?_
      refine q_iald X hK h 2 rfl (i_in rfl (by omega) (by omega)) dX12_goesPairs_111 ?_
      obtain ⟨z_17, ez_17, hz_17⟩ := rg_get rf1 (x := r_2) rfl (by omega) (by omega)
      refine q_c z_17 ez_17 ?_
      clear ez_17
      refine lv_iand hx hb dX12_goesPairs_112 ?_
      obtain ⟨z_18, ez_18, hz_18⟩ := e_and2 (x := z_6) (y := z_17) rfl (by omega)
      refine q_c z_18 ez_18 ?_
      clear ez_18
      refine lv_i2l hx hb dX12_goesPairs_113 rfl ?_
      obtain ⟨z_19, ez_19, hz_19⟩ := e_i2l (x := z_18) rfl
      refine q_cl z_19 ez_19 ?_
      clear ez_19
      refine lv_iload hx hb dX12_goesPairs_114 (lv_at hl 6 rfl) ?_
      refine q_callSi (rest := []) (wr := (wk_f147cc4b8 cy h0 p3 h1 w0 w1 w2 p4 p5 p6 p7 p8 p9 p10 p11 p12 p13 p14 w3 w4 w5 h2 w6 p15 p16 w7 h3 h4 v92_11_1 v92_11_2 w8 w9 w10 w11 w12 p19 w13 w14 w15 h1 f0 h2 f1 h3 v92_11_3 h4 v92_11_4)) X hK hT hA h (fun sz => gX12_isIn_b0455a8 l D cy z_19 v92_11_0 ⟨by omega, by omega⟩ ⟨by omega, by omega⟩ sz) wm_6_167 wm_6_169 wm_1_12 hd_X12_isIn wm_6_168 ⟨Nat.le_of_ble_eq_true rfl, Nat.le_of_ble_eq_true rfl⟩ hl.1 rfl (Nat.le_of_ble_eq_true rfl) dX12_goesPairs_116 ⟨Nat.le_of_ble_eq_true rfl, Nat.le_of_ble_eq_true rfl⟩ [] [0, 1, 2, 3, 4] rfl rfl (by decide) rfl rfl (fun r_20 u_20 H locs w_20 h_20 => ?_)
      clear h
      obtain ⟨wr_20, _⟩ := w_20
      replace h_20 : qW D _ _ (wk_f147cc4b8 cy h0 p3 h1 w0 w1 w2 p4 p5 p6 p7 p8 p9 p10 p11 p12 p13 p14 w3 w4 w5 h2 w6 p15 p16 w7 h3 h4 v92_11_1 v92_11_2 w8 w9 w10 w11 w12 p19 w13 w14 w15 h1 f0 h2 f1 h3 v92_11_3 h4 v92_11_4) _ _ := h_20
      refine q_jn (pc2 := 190) (fun H locs ls st => ∃ v190_21_0 : Int32, ∃ v190_21_1 : Int32, ∃ v190_21_2 : Nat → Int32, ∃ v190_21_3 : Nat → Int32, ((-1) ≤ (v190_21_0).toInt ∧ (v190_21_0).toInt ≤ 10) ∧ ((-2147483648) ≤ (v190_21_1).toInt ∧ (v190_21_1).toInt ≤ 2147483647) ∧ st = [] ∧ qW D (va_A (wk_f147cc4b8 cy h0 p3 h1 w0 w1 w2 p4 p5 p6 p7 p8 p9 p10 p11 p12 p13 p14 w3 w4 w5 h2 w6 p15 p16 w7 h3 h4 p17 p18 w8 w9 w10 w11 w12 p19 w13 w14 w15 h1 f0 h2 f1 h3 f2 h4 f3) sz) s.heap (wk_f147cc4b8 cy h0 p3 h1 w0 w1 w2 p4 p5 p6 p7 p8 p9 p10 p11 p12 p13 p14 w3 w4 w5 h2 w6 p15 p16 w7 h3 h4 v190_21_0 v190_21_1 w8 w9 w10 w11 w12 p19 w13 w14 w15 h1 f0 h2 f1 h3 v190_21_2 h4 v190_21_3) H locs ∧ lv_has ls 7 [(0, .ref h0), (1, .int p0), (2, .int p1), (3, .int p2), (4, .int r_2), (5, .int z_6), (6, .int v92_11_0)]) (fun H locs ls st hP => ?_) (fun J_190 => ?_)
      · obtain ⟨v190_21_0, v190_21_1, v190_21_2, v190_21_3, hv190_21_0, hv190_21_1, rfl, h, hl⟩ := hP
        obtain ⟨z_22, ez_22, hz_22⟩ := e_add (x := v92_11_0) (y := Int32.ofInt 1) rfl (b := 1) (by decide) (by omega) (by omega)
        refine lv_iinc (v := z_22) (lv' := [(6, .int z_22), (0, .ref h0), (1, .int p0), (2, .int p1), (3, .int p2), (4, .int r_2), (5, .int z_6)]) hx hb dX12_goesPairs_190 hl (k := 6) rfl ez_22 (by decide) rfl (fun ls_22 hl_22 => ?_)
        clear hl
        refine lv_goto (tgt := 92) hx hb dX12_goesPairs_193 (by decide) ?_
        exact ih_92 (z_22, v190_21_0, v190_21_1) (by show (11 - (z_22).toInt).toNat < (11 - (v92_11_0).toInt).toNat; omega) _ _ _ ⟨v190_21_2, v190_21_3, ⟨by omega, by omega⟩, hv190_21_0, hv190_21_1, h, (lv_sub hl_22 [1, 2, 3, 4, 5, 6, 0] rfl)⟩
      · skip
        refine lv_if_ne (tgt := 125) hx hb dX12_goesPairs_119 (by decide) (fun c_23 => ?_) (fun c_23 => ?_)
        · replace c_23 := i_ne (x := r_20) (y := 0) rfl (show (0 : Int32).toInt = 0 by decide) c_23
          refine lv_aload_n hx hb dX12_goesPairs_125 rfl (lv_at hl 0 rfl) ?_
          refine q_get X hK h_20 0 rfl rfl wf_12 24 (by decide) rfl wm_5_194 dX12_goesPairs_126 ?_
          refine lv_iload hx hb dX12_goesPairs_129 (lv_at hl 4 rfl) ?_
          refine lv_iload hx hb dX12_goesPairs_131 (lv_at hl 6 rfl) ?_
          refine q_iast X hK h_20 3 rfl (i_in rfl (by omega) (by omega)) dX12_goesPairs_133 (fun H locs h_25 => ?_)
          clear h_20
          replace h_25 : qW D _ _ (wk_f147cc4b8 cy h0 p3 h1 w0 w1 w2 p4 p5 p6 p7 p8 p9 p10 p11 p12 p13 p14 w3 w4 w5 h2 w6 p15 p16 w7 h3 h4 v92_11_1 v92_11_2 w8 w9 w10 w11 w12 p19 w13 w14 w15 h1 f0 h2 f1 h3 (upd v92_11_3 (Int32.toNatClampNeg r_2) v92_11_0) h4 v92_11_4) _ _ := h_25
          obtain ⟨F_24, eF_24⟩ : ∃ z, (upd v92_11_3 (Int32.toNatClampNeg r_2) v92_11_0) = z := ⟨_, rfl⟩
          rw [eF_24] at h_25
          clear eF_24
          refine lv_aload_n hx hb dX12_goesPairs_134 rfl (lv_at hl 0 rfl) ?_
          refine q_get X hK h_25 0 rfl rfl wf_12 24 (by decide) rfl wm_5_194 dX12_goesPairs_135 ?_
          refine lv_iload hx hb dX12_goesPairs_138 (lv_at hl 6 rfl) ?_
          refine lv_iload hx hb dX12_goesPairs_140 (lv_at hl 4 rfl) ?_
          refine q_iast X hK h_25 3 rfl (i_in rfl (by omega) (by omega)) dX12_goesPairs_142 (fun H locs h_27 => ?_)
          clear h_25
          replace h_27 : qW D _ _ (wk_f147cc4b8 cy h0 p3 h1 w0 w1 w2 p4 p5 p6 p7 p8 p9 p10 p11 p12 p13 p14 w3 w4 w5 h2 w6 p15 p16 w7 h3 h4 v92_11_1 v92_11_2 w8 w9 w10 w11 w12 p19 w13 w14 w15 h1 f0 h2 f1 h3 (upd F_24 (Int32.toNatClampNeg v92_11_0) r_2) h4 v92_11_4) _ _ := h_27
          obtain ⟨F_26, eF_26⟩ : ∃ z, (upd F_24 (Int32.toNatClampNeg v92_11_0) r_2) = z := ⟨_, rfl⟩
          rw [eF_26] at h_27
          clear eF_26
          refine lv_aload_n hx hb dX12_goesPairs_143 rfl (lv_at hl 0 rfl) ?_
          refine lv_iload hx hb dX12_goesPairs_144 (lv_at hl 5 rfl) ?_
          refine lv_iconst (v := 1) hx hb dX12_goesPairs_146 (by decide) ?_
          refine lv_iload hx hb dX12_goesPairs_147 (lv_at hl 6 rfl) ?_
          refine lv_ishl hx hb dX12_goesPairs_149 ?_
          obtain ⟨z_28, ez_28, hz_28⟩ := e_shlk (p := v92_11_0) 9 (by decide) rfl (by omega) (by omega)
          refine q_c z_28 ez_28 ?_
          clear ez_28
          refine lv_iconst (v := (-1)) hx hb dX12_goesPairs_150 (by decide) ?_
          refine lv_ixor hx hb dX12_goesPairs_151 ?_
          refine q_any (fun z_29 hz_29 => ?_)
          refine lv_iand hx hb dX12_goesPairs_152 ?_
          obtain ⟨z_30, ez_30, hz_30⟩ := e_and1 (x := z_6) (y := z_29) rfl (by omega)
          refine q_c z_30 ez_30 ?_
          have ad_31 := and_div 7 (by omega) rs_7.1 ez_30
          refine lv_iload_n hx hb dX12_goesPairs_153 rfl (lv_at hl 2 rfl) ?_
          refine lv_iconst (v := 1) hx hb dX12_goesPairs_154 (by decide) ?_
          refine lv_iadd hx hb dX12_goesPairs_155 ?_
          obtain ⟨z_32, ez_32, hz_32⟩ := e_add (x := p1) (y := 1) rfl (show (1 : Int32).toInt = 1 by decide) (by omega) (by omega)
          refine q_c z_32 ez_32 ?_
          clear ez_32
          refine lv_iload_n hx hb dX12_goesPairs_156 rfl (lv_at hl 3 rfl) ?_
          refine lv_aload_n hx hb dX12_goesPairs_157 rfl (lv_at hl 0 rfl) ?_
          refine q_get X hK h_27 0 rfl rfl wf_12 1 (by decide) rfl wm_5_171 dX12_goesPairs_158 ?_
          refine lv_bipush (v := 42) hx hb dX12_goesPairs_161 (by decide) ?_
          refine lv_iload hx hb dX12_goesPairs_163 (lv_at hl 4 rfl) ?_
          refine lv_iadd hx hb dX12_goesPairs_165 ?_
          obtain ⟨z_33, ez_33, hz_33⟩ := e_add (x := 42) (y := r_2) (show (42 : Int32).toInt = 42 by decide) rfl (by omega) (by omega)
          refine q_c z_33 ez_33 ?_
          clear ez_33
          refine q_iald X hK h_27 1 rfl (i_in rfl (by omega) (by omega)) dX12_goesPairs_166 ?_
          refine q_any (fun z_34 hz_34 => ?_)
          refine lv_iadd hx hb dX12_goesPairs_167 ?_
          refine q_any (fun z_35 hz_35 => ?_)
          refine lv_aload_n hx hb dX12_goesPairs_168 rfl (lv_at hl 0 rfl) ?_
          refine q_get X hK h_27 0 rfl rfl wf_12 1 (by decide) rfl wm_5_171 dX12_goesPairs_169 ?_
          refine lv_bipush (v := 42) hx hb dX12_goesPairs_172 (by decide) ?_
          refine lv_iload hx hb dX12_goesPairs_174 (lv_at hl 6 rfl) ?_
          refine lv_iadd hx hb dX12_goesPairs_176 ?_
          obtain ⟨z_36, ez_36, hz_36⟩ := e_add (x := 42) (y := v92_11_0) (show (42 : Int32).toInt = 42 by decide) rfl (by omega) (by omega)
          refine q_c z_36 ez_36 ?_
          clear ez_36
          refine q_iald X hK h_27 1 rfl (i_in rfl (by omega) (by omega)) dX12_goesPairs_177 ?_
          refine q_any (fun z_37 hz_37 => ?_)
          refine lv_iadd hx hb dX12_goesPairs_178 ?_
          refine q_any (fun z_38 hz_38 => ?_)
          refine q_callVv (rest := []) (wr := []) X hK hT hA h_27 (fun sz => gX12_goesPairs_c3c2d4b l D cy h0 h1 h2 h3 h4 z_30 z_32 z_38 p3 w0 w1 w2 p4 p5 p6 p7 p8 p9 p10 p11 p12 p13 p14 w3 w4 w5 w6 p15 p16 w7 v92_11_1 v92_11_2 w8 w9 w10 w11 w12 p19 w13 w14 w15 f0 p20 f1 F_26 v92_11_4 ⟨by omega, by omega⟩ ⟨by omega, by omega⟩ (i_rng _) hp3 hp4 hp5 hp6 hp7 (i_rng _) hp9 (i_rng _) (i_rng _) (i_rng _) (i_rng _) (i_rng _) (i_rng _) (i_rng _) hv92_11_1 (i_rng _) (i_rng _) hp20 htf0_84 rf0 (rg_wide rf1 (by decide) (by decide)) ((show _ % 128 = 0 from ad_31)) sz) wm_7_116 wm_7_119 wm_1_12 hd_X12_goesPairs wm_7_118 wp_7_4 (ci := 12) (q0 := 0) rfl rfl ⟨Nat.le_of_ble_eq_true rfl, Nat.le_of_ble_eq_true rfl⟩ hl.1 rfl (Nat.le_of_ble_eq_true rfl) dX12_goesPairs_179 ⟨Nat.le_of_ble_eq_true rfl, Nat.le_of_ble_eq_true rfl⟩ [0, 1, 2, 3, 4] [] rfl rfl (by decide) rfl rfl (fun u_39 H locs w_39 h_39 => ?_)
          clear h_27
          obtain ⟨w39_0, w39_1, _⟩ := w_39
          replace h_39 : qW D _ _ (wk_f147cc4b8 cy h0 p3 h1 w0 w1 w2 p4 p5 p6 p7 p8 p9 p10 p11 p12 p13 p14 w3 w4 w5 h2 w6 p15 p16 w7 h3 h4 (u_39.2.1 0 0) (u_39.2.1 1 0) w8 w9 w10 w11 w12 p19 w13 w14 w15 h1 f0 h2 f1 h3 (u_39.2.1 2) h4 (u_39.2.1 3)) _ _ := h_39
          refine lv_aload_n hx hb dX12_goesPairs_182 rfl (lv_at hl 0 rfl) ?_
          refine q_get X hK h_39 0 rfl rfl wf_12 24 (by decide) rfl wm_5_194 dX12_goesPairs_183 ?_
          refine lv_iload hx hb dX12_goesPairs_186 (lv_at hl 6 rfl) ?_
          refine lv_iconst (v := (-1)) hx hb dX12_goesPairs_188 (by decide) ?_
          refine q_iast X hK h_39 3 rfl (i_in rfl (by omega) (by omega)) dX12_goesPairs_189 (fun H locs h_41 => ?_)
          clear h_39
          replace h_41 : qW D _ _ (wk_f147cc4b8 cy h0 p3 h1 w0 w1 w2 p4 p5 p6 p7 p8 p9 p10 p11 p12 p13 p14 w3 w4 w5 h2 w6 p15 p16 w7 h3 h4 (u_39.2.1 0 0) (u_39.2.1 1 0) w8 w9 w10 w11 w12 p19 w13 w14 w15 h1 f0 h2 f1 h3 (upd (u_39.2.1 2) (Int32.toNatClampNeg v92_11_0) (-1)) h4 (u_39.2.1 3)) _ _ := h_41
          obtain ⟨F_40, eF_40⟩ : ∃ z, (upd (u_39.2.1 2) (Int32.toNatClampNeg v92_11_0) (-1)) = z := ⟨_, rfl⟩
          rw [eF_40] at h_41
          clear eF_40
          exact J_190 _ _ _ _ ⟨(u_39.2.1 0 0), (u_39.2.1 1 0), F_40, (u_39.2.1 3), w39_0, w39_1, rfl, h_41, (lv_sub hl [0, 1, 2, 3, 4, 5, 6] rfl)⟩
        · replace c_23 := i_eq (x := r_20) (y := 0) rfl (show (0 : Int32).toInt = 0 by decide) c_23
          refine lv_goto (tgt := 190) hx hb dX12_goesPairs_122 (by decide) ?_
          exact J_190 _ _ _ _ ⟨v92_11_1, v92_11_2, v92_11_3, v92_11_4, hv92_11_1, hv92_11_2, rfl, h_20, (lv_sub hl [0, 1, 2, 3, 4, 5, 6] rfl)⟩
  · replace c_1 := i_eq (x := p0) (y := 0) rfl (show (0 : Int32).toInt = 0 by decide) c_1
    refine lv_iload_n hx hb dX12_goesPairs_4 rfl (lv_at hl 2 rfl) ?_
    refine lv_aload_n hx hb dX12_goesPairs_5 rfl (lv_at hl 0 rfl) ?_
    refine q_get X hK h 0 rfl rfl wf_12 26 (by decide) rfl wm_5_196 dX12_goesPairs_6 ?_
    refine q_jn (pc2 := 28) (fun H locs ls st => st = [] ∧ qW D (va_A (wk_f147cc4b8 cy h0 p3 h1 w0 w1 w2 p4 p5 p6 p7 p8 p9 p10 p11 p12 p13 p14 w3 w4 w5 h2 w6 p15 p16 w7 h3 h4 p17 p18 w8 w9 w10 w11 w12 p19 w13 w14 w15 h1 f0 h2 f1 h3 f2 h4 f3) sz) s.heap (wk_f147cc4b8 cy h0 p3 h1 w0 w1 w2 p4 p5 p6 p7 p8 p9 p10 p11 p12 p13 p14 w3 w4 w5 h2 w6 p15 p16 w7 h3 h4 p17 p18 w8 w9 w10 w11 w12 p19 w13 w14 w15 h1 f0 h2 f1 h3 f2 h4 f3) H locs ∧ lv_has ls 7 [(0, .ref h0), (1, .int p0), (2, .int p1), (3, .int p2)]) (fun H locs ls st hP => ?_) (fun J_28 => ?_)
    · obtain ⟨rfl, h, hl⟩ := hP
      exact q_vret X hr hlk hK h (fun _ => 0, (vcons (fun _ => p17) (vcons (fun _ => p18) (vcons f2 (vcons f3 (fun _ => (fun _ => 0)))))), fun _ _ => 0) ⟨hp17, hp18, trivial⟩ [0, 1, 2, 3, 4] rfl rfl dX12_goesPairs_28 (Nat.le_of_ble_eq_true rfl) (Nat.le_of_ble_eq_true rfl)
    · skip
      refine lv_icmp_lt (tgt := 28) hx hb dX12_goesPairs_9 (by decide) (fun c_43 => ?_) (fun c_43 => ?_)
      · replace c_43 := i_lt (x := p1) (y := p17) rfl rfl c_43
        exact J_28 _ _ _ _ ⟨rfl, h, (lv_sub hl [0, 1, 2, 3] rfl)⟩
      · replace c_43 := i_nlt (x := p1) (y := p17) rfl rfl c_43
        refine lv_iload_n hx hb dX12_goesPairs_12 rfl (lv_at hl 2 rfl) ?_
        refine lv_aload_n hx hb dX12_goesPairs_13 rfl (lv_at hl 0 rfl) ?_
        refine q_get X hK h 0 rfl rfl wf_12 26 (by decide) rfl wm_5_196 dX12_goesPairs_14 ?_
        refine q_jn (pc2 := 29) (fun H locs ls st => st = [] ∧ qW D (va_A (wk_f147cc4b8 cy h0 p3 h1 w0 w1 w2 p4 p5 p6 p7 p8 p9 p10 p11 p12 p13 p14 w3 w4 w5 h2 w6 p15 p16 w7 h3 h4 p17 p18 w8 w9 w10 w11 w12 p19 w13 w14 w15 h1 f0 h2 f1 h3 f2 h4 f3) sz) s.heap (wk_f147cc4b8 cy h0 p3 h1 w0 w1 w2 p4 p5 p6 p7 p8 p9 p10 p11 p12 p13 p14 w3 w4 w5 h2 w6 p15 p16 w7 h3 h4 p17 p18 w8 w9 w10 w11 w12 p19 w13 w14 w15 h1 f0 h2 f1 h3 f2 h4 f3) H locs ∧ lv_has ls 7 [(0, .ref h0), (1, .int p0), (2, .int p1), (3, .int p2)]) (fun H locs ls st hP => ?_) (fun J_29 => ?_)
        · obtain ⟨rfl, h, hl⟩ := hP
          refine lv_aload_n hx hb dX12_goesPairs_29 rfl (lv_at hl 0 rfl) ?_
          refine lv_iload_n hx hb dX12_goesPairs_30 rfl (lv_at hl 2 rfl) ?_
          refine q_put (v := .int p1) X hK h 0 rfl rfl wf_12 tyX12 tyX12_ok nmX12 26 (by decide) wm_5_196 rfl rfl rfl (Nat.le_of_ble_eq_true rfl) dX12_goesPairs_31 (fun H locs h_45 => ?_)
          clear h
          replace h_45 : qW D _ _ (wk_f147cc4b8 cy h0 p3 h1 w0 w1 w2 p4 p5 p6 p7 p8 p9 p10 p11 p12 p13 p14 w3 w4 w5 h2 w6 p15 p16 w7 h3 h4 p1 p18 w8 w9 w10 w11 w12 p19 w13 w14 w15 h1 f0 h2 f1 h3 f2 h4 f3) _ _ := h_45
          refine lv_aload_n hx hb dX12_goesPairs_34 rfl (lv_at hl 0 rfl) ?_
          refine lv_iload_n hx hb dX12_goesPairs_35 rfl (lv_at hl 3 rfl) ?_
          refine q_put (v := .int p2) X hK h_45 0 rfl rfl wf_12 tyX12 tyX12_ok nmX12 27 (by decide) wm_5_197 rfl rfl rfl (Nat.le_of_ble_eq_true rfl) dX12_goesPairs_36 (fun H locs h_46 => ?_)
          clear h_45
          replace h_46 : qW D _ _ (wk_f147cc4b8 cy h0 p3 h1 w0 w1 w2 p4 p5 p6 p7 p8 p9 p10 p11 p12 p13 p14 w3 w4 w5 h2 w6 p15 p16 w7 h3 h4 p1 p2 w8 w9 w10 w11 w12 p19 w13 w14 w15 h1 f0 h2 f1 h3 f2 h4 f3) _ _ := h_46
          refine lv_iconst (v := 0) hx hb dX12_goesPairs_39 (by decide) ?_
          refine lv_istore (lv' := [(4, .int 0), (0, .ref h0), (1, .int p0), (2, .int p1), (3, .int p2)]) hx hb dX12_goesPairs_40 hl (by decide) rfl (fun ls_47 hl_47 => ?_)
          clear hl
          refine q_wl (fun (v42_48_0 : Int32) H locs ls => ∃ v42_48_1 : Nat → Int32, (0 ≤ (v42_48_0).toInt ∧ (v42_48_0).toInt ≤ 10) ∧ qW D (va_A (wk_f147cc4b8 cy h0 p3 h1 w0 w1 w2 p4 p5 p6 p7 p8 p9 p10 p11 p12 p13 p14 w3 w4 w5 h2 w6 p15 p16 w7 h3 h4 p17 p18 w8 w9 w10 w11 w12 p19 w13 w14 w15 h1 f0 h2 f1 h3 f2 h4 f3) sz) s.heap (wk_f147cc4b8 cy h0 p3 h1 w0 w1 w2 p4 p5 p6 p7 p8 p9 p10 p11 p12 p13 p14 w3 w4 w5 h2 w6 p15 p16 w7 h3 h4 p1 p2 w8 w9 w10 w11 w12 p19 w13 w14 w15 h1 f0 h2 f1 h3 f2 h4 v42_48_1) H locs ∧ lv_has ls 7 [(0, .ref h0), (1, .int p0), (2, .int p1), (3, .int p2), (4, .int v42_48_0)]) (fun (v42_48_0 : Int32) => (11 - (v42_48_0).toInt).toNat) (fun q_42 ih_42 H locs ls hP => ?_) 0 ⟨f3, ⟨by decide +kernel, by decide +kernel⟩, h_46, (lv_sub hl_47 [1, 2, 3, 4, 0] rfl)⟩
          obtain ⟨v42_48_0, rfl⟩ : ∃ z, z = q_42 := ⟨_, rfl⟩
          obtain ⟨v42_48_1, hv42_48_0, h, hl⟩ := hP
          refine lv_iload hx hb dX12_goesPairs_42 (lv_at hl 4 rfl) ?_
          refine lv_bipush (v := 10) hx hb dX12_goesPairs_44 (by decide) ?_
          refine lv_icmp_ge (tgt := 69) hx hb dX12_goesPairs_46 (by decide) (fun c_49 => ?_) (fun c_49 => ?_)
          · replace c_49 := i_le (x := 10) (y := v42_48_0) (show (10 : Int32).toInt = 10 by decide) rfl c_49
            exact q_vret X hr hlk hK h (fun _ => 0, (vcons (fun _ => p1) (vcons (fun _ => p2) (vcons f2 (vcons v42_48_1 (fun _ => (fun _ => 0)))))), fun _ _ => 0) ⟨(bw hp1 (by decide) (by decide)), hp2, trivial⟩ [0, 1, 2, 3, 4] rfl rfl dX12_goesPairs_69 (Nat.le_of_ble_eq_true rfl) (Nat.le_of_ble_eq_true rfl)
          · replace c_49 := i_nle (x := 10) (y := v42_48_0) (show (10 : Int32).toInt = 10 by decide) rfl c_49
            refine lv_aload_n hx hb dX12_goesPairs_49 rfl (lv_at hl 0 rfl) ?_
            refine q_get X hK h 0 rfl rfl wf_12 25 (by decide) rfl wm_5_195 dX12_goesPairs_50 ?_
            refine lv_iload hx hb dX12_goesPairs_53 (lv_at hl 4 rfl) ?_
            refine lv_aload_n hx hb dX12_goesPairs_55 rfl (lv_at hl 0 rfl) ?_
            refine q_get X hK h 0 rfl rfl wf_12 24 (by decide) rfl wm_5_194 dX12_goesPairs_56 ?_
            refine lv_iload hx hb dX12_goesPairs_59 (lv_at hl 4 rfl) ?_
            refine q_iald X hK h 3 rfl (i_in rfl (by omega) (by omega)) dX12_goesPairs_61 ?_
            refine q_any (fun z_50 hz_50 => ?_)
            refine q_iast X hK h 4 rfl (i_in rfl (by omega) (by omega)) dX12_goesPairs_62 (fun H locs h_52 => ?_)
            clear h
            replace h_52 : qW D _ _ (wk_f147cc4b8 cy h0 p3 h1 w0 w1 w2 p4 p5 p6 p7 p8 p9 p10 p11 p12 p13 p14 w3 w4 w5 h2 w6 p15 p16 w7 h3 h4 p1 p2 w8 w9 w10 w11 w12 p19 w13 w14 w15 h1 f0 h2 f1 h3 f2 h4 (upd v42_48_1 (Int32.toNatClampNeg v42_48_0) z_50)) _ _ := h_52
            obtain ⟨F_51, eF_51⟩ : ∃ z, (upd v42_48_1 (Int32.toNatClampNeg v42_48_0) z_50) = z := ⟨_, rfl⟩
            rw [eF_51] at h_52
            clear eF_51
            obtain ⟨z_53, ez_53, hz_53⟩ := e_add (x := v42_48_0) (y := Int32.ofInt 1) rfl (b := 1) (by decide) (by omega) (by omega)
            refine lv_iinc (v := z_53) (lv' := [(4, .int z_53), (0, .ref h0), (1, .int p0), (2, .int p1), (3, .int p2)]) hx hb dX12_goesPairs_63 hl (k := 4) rfl ez_53 (by decide) rfl (fun ls_53 hl_53 => ?_)
            clear hl
            refine lv_goto (tgt := 42) hx hb dX12_goesPairs_66 (by decide) ?_
            exact ih_42 z_53 (by show (11 - (z_53).toInt).toNat < (11 - (v42_48_0).toInt).toNat; omega) _ _ _ ⟨F_51, ⟨by omega, by omega⟩, h_52, (lv_sub hl_53 [1, 2, 3, 4, 0] rfl)⟩
        · skip
          refine lv_icmp_ne (tgt := 29) hx hb dX12_goesPairs_17 (by decide) (fun c_54 => ?_) (fun c_54 => ?_)
          · replace c_54 := i_ne (x := p1) (y := p17) rfl rfl c_54
            exact J_29 _ _ _ _ ⟨rfl, h, (lv_sub hl [0, 1, 2, 3] rfl)⟩
          · replace c_54 := i_eq (x := p1) (y := p17) rfl rfl c_54
            refine lv_iload_n hx hb dX12_goesPairs_20 rfl (lv_at hl 3 rfl) ?_
            refine lv_aload_n hx hb dX12_goesPairs_21 rfl (lv_at hl 0 rfl) ?_
            refine q_get X hK h 0 rfl rfl wf_12 27 (by decide) rfl wm_5_197 dX12_goesPairs_22 ?_
            refine lv_icmp_gt (tgt := 29) hx hb dX12_goesPairs_25 (by decide) (fun c_55 => ?_) (fun c_55 => ?_)
            · replace c_55 := i_lt (x := p18) (y := p2) rfl rfl c_55
              exact J_29 _ _ _ _ ⟨rfl, h, (lv_sub hl [0, 1, 2, 3] rfl)⟩
            · replace c_55 := i_nlt (x := p18) (y := p2) rfl rfl c_55
              exact J_28 _ _ _ _ ⟨rfl, h, (lv_sub hl [0, 1, 2, 3] rfl)⟩
set_option maxHeartbeats 4000000 in
set_option maxRecDepth 100000 in
theorem gX12_goesPairs_0def14e (l : Launch) (D : va_G) (cy : Nat → ClassId) (h0 : Nat) (h1 : Nat) (h2 : Nat) (h3 : Nat) (h4 : Nat) (p0 : Int32) (p1 : Int32) (p2 : Int32) (p3 : Int32) (w0 : Value) (w1 : Value) (w2 : Value) (p4 : Int32) (p5 : Int32) (p6 : Int32) (p7 : Int32) (p8 : Int32) (p9 : Int32) (p10 : Int32) (p11 : Int32) (p12 : Int32) (p13 : Int32) (p14 : Int32) (w3 : Value) (w4 : Value) (w5 : Value) (w6 : Value) (p15 : Int32) (p16 : Int32) (w7 : Value) (p17 : Int32) (p18 : Int32) (w8 : Value) (w9 : Value) (w10 : Value) (w11 : Value) (w12 : Value) (p19 : Int32) (w13 : Value) (w14 : Value) (w15 : Value) (f0 : Nat → Int32) (p20 : Int32) (f1 : Nat → Int32) (f2 : Nat → Int32) (f3 : Nat → Int32) (hp0 : 0 ≤ (p0).toInt ∧ (p0).toInt ≤ 1023) (hp1 : 0 ≤ (p1).toInt ∧ (p1).toInt ≤ 5) (hp2 : (-2147483648) ≤ (p2).toInt ∧ (p2).toInt ≤ 2147483647) (hp3 : 0 ≤ (p3).toInt ∧ (p3).toInt ≤ 0) (hp4 : 0 ≤ (p4).toInt ∧ (p4).toInt ≤ 900) (hp5 : 0 ≤ (p5).toInt ∧ (p5).toInt ≤ 900) (hp6 : 0 ≤ (p6).toInt ∧ (p6).toInt ≤ 900) (hp7 : 0 ≤ (p7).toInt ∧ (p7).toInt ≤ 900) (hp8 : (-2147483648) ≤ (p8).toInt ∧ (p8).toInt ≤ 2147483647) (hp9 : 0 ≤ (p9).toInt ∧ (p9).toInt ≤ 999) (hp10 : (-2147483648) ≤ (p10).toInt ∧ (p10).toInt ≤ 2147483647) (hp11 : (-2147483648) ≤ (p11).toInt ∧ (p11).toInt ≤ 2147483647) (hp12 : (-2147483648) ≤ (p12).toInt ∧ (p12).toInt ≤ 2147483647) (hp13 : (-2147483648) ≤ (p13).toInt ∧ (p13).toInt ≤ 2147483647) (hp14 : (-2147483648) ≤ (p14).toInt ∧ (p14).toInt ≤ 2147483647) (hp15 : (-2147483648) ≤ (p15).toInt ∧ (p15).toInt ≤ 2147483647) (hp16 : (-2147483648) ≤ (p16).toInt ∧ (p16).toInt ≤ 2147483647) (hp17 : (-1) ≤ (p17).toInt ∧ (p17).toInt ≤ 10) (hp18 : (-2147483648) ≤ (p18).toInt ∧ (p18).toInt ≤ 2147483647) (hp19 : (-2147483648) ≤ (p19).toInt ∧ (p19).toInt ≤ 2147483647) (hp20 : 0 ≤ (p20).toInt ∧ (p20).toInt ≤ 10) (htf0_84 : f0 84 = p20) (rf0 : AL f0) (rf1 : RG f1 10 0 1023) (hpre0 : (p0 : Int32).toInt % 32 = 0) (sz : Nat) : MV l yX12_goesPairs cX12_goesPairs 7 { frames := 6, cells := 0, slots := 0, locals := 147 } [.ref h0, .int p0, .int p1, .int p2] D cy (wk_f147cc4b8 cy h0 p3 h1 w0 w1 w2 p4 p5 p6 p7 p8 p9 p10 p11 p12 p13 p14 w3 w4 w5 h2 w6 p15 p16 w7 h3 h4 p17 p18 w8 w9 w10 w11 w12 p19 w13 w14 w15 h1 f0 h2 f1 h3 f2 h4 f3) sz (fun u => ((-1) ≤ (u.2.1 0 0).toInt ∧ (u.2.1 0 0).toInt ≤ 10) ∧ ((-2147483648) ≤ (u.2.1 1 0).toInt ∧ (u.2.1 1 0).toInt ≤ 2147483647) ∧ True) (fun u => (wk_f147cc4b8 cy h0 p3 h1 w0 w1 w2 p4 p5 p6 p7 p8 p9 p10 p11 p12 p13 p14 w3 w4 w5 h2 w6 p15 p16 w7 h3 h4 (u.2.1 0 0) (u.2.1 1 0) w8 w9 w10 w11 w12 p19 w13 w14 w15 h1 f0 h2 f1 h3 (u.2.1 2) h4 (u.2.1 3))) 0 0 := by
  refine q_ent (own := RX12) (by decide) rfl (Nat.le_of_ble_eq_true rfl) (fun p e s m below meth c ls X hr hlk hnm hK hT h hA hl => ?_)
  obtain ⟨hx, hb, hml, hown, ht⟩ := id X
  replace hl : lv_has ls 7 [(0, .ref h0), (1, .int p0), (2, .int p1), (3, .int p2)] := hl
  refine lv_iload_n hx hb dX12_goesPairs_0 rfl (lv_at hl 1 rfl) ?_
  refine lv_if_ne (tgt := 70) hx hb dX12_goesPairs_1 (by decide) (fun c_1 => ?_) (fun c_1 => ?_)
  · replace c_1 := i_ne (x := p0) (y := 0) rfl (show (0 : Int32).toInt = 0 by decide) c_1
    refine lv_iload_n hx hb dX12_goesPairs_70 rfl (lv_at hl 1 rfl) ?_
    refine q_callSi (rest := []) (wr := (wk_f147cc4b8 cy h0 p3 h1 w0 w1 w2 p4 p5 p6 p7 p8 p9 p10 p11 p12 p13 p14 w3 w4 w5 h2 w6 p15 p16 w7 h3 h4 p17 p18 w8 w9 w10 w11 w12 p19 w13 w14 w15 h1 f0 h2 f1 h3 f2 h4 f3)) X hK hT hA h (fun sz => gX12_lowest_51df8cb l D cy p0 ⟨by omega, by omega⟩ sz) wm_7_67 wm_7_69 wm_1_12 hd_X12_lowest wm_7_68 ⟨Nat.le_of_ble_eq_true rfl, Nat.le_of_ble_eq_true rfl⟩ hl.1 rfl (Nat.le_of_ble_eq_true rfl) dX12_goesPairs_71 ⟨Nat.le_of_ble_eq_true rfl, Nat.le_of_ble_eq_true rfl⟩ [] [0, 1, 2, 3, 4] rfl rfl (by decide) rfl rfl (fun r_2 u_2 H locs w_2 h_2 => ?_)
    clear h
    obtain ⟨wr_2, y2_0, _⟩ := w_2
    replace h_2 : qW D _ _ (wk_f147cc4b8 cy h0 p3 h1 w0 w1 w2 p4 p5 p6 p7 p8 p9 p10 p11 p12 p13 p14 w3 w4 w5 h2 w6 p15 p16 w7 h3 h4 p17 p18 w8 w9 w10 w11 w12 p19 w13 w14 w15 h1 f0 h2 f1 h3 f2 h4 f3) _ _ := h_2
    refine lv_istore (lv' := [(4, .int r_2), (0, .ref h0), (1, .int p0), (2, .int p1), (3, .int p2)]) hx hb dX12_goesPairs_74 hl (by decide) rfl (fun ls_3 hl_3 => ?_)
    clear hl
    refine lv_iload_n hx hb dX12_goesPairs_76 rfl (lv_at hl_3 2 rfl) ?_
    refine lv_iconst (v := 1) hx hb dX12_goesPairs_77 (by decide) ?_
    refine lv_iload hx hb dX12_goesPairs_78 (lv_at hl_3 0 rfl) ?_
    refine lv_ishl hx hb dX12_goesPairs_80 ?_
    obtain ⟨z_4, ez_4, hz_4⟩ := e_shlk (p := r_2) 9 (by decide) rfl (by omega) (by omega)
    refine q_c z_4 ez_4 ?_
    refine lv_iconst (v := (-1)) hx hb dX12_goesPairs_81 (by decide) ?_
    refine lv_ixor hx hb dX12_goesPairs_82 ?_
    obtain ⟨z_5, ez_5, hz_5⟩ := e_any (z_4 ^^^ (-1))
    refine q_c z_5 ez_5 ?_
    refine lv_iand hx hb dX12_goesPairs_83 ?_
    obtain ⟨z_6, ez_6, hz_6⟩ := e_and1 (x := p0) (y := z_5) rfl (by omega)
    refine q_c z_6 ez_6 ?_
    have rs_7 := rest_low 5 (by omega) y2_0 (by omega) ez_4 ez_5 ez_6
    refine lv_istore (lv' := [(5, .int z_6), (4, .int r_2), (0, .ref h0), (1, .int p0), (2, .int p1), (3, .int p2)]) hx hb dX12_goesPairs_84 hl_3 (by decide) rfl (fun ls_8 hl_8 => ?_)
    clear hl_3
    refine lv_iload hx hb dX12_goesPairs_86 (lv_at hl_8 1 rfl) ?_
    refine lv_iconst (v := 1) hx hb dX12_goesPairs_88 (by decide) ?_
    refine lv_iadd hx hb dX12_goesPairs_89 ?_
    obtain ⟨z_9, ez_9, hz_9⟩ := e_add (x := r_2) (y := 1) rfl (show (1 : Int32).toInt = 1 by decide) (by omega) (by omega)
    refine q_c z_9 ez_9 ?_
    clear ez_9
    refine lv_istore (lv' := [(6, .int z_9), (5, .int z_6), (4, .int r_2), (0, .ref h0), (1, .int p0), (2, .int p1), (3, .int p2)]) hx hb dX12_goesPairs_90 hl_8 (by decide) rfl (fun ls_10 hl_10 => ?_)
    clear hl_8
    refine q_wl (fun (q : Int32 × Int32 × Int32) H locs ls => match q with | (v92_11_0, v92_11_1, v92_11_2) => ∃ v92_11_3 : Nat → Int32, ∃ v92_11_4 : Nat → Int32, (1 ≤ (v92_11_0).toInt ∧ (v92_11_0).toInt ≤ 10) ∧ ((-1) ≤ (v92_11_1).toInt ∧ (v92_11_1).toInt ≤ 10) ∧ ((-2147483648) ≤ (v92_11_2).toInt ∧ (v92_11_2).toInt ≤ 2147483647) ∧ qW D (va_A (wk_f147cc4b8 cy h0 p3 h1 w0 w1 w2 p4 p5 p6 p7 p8 p9 p10 p11 p12 p13 p14 w3 w4 w5 h2 w6 p15 p16 w7 h3 h4 p17 p18 w8 w9 w10 w11 w12 p19 w13 w14 w15 h1 f0 h2 f1 h3 f2 h4 f3) sz) s.heap (wk_f147cc4b8 cy h0 p3 h1 w0 w1 w2 p4 p5 p6 p7 p8 p9 p10 p11 p12 p13 p14 w3 w4 w5 h2 w6 p15 p16 w7 h3 h4 v92_11_1 v92_11_2 w8 w9 w10 w11 w12 p19 w13 w14 w15 h1 f0 h2 f1 h3 v92_11_3 h4 v92_11_4) H locs ∧ lv_has ls 7 [(0, .ref h0), (1, .int p0), (2, .int p1), (3, .int p2), (4, .int r_2), (5, .int z_6), (6, .int v92_11_0)]) (fun (q : Int32 × Int32 × Int32) => match q with | (v92_11_0, v92_11_1, v92_11_2) => (11 - (v92_11_0).toInt).toNat) (fun q_92 ih_92 H locs ls hP => ?_) (z_9, p17, p18) ⟨f2, f3, ⟨by omega, by omega⟩, hp17, hp18, h_2, (lv_sub hl_10 [3, 4, 5, 6, 2, 1, 0] rfl)⟩
    obtain ⟨v92_11_0, v92_11_1, v92_11_2⟩ := q_92
    obtain ⟨v92_11_3, v92_11_4, hv92_11_0, hv92_11_1, hv92_11_2, h, hl⟩ := hP
    refine lv_iload hx hb dX12_goesPairs_92 (lv_at hl 6 rfl) ?_
    refine lv_aload_n hx hb dX12_goesPairs_94 rfl (lv_at hl 0 rfl) ?_
    refine q_get X hK h 0 rfl rfl wf_12 1 (by decide) rfl wm_5_171 dX12_goesPairs_95 ?_
    refine lv_iconst (v := 2) hx hb dX12_goesPairs_98 (by decide) ?_
    refine q_iald X hK h 1 rfl (q_in (by decide +kernel)) dX12_goesPairs_99 ?_
    obtain ⟨z_12, ez_12, hz_12⟩ := al_P rf0 (x := 2) (show (2 : Int32).toInt = 2 by decide) (by omega) (by omega)
    refine q_c z_12 ez_12 ?_
    clear ez_12
    refine lv_icmp_ge (tgt := 196) hx hb dX12_goesPairs_100 (by decide) (fun c_13 => ?_) (fun c_13 => ?_)
    · replace c_13 := i_le (x := z_12) (y := v92_11_0) rfl rfl c_13
      refine lv_aload_n hx hb dX12_goesPairs_196 rfl (lv_at hl 0 rfl) ?_
      refine q_get X hK h 0 rfl rfl wf_12 24 (by decide) rfl wm_5_194 dX12_goesPairs_197 ?_
      refine lv_iload hx hb dX12_goesPairs_200 (lv_at hl 4 rfl) ?_
      refine lv_iconst (v := (-1)) hx hb dX12_goesPairs_202 (by decide) ?_
      refine q_iast X hK h 3 rfl (i_in rfl (by omega) (by omega)) dX12_goesPairs_203 (fun H locs h_15 => ?_)
      clear h
      replace h_15 : qW D _ _ (wk_f147cc4b8 cy h0 p3 h1 w0 w1 w2 p4 p5 p6 p7 p8 p9 p10 p11 p12 p13 p14 w3 w4 w5 h2 w6 p15 p16 w7 h3 h4 v92_11_1 v92_11_2 w8 w9 w10 w11 w12 p19 w13 w14 w15 h1 f0 h2 f1 h3 (upd v92_11_3 (Int32.toNatClampNeg r_2) (-1)) h4 v92_11_4) _ _ := h_15
      obtain ⟨F_14, eF_14⟩ : ∃ z, (upd v92_11_3 (Int32.toNatClampNeg r_2) (-1)) = z := ⟨_, rfl⟩
      rw [eF_14] at h_15
      clear eF_14
      refine lv_aload_n hx hb dX12_goesPairs_204 rfl (lv_at hl 0 rfl) ?_
      refine lv_iload hx hb dX12_goesPairs_205 (lv_at hl 5 rfl) ?_
      refine lv_iload_n hx hb dX12_goesPairs_207 rfl (lv_at hl 2 rfl) ?_
      refine lv_iload_n hx hb dX12_goesPairs_208 rfl (lv_at hl 3 rfl) ?_
      refine q_callVv (rest := []) (wr := []) X hK hT hA h_15 (fun sz => gX12_goesPairs_71e4c98 l D cy h0 h1 h2 h3 h4 z_6 p1 p2 p3 w0 w1 w2 p4 p5 p6 p7 p8 p9 p10 p11 p12 p13 p14 w3 w4 w5 w6 p15 p16 w7 v92_11_1 v92_11_2 w8 w9 w10 w11 w12 p19 w13 w14 w15 f0 p20 f1 F_14 v92_11_4 ⟨by omega, by omega⟩ (bw hp1 (by decide) (by decide)) (i_rng _) hp3 hp4 hp5 hp6 hp7 (i_rng _) hp9 (i_rng _) (i_rng _) (i_rng _) (i_rng _) (i_rng _) (i_rng _) (i_rng _) hv92_11_1 (i_rng _) (i_rng _) hp20 htf0_84 rf0 (rg_wide rf1 (by decide) (by decide)) ((show _ % 64 = 0 from rs_7.1)) sz) wm_7_116 wm_7_119 wm_1_12 hd_X12_goesPairs wm_7_118 wp_7_4 (ci := 12) (q0 := 0) rfl rfl ⟨Nat.le_of_ble_eq_true rfl, Nat.le_of_ble_eq_true rfl⟩ hl.1 rfl (Nat.le_of_ble_eq_true rfl) dX12_goesPairs_209 ⟨Nat.le_of_ble_eq_true rfl, Nat.le_of_ble_eq_true rfl⟩ [0, 1, 2, 3, 4] [] rfl rfl (by decide) rfl rfl (fun u_16 H locs w_16 h_16 => ?_)
      clear h_15
      obtain ⟨w16_0, w16_1, _⟩ := w_16
      replace h_16 : qW D _ _ (wk_f147cc4b8 cy h0 p3 h1 w0 w1 w2 p4 p5 p6 p7 p8 p9 p10 p11 p12 p13 p14 w3 w4 w5 h2 w6 p15 p16 w7 h3 h4 (u_16.2.1 0 0) (u_16.2.1 1 0) w8 w9 w10 w11 w12 p19 w13 w14 w15 h1 f0 h2 f1 h3 (u_16.2.1 2) h4 (u_16.2.1 3)) _ _ := h_16
      exact q_vret X hr hlk hK h_16 (fun _ => 0, (vcons (fun _ => (u_16.2.1 0 0)) (vcons (fun _ => (u_16.2.1 1 0)) (vcons (u_16.2.1 2) (vcons (u_16.2.1 3) (fun _ => (fun _ => 0)))))), fun _ _ => 0) ⟨w16_0, w16_1, trivial⟩ [0, 1, 2, 3, 4] rfl rfl dX12_goesPairs_212 (Nat.le_of_ble_eq_true rfl) (Nat.le_of_ble_eq_true rfl)
    · replace c_13 := i_nle (x := z_12) (y := v92_11_0) rfl rfl c_13
      refine lv_iload hx hb dX12_goesPairs_103 (lv_at hl 5 rfl) ?_
      refine lv_aload_n hx hb dX12_goesPairs_105 rfl (lv_at hl 0 rfl) ?_
      refine q_get X hK h 0 rfl rfl wf_12 19 (by decide) rfl wm_5_189 dX12_goesPairs_106 ?_
      refine lv_iload hx hb dX12_goesPairs_109 (lv_at hl 4 rfl) ?_
      refine q_iald X hK h 2 rfl (i_in rfl (by omega) (by omega)) dX12_goesPairs_111 ?_
      obtain ⟨z_17, ez_17, hz_17⟩ := rg_get rf1 (x := r_2) rfl (by omega) (by omega)
      refine q_c z_17 ez_17 ?_
      clear ez_17
      refine lv_iand hx hb dX12_goesPairs_112 ?_
      obtain ⟨z_18, ez_18, hz_18⟩ := e_and2 (x := z_6) (y := z_17) rfl (by omega)
      refine q_c z_18 ez_18 ?_
      clear ez_18
      refine lv_i2l hx hb dX12_goesPairs_113 rfl ?_
      obtain ⟨z_19, ez_19, hz_19⟩ := e_i2l (x := z_18) rfl
      refine q_cl z_19 ez_19 ?_
      clear ez_19
      refine lv_iload hx hb dX12_goesPairs_114 (lv_at hl 6 rfl) ?_
      refine q_callSi (rest := []) (wr := (wk_f147cc4b8 cy h0 p3 h1 w0 w1 w2 p4 p5 p6 p7 p8 p9 p10 p11 p12 p13 p14 w3 w4 w5 h2 w6 p15 p16 w7 h3 h4 v92_11_1 v92_11_2 w8 w9 w10 w11 w12 p19 w13 w14 w15 h1 f0 h2 f1 h3 v92_11_3 h4 v92_11_4)) X hK hT hA h (fun sz => gX12_isIn_b0455a8 l D cy z_19 v92_11_0 ⟨by omega, by omega⟩ ⟨by omega, by omega⟩ sz) wm_6_167 wm_6_169 wm_1_12 hd_X12_isIn wm_6_168 ⟨Nat.le_of_ble_eq_true rfl, Nat.le_of_ble_eq_true rfl⟩ hl.1 rfl (Nat.le_of_ble_eq_true rfl) dX12_goesPairs_116 ⟨Nat.le_of_ble_eq_true rfl, Nat.le_of_ble_eq_true rfl⟩ [] [0, 1, 2, 3, 4] rfl rfl (by decide) rfl rfl (fun r_20 u_20 H locs w_20 h_20 => ?_)
      clear h
      obtain ⟨wr_20, _⟩ := w_20
      replace h_20 : qW D _ _ (wk_f147cc4b8 cy h0 p3 h1 w0 w1 w2 p4 p5 p6 p7 p8 p9 p10 p11 p12 p13 p14 w3 w4 w5 h2 w6 p15 p16 w7 h3 h4 v92_11_1 v92_11_2 w8 w9 w10 w11 w12 p19 w13 w14 w15 h1 f0 h2 f1 h3 v92_11_3 h4 v92_11_4) _ _ := h_20
      refine q_jn (pc2 := 190) (fun H locs ls st => ∃ v190_21_0 : Int32, ∃ v190_21_1 : Int32, ∃ v190_21_2 : Nat → Int32, ∃ v190_21_3 : Nat → Int32, ((-1) ≤ (v190_21_0).toInt ∧ (v190_21_0).toInt ≤ 10) ∧ ((-2147483648) ≤ (v190_21_1).toInt ∧ (v190_21_1).toInt ≤ 2147483647) ∧ st = [] ∧ qW D (va_A (wk_f147cc4b8 cy h0 p3 h1 w0 w1 w2 p4 p5 p6 p7 p8 p9 p10 p11 p12 p13 p14 w3 w4 w5 h2 w6 p15 p16 w7 h3 h4 p17 p18 w8 w9 w10 w11 w12 p19 w13 w14 w15 h1 f0 h2 f1 h3 f2 h4 f3) sz) s.heap (wk_f147cc4b8 cy h0 p3 h1 w0 w1 w2 p4 p5 p6 p7 p8 p9 p10 p11 p12 p13 p14 w3 w4 w5 h2 w6 p15 p16 w7 h3 h4 v190_21_0 v190_21_1 w8 w9 w10 w11 w12 p19 w13 w14 w15 h1 f0 h2 f1 h3 v190_21_2 h4 v190_21_3) H locs ∧ lv_has ls 7 [(0, .ref h0), (1, .int p0), (2, .int p1), (3, .int p2), (4, .int r_2), (5, .int z_6), (6, .int v92_11_0)]) (fun H locs ls st hP => ?_) (fun J_190 => ?_)
      · obtain ⟨v190_21_0, v190_21_1, v190_21_2, v190_21_3, hv190_21_0, hv190_21_1, rfl, h, hl⟩ := hP
        obtain ⟨z_22, ez_22, hz_22⟩ := e_add (x := v92_11_0) (y := Int32.ofInt 1) rfl (b := 1) (by decide) (by omega) (by omega)
        refine lv_iinc (v := z_22) (lv' := [(6, .int z_22), (0, .ref h0), (1, .int p0), (2, .int p1), (3, .int p2), (4, .int r_2), (5, .int z_6)]) hx hb dX12_goesPairs_190 hl (k := 6) rfl ez_22 (by decide) rfl (fun ls_22 hl_22 => ?_)
        clear hl
        refine lv_goto (tgt := 92) hx hb dX12_goesPairs_193 (by decide) ?_
        exact ih_92 (z_22, v190_21_0, v190_21_1) (by show (11 - (z_22).toInt).toNat < (11 - (v92_11_0).toInt).toNat; omega) _ _ _ ⟨v190_21_2, v190_21_3, ⟨by omega, by omega⟩, hv190_21_0, hv190_21_1, h, (lv_sub hl_22 [1, 2, 3, 4, 5, 6, 0] rfl)⟩
      · skip
        refine lv_if_ne (tgt := 125) hx hb dX12_goesPairs_119 (by decide) (fun c_23 => ?_) (fun c_23 => ?_)
        · replace c_23 := i_ne (x := r_20) (y := 0) rfl (show (0 : Int32).toInt = 0 by decide) c_23
          refine lv_aload_n hx hb dX12_goesPairs_125 rfl (lv_at hl 0 rfl) ?_
          refine q_get X hK h_20 0 rfl rfl wf_12 24 (by decide) rfl wm_5_194 dX12_goesPairs_126 ?_
          refine lv_iload hx hb dX12_goesPairs_129 (lv_at hl 4 rfl) ?_
          refine lv_iload hx hb dX12_goesPairs_131 (lv_at hl 6 rfl) ?_
          refine q_iast X hK h_20 3 rfl (i_in rfl (by omega) (by omega)) dX12_goesPairs_133 (fun H locs h_25 => ?_)
          clear h_20
          replace h_25 : qW D _ _ (wk_f147cc4b8 cy h0 p3 h1 w0 w1 w2 p4 p5 p6 p7 p8 p9 p10 p11 p12 p13 p14 w3 w4 w5 h2 w6 p15 p16 w7 h3 h4 v92_11_1 v92_11_2 w8 w9 w10 w11 w12 p19 w13 w14 w15 h1 f0 h2 f1 h3 (upd v92_11_3 (Int32.toNatClampNeg r_2) v92_11_0) h4 v92_11_4) _ _ := h_25
          obtain ⟨F_24, eF_24⟩ : ∃ z, (upd v92_11_3 (Int32.toNatClampNeg r_2) v92_11_0) = z := ⟨_, rfl⟩
          rw [eF_24] at h_25
          clear eF_24
          refine lv_aload_n hx hb dX12_goesPairs_134 rfl (lv_at hl 0 rfl) ?_
          refine q_get X hK h_25 0 rfl rfl wf_12 24 (by decide) rfl wm_5_194 dX12_goesPairs_135 ?_
          refine lv_iload hx hb dX12_goesPairs_138 (lv_at hl 6 rfl) ?_
          refine lv_iload hx hb dX12_goesPairs_140 (lv_at hl 4 rfl) ?_
          refine q_iast X hK h_25 3 rfl (i_in rfl (by omega) (by omega)) dX12_goesPairs_142 (fun H locs h_27 => ?_)
          clear h_25
          replace h_27 : qW D _ _ (wk_f147cc4b8 cy h0 p3 h1 w0 w1 w2 p4 p5 p6 p7 p8 p9 p10 p11 p12 p13 p14 w3 w4 w5 h2 w6 p15 p16 w7 h3 h4 v92_11_1 v92_11_2 w8 w9 w10 w11 w12 p19 w13 w14 w15 h1 f0 h2 f1 h3 (upd F_24 (Int32.toNatClampNeg v92_11_0) r_2) h4 v92_11_4) _ _ := h_27
          obtain ⟨F_26, eF_26⟩ : ∃ z, (upd F_24 (Int32.toNatClampNeg v92_11_0) r_2) = z := ⟨_, rfl⟩
          rw [eF_26] at h_27
          clear eF_26
          refine lv_aload_n hx hb dX12_goesPairs_143 rfl (lv_at hl 0 rfl) ?_
          refine lv_iload hx hb dX12_goesPairs_144 (lv_at hl 5 rfl) ?_
          refine lv_iconst (v := 1) hx hb dX12_goesPairs_146 (by decide) ?_
          refine lv_iload hx hb dX12_goesPairs_147 (lv_at hl 6 rfl) ?_
          refine lv_ishl hx hb dX12_goesPairs_149 ?_
          obtain ⟨z_28, ez_28, hz_28⟩ := e_shlk (p := v92_11_0) 9 (by decide) rfl (by omega) (by omega)
          refine q_c z_28 ez_28 ?_
          clear ez_28
          refine lv_iconst (v := (-1)) hx hb dX12_goesPairs_150 (by decide) ?_
          refine lv_ixor hx hb dX12_goesPairs_151 ?_
          refine q_any (fun z_29 hz_29 => ?_)
          refine lv_iand hx hb dX12_goesPairs_152 ?_
          obtain ⟨z_30, ez_30, hz_30⟩ := e_and1 (x := z_6) (y := z_29) rfl (by omega)
          refine q_c z_30 ez_30 ?_
          have ad_31 := and_div 6 (by omega) rs_7.1 ez_30
          refine lv_iload_n hx hb dX12_goesPairs_153 rfl (lv_at hl 2 rfl) ?_
          refine lv_iconst (v := 1) hx hb dX12_goesPairs_154 (by decide) ?_
          refine lv_iadd hx hb dX12_goesPairs_155 ?_
          obtain ⟨z_32, ez_32, hz_32⟩ := e_add (x := p1) (y := 1) rfl (show (1 : Int32).toInt = 1 by decide) (by omega) (by omega)
          refine q_c z_32 ez_32 ?_
          clear ez_32
          refine lv_iload_n hx hb dX12_goesPairs_156 rfl (lv_at hl 3 rfl) ?_
          refine lv_aload_n hx hb dX12_goesPairs_157 rfl (lv_at hl 0 rfl) ?_
          refine q_get X hK h_27 0 rfl rfl wf_12 1 (by decide) rfl wm_5_171 dX12_goesPairs_158 ?_
          refine lv_bipush (v := 42) hx hb dX12_goesPairs_161 (by decide) ?_
          refine lv_iload hx hb dX12_goesPairs_163 (lv_at hl 4 rfl) ?_
          refine lv_iadd hx hb dX12_goesPairs_165 ?_
          obtain ⟨z_33, ez_33, hz_33⟩ := e_add (x := 42) (y := r_2) (show (42 : Int32).toInt = 42 by decide) rfl (by omega) (by omega)
          refine q_c z_33 ez_33 ?_
          clear ez_33
          refine q_iald X hK h_27 1 rfl (i_in rfl (by omega) (by omega)) dX12_goesPairs_166 ?_
          refine q_any (fun z_34 hz_34 => ?_)
          refine lv_iadd hx hb dX12_goesPairs_167 ?_
          refine q_any (fun z_35 hz_35 => ?_)
          refine lv_aload_n hx hb dX12_goesPairs_168 rfl (lv_at hl 0 rfl) ?_
          refine q_get X hK h_27 0 rfl rfl wf_12 1 (by decide) rfl wm_5_171 dX12_goesPairs_169 ?_
          refine lv_bipush (v := 42) hx hb dX12_goesPairs_172 (by decide) ?_
          refine lv_iload hx hb dX12_goesPairs_174 (lv_at hl 6 rfl) ?_
          refine lv_iadd hx hb dX12_goesPairs_176 ?_
          obtain ⟨z_36, ez_36, hz_36⟩ := e_add (x := 42) (y := v92_11_0) (show (42 : Int32).toInt = 42 by decide) rfl (by omega) (by omega)
          refine q_c z_36 ez_36 ?_
          clear ez_36
          refine q_iald X hK h_27 1 rfl (i_in rfl (by omega) (by omega)) dX12_goesPairs_177 ?_
          refine q_any (fun z_37 hz_37 => ?_)
          refine lv_iadd hx hb dX12_goesPairs_178 ?_
          refine q_any (fun z_38 hz_38 => ?_)
          refine q_callVv (rest := []) (wr := []) X hK hT hA h_27 (fun sz => gX12_goesPairs_71e4c98 l D cy h0 h1 h2 h3 h4 z_30 z_32 z_38 p3 w0 w1 w2 p4 p5 p6 p7 p8 p9 p10 p11 p12 p13 p14 w3 w4 w5 w6 p15 p16 w7 v92_11_1 v92_11_2 w8 w9 w10 w11 w12 p19 w13 w14 w15 f0 p20 f1 F_26 v92_11_4 ⟨by omega, by omega⟩ ⟨by omega, by omega⟩ (i_rng _) hp3 hp4 hp5 hp6 hp7 (i_rng _) hp9 (i_rng _) (i_rng _) (i_rng _) (i_rng _) (i_rng _) (i_rng _) (i_rng _) hv92_11_1 (i_rng _) (i_rng _) hp20 htf0_84 rf0 (rg_wide rf1 (by decide) (by decide)) ((show _ % 64 = 0 from ad_31)) sz) wm_7_116 wm_7_119 wm_1_12 hd_X12_goesPairs wm_7_118 wp_7_4 (ci := 12) (q0 := 0) rfl rfl ⟨Nat.le_of_ble_eq_true rfl, Nat.le_of_ble_eq_true rfl⟩ hl.1 rfl (Nat.le_of_ble_eq_true rfl) dX12_goesPairs_179 ⟨Nat.le_of_ble_eq_true rfl, Nat.le_of_ble_eq_true rfl⟩ [0, 1, 2, 3, 4] [] rfl rfl (by decide) rfl rfl (fun u_39 H locs w_39 h_39 => ?_)
          clear h_27
          obtain ⟨w39_0, w39_1, _⟩ := w_39
          replace h_39 : qW D _ _ (wk_f147cc4b8 cy h0 p3 h1 w0 w1 w2 p4 p5 p6 p7 p8 p9 p10 p11 p12 p13 p14 w3 w4 w5 h2 w6 p15 p16 w7 h3 h4 (u_39.2.1 0 0) (u_39.2.1 1 0) w8 w9 w10 w11 w12 p19 w13 w14 w15 h1 f0 h2 f1 h3 (u_39.2.1 2) h4 (u_39.2.1 3)) _ _ := h_39
          refine lv_aload_n hx hb dX12_goesPairs_182 rfl (lv_at hl 0 rfl) ?_
          refine q_get X hK h_39 0 rfl rfl wf_12 24 (by decide) rfl wm_5_194 dX12_goesPairs_183 ?_
          refine lv_iload hx hb dX12_goesPairs_186 (lv_at hl 6 rfl) ?_
          refine lv_iconst (v := (-1)) hx hb dX12_goesPairs_188 (by decide) ?_
          refine q_iast X hK h_39 3 rfl (i_in rfl (by omega) (by omega)) dX12_goesPairs_189 (fun H locs h_41 => ?_)
          clear h_39
          replace h_41 : qW D _ _ (wk_f147cc4b8 cy h0 p3 h1 w0 w1 w2 p4 p5 p6 p7 p8 p9 p10 p11 p12 p13 p14 w3 w4 w5 h2 w6 p15 p16 w7 h3 h4 (u_39.2.1 0 0) (u_39.2.1 1 0) w8 w9 w10 w11 w12 p19 w13 w14 w15 h1 f0 h2 f1 h3 (upd (u_39.2.1 2) (Int32.toNatClampNeg v92_11_0) (-1)) h4 (u_39.2.1 3)) _ _ := h_41
          obtain ⟨F_40, eF_40⟩ : ∃ z, (upd (u_39.2.1 2) (Int32.toNatClampNeg v92_11_0) (-1)) = z := ⟨_, rfl⟩
          rw [eF_40] at h_41
          clear eF_40
          exact J_190 _ _ _ _ ⟨(u_39.2.1 0 0), (u_39.2.1 1 0), F_40, (u_39.2.1 3), w39_0, w39_1, rfl, h_41, (lv_sub hl [0, 1, 2, 3, 4, 5, 6] rfl)⟩
        · replace c_23 := i_eq (x := r_20) (y := 0) rfl (show (0 : Int32).toInt = 0 by decide) c_23
          refine lv_goto (tgt := 190) hx hb dX12_goesPairs_122 (by decide) ?_
          exact J_190 _ _ _ _ ⟨v92_11_1, v92_11_2, v92_11_3, v92_11_4, hv92_11_1, hv92_11_2, rfl, h_20, (lv_sub hl [0, 1, 2, 3, 4, 5, 6] rfl)⟩
  · replace c_1 := i_eq (x := p0) (y := 0) rfl (show (0 : Int32).toInt = 0 by decide) c_1
    refine lv_iload_n hx hb dX12_goesPairs_4 rfl (lv_at hl 2 rfl) ?_
    refine lv_aload_n hx hb dX12_goesPairs_5 rfl (lv_at hl 0 rfl) ?_
    refine q_get X hK h 0 rfl rfl wf_12 26 (by decide) rfl wm_5_196 dX12_goesPairs_6 ?_
    refine q_jn (pc2 := 28) (fun H locs ls st => st = [] ∧ qW D (va_A (wk_f147cc4b8 cy h0 p3 h1 w0 w1 w2 p4 p5 p6 p7 p8 p9 p10 p11 p12 p13 p14 w3 w4 w5 h2 w6 p15 p16 w7 h3 h4 p17 p18 w8 w9 w10 w11 w12 p19 w13 w14 w15 h1 f0 h2 f1 h3 f2 h4 f3) sz) s.heap (wk_f147cc4b8 cy h0 p3 h1 w0 w1 w2 p4 p5 p6 p7 p8 p9 p10 p11 p12 p13 p14 w3 w4 w5 h2 w6 p15 p16 w7 h3 h4 p17 p18 w8 w9 w10 w11 w12 p19 w13 w14 w15 h1 f0 h2 f1 h3 f2 h4 f3) H locs ∧ lv_has ls 7 [(0, .ref h0), (1, .int p0), (2, .int p1), (3, .int p2)]) (fun H locs ls st hP => ?_) (fun J_28 => ?_)
    · obtain ⟨rfl, h, hl⟩ := hP
      exact q_vret X hr hlk hK h (fun _ => 0, (vcons (fun _ => p17) (vcons (fun _ => p18) (vcons f2 (vcons f3 (fun _ => (fun _ => 0)))))), fun _ _ => 0) ⟨hp17, hp18, trivial⟩ [0, 1, 2, 3, 4] rfl rfl dX12_goesPairs_28 (Nat.le_of_ble_eq_true rfl) (Nat.le_of_ble_eq_true rfl)
    · skip
      refine lv_icmp_lt (tgt := 28) hx hb dX12_goesPairs_9 (by decide) (fun c_43 => ?_) (fun c_43 => ?_)
      · replace c_43 := i_lt (x := p1) (y := p17) rfl rfl c_43
        exact J_28 _ _ _ _ ⟨rfl, h, (lv_sub hl [0, 1, 2, 3] rfl)⟩
      · replace c_43 := i_nlt (x := p1) (y := p17) rfl rfl c_43
        refine lv_iload_n hx hb dX12_goesPairs_12 rfl (lv_at hl 2 rfl) ?_
        refine lv_aload_n hx hb dX12_goesPairs_13 rfl (lv_at hl 0 rfl) ?_
        refine q_get X hK h 0 rfl rfl wf_12 26 (by decide) rfl wm_5_196 dX12_goesPairs_14 ?_
        refine q_jn (pc2 := 29) (fun H locs ls st => st = [] ∧ qW D (va_A (wk_f147cc4b8 cy h0 p3 h1 w0 w1 w2 p4 p5 p6 p7 p8 p9 p10 p11 p12 p13 p14 w3 w4 w5 h2 w6 p15 p16 w7 h3 h4 p17 p18 w8 w9 w10 w11 w12 p19 w13 w14 w15 h1 f0 h2 f1 h3 f2 h4 f3) sz) s.heap (wk_f147cc4b8 cy h0 p3 h1 w0 w1 w2 p4 p5 p6 p7 p8 p9 p10 p11 p12 p13 p14 w3 w4 w5 h2 w6 p15 p16 w7 h3 h4 p17 p18 w8 w9 w10 w11 w12 p19 w13 w14 w15 h1 f0 h2 f1 h3 f2 h4 f3) H locs ∧ lv_has ls 7 [(0, .ref h0), (1, .int p0), (2, .int p1), (3, .int p2)]) (fun H locs ls st hP => ?_) (fun J_29 => ?_)
        · obtain ⟨rfl, h, hl⟩ := hP
          refine lv_aload_n hx hb dX12_goesPairs_29 rfl (lv_at hl 0 rfl) ?_
          refine lv_iload_n hx hb dX12_goesPairs_30 rfl (lv_at hl 2 rfl) ?_
          refine q_put (v := .int p1) X hK h 0 rfl rfl wf_12 tyX12 tyX12_ok nmX12 26 (by decide) wm_5_196 rfl rfl rfl (Nat.le_of_ble_eq_true rfl) dX12_goesPairs_31 (fun H locs h_45 => ?_)
          clear h
          replace h_45 : qW D _ _ (wk_f147cc4b8 cy h0 p3 h1 w0 w1 w2 p4 p5 p6 p7 p8 p9 p10 p11 p12 p13 p14 w3 w4 w5 h2 w6 p15 p16 w7 h3 h4 p1 p18 w8 w9 w10 w11 w12 p19 w13 w14 w15 h1 f0 h2 f1 h3 f2 h4 f3) _ _ := h_45
          refine lv_aload_n hx hb dX12_goesPairs_34 rfl (lv_at hl 0 rfl) ?_
          refine lv_iload_n hx hb dX12_goesPairs_35 rfl (lv_at hl 3 rfl) ?_
          refine q_put (v := .int p2) X hK h_45 0 rfl rfl wf_12 tyX12 tyX12_ok nmX12 27 (by decide) wm_5_197 rfl rfl rfl (Nat.le_of_ble_eq_true rfl) dX12_goesPairs_36 (fun H locs h_46 => ?_)
          clear h_45
          replace h_46 : qW D _ _ (wk_f147cc4b8 cy h0 p3 h1 w0 w1 w2 p4 p5 p6 p7 p8 p9 p10 p11 p12 p13 p14 w3 w4 w5 h2 w6 p15 p16 w7 h3 h4 p1 p2 w8 w9 w10 w11 w12 p19 w13 w14 w15 h1 f0 h2 f1 h3 f2 h4 f3) _ _ := h_46
          refine lv_iconst (v := 0) hx hb dX12_goesPairs_39 (by decide) ?_
          refine lv_istore (lv' := [(4, .int 0), (0, .ref h0), (1, .int p0), (2, .int p1), (3, .int p2)]) hx hb dX12_goesPairs_40 hl (by decide) rfl (fun ls_47 hl_47 => ?_)
          clear hl
          refine q_wl (fun (v42_48_0 : Int32) H locs ls => ∃ v42_48_1 : Nat → Int32, (0 ≤ (v42_48_0).toInt ∧ (v42_48_0).toInt ≤ 10) ∧ qW D (va_A (wk_f147cc4b8 cy h0 p3 h1 w0 w1 w2 p4 p5 p6 p7 p8 p9 p10 p11 p12 p13 p14 w3 w4 w5 h2 w6 p15 p16 w7 h3 h4 p17 p18 w8 w9 w10 w11 w12 p19 w13 w14 w15 h1 f0 h2 f1 h3 f2 h4 f3) sz) s.heap (wk_f147cc4b8 cy h0 p3 h1 w0 w1 w2 p4 p5 p6 p7 p8 p9 p10 p11 p12 p13 p14 w3 w4 w5 h2 w6 p15 p16 w7 h3 h4 p1 p2 w8 w9 w10 w11 w12 p19 w13 w14 w15 h1 f0 h2 f1 h3 f2 h4 v42_48_1) H locs ∧ lv_has ls 7 [(0, .ref h0), (1, .int p0), (2, .int p1), (3, .int p2), (4, .int v42_48_0)]) (fun (v42_48_0 : Int32) => (11 - (v42_48_0).toInt).toNat) (fun q_42 ih_42 H locs ls hP => ?_) 0 ⟨f3, ⟨by decide +kernel, by decide +kernel⟩, h_46, (lv_sub hl_47 [1, 2, 3, 4, 0] rfl)⟩
          obtain ⟨v42_48_0, rfl⟩ : ∃ z, z = q_42 := ⟨_, rfl⟩
          obtain ⟨v42_48_1, hv42_48_0, h, hl⟩ := hP
          refine lv_iload hx hb dX12_goesPairs_42 (lv_at hl 4 rfl) ?_
          refine lv_bipush (v := 10) hx hb dX12_goesPairs_44 (by decide) ?_
          refine lv_icmp_ge (tgt := 69) hx hb dX12_goesPairs_46 (by decide) (fun c_49 => ?_) (fun c_49 => ?_)
          · replace c_49 := i_le (x := 10) (y := v42_48_0) (show (10 : Int32).toInt = 10 by decide) rfl c_49
            exact q_vret X hr hlk hK h (fun _ => 0, (vcons (fun _ => p1) (vcons (fun _ => p2) (vcons f2 (vcons v42_48_1 (fun _ => (fun _ => 0)))))), fun _ _ => 0) ⟨(bw hp1 (by decide) (by decide)), hp2, trivial⟩ [0, 1, 2, 3, 4] rfl rfl dX12_goesPairs_69 (Nat.le_of_ble_eq_true rfl) (Nat.le_of_ble_eq_true rfl)
          · replace c_49 := i_nle (x := 10) (y := v42_48_0) (show (10 : Int32).toInt = 10 by decide) rfl c_49
            refine lv_aload_n hx hb dX12_goesPairs_49 rfl (lv_at hl 0 rfl) ?_
            refine q_get X hK h 0 rfl rfl wf_12 25 (by decide) rfl wm_5_195 dX12_goesPairs_50 ?_
            refine lv_iload hx hb dX12_goesPairs_53 (lv_at hl 4 rfl) ?_
            refine lv_aload_n hx hb dX12_goesPairs_55 rfl (lv_at hl 0 rfl) ?_
            refine q_get X hK h 0 rfl rfl wf_12 24 (by decide) rfl wm_5_194 dX12_goesPairs_56 ?_
            refine lv_iload hx hb dX12_goesPairs_59 (lv_at hl 4 rfl) ?_
            refine q_iald X hK h 3 rfl (i_in rfl (by omega) (by omega)) dX12_goesPairs_61 ?_
            refine q_any (fun z_50 hz_50 => ?_)
            refine q_iast X hK h 4 rfl (i_in rfl (by omega) (by omega)) dX12_goesPairs_62 (fun H locs h_52 => ?_)
            clear h
            replace h_52 : qW D _ _ (wk_f147cc4b8 cy h0 p3 h1 w0 w1 w2 p4 p5 p6 p7 p8 p9 p10 p11 p12 p13 p14 w3 w4 w5 h2 w6 p15 p16 w7 h3 h4 p1 p2 w8 w9 w10 w11 w12 p19 w13 w14 w15 h1 f0 h2 f1 h3 f2 h4 (upd v42_48_1 (Int32.toNatClampNeg v42_48_0) z_50)) _ _ := h_52
            obtain ⟨F_51, eF_51⟩ : ∃ z, (upd v42_48_1 (Int32.toNatClampNeg v42_48_0) z_50) = z := ⟨_, rfl⟩
            rw [eF_51] at h_52
            clear eF_51
            obtain ⟨z_53, ez_53, hz_53⟩ := e_add (x := v42_48_0) (y := Int32.ofInt 1) rfl (b := 1) (by decide) (by omega) (by omega)
            refine lv_iinc (v := z_53) (lv' := [(4, .int z_53), (0, .ref h0), (1, .int p0), (2, .int p1), (3, .int p2)]) hx hb dX12_goesPairs_63 hl (k := 4) rfl ez_53 (by decide) rfl (fun ls_53 hl_53 => ?_)
            clear hl
            refine lv_goto (tgt := 42) hx hb dX12_goesPairs_66 (by decide) ?_
            exact ih_42 z_53 (by show (11 - (z_53).toInt).toNat < (11 - (v42_48_0).toInt).toNat; omega) _ _ _ ⟨F_51, ⟨by omega, by omega⟩, h_52, (lv_sub hl_53 [1, 2, 3, 4, 0] rfl)⟩
        · skip
          refine lv_icmp_ne (tgt := 29) hx hb dX12_goesPairs_17 (by decide) (fun c_54 => ?_) (fun c_54 => ?_)
          · replace c_54 := i_ne (x := p1) (y := p17) rfl rfl c_54
            exact J_29 _ _ _ _ ⟨rfl, h, (lv_sub hl [0, 1, 2, 3] rfl)⟩
          · replace c_54 := i_eq (x := p1) (y := p17) rfl rfl c_54
            refine lv_iload_n hx hb dX12_goesPairs_20 rfl (lv_at hl 3 rfl) ?_
            refine lv_aload_n hx hb dX12_goesPairs_21 rfl (lv_at hl 0 rfl) ?_
            refine q_get X hK h 0 rfl rfl wf_12 27 (by decide) rfl wm_5_197 dX12_goesPairs_22 ?_
            refine lv_icmp_gt (tgt := 29) hx hb dX12_goesPairs_25 (by decide) (fun c_55 => ?_) (fun c_55 => ?_)
            · replace c_55 := i_lt (x := p18) (y := p2) rfl rfl c_55
              exact J_29 _ _ _ _ ⟨rfl, h, (lv_sub hl [0, 1, 2, 3] rfl)⟩
            · replace c_55 := i_nlt (x := p18) (y := p2) rfl rfl c_55
              exact J_28 _ _ _ _ ⟨rfl, h, (lv_sub hl [0, 1, 2, 3] rfl)⟩
set_option maxHeartbeats 4000000 in
set_option maxRecDepth 100000 in
theorem gX12_goesPairs_8901492 (l : Launch) (D : va_G) (cy : Nat → ClassId) (h0 : Nat) (h1 : Nat) (h2 : Nat) (h3 : Nat) (h4 : Nat) (p0 : Int32) (p1 : Int32) (p2 : Int32) (p3 : Int32) (w0 : Value) (w1 : Value) (w2 : Value) (p4 : Int32) (p5 : Int32) (p6 : Int32) (p7 : Int32) (p8 : Int32) (p9 : Int32) (p10 : Int32) (p11 : Int32) (p12 : Int32) (p13 : Int32) (p14 : Int32) (w3 : Value) (w4 : Value) (w5 : Value) (w6 : Value) (p15 : Int32) (p16 : Int32) (w7 : Value) (p17 : Int32) (p18 : Int32) (w8 : Value) (w9 : Value) (w10 : Value) (w11 : Value) (w12 : Value) (p19 : Int32) (w13 : Value) (w14 : Value) (w15 : Value) (f0 : Nat → Int32) (p20 : Int32) (f1 : Nat → Int32) (f2 : Nat → Int32) (f3 : Nat → Int32) (hp0 : 0 ≤ (p0).toInt ∧ (p0).toInt ≤ 1023) (hp1 : 0 ≤ (p1).toInt ∧ (p1).toInt ≤ 4) (hp2 : (-2147483648) ≤ (p2).toInt ∧ (p2).toInt ≤ 2147483647) (hp3 : 0 ≤ (p3).toInt ∧ (p3).toInt ≤ 0) (hp4 : 0 ≤ (p4).toInt ∧ (p4).toInt ≤ 900) (hp5 : 0 ≤ (p5).toInt ∧ (p5).toInt ≤ 900) (hp6 : 0 ≤ (p6).toInt ∧ (p6).toInt ≤ 900) (hp7 : 0 ≤ (p7).toInt ∧ (p7).toInt ≤ 900) (hp8 : (-2147483648) ≤ (p8).toInt ∧ (p8).toInt ≤ 2147483647) (hp9 : 0 ≤ (p9).toInt ∧ (p9).toInt ≤ 999) (hp10 : (-2147483648) ≤ (p10).toInt ∧ (p10).toInt ≤ 2147483647) (hp11 : (-2147483648) ≤ (p11).toInt ∧ (p11).toInt ≤ 2147483647) (hp12 : (-2147483648) ≤ (p12).toInt ∧ (p12).toInt ≤ 2147483647) (hp13 : (-2147483648) ≤ (p13).toInt ∧ (p13).toInt ≤ 2147483647) (hp14 : (-2147483648) ≤ (p14).toInt ∧ (p14).toInt ≤ 2147483647) (hp15 : (-2147483648) ≤ (p15).toInt ∧ (p15).toInt ≤ 2147483647) (hp16 : (-2147483648) ≤ (p16).toInt ∧ (p16).toInt ≤ 2147483647) (hp17 : (-1) ≤ (p17).toInt ∧ (p17).toInt ≤ 10) (hp18 : (-2147483648) ≤ (p18).toInt ∧ (p18).toInt ≤ 2147483647) (hp19 : (-2147483648) ≤ (p19).toInt ∧ (p19).toInt ≤ 2147483647) (hp20 : 0 ≤ (p20).toInt ∧ (p20).toInt ≤ 10) (htf0_84 : f0 84 = p20) (rf0 : AL f0) (rf1 : RG f1 10 0 1023) (hpre0 : (p0 : Int32).toInt % 16 = 0) (sz : Nat) : MV l yX12_goesPairs cX12_goesPairs 7 { frames := 7, cells := 0, slots := 0, locals := 173 } [.ref h0, .int p0, .int p1, .int p2] D cy (wk_f147cc4b8 cy h0 p3 h1 w0 w1 w2 p4 p5 p6 p7 p8 p9 p10 p11 p12 p13 p14 w3 w4 w5 h2 w6 p15 p16 w7 h3 h4 p17 p18 w8 w9 w10 w11 w12 p19 w13 w14 w15 h1 f0 h2 f1 h3 f2 h4 f3) sz (fun u => ((-1) ≤ (u.2.1 0 0).toInt ∧ (u.2.1 0 0).toInt ≤ 10) ∧ ((-2147483648) ≤ (u.2.1 1 0).toInt ∧ (u.2.1 1 0).toInt ≤ 2147483647) ∧ True) (fun u => (wk_f147cc4b8 cy h0 p3 h1 w0 w1 w2 p4 p5 p6 p7 p8 p9 p10 p11 p12 p13 p14 w3 w4 w5 h2 w6 p15 p16 w7 h3 h4 (u.2.1 0 0) (u.2.1 1 0) w8 w9 w10 w11 w12 p19 w13 w14 w15 h1 f0 h2 f1 h3 (u.2.1 2) h4 (u.2.1 3))) 0 0 := by
  refine q_ent (own := RX12) (by decide) rfl (Nat.le_of_ble_eq_true rfl) (fun p e s m below meth c ls X hr hlk hnm hK hT h hA hl => ?_)
  obtain ⟨hx, hb, hml, hown, ht⟩ := id X
  replace hl : lv_has ls 7 [(0, .ref h0), (1, .int p0), (2, .int p1), (3, .int p2)] := hl
  refine lv_iload_n hx hb dX12_goesPairs_0 rfl (lv_at hl 1 rfl) ?_
  refine lv_if_ne (tgt := 70) hx hb dX12_goesPairs_1 (by decide) (fun c_1 => ?_) (fun c_1 => ?_)
  · replace c_1 := i_ne (x := p0) (y := 0) rfl (show (0 : Int32).toInt = 0 by decide) c_1
    refine lv_iload_n hx hb dX12_goesPairs_70 rfl (lv_at hl 1 rfl) ?_
    refine q_callSi (rest := []) (wr := (wk_f147cc4b8 cy h0 p3 h1 w0 w1 w2 p4 p5 p6 p7 p8 p9 p10 p11 p12 p13 p14 w3 w4 w5 h2 w6 p15 p16 w7 h3 h4 p17 p18 w8 w9 w10 w11 w12 p19 w13 w14 w15 h1 f0 h2 f1 h3 f2 h4 f3)) X hK hT hA h (fun sz => gX12_lowest_51df8cb l D cy p0 ⟨by omega, by omega⟩ sz) wm_7_67 wm_7_69 wm_1_12 hd_X12_lowest wm_7_68 ⟨Nat.le_of_ble_eq_true rfl, Nat.le_of_ble_eq_true rfl⟩ hl.1 rfl (Nat.le_of_ble_eq_true rfl) dX12_goesPairs_71 ⟨Nat.le_of_ble_eq_true rfl, Nat.le_of_ble_eq_true rfl⟩ [] [0, 1, 2, 3, 4] rfl rfl (by decide) rfl rfl (fun r_2 u_2 H locs w_2 h_2 => ?_)
    clear h
    obtain ⟨wr_2, y2_0, _⟩ := w_2
    replace h_2 : qW D _ _ (wk_f147cc4b8 cy h0 p3 h1 w0 w1 w2 p4 p5 p6 p7 p8 p9 p10 p11 p12 p13 p14 w3 w4 w5 h2 w6 p15 p16 w7 h3 h4 p17 p18 w8 w9 w10 w11 w12 p19 w13 w14 w15 h1 f0 h2 f1 h3 f2 h4 f3) _ _ := h_2
    refine lv_istore (lv' := [(4, .int r_2), (0, .ref h0), (1, .int p0), (2, .int p1), (3, .int p2)]) hx hb dX12_goesPairs_74 hl (by decide) rfl (fun ls_3 hl_3 => ?_)
    clear hl
    refine lv_iload_n hx hb dX12_goesPairs_76 rfl (lv_at hl_3 2 rfl) ?_
    refine lv_iconst (v := 1) hx hb dX12_goesPairs_77 (by decide) ?_
    refine lv_iload hx hb dX12_goesPairs_78 (lv_at hl_3 0 rfl) ?_
    refine lv_ishl hx hb dX12_goesPairs_80 ?_
    obtain ⟨z_4, ez_4, hz_4⟩ := e_shlk (p := r_2) 9 (by decide) rfl (by omega) (by omega)
    refine q_c z_4 ez_4 ?_
    refine lv_iconst (v := (-1)) hx hb dX12_goesPairs_81 (by decide) ?_
    refine lv_ixor hx hb dX12_goesPairs_82 ?_
    obtain ⟨z_5, ez_5, hz_5⟩ := e_any (z_4 ^^^ (-1))
    refine q_c z_5 ez_5 ?_
    refine lv_iand hx hb dX12_goesPairs_83 ?_
    obtain ⟨z_6, ez_6, hz_6⟩ := e_and1 (x := p0) (y := z_5) rfl (by omega)
    refine q_c z_6 ez_6 ?_
    have rs_7 := rest_low 4 (by omega) y2_0 (by omega) ez_4 ez_5 ez_6
    refine lv_istore (lv' := [(5, .int z_6), (4, .int r_2), (0, .ref h0), (1, .int p0), (2, .int p1), (3, .int p2)]) hx hb dX12_goesPairs_84 hl_3 (by decide) rfl (fun ls_8 hl_8 => ?_)
    clear hl_3
    refine lv_iload hx hb dX12_goesPairs_86 (lv_at hl_8 1 rfl) ?_
    refine lv_iconst (v := 1) hx hb dX12_goesPairs_88 (by decide) ?_
    refine lv_iadd hx hb dX12_goesPairs_89 ?_
    obtain ⟨z_9, ez_9, hz_9⟩ := e_add (x := r_2) (y := 1) rfl (show (1 : Int32).toInt = 1 by decide) (by omega) (by omega)
    refine q_c z_9 ez_9 ?_
    clear ez_9
    refine lv_istore (lv' := [(6, .int z_9), (5, .int z_6), (4, .int r_2), (0, .ref h0), (1, .int p0), (2, .int p1), (3, .int p2)]) hx hb dX12_goesPairs_90 hl_8 (by decide) rfl (fun ls_10 hl_10 => ?_)
    clear hl_8
    refine q_wl (fun (q : Int32 × Int32 × Int32) H locs ls => match q with | (v92_11_0, v92_11_1, v92_11_2) => ∃ v92_11_3 : Nat → Int32, ∃ v92_11_4 : Nat → Int32, (1 ≤ (v92_11_0).toInt ∧ (v92_11_0).toInt ≤ 10) ∧ ((-1) ≤ (v92_11_1).toInt ∧ (v92_11_1).toInt ≤ 10) ∧ ((-2147483648) ≤ (v92_11_2).toInt ∧ (v92_11_2).toInt ≤ 2147483647) ∧ qW D (va_A (wk_f147cc4b8 cy h0 p3 h1 w0 w1 w2 p4 p5 p6 p7 p8 p9 p10 p11 p12 p13 p14 w3 w4 w5 h2 w6 p15 p16 w7 h3 h4 p17 p18 w8 w9 w10 w11 w12 p19 w13 w14 w15 h1 f0 h2 f1 h3 f2 h4 f3) sz) s.heap (wk_f147cc4b8 cy h0 p3 h1 w0 w1 w2 p4 p5 p6 p7 p8 p9 p10 p11 p12 p13 p14 w3 w4 w5 h2 w6 p15 p16 w7 h3 h4 v92_11_1 v92_11_2 w8 w9 w10 w11 w12 p19 w13 w14 w15 h1 f0 h2 f1 h3 v92_11_3 h4 v92_11_4) H locs ∧ lv_has ls 7 [(0, .ref h0), (1, .int p0), (2, .int p1), (3, .int p2), (4, .int r_2), (5, .int z_6), (6, .int v92_11_0)]) (fun (q : Int32 × Int32 × Int32) => match q with | (v92_11_0, v92_11_1, v92_11_2) => (11 - (v92_11_0).toInt).toNat) (fun q_92 ih_92 H locs ls hP => ?_) (z_9, p17, p18) ⟨f2, f3, ⟨by omega, by omega⟩, hp17, hp18, h_2, (lv_sub hl_10 [3, 4, 5, 6, 2, 1, 0] rfl)⟩
    obtain ⟨v92_11_0, v92_11_1, v92_11_2⟩ := q_92
    obtain ⟨v92_11_3, v92_11_4, hv92_11_0, hv92_11_1, hv92_11_2, h, hl⟩ := hP
    refine lv_iload hx hb dX12_goesPairs_92 (lv_at hl 6 rfl) ?_
    refine lv_aload_n hx hb dX12_goesPairs_94 rfl (lv_at hl 0 rfl) ?_
    refine q_get X hK h 0 rfl rfl wf_12 1 (by decide) rfl wm_5_171 dX12_goesPairs_95 ?_
    refine lv_iconst (v := 2) hx hb dX12_goesPairs_98 (by decide) ?_
    refine q_iald X hK h 1 rfl (q_in (by decide +kernel)) dX12_goesPairs_99 ?_
    obtain ⟨z_12, ez_12, hz_12⟩ := al_P rf0 (x := 2) (show (2 : Int32).toInt = 2 by decide) (by omega) (by omega)
    refine q_c z_12 ez_12 ?_
    clear ez_12
    refine lv_icmp_ge (tgt := 196) hx hb dX12_goesPairs_100 (by decide) (fun c_13 => ?_) (fun c_13 => ?_)
    · replace c_13 := i_le (x := z_12) (y := v92_11_0) rfl rfl c_13
      refine lv_aload_n hx hb dX12_goesPairs_196 rfl (lv_at hl 0 rfl) ?_
      refine q_get X hK h 0 rfl rfl wf_12 24 (by decide) rfl wm_5_194 dX12_goesPairs_197 ?_
      refine lv_iload hx hb dX12_goesPairs_200 (lv_at hl 4 rfl) ?_
      refine lv_iconst (v := (-1)) hx hb dX12_goesPairs_202 (by decide) ?_
      refine q_iast X hK h 3 rfl (i_in rfl (by omega) (by omega)) dX12_goesPairs_203 (fun H locs h_15 => ?_)
      clear h
      replace h_15 : qW D _ _ (wk_f147cc4b8 cy h0 p3 h1 w0 w1 w2 p4 p5 p6 p7 p8 p9 p10 p11 p12 p13 p14 w3 w4 w5 h2 w6 p15 p16 w7 h3 h4 v92_11_1 v92_11_2 w8 w9 w10 w11 w12 p19 w13 w14 w15 h1 f0 h2 f1 h3 (upd v92_11_3 (Int32.toNatClampNeg r_2) (-1)) h4 v92_11_4) _ _ := h_15
      obtain ⟨F_14, eF_14⟩ : ∃ z, (upd v92_11_3 (Int32.toNatClampNeg r_2) (-1)) = z := ⟨_, rfl⟩
      rw [eF_14] at h_15
      clear eF_14
      refine lv_aload_n hx hb dX12_goesPairs_204 rfl (lv_at hl 0 rfl) ?_
      refine lv_iload hx hb dX12_goesPairs_205 (lv_at hl 5 rfl) ?_
      refine lv_iload_n hx hb dX12_goesPairs_207 rfl (lv_at hl 2 rfl) ?_
      refine lv_iload_n hx hb dX12_goesPairs_208 rfl (lv_at hl 3 rfl) ?_
      refine q_callVv (rest := []) (wr := []) X hK hT hA h_15 (fun sz => gX12_goesPairs_0def14e l D cy h0 h1 h2 h3 h4 z_6 p1 p2 p3 w0 w1 w2 p4 p5 p6 p7 p8 p9 p10 p11 p12 p13 p14 w3 w4 w5 w6 p15 p16 w7 v92_11_1 v92_11_2 w8 w9 w10 w11 w12 p19 w13 w14 w15 f0 p20 f1 F_14 v92_11_4 ⟨by omega, by omega⟩ (bw hp1 (by decide) (by decide)) (i_rng _) hp3 hp4 hp5 hp6 hp7 (i_rng _) hp9 (i_rng _) (i_rng _) (i_rng _) (i_rng _) (i_rng _) (i_rng _) (i_rng _) hv92_11_1 (i_rng _) (i_rng _) hp20 htf0_84 rf0 (rg_wide rf1 (by decide) (by decide)) ((show _ % 32 = 0 from rs_7.1)) sz) wm_7_116 wm_7_119 wm_1_12 hd_X12_goesPairs wm_7_118 wp_7_4 (ci := 12) (q0 := 0) rfl rfl ⟨Nat.le_of_ble_eq_true rfl, Nat.le_of_ble_eq_true rfl⟩ hl.1 rfl (Nat.le_of_ble_eq_true rfl) dX12_goesPairs_209 ⟨Nat.le_of_ble_eq_true rfl, Nat.le_of_ble_eq_true rfl⟩ [0, 1, 2, 3, 4] [] rfl rfl (by decide) rfl rfl (fun u_16 H locs w_16 h_16 => ?_)
      clear h_15
      obtain ⟨w16_0, w16_1, _⟩ := w_16
      replace h_16 : qW D _ _ (wk_f147cc4b8 cy h0 p3 h1 w0 w1 w2 p4 p5 p6 p7 p8 p9 p10 p11 p12 p13 p14 w3 w4 w5 h2 w6 p15 p16 w7 h3 h4 (u_16.2.1 0 0) (u_16.2.1 1 0) w8 w9 w10 w11 w12 p19 w13 w14 w15 h1 f0 h2 f1 h3 (u_16.2.1 2) h4 (u_16.2.1 3)) _ _ := h_16
      exact q_vret X hr hlk hK h_16 (fun _ => 0, (vcons (fun _ => (u_16.2.1 0 0)) (vcons (fun _ => (u_16.2.1 1 0)) (vcons (u_16.2.1 2) (vcons (u_16.2.1 3) (fun _ => (fun _ => 0)))))), fun _ _ => 0) ⟨w16_0, w16_1, trivial⟩ [0, 1, 2, 3, 4] rfl rfl dX12_goesPairs_212 (Nat.le_of_ble_eq_true rfl) (Nat.le_of_ble_eq_true rfl)
    · replace c_13 := i_nle (x := z_12) (y := v92_11_0) rfl rfl c_13
      refine lv_iload hx hb dX12_goesPairs_103 (lv_at hl 5 rfl) ?_
      refine lv_aload_n hx hb dX12_goesPairs_105 rfl (lv_at hl 0 rfl) ?_
      refine q_get X hK h 0 rfl rfl wf_12 19 (by decide) rfl wm_5_189 dX12_goesPairs_106 ?_
      refine lv_iload hx hb dX12_goesPairs_109 (lv_at hl 4 rfl) ?_
      refine q_iald X hK h 2 rfl (i_in rfl (by omega) (by omega)) dX12_goesPairs_111 ?_
      obtain ⟨z_17, ez_17, hz_17⟩ := rg_get rf1 (x := r_2) rfl (by omega) (by omega)
      refine q_c z_17 ez_17 ?_
      clear ez_17
      refine lv_iand hx hb dX12_goesPairs_112 ?_
      obtain ⟨z_18, ez_18, hz_18⟩ := e_and2 (x := z_6) (y := z_17) rfl (by omega)
      refine q_c z_18 ez_18 ?_
      clear ez_18
      refine lv_i2l hx hb dX12_goesPairs_113 rfl ?_
      obtain ⟨z_19, ez_19, hz_19⟩ := e_i2l (x := z_18) rfl
      refine q_cl z_19 ez_19 ?_
      clear ez_19
      refine lv_iload hx hb dX12_goesPairs_114 (lv_at hl 6 rfl) ?_
      refine q_callSi (rest := []) (wr := (wk_f147cc4b8 cy h0 p3 h1 w0 w1 w2 p4 p5 p6 p7 p8 p9 p10 p11 p12 p13 p14 w3 w4 w5 h2 w6 p15 p16 w7 h3 h4 v92_11_1 v92_11_2 w8 w9 w10 w11 w12 p19 w13 w14 w15 h1 f0 h2 f1 h3 v92_11_3 h4 v92_11_4)) X hK hT hA h (fun sz => gX12_isIn_b0455a8 l D cy z_19 v92_11_0 ⟨by omega, by omega⟩ ⟨by omega, by omega⟩ sz) wm_6_167 wm_6_169 wm_1_12 hd_X12_isIn wm_6_168 ⟨Nat.le_of_ble_eq_true rfl, Nat.le_of_ble_eq_true rfl⟩ hl.1 rfl (Nat.le_of_ble_eq_true rfl) dX12_goesPairs_116 ⟨Nat.le_of_ble_eq_true rfl, Nat.le_of_ble_eq_true rfl⟩ [] [0, 1, 2, 3, 4] rfl rfl (by decide) rfl rfl (fun r_20 u_20 H locs w_20 h_20 => ?_)
      clear h
      obtain ⟨wr_20, _⟩ := w_20
      replace h_20 : qW D _ _ (wk_f147cc4b8 cy h0 p3 h1 w0 w1 w2 p4 p5 p6 p7 p8 p9 p10 p11 p12 p13 p14 w3 w4 w5 h2 w6 p15 p16 w7 h3 h4 v92_11_1 v92_11_2 w8 w9 w10 w11 w12 p19 w13 w14 w15 h1 f0 h2 f1 h3 v92_11_3 h4 v92_11_4) _ _ := h_20
      refine q_jn (pc2 := 190) (fun H locs ls st => ∃ v190_21_0 : Int32, ∃ v190_21_1 : Int32, ∃ v190_21_2 : Nat → Int32, ∃ v190_21_3 : Nat → Int32, ((-1) ≤ (v190_21_0).toInt ∧ (v190_21_0).toInt ≤ 10) ∧ ((-2147483648) ≤ (v190_21_1).toInt ∧ (v190_21_1).toInt ≤ 2147483647) ∧ st = [] ∧ qW D (va_A (wk_f147cc4b8 cy h0 p3 h1 w0 w1 w2 p4 p5 p6 p7 p8 p9 p10 p11 p12 p13 p14 w3 w4 w5 h2 w6 p15 p16 w7 h3 h4 p17 p18 w8 w9 w10 w11 w12 p19 w13 w14 w15 h1 f0 h2 f1 h3 f2 h4 f3) sz) s.heap (wk_f147cc4b8 cy h0 p3 h1 w0 w1 w2 p4 p5 p6 p7 p8 p9 p10 p11 p12 p13 p14 w3 w4 w5 h2 w6 p15 p16 w7 h3 h4 v190_21_0 v190_21_1 w8 w9 w10 w11 w12 p19 w13 w14 w15 h1 f0 h2 f1 h3 v190_21_2 h4 v190_21_3) H locs ∧ lv_has ls 7 [(0, .ref h0), (1, .int p0), (2, .int p1), (3, .int p2), (4, .int r_2), (5, .int z_6), (6, .int v92_11_0)]) (fun H locs ls st hP => ?_) (fun J_190 => ?_)
      · obtain ⟨v190_21_0, v190_21_1, v190_21_2, v190_21_3, hv190_21_0, hv190_21_1, rfl, h, hl⟩ := hP
        obtain ⟨z_22, ez_22, hz_22⟩ := e_add (x := v92_11_0) (y := Int32.ofInt 1) rfl (b := 1) (by decide) (by omega) (by omega)
        refine lv_iinc (v := z_22) (lv' := [(6, .int z_22), (0, .ref h0), (1, .int p0), (2, .int p1), (3, .int p2), (4, .int r_2), (5, .int z_6)]) hx hb dX12_goesPairs_190 hl (k := 6) rfl ez_22 (by decide) rfl (fun ls_22 hl_22 => ?_)
        clear hl
        refine lv_goto (tgt := 92) hx hb dX12_goesPairs_193 (by decide) ?_
        exact ih_92 (z_22, v190_21_0, v190_21_1) (by show (11 - (z_22).toInt).toNat < (11 - (v92_11_0).toInt).toNat; omega) _ _ _ ⟨v190_21_2, v190_21_3, ⟨by omega, by omega⟩, hv190_21_0, hv190_21_1, h, (lv_sub hl_22 [1, 2, 3, 4, 5, 6, 0] rfl)⟩
      · skip
        refine lv_if_ne (tgt := 125) hx hb dX12_goesPairs_119 (by decide) (fun c_23 => ?_) (fun c_23 => ?_)
        · replace c_23 := i_ne (x := r_20) (y := 0) rfl (show (0 : Int32).toInt = 0 by decide) c_23
          refine lv_aload_n hx hb dX12_goesPairs_125 rfl (lv_at hl 0 rfl) ?_
          refine q_get X hK h_20 0 rfl rfl wf_12 24 (by decide) rfl wm_5_194 dX12_goesPairs_126 ?_
          refine lv_iload hx hb dX12_goesPairs_129 (lv_at hl 4 rfl) ?_
          refine lv_iload hx hb dX12_goesPairs_131 (lv_at hl 6 rfl) ?_
          refine q_iast X hK h_20 3 rfl (i_in rfl (by omega) (by omega)) dX12_goesPairs_133 (fun H locs h_25 => ?_)
          clear h_20
          replace h_25 : qW D _ _ (wk_f147cc4b8 cy h0 p3 h1 w0 w1 w2 p4 p5 p6 p7 p8 p9 p10 p11 p12 p13 p14 w3 w4 w5 h2 w6 p15 p16 w7 h3 h4 v92_11_1 v92_11_2 w8 w9 w10 w11 w12 p19 w13 w14 w15 h1 f0 h2 f1 h3 (upd v92_11_3 (Int32.toNatClampNeg r_2) v92_11_0) h4 v92_11_4) _ _ := h_25
          obtain ⟨F_24, eF_24⟩ : ∃ z, (upd v92_11_3 (Int32.toNatClampNeg r_2) v92_11_0) = z := ⟨_, rfl⟩
          rw [eF_24] at h_25
          clear eF_24
          refine lv_aload_n hx hb dX12_goesPairs_134 rfl (lv_at hl 0 rfl) ?_
          refine q_get X hK h_25 0 rfl rfl wf_12 24 (by decide) rfl wm_5_194 dX12_goesPairs_135 ?_
          refine lv_iload hx hb dX12_goesPairs_138 (lv_at hl 6 rfl) ?_
          refine lv_iload hx hb dX12_goesPairs_140 (lv_at hl 4 rfl) ?_
          refine q_iast X hK h_25 3 rfl (i_in rfl (by omega) (by omega)) dX12_goesPairs_142 (fun H locs h_27 => ?_)
          clear h_25
          replace h_27 : qW D _ _ (wk_f147cc4b8 cy h0 p3 h1 w0 w1 w2 p4 p5 p6 p7 p8 p9 p10 p11 p12 p13 p14 w3 w4 w5 h2 w6 p15 p16 w7 h3 h4 v92_11_1 v92_11_2 w8 w9 w10 w11 w12 p19 w13 w14 w15 h1 f0 h2 f1 h3 (upd F_24 (Int32.toNatClampNeg v92_11_0) r_2) h4 v92_11_4) _ _ := h_27
          obtain ⟨F_26, eF_26⟩ : ∃ z, (upd F_24 (Int32.toNatClampNeg v92_11_0) r_2) = z := ⟨_, rfl⟩
          rw [eF_26] at h_27
          clear eF_26
          refine lv_aload_n hx hb dX12_goesPairs_143 rfl (lv_at hl 0 rfl) ?_
          refine lv_iload hx hb dX12_goesPairs_144 (lv_at hl 5 rfl) ?_
          refine lv_iconst (v := 1) hx hb dX12_goesPairs_146 (by decide) ?_
          refine lv_iload hx hb dX12_goesPairs_147 (lv_at hl 6 rfl) ?_
          refine lv_ishl hx hb dX12_goesPairs_149 ?_
          obtain ⟨z_28, ez_28, hz_28⟩ := e_shlk (p := v92_11_0) 9 (by decide) rfl (by omega) (by omega)
          refine q_c z_28 ez_28 ?_
          clear ez_28
          refine lv_iconst (v := (-1)) hx hb dX12_goesPairs_150 (by decide) ?_
          refine lv_ixor hx hb dX12_goesPairs_151 ?_
          refine q_any (fun z_29 hz_29 => ?_)
          refine lv_iand hx hb dX12_goesPairs_152 ?_
          obtain ⟨z_30, ez_30, hz_30⟩ := e_and1 (x := z_6) (y := z_29) rfl (by omega)
          refine q_c z_30 ez_30 ?_
          have ad_31 := and_div 5 (by omega) rs_7.1 ez_30
          refine lv_iload_n hx hb dX12_goesPairs_153 rfl (lv_at hl 2 rfl) ?_
          refine lv_iconst (v := 1) hx hb dX12_goesPairs_154 (by decide) ?_
          refine lv_iadd hx hb dX12_goesPairs_155 ?_
          obtain ⟨z_32, ez_32, hz_32⟩ := e_add (x := p1) (y := 1) rfl (show (1 : Int32).toInt = 1 by decide) (by omega) (by omega)
          refine q_c z_32 ez_32 ?_
          clear ez_32
          refine lv_iload_n hx hb dX12_goesPairs_156 rfl (lv_at hl 3 rfl) ?_
          refine lv_aload_n hx hb dX12_goesPairs_157 rfl (lv_at hl 0 rfl) ?_
          refine q_get X hK h_27 0 rfl rfl wf_12 1 (by decide) rfl wm_5_171 dX12_goesPairs_158 ?_
          refine lv_bipush (v := 42) hx hb dX12_goesPairs_161 (by decide) ?_
          refine lv_iload hx hb dX12_goesPairs_163 (lv_at hl 4 rfl) ?_
          refine lv_iadd hx hb dX12_goesPairs_165 ?_
          obtain ⟨z_33, ez_33, hz_33⟩ := e_add (x := 42) (y := r_2) (show (42 : Int32).toInt = 42 by decide) rfl (by omega) (by omega)
          refine q_c z_33 ez_33 ?_
          clear ez_33
          refine q_iald X hK h_27 1 rfl (i_in rfl (by omega) (by omega)) dX12_goesPairs_166 ?_
          refine q_any (fun z_34 hz_34 => ?_)
          refine lv_iadd hx hb dX12_goesPairs_167 ?_
          refine q_any (fun z_35 hz_35 => ?_)
          refine lv_aload_n hx hb dX12_goesPairs_168 rfl (lv_at hl 0 rfl) ?_
          refine q_get X hK h_27 0 rfl rfl wf_12 1 (by decide) rfl wm_5_171 dX12_goesPairs_169 ?_
          refine lv_bipush (v := 42) hx hb dX12_goesPairs_172 (by decide) ?_
          refine lv_iload hx hb dX12_goesPairs_174 (lv_at hl 6 rfl) ?_
          refine lv_iadd hx hb dX12_goesPairs_176 ?_
          obtain ⟨z_36, ez_36, hz_36⟩ := e_add (x := 42) (y := v92_11_0) (show (42 : Int32).toInt = 42 by decide) rfl (by omega) (by omega)
          refine q_c z_36 ez_36 ?_
          clear ez_36
          refine q_iald X hK h_27 1 rfl (i_in rfl (by omega) (by omega)) dX12_goesPairs_177 ?_
          refine q_any (fun z_37 hz_37 => ?_)
          refine lv_iadd hx hb dX12_goesPairs_178 ?_
          refine q_any (fun z_38 hz_38 => ?_)
          refine q_callVv (rest := []) (wr := []) X hK hT hA h_27 (fun sz => gX12_goesPairs_0def14e l D cy h0 h1 h2 h3 h4 z_30 z_32 z_38 p3 w0 w1 w2 p4 p5 p6 p7 p8 p9 p10 p11 p12 p13 p14 w3 w4 w5 w6 p15 p16 w7 v92_11_1 v92_11_2 w8 w9 w10 w11 w12 p19 w13 w14 w15 f0 p20 f1 F_26 v92_11_4 ⟨by omega, by omega⟩ ⟨by omega, by omega⟩ (i_rng _) hp3 hp4 hp5 hp6 hp7 (i_rng _) hp9 (i_rng _) (i_rng _) (i_rng _) (i_rng _) (i_rng _) (i_rng _) (i_rng _) hv92_11_1 (i_rng _) (i_rng _) hp20 htf0_84 rf0 (rg_wide rf1 (by decide) (by decide)) ((show _ % 32 = 0 from ad_31)) sz) wm_7_116 wm_7_119 wm_1_12 hd_X12_goesPairs wm_7_118 wp_7_4 (ci := 12) (q0 := 0) rfl rfl ⟨Nat.le_of_ble_eq_true rfl, Nat.le_of_ble_eq_true rfl⟩ hl.1 rfl (Nat.le_of_ble_eq_true rfl) dX12_goesPairs_179 ⟨Nat.le_of_ble_eq_true rfl, Nat.le_of_ble_eq_true rfl⟩ [0, 1, 2, 3, 4] [] rfl rfl (by decide) rfl rfl (fun u_39 H locs w_39 h_39 => ?_)
          clear h_27
          obtain ⟨w39_0, w39_1, _⟩ := w_39
          replace h_39 : qW D _ _ (wk_f147cc4b8 cy h0 p3 h1 w0 w1 w2 p4 p5 p6 p7 p8 p9 p10 p11 p12 p13 p14 w3 w4 w5 h2 w6 p15 p16 w7 h3 h4 (u_39.2.1 0 0) (u_39.2.1 1 0) w8 w9 w10 w11 w12 p19 w13 w14 w15 h1 f0 h2 f1 h3 (u_39.2.1 2) h4 (u_39.2.1 3)) _ _ := h_39
          refine lv_aload_n hx hb dX12_goesPairs_182 rfl (lv_at hl 0 rfl) ?_
          refine q_get X hK h_39 0 rfl rfl wf_12 24 (by decide) rfl wm_5_194 dX12_goesPairs_183 ?_
          refine lv_iload hx hb dX12_goesPairs_186 (lv_at hl 6 rfl) ?_
          refine lv_iconst (v := (-1)) hx hb dX12_goesPairs_188 (by decide) ?_
          refine q_iast X hK h_39 3 rfl (i_in rfl (by omega) (by omega)) dX12_goesPairs_189 (fun H locs h_41 => ?_)
          clear h_39
          replace h_41 : qW D _ _ (wk_f147cc4b8 cy h0 p3 h1 w0 w1 w2 p4 p5 p6 p7 p8 p9 p10 p11 p12 p13 p14 w3 w4 w5 h2 w6 p15 p16 w7 h3 h4 (u_39.2.1 0 0) (u_39.2.1 1 0) w8 w9 w10 w11 w12 p19 w13 w14 w15 h1 f0 h2 f1 h3 (upd (u_39.2.1 2) (Int32.toNatClampNeg v92_11_0) (-1)) h4 (u_39.2.1 3)) _ _ := h_41
          obtain ⟨F_40, eF_40⟩ : ∃ z, (upd (u_39.2.1 2) (Int32.toNatClampNeg v92_11_0) (-1)) = z := ⟨_, rfl⟩
          rw [eF_40] at h_41
          clear eF_40
          exact J_190 _ _ _ _ ⟨(u_39.2.1 0 0), (u_39.2.1 1 0), F_40, (u_39.2.1 3), w39_0, w39_1, rfl, h_41, (lv_sub hl [0, 1, 2, 3, 4, 5, 6] rfl)⟩
        · replace c_23 := i_eq (x := r_20) (y := 0) rfl (show (0 : Int32).toInt = 0 by decide) c_23
          refine lv_goto (tgt := 190) hx hb dX12_goesPairs_122 (by decide) ?_
          exact J_190 _ _ _ _ ⟨v92_11_1, v92_11_2, v92_11_3, v92_11_4, hv92_11_1, hv92_11_2, rfl, h_20, (lv_sub hl [0, 1, 2, 3, 4, 5, 6] rfl)⟩
  · replace c_1 := i_eq (x := p0) (y := 0) rfl (show (0 : Int32).toInt = 0 by decide) c_1
    refine lv_iload_n hx hb dX12_goesPairs_4 rfl (lv_at hl 2 rfl) ?_
    refine lv_aload_n hx hb dX12_goesPairs_5 rfl (lv_at hl 0 rfl) ?_
    refine q_get X hK h 0 rfl rfl wf_12 26 (by decide) rfl wm_5_196 dX12_goesPairs_6 ?_
    refine q_jn (pc2 := 28) (fun H locs ls st => st = [] ∧ qW D (va_A (wk_f147cc4b8 cy h0 p3 h1 w0 w1 w2 p4 p5 p6 p7 p8 p9 p10 p11 p12 p13 p14 w3 w4 w5 h2 w6 p15 p16 w7 h3 h4 p17 p18 w8 w9 w10 w11 w12 p19 w13 w14 w15 h1 f0 h2 f1 h3 f2 h4 f3) sz) s.heap (wk_f147cc4b8 cy h0 p3 h1 w0 w1 w2 p4 p5 p6 p7 p8 p9 p10 p11 p12 p13 p14 w3 w4 w5 h2 w6 p15 p16 w7 h3 h4 p17 p18 w8 w9 w10 w11 w12 p19 w13 w14 w15 h1 f0 h2 f1 h3 f2 h4 f3) H locs ∧ lv_has ls 7 [(0, .ref h0), (1, .int p0), (2, .int p1), (3, .int p2)]) (fun H locs ls st hP => ?_) (fun J_28 => ?_)
    · obtain ⟨rfl, h, hl⟩ := hP
      exact q_vret X hr hlk hK h (fun _ => 0, (vcons (fun _ => p17) (vcons (fun _ => p18) (vcons f2 (vcons f3 (fun _ => (fun _ => 0)))))), fun _ _ => 0) ⟨hp17, hp18, trivial⟩ [0, 1, 2, 3, 4] rfl rfl dX12_goesPairs_28 (Nat.le_of_ble_eq_true rfl) (Nat.le_of_ble_eq_true rfl)
    · skip
      refine lv_icmp_lt (tgt := 28) hx hb dX12_goesPairs_9 (by decide) (fun c_43 => ?_) (fun c_43 => ?_)
      · replace c_43 := i_lt (x := p1) (y := p17) rfl rfl c_43
        exact J_28 _ _ _ _ ⟨rfl, h, (lv_sub hl [0, 1, 2, 3] rfl)⟩
      · replace c_43 := i_nlt (x := p1) (y := p17) rfl rfl c_43
        refine lv_iload_n hx hb dX12_goesPairs_12 rfl (lv_at hl 2 rfl) ?_
        refine lv_aload_n hx hb dX12_goesPairs_13 rfl (lv_at hl 0 rfl) ?_
        refine q_get X hK h 0 rfl rfl wf_12 26 (by decide) rfl wm_5_196 dX12_goesPairs_14 ?_
        refine q_jn (pc2 := 29) (fun H locs ls st => st = [] ∧ qW D (va_A (wk_f147cc4b8 cy h0 p3 h1 w0 w1 w2 p4 p5 p6 p7 p8 p9 p10 p11 p12 p13 p14 w3 w4 w5 h2 w6 p15 p16 w7 h3 h4 p17 p18 w8 w9 w10 w11 w12 p19 w13 w14 w15 h1 f0 h2 f1 h3 f2 h4 f3) sz) s.heap (wk_f147cc4b8 cy h0 p3 h1 w0 w1 w2 p4 p5 p6 p7 p8 p9 p10 p11 p12 p13 p14 w3 w4 w5 h2 w6 p15 p16 w7 h3 h4 p17 p18 w8 w9 w10 w11 w12 p19 w13 w14 w15 h1 f0 h2 f1 h3 f2 h4 f3) H locs ∧ lv_has ls 7 [(0, .ref h0), (1, .int p0), (2, .int p1), (3, .int p2)]) (fun H locs ls st hP => ?_) (fun J_29 => ?_)
        · obtain ⟨rfl, h, hl⟩ := hP
          refine lv_aload_n hx hb dX12_goesPairs_29 rfl (lv_at hl 0 rfl) ?_
          refine lv_iload_n hx hb dX12_goesPairs_30 rfl (lv_at hl 2 rfl) ?_
          refine q_put (v := .int p1) X hK h 0 rfl rfl wf_12 tyX12 tyX12_ok nmX12 26 (by decide) wm_5_196 rfl rfl rfl (Nat.le_of_ble_eq_true rfl) dX12_goesPairs_31 (fun H locs h_45 => ?_)
          clear h
          replace h_45 : qW D _ _ (wk_f147cc4b8 cy h0 p3 h1 w0 w1 w2 p4 p5 p6 p7 p8 p9 p10 p11 p12 p13 p14 w3 w4 w5 h2 w6 p15 p16 w7 h3 h4 p1 p18 w8 w9 w10 w11 w12 p19 w13 w14 w15 h1 f0 h2 f1 h3 f2 h4 f3) _ _ := h_45
          refine lv_aload_n hx hb dX12_goesPairs_34 rfl (lv_at hl 0 rfl) ?_
          refine lv_iload_n hx hb dX12_goesPairs_35 rfl (lv_at hl 3 rfl) ?_
          refine q_put (v := .int p2) X hK h_45 0 rfl rfl wf_12 tyX12 tyX12_ok nmX12 27 (by decide) wm_5_197 rfl rfl rfl (Nat.le_of_ble_eq_true rfl) dX12_goesPairs_36 (fun H locs h_46 => ?_)
          clear h_45
          replace h_46 : qW D _ _ (wk_f147cc4b8 cy h0 p3 h1 w0 w1 w2 p4 p5 p6 p7 p8 p9 p10 p11 p12 p13 p14 w3 w4 w5 h2 w6 p15 p16 w7 h3 h4 p1 p2 w8 w9 w10 w11 w12 p19 w13 w14 w15 h1 f0 h2 f1 h3 f2 h4 f3) _ _ := h_46
          refine lv_iconst (v := 0) hx hb dX12_goesPairs_39 (by decide) ?_
          refine lv_istore (lv' := [(4, .int 0), (0, .ref h0), (1, .int p0), (2, .int p1), (3, .int p2)]) hx hb dX12_goesPairs_40 hl (by decide) rfl (fun ls_47 hl_47 => ?_)
          clear hl
          refine q_wl (fun (v42_48_0 : Int32) H locs ls => ∃ v42_48_1 : Nat → Int32, (0 ≤ (v42_48_0).toInt ∧ (v42_48_0).toInt ≤ 10) ∧ qW D (va_A (wk_f147cc4b8 cy h0 p3 h1 w0 w1 w2 p4 p5 p6 p7 p8 p9 p10 p11 p12 p13 p14 w3 w4 w5 h2 w6 p15 p16 w7 h3 h4 p17 p18 w8 w9 w10 w11 w12 p19 w13 w14 w15 h1 f0 h2 f1 h3 f2 h4 f3) sz) s.heap (wk_f147cc4b8 cy h0 p3 h1 w0 w1 w2 p4 p5 p6 p7 p8 p9 p10 p11 p12 p13 p14 w3 w4 w5 h2 w6 p15 p16 w7 h3 h4 p1 p2 w8 w9 w10 w11 w12 p19 w13 w14 w15 h1 f0 h2 f1 h3 f2 h4 v42_48_1) H locs ∧ lv_has ls 7 [(0, .ref h0), (1, .int p0), (2, .int p1), (3, .int p2), (4, .int v42_48_0)]) (fun (v42_48_0 : Int32) => (11 - (v42_48_0).toInt).toNat) (fun q_42 ih_42 H locs ls hP => ?_) 0 ⟨f3, ⟨by decide +kernel, by decide +kernel⟩, h_46, (lv_sub hl_47 [1, 2, 3, 4, 0] rfl)⟩
          obtain ⟨v42_48_0, rfl⟩ : ∃ z, z = q_42 := ⟨_, rfl⟩
          obtain ⟨v42_48_1, hv42_48_0, h, hl⟩ := hP
          refine lv_iload hx hb dX12_goesPairs_42 (lv_at hl 4 rfl) ?_
          refine lv_bipush (v := 10) hx hb dX12_goesPairs_44 (by decide) ?_
          refine lv_icmp_ge (tgt := 69) hx hb dX12_goesPairs_46 (by decide) (fun c_49 => ?_) (fun c_49 => ?_)
          · replace c_49 := i_le (x := 10) (y := v42_48_0) (show (10 : Int32).toInt = 10 by decide) rfl c_49
            exact q_vret X hr hlk hK h (fun _ => 0, (vcons (fun _ => p1) (vcons (fun _ => p2) (vcons f2 (vcons v42_48_1 (fun _ => (fun _ => 0)))))), fun _ _ => 0) ⟨(bw hp1 (by decide) (by decide)), hp2, trivial⟩ [0, 1, 2, 3, 4] rfl rfl dX12_goesPairs_69 (Nat.le_of_ble_eq_true rfl) (Nat.le_of_ble_eq_true rfl)
          · replace c_49 := i_nle (x := 10) (y := v42_48_0) (show (10 : Int32).toInt = 10 by decide) rfl c_49
            refine lv_aload_n hx hb dX12_goesPairs_49 rfl (lv_at hl 0 rfl) ?_
            refine q_get X hK h 0 rfl rfl wf_12 25 (by decide) rfl wm_5_195 dX12_goesPairs_50 ?_
            refine lv_iload hx hb dX12_goesPairs_53 (lv_at hl 4 rfl) ?_
            refine lv_aload_n hx hb dX12_goesPairs_55 rfl (lv_at hl 0 rfl) ?_
            refine q_get X hK h 0 rfl rfl wf_12 24 (by decide) rfl wm_5_194 dX12_goesPairs_56 ?_
            refine lv_iload hx hb dX12_goesPairs_59 (lv_at hl 4 rfl) ?_
            refine q_iald X hK h 3 rfl (i_in rfl (by omega) (by omega)) dX12_goesPairs_61 ?_
            refine q_any (fun z_50 hz_50 => ?_)
            refine q_iast X hK h 4 rfl (i_in rfl (by omega) (by omega)) dX12_goesPairs_62 (fun H locs h_52 => ?_)
            clear h
            replace h_52 : qW D _ _ (wk_f147cc4b8 cy h0 p3 h1 w0 w1 w2 p4 p5 p6 p7 p8 p9 p10 p11 p12 p13 p14 w3 w4 w5 h2 w6 p15 p16 w7 h3 h4 p1 p2 w8 w9 w10 w11 w12 p19 w13 w14 w15 h1 f0 h2 f1 h3 f2 h4 (upd v42_48_1 (Int32.toNatClampNeg v42_48_0) z_50)) _ _ := h_52
            obtain ⟨F_51, eF_51⟩ : ∃ z, (upd v42_48_1 (Int32.toNatClampNeg v42_48_0) z_50) = z := ⟨_, rfl⟩
            rw [eF_51] at h_52
            clear eF_51
            obtain ⟨z_53, ez_53, hz_53⟩ := e_add (x := v42_48_0) (y := Int32.ofInt 1) rfl (b := 1) (by decide) (by omega) (by omega)
            refine lv_iinc (v := z_53) (lv' := [(4, .int z_53), (0, .ref h0), (1, .int p0), (2, .int p1), (3, .int p2)]) hx hb dX12_goesPairs_63 hl (k := 4) rfl ez_53 (by decide) rfl (fun ls_53 hl_53 => ?_)
            clear hl
            refine lv_goto (tgt := 42) hx hb dX12_goesPairs_66 (by decide) ?_
            exact ih_42 z_53 (by show (11 - (z_53).toInt).toNat < (11 - (v42_48_0).toInt).toNat; omega) _ _ _ ⟨F_51, ⟨by omega, by omega⟩, h_52, (lv_sub hl_53 [1, 2, 3, 4, 0] rfl)⟩
        · skip
          refine lv_icmp_ne (tgt := 29) hx hb dX12_goesPairs_17 (by decide) (fun c_54 => ?_) (fun c_54 => ?_)
          · replace c_54 := i_ne (x := p1) (y := p17) rfl rfl c_54
            exact J_29 _ _ _ _ ⟨rfl, h, (lv_sub hl [0, 1, 2, 3] rfl)⟩
          · replace c_54 := i_eq (x := p1) (y := p17) rfl rfl c_54
            refine lv_iload_n hx hb dX12_goesPairs_20 rfl (lv_at hl 3 rfl) ?_
            refine lv_aload_n hx hb dX12_goesPairs_21 rfl (lv_at hl 0 rfl) ?_
            refine q_get X hK h 0 rfl rfl wf_12 27 (by decide) rfl wm_5_197 dX12_goesPairs_22 ?_
            refine lv_icmp_gt (tgt := 29) hx hb dX12_goesPairs_25 (by decide) (fun c_55 => ?_) (fun c_55 => ?_)
            · replace c_55 := i_lt (x := p18) (y := p2) rfl rfl c_55
              exact J_29 _ _ _ _ ⟨rfl, h, (lv_sub hl [0, 1, 2, 3] rfl)⟩
            · replace c_55 := i_nlt (x := p18) (y := p2) rfl rfl c_55
              exact J_28 _ _ _ _ ⟨rfl, h, (lv_sub hl [0, 1, 2, 3] rfl)⟩
set_option maxHeartbeats 4000000 in
set_option maxRecDepth 100000 in
theorem gX12_goesPairs_4b60efc (l : Launch) (D : va_G) (cy : Nat → ClassId) (h0 : Nat) (h1 : Nat) (h2 : Nat) (h3 : Nat) (h4 : Nat) (p0 : Int32) (p1 : Int32) (p2 : Int32) (p3 : Int32) (w0 : Value) (w1 : Value) (w2 : Value) (p4 : Int32) (p5 : Int32) (p6 : Int32) (p7 : Int32) (p8 : Int32) (p9 : Int32) (p10 : Int32) (p11 : Int32) (p12 : Int32) (p13 : Int32) (p14 : Int32) (w3 : Value) (w4 : Value) (w5 : Value) (w6 : Value) (p15 : Int32) (p16 : Int32) (w7 : Value) (p17 : Int32) (p18 : Int32) (w8 : Value) (w9 : Value) (w10 : Value) (w11 : Value) (w12 : Value) (p19 : Int32) (w13 : Value) (w14 : Value) (w15 : Value) (f0 : Nat → Int32) (p20 : Int32) (f1 : Nat → Int32) (f2 : Nat → Int32) (f3 : Nat → Int32) (hp0 : 0 ≤ (p0).toInt ∧ (p0).toInt ≤ 1023) (hp1 : 0 ≤ (p1).toInt ∧ (p1).toInt ≤ 3) (hp2 : (-2147483648) ≤ (p2).toInt ∧ (p2).toInt ≤ 2147483647) (hp3 : 0 ≤ (p3).toInt ∧ (p3).toInt ≤ 0) (hp4 : 0 ≤ (p4).toInt ∧ (p4).toInt ≤ 900) (hp5 : 0 ≤ (p5).toInt ∧ (p5).toInt ≤ 900) (hp6 : 0 ≤ (p6).toInt ∧ (p6).toInt ≤ 900) (hp7 : 0 ≤ (p7).toInt ∧ (p7).toInt ≤ 900) (hp8 : (-2147483648) ≤ (p8).toInt ∧ (p8).toInt ≤ 2147483647) (hp9 : 0 ≤ (p9).toInt ∧ (p9).toInt ≤ 999) (hp10 : (-2147483648) ≤ (p10).toInt ∧ (p10).toInt ≤ 2147483647) (hp11 : (-2147483648) ≤ (p11).toInt ∧ (p11).toInt ≤ 2147483647) (hp12 : (-2147483648) ≤ (p12).toInt ∧ (p12).toInt ≤ 2147483647) (hp13 : (-2147483648) ≤ (p13).toInt ∧ (p13).toInt ≤ 2147483647) (hp14 : (-2147483648) ≤ (p14).toInt ∧ (p14).toInt ≤ 2147483647) (hp15 : (-2147483648) ≤ (p15).toInt ∧ (p15).toInt ≤ 2147483647) (hp16 : (-2147483648) ≤ (p16).toInt ∧ (p16).toInt ≤ 2147483647) (hp17 : (-1) ≤ (p17).toInt ∧ (p17).toInt ≤ 10) (hp18 : (-2147483648) ≤ (p18).toInt ∧ (p18).toInt ≤ 2147483647) (hp19 : (-2147483648) ≤ (p19).toInt ∧ (p19).toInt ≤ 2147483647) (hp20 : 0 ≤ (p20).toInt ∧ (p20).toInt ≤ 10) (htf0_84 : f0 84 = p20) (rf0 : AL f0) (rf1 : RG f1 10 0 1023) (hpre0 : (p0 : Int32).toInt % 8 = 0) (sz : Nat) : MV l yX12_goesPairs cX12_goesPairs 7 { frames := 8, cells := 0, slots := 0, locals := 199 } [.ref h0, .int p0, .int p1, .int p2] D cy (wk_f147cc4b8 cy h0 p3 h1 w0 w1 w2 p4 p5 p6 p7 p8 p9 p10 p11 p12 p13 p14 w3 w4 w5 h2 w6 p15 p16 w7 h3 h4 p17 p18 w8 w9 w10 w11 w12 p19 w13 w14 w15 h1 f0 h2 f1 h3 f2 h4 f3) sz (fun u => ((-1) ≤ (u.2.1 0 0).toInt ∧ (u.2.1 0 0).toInt ≤ 10) ∧ ((-2147483648) ≤ (u.2.1 1 0).toInt ∧ (u.2.1 1 0).toInt ≤ 2147483647) ∧ True) (fun u => (wk_f147cc4b8 cy h0 p3 h1 w0 w1 w2 p4 p5 p6 p7 p8 p9 p10 p11 p12 p13 p14 w3 w4 w5 h2 w6 p15 p16 w7 h3 h4 (u.2.1 0 0) (u.2.1 1 0) w8 w9 w10 w11 w12 p19 w13 w14 w15 h1 f0 h2 f1 h3 (u.2.1 2) h4 (u.2.1 3))) 0 0 := by
  refine q_ent (own := RX12) (by decide) rfl (Nat.le_of_ble_eq_true rfl) (fun p e s m below meth c ls X hr hlk hnm hK hT h hA hl => ?_)
  obtain ⟨hx, hb, hml, hown, ht⟩ := id X
  replace hl : lv_has ls 7 [(0, .ref h0), (1, .int p0), (2, .int p1), (3, .int p2)] := hl
  refine lv_iload_n hx hb dX12_goesPairs_0 rfl (lv_at hl 1 rfl) ?_
  refine lv_if_ne (tgt := 70) hx hb dX12_goesPairs_1 (by decide) (fun c_1 => ?_) (fun c_1 => ?_)
  · replace c_1 := i_ne (x := p0) (y := 0) rfl (show (0 : Int32).toInt = 0 by decide) c_1
    refine lv_iload_n hx hb dX12_goesPairs_70 rfl (lv_at hl 1 rfl) ?_
    refine q_callSi (rest := []) (wr := (wk_f147cc4b8 cy h0 p3 h1 w0 w1 w2 p4 p5 p6 p7 p8 p9 p10 p11 p12 p13 p14 w3 w4 w5 h2 w6 p15 p16 w7 h3 h4 p17 p18 w8 w9 w10 w11 w12 p19 w13 w14 w15 h1 f0 h2 f1 h3 f2 h4 f3)) X hK hT hA h (fun sz => gX12_lowest_51df8cb l D cy p0 ⟨by omega, by omega⟩ sz) wm_7_67 wm_7_69 wm_1_12 hd_X12_lowest wm_7_68 ⟨Nat.le_of_ble_eq_true rfl, Nat.le_of_ble_eq_true rfl⟩ hl.1 rfl (Nat.le_of_ble_eq_true rfl) dX12_goesPairs_71 ⟨Nat.le_of_ble_eq_true rfl, Nat.le_of_ble_eq_true rfl⟩ [] [0, 1, 2, 3, 4] rfl rfl (by decide) rfl rfl (fun r_2 u_2 H locs w_2 h_2 => ?_)
    clear h
    obtain ⟨wr_2, y2_0, _⟩ := w_2
    replace h_2 : qW D _ _ (wk_f147cc4b8 cy h0 p3 h1 w0 w1 w2 p4 p5 p6 p7 p8 p9 p10 p11 p12 p13 p14 w3 w4 w5 h2 w6 p15 p16 w7 h3 h4 p17 p18 w8 w9 w10 w11 w12 p19 w13 w14 w15 h1 f0 h2 f1 h3 f2 h4 f3) _ _ := h_2
    refine lv_istore (lv' := [(4, .int r_2), (0, .ref h0), (1, .int p0), (2, .int p1), (3, .int p2)]) hx hb dX12_goesPairs_74 hl (by decide) rfl (fun ls_3 hl_3 => ?_)
    clear hl
    refine lv_iload_n hx hb dX12_goesPairs_76 rfl (lv_at hl_3 2 rfl) ?_
    refine lv_iconst (v := 1) hx hb dX12_goesPairs_77 (by decide) ?_
    refine lv_iload hx hb dX12_goesPairs_78 (lv_at hl_3 0 rfl) ?_
    refine lv_ishl hx hb dX12_goesPairs_80 ?_
    obtain ⟨z_4, ez_4, hz_4⟩ := e_shlk (p := r_2) 9 (by decide) rfl (by omega) (by omega)
    refine q_c z_4 ez_4 ?_
    refine lv_iconst (v := (-1)) hx hb dX12_goesPairs_81 (by decide) ?_
    refine lv_ixor hx hb dX12_goesPairs_82 ?_
    obtain ⟨z_5, ez_5, hz_5⟩ := e_any (z_4 ^^^ (-1))
    refine q_c z_5 ez_5 ?_
    refine lv_iand hx hb dX12_goesPairs_83 ?_
    obtain ⟨z_6, ez_6, hz_6⟩ := e_and1 (x := p0) (y := z_5) rfl (by omega)
    refine q_c z_6 ez_6 ?_
    have rs_7 := rest_low 3 (by omega) y2_0 (by omega) ez_4 ez_5 ez_6
    refine lv_istore (lv' := [(5, .int z_6), (4, .int r_2), (0, .ref h0), (1, .int p0), (2, .int p1), (3, .int p2)]) hx hb dX12_goesPairs_84 hl_3 (by decide) rfl (fun ls_8 hl_8 => ?_)
    clear hl_3
    refine lv_iload hx hb dX12_goesPairs_86 (lv_at hl_8 1 rfl) ?_
    refine lv_iconst (v := 1) hx hb dX12_goesPairs_88 (by decide) ?_
    refine lv_iadd hx hb dX12_goesPairs_89 ?_
    obtain ⟨z_9, ez_9, hz_9⟩ := e_add (x := r_2) (y := 1) rfl (show (1 : Int32).toInt = 1 by decide) (by omega) (by omega)
    refine q_c z_9 ez_9 ?_
    clear ez_9
    refine lv_istore (lv' := [(6, .int z_9), (5, .int z_6), (4, .int r_2), (0, .ref h0), (1, .int p0), (2, .int p1), (3, .int p2)]) hx hb dX12_goesPairs_90 hl_8 (by decide) rfl (fun ls_10 hl_10 => ?_)
    clear hl_8
    refine q_wl (fun (q : Int32 × Int32 × Int32) H locs ls => match q with | (v92_11_0, v92_11_1, v92_11_2) => ∃ v92_11_3 : Nat → Int32, ∃ v92_11_4 : Nat → Int32, (1 ≤ (v92_11_0).toInt ∧ (v92_11_0).toInt ≤ 10) ∧ ((-1) ≤ (v92_11_1).toInt ∧ (v92_11_1).toInt ≤ 10) ∧ ((-2147483648) ≤ (v92_11_2).toInt ∧ (v92_11_2).toInt ≤ 2147483647) ∧ qW D (va_A (wk_f147cc4b8 cy h0 p3 h1 w0 w1 w2 p4 p5 p6 p7 p8 p9 p10 p11 p12 p13 p14 w3 w4 w5 h2 w6 p15 p16 w7 h3 h4 p17 p18 w8 w9 w10 w11 w12 p19 w13 w14 w15 h1 f0 h2 f1 h3 f2 h4 f3) sz) s.heap (wk_f147cc4b8 cy h0 p3 h1 w0 w1 w2 p4 p5 p6 p7 p8 p9 p10 p11 p12 p13 p14 w3 w4 w5 h2 w6 p15 p16 w7 h3 h4 v92_11_1 v92_11_2 w8 w9 w10 w11 w12 p19 w13 w14 w15 h1 f0 h2 f1 h3 v92_11_3 h4 v92_11_4) H locs ∧ lv_has ls 7 [(0, .ref h0), (1, .int p0), (2, .int p1), (3, .int p2), (4, .int r_2), (5, .int z_6), (6, .int v92_11_0)]) (fun (q : Int32 × Int32 × Int32) => match q with | (v92_11_0, v92_11_1, v92_11_2) => (11 - (v92_11_0).toInt).toNat) (fun q_92 ih_92 H locs ls hP => ?_) (z_9, p17, p18) ⟨f2, f3, ⟨by omega, by omega⟩, hp17, hp18, h_2, (lv_sub hl_10 [3, 4, 5, 6, 2, 1, 0] rfl)⟩
    obtain ⟨v92_11_0, v92_11_1, v92_11_2⟩ := q_92
    obtain ⟨v92_11_3, v92_11_4, hv92_11_0, hv92_11_1, hv92_11_2, h, hl⟩ := hP
    refine lv_iload hx hb dX12_goesPairs_92 (lv_at hl 6 rfl) ?_
    refine lv_aload_n hx hb dX12_goesPairs_94 rfl (lv_at hl 0 rfl) ?_
    refine q_get X hK h 0 rfl rfl wf_12 1 (by decide) rfl wm_5_171 dX12_goesPairs_95 ?_
    refine lv_iconst (v := 2) hx hb dX12_goesPairs_98 (by decide) ?_
    refine q_iald X hK h 1 rfl (q_in (by decide +kernel)) dX12_goesPairs_99 ?_
    obtain ⟨z_12, ez_12, hz_12⟩ := al_P rf0 (x := 2) (show (2 : Int32).toInt = 2 by decide) (by omega) (by omega)
    refine q_c z_12 ez_12 ?_
    clear ez_12
    refine lv_icmp_ge (tgt := 196) hx hb dX12_goesPairs_100 (by decide) (fun c_13 => ?_) (fun c_13 => ?_)
    · replace c_13 := i_le (x := z_12) (y := v92_11_0) rfl rfl c_13
      refine lv_aload_n hx hb dX12_goesPairs_196 rfl (lv_at hl 0 rfl) ?_
      refine q_get X hK h 0 rfl rfl wf_12 24 (by decide) rfl wm_5_194 dX12_goesPairs_197 ?_
      refine lv_iload hx hb dX12_goesPairs_200 (lv_at hl 4 rfl) ?_
      refine lv_iconst (v := (-1)) hx hb dX12_goesPairs_202 (by decide) ?_
      refine q_iast X hK h 3 rfl (i_in rfl (by omega) (by omega)) dX12_goesPairs_203 (fun H locs h_15 => ?_)
      clear h
      replace h_15 : qW D _ _ (wk_f147cc4b8 cy h0 p3 h1 w0 w1 w2 p4 p5 p6 p7 p8 p9 p10 p11 p12 p13 p14 w3 w4 w5 h2 w6 p15 p16 w7 h3 h4 v92_11_1 v92_11_2 w8 w9 w10 w11 w12 p19 w13 w14 w15 h1 f0 h2 f1 h3 (upd v92_11_3 (Int32.toNatClampNeg r_2) (-1)) h4 v92_11_4) _ _ := h_15
      obtain ⟨F_14, eF_14⟩ : ∃ z, (upd v92_11_3 (Int32.toNatClampNeg r_2) (-1)) = z := ⟨_, rfl⟩
      rw [eF_14] at h_15
      clear eF_14
      refine lv_aload_n hx hb dX12_goesPairs_204 rfl (lv_at hl 0 rfl) ?_
      refine lv_iload hx hb dX12_goesPairs_205 (lv_at hl 5 rfl) ?_
      refine lv_iload_n hx hb dX12_goesPairs_207 rfl (lv_at hl 2 rfl) ?_
      refine lv_iload_n hx hb dX12_goesPairs_208 rfl (lv_at hl 3 rfl) ?_
      refine q_callVv (rest := []) (wr := []) X hK hT hA h_15 (fun sz => gX12_goesPairs_8901492 l D cy h0 h1 h2 h3 h4 z_6 p1 p2 p3 w0 w1 w2 p4 p5 p6 p7 p8 p9 p10 p11 p12 p13 p14 w3 w4 w5 w6 p15 p16 w7 v92_11_1 v92_11_2 w8 w9 w10 w11 w12 p19 w13 w14 w15 f0 p20 f1 F_14 v92_11_4 ⟨by omega, by omega⟩ (bw hp1 (by decide) (by decide)) (i_rng _) hp3 hp4 hp5 hp6 hp7 (i_rng _) hp9 (i_rng _) (i_rng _) (i_rng _) (i_rng _) (i_rng _) (i_rng _) (i_rng _) hv92_11_1 (i_rng _) (i_rng _) hp20 htf0_84 rf0 (rg_wide rf1 (by decide) (by decide)) ((show _ % 16 = 0 from rs_7.1)) sz) wm_7_116 wm_7_119 wm_1_12 hd_X12_goesPairs wm_7_118 wp_7_4 (ci := 12) (q0 := 0) rfl rfl ⟨Nat.le_of_ble_eq_true rfl, Nat.le_of_ble_eq_true rfl⟩ hl.1 rfl (Nat.le_of_ble_eq_true rfl) dX12_goesPairs_209 ⟨Nat.le_of_ble_eq_true rfl, Nat.le_of_ble_eq_true rfl⟩ [0, 1, 2, 3, 4] [] rfl rfl (by decide) rfl rfl (fun u_16 H locs w_16 h_16 => ?_)
      clear h_15
      obtain ⟨w16_0, w16_1, _⟩ := w_16
      replace h_16 : qW D _ _ (wk_f147cc4b8 cy h0 p3 h1 w0 w1 w2 p4 p5 p6 p7 p8 p9 p10 p11 p12 p13 p14 w3 w4 w5 h2 w6 p15 p16 w7 h3 h4 (u_16.2.1 0 0) (u_16.2.1 1 0) w8 w9 w10 w11 w12 p19 w13 w14 w15 h1 f0 h2 f1 h3 (u_16.2.1 2) h4 (u_16.2.1 3)) _ _ := h_16
      exact q_vret X hr hlk hK h_16 (fun _ => 0, (vcons (fun _ => (u_16.2.1 0 0)) (vcons (fun _ => (u_16.2.1 1 0)) (vcons (u_16.2.1 2) (vcons (u_16.2.1 3) (fun _ => (fun _ => 0)))))), fun _ _ => 0) ⟨w16_0, w16_1, trivial⟩ [0, 1, 2, 3, 4] rfl rfl dX12_goesPairs_212 (Nat.le_of_ble_eq_true rfl) (Nat.le_of_ble_eq_true rfl)
    · replace c_13 := i_nle (x := z_12) (y := v92_11_0) rfl rfl c_13
      refine lv_iload hx hb dX12_goesPairs_103 (lv_at hl 5 rfl) ?_
      refine lv_aload_n hx hb dX12_goesPairs_105 rfl (lv_at hl 0 rfl) ?_
      refine q_get X hK h 0 rfl rfl wf_12 19 (by decide) rfl wm_5_189 dX12_goesPairs_106 ?_
      refine lv_iload hx hb dX12_goesPairs_109 (lv_at hl 4 rfl) ?_
      refine q_iald X hK h 2 rfl (i_in rfl (by omega) (by omega)) dX12_goesPairs_111 ?_
      obtain ⟨z_17, ez_17, hz_17⟩ := rg_get rf1 (x := r_2) rfl (by omega) (by omega)
      refine q_c z_17 ez_17 ?_
      clear ez_17
      refine lv_iand hx hb dX12_goesPairs_112 ?_
      obtain ⟨z_18, ez_18, hz_18⟩ := e_and2 (x := z_6) (y := z_17) rfl (by omega)
      refine q_c z_18 ez_18 ?_
      clear ez_18
      refine lv_i2l hx hb dX12_goesPairs_113 rfl ?_
      obtain ⟨z_19, ez_19, hz_19⟩ := e_i2l (x := z_18) rfl
      refine q_cl z_19 ez_19 ?_
      clear ez_19
      refine lv_iload hx hb dX12_goesPairs_114 (lv_at hl 6 rfl) ?_
      refine q_callSi (rest := []) (wr := (wk_f147cc4b8 cy h0 p3 h1 w0 w1 w2 p4 p5 p6 p7 p8 p9 p10 p11 p12 p13 p14 w3 w4 w5 h2 w6 p15 p16 w7 h3 h4 v92_11_1 v92_11_2 w8 w9 w10 w11 w12 p19 w13 w14 w15 h1 f0 h2 f1 h3 v92_11_3 h4 v92_11_4)) X hK hT hA h (fun sz => gX12_isIn_b0455a8 l D cy z_19 v92_11_0 ⟨by omega, by omega⟩ ⟨by omega, by omega⟩ sz) wm_6_167 wm_6_169 wm_1_12 hd_X12_isIn wm_6_168 ⟨Nat.le_of_ble_eq_true rfl, Nat.le_of_ble_eq_true rfl⟩ hl.1 rfl (Nat.le_of_ble_eq_true rfl) dX12_goesPairs_116 ⟨Nat.le_of_ble_eq_true rfl, Nat.le_of_ble_eq_true rfl⟩ [] [0, 1, 2, 3, 4] rfl rfl (by decide) rfl rfl (fun r_20 u_20 H locs w_20 h_20 => ?_)
      clear h
      obtain ⟨wr_20, _⟩ := w_20
      replace h_20 : qW D _ _ (wk_f147cc4b8 cy h0 p3 h1 w0 w1 w2 p4 p5 p6 p7 p8 p9 p10 p11 p12 p13 p14 w3 w4 w5 h2 w6 p15 p16 w7 h3 h4 v92_11_1 v92_11_2 w8 w9 w10 w11 w12 p19 w13 w14 w15 h1 f0 h2 f1 h3 v92_11_3 h4 v92_11_4) _ _ := h_20
      refine q_jn (pc2 := 190) (fun H locs ls st => ∃ v190_21_0 : Int32, ∃ v190_21_1 : Int32, ∃ v190_21_2 : Nat → Int32, ∃ v190_21_3 : Nat → Int32, ((-1) ≤ (v190_21_0).toInt ∧ (v190_21_0).toInt ≤ 10) ∧ ((-2147483648) ≤ (v190_21_1).toInt ∧ (v190_21_1).toInt ≤ 2147483647) ∧ st = [] ∧ qW D (va_A (wk_f147cc4b8 cy h0 p3 h1 w0 w1 w2 p4 p5 p6 p7 p8 p9 p10 p11 p12 p13 p14 w3 w4 w5 h2 w6 p15 p16 w7 h3 h4 p17 p18 w8 w9 w10 w11 w12 p19 w13 w14 w15 h1 f0 h2 f1 h3 f2 h4 f3) sz) s.heap (wk_f147cc4b8 cy h0 p3 h1 w0 w1 w2 p4 p5 p6 p7 p8 p9 p10 p11 p12 p13 p14 w3 w4 w5 h2 w6 p15 p16 w7 h3 h4 v190_21_0 v190_21_1 w8 w9 w10 w11 w12 p19 w13 w14 w15 h1 f0 h2 f1 h3 v190_21_2 h4 v190_21_3) H locs ∧ lv_has ls 7 [(0, .ref h0), (1, .int p0), (2, .int p1), (3, .int p2), (4, .int r_2), (5, .int z_6), (6, .int v92_11_0)]) (fun H locs ls st hP => ?_) (fun J_190 => ?_)
      · obtain ⟨v190_21_0, v190_21_1, v190_21_2, v190_21_3, hv190_21_0, hv190_21_1, rfl, h, hl⟩ := hP
        obtain ⟨z_22, ez_22, hz_22⟩ := e_add (x := v92_11_0) (y := Int32.ofInt 1) rfl (b := 1) (by decide) (by omega) (by omega)
        refine lv_iinc (v := z_22) (lv' := [(6, .int z_22), (0, .ref h0), (1, .int p0), (2, .int p1), (3, .int p2), (4, .int r_2), (5, .int z_6)]) hx hb dX12_goesPairs_190 hl (k := 6) rfl ez_22 (by decide) rfl (fun ls_22 hl_22 => ?_)
        clear hl
        refine lv_goto (tgt := 92) hx hb dX12_goesPairs_193 (by decide) ?_
        exact ih_92 (z_22, v190_21_0, v190_21_1) (by show (11 - (z_22).toInt).toNat < (11 - (v92_11_0).toInt).toNat; omega) _ _ _ ⟨v190_21_2, v190_21_3, ⟨by omega, by omega⟩, hv190_21_0, hv190_21_1, h, (lv_sub hl_22 [1, 2, 3, 4, 5, 6, 0] rfl)⟩
      · skip
        refine lv_if_ne (tgt := 125) hx hb dX12_goesPairs_119 (by decide) (fun c_23 => ?_) (fun c_23 => ?_)
        · replace c_23 := i_ne (x := r_20) (y := 0) rfl (show (0 : Int32).toInt = 0 by decide) c_23
          refine lv_aload_n hx hb dX12_goesPairs_125 rfl (lv_at hl 0 rfl) ?_
          refine q_get X hK h_20 0 rfl rfl wf_12 24 (by decide) rfl wm_5_194 dX12_goesPairs_126 ?_
          refine lv_iload hx hb dX12_goesPairs_129 (lv_at hl 4 rfl) ?_
          refine lv_iload hx hb dX12_goesPairs_131 (lv_at hl 6 rfl) ?_
          refine q_iast X hK h_20 3 rfl (i_in rfl (by omega) (by omega)) dX12_goesPairs_133 (fun H locs h_25 => ?_)
          clear h_20
          replace h_25 : qW D _ _ (wk_f147cc4b8 cy h0 p3 h1 w0 w1 w2 p4 p5 p6 p7 p8 p9 p10 p11 p12 p13 p14 w3 w4 w5 h2 w6 p15 p16 w7 h3 h4 v92_11_1 v92_11_2 w8 w9 w10 w11 w12 p19 w13 w14 w15 h1 f0 h2 f1 h3 (upd v92_11_3 (Int32.toNatClampNeg r_2) v92_11_0) h4 v92_11_4) _ _ := h_25
          obtain ⟨F_24, eF_24⟩ : ∃ z, (upd v92_11_3 (Int32.toNatClampNeg r_2) v92_11_0) = z := ⟨_, rfl⟩
          rw [eF_24] at h_25
          clear eF_24
          refine lv_aload_n hx hb dX12_goesPairs_134 rfl (lv_at hl 0 rfl) ?_
          refine q_get X hK h_25 0 rfl rfl wf_12 24 (by decide) rfl wm_5_194 dX12_goesPairs_135 ?_
          refine lv_iload hx hb dX12_goesPairs_138 (lv_at hl 6 rfl) ?_
          refine lv_iload hx hb dX12_goesPairs_140 (lv_at hl 4 rfl) ?_
          refine q_iast X hK h_25 3 rfl (i_in rfl (by omega) (by omega)) dX12_goesPairs_142 (fun H locs h_27 => ?_)
          clear h_25
          replace h_27 : qW D _ _ (wk_f147cc4b8 cy h0 p3 h1 w0 w1 w2 p4 p5 p6 p7 p8 p9 p10 p11 p12 p13 p14 w3 w4 w5 h2 w6 p15 p16 w7 h3 h4 v92_11_1 v92_11_2 w8 w9 w10 w11 w12 p19 w13 w14 w15 h1 f0 h2 f1 h3 (upd F_24 (Int32.toNatClampNeg v92_11_0) r_2) h4 v92_11_4) _ _ := h_27
          obtain ⟨F_26, eF_26⟩ : ∃ z, (upd F_24 (Int32.toNatClampNeg v92_11_0) r_2) = z := ⟨_, rfl⟩
          rw [eF_26] at h_27
          clear eF_26
          refine lv_aload_n hx hb dX12_goesPairs_143 rfl (lv_at hl 0 rfl) ?_
          refine lv_iload hx hb dX12_goesPairs_144 (lv_at hl 5 rfl) ?_
          refine lv_iconst (v := 1) hx hb dX12_goesPairs_146 (by decide) ?_
          refine lv_iload hx hb dX12_goesPairs_147 (lv_at hl 6 rfl) ?_
          refine lv_ishl hx hb dX12_goesPairs_149 ?_
          obtain ⟨z_28, ez_28, hz_28⟩ := e_shlk (p := v92_11_0) 9 (by decide) rfl (by omega) (by omega)
          refine q_c z_28 ez_28 ?_
          clear ez_28
          refine lv_iconst (v := (-1)) hx hb dX12_goesPairs_150 (by decide) ?_
          refine lv_ixor hx hb dX12_goesPairs_151 ?_
          refine q_any (fun z_29 hz_29 => ?_)
          refine lv_iand hx hb dX12_goesPairs_152 ?_
          obtain ⟨z_30, ez_30, hz_30⟩ := e_and1 (x := z_6) (y := z_29) rfl (by omega)
          refine q_c z_30 ez_30 ?_
          have ad_31 := and_div 4 (by omega) rs_7.1 ez_30
          refine lv_iload_n hx hb dX12_goesPairs_153 rfl (lv_at hl 2 rfl) ?_
          refine lv_iconst (v := 1) hx hb dX12_goesPairs_154 (by decide) ?_
          refine lv_iadd hx hb dX12_goesPairs_155 ?_
          obtain ⟨z_32, ez_32, hz_32⟩ := e_add (x := p1) (y := 1) rfl (show (1 : Int32).toInt = 1 by decide) (by omega) (by omega)
          refine q_c z_32 ez_32 ?_
          clear ez_32
          refine lv_iload_n hx hb dX12_goesPairs_156 rfl (lv_at hl 3 rfl) ?_
          refine lv_aload_n hx hb dX12_goesPairs_157 rfl (lv_at hl 0 rfl) ?_
          refine q_get X hK h_27 0 rfl rfl wf_12 1 (by decide) rfl wm_5_171 dX12_goesPairs_158 ?_
          refine lv_bipush (v := 42) hx hb dX12_goesPairs_161 (by decide) ?_
          refine lv_iload hx hb dX12_goesPairs_163 (lv_at hl 4 rfl) ?_
          refine lv_iadd hx hb dX12_goesPairs_165 ?_
          obtain ⟨z_33, ez_33, hz_33⟩ := e_add (x := 42) (y := r_2) (show (42 : Int32).toInt = 42 by decide) rfl (by omega) (by omega)
          refine q_c z_33 ez_33 ?_
          clear ez_33
          refine q_iald X hK h_27 1 rfl (i_in rfl (by omega) (by omega)) dX12_goesPairs_166 ?_
          refine q_any (fun z_34 hz_34 => ?_)
          refine lv_iadd hx hb dX12_goesPairs_167 ?_
          refine q_any (fun z_35 hz_35 => ?_)
          refine lv_aload_n hx hb dX12_goesPairs_168 rfl (lv_at hl 0 rfl) ?_
          refine q_get X hK h_27 0 rfl rfl wf_12 1 (by decide) rfl wm_5_171 dX12_goesPairs_169 ?_
          refine lv_bipush (v := 42) hx hb dX12_goesPairs_172 (by decide) ?_
          refine lv_iload hx hb dX12_goesPairs_174 (lv_at hl 6 rfl) ?_
          refine lv_iadd hx hb dX12_goesPairs_176 ?_
          obtain ⟨z_36, ez_36, hz_36⟩ := e_add (x := 42) (y := v92_11_0) (show (42 : Int32).toInt = 42 by decide) rfl (by omega) (by omega)
          refine q_c z_36 ez_36 ?_
          clear ez_36
          refine q_iald X hK h_27 1 rfl (i_in rfl (by omega) (by omega)) dX12_goesPairs_177 ?_
          refine q_any (fun z_37 hz_37 => ?_)
          refine lv_iadd hx hb dX12_goesPairs_178 ?_
          refine q_any (fun z_38 hz_38 => ?_)
          refine q_callVv (rest := []) (wr := []) X hK hT hA h_27 (fun sz => gX12_goesPairs_8901492 l D cy h0 h1 h2 h3 h4 z_30 z_32 z_38 p3 w0 w1 w2 p4 p5 p6 p7 p8 p9 p10 p11 p12 p13 p14 w3 w4 w5 w6 p15 p16 w7 v92_11_1 v92_11_2 w8 w9 w10 w11 w12 p19 w13 w14 w15 f0 p20 f1 F_26 v92_11_4 ⟨by omega, by omega⟩ ⟨by omega, by omega⟩ (i_rng _) hp3 hp4 hp5 hp6 hp7 (i_rng _) hp9 (i_rng _) (i_rng _) (i_rng _) (i_rng _) (i_rng _) (i_rng _) (i_rng _) hv92_11_1 (i_rng _) (i_rng _) hp20 htf0_84 rf0 (rg_wide rf1 (by decide) (by decide)) ((show _ % 16 = 0 from ad_31)) sz) wm_7_116 wm_7_119 wm_1_12 hd_X12_goesPairs wm_7_118 wp_7_4 (ci := 12) (q0 := 0) rfl rfl ⟨Nat.le_of_ble_eq_true rfl, Nat.le_of_ble_eq_true rfl⟩ hl.1 rfl (Nat.le_of_ble_eq_true rfl) dX12_goesPairs_179 ⟨Nat.le_of_ble_eq_true rfl, Nat.le_of_ble_eq_true rfl⟩ [0, 1, 2, 3, 4] [] rfl rfl (by decide) rfl rfl (fun u_39 H locs w_39 h_39 => ?_)
          clear h_27
          obtain ⟨w39_0, w39_1, _⟩ := w_39
          replace h_39 : qW D _ _ (wk_f147cc4b8 cy h0 p3 h1 w0 w1 w2 p4 p5 p6 p7 p8 p9 p10 p11 p12 p13 p14 w3 w4 w5 h2 w6 p15 p16 w7 h3 h4 (u_39.2.1 0 0) (u_39.2.1 1 0) w8 w9 w10 w11 w12 p19 w13 w14 w15 h1 f0 h2 f1 h3 (u_39.2.1 2) h4 (u_39.2.1 3)) _ _ := h_39
          refine lv_aload_n hx hb dX12_goesPairs_182 rfl (lv_at hl 0 rfl) ?_
          refine q_get X hK h_39 0 rfl rfl wf_12 24 (by decide) rfl wm_5_194 dX12_goesPairs_183 ?_
          refine lv_iload hx hb dX12_goesPairs_186 (lv_at hl 6 rfl) ?_
          refine lv_iconst (v := (-1)) hx hb dX12_goesPairs_188 (by decide) ?_
          refine q_iast X hK h_39 3 rfl (i_in rfl (by omega) (by omega)) dX12_goesPairs_189 (fun H locs h_41 => ?_)
          clear h_39
          replace h_41 : qW D _ _ (wk_f147cc4b8 cy h0 p3 h1 w0 w1 w2 p4 p5 p6 p7 p8 p9 p10 p11 p12 p13 p14 w3 w4 w5 h2 w6 p15 p16 w7 h3 h4 (u_39.2.1 0 0) (u_39.2.1 1 0) w8 w9 w10 w11 w12 p19 w13 w14 w15 h1 f0 h2 f1 h3 (upd (u_39.2.1 2) (Int32.toNatClampNeg v92_11_0) (-1)) h4 (u_39.2.1 3)) _ _ := h_41
          obtain ⟨F_40, eF_40⟩ : ∃ z, (upd (u_39.2.1 2) (Int32.toNatClampNeg v92_11_0) (-1)) = z := ⟨_, rfl⟩
          rw [eF_40] at h_41
          clear eF_40
          exact J_190 _ _ _ _ ⟨(u_39.2.1 0 0), (u_39.2.1 1 0), F_40, (u_39.2.1 3), w39_0, w39_1, rfl, h_41, (lv_sub hl [0, 1, 2, 3, 4, 5, 6] rfl)⟩
        · replace c_23 := i_eq (x := r_20) (y := 0) rfl (show (0 : Int32).toInt = 0 by decide) c_23
          refine lv_goto (tgt := 190) hx hb dX12_goesPairs_122 (by decide) ?_
          exact J_190 _ _ _ _ ⟨v92_11_1, v92_11_2, v92_11_3, v92_11_4, hv92_11_1, hv92_11_2, rfl, h_20, (lv_sub hl [0, 1, 2, 3, 4, 5, 6] rfl)⟩
  · replace c_1 := i_eq (x := p0) (y := 0) rfl (show (0 : Int32).toInt = 0 by decide) c_1
    refine lv_iload_n hx hb dX12_goesPairs_4 rfl (lv_at hl 2 rfl) ?_
    refine lv_aload_n hx hb dX12_goesPairs_5 rfl (lv_at hl 0 rfl) ?_
    refine q_get X hK h 0 rfl rfl wf_12 26 (by decide) rfl wm_5_196 dX12_goesPairs_6 ?_
    refine q_jn (pc2 := 28) (fun H locs ls st => st = [] ∧ qW D (va_A (wk_f147cc4b8 cy h0 p3 h1 w0 w1 w2 p4 p5 p6 p7 p8 p9 p10 p11 p12 p13 p14 w3 w4 w5 h2 w6 p15 p16 w7 h3 h4 p17 p18 w8 w9 w10 w11 w12 p19 w13 w14 w15 h1 f0 h2 f1 h3 f2 h4 f3) sz) s.heap (wk_f147cc4b8 cy h0 p3 h1 w0 w1 w2 p4 p5 p6 p7 p8 p9 p10 p11 p12 p13 p14 w3 w4 w5 h2 w6 p15 p16 w7 h3 h4 p17 p18 w8 w9 w10 w11 w12 p19 w13 w14 w15 h1 f0 h2 f1 h3 f2 h4 f3) H locs ∧ lv_has ls 7 [(0, .ref h0), (1, .int p0), (2, .int p1), (3, .int p2)]) (fun H locs ls st hP => ?_) (fun J_28 => ?_)
    · obtain ⟨rfl, h, hl⟩ := hP
      exact q_vret X hr hlk hK h (fun _ => 0, (vcons (fun _ => p17) (vcons (fun _ => p18) (vcons f2 (vcons f3 (fun _ => (fun _ => 0)))))), fun _ _ => 0) ⟨hp17, hp18, trivial⟩ [0, 1, 2, 3, 4] rfl rfl dX12_goesPairs_28 (Nat.le_of_ble_eq_true rfl) (Nat.le_of_ble_eq_true rfl)
    · skip
      refine lv_icmp_lt (tgt := 28) hx hb dX12_goesPairs_9 (by decide) (fun c_43 => ?_) (fun c_43 => ?_)
      · replace c_43 := i_lt (x := p1) (y := p17) rfl rfl c_43
        exact J_28 _ _ _ _ ⟨rfl, h, (lv_sub hl [0, 1, 2, 3] rfl)⟩
      · replace c_43 := i_nlt (x := p1) (y := p17) rfl rfl c_43
        refine lv_iload_n hx hb dX12_goesPairs_12 rfl (lv_at hl 2 rfl) ?_
        refine lv_aload_n hx hb dX12_goesPairs_13 rfl (lv_at hl 0 rfl) ?_
        refine q_get X hK h 0 rfl rfl wf_12 26 (by decide) rfl wm_5_196 dX12_goesPairs_14 ?_
        refine q_jn (pc2 := 29) (fun H locs ls st => st = [] ∧ qW D (va_A (wk_f147cc4b8 cy h0 p3 h1 w0 w1 w2 p4 p5 p6 p7 p8 p9 p10 p11 p12 p13 p14 w3 w4 w5 h2 w6 p15 p16 w7 h3 h4 p17 p18 w8 w9 w10 w11 w12 p19 w13 w14 w15 h1 f0 h2 f1 h3 f2 h4 f3) sz) s.heap (wk_f147cc4b8 cy h0 p3 h1 w0 w1 w2 p4 p5 p6 p7 p8 p9 p10 p11 p12 p13 p14 w3 w4 w5 h2 w6 p15 p16 w7 h3 h4 p17 p18 w8 w9 w10 w11 w12 p19 w13 w14 w15 h1 f0 h2 f1 h3 f2 h4 f3) H locs ∧ lv_has ls 7 [(0, .ref h0), (1, .int p0), (2, .int p1), (3, .int p2)]) (fun H locs ls st hP => ?_) (fun J_29 => ?_)
        · obtain ⟨rfl, h, hl⟩ := hP
          refine lv_aload_n hx hb dX12_goesPairs_29 rfl (lv_at hl 0 rfl) ?_
          refine lv_iload_n hx hb dX12_goesPairs_30 rfl (lv_at hl 2 rfl) ?_
          refine q_put (v := .int p1) X hK h 0 rfl rfl wf_12 tyX12 tyX12_ok nmX12 26 (by decide) wm_5_196 rfl rfl rfl (Nat.le_of_ble_eq_true rfl) dX12_goesPairs_31 (fun H locs h_45 => ?_)
          clear h
          replace h_45 : qW D _ _ (wk_f147cc4b8 cy h0 p3 h1 w0 w1 w2 p4 p5 p6 p7 p8 p9 p10 p11 p12 p13 p14 w3 w4 w5 h2 w6 p15 p16 w7 h3 h4 p1 p18 w8 w9 w10 w11 w12 p19 w13 w14 w15 h1 f0 h2 f1 h3 f2 h4 f3) _ _ := h_45
          refine lv_aload_n hx hb dX12_goesPairs_34 rfl (lv_at hl 0 rfl) ?_
          refine lv_iload_n hx hb dX12_goesPairs_35 rfl (lv_at hl 3 rfl) ?_
          refine q_put (v := .int p2) X hK h_45 0 rfl rfl wf_12 tyX12 tyX12_ok nmX12 27 (by decide) wm_5_197 rfl rfl rfl (Nat.le_of_ble_eq_true rfl) dX12_goesPairs_36 (fun H locs h_46 => ?_)
          clear h_45
          replace h_46 : qW D _ _ (wk_f147cc4b8 cy h0 p3 h1 w0 w1 w2 p4 p5 p6 p7 p8 p9 p10 p11 p12 p13 p14 w3 w4 w5 h2 w6 p15 p16 w7 h3 h4 p1 p2 w8 w9 w10 w11 w12 p19 w13 w14 w15 h1 f0 h2 f1 h3 f2 h4 f3) _ _ := h_46
          refine lv_iconst (v := 0) hx hb dX12_goesPairs_39 (by decide) ?_
          refine lv_istore (lv' := [(4, .int 0), (0, .ref h0), (1, .int p0), (2, .int p1), (3, .int p2)]) hx hb dX12_goesPairs_40 hl (by decide) rfl (fun ls_47 hl_47 => ?_)
          clear hl
          refine q_wl (fun (v42_48_0 : Int32) H locs ls => ∃ v42_48_1 : Nat → Int32, (0 ≤ (v42_48_0).toInt ∧ (v42_48_0).toInt ≤ 10) ∧ qW D (va_A (wk_f147cc4b8 cy h0 p3 h1 w0 w1 w2 p4 p5 p6 p7 p8 p9 p10 p11 p12 p13 p14 w3 w4 w5 h2 w6 p15 p16 w7 h3 h4 p17 p18 w8 w9 w10 w11 w12 p19 w13 w14 w15 h1 f0 h2 f1 h3 f2 h4 f3) sz) s.heap (wk_f147cc4b8 cy h0 p3 h1 w0 w1 w2 p4 p5 p6 p7 p8 p9 p10 p11 p12 p13 p14 w3 w4 w5 h2 w6 p15 p16 w7 h3 h4 p1 p2 w8 w9 w10 w11 w12 p19 w13 w14 w15 h1 f0 h2 f1 h3 f2 h4 v42_48_1) H locs ∧ lv_has ls 7 [(0, .ref h0), (1, .int p0), (2, .int p1), (3, .int p2), (4, .int v42_48_0)]) (fun (v42_48_0 : Int32) => (11 - (v42_48_0).toInt).toNat) (fun q_42 ih_42 H locs ls hP => ?_) 0 ⟨f3, ⟨by decide +kernel, by decide +kernel⟩, h_46, (lv_sub hl_47 [1, 2, 3, 4, 0] rfl)⟩
          obtain ⟨v42_48_0, rfl⟩ : ∃ z, z = q_42 := ⟨_, rfl⟩
          obtain ⟨v42_48_1, hv42_48_0, h, hl⟩ := hP
          refine lv_iload hx hb dX12_goesPairs_42 (lv_at hl 4 rfl) ?_
          refine lv_bipush (v := 10) hx hb dX12_goesPairs_44 (by decide) ?_
          refine lv_icmp_ge (tgt := 69) hx hb dX12_goesPairs_46 (by decide) (fun c_49 => ?_) (fun c_49 => ?_)
          · replace c_49 := i_le (x := 10) (y := v42_48_0) (show (10 : Int32).toInt = 10 by decide) rfl c_49
            exact q_vret X hr hlk hK h (fun _ => 0, (vcons (fun _ => p1) (vcons (fun _ => p2) (vcons f2 (vcons v42_48_1 (fun _ => (fun _ => 0)))))), fun _ _ => 0) ⟨(bw hp1 (by decide) (by decide)), hp2, trivial⟩ [0, 1, 2, 3, 4] rfl rfl dX12_goesPairs_69 (Nat.le_of_ble_eq_true rfl) (Nat.le_of_ble_eq_true rfl)
          · replace c_49 := i_nle (x := 10) (y := v42_48_0) (show (10 : Int32).toInt = 10 by decide) rfl c_49
            refine lv_aload_n hx hb dX12_goesPairs_49 rfl (lv_at hl 0 rfl) ?_
            refine q_get X hK h 0 rfl rfl wf_12 25 (by decide) rfl wm_5_195 dX12_goesPairs_50 ?_
            refine lv_iload hx hb dX12_goesPairs_53 (lv_at hl 4 rfl) ?_
            refine lv_aload_n hx hb dX12_goesPairs_55 rfl (lv_at hl 0 rfl) ?_
            refine q_get X hK h 0 rfl rfl wf_12 24 (by decide) rfl wm_5_194 dX12_goesPairs_56 ?_
            refine lv_iload hx hb dX12_goesPairs_59 (lv_at hl 4 rfl) ?_
            refine q_iald X hK h 3 rfl (i_in rfl (by omega) (by omega)) dX12_goesPairs_61 ?_
            refine q_any (fun z_50 hz_50 => ?_)
            refine q_iast X hK h 4 rfl (i_in rfl (by omega) (by omega)) dX12_goesPairs_62 (fun H locs h_52 => ?_)
            clear h
            replace h_52 : qW D _ _ (wk_f147cc4b8 cy h0 p3 h1 w0 w1 w2 p4 p5 p6 p7 p8 p9 p10 p11 p12 p13 p14 w3 w4 w5 h2 w6 p15 p16 w7 h3 h4 p1 p2 w8 w9 w10 w11 w12 p19 w13 w14 w15 h1 f0 h2 f1 h3 f2 h4 (upd v42_48_1 (Int32.toNatClampNeg v42_48_0) z_50)) _ _ := h_52
            obtain ⟨F_51, eF_51⟩ : ∃ z, (upd v42_48_1 (Int32.toNatClampNeg v42_48_0) z_50) = z := ⟨_, rfl⟩
            rw [eF_51] at h_52
            clear eF_51
            obtain ⟨z_53, ez_53, hz_53⟩ := e_add (x := v42_48_0) (y := Int32.ofInt 1) rfl (b := 1) (by decide) (by omega) (by omega)
            refine lv_iinc (v := z_53) (lv' := [(4, .int z_53), (0, .ref h0), (1, .int p0), (2, .int p1), (3, .int p2)]) hx hb dX12_goesPairs_63 hl (k := 4) rfl ez_53 (by decide) rfl (fun ls_53 hl_53 => ?_)
            clear hl
            refine lv_goto (tgt := 42) hx hb dX12_goesPairs_66 (by decide) ?_
            exact ih_42 z_53 (by show (11 - (z_53).toInt).toNat < (11 - (v42_48_0).toInt).toNat; omega) _ _ _ ⟨F_51, ⟨by omega, by omega⟩, h_52, (lv_sub hl_53 [1, 2, 3, 4, 0] rfl)⟩
        · skip
          refine lv_icmp_ne (tgt := 29) hx hb dX12_goesPairs_17 (by decide) (fun c_54 => ?_) (fun c_54 => ?_)
          · replace c_54 := i_ne (x := p1) (y := p17) rfl rfl c_54
            exact J_29 _ _ _ _ ⟨rfl, h, (lv_sub hl [0, 1, 2, 3] rfl)⟩
          · replace c_54 := i_eq (x := p1) (y := p17) rfl rfl c_54
            refine lv_iload_n hx hb dX12_goesPairs_20 rfl (lv_at hl 3 rfl) ?_
            refine lv_aload_n hx hb dX12_goesPairs_21 rfl (lv_at hl 0 rfl) ?_
            refine q_get X hK h 0 rfl rfl wf_12 27 (by decide) rfl wm_5_197 dX12_goesPairs_22 ?_
            refine lv_icmp_gt (tgt := 29) hx hb dX12_goesPairs_25 (by decide) (fun c_55 => ?_) (fun c_55 => ?_)
            · replace c_55 := i_lt (x := p18) (y := p2) rfl rfl c_55
              exact J_29 _ _ _ _ ⟨rfl, h, (lv_sub hl [0, 1, 2, 3] rfl)⟩
            · replace c_55 := i_nlt (x := p18) (y := p2) rfl rfl c_55
              exact J_28 _ _ _ _ ⟨rfl, h, (lv_sub hl [0, 1, 2, 3] rfl)⟩
