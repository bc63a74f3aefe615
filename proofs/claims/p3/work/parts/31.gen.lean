def wk_69ec1558b (cy : Nat → ClassId) (a0 : Nat) (a1 : Int32) (a2 : Nat) (a3 a4 a5 : Value) (a6 a7 a8 a9 a10 a11 a12 a13 a14 a15 a16 : Int32) (a17 a18 : Nat) (a19 : Value) (a20 : Nat) (a21 : Value) (a22 a23 : Int32) (a24 : Value) (a25 a26 : Nat) (a27 a28 : Int32) (a29 a30 a31 a32 a33 : Value) (a34 : Int32) (a35 a36 a37 : Value) (a38 : Nat) (a39 : Nat → Int32) (a40 : Nat) (a41 : Nat → Int32) (a42 : Nat) (a43 : Nat → Int32) (a44 : Nat) (a45 : Nat → Int32) (a46 : Nat) (a47 : Nat → Int32) (a48 : Nat) (a49 : Nat → Int32) : va_W := [(a0, .inr (12, [.int a1, .ref a2, a3, a4, a5, .int a6, .int a7, .int a8, .int a9, .int a10, .int a11, .int a12, .int a13, .int a14, .int a15, .int a16, .ref a17, .ref a18, a19, .ref a20, a21, .int a22, .int a23, a24, .ref a25, .ref a26, .int a27, .int a28, a29, a30, a31, a32, a33, .int a34, a35, a36, a37])), (a38, .inl (cy 1, 3918, .inl a39)), (a40, .inl (cy 1, 900, .inl a41)), (a42, .inl (cy 1, 11, .inl a43)), (a44, .inl (cy 1, 10, .inl a45)), (a46, .inl (cy 1, 10, .inl a47)), (a48, .inl (cy 1, 10, .inl a49))]
def wk_794ff6232 (cy : Nat → ClassId) (a0 : Nat) (a1 : Nat → Int32) (a2 : Nat) (a3 : Nat → Int32) (a4 : Nat) (a5 : Nat → Int32) (a6 : Nat) (a7 : Nat → Int32) (a8 : Nat) (a9 : Nat → Int32) : va_W := [(a0, .inl (cy 1, 900, .inl a1)), (a2, .inl (cy 1, 11, .inl a3)), (a4, .inl (cy 1, 10, .inl a5)), (a6, .inl (cy 1, 10, .inl a7)), (a8, .inl (cy 1, 10, .inl a9))]
def wk_8e370af72 (cy : Nat → ClassId) (a0 : Nat) (a1 : Nat → Int32) (a2 : Nat) (a3 : Nat → Int32) (a4 : Nat) (a5 : Nat → Int32) (a6 : Nat) (a7 : Nat → Int32) (a8 : Nat) (a9 : Nat → Int32) (a10 : Nat) (a11 : Int32) (a12 : Nat) (a13 a14 a15 : Value) (a16 a17 a18 a19 a20 a21 a22 a23 a24 a25 a26 : Int32) (a27 a28 : Nat) (a29 : Value) (a30 : Nat) (a31 : Value) (a32 a33 : Int32) (a34 : Value) (a35 a36 : Nat) (a37 a38 : Int32) (a39 a40 a41 a42 a43 : Value) (a44 : Int32) (a45 a46 a47 : Value) (a48 : Nat) (a49 : Nat → Int32) : va_W := [(a0, .inl (cy 1, 900, .inl a1)), (a2, .inl (cy 1, 11, .inl a3)), (a4, .inl (cy 1, 10, .inl a5)), (a6, .inl (cy 1, 10, .inl a7)), (a8, .inl (cy 1, 10, .inl a9)), (a10, .inr (12, [.int a11, .ref a12, a13, a14, a15, .int a16, .int a17, .int a18, .int a19, .int a20, .int a21, .int a22, .int a23, .int a24, .int a25, .int a26, .ref a27, .ref a28, a29, .ref a30, a31, .int a32, .int a33, a34, .ref a35, .ref a36, .int a37, .int a38, a39, a40, a41, a42, a43, .int a44, a45, a46, a47])), (a48, .inl (cy 1, 3918, .inl a49))]
def wk_acf3c80ad (cy : Nat → ClassId) (a0 : Nat) (a1 : Nat → Int32) (a2 : Nat) (a3 : Nat → Int32) : va_W := [(a0, .inl (cy 1, 10, .inl a1)), (a2, .inl (cy 1, 10, .inl a3))]
def wk_46efe495a (cy : Nat → ClassId) (a0 : Nat) (a1 : Nat → Int32) (a2 : Nat) (a3 : Nat → Int32) (a4 : Nat) (a5 : Int32) (a6 : Nat) (a7 a8 a9 : Value) (a10 a11 a12 a13 a14 a15 a16 a17 a18 a19 a20 : Int32) (a21 a22 : Nat) (a23 : Value) (a24 : Nat) (a25 : Value) (a26 a27 : Int32) (a28 : Value) (a29 a30 : Nat) (a31 a32 : Int32) (a33 a34 a35 a36 a37 : Value) (a38 : Int32) (a39 a40 a41 : Value) (a42 : Nat) (a43 : Nat → Int32) (a44 : Nat) (a45 : Nat → Int32) (a46 : Nat) (a47 : Nat → Int32) (a48 : Nat) (a49 : Nat → Int32) : va_W := [(a0, .inl (cy 1, 10, .inl a1)), (a2, .inl (cy 1, 10, .inl a3)), (a4, .inr (12, [.int a5, .ref a6, a7, a8, a9, .int a10, .int a11, .int a12, .int a13, .int a14, .int a15, .int a16, .int a17, .int a18, .int a19, .int a20, .ref a21, .ref a22, a23, .ref a24, a25, .int a26, .int a27, a28, .ref a29, .ref a30, .int a31, .int a32, a33, a34, a35, a36, a37, .int a38, a39, a40, a41])), (a42, .inl (cy 1, 3918, .inl a43)), (a44, .inl (cy 1, 900, .inl a45)), (a46, .inl (cy 1, 11, .inl a47)), (a48, .inl (cy 1, 10, .inl a49))]
def wk_d169974a4 (cy : Nat → ClassId) (a0 : Nat) (a1 : Nat → Int32) (a2 : Nat) (a3 : Nat → Int32) (a4 : Nat) (a5 : Int32) (a6 : Nat) (a7 a8 a9 : Value) (a10 a11 a12 a13 a14 a15 a16 a17 a18 a19 a20 : Int32) (a21 a22 : Nat) (a23 : Value) (a24 : Nat) (a25 : Value) (a26 a27 : Int32) (a28 : Value) (a29 a30 : Nat) (a31 a32 : Int32) (a33 a34 a35 a36 a37 : Value) (a38 : Int32) (a39 a40 a41 : Value) (a42 : Nat) (a43 : Nat → Int32) (a44 : Nat) (a45 : Nat → Int32) (a46 : Nat) (a47 : Nat → Int32) (a48 : Nat) (a49 : Nat → Int32) : va_W := [(a0, .inl (cy 1, 900, .inl a1)), (a2, .inl (cy 1, 11, .inl a3)), (a4, .inr (12, [.int a5, .ref a6, a7, a8, a9, .int a10, .int a11, .int a12, .int a13, .int a14, .int a15, .int a16, .int a17, .int a18, .int a19, .int a20, .ref a21, .ref a22, a23, .ref a24, a25, .int a26, .int a27, a28, .ref a29, .ref a30, .int a31, .int a32, a33, a34, a35, a36, a37, .int a38, a39, a40, a41])), (a42, .inl (cy 1, 3918, .inl a43)), (a44, .inl (cy 1, 10, .inl a45)), (a46, .inl (cy 1, 10, .inl a47)), (a48, .inl (cy 1, 10, .inl a49))]
def wk_e3ea295b8 (cy : Nat → ClassId) (a0 : Nat) (a1 : Int32) (a2 : Nat) (a3 a4 a5 : Value) (a6 a7 a8 a9 a10 a11 a12 a13 a14 a15 a16 : Int32) (a17 a18 a19 : Value) (a20 : Nat) (a21 : Value) (a22 a23 : Int32) (a24 a25 a26 : Value) (a27 a28 : Int32) (a29 a30 a31 a32 a33 : Value) (a34 : Int32) (a35 a36 a37 : Value) (a38 : Nat) (a39 : Nat → Int32) (a40 : Nat) (a41 : Nat → Int32) : va_W := [(a0, .inr (12, [.int a1, .ref a2, a3, a4, a5, .int a6, .int a7, .int a8, .int a9, .int a10, .int a11, .int a12, .int a13, .int a14, .int a15, .int a16, a17, a18, a19, .ref a20, a21, .int a22, .int a23, a24, a25, a26, .int a27, .int a28, a29, a30, a31, a32, a33, .int a34, a35, a36, a37])), (a38, .inl (cy 1, 3918, .inl a39)), (a40, .inl (cy 1, 10, .inl a41))]
def wk_6f53864da (cy : Nat → ClassId) (a0 : Nat) (a1 : Nat → Int32) (a2 : Nat) (a3 : Nat → Int32) (a4 : Nat) (a5 : Nat → Int32) (a6 : Nat) (a7 : Nat → Int32) (a8 : Nat) (a9 : Int32) (a10 : Nat) (a11 a12 a13 : Value) (a14 a15 a16 a17 a18 a19 a20 a21 a22 a23 a24 : Int32) (a25 a26 : Nat) (a27 : Value) (a28 : Nat) (a29 : Value) (a30 a31 : Int32) (a32 : Value) (a33 a34 : Nat) (a35 a36 : Int32) (a37 a38 a39 a40 a41 : Value) (a42 : Int32) (a43 a44 a45 : Value) (a46 : Nat) (a47 : Nat → Int32) (a48 : Nat) (a49 : Nat → Int32) : va_W := [(a0, .inl (cy 1, 900, .inl a1)), (a2, .inl (cy 1, 11, .inl a3)), (a4, .inl (cy 1, 10, .inl a5)), (a6, .inl (cy 1, 10, .inl a7)), (a8, .inr (12, [.int a9, .ref a10, a11, a12, a13, .int a14, .int a15, .int a16, .int a17, .int a18, .int a19, .int a20, .int a21, .int a22, .int a23, .int a24, .ref a25, .ref a26, a27, .ref a28, a29, .int a30, .int a31, a32, .ref a33, .ref a34, .int a35, .int a36, a37, a38, a39, a40, a41, .int a42, a43, a44, a45])), (a46, .inl (cy 1, 3918, .inl a47)), (a48, .inl (cy 1, 10, .inl a49))]
def wk_ce6a1f133 (cy : Nat → ClassId) (a0 : Nat) (a1 : Nat → Int32) (a2 : Nat) (a3 : Nat → Int32) (a4 : Nat) (a5 : Nat → Int32) : va_W := [(a0, .inl (cy 1, 900, .inl a1)), (a2, .inl (cy 1, 11, .inl a3)), (a4, .inl (cy 1, 10, .inl a5))]
def wk_6bef7693d (cy : Nat → ClassId) (a0 : Nat) (a1 : Nat → Int32) (a2 : Nat) (a3 : Nat → Int32) (a4 : Nat) (a5 : Nat → Int32) (a6 : Nat) (a7 : Int32) (a8 : Nat) (a9 a10 a11 : Value) (a12 a13 a14 a15 a16 a17 a18 a19 a20 a21 a22 : Int32) (a23 a24 : Nat) (a25 : Value) (a26 : Nat) (a27 : Value) (a28 a29 : Int32) (a30 a31 a32 : Value) (a33 a34 : Int32) (a35 a36 a37 a38 a39 : Value) (a40 : Int32) (a41 a42 a43 : Value) (a44 : Nat) (a45 : Nat → Int32) : va_W := [(a0, .inl (cy 1, 900, .inl a1)), (a2, .inl (cy 1, 11, .inl a3)), (a4, .inl (cy 1, 10, .inl a5)), (a6, .inr (12, [.int a7, .ref a8, a9, a10, a11, .int a12, .int a13, .int a14, .int a15, .int a16, .int a17, .int a18, .int a19, .int a20, .int a21, .int a22, .ref a23, .ref a24, a25, .ref a26, a27, .int a28, .int a29, a30, a31, a32, .int a33, .int a34, a35, a36, a37, a38, a39, .int a40, a41, a42, a43])), (a44, .inl (cy 1, 3918, .inl a45))]
def wk_a841d4271 (cy : Nat → ClassId) (a0 : Nat) (a1 : Nat → Int32) (a2 : Nat) (a3 : Nat → Int32) (a4 : Nat) (a5 : Int32) (a6 : Nat) (a7 a8 a9 : Value) (a10 a11 a12 a13 a14 a15 a16 a17 a18 a19 a20 : Int32) (a21 a22 : Nat) (a23 : Value) (a24 : Nat) (a25 : Value) (a26 a27 : Int32) (a28 a29 a30 : Value) (a31 a32 : Int32) (a33 a34 a35 a36 a37 : Value) (a38 : Int32) (a39 a40 a41 : Value) (a42 : Nat) (a43 : Nat → Int32) (a44 : Nat) (a45 : Nat → Int32) : va_W := [(a0, .inl (cy 1, 900, .inl a1)), (a2, .inl (cy 1, 11, .inl a3)), (a4, .inr (12, [.int a5, .ref a6, a7, a8, a9, .int a10, .int a11, .int a12, .int a13, .int a14, .int a15, .int a16, .int a17, .int a18, .int a19, .int a20, .ref a21, .ref a22, a23, .ref a24, a25, .int a26, .int a27, a28, a29, a30, .int a31, .int a32, a33, a34, a35, a36, a37, .int a38, a39, a40, a41])), (a42, .inl (cy 1, 3918, .inl a43)), (a44, .inl (cy 1, 10, .inl a45))]
def wk_410b6a568 (cy : Nat → ClassId) (a0 : Nat) (a1 : Int32) (a2 : Nat) (a3 a4 a5 : Value) (a6 a7 a8 a9 a10 a11 a12 a13 a14 a15 a16 : Int32) (a17 a18 a19 : Nat) (a20 a21 : Value) (a22 a23 : Int32) (a24 a25 a26 : Value) (a27 a28 : Int32) (a29 a30 a31 a32 a33 : Nat) (a34 : Int32) (a35 a36 a37 : Value) (a38 : Nat) (a39 : Nat → Int32) (a40 : Nat) (a41 : Nat → Int32) (a42 : Nat) (a43 : Nat → Int32) (a44 : Nat) (a45 : Nat → Int32) (a46 : Nat) (a47 : Nat → Int32) (a48 : Nat) (a49 : Nat → Int32) (a50 : Nat) (a51 : Nat → Int32) (a52 : Nat) (a53 : Nat → Int32) (a54 : Nat) (a55 : Nat → Int32) : va_W := [(a0, .inr (12, [.int a1, .ref a2, a3, a4, a5, .int a6, .int a7, .int a8, .int a9, .int a10, .int a11, .int a12, .int a13, .int a14, .int a15, .int a16, .ref a17, .ref a18, .ref a19, a20, a21, .int a22, .int a23, a24, a25, a26, .int a27, .int a28, .ref a29, .ref a30, .ref a31, .ref a32, .ref a33, .int a34, a35, a36, a37])), (a38, .inl (cy 1, 3918, .inl a39)), (a40, .inl (cy 1, 900, .inl a41)), (a42, .inl (cy 1, 11, .inl a43)), (a44, .inl (cy 1, 3, .inl a45)), (a46, .inl (cy 1, 1000, .inl a47)), (a48, .inl (cy 1, 1000, .inl a49)), (a50, .inl (cy 1, 1000, .inl a51)), (a52, .inl (cy 1, 1000, .inl a53)), (a54, .inl (cy 3, 1000, .inl a55))]
def wk_5ec465ffc (cy : Nat → ClassId) (a0 : Nat) (a1 : Nat → Int32) (a2 : Nat) (a3 : Nat → Int32) (a4 : Nat) (a5 : Nat → Int32) (a6 : Nat) (a7 : Nat → Int32) (a8 : Nat) (a9 : Nat → Int32) (a10 : Nat) (a11 : Nat → Int32) (a12 : Nat) (a13 : Nat → Int32) (a14 : Nat) (a15 : Nat → Int32) : va_W := [(a0, .inl (cy 1, 900, .inl a1)), (a2, .inl (cy 1, 11, .inl a3)), (a4, .inl (cy 1, 3, .inl a5)), (a6, .inl (cy 1, 1000, .inl a7)), (a8, .inl (cy 1, 1000, .inl a9)), (a10, .inl (cy 1, 1000, .inl a11)), (a12, .inl (cy 1, 1000, .inl a13)), (a14, .inl (cy 3, 1000, .inl a15))]
def wk_dcd050277 (cy : Nat → ClassId) (a0 : Nat) (a1 : Nat → Int32) (a2 : Nat) (a3 : Nat → Int32) (a4 : Nat) (a5 : Nat → Int32) (a6 : Nat) (a7 : Nat → Int32) (a8 : Nat) (a9 : Nat → Int32) (a10 : Nat) (a11 : Nat → Int32) (a12 : Nat) (a13 : Nat → Int32) (a14 : Nat) (a15 : Nat → Int32) (a16 : Nat) (a17 : Int32) (a18 : Nat) (a19 a20 a21 : Value) (a22 a23 a24 a25 a26 a27 a28 a29 a30 a31 a32 : Int32) (a33 a34 a35 : Nat) (a36 a37 : Value) (a38 a39 : Int32) (a40 a41 a42 : Value) (a43 a44 : Int32) (a45 a46 a47 a48 a49 : Nat) (a50 : Int32) (a51 a52 a53 : Value) (a54 : Nat) (a55 : Nat → Int32) : va_W := [(a0, .inl (cy 1, 900, .inl a1)), (a2, .inl (cy 1, 11, .inl a3)), (a4, .inl (cy 1, 3, .inl a5)), (a6, .inl (cy 1, 1000, .inl a7)), (a8, .inl (cy 1, 1000, .inl a9)), (a10, .inl (cy 1, 1000, .inl a11)), (a12, .inl (cy 1, 1000, .inl a13)), (a14, .inl (cy 3, 1000, .inl a15)), (a16, .inr (12, [.int a17, .ref a18, a19, a20, a21, .int a22, .int a23, .int a24, .int a25, .int a26, .int a27, .int a28, .int a29, .int a30, .int a31, .int a32, .ref a33, .ref a34, .ref a35, a36, a37, .int a38, .int a39, a40, a41, a42, .int a43, .int a44, .ref a45, .ref a46, .ref a47, .ref a48, .ref a49, .int a50, a51, a52, a53])), (a54, .inl (cy 1, 3918, .inl a55))]
def wk_aaeff7a5c (cy : Nat → ClassId) (a0 : Nat) (a1 : Nat → Int32) (a2 : Nat) (a3 : Nat → Int32) (a4 : Nat) (a5 : Nat → Int32) (a6 : Nat) (a7 : Nat → Int32) (a8 : Nat) (a9 : Nat → Int32) (a10 : Nat) (a11 : Nat → Int32) (a12 : Nat) (a13 : Int32) (a14 : Nat) (a15 a16 a17 : Value) (a18 a19 a20 a21 a22 a23 a24 a25 a26 a27 a28 : Int32) (a29 a30 a31 : Nat) (a32 a33 : Value) (a34 a35 : Int32) (a36 a37 a38 : Value) (a39 a40 : Int32) (a41 a42 a43 a44 a45 : Nat) (a46 : Int32) (a47 a48 a49 : Value) (a50 : Nat) (a51 : Nat → Int32) (a52 : Nat) (a53 : Nat → Int32) (a54 : Nat) (a55 : Nat → Int32) : va_W := [(a0, .inl (cy 1, 3, .inl a1)), (a2, .inl (cy 1, 1000, .inl a3)), (a4, .inl (cy 1, 1000, .inl a5)), (a6, .inl (cy 1, 1000, .inl a7)), (a8, .inl (cy 1, 1000, .inl a9)), (a10, .inl (cy 3, 1000, .inl a11)), (a12, .inr (12, [.int a13, .ref a14, a15, a16, a17, .int a18, .int a19, .int a20, .int a21, .int a22, .int a23, .int a24, .int a25, .int a26, .int a27, .int a28, .ref a29, .ref a30, .ref a31, a32, a33, .int a34, .int a35, a36, a37, a38, .int a39, .int a40, .ref a41, .ref a42, .ref a43, .ref a44, .ref a45, .int a46, a47, a48, a49])), (a50, .inl (cy 1, 3918, .inl a51)), (a52, .inl (cy 1, 900, .inl a53)), (a54, .inl (cy 1, 11, .inl a55))]
def wk_fbde43c06 (cy : Nat → ClassId) (a0 : Nat) (a1 : Nat → Int32) (a2 : Nat) (a3 : Nat → Int32) (a4 : Nat) (a5 : Nat → Int32) (a6 : Nat) (a7 : Nat → Int32) (a8 : Nat) (a9 : Nat → Int32) (a10 : Nat) (a11 : Nat → Int32) (a12 : Nat) (a13 : Nat → Int32) (a14 : Nat) (a15 : Nat → Int32) (a16 : Nat) (a17 : Int32) (a18 : Nat) (a19 a20 a21 : Value) (a22 a23 a24 a25 a26 a27 a28 a29 a30 a31 a32 : Int32) (a33 a34 a35 : Nat) (a36 a37 : Value) (a38 a39 : Int32) (a40 a41 a42 : Value) (a43 a44 : Int32) (a45 a46 a47 a48 a49 : Nat) (a50 : Int32) (a51 a52 a53 : Value) (a54 : Nat) (a55 : Nat → Int32) : va_W := [(a0, .inl (cy 1, 1000, .inl a1)), (a2, .inl (cy 1, 1000, .inl a3)), (a4, .inl (cy 1, 1000, .inl a5)), (a6, .inl (cy 1, 1000, .inl a7)), (a8, .inl (cy 3, 1000, .inl a9)), (a10, .inl (cy 1, 900, .inl a11)), (a12, .inl (cy 1, 11, .inl a13)), (a14, .inl (cy 1, 3, .inl a15)), (a16, .inr (12, [.int a17, .ref a18, a19, a20, a21, .int a22, .int a23, .int a24, .int a25, .int a26, .int a27, .int a28, .int a29, .int a30, .int a31, .int a32, .ref a33, .ref a34, .ref a35, a36, a37, .int a38, .int a39, a40, a41, a42, .int a43, .int a44, .ref a45, .ref a46, .ref a47, .ref a48, .ref a49, .int a50, a51, a52, a53])), (a54, .inl (cy 1, 3918, .inl a55))]
def wk_9062689b1 (cy : Nat → ClassId) (a0 : Nat) (a1 : Int32) (a2 : Nat) (a3 a4 a5 : Value) (a6 a7 a8 a9 a10 a11 a12 a13 a14 a15 a16 : Int32) (a17 a18 a19 a20 : Nat) (a21 : Value) (a22 a23 : Int32) (a24 : Nat) (a25 a26 : Value) (a27 a28 : Int32) (a29 a30 a31 a32 a33 : Value) (a34 : Int32) (a35 a36 a37 : Value) (a38 : Nat) (a39 : Nat → Int32) (a40 : Nat) (a41 : Nat → Int32) (a42 : Nat) (a43 : Nat → Int32) (a44 : Nat) (a45 : Nat → Int32) (a46 : Nat) (a47 : Nat → Int32) (a48 : Nat) (a49 : Nat → Int32) : va_W := [(a0, .inr (12, [.int a1, .ref a2, a3, a4, a5, .int a6, .int a7, .int a8, .int a9, .int a10, .int a11, .int a12, .int a13, .int a14, .int a15, .int a16, .ref a17, .ref a18, .ref a19, .ref a20, a21, .int a22, .int a23, .ref a24, a25, a26, .int a27, .int a28, a29, a30, a31, a32, a33, .int a34, a35, a36, a37])), (a38, .inl (cy 1, 3918, .inl a39)), (a40, .inl (cy 1, 900, .inl a41)), (a42, .inl (cy 1, 11, .inl a43)), (a44, .inl (cy 1, 3, .inl a45)), (a46, .inl (cy 1, 10, .inl a47)), (a48, .inl (cy 1, 1024, .inl a49))]
def wk_e4bc77630 (cy : Nat → ClassId) (a0 : Nat) (a1 : Nat → Int32) (a2 : Nat) (a3 : Int32) (a4 : Nat) (a5 a6 a7 : Value) (a8 a9 a10 a11 a12 a13 a14 a15 a16 a17 a18 : Int32) (a19 a20 a21 a22 : Nat) (a23 : Value) (a24 a25 : Int32) (a26 : Nat) (a27 a28 : Value) (a29 a30 : Int32) (a31 a32 a33 a34 a35 : Value) (a36 : Int32) (a37 a38 a39 : Value) (a40 : Nat) (a41 : Nat → Int32) (a42 : Nat) (a43 : Nat → Int32) (a44 : Nat) (a45 : Nat → Int32) (a46 : Nat) (a47 : Nat → Int32) (a48 : Nat) (a49 : Nat → Int32) : va_W := [(a0, .inl (cy 1, 3, .inl a1)), (a2, .inr (12, [.int a3, .ref a4, a5, a6, a7, .int a8, .int a9, .int a10, .int a11, .int a12, .int a13, .int a14, .int a15, .int a16, .int a17, .int a18, .ref a19, .ref a20, .ref a21, .ref a22, a23, .int a24, .int a25, .ref a26, a27, a28, .int a29, .int a30, a31, a32, a33, a34, a35, .int a36, a37, a38, a39])), (a40, .inl (cy 1, 3918, .inl a41)), (a42, .inl (cy 1, 900, .inl a43)), (a44, .inl (cy 1, 11, .inl a45)), (a46, .inl (cy 1, 10, .inl a47)), (a48, .inl (cy 1, 1024, .inl a49))]
def wk_e68ee150c (cy : Nat → ClassId) (a0 : Nat) (a1 : Nat → Int32) (a2 : Nat) (a3 : Nat → Int32) (a4 : Nat) (a5 : Nat → Int32) (a6 : Nat) (a7 : Nat → Int32) (a8 : Nat) (a9 : Nat → Int32) : va_W := [(a0, .inl (cy 1, 3, .inl a1)), (a2, .inl (cy 1, 900, .inl a3)), (a4, .inl (cy 1, 11, .inl a5)), (a6, .inl (cy 1, 10, .inl a7)), (a8, .inl (cy 1, 1024, .inl a9))]
def wk_bd9cc9370 (cy : Nat → ClassId) (a0 : Nat) (a1 : Nat → Int32) (a2 : Nat) (a3 : Nat → Int32) (a4 : Nat) (a5 : Nat → Int32) (a6 : Nat) (a7 : Nat → Int32) (a8 : Nat) (a9 : Nat → Int32) (a10 : Nat) (a11 : Int32) (a12 : Nat) (a13 a14 a15 : Value) (a16 a17 a18 a19 a20 a21 a22 a23 a24 a25 a26 : Int32) (a27 a28 a29 a30 : Nat) (a31 : Value) (a32 a33 : Int32) (a34 : Nat) (a35 a36 : Value) (a37 a38 : Int32) (a39 a40 a41 a42 a43 : Value) (a44 : Int32) (a45 a46 a47 : Value) (a48 : Nat) (a49 : Nat → Int32) : va_W := [(a0, .inl (cy 1, 3, .inl a1)), (a2, .inl (cy 1, 900, .inl a3)), (a4, .inl (cy 1, 11, .inl a5)), (a6, .inl (cy 1, 10, .inl a7)), (a8, .inl (cy 1, 1024, .inl a9)), (a10, .inr (12, [.int a11, .ref a12, a13, a14, a15, .int a16, .int a17, .int a18, .int a19, .int a20, .int a21, .int a22, .int a23, .int a24, .int a25, .int a26, .ref a27, .ref a28, .ref a29, .ref a30, a31, .int a32, .int a33, .ref a34, a35, a36, .int a37, .int a38, a39, a40, a41, a42, a43, .int a44, a45, a46, a47])), (a48, .inl (cy 1, 3918, .inl a49))]
def wk_eec75f9e5 (cy : Nat → ClassId) (a0 : Nat) (a1 : Nat → Int32) (a2 : Nat) (a3 : Nat → Int32) : va_W := [(a0, .inl (cy 1, 10, .inl a1)), (a2, .inl (cy 1, 1024, .inl a3))]
theorem wm_7_112 : Cond.methodLink RX12 361 yX12_laysPairs ∈ WG := wg_t7 (List.mem_of_getElem? (i := 112) rfl) rfl
theorem wm_7_115 : Cond.code yX12_laysPairs cX12_laysPairs 3 none ∈ WG := wg_t7 (List.mem_of_getElem? (i := 115) rfl) rfl
theorem wm_7_114 : Cond.instanceMethod yX12_laysPairs ∈ WG := wg_t7 (List.mem_of_getElem? (i := 114) rfl) rfl
theorem wp_7_3 : Cond.selects RX12 yX12_laysPairs yX12_laysPairs ∈ WG := wg_p (q := (yX12_laysPairs, 37)) (wg_p7 (List.mem_of_getElem? (i := 3) rfl)) rfl
theorem wm_7_128 : Cond.methodLink RX12 364 yX12_pieceOf ∈ WG := wg_t7 (List.mem_of_getElem? (i := 128) rfl) rfl
theorem wm_7_131 : Cond.code yX12_pieceOf cX12_pieceOf 6 (some .int) ∈ WG := wg_t7 (List.mem_of_getElem? (i := 131) rfl) rfl
theorem wm_7_130 : Cond.instanceMethod yX12_pieceOf ∈ WG := wg_t7 (List.mem_of_getElem? (i := 130) rfl) rfl
theorem wp_7_6 : Cond.selects RX12 yX12_pieceOf yX12_pieceOf ∈ WG := wg_p (q := (yX12_pieceOf, 37)) (wg_p7 (List.mem_of_getElem? (i := 6) rfl)) rfl
theorem wm_7_124 : Cond.methodLink RX12 367 yX12_piecesOf ∈ WG := wg_t7 (List.mem_of_getElem? (i := 124) rfl) rfl
theorem wm_7_127 : Cond.code yX12_piecesOf cX12_piecesOf 6 (some .int) ∈ WG := wg_t7 (List.mem_of_getElem? (i := 127) rfl) rfl
theorem wm_7_126 : Cond.instanceMethod yX12_piecesOf ∈ WG := wg_t7 (List.mem_of_getElem? (i := 126) rfl) rfl
theorem wp_7_5 : Cond.selects RX12 yX12_piecesOf yX12_piecesOf ∈ WG := wg_p (q := (yX12_piecesOf, 37)) (wg_p7 (List.mem_of_getElem? (i := 5) rfl)) rfl
theorem wm_7_152 : Cond.methodLink RX12 371 yX12_isCovered ∈ WG := wg_t7 (List.mem_of_getElem? (i := 152) rfl) rfl
theorem wm_7_155 : Cond.code yX12_isCovered cX12_isCovered 4 (some .boolean) ∈ WG := wg_t7 (List.mem_of_getElem? (i := 155) rfl) rfl
theorem wm_7_154 : Cond.instanceMethod yX12_isCovered ∈ WG := wg_t7 (List.mem_of_getElem? (i := 154) rfl) rfl
theorem wp_7_7 : Cond.selects RX12 yX12_isCovered yX12_isCovered ∈ WG := wg_p (q := (yX12_isCovered, 37)) (wg_p7 (List.mem_of_getElem? (i := 7) rfl)) rfl
theorem wm_7_164 : Cond.methodLink RX12 384 yX12_areTwo ∈ WG := wg_t7 (List.mem_of_getElem? (i := 164) rfl) rfl
theorem wm_7_167 : Cond.code yX12_areTwo cX12_areTwo 3 (some .boolean) ∈ WG := wg_t7 (List.mem_of_getElem? (i := 167) rfl) rfl
theorem wm_7_166 : Cond.instanceMethod yX12_areTwo ∈ WG := wg_t7 (List.mem_of_getElem? (i := 166) rfl) rfl
theorem wp_7_8 : Cond.selects RX12 yX12_areTwo yX12_areTwo ∈ WG := wg_p (q := (yX12_areTwo, 37)) (wg_p7 (List.mem_of_getElem? (i := 8) rfl)) rfl
theorem wm_5_202 : Cond.fieldLink RX12 66 "OppositeHouseModel" "isMet" "[Z" ∈ WG := wg_t5 (List.mem_of_getElem? (i := 202) rfl) rfl
theorem wm_7_172 : Cond.methodLink RX12 375 yX12_viewsOf ∈ WG := wg_t7 (List.mem_of_getElem? (i := 172) rfl) rfl
theorem wm_7_175 : Cond.code yX12_viewsOf cX12_viewsOf 2 (some .int) ∈ WG := wg_t7 (List.mem_of_getElem? (i := 175) rfl) rfl
theorem wm_7_174 : Cond.instanceMethod yX12_viewsOf ∈ WG := wg_t7 (List.mem_of_getElem? (i := 174) rfl) rfl
theorem wp_7_10 : Cond.selects RX12 yX12_viewsOf yX12_viewsOf ∈ WG := wg_p (q := (yX12_viewsOf, 37)) (wg_p7 (List.mem_of_getElem? (i := 10) rfl)) rfl
theorem wm_5_198 : Cond.fieldLink RX12 54 "OppositeHouseModel" "met" "[I" ∈ WG := wg_t5 (List.mem_of_getElem? (i := 198) rfl) rfl
theorem wm_5_200 : Cond.fieldLink RX12 60 "OppositeHouseModel" "metFrom" "[I" ∈ WG := wg_t5 (List.mem_of_getElem? (i := 200) rfl) rfl
theorem wm_7_176 : Cond.methodLink RX12 378 yX12_puts ∈ WG := wg_t7 (List.mem_of_getElem? (i := 176) rfl) rfl
theorem wm_7_179 : Cond.code yX12_puts cX12_puts 3 none ∈ WG := wg_t7 (List.mem_of_getElem? (i := 179) rfl) rfl
theorem wm_7_178 : Cond.instanceMethod yX12_puts ∈ WG := wg_t7 (List.mem_of_getElem? (i := 178) rfl) rfl
theorem wp_7_11 : Cond.selects RX12 yX12_puts yX12_puts ∈ WG := wg_p (q := (yX12_puts, 37)) (wg_p7 (List.mem_of_getElem? (i := 11) rfl)) rfl
theorem wm_5_199 : Cond.fieldLink RX12 57 "OppositeHouseModel" "metWith" "[I" ∈ WG := wg_t5 (List.mem_of_getElem? (i := 199) rfl) rfl
theorem wm_5_203 : Cond.fieldLink RX12 381 "OppositeHouseModel" "turns" "I" ∈ WG := wg_t5 (List.mem_of_getElem? (i := 203) rfl) rfl
theorem wm_5_201 : Cond.fieldLink RX12 63 "OppositeHouseModel" "turning" "[I" ∈ WG := wg_t5 (List.mem_of_getElem? (i := 201) rfl) rfl
theorem wm_7_168 : Cond.methodLink RX12 387 yX12_laysTurning ∈ WG := wg_t7 (List.mem_of_getElem? (i := 168) rfl) rfl
theorem wm_7_171 : Cond.code yX12_laysTurning cX12_laysTurning 10 (some .int) ∈ WG := wg_t7 (List.mem_of_getElem? (i := 171) rfl) rfl
theorem wm_7_170 : Cond.instanceMethod yX12_laysTurning ∈ WG := wg_t7 (List.mem_of_getElem? (i := 170) rfl) rfl
theorem wp_7_9 : Cond.selects RX12 yX12_laysTurning yX12_laysTurning ∈ WG := wg_p (q := (yX12_laysTurning, 37)) (wg_p7 (List.mem_of_getElem? (i := 9) rfl)) rfl
theorem hd_X12_laysPairs : yX12_laysPairs.cls ≠ "java/lang/invoke/MethodHandle" ∧ yX12_laysPairs.cls ≠ "java/lang/invoke/VarHandle" ∧ (parseMethodDescriptor yX12_laysPairs.desc).map (fun d => d.parameters.length) = some 1 := by decide +kernel
theorem hd_X12_pieceOf : yX12_pieceOf.cls ≠ "java/lang/invoke/MethodHandle" ∧ yX12_pieceOf.cls ≠ "java/lang/invoke/VarHandle" ∧ (parseMethodDescriptor yX12_pieceOf.desc).map (fun d => d.parameters.length) = some 2 := by decide +kernel
theorem hd_X12_piecesOf : yX12_piecesOf.cls ≠ "java/lang/invoke/MethodHandle" ∧ yX12_piecesOf.cls ≠ "java/lang/invoke/VarHandle" ∧ (parseMethodDescriptor yX12_piecesOf.desc).map (fun d => d.parameters.length) = some 2 := by decide +kernel
theorem hd_X12_isCovered : yX12_isCovered.cls ≠ "java/lang/invoke/MethodHandle" ∧ yX12_isCovered.cls ≠ "java/lang/invoke/VarHandle" ∧ (parseMethodDescriptor yX12_isCovered.desc).map (fun d => d.parameters.length) = some 2 := by decide +kernel
theorem hd_X12_areTwo : yX12_areTwo.cls ≠ "java/lang/invoke/MethodHandle" ∧ yX12_areTwo.cls ≠ "java/lang/invoke/VarHandle" ∧ (parseMethodDescriptor yX12_areTwo.desc).map (fun d => d.parameters.length) = some 2 := by decide +kernel
theorem hd_X12_viewsOf : yX12_viewsOf.cls ≠ "java/lang/invoke/MethodHandle" ∧ yX12_viewsOf.cls ≠ "java/lang/invoke/VarHandle" ∧ (parseMethodDescriptor yX12_viewsOf.desc).map (fun d => d.parameters.length) = some 1 := by decide +kernel
theorem hd_X12_puts : yX12_puts.cls ≠ "java/lang/invoke/MethodHandle" ∧ yX12_puts.cls ≠ "java/lang/invoke/VarHandle" ∧ (parseMethodDescriptor yX12_puts.desc).map (fun d => d.parameters.length) = some 2 := by decide +kernel
theorem hd_X12_laysTurning : yX12_laysTurning.cls ≠ "java/lang/invoke/MethodHandle" ∧ yX12_laysTurning.cls ≠ "java/lang/invoke/VarHandle" ∧ (parseMethodDescriptor yX12_laysTurning.desc).map (fun d => d.parameters.length) = some 2 := by decide +kernel
theorem dX12_areTwo_0 : decode cX12_areTwo 0 = .ok (.aload_n 0, 1) := by decide +kernel
theorem dX12_areTwo_1 : decode cX12_areTwo 1 = .ok (.iload_n 1, 1) := by decide +kernel
theorem dX12_areTwo_2 : decode cX12_areTwo 2 = .ok (.i2l, 1) := by decide +kernel
theorem dX12_areTwo_3 : decode cX12_areTwo 3 = .ok (.invokevirtual 245, 3) := by decide +kernel
theorem dX12_areTwo_6 : decode cX12_areTwo 6 = .ok (.ifCond .eq 21, 3) := by decide +kernel
theorem dX12_areTwo_9 : decode cX12_areTwo 9 = .ok (.aload_n 0, 1) := by decide +kernel
theorem dX12_areTwo_10 : decode cX12_areTwo 10 = .ok (.iload_n 2, 1) := by decide +kernel
theorem dX12_areTwo_11 : decode cX12_areTwo 11 = .ok (.i2l, 1) := by decide +kernel
theorem dX12_areTwo_12 : decode cX12_areTwo 12 = .ok (.invokevirtual 245, 3) := by decide +kernel
theorem dX12_areTwo_15 : decode cX12_areTwo 15 = .ok (.ifCond .eq 12, 3) := by decide +kernel
theorem dX12_areTwo_18 : decode cX12_areTwo 18 = .ok (.iload_n 1, 1) := by decide +kernel
theorem dX12_areTwo_19 : decode cX12_areTwo 19 = .ok (.iload_n 2, 1) := by decide +kernel
theorem dX12_areTwo_20 : decode cX12_areTwo 20 = .ok (.if_icmp .eq 7, 3) := by decide +kernel
theorem dX12_areTwo_23 : decode cX12_areTwo 23 = .ok (.iconst 1, 1) := by decide +kernel
theorem dX12_areTwo_24 : decode cX12_areTwo 24 = .ok (.goto 4, 3) := by decide +kernel
theorem dX12_areTwo_27 : decode cX12_areTwo 27 = .ok (.iconst 0, 1) := by decide +kernel
theorem dX12_areTwo_28 : decode cX12_areTwo 28 = .ok (.ireturn, 1) := by decide +kernel
theorem dX12_bar_0 : decode cX12_bar 0 = .ok (.aload_n 0, 1) := by decide +kernel
theorem dX12_bar_1 : decode cX12_bar 1 = .ok (.iconst 0, 1) := by decide +kernel
theorem dX12_bar_2 : decode cX12_bar 2 = .ok (.putfield 1, 3) := by decide +kernel
theorem dX12_bar_5 : decode cX12_bar 5 = .ok (.iload_n 2, 1) := by decide +kernel
theorem dX12_bar_6 : decode cX12_bar 6 = .ok (.i2l, 1) := by decide +kernel
theorem dX12_bar_7 : decode cX12_bar 7 = .ok (.lconst 0, 1) := by decide +kernel
theorem dX12_bar_8 : decode cX12_bar 8 = .ok (.lconst 1, 1) := by decide +kernel
theorem dX12_bar_9 : decode cX12_bar 9 = .ok (.invokestatic 145, 3) := by decide +kernel
theorem dX12_bar_12 : decode cX12_bar 12 = .ok (.ifCond .ne 6, 3) := by decide +kernel
theorem dX12_bar_15 : decode cX12_bar 15 = .ok (.bipush (-2), 2) := by decide +kernel
theorem dX12_bar_17 : decode cX12_bar 17 = .ok (.ireturn, 1) := by decide +kernel
theorem dX12_bar_18 : decode cX12_bar 18 = .ok (.aload_n 0, 1) := by decide +kernel
theorem dX12_bar_19 : decode cX12_bar 19 = .ok (.iload_n 1, 1) := by decide +kernel
theorem dX12_bar_20 : decode cX12_bar 20 = .ok (.invokevirtual 349, 3) := by decide +kernel
theorem dX12_bar_23 : decode cX12_bar 23 = .ok (.ifCond .ne 6, 3) := by decide +kernel
theorem dX12_bar_26 : decode cX12_bar 26 = .ok (.bipush (-3), 2) := by decide +kernel
theorem dX12_bar_28 : decode cX12_bar 28 = .ok (.ireturn, 1) := by decide +kernel
theorem dX12_bar_29 : decode cX12_bar 29 = .ok (.aload_n 0, 1) := by decide +kernel
theorem dX12_bar_30 : decode cX12_bar 30 = .ok (.aload_n 0, 1) := by decide +kernel
theorem dX12_bar_31 : decode cX12_bar 31 = .ok (.getfield 13, 3) := by decide +kernel
theorem dX12_bar_34 : decode cX12_bar 34 = .ok (.bipush 52, 2) := by decide +kernel
theorem dX12_bar_36 : decode cX12_bar 36 = .ok (.iaload, 1) := by decide +kernel
theorem dX12_bar_37 : decode cX12_bar 37 = .ok (.invokevirtual 340, 3) := by decide +kernel
theorem dX12_bar_40 : decode cX12_bar 40 = .ok (.aload_n 0, 1) := by decide +kernel
theorem dX12_bar_41 : decode cX12_bar 41 = .ok (.iload_n 1, 1) := by decide +kernel
theorem dX12_bar_42 : decode cX12_bar 42 = .ok (.invokevirtual 361, 3) := by decide +kernel
theorem dX12_bar_45 : decode cX12_bar 45 = .ok (.iload_n 1, 1) := by decide +kernel
theorem dX12_bar_46 : decode cX12_bar 46 = .ok (.invokestatic 281, 3) := by decide +kernel
theorem dX12_bar_49 : decode cX12_bar 49 = .ok (.iconst 2, 1) := by decide +kernel
theorem dX12_bar_50 : decode cX12_bar 50 = .ok (.aload_n 0, 1) := by decide +kernel
theorem dX12_bar_51 : decode cX12_bar 51 = .ok (.getfield 352, 3) := by decide +kernel
theorem dX12_bar_54 : decode cX12_bar 54 = .ok (.imul, 1) := by decide +kernel
theorem dX12_bar_55 : decode cX12_bar 55 = .ok (.isub, 1) := by decide +kernel
theorem dX12_bar_56 : decode cX12_bar 56 = .ok (.istore_n 3, 1) := by decide +kernel
theorem dX12_bar_57 : decode cX12_bar 57 = .ok (.iconst (-1), 1) := by decide +kernel
theorem dX12_bar_58 : decode cX12_bar 58 = .ok (.istore 4, 2) := by decide +kernel
theorem dX12_bar_60 : decode cX12_bar 60 = .ok (.iconst 0, 1) := by decide +kernel
theorem dX12_bar_61 : decode cX12_bar 61 = .ok (.istore 5, 2) := by decide +kernel
theorem dX12_bar_63 : decode cX12_bar 63 = .ok (.iload 5, 2) := by decide +kernel
theorem dX12_bar_65 : decode cX12_bar 65 = .ok (.iload_n 1, 1) := by decide +kernel
theorem dX12_bar_66 : decode cX12_bar 66 = .ok (.if_icmp .gt 65, 3) := by decide +kernel
theorem dX12_bar_69 : decode cX12_bar 69 = .ok (.iload 5, 2) := by decide +kernel
theorem dX12_bar_71 : decode cX12_bar 71 = .ok (.iload_n 1, 1) := by decide +kernel
theorem dX12_bar_72 : decode cX12_bar 72 = .ok (.iconst (-1), 1) := by decide +kernel
theorem dX12_bar_73 : decode cX12_bar 73 = .ok (.ixor, 1) := by decide +kernel
theorem dX12_bar_74 : decode cX12_bar 74 = .ok (.iand, 1) := by decide +kernel
theorem dX12_bar_75 : decode cX12_bar 75 = .ok (.ifCond .ne 50, 3) := by decide +kernel
theorem dX12_bar_78 : decode cX12_bar 78 = .ok (.iload 4, 2) := by decide +kernel
theorem dX12_bar_80 : decode cX12_bar 80 = .ok (.iconst (-1), 1) := by decide +kernel
theorem dX12_bar_81 : decode cX12_bar 81 = .ok (.if_icmp .eq 19, 3) := by decide +kernel
theorem dX12_bar_84 : decode cX12_bar 84 = .ok (.iload 5, 2) := by decide +kernel
theorem dX12_bar_86 : decode cX12_bar 86 = .ok (.invokestatic 281, 3) := by decide +kernel
theorem dX12_bar_89 : decode cX12_bar 89 = .ok (.iload 4, 2) := by decide +kernel
theorem dX12_bar_91 : decode cX12_bar 91 = .ok (.invokestatic 281, 3) := by decide +kernel
theorem dX12_bar_94 : decode cX12_bar 94 = .ok (.if_icmp .lt 6, 3) := by decide +kernel
theorem dX12_bar_97 : decode cX12_bar 97 = .ok (.goto 28, 3) := by decide +kernel
theorem dX12_bar_100 : decode cX12_bar 100 = .ok (.aload_n 0, 1) := by decide +kernel
theorem dX12_bar_101 : decode cX12_bar 101 = .ok (.iload_n 1, 1) := by decide +kernel
theorem dX12_bar_102 : decode cX12_bar 102 = .ok (.iload 5, 2) := by decide +kernel
theorem dX12_bar_104 : decode cX12_bar 104 = .ok (.iconst (-1), 1) := by decide +kernel
theorem dX12_bar_105 : decode cX12_bar 105 = .ok (.ixor, 1) := by decide +kernel
theorem dX12_bar_106 : decode cX12_bar 106 = .ok (.iand, 1) := by decide +kernel
theorem dX12_bar_107 : decode cX12_bar 107 = .ok (.iconst 1, 1) := by decide +kernel
theorem dX12_bar_108 : decode cX12_bar 108 = .ok (.invokevirtual 367, 3) := by decide +kernel
theorem dX12_bar_111 : decode cX12_bar 111 = .ok (.iload 5, 2) := by decide +kernel
theorem dX12_bar_113 : decode cX12_bar 113 = .ok (.invokestatic 281, 3) := by decide +kernel
theorem dX12_bar_116 : decode cX12_bar 116 = .ok (.isub, 1) := by decide +kernel
theorem dX12_bar_117 : decode cX12_bar 117 = .ok (.iload_n 3, 1) := by decide +kernel
theorem dX12_bar_118 : decode cX12_bar 118 = .ok (.if_icmp .ne 7, 3) := by decide +kernel
theorem dX12_bar_121 : decode cX12_bar 121 = .ok (.iload 5, 2) := by decide +kernel
theorem dX12_bar_123 : decode cX12_bar 123 = .ok (.istore 4, 2) := by decide +kernel
theorem dX12_bar_125 : decode cX12_bar 125 = .ok (.iinc 5 1, 3) := by decide +kernel
theorem dX12_bar_128 : decode cX12_bar 128 = .ok (.goto (-65), 3) := by decide +kernel
theorem dX12_bar_131 : decode cX12_bar 131 = .ok (.iload_n 2, 1) := by decide +kernel
theorem dX12_bar_132 : decode cX12_bar 132 = .ok (.ifCond .ne 11, 3) := by decide +kernel
theorem dX12_bar_135 : decode cX12_bar 135 = .ok (.iload 4, 2) := by decide +kernel
theorem dX12_bar_137 : decode cX12_bar 137 = .ok (.invokestatic 281, 3) := by decide +kernel
theorem dX12_bar_140 : decode cX12_bar 140 = .ok (.goto 5, 3) := by decide +kernel
theorem dX12_bar_143 : decode cX12_bar 143 = .ok (.iload 4, 2) := by decide +kernel
theorem dX12_bar_145 : decode cX12_bar 145 = .ok (.ireturn, 1) := by decide +kernel
theorem dX12_bestDay_0 : decode cX12_bestDay 0 = .ok (.aload_n 0, 1) := by decide +kernel
theorem dX12_bestDay_1 : decode cX12_bestDay 1 = .ok (.iconst 0, 1) := by decide +kernel
theorem dX12_bestDay_2 : decode cX12_bestDay 2 = .ok (.putfield 1, 3) := by decide +kernel
theorem dX12_bestDay_5 : decode cX12_bestDay 5 = .ok (.iconst 0, 1) := by decide +kernel
theorem dX12_bestDay_6 : decode cX12_bestDay 6 = .ok (.istore_n 1, 1) := by decide +kernel
theorem dX12_bestDay_7 : decode cX12_bestDay 7 = .ok (.iconst (-1), 1) := by decide +kernel
theorem dX12_bestDay_8 : decode cX12_bestDay 8 = .ok (.istore_n 2, 1) := by decide +kernel
theorem dX12_bestDay_9 : decode cX12_bestDay 9 = .ok (.iconst 0, 1) := by decide +kernel
theorem dX12_bestDay_10 : decode cX12_bestDay 10 = .ok (.istore_n 3, 1) := by decide +kernel
theorem dX12_bestDay_11 : decode cX12_bestDay 11 = .ok (.iload_n 3, 1) := by decide +kernel
theorem dX12_bestDay_12 : decode cX12_bestDay 12 = .ok (.bipush 99, 2) := by decide +kernel
theorem dX12_bestDay_14 : decode cX12_bestDay 14 = .ok (.if_icmp .gt 57, 3) := by decide +kernel
theorem dX12_bestDay_17 : decode cX12_bestDay 17 = .ok (.aload_n 0, 1) := by decide +kernel
theorem dX12_bestDay_18 : decode cX12_bestDay 18 = .ok (.aload_n 0, 1) := by decide +kernel
theorem dX12_bestDay_19 : decode cX12_bestDay 19 = .ok (.getfield 13, 3) := by decide +kernel
theorem dX12_bestDay_22 : decode cX12_bestDay 22 = .ok (.bipush 52, 2) := by decide +kernel
theorem dX12_bestDay_24 : decode cX12_bestDay 24 = .ok (.iaload, 1) := by decide +kernel
theorem dX12_bestDay_25 : decode cX12_bestDay 25 = .ok (.iload_n 3, 1) := by decide +kernel
theorem dX12_bestDay_26 : decode cX12_bestDay 26 = .ok (.iadd, 1) := by decide +kernel
theorem dX12_bestDay_27 : decode cX12_bestDay 27 = .ok (.invokevirtual 340, 3) := by decide +kernel
theorem dX12_bestDay_30 : decode cX12_bestDay 30 = .ok (.aload_n 0, 1) := by decide +kernel
theorem dX12_bestDay_31 : decode cX12_bestDay 31 = .ok (.aload_n 0, 1) := by decide +kernel
theorem dX12_bestDay_32 : decode cX12_bestDay 32 = .ok (.aload_n 0, 1) := by decide +kernel
theorem dX12_bestDay_33 : decode cX12_bestDay 33 = .ok (.getfield 13, 3) := by decide +kernel
theorem dX12_bestDay_36 : decode cX12_bestDay 36 = .ok (.bipush 52, 2) := by decide +kernel
theorem dX12_bestDay_38 : decode cX12_bestDay 38 = .ok (.iaload, 1) := by decide +kernel
theorem dX12_bestDay_39 : decode cX12_bestDay 39 = .ok (.iload_n 3, 1) := by decide +kernel
theorem dX12_bestDay_40 : decode cX12_bestDay 40 = .ok (.iadd, 1) := by decide +kernel
theorem dX12_bestDay_41 : decode cX12_bestDay 41 = .ok (.invokevirtual 220, 3) := by decide +kernel
theorem dX12_bestDay_44 : decode cX12_bestDay 44 = .ok (.invokevirtual 361, 3) := by decide +kernel
theorem dX12_bestDay_47 : decode cX12_bestDay 47 = .ok (.aload_n 0, 1) := by decide +kernel
theorem dX12_bestDay_48 : decode cX12_bestDay 48 = .ok (.getfield 352, 3) := by decide +kernel
theorem dX12_bestDay_51 : decode cX12_bestDay 51 = .ok (.iload_n 2, 1) := by decide +kernel
theorem dX12_bestDay_52 : decode cX12_bestDay 52 = .ok (.if_icmp .gt 6, 3) := by decide +kernel
theorem dX12_bestDay_55 : decode cX12_bestDay 55 = .ok (.goto 10, 3) := by decide +kernel
theorem dX12_bestDay_58 : decode cX12_bestDay 58 = .ok (.iload_n 3, 1) := by decide +kernel
theorem dX12_bestDay_59 : decode cX12_bestDay 59 = .ok (.istore_n 1, 1) := by decide +kernel
theorem dX12_bestDay_60 : decode cX12_bestDay 60 = .ok (.aload_n 0, 1) := by decide +kernel
theorem dX12_bestDay_61 : decode cX12_bestDay 61 = .ok (.getfield 352, 3) := by decide +kernel
theorem dX12_bestDay_64 : decode cX12_bestDay 64 = .ok (.istore_n 2, 1) := by decide +kernel
theorem dX12_bestDay_65 : decode cX12_bestDay 65 = .ok (.iinc 3 1, 3) := by decide +kernel
theorem dX12_bestDay_68 : decode cX12_bestDay 68 = .ok (.goto (-57), 3) := by decide +kernel
theorem dX12_bestDay_71 : decode cX12_bestDay 71 = .ok (.iload_n 1, 1) := by decide +kernel
theorem dX12_bestDay_72 : decode cX12_bestDay 72 = .ok (.ireturn, 1) := by decide +kernel
theorem dX12_cover_0 : decode cX12_cover 0 = .ok (.aload_n 0, 1) := by decide +kernel
theorem dX12_cover_1 : decode cX12_cover 1 = .ok (.iconst 0, 1) := by decide +kernel
theorem dX12_cover_2 : decode cX12_cover 2 = .ok (.putfield 1, 3) := by decide +kernel
theorem dX12_cover_5 : decode cX12_cover 5 = .ok (.iload_n 2, 1) := by decide +kernel
theorem dX12_cover_6 : decode cX12_cover 6 = .ok (.i2l, 1) := by decide +kernel
theorem dX12_cover_7 : decode cX12_cover 7 = .ok (.lconst 0, 1) := by decide +kernel
theorem dX12_cover_8 : decode cX12_cover 8 = .ok (.lconst 1, 1) := by decide +kernel
theorem dX12_cover_9 : decode cX12_cover 9 = .ok (.invokestatic 145, 3) := by decide +kernel
theorem dX12_cover_12 : decode cX12_cover 12 = .ok (.ifCond .ne 6, 3) := by decide +kernel
theorem dX12_cover_15 : decode cX12_cover 15 = .ok (.bipush (-2), 2) := by decide +kernel
theorem dX12_cover_17 : decode cX12_cover 17 = .ok (.ireturn, 1) := by decide +kernel
theorem dX12_cover_18 : decode cX12_cover 18 = .ok (.aload_n 0, 1) := by decide +kernel
theorem dX12_cover_19 : decode cX12_cover 19 = .ok (.iload_n 1, 1) := by decide +kernel
theorem dX12_cover_20 : decode cX12_cover 20 = .ok (.invokevirtual 349, 3) := by decide +kernel
theorem dX12_cover_23 : decode cX12_cover 23 = .ok (.ifCond .ne 6, 3) := by decide +kernel
theorem dX12_cover_26 : decode cX12_cover 26 = .ok (.bipush (-3), 2) := by decide +kernel
theorem dX12_cover_28 : decode cX12_cover 28 = .ok (.ireturn, 1) := by decide +kernel
theorem dX12_cover_29 : decode cX12_cover 29 = .ok (.aload_n 0, 1) := by decide +kernel
theorem dX12_cover_30 : decode cX12_cover 30 = .ok (.aload_n 0, 1) := by decide +kernel
theorem dX12_cover_31 : decode cX12_cover 31 = .ok (.getfield 13, 3) := by decide +kernel
theorem dX12_cover_34 : decode cX12_cover 34 = .ok (.bipush 52, 2) := by decide +kernel
theorem dX12_cover_36 : decode cX12_cover 36 = .ok (.iaload, 1) := by decide +kernel
theorem dX12_cover_37 : decode cX12_cover 37 = .ok (.invokevirtual 340, 3) := by decide +kernel
theorem dX12_cover_40 : decode cX12_cover 40 = .ok (.aload_n 0, 1) := by decide +kernel
theorem dX12_cover_41 : decode cX12_cover 41 = .ok (.invokevirtual 255, 3) := by decide +kernel
theorem dX12_cover_44 : decode cX12_cover 44 = .ok (.iload_n 1, 1) := by decide +kernel
theorem dX12_cover_45 : decode cX12_cover 45 = .ok (.iconst (-1), 1) := by decide +kernel
theorem dX12_cover_46 : decode cX12_cover 46 = .ok (.ixor, 1) := by decide +kernel
theorem dX12_cover_47 : decode cX12_cover 47 = .ok (.iand, 1) := by decide +kernel
theorem dX12_cover_48 : decode cX12_cover 48 = .ok (.istore_n 3, 1) := by decide +kernel
theorem dX12_cover_49 : decode cX12_cover 49 = .ok (.iconst (-1), 1) := by decide +kernel
theorem dX12_cover_50 : decode cX12_cover 50 = .ok (.istore 4, 2) := by decide +kernel
theorem dX12_cover_52 : decode cX12_cover 52 = .ok (.iconst 0, 1) := by decide +kernel
theorem dX12_cover_53 : decode cX12_cover 53 = .ok (.istore 5, 2) := by decide +kernel
theorem dX12_cover_55 : decode cX12_cover 55 = .ok (.iload 5, 2) := by decide +kernel
theorem dX12_cover_57 : decode cX12_cover 57 = .ok (.iload_n 3, 1) := by decide +kernel
theorem dX12_cover_58 : decode cX12_cover 58 = .ok (.if_icmp .gt 51, 3) := by decide +kernel
theorem dX12_cover_61 : decode cX12_cover 61 = .ok (.iload 5, 2) := by decide +kernel
theorem dX12_cover_63 : decode cX12_cover 63 = .ok (.iload_n 3, 1) := by decide +kernel
theorem dX12_cover_64 : decode cX12_cover 64 = .ok (.iconst (-1), 1) := by decide +kernel
theorem dX12_cover_65 : decode cX12_cover 65 = .ok (.ixor, 1) := by decide +kernel
theorem dX12_cover_66 : decode cX12_cover 66 = .ok (.iand, 1) := by decide +kernel
theorem dX12_cover_67 : decode cX12_cover 67 = .ok (.ifCond .ne 36, 3) := by decide +kernel
theorem dX12_cover_70 : decode cX12_cover 70 = .ok (.iload 4, 2) := by decide +kernel
theorem dX12_cover_72 : decode cX12_cover 72 = .ok (.iconst (-1), 1) := by decide +kernel
theorem dX12_cover_73 : decode cX12_cover 73 = .ok (.if_icmp .eq 16, 3) := by decide +kernel
theorem dX12_cover_76 : decode cX12_cover 76 = .ok (.iload 5, 2) := by decide +kernel
theorem dX12_cover_78 : decode cX12_cover 78 = .ok (.invokestatic 281, 3) := by decide +kernel
theorem dX12_cover_81 : decode cX12_cover 81 = .ok (.iload 4, 2) := by decide +kernel
theorem dX12_cover_83 : decode cX12_cover 83 = .ok (.invokestatic 281, 3) := by decide +kernel
theorem dX12_cover_86 : decode cX12_cover 86 = .ok (.if_icmp .ge 17, 3) := by decide +kernel
theorem dX12_cover_89 : decode cX12_cover 89 = .ok (.aload_n 0, 1) := by decide +kernel
theorem dX12_cover_90 : decode cX12_cover 90 = .ok (.iload_n 1, 1) := by decide +kernel
theorem dX12_cover_91 : decode cX12_cover 91 = .ok (.iload 5, 2) := by decide +kernel
theorem dX12_cover_93 : decode cX12_cover 93 = .ok (.invokevirtual 371, 3) := by decide +kernel
theorem dX12_cover_96 : decode cX12_cover 96 = .ok (.ifCond .eq 7, 3) := by decide +kernel
theorem dX12_cover_99 : decode cX12_cover 99 = .ok (.iload 5, 2) := by decide +kernel
theorem dX12_cover_101 : decode cX12_cover 101 = .ok (.istore 4, 2) := by decide +kernel
theorem dX12_cover_103 : decode cX12_cover 103 = .ok (.iinc 5 1, 3) := by decide +kernel
theorem dX12_cover_106 : decode cX12_cover 106 = .ok (.goto (-51), 3) := by decide +kernel
theorem dX12_cover_109 : decode cX12_cover 109 = .ok (.iload 4, 2) := by decide +kernel
theorem dX12_cover_111 : decode cX12_cover 111 = .ok (.iconst (-1), 1) := by decide +kernel
theorem dX12_cover_112 : decode cX12_cover 112 = .ok (.if_icmp .eq 8, 3) := by decide +kernel
theorem dX12_cover_115 : decode cX12_cover 115 = .ok (.iload_n 2, 1) := by decide +kernel
theorem dX12_cover_116 : decode cX12_cover 116 = .ok (.iconst 1, 1) := by decide +kernel
theorem dX12_cover_117 : decode cX12_cover 117 = .ok (.if_icmp .ne 8, 3) := by decide +kernel
theorem dX12_cover_120 : decode cX12_cover 120 = .ok (.iload 4, 2) := by decide +kernel
theorem dX12_cover_122 : decode cX12_cover 122 = .ok (.goto 8, 3) := by decide +kernel
theorem dX12_cover_125 : decode cX12_cover 125 = .ok (.iload 4, 2) := by decide +kernel
theorem dX12_cover_127 : decode cX12_cover 127 = .ok (.invokestatic 281, 3) := by decide +kernel
theorem dX12_cover_130 : decode cX12_cover 130 = .ok (.ireturn, 1) := by decide +kernel
theorem dX12_firstDay_0 : decode cX12_firstDay 0 = .ok (.aload_n 0, 1) := by decide +kernel
theorem dX12_firstDay_1 : decode cX12_firstDay 1 = .ok (.iconst 0, 1) := by decide +kernel
theorem dX12_firstDay_2 : decode cX12_firstDay 2 = .ok (.putfield 1, 3) := by decide +kernel
theorem dX12_firstDay_5 : decode cX12_firstDay 5 = .ok (.iconst 0, 1) := by decide +kernel
theorem dX12_firstDay_6 : decode cX12_firstDay 6 = .ok (.istore_n 1, 1) := by decide +kernel
theorem dX12_firstDay_7 : decode cX12_firstDay 7 = .ok (.iload_n 1, 1) := by decide +kernel
theorem dX12_firstDay_8 : decode cX12_firstDay 8 = .ok (.bipush 99, 2) := by decide +kernel
theorem dX12_firstDay_10 : decode cX12_firstDay 10 = .ok (.if_icmp .gt 62, 3) := by decide +kernel
theorem dX12_firstDay_13 : decode cX12_firstDay 13 = .ok (.aload_n 0, 1) := by decide +kernel
theorem dX12_firstDay_14 : decode cX12_firstDay 14 = .ok (.aload_n 0, 1) := by decide +kernel
theorem dX12_firstDay_15 : decode cX12_firstDay 15 = .ok (.getfield 13, 3) := by decide +kernel
theorem dX12_firstDay_18 : decode cX12_firstDay 18 = .ok (.bipush 52, 2) := by decide +kernel
theorem dX12_firstDay_20 : decode cX12_firstDay 20 = .ok (.iaload, 1) := by decide +kernel
theorem dX12_firstDay_21 : decode cX12_firstDay 21 = .ok (.iload_n 1, 1) := by decide +kernel
theorem dX12_firstDay_22 : decode cX12_firstDay 22 = .ok (.iadd, 1) := by decide +kernel
theorem dX12_firstDay_23 : decode cX12_firstDay 23 = .ok (.invokevirtual 220, 3) := by decide +kernel
theorem dX12_firstDay_26 : decode cX12_firstDay 26 = .ok (.istore_n 2, 1) := by decide +kernel
theorem dX12_firstDay_27 : decode cX12_firstDay 27 = .ok (.iload_n 2, 1) := by decide +kernel
theorem dX12_firstDay_28 : decode cX12_firstDay 28 = .ok (.invokestatic 281, 3) := by decide +kernel
theorem dX12_firstDay_31 : decode cX12_firstDay 31 = .ok (.iconst 2, 1) := by decide +kernel
theorem dX12_firstDay_32 : decode cX12_firstDay 32 = .ok (.if_icmp .ge 6, 3) := by decide +kernel
theorem dX12_firstDay_35 : decode cX12_firstDay 35 = .ok (.goto 31, 3) := by decide +kernel
theorem dX12_firstDay_38 : decode cX12_firstDay 38 = .ok (.aload_n 0, 1) := by decide +kernel
theorem dX12_firstDay_39 : decode cX12_firstDay 39 = .ok (.aload_n 0, 1) := by decide +kernel
theorem dX12_firstDay_40 : decode cX12_firstDay 40 = .ok (.getfield 13, 3) := by decide +kernel
theorem dX12_firstDay_43 : decode cX12_firstDay 43 = .ok (.bipush 52, 2) := by decide +kernel
theorem dX12_firstDay_45 : decode cX12_firstDay 45 = .ok (.iaload, 1) := by decide +kernel
theorem dX12_firstDay_46 : decode cX12_firstDay 46 = .ok (.iload_n 1, 1) := by decide +kernel
theorem dX12_firstDay_47 : decode cX12_firstDay 47 = .ok (.iadd, 1) := by decide +kernel
theorem dX12_firstDay_48 : decode cX12_firstDay 48 = .ok (.invokevirtual 340, 3) := by decide +kernel
theorem dX12_firstDay_51 : decode cX12_firstDay 51 = .ok (.aload_n 0, 1) := by decide +kernel
theorem dX12_firstDay_52 : decode cX12_firstDay 52 = .ok (.invokevirtual 343, 3) := by decide +kernel
theorem dX12_firstDay_55 : decode cX12_firstDay 55 = .ok (.aload_n 0, 1) := by decide +kernel
theorem dX12_firstDay_56 : decode cX12_firstDay 56 = .ok (.getfield 45, 3) := by decide +kernel
theorem dX12_firstDay_59 : decode cX12_firstDay 59 = .ok (.iload_n 2, 1) := by decide +kernel
theorem dX12_firstDay_60 : decode cX12_firstDay 60 = .ok (.iaload, 1) := by decide +kernel
theorem dX12_firstDay_61 : decode cX12_firstDay 61 = .ok (.ifCond .le 5, 3) := by decide +kernel
theorem dX12_firstDay_64 : decode cX12_firstDay 64 = .ok (.iload_n 1, 1) := by decide +kernel
theorem dX12_firstDay_65 : decode cX12_firstDay 65 = .ok (.ireturn, 1) := by decide +kernel
theorem dX12_firstDay_66 : decode cX12_firstDay 66 = .ok (.iinc 1 1, 3) := by decide +kernel
theorem dX12_firstDay_69 : decode cX12_firstDay 69 = .ok (.goto (-62), 3) := by decide +kernel
theorem dX12_firstDay_72 : decode cX12_firstDay 72 = .ok (.iconst (-1), 1) := by decide +kernel
theorem dX12_firstDay_73 : decode cX12_firstDay 73 = .ok (.ireturn, 1) := by decide +kernel
theorem dX12_isCovered_0 : decode cX12_isCovered 0 = .ok (.iconst 0, 1) := by decide +kernel
theorem dX12_isCovered_1 : decode cX12_isCovered 1 = .ok (.istore_n 3, 1) := by decide +kernel
theorem dX12_isCovered_2 : decode cX12_isCovered 2 = .ok (.iload_n 3, 1) := by decide +kernel
theorem dX12_isCovered_3 : decode cX12_isCovered 3 = .ok (.aload_n 0, 1) := by decide +kernel
theorem dX12_isCovered_4 : decode cX12_isCovered 4 = .ok (.getfield 13, 3) := by decide +kernel
theorem dX12_isCovered_7 : decode cX12_isCovered 7 = .ok (.iconst 2, 1) := by decide +kernel
theorem dX12_isCovered_8 : decode cX12_isCovered 8 = .ok (.iaload, 1) := by decide +kernel
theorem dX12_isCovered_9 : decode cX12_isCovered 9 = .ok (.if_icmp .ge 31, 3) := by decide +kernel
theorem dX12_isCovered_12 : decode cX12_isCovered 12 = .ok (.iload_n 1, 1) := by decide +kernel
theorem dX12_isCovered_13 : decode cX12_isCovered 13 = .ok (.i2l, 1) := by decide +kernel
theorem dX12_isCovered_14 : decode cX12_isCovered 14 = .ok (.iload_n 3, 1) := by decide +kernel
theorem dX12_isCovered_15 : decode cX12_isCovered 15 = .ok (.invokestatic 251, 3) := by decide +kernel
theorem dX12_isCovered_18 : decode cX12_isCovered 18 = .ok (.ifCond .eq 16, 3) := by decide +kernel
theorem dX12_isCovered_21 : decode cX12_isCovered 21 = .ok (.aload_n 0, 1) := by decide +kernel
theorem dX12_isCovered_22 : decode cX12_isCovered 22 = .ok (.getfield 39, 3) := by decide +kernel
theorem dX12_isCovered_25 : decode cX12_isCovered 25 = .ok (.iload_n 3, 1) := by decide +kernel
theorem dX12_isCovered_26 : decode cX12_isCovered 26 = .ok (.iaload, 1) := by decide +kernel
theorem dX12_isCovered_27 : decode cX12_isCovered 27 = .ok (.iload_n 2, 1) := by decide +kernel
theorem dX12_isCovered_28 : decode cX12_isCovered 28 = .ok (.iand, 1) := by decide +kernel
theorem dX12_isCovered_29 : decode cX12_isCovered 29 = .ok (.ifCond .ne 5, 3) := by decide +kernel
theorem dX12_isCovered_32 : decode cX12_isCovered 32 = .ok (.iconst 0, 1) := by decide +kernel
theorem dX12_isCovered_33 : decode cX12_isCovered 33 = .ok (.ireturn, 1) := by decide +kernel
theorem dX12_isCovered_34 : decode cX12_isCovered 34 = .ok (.iinc 3 1, 3) := by decide +kernel
theorem dX12_isCovered_37 : decode cX12_isCovered 37 = .ok (.goto (-35), 3) := by decide +kernel
theorem dX12_isCovered_40 : decode cX12_isCovered 40 = .ok (.iconst 1, 1) := by decide +kernel
theorem dX12_isCovered_41 : decode cX12_isCovered 41 = .ok (.ireturn, 1) := by decide +kernel
theorem dX12_laundress_0 : decode cX12_laundress 0 = .ok (.aload_n 0, 1) := by decide +kernel
theorem dX12_laundress_1 : decode cX12_laundress 1 = .ok (.iconst 0, 1) := by decide +kernel
theorem dX12_laundress_2 : decode cX12_laundress 2 = .ok (.putfield 1, 3) := by decide +kernel
theorem dX12_laundress_5 : decode cX12_laundress 5 = .ok (.aload_n 0, 1) := by decide +kernel
theorem dX12_laundress_6 : decode cX12_laundress 6 = .ok (.iload_n 1, 1) := by decide +kernel
theorem dX12_laundress_7 : decode cX12_laundress 7 = .ok (.invokevirtual 349, 3) := by decide +kernel
theorem dX12_laundress_10 : decode cX12_laundress 10 = .ok (.ifCond .ne 6, 3) := by decide +kernel
theorem dX12_laundress_13 : decode cX12_laundress 13 = .ok (.bipush (-3), 2) := by decide +kernel
theorem dX12_laundress_15 : decode cX12_laundress 15 = .ok (.ireturn, 1) := by decide +kernel
theorem dX12_laundress_16 : decode cX12_laundress 16 = .ok (.aload_n 0, 1) := by decide +kernel
theorem dX12_laundress_17 : decode cX12_laundress 17 = .ok (.aload_n 0, 1) := by decide +kernel
theorem dX12_laundress_18 : decode cX12_laundress 18 = .ok (.getfield 13, 3) := by decide +kernel
theorem dX12_laundress_21 : decode cX12_laundress 21 = .ok (.bipush 52, 2) := by decide +kernel
theorem dX12_laundress_23 : decode cX12_laundress 23 = .ok (.iaload, 1) := by decide +kernel
theorem dX12_laundress_24 : decode cX12_laundress 24 = .ok (.invokevirtual 340, 3) := by decide +kernel
theorem dX12_laundress_27 : decode cX12_laundress 27 = .ok (.aload_n 0, 1) := by decide +kernel
theorem dX12_laundress_28 : decode cX12_laundress 28 = .ok (.invokevirtual 255, 3) := by decide +kernel
theorem dX12_laundress_31 : decode cX12_laundress 31 = .ok (.iload_n 1, 1) := by decide +kernel
theorem dX12_laundress_32 : decode cX12_laundress 32 = .ok (.iconst (-1), 1) := by decide +kernel
theorem dX12_laundress_33 : decode cX12_laundress 33 = .ok (.ixor, 1) := by decide +kernel
theorem dX12_laundress_34 : decode cX12_laundress 34 = .ok (.iand, 1) := by decide +kernel
theorem dX12_laundress_35 : decode cX12_laundress 35 = .ok (.istore_n 2, 1) := by decide +kernel
theorem dX12_laundress_36 : decode cX12_laundress 36 = .ok (.iconst (-1), 1) := by decide +kernel
theorem dX12_laundress_37 : decode cX12_laundress 37 = .ok (.istore_n 3, 1) := by decide +kernel
theorem dX12_laundress_38 : decode cX12_laundress 38 = .ok (.iconst 0, 1) := by decide +kernel
theorem dX12_laundress_39 : decode cX12_laundress 39 = .ok (.istore 4, 2) := by decide +kernel
theorem dX12_laundress_41 : decode cX12_laundress 41 = .ok (.iload 4, 2) := by decide +kernel
theorem dX12_laundress_43 : decode cX12_laundress 43 = .ok (.aload_n 0, 1) := by decide +kernel
theorem dX12_laundress_44 : decode cX12_laundress 44 = .ok (.getfield 13, 3) := by decide +kernel
theorem dX12_laundress_47 : decode cX12_laundress 47 = .ok (.iconst 2, 1) := by decide +kernel
theorem dX12_laundress_48 : decode cX12_laundress 48 = .ok (.iaload, 1) := by decide +kernel
theorem dX12_laundress_49 : decode cX12_laundress 49 = .ok (.if_icmp .ge 53, 3) := by decide +kernel
theorem dX12_laundress_52 : decode cX12_laundress 52 = .ok (.iload_n 2, 1) := by decide +kernel
theorem dX12_laundress_53 : decode cX12_laundress 53 = .ok (.i2l, 1) := by decide +kernel
theorem dX12_laundress_54 : decode cX12_laundress 54 = .ok (.iload 4, 2) := by decide +kernel
theorem dX12_laundress_56 : decode cX12_laundress 56 = .ok (.invokestatic 251, 3) := by decide +kernel
theorem dX12_laundress_59 : decode cX12_laundress 59 = .ok (.ifCond .eq 37, 3) := by decide +kernel
theorem dX12_laundress_62 : decode cX12_laundress 62 = .ok (.iload_n 3, 1) := by decide +kernel
theorem dX12_laundress_63 : decode cX12_laundress 63 = .ok (.iconst (-1), 1) := by decide +kernel
theorem dX12_laundress_64 : decode cX12_laundress 64 = .ok (.if_icmp .eq 29, 3) := by decide +kernel
theorem dX12_laundress_67 : decode cX12_laundress 67 = .ok (.aload_n 0, 1) := by decide +kernel
theorem dX12_laundress_68 : decode cX12_laundress 68 = .ok (.getfield 39, 3) := by decide +kernel
theorem dX12_laundress_71 : decode cX12_laundress 71 = .ok (.iload 4, 2) := by decide +kernel
theorem dX12_laundress_73 : decode cX12_laundress 73 = .ok (.iaload, 1) := by decide +kernel
theorem dX12_laundress_74 : decode cX12_laundress 74 = .ok (.iload_n 1, 1) := by decide +kernel
theorem dX12_laundress_75 : decode cX12_laundress 75 = .ok (.iand, 1) := by decide +kernel
theorem dX12_laundress_76 : decode cX12_laundress 76 = .ok (.invokestatic 281, 3) := by decide +kernel
theorem dX12_laundress_79 : decode cX12_laundress 79 = .ok (.aload_n 0, 1) := by decide +kernel
theorem dX12_laundress_80 : decode cX12_laundress 80 = .ok (.getfield 39, 3) := by decide +kernel
theorem dX12_laundress_83 : decode cX12_laundress 83 = .ok (.iload_n 3, 1) := by decide +kernel
theorem dX12_laundress_84 : decode cX12_laundress 84 = .ok (.iaload, 1) := by decide +kernel
theorem dX12_laundress_85 : decode cX12_laundress 85 = .ok (.iload_n 1, 1) := by decide +kernel
theorem dX12_laundress_86 : decode cX12_laundress 86 = .ok (.iand, 1) := by decide +kernel
theorem dX12_laundress_87 : decode cX12_laundress 87 = .ok (.invokestatic 281, 3) := by decide +kernel
theorem dX12_laundress_90 : decode cX12_laundress 90 = .ok (.if_icmp .le 6, 3) := by decide +kernel
theorem dX12_laundress_93 : decode cX12_laundress 93 = .ok (.iload 4, 2) := by decide +kernel
theorem dX12_laundress_95 : decode cX12_laundress 95 = .ok (.istore_n 3, 1) := by decide +kernel
theorem dX12_laundress_96 : decode cX12_laundress 96 = .ok (.iinc 4 1, 3) := by decide +kernel
theorem dX12_laundress_99 : decode cX12_laundress 99 = .ok (.goto (-58), 3) := by decide +kernel
theorem dX12_laundress_102 : decode cX12_laundress 102 = .ok (.iload_n 3, 1) := by decide +kernel
theorem dX12_laundress_103 : decode cX12_laundress 103 = .ok (.ireturn, 1) := by decide +kernel
theorem dX12_laysTurning_0 : decode cX12_laysTurning 0 = .ok (.iconst 0, 1) := by decide +kernel
theorem dX12_laysTurning_1 : decode cX12_laysTurning 1 = .ok (.istore_n 3, 1) := by decide +kernel
theorem dX12_laysTurning_2 : decode cX12_laysTurning 2 = .ok (.iload_n 3, 1) := by decide +kernel
theorem dX12_laysTurning_3 : decode cX12_laysTurning 3 = .ok (.sipush 1000, 3) := by decide +kernel
theorem dX12_laysTurning_6 : decode cX12_laysTurning 6 = .ok (.if_icmp .ge 16, 3) := by decide +kernel
theorem dX12_laysTurning_9 : decode cX12_laysTurning 9 = .ok (.aload_n 0, 1) := by decide +kernel
theorem dX12_laysTurning_10 : decode cX12_laysTurning 10 = .ok (.getfield 66, 3) := by decide +kernel
theorem dX12_laysTurning_13 : decode cX12_laysTurning 13 = .ok (.iload_n 3, 1) := by decide +kernel
theorem dX12_laysTurning_14 : decode cX12_laysTurning 14 = .ok (.iconst 0, 1) := by decide +kernel
theorem dX12_laysTurning_15 : decode cX12_laysTurning 15 = .ok (.bastore, 1) := by decide +kernel
theorem dX12_laysTurning_16 : decode cX12_laysTurning 16 = .ok (.iinc 3 1, 3) := by decide +kernel
theorem dX12_laysTurning_19 : decode cX12_laysTurning 19 = .ok (.goto (-17), 3) := by decide +kernel
theorem dX12_laysTurning_22 : decode cX12_laysTurning 22 = .ok (.aload_n 0, 1) := by decide +kernel
theorem dX12_laysTurning_23 : decode cX12_laysTurning 23 = .ok (.iload_n 1, 1) := by decide +kernel
theorem dX12_laysTurning_24 : decode cX12_laysTurning 24 = .ok (.invokevirtual 375, 3) := by decide +kernel
theorem dX12_laysTurning_27 : decode cX12_laysTurning 27 = .ok (.istore_n 3, 1) := by decide +kernel
theorem dX12_laysTurning_28 : decode cX12_laysTurning 28 = .ok (.aload_n 0, 1) := by decide +kernel
theorem dX12_laysTurning_29 : decode cX12_laysTurning 29 = .ok (.invokevirtual 255, 3) := by decide +kernel
theorem dX12_laysTurning_32 : decode cX12_laysTurning 32 = .ok (.istore 4, 2) := by decide +kernel
theorem dX12_laysTurning_34 : decode cX12_laysTurning 34 = .ok (.aload_n 0, 1) := by decide +kernel
theorem dX12_laysTurning_35 : decode cX12_laysTurning 35 = .ok (.getfield 54, 3) := by decide +kernel
theorem dX12_laysTurning_38 : decode cX12_laysTurning 38 = .ok (.iconst 0, 1) := by decide +kernel
theorem dX12_laysTurning_39 : decode cX12_laysTurning 39 = .ok (.iload_n 3, 1) := by decide +kernel
theorem dX12_laysTurning_40 : decode cX12_laysTurning 40 = .ok (.iastore, 1) := by decide +kernel
theorem dX12_laysTurning_41 : decode cX12_laysTurning 41 = .ok (.aload_n 0, 1) := by decide +kernel
theorem dX12_laysTurning_42 : decode cX12_laysTurning 42 = .ok (.getfield 60, 3) := by decide +kernel
theorem dX12_laysTurning_45 : decode cX12_laysTurning 45 = .ok (.iconst 0, 1) := by decide +kernel
theorem dX12_laysTurning_46 : decode cX12_laysTurning 46 = .ok (.iconst (-1), 1) := by decide +kernel
theorem dX12_laysTurning_47 : decode cX12_laysTurning 47 = .ok (.iastore, 1) := by decide +kernel
theorem dX12_laysTurning_48 : decode cX12_laysTurning 48 = .ok (.aload_n 0, 1) := by decide +kernel
theorem dX12_laysTurning_49 : decode cX12_laysTurning 49 = .ok (.getfield 66, 3) := by decide +kernel
theorem dX12_laysTurning_52 : decode cX12_laysTurning 52 = .ok (.iload_n 3, 1) := by decide +kernel
theorem dX12_laysTurning_53 : decode cX12_laysTurning 53 = .ok (.iconst 1, 1) := by decide +kernel
theorem dX12_laysTurning_54 : decode cX12_laysTurning 54 = .ok (.bastore, 1) := by decide +kernel
theorem dX12_laysTurning_55 : decode cX12_laysTurning 55 = .ok (.iconst 1, 1) := by decide +kernel
theorem dX12_laysTurning_56 : decode cX12_laysTurning 56 = .ok (.istore 5, 2) := by decide +kernel
theorem dX12_laysTurning_58 : decode cX12_laysTurning 58 = .ok (.iconst (-1), 1) := by decide +kernel
theorem dX12_laysTurning_59 : decode cX12_laysTurning 59 = .ok (.istore 6, 2) := by decide +kernel
theorem dX12_laysTurning_61 : decode cX12_laysTurning 61 = .ok (.iconst 0, 1) := by decide +kernel
theorem dX12_laysTurning_62 : decode cX12_laysTurning 62 = .ok (.istore 7, 2) := by decide +kernel
theorem dX12_laysTurning_64 : decode cX12_laysTurning 64 = .ok (.iload 7, 2) := by decide +kernel
theorem dX12_laysTurning_66 : decode cX12_laysTurning 66 = .ok (.iload 5, 2) := by decide +kernel
theorem dX12_laysTurning_68 : decode cX12_laysTurning 68 = .ok (.if_icmp .ge 174, 3) := by decide +kernel
theorem dX12_laysTurning_71 : decode cX12_laysTurning 71 = .ok (.iload 6, 2) := by decide +kernel
theorem dX12_laysTurning_73 : decode cX12_laysTurning 73 = .ok (.iconst (-1), 1) := by decide +kernel
theorem dX12_laysTurning_74 : decode cX12_laysTurning 74 = .ok (.if_icmp .ne 168, 3) := by decide +kernel
theorem dX12_laysTurning_77 : decode cX12_laysTurning 77 = .ok (.aload_n 0, 1) := by decide +kernel
theorem dX12_laysTurning_78 : decode cX12_laysTurning 78 = .ok (.iload_n 1, 1) := by decide +kernel
theorem dX12_laysTurning_79 : decode cX12_laysTurning 79 = .ok (.aload_n 0, 1) := by decide +kernel
theorem dX12_laysTurning_80 : decode cX12_laysTurning 80 = .ok (.getfield 54, 3) := by decide +kernel
theorem dX12_laysTurning_83 : decode cX12_laysTurning 83 = .ok (.iload 7, 2) := by decide +kernel
theorem dX12_laysTurning_85 : decode cX12_laysTurning 85 = .ok (.iaload, 1) := by decide +kernel
theorem dX12_laysTurning_86 : decode cX12_laysTurning 86 = .ok (.invokevirtual 378, 3) := by decide +kernel
theorem dX12_laysTurning_89 : decode cX12_laysTurning 89 = .ok (.aload_n 0, 1) := by decide +kernel
theorem dX12_laysTurning_90 : decode cX12_laysTurning 90 = .ok (.iload_n 1, 1) := by decide +kernel
theorem dX12_laysTurning_91 : decode cX12_laysTurning 91 = .ok (.iload_n 2, 1) := by decide +kernel
theorem dX12_laysTurning_92 : decode cX12_laysTurning 92 = .ok (.aload_n 0, 1) := by decide +kernel
theorem dX12_laysTurning_93 : decode cX12_laysTurning 93 = .ok (.getfield 13, 3) := by decide +kernel
theorem dX12_laysTurning_96 : decode cX12_laysTurning 96 = .ok (.bipush 52, 2) := by decide +kernel
theorem dX12_laysTurning_98 : decode cX12_laysTurning 98 = .ok (.iaload, 1) := by decide +kernel
theorem dX12_laysTurning_99 : decode cX12_laysTurning 99 = .ok (.invokevirtual 241, 3) := by decide +kernel
theorem dX12_laysTurning_102 : decode cX12_laysTurning 102 = .ok (.ifCond .eq 7, 3) := by decide +kernel
theorem dX12_laysTurning_105 : decode cX12_laysTurning 105 = .ok (.iload 7, 2) := by decide +kernel
theorem dX12_laysTurning_107 : decode cX12_laysTurning 107 = .ok (.istore 6, 2) := by decide +kernel
theorem dX12_laysTurning_109 : decode cX12_laysTurning 109 = .ok (.iconst 0, 1) := by decide +kernel
theorem dX12_laysTurning_110 : decode cX12_laysTurning 110 = .ok (.istore 8, 2) := by decide +kernel
theorem dX12_laysTurning_112 : decode cX12_laysTurning 112 = .ok (.iload 8, 2) := by decide +kernel
theorem dX12_laysTurning_114 : decode cX12_laysTurning 114 = .ok (.aload_n 0, 1) := by decide +kernel
theorem dX12_laysTurning_115 : decode cX12_laysTurning 115 = .ok (.getfield 13, 3) := by decide +kernel
theorem dX12_laysTurning_118 : decode cX12_laysTurning 118 = .ok (.iconst 2, 1) := by decide +kernel
theorem dX12_laysTurning_119 : decode cX12_laysTurning 119 = .ok (.iaload, 1) := by decide +kernel
theorem dX12_laysTurning_120 : decode cX12_laysTurning 120 = .ok (.if_icmp .ge 116, 3) := by decide +kernel
theorem dX12_laysTurning_123 : decode cX12_laysTurning 123 = .ok (.iload 8, 2) := by decide +kernel
theorem dX12_laysTurning_125 : decode cX12_laysTurning 125 = .ok (.iload_n 1, 1) := by decide +kernel
theorem dX12_laysTurning_126 : decode cX12_laysTurning 126 = .ok (.if_icmp .eq 104, 3) := by decide +kernel
theorem dX12_laysTurning_129 : decode cX12_laysTurning 129 = .ok (.iload 4, 2) := by decide +kernel
theorem dX12_laysTurning_131 : decode cX12_laysTurning 131 = .ok (.i2l, 1) := by decide +kernel
theorem dX12_laysTurning_132 : decode cX12_laysTurning 132 = .ok (.iload_n 1, 1) := by decide +kernel
theorem dX12_laysTurning_133 : decode cX12_laysTurning 133 = .ok (.invokestatic 251, 3) := by decide +kernel
theorem dX12_laysTurning_136 : decode cX12_laysTurning 136 = .ok (.ifCond .eq 94, 3) := by decide +kernel
theorem dX12_laysTurning_139 : decode cX12_laysTurning 139 = .ok (.iload 4, 2) := by decide +kernel
theorem dX12_laysTurning_141 : decode cX12_laysTurning 141 = .ok (.i2l, 1) := by decide +kernel
theorem dX12_laysTurning_142 : decode cX12_laysTurning 142 = .ok (.iload 8, 2) := by decide +kernel
theorem dX12_laysTurning_144 : decode cX12_laysTurning 144 = .ok (.invokestatic 251, 3) := by decide +kernel
theorem dX12_laysTurning_147 : decode cX12_laysTurning 147 = .ok (.ifCond .ne 6, 3) := by decide +kernel
theorem dX12_laysTurning_150 : decode cX12_laysTurning 150 = .ok (.goto 80, 3) := by decide +kernel
theorem dX12_laysTurning_153 : decode cX12_laysTurning 153 = .ok (.aload_n 0, 1) := by decide +kernel
theorem dX12_laysTurning_154 : decode cX12_laysTurning 154 = .ok (.iload_n 1, 1) := by decide +kernel
theorem dX12_laysTurning_155 : decode cX12_laysTurning 155 = .ok (.aload_n 0, 1) := by decide +kernel
theorem dX12_laysTurning_156 : decode cX12_laysTurning 156 = .ok (.getfield 54, 3) := by decide +kernel
theorem dX12_laysTurning_159 : decode cX12_laysTurning 159 = .ok (.iload 7, 2) := by decide +kernel
theorem dX12_laysTurning_161 : decode cX12_laysTurning 161 = .ok (.iaload, 1) := by decide +kernel
theorem dX12_laysTurning_162 : decode cX12_laysTurning 162 = .ok (.invokevirtual 378, 3) := by decide +kernel
theorem dX12_laysTurning_165 : decode cX12_laysTurning 165 = .ok (.aload_n 0, 1) := by decide +kernel
theorem dX12_laysTurning_166 : decode cX12_laysTurning 166 = .ok (.iload_n 1, 1) := by decide +kernel
theorem dX12_laysTurning_167 : decode cX12_laysTurning 167 = .ok (.iload 8, 2) := by decide +kernel
theorem dX12_laysTurning_169 : decode cX12_laysTurning 169 = .ok (.invokevirtual 270, 3) := by decide +kernel
theorem dX12_laysTurning_172 : decode cX12_laysTurning 172 = .ok (.aload_n 0, 1) := by decide +kernel
theorem dX12_laysTurning_173 : decode cX12_laysTurning 173 = .ok (.iload_n 1, 1) := by decide +kernel
theorem dX12_laysTurning_174 : decode cX12_laysTurning 174 = .ok (.invokevirtual 375, 3) := by decide +kernel
theorem dX12_laysTurning_177 : decode cX12_laysTurning 177 = .ok (.istore 9, 2) := by decide +kernel
theorem dX12_laysTurning_179 : decode cX12_laysTurning 179 = .ok (.aload_n 0, 1) := by decide +kernel
theorem dX12_laysTurning_180 : decode cX12_laysTurning 180 = .ok (.getfield 66, 3) := by decide +kernel
theorem dX12_laysTurning_183 : decode cX12_laysTurning 183 = .ok (.iload 9, 2) := by decide +kernel
theorem dX12_laysTurning_185 : decode cX12_laysTurning 185 = .ok (.baload, 1) := by decide +kernel
theorem dX12_laysTurning_186 : decode cX12_laysTurning 186 = .ok (.ifCond .eq 6, 3) := by decide +kernel
theorem dX12_laysTurning_189 : decode cX12_laysTurning 189 = .ok (.goto 41, 3) := by decide +kernel
theorem dX12_laysTurning_192 : decode cX12_laysTurning 192 = .ok (.aload_n 0, 1) := by decide +kernel
theorem dX12_laysTurning_193 : decode cX12_laysTurning 193 = .ok (.getfield 66, 3) := by decide +kernel
theorem dX12_laysTurning_196 : decode cX12_laysTurning 196 = .ok (.iload 9, 2) := by decide +kernel
theorem dX12_laysTurning_198 : decode cX12_laysTurning 198 = .ok (.iconst 1, 1) := by decide +kernel
theorem dX12_laysTurning_199 : decode cX12_laysTurning 199 = .ok (.bastore, 1) := by decide +kernel
theorem dX12_laysTurning_200 : decode cX12_laysTurning 200 = .ok (.aload_n 0, 1) := by decide +kernel
theorem dX12_laysTurning_201 : decode cX12_laysTurning 201 = .ok (.getfield 54, 3) := by decide +kernel
theorem dX12_laysTurning_204 : decode cX12_laysTurning 204 = .ok (.iload 5, 2) := by decide +kernel
theorem dX12_laysTurning_206 : decode cX12_laysTurning 206 = .ok (.iload 9, 2) := by decide +kernel
theorem dX12_laysTurning_208 : decode cX12_laysTurning 208 = .ok (.iastore, 1) := by decide +kernel
theorem dX12_laysTurning_209 : decode cX12_laysTurning 209 = .ok (.aload_n 0, 1) := by decide +kernel
theorem dX12_laysTurning_210 : decode cX12_laysTurning 210 = .ok (.getfield 57, 3) := by decide +kernel
theorem dX12_laysTurning_213 : decode cX12_laysTurning 213 = .ok (.iload 5, 2) := by decide +kernel
theorem dX12_laysTurning_215 : decode cX12_laysTurning 215 = .ok (.iload 8, 2) := by decide +kernel
theorem dX12_laysTurning_217 : decode cX12_laysTurning 217 = .ok (.iastore, 1) := by decide +kernel
theorem dX12_laysTurning_218 : decode cX12_laysTurning 218 = .ok (.aload_n 0, 1) := by decide +kernel
theorem dX12_laysTurning_219 : decode cX12_laysTurning 219 = .ok (.getfield 60, 3) := by decide +kernel
theorem dX12_laysTurning_222 : decode cX12_laysTurning 222 = .ok (.iload 5, 2) := by decide +kernel
theorem dX12_laysTurning_224 : decode cX12_laysTurning 224 = .ok (.iload 7, 2) := by decide +kernel
theorem dX12_laysTurning_226 : decode cX12_laysTurning 226 = .ok (.iastore, 1) := by decide +kernel
theorem dX12_laysTurning_227 : decode cX12_laysTurning 227 = .ok (.iinc 5 1, 3) := by decide +kernel
theorem dX12_laysTurning_230 : decode cX12_laysTurning 230 = .ok (.iinc 8 1, 3) := by decide +kernel
theorem dX12_laysTurning_233 : decode cX12_laysTurning 233 = .ok (.goto (-121), 3) := by decide +kernel
theorem dX12_laysTurning_236 : decode cX12_laysTurning 236 = .ok (.iinc 7 1, 3) := by decide +kernel
theorem dX12_laysTurning_239 : decode cX12_laysTurning 239 = .ok (.goto (-175), 3) := by decide +kernel
theorem dX12_laysTurning_242 : decode cX12_laysTurning 242 = .ok (.aload_n 0, 1) := by decide +kernel
theorem dX12_laysTurning_243 : decode cX12_laysTurning 243 = .ok (.iload_n 1, 1) := by decide +kernel
theorem dX12_laysTurning_244 : decode cX12_laysTurning 244 = .ok (.iload_n 3, 1) := by decide +kernel
theorem dX12_laysTurning_245 : decode cX12_laysTurning 245 = .ok (.invokevirtual 378, 3) := by decide +kernel
theorem dX12_laysTurning_248 : decode cX12_laysTurning 248 = .ok (.iload 6, 2) := by decide +kernel
theorem dX12_laysTurning_250 : decode cX12_laysTurning 250 = .ok (.iconst (-1), 1) := by decide +kernel
theorem dX12_laysTurning_251 : decode cX12_laysTurning 251 = .ok (.if_icmp .ne 5, 3) := by decide +kernel
theorem dX12_laysTurning_254 : decode cX12_laysTurning 254 = .ok (.iconst (-1), 1) := by decide +kernel
theorem dX12_laysTurning_255 : decode cX12_laysTurning 255 = .ok (.ireturn, 1) := by decide +kernel
theorem dX12_laysTurning_256 : decode cX12_laysTurning 256 = .ok (.aload_n 0, 1) := by decide +kernel
theorem dX12_laysTurning_257 : decode cX12_laysTurning 257 = .ok (.iconst 0, 1) := by decide +kernel
theorem dX12_laysTurning_258 : decode cX12_laysTurning 258 = .ok (.putfield 381, 3) := by decide +kernel
theorem dX12_laysTurning_261 : decode cX12_laysTurning 261 = .ok (.iload 6, 2) := by decide +kernel
theorem dX12_laysTurning_263 : decode cX12_laysTurning 263 = .ok (.istore 7, 2) := by decide +kernel
theorem dX12_laysTurning_265 : decode cX12_laysTurning 265 = .ok (.aload_n 0, 1) := by decide +kernel
theorem dX12_laysTurning_266 : decode cX12_laysTurning 266 = .ok (.getfield 60, 3) := by decide +kernel
theorem dX12_laysTurning_269 : decode cX12_laysTurning 269 = .ok (.iload 7, 2) := by decide +kernel
theorem dX12_laysTurning_271 : decode cX12_laysTurning 271 = .ok (.iaload, 1) := by decide +kernel
theorem dX12_laysTurning_272 : decode cX12_laysTurning 272 = .ok (.iconst (-1), 1) := by decide +kernel
theorem dX12_laysTurning_273 : decode cX12_laysTurning 273 = .ok (.if_icmp .eq 25, 3) := by decide +kernel
theorem dX12_laysTurning_276 : decode cX12_laysTurning 276 = .ok (.aload_n 0, 1) := by decide +kernel
theorem dX12_laysTurning_277 : decode cX12_laysTurning 277 = .ok (.dup, 1) := by decide +kernel
theorem dX12_laysTurning_278 : decode cX12_laysTurning 278 = .ok (.getfield 381, 3) := by decide +kernel
theorem dX12_laysTurning_281 : decode cX12_laysTurning 281 = .ok (.iconst 1, 1) := by decide +kernel
theorem dX12_laysTurning_282 : decode cX12_laysTurning 282 = .ok (.iadd, 1) := by decide +kernel
theorem dX12_laysTurning_283 : decode cX12_laysTurning 283 = .ok (.putfield 381, 3) := by decide +kernel
theorem dX12_laysTurning_286 : decode cX12_laysTurning 286 = .ok (.aload_n 0, 1) := by decide +kernel
theorem dX12_laysTurning_287 : decode cX12_laysTurning 287 = .ok (.getfield 60, 3) := by decide +kernel
theorem dX12_laysTurning_290 : decode cX12_laysTurning 290 = .ok (.iload 7, 2) := by decide +kernel
theorem dX12_laysTurning_292 : decode cX12_laysTurning 292 = .ok (.iaload, 1) := by decide +kernel
theorem dX12_laysTurning_293 : decode cX12_laysTurning 293 = .ok (.istore 7, 2) := by decide +kernel
theorem dX12_laysTurning_295 : decode cX12_laysTurning 295 = .ok (.goto (-30), 3) := by decide +kernel
theorem dX12_laysTurning_298 : decode cX12_laysTurning 298 = .ok (.aload_n 0, 1) := by decide +kernel
theorem dX12_laysTurning_299 : decode cX12_laysTurning 299 = .ok (.getfield 381, 3) := by decide +kernel
theorem dX12_laysTurning_302 : decode cX12_laysTurning 302 = .ok (.istore 7, 2) := by decide +kernel
theorem dX12_laysTurning_304 : decode cX12_laysTurning 304 = .ok (.iload 6, 2) := by decide +kernel
theorem dX12_laysTurning_306 : decode cX12_laysTurning 306 = .ok (.istore 8, 2) := by decide +kernel
theorem dX12_laysTurning_308 : decode cX12_laysTurning 308 = .ok (.aload_n 0, 1) := by decide +kernel
theorem dX12_laysTurning_309 : decode cX12_laysTurning 309 = .ok (.getfield 60, 3) := by decide +kernel
theorem dX12_laysTurning_312 : decode cX12_laysTurning 312 = .ok (.iload 8, 2) := by decide +kernel
theorem dX12_laysTurning_314 : decode cX12_laysTurning 314 = .ok (.iaload, 1) := by decide +kernel
theorem dX12_laysTurning_315 : decode cX12_laysTurning 315 = .ok (.iconst (-1), 1) := by decide +kernel
theorem dX12_laysTurning_316 : decode cX12_laysTurning 316 = .ok (.if_icmp .eq 32, 3) := by decide +kernel
theorem dX12_laysTurning_319 : decode cX12_laysTurning 319 = .ok (.iinc 7 (-1), 3) := by decide +kernel
theorem dX12_laysTurning_322 : decode cX12_laysTurning 322 = .ok (.aload_n 0, 1) := by decide +kernel
theorem dX12_laysTurning_323 : decode cX12_laysTurning 323 = .ok (.getfield 63, 3) := by decide +kernel
theorem dX12_laysTurning_326 : decode cX12_laysTurning 326 = .ok (.iload 7, 2) := by decide +kernel
theorem dX12_laysTurning_328 : decode cX12_laysTurning 328 = .ok (.aload_n 0, 1) := by decide +kernel
theorem dX12_laysTurning_329 : decode cX12_laysTurning 329 = .ok (.getfield 57, 3) := by decide +kernel
theorem dX12_laysTurning_332 : decode cX12_laysTurning 332 = .ok (.iload 8, 2) := by decide +kernel
theorem dX12_laysTurning_334 : decode cX12_laysTurning 334 = .ok (.iaload, 1) := by decide +kernel
theorem dX12_laysTurning_335 : decode cX12_laysTurning 335 = .ok (.iastore, 1) := by decide +kernel
theorem dX12_laysTurning_336 : decode cX12_laysTurning 336 = .ok (.aload_n 0, 1) := by decide +kernel
theorem dX12_laysTurning_337 : decode cX12_laysTurning 337 = .ok (.getfield 60, 3) := by decide +kernel
theorem dX12_laysTurning_340 : decode cX12_laysTurning 340 = .ok (.iload 8, 2) := by decide +kernel
theorem dX12_laysTurning_342 : decode cX12_laysTurning 342 = .ok (.iaload, 1) := by decide +kernel
theorem dX12_laysTurning_343 : decode cX12_laysTurning 343 = .ok (.istore 8, 2) := by decide +kernel
theorem dX12_laysTurning_345 : decode cX12_laysTurning 345 = .ok (.goto (-37), 3) := by decide +kernel
theorem dX12_laysTurning_348 : decode cX12_laysTurning 348 = .ok (.aload_n 0, 1) := by decide +kernel
theorem dX12_laysTurning_349 : decode cX12_laysTurning 349 = .ok (.getfield 381, 3) := by decide +kernel
theorem dX12_laysTurning_352 : decode cX12_laysTurning 352 = .ok (.ireturn, 1) := by decide +kernel
theorem dX12_pairs_0 : decode cX12_pairs 0 = .ok (.aload_n 0, 1) := by decide +kernel
theorem dX12_pairs_1 : decode cX12_pairs 1 = .ok (.iconst 0, 1) := by decide +kernel
theorem dX12_pairs_2 : decode cX12_pairs 2 = .ok (.putfield 1, 3) := by decide +kernel
theorem dX12_pairs_5 : decode cX12_pairs 5 = .ok (.iload_n 2, 1) := by decide +kernel
theorem dX12_pairs_6 : decode cX12_pairs 6 = .ok (.i2l, 1) := by decide +kernel
theorem dX12_pairs_7 : decode cX12_pairs 7 = .ok (.lconst 0, 1) := by decide +kernel
theorem dX12_pairs_8 : decode cX12_pairs 8 = .ok (.lconst 1, 1) := by decide +kernel
theorem dX12_pairs_9 : decode cX12_pairs 9 = .ok (.invokestatic 145, 3) := by decide +kernel
theorem dX12_pairs_12 : decode cX12_pairs 12 = .ok (.ifCond .ne 24, 3) := by decide +kernel
theorem dX12_pairs_15 : decode cX12_pairs 15 = .ok (.iload_n 2, 1) := by decide +kernel
theorem dX12_pairs_16 : decode cX12_pairs 16 = .ok (.bipush 10, 2) := by decide +kernel
theorem dX12_pairs_18 : decode cX12_pairs 18 = .ok (.if_icmp .lt 15, 3) := by decide +kernel
theorem dX12_pairs_21 : decode cX12_pairs 21 = .ok (.aload_n 0, 1) := by decide +kernel
theorem dX12_pairs_22 : decode cX12_pairs 22 = .ok (.iload_n 2, 1) := by decide +kernel
theorem dX12_pairs_23 : decode cX12_pairs 23 = .ok (.bipush 10, 2) := by decide +kernel
theorem dX12_pairs_25 : decode cX12_pairs 25 = .ok (.isub, 1) := by decide +kernel
theorem dX12_pairs_26 : decode cX12_pairs 26 = .ok (.i2l, 1) := by decide +kernel
theorem dX12_pairs_27 : decode cX12_pairs 27 = .ok (.invokevirtual 245, 3) := by decide +kernel
theorem dX12_pairs_30 : decode cX12_pairs 30 = .ok (.ifCond .ne 6, 3) := by decide +kernel
theorem dX12_pairs_33 : decode cX12_pairs 33 = .ok (.bipush (-2), 2) := by decide +kernel
theorem dX12_pairs_35 : decode cX12_pairs 35 = .ok (.ireturn, 1) := by decide +kernel
theorem dX12_pairs_36 : decode cX12_pairs 36 = .ok (.aload_n 0, 1) := by decide +kernel
theorem dX12_pairs_37 : decode cX12_pairs 37 = .ok (.iload_n 1, 1) := by decide +kernel
theorem dX12_pairs_38 : decode cX12_pairs 38 = .ok (.invokevirtual 349, 3) := by decide +kernel
theorem dX12_pairs_41 : decode cX12_pairs 41 = .ok (.ifCond .ne 6, 3) := by decide +kernel
theorem dX12_pairs_44 : decode cX12_pairs 44 = .ok (.bipush (-3), 2) := by decide +kernel
theorem dX12_pairs_46 : decode cX12_pairs 46 = .ok (.ireturn, 1) := by decide +kernel
theorem dX12_pairs_47 : decode cX12_pairs 47 = .ok (.aload_n 0, 1) := by decide +kernel
theorem dX12_pairs_48 : decode cX12_pairs 48 = .ok (.aload_n 0, 1) := by decide +kernel
theorem dX12_pairs_49 : decode cX12_pairs 49 = .ok (.getfield 13, 3) := by decide +kernel
theorem dX12_pairs_52 : decode cX12_pairs 52 = .ok (.bipush 52, 2) := by decide +kernel
theorem dX12_pairs_54 : decode cX12_pairs 54 = .ok (.iaload, 1) := by decide +kernel
theorem dX12_pairs_55 : decode cX12_pairs 55 = .ok (.invokevirtual 340, 3) := by decide +kernel
theorem dX12_pairs_58 : decode cX12_pairs 58 = .ok (.aload_n 0, 1) := by decide +kernel
theorem dX12_pairs_59 : decode cX12_pairs 59 = .ok (.iload_n 1, 1) := by decide +kernel
theorem dX12_pairs_60 : decode cX12_pairs 60 = .ok (.invokevirtual 361, 3) := by decide +kernel
theorem dX12_pairs_63 : decode cX12_pairs 63 = .ok (.iload_n 2, 1) := by decide +kernel
theorem dX12_pairs_64 : decode cX12_pairs 64 = .ok (.ifCond .ne 10, 3) := by decide +kernel
theorem dX12_pairs_67 : decode cX12_pairs 67 = .ok (.aload_n 0, 1) := by decide +kernel
theorem dX12_pairs_68 : decode cX12_pairs 68 = .ok (.getfield 352, 3) := by decide +kernel
theorem dX12_pairs_71 : decode cX12_pairs 71 = .ok (.goto 24, 3) := by decide +kernel
theorem dX12_pairs_74 : decode cX12_pairs 74 = .ok (.iload_n 2, 1) := by decide +kernel
theorem dX12_pairs_75 : decode cX12_pairs 75 = .ok (.iconst 1, 1) := by decide +kernel
theorem dX12_pairs_76 : decode cX12_pairs 76 = .ok (.if_icmp .ne 10, 3) := by decide +kernel
theorem dX12_pairs_79 : decode cX12_pairs 79 = .ok (.aload_n 0, 1) := by decide +kernel
theorem dX12_pairs_80 : decode cX12_pairs 80 = .ok (.getfield 355, 3) := by decide +kernel
theorem dX12_pairs_83 : decode cX12_pairs 83 = .ok (.goto 12, 3) := by decide +kernel
theorem dX12_pairs_86 : decode cX12_pairs 86 = .ok (.aload_n 0, 1) := by decide +kernel
theorem dX12_pairs_87 : decode cX12_pairs 87 = .ok (.getfield 51, 3) := by decide +kernel
theorem dX12_pairs_90 : decode cX12_pairs 90 = .ok (.iload_n 2, 1) := by decide +kernel
theorem dX12_pairs_91 : decode cX12_pairs 91 = .ok (.bipush 10, 2) := by decide +kernel
theorem dX12_pairs_93 : decode cX12_pairs 93 = .ok (.isub, 1) := by decide +kernel
theorem dX12_pairs_94 : decode cX12_pairs 94 = .ok (.iaload, 1) := by decide +kernel
theorem dX12_pairs_95 : decode cX12_pairs 95 = .ok (.ireturn, 1) := by decide +kernel
theorem dX12_pieceOf_0 : decode cX12_pieceOf 0 = .ok (.iconst 0, 1) := by decide +kernel
theorem dX12_pieceOf_1 : decode cX12_pieceOf 1 = .ok (.istore_n 3, 1) := by decide +kernel
theorem dX12_pieceOf_2 : decode cX12_pieceOf 2 = .ok (.iconst 1, 1) := by decide +kernel
theorem dX12_pieceOf_3 : decode cX12_pieceOf 3 = .ok (.iload_n 1, 1) := by decide +kernel
theorem dX12_pieceOf_4 : decode cX12_pieceOf 4 = .ok (.ishl, 1) := by decide +kernel
theorem dX12_pieceOf_5 : decode cX12_pieceOf 5 = .ok (.istore 4, 2) := by decide +kernel
theorem dX12_pieceOf_7 : decode cX12_pieceOf 7 = .ok (.iload 4, 2) := by decide +kernel
theorem dX12_pieceOf_9 : decode cX12_pieceOf 9 = .ok (.iload_n 3, 1) := by decide +kernel
theorem dX12_pieceOf_10 : decode cX12_pieceOf 10 = .ok (.if_icmp .eq 53, 3) := by decide +kernel
theorem dX12_pieceOf_13 : decode cX12_pieceOf 13 = .ok (.iload 4, 2) := by decide +kernel
theorem dX12_pieceOf_15 : decode cX12_pieceOf 15 = .ok (.istore_n 3, 1) := by decide +kernel
theorem dX12_pieceOf_16 : decode cX12_pieceOf 16 = .ok (.iconst 0, 1) := by decide +kernel
theorem dX12_pieceOf_17 : decode cX12_pieceOf 17 = .ok (.istore 5, 2) := by decide +kernel
theorem dX12_pieceOf_19 : decode cX12_pieceOf 19 = .ok (.iload 5, 2) := by decide +kernel
theorem dX12_pieceOf_21 : decode cX12_pieceOf 21 = .ok (.aload_n 0, 1) := by decide +kernel
theorem dX12_pieceOf_22 : decode cX12_pieceOf 22 = .ok (.getfield 13, 3) := by decide +kernel
theorem dX12_pieceOf_25 : decode cX12_pieceOf 25 = .ok (.iconst 2, 1) := by decide +kernel
theorem dX12_pieceOf_26 : decode cX12_pieceOf 26 = .ok (.iaload, 1) := by decide +kernel
theorem dX12_pieceOf_27 : decode cX12_pieceOf 27 = .ok (.if_icmp .ge 33, 3) := by decide +kernel
theorem dX12_pieceOf_30 : decode cX12_pieceOf 30 = .ok (.iload_n 3, 1) := by decide +kernel
theorem dX12_pieceOf_31 : decode cX12_pieceOf 31 = .ok (.i2l, 1) := by decide +kernel
theorem dX12_pieceOf_32 : decode cX12_pieceOf 32 = .ok (.iload 5, 2) := by decide +kernel
theorem dX12_pieceOf_34 : decode cX12_pieceOf 34 = .ok (.invokestatic 251, 3) := by decide +kernel
theorem dX12_pieceOf_37 : decode cX12_pieceOf 37 = .ok (.ifCond .eq 17, 3) := by decide +kernel
theorem dX12_pieceOf_40 : decode cX12_pieceOf 40 = .ok (.iload 4, 2) := by decide +kernel
theorem dX12_pieceOf_42 : decode cX12_pieceOf 42 = .ok (.aload_n 0, 1) := by decide +kernel
theorem dX12_pieceOf_43 : decode cX12_pieceOf 43 = .ok (.getfield 39, 3) := by decide +kernel
theorem dX12_pieceOf_46 : decode cX12_pieceOf 46 = .ok (.iload 5, 2) := by decide +kernel
theorem dX12_pieceOf_48 : decode cX12_pieceOf 48 = .ok (.iaload, 1) := by decide +kernel
theorem dX12_pieceOf_49 : decode cX12_pieceOf 49 = .ok (.iload_n 2, 1) := by decide +kernel
theorem dX12_pieceOf_50 : decode cX12_pieceOf 50 = .ok (.iand, 1) := by decide +kernel
theorem dX12_pieceOf_51 : decode cX12_pieceOf 51 = .ok (.ior, 1) := by decide +kernel
theorem dX12_pieceOf_52 : decode cX12_pieceOf 52 = .ok (.istore 4, 2) := by decide +kernel
theorem dX12_pieceOf_54 : decode cX12_pieceOf 54 = .ok (.iinc 5 1, 3) := by decide +kernel
theorem dX12_pieceOf_57 : decode cX12_pieceOf 57 = .ok (.goto (-38), 3) := by decide +kernel
theorem dX12_pieceOf_60 : decode cX12_pieceOf 60 = .ok (.goto (-53), 3) := by decide +kernel
theorem dX12_pieceOf_63 : decode cX12_pieceOf 63 = .ok (.iload_n 3, 1) := by decide +kernel
theorem dX12_pieceOf_64 : decode cX12_pieceOf 64 = .ok (.ireturn, 1) := by decide +kernel
theorem dX12_pieces_0 : decode cX12_pieces 0 = .ok (.aload_n 0, 1) := by decide +kernel
theorem dX12_pieces_1 : decode cX12_pieces 1 = .ok (.iconst 0, 1) := by decide +kernel
theorem dX12_pieces_2 : decode cX12_pieces 2 = .ok (.putfield 1, 3) := by decide +kernel
theorem dX12_pieces_5 : decode cX12_pieces 5 = .ok (.aload_n 0, 1) := by decide +kernel
theorem dX12_pieces_6 : decode cX12_pieces 6 = .ok (.iload_n 1, 1) := by decide +kernel
theorem dX12_pieces_7 : decode cX12_pieces 7 = .ok (.invokevirtual 349, 3) := by decide +kernel
theorem dX12_pieces_10 : decode cX12_pieces 10 = .ok (.ifCond .ne 6, 3) := by decide +kernel
theorem dX12_pieces_13 : decode cX12_pieces 13 = .ok (.bipush (-3), 2) := by decide +kernel
theorem dX12_pieces_15 : decode cX12_pieces 15 = .ok (.ireturn, 1) := by decide +kernel
theorem dX12_pieces_16 : decode cX12_pieces 16 = .ok (.aload_n 0, 1) := by decide +kernel
theorem dX12_pieces_17 : decode cX12_pieces 17 = .ok (.aload_n 0, 1) := by decide +kernel
theorem dX12_pieces_18 : decode cX12_pieces 18 = .ok (.getfield 13, 3) := by decide +kernel
theorem dX12_pieces_21 : decode cX12_pieces 21 = .ok (.bipush 52, 2) := by decide +kernel
theorem dX12_pieces_23 : decode cX12_pieces 23 = .ok (.iaload, 1) := by decide +kernel
theorem dX12_pieces_24 : decode cX12_pieces 24 = .ok (.invokevirtual 340, 3) := by decide +kernel
theorem dX12_pieces_27 : decode cX12_pieces 27 = .ok (.aload_n 0, 1) := by decide +kernel
theorem dX12_pieces_28 : decode cX12_pieces 28 = .ok (.iload_n 1, 1) := by decide +kernel
theorem dX12_pieces_29 : decode cX12_pieces 29 = .ok (.iconst 0, 1) := by decide +kernel
theorem dX12_pieces_30 : decode cX12_pieces 30 = .ok (.invokevirtual 367, 3) := by decide +kernel
theorem dX12_pieces_33 : decode cX12_pieces 33 = .ok (.ireturn, 1) := by decide +kernel
theorem dX12_piecesOf_0 : decode cX12_piecesOf 0 = .ok (.iconst 0, 1) := by decide +kernel
theorem dX12_piecesOf_1 : decode cX12_piecesOf 1 = .ok (.istore_n 3, 1) := by decide +kernel
theorem dX12_piecesOf_2 : decode cX12_piecesOf 2 = .ok (.iload_n 1, 1) := by decide +kernel
theorem dX12_piecesOf_3 : decode cX12_piecesOf 3 = .ok (.istore 4, 2) := by decide +kernel
theorem dX12_piecesOf_5 : decode cX12_piecesOf 5 = .ok (.iload 4, 2) := by decide +kernel
theorem dX12_piecesOf_7 : decode cX12_piecesOf 7 = .ok (.ifCond .eq 45, 3) := by decide +kernel
theorem dX12_piecesOf_10 : decode cX12_piecesOf 10 = .ok (.aload_n 0, 1) := by decide +kernel
theorem dX12_piecesOf_11 : decode cX12_piecesOf 11 = .ok (.iload 4, 2) := by decide +kernel
theorem dX12_piecesOf_13 : decode cX12_piecesOf 13 = .ok (.invokestatic 337, 3) := by decide +kernel
theorem dX12_piecesOf_16 : decode cX12_piecesOf 16 = .ok (.iload_n 1, 1) := by decide +kernel
theorem dX12_piecesOf_17 : decode cX12_piecesOf 17 = .ok (.invokevirtual 364, 3) := by decide +kernel
theorem dX12_piecesOf_20 : decode cX12_piecesOf 20 = .ok (.istore 5, 2) := by decide +kernel
theorem dX12_piecesOf_22 : decode cX12_piecesOf 22 = .ok (.iload_n 3, 1) := by decide +kernel
theorem dX12_piecesOf_23 : decode cX12_piecesOf 23 = .ok (.iload_n 2, 1) := by decide +kernel
theorem dX12_piecesOf_24 : decode cX12_piecesOf 24 = .ok (.ifCond .eq 13, 3) := by decide +kernel
theorem dX12_piecesOf_27 : decode cX12_piecesOf 27 = .ok (.iload 5, 2) := by decide +kernel
theorem dX12_piecesOf_29 : decode cX12_piecesOf 29 = .ok (.invokestatic 281, 3) := by decide +kernel
theorem dX12_piecesOf_32 : decode cX12_piecesOf 32 = .ok (.iconst 2, 1) := by decide +kernel
theorem dX12_piecesOf_33 : decode cX12_piecesOf 33 = .ok (.irem, 1) := by decide +kernel
theorem dX12_piecesOf_34 : decode cX12_piecesOf 34 = .ok (.goto 4, 3) := by decide +kernel
theorem dX12_piecesOf_37 : decode cX12_piecesOf 37 = .ok (.iconst 1, 1) := by decide +kernel
theorem dX12_piecesOf_38 : decode cX12_piecesOf 38 = .ok (.iadd, 1) := by decide +kernel
theorem dX12_piecesOf_39 : decode cX12_piecesOf 39 = .ok (.istore_n 3, 1) := by decide +kernel
theorem dX12_piecesOf_40 : decode cX12_piecesOf 40 = .ok (.iload 4, 2) := by decide +kernel
theorem dX12_piecesOf_42 : decode cX12_piecesOf 42 = .ok (.iload 5, 2) := by decide +kernel
theorem dX12_piecesOf_44 : decode cX12_piecesOf 44 = .ok (.iconst (-1), 1) := by decide +kernel
theorem dX12_piecesOf_45 : decode cX12_piecesOf 45 = .ok (.ixor, 1) := by decide +kernel
theorem dX12_piecesOf_46 : decode cX12_piecesOf 46 = .ok (.iand, 1) := by decide +kernel
theorem dX12_piecesOf_47 : decode cX12_piecesOf 47 = .ok (.istore 4, 2) := by decide +kernel
theorem dX12_piecesOf_49 : decode cX12_piecesOf 49 = .ok (.goto (-44), 3) := by decide +kernel
theorem dX12_piecesOf_52 : decode cX12_piecesOf 52 = .ok (.iload_n 3, 1) := by decide +kernel
theorem dX12_piecesOf_53 : decode cX12_piecesOf 53 = .ok (.ireturn, 1) := by decide +kernel
theorem dX12_puts_0 : decode cX12_puts 0 = .ok (.aload_n 0, 1) := by decide +kernel
theorem dX12_puts_1 : decode cX12_puts 1 = .ok (.getfield 13, 3) := by decide +kernel
theorem dX12_puts_4 : decode cX12_puts 4 = .ok (.bipush 54, 2) := by decide +kernel
theorem dX12_puts_6 : decode cX12_puts 6 = .ok (.iconst 3, 1) := by decide +kernel
theorem dX12_puts_7 : decode cX12_puts 7 = .ok (.iload_n 1, 1) := by decide +kernel
theorem dX12_puts_8 : decode cX12_puts 8 = .ok (.imul, 1) := by decide +kernel
theorem dX12_puts_9 : decode cX12_puts 9 = .ok (.iadd, 1) := by decide +kernel
theorem dX12_puts_10 : decode cX12_puts 10 = .ok (.iload_n 2, 1) := by decide +kernel
theorem dX12_puts_11 : decode cX12_puts 11 = .ok (.bipush 100, 2) := by decide +kernel
theorem dX12_puts_13 : decode cX12_puts 13 = .ok (.idiv, 1) := by decide +kernel
theorem dX12_puts_14 : decode cX12_puts 14 = .ok (.iastore, 1) := by decide +kernel
theorem dX12_puts_15 : decode cX12_puts 15 = .ok (.aload_n 0, 1) := by decide +kernel
theorem dX12_puts_16 : decode cX12_puts 16 = .ok (.getfield 13, 3) := by decide +kernel
theorem dX12_puts_19 : decode cX12_puts 19 = .ok (.bipush 54, 2) := by decide +kernel
theorem dX12_puts_21 : decode cX12_puts 21 = .ok (.iconst 3, 1) := by decide +kernel
theorem dX12_puts_22 : decode cX12_puts 22 = .ok (.iload_n 1, 1) := by decide +kernel
theorem dX12_puts_23 : decode cX12_puts 23 = .ok (.imul, 1) := by decide +kernel
theorem dX12_puts_24 : decode cX12_puts 24 = .ok (.iadd, 1) := by decide +kernel
theorem dX12_puts_25 : decode cX12_puts 25 = .ok (.iconst 1, 1) := by decide +kernel
theorem dX12_puts_26 : decode cX12_puts 26 = .ok (.iadd, 1) := by decide +kernel
theorem dX12_puts_27 : decode cX12_puts 27 = .ok (.iload_n 2, 1) := by decide +kernel
theorem dX12_puts_28 : decode cX12_puts 28 = .ok (.bipush 10, 2) := by decide +kernel
theorem dX12_puts_30 : decode cX12_puts 30 = .ok (.idiv, 1) := by decide +kernel
theorem dX12_puts_31 : decode cX12_puts 31 = .ok (.bipush 10, 2) := by decide +kernel
theorem dX12_puts_33 : decode cX12_puts 33 = .ok (.irem, 1) := by decide +kernel
theorem dX12_puts_34 : decode cX12_puts 34 = .ok (.iastore, 1) := by decide +kernel
theorem dX12_puts_35 : decode cX12_puts 35 = .ok (.aload_n 0, 1) := by decide +kernel
theorem dX12_puts_36 : decode cX12_puts 36 = .ok (.getfield 13, 3) := by decide +kernel
theorem dX12_puts_39 : decode cX12_puts 39 = .ok (.bipush 54, 2) := by decide +kernel
theorem dX12_puts_41 : decode cX12_puts 41 = .ok (.iconst 3, 1) := by decide +kernel
theorem dX12_puts_42 : decode cX12_puts 42 = .ok (.iload_n 1, 1) := by decide +kernel
theorem dX12_puts_43 : decode cX12_puts 43 = .ok (.imul, 1) := by decide +kernel
theorem dX12_puts_44 : decode cX12_puts 44 = .ok (.iadd, 1) := by decide +kernel
theorem dX12_puts_45 : decode cX12_puts 45 = .ok (.iconst 2, 1) := by decide +kernel
theorem dX12_puts_46 : decode cX12_puts 46 = .ok (.iadd, 1) := by decide +kernel
theorem dX12_puts_47 : decode cX12_puts 47 = .ok (.iload_n 2, 1) := by decide +kernel
theorem dX12_puts_48 : decode cX12_puts 48 = .ok (.bipush 10, 2) := by decide +kernel
theorem dX12_puts_50 : decode cX12_puts 50 = .ok (.irem, 1) := by decide +kernel
theorem dX12_puts_51 : decode cX12_puts 51 = .ok (.iastore, 1) := by decide +kernel
theorem dX12_puts_52 : decode cX12_puts 52 = .ok (.return_, 1) := by decide +kernel
theorem dX12_quorum_0 : decode cX12_quorum 0 = .ok (.aload_n 0, 1) := by decide +kernel
theorem dX12_quorum_1 : decode cX12_quorum 1 = .ok (.iconst 0, 1) := by decide +kernel
theorem dX12_quorum_2 : decode cX12_quorum 2 = .ok (.putfield 1, 3) := by decide +kernel
theorem dX12_quorum_5 : decode cX12_quorum 5 = .ok (.aload_n 0, 1) := by decide +kernel
theorem dX12_quorum_6 : decode cX12_quorum 6 = .ok (.invokevirtual 346, 3) := by decide +kernel
theorem dX12_quorum_9 : decode cX12_quorum 9 = .ok (.aload_n 0, 1) := by decide +kernel
theorem dX12_quorum_10 : decode cX12_quorum 10 = .ok (.invokevirtual 255, 3) := by decide +kernel
theorem dX12_quorum_13 : decode cX12_quorum 13 = .ok (.istore_n 1, 1) := by decide +kernel
theorem dX12_quorum_14 : decode cX12_quorum 14 = .ok (.iconst 0, 1) := by decide +kernel
theorem dX12_quorum_15 : decode cX12_quorum 15 = .ok (.istore_n 2, 1) := by decide +kernel
theorem dX12_quorum_16 : decode cX12_quorum 16 = .ok (.iconst 0, 1) := by decide +kernel
theorem dX12_quorum_17 : decode cX12_quorum 17 = .ok (.istore_n 3, 1) := by decide +kernel
theorem dX12_quorum_18 : decode cX12_quorum 18 = .ok (.iload_n 3, 1) := by decide +kernel
theorem dX12_quorum_19 : decode cX12_quorum 19 = .ok (.iload_n 1, 1) := by decide +kernel
theorem dX12_quorum_20 : decode cX12_quorum 20 = .ok (.if_icmp .gt 39, 3) := by decide +kernel
theorem dX12_quorum_23 : decode cX12_quorum 23 = .ok (.iload_n 3, 1) := by decide +kernel
theorem dX12_quorum_24 : decode cX12_quorum 24 = .ok (.iload_n 1, 1) := by decide +kernel
theorem dX12_quorum_25 : decode cX12_quorum 25 = .ok (.iconst (-1), 1) := by decide +kernel
theorem dX12_quorum_26 : decode cX12_quorum 26 = .ok (.ixor, 1) := by decide +kernel
theorem dX12_quorum_27 : decode cX12_quorum 27 = .ok (.iand, 1) := by decide +kernel
theorem dX12_quorum_28 : decode cX12_quorum 28 = .ok (.ifCond .ne 25, 3) := by decide +kernel
theorem dX12_quorum_31 : decode cX12_quorum 31 = .ok (.aload_n 0, 1) := by decide +kernel
theorem dX12_quorum_32 : decode cX12_quorum 32 = .ok (.getfield 45, 3) := by decide +kernel
theorem dX12_quorum_35 : decode cX12_quorum 35 = .ok (.iload_n 3, 1) := by decide +kernel
theorem dX12_quorum_36 : decode cX12_quorum 36 = .ok (.iaload, 1) := by decide +kernel
theorem dX12_quorum_37 : decode cX12_quorum 37 = .ok (.ifCond .le 16, 3) := by decide +kernel
theorem dX12_quorum_40 : decode cX12_quorum 40 = .ok (.iload_n 3, 1) := by decide +kernel
theorem dX12_quorum_41 : decode cX12_quorum 41 = .ok (.invokestatic 281, 3) := by decide +kernel
theorem dX12_quorum_44 : decode cX12_quorum 44 = .ok (.iload_n 2, 1) := by decide +kernel
theorem dX12_quorum_45 : decode cX12_quorum 45 = .ok (.invokestatic 281, 3) := by decide +kernel
theorem dX12_quorum_48 : decode cX12_quorum 48 = .ok (.if_icmp .le 5, 3) := by decide +kernel
theorem dX12_quorum_51 : decode cX12_quorum 51 = .ok (.iload_n 3, 1) := by decide +kernel
theorem dX12_quorum_52 : decode cX12_quorum 52 = .ok (.istore_n 2, 1) := by decide +kernel
theorem dX12_quorum_53 : decode cX12_quorum 53 = .ok (.iinc 3 1, 3) := by decide +kernel
theorem dX12_quorum_56 : decode cX12_quorum 56 = .ok (.goto (-38), 3) := by decide +kernel
theorem dX12_quorum_59 : decode cX12_quorum 59 = .ok (.iload_n 2, 1) := by decide +kernel
theorem dX12_quorum_60 : decode cX12_quorum 60 = .ok (.ireturn, 1) := by decide +kernel
theorem dX12_talkBy_0 : decode cX12_talkBy 0 = .ok (.aload_n 0, 1) := by decide +kernel
theorem dX12_talkBy_1 : decode cX12_talkBy 1 = .ok (.iconst 0, 1) := by decide +kernel
theorem dX12_talkBy_2 : decode cX12_talkBy 2 = .ok (.putfield 1, 3) := by decide +kernel
theorem dX12_talkBy_5 : decode cX12_talkBy 5 = .ok (.aload_n 0, 1) := by decide +kernel
theorem dX12_talkBy_6 : decode cX12_talkBy 6 = .ok (.iload_n 1, 1) := by decide +kernel
theorem dX12_talkBy_7 : decode cX12_talkBy 7 = .ok (.iload_n 2, 1) := by decide +kernel
theorem dX12_talkBy_8 : decode cX12_talkBy 8 = .ok (.invokevirtual 384, 3) := by decide +kernel
theorem dX12_talkBy_11 : decode cX12_talkBy 11 = .ok (.ifCond .ne 6, 3) := by decide +kernel
theorem dX12_talkBy_14 : decode cX12_talkBy 14 = .ok (.bipush (-2), 2) := by decide +kernel
theorem dX12_talkBy_16 : decode cX12_talkBy 16 = .ok (.ireturn, 1) := by decide +kernel
theorem dX12_talkBy_17 : decode cX12_talkBy 17 = .ok (.iload_n 3, 1) := by decide +kernel
theorem dX12_talkBy_18 : decode cX12_talkBy 18 = .ok (.ifCond .ge 6, 3) := by decide +kernel
theorem dX12_talkBy_21 : decode cX12_talkBy 21 = .ok (.bipush (-3), 2) := by decide +kernel
theorem dX12_talkBy_23 : decode cX12_talkBy 23 = .ok (.ireturn, 1) := by decide +kernel
theorem dX12_talkBy_24 : decode cX12_talkBy 24 = .ok (.aload_n 0, 1) := by decide +kernel
theorem dX12_talkBy_25 : decode cX12_talkBy 25 = .ok (.iload_n 1, 1) := by decide +kernel
theorem dX12_talkBy_26 : decode cX12_talkBy 26 = .ok (.iload_n 2, 1) := by decide +kernel
theorem dX12_talkBy_27 : decode cX12_talkBy 27 = .ok (.invokevirtual 387, 3) := by decide +kernel
theorem dX12_talkBy_30 : decode cX12_talkBy 30 = .ok (.istore 4, 2) := by decide +kernel
theorem dX12_talkBy_32 : decode cX12_talkBy 32 = .ok (.iload_n 3, 1) := by decide +kernel
theorem dX12_talkBy_33 : decode cX12_talkBy 33 = .ok (.iload 4, 2) := by decide +kernel
theorem dX12_talkBy_35 : decode cX12_talkBy 35 = .ok (.if_icmp .ge 12, 3) := by decide +kernel
theorem dX12_talkBy_38 : decode cX12_talkBy 38 = .ok (.aload_n 0, 1) := by decide +kernel
theorem dX12_talkBy_39 : decode cX12_talkBy 39 = .ok (.getfield 63, 3) := by decide +kernel
theorem dX12_talkBy_42 : decode cX12_talkBy 42 = .ok (.iload_n 3, 1) := by decide +kernel
theorem dX12_talkBy_43 : decode cX12_talkBy 43 = .ok (.iaload, 1) := by decide +kernel
theorem dX12_talkBy_44 : decode cX12_talkBy 44 = .ok (.goto 4, 3) := by decide +kernel
theorem dX12_talkBy_47 : decode cX12_talkBy 47 = .ok (.iconst (-1), 1) := by decide +kernel
theorem dX12_talkBy_48 : decode cX12_talkBy 48 = .ok (.ireturn, 1) := by decide +kernel
theorem dX12_talks_0 : decode cX12_talks 0 = .ok (.aload_n 0, 1) := by decide +kernel
theorem dX12_talks_1 : decode cX12_talks 1 = .ok (.iconst 0, 1) := by decide +kernel
theorem dX12_talks_2 : decode cX12_talks 2 = .ok (.putfield 1, 3) := by decide +kernel
theorem dX12_talks_5 : decode cX12_talks 5 = .ok (.aload_n 0, 1) := by decide +kernel
theorem dX12_talks_6 : decode cX12_talks 6 = .ok (.iload_n 1, 1) := by decide +kernel
theorem dX12_talks_7 : decode cX12_talks 7 = .ok (.iload_n 2, 1) := by decide +kernel
theorem dX12_talks_8 : decode cX12_talks 8 = .ok (.invokevirtual 384, 3) := by decide +kernel
theorem dX12_talks_11 : decode cX12_talks 11 = .ok (.ifCond .eq 12, 3) := by decide +kernel
theorem dX12_talks_14 : decode cX12_talks 14 = .ok (.aload_n 0, 1) := by decide +kernel
theorem dX12_talks_15 : decode cX12_talks 15 = .ok (.iload_n 1, 1) := by decide +kernel
theorem dX12_talks_16 : decode cX12_talks 16 = .ok (.iload_n 2, 1) := by decide +kernel
theorem dX12_talks_17 : decode cX12_talks 17 = .ok (.invokevirtual 387, 3) := by decide +kernel
theorem dX12_talks_20 : decode cX12_talks 20 = .ok (.goto 5, 3) := by decide +kernel
theorem dX12_talks_23 : decode cX12_talks 23 = .ok (.bipush (-2), 2) := by decide +kernel
theorem dX12_talks_25 : decode cX12_talks 25 = .ok (.ireturn, 1) := by decide +kernel
theorem dX12_viewsOf_0 : decode cX12_viewsOf 0 = .ok (.bipush 100, 2) := by decide +kernel
theorem dX12_viewsOf_2 : decode cX12_viewsOf 2 = .ok (.aload_n 0, 1) := by decide +kernel
theorem dX12_viewsOf_3 : decode cX12_viewsOf 3 = .ok (.getfield 13, 3) := by decide +kernel
theorem dX12_viewsOf_6 : decode cX12_viewsOf 6 = .ok (.bipush 54, 2) := by decide +kernel
theorem dX12_viewsOf_8 : decode cX12_viewsOf 8 = .ok (.iconst 3, 1) := by decide +kernel
theorem dX12_viewsOf_9 : decode cX12_viewsOf 9 = .ok (.iload_n 1, 1) := by decide +kernel
theorem dX12_viewsOf_10 : decode cX12_viewsOf 10 = .ok (.imul, 1) := by decide +kernel
theorem dX12_viewsOf_11 : decode cX12_viewsOf 11 = .ok (.iadd, 1) := by decide +kernel
theorem dX12_viewsOf_12 : decode cX12_viewsOf 12 = .ok (.iaload, 1) := by decide +kernel
theorem dX12_viewsOf_13 : decode cX12_viewsOf 13 = .ok (.imul, 1) := by decide +kernel
theorem dX12_viewsOf_14 : decode cX12_viewsOf 14 = .ok (.bipush 10, 2) := by decide +kernel
theorem dX12_viewsOf_16 : decode cX12_viewsOf 16 = .ok (.aload_n 0, 1) := by decide +kernel
theorem dX12_viewsOf_17 : decode cX12_viewsOf 17 = .ok (.getfield 13, 3) := by decide +kernel
theorem dX12_viewsOf_20 : decode cX12_viewsOf 20 = .ok (.bipush 54, 2) := by decide +kernel
theorem dX12_viewsOf_22 : decode cX12_viewsOf 22 = .ok (.iconst 3, 1) := by decide +kernel
theorem dX12_viewsOf_23 : decode cX12_viewsOf 23 = .ok (.iload_n 1, 1) := by decide +kernel
theorem dX12_viewsOf_24 : decode cX12_viewsOf 24 = .ok (.imul, 1) := by decide +kernel
theorem dX12_viewsOf_25 : decode cX12_viewsOf 25 = .ok (.iadd, 1) := by decide +kernel
theorem dX12_viewsOf_26 : decode cX12_viewsOf 26 = .ok (.iconst 1, 1) := by decide +kernel
theorem dX12_viewsOf_27 : decode cX12_viewsOf 27 = .ok (.iadd, 1) := by decide +kernel
theorem dX12_viewsOf_28 : decode cX12_viewsOf 28 = .ok (.iaload, 1) := by decide +kernel
theorem dX12_viewsOf_29 : decode cX12_viewsOf 29 = .ok (.imul, 1) := by decide +kernel
theorem dX12_viewsOf_30 : decode cX12_viewsOf 30 = .ok (.iadd, 1) := by decide +kernel
theorem dX12_viewsOf_31 : decode cX12_viewsOf 31 = .ok (.aload_n 0, 1) := by decide +kernel
theorem dX12_viewsOf_32 : decode cX12_viewsOf 32 = .ok (.getfield 13, 3) := by decide +kernel
theorem dX12_viewsOf_35 : decode cX12_viewsOf 35 = .ok (.bipush 54, 2) := by decide +kernel
theorem dX12_viewsOf_37 : decode cX12_viewsOf 37 = .ok (.iconst 3, 1) := by decide +kernel
theorem dX12_viewsOf_38 : decode cX12_viewsOf 38 = .ok (.iload_n 1, 1) := by decide +kernel
theorem dX12_viewsOf_39 : decode cX12_viewsOf 39 = .ok (.imul, 1) := by decide +kernel
theorem dX12_viewsOf_40 : decode cX12_viewsOf 40 = .ok (.iadd, 1) := by decide +kernel
theorem dX12_viewsOf_41 : decode cX12_viewsOf 41 = .ok (.iconst 2, 1) := by decide +kernel
theorem dX12_viewsOf_42 : decode cX12_viewsOf 42 = .ok (.iadd, 1) := by decide +kernel
theorem dX12_viewsOf_43 : decode cX12_viewsOf 43 = .ok (.iaload, 1) := by decide +kernel
theorem dX12_viewsOf_44 : decode cX12_viewsOf 44 = .ok (.iadd, 1) := by decide +kernel
theorem dX12_viewsOf_45 : decode cX12_viewsOf 45 = .ok (.ireturn, 1) := by decide +kernel
theorem dX12_ways_0 : decode cX12_ways 0 = .ok (.aload_n 0, 1) := by decide +kernel
theorem dX12_ways_1 : decode cX12_ways 1 = .ok (.iconst 0, 1) := by decide +kernel
theorem dX12_ways_2 : decode cX12_ways 2 = .ok (.putfield 1, 3) := by decide +kernel
theorem dX12_ways_5 : decode cX12_ways 5 = .ok (.aload_n 0, 1) := by decide +kernel
theorem dX12_ways_6 : decode cX12_ways 6 = .ok (.iload_n 1, 1) := by decide +kernel
theorem dX12_ways_7 : decode cX12_ways 7 = .ok (.invokevirtual 349, 3) := by decide +kernel
theorem dX12_ways_10 : decode cX12_ways 10 = .ok (.ifCond .ne 6, 3) := by decide +kernel
theorem dX12_ways_13 : decode cX12_ways 13 = .ok (.bipush (-3), 2) := by decide +kernel
theorem dX12_ways_15 : decode cX12_ways 15 = .ok (.ireturn, 1) := by decide +kernel
theorem dX12_ways_16 : decode cX12_ways 16 = .ok (.aload_n 0, 1) := by decide +kernel
theorem dX12_ways_17 : decode cX12_ways 17 = .ok (.invokevirtual 346, 3) := by decide +kernel
theorem dX12_ways_20 : decode cX12_ways 20 = .ok (.aload_n 0, 1) := by decide +kernel
theorem dX12_ways_21 : decode cX12_ways 21 = .ok (.getfield 45, 3) := by decide +kernel
theorem dX12_ways_24 : decode cX12_ways 24 = .ok (.iload_n 1, 1) := by decide +kernel
theorem dX12_ways_25 : decode cX12_ways 25 = .ok (.iaload, 1) := by decide +kernel
theorem dX12_ways_26 : decode cX12_ways 26 = .ok (.ireturn, 1) := by decide +kernel
theorem dX12_word_0 : decode cX12_word 0 = .ok (.aload_n 0, 1) := by decide +kernel
theorem dX12_word_1 : decode cX12_word 1 = .ok (.iconst 0, 1) := by decide +kernel
theorem dX12_word_2 : decode cX12_word 2 = .ok (.putfield 1, 3) := by decide +kernel
theorem dX12_word_5 : decode cX12_word 5 = .ok (.aload_n 0, 1) := by decide +kernel
theorem dX12_word_6 : decode cX12_word 6 = .ok (.aload_n 0, 1) := by decide +kernel
theorem dX12_word_7 : decode cX12_word 7 = .ok (.invokevirtual 255, 3) := by decide +kernel
theorem dX12_word_10 : decode cX12_word 10 = .ok (.invokevirtual 319, 3) := by decide +kernel
theorem dX12_word_13 : decode cX12_word 13 = .ok (.ifCond .eq 5, 3) := by decide +kernel
theorem dX12_word_16 : decode cX12_word 16 = .ok (.iconst (-1), 1) := by decide +kernel
theorem dX12_word_17 : decode cX12_word 17 = .ok (.ireturn, 1) := by decide +kernel
theorem dX12_word_18 : decode cX12_word 18 = .ok (.iconst 0, 1) := by decide +kernel
theorem dX12_word_19 : decode cX12_word 19 = .ok (.istore_n 1, 1) := by decide +kernel
theorem dX12_word_20 : decode cX12_word 20 = .ok (.iload_n 1, 1) := by decide +kernel
theorem dX12_word_21 : decode cX12_word 21 = .ok (.aload_n 0, 1) := by decide +kernel
theorem dX12_word_22 : decode cX12_word 22 = .ok (.getfield 13, 3) := by decide +kernel
theorem dX12_word_25 : decode cX12_word 25 = .ok (.iconst 2, 1) := by decide +kernel
theorem dX12_word_26 : decode cX12_word 26 = .ok (.iaload, 1) := by decide +kernel
theorem dX12_word_27 : decode cX12_word 27 = .ok (.if_icmp .ge 81, 3) := by decide +kernel
theorem dX12_word_30 : decode cX12_word 30 = .ok (.iconst 0, 1) := by decide +kernel
theorem dX12_word_31 : decode cX12_word 31 = .ok (.istore_n 2, 1) := by decide +kernel
theorem dX12_word_32 : decode cX12_word 32 = .ok (.iload_n 2, 1) := by decide +kernel
theorem dX12_word_33 : decode cX12_word 33 = .ok (.aload_n 0, 1) := by decide +kernel
theorem dX12_word_34 : decode cX12_word 34 = .ok (.getfield 13, 3) := by decide +kernel
theorem dX12_word_37 : decode cX12_word 37 = .ok (.iconst 2, 1) := by decide +kernel
theorem dX12_word_38 : decode cX12_word 38 = .ok (.iaload, 1) := by decide +kernel
theorem dX12_word_39 : decode cX12_word 39 = .ok (.if_icmp .ge 63, 3) := by decide +kernel
theorem dX12_word_42 : decode cX12_word 42 = .ok (.aload_n 0, 1) := by decide +kernel
theorem dX12_word_43 : decode cX12_word 43 = .ok (.iload_n 1, 1) := by decide +kernel
theorem dX12_word_44 : decode cX12_word 44 = .ok (.i2l, 1) := by decide +kernel
theorem dX12_word_45 : decode cX12_word 45 = .ok (.iload_n 2, 1) := by decide +kernel
theorem dX12_word_46 : decode cX12_word 46 = .ok (.i2l, 1) := by decide +kernel
theorem dX12_word_47 : decode cX12_word 47 = .ok (.invokevirtual 263, 3) := by decide +kernel
theorem dX12_word_50 : decode cX12_word 50 = .ok (.ifCond .eq 6, 3) := by decide +kernel
theorem dX12_word_53 : decode cX12_word 53 = .ok (.goto 43, 3) := by decide +kernel
theorem dX12_word_56 : decode cX12_word 56 = .ok (.aload_n 0, 1) := by decide +kernel
theorem dX12_word_57 : decode cX12_word 57 = .ok (.iload_n 1, 1) := by decide +kernel
theorem dX12_word_58 : decode cX12_word 58 = .ok (.invokevirtual 375, 3) := by decide +kernel
theorem dX12_word_61 : decode cX12_word 61 = .ok (.istore_n 3, 1) := by decide +kernel
theorem dX12_word_62 : decode cX12_word 62 = .ok (.aload_n 0, 1) := by decide +kernel
theorem dX12_word_63 : decode cX12_word 63 = .ok (.iload_n 1, 1) := by decide +kernel
theorem dX12_word_64 : decode cX12_word 64 = .ok (.iload_n 2, 1) := by decide +kernel
theorem dX12_word_65 : decode cX12_word 65 = .ok (.invokevirtual 270, 3) := by decide +kernel
theorem dX12_word_68 : decode cX12_word 68 = .ok (.aload_n 0, 1) := by decide +kernel
theorem dX12_word_69 : decode cX12_word 69 = .ok (.aload_n 0, 1) := by decide +kernel
theorem dX12_word_70 : decode cX12_word 70 = .ok (.invokevirtual 255, 3) := by decide +kernel
theorem dX12_word_73 : decode cX12_word 73 = .ok (.invokevirtual 319, 3) := by decide +kernel
theorem dX12_word_76 : decode cX12_word 76 = .ok (.istore 4, 2) := by decide +kernel
theorem dX12_word_78 : decode cX12_word 78 = .ok (.aload_n 0, 1) := by decide +kernel
theorem dX12_word_79 : decode cX12_word 79 = .ok (.iload_n 1, 1) := by decide +kernel
theorem dX12_word_80 : decode cX12_word 80 = .ok (.iload_n 3, 1) := by decide +kernel
theorem dX12_word_81 : decode cX12_word 81 = .ok (.invokevirtual 378, 3) := by decide +kernel
theorem dX12_word_84 : decode cX12_word 84 = .ok (.iload 4, 2) := by decide +kernel
theorem dX12_word_86 : decode cX12_word 86 = .ok (.ifCond .eq 10, 3) := by decide +kernel
theorem dX12_word_89 : decode cX12_word 89 = .ok (.bipush 10, 2) := by decide +kernel
theorem dX12_word_91 : decode cX12_word 91 = .ok (.iload_n 1, 1) := by decide +kernel
theorem dX12_word_92 : decode cX12_word 92 = .ok (.imul, 1) := by decide +kernel
theorem dX12_word_93 : decode cX12_word 93 = .ok (.iload_n 2, 1) := by decide +kernel
theorem dX12_word_94 : decode cX12_word 94 = .ok (.iadd, 1) := by decide +kernel
theorem dX12_word_95 : decode cX12_word 95 = .ok (.ireturn, 1) := by decide +kernel
theorem dX12_word_96 : decode cX12_word 96 = .ok (.iinc 2 1, 3) := by decide +kernel
theorem dX12_word_99 : decode cX12_word 99 = .ok (.goto (-67), 3) := by decide +kernel
theorem dX12_word_102 : decode cX12_word 102 = .ok (.iinc 1 1, 3) := by decide +kernel
theorem dX12_word_105 : decode cX12_word 105 = .ok (.goto (-85), 3) := by decide +kernel
theorem dX12_word_108 : decode cX12_word 108 = .ok (.iconst (-1), 1) := by decide +kernel
theorem dX12_word_109 : decode cX12_word 109 = .ok (.ireturn, 1) := by decide +kernel
set_option maxHeartbeats 4000000 in
set_option maxRecDepth 100000 in
theorem gX12_pairs_629056d (l : Launch) (D : va_G) (cy : Nat → ClassId) (h0 : Nat) (h1 : Nat) (h2 : Nat) (h3 : Nat) (h4 : Nat) (h5 : Nat) (h6 : Nat) (p0 : Int32) (p1 : Int32) (p2 : Int32) (w0 : Value) (w1 : Value) (w2 : Value) (p3 : Int32) (p4 : Int32) (p5 : Int32) (p6 : Int32) (p7 : Int32) (p8 : Int32) (p9 : Int32) (p10 : Int32) (p11 : Int32) (p12 : Int32) (p13 : Int32) (w3 : Value) (w4 : Value) (p14 : Int32) (p15 : Int32) (w5 : Value) (p16 : Int32) (p17 : Int32) (w6 : Value) (w7 : Value) (w8 : Value) (w9 : Value) (w10 : Value) (p18 : Int32) (w11 : Value) (w12 : Value) (w13 : Value) (f0 : Nat → Int32) (p19 : Int32) (f1 : Nat → Int32) (f2 : Nat → Int32) (f3 : Nat → Int32) (f4 : Nat → Int32) (f5 : Nat → Int32) (hp0 : (-2147483648) ≤ (p0).toInt ∧ (p0).toInt ≤ 2147483647) (hp1 : (-2147483648) ≤ (p1).toInt ∧ (p1).toInt ≤ 2147483647) (hp2 : (-2147483648) ≤ (p2).toInt ∧ (p2).toInt ≤ 2147483647) (hp3 : 0 ≤ (p3).toInt ∧ (p3).toInt ≤ 900) (hp4 : 0 ≤ (p4).toInt ∧ (p4).toInt ≤ 900) (hp5 : 0 ≤ (p5).toInt ∧ (p5).toInt ≤ 900) (hp6 : 0 ≤ (p6).toInt ∧ (p6).toInt ≤ 900) (hp7 : (-2147483648) ≤ (p7).toInt ∧ (p7).toInt ≤ 2147483647) (hp8 : 0 ≤ (p8).toInt ∧ (p8).toInt ≤ 999) (hp9 : (-2147483648) ≤ (p9).toInt ∧ (p9).toInt ≤ 2147483647) (hp10 : (-2147483648) ≤ (p10).toInt ∧ (p10).toInt ≤ 2147483647) (hp11 : (-2147483648) ≤ (p11).toInt ∧ (p11).toInt ≤ 2147483647) (hp12 : (-2147483648) ≤ (p12).toInt ∧ (p12).toInt ≤ 2147483647) (hp13 : (-2147483648) ≤ (p13).toInt ∧ (p13).toInt ≤ 2147483647) (hp14 : (-2147483648) ≤ (p14).toInt ∧ (p14).toInt ≤ 2147483647) (hp15 : (-2147483648) ≤ (p15).toInt ∧ (p15).toInt ≤ 2147483647) (hp16 : (-2147483648) ≤ (p16).toInt ∧ (p16).toInt ≤ 2147483647) (hp17 : (-2147483648) ≤ (p17).toInt ∧ (p17).toInt ≤ 2147483647) (hp18 : (-2147483648) ≤ (p18).toInt ∧ (p18).toInt ≤ 2147483647) (hp19 : 0 ≤ (p19).toInt ∧ (p19).toInt ≤ 10) (htf0_84 : f0 84 = p19) (rf0 : AL f0) (rf3 : RG f3 10 0 1023) (sz : Nat) : MI l yX12_pairs cX12_pairs 3 .int { frames := 13, cells := 0, slots := 0, locals := 325 } [.ref h0, .int p0, .int p1] D cy (wk_69ec1558b cy h0 p2 h1 w0 w1 w2 p3 p4 p5 p6 p7 p8 p9 p10 p11 p12 p13 h2 h3 w3 h4 w4 p14 p15 w5 h5 h6 p16 p17 w6 w7 w8 w9 w10 p18 w11 w12 w13 h1 f0 h2 f1 h3 f2 h4 f3 h5 f4 h6 f5) sz (fun r u => ((-2147483648) ≤ r.toInt ∧ r.toInt ≤ 2147483647) ∧ (0 ≤ (u.2.1 2 0).toInt ∧ (u.2.1 2 0).toInt ≤ 0) ∧ ((-2147483648) ≤ (u.2.1 3 0).toInt ∧ (u.2.1 3 0).toInt ≤ 2147483647) ∧ ((-2147483648) ≤ (u.2.1 4 0).toInt ∧ (u.2.1 4 0).toInt ≤ 2147483647) ∧ RG (u.2.1 5) 10 0 1023 ∧ True) (fun u => (wk_69ec1558b cy h0 (u.2.1 2 0) h1 w0 w1 w2 p3 p4 p5 p6 p7 p8 p9 p10 p11 p12 p13 h2 h3 w3 h4 w4 p14 p15 w5 h5 h6 (u.2.1 3 0) (u.2.1 4 0) w6 w7 w8 w9 w10 p18 w11 w12 w13 h1 f0 h2 (u.2.1 0) h3 (u.2.1 1) h4 (u.2.1 5) h5 (u.2.1 6) h6 (u.2.1 7))) 0 0 := by
  refine q_ent (own := RX12) (by decide) rfl (Nat.le_of_ble_eq_true rfl) (fun p e s m below meth c ls X hr hlk hnm hK hT h hA hl => ?_)
  obtain ⟨hx, hb, hml, hown, ht⟩ := id X
  replace hl : lv_has ls 3 [(0, .ref h0), (1, .int p0), (2, .int p1)] := hl
  refine lv_aload_n hx hb dX12_pairs_0 rfl (lv_at hl 0 rfl) ?_
  refine lv_iconst (v := 0) hx hb dX12_pairs_1 (by decide) ?_
  refine q_put (v := .int 0) X hK h 0 rfl rfl wf_12 tyX12 tyX12_ok nmX12 0 (by decide) wm_5_170 rfl rfl rfl (Nat.le_of_ble_eq_true rfl) dX12_pairs_2 (fun H locs h_1 => ?_)
  clear h
  replace h_1 : qW D _ _ (wk_69ec1558b cy h0 0 h1 w0 w1 w2 p3 p4 p5 p6 p7 p8 p9 p10 p11 p12 p13 h2 h3 w3 h4 w4 p14 p15 w5 h5 h6 p16 p17 w6 w7 w8 w9 w10 p18 w11 w12 w13 h1 f0 h2 f1 h3 f2 h4 f3 h5 f4 h6 f5) _ _ := h_1
  refine lv_iload_n hx hb dX12_pairs_5 rfl (lv_at hl 2 rfl) ?_
  refine lv_i2l hx hb dX12_pairs_6 rfl ?_
  obtain ⟨z_2, ez_2, hz_2⟩ := e_i2l (x := p1) rfl
  refine q_cl z_2 ez_2 ?_
  clear ez_2
  refine lv_lconst (v := 0) hx hb dX12_pairs_7 (by decide) ?_
  refine lv_lconst (v := 1) hx hb dX12_pairs_8 (by decide) ?_
  refine q_callSi (rest := []) (wr := (wk_69ec1558b cy h0 0 h1 w0 w1 w2 p3 p4 p5 p6 p7 p8 p9 p10 p11 p12 p13 h2 h3 w3 h4 w4 p14 p15 w5 h5 h6 p16 p17 w6 w7 w8 w9 w10 p18 w11 w12 w13 h1 f0 h2 f1 h3 f2 h4 f3 h5 f4 h6 f5)) X hK hT hA h_1 (fun sz => gX12_within_00c7897 l D cy z_2 (0 : Int64) (1 : Int64) (j_rng _) ⟨by decide +kernel, by decide +kernel⟩ ⟨by decide +kernel, by decide +kernel⟩ sz) wm_6_50 wm_6_52 wm_1_12 hd_X12_within wm_6_51 ⟨Nat.le_of_ble_eq_true rfl, Nat.le_of_ble_eq_true rfl⟩ hl.1 rfl (Nat.le_of_ble_eq_true rfl) dX12_pairs_9 ⟨Nat.le_of_ble_eq_true rfl, Nat.le_of_ble_eq_true rfl⟩ [] [0, 1, 2, 3, 4, 5, 6] rfl rfl (by decide) rfl rfl (fun r_3 u_3 H locs w_3 h_3 => ?_)
  clear h_1
  obtain ⟨wr_3, y3_0, _⟩ := w_3
  have lq_3_1 : (0 : Int64).toInt = 0 := (by decide)
  have lq_3_2 : (1 : Int64).toInt = 1 := (by decide)
  replace h_3 : qW D _ _ (wk_69ec1558b cy h0 0 h1 w0 w1 w2 p3 p4 p5 p6 p7 p8 p9 p10 p11 p12 p13 h2 h3 w3 h4 w4 p14 p15 w5 h5 h6 p16 p17 w6 w7 w8 w9 w10 p18 w11 w12 w13 h1 f0 h2 f1 h3 f2 h4 f3 h5 f4 h6 f5) _ _ := h_3
  refine lv_if_ne (tgt := 36) hx hb dX12_pairs_12 (by decide) (fun c_4 => ?_) (fun c_4 => ?_)
  · replace c_4 := i_ne (x := r_3) (y := 0) rfl (show (0 : Int32).toInt = 0 by decide) c_4
    replace y3_0 := a10_1 y3_0 c_4
    refine lv_aload_n hx hb dX12_pairs_36 rfl (lv_at hl 0 rfl) ?_
    refine lv_iload_n hx hb dX12_pairs_37 rfl (lv_at hl 1 rfl) ?_
    refine q_callVi (rest := []) (wr := (wk_794ff6232 cy h2 f1 h3 f2 h4 f3 h5 f4 h6 f5)) X hK hT hA h_3 (fun sz => gX12_isSet_9166d70 l D cy h0 h1 p0 (0 : Int32) w0 w1 w2 p3 p4 p5 p6 p7 p8 p9 p10 p11 p12 p13 (.ref h2) (.ref h3) w3 (.ref h4) w4 p14 p15 w5 (.ref h5) (.ref h6) p16 p17 w6 w7 w8 w9 w10 p18 w11 w12 w13 f0 p19 (i_rng _) ⟨by decide +kernel, by decide +kernel⟩ hp3 hp4 hp5 hp6 (i_rng _) hp8 (i_rng _) (i_rng _) (i_rng _) (i_rng _) (i_rng _) (i_rng _) (i_rng _) (i_rng _) (i_rng _) (i_rng _) hp19 htf0_84 rf0 sz) wm_7_96 wm_7_99 wm_1_12 hd_X12_isSet wm_7_98 wp_7_1 (ci := 12) (q0 := 0) rfl rfl ⟨Nat.le_of_ble_eq_true rfl, Nat.le_of_ble_eq_true rfl⟩ hl.1 rfl (Nat.le_of_ble_eq_true rfl) dX12_pairs_38 ⟨Nat.le_of_ble_eq_true rfl, Nat.le_of_ble_eq_true rfl⟩ [0, 1] [2, 3, 4, 5, 6] rfl rfl (by decide) rfl rfl (fun r_5 u_5 H locs w_5 h_5 => ?_)
    clear h_3
    obtain ⟨wr_5, y5_0, _⟩ := w_5
    replace h_5 : qW D _ _ (wk_8e370af72 cy h2 f1 h3 f2 h4 f3 h5 f4 h6 f5 h0 0 h1 w0 w1 w2 p3 p4 p5 p6 p7 p8 p9 p10 p11 p12 p13 h2 h3 w3 h4 w4 p14 p15 w5 h5 h6 p16 p17 w6 w7 w8 w9 w10 p18 w11 w12 w13 h1 f0) _ _ := h_5
    refine lv_if_ne (tgt := 47) hx hb dX12_pairs_41 (by decide) (fun c_6 => ?_) (fun c_6 => ?_)
    · replace c_6 := i_ne (x := r_5) (y := 0) rfl (show (0 : Int32).toInt = 0 by decide) c_6
      refine lv_aload_n hx hb dX12_pairs_47 rfl (lv_at hl 0 rfl) ?_
      refine lv_aload_n hx hb dX12_pairs_48 rfl (lv_at hl 0 rfl) ?_
      refine q_get X hK h_5 5 rfl rfl wf_12 1 (by decide) rfl wm_5_171 dX12_pairs_49 ?_
      refine lv_bipush (v := 52) hx hb dX12_pairs_52 (by decide) ?_
      refine q_iald X hK h_5 6 rfl (q_in (by decide +kernel)) dX12_pairs_54 ?_
      refine q_any (fun z_7 hz_7 => ?_)
      refine q_callVv (rest := []) (wr := (wk_acf3c80ad cy h5 f4 h6 f5)) X hK hT hA h_5 (fun sz => gX12_laysOpposed_6a814f8 l D cy h0 h1 h2 h3 h4 z_7 (0 : Int32) w0 w1 w2 p3 p4 p5 p6 p7 p8 p9 p10 p11 p12 p13 w3 w4 p14 p15 w5 (.ref h5) (.ref h6) p16 p17 w6 w7 w8 w9 w10 p18 w11 w12 w13 f0 p19 f1 f2 f3 (i_rng _) ⟨by decide +kernel, by decide +kernel⟩ hp3 hp4 hp5 hp6 (i_rng _) hp8 (i_rng _) (i_rng _) (i_rng _) (i_rng _) (i_rng _) (i_rng _) (i_rng _) (i_rng _) (i_rng _) (i_rng _) hp19 htf0_84 rf0 (rg_wide rf3 (by decide) (by decide)) sz) wm_7_59 wm_7_62 wm_1_12 hd_X12_laysOpposed wm_7_61 wp_6_12 (ci := 12) (q0 := 0) rfl rfl ⟨Nat.le_of_ble_eq_true rfl, Nat.le_of_ble_eq_true rfl⟩ hl.1 rfl (Nat.le_of_ble_eq_true rfl) dX12_pairs_55 ⟨Nat.le_of_ble_eq_true rfl, Nat.le_of_ble_eq_true rfl⟩ [5, 6, 0, 1, 2] [3, 4] rfl rfl (by decide) rfl rfl (fun u_8 H locs w_8 h_8 => ?_)
      clear h_5
      obtain ⟨w8_0, _⟩ := w_8
      replace h_8 : qW D _ _ (wk_46efe495a cy h5 f4 h6 f5 h0 0 h1 w0 w1 w2 p3 p4 p5 p6 p7 p8 p9 p10 p11 p12 p13 h2 h3 w3 h4 w4 p14 p15 w5 h5 h6 p16 p17 w6 w7 w8 w9 w10 p18 w11 w12 w13 h1 f0 h2 (u_8.2.1 0) h3 (u_8.2.1 1) h4 (u_8.2.1 2)) _ _ := h_8
      refine lv_aload_n hx hb dX12_pairs_58 rfl (lv_at hl 0 rfl) ?_
      refine lv_iload_n hx hb dX12_pairs_59 rfl (lv_at hl 1 rfl) ?_
      refine q_callVv (rest := []) (wr := (wk_3fb6de35f cy h2 (u_8.2.1 0) h3 (u_8.2.1 1))) X hK hT hA h_8 (fun sz => gX12_laysPairs_e0c774e l D cy h0 h1 h4 h5 h6 p0 (0 : Int32) w0 w1 w2 p3 p4 p5 p6 p7 p8 p9 p10 p11 p12 p13 (.ref h2) (.ref h3) w3 w4 p14 p15 w5 p16 p17 w6 w7 w8 w9 w10 p18 w11 w12 w13 f0 p19 (u_8.2.1 2) f4 f5 ⟨by omega, by omega⟩ ⟨by decide +kernel, by decide +kernel⟩ hp3 hp4 hp5 hp6 (i_rng _) hp8 (i_rng _) (i_rng _) (i_rng _) (i_rng _) (i_rng _) (i_rng _) (i_rng _) (i_rng _) (i_rng _) (i_rng _) hp19 htf0_84 rf0 (rg_wide w8_0 (by decide) (by decide)) sz) wm_7_112 wm_7_115 wm_1_12 hd_X12_laysPairs wm_7_114 wp_7_3 (ci := 12) (q0 := 0) rfl rfl ⟨Nat.le_of_ble_eq_true rfl, Nat.le_of_ble_eq_true rfl⟩ hl.1 rfl (Nat.le_of_ble_eq_true rfl) dX12_pairs_60 ⟨Nat.le_of_ble_eq_true rfl, Nat.le_of_ble_eq_true rfl⟩ [2, 3, 6, 0, 1] [4, 5] rfl rfl (by decide) rfl rfl (fun u_9 H locs w_9 h_9 => ?_)
      clear h_8
      obtain ⟨w9_0, w9_1, _⟩ := w_9
      replace h_9 : qW D _ _ (wk_d169974a4 cy h2 (u_8.2.1 0) h3 (u_8.2.1 1) h0 0 h1 w0 w1 w2 p3 p4 p5 p6 p7 p8 p9 p10 p11 p12 p13 h2 h3 w3 h4 w4 p14 p15 w5 h5 h6 (u_9.2.1 0 0) (u_9.2.1 1 0) w6 w7 w8 w9 w10 p18 w11 w12 w13 h1 f0 h4 (u_8.2.1 2) h5 (u_9.2.1 2) h6 (u_9.2.1 3)) _ _ := h_9
      refine lv_iload_n hx hb dX12_pairs_63 rfl (lv_at hl 2 rfl) ?_
      refine q_jn (pc2 := 95) (fun H locs ls st => ∃ v95_10_0 : Int32, ((-2147483648) ≤ (v95_10_0).toInt ∧ (v95_10_0).toInt ≤ 2147483647) ∧ st = [.int v95_10_0] ∧ qW D (va_A (wk_69ec1558b cy h0 p2 h1 w0 w1 w2 p3 p4 p5 p6 p7 p8 p9 p10 p11 p12 p13 h2 h3 w3 h4 w4 p14 p15 w5 h5 h6 p16 p17 w6 w7 w8 w9 w10 p18 w11 w12 w13 h1 f0 h2 f1 h3 f2 h4 f3 h5 f4 h6 f5) sz) s.heap (wk_d169974a4 cy h2 (u_8.2.1 0) h3 (u_8.2.1 1) h0 0 h1 w0 w1 w2 p3 p4 p5 p6 p7 p8 p9 p10 p11 p12 p13 h2 h3 w3 h4 w4 p14 p15 w5 h5 h6 (u_9.2.1 0 0) (u_9.2.1 1 0) w6 w7 w8 w9 w10 p18 w11 w12 w13 h1 f0 h4 (u_8.2.1 2) h5 (u_9.2.1 2) h6 (u_9.2.1 3)) H locs ∧ lv_has ls 3 [(0, .ref h0), (1, .int p0), (2, .int p1)]) (fun H locs ls st hP => ?_) (fun J_95 => ?_)
      · obtain ⟨v95_10_0, hv95_10_0, rfl, h, hl⟩ := hP
        exact q_iret X hr hlk hK h rfl (fun _ => 0, (vcons (u_8.2.1 0) (vcons (u_8.2.1 1) (vcons (fun _ => 0) (vcons (fun _ => (u_9.2.1 0 0)) (vcons (fun _ => (u_9.2.1 1 0)) (vcons (u_8.2.1 2) (vcons (u_9.2.1 2) (vcons (u_9.2.1 3) (fun _ => (fun _ => 0)))))))))), fun _ _ => 0) ⟨hv95_10_0, (⟨by decide +kernel, by decide +kernel⟩ : 0 ≤ (0 : Int32).toInt ∧ (0 : Int32).toInt ≤ 0), (bw w9_0 (by decide) (by decide)), w9_1, (rg_wide w8_0 (by decide) (by decide)), trivial⟩ [2, 3, 0, 1, 4, 5, 6] rfl rfl dX12_pairs_95 (Nat.le_of_ble_eq_true rfl) (Nat.le_of_ble_eq_true rfl)
      · skip
        refine lv_if_ne (tgt := 74) hx hb dX12_pairs_64 (by decide) (fun c_11 => ?_) (fun c_11 => ?_)
        · replace c_11 := i_ne (x := p1) (y := 0) rfl (show (0 : Int32).toInt = 0 by decide) c_11
          refine lv_iload_n hx hb dX12_pairs_74 rfl (lv_at hl 2 rfl) ?_
          refine lv_iconst (v := 1) hx hb dX12_pairs_75 (by decide) ?_
          refine lv_icmp_ne (tgt := 86) hx hb dX12_pairs_76 (by decide) (fun c_12 => ?_) (fun c_12 => ?_)
          · replace c_12 := i_ne (x := p1) (y := 1) rfl (show (1 : Int32).toInt = 1 by decide) c_12
            exfalso
            omega
          · replace c_12 := i_eq (x := p1) (y := 1) rfl (show (1 : Int32).toInt = 1 by decide) c_12
            refine lv_aload_n hx hb dX12_pairs_79 rfl (lv_at hl 0 rfl) ?_
            refine q_get X hK h_9 2 rfl rfl wf_12 27 (by decide) rfl wm_5_197 dX12_pairs_80 ?_
            refine lv_goto (tgt := 95) hx hb dX12_pairs_83 (by decide) ?_
            exact J_95 _ _ _ _ ⟨(u_9.2.1 1 0), w9_1, rfl, h_9, (lv_sub hl [0, 1, 2] rfl)⟩
        · replace c_11 := i_eq (x := p1) (y := 0) rfl (show (0 : Int32).toInt = 0 by decide) c_11
          refine lv_aload_n hx hb dX12_pairs_67 rfl (lv_at hl 0 rfl) ?_
          refine q_get X hK h_9 2 rfl rfl wf_12 26 (by decide) rfl wm_5_196 dX12_pairs_68 ?_
          refine lv_goto (tgt := 95) hx hb dX12_pairs_71 (by decide) ?_
          exact J_95 _ _ _ _ ⟨(u_9.2.1 0 0), (bw w9_0 (by decide) (by decide)), rfl, h_9, (lv_sub hl [0, 1, 2] rfl)⟩
    · replace c_6 := i_eq (x := r_5) (y := 0) rfl (show (0 : Int32).toInt = 0 by decide) c_6
      refine lv_bipush (v := (-3)) hx hb dX12_pairs_44 (by decide) ?_
      exact q_iret X hr hlk hK h_5 rfl (fun _ => 0, (vcons f1 (vcons f2 (vcons (fun _ => 0) (vcons (fun _ => p16) (vcons (fun _ => p17) (vcons f3 (vcons f4 (vcons f5 (fun _ => (fun _ => 0)))))))))), fun _ _ => 0) ⟨⟨by decide +kernel, by decide +kernel⟩, (⟨by decide +kernel, by decide +kernel⟩ : 0 ≤ (0 : Int32).toInt ∧ (0 : Int32).toInt ≤ 0), hp16, hp17, (rg_wide rf3 (by decide) (by decide)), trivial⟩ [5, 6, 0, 1, 2, 3, 4] rfl rfl dX12_pairs_46 (Nat.le_of_ble_eq_true rfl) (Nat.le_of_ble_eq_true rfl)
  · replace c_4 := i_eq (x := r_3) (y := 0) rfl (show (0 : Int32).toInt = 0 by decide) c_4
    replace y3_0 := a10_0 y3_0 c_4
    refine lv_iload_n hx hb dX12_pairs_15 rfl (lv_at hl 2 rfl) ?_
    refine lv_bipush (v := 10) hx hb dX12_pairs_16 (by decide) ?_
    refine lv_icmp_lt (tgt := 33) hx hb dX12_pairs_18 (by decide) (fun c_13 => ?_) (fun c_13 => ?_)
    · replace c_13 := i_lt (x := p1) (y := 10) rfl (show (10 : Int32).toInt = 10 by decide) c_13
      refine lv_bipush (v := (-2)) hx hb dX12_pairs_33 (by decide) ?_
      exact q_iret X hr hlk hK h_3 rfl (fun _ => 0, (vcons f1 (vcons f2 (vcons (fun _ => 0) (vcons (fun _ => p16) (vcons (fun _ => p17) (vcons f3 (vcons f4 (vcons f5 (fun _ => (fun _ => 0)))))))))), fun _ _ => 0) ⟨⟨by decide +kernel, by decide +kernel⟩, (⟨by decide +kernel, by decide +kernel⟩ : 0 ≤ (0 : Int32).toInt ∧ (0 : Int32).toInt ≤ 0), hp16, hp17, (rg_wide rf3 (by decide) (by decide)), trivial⟩ [0, 1, 2, 3, 4, 5, 6] rfl rfl dX12_pairs_35 (Nat.le_of_ble_eq_true rfl) (Nat.le_of_ble_eq_true rfl)
    · replace c_13 := i_nlt (x := p1) (y := 10) rfl (show (10 : Int32).toInt = 10 by decide) c_13
      refine lv_aload_n hx hb dX12_pairs_21 rfl (lv_at hl 0 rfl) ?_
      refine lv_iload_n hx hb dX12_pairs_22 rfl (lv_at hl 2 rfl) ?_
      refine lv_bipush (v := 10) hx hb dX12_pairs_23 (by decide) ?_
      refine lv_isub hx hb dX12_pairs_25 ?_
      obtain ⟨z_14, ez_14, hz_14⟩ := e_sub (x := p1) (y := 10) rfl (show (10 : Int32).toInt = 10 by decide) (by omega) (by omega)
      refine q_c z_14 ez_14 ?_
      clear ez_14
      refine lv_i2l hx hb dX12_pairs_26 rfl ?_
      obtain ⟨z_15, ez_15, hz_15⟩ := e_i2l (x := z_14) rfl
      refine q_cl z_15 ez_15 ?_
      clear ez_15
      refine q_callVi (rest := []) (wr := (wk_794ff6232 cy h2 f1 h3 f2 h4 f3 h5 f4 h6 f5)) X hK hT hA h_3 (fun sz => gX12_isPerson_039c8d6 l D cy h0 h1 z_15 (0 : Int32) w0 w1 w2 p3 p4 p5 p6 p7 p8 p9 p10 p11 p12 p13 (.ref h2) (.ref h3) w3 (.ref h4) w4 p14 p15 w5 (.ref h5) (.ref h6) p16 p17 w6 w7 w8 w9 w10 p18 w11 w12 w13 f0 p19 ⟨by omega, by omega⟩ ⟨by decide +kernel, by decide +kernel⟩ hp3 hp4 hp5 hp6 (i_rng _) hp8 (i_rng _) (i_rng _) (i_rng _) (i_rng _) (i_rng _) (i_rng _) (i_rng _) (i_rng _) (i_rng _) (i_rng _) hp19 htf0_84 rf0 sz) wm_6_162 wm_6_165 wm_1_12 hd_X12_isPerson wm_6_164 wp_5_8 (ci := 12) (q0 := 0) rfl rfl ⟨Nat.le_of_ble_eq_true rfl, Nat.le_of_ble_eq_true rfl⟩ hl.1 rfl (Nat.le_of_ble_eq_true rfl) dX12_pairs_27 ⟨Nat.le_of_ble_eq_true rfl, Nat.le_of_ble_eq_true rfl⟩ [0, 1] [2, 3, 4, 5, 6] rfl rfl (by decide) rfl rfl (fun r_16 u_16 H locs w_16 h_16 => ?_)
      clear h_3
      obtain ⟨wr_16, y16_0, _⟩ := w_16
      replace h_16 : qW D _ _ (wk_8e370af72 cy h2 f1 h3 f2 h4 f3 h5 f4 h6 f5 h0 0 h1 w0 w1 w2 p3 p4 p5 p6 p7 p8 p9 p10 p11 p12 p13 h2 h3 w3 h4 w4 p14 p15 w5 h5 h6 p16 p17 w6 w7 w8 w9 w10 p18 w11 w12 w13 h1 f0) _ _ := h_16
      refine lv_if_ne (tgt := 36) hx hb dX12_pairs_30 (by decide) (fun c_17 => ?_) (fun c_17 => ?_)
      · replace c_17 := i_ne (x := r_16) (y := 0) rfl (show (0 : Int32).toInt = 0 by decide) c_17
        refine lv_aload_n hx hb dX12_pairs_36 rfl (lv_at hl 0 rfl) ?_
        refine lv_iload_n hx hb dX12_pairs_37 rfl (lv_at hl 1 rfl) ?_
        refine q_callVi (rest := []) (wr := (wk_794ff6232 cy h2 f1 h3 f2 h4 f3 h5 f4 h6 f5)) X hK hT hA h_16 (fun sz => gX12_isSet_9166d70 l D cy h0 h1 p0 (0 : Int32) w0 w1 w2 p3 p4 p5 p6 p7 p8 p9 p10 p11 p12 p13 (.ref h2) (.ref h3) w3 (.ref h4) w4 p14 p15 w5 (.ref h5) (.ref h6) p16 p17 w6 w7 w8 w9 w10 p18 w11 w12 w13 f0 p19 (i_rng _) ⟨by decide +kernel, by decide +kernel⟩ hp3 hp4 hp5 hp6 (i_rng _) hp8 (i_rng _) (i_rng _) (i_rng _) (i_rng _) (i_rng _) (i_rng _) (i_rng _) (i_rng _) (i_rng _) (i_rng _) hp19 htf0_84 rf0 sz) wm_7_96 wm_7_99 wm_1_12 hd_X12_isSet wm_7_98 wp_7_1 (ci := 12) (q0 := 0) rfl rfl ⟨Nat.le_of_ble_eq_true rfl, Nat.le_of_ble_eq_true rfl⟩ hl.1 rfl (Nat.le_of_ble_eq_true rfl) dX12_pairs_38 ⟨Nat.le_of_ble_eq_true rfl, Nat.le_of_ble_eq_true rfl⟩ [5, 6] [0, 1, 2, 3, 4] rfl rfl (by decide) rfl rfl (fun r_18 u_18 H locs w_18 h_18 => ?_)
        clear h_16
        obtain ⟨wr_18, y18_0, _⟩ := w_18
        replace h_18 : qW D _ _ (wk_8e370af72 cy h2 f1 h3 f2 h4 f3 h5 f4 h6 f5 h0 0 h1 w0 w1 w2 p3 p4 p5 p6 p7 p8 p9 p10 p11 p12 p13 h2 h3 w3 h4 w4 p14 p15 w5 h5 h6 p16 p17 w6 w7 w8 w9 w10 p18 w11 w12 w13 h1 f0) _ _ := h_18
        refine lv_if_ne (tgt := 47) hx hb dX12_pairs_41 (by decide) (fun c_19 => ?_) (fun c_19 => ?_)
        · replace c_19 := i_ne (x := r_18) (y := 0) rfl (show (0 : Int32).toInt = 0 by decide) c_19
          refine lv_aload_n hx hb dX12_pairs_47 rfl (lv_at hl 0 rfl) ?_
          refine lv_aload_n hx hb dX12_pairs_48 rfl (lv_at hl 0 rfl) ?_
          refine q_get X hK h_18 5 rfl rfl wf_12 1 (by decide) rfl wm_5_171 dX12_pairs_49 ?_
          refine lv_bipush (v := 52) hx hb dX12_pairs_52 (by decide) ?_
          refine q_iald X hK h_18 6 rfl (q_in (by decide +kernel)) dX12_pairs_54 ?_
          refine q_any (fun z_20 hz_20 => ?_)
          refine q_callVv (rest := []) (wr := (wk_acf3c80ad cy h5 f4 h6 f5)) X hK hT hA h_18 (fun sz => gX12_laysOpposed_6a814f8 l D cy h0 h1 h2 h3 h4 z_20 (0 : Int32) w0 w1 w2 p3 p4 p5 p6 p7 p8 p9 p10 p11 p12 p13 w3 w4 p14 p15 w5 (.ref h5) (.ref h6) p16 p17 w6 w7 w8 w9 w10 p18 w11 w12 w13 f0 p19 f1 f2 f3 (i_rng _) ⟨by decide +kernel, by decide +kernel⟩ hp3 hp4 hp5 hp6 (i_rng _) hp8 (i_rng _) (i_rng _) (i_rng _) (i_rng _) (i_rng _) (i_rng _) (i_rng _) (i_rng _) (i_rng _) (i_rng _) hp19 htf0_84 rf0 (rg_wide rf3 (by decide) (by decide)) sz) wm_7_59 wm_7_62 wm_1_12 hd_X12_laysOpposed wm_7_61 wp_6_12 (ci := 12) (q0 := 0) rfl rfl ⟨Nat.le_of_ble_eq_true rfl, Nat.le_of_ble_eq_true rfl⟩ hl.1 rfl (Nat.le_of_ble_eq_true rfl) dX12_pairs_55 ⟨Nat.le_of_ble_eq_true rfl, Nat.le_of_ble_eq_true rfl⟩ [5, 6, 0, 1, 2] [3, 4] rfl rfl (by decide) rfl rfl (fun u_21 H locs w_21 h_21 => ?_)
          clear h_18
          obtain ⟨w21_0, _⟩ := w_21
          replace h_21 : qW D _ _ (wk_46efe495a cy h5 f4 h6 f5 h0 0 h1 w0 w1 w2 p3 p4 p5 p6 p7 p8 p9 p10 p11 p12 p13 h2 h3 w3 h4 w4 p14 p15 w5 h5 h6 p16 p17 w6 w7 w8 w9 w10 p18 w11 w12 w13 h1 f0 h2 (u_21.2.1 0) h3 (u_21.2.1 1) h4 (u_21.2.1 2)) _ _ := h_21
          refine lv_aload_n hx hb dX12_pairs_58 rfl (lv_at hl 0 rfl) ?_
          refine lv_iload_n hx hb dX12_pairs_59 rfl (lv_at hl 1 rfl) ?_
          refine q_callVv (rest := []) (wr := (wk_3fb6de35f cy h2 (u_21.2.1 0) h3 (u_21.2.1 1))) X hK hT hA h_21 (fun sz => gX12_laysPairs_e0c774e l D cy h0 h1 h4 h5 h6 p0 (0 : Int32) w0 w1 w2 p3 p4 p5 p6 p7 p8 p9 p10 p11 p12 p13 (.ref h2) (.ref h3) w3 w4 p14 p15 w5 p16 p17 w6 w7 w8 w9 w10 p18 w11 w12 w13 f0 p19 (u_21.2.1 2) f4 f5 ⟨by omega, by omega⟩ ⟨by decide +kernel, by decide +kernel⟩ hp3 hp4 hp5 hp6 (i_rng _) hp8 (i_rng _) (i_rng _) (i_rng _) (i_rng _) (i_rng _) (i_rng _) (i_rng _) (i_rng _) (i_rng _) (i_rng _) hp19 htf0_84 rf0 (rg_wide w21_0 (by decide) (by decide)) sz) wm_7_112 wm_7_115 wm_1_12 hd_X12_laysPairs wm_7_114 wp_7_3 (ci := 12) (q0 := 0) rfl rfl ⟨Nat.le_of_ble_eq_true rfl, Nat.le_of_ble_eq_true rfl⟩ hl.1 rfl (Nat.le_of_ble_eq_true rfl) dX12_pairs_60 ⟨Nat.le_of_ble_eq_true rfl, Nat.le_of_ble_eq_true rfl⟩ [2, 3, 6, 0, 1] [4, 5] rfl rfl (by decide) rfl rfl (fun u_22 H locs w_22 h_22 => ?_)
          clear h_21
          obtain ⟨w22_0, w22_1, _⟩ := w_22
          replace h_22 : qW D _ _ (wk_d169974a4 cy h2 (u_21.2.1 0) h3 (u_21.2.1 1) h0 0 h1 w0 w1 w2 p3 p4 p5 p6 p7 p8 p9 p10 p11 p12 p13 h2 h3 w3 h4 w4 p14 p15 w5 h5 h6 (u_22.2.1 0 0) (u_22.2.1 1 0) w6 w7 w8 w9 w10 p18 w11 w12 w13 h1 f0 h4 (u_21.2.1 2) h5 (u_22.2.1 2) h6 (u_22.2.1 3)) _ _ := h_22
          refine lv_iload_n hx hb dX12_pairs_63 rfl (lv_at hl 2 rfl) ?_
          refine q_jn (pc2 := 95) (fun H locs ls st => ∃ v95_23_0 : Int32, ((-2147483648) ≤ (v95_23_0).toInt ∧ (v95_23_0).toInt ≤ 2147483647) ∧ st = [.int v95_23_0] ∧ qW D (va_A (wk_69ec1558b cy h0 p2 h1 w0 w1 w2 p3 p4 p5 p6 p7 p8 p9 p10 p11 p12 p13 h2 h3 w3 h4 w4 p14 p15 w5 h5 h6 p16 p17 w6 w7 w8 w9 w10 p18 w11 w12 w13 h1 f0 h2 f1 h3 f2 h4 f3 h5 f4 h6 f5) sz) s.heap (wk_d169974a4 cy h2 (u_21.2.1 0) h3 (u_21.2.1 1) h0 0 h1 w0 w1 w2 p3 p4 p5 p6 p7 p8 p9 p10 p11 p12 p13 h2 h3 w3 h4 w4 p14 p15 w5 h5 h6 (u_22.2.1 0 0) (u_22.2.1 1 0) w6 w7 w8 w9 w10 p18 w11 w12 w13 h1 f0 h4 (u_21.2.1 2) h5 (u_22.2.1 2) h6 (u_22.2.1 3)) H locs ∧ lv_has ls 3 [(0, .ref h0), (1, .int p0), (2, .int p1)]) (fun H locs ls st hP => ?_) (fun J_95 => ?_)
          · obtain ⟨v95_23_0, hv95_23_0, rfl, h, hl⟩ := hP
            exact q_iret X hr hlk hK h rfl (fun _ => 0, (vcons (u_21.2.1 0) (vcons (u_21.2.1 1) (vcons (fun _ => 0) (vcons (fun _ => (u_22.2.1 0 0)) (vcons (fun _ => (u_22.2.1 1 0)) (vcons (u_21.2.1 2) (vcons (u_22.2.1 2) (vcons (u_22.2.1 3) (fun _ => (fun _ => 0)))))))))), fun _ _ => 0) ⟨hv95_23_0, (⟨by decide +kernel, by decide +kernel⟩ : 0 ≤ (0 : Int32).toInt ∧ (0 : Int32).toInt ≤ 0), (bw w22_0 (by decide) (by decide)), w22_1, (rg_wide w21_0 (by decide) (by decide)), trivial⟩ [2, 3, 0, 1, 4, 5, 6] rfl rfl dX12_pairs_95 (Nat.le_of_ble_eq_true rfl) (Nat.le_of_ble_eq_true rfl)
          · skip
            refine lv_if_ne (tgt := 74) hx hb dX12_pairs_64 (by decide) (fun c_24 => ?_) (fun c_24 => ?_)
            · replace c_24 := i_ne (x := p1) (y := 0) rfl (show (0 : Int32).toInt = 0 by decide) c_24
              refine lv_iload_n hx hb dX12_pairs_74 rfl (lv_at hl 2 rfl) ?_
              refine lv_iconst (v := 1) hx hb dX12_pairs_75 (by decide) ?_
              refine lv_icmp_ne (tgt := 86) hx hb dX12_pairs_76 (by decide) (fun c_25 => ?_) (fun c_25 => ?_)
              · replace c_25 := i_ne (x := p1) (y := 1) rfl (show (1 : Int32).toInt = 1 by decide) c_25
                refine lv_aload_n hx hb dX12_pairs_86 rfl (lv_at hl 0 rfl) ?_
                refine q_get X hK h_22 2 rfl rfl wf_12 25 (by decide) rfl wm_5_195 dX12_pairs_87 ?_
                refine lv_iload_n hx hb dX12_pairs_90 rfl (lv_at hl 2 rfl) ?_
                refine lv_bipush (v := 10) hx hb dX12_pairs_91 (by decide) ?_
                refine lv_isub hx hb dX12_pairs_93 ?_
                obtain ⟨z_26, ez_26, hz_26⟩ := e_sub (x := p1) (y := 10) rfl (show (10 : Int32).toInt = 10 by decide) (by omega) (by omega)
                refine q_c z_26 ez_26 ?_
                clear ez_26
                refine q_iald X hK h_22 6 rfl (i_in rfl (by omega) (by omega)) dX12_pairs_94 ?_
                refine q_any (fun z_27 hz_27 => ?_)
                exact J_95 _ _ _ _ ⟨z_27, ⟨by omega, by omega⟩, rfl, h_22, (lv_sub hl [0, 1, 2] rfl)⟩
              · replace c_25 := i_eq (x := p1) (y := 1) rfl (show (1 : Int32).toInt = 1 by decide) c_25
                exfalso
                omega
            · replace c_24 := i_eq (x := p1) (y := 0) rfl (show (0 : Int32).toInt = 0 by decide) c_24
              exfalso
              omega
        · replace c_19 := i_eq (x := r_18) (y := 0) rfl (show (0 : Int32).toInt = 0 by decide) c_19
          refine lv_bipush (v := (-3)) hx hb dX12_pairs_44 (by decide) ?_
          exact q_iret X hr hlk hK h_18 rfl (fun _ => 0, (vcons f1 (vcons f2 (vcons (fun _ => 0) (vcons (fun _ => p16) (vcons (fun _ => p17) (vcons f3 (vcons f4 (vcons f5 (fun _ => (fun _ => 0)))))))))), fun _ _ => 0) ⟨⟨by decide +kernel, by decide +kernel⟩, (⟨by decide +kernel, by decide +kernel⟩ : 0 ≤ (0 : Int32).toInt ∧ (0 : Int32).toInt ≤ 0), hp16, hp17, (rg_wide rf3 (by decide) (by decide)), trivial⟩ [5, 6, 0, 1, 2, 3, 4] rfl rfl dX12_pairs_46 (Nat.le_of_ble_eq_true rfl) (Nat.le_of_ble_eq_true rfl)
      · replace c_17 := i_eq (x := r_16) (y := 0) rfl (show (0 : Int32).toInt = 0 by decide) c_17
        refine lv_bipush (v := (-2)) hx hb dX12_pairs_33 (by decide) ?_
        exact q_iret X hr hlk hK h_16 rfl (fun _ => 0, (vcons f1 (vcons f2 (vcons (fun _ => 0) (vcons (fun _ => p16) (vcons (fun _ => p17) (vcons f3 (vcons f4 (vcons f5 (fun _ => (fun _ => 0)))))))))), fun _ _ => 0) ⟨⟨by decide +kernel, by decide +kernel⟩, (⟨by decide +kernel, by decide +kernel⟩ : 0 ≤ (0 : Int32).toInt ∧ (0 : Int32).toInt ≤ 0), hp16, hp17, (rg_wide rf3 (by decide) (by decide)), trivial⟩ [5, 6, 0, 1, 2, 3, 4] rfl rfl dX12_pairs_35 (Nat.le_of_ble_eq_true rfl) (Nat.le_of_ble_eq_true rfl)
set_option maxHeartbeats 4000000 in
set_option maxRecDepth 100000 in
theorem gX12_ways_aee7924 (l : Launch) (D : va_G) (cy : Nat → ClassId) (h0 : Nat) (h1 : Nat) (h2 : Nat) (h3 : Nat) (h4 : Nat) (h5 : Nat) (p0 : Int32) (p1 : Int32) (w0 : Value) (w1 : Value) (w2 : Value) (p2 : Int32) (p3 : Int32) (p4 : Int32) (p5 : Int32) (p6 : Int32) (p7 : Int32) (p8 : Int32) (p9 : Int32) (p10 : Int32) (p11 : Int32) (p12 : Int32) (w3 : Value) (w4 : Value) (p13 : Int32) (p14 : Int32) (w5 : Value) (w6 : Value) (p15 : Int32) (p16 : Int32) (w7 : Value) (w8 : Value) (w9 : Value) (w10 : Value) (w11 : Value) (p17 : Int32) (w12 : Value) (w13 : Value) (w14 : Value) (f0 : Nat → Int32) (p18 : Int32) (f1 : Nat → Int32) (f2 : Nat → Int32) (f3 : Nat → Int32) (f4 : Nat → Int32) (hp0 : (-2147483648) ≤ (p0).toInt ∧ (p0).toInt ≤ 2147483647) (hp1 : (-2147483648) ≤ (p1).toInt ∧ (p1).toInt ≤ 2147483647) (hp2 : 0 ≤ (p2).toInt ∧ (p2).toInt ≤ 900) (hp3 : 0 ≤ (p3).toInt ∧ (p3).toInt ≤ 900) (hp4 : 0 ≤ (p4).toInt ∧ (p4).toInt ≤ 900) (hp5 : 0 ≤ (p5).toInt ∧ (p5).toInt ≤ 900) (hp6 : (-2147483648) ≤ (p6).toInt ∧ (p6).toInt ≤ 2147483647) (hp7 : 0 ≤ (p7).toInt ∧ (p7).toInt ≤ 999) (hp8 : (-2147483648) ≤ (p8).toInt ∧ (p8).toInt ≤ 2147483647) (hp9 : (-2147483648) ≤ (p9).toInt ∧ (p9).toInt ≤ 2147483647) (hp10 : (-2147483648) ≤ (p10).toInt ∧ (p10).toInt ≤ 2147483647) (hp11 : (-2147483648) ≤ (p11).toInt ∧ (p11).toInt ≤ 2147483647) (hp12 : (-2147483648) ≤ (p12).toInt ∧ (p12).toInt ≤ 2147483647) (hp13 : (-2147483648) ≤ (p13).toInt ∧ (p13).toInt ≤ 2147483647) (hp14 : (-2147483648) ≤ (p14).toInt ∧ (p14).toInt ≤ 2147483647) (hp15 : (-2147483648) ≤ (p15).toInt ∧ (p15).toInt ≤ 2147483647) (hp16 : (-2147483648) ≤ (p16).toInt ∧ (p16).toInt ≤ 2147483647) (hp17 : (-2147483648) ≤ (p17).toInt ∧ (p17).toInt ≤ 2147483647) (hp18 : 0 ≤ (p18).toInt ∧ (p18).toInt ≤ 10) (htf0_84 : f0 84 = p18) (rf0 : AL f0) (rf3 : RG f3 10 0 1023) (sz : Nat) : MI l yX12_ways cX12_ways 2 .int { frames := 5, cells := 0, slots := 0, locals := 114 } [.ref h0, .int p0] D cy (wk_eecab3214 cy h0 p1 h1 w0 w1 w2 p2 p3 p4 p5 p6 p7 p8 p9 p10 p11 p12 h2 h3 w3 h4 w4 p13 p14 h5 w5 w6 p15 p16 w7 w8 w9 w10 w11 p17 w12 w13 w14 h1 f0 h2 f1 h3 f2 h4 f3 h5 f4) sz (fun r u => ((-2147483648) ≤ r.toInt ∧ r.toInt ≤ 2147483647) ∧ (0 ≤ (u.2.1 0 0).toInt ∧ (u.2.1 0 0).toInt ≤ 0) ∧ RG (u.2.1 3) 10 0 1023 ∧ True) (fun u => (wk_eecab3214 cy h0 (u.2.1 0 0) h1 w0 w1 w2 p2 p3 p4 p5 p6 p7 p8 p9 p10 p11 p12 h2 h3 w3 h4 w4 p13 p14 h5 w5 w6 p15 p16 w7 w8 w9 w10 w11 p17 w12 w13 w14 h1 f0 h2 (u.2.1 1) h3 (u.2.1 2) h4 (u.2.1 3) h5 (u.2.1 4))) 0 0 := by
  refine q_ent (own := RX12) (by decide) rfl (Nat.le_of_ble_eq_true rfl) (fun p e s m below meth c ls X hr hlk hnm hK hT h hA hl => ?_)
  obtain ⟨hx, hb, hml, hown, ht⟩ := id X
  replace hl : lv_has ls 2 [(0, .ref h0), (1, .int p0)] := hl
  refine lv_aload_n hx hb dX12_ways_0 rfl (lv_at hl 0 rfl) ?_
  refine lv_iconst (v := 0) hx hb dX12_ways_1 (by decide) ?_
  refine q_put (v := .int 0) X hK h 0 rfl rfl wf_12 tyX12 tyX12_ok nmX12 0 (by decide) wm_5_170 rfl rfl rfl (Nat.le_of_ble_eq_true rfl) dX12_ways_2 (fun H locs h_1 => ?_)
  clear h
  replace h_1 : qW D _ _ (wk_eecab3214 cy h0 0 h1 w0 w1 w2 p2 p3 p4 p5 p6 p7 p8 p9 p10 p11 p12 h2 h3 w3 h4 w4 p13 p14 h5 w5 w6 p15 p16 w7 w8 w9 w10 w11 p17 w12 w13 w14 h1 f0 h2 f1 h3 f2 h4 f3 h5 f4) _ _ := h_1
  refine lv_aload_n hx hb dX12_ways_5 rfl (lv_at hl 0 rfl) ?_
  refine lv_iload_n hx hb dX12_ways_6 rfl (lv_at hl 1 rfl) ?_
  refine q_callVi (rest := []) (wr := (wk_1ed1fcc35 cy h2 f1 h3 f2 h4 f3 h5 f4)) X hK hT hA h_1 (fun sz => gX12_isSet_9166d70 l D cy h0 h1 p0 (0 : Int32) w0 w1 w2 p2 p3 p4 p5 p6 p7 p8 p9 p10 p11 p12 (.ref h2) (.ref h3) w3 (.ref h4) w4 p13 p14 (.ref h5) w5 w6 p15 p16 w7 w8 w9 w10 w11 p17 w12 w13 w14 f0 p18 (i_rng _) ⟨by decide +kernel, by decide +kernel⟩ hp2 hp3 hp4 hp5 (i_rng _) hp7 (i_rng _) (i_rng _) (i_rng _) (i_rng _) (i_rng _) (i_rng _) (i_rng _) (i_rng _) (i_rng _) (i_rng _) hp18 htf0_84 rf0 sz) wm_7_96 wm_7_99 wm_1_12 hd_X12_isSet wm_7_98 wp_7_1 (ci := 12) (q0 := 0) rfl rfl ⟨Nat.le_of_ble_eq_true rfl, Nat.le_of_ble_eq_true rfl⟩ hl.1 rfl (Nat.le_of_ble_eq_true rfl) dX12_ways_7 ⟨Nat.le_of_ble_eq_true rfl, Nat.le_of_ble_eq_true rfl⟩ [0, 1] [2, 3, 4, 5] rfl rfl (by decide) rfl rfl (fun r_2 u_2 H locs w_2 h_2 => ?_)
  clear h_1
  obtain ⟨wr_2, y2_0, _⟩ := w_2
  replace h_2 : qW D _ _ (wk_143caa1ee cy h2 f1 h3 f2 h4 f3 h5 f4 h0 0 h1 w0 w1 w2 p2 p3 p4 p5 p6 p7 p8 p9 p10 p11 p12 h2 h3 w3 h4 w4 p13 p14 h5 w5 w6 p15 p16 w7 w8 w9 w10 w11 p17 w12 w13 w14 h1 f0) _ _ := h_2
  refine lv_if_ne (tgt := 16) hx hb dX12_ways_10 (by decide) (fun c_3 => ?_) (fun c_3 => ?_)
  · replace c_3 := i_ne (x := r_2) (y := 0) rfl (show (0 : Int32).toInt = 0 by decide) c_3
    refine lv_aload_n hx hb dX12_ways_16 rfl (lv_at hl 0 rfl) ?_
    refine q_callVv (rest := []) (wr := []) X hK hT hA h_2 (fun sz => gX12_laysNow_7e7bd2c l D cy h0 h1 h2 h3 h4 h5 (0 : Int32) w0 w1 w2 p2 p3 p4 p5 p6 p7 p8 p9 p10 p11 p12 w3 w4 p13 p14 w5 w6 p15 p16 w7 w8 w9 w10 w11 p17 w12 w13 w14 f0 p18 f1 f2 f3 f4 ⟨by decide +kernel, by decide +kernel⟩ hp2 hp3 hp4 hp5 (i_rng _) hp7 (i_rng _) (i_rng _) (i_rng _) (i_rng _) (i_rng _) (i_rng _) (i_rng _) (i_rng _) (i_rng _) (i_rng _) hp18 htf0_84 rf0 (rg_wide rf3 (by decide) (by decide)) sz) wm_7_55 wm_7_58 wm_1_12 hd_X12_laysNow wm_7_57 wp_6_11 (ci := 12) (q0 := 0) rfl rfl ⟨Nat.le_of_ble_eq_true rfl, Nat.le_of_ble_eq_true rfl⟩ hl.1 rfl (Nat.le_of_ble_eq_true rfl) dX12_ways_17 ⟨Nat.le_of_ble_eq_true rfl, Nat.le_of_ble_eq_true rfl⟩ [4, 5, 0, 1, 2, 3] [] rfl rfl (by decide) rfl rfl (fun u_4 H locs w_4 h_4 => ?_)
    clear h_2
    obtain ⟨w4_0, _⟩ := w_4
    replace h_4 : qW D _ _ (wk_eecab3214 cy h0 0 h1 w0 w1 w2 p2 p3 p4 p5 p6 p7 p8 p9 p10 p11 p12 h2 h3 w3 h4 w4 p13 p14 h5 w5 w6 p15 p16 w7 w8 w9 w10 w11 p17 w12 w13 w14 h1 f0 h2 (u_4.2.1 0) h3 (u_4.2.1 1) h4 (u_4.2.1 2) h5 (u_4.2.1 3)) _ _ := h_4
    refine lv_aload_n hx hb dX12_ways_20 rfl (lv_at hl 0 rfl) ?_
    refine q_get X hK h_4 0 rfl rfl wf_12 23 (by decide) rfl wm_5_193 dX12_ways_21 ?_
    refine lv_iload_n hx hb dX12_ways_24 rfl (lv_at hl 1 rfl) ?_
    refine q_iald X hK h_4 5 rfl (i_in rfl (by omega) (by omega)) dX12_ways_25 ?_
    refine q_any (fun z_5 hz_5 => ?_)
    exact q_iret X hr hlk hK h_4 rfl (fun _ => 0, (vcons (fun _ => 0) (vcons (u_4.2.1 0) (vcons (u_4.2.1 1) (vcons (u_4.2.1 2) (vcons (u_4.2.1 3) (fun _ => (fun _ => 0))))))), fun _ _ => 0) ⟨⟨by omega, by omega⟩, (⟨by decide +kernel, by decide +kernel⟩ : 0 ≤ (0 : Int32).toInt ∧ (0 : Int32).toInt ≤ 0), (rg_wide w4_0 (by decide) (by decide)), trivial⟩ [0, 1, 2, 3, 4, 5] rfl rfl dX12_ways_26 (Nat.le_of_ble_eq_true rfl) (Nat.le_of_ble_eq_true rfl)
  · replace c_3 := i_eq (x := r_2) (y := 0) rfl (show (0 : Int32).toInt = 0 by decide) c_3
    refine lv_bipush (v := (-3)) hx hb dX12_ways_13 (by decide) ?_
    exact q_iret X hr hlk hK h_2 rfl (fun _ => 0, (vcons (fun _ => 0) (vcons f1 (vcons f2 (vcons f3 (vcons f4 (fun _ => (fun _ => 0))))))), fun _ _ => 0) ⟨⟨by decide +kernel, by decide +kernel⟩, (⟨by decide +kernel, by decide +kernel⟩ : 0 ≤ (0 : Int32).toInt ∧ (0 : Int32).toInt ≤ 0), (rg_wide rf3 (by decide) (by decide)), trivial⟩ [4, 5, 0, 1, 2, 3] rfl rfl dX12_ways_15 (Nat.le_of_ble_eq_true rfl) (Nat.le_of_ble_eq_true rfl)
set_option maxHeartbeats 4000000 in
set_option maxRecDepth 100000 in
theorem gX12_pieceOf_7d33966 (l : Launch) (D : va_G) (cy : Nat → ClassId) (h0 : Nat) (h1 : Nat) (h2 : Nat) (p0 : Int32) (p1 : Int32) (p2 : Int32) (w0 : Value) (w1 : Value) (w2 : Value) (p3 : Int32) (p4 : Int32) (p5 : Int32) (p6 : Int32) (p7 : Int32) (p8 : Int32) (p9 : Int32) (p10 : Int32) (p11 : Int32) (p12 : Int32) (p13 : Int32) (w3 : Value) (w4 : Value) (w5 : Value) (w6 : Value) (p14 : Int32) (p15 : Int32) (w7 : Value) (w8 : Value) (w9 : Value) (p16 : Int32) (p17 : Int32) (w10 : Value) (w11 : Value) (w12 : Value) (w13 : Value) (w14 : Value) (p18 : Int32) (w15 : Value) (w16 : Value) (w17 : Value) (f0 : Nat → Int32) (p19 : Int32) (f1 : Nat → Int32) (hp0 : 0 ≤ (p0).toInt ∧ (p0).toInt ≤ 9) (hp1 : 0 ≤ (p1).toInt ∧ (p1).toInt ≤ 1023) (hp2 : 0 ≤ (p2).toInt ∧ (p2).toInt ≤ 0) (hp3 : 0 ≤ (p3).toInt ∧ (p3).toInt ≤ 900) (hp4 : 0 ≤ (p4).toInt ∧ (p4).toInt ≤ 900) (hp5 : 0 ≤ (p5).toInt ∧ (p5).toInt ≤ 900) (hp6 : 0 ≤ (p6).toInt ∧ (p6).toInt ≤ 900) (hp7 : (-2147483648) ≤ (p7).toInt ∧ (p7).toInt ≤ 2147483647) (hp8 : 0 ≤ (p8).toInt ∧ (p8).toInt ≤ 999) (hp9 : (-2147483648) ≤ (p9).toInt ∧ (p9).toInt ≤ 2147483647) (hp10 : (-2147483648) ≤ (p10).toInt ∧ (p10).toInt ≤ 2147483647) (hp11 : (-2147483648) ≤ (p11).toInt ∧ (p11).toInt ≤ 2147483647) (hp12 : (-2147483648) ≤ (p12).toInt ∧ (p12).toInt ≤ 2147483647) (hp13 : (-2147483648) ≤ (p13).toInt ∧ (p13).toInt ≤ 2147483647) (hp14 : (-2147483648) ≤ (p14).toInt ∧ (p14).toInt ≤ 2147483647) (hp15 : (-2147483648) ≤ (p15).toInt ∧ (p15).toInt ≤ 2147483647) (hp16 : (-2147483648) ≤ (p16).toInt ∧ (p16).toInt ≤ 2147483647) (hp17 : (-2147483648) ≤ (p17).toInt ∧ (p17).toInt ≤ 2147483647) (hp18 : (-2147483648) ≤ (p18).toInt ∧ (p18).toInt ≤ 2147483647) (hp19 : 0 ≤ (p19).toInt ∧ (p19).toInt ≤ 10) (htf0_84 : f0 84 = p19) (rf0 : AL f0) (rf1 : RG f1 10 0 1023) (sz : Nat) : MI l yX12_pieceOf cX12_pieceOf 6 .int { frames := 1, cells := 0, slots := 0, locals := 22 } [.ref h0, .int p0, .int p1] D cy (wk_e3ea295b8 cy h0 p2 h1 w0 w1 w2 p3 p4 p5 p6 p7 p8 p9 p10 p11 p12 p13 w3 w4 w5 h2 w6 p14 p15 w7 w8 w9 p16 p17 w10 w11 w12 w13 w14 p18 w15 w16 w17 h1 f0 h2 f1) sz (fun r u => (1 ≤ r.toInt ∧ r.toInt ≤ 1023) ∧ (PB r p0) ∧ True) (fun u => (wk_e3ea295b8 cy h0 p2 h1 w0 w1 w2 p3 p4 p5 p6 p7 p8 p9 p10 p11 p12 p13 w3 w4 w5 h2 w6 p14 p15 w7 w8 w9 p16 p17 w10 w11 w12 w13 w14 p18 w15 w16 w17 h1 f0 h2 f1)) 0 0 := by
  refine q_ent (own := RX12) (by decide) rfl (Nat.le_of_ble_eq_true rfl) (fun p e s m below meth c ls X hr hlk hnm hK hT h hA hl => ?_)
  obtain ⟨hx, hb, hml, hown, ht⟩ := id X
  replace hl : lv_has ls 6 [(0, .ref h0), (1, .int p0), (2, .int p1)] := hl
  refine lv_iconst (v := 0) hx hb dX12_pieceOf_0 (by decide) ?_
  refine lv_istore_n (lv' := [(3, .int 0), (0, .ref h0), (1, .int p0), (2, .int p1)]) hx hb dX12_pieceOf_1 rfl hl (by decide) rfl (fun ls_1 hl_1 => ?_)
  clear hl
  refine lv_iconst (v := 1) hx hb dX12_pieceOf_2 (by decide) ?_
  refine lv_iload_n hx hb dX12_pieceOf_3 rfl (lv_at hl_1 2 rfl) ?_
  refine lv_ishl hx hb dX12_pieceOf_4 ?_
  obtain ⟨z_2, ez_2, hz_2⟩ := e_shlk (p := p0) 9 (by decide) rfl (by omega) (by omega)
  refine q_c z_2 ez_2 ?_
  refine lv_istore (lv' := [(4, .int z_2), (3, .int 0), (0, .ref h0), (1, .int p0), (2, .int p1)]) hx hb dX12_pieceOf_5 hl_1 (by decide) rfl (fun ls_3 hl_3 => ?_)
  clear hl_1
  refine q_wl (fun (q : Int32 × Int32) H locs ls => match q with | (v7_4_0, v7_4_1) => (0 ≤ (v7_4_0).toInt ∧ (v7_4_0).toInt ≤ 1023) ∧ (1 ≤ (v7_4_1).toInt ∧ (v7_4_1).toInt ≤ 1023) ∧ ((v7_4_0 : Int32).toInt ≤ (v7_4_1 : Int32).toInt) ∧ (v7_4_1 &&& z_2 = z_2) ∧ qW D (va_A (wk_e3ea295b8 cy h0 p2 h1 w0 w1 w2 p3 p4 p5 p6 p7 p8 p9 p10 p11 p12 p13 w3 w4 w5 h2 w6 p14 p15 w7 w8 w9 p16 p17 w10 w11 w12 w13 w14 p18 w15 w16 w17 h1 f0 h2 f1) sz) s.heap (wk_e3ea295b8 cy h0 p2 h1 w0 w1 w2 p3 p4 p5 p6 p7 p8 p9 p10 p11 p12 p13 w3 w4 w5 h2 w6 p14 p15 w7 w8 w9 p16 p17 w10 w11 w12 w13 w14 p18 w15 w16 w17 h1 f0 h2 f1) H locs ∧ lv_has ls 6 [(0, .ref h0), (1, .int p0), (2, .int p1), (3, .int v7_4_0), (4, .int v7_4_1)]) (fun (q : Int32 × Int32) => match q with | (v7_4_0, v7_4_1) => (1024 - (v7_4_0).toInt).toNat) (fun q_7 ih_7 H locs ls hP => ?_) (0, z_2) ⟨⟨by decide +kernel, by decide +kernel⟩, ⟨by omega, by omega⟩, (by have q0 : (0 : Int32).toInt = 0 := (by decide); omega), (and_self32 _), h, (lv_sub hl_3 [2, 3, 4, 1, 0] rfl)⟩
  obtain ⟨v7_4_0, v7_4_1⟩ := q_7
  obtain ⟨hv7_4_0, hv7_4_1, x5_0, x6_1, h, hl⟩ := hP
  refine lv_iload hx hb dX12_pieceOf_7 (lv_at hl 4 rfl) ?_
  refine lv_iload_n hx hb dX12_pieceOf_9 rfl (lv_at hl 3 rfl) ?_
  refine lv_icmp_eq (tgt := 63) hx hb dX12_pieceOf_10 (by decide) (fun c_7 => ?_) (fun c_7 => ?_)
  · replace c_7 := i_eq (x := v7_4_1) (y := v7_4_0) rfl rfl c_7
    refine lv_iload_n hx hb dX12_pieceOf_63 rfl (lv_at hl 3 rfl) ?_
    exact q_iret X hr hlk hK h rfl (fun _ => 0, fun _ _ => 0, fun _ _ => 0) ⟨⟨by omega, by omega⟩, (show PB v7_4_0 p0 from pb_mk x6_1 ez_2 (by (first | assumption | omega))), trivial⟩ [0, 1, 2] rfl rfl dX12_pieceOf_64 (Nat.le_of_ble_eq_true rfl) (Nat.le_of_ble_eq_true rfl)
  · replace c_7 := i_ne (x := v7_4_1) (y := v7_4_0) rfl rfl c_7
    refine lv_iload hx hb dX12_pieceOf_13 (lv_at hl 4 rfl) ?_
    refine lv_istore_n (lv' := [(3, .int v7_4_1), (0, .ref h0), (1, .int p0), (2, .int p1), (4, .int v7_4_1)]) hx hb dX12_pieceOf_15 rfl hl (by decide) rfl (fun ls_8 hl_8 => ?_)
    clear hl
    refine lv_iconst (v := 0) hx hb dX12_pieceOf_16 (by decide) ?_
    refine lv_istore (lv' := [(5, .int 0), (3, .int v7_4_1), (0, .ref h0), (1, .int p0), (2, .int p1), (4, .int v7_4_1)]) hx hb dX12_pieceOf_17 hl_8 (by decide) rfl (fun ls_9 hl_9 => ?_)
    clear hl_8
    refine q_wl (fun (q : Int32 × Int32) H locs ls => match q with | (v19_10_0, v19_10_1) => (0 ≤ (v19_10_0).toInt ∧ (v19_10_0).toInt ≤ 10) ∧ (1 ≤ (v19_10_1).toInt ∧ (v19_10_1).toInt ≤ 1023) ∧ ((v7_4_1 : Int32).toInt ≤ (v19_10_1 : Int32).toInt) ∧ (v19_10_1 &&& z_2 = z_2) ∧ qW D (va_A (wk_e3ea295b8 cy h0 p2 h1 w0 w1 w2 p3 p4 p5 p6 p7 p8 p9 p10 p11 p12 p13 w3 w4 w5 h2 w6 p14 p15 w7 w8 w9 p16 p17 w10 w11 w12 w13 w14 p18 w15 w16 w17 h1 f0 h2 f1) sz) s.heap (wk_e3ea295b8 cy h0 p2 h1 w0 w1 w2 p3 p4 p5 p6 p7 p8 p9 p10 p11 p12 p13 w3 w4 w5 h2 w6 p14 p15 w7 w8 w9 p16 p17 w10 w11 w12 w13 w14 p18 w15 w16 w17 h1 f0 h2 f1) H locs ∧ lv_has ls 6 [(0, .ref h0), (1, .int p0), (2, .int p1), (3, .int v7_4_1), (4, .int v19_10_1), (5, .int v19_10_0)]) (fun (q : Int32 × Int32) => match q with | (v19_10_0, v19_10_1) => (11 - (v19_10_0).toInt).toNat) (fun q_19 ih_19 H locs ls hP => ?_) (0, v7_4_1) ⟨⟨by decide +kernel, by decide +kernel⟩, hv7_4_1, ((Int.le_refl _)), (x6_1), h, (lv_sub hl_9 [2, 3, 4, 1, 5, 0] rfl)⟩
    obtain ⟨v19_10_0, v19_10_1⟩ := q_19
    obtain ⟨hv19_10_0, hv19_10_1, x11_0, x12_1, h, hl⟩ := hP
    refine lv_iload hx hb dX12_pieceOf_19 (lv_at hl 5 rfl) ?_
    refine lv_aload_n hx hb dX12_pieceOf_21 rfl (lv_at hl 0 rfl) ?_
    refine q_get X hK h 0 rfl rfl wf_12 1 (by decide) rfl wm_5_171 dX12_pieceOf_22 ?_
    refine lv_iconst (v := 2) hx hb dX12_pieceOf_25 (by decide) ?_
    refine q_iald X hK h 1 rfl (q_in (by decide +kernel)) dX12_pieceOf_26 ?_
    obtain ⟨z_13, ez_13, hz_13⟩ := al_P rf0 (x := 2) (show (2 : Int32).toInt = 2 by decide) (by omega) (by omega)
    refine q_c z_13 ez_13 ?_
    clear ez_13
    refine lv_icmp_ge (tgt := 60) hx hb dX12_pieceOf_27 (by decide) (fun c_14 => ?_) (fun c_14 => ?_)
    · replace c_14 := i_le (x := z_13) (y := v19_10_0) rfl rfl c_14
      refine lv_goto (tgt := 7) hx hb dX12_pieceOf_60 (by decide) ?_
      exact ih_7 (v7_4_1, v19_10_1) (by show (1024 - (v7_4_1).toInt).toNat < (1024 - (v7_4_0).toInt).toNat; omega) _ _ _ ⟨(bw hv7_4_1 (by decide) (by decide)), hv19_10_1, (x11_0), (x12_1), h, (lv_sub hl [0, 1, 2, 3, 4] rfl)⟩
    · replace c_14 := i_nle (x := z_13) (y := v19_10_0) rfl rfl c_14
      refine lv_iload_n hx hb dX12_pieceOf_30 rfl (lv_at hl 3 rfl) ?_
      refine lv_i2l hx hb dX12_pieceOf_31 rfl ?_
      obtain ⟨z_15, ez_15, hz_15⟩ := e_i2l (x := v7_4_1) rfl
      refine q_cl z_15 ez_15 ?_
      clear ez_15
      refine lv_iload hx hb dX12_pieceOf_32 (lv_at hl 5 rfl) ?_
      refine q_callSi (rest := []) (wr := (wk_e3ea295b8 cy h0 p2 h1 w0 w1 w2 p3 p4 p5 p6 p7 p8 p9 p10 p11 p12 p13 w3 w4 w5 h2 w6 p14 p15 w7 w8 w9 p16 p17 w10 w11 w12 w13 w14 p18 w15 w16 w17 h1 f0 h2 f1)) X hK hT hA h (fun sz => gX12_isIn_b0455a8 l D cy z_15 v19_10_0 ⟨by omega, by omega⟩ ⟨by omega, by omega⟩ sz) wm_6_167 wm_6_169 wm_1_12 hd_X12_isIn wm_6_168 ⟨Nat.le_of_ble_eq_true rfl, Nat.le_of_ble_eq_true rfl⟩ hl.1 rfl (Nat.le_of_ble_eq_true rfl) dX12_pieceOf_34 ⟨Nat.le_of_ble_eq_true rfl, Nat.le_of_ble_eq_true rfl⟩ [] [0, 1, 2] rfl rfl (by decide) rfl rfl (fun r_16 u_16 H locs w_16 h_16 => ?_)
      clear h
      obtain ⟨wr_16, _⟩ := w_16
      replace h_16 : qW D _ _ (wk_e3ea295b8 cy h0 p2 h1 w0 w1 w2 p3 p4 p5 p6 p7 p8 p9 p10 p11 p12 p13 w3 w4 w5 h2 w6 p14 p15 w7 w8 w9 p16 p17 w10 w11 w12 w13 w14 p18 w15 w16 w17 h1 f0 h2 f1) _ _ := h_16
      refine q_jn (pc2 := 54) (fun H locs ls st => ∃ v54_17_0 : Int32, (1 ≤ (v54_17_0).toInt ∧ (v54_17_0).toInt ≤ 1023) ∧ ((v7_4_1 : Int32).toInt ≤ (v54_17_0 : Int32).toInt) ∧ (v54_17_0 &&& z_2 = z_2) ∧ st = [] ∧ qW D (va_A (wk_e3ea295b8 cy h0 p2 h1 w0 w1 w2 p3 p4 p5 p6 p7 p8 p9 p10 p11 p12 p13 w3 w4 w5 h2 w6 p14 p15 w7 w8 w9 p16 p17 w10 w11 w12 w13 w14 p18 w15 w16 w17 h1 f0 h2 f1) sz) s.heap (wk_e3ea295b8 cy h0 p2 h1 w0 w1 w2 p3 p4 p5 p6 p7 p8 p9 p10 p11 p12 p13 w3 w4 w5 h2 w6 p14 p15 w7 w8 w9 p16 p17 w10 w11 w12 w13 w14 p18 w15 w16 w17 h1 f0 h2 f1) H locs ∧ lv_has ls 6 [(0, .ref h0), (1, .int p0), (2, .int p1), (3, .int v7_4_1), (4, .int v54_17_0), (5, .int v19_10_0)]) (fun H locs ls st hP => ?_) (fun J_54 => ?_)
      · obtain ⟨v54_17_0, hv54_17_0, x18_0, x19_1, rfl, h, hl⟩ := hP
        obtain ⟨z_20, ez_20, hz_20⟩ := e_add (x := v19_10_0) (y := Int32.ofInt 1) rfl (b := 1) (by decide) (by omega) (by omega)
        refine lv_iinc (v := z_20) (lv' := [(5, .int z_20), (0, .ref h0), (1, .int p0), (2, .int p1), (3, .int v7_4_1), (4, .int v54_17_0)]) hx hb dX12_pieceOf_54 hl (k := 5) rfl ez_20 (by decide) rfl (fun ls_20 hl_20 => ?_)
        clear hl
        refine lv_goto (tgt := 19) hx hb dX12_pieceOf_57 (by decide) ?_
        exact ih_19 (z_20, v54_17_0) (by show (11 - (z_20).toInt).toNat < (11 - (v19_10_0).toInt).toNat; omega) _ _ _ ⟨⟨by omega, by omega⟩, hv54_17_0, (x18_0), (x19_1), h, (lv_sub hl_20 [1, 2, 3, 4, 5, 0] rfl)⟩
      · skip
        refine lv_if_eq (tgt := 54) hx hb dX12_pieceOf_37 (by decide) (fun c_21 => ?_) (fun c_21 => ?_)
        · replace c_21 := i_eq (x := r_16) (y := 0) rfl (show (0 : Int32).toInt = 0 by decide) c_21
          exact J_54 _ _ _ _ ⟨v19_10_1, hv19_10_1, (x11_0), (x12_1), rfl, h_16, (lv_sub hl [0, 1, 2, 3, 4, 5] rfl)⟩
        · replace c_21 := i_ne (x := r_16) (y := 0) rfl (show (0 : Int32).toInt = 0 by decide) c_21
          refine lv_iload hx hb dX12_pieceOf_40 (lv_at hl 4 rfl) ?_
          refine lv_aload_n hx hb dX12_pieceOf_42 rfl (lv_at hl 0 rfl) ?_
          refine q_get X hK h_16 0 rfl rfl wf_12 19 (by decide) rfl wm_5_189 dX12_pieceOf_43 ?_
          refine lv_iload hx hb dX12_pieceOf_46 (lv_at hl 5 rfl) ?_
          refine q_iald X hK h_16 2 rfl (i_in rfl (by omega) (by omega)) dX12_pieceOf_48 ?_
          obtain ⟨z_22, ez_22, hz_22⟩ := rg_get rf1 (x := v19_10_0) rfl (by omega) (by omega)
          refine q_c z_22 ez_22 ?_
          clear ez_22
          refine lv_iload_n hx hb dX12_pieceOf_49 rfl (lv_at hl 2 rfl) ?_
          refine lv_iand hx hb dX12_pieceOf_50 ?_
          obtain ⟨z_23, ez_23, hz_23⟩ := e_and2 (x := z_22) (y := p1) rfl (by omega)
          refine q_c z_23 ez_23 ?_
          clear ez_23
          refine lv_ior hx hb dX12_pieceOf_51 ?_
          obtain ⟨z_24, ez_24, hz_24⟩ := e_orm (x := v19_10_1) (y := z_23) 10 (by decide) rfl rfl (by omega) (by omega) (by omega) (by omega)
          refine q_c z_24 ez_24 ?_
          have ob_25 := or_bit x12_1 ez_24
          refine lv_istore (lv' := [(4, .int z_24), (0, .ref h0), (1, .int p0), (2, .int p1), (3, .int v7_4_1), (5, .int v19_10_0)]) hx hb dX12_pieceOf_52 hl (by decide) rfl (fun ls_26 hl_26 => ?_)
          clear hl
          exact J_54 _ _ _ _ ⟨z_24, ⟨by omega, by omega⟩, (by omega), (ob_25), rfl, h_16, (lv_sub hl_26 [1, 2, 3, 4, 0, 5] rfl)⟩
set_option maxHeartbeats 4000000 in
set_option maxRecDepth 100000 in
theorem gX12_piecesOf_88acc35 (l : Launch) (D : va_G) (cy : Nat → ClassId) (h0 : Nat) (h1 : Nat) (h2 : Nat) (p0 : Int32) (p1 : Int32) (p2 : Int32) (w0 : Value) (w1 : Value) (w2 : Value) (p3 : Int32) (p4 : Int32) (p5 : Int32) (p6 : Int32) (p7 : Int32) (p8 : Int32) (p9 : Int32) (p10 : Int32) (p11 : Int32) (p12 : Int32) (p13 : Int32) (w3 : Value) (w4 : Value) (w5 : Value) (w6 : Value) (p14 : Int32) (p15 : Int32) (w7 : Value) (w8 : Value) (w9 : Value) (p16 : Int32) (p17 : Int32) (w10 : Value) (w11 : Value) (w12 : Value) (w13 : Value) (w14 : Value) (p18 : Int32) (w15 : Value) (w16 : Value) (w17 : Value) (f0 : Nat → Int32) (p19 : Int32) (f1 : Nat → Int32) (hp0 : 0 ≤ (p0).toInt ∧ (p0).toInt ≤ 1023) (hp1 : 0 ≤ (p1).toInt ∧ (p1).toInt ≤ 1) (hp2 : 0 ≤ (p2).toInt ∧ (p2).toInt ≤ 0) (hp3 : 0 ≤ (p3).toInt ∧ (p3).toInt ≤ 900) (hp4 : 0 ≤ (p4).toInt ∧ (p4).toInt ≤ 900) (hp5 : 0 ≤ (p5).toInt ∧ (p5).toInt ≤ 900) (hp6 : 0 ≤ (p6).toInt ∧ (p6).toInt ≤ 900) (hp7 : (-2147483648) ≤ (p7).toInt ∧ (p7).toInt ≤ 2147483647) (hp8 : 0 ≤ (p8).toInt ∧ (p8).toInt ≤ 999) (hp9 : (-2147483648) ≤ (p9).toInt ∧ (p9).toInt ≤ 2147483647) (hp10 : (-2147483648) ≤ (p10).toInt ∧ (p10).toInt ≤ 2147483647) (hp11 : (-2147483648) ≤ (p11).toInt ∧ (p11).toInt ≤ 2147483647) (hp12 : (-2147483648) ≤ (p12).toInt ∧ (p12).toInt ≤ 2147483647) (hp13 : (-2147483648) ≤ (p13).toInt ∧ (p13).toInt ≤ 2147483647) (hp14 : (-2147483648) ≤ (p14).toInt ∧ (p14).toInt ≤ 2147483647) (hp15 : (-2147483648) ≤ (p15).toInt ∧ (p15).toInt ≤ 2147483647) (hp16 : (-2147483648) ≤ (p16).toInt ∧ (p16).toInt ≤ 2147483647) (hp17 : (-2147483648) ≤ (p17).toInt ∧ (p17).toInt ≤ 2147483647) (hp18 : (-2147483648) ≤ (p18).toInt ∧ (p18).toInt ≤ 2147483647) (hp19 : 0 ≤ (p19).toInt ∧ (p19).toInt ≤ 10) (htf0_84 : f0 84 = p19) (rf0 : AL f0) (rf1 : RG f1 10 0 1023) (sz : Nat) : MI l yX12_piecesOf cX12_piecesOf 6 .int { frames := 2, cells := 0, slots := 0, locals := 47 } [.ref h0, .int p0, .int p1] D cy (wk_e3ea295b8 cy h0 p2 h1 w0 w1 w2 p3 p4 p5 p6 p7 p8 p9 p10 p11 p12 p13 w3 w4 w5 h2 w6 p14 p15 w7 w8 w9 p16 p17 w10 w11 w12 w13 w14 p18 w15 w16 w17 h1 f0 h2 f1) sz (fun r u => ((-2147483648) ≤ r.toInt ∧ r.toInt ≤ 2147483647) ∧ True) (fun u => (wk_e3ea295b8 cy h0 p2 h1 w0 w1 w2 p3 p4 p5 p6 p7 p8 p9 p10 p11 p12 p13 w3 w4 w5 h2 w6 p14 p15 w7 w8 w9 p16 p17 w10 w11 w12 w13 w14 p18 w15 w16 w17 h1 f0 h2 f1)) 0 0 := by
  refine q_ent (own := RX12) (by decide) rfl (Nat.le_of_ble_eq_true rfl) (fun p e s m below meth c ls X hr hlk hnm hK hT h hA hl => ?_)
  obtain ⟨hx, hb, hml, hown, ht⟩ := id X
  replace hl : lv_has ls 6 [(0, .ref h0), (1, .int p0), (2, .int p1)] := hl
  refine lv_iconst (v := 0) hx hb dX12_piecesOf_0 (by decide) ?_
  refine lv_istore_n (lv' := [(3, .int 0), (0, .ref h0), (1, .int p0), (2, .int p1)]) hx hb dX12_piecesOf_1 rfl hl (by decide) rfl (fun ls_1 hl_1 => ?_)
  clear hl
  refine lv_iload_n hx hb dX12_piecesOf_2 rfl (lv_at hl_1 2 rfl) ?_
  refine lv_istore (lv' := [(4, .int p0), (3, .int 0), (0, .ref h0), (1, .int p0), (2, .int p1)]) hx hb dX12_piecesOf_3 hl_1 (by decide) rfl (fun ls_2 hl_2 => ?_)
  clear hl_1
  refine q_wl (fun (q : Int32 × Int32) H locs ls => match q with | (v5_3_0, v5_3_1) => (0 ≤ (v5_3_0).toInt ∧ (v5_3_0).toInt ≤ 1023) ∧ ((-2147483648) ≤ (v5_3_1).toInt ∧ (v5_3_1).toInt ≤ 2147483647) ∧ qW D (va_A (wk_e3ea295b8 cy h0 p2 h1 w0 w1 w2 p3 p4 p5 p6 p7 p8 p9 p10 p11 p12 p13 w3 w4 w5 h2 w6 p14 p15 w7 w8 w9 p16 p17 w10 w11 w12 w13 w14 p18 w15 w16 w17 h1 f0 h2 f1) sz) s.heap (wk_e3ea295b8 cy h0 p2 h1 w0 w1 w2 p3 p4 p5 p6 p7 p8 p9 p10 p11 p12 p13 w3 w4 w5 h2 w6 p14 p15 w7 w8 w9 p16 p17 w10 w11 w12 w13 w14 p18 w15 w16 w17 h1 f0 h2 f1) H locs ∧ lv_has ls 6 [(0, .ref h0), (1, .int p0), (2, .int p1), (3, .int v5_3_1), (4, .int v5_3_0)]) (fun (q : Int32 × Int32) => match q with | (v5_3_0, v5_3_1) => ((v5_3_0).toInt).toNat) (fun q_5 ih_5 H locs ls hP => ?_) (p0, 0) ⟨hp0, ⟨by decide +kernel, by decide +kernel⟩, h, (lv_sub hl_2 [2, 3, 4, 1, 0] rfl)⟩
  obtain ⟨v5_3_0, v5_3_1⟩ := q_5
  obtain ⟨hv5_3_0, hv5_3_1, h, hl⟩ := hP
  refine lv_iload hx hb dX12_piecesOf_5 (lv_at hl 4 rfl) ?_
  refine lv_if_eq (tgt := 52) hx hb dX12_piecesOf_7 (by decide) (fun c_4 => ?_) (fun c_4 => ?_)
  · replace c_4 := i_eq (x := v5_3_0) (y := 0) rfl (show (0 : Int32).toInt = 0 by decide) c_4
    refine lv_iload_n hx hb dX12_piecesOf_52 rfl (lv_at hl 3 rfl) ?_
    exact q_iret X hr hlk hK h rfl (fun _ => 0, fun _ _ => 0, fun _ _ => 0) ⟨hv5_3_1, trivial⟩ [0, 1, 2] rfl rfl dX12_piecesOf_53 (Nat.le_of_ble_eq_true rfl) (Nat.le_of_ble_eq_true rfl)
  · replace c_4 := i_ne (x := v5_3_0) (y := 0) rfl (show (0 : Int32).toInt = 0 by decide) c_4
    refine lv_aload_n hx hb dX12_piecesOf_10 rfl (lv_at hl 0 rfl) ?_
    refine lv_iload hx hb dX12_piecesOf_11 (lv_at hl 4 rfl) ?_
    refine q_callSi (rest := [.ref h0]) (wr := (wk_e3ea295b8 cy h0 p2 h1 w0 w1 w2 p3 p4 p5 p6 p7 p8 p9 p10 p11 p12 p13 w3 w4 w5 h2 w6 p14 p15 w7 w8 w9 p16 p17 w10 w11 w12 w13 w14 p18 w15 w16 w17 h1 f0 h2 f1)) X hK hT hA h (fun sz => gX12_lowest_51df8cb l D cy v5_3_0 ⟨by omega, by omega⟩ sz) wm_7_67 wm_7_69 wm_1_12 hd_X12_lowest wm_7_68 ⟨Nat.le_of_ble_eq_true rfl, Nat.le_of_ble_eq_true rfl⟩ hl.1 rfl (Nat.le_of_ble_eq_true rfl) dX12_piecesOf_13 ⟨Nat.le_of_ble_eq_true rfl, Nat.le_of_ble_eq_true rfl⟩ [] [0, 1, 2] rfl rfl (by decide) rfl rfl (fun r_5 u_5 H locs w_5 h_5 => ?_)
    clear h
    obtain ⟨wr_5, y5_0, _⟩ := w_5
    replace h_5 : qW D _ _ (wk_e3ea295b8 cy h0 p2 h1 w0 w1 w2 p3 p4 p5 p6 p7 p8 p9 p10 p11 p12 p13 w3 w4 w5 h2 w6 p14 p15 w7 w8 w9 p16 p17 w10 w11 w12 w13 w14 p18 w15 w16 w17 h1 f0 h2 f1) _ _ := h_5
    refine lv_iload_n hx hb dX12_piecesOf_16 rfl (lv_at hl 1 rfl) ?_
    refine q_callVi (rest := []) (wr := []) X hK hT hA h_5 (fun sz => gX12_pieceOf_7d33966 l D cy h0 h1 h2 r_5 p0 p2 w0 w1 w2 p3 p4 p5 p6 p7 p8 p9 p10 p11 p12 p13 w3 w4 w5 w6 p14 p15 w7 w8 w9 p16 p17 w10 w11 w12 w13 w14 p18 w15 w16 w17 f0 p19 f1 wr_5 hp0 hp2 hp3 hp4 hp5 hp6 (i_rng _) hp8 (i_rng _) (i_rng _) (i_rng _) (i_rng _) (i_rng _) (i_rng _) (i_rng _) (i_rng _) (i_rng _) (i_rng _) hp19 htf0_84 rf0 (rg_wide rf1 (by decide) (by decide)) sz) wm_7_128 wm_7_131 wm_1_12 hd_X12_pieceOf wm_7_130 wp_7_6 (ci := 12) (q0 := 0) rfl rfl ⟨Nat.le_of_ble_eq_true rfl, Nat.le_of_ble_eq_true rfl⟩ hl.1 rfl (Nat.le_of_ble_eq_true rfl) dX12_piecesOf_17 ⟨Nat.le_of_ble_eq_true rfl, Nat.le_of_ble_eq_true rfl⟩ [0, 1, 2] [] rfl rfl (by decide) rfl rfl (fun r_6 u_6 H locs w_6 h_6 => ?_)
    clear h_5
    obtain ⟨wr_6, y6_0, _⟩ := w_6
    replace h_6 : qW D _ _ (wk_e3ea295b8 cy h0 p2 h1 w0 w1 w2 p3 p4 p5 p6 p7 p8 p9 p10 p11 p12 p13 w3 w4 w5 h2 w6 p14 p15 w7 w8 w9 p16 p17 w10 w11 w12 w13 w14 p18 w15 w16 w17 h1 f0 h2 f1) _ _ := h_6
    refine lv_istore (lv' := [(5, .int r_6), (0, .ref h0), (1, .int p0), (2, .int p1), (3, .int v5_3_1), (4, .int v5_3_0)]) hx hb dX12_piecesOf_20 hl (by decide) rfl (fun ls_7 hl_7 => ?_)
    clear hl
    refine lv_iload_n hx hb dX12_piecesOf_22 rfl (lv_at hl_7 4 rfl) ?_
    refine lv_iload_n hx hb dX12_piecesOf_23 rfl (lv_at hl_7 3 rfl) ?_
    refine q_jn (pc2 := 38) (fun H locs ls st => ∃ v38_8_0 : Int32, (0 ≤ (v38_8_0).toInt ∧ (v38_8_0).toInt ≤ 1) ∧ st = [.int v38_8_0, .int v5_3_1] ∧ qW D (va_A (wk_e3ea295b8 cy h0 p2 h1 w0 w1 w2 p3 p4 p5 p6 p7 p8 p9 p10 p11 p12 p13 w3 w4 w5 h2 w6 p14 p15 w7 w8 w9 p16 p17 w10 w11 w12 w13 w14 p18 w15 w16 w17 h1 f0 h2 f1) sz) s.heap (wk_e3ea295b8 cy h0 p2 h1 w0 w1 w2 p3 p4 p5 p6 p7 p8 p9 p10 p11 p12 p13 w3 w4 w5 h2 w6 p14 p15 w7 w8 w9 p16 p17 w10 w11 w12 w13 w14 p18 w15 w16 w17 h1 f0 h2 f1) H locs ∧ lv_has ls 6 [(0, .ref h0), (1, .int p0), (2, .int p1), (3, .int v5_3_1), (4, .int v5_3_0), (5, .int r_6)]) (fun H locs ls st hP => ?_) (fun J_38 => ?_)
    · obtain ⟨v38_8_0, hv38_8_0, rfl, h, hl⟩ := hP
      refine lv_iadd hx hb dX12_piecesOf_38 ?_
      refine q_any (fun z_9 hz_9 => ?_)
      refine lv_istore_n (lv' := [(3, .int z_9), (0, .ref h0), (1, .int p0), (2, .int p1), (4, .int v5_3_0), (5, .int r_6)]) hx hb dX12_piecesOf_39 rfl hl (by decide) rfl (fun ls_10 hl_10 => ?_)
      clear hl
      refine lv_iload hx hb dX12_piecesOf_40 (lv_at hl_10 4 rfl) ?_
      refine lv_iload hx hb dX12_piecesOf_42 (lv_at hl_10 5 rfl) ?_
      refine lv_iconst (v := (-1)) hx hb dX12_piecesOf_44 (by decide) ?_
      refine lv_ixor hx hb dX12_piecesOf_45 ?_
      obtain ⟨z_11, ez_11, hz_11⟩ := e_any (r_6 ^^^ (-1))
      refine q_c z_11 ez_11 ?_
      refine lv_iand hx hb dX12_piecesOf_46 ?_
      obtain ⟨z_12, ez_12, hz_12⟩ := e_and1 (x := v5_3_0) (y := z_11) rfl (by omega)
      refine q_c z_12 ez_12 ?_
      have pl_13 := piece_lt (by omega) y5_0 y6_0 ez_11 ez_12
      refine lv_istore (lv' := [(4, .int z_12), (3, .int z_9), (0, .ref h0), (1, .int p0), (2, .int p1), (5, .int r_6)]) hx hb dX12_piecesOf_47 hl_10 (by decide) rfl (fun ls_14 hl_14 => ?_)
      clear hl_10
      refine lv_goto (tgt := 5) hx hb dX12_piecesOf_49 (by decide) ?_
      exact ih_5 (z_12, z_9) (by show ((z_12).toInt).toNat < ((v5_3_0).toInt).toNat; omega) _ _ _ ⟨⟨by omega, by omega⟩, ⟨by omega, by omega⟩, h, (lv_sub hl_14 [2, 3, 4, 1, 0] rfl)⟩
    · skip
      refine lv_if_eq (tgt := 37) hx hb dX12_piecesOf_24 (by decide) (fun c_15 => ?_) (fun c_15 => ?_)
      · replace c_15 := i_eq (x := p1) (y := 0) rfl (show (0 : Int32).toInt = 0 by decide) c_15
        refine lv_iconst (v := 1) hx hb dX12_piecesOf_37 (by decide) ?_
        exact J_38 _ _ _ _ ⟨1, ⟨by decide +kernel, by decide +kernel⟩, rfl, h_6, (lv_sub hl_7 [1, 2, 3, 4, 5, 0] rfl)⟩
      · replace c_15 := i_ne (x := p1) (y := 0) rfl (show (0 : Int32).toInt = 0 by decide) c_15
        refine lv_iload hx hb dX12_piecesOf_27 (lv_at hl_7 0 rfl) ?_
        refine q_callSi (rest := [.int v5_3_1]) (wr := (wk_e3ea295b8 cy h0 p2 h1 w0 w1 w2 p3 p4 p5 p6 p7 p8 p9 p10 p11 p12 p13 w3 w4 w5 h2 w6 p14 p15 w7 w8 w9 p16 p17 w10 w11 w12 w13 w14 p18 w15 w16 w17 h1 f0 h2 f1)) X hK hT hA h_6 (fun sz => gX12_bitsOf_5a43b1c l D cy r_6 (i_rng _) sz) wm_7_8 wm_7_10 wm_1_12 hd_X12_bitsOf wm_7_9 ⟨Nat.le_of_ble_eq_true rfl, Nat.le_of_ble_eq_true rfl⟩ hl_7.1 rfl (Nat.le_of_ble_eq_true rfl) dX12_piecesOf_29 ⟨Nat.le_of_ble_eq_true rfl, Nat.le_of_ble_eq_true rfl⟩ [] [0, 1, 2] rfl rfl (by decide) rfl rfl (fun r_16 u_16 H locs w_16 h_16 => ?_)
        clear h_6
        obtain ⟨wr_16, _⟩ := w_16
        replace h_16 : qW D _ _ (wk_e3ea295b8 cy h0 p2 h1 w0 w1 w2 p3 p4 p5 p6 p7 p8 p9 p10 p11 p12 p13 w3 w4 w5 h2 w6 p14 p15 w7 w8 w9 p16 p17 w10 w11 w12 w13 w14 p18 w15 w16 w17 h1 f0 h2 f1) _ _ := h_16
        refine lv_iconst (v := 2) hx hb dX12_piecesOf_32 (by decide) ?_
        refine lv_irem hx hb dX12_piecesOf_33 (by decide) ?_
        obtain ⟨z_17, ez_17, hz_17⟩ := e_rem (x := r_16) (y := 2) rfl (show (2 : Int32).toInt = 2 by decide) (by omega) (by omega)
        refine q_c z_17 ez_17 ?_
        clear ez_17
        refine lv_goto (tgt := 38) hx hb dX12_piecesOf_34 (by decide) ?_
        exact J_38 _ _ _ _ ⟨z_17, ⟨by omega, by omega⟩, rfl, h_16, (lv_sub hl_7 [1, 2, 3, 4, 5, 0] rfl)⟩
set_option maxHeartbeats 4000000 in
set_option maxRecDepth 100000 in
theorem gX12_bar_0b47dc0 (l : Launch) (D : va_G) (cy : Nat → ClassId) (h0 : Nat) (h1 : Nat) (h2 : Nat) (h3 : Nat) (h4 : Nat) (h5 : Nat) (h6 : Nat) (p0 : Int32) (p1 : Int32) (p2 : Int32) (w0 : Value) (w1 : Value) (w2 : Value) (p3 : Int32) (p4 : Int32) (p5 : Int32) (p6 : Int32) (p7 : Int32) (p8 : Int32) (p9 : Int32) (p10 : Int32) (p11 : Int32) (p12 : Int32) (p13 : Int32) (w3 : Value) (w4 : Value) (p14 : Int32) (p15 : Int32) (w5 : Value) (p16 : Int32) (p17 : Int32) (w6 : Value) (w7 : Value) (w8 : Value) (w9 : Value) (w10 : Value) (p18 : Int32) (w11 : Value) (w12 : Value) (w13 : Value) (f0 : Nat → Int32) (p19 : Int32) (f1 : Nat → Int32) (f2 : Nat → Int32) (f3 : Nat → Int32) (f4 : Nat → Int32) (f5 : Nat → Int32) (hp0 : (-2147483648) ≤ (p0).toInt ∧ (p0).toInt ≤ 2147483647) (hp1 : (-2147483648) ≤ (p1).toInt ∧ (p1).toInt ≤ 2147483647) (hp2 : (-2147483648) ≤ (p2).toInt ∧ (p2).toInt ≤ 2147483647) (hp3 : 0 ≤ (p3).toInt ∧ (p3).toInt ≤ 900) (hp4 : 0 ≤ (p4).toInt ∧ (p4).toInt ≤ 900) (hp5 : 0 ≤ (p5).toInt ∧ (p5).toInt ≤ 900) (hp6 : 0 ≤ (p6).toInt ∧ (p6).toInt ≤ 900) (hp7 : (-2147483648) ≤ (p7).toInt ∧ (p7).toInt ≤ 2147483647) (hp8 : 0 ≤ (p8).toInt ∧ (p8).toInt ≤ 999) (hp9 : (-2147483648) ≤ (p9).toInt ∧ (p9).toInt ≤ 2147483647) (hp10 : (-2147483648) ≤ (p10).toInt ∧ (p10).toInt ≤ 2147483647) (hp11 : (-2147483648) ≤ (p11).toInt ∧ (p11).toInt ≤ 2147483647) (hp12 : (-2147483648) ≤ (p12).toInt ∧ (p12).toInt ≤ 2147483647) (hp13 : (-2147483648) ≤ (p13).toInt ∧ (p13).toInt ≤ 2147483647) (hp14 : (-2147483648) ≤ (p14).toInt ∧ (p14).toInt ≤ 2147483647) (hp15 : (-2147483648) ≤ (p15).toInt ∧ (p15).toInt ≤ 2147483647) (hp16 : (-2147483648) ≤ (p16).toInt ∧ (p16).toInt ≤ 2147483647) (hp17 : (-2147483648) ≤ (p17).toInt ∧ (p17).toInt ≤ 2147483647) (hp18 : (-2147483648) ≤ (p18).toInt ∧ (p18).toInt ≤ 2147483647) (hp19 : 0 ≤ (p19).toInt ∧ (p19).toInt ≤ 10) (htf0_84 : f0 84 = p19) (rf0 : AL f0) (rf3 : RG f3 10 0 1023) (sz : Nat) : MI l yX12_bar cX12_bar 6 .int { frames := 13, cells := 0, slots := 0, locals := 325 } [.ref h0, .int p0, .int p1] D cy (wk_69ec1558b cy h0 p2 h1 w0 w1 w2 p3 p4 p5 p6 p7 p8 p9 p10 p11 p12 p13 h2 h3 w3 h4 w4 p14 p15 w5 h5 h6 p16 p17 w6 w7 w8 w9 w10 p18 w11 w12 w13 h1 f0 h2 f1 h3 f2 h4 f3 h5 f4 h6 f5) sz (fun r u => ((-3) ≤ r.toInt ∧ r.toInt ≤ 1023) ∧ (0 ≤ (u.2.1 2 0).toInt ∧ (u.2.1 2 0).toInt ≤ 0) ∧ ((-2147483648) ≤ (u.2.1 3 0).toInt ∧ (u.2.1 3 0).toInt ≤ 2147483647) ∧ ((-2147483648) ≤ (u.2.1 4 0).toInt ∧ (u.2.1 4 0).toInt ≤ 2147483647) ∧ RG (u.2.1 5) 10 0 1023 ∧ True) (fun u => (wk_69ec1558b cy h0 (u.2.1 2 0) h1 w0 w1 w2 p3 p4 p5 p6 p7 p8 p9 p10 p11 p12 p13 h2 h3 w3 h4 w4 p14 p15 w5 h5 h6 (u.2.1 3 0) (u.2.1 4 0) w6 w7 w8 w9 w10 p18 w11 w12 w13 h1 f0 h2 (u.2.1 0) h3 (u.2.1 1) h4 (u.2.1 5) h5 (u.2.1 6) h6 (u.2.1 7))) 0 0 := by
  refine q_ent (own := RX12) (by decide) rfl (Nat.le_of_ble_eq_true rfl) (fun p e s m below meth c ls X hr hlk hnm hK hT h hA hl => ?_)
  obtain ⟨hx, hb, hml, hown, ht⟩ := id X
  replace hl : lv_has ls 6 [(0, .ref h0), (1, .int p0), (2, .int p1)] := hl
  refine lv_aload_n hx hb dX12_bar_0 rfl (lv_at hl 0 rfl) ?_
  refine lv_iconst (v := 0) hx hb dX12_bar_1 (by decide) ?_
  refine q_put (v := .int 0) X hK h 0 rfl rfl wf_12 tyX12 tyX12_ok nmX12 0 (by decide) wm_5_170 rfl rfl rfl (Nat.le_of_ble_eq_true rfl) dX12_bar_2 (fun H locs h_1 => ?_)
  clear h
  replace h_1 : qW D _ _ (wk_69ec1558b cy h0 0 h1 w0 w1 w2 p3 p4 p5 p6 p7 p8 p9 p10 p11 p12 p13 h2 h3 w3 h4 w4 p14 p15 w5 h5 h6 p16 p17 w6 w7 w8 w9 w10 p18 w11 w12 w13 h1 f0 h2 f1 h3 f2 h4 f3 h5 f4 h6 f5) _ _ := h_1
  refine lv_iload_n hx hb dX12_bar_5 rfl (lv_at hl 2 rfl) ?_
  refine lv_i2l hx hb dX12_bar_6 rfl ?_
  obtain ⟨z_2, ez_2, hz_2⟩ := e_i2l (x := p1) rfl
  refine q_cl z_2 ez_2 ?_
  clear ez_2
  refine lv_lconst (v := 0) hx hb dX12_bar_7 (by decide) ?_
  refine lv_lconst (v := 1) hx hb dX12_bar_8 (by decide) ?_
  refine q_callSi (rest := []) (wr := (wk_69ec1558b cy h0 0 h1 w0 w1 w2 p3 p4 p5 p6 p7 p8 p9 p10 p11 p12 p13 h2 h3 w3 h4 w4 p14 p15 w5 h5 h6 p16 p17 w6 w7 w8 w9 w10 p18 w11 w12 w13 h1 f0 h2 f1 h3 f2 h4 f3 h5 f4 h6 f5)) X hK hT hA h_1 (fun sz => gX12_within_00c7897 l D cy z_2 (0 : Int64) (1 : Int64) (j_rng _) ⟨by decide +kernel, by decide +kernel⟩ ⟨by decide +kernel, by decide +kernel⟩ sz) wm_6_50 wm_6_52 wm_1_12 hd_X12_within wm_6_51 ⟨Nat.le_of_ble_eq_true rfl, Nat.le_of_ble_eq_true rfl⟩ hl.1 rfl (Nat.le_of_ble_eq_true rfl) dX12_bar_9 ⟨Nat.le_of_ble_eq_true rfl, Nat.le_of_ble_eq_true rfl⟩ [] [0, 1, 2, 3, 4, 5, 6] rfl rfl (by decide) rfl rfl (fun r_3 u_3 H locs w_3 h_3 => ?_)
  clear h_1
  obtain ⟨wr_3, y3_0, _⟩ := w_3
  have lq_3_1 : (0 : Int64).toInt = 0 := (by decide)
  have lq_3_2 : (1 : Int64).toInt = 1 := (by decide)
  replace h_3 : qW D _ _ (wk_69ec1558b cy h0 0 h1 w0 w1 w2 p3 p4 p5 p6 p7 p8 p9 p10 p11 p12 p13 h2 h3 w3 h4 w4 p14 p15 w5 h5 h6 p16 p17 w6 w7 w8 w9 w10 p18 w11 w12 w13 h1 f0 h2 f1 h3 f2 h4 f3 h5 f4 h6 f5) _ _ := h_3
  refine lv_if_ne (tgt := 18) hx hb dX12_bar_12 (by decide) (fun c_4 => ?_) (fun c_4 => ?_)
  · replace c_4 := i_ne (x := r_3) (y := 0) rfl (show (0 : Int32).toInt = 0 by decide) c_4
    replace y3_0 := a10_1 y3_0 c_4
    refine lv_aload_n hx hb dX12_bar_18 rfl (lv_at hl 0 rfl) ?_
    refine lv_iload_n hx hb dX12_bar_19 rfl (lv_at hl 1 rfl) ?_
    refine q_callVi (rest := []) (wr := (wk_794ff6232 cy h2 f1 h3 f2 h4 f3 h5 f4 h6 f5)) X hK hT hA h_3 (fun sz => gX12_isSet_9166d70 l D cy h0 h1 p0 (0 : Int32) w0 w1 w2 p3 p4 p5 p6 p7 p8 p9 p10 p11 p12 p13 (.ref h2) (.ref h3) w3 (.ref h4) w4 p14 p15 w5 (.ref h5) (.ref h6) p16 p17 w6 w7 w8 w9 w10 p18 w11 w12 w13 f0 p19 (i_rng _) ⟨by decide +kernel, by decide +kernel⟩ hp3 hp4 hp5 hp6 (i_rng _) hp8 (i_rng _) (i_rng _) (i_rng _) (i_rng _) (i_rng _) (i_rng _) (i_rng _) (i_rng _) (i_rng _) (i_rng _) hp19 htf0_84 rf0 sz) wm_7_96 wm_7_99 wm_1_12 hd_X12_isSet wm_7_98 wp_7_1 (ci := 12) (q0 := 0) rfl rfl ⟨Nat.le_of_ble_eq_true rfl, Nat.le_of_ble_eq_true rfl⟩ hl.1 rfl (Nat.le_of_ble_eq_true rfl) dX12_bar_20 ⟨Nat.le_of_ble_eq_true rfl, Nat.le_of_ble_eq_true rfl⟩ [0, 1] [2, 3, 4, 5, 6] rfl rfl (by decide) rfl rfl (fun r_5 u_5 H locs w_5 h_5 => ?_)
    clear h_3
    obtain ⟨wr_5, y5_0, _⟩ := w_5
    replace h_5 : qW D _ _ (wk_8e370af72 cy h2 f1 h3 f2 h4 f3 h5 f4 h6 f5 h0 0 h1 w0 w1 w2 p3 p4 p5 p6 p7 p8 p9 p10 p11 p12 p13 h2 h3 w3 h4 w4 p14 p15 w5 h5 h6 p16 p17 w6 w7 w8 w9 w10 p18 w11 w12 w13 h1 f0) _ _ := h_5
    refine lv_if_ne (tgt := 29) hx hb dX12_bar_23 (by decide) (fun c_6 => ?_) (fun c_6 => ?_)
    · replace c_6 := i_ne (x := r_5) (y := 0) rfl (show (0 : Int32).toInt = 0 by decide) c_6
      refine lv_aload_n hx hb dX12_bar_29 rfl (lv_at hl 0 rfl) ?_
      refine lv_aload_n hx hb dX12_bar_30 rfl (lv_at hl 0 rfl) ?_
      refine q_get X hK h_5 5 rfl rfl wf_12 1 (by decide) rfl wm_5_171 dX12_bar_31 ?_
      refine lv_bipush (v := 52) hx hb dX12_bar_34 (by decide) ?_
      refine q_iald X hK h_5 6 rfl (q_in (by decide +kernel)) dX12_bar_36 ?_
      refine q_any (fun z_7 hz_7 => ?_)
      refine q_callVv (rest := []) (wr := (wk_acf3c80ad cy h5 f4 h6 f5)) X hK hT hA h_5 (fun sz => gX12_laysOpposed_6a814f8 l D cy h0 h1 h2 h3 h4 z_7 (0 : Int32) w0 w1 w2 p3 p4 p5 p6 p7 p8 p9 p10 p11 p12 p13 w3 w4 p14 p15 w5 (.ref h5) (.ref h6) p16 p17 w6 w7 w8 w9 w10 p18 w11 w12 w13 f0 p19 f1 f2 f3 (i_rng _) ⟨by decide +kernel, by decide +kernel⟩ hp3 hp4 hp5 hp6 (i_rng _) hp8 (i_rng _) (i_rng _) (i_rng _) (i_rng _) (i_rng _) (i_rng _) (i_rng _) (i_rng _) (i_rng _) (i_rng _) hp19 htf0_84 rf0 (rg_wide rf3 (by decide) (by decide)) sz) wm_7_59 wm_7_62 wm_1_12 hd_X12_laysOpposed wm_7_61 wp_6_12 (ci := 12) (q0 := 0) rfl rfl ⟨Nat.le_of_ble_eq_true rfl, Nat.le_of_ble_eq_true rfl⟩ hl.1 rfl (Nat.le_of_ble_eq_true rfl) dX12_bar_37 ⟨Nat.le_of_ble_eq_true rfl, Nat.le_of_ble_eq_true rfl⟩ [5, 6, 0, 1, 2] [3, 4] rfl rfl (by decide) rfl rfl (fun u_8 H locs w_8 h_8 => ?_)
      clear h_5
      obtain ⟨w8_0, _⟩ := w_8
      replace h_8 : qW D _ _ (wk_46efe495a cy h5 f4 h6 f5 h0 0 h1 w0 w1 w2 p3 p4 p5 p6 p7 p8 p9 p10 p11 p12 p13 h2 h3 w3 h4 w4 p14 p15 w5 h5 h6 p16 p17 w6 w7 w8 w9 w10 p18 w11 w12 w13 h1 f0 h2 (u_8.2.1 0) h3 (u_8.2.1 1) h4 (u_8.2.1 2)) _ _ := h_8
      refine lv_aload_n hx hb dX12_bar_40 rfl (lv_at hl 0 rfl) ?_
      refine lv_iload_n hx hb dX12_bar_41 rfl (lv_at hl 1 rfl) ?_
      refine q_callVv (rest := []) (wr := (wk_3fb6de35f cy h2 (u_8.2.1 0) h3 (u_8.2.1 1))) X hK hT hA h_8 (fun sz => gX12_laysPairs_e0c774e l D cy h0 h1 h4 h5 h6 p0 (0 : Int32) w0 w1 w2 p3 p4 p5 p6 p7 p8 p9 p10 p11 p12 p13 (.ref h2) (.ref h3) w3 w4 p14 p15 w5 p16 p17 w6 w7 w8 w9 w10 p18 w11 w12 w13 f0 p19 (u_8.2.1 2) f4 f5 ⟨by omega, by omega⟩ ⟨by decide +kernel, by decide +kernel⟩ hp3 hp4 hp5 hp6 (i_rng _) hp8 (i_rng _) (i_rng _) (i_rng _) (i_rng _) (i_rng _) (i_rng _) (i_rng _) (i_rng _) (i_rng _) (i_rng _) hp19 htf0_84 rf0 (rg_wide w8_0 (by decide) (by decide)) sz) wm_7_112 wm_7_115 wm_1_12 hd_X12_laysPairs wm_7_114 wp_7_3 (ci := 12) (q0 := 0) rfl rfl ⟨Nat.le_of_ble_eq_true rfl, Nat.le_of_ble_eq_true rfl⟩ hl.1 rfl (Nat.le_of_ble_eq_true rfl) dX12_bar_42 ⟨Nat.le_of_ble_eq_true rfl, Nat.le_of_ble_eq_true rfl⟩ [2, 3, 6, 0, 1] [4, 5] rfl rfl (by decide) rfl rfl (fun u_9 H locs w_9 h_9 => ?_)
      clear h_8
      obtain ⟨w9_0, w9_1, _⟩ := w_9
      replace h_9 : qW D _ _ (wk_d169974a4 cy h2 (u_8.2.1 0) h3 (u_8.2.1 1) h0 0 h1 w0 w1 w2 p3 p4 p5 p6 p7 p8 p9 p10 p11 p12 p13 h2 h3 w3 h4 w4 p14 p15 w5 h5 h6 (u_9.2.1 0 0) (u_9.2.1 1 0) w6 w7 w8 w9 w10 p18 w11 w12 w13 h1 f0 h4 (u_8.2.1 2) h5 (u_9.2.1 2) h6 (u_9.2.1 3)) _ _ := h_9
      refine lv_iload_n hx hb dX12_bar_45 rfl (lv_at hl 1 rfl) ?_
      refine q_callSi (rest := []) (wr := (wk_d169974a4 cy h2 (u_8.2.1 0) h3 (u_8.2.1 1) h0 0 h1 w0 w1 w2 p3 p4 p5 p6 p7 p8 p9 p10 p11 p12 p13 h2 h3 w3 h4 w4 p14 p15 w5 h5 h6 (u_9.2.1 0 0) (u_9.2.1 1 0) w6 w7 w8 w9 w10 p18 w11 w12 w13 h1 f0 h4 (u_8.2.1 2) h5 (u_9.2.1 2) h6 (u_9.2.1 3))) X hK hT hA h_9 (fun sz => gX12_bitsOf_5a43b1c l D cy p0 (i_rng _) sz) wm_7_8 wm_7_10 wm_1_12 hd_X12_bitsOf wm_7_9 ⟨Nat.le_of_ble_eq_true rfl, Nat.le_of_ble_eq_true rfl⟩ hl.1 rfl (Nat.le_of_ble_eq_true rfl) dX12_bar_46 ⟨Nat.le_of_ble_eq_true rfl, Nat.le_of_ble_eq_true rfl⟩ [] [0, 1, 2, 3, 4, 5, 6] rfl rfl (by decide) rfl rfl (fun r_10 u_10 H locs w_10 h_10 => ?_)
      clear h_9
      obtain ⟨wr_10, _⟩ := w_10
      replace h_10 : qW D _ _ (wk_d169974a4 cy h2 (u_8.2.1 0) h3 (u_8.2.1 1) h0 0 h1 w0 w1 w2 p3 p4 p5 p6 p7 p8 p9 p10 p11 p12 p13 h2 h3 w3 h4 w4 p14 p15 w5 h5 h6 (u_9.2.1 0 0) (u_9.2.1 1 0) w6 w7 w8 w9 w10 p18 w11 w12 w13 h1 f0 h4 (u_8.2.1 2) h5 (u_9.2.1 2) h6 (u_9.2.1 3)) _ _ := h_10
      refine lv_iconst (v := 2) hx hb dX12_bar_49 (by decide) ?_
      refine lv_aload_n hx hb dX12_bar_50 rfl (lv_at hl 0 rfl) ?_
      refine q_get X hK h_10 2 rfl rfl wf_12 26 (by decide) rfl wm_5_196 dX12_bar_51 ?_
      refine lv_imul hx hb dX12_bar_54 ?_
      obtain ⟨z_11, ez_11, hz_11⟩ := e_mul (x := 2) (y := (u_9.2.1 0 0)) (show (2 : Int32).toInt = 2 by decide) rfl (by omega) (by omega)
      refine q_c z_11 ez_11 ?_
      clear ez_11
      refine lv_isub hx hb dX12_bar_55 ?_
      obtain ⟨z_12, ez_12, hz_12⟩ := e_sub (x := r_10) (y := z_11) rfl rfl (by omega) (by omega)
      refine q_c z_12 ez_12 ?_
      clear ez_12
      refine lv_istore_n (lv' := [(3, .int z_12), (0, .ref h0), (1, .int p0), (2, .int p1)]) hx hb dX12_bar_56 rfl hl (by decide) rfl (fun ls_13 hl_13 => ?_)
      clear hl
      refine lv_iconst (v := (-1)) hx hb dX12_bar_57 (by decide) ?_
      refine lv_istore (lv' := [(4, .int (-1)), (3, .int z_12), (0, .ref h0), (1, .int p0), (2, .int p1)]) hx hb dX12_bar_58 hl_13 (by decide) rfl (fun ls_14 hl_14 => ?_)
      clear hl_13
      refine lv_iconst (v := 0) hx hb dX12_bar_60 (by decide) ?_
      refine lv_istore (lv' := [(5, .int 0), (4, .int (-1)), (3, .int z_12), (0, .ref h0), (1, .int p0), (2, .int p1)]) hx hb dX12_bar_61 hl_14 (by decide) rfl (fun ls_15 hl_15 => ?_)
      clear hl_14
      refine q_wl (fun (q : Int32 × Int32) H locs ls => match q with | (v63_16_0, v63_16_1) => (0 ≤ (v63_16_0).toInt ∧ (v63_16_0).toInt ≤ 1024) ∧ ((-1) ≤ (v63_16_1).toInt ∧ (v63_16_1).toInt ≤ 1023) ∧ qW D (va_A (wk_69ec1558b cy h0 p2 h1 w0 w1 w2 p3 p4 p5 p6 p7 p8 p9 p10 p11 p12 p13 h2 h3 w3 h4 w4 p14 p15 w5 h5 h6 p16 p17 w6 w7 w8 w9 w10 p18 w11 w12 w13 h1 f0 h2 f1 h3 f2 h4 f3 h5 f4 h6 f5) sz) s.heap (wk_d169974a4 cy h2 (u_8.2.1 0) h3 (u_8.2.1 1) h0 0 h1 w0 w1 w2 p3 p4 p5 p6 p7 p8 p9 p10 p11 p12 p13 h2 h3 w3 h4 w4 p14 p15 w5 h5 h6 (u_9.2.1 0 0) (u_9.2.1 1 0) w6 w7 w8 w9 w10 p18 w11 w12 w13 h1 f0 h4 (u_8.2.1 2) h5 (u_9.2.1 2) h6 (u_9.2.1 3)) H locs ∧ lv_has ls 6 [(0, .ref h0), (1, .int p0), (2, .int p1), (3, .int z_12), (4, .int v63_16_1), (5, .int v63_16_0)]) (fun (q : Int32 × Int32) => match q with | (v63_16_0, v63_16_1) => (1025 - (v63_16_0).toInt).toNat) (fun q_63 ih_63 H locs ls hP => ?_) (0, (-1)) ⟨⟨by decide +kernel, by decide +kernel⟩, ⟨by decide +kernel, by decide +kernel⟩, h_10, (lv_sub hl_15 [3, 4, 5, 2, 1, 0] rfl)⟩
      obtain ⟨v63_16_0, v63_16_1⟩ := q_63
      obtain ⟨hv63_16_0, hv63_16_1, h, hl⟩ := hP
      refine lv_iload hx hb dX12_bar_63 (lv_at hl 5 rfl) ?_
      refine lv_iload_n hx hb dX12_bar_65 rfl (lv_at hl 1 rfl) ?_
      refine lv_icmp_gt (tgt := 131) hx hb dX12_bar_66 (by decide) (fun c_17 => ?_) (fun c_17 => ?_)
      · replace c_17 := i_lt (x := p0) (y := v63_16_0) rfl rfl c_17
        refine lv_iload_n hx hb dX12_bar_131 rfl (lv_at hl 2 rfl) ?_
        refine q_jn (pc2 := 145) (fun H locs ls st => ∃ v145_18_0 : Int32, ((-1) ≤ (v145_18_0).toInt ∧ (v145_18_0).toInt ≤ 1023) ∧ st = [.int v145_18_0] ∧ qW D (va_A (wk_69ec1558b cy h0 p2 h1 w0 w1 w2 p3 p4 p5 p6 p7 p8 p9 p10 p11 p12 p13 h2 h3 w3 h4 w4 p14 p15 w5 h5 h6 p16 p17 w6 w7 w8 w9 w10 p18 w11 w12 w13 h1 f0 h2 f1 h3 f2 h4 f3 h5 f4 h6 f5) sz) s.heap (wk_d169974a4 cy h2 (u_8.2.1 0) h3 (u_8.2.1 1) h0 0 h1 w0 w1 w2 p3 p4 p5 p6 p7 p8 p9 p10 p11 p12 p13 h2 h3 w3 h4 w4 p14 p15 w5 h5 h6 (u_9.2.1 0 0) (u_9.2.1 1 0) w6 w7 w8 w9 w10 p18 w11 w12 w13 h1 f0 h4 (u_8.2.1 2) h5 (u_9.2.1 2) h6 (u_9.2.1 3)) H locs ∧ lv_has ls 6 [(0, .ref h0), (1, .int p0), (2, .int p1), (3, .int z_12), (4, .int v63_16_1), (5, .int v63_16_0)]) (fun H locs ls st hP => ?_) (fun J_145 => ?_)
        · obtain ⟨v145_18_0, hv145_18_0, rfl, h, hl⟩ := hP
          exact q_iret X hr hlk hK h rfl (fun _ => 0, (vcons (u_8.2.1 0) (vcons (u_8.2.1 1) (vcons (fun _ => 0) (vcons (fun _ => (u_9.2.1 0 0)) (vcons (fun _ => (u_9.2.1 1 0)) (vcons (u_8.2.1 2) (vcons (u_9.2.1 2) (vcons (u_9.2.1 3) (fun _ => (fun _ => 0)))))))))), fun _ _ => 0) ⟨(bw hv145_18_0 (by decide) (by decide)), (⟨by decide +kernel, by decide +kernel⟩ : 0 ≤ (0 : Int32).toInt ∧ (0 : Int32).toInt ≤ 0), (bw w9_0 (by decide) (by decide)), w9_1, (rg_wide w8_0 (by decide) (by decide)), trivial⟩ [2, 3, 0, 1, 4, 5, 6] rfl rfl dX12_bar_145 (Nat.le_of_ble_eq_true rfl) (Nat.le_of_ble_eq_true rfl)
        · skip
          refine lv_if_ne (tgt := 143) hx hb dX12_bar_132 (by decide) (fun c_19 => ?_) (fun c_19 => ?_)
          · replace c_19 := i_ne (x := p1) (y := 0) rfl (show (0 : Int32).toInt = 0 by decide) c_19
            refine lv_iload hx hb dX12_bar_143 (lv_at hl 4 rfl) ?_
            exact J_145 _ _ _ _ ⟨v63_16_1, hv63_16_1, rfl, h, (lv_sub hl [0, 1, 2, 3, 4, 5] rfl)⟩
          · replace c_19 := i_eq (x := p1) (y := 0) rfl (show (0 : Int32).toInt = 0 by decide) c_19
            refine lv_iload hx hb dX12_bar_135 (lv_at hl 4 rfl) ?_
            refine q_callSi (rest := []) (wr := (wk_d169974a4 cy h2 (u_8.2.1 0) h3 (u_8.2.1 1) h0 0 h1 w0 w1 w2 p3 p4 p5 p6 p7 p8 p9 p10 p11 p12 p13 h2 h3 w3 h4 w4 p14 p15 w5 h5 h6 (u_9.2.1 0 0) (u_9.2.1 1 0) w6 w7 w8 w9 w10 p18 w11 w12 w13 h1 f0 h4 (u_8.2.1 2) h5 (u_9.2.1 2) h6 (u_9.2.1 3))) X hK hT hA h (fun sz => gX12_bitsOf_5a43b1c l D cy v63_16_1 (i_rng _) sz) wm_7_8 wm_7_10 wm_1_12 hd_X12_bitsOf wm_7_9 ⟨Nat.le_of_ble_eq_true rfl, Nat.le_of_ble_eq_true rfl⟩ hl.1 rfl (Nat.le_of_ble_eq_true rfl) dX12_bar_137 ⟨Nat.le_of_ble_eq_true rfl, Nat.le_of_ble_eq_true rfl⟩ [] [0, 1, 2, 3, 4, 5, 6] rfl rfl (by decide) rfl rfl (fun r_20 u_20 H locs w_20 h_20 => ?_)
            clear h
            obtain ⟨wr_20, _⟩ := w_20
            replace h_20 : qW D _ _ (wk_d169974a4 cy h2 (u_8.2.1 0) h3 (u_8.2.1 1) h0 0 h1 w0 w1 w2 p3 p4 p5 p6 p7 p8 p9 p10 p11 p12 p13 h2 h3 w3 h4 w4 p14 p15 w5 h5 h6 (u_9.2.1 0 0) (u_9.2.1 1 0) w6 w7 w8 w9 w10 p18 w11 w12 w13 h1 f0 h4 (u_8.2.1 2) h5 (u_9.2.1 2) h6 (u_9.2.1 3)) _ _ := h_20
            refine lv_goto (tgt := 145) hx hb dX12_bar_140 (by decide) ?_
            exact J_145 _ _ _ _ ⟨r_20, (bw wr_20 (by decide) (by decide)), rfl, h_20, (lv_sub hl [0, 1, 2, 3, 4, 5] rfl)⟩
      · replace c_17 := i_nlt (x := p0) (y := v63_16_0) rfl rfl c_17
        refine lv_iload hx hb dX12_bar_69 (lv_at hl 5 rfl) ?_
        refine lv_iload_n hx hb dX12_bar_71 rfl (lv_at hl 1 rfl) ?_
        refine lv_iconst (v := (-1)) hx hb dX12_bar_72 (by decide) ?_
        refine lv_ixor hx hb dX12_bar_73 ?_
        refine q_any (fun z_21 hz_21 => ?_)
        refine lv_iand hx hb dX12_bar_74 ?_
        obtain ⟨z_22, ez_22, hz_22⟩ := e_and1 (x := v63_16_0) (y := z_21) rfl (by omega)
        refine q_c z_22 ez_22 ?_
        clear ez_22
        refine q_jn (pc2 := 125) (fun H locs ls st => ∃ v125_23_0 : Int32, ((-1) ≤ (v125_23_0).toInt ∧ (v125_23_0).toInt ≤ 1023) ∧ st = [] ∧ qW D (va_A (wk_69ec1558b cy h0 p2 h1 w0 w1 w2 p3 p4 p5 p6 p7 p8 p9 p10 p11 p12 p13 h2 h3 w3 h4 w4 p14 p15 w5 h5 h6 p16 p17 w6 w7 w8 w9 w10 p18 w11 w12 w13 h1 f0 h2 f1 h3 f2 h4 f3 h5 f4 h6 f5) sz) s.heap (wk_d169974a4 cy h2 (u_8.2.1 0) h3 (u_8.2.1 1) h0 0 h1 w0 w1 w2 p3 p4 p5 p6 p7 p8 p9 p10 p11 p12 p13 h2 h3 w3 h4 w4 p14 p15 w5 h5 h6 (u_9.2.1 0 0) (u_9.2.1 1 0) w6 w7 w8 w9 w10 p18 w11 w12 w13 h1 f0 h4 (u_8.2.1 2) h5 (u_9.2.1 2) h6 (u_9.2.1 3)) H locs ∧ lv_has ls 6 [(0, .ref h0), (1, .int p0), (2, .int p1), (3, .int z_12), (4, .int v125_23_0), (5, .int v63_16_0)]) (fun H locs ls st hP => ?_) (fun J_125 => ?_)
        · obtain ⟨v125_23_0, hv125_23_0, rfl, h, hl⟩ := hP
          obtain ⟨z_24, ez_24, hz_24⟩ := e_add (x := v63_16_0) (y := Int32.ofInt 1) rfl (b := 1) (by decide) (by omega) (by omega)
          refine lv_iinc (v := z_24) (lv' := [(5, .int z_24), (0, .ref h0), (1, .int p0), (2, .int p1), (3, .int z_12), (4, .int v125_23_0)]) hx hb dX12_bar_125 hl (k := 5) rfl ez_24 (by decide) rfl (fun ls_24 hl_24 => ?_)
          clear hl
          refine lv_goto (tgt := 63) hx hb dX12_bar_128 (by decide) ?_
          exact ih_63 (z_24, v125_23_0) (by show (1025 - (z_24).toInt).toNat < (1025 - (v63_16_0).toInt).toNat; omega) _ _ _ ⟨⟨by omega, by omega⟩, hv125_23_0, h, (lv_sub hl_24 [1, 2, 3, 4, 5, 0] rfl)⟩
        · skip
          refine lv_if_ne (tgt := 125) hx hb dX12_bar_75 (by decide) (fun c_25 => ?_) (fun c_25 => ?_)
          · replace c_25 := i_ne (x := z_22) (y := 0) rfl (show (0 : Int32).toInt = 0 by decide) c_25
            exact J_125 _ _ _ _ ⟨v63_16_1, hv63_16_1, rfl, h, (lv_sub hl [0, 1, 2, 3, 4, 5] rfl)⟩
          · replace c_25 := i_eq (x := z_22) (y := 0) rfl (show (0 : Int32).toInt = 0 by decide) c_25
            refine lv_iload hx hb dX12_bar_78 (lv_at hl 4 rfl) ?_
            refine lv_iconst (v := (-1)) hx hb dX12_bar_80 (by decide) ?_
            refine q_jn (pc2 := 100) (fun H locs ls st => st = [] ∧ qW D (va_A (wk_69ec1558b cy h0 p2 h1 w0 w1 w2 p3 p4 p5 p6 p7 p8 p9 p10 p11 p12 p13 h2 h3 w3 h4 w4 p14 p15 w5 h5 h6 p16 p17 w6 w7 w8 w9 w10 p18 w11 w12 w13 h1 f0 h2 f1 h3 f2 h4 f3 h5 f4 h6 f5) sz) s.heap (wk_d169974a4 cy h2 (u_8.2.1 0) h3 (u_8.2.1 1) h0 0 h1 w0 w1 w2 p3 p4 p5 p6 p7 p8 p9 p10 p11 p12 p13 h2 h3 w3 h4 w4 p14 p15 w5 h5 h6 (u_9.2.1 0 0) (u_9.2.1 1 0) w6 w7 w8 w9 w10 p18 w11 w12 w13 h1 f0 h4 (u_8.2.1 2) h5 (u_9.2.1 2) h6 (u_9.2.1 3)) H locs ∧ lv_has ls 6 [(0, .ref h0), (1, .int p0), (2, .int p1), (3, .int z_12), (4, .int v63_16_1), (5, .int v63_16_0)]) (fun H locs ls st hP => ?_) (fun J_100 => ?_)
            · obtain ⟨rfl, h, hl⟩ := hP
              refine lv_aload_n hx hb dX12_bar_100 rfl (lv_at hl 0 rfl) ?_
              refine lv_iload_n hx hb dX12_bar_101 rfl (lv_at hl 1 rfl) ?_
              refine lv_iload hx hb dX12_bar_102 (lv_at hl 5 rfl) ?_
              refine lv_iconst (v := (-1)) hx hb dX12_bar_104 (by decide) ?_
              refine lv_ixor hx hb dX12_bar_105 ?_
              refine q_any (fun z_27 hz_27 => ?_)
              refine lv_iand hx hb dX12_bar_106 ?_
              obtain ⟨z_28, ez_28, hz_28⟩ := e_and1 (x := p0) (y := z_27) rfl (by omega)
              refine q_c z_28 ez_28 ?_
              clear ez_28
              refine lv_iconst (v := 1) hx hb dX12_bar_107 (by decide) ?_
              refine q_callVi (rest := []) (wr := [(h2, .inl (cy 1, 900, .inl (u_8.2.1 0))), (h3, .inl (cy 1, 11, .inl (u_8.2.1 1))), (h5, .inl (cy 1, 10, .inl (u_9.2.1 2))), (h6, .inl (cy 1, 10, .inl (u_9.2.1 3)))]) X hK hT hA h (fun sz => gX12_piecesOf_88acc35 l D cy h0 h1 h4 z_28 (1 : Int32) (0 : Int32) w0 w1 w2 p3 p4 p5 p6 p7 p8 p9 p10 p11 p12 p13 (.ref h2) (.ref h3) w3 w4 p14 p15 w5 (.ref h5) (.ref h6) (u_9.2.1 0 0) (u_9.2.1 1 0) w6 w7 w8 w9 w10 p18 w11 w12 w13 f0 p19 (u_8.2.1 2) ⟨by omega, by omega⟩ ⟨by decide +kernel, by decide +kernel⟩ ⟨by decide +kernel, by decide +kernel⟩ hp3 hp4 hp5 hp6 (i_rng _) hp8 (i_rng _) (i_rng _) (i_rng _) (i_rng _) (i_rng _) (i_rng _) (i_rng _) (i_rng _) (i_rng _) (i_rng _) hp19 htf0_84 rf0 (rg_wide w8_0 (by decide) (by decide)) sz) wm_7_124 wm_7_127 wm_1_12 hd_X12_piecesOf wm_7_126 wp_7_5 (ci := 12) (q0 := 0) rfl rfl ⟨Nat.le_of_ble_eq_true rfl, Nat.le_of_ble_eq_true rfl⟩ hl.1 rfl (Nat.le_of_ble_eq_true rfl) dX12_bar_108 ⟨Nat.le_of_ble_eq_true rfl, Nat.le_of_ble_eq_true rfl⟩ [2, 3, 4] [0, 1, 5, 6] rfl rfl (by decide) rfl rfl (fun r_29 u_29 H locs w_29 h_29 => ?_)
              clear h
              obtain ⟨wr_29, _⟩ := w_29
              replace h_29 : qW D _ _ (wk_6f53864da cy h2 (u_8.2.1 0) h3 (u_8.2.1 1) h5 (u_9.2.1 2) h6 (u_9.2.1 3) h0 0 h1 w0 w1 w2 p3 p4 p5 p6 p7 p8 p9 p10 p11 p12 p13 h2 h3 w3 h4 w4 p14 p15 w5 h5 h6 (u_9.2.1 0 0) (u_9.2.1 1 0) w6 w7 w8 w9 w10 p18 w11 w12 w13 h1 f0 h4 (u_8.2.1 2)) _ _ := h_29
              refine lv_iload hx hb dX12_bar_111 (lv_at hl 5 rfl) ?_
              refine q_callSi (rest := [.int r_29]) (wr := (wk_6f53864da cy h2 (u_8.2.1 0) h3 (u_8.2.1 1) h5 (u_9.2.1 2) h6 (u_9.2.1 3) h0 0 h1 w0 w1 w2 p3 p4 p5 p6 p7 p8 p9 p10 p11 p12 p13 h2 h3 w3 h4 w4 p14 p15 w5 h5 h6 (u_9.2.1 0 0) (u_9.2.1 1 0) w6 w7 w8 w9 w10 p18 w11 w12 w13 h1 f0 h4 (u_8.2.1 2))) X hK hT hA h_29 (fun sz => gX12_bitsOf_5a43b1c l D cy v63_16_0 (i_rng _) sz) wm_7_8 wm_7_10 wm_1_12 hd_X12_bitsOf wm_7_9 ⟨Nat.le_of_ble_eq_true rfl, Nat.le_of_ble_eq_true rfl⟩ hl.1 rfl (Nat.le_of_ble_eq_true rfl) dX12_bar_113 ⟨Nat.le_of_ble_eq_true rfl, Nat.le_of_ble_eq_true rfl⟩ [] [0, 1, 2, 3, 4, 5, 6] rfl rfl (by decide) rfl rfl (fun r_30 u_30 H locs w_30 h_30 => ?_)
              clear h_29
              obtain ⟨wr_30, _⟩ := w_30
              replace h_30 : qW D _ _ (wk_6f53864da cy h2 (u_8.2.1 0) h3 (u_8.2.1 1) h5 (u_9.2.1 2) h6 (u_9.2.1 3) h0 0 h1 w0 w1 w2 p3 p4 p5 p6 p7 p8 p9 p10 p11 p12 p13 h2 h3 w3 h4 w4 p14 p15 w5 h5 h6 (u_9.2.1 0 0) (u_9.2.1 1 0) w6 w7 w8 w9 w10 p18 w11 w12 w13 h1 f0 h4 (u_8.2.1 2)) _ _ := h_30
              refine lv_isub hx hb dX12_bar_116 ?_
              refine q_any (fun z_31 hz_31 => ?_)
              refine lv_iload_n hx hb dX12_bar_117 rfl (lv_at hl 3 rfl) ?_
              refine lv_icmp_ne (tgt := 125) hx hb dX12_bar_118 (by decide) (fun c_32 => ?_) (fun c_32 => ?_)
              · replace c_32 := i_ne (x := z_31) (y := z_12) rfl rfl c_32
                exact J_125 _ _ _ _ ⟨v63_16_1, hv63_16_1, rfl, (q_re h_30 [0, 1, 4, 5, 6, 2, 3] rfl rfl), (lv_sub hl [0, 1, 2, 3, 4, 5] rfl)⟩
              · replace c_32 := i_eq (x := z_31) (y := z_12) rfl rfl c_32
                refine lv_iload hx hb dX12_bar_121 (lv_at hl 5 rfl) ?_
                refine lv_istore (lv' := [(4, .int v63_16_0), (0, .ref h0), (1, .int p0), (2, .int p1), (3, .int z_12), (5, .int v63_16_0)]) hx hb dX12_bar_123 hl (by decide) rfl (fun ls_33 hl_33 => ?_)
                clear hl
                exact J_125 _ _ _ _ ⟨v63_16_0, ⟨by omega, by omega⟩, rfl, (q_re h_30 [0, 1, 4, 5, 6, 2, 3] rfl rfl), (lv_sub hl_33 [1, 2, 3, 4, 0, 5] rfl)⟩
            · skip
              refine lv_icmp_eq (tgt := 100) hx hb dX12_bar_81 (by decide) (fun c_34 => ?_) (fun c_34 => ?_)
              · replace c_34 := i_eq (x := v63_16_1) (y := (-1)) rfl (show ((-1) : Int32).toInt = -1 by decide) c_34
                exact J_100 _ _ _ _ ⟨rfl, h, (lv_sub hl [0, 1, 2, 3, 4, 5] rfl)⟩
              · replace c_34 := i_ne (x := v63_16_1) (y := (-1)) rfl (show ((-1) : Int32).toInt = -1 by decide) c_34
                refine lv_iload hx hb dX12_bar_84 (lv_at hl 5 rfl) ?_
                refine q_callSi (rest := []) (wr := (wk_d169974a4 cy h2 (u_8.2.1 0) h3 (u_8.2.1 1) h0 0 h1 w0 w1 w2 p3 p4 p5 p6 p7 p8 p9 p10 p11 p12 p13 h2 h3 w3 h4 w4 p14 p15 w5 h5 h6 (u_9.2.1 0 0) (u_9.2.1 1 0) w6 w7 w8 w9 w10 p18 w11 w12 w13 h1 f0 h4 (u_8.2.1 2) h5 (u_9.2.1 2) h6 (u_9.2.1 3))) X hK hT hA h (fun sz => gX12_bitsOf_5a43b1c l D cy v63_16_0 (i_rng _) sz) wm_7_8 wm_7_10 wm_1_12 hd_X12_bitsOf wm_7_9 ⟨Nat.le_of_ble_eq_true rfl, Nat.le_of_ble_eq_true rfl⟩ hl.1 rfl (Nat.le_of_ble_eq_true rfl) dX12_bar_86 ⟨Nat.le_of_ble_eq_true rfl, Nat.le_of_ble_eq_true rfl⟩ [] [0, 1, 2, 3, 4, 5, 6] rfl rfl (by decide) rfl rfl (fun r_35 u_35 H locs w_35 h_35 => ?_)
                clear h
                obtain ⟨wr_35, _⟩ := w_35
                replace h_35 : qW D _ _ (wk_d169974a4 cy h2 (u_8.2.1 0) h3 (u_8.2.1 1) h0 0 h1 w0 w1 w2 p3 p4 p5 p6 p7 p8 p9 p10 p11 p12 p13 h2 h3 w3 h4 w4 p14 p15 w5 h5 h6 (u_9.2.1 0 0) (u_9.2.1 1 0) w6 w7 w8 w9 w10 p18 w11 w12 w13 h1 f0 h4 (u_8.2.1 2) h5 (u_9.2.1 2) h6 (u_9.2.1 3)) _ _ := h_35
                refine lv_iload hx hb dX12_bar_89 (lv_at hl 4 rfl) ?_
                refine q_callSi (rest := [.int r_35]) (wr := (wk_d169974a4 cy h2 (u_8.2.1 0) h3 (u_8.2.1 1) h0 0 h1 w0 w1 w2 p3 p4 p5 p6 p7 p8 p9 p10 p11 p12 p13 h2 h3 w3 h4 w4 p14 p15 w5 h5 h6 (u_9.2.1 0 0) (u_9.2.1 1 0) w6 w7 w8 w9 w10 p18 w11 w12 w13 h1 f0 h4 (u_8.2.1 2) h5 (u_9.2.1 2) h6 (u_9.2.1 3))) X hK hT hA h_35 (fun sz => gX12_bitsOf_5a43b1c l D cy v63_16_1 (i_rng _) sz) wm_7_8 wm_7_10 wm_1_12 hd_X12_bitsOf wm_7_9 ⟨Nat.le_of_ble_eq_true rfl, Nat.le_of_ble_eq_true rfl⟩ hl.1 rfl (Nat.le_of_ble_eq_true rfl) dX12_bar_91 ⟨Nat.le_of_ble_eq_true rfl, Nat.le_of_ble_eq_true rfl⟩ [] [0, 1, 2, 3, 4, 5, 6] rfl rfl (by decide) rfl rfl (fun r_36 u_36 H locs w_36 h_36 => ?_)
                clear h_35
                obtain ⟨wr_36, _⟩ := w_36
                replace h_36 : qW D _ _ (wk_d169974a4 cy h2 (u_8.2.1 0) h3 (u_8.2.1 1) h0 0 h1 w0 w1 w2 p3 p4 p5 p6 p7 p8 p9 p10 p11 p12 p13 h2 h3 w3 h4 w4 p14 p15 w5 h5 h6 (u_9.2.1 0 0) (u_9.2.1 1 0) w6 w7 w8 w9 w10 p18 w11 w12 w13 h1 f0 h4 (u_8.2.1 2) h5 (u_9.2.1 2) h6 (u_9.2.1 3)) _ _ := h_36
                refine lv_icmp_lt (tgt := 100) hx hb dX12_bar_94 (by decide) (fun c_37 => ?_) (fun c_37 => ?_)
                · replace c_37 := i_lt (x := r_35) (y := r_36) rfl rfl c_37
                  exact J_100 _ _ _ _ ⟨rfl, h_36, (lv_sub hl [0, 1, 2, 3, 4, 5] rfl)⟩
                · replace c_37 := i_nlt (x := r_35) (y := r_36) rfl rfl c_37
                  refine lv_goto (tgt := 125) hx hb dX12_bar_97 (by decide) ?_
                  exact J_125 _ _ _ _ ⟨v63_16_1, hv63_16_1, rfl, h_36, (lv_sub hl [0, 1, 2, 3, 4, 5] rfl)⟩
    · replace c_6 := i_eq (x := r_5) (y := 0) rfl (show (0 : Int32).toInt = 0 by decide) c_6
      refine lv_bipush (v := (-3)) hx hb dX12_bar_26 (by decide) ?_
      exact q_iret X hr hlk hK h_5 rfl (fun _ => 0, (vcons f1 (vcons f2 (vcons (fun _ => 0) (vcons (fun _ => p16) (vcons (fun _ => p17) (vcons f3 (vcons f4 (vcons f5 (fun _ => (fun _ => 0)))))))))), fun _ _ => 0) ⟨⟨by decide +kernel, by decide +kernel⟩, (⟨by decide +kernel, by decide +kernel⟩ : 0 ≤ (0 : Int32).toInt ∧ (0 : Int32).toInt ≤ 0), hp16, hp17, (rg_wide rf3 (by decide) (by decide)), trivial⟩ [5, 6, 0, 1, 2, 3, 4] rfl rfl dX12_bar_28 (Nat.le_of_ble_eq_true rfl) (Nat.le_of_ble_eq_true rfl)
  · replace c_4 := i_eq (x := r_3) (y := 0) rfl (show (0 : Int32).toInt = 0 by decide) c_4
    replace y3_0 := a10_0 y3_0 c_4
    refine lv_bipush (v := (-2)) hx hb dX12_bar_15 (by decide) ?_
    exact q_iret X hr hlk hK h_3 rfl (fun _ => 0, (vcons f1 (vcons f2 (vcons (fun _ => 0) (vcons (fun _ => p16) (vcons (fun _ => p17) (vcons f3 (vcons f4 (vcons f5 (fun _ => (fun _ => 0)))))))))), fun _ _ => 0) ⟨⟨by decide +kernel, by decide +kernel⟩, (⟨by decide +kernel, by decide +kernel⟩ : 0 ≤ (0 : Int32).toInt ∧ (0 : Int32).toInt ≤ 0), hp16, hp17, (rg_wide rf3 (by decide) (by decide)), trivial⟩ [0, 1, 2, 3, 4, 5, 6] rfl rfl dX12_bar_17 (Nat.le_of_ble_eq_true rfl) (Nat.le_of_ble_eq_true rfl)
set_option maxHeartbeats 4000000 in
set_option maxRecDepth 100000 in
theorem gX12_pieces_6657e86 (l : Launch) (D : va_G) (cy : Nat → ClassId) (h0 : Nat) (h1 : Nat) (h2 : Nat) (h3 : Nat) (h4 : Nat) (p0 : Int32) (p1 : Int32) (w0 : Value) (w1 : Value) (w2 : Value) (p2 : Int32) (p3 : Int32) (p4 : Int32) (p5 : Int32) (p6 : Int32) (p7 : Int32) (p8 : Int32) (p9 : Int32) (p10 : Int32) (p11 : Int32) (p12 : Int32) (w3 : Value) (w4 : Value) (p13 : Int32) (p14 : Int32) (w5 : Value) (w6 : Value) (w7 : Value) (p15 : Int32) (p16 : Int32) (w8 : Value) (w9 : Value) (w10 : Value) (w11 : Value) (w12 : Value) (p17 : Int32) (w13 : Value) (w14 : Value) (w15 : Value) (f0 : Nat → Int32) (p18 : Int32) (f1 : Nat → Int32) (f2 : Nat → Int32) (f3 : Nat → Int32) (hp0 : (-2147483648) ≤ (p0).toInt ∧ (p0).toInt ≤ 2147483647) (hp1 : (-2147483648) ≤ (p1).toInt ∧ (p1).toInt ≤ 2147483647) (hp2 : 0 ≤ (p2).toInt ∧ (p2).toInt ≤ 900) (hp3 : 0 ≤ (p3).toInt ∧ (p3).toInt ≤ 900) (hp4 : 0 ≤ (p4).toInt ∧ (p4).toInt ≤ 900) (hp5 : 0 ≤ (p5).toInt ∧ (p5).toInt ≤ 900) (hp6 : (-2147483648) ≤ (p6).toInt ∧ (p6).toInt ≤ 2147483647) (hp7 : 0 ≤ (p7).toInt ∧ (p7).toInt ≤ 999) (hp8 : (-2147483648) ≤ (p8).toInt ∧ (p8).toInt ≤ 2147483647) (hp9 : (-2147483648) ≤ (p9).toInt ∧ (p9).toInt ≤ 2147483647) (hp10 : (-2147483648) ≤ (p10).toInt ∧ (p10).toInt ≤ 2147483647) (hp11 : (-2147483648) ≤ (p11).toInt ∧ (p11).toInt ≤ 2147483647) (hp12 : (-2147483648) ≤ (p12).toInt ∧ (p12).toInt ≤ 2147483647) (hp13 : (-2147483648) ≤ (p13).toInt ∧ (p13).toInt ≤ 2147483647) (hp14 : (-2147483648) ≤ (p14).toInt ∧ (p14).toInt ≤ 2147483647) (hp15 : (-2147483648) ≤ (p15).toInt ∧ (p15).toInt ≤ 2147483647) (hp16 : (-2147483648) ≤ (p16).toInt ∧ (p16).toInt ≤ 2147483647) (hp17 : (-2147483648) ≤ (p17).toInt ∧ (p17).toInt ≤ 2147483647) (hp18 : 0 ≤ (p18).toInt ∧ (p18).toInt ≤ 10) (htf0_84 : f0 84 = p18) (rf0 : AL f0) (rf3 : RG f3 10 0 1023) (sz : Nat) : MI l yX12_pieces cX12_pieces 2 .int { frames := 4, cells := 0, slots := 0, locals := 94 } [.ref h0, .int p0] D cy (wk_8b19a8a79 cy h0 p1 h1 w0 w1 w2 p2 p3 p4 p5 p6 p7 p8 p9 p10 p11 p12 h2 h3 w3 h4 w4 p13 p14 w5 w6 w7 p15 p16 w8 w9 w10 w11 w12 p17 w13 w14 w15 h1 f0 h2 f1 h3 f2 h4 f3) sz (fun r u => ((-2147483648) ≤ r.toInt ∧ r.toInt ≤ 2147483647) ∧ (0 ≤ (u.2.1 2 0).toInt ∧ (u.2.1 2 0).toInt ≤ 0) ∧ RG (u.2.1 3) 10 0 1023 ∧ True) (fun u => (wk_8b19a8a79 cy h0 (u.2.1 2 0) h1 w0 w1 w2 p2 p3 p4 p5 p6 p7 p8 p9 p10 p11 p12 h2 h3 w3 h4 w4 p13 p14 w5 w6 w7 p15 p16 w8 w9 w10 w11 w12 p17 w13 w14 w15 h1 f0 h2 (u.2.1 0) h3 (u.2.1 1) h4 (u.2.1 3))) 0 0 := by
  refine q_ent (own := RX12) (by decide) rfl (Nat.le_of_ble_eq_true rfl) (fun p e s m below meth c ls X hr hlk hnm hK hT h hA hl => ?_)
  obtain ⟨hx, hb, hml, hown, ht⟩ := id X
  replace hl : lv_has ls 2 [(0, .ref h0), (1, .int p0)] := hl
  refine lv_aload_n hx hb dX12_pieces_0 rfl (lv_at hl 0 rfl) ?_
  refine lv_iconst (v := 0) hx hb dX12_pieces_1 (by decide) ?_
  refine q_put (v := .int 0) X hK h 0 rfl rfl wf_12 tyX12 tyX12_ok nmX12 0 (by decide) wm_5_170 rfl rfl rfl (Nat.le_of_ble_eq_true rfl) dX12_pieces_2 (fun H locs h_1 => ?_)
  clear h
  replace h_1 : qW D _ _ (wk_8b19a8a79 cy h0 0 h1 w0 w1 w2 p2 p3 p4 p5 p6 p7 p8 p9 p10 p11 p12 h2 h3 w3 h4 w4 p13 p14 w5 w6 w7 p15 p16 w8 w9 w10 w11 w12 p17 w13 w14 w15 h1 f0 h2 f1 h3 f2 h4 f3) _ _ := h_1
  refine lv_aload_n hx hb dX12_pieces_5 rfl (lv_at hl 0 rfl) ?_
  refine lv_iload_n hx hb dX12_pieces_6 rfl (lv_at hl 1 rfl) ?_
  refine q_callVi (rest := []) (wr := (wk_ce6a1f133 cy h2 f1 h3 f2 h4 f3)) X hK hT hA h_1 (fun sz => gX12_isSet_9166d70 l D cy h0 h1 p0 (0 : Int32) w0 w1 w2 p2 p3 p4 p5 p6 p7 p8 p9 p10 p11 p12 (.ref h2) (.ref h3) w3 (.ref h4) w4 p13 p14 w5 w6 w7 p15 p16 w8 w9 w10 w11 w12 p17 w13 w14 w15 f0 p18 (i_rng _) ⟨by decide +kernel, by decide +kernel⟩ hp2 hp3 hp4 hp5 (i_rng _) hp7 (i_rng _) (i_rng _) (i_rng _) (i_rng _) (i_rng _) (i_rng _) (i_rng _) (i_rng _) (i_rng _) (i_rng _) hp18 htf0_84 rf0 sz) wm_7_96 wm_7_99 wm_1_12 hd_X12_isSet wm_7_98 wp_7_1 (ci := 12) (q0 := 0) rfl rfl ⟨Nat.le_of_ble_eq_true rfl, Nat.le_of_ble_eq_true rfl⟩ hl.1 rfl (Nat.le_of_ble_eq_true rfl) dX12_pieces_7 ⟨Nat.le_of_ble_eq_true rfl, Nat.le_of_ble_eq_true rfl⟩ [0, 1] [2, 3, 4] rfl rfl (by decide) rfl rfl (fun r_2 u_2 H locs w_2 h_2 => ?_)
  clear h_1
  obtain ⟨wr_2, y2_0, _⟩ := w_2
  replace h_2 : qW D _ _ (wk_6bef7693d cy h2 f1 h3 f2 h4 f3 h0 0 h1 w0 w1 w2 p2 p3 p4 p5 p6 p7 p8 p9 p10 p11 p12 h2 h3 w3 h4 w4 p13 p14 w5 w6 w7 p15 p16 w8 w9 w10 w11 w12 p17 w13 w14 w15 h1 f0) _ _ := h_2
  refine lv_if_ne (tgt := 16) hx hb dX12_pieces_10 (by decide) (fun c_3 => ?_) (fun c_3 => ?_)
  · replace c_3 := i_ne (x := r_2) (y := 0) rfl (show (0 : Int32).toInt = 0 by decide) c_3
    refine lv_aload_n hx hb dX12_pieces_16 rfl (lv_at hl 0 rfl) ?_
    refine lv_aload_n hx hb dX12_pieces_17 rfl (lv_at hl 0 rfl) ?_
    refine q_get X hK h_2 3 rfl rfl wf_12 1 (by decide) rfl wm_5_171 dX12_pieces_18 ?_
    refine lv_bipush (v := 52) hx hb dX12_pieces_21 (by decide) ?_
    refine q_iald X hK h_2 4 rfl (q_in (by decide +kernel)) dX12_pieces_23 ?_
    refine q_any (fun z_4 hz_4 => ?_)
    refine q_callVv (rest := []) (wr := []) X hK hT hA h_2 (fun sz => gX12_laysOpposed_6a814f8 l D cy h0 h1 h2 h3 h4 z_4 (0 : Int32) w0 w1 w2 p2 p3 p4 p5 p6 p7 p8 p9 p10 p11 p12 w3 w4 p13 p14 w5 w6 w7 p15 p16 w8 w9 w10 w11 w12 p17 w13 w14 w15 f0 p18 f1 f2 f3 (i_rng _) ⟨by decide +kernel, by decide +kernel⟩ hp2 hp3 hp4 hp5 (i_rng _) hp7 (i_rng _) (i_rng _) (i_rng _) (i_rng _) (i_rng _) (i_rng _) (i_rng _) (i_rng _) (i_rng _) (i_rng _) hp18 htf0_84 rf0 (rg_wide rf3 (by decide) (by decide)) sz) wm_7_59 wm_7_62 wm_1_12 hd_X12_laysOpposed wm_7_61 wp_6_12 (ci := 12) (q0 := 0) rfl rfl ⟨Nat.le_of_ble_eq_true rfl, Nat.le_of_ble_eq_true rfl⟩ hl.1 rfl (Nat.le_of_ble_eq_true rfl) dX12_pieces_24 ⟨Nat.le_of_ble_eq_true rfl, Nat.le_of_ble_eq_true rfl⟩ [3, 4, 0, 1, 2] [] rfl rfl (by decide) rfl rfl (fun u_5 H locs w_5 h_5 => ?_)
    clear h_2
    obtain ⟨w5_0, _⟩ := w_5
    replace h_5 : qW D _ _ (wk_8b19a8a79 cy h0 0 h1 w0 w1 w2 p2 p3 p4 p5 p6 p7 p8 p9 p10 p11 p12 h2 h3 w3 h4 w4 p13 p14 w5 w6 w7 p15 p16 w8 w9 w10 w11 w12 p17 w13 w14 w15 h1 f0 h2 (u_5.2.1 0) h3 (u_5.2.1 1) h4 (u_5.2.1 2)) _ _ := h_5
    refine lv_aload_n hx hb dX12_pieces_27 rfl (lv_at hl 0 rfl) ?_
    refine lv_iload_n hx hb dX12_pieces_28 rfl (lv_at hl 1 rfl) ?_
    refine lv_iconst (v := 0) hx hb dX12_pieces_29 (by decide) ?_
    refine q_callVi (rest := []) (wr := (wk_3fb6de35f cy h2 (u_5.2.1 0) h3 (u_5.2.1 1))) X hK hT hA h_5 (fun sz => gX12_piecesOf_88acc35 l D cy h0 h1 h4 p0 (0 : Int32) (0 : Int32) w0 w1 w2 p2 p3 p4 p5 p6 p7 p8 p9 p10 p11 p12 (.ref h2) (.ref h3) w3 w4 p13 p14 w5 w6 w7 p15 p16 w8 w9 w10 w11 w12 p17 w13 w14 w15 f0 p18 (u_5.2.1 2) ⟨by omega, by omega⟩ ⟨by decide +kernel, by decide +kernel⟩ ⟨by decide +kernel, by decide +kernel⟩ hp2 hp3 hp4 hp5 (i_rng _) hp7 (i_rng _) (i_rng _) (i_rng _) (i_rng _) (i_rng _) (i_rng _) (i_rng _) (i_rng _) (i_rng _) (i_rng _) hp18 htf0_84 rf0 (rg_wide w5_0 (by decide) (by decide)) sz) wm_7_124 wm_7_127 wm_1_12 hd_X12_piecesOf wm_7_126 wp_7_5 (ci := 12) (q0 := 0) rfl rfl ⟨Nat.le_of_ble_eq_true rfl, Nat.le_of_ble_eq_true rfl⟩ hl.1 rfl (Nat.le_of_ble_eq_true rfl) dX12_pieces_30 ⟨Nat.le_of_ble_eq_true rfl, Nat.le_of_ble_eq_true rfl⟩ [0, 1, 4] [2, 3] rfl rfl (by decide) rfl rfl (fun r_6 u_6 H locs w_6 h_6 => ?_)
    clear h_5
    obtain ⟨wr_6, _⟩ := w_6
    replace h_6 : qW D _ _ (wk_a841d4271 cy h2 (u_5.2.1 0) h3 (u_5.2.1 1) h0 0 h1 w0 w1 w2 p2 p3 p4 p5 p6 p7 p8 p9 p10 p11 p12 h2 h3 w3 h4 w4 p13 p14 w5 w6 w7 p15 p16 w8 w9 w10 w11 w12 p17 w13 w14 w15 h1 f0 h4 (u_5.2.1 2)) _ _ := h_6
    exact q_iret X hr hlk hK h_6 rfl (fun _ => 0, (vcons (u_5.2.1 0) (vcons (u_5.2.1 1) (vcons (fun _ => 0) (vcons (u_5.2.1 2) (fun _ => (fun _ => 0)))))), fun _ _ => 0) ⟨wr_6, (⟨by decide +kernel, by decide +kernel⟩ : 0 ≤ (0 : Int32).toInt ∧ (0 : Int32).toInt ≤ 0), (rg_wide w5_0 (by decide) (by decide)), trivial⟩ [2, 3, 0, 1, 4] rfl rfl dX12_pieces_33 (Nat.le_of_ble_eq_true rfl) (Nat.le_of_ble_eq_true rfl)
  · replace c_3 := i_eq (x := r_2) (y := 0) rfl (show (0 : Int32).toInt = 0 by decide) c_3
    refine lv_bipush (v := (-3)) hx hb dX12_pieces_13 (by decide) ?_
    exact q_iret X hr hlk hK h_2 rfl (fun _ => 0, (vcons f1 (vcons f2 (vcons (fun _ => 0) (vcons f3 (fun _ => (fun _ => 0)))))), fun _ _ => 0) ⟨⟨by decide +kernel, by decide +kernel⟩, (⟨by decide +kernel, by decide +kernel⟩ : 0 ≤ (0 : Int32).toInt ∧ (0 : Int32).toInt ≤ 0), (rg_wide rf3 (by decide) (by decide)), trivial⟩ [3, 4, 0, 1, 2] rfl rfl dX12_pieces_15 (Nat.le_of_ble_eq_true rfl) (Nat.le_of_ble_eq_true rfl)
set_option maxHeartbeats 4000000 in
set_option maxRecDepth 100000 in
theorem gX12_bestDay_00ade85 (l : Launch) (D : va_G) (cy : Nat → ClassId) (h0 : Nat) (h1 : Nat) (h2 : Nat) (h3 : Nat) (h4 : Nat) (h5 : Nat) (h6 : Nat) (p0 : Int32) (w0 : Value) (w1 : Value) (w2 : Value) (p1 : Int32) (p2 : Int32) (p3 : Int32) (p4 : Int32) (p5 : Int32) (p6 : Int32) (p7 : Int32) (p8 : Int32) (p9 : Int32) (p10 : Int32) (p11 : Int32) (w3 : Value) (w4 : Value) (p12 : Int32) (p13 : Int32) (w5 : Value) (p14 : Int32) (p15 : Int32) (w6 : Value) (w7 : Value) (w8 : Value) (w9 : Value) (w10 : Value) (p16 : Int32) (w11 : Value) (w12 : Value) (w13 : Value) (f0 : Nat → Int32) (p17 : Int32) (f1 : Nat → Int32) (f2 : Nat → Int32) (f3 : Nat → Int32) (f4 : Nat → Int32) (f5 : Nat → Int32) (hp0 : (-2147483648) ≤ (p0).toInt ∧ (p0).toInt ≤ 2147483647) (hp1 : 0 ≤ (p1).toInt ∧ (p1).toInt ≤ 900) (hp2 : 0 ≤ (p2).toInt ∧ (p2).toInt ≤ 900) (hp3 : 0 ≤ (p3).toInt ∧ (p3).toInt ≤ 900) (hp4 : 0 ≤ (p4).toInt ∧ (p4).toInt ≤ 900) (hp5 : (-2147483648) ≤ (p5).toInt ∧ (p5).toInt ≤ 2147483647) (hp6 : 0 ≤ (p6).toInt ∧ (p6).toInt ≤ 999) (hp7 : (-2147483648) ≤ (p7).toInt ∧ (p7).toInt ≤ 2147483647) (hp8 : (-2147483648) ≤ (p8).toInt ∧ (p8).toInt ≤ 2147483647) (hp9 : (-2147483648) ≤ (p9).toInt ∧ (p9).toInt ≤ 2147483647) (hp10 : (-2147483648) ≤ (p10).toInt ∧ (p10).toInt ≤ 2147483647) (hp11 : (-2147483648) ≤ (p11).toInt ∧ (p11).toInt ≤ 2147483647) (hp12 : (-2147483648) ≤ (p12).toInt ∧ (p12).toInt ≤ 2147483647) (hp13 : (-2147483648) ≤ (p13).toInt ∧ (p13).toInt ≤ 2147483647) (hp14 : (-2147483648) ≤ (p14).toInt ∧ (p14).toInt ≤ 2147483647) (hp15 : (-2147483648) ≤ (p15).toInt ∧ (p15).toInt ≤ 2147483647) (hp16 : (-2147483648) ≤ (p16).toInt ∧ (p16).toInt ≤ 2147483647) (hp17 : 0 ≤ (p17).toInt ∧ (p17).toInt ≤ 10) (htf0_84 : f0 84 = p17) (rf0 : AL f0) (rf3 : RG f3 10 0 1023) (sz : Nat) : MI l yX12_bestDay cX12_bestDay 4 .int { frames := 13, cells := 0, slots := 0, locals := 325 } [.ref h0] D cy (wk_69ec1558b cy h0 p0 h1 w0 w1 w2 p1 p2 p3 p4 p5 p6 p7 p8 p9 p10 p11 h2 h3 w3 h4 w4 p12 p13 w5 h5 h6 p14 p15 w6 w7 w8 w9 w10 p16 w11 w12 w13 h1 f0 h2 f1 h3 f2 h4 f3 h5 f4 h6 f5) sz (fun r u => (0 ≤ r.toInt ∧ r.toInt ≤ 99) ∧ (0 ≤ (u.2.1 0 0).toInt ∧ (u.2.1 0 0).toInt ≤ 0) ∧ ((-2147483648) ≤ (u.2.1 1 0).toInt ∧ (u.2.1 1 0).toInt ≤ 2147483647) ∧ ((-2147483648) ≤ (u.2.1 2 0).toInt ∧ (u.2.1 2 0).toInt ≤ 2147483647) ∧ RG (u.2.1 5) 10 0 1023 ∧ True) (fun u => (wk_69ec1558b cy h0 (u.2.1 0 0) h1 w0 w1 w2 p1 p2 p3 p4 p5 p6 p7 p8 p9 p10 p11 h2 h3 w3 h4 w4 p12 p13 w5 h5 h6 (u.2.1 1 0) (u.2.1 2 0) w6 w7 w8 w9 w10 p16 w11 w12 w13 h1 f0 h2 (u.2.1 3) h3 (u.2.1 4) h4 (u.2.1 5) h5 (u.2.1 6) h6 (u.2.1 7))) 0 0 := by
  refine q_ent (own := RX12) (by decide) rfl (Nat.le_of_ble_eq_true rfl) (fun p e s m below meth c ls X hr hlk hnm hK hT h hA hl => ?_)
  obtain ⟨hx, hb, hml, hown, ht⟩ := id X
  replace hl : lv_has ls 4 [(0, .ref h0)] := hl
  refine lv_aload_n hx hb dX12_bestDay_0 rfl (lv_at hl 0 rfl) ?_
  refine lv_iconst (v := 0) hx hb dX12_bestDay_1 (by decide) ?_
  refine q_put (v := .int 0) X hK h 0 rfl rfl wf_12 tyX12 tyX12_ok nmX12 0 (by decide) wm_5_170 rfl rfl rfl (Nat.le_of_ble_eq_true rfl) dX12_bestDay_2 (fun H locs h_1 => ?_)
  clear h
  replace h_1 : qW D _ _ (wk_69ec1558b cy h0 0 h1 w0 w1 w2 p1 p2 p3 p4 p5 p6 p7 p8 p9 p10 p11 h2 h3 w3 h4 w4 p12 p13 w5 h5 h6 p14 p15 w6 w7 w8 w9 w10 p16 w11 w12 w13 h1 f0 h2 f1 h3 f2 h4 f3 h5 f4 h6 f5) _ _ := h_1
  refine lv_iconst (v := 0) hx hb dX12_bestDay_5 (by decide) ?_
  refine lv_istore_n (lv' := [(1, .int 0), (0, .ref h0)]) hx hb dX12_bestDay_6 rfl hl (by decide) rfl (fun ls_2 hl_2 => ?_)
  clear hl
  refine lv_iconst (v := (-1)) hx hb dX12_bestDay_7 (by decide) ?_
  refine lv_istore_n (lv' := [(2, .int (-1)), (1, .int 0), (0, .ref h0)]) hx hb dX12_bestDay_8 rfl hl_2 (by decide) rfl (fun ls_3 hl_3 => ?_)
  clear hl_2
  refine lv_iconst (v := 0) hx hb dX12_bestDay_9 (by decide) ?_
  refine lv_istore_n (lv' := [(3, .int 0), (2, .int (-1)), (1, .int 0), (0, .ref h0)]) hx hb dX12_bestDay_10 rfl hl_3 (by decide) rfl (fun ls_4 hl_4 => ?_)
  clear hl_3
  refine q_wl (fun (q : Int32 × Int32 × Int32 × Int32 × Int32) H locs ls => match q with | (v11_5_0, v11_5_1, v11_5_4, v11_5_5, v11_5_9) => ∃ v11_5_2 : Nat → Int32, ∃ v11_5_3 : Nat → Int32, ∃ v11_5_6 : Nat → Int32, ∃ v11_5_7 : Nat → Int32, ∃ v11_5_8 : Nat → Int32, (0 ≤ (v11_5_0).toInt ∧ (v11_5_0).toInt ≤ 100) ∧ ((-1) ≤ (v11_5_1).toInt ∧ (v11_5_1).toInt ≤ 10) ∧ ((-2147483648) ≤ (v11_5_4).toInt ∧ (v11_5_4).toInt ≤ 2147483647) ∧ ((-2147483648) ≤ (v11_5_5).toInt ∧ (v11_5_5).toInt ≤ 2147483647) ∧ (0 ≤ (v11_5_9).toInt ∧ (v11_5_9).toInt ≤ 99) ∧ RG v11_5_6 10 0 1023 ∧ qW D (va_A (wk_69ec1558b cy h0 p0 h1 w0 w1 w2 p1 p2 p3 p4 p5 p6 p7 p8 p9 p10 p11 h2 h3 w3 h4 w4 p12 p13 w5 h5 h6 p14 p15 w6 w7 w8 w9 w10 p16 w11 w12 w13 h1 f0 h2 f1 h3 f2 h4 f3 h5 f4 h6 f5) sz) s.heap (wk_69ec1558b cy h0 0 h1 w0 w1 w2 p1 p2 p3 p4 p5 p6 p7 p8 p9 p10 p11 h2 h3 w3 h4 w4 p12 p13 w5 h5 h6 v11_5_4 v11_5_5 w6 w7 w8 w9 w10 p16 w11 w12 w13 h1 f0 h2 v11_5_2 h3 v11_5_3 h4 v11_5_6 h5 v11_5_7 h6 v11_5_8) H locs ∧ lv_has ls 4 [(0, .ref h0), (1, .int v11_5_9), (2, .int v11_5_1), (3, .int v11_5_0)]) (fun (q : Int32 × Int32 × Int32 × Int32 × Int32) => match q with | (v11_5_0, v11_5_1, v11_5_4, v11_5_5, v11_5_9) => (101 - (v11_5_0).toInt).toNat) (fun q_11 ih_11 H locs ls hP => ?_) (0, (-1), p14, p15, 0) ⟨f1, f2, f3, f4, f5, ⟨by decide +kernel, by decide +kernel⟩, ⟨by decide +kernel, by decide +kernel⟩, hp14, hp15, ⟨by decide +kernel, by decide +kernel⟩, (rg_wide rf3 (by decide) (by decide)), h_1, (lv_sub hl_4 [3, 2, 1, 0] rfl)⟩
  obtain ⟨v11_5_0, v11_5_1, v11_5_4, v11_5_5, v11_5_9⟩ := q_11
  obtain ⟨v11_5_2, v11_5_3, v11_5_6, v11_5_7, v11_5_8, hv11_5_0, hv11_5_1, hv11_5_4, hv11_5_5, hv11_5_9, rv11_5_6, h, hl⟩ := hP
  refine lv_iload_n hx hb dX12_bestDay_11 rfl (lv_at hl 3 rfl) ?_
  refine lv_bipush (v := 99) hx hb dX12_bestDay_12 (by decide) ?_
  refine lv_icmp_gt (tgt := 71) hx hb dX12_bestDay_14 (by decide) (fun c_6 => ?_) (fun c_6 => ?_)
  · replace c_6 := i_lt (x := 99) (y := v11_5_0) (show (99 : Int32).toInt = 99 by decide) rfl c_6
    refine lv_iload_n hx hb dX12_bestDay_71 rfl (lv_at hl 1 rfl) ?_
    exact q_iret X hr hlk hK h rfl (fun _ => 0, (vcons (fun _ => 0) (vcons (fun _ => v11_5_4) (vcons (fun _ => v11_5_5) (vcons v11_5_2 (vcons v11_5_3 (vcons v11_5_6 (vcons v11_5_7 (vcons v11_5_8 (fun _ => (fun _ => 0)))))))))), fun _ _ => 0) ⟨hv11_5_9, (⟨by decide +kernel, by decide +kernel⟩ : 0 ≤ (0 : Int32).toInt ∧ (0 : Int32).toInt ≤ 0), hv11_5_4, hv11_5_5, (rg_wide rv11_5_6 (by decide) (by decide)), trivial⟩ [0, 1, 2, 3, 4, 5, 6] rfl rfl dX12_bestDay_72 (Nat.le_of_ble_eq_true rfl) (Nat.le_of_ble_eq_true rfl)
  · replace c_6 := i_nlt (x := 99) (y := v11_5_0) (show (99 : Int32).toInt = 99 by decide) rfl c_6
    refine lv_aload_n hx hb dX12_bestDay_17 rfl (lv_at hl 0 rfl) ?_
    refine lv_aload_n hx hb dX12_bestDay_18 rfl (lv_at hl 0 rfl) ?_
    refine q_get X hK h 0 rfl rfl wf_12 1 (by decide) rfl wm_5_171 dX12_bestDay_19 ?_
    refine lv_bipush (v := 52) hx hb dX12_bestDay_22 (by decide) ?_
    refine q_iald X hK h 1 rfl (q_in (by decide +kernel)) dX12_bestDay_24 ?_
    refine q_any (fun z_7 hz_7 => ?_)
    refine lv_iload_n hx hb dX12_bestDay_25 rfl (lv_at hl 3 rfl) ?_
    refine lv_iadd hx hb dX12_bestDay_26 ?_
    refine q_any (fun z_8 hz_8 => ?_)
    refine q_callVv (rest := []) (wr := (wk_acf3c80ad cy h5 v11_5_7 h6 v11_5_8)) X hK hT hA h (fun sz => gX12_laysOpposed_6a814f8 l D cy h0 h1 h2 h3 h4 z_8 (0 : Int32) w0 w1 w2 p1 p2 p3 p4 p5 p6 p7 p8 p9 p10 p11 w3 w4 p12 p13 w5 (.ref h5) (.ref h6) v11_5_4 v11_5_5 w6 w7 w8 w9 w10 p16 w11 w12 w13 f0 p17 v11_5_2 v11_5_3 v11_5_6 (i_rng _) ⟨by decide +kernel, by decide +kernel⟩ hp1 hp2 hp3 hp4 (i_rng _) hp6 (i_rng _) (i_rng _) (i_rng _) (i_rng _) (i_rng _) (i_rng _) (i_rng _) (i_rng _) (i_rng _) (i_rng _) hp17 htf0_84 rf0 (rg_wide rv11_5_6 (by decide) (by decide)) sz) wm_7_59 wm_7_62 wm_1_12 hd_X12_laysOpposed wm_7_61 wp_6_12 (ci := 12) (q0 := 0) rfl rfl ⟨Nat.le_of_ble_eq_true rfl, Nat.le_of_ble_eq_true rfl⟩ hl.1 rfl (Nat.le_of_ble_eq_true rfl) dX12_bestDay_27 ⟨Nat.le_of_ble_eq_true rfl, Nat.le_of_ble_eq_true rfl⟩ [0, 1, 2, 3, 4] [5, 6] rfl rfl (by decide) rfl rfl (fun u_9 H locs w_9 h_9 => ?_)
    clear h
    obtain ⟨w9_0, _⟩ := w_9
    replace h_9 : qW D _ _ (wk_46efe495a cy h5 v11_5_7 h6 v11_5_8 h0 0 h1 w0 w1 w2 p1 p2 p3 p4 p5 p6 p7 p8 p9 p10 p11 h2 h3 w3 h4 w4 p12 p13 w5 h5 h6 v11_5_4 v11_5_5 w6 w7 w8 w9 w10 p16 w11 w12 w13 h1 f0 h2 (u_9.2.1 0) h3 (u_9.2.1 1) h4 (u_9.2.1 2)) _ _ := h_9
    refine lv_aload_n hx hb dX12_bestDay_30 rfl (lv_at hl 0 rfl) ?_
    refine lv_aload_n hx hb dX12_bestDay_31 rfl (lv_at hl 0 rfl) ?_
    refine lv_aload_n hx hb dX12_bestDay_32 rfl (lv_at hl 0 rfl) ?_
    refine q_get X hK h_9 2 rfl rfl wf_12 1 (by decide) rfl wm_5_171 dX12_bestDay_33 ?_
    refine lv_bipush (v := 52) hx hb dX12_bestDay_36 (by decide) ?_
    refine q_iald X hK h_9 3 rfl (q_in (by decide +kernel)) dX12_bestDay_38 ?_
    refine q_any (fun z_10 hz_10 => ?_)
    refine lv_iload_n hx hb dX12_bestDay_39 rfl (lv_at hl 3 rfl) ?_
    refine lv_iadd hx hb dX12_bestDay_40 ?_
    refine q_any (fun z_11 hz_11 => ?_)
    refine q_callVi (rest := [.ref h0]) (wr := [(h5, .inl (cy 1, 10, .inl v11_5_7)), (h6, .inl (cy 1, 10, .inl v11_5_8)), (h2, .inl (cy 1, 900, .inl (u_9.2.1 0))), (h3, .inl (cy 1, 11, .inl (u_9.2.1 1))), (h4, .inl (cy 1, 10, .inl (u_9.2.1 2)))]) X hK hT hA h_9 (fun sz => gX12_townOn_aa3becc l D cy h0 h1 z_11 (0 : Int32) w0 w1 w2 p1 p2 p3 p4 p5 p6 p7 p8 p9 p10 p11 (.ref h2) (.ref h3) w3 (.ref h4) w4 p12 p13 w5 (.ref h5) (.ref h6) v11_5_4 v11_5_5 w6 w7 w8 w9 w10 p16 w11 w12 w13 f0 p17 (i_rng _) ⟨by decide +kernel, by decide +kernel⟩ hp1 hp2 hp3 hp4 (i_rng _) hp6 (i_rng _) (i_rng _) (i_rng _) (i_rng _) (i_rng _) (i_rng _) (i_rng _) (i_rng _) (i_rng _) (i_rng _) hp17 htf0_84 rf0 sz) wm_6_174 wm_6_177 wm_1_12 hd_X12_townOn wm_6_176 wp_5_10 (ci := 12) (q0 := 0) rfl rfl ⟨Nat.le_of_ble_eq_true rfl, Nat.le_of_ble_eq_true rfl⟩ hl.1 rfl (Nat.le_of_ble_eq_true rfl) dX12_bestDay_41 ⟨Nat.le_of_ble_eq_true rfl, Nat.le_of_ble_eq_true rfl⟩ [2, 3] [0, 1, 4, 5, 6] rfl rfl (by decide) rfl rfl (fun r_12 u_12 H locs w_12 h_12 => ?_)
    clear h_9
    obtain ⟨wr_12, _⟩ := w_12
    replace h_12 : qW D _ _ [(h5, .inl (cy 1, 10, .inl v11_5_7)), (h6, .inl (cy 1, 10, .inl v11_5_8)), (h2, .inl (cy 1, 900, .inl (u_9.2.1 0))), (h3, .inl (cy 1, 11, .inl (u_9.2.1 1))), (h4, .inl (cy 1, 10, .inl (u_9.2.1 2))), (h0, .inr (12, [.int 0, .ref h1, w0, w1, w2, .int p1, .int p2, .int p3, .int p4, .int p5, .int p6, .int p7, .int p8, .int p9, .int p10, .int p11, .ref h2, .ref h3, w3, .ref h4, w4, .int p12, .int p13, w5, .ref h5, .ref h6, .int v11_5_4, .int v11_5_5, w6, w7, w8, w9, w10, .int p16, w11, w12, w13])), (h1, .inl (cy 1, 3918, .inl f0))] _ _ := h_12
    refine q_callVv (rest := []) (wr := (wk_3fb6de35f cy h2 (u_9.2.1 0) h3 (u_9.2.1 1))) X hK hT hA h_12 (fun sz => gX12_laysPairs_e0c774e l D cy h0 h1 h4 h5 h6 r_12 (0 : Int32) w0 w1 w2 p1 p2 p3 p4 p5 p6 p7 p8 p9 p10 p11 (.ref h2) (.ref h3) w3 w4 p12 p13 w5 v11_5_4 v11_5_5 w6 w7 w8 w9 w10 p16 w11 w12 w13 f0 p17 (u_9.2.1 2) v11_5_7 v11_5_8 wr_12 ⟨by decide +kernel, by decide +kernel⟩ hp1 hp2 hp3 hp4 (i_rng _) hp6 (i_rng _) (i_rng _) (i_rng _) (i_rng _) (i_rng _) (i_rng _) (i_rng _) (i_rng _) (i_rng _) (i_rng _) hp17 htf0_84 rf0 (rg_wide w9_0 (by decide) (by decide)) sz) wm_7_112 wm_7_115 wm_1_12 hd_X12_laysPairs wm_7_114 wp_7_3 (ci := 12) (q0 := 0) rfl rfl ⟨Nat.le_of_ble_eq_true rfl, Nat.le_of_ble_eq_true rfl⟩ hl.1 rfl (Nat.le_of_ble_eq_true rfl) dX12_bestDay_44 ⟨Nat.le_of_ble_eq_true rfl, Nat.le_of_ble_eq_true rfl⟩ [5, 6, 4, 0, 1] [2, 3] rfl rfl (by decide) rfl rfl (fun u_13 H locs w_13 h_13 => ?_)
    clear h_12
    obtain ⟨w13_0, w13_1, _⟩ := w_13
    replace h_13 : qW D _ _ (wk_d169974a4 cy h2 (u_9.2.1 0) h3 (u_9.2.1 1) h0 0 h1 w0 w1 w2 p1 p2 p3 p4 p5 p6 p7 p8 p9 p10 p11 h2 h3 w3 h4 w4 p12 p13 w5 h5 h6 (u_13.2.1 0 0) (u_13.2.1 1 0) w6 w7 w8 w9 w10 p16 w11 w12 w13 h1 f0 h4 (u_9.2.1 2) h5 (u_13.2.1 2) h6 (u_13.2.1 3)) _ _ := h_13
    refine lv_aload_n hx hb dX12_bestDay_47 rfl (lv_at hl 0 rfl) ?_
    refine q_get X hK h_13 2 rfl rfl wf_12 26 (by decide) rfl wm_5_196 dX12_bestDay_48 ?_
    refine lv_iload_n hx hb dX12_bestDay_51 rfl (lv_at hl 2 rfl) ?_
    refine q_jn (pc2 := 65) (fun H locs ls st => ∃ v65_14_0 : Int32, ∃ v65_14_1 : Int32, ((-1) ≤ (v65_14_0).toInt ∧ (v65_14_0).toInt ≤ 10) ∧ (0 ≤ (v65_14_1).toInt ∧ (v65_14_1).toInt ≤ 99) ∧ st = [] ∧ qW D (va_A (wk_69ec1558b cy h0 p0 h1 w0 w1 w2 p1 p2 p3 p4 p5 p6 p7 p8 p9 p10 p11 h2 h3 w3 h4 w4 p12 p13 w5 h5 h6 p14 p15 w6 w7 w8 w9 w10 p16 w11 w12 w13 h1 f0 h2 f1 h3 f2 h4 f3 h5 f4 h6 f5) sz) s.heap (wk_d169974a4 cy h2 (u_9.2.1 0) h3 (u_9.2.1 1) h0 0 h1 w0 w1 w2 p1 p2 p3 p4 p5 p6 p7 p8 p9 p10 p11 h2 h3 w3 h4 w4 p12 p13 w5 h5 h6 (u_13.2.1 0 0) (u_13.2.1 1 0) w6 w7 w8 w9 w10 p16 w11 w12 w13 h1 f0 h4 (u_9.2.1 2) h5 (u_13.2.1 2) h6 (u_13.2.1 3)) H locs ∧ lv_has ls 4 [(0, .ref h0), (1, .int v65_14_1), (2, .int v65_14_0), (3, .int v11_5_0)]) (fun H locs ls st hP => ?_) (fun J_65 => ?_)
    · obtain ⟨v65_14_0, v65_14_1, hv65_14_0, hv65_14_1, rfl, h, hl⟩ := hP
      obtain ⟨z_15, ez_15, hz_15⟩ := e_add (x := v11_5_0) (y := Int32.ofInt 1) rfl (b := 1) (by decide) (by omega) (by omega)
      refine lv_iinc (v := z_15) (lv' := [(3, .int z_15), (0, .ref h0), (1, .int v65_14_1), (2, .int v65_14_0)]) hx hb dX12_bestDay_65 hl (k := 3) rfl ez_15 (by decide) rfl (fun ls_15 hl_15 => ?_)
      clear hl
      refine lv_goto (tgt := 11) hx hb dX12_bestDay_68 (by decide) ?_
      exact ih_11 (z_15, v65_14_0, (u_13.2.1 0 0), (u_13.2.1 1 0), v65_14_1) (by show (101 - (z_15).toInt).toNat < (101 - (v11_5_0).toInt).toNat; omega) _ _ _ ⟨(u_9.2.1 0), (u_9.2.1 1), (u_9.2.1 2), (u_13.2.1 2), (u_13.2.1 3), ⟨by omega, by omega⟩, hv65_14_0, (bw w13_0 (by decide) (by decide)), w13_1, hv65_14_1, (rg_wide w9_0 (by decide) (by decide)), (q_re h [2, 3, 0, 1, 4, 5, 6] rfl rfl), (lv_sub hl_15 [1, 2, 3, 0] rfl)⟩
    · skip
      refine lv_icmp_gt (tgt := 58) hx hb dX12_bestDay_52 (by decide) (fun c_16 => ?_) (fun c_16 => ?_)
      · replace c_16 := i_lt (x := v11_5_1) (y := (u_13.2.1 0 0)) rfl rfl c_16
        refine lv_iload_n hx hb dX12_bestDay_58 rfl (lv_at hl 3 rfl) ?_
        refine lv_istore_n (lv' := [(1, .int v11_5_0), (0, .ref h0), (2, .int v11_5_1), (3, .int v11_5_0)]) hx hb dX12_bestDay_59 rfl hl (by decide) rfl (fun ls_17 hl_17 => ?_)
        clear hl
        refine lv_aload_n hx hb dX12_bestDay_60 rfl (lv_at hl_17 1 rfl) ?_
        refine q_get X hK h_13 2 rfl rfl wf_12 26 (by decide) rfl wm_5_196 dX12_bestDay_61 ?_
        refine lv_istore_n (lv' := [(2, .int (u_13.2.1 0 0)), (1, .int v11_5_0), (0, .ref h0), (3, .int v11_5_0)]) hx hb dX12_bestDay_64 rfl hl_17 (by decide) rfl (fun ls_18 hl_18 => ?_)
        clear hl_17
        exact J_65 _ _ _ _ ⟨(u_13.2.1 0 0), v11_5_0, w13_0, ⟨by omega, by omega⟩, rfl, h_13, (lv_sub hl_18 [2, 1, 0, 3] rfl)⟩
      · replace c_16 := i_nlt (x := v11_5_1) (y := (u_13.2.1 0 0)) rfl rfl c_16
        refine lv_goto (tgt := 65) hx hb dX12_bestDay_55 (by decide) ?_
        exact J_65 _ _ _ _ ⟨v11_5_1, v11_5_9, hv11_5_1, hv11_5_9, rfl, h_13, (lv_sub hl [0, 1, 2, 3] rfl)⟩
set_option maxHeartbeats 4000000 in
set_option maxRecDepth 100000 in
theorem gX12_firstDay_81e8bf1 (l : Launch) (D : va_G) (cy : Nat → ClassId) (h0 : Nat) (h1 : Nat) (h2 : Nat) (h3 : Nat) (h4 : Nat) (h5 : Nat) (p0 : Int32) (w0 : Value) (w1 : Value) (w2 : Value) (p1 : Int32) (p2 : Int32) (p3 : Int32) (p4 : Int32) (p5 : Int32) (p6 : Int32) (p7 : Int32) (p8 : Int32) (p9 : Int32) (p10 : Int32) (p11 : Int32) (w3 : Value) (w4 : Value) (p12 : Int32) (p13 : Int32) (w5 : Value) (w6 : Value) (p14 : Int32) (p15 : Int32) (w7 : Value) (w8 : Value) (w9 : Value) (w10 : Value) (w11 : Value) (p16 : Int32) (w12 : Value) (w13 : Value) (w14 : Value) (f0 : Nat → Int32) (p17 : Int32) (f1 : Nat → Int32) (f2 : Nat → Int32) (f3 : Nat → Int32) (f4 : Nat → Int32) (hp0 : (-2147483648) ≤ (p0).toInt ∧ (p0).toInt ≤ 2147483647) (hp1 : 0 ≤ (p1).toInt ∧ (p1).toInt ≤ 900) (hp2 : 0 ≤ (p2).toInt ∧ (p2).toInt ≤ 900) (hp3 : 0 ≤ (p3).toInt ∧ (p3).toInt ≤ 900) (hp4 : 0 ≤ (p4).toInt ∧ (p4).toInt ≤ 900) (hp5 : (-2147483648) ≤ (p5).toInt ∧ (p5).toInt ≤ 2147483647) (hp6 : 0 ≤ (p6).toInt ∧ (p6).toInt ≤ 999) (hp7 : (-2147483648) ≤ (p7).toInt ∧ (p7).toInt ≤ 2147483647) (hp8 : (-2147483648) ≤ (p8).toInt ∧ (p8).toInt ≤ 2147483647) (hp9 : (-2147483648) ≤ (p9).toInt ∧ (p9).toInt ≤ 2147483647) (hp10 : (-2147483648) ≤ (p10).toInt ∧ (p10).toInt ≤ 2147483647) (hp11 : (-2147483648) ≤ (p11).toInt ∧ (p11).toInt ≤ 2147483647) (hp12 : (-2147483648) ≤ (p12).toInt ∧ (p12).toInt ≤ 2147483647) (hp13 : (-2147483648) ≤ (p13).toInt ∧ (p13).toInt ≤ 2147483647) (hp14 : (-2147483648) ≤ (p14).toInt ∧ (p14).toInt ≤ 2147483647) (hp15 : (-2147483648) ≤ (p15).toInt ∧ (p15).toInt ≤ 2147483647) (hp16 : (-2147483648) ≤ (p16).toInt ∧ (p16).toInt ≤ 2147483647) (hp17 : 0 ≤ (p17).toInt ∧ (p17).toInt ≤ 10) (htf0_84 : f0 84 = p17) (rf0 : AL f0) (rf3 : RG f3 10 0 1023) (sz : Nat) : MI l yX12_firstDay cX12_firstDay 3 .int { frames := 4, cells := 0, slots := 0, locals := 94 } [.ref h0] D cy (wk_eecab3214 cy h0 p0 h1 w0 w1 w2 p1 p2 p3 p4 p5 p6 p7 p8 p9 p10 p11 h2 h3 w3 h4 w4 p12 p13 h5 w5 w6 p14 p15 w7 w8 w9 w10 w11 p16 w12 w13 w14 h1 f0 h2 f1 h3 f2 h4 f3 h5 f4) sz (fun r u => ((-1) ≤ r.toInt ∧ r.toInt ≤ 99) ∧ (0 ≤ (u.2.1 0 0).toInt ∧ (u.2.1 0 0).toInt ≤ 0) ∧ RG (u.2.1 3) 10 0 1023 ∧ True) (fun u => (wk_eecab3214 cy h0 (u.2.1 0 0) h1 w0 w1 w2 p1 p2 p3 p4 p5 p6 p7 p8 p9 p10 p11 h2 h3 w3 h4 w4 p12 p13 h5 w5 w6 p14 p15 w7 w8 w9 w10 w11 p16 w12 w13 w14 h1 f0 h2 (u.2.1 1) h3 (u.2.1 2) h4 (u.2.1 3) h5 (u.2.1 4))) 0 0 := by
  refine q_ent (own := RX12) (by decide) rfl (Nat.le_of_ble_eq_true rfl) (fun p e s m below meth c ls X hr hlk hnm hK hT h hA hl => ?_)
  obtain ⟨hx, hb, hml, hown, ht⟩ := id X
  replace hl : lv_has ls 3 [(0, .ref h0)] := hl
  refine lv_aload_n hx hb dX12_firstDay_0 rfl (lv_at hl 0 rfl) ?_
  refine lv_iconst (v := 0) hx hb dX12_firstDay_1 (by decide) ?_
  refine q_put (v := .int 0) X hK h 0 rfl rfl wf_12 tyX12 tyX12_ok nmX12 0 (by decide) wm_5_170 rfl rfl rfl (Nat.le_of_ble_eq_true rfl) dX12_firstDay_2 (fun H locs h_1 => ?_)
  clear h
  replace h_1 : qW D _ _ (wk_eecab3214 cy h0 0 h1 w0 w1 w2 p1 p2 p3 p4 p5 p6 p7 p8 p9 p10 p11 h2 h3 w3 h4 w4 p12 p13 h5 w5 w6 p14 p15 w7 w8 w9 w10 w11 p16 w12 w13 w14 h1 f0 h2 f1 h3 f2 h4 f3 h5 f4) _ _ := h_1
  refine lv_iconst (v := 0) hx hb dX12_firstDay_5 (by decide) ?_
  refine lv_istore_n (lv' := [(1, .int 0), (0, .ref h0)]) hx hb dX12_firstDay_6 rfl hl (by decide) rfl (fun ls_2 hl_2 => ?_)
  clear hl
  refine q_wl (fun (v7_3_0 : Int32) H locs ls => ∃ v7_3_1 : Nat → Int32, ∃ v7_3_2 : Nat → Int32, ∃ v7_3_3 : Nat → Int32, ∃ v7_3_4 : Nat → Int32, (0 ≤ (v7_3_0).toInt ∧ (v7_3_0).toInt ≤ 100) ∧ RG v7_3_3 10 0 1023 ∧ qW D (va_A (wk_eecab3214 cy h0 p0 h1 w0 w1 w2 p1 p2 p3 p4 p5 p6 p7 p8 p9 p10 p11 h2 h3 w3 h4 w4 p12 p13 h5 w5 w6 p14 p15 w7 w8 w9 w10 w11 p16 w12 w13 w14 h1 f0 h2 f1 h3 f2 h4 f3 h5 f4) sz) s.heap (wk_eecab3214 cy h0 0 h1 w0 w1 w2 p1 p2 p3 p4 p5 p6 p7 p8 p9 p10 p11 h2 h3 w3 h4 w4 p12 p13 h5 w5 w6 p14 p15 w7 w8 w9 w10 w11 p16 w12 w13 w14 h1 f0 h2 v7_3_1 h3 v7_3_2 h4 v7_3_3 h5 v7_3_4) H locs ∧ lv_has ls 3 [(0, .ref h0), (1, .int v7_3_0)]) (fun (v7_3_0 : Int32) => (101 - (v7_3_0).toInt).toNat) (fun q_7 ih_7 H locs ls hP => ?_) 0 ⟨f1, f2, f3, f4, ⟨by decide +kernel, by decide +kernel⟩, (rg_wide rf3 (by decide) (by decide)), h_1, (lv_sub hl_2 [1, 0] rfl)⟩
  obtain ⟨v7_3_0, rfl⟩ : ∃ z, z = q_7 := ⟨_, rfl⟩
  obtain ⟨v7_3_1, v7_3_2, v7_3_3, v7_3_4, hv7_3_0, rv7_3_3, h, hl⟩ := hP
  refine lv_iload_n hx hb dX12_firstDay_7 rfl (lv_at hl 1 rfl) ?_
  refine lv_bipush (v := 99) hx hb dX12_firstDay_8 (by decide) ?_
  refine lv_icmp_gt (tgt := 72) hx hb dX12_firstDay_10 (by decide) (fun c_4 => ?_) (fun c_4 => ?_)
  · replace c_4 := i_lt (x := 99) (y := v7_3_0) (show (99 : Int32).toInt = 99 by decide) rfl c_4
    refine lv_iconst (v := (-1)) hx hb dX12_firstDay_72 (by decide) ?_
    exact q_iret X hr hlk hK h rfl (fun _ => 0, (vcons (fun _ => 0) (vcons v7_3_1 (vcons v7_3_2 (vcons v7_3_3 (vcons v7_3_4 (fun _ => (fun _ => 0))))))), fun _ _ => 0) ⟨⟨by decide +kernel, by decide +kernel⟩, (⟨by decide +kernel, by decide +kernel⟩ : 0 ≤ (0 : Int32).toInt ∧ (0 : Int32).toInt ≤ 0), (rg_wide rv7_3_3 (by decide) (by decide)), trivial⟩ [0, 1, 2, 3, 4, 5] rfl rfl dX12_firstDay_73 (Nat.le_of_ble_eq_true rfl) (Nat.le_of_ble_eq_true rfl)
  · replace c_4 := i_nlt (x := 99) (y := v7_3_0) (show (99 : Int32).toInt = 99 by decide) rfl c_4
    refine lv_aload_n hx hb dX12_firstDay_13 rfl (lv_at hl 0 rfl) ?_
    refine lv_aload_n hx hb dX12_firstDay_14 rfl (lv_at hl 0 rfl) ?_
    refine q_get X hK h 0 rfl rfl wf_12 1 (by decide) rfl wm_5_171 dX12_firstDay_15 ?_
    refine lv_bipush (v := 52) hx hb dX12_firstDay_18 (by decide) ?_
    refine q_iald X hK h 1 rfl (q_in (by decide +kernel)) dX12_firstDay_20 ?_
    refine q_any (fun z_5 hz_5 => ?_)
    refine lv_iload_n hx hb dX12_firstDay_21 rfl (lv_at hl 1 rfl) ?_
    refine lv_iadd hx hb dX12_firstDay_22 ?_
    refine q_any (fun z_6 hz_6 => ?_)
    refine q_callVi (rest := []) (wr := (wk_1ed1fcc35 cy h2 v7_3_1 h3 v7_3_2 h4 v7_3_3 h5 v7_3_4)) X hK hT hA h (fun sz => gX12_townOn_aa3becc l D cy h0 h1 z_6 (0 : Int32) w0 w1 w2 p1 p2 p3 p4 p5 p6 p7 p8 p9 p10 p11 (.ref h2) (.ref h3) w3 (.ref h4) w4 p12 p13 (.ref h5) w5 w6 p14 p15 w7 w8 w9 w10 w11 p16 w12 w13 w14 f0 p17 (i_rng _) ⟨by decide +kernel, by decide +kernel⟩ hp1 hp2 hp3 hp4 (i_rng _) hp6 (i_rng _) (i_rng _) (i_rng _) (i_rng _) (i_rng _) (i_rng _) (i_rng _) (i_rng _) (i_rng _) (i_rng _) hp17 htf0_84 rf0 sz) wm_6_174 wm_6_177 wm_1_12 hd_X12_townOn wm_6_176 wp_5_10 (ci := 12) (q0 := 0) rfl rfl ⟨Nat.le_of_ble_eq_true rfl, Nat.le_of_ble_eq_true rfl⟩ hl.1 rfl (Nat.le_of_ble_eq_true rfl) dX12_firstDay_23 ⟨Nat.le_of_ble_eq_true rfl, Nat.le_of_ble_eq_true rfl⟩ [0, 1] [2, 3, 4, 5] rfl rfl (by decide) rfl rfl (fun r_7 u_7 H locs w_7 h_7 => ?_)
    clear h
    obtain ⟨wr_7, _⟩ := w_7
    replace h_7 : qW D _ _ (wk_143caa1ee cy h2 v7_3_1 h3 v7_3_2 h4 v7_3_3 h5 v7_3_4 h0 0 h1 w0 w1 w2 p1 p2 p3 p4 p5 p6 p7 p8 p9 p10 p11 h2 h3 w3 h4 w4 p12 p13 h5 w5 w6 p14 p15 w7 w8 w9 w10 w11 p16 w12 w13 w14 h1 f0) _ _ := h_7
    refine lv_istore_n (lv' := [(2, .int r_7), (0, .ref h0), (1, .int v7_3_0)]) hx hb dX12_firstDay_26 rfl hl (by decide) rfl (fun ls_8 hl_8 => ?_)
    clear hl
    refine lv_iload_n hx hb dX12_firstDay_27 rfl (lv_at hl_8 0 rfl) ?_
    refine q_callSi (rest := []) (wr := (wk_143caa1ee cy h2 v7_3_1 h3 v7_3_2 h4 v7_3_3 h5 v7_3_4 h0 0 h1 w0 w1 w2 p1 p2 p3 p4 p5 p6 p7 p8 p9 p10 p11 h2 h3 w3 h4 w4 p12 p13 h5 w5 w6 p14 p15 w7 w8 w9 w10 w11 p16 w12 w13 w14 h1 f0)) X hK hT hA h_7 (fun sz => gX12_bitsOf_5a43b1c l D cy r_7 (i_rng _) sz) wm_7_8 wm_7_10 wm_1_12 hd_X12_bitsOf wm_7_9 ⟨Nat.le_of_ble_eq_true rfl, Nat.le_of_ble_eq_true rfl⟩ hl_8.1 rfl (Nat.le_of_ble_eq_true rfl) dX12_firstDay_28 ⟨Nat.le_of_ble_eq_true rfl, Nat.le_of_ble_eq_true rfl⟩ [] [0, 1, 2, 3, 4, 5] rfl rfl (by decide) rfl rfl (fun r_9 u_9 H locs w_9 h_9 => ?_)
    clear h_7
    obtain ⟨wr_9, _⟩ := w_9
    replace h_9 : qW D _ _ (wk_143caa1ee cy h2 v7_3_1 h3 v7_3_2 h4 v7_3_3 h5 v7_3_4 h0 0 h1 w0 w1 w2 p1 p2 p3 p4 p5 p6 p7 p8 p9 p10 p11 h2 h3 w3 h4 w4 p12 p13 h5 w5 w6 p14 p15 w7 w8 w9 w10 w11 p16 w12 w13 w14 h1 f0) _ _ := h_9
    refine lv_iconst (v := 2) hx hb dX12_firstDay_31 (by decide) ?_
    refine q_jn (pc2 := 66) (fun H locs ls st => ∃ v66_10_0 : Nat → Int32, ∃ v66_10_1 : Nat → Int32, ∃ v66_10_2 : Nat → Int32, ∃ v66_10_3 : Nat → Int32, RG v66_10_2 10 0 1023 ∧ st = [] ∧ qW D (va_A (wk_eecab3214 cy h0 p0 h1 w0 w1 w2 p1 p2 p3 p4 p5 p6 p7 p8 p9 p10 p11 h2 h3 w3 h4 w4 p12 p13 h5 w5 w6 p14 p15 w7 w8 w9 w10 w11 p16 w12 w13 w14 h1 f0 h2 f1 h3 f2 h4 f3 h5 f4) sz) s.heap (wk_143caa1ee cy h2 v66_10_0 h3 v66_10_1 h4 v66_10_2 h5 v66_10_3 h0 0 h1 w0 w1 w2 p1 p2 p3 p4 p5 p6 p7 p8 p9 p10 p11 h2 h3 w3 h4 w4 p12 p13 h5 w5 w6 p14 p15 w7 w8 w9 w10 w11 p16 w12 w13 w14 h1 f0) H locs ∧ lv_has ls 3 [(0, .ref h0), (1, .int v7_3_0), (2, .int r_7)]) (fun H locs ls st hP => ?_) (fun J_66 => ?_)
    · obtain ⟨v66_10_0, v66_10_1, v66_10_2, v66_10_3, rv66_10_2, rfl, h, hl⟩ := hP
      obtain ⟨z_11, ez_11, hz_11⟩ := e_add (x := v7_3_0) (y := Int32.ofInt 1) rfl (b := 1) (by decide) (by omega) (by omega)
      refine lv_iinc (v := z_11) (lv' := [(1, .int z_11), (0, .ref h0), (2, .int r_7)]) hx hb dX12_firstDay_66 hl (k := 1) rfl ez_11 (by decide) rfl (fun ls_11 hl_11 => ?_)
      clear hl
      refine lv_goto (tgt := 7) hx hb dX12_firstDay_69 (by decide) ?_
      exact ih_7 z_11 (by show (101 - (z_11).toInt).toNat < (101 - (v7_3_0).toInt).toNat; omega) _ _ _ ⟨v66_10_0, v66_10_1, v66_10_2, v66_10_3, ⟨by omega, by omega⟩, (rg_wide rv66_10_2 (by decide) (by decide)), (q_re h [4, 5, 0, 1, 2, 3] rfl rfl), (lv_sub hl_11 [1, 0] rfl)⟩
    · skip
      refine lv_icmp_ge (tgt := 38) hx hb dX12_firstDay_32 (by decide) (fun c_12 => ?_) (fun c_12 => ?_)
      · replace c_12 := i_le (x := 2) (y := r_9) (show (2 : Int32).toInt = 2 by decide) rfl c_12
        refine lv_aload_n hx hb dX12_firstDay_38 rfl (lv_at hl_8 1 rfl) ?_
        refine lv_aload_n hx hb dX12_firstDay_39 rfl (lv_at hl_8 1 rfl) ?_
        refine q_get X hK h_9 4 rfl rfl wf_12 1 (by decide) rfl wm_5_171 dX12_firstDay_40 ?_
        refine lv_bipush (v := 52) hx hb dX12_firstDay_43 (by decide) ?_
        refine q_iald X hK h_9 5 rfl (q_in (by decide +kernel)) dX12_firstDay_45 ?_
        refine q_any (fun z_13 hz_13 => ?_)
        refine lv_iload_n hx hb dX12_firstDay_46 rfl (lv_at hl_8 2 rfl) ?_
        refine lv_iadd hx hb dX12_firstDay_47 ?_
        refine q_any (fun z_14 hz_14 => ?_)
        refine q_callVv (rest := []) (wr := [(h5, .inl (cy 1, 1024, .inl v7_3_4))]) X hK hT hA h_9 (fun sz => gX12_laysOpposed_6a814f8 l D cy h0 h1 h2 h3 h4 z_14 (0 : Int32) w0 w1 w2 p1 p2 p3 p4 p5 p6 p7 p8 p9 p10 p11 w3 w4 p12 p13 (.ref h5) w5 w6 p14 p15 w7 w8 w9 w10 w11 p16 w12 w13 w14 f0 p17 v7_3_1 v7_3_2 v7_3_3 (i_rng _) ⟨by decide +kernel, by decide +kernel⟩ hp1 hp2 hp3 hp4 (i_rng _) hp6 (i_rng _) (i_rng _) (i_rng _) (i_rng _) (i_rng _) (i_rng _) (i_rng _) (i_rng _) (i_rng _) (i_rng _) hp17 htf0_84 rf0 (rg_wide rv7_3_3 (by decide) (by decide)) sz) wm_7_59 wm_7_62 wm_1_12 hd_X12_laysOpposed wm_7_61 wp_6_12 (ci := 12) (q0 := 0) rfl rfl ⟨Nat.le_of_ble_eq_true rfl, Nat.le_of_ble_eq_true rfl⟩ hl_8.1 rfl (Nat.le_of_ble_eq_true rfl) dX12_firstDay_48 ⟨Nat.le_of_ble_eq_true rfl, Nat.le_of_ble_eq_true rfl⟩ [4, 5, 0, 1, 2] [3] rfl rfl (by decide) rfl rfl (fun u_15 H locs w_15 h_15 => ?_)
        clear h_9
        obtain ⟨w15_0, _⟩ := w_15
        replace h_15 : qW D _ _ (wk_330e90bb2 cy h5 v7_3_4 h0 0 h1 w0 w1 w2 p1 p2 p3 p4 p5 p6 p7 p8 p9 p10 p11 h2 h3 w3 h4 w4 p12 p13 h5 w5 w6 p14 p15 w7 w8 w9 w10 w11 p16 w12 w13 w14 h1 f0 h2 (u_15.2.1 0) h3 (u_15.2.1 1) h4 (u_15.2.1 2)) _ _ := h_15
        refine lv_aload_n hx hb dX12_firstDay_51 rfl (lv_at hl_8 1 rfl) ?_
        refine q_callVv (rest := []) (wr := (wk_3fb6de35f cy h2 (u_15.2.1 0) h3 (u_15.2.1 1))) X hK hT hA h_15 (fun sz => gX12_laysParted_f6bf834 l D cy h0 h1 h4 h5 (0 : Int32) w0 w1 w2 p1 p2 p3 p4 p5 p6 p7 p8 p9 p10 p11 (.ref h2) (.ref h3) w3 w4 p12 p13 w5 w6 p14 p15 w7 w8 w9 w10 w11 p16 w12 w13 w14 f0 p17 (u_15.2.1 2) v7_3_4 ⟨by decide +kernel, by decide +kernel⟩ hp1 hp2 hp3 hp4 (i_rng _) hp6 (i_rng _) (i_rng _) (i_rng _) (i_rng _) (i_rng _) (i_rng _) (i_rng _) (i_rng _) (i_rng _) (i_rng _) hp17 htf0_84 rf0 (rg_wide w15_0 (by decide) (by decide)) sz) wm_7_63 wm_7_66 wm_1_12 hd_X12_laysParted wm_7_65 wp_6_13 (ci := 12) (q0 := 0) rfl rfl ⟨Nat.le_of_ble_eq_true rfl, Nat.le_of_ble_eq_true rfl⟩ hl_8.1 rfl (Nat.le_of_ble_eq_true rfl) dX12_firstDay_52 ⟨Nat.le_of_ble_eq_true rfl, Nat.le_of_ble_eq_true rfl⟩ [1, 2, 5, 0] [3, 4] rfl rfl (by decide) rfl rfl (fun u_16 H locs w_16 h_16 => ?_)
        clear h_15
        clear w_16
        replace h_16 : qW D _ _ (wk_e86de3109 cy h2 (u_15.2.1 0) h3 (u_15.2.1 1) h0 0 h1 w0 w1 w2 p1 p2 p3 p4 p5 p6 p7 p8 p9 p10 p11 h2 h3 w3 h4 w4 p12 p13 h5 w5 w6 p14 p15 w7 w8 w9 w10 w11 p16 w12 w13 w14 h1 f0 h4 (u_15.2.1 2) h5 (u_16.2.1 0)) _ _ := h_16
        refine lv_aload_n hx hb dX12_firstDay_55 rfl (lv_at hl_8 1 rfl) ?_
        refine q_get X hK h_16 2 rfl rfl wf_12 23 (by decide) rfl wm_5_193 dX12_firstDay_56 ?_
        refine lv_iload_n hx hb dX12_firstDay_59 rfl (lv_at hl_8 0 rfl) ?_
        refine q_iald X hK h_16 5 rfl (i_in rfl (by omega) (by omega)) dX12_firstDay_60 ?_
        refine q_any (fun z_17 hz_17 => ?_)
        refine lv_if_le (tgt := 66) hx hb dX12_firstDay_61 (by decide) (fun c_18 => ?_) (fun c_18 => ?_)
        · replace c_18 := i_le (x := z_17) (y := 0) rfl (show (0 : Int32).toInt = 0 by decide) c_18
          exact J_66 _ _ _ _ ⟨(u_15.2.1 0), (u_15.2.1 1), (u_15.2.1 2), (u_16.2.1 0), (rg_wide w15_0 (by decide) (by decide)), rfl, (q_re h_16 [0, 1, 4, 5, 2, 3] rfl rfl), (lv_sub hl_8 [1, 2, 0] rfl)⟩
        · replace c_18 := i_nle (x := z_17) (y := 0) rfl (show (0 : Int32).toInt = 0 by decide) c_18
          refine lv_iload_n hx hb dX12_firstDay_64 rfl (lv_at hl_8 2 rfl) ?_
          exact q_iret X hr hlk hK h_16 rfl (fun _ => 0, (vcons (fun _ => 0) (vcons (u_15.2.1 0) (vcons (u_15.2.1 1) (vcons (u_15.2.1 2) (vcons (u_16.2.1 0) (fun _ => (fun _ => 0))))))), fun _ _ => 0) ⟨⟨by omega, by omega⟩, (⟨by decide +kernel, by decide +kernel⟩ : 0 ≤ (0 : Int32).toInt ∧ (0 : Int32).toInt ≤ 0), (rg_wide w15_0 (by decide) (by decide)), trivial⟩ [2, 3, 0, 1, 4, 5] rfl rfl dX12_firstDay_65 (Nat.le_of_ble_eq_true rfl) (Nat.le_of_ble_eq_true rfl)
      · replace c_12 := i_nle (x := 2) (y := r_9) (show (2 : Int32).toInt = 2 by decide) rfl c_12
        refine lv_goto (tgt := 66) hx hb dX12_firstDay_35 (by decide) ?_
        exact J_66 _ _ _ _ ⟨v7_3_1, v7_3_2, v7_3_3, v7_3_4, (rg_wide rv7_3_3 (by decide) (by decide)), rfl, h_9, (lv_sub hl_8 [1, 2, 0] rfl)⟩
set_option maxHeartbeats 4000000 in
set_option maxRecDepth 100000 in
theorem gX12_quorum_38e63f5 (l : Launch) (D : va_G) (cy : Nat → ClassId) (h0 : Nat) (h1 : Nat) (h2 : Nat) (h3 : Nat) (h4 : Nat) (h5 : Nat) (p0 : Int32) (w0 : Value) (w1 : Value) (w2 : Value) (p1 : Int32) (p2 : Int32) (p3 : Int32) (p4 : Int32) (p5 : Int32) (p6 : Int32) (p7 : Int32) (p8 : Int32) (p9 : Int32) (p10 : Int32) (p11 : Int32) (w3 : Value) (w4 : Value) (p12 : Int32) (p13 : Int32) (w5 : Value) (w6 : Value) (p14 : Int32) (p15 : Int32) (w7 : Value) (w8 : Value) (w9 : Value) (w10 : Value) (w11 : Value) (p16 : Int32) (w12 : Value) (w13 : Value) (w14 : Value) (f0 : Nat → Int32) (p17 : Int32) (f1 : Nat → Int32) (f2 : Nat → Int32) (f3 : Nat → Int32) (f4 : Nat → Int32) (hp0 : (-2147483648) ≤ (p0).toInt ∧ (p0).toInt ≤ 2147483647) (hp1 : 0 ≤ (p1).toInt ∧ (p1).toInt ≤ 900) (hp2 : 0 ≤ (p2).toInt ∧ (p2).toInt ≤ 900) (hp3 : 0 ≤ (p3).toInt ∧ (p3).toInt ≤ 900) (hp4 : 0 ≤ (p4).toInt ∧ (p4).toInt ≤ 900) (hp5 : (-2147483648) ≤ (p5).toInt ∧ (p5).toInt ≤ 2147483647) (hp6 : 0 ≤ (p6).toInt ∧ (p6).toInt ≤ 999) (hp7 : (-2147483648) ≤ (p7).toInt ∧ (p7).toInt ≤ 2147483647) (hp8 : (-2147483648) ≤ (p8).toInt ∧ (p8).toInt ≤ 2147483647) (hp9 : (-2147483648) ≤ (p9).toInt ∧ (p9).toInt ≤ 2147483647) (hp10 : (-2147483648) ≤ (p10).toInt ∧ (p10).toInt ≤ 2147483647) (hp11 : (-2147483648) ≤ (p11).toInt ∧ (p11).toInt ≤ 2147483647) (hp12 : (-2147483648) ≤ (p12).toInt ∧ (p12).toInt ≤ 2147483647) (hp13 : (-2147483648) ≤ (p13).toInt ∧ (p13).toInt ≤ 2147483647) (hp14 : (-2147483648) ≤ (p14).toInt ∧ (p14).toInt ≤ 2147483647) (hp15 : (-2147483648) ≤ (p15).toInt ∧ (p15).toInt ≤ 2147483647) (hp16 : (-2147483648) ≤ (p16).toInt ∧ (p16).toInt ≤ 2147483647) (hp17 : 0 ≤ (p17).toInt ∧ (p17).toInt ≤ 10) (htf0_84 : f0 84 = p17) (rf0 : AL f0) (rf3 : RG f3 10 0 1023) (sz : Nat) : MI l yX12_quorum cX12_quorum 4 .int { frames := 5, cells := 0, slots := 0, locals := 114 } [.ref h0] D cy (wk_eecab3214 cy h0 p0 h1 w0 w1 w2 p1 p2 p3 p4 p5 p6 p7 p8 p9 p10 p11 h2 h3 w3 h4 w4 p12 p13 h5 w5 w6 p14 p15 w7 w8 w9 w10 w11 p16 w12 w13 w14 h1 f0 h2 f1 h3 f2 h4 f3 h5 f4) sz (fun r u => (0 ≤ r.toInt ∧ r.toInt ≤ 1023) ∧ RG (u.2.1 2) 10 0 1023 ∧ (0 ≤ (u.2.1 4 0).toInt ∧ (u.2.1 4 0).toInt ≤ 0) ∧ True) (fun u => (wk_eecab3214 cy h0 (u.2.1 4 0) h1 w0 w1 w2 p1 p2 p3 p4 p5 p6 p7 p8 p9 p10 p11 h2 h3 w3 h4 w4 p12 p13 h5 w5 w6 p14 p15 w7 w8 w9 w10 w11 p16 w12 w13 w14 h1 f0 h2 (u.2.1 0) h3 (u.2.1 1) h4 (u.2.1 2) h5 (u.2.1 3))) 0 0 := by
  refine q_ent (own := RX12) (by decide) rfl (Nat.le_of_ble_eq_true rfl) (fun p e s m below meth c ls X hr hlk hnm hK hT h hA hl => ?_)
  obtain ⟨hx, hb, hml, hown, ht⟩ := id X
  replace hl : lv_has ls 4 [(0, .ref h0)] := hl
  refine lv_aload_n hx hb dX12_quorum_0 rfl (lv_at hl 0 rfl) ?_
  refine lv_iconst (v := 0) hx hb dX12_quorum_1 (by decide) ?_
  refine q_put (v := .int 0) X hK h 0 rfl rfl wf_12 tyX12 tyX12_ok nmX12 0 (by decide) wm_5_170 rfl rfl rfl (Nat.le_of_ble_eq_true rfl) dX12_quorum_2 (fun H locs h_1 => ?_)
  clear h
  replace h_1 : qW D _ _ (wk_eecab3214 cy h0 0 h1 w0 w1 w2 p1 p2 p3 p4 p5 p6 p7 p8 p9 p10 p11 h2 h3 w3 h4 w4 p12 p13 h5 w5 w6 p14 p15 w7 w8 w9 w10 w11 p16 w12 w13 w14 h1 f0 h2 f1 h3 f2 h4 f3 h5 f4) _ _ := h_1
  refine lv_aload_n hx hb dX12_quorum_5 rfl (lv_at hl 0 rfl) ?_
  refine q_callVv (rest := []) (wr := []) X hK hT hA h_1 (fun sz => gX12_laysNow_7e7bd2c l D cy h0 h1 h2 h3 h4 h5 (0 : Int32) w0 w1 w2 p1 p2 p3 p4 p5 p6 p7 p8 p9 p10 p11 w3 w4 p12 p13 w5 w6 p14 p15 w7 w8 w9 w10 w11 p16 w12 w13 w14 f0 p17 f1 f2 f3 f4 ⟨by decide +kernel, by decide +kernel⟩ hp1 hp2 hp3 hp4 (i_rng _) hp6 (i_rng _) (i_rng _) (i_rng _) (i_rng _) (i_rng _) (i_rng _) (i_rng _) (i_rng _) (i_rng _) (i_rng _) hp17 htf0_84 rf0 (rg_wide rf3 (by decide) (by decide)) sz) wm_7_55 wm_7_58 wm_1_12 hd_X12_laysNow wm_7_57 wp_6_11 (ci := 12) (q0 := 0) rfl rfl ⟨Nat.le_of_ble_eq_true rfl, Nat.le_of_ble_eq_true rfl⟩ hl.1 rfl (Nat.le_of_ble_eq_true rfl) dX12_quorum_6 ⟨Nat.le_of_ble_eq_true rfl, Nat.le_of_ble_eq_true rfl⟩ [0, 1, 2, 3, 4, 5] [] rfl rfl (by decide) rfl rfl (fun u_2 H locs w_2 h_2 => ?_)
  clear h_1
  obtain ⟨w2_0, _⟩ := w_2
  replace h_2 : qW D _ _ (wk_eecab3214 cy h0 0 h1 w0 w1 w2 p1 p2 p3 p4 p5 p6 p7 p8 p9 p10 p11 h2 h3 w3 h4 w4 p12 p13 h5 w5 w6 p14 p15 w7 w8 w9 w10 w11 p16 w12 w13 w14 h1 f0 h2 (u_2.2.1 0) h3 (u_2.2.1 1) h4 (u_2.2.1 2) h5 (u_2.2.1 3)) _ _ := h_2
  refine lv_aload_n hx hb dX12_quorum_9 rfl (lv_at hl 0 rfl) ?_
  refine q_callVi (rest := []) (wr := (wk_1ed1fcc35 cy h2 (u_2.2.1 0) h3 (u_2.2.1 1) h4 (u_2.2.1 2) h5 (u_2.2.1 3))) X hK hT hA h_2 (fun sz => gX12_townNow_2907b4b l D cy h0 h1 (0 : Int32) w0 w1 w2 p1 p2 p3 p4 p5 p6 p7 p8 p9 p10 p11 (.ref h2) (.ref h3) w3 (.ref h4) w4 p12 p13 (.ref h5) w5 w6 p14 p15 w7 w8 w9 w10 w11 p16 w12 w13 w14 f0 p17 ⟨by decide +kernel, by decide +kernel⟩ hp1 hp2 hp3 hp4 (i_rng _) hp6 (i_rng _) (i_rng _) (i_rng _) (i_rng _) (i_rng _) (i_rng _) (i_rng _) (i_rng _) (i_rng _) (i_rng _) hp17 htf0_84 rf0 sz) wm_6_170 wm_6_173 wm_1_12 hd_X12_townNow wm_6_172 wp_5_9 (ci := 12) (q0 := 0) rfl rfl ⟨Nat.le_of_ble_eq_true rfl, Nat.le_of_ble_eq_true rfl⟩ hl.1 rfl (Nat.le_of_ble_eq_true rfl) dX12_quorum_10 ⟨Nat.le_of_ble_eq_true rfl, Nat.le_of_ble_eq_true rfl⟩ [0, 1] [2, 3, 4, 5] rfl rfl (by decide) rfl rfl (fun r_3 u_3 H locs w_3 h_3 => ?_)
  clear h_2
  obtain ⟨wr_3, _⟩ := w_3
  replace h_3 : qW D _ _ (wk_143caa1ee cy h2 (u_2.2.1 0) h3 (u_2.2.1 1) h4 (u_2.2.1 2) h5 (u_2.2.1 3) h0 0 h1 w0 w1 w2 p1 p2 p3 p4 p5 p6 p7 p8 p9 p10 p11 h2 h3 w3 h4 w4 p12 p13 h5 w5 w6 p14 p15 w7 w8 w9 w10 w11 p16 w12 w13 w14 h1 f0) _ _ := h_3
  refine lv_istore_n (lv' := [(1, .int r_3), (0, .ref h0)]) hx hb dX12_quorum_13 rfl hl (by decide) rfl (fun ls_4 hl_4 => ?_)
  clear hl
  refine lv_iconst (v := 0) hx hb dX12_quorum_14 (by decide) ?_
  refine lv_istore_n (lv' := [(2, .int 0), (1, .int r_3), (0, .ref h0)]) hx hb dX12_quorum_15 rfl hl_4 (by decide) rfl (fun ls_5 hl_5 => ?_)
  clear hl_4
  refine lv_iconst (v := 0) hx hb dX12_quorum_16 (by decide) ?_
  refine lv_istore_n (lv' := [(3, .int 0), (2, .int 0), (1, .int r_3), (0, .ref h0)]) hx hb dX12_quorum_17 rfl hl_5 (by decide) rfl (fun ls_6 hl_6 => ?_)
  clear hl_5
  refine q_wl (fun (q : Int32 × Int32) H locs ls => match q with | (v18_7_0, v18_7_1) => (0 ≤ (v18_7_0).toInt ∧ (v18_7_0).toInt ≤ 1024) ∧ (0 ≤ (v18_7_1).toInt ∧ (v18_7_1).toInt ≤ 1023) ∧ qW D (va_A (wk_eecab3214 cy h0 p0 h1 w0 w1 w2 p1 p2 p3 p4 p5 p6 p7 p8 p9 p10 p11 h2 h3 w3 h4 w4 p12 p13 h5 w5 w6 p14 p15 w7 w8 w9 w10 w11 p16 w12 w13 w14 h1 f0 h2 f1 h3 f2 h4 f3 h5 f4) sz) s.heap (wk_143caa1ee cy h2 (u_2.2.1 0) h3 (u_2.2.1 1) h4 (u_2.2.1 2) h5 (u_2.2.1 3) h0 0 h1 w0 w1 w2 p1 p2 p3 p4 p5 p6 p7 p8 p9 p10 p11 h2 h3 w3 h4 w4 p12 p13 h5 w5 w6 p14 p15 w7 w8 w9 w10 w11 p16 w12 w13 w14 h1 f0) H locs ∧ lv_has ls 4 [(0, .ref h0), (1, .int r_3), (2, .int v18_7_1), (3, .int v18_7_0)]) (fun (q : Int32 × Int32) => match q with | (v18_7_0, v18_7_1) => (1025 - (v18_7_0).toInt).toNat) (fun q_18 ih_18 H locs ls hP => ?_) (0, 0) ⟨⟨by decide +kernel, by decide +kernel⟩, ⟨by decide +kernel, by decide +kernel⟩, h_3, (lv_sub hl_6 [3, 2, 1, 0] rfl)⟩
  obtain ⟨v18_7_0, v18_7_1⟩ := q_18
  obtain ⟨hv18_7_0, hv18_7_1, h, hl⟩ := hP
  refine lv_iload_n hx hb dX12_quorum_18 rfl (lv_at hl 3 rfl) ?_
  refine lv_iload_n hx hb dX12_quorum_19 rfl (lv_at hl 1 rfl) ?_
  refine lv_icmp_gt (tgt := 59) hx hb dX12_quorum_20 (by decide) (fun c_8 => ?_) (fun c_8 => ?_)
  · replace c_8 := i_lt (x := r_3) (y := v18_7_0) rfl rfl c_8
    refine lv_iload_n hx hb dX12_quorum_59 rfl (lv_at hl 2 rfl) ?_
    exact q_iret X hr hlk hK h rfl (fun _ => 0, (vcons (u_2.2.1 0) (vcons (u_2.2.1 1) (vcons (u_2.2.1 2) (vcons (u_2.2.1 3) (vcons (fun _ => 0) (fun _ => (fun _ => 0))))))), fun _ _ => 0) ⟨hv18_7_1, (rg_wide w2_0 (by decide) (by decide)), (⟨by decide +kernel, by decide +kernel⟩ : 0 ≤ (0 : Int32).toInt ∧ (0 : Int32).toInt ≤ 0), trivial⟩ [4, 5, 0, 1, 2, 3] rfl rfl dX12_quorum_60 (Nat.le_of_ble_eq_true rfl) (Nat.le_of_ble_eq_true rfl)
  · replace c_8 := i_nlt (x := r_3) (y := v18_7_0) rfl rfl c_8
    refine lv_iload_n hx hb dX12_quorum_23 rfl (lv_at hl 3 rfl) ?_
    refine lv_iload_n hx hb dX12_quorum_24 rfl (lv_at hl 1 rfl) ?_
    refine lv_iconst (v := (-1)) hx hb dX12_quorum_25 (by decide) ?_
    refine lv_ixor hx hb dX12_quorum_26 ?_
    refine q_any (fun z_9 hz_9 => ?_)
    refine lv_iand hx hb dX12_quorum_27 ?_
    obtain ⟨z_10, ez_10, hz_10⟩ := e_and1 (x := v18_7_0) (y := z_9) rfl (by omega)
    refine q_c z_10 ez_10 ?_
    clear ez_10
    refine q_jn (pc2 := 53) (fun H locs ls st => ∃ v53_11_0 : Int32, (0 ≤ (v53_11_0).toInt ∧ (v53_11_0).toInt ≤ 1023) ∧ st = [] ∧ qW D (va_A (wk_eecab3214 cy h0 p0 h1 w0 w1 w2 p1 p2 p3 p4 p5 p6 p7 p8 p9 p10 p11 h2 h3 w3 h4 w4 p12 p13 h5 w5 w6 p14 p15 w7 w8 w9 w10 w11 p16 w12 w13 w14 h1 f0 h2 f1 h3 f2 h4 f3 h5 f4) sz) s.heap (wk_143caa1ee cy h2 (u_2.2.1 0) h3 (u_2.2.1 1) h4 (u_2.2.1 2) h5 (u_2.2.1 3) h0 0 h1 w0 w1 w2 p1 p2 p3 p4 p5 p6 p7 p8 p9 p10 p11 h2 h3 w3 h4 w4 p12 p13 h5 w5 w6 p14 p15 w7 w8 w9 w10 w11 p16 w12 w13 w14 h1 f0) H locs ∧ lv_has ls 4 [(0, .ref h0), (1, .int r_3), (2, .int v53_11_0), (3, .int v18_7_0)]) (fun H locs ls st hP => ?_) (fun J_53 => ?_)
    · obtain ⟨v53_11_0, hv53_11_0, rfl, h, hl⟩ := hP
      obtain ⟨z_12, ez_12, hz_12⟩ := e_add (x := v18_7_0) (y := Int32.ofInt 1) rfl (b := 1) (by decide) (by omega) (by omega)
      refine lv_iinc (v := z_12) (lv' := [(3, .int z_12), (0, .ref h0), (1, .int r_3), (2, .int v53_11_0)]) hx hb dX12_quorum_53 hl (k := 3) rfl ez_12 (by decide) rfl (fun ls_12 hl_12 => ?_)
      clear hl
      refine lv_goto (tgt := 18) hx hb dX12_quorum_56 (by decide) ?_
      exact ih_18 (z_12, v53_11_0) (by show (1025 - (z_12).toInt).toNat < (1025 - (v18_7_0).toInt).toNat; omega) _ _ _ ⟨⟨by omega, by omega⟩, hv53_11_0, h, (lv_sub hl_12 [1, 2, 3, 0] rfl)⟩
    · skip
      refine lv_if_ne (tgt := 53) hx hb dX12_quorum_28 (by decide) (fun c_13 => ?_) (fun c_13 => ?_)
      · replace c_13 := i_ne (x := z_10) (y := 0) rfl (show (0 : Int32).toInt = 0 by decide) c_13
        exact J_53 _ _ _ _ ⟨v18_7_1, hv18_7_1, rfl, h, (lv_sub hl [0, 1, 2, 3] rfl)⟩
      · replace c_13 := i_eq (x := z_10) (y := 0) rfl (show (0 : Int32).toInt = 0 by decide) c_13
        refine lv_aload_n hx hb dX12_quorum_31 rfl (lv_at hl 0 rfl) ?_
        refine q_get X hK h 4 rfl rfl wf_12 23 (by decide) rfl wm_5_193 dX12_quorum_32 ?_
        refine lv_iload_n hx hb dX12_quorum_35 rfl (lv_at hl 3 rfl) ?_
        refine q_iald X hK h 3 rfl (i_in rfl (by omega) (by omega)) dX12_quorum_36 ?_
        refine q_any (fun z_14 hz_14 => ?_)
        refine lv_if_le (tgt := 53) hx hb dX12_quorum_37 (by decide) (fun c_15 => ?_) (fun c_15 => ?_)
        · replace c_15 := i_le (x := z_14) (y := 0) rfl (show (0 : Int32).toInt = 0 by decide) c_15
          exact J_53 _ _ _ _ ⟨v18_7_1, hv18_7_1, rfl, h, (lv_sub hl [0, 1, 2, 3] rfl)⟩
        · replace c_15 := i_nle (x := z_14) (y := 0) rfl (show (0 : Int32).toInt = 0 by decide) c_15
          refine lv_iload_n hx hb dX12_quorum_40 rfl (lv_at hl 3 rfl) ?_
          refine q_callSi (rest := []) (wr := (wk_143caa1ee cy h2 (u_2.2.1 0) h3 (u_2.2.1 1) h4 (u_2.2.1 2) h5 (u_2.2.1 3) h0 0 h1 w0 w1 w2 p1 p2 p3 p4 p5 p6 p7 p8 p9 p10 p11 h2 h3 w3 h4 w4 p12 p13 h5 w5 w6 p14 p15 w7 w8 w9 w10 w11 p16 w12 w13 w14 h1 f0)) X hK hT hA h (fun sz => gX12_bitsOf_5a43b1c l D cy v18_7_0 (i_rng _) sz) wm_7_8 wm_7_10 wm_1_12 hd_X12_bitsOf wm_7_9 ⟨Nat.le_of_ble_eq_true rfl, Nat.le_of_ble_eq_true rfl⟩ hl.1 rfl (Nat.le_of_ble_eq_true rfl) dX12_quorum_41 ⟨Nat.le_of_ble_eq_true rfl, Nat.le_of_ble_eq_true rfl⟩ [] [0, 1, 2, 3, 4, 5] rfl rfl (by decide) rfl rfl (fun r_16 u_16 H locs w_16 h_16 => ?_)
          clear h
          obtain ⟨wr_16, _⟩ := w_16
          replace h_16 : qW D _ _ (wk_143caa1ee cy h2 (u_2.2.1 0) h3 (u_2.2.1 1) h4 (u_2.2.1 2) h5 (u_2.2.1 3) h0 0 h1 w0 w1 w2 p1 p2 p3 p4 p5 p6 p7 p8 p9 p10 p11 h2 h3 w3 h4 w4 p12 p13 h5 w5 w6 p14 p15 w7 w8 w9 w10 w11 p16 w12 w13 w14 h1 f0) _ _ := h_16
          refine lv_iload_n hx hb dX12_quorum_44 rfl (lv_at hl 2 rfl) ?_
          refine q_callSi (rest := [.int r_16]) (wr := (wk_143caa1ee cy h2 (u_2.2.1 0) h3 (u_2.2.1 1) h4 (u_2.2.1 2) h5 (u_2.2.1 3) h0 0 h1 w0 w1 w2 p1 p2 p3 p4 p5 p6 p7 p8 p9 p10 p11 h2 h3 w3 h4 w4 p12 p13 h5 w5 w6 p14 p15 w7 w8 w9 w10 w11 p16 w12 w13 w14 h1 f0)) X hK hT hA h_16 (fun sz => gX12_bitsOf_5a43b1c l D cy v18_7_1 (i_rng _) sz) wm_7_8 wm_7_10 wm_1_12 hd_X12_bitsOf wm_7_9 ⟨Nat.le_of_ble_eq_true rfl, Nat.le_of_ble_eq_true rfl⟩ hl.1 rfl (Nat.le_of_ble_eq_true rfl) dX12_quorum_45 ⟨Nat.le_of_ble_eq_true rfl, Nat.le_of_ble_eq_true rfl⟩ [] [0, 1, 2, 3, 4, 5] rfl rfl (by decide) rfl rfl (fun r_17 u_17 H locs w_17 h_17 => ?_)
          clear h_16
          obtain ⟨wr_17, _⟩ := w_17
          replace h_17 : qW D _ _ (wk_143caa1ee cy h2 (u_2.2.1 0) h3 (u_2.2.1 1) h4 (u_2.2.1 2) h5 (u_2.2.1 3) h0 0 h1 w0 w1 w2 p1 p2 p3 p4 p5 p6 p7 p8 p9 p10 p11 h2 h3 w3 h4 w4 p12 p13 h5 w5 w6 p14 p15 w7 w8 w9 w10 w11 p16 w12 w13 w14 h1 f0) _ _ := h_17
          refine lv_icmp_le (tgt := 53) hx hb dX12_quorum_48 (by decide) (fun c_18 => ?_) (fun c_18 => ?_)
          · replace c_18 := i_le (x := r_16) (y := r_17) rfl rfl c_18
            exact J_53 _ _ _ _ ⟨v18_7_1, hv18_7_1, rfl, h_17, (lv_sub hl [0, 1, 2, 3] rfl)⟩
          · replace c_18 := i_nle (x := r_16) (y := r_17) rfl rfl c_18
            refine lv_iload_n hx hb dX12_quorum_51 rfl (lv_at hl 3 rfl) ?_
            refine lv_istore_n (lv' := [(2, .int v18_7_0), (0, .ref h0), (1, .int r_3), (3, .int v18_7_0)]) hx hb dX12_quorum_52 rfl hl (by decide) rfl (fun ls_19 hl_19 => ?_)
            clear hl
            exact J_53 _ _ _ _ ⟨v18_7_0, ⟨by omega, by omega⟩, rfl, h_17, (lv_sub hl_19 [1, 2, 0, 3] rfl)⟩
set_option maxHeartbeats 4000000 in
set_option maxRecDepth 100000 in
theorem gX12_isCovered_05a556d (l : Launch) (D : va_G) (cy : Nat → ClassId) (h0 : Nat) (h1 : Nat) (h2 : Nat) (p0 : Int32) (p1 : Int32) (p2 : Int32) (w0 : Value) (w1 : Value) (w2 : Value) (p3 : Int32) (p4 : Int32) (p5 : Int32) (p6 : Int32) (p7 : Int32) (p8 : Int32) (p9 : Int32) (p10 : Int32) (p11 : Int32) (p12 : Int32) (p13 : Int32) (w3 : Value) (w4 : Value) (w5 : Value) (w6 : Value) (p14 : Int32) (p15 : Int32) (w7 : Value) (w8 : Value) (w9 : Value) (p16 : Int32) (p17 : Int32) (w10 : Value) (w11 : Value) (w12 : Value) (w13 : Value) (w14 : Value) (p18 : Int32) (w15 : Value) (w16 : Value) (w17 : Value) (f0 : Nat → Int32) (p19 : Int32) (f1 : Nat → Int32) (hp0 : 0 ≤ (p0).toInt ∧ (p0).toInt ≤ 1023) (hp1 : 0 ≤ (p1).toInt ∧ (p1).toInt ≤ 1023) (hp2 : 0 ≤ (p2).toInt ∧ (p2).toInt ≤ 0) (hp3 : 0 ≤ (p3).toInt ∧ (p3).toInt ≤ 900) (hp4 : 0 ≤ (p4).toInt ∧ (p4).toInt ≤ 900) (hp5 : 0 ≤ (p5).toInt ∧ (p5).toInt ≤ 900) (hp6 : 0 ≤ (p6).toInt ∧ (p6).toInt ≤ 900) (hp7 : (-2147483648) ≤ (p7).toInt ∧ (p7).toInt ≤ 2147483647) (hp8 : 0 ≤ (p8).toInt ∧ (p8).toInt ≤ 999) (hp9 : (-2147483648) ≤ (p9).toInt ∧ (p9).toInt ≤ 2147483647) (hp10 : (-2147483648) ≤ (p10).toInt ∧ (p10).toInt ≤ 2147483647) (hp11 : (-2147483648) ≤ (p11).toInt ∧ (p11).toInt ≤ 2147483647) (hp12 : (-2147483648) ≤ (p12).toInt ∧ (p12).toInt ≤ 2147483647) (hp13 : (-2147483648) ≤ (p13).toInt ∧ (p13).toInt ≤ 2147483647) (hp14 : (-2147483648) ≤ (p14).toInt ∧ (p14).toInt ≤ 2147483647) (hp15 : (-2147483648) ≤ (p15).toInt ∧ (p15).toInt ≤ 2147483647) (hp16 : (-2147483648) ≤ (p16).toInt ∧ (p16).toInt ≤ 2147483647) (hp17 : (-2147483648) ≤ (p17).toInt ∧ (p17).toInt ≤ 2147483647) (hp18 : (-2147483648) ≤ (p18).toInt ∧ (p18).toInt ≤ 2147483647) (hp19 : 0 ≤ (p19).toInt ∧ (p19).toInt ≤ 10) (htf0_84 : f0 84 = p19) (rf0 : AL f0) (rf1 : RG f1 10 0 1023) (sz : Nat) : MI l yX12_isCovered cX12_isCovered 4 .boolean { frames := 1, cells := 0, slots := 0, locals := 22 } [.ref h0, .int p0, .int p1] D cy (wk_e3ea295b8 cy h0 p2 h1 w0 w1 w2 p3 p4 p5 p6 p7 p8 p9 p10 p11 p12 p13 w3 w4 w5 h2 w6 p14 p15 w7 w8 w9 p16 p17 w10 w11 w12 w13 w14 p18 w15 w16 w17 h1 f0 h2 f1) sz (fun r u => (0 ≤ r.toInt ∧ r.toInt ≤ 1) ∧ True) (fun u => (wk_e3ea295b8 cy h0 p2 h1 w0 w1 w2 p3 p4 p5 p6 p7 p8 p9 p10 p11 p12 p13 w3 w4 w5 h2 w6 p14 p15 w7 w8 w9 p16 p17 w10 w11 w12 w13 w14 p18 w15 w16 w17 h1 f0 h2 f1)) 0 0 := by
  refine q_ent (own := RX12) (by decide) rfl (Nat.le_of_ble_eq_true rfl) (fun p e s m below meth c ls X hr hlk hnm hK hT h hA hl => ?_)
  obtain ⟨hx, hb, hml, hown, ht⟩ := id X
  replace hl : lv_has ls 4 [(0, .ref h0), (1, .int p0), (2, .int p1)] := hl
  refine lv_iconst (v := 0) hx hb dX12_isCovered_0 (by decide) ?_
  refine lv_istore_n (lv' := [(3, .int 0), (0, .ref h0), (1, .int p0), (2, .int p1)]) hx hb dX12_isCovered_1 rfl hl (by decide) rfl (fun ls_1 hl_1 => ?_)
  clear hl
  refine q_wl (fun (v2_2_0 : Int32) H locs ls => (0 ≤ (v2_2_0).toInt ∧ (v2_2_0).toInt ≤ 10) ∧ qW D (va_A (wk_e3ea295b8 cy h0 p2 h1 w0 w1 w2 p3 p4 p5 p6 p7 p8 p9 p10 p11 p12 p13 w3 w4 w5 h2 w6 p14 p15 w7 w8 w9 p16 p17 w10 w11 w12 w13 w14 p18 w15 w16 w17 h1 f0 h2 f1) sz) s.heap (wk_e3ea295b8 cy h0 p2 h1 w0 w1 w2 p3 p4 p5 p6 p7 p8 p9 p10 p11 p12 p13 w3 w4 w5 h2 w6 p14 p15 w7 w8 w9 p16 p17 w10 w11 w12 w13 w14 p18 w15 w16 w17 h1 f0 h2 f1) H locs ∧ lv_has ls 4 [(0, .ref h0), (1, .int p0), (2, .int p1), (3, .int v2_2_0)]) (fun (v2_2_0 : Int32) => (11 - (v2_2_0).toInt).toNat) (fun q_2 ih_2 H locs ls hP => ?_) 0 ⟨⟨by decide +kernel, by decide +kernel⟩, h, (lv_sub hl_1 [1, 2, 3, 0] rfl)⟩
  obtain ⟨v2_2_0, rfl⟩ : ∃ z, z = q_2 := ⟨_, rfl⟩
  obtain ⟨hv2_2_0, h, hl⟩ := hP
  refine lv_iload_n hx hb dX12_isCovered_2 rfl (lv_at hl 3 rfl) ?_
  refine lv_aload_n hx hb dX12_isCovered_3 rfl (lv_at hl 0 rfl) ?_
  refine q_get X hK h 0 rfl rfl wf_12 1 (by decide) rfl wm_5_171 dX12_isCovered_4 ?_
  refine lv_iconst (v := 2) hx hb dX12_isCovered_7 (by decide) ?_
  refine q_iald X hK h 1 rfl (q_in (by decide +kernel)) dX12_isCovered_8 ?_
  obtain ⟨z_3, ez_3, hz_3⟩ := al_P rf0 (x := 2) (show (2 : Int32).toInt = 2 by decide) (by omega) (by omega)
  refine q_c z_3 ez_3 ?_
  clear ez_3
  refine lv_icmp_ge (tgt := 40) hx hb dX12_isCovered_9 (by decide) (fun c_4 => ?_) (fun c_4 => ?_)
  · replace c_4 := i_le (x := z_3) (y := v2_2_0) rfl rfl c_4
    refine lv_iconst (v := 1) hx hb dX12_isCovered_40 (by decide) ?_
    exact q_iret X hr hlk hK h rfl (fun _ => 0, fun _ _ => 0, fun _ _ => 0) ⟨⟨by decide +kernel, by decide +kernel⟩, trivial⟩ [0, 1, 2] rfl rfl dX12_isCovered_41 (Nat.le_of_ble_eq_true rfl) (Nat.le_of_ble_eq_true rfl)
  · replace c_4 := i_nle (x := z_3) (y := v2_2_0) rfl rfl c_4
    refine lv_iload_n hx hb dX12_isCovered_12 rfl (lv_at hl 1 rfl) ?_
    refine lv_i2l hx hb dX12_isCovered_13 rfl ?_
    obtain ⟨z_5, ez_5, hz_5⟩ := e_i2l (x := p0) rfl
    refine q_cl z_5 ez_5 ?_
    clear ez_5
    refine lv_iload_n hx hb dX12_isCovered_14 rfl (lv_at hl 3 rfl) ?_
    refine q_callSi (rest := []) (wr := (wk_e3ea295b8 cy h0 p2 h1 w0 w1 w2 p3 p4 p5 p6 p7 p8 p9 p10 p11 p12 p13 w3 w4 w5 h2 w6 p14 p15 w7 w8 w9 p16 p17 w10 w11 w12 w13 w14 p18 w15 w16 w17 h1 f0 h2 f1)) X hK hT hA h (fun sz => gX12_isIn_b0455a8 l D cy z_5 v2_2_0 ⟨by omega, by omega⟩ ⟨by omega, by omega⟩ sz) wm_6_167 wm_6_169 wm_1_12 hd_X12_isIn wm_6_168 ⟨Nat.le_of_ble_eq_true rfl, Nat.le_of_ble_eq_true rfl⟩ hl.1 rfl (Nat.le_of_ble_eq_true rfl) dX12_isCovered_15 ⟨Nat.le_of_ble_eq_true rfl, Nat.le_of_ble_eq_true rfl⟩ [] [0, 1, 2] rfl rfl (by decide) rfl rfl (fun r_6 u_6 H locs w_6 h_6 => ?_)
    clear h
    obtain ⟨wr_6, _⟩ := w_6
    replace h_6 : qW D _ _ (wk_e3ea295b8 cy h0 p2 h1 w0 w1 w2 p3 p4 p5 p6 p7 p8 p9 p10 p11 p12 p13 w3 w4 w5 h2 w6 p14 p15 w7 w8 w9 p16 p17 w10 w11 w12 w13 w14 p18 w15 w16 w17 h1 f0 h2 f1) _ _ := h_6
    refine q_jn (pc2 := 34) (fun H locs ls st => st = [] ∧ qW D (va_A (wk_e3ea295b8 cy h0 p2 h1 w0 w1 w2 p3 p4 p5 p6 p7 p8 p9 p10 p11 p12 p13 w3 w4 w5 h2 w6 p14 p15 w7 w8 w9 p16 p17 w10 w11 w12 w13 w14 p18 w15 w16 w17 h1 f0 h2 f1) sz) s.heap (wk_e3ea295b8 cy h0 p2 h1 w0 w1 w2 p3 p4 p5 p6 p7 p8 p9 p10 p11 p12 p13 w3 w4 w5 h2 w6 p14 p15 w7 w8 w9 p16 p17 w10 w11 w12 w13 w14 p18 w15 w16 w17 h1 f0 h2 f1) H locs ∧ lv_has ls 4 [(0, .ref h0), (1, .int p0), (2, .int p1), (3, .int v2_2_0)]) (fun H locs ls st hP => ?_) (fun J_34 => ?_)
    · obtain ⟨rfl, h, hl⟩ := hP
      obtain ⟨z_8, ez_8, hz_8⟩ := e_add (x := v2_2_0) (y := Int32.ofInt 1) rfl (b := 1) (by decide) (by omega) (by omega)
      refine lv_iinc (v := z_8) (lv' := [(3, .int z_8), (0, .ref h0), (1, .int p0), (2, .int p1)]) hx hb dX12_isCovered_34 hl (k := 3) rfl ez_8 (by decide) rfl (fun ls_8 hl_8 => ?_)
      clear hl
      refine lv_goto (tgt := 2) hx hb dX12_isCovered_37 (by decide) ?_
      exact ih_2 z_8 (by show (11 - (z_8).toInt).toNat < (11 - (v2_2_0).toInt).toNat; omega) _ _ _ ⟨⟨by omega, by omega⟩, h, (lv_sub hl_8 [1, 2, 3, 0] rfl)⟩
    · skip
      refine lv_if_eq (tgt := 34) hx hb dX12_isCovered_18 (by decide) (fun c_9 => ?_) (fun c_9 => ?_)
      · replace c_9 := i_eq (x := r_6) (y := 0) rfl (show (0 : Int32).toInt = 0 by decide) c_9
        exact J_34 _ _ _ _ ⟨rfl, h_6, (lv_sub hl [0, 1, 2, 3] rfl)⟩
      · replace c_9 := i_ne (x := r_6) (y := 0) rfl (show (0 : Int32).toInt = 0 by decide) c_9
        refine lv_aload_n hx hb dX12_isCovered_21 rfl (lv_at hl 0 rfl) ?_
        refine q_get X hK h_6 0 rfl rfl wf_12 19 (by decide) rfl wm_5_189 dX12_isCovered_22 ?_
        refine lv_iload_n hx hb dX12_isCovered_25 rfl (lv_at hl 3 rfl) ?_
        refine q_iald X hK h_6 2 rfl (i_in rfl (by omega) (by omega)) dX12_isCovered_26 ?_
        obtain ⟨z_10, ez_10, hz_10⟩ := rg_get rf1 (x := v2_2_0) rfl (by omega) (by omega)
        refine q_c z_10 ez_10 ?_
        clear ez_10
        refine lv_iload_n hx hb dX12_isCovered_27 rfl (lv_at hl 2 rfl) ?_
        refine lv_iand hx hb dX12_isCovered_28 ?_
        obtain ⟨z_11, ez_11, hz_11⟩ := e_and2 (x := z_10) (y := p1) rfl (by omega)
        refine q_c z_11 ez_11 ?_
        clear ez_11
        refine lv_if_ne (tgt := 34) hx hb dX12_isCovered_29 (by decide) (fun c_12 => ?_) (fun c_12 => ?_)
        · replace c_12 := i_ne (x := z_11) (y := 0) rfl (show (0 : Int32).toInt = 0 by decide) c_12
          exact J_34 _ _ _ _ ⟨rfl, h_6, (lv_sub hl [0, 1, 2, 3] rfl)⟩
        · replace c_12 := i_eq (x := z_11) (y := 0) rfl (show (0 : Int32).toInt = 0 by decide) c_12
          refine lv_iconst (v := 0) hx hb dX12_isCovered_32 (by decide) ?_
          exact q_iret X hr hlk hK h_6 rfl (fun _ => 0, fun _ _ => 0, fun _ _ => 0) ⟨⟨by decide +kernel, by decide +kernel⟩, trivial⟩ [0, 1, 2] rfl rfl dX12_isCovered_33 (Nat.le_of_ble_eq_true rfl) (Nat.le_of_ble_eq_true rfl)
set_option maxHeartbeats 4000000 in
set_option maxRecDepth 100000 in
theorem gX12_cover_d5ae595 (l : Launch) (D : va_G) (cy : Nat → ClassId) (h0 : Nat) (h1 : Nat) (h2 : Nat) (h3 : Nat) (h4 : Nat) (p0 : Int32) (p1 : Int32) (p2 : Int32) (w0 : Value) (w1 : Value) (w2 : Value) (p3 : Int32) (p4 : Int32) (p5 : Int32) (p6 : Int32) (p7 : Int32) (p8 : Int32) (p9 : Int32) (p10 : Int32) (p11 : Int32) (p12 : Int32) (p13 : Int32) (w3 : Value) (w4 : Value) (p14 : Int32) (p15 : Int32) (w5 : Value) (w6 : Value) (w7 : Value) (p16 : Int32) (p17 : Int32) (w8 : Value) (w9 : Value) (w10 : Value) (w11 : Value) (w12 : Value) (p18 : Int32) (w13 : Value) (w14 : Value) (w15 : Value) (f0 : Nat → Int32) (p19 : Int32) (f1 : Nat → Int32) (f2 : Nat → Int32) (f3 : Nat → Int32) (hp0 : (-2147483648) ≤ (p0).toInt ∧ (p0).toInt ≤ 2147483647) (hp1 : (-2147483648) ≤ (p1).toInt ∧ (p1).toInt ≤ 2147483647) (hp2 : (-2147483648) ≤ (p2).toInt ∧ (p2).toInt ≤ 2147483647) (hp3 : 0 ≤ (p3).toInt ∧ (p3).toInt ≤ 900) (hp4 : 0 ≤ (p4).toInt ∧ (p4).toInt ≤ 900) (hp5 : 0 ≤ (p5).toInt ∧ (p5).toInt ≤ 900) (hp6 : 0 ≤ (p6).toInt ∧ (p6).toInt ≤ 900) (hp7 : (-2147483648) ≤ (p7).toInt ∧ (p7).toInt ≤ 2147483647) (hp8 : 0 ≤ (p8).toInt ∧ (p8).toInt ≤ 999) (hp9 : (-2147483648) ≤ (p9).toInt ∧ (p9).toInt ≤ 2147483647) (hp10 : (-2147483648) ≤ (p10).toInt ∧ (p10).toInt ≤ 2147483647) (hp11 : (-2147483648) ≤ (p11).toInt ∧ (p11).toInt ≤ 2147483647) (hp12 : (-2147483648) ≤ (p12).toInt ∧ (p12).toInt ≤ 2147483647) (hp13 : (-2147483648) ≤ (p13).toInt ∧ (p13).toInt ≤ 2147483647) (hp14 : (-2147483648) ≤ (p14).toInt ∧ (p14).toInt ≤ 2147483647) (hp15 : (-2147483648) ≤ (p15).toInt ∧ (p15).toInt ≤ 2147483647) (hp16 : (-2147483648) ≤ (p16).toInt ∧ (p16).toInt ≤ 2147483647) (hp17 : (-2147483648) ≤ (p17).toInt ∧ (p17).toInt ≤ 2147483647) (hp18 : (-2147483648) ≤ (p18).toInt ∧ (p18).toInt ≤ 2147483647) (hp19 : 0 ≤ (p19).toInt ∧ (p19).toInt ≤ 10) (htf0_84 : f0 84 = p19) (rf0 : AL f0) (rf3 : RG f3 10 0 1023) (sz : Nat) : MI l yX12_cover cX12_cover 6 .int { frames := 4, cells := 0, slots := 0, locals := 94 } [.ref h0, .int p0, .int p1] D cy (wk_8b19a8a79 cy h0 p2 h1 w0 w1 w2 p3 p4 p5 p6 p7 p8 p9 p10 p11 p12 p13 h2 h3 w3 h4 w4 p14 p15 w5 w6 w7 p16 p17 w8 w9 w10 w11 w12 p18 w13 w14 w15 h1 f0 h2 f1 h3 f2 h4 f3) sz (fun r u => ((-3) ≤ r.toInt ∧ r.toInt ≤ 1023) ∧ RG (u.2.1 2) 10 0 1023 ∧ (0 ≤ (u.2.1 3 0).toInt ∧ (u.2.1 3 0).toInt ≤ 0) ∧ True) (fun u => (wk_8b19a8a79 cy h0 (u.2.1 3 0) h1 w0 w1 w2 p3 p4 p5 p6 p7 p8 p9 p10 p11 p12 p13 h2 h3 w3 h4 w4 p14 p15 w5 w6 w7 p16 p17 w8 w9 w10 w11 w12 p18 w13 w14 w15 h1 f0 h2 (u.2.1 0) h3 (u.2.1 1) h4 (u.2.1 2))) 0 0 := by
  refine q_ent (own := RX12) (by decide) rfl (Nat.le_of_ble_eq_true rfl) (fun p e s m below meth c ls X hr hlk hnm hK hT h hA hl => ?_)
  obtain ⟨hx, hb, hml, hown, ht⟩ := id X
  replace hl : lv_has ls 6 [(0, .ref h0), (1, .int p0), (2, .int p1)] := hl
  refine lv_aload_n hx hb dX12_cover_0 rfl (lv_at hl 0 rfl) ?_
  refine lv_iconst (v := 0) hx hb dX12_cover_1 (by decide) ?_
  refine q_put (v := .int 0) X hK h 0 rfl rfl wf_12 tyX12 tyX12_ok nmX12 0 (by decide) wm_5_170 rfl rfl rfl (Nat.le_of_ble_eq_true rfl) dX12_cover_2 (fun H locs h_1 => ?_)
  clear h
  replace h_1 : qW D _ _ (wk_8b19a8a79 cy h0 0 h1 w0 w1 w2 p3 p4 p5 p6 p7 p8 p9 p10 p11 p12 p13 h2 h3 w3 h4 w4 p14 p15 w5 w6 w7 p16 p17 w8 w9 w10 w11 w12 p18 w13 w14 w15 h1 f0 h2 f1 h3 f2 h4 f3) _ _ := h_1
  refine lv_iload_n hx hb dX12_cover_5 rfl (lv_at hl 2 rfl) ?_
  refine lv_i2l hx hb dX12_cover_6 rfl ?_
  obtain ⟨z_2, ez_2, hz_2⟩ := e_i2l (x := p1) rfl
  refine q_cl z_2 ez_2 ?_
  clear ez_2
  refine lv_lconst (v := 0) hx hb dX12_cover_7 (by decide) ?_
  refine lv_lconst (v := 1) hx hb dX12_cover_8 (by decide) ?_
  refine q_callSi (rest := []) (wr := (wk_8b19a8a79 cy h0 0 h1 w0 w1 w2 p3 p4 p5 p6 p7 p8 p9 p10 p11 p12 p13 h2 h3 w3 h4 w4 p14 p15 w5 w6 w7 p16 p17 w8 w9 w10 w11 w12 p18 w13 w14 w15 h1 f0 h2 f1 h3 f2 h4 f3)) X hK hT hA h_1 (fun sz => gX12_within_00c7897 l D cy z_2 (0 : Int64) (1 : Int64) (j_rng _) ⟨by decide +kernel, by decide +kernel⟩ ⟨by decide +kernel, by decide +kernel⟩ sz) wm_6_50 wm_6_52 wm_1_12 hd_X12_within wm_6_51 ⟨Nat.le_of_ble_eq_true rfl, Nat.le_of_ble_eq_true rfl⟩ hl.1 rfl (Nat.le_of_ble_eq_true rfl) dX12_cover_9 ⟨Nat.le_of_ble_eq_true rfl, Nat.le_of_ble_eq_true rfl⟩ [] [0, 1, 2, 3, 4] rfl rfl (by decide) rfl rfl (fun r_3 u_3 H locs w_3 h_3 => ?_)
  clear h_1
  obtain ⟨wr_3, y3_0, _⟩ := w_3
  have lq_3_1 : (0 : Int64).toInt = 0 := (by decide)
  have lq_3_2 : (1 : Int64).toInt = 1 := (by decide)
  replace h_3 : qW D _ _ (wk_8b19a8a79 cy h0 0 h1 w0 w1 w2 p3 p4 p5 p6 p7 p8 p9 p10 p11 p12 p13 h2 h3 w3 h4 w4 p14 p15 w5 w6 w7 p16 p17 w8 w9 w10 w11 w12 p18 w13 w14 w15 h1 f0 h2 f1 h3 f2 h4 f3) _ _ := h_3
  refine lv_if_ne (tgt := 18) hx hb dX12_cover_12 (by decide) (fun c_4 => ?_) (fun c_4 => ?_)
  · replace c_4 := i_ne (x := r_3) (y := 0) rfl (show (0 : Int32).toInt = 0 by decide) c_4
    replace y3_0 := a10_1 y3_0 c_4
    refine lv_aload_n hx hb dX12_cover_18 rfl (lv_at hl 0 rfl) ?_
    refine lv_iload_n hx hb dX12_cover_19 rfl (lv_at hl 1 rfl) ?_
    refine q_callVi (rest := []) (wr := (wk_ce6a1f133 cy h2 f1 h3 f2 h4 f3)) X hK hT hA h_3 (fun sz => gX12_isSet_9166d70 l D cy h0 h1 p0 (0 : Int32) w0 w1 w2 p3 p4 p5 p6 p7 p8 p9 p10 p11 p12 p13 (.ref h2) (.ref h3) w3 (.ref h4) w4 p14 p15 w5 w6 w7 p16 p17 w8 w9 w10 w11 w12 p18 w13 w14 w15 f0 p19 (i_rng _) ⟨by decide +kernel, by decide +kernel⟩ hp3 hp4 hp5 hp6 (i_rng _) hp8 (i_rng _) (i_rng _) (i_rng _) (i_rng _) (i_rng _) (i_rng _) (i_rng _) (i_rng _) (i_rng _) (i_rng _) hp19 htf0_84 rf0 sz) wm_7_96 wm_7_99 wm_1_12 hd_X12_isSet wm_7_98 wp_7_1 (ci := 12) (q0 := 0) rfl rfl ⟨Nat.le_of_ble_eq_true rfl, Nat.le_of_ble_eq_true rfl⟩ hl.1 rfl (Nat.le_of_ble_eq_true rfl) dX12_cover_20 ⟨Nat.le_of_ble_eq_true rfl, Nat.le_of_ble_eq_true rfl⟩ [0, 1] [2, 3, 4] rfl rfl (by decide) rfl rfl (fun r_5 u_5 H locs w_5 h_5 => ?_)
    clear h_3
    obtain ⟨wr_5, y5_0, _⟩ := w_5
    replace h_5 : qW D _ _ (wk_6bef7693d cy h2 f1 h3 f2 h4 f3 h0 0 h1 w0 w1 w2 p3 p4 p5 p6 p7 p8 p9 p10 p11 p12 p13 h2 h3 w3 h4 w4 p14 p15 w5 w6 w7 p16 p17 w8 w9 w10 w11 w12 p18 w13 w14 w15 h1 f0) _ _ := h_5
    refine lv_if_ne (tgt := 29) hx hb dX12_cover_23 (by decide) (fun c_6 => ?_) (fun c_6 => ?_)
    · replace c_6 := i_ne (x := r_5) (y := 0) rfl (show (0 : Int32).toInt = 0 by decide) c_6
      refine lv_aload_n hx hb dX12_cover_29 rfl (lv_at hl 0 rfl) ?_
      refine lv_aload_n hx hb dX12_cover_30 rfl (lv_at hl 0 rfl) ?_
      refine q_get X hK h_5 3 rfl rfl wf_12 1 (by decide) rfl wm_5_171 dX12_cover_31 ?_
      refine lv_bipush (v := 52) hx hb dX12_cover_34 (by decide) ?_
      refine q_iald X hK h_5 4 rfl (q_in (by decide +kernel)) dX12_cover_36 ?_
      refine q_any (fun z_7 hz_7 => ?_)
      refine q_callVv (rest := []) (wr := []) X hK hT hA h_5 (fun sz => gX12_laysOpposed_6a814f8 l D cy h0 h1 h2 h3 h4 z_7 (0 : Int32) w0 w1 w2 p3 p4 p5 p6 p7 p8 p9 p10 p11 p12 p13 w3 w4 p14 p15 w5 w6 w7 p16 p17 w8 w9 w10 w11 w12 p18 w13 w14 w15 f0 p19 f1 f2 f3 (i_rng _) ⟨by decide +kernel, by decide +kernel⟩ hp3 hp4 hp5 hp6 (i_rng _) hp8 (i_rng _) (i_rng _) (i_rng _) (i_rng _) (i_rng _) (i_rng _) (i_rng _) (i_rng _) (i_rng _) (i_rng _) hp19 htf0_84 rf0 (rg_wide rf3 (by decide) (by decide)) sz) wm_7_59 wm_7_62 wm_1_12 hd_X12_laysOpposed wm_7_61 wp_6_12 (ci := 12) (q0 := 0) rfl rfl ⟨Nat.le_of_ble_eq_true rfl, Nat.le_of_ble_eq_true rfl⟩ hl.1 rfl (Nat.le_of_ble_eq_true rfl) dX12_cover_37 ⟨Nat.le_of_ble_eq_true rfl, Nat.le_of_ble_eq_true rfl⟩ [3, 4, 0, 1, 2] [] rfl rfl (by decide) rfl rfl (fun u_8 H locs w_8 h_8 => ?_)
      clear h_5
      obtain ⟨w8_0, _⟩ := w_8
      replace h_8 : qW D _ _ (wk_8b19a8a79 cy h0 0 h1 w0 w1 w2 p3 p4 p5 p6 p7 p8 p9 p10 p11 p12 p13 h2 h3 w3 h4 w4 p14 p15 w5 w6 w7 p16 p17 w8 w9 w10 w11 w12 p18 w13 w14 w15 h1 f0 h2 (u_8.2.1 0) h3 (u_8.2.1 1) h4 (u_8.2.1 2)) _ _ := h_8
      refine lv_aload_n hx hb dX12_cover_40 rfl (lv_at hl 0 rfl) ?_
      refine q_callVi (rest := []) (wr := (wk_ce6a1f133 cy h2 (u_8.2.1 0) h3 (u_8.2.1 1) h4 (u_8.2.1 2))) X hK hT hA h_8 (fun sz => gX12_townNow_2907b4b l D cy h0 h1 (0 : Int32) w0 w1 w2 p3 p4 p5 p6 p7 p8 p9 p10 p11 p12 p13 (.ref h2) (.ref h3) w3 (.ref h4) w4 p14 p15 w5 w6 w7 p16 p17 w8 w9 w10 w11 w12 p18 w13 w14 w15 f0 p19 ⟨by decide +kernel, by decide +kernel⟩ hp3 hp4 hp5 hp6 (i_rng _) hp8 (i_rng _) (i_rng _) (i_rng _) (i_rng _) (i_rng _) (i_rng _) (i_rng _) (i_rng _) (i_rng _) (i_rng _) hp19 htf0_84 rf0 sz) wm_6_170 wm_6_173 wm_1_12 hd_X12_townNow wm_6_172 wp_5_9 (ci := 12) (q0 := 0) rfl rfl ⟨Nat.le_of_ble_eq_true rfl, Nat.le_of_ble_eq_true rfl⟩ hl.1 rfl (Nat.le_of_ble_eq_true rfl) dX12_cover_41 ⟨Nat.le_of_ble_eq_true rfl, Nat.le_of_ble_eq_true rfl⟩ [0, 1] [2, 3, 4] rfl rfl (by decide) rfl rfl (fun r_9 u_9 H locs w_9 h_9 => ?_)
      clear h_8
      obtain ⟨wr_9, _⟩ := w_9
      replace h_9 : qW D _ _ (wk_6bef7693d cy h2 (u_8.2.1 0) h3 (u_8.2.1 1) h4 (u_8.2.1 2) h0 0 h1 w0 w1 w2 p3 p4 p5 p6 p7 p8 p9 p10 p11 p12 p13 h2 h3 w3 h4 w4 p14 p15 w5 w6 w7 p16 p17 w8 w9 w10 w11 w12 p18 w13 w14 w15 h1 f0) _ _ := h_9
      refine lv_iload_n hx hb dX12_cover_44 rfl (lv_at hl 1 rfl) ?_
      refine lv_iconst (v := (-1)) hx hb dX12_cover_45 (by decide) ?_
      refine lv_ixor hx hb dX12_cover_46 ?_
      refine q_any (fun z_10 hz_10 => ?_)
      refine lv_iand hx hb dX12_cover_47 ?_
      obtain ⟨z_11, ez_11, hz_11⟩ := e_and1 (x := r_9) (y := z_10) rfl (by omega)
      refine q_c z_11 ez_11 ?_
      clear ez_11
      refine lv_istore_n (lv' := [(3, .int z_11), (0, .ref h0), (1, .int p0), (2, .int p1)]) hx hb dX12_cover_48 rfl hl (by decide) rfl (fun ls_12 hl_12 => ?_)
      clear hl
      refine lv_iconst (v := (-1)) hx hb dX12_cover_49 (by decide) ?_
      refine lv_istore (lv' := [(4, .int (-1)), (3, .int z_11), (0, .ref h0), (1, .int p0), (2, .int p1)]) hx hb dX12_cover_50 hl_12 (by decide) rfl (fun ls_13 hl_13 => ?_)
      clear hl_12
      refine lv_iconst (v := 0) hx hb dX12_cover_52 (by decide) ?_
      refine lv_istore (lv' := [(5, .int 0), (4, .int (-1)), (3, .int z_11), (0, .ref h0), (1, .int p0), (2, .int p1)]) hx hb dX12_cover_53 hl_13 (by decide) rfl (fun ls_14 hl_14 => ?_)
      clear hl_13
      refine q_wl (fun (q : Int32 × Int32) H locs ls => match q with | (v55_15_0, v55_15_1) => (0 ≤ (v55_15_0).toInt ∧ (v55_15_0).toInt ≤ 1024) ∧ ((-1) ≤ (v55_15_1).toInt ∧ (v55_15_1).toInt ≤ 1023) ∧ qW D (va_A (wk_8b19a8a79 cy h0 p2 h1 w0 w1 w2 p3 p4 p5 p6 p7 p8 p9 p10 p11 p12 p13 h2 h3 w3 h4 w4 p14 p15 w5 w6 w7 p16 p17 w8 w9 w10 w11 w12 p18 w13 w14 w15 h1 f0 h2 f1 h3 f2 h4 f3) sz) s.heap (wk_6bef7693d cy h2 (u_8.2.1 0) h3 (u_8.2.1 1) h4 (u_8.2.1 2) h0 0 h1 w0 w1 w2 p3 p4 p5 p6 p7 p8 p9 p10 p11 p12 p13 h2 h3 w3 h4 w4 p14 p15 w5 w6 w7 p16 p17 w8 w9 w10 w11 w12 p18 w13 w14 w15 h1 f0) H locs ∧ lv_has ls 6 [(0, .ref h0), (1, .int p0), (2, .int p1), (3, .int z_11), (4, .int v55_15_1), (5, .int v55_15_0)]) (fun (q : Int32 × Int32) => match q with | (v55_15_0, v55_15_1) => (1025 - (v55_15_0).toInt).toNat) (fun q_55 ih_55 H locs ls hP => ?_) (0, (-1)) ⟨⟨by decide +kernel, by decide +kernel⟩, ⟨by decide +kernel, by decide +kernel⟩, h_9, (lv_sub hl_14 [3, 4, 5, 2, 1, 0] rfl)⟩
      obtain ⟨v55_15_0, v55_15_1⟩ := q_55
      obtain ⟨hv55_15_0, hv55_15_1, h, hl⟩ := hP
      refine lv_iload hx hb dX12_cover_55 (lv_at hl 5 rfl) ?_
      refine lv_iload_n hx hb dX12_cover_57 rfl (lv_at hl 3 rfl) ?_
      refine lv_icmp_gt (tgt := 109) hx hb dX12_cover_58 (by decide) (fun c_16 => ?_) (fun c_16 => ?_)
      · replace c_16 := i_lt (x := z_11) (y := v55_15_0) rfl rfl c_16
        refine lv_iload hx hb dX12_cover_109 (lv_at hl 4 rfl) ?_
        refine lv_iconst (v := (-1)) hx hb dX12_cover_111 (by decide) ?_
        refine q_jn (pc2 := 130) (fun H locs ls st => ∃ v130_17_0 : Int32, ((-1) ≤ (v130_17_0).toInt ∧ (v130_17_0).toInt ≤ 1023) ∧ st = [.int v130_17_0] ∧ qW D (va_A (wk_8b19a8a79 cy h0 p2 h1 w0 w1 w2 p3 p4 p5 p6 p7 p8 p9 p10 p11 p12 p13 h2 h3 w3 h4 w4 p14 p15 w5 w6 w7 p16 p17 w8 w9 w10 w11 w12 p18 w13 w14 w15 h1 f0 h2 f1 h3 f2 h4 f3) sz) s.heap (wk_6bef7693d cy h2 (u_8.2.1 0) h3 (u_8.2.1 1) h4 (u_8.2.1 2) h0 0 h1 w0 w1 w2 p3 p4 p5 p6 p7 p8 p9 p10 p11 p12 p13 h2 h3 w3 h4 w4 p14 p15 w5 w6 w7 p16 p17 w8 w9 w10 w11 w12 p18 w13 w14 w15 h1 f0) H locs ∧ lv_has ls 6 [(0, .ref h0), (1, .int p0), (2, .int p1), (3, .int z_11), (4, .int v55_15_1), (5, .int v55_15_0)]) (fun H locs ls st hP => ?_) (fun J_130 => ?_)
        · obtain ⟨v130_17_0, hv130_17_0, rfl, h, hl⟩ := hP
          exact q_iret X hr hlk hK h rfl (fun _ => 0, (vcons (u_8.2.1 0) (vcons (u_8.2.1 1) (vcons (u_8.2.1 2) (vcons (fun _ => 0) (fun _ => (fun _ => 0)))))), fun _ _ => 0) ⟨(bw hv130_17_0 (by decide) (by decide)), (rg_wide w8_0 (by decide) (by decide)), (⟨by decide +kernel, by decide +kernel⟩ : 0 ≤ (0 : Int32).toInt ∧ (0 : Int32).toInt ≤ 0), trivial⟩ [3, 4, 0, 1, 2] rfl rfl dX12_cover_130 (Nat.le_of_ble_eq_true rfl) (Nat.le_of_ble_eq_true rfl)
        · skip
          refine q_jn (pc2 := 120) (fun H locs ls st => st = [] ∧ qW D (va_A (wk_8b19a8a79 cy h0 p2 h1 w0 w1 w2 p3 p4 p5 p6 p7 p8 p9 p10 p11 p12 p13 h2 h3 w3 h4 w4 p14 p15 w5 w6 w7 p16 p17 w8 w9 w10 w11 w12 p18 w13 w14 w15 h1 f0 h2 f1 h3 f2 h4 f3) sz) s.heap (wk_6bef7693d cy h2 (u_8.2.1 0) h3 (u_8.2.1 1) h4 (u_8.2.1 2) h0 0 h1 w0 w1 w2 p3 p4 p5 p6 p7 p8 p9 p10 p11 p12 p13 h2 h3 w3 h4 w4 p14 p15 w5 w6 w7 p16 p17 w8 w9 w10 w11 w12 p18 w13 w14 w15 h1 f0) H locs ∧ lv_has ls 6 [(0, .ref h0), (1, .int p0), (2, .int p1), (3, .int z_11), (4, .int v55_15_1), (5, .int v55_15_0)]) (fun H locs ls st hP => ?_) (fun J_120 => ?_)
          · obtain ⟨rfl, h, hl⟩ := hP
            refine lv_iload hx hb dX12_cover_120 (lv_at hl 4 rfl) ?_
            refine lv_goto (tgt := 130) hx hb dX12_cover_122 (by decide) ?_
            exact J_130 _ _ _ _ ⟨v55_15_1, hv55_15_1, rfl, h, (lv_sub hl [0, 1, 2, 3, 4, 5] rfl)⟩
          · skip
            refine lv_icmp_eq (tgt := 120) hx hb dX12_cover_112 (by decide) (fun c_19 => ?_) (fun c_19 => ?_)
            · replace c_19 := i_eq (x := v55_15_1) (y := (-1)) rfl (show ((-1) : Int32).toInt = -1 by decide) c_19
              exact J_120 _ _ _ _ ⟨rfl, h, (lv_sub hl [0, 1, 2, 3, 4, 5] rfl)⟩
            · replace c_19 := i_ne (x := v55_15_1) (y := (-1)) rfl (show ((-1) : Int32).toInt = -1 by decide) c_19
              refine lv_iload_n hx hb dX12_cover_115 rfl (lv_at hl 2 rfl) ?_
              refine lv_iconst (v := 1) hx hb dX12_cover_116 (by decide) ?_
              refine lv_icmp_ne (tgt := 125) hx hb dX12_cover_117 (by decide) (fun c_20 => ?_) (fun c_20 => ?_)
              · replace c_20 := i_ne (x := p1) (y := 1) rfl (show (1 : Int32).toInt = 1 by decide) c_20
                refine lv_iload hx hb dX12_cover_125 (lv_at hl 4 rfl) ?_
                refine q_callSi (rest := []) (wr := (wk_6bef7693d cy h2 (u_8.2.1 0) h3 (u_8.2.1 1) h4 (u_8.2.1 2) h0 0 h1 w0 w1 w2 p3 p4 p5 p6 p7 p8 p9 p10 p11 p12 p13 h2 h3 w3 h4 w4 p14 p15 w5 w6 w7 p16 p17 w8 w9 w10 w11 w12 p18 w13 w14 w15 h1 f0)) X hK hT hA h (fun sz => gX12_bitsOf_5a43b1c l D cy v55_15_1 (i_rng _) sz) wm_7_8 wm_7_10 wm_1_12 hd_X12_bitsOf wm_7_9 ⟨Nat.le_of_ble_eq_true rfl, Nat.le_of_ble_eq_true rfl⟩ hl.1 rfl (Nat.le_of_ble_eq_true rfl) dX12_cover_127 ⟨Nat.le_of_ble_eq_true rfl, Nat.le_of_ble_eq_true rfl⟩ [] [0, 1, 2, 3, 4] rfl rfl (by decide) rfl rfl (fun r_21 u_21 H locs w_21 h_21 => ?_)
                clear h
                obtain ⟨wr_21, _⟩ := w_21
                replace h_21 : qW D _ _ (wk_6bef7693d cy h2 (u_8.2.1 0) h3 (u_8.2.1 1) h4 (u_8.2.1 2) h0 0 h1 w0 w1 w2 p3 p4 p5 p6 p7 p8 p9 p10 p11 p12 p13 h2 h3 w3 h4 w4 p14 p15 w5 w6 w7 p16 p17 w8 w9 w10 w11 w12 p18 w13 w14 w15 h1 f0) _ _ := h_21
                exact J_130 _ _ _ _ ⟨r_21, (bw wr_21 (by decide) (by decide)), rfl, h_21, (lv_sub hl [0, 1, 2, 3, 4, 5] rfl)⟩
              · replace c_20 := i_eq (x := p1) (y := 1) rfl (show (1 : Int32).toInt = 1 by decide) c_20
                exact J_120 _ _ _ _ ⟨rfl, h, (lv_sub hl [0, 1, 2, 3, 4, 5] rfl)⟩
      · replace c_16 := i_nlt (x := z_11) (y := v55_15_0) rfl rfl c_16
        refine lv_iload hx hb dX12_cover_61 (lv_at hl 5 rfl) ?_
        refine lv_iload_n hx hb dX12_cover_63 rfl (lv_at hl 3 rfl) ?_
        refine lv_iconst (v := (-1)) hx hb dX12_cover_64 (by decide) ?_
        refine lv_ixor hx hb dX12_cover_65 ?_
        refine q_any (fun z_22 hz_22 => ?_)
        refine lv_iand hx hb dX12_cover_66 ?_
        obtain ⟨z_23, ez_23, hz_23⟩ := e_and1 (x := v55_15_0) (y := z_22) rfl (by omega)
        refine q_c z_23 ez_23 ?_
        clear ez_23
        refine q_jn (pc2 := 103) (fun H locs ls st => ∃ v103_24_0 : Int32, ((-1) ≤ (v103_24_0).toInt ∧ (v103_24_0).toInt ≤ 1023) ∧ st = [] ∧ qW D (va_A (wk_8b19a8a79 cy h0 p2 h1 w0 w1 w2 p3 p4 p5 p6 p7 p8 p9 p10 p11 p12 p13 h2 h3 w3 h4 w4 p14 p15 w5 w6 w7 p16 p17 w8 w9 w10 w11 w12 p18 w13 w14 w15 h1 f0 h2 f1 h3 f2 h4 f3) sz) s.heap (wk_6bef7693d cy h2 (u_8.2.1 0) h3 (u_8.2.1 1) h4 (u_8.2.1 2) h0 0 h1 w0 w1 w2 p3 p4 p5 p6 p7 p8 p9 p10 p11 p12 p13 h2 h3 w3 h4 w4 p14 p15 w5 w6 w7 p16 p17 w8 w9 w10 w11 w12 p18 w13 w14 w15 h1 f0) H locs ∧ lv_has ls 6 [(0, .ref h0), (1, .int p0), (2, .int p1), (3, .int z_11), (4, .int v103_24_0), (5, .int v55_15_0)]) (fun H locs ls st hP => ?_) (fun J_103 => ?_)
        · obtain ⟨v103_24_0, hv103_24_0, rfl, h, hl⟩ := hP
          obtain ⟨z_25, ez_25, hz_25⟩ := e_add (x := v55_15_0) (y := Int32.ofInt 1) rfl (b := 1) (by decide) (by omega) (by omega)
          refine lv_iinc (v := z_25) (lv' := [(5, .int z_25), (0, .ref h0), (1, .int p0), (2, .int p1), (3, .int z_11), (4, .int v103_24_0)]) hx hb dX12_cover_103 hl (k := 5) rfl ez_25 (by decide) rfl (fun ls_25 hl_25 => ?_)
          clear hl
          refine lv_goto (tgt := 55) hx hb dX12_cover_106 (by decide) ?_
          exact ih_55 (z_25, v103_24_0) (by show (1025 - (z_25).toInt).toNat < (1025 - (v55_15_0).toInt).toNat; omega) _ _ _ ⟨⟨by omega, by omega⟩, hv103_24_0, h, (lv_sub hl_25 [1, 2, 3, 4, 5, 0] rfl)⟩
        · skip
          refine lv_if_ne (tgt := 103) hx hb dX12_cover_67 (by decide) (fun c_26 => ?_) (fun c_26 => ?_)
          · replace c_26 := i_ne (x := z_23) (y := 0) rfl (show (0 : Int32).toInt = 0 by decide) c_26
            exact J_103 _ _ _ _ ⟨v55_15_1, hv55_15_1, rfl, h, (lv_sub hl [0, 1, 2, 3, 4, 5] rfl)⟩
          · replace c_26 := i_eq (x := z_23) (y := 0) rfl (show (0 : Int32).toInt = 0 by decide) c_26
            refine lv_iload hx hb dX12_cover_70 (lv_at hl 4 rfl) ?_
            refine lv_iconst (v := (-1)) hx hb dX12_cover_72 (by decide) ?_
            refine q_jn (pc2 := 89) (fun H locs ls st => st = [] ∧ qW D (va_A (wk_8b19a8a79 cy h0 p2 h1 w0 w1 w2 p3 p4 p5 p6 p7 p8 p9 p10 p11 p12 p13 h2 h3 w3 h4 w4 p14 p15 w5 w6 w7 p16 p17 w8 w9 w10 w11 w12 p18 w13 w14 w15 h1 f0 h2 f1 h3 f2 h4 f3) sz) s.heap (wk_6bef7693d cy h2 (u_8.2.1 0) h3 (u_8.2.1 1) h4 (u_8.2.1 2) h0 0 h1 w0 w1 w2 p3 p4 p5 p6 p7 p8 p9 p10 p11 p12 p13 h2 h3 w3 h4 w4 p14 p15 w5 w6 w7 p16 p17 w8 w9 w10 w11 w12 p18 w13 w14 w15 h1 f0) H locs ∧ lv_has ls 6 [(0, .ref h0), (1, .int p0), (2, .int p1), (3, .int z_11), (4, .int v55_15_1), (5, .int v55_15_0)]) (fun H locs ls st hP => ?_) (fun J_89 => ?_)
            · obtain ⟨rfl, h, hl⟩ := hP
              refine lv_aload_n hx hb dX12_cover_89 rfl (lv_at hl 0 rfl) ?_
              refine lv_iload_n hx hb dX12_cover_90 rfl (lv_at hl 1 rfl) ?_
              refine lv_iload hx hb dX12_cover_91 (lv_at hl 5 rfl) ?_
              refine q_callVi (rest := []) (wr := (wk_3fb6de35f cy h2 (u_8.2.1 0) h3 (u_8.2.1 1))) X hK hT hA h (fun sz => gX12_isCovered_05a556d l D cy h0 h1 h4 p0 v55_15_0 (0 : Int32) w0 w1 w2 p3 p4 p5 p6 p7 p8 p9 p10 p11 p12 p13 (.ref h2) (.ref h3) w3 w4 p14 p15 w5 w6 w7 p16 p17 w8 w9 w10 w11 w12 p18 w13 w14 w15 f0 p19 (u_8.2.1 2) ⟨by omega, by omega⟩ ⟨by omega, by omega⟩ ⟨by decide +kernel, by decide +kernel⟩ hp3 hp4 hp5 hp6 (i_rng _) hp8 (i_rng _) (i_rng _) (i_rng _) (i_rng _) (i_rng _) (i_rng _) (i_rng _) (i_rng _) (i_rng _) (i_rng _) hp19 htf0_84 rf0 (rg_wide w8_0 (by decide) (by decide)) sz) wm_7_152 wm_7_155 wm_1_12 hd_X12_isCovered wm_7_154 wp_7_7 (ci := 12) (q0 := 0) rfl rfl ⟨Nat.le_of_ble_eq_true rfl, Nat.le_of_ble_eq_true rfl⟩ hl.1 rfl (Nat.le_of_ble_eq_true rfl) dX12_cover_93 ⟨Nat.le_of_ble_eq_true rfl, Nat.le_of_ble_eq_true rfl⟩ [3, 4, 2] [0, 1] rfl rfl (by decide) rfl rfl (fun r_28 u_28 H locs w_28 h_28 => ?_)
              clear h
              obtain ⟨wr_28, _⟩ := w_28
              replace h_28 : qW D _ _ (wk_a841d4271 cy h2 (u_8.2.1 0) h3 (u_8.2.1 1) h0 0 h1 w0 w1 w2 p3 p4 p5 p6 p7 p8 p9 p10 p11 p12 p13 h2 h3 w3 h4 w4 p14 p15 w5 w6 w7 p16 p17 w8 w9 w10 w11 w12 p18 w13 w14 w15 h1 f0 h4 (u_8.2.1 2)) _ _ := h_28
              refine lv_if_eq (tgt := 103) hx hb dX12_cover_96 (by decide) (fun c_29 => ?_) (fun c_29 => ?_)
              · replace c_29 := i_eq (x := r_28) (y := 0) rfl (show (0 : Int32).toInt = 0 by decide) c_29
                exact J_103 _ _ _ _ ⟨v55_15_1, hv55_15_1, rfl, (q_re h_28 [0, 1, 4, 2, 3] rfl rfl), (lv_sub hl [0, 1, 2, 3, 4, 5] rfl)⟩
              · replace c_29 := i_ne (x := r_28) (y := 0) rfl (show (0 : Int32).toInt = 0 by decide) c_29
                refine lv_iload hx hb dX12_cover_99 (lv_at hl 5 rfl) ?_
                refine lv_istore (lv' := [(4, .int v55_15_0), (0, .ref h0), (1, .int p0), (2, .int p1), (3, .int z_11), (5, .int v55_15_0)]) hx hb dX12_cover_101 hl (by decide) rfl (fun ls_30 hl_30 => ?_)
                clear hl
                exact J_103 _ _ _ _ ⟨v55_15_0, ⟨by omega, by omega⟩, rfl, (q_re h_28 [0, 1, 4, 2, 3] rfl rfl), (lv_sub hl_30 [1, 2, 3, 4, 0, 5] rfl)⟩
            · skip
              refine lv_icmp_eq (tgt := 89) hx hb dX12_cover_73 (by decide) (fun c_31 => ?_) (fun c_31 => ?_)
              · replace c_31 := i_eq (x := v55_15_1) (y := (-1)) rfl (show ((-1) : Int32).toInt = -1 by decide) c_31
                exact J_89 _ _ _ _ ⟨rfl, h, (lv_sub hl [0, 1, 2, 3, 4, 5] rfl)⟩
              · replace c_31 := i_ne (x := v55_15_1) (y := (-1)) rfl (show ((-1) : Int32).toInt = -1 by decide) c_31
                refine lv_iload hx hb dX12_cover_76 (lv_at hl 5 rfl) ?_
                refine q_callSi (rest := []) (wr := (wk_6bef7693d cy h2 (u_8.2.1 0) h3 (u_8.2.1 1) h4 (u_8.2.1 2) h0 0 h1 w0 w1 w2 p3 p4 p5 p6 p7 p8 p9 p10 p11 p12 p13 h2 h3 w3 h4 w4 p14 p15 w5 w6 w7 p16 p17 w8 w9 w10 w11 w12 p18 w13 w14 w15 h1 f0)) X hK hT hA h (fun sz => gX12_bitsOf_5a43b1c l D cy v55_15_0 (i_rng _) sz) wm_7_8 wm_7_10 wm_1_12 hd_X12_bitsOf wm_7_9 ⟨Nat.le_of_ble_eq_true rfl, Nat.le_of_ble_eq_true rfl⟩ hl.1 rfl (Nat.le_of_ble_eq_true rfl) dX12_cover_78 ⟨Nat.le_of_ble_eq_true rfl, Nat.le_of_ble_eq_true rfl⟩ [] [0, 1, 2, 3, 4] rfl rfl (by decide) rfl rfl (fun r_32 u_32 H locs w_32 h_32 => ?_)
                clear h
                obtain ⟨wr_32, _⟩ := w_32
                replace h_32 : qW D _ _ (wk_6bef7693d cy h2 (u_8.2.1 0) h3 (u_8.2.1 1) h4 (u_8.2.1 2) h0 0 h1 w0 w1 w2 p3 p4 p5 p6 p7 p8 p9 p10 p11 p12 p13 h2 h3 w3 h4 w4 p14 p15 w5 w6 w7 p16 p17 w8 w9 w10 w11 w12 p18 w13 w14 w15 h1 f0) _ _ := h_32
                refine lv_iload hx hb dX12_cover_81 (lv_at hl 4 rfl) ?_
                refine q_callSi (rest := [.int r_32]) (wr := (wk_6bef7693d cy h2 (u_8.2.1 0) h3 (u_8.2.1 1) h4 (u_8.2.1 2) h0 0 h1 w0 w1 w2 p3 p4 p5 p6 p7 p8 p9 p10 p11 p12 p13 h2 h3 w3 h4 w4 p14 p15 w5 w6 w7 p16 p17 w8 w9 w10 w11 w12 p18 w13 w14 w15 h1 f0)) X hK hT hA h_32 (fun sz => gX12_bitsOf_5a43b1c l D cy v55_15_1 (i_rng _) sz) wm_7_8 wm_7_10 wm_1_12 hd_X12_bitsOf wm_7_9 ⟨Nat.le_of_ble_eq_true rfl, Nat.le_of_ble_eq_true rfl⟩ hl.1 rfl (Nat.le_of_ble_eq_true rfl) dX12_cover_83 ⟨Nat.le_of_ble_eq_true rfl, Nat.le_of_ble_eq_true rfl⟩ [] [0, 1, 2, 3, 4] rfl rfl (by decide) rfl rfl (fun r_33 u_33 H locs w_33 h_33 => ?_)
                clear h_32
                obtain ⟨wr_33, _⟩ := w_33
                replace h_33 : qW D _ _ (wk_6bef7693d cy h2 (u_8.2.1 0) h3 (u_8.2.1 1) h4 (u_8.2.1 2) h0 0 h1 w0 w1 w2 p3 p4 p5 p6 p7 p8 p9 p10 p11 p12 p13 h2 h3 w3 h4 w4 p14 p15 w5 w6 w7 p16 p17 w8 w9 w10 w11 w12 p18 w13 w14 w15 h1 f0) _ _ := h_33
                refine lv_icmp_ge (tgt := 103) hx hb dX12_cover_86 (by decide) (fun c_34 => ?_) (fun c_34 => ?_)
                · replace c_34 := i_le (x := r_33) (y := r_32) rfl rfl c_34
                  exact J_103 _ _ _ _ ⟨v55_15_1, hv55_15_1, rfl, h_33, (lv_sub hl [0, 1, 2, 3, 4, 5] rfl)⟩
                · replace c_34 := i_nle (x := r_33) (y := r_32) rfl rfl c_34
                  exact J_89 _ _ _ _ ⟨rfl, h_33, (lv_sub hl [0, 1, 2, 3, 4, 5] rfl)⟩
    · replace c_6 := i_eq (x := r_5) (y := 0) rfl (show (0 : Int32).toInt = 0 by decide) c_6
      refine lv_bipush (v := (-3)) hx hb dX12_cover_26 (by decide) ?_
      exact q_iret X hr hlk hK h_5 rfl (fun _ => 0, (vcons f1 (vcons f2 (vcons f3 (vcons (fun _ => 0) (fun _ => (fun _ => 0)))))), fun _ _ => 0) ⟨⟨by decide +kernel, by decide +kernel⟩, (rg_wide rf3 (by decide) (by decide)), (⟨by decide +kernel, by decide +kernel⟩ : 0 ≤ (0 : Int32).toInt ∧ (0 : Int32).toInt ≤ 0), trivial⟩ [3, 4, 0, 1, 2] rfl rfl dX12_cover_28 (Nat.le_of_ble_eq_true rfl) (Nat.le_of_ble_eq_true rfl)
  · replace c_4 := i_eq (x := r_3) (y := 0) rfl (show (0 : Int32).toInt = 0 by decide) c_4
    replace y3_0 := a10_0 y3_0 c_4
    refine lv_bipush (v := (-2)) hx hb dX12_cover_15 (by decide) ?_
    exact q_iret X hr hlk hK h_3 rfl (fun _ => 0, (vcons f1 (vcons f2 (vcons f3 (vcons (fun _ => 0) (fun _ => (fun _ => 0)))))), fun _ _ => 0) ⟨⟨by decide +kernel, by decide +kernel⟩, (rg_wide rf3 (by decide) (by decide)), (⟨by decide +kernel, by decide +kernel⟩ : 0 ≤ (0 : Int32).toInt ∧ (0 : Int32).toInt ≤ 0), trivial⟩ [0, 1, 2, 3, 4] rfl rfl dX12_cover_17 (Nat.le_of_ble_eq_true rfl) (Nat.le_of_ble_eq_true rfl)
set_option maxHeartbeats 4000000 in
set_option maxRecDepth 100000 in
theorem gX12_laundress_296ccea (l : Launch) (D : va_G) (cy : Nat → ClassId) (h0 : Nat) (h1 : Nat) (h2 : Nat) (h3 : Nat) (h4 : Nat) (p0 : Int32) (p1 : Int32) (w0 : Value) (w1 : Value) (w2 : Value) (p2 : Int32) (p3 : Int32) (p4 : Int32) (p5 : Int32) (p6 : Int32) (p7 : Int32) (p8 : Int32) (p9 : Int32) (p10 : Int32) (p11 : Int32) (p12 : Int32) (w3 : Value) (w4 : Value) (p13 : Int32) (p14 : Int32) (w5 : Value) (w6 : Value) (w7 : Value) (p15 : Int32) (p16 : Int32) (w8 : Value) (w9 : Value) (w10 : Value) (w11 : Value) (w12 : Value) (p17 : Int32) (w13 : Value) (w14 : Value) (w15 : Value) (f0 : Nat → Int32) (p18 : Int32) (f1 : Nat → Int32) (f2 : Nat → Int32) (f3 : Nat → Int32) (hp0 : (-2147483648) ≤ (p0).toInt ∧ (p0).toInt ≤ 2147483647) (hp1 : (-2147483648) ≤ (p1).toInt ∧ (p1).toInt ≤ 2147483647) (hp2 : 0 ≤ (p2).toInt ∧ (p2).toInt ≤ 900) (hp3 : 0 ≤ (p3).toInt ∧ (p3).toInt ≤ 900) (hp4 : 0 ≤ (p4).toInt ∧ (p4).toInt ≤ 900) (hp5 : 0 ≤ (p5).toInt ∧ (p5).toInt ≤ 900) (hp6 : (-2147483648) ≤ (p6).toInt ∧ (p6).toInt ≤ 2147483647) (hp7 : 0 ≤ (p7).toInt ∧ (p7).toInt ≤ 999) (hp8 : (-2147483648) ≤ (p8).toInt ∧ (p8).toInt ≤ 2147483647) (hp9 : (-2147483648) ≤ (p9).toInt ∧ (p9).toInt ≤ 2147483647) (hp10 : (-2147483648) ≤ (p10).toInt ∧ (p10).toInt ≤ 2147483647) (hp11 : (-2147483648) ≤ (p11).toInt ∧ (p11).toInt ≤ 2147483647) (hp12 : (-2147483648) ≤ (p12).toInt ∧ (p12).toInt ≤ 2147483647) (hp13 : (-2147483648) ≤ (p13).toInt ∧ (p13).toInt ≤ 2147483647) (hp14 : (-2147483648) ≤ (p14).toInt ∧ (p14).toInt ≤ 2147483647) (hp15 : (-2147483648) ≤ (p15).toInt ∧ (p15).toInt ≤ 2147483647) (hp16 : (-2147483648) ≤ (p16).toInt ∧ (p16).toInt ≤ 2147483647) (hp17 : (-2147483648) ≤ (p17).toInt ∧ (p17).toInt ≤ 2147483647) (hp18 : 0 ≤ (p18).toInt ∧ (p18).toInt ≤ 10) (htf0_84 : f0 84 = p18) (rf0 : AL f0) (rf3 : RG f3 10 0 1023) (sz : Nat) : MI l yX12_laundress cX12_laundress 5 .int { frames := 4, cells := 0, slots := 0, locals := 94 } [.ref h0, .int p0] D cy (wk_8b19a8a79 cy h0 p1 h1 w0 w1 w2 p2 p3 p4 p5 p6 p7 p8 p9 p10 p11 p12 h2 h3 w3 h4 w4 p13 p14 w5 w6 w7 p15 p16 w8 w9 w10 w11 w12 p17 w13 w14 w15 h1 f0 h2 f1 h3 f2 h4 f3) sz (fun r u => ((-3) ≤ r.toInt ∧ r.toInt ≤ 9) ∧ RG (u.2.1 2) 10 0 1023 ∧ (0 ≤ (u.2.1 3 0).toInt ∧ (u.2.1 3 0).toInt ≤ 0) ∧ True) (fun u => (wk_8b19a8a79 cy h0 (u.2.1 3 0) h1 w0 w1 w2 p2 p3 p4 p5 p6 p7 p8 p9 p10 p11 p12 h2 h3 w3 h4 w4 p13 p14 w5 w6 w7 p15 p16 w8 w9 w10 w11 w12 p17 w13 w14 w15 h1 f0 h2 (u.2.1 0) h3 (u.2.1 1) h4 (u.2.1 2))) 0 0 := by
  refine q_ent (own := RX12) (by decide) rfl (Nat.le_of_ble_eq_true rfl) (fun p e s m below meth c ls X hr hlk hnm hK hT h hA hl => ?_)
  obtain ⟨hx, hb, hml, hown, ht⟩ := id X
  replace hl : lv_has ls 5 [(0, .ref h0), (1, .int p0)] := hl
  refine lv_aload_n hx hb dX12_laundress_0 rfl (lv_at hl 0 rfl) ?_
  refine lv_iconst (v := 0) hx hb dX12_laundress_1 (by decide) ?_
  refine q_put (v := .int 0) X hK h 0 rfl rfl wf_12 tyX12 tyX12_ok nmX12 0 (by decide) wm_5_170 rfl rfl rfl (Nat.le_of_ble_eq_true rfl) dX12_laundress_2 (fun H locs h_1 => ?_)
  clear h
  replace h_1 : qW D _ _ (wk_8b19a8a79 cy h0 0 h1 w0 w1 w2 p2 p3 p4 p5 p6 p7 p8 p9 p10 p11 p12 h2 h3 w3 h4 w4 p13 p14 w5 w6 w7 p15 p16 w8 w9 w10 w11 w12 p17 w13 w14 w15 h1 f0 h2 f1 h3 f2 h4 f3) _ _ := h_1
  refine lv_aload_n hx hb dX12_laundress_5 rfl (lv_at hl 0 rfl) ?_
  refine lv_iload_n hx hb dX12_laundress_6 rfl (lv_at hl 1 rfl) ?_
  refine q_callVi (rest := []) (wr := (wk_ce6a1f133 cy h2 f1 h3 f2 h4 f3)) X hK hT hA h_1 (fun sz => gX12_isSet_9166d70 l D cy h0 h1 p0 (0 : Int32) w0 w1 w2 p2 p3 p4 p5 p6 p7 p8 p9 p10 p11 p12 (.ref h2) (.ref h3) w3 (.ref h4) w4 p13 p14 w5 w6 w7 p15 p16 w8 w9 w10 w11 w12 p17 w13 w14 w15 f0 p18 (i_rng _) ⟨by decide +kernel, by decide +kernel⟩ hp2 hp3 hp4 hp5 (i_rng _) hp7 (i_rng _) (i_rng _) (i_rng _) (i_rng _) (i_rng _) (i_rng _) (i_rng _) (i_rng _) (i_rng _) (i_rng _) hp18 htf0_84 rf0 sz) wm_7_96 wm_7_99 wm_1_12 hd_X12_isSet wm_7_98 wp_7_1 (ci := 12) (q0 := 0) rfl rfl ⟨Nat.le_of_ble_eq_true rfl, Nat.le_of_ble_eq_true rfl⟩ hl.1 rfl (Nat.le_of_ble_eq_true rfl) dX12_laundress_7 ⟨Nat.le_of_ble_eq_true rfl, Nat.le_of_ble_eq_true rfl⟩ [0, 1] [2, 3, 4] rfl rfl (by decide) rfl rfl (fun r_2 u_2 H locs w_2 h_2 => ?_)
  clear h_1
  obtain ⟨wr_2, y2_0, _⟩ := w_2
  replace h_2 : qW D _ _ (wk_6bef7693d cy h2 f1 h3 f2 h4 f3 h0 0 h1 w0 w1 w2 p2 p3 p4 p5 p6 p7 p8 p9 p10 p11 p12 h2 h3 w3 h4 w4 p13 p14 w5 w6 w7 p15 p16 w8 w9 w10 w11 w12 p17 w13 w14 w15 h1 f0) _ _ := h_2
  refine lv_if_ne (tgt := 16) hx hb dX12_laundress_10 (by decide) (fun c_3 => ?_) (fun c_3 => ?_)
  · replace c_3 := i_ne (x := r_2) (y := 0) rfl (show (0 : Int32).toInt = 0 by decide) c_3
    refine lv_aload_n hx hb dX12_laundress_16 rfl (lv_at hl 0 rfl) ?_
    refine lv_aload_n hx hb dX12_laundress_17 rfl (lv_at hl 0 rfl) ?_
    refine q_get X hK h_2 3 rfl rfl wf_12 1 (by decide) rfl wm_5_171 dX12_laundress_18 ?_
    refine lv_bipush (v := 52) hx hb dX12_laundress_21 (by decide) ?_
    refine q_iald X hK h_2 4 rfl (q_in (by decide +kernel)) dX12_laundress_23 ?_
    refine q_any (fun z_4 hz_4 => ?_)
    refine q_callVv (rest := []) (wr := []) X hK hT hA h_2 (fun sz => gX12_laysOpposed_6a814f8 l D cy h0 h1 h2 h3 h4 z_4 (0 : Int32) w0 w1 w2 p2 p3 p4 p5 p6 p7 p8 p9 p10 p11 p12 w3 w4 p13 p14 w5 w6 w7 p15 p16 w8 w9 w10 w11 w12 p17 w13 w14 w15 f0 p18 f1 f2 f3 (i_rng _) ⟨by decide +kernel, by decide +kernel⟩ hp2 hp3 hp4 hp5 (i_rng _) hp7 (i_rng _) (i_rng _) (i_rng _) (i_rng _) (i_rng _) (i_rng _) (i_rng _) (i_rng _) (i_rng _) (i_rng _) hp18 htf0_84 rf0 (rg_wide rf3 (by decide) (by decide)) sz) wm_7_59 wm_7_62 wm_1_12 hd_X12_laysOpposed wm_7_61 wp_6_12 (ci := 12) (q0 := 0) rfl rfl ⟨Nat.le_of_ble_eq_true rfl, Nat.le_of_ble_eq_true rfl⟩ hl.1 rfl (Nat.le_of_ble_eq_true rfl) dX12_laundress_24 ⟨Nat.le_of_ble_eq_true rfl, Nat.le_of_ble_eq_true rfl⟩ [3, 4, 0, 1, 2] [] rfl rfl (by decide) rfl rfl (fun u_5 H locs w_5 h_5 => ?_)
    clear h_2
    obtain ⟨w5_0, _⟩ := w_5
    replace h_5 : qW D _ _ (wk_8b19a8a79 cy h0 0 h1 w0 w1 w2 p2 p3 p4 p5 p6 p7 p8 p9 p10 p11 p12 h2 h3 w3 h4 w4 p13 p14 w5 w6 w7 p15 p16 w8 w9 w10 w11 w12 p17 w13 w14 w15 h1 f0 h2 (u_5.2.1 0) h3 (u_5.2.1 1) h4 (u_5.2.1 2)) _ _ := h_5
    refine lv_aload_n hx hb dX12_laundress_27 rfl (lv_at hl 0 rfl) ?_
    refine q_callVi (rest := []) (wr := (wk_ce6a1f133 cy h2 (u_5.2.1 0) h3 (u_5.2.1 1) h4 (u_5.2.1 2))) X hK hT hA h_5 (fun sz => gX12_townNow_2907b4b l D cy h0 h1 (0 : Int32) w0 w1 w2 p2 p3 p4 p5 p6 p7 p8 p9 p10 p11 p12 (.ref h2) (.ref h3) w3 (.ref h4) w4 p13 p14 w5 w6 w7 p15 p16 w8 w9 w10 w11 w12 p17 w13 w14 w15 f0 p18 ⟨by decide +kernel, by decide +kernel⟩ hp2 hp3 hp4 hp5 (i_rng _) hp7 (i_rng _) (i_rng _) (i_rng _) (i_rng _) (i_rng _) (i_rng _) (i_rng _) (i_rng _) (i_rng _) (i_rng _) hp18 htf0_84 rf0 sz) wm_6_170 wm_6_173 wm_1_12 hd_X12_townNow wm_6_172 wp_5_9 (ci := 12) (q0 := 0) rfl rfl ⟨Nat.le_of_ble_eq_true rfl, Nat.le_of_ble_eq_true rfl⟩ hl.1 rfl (Nat.le_of_ble_eq_true rfl) dX12_laundress_28 ⟨Nat.le_of_ble_eq_true rfl, Nat.le_of_ble_eq_true rfl⟩ [0, 1] [2, 3, 4] rfl rfl (by decide) rfl rfl (fun r_6 u_6 H locs w_6 h_6 => ?_)
    clear h_5
    obtain ⟨wr_6, _⟩ := w_6
    replace h_6 : qW D _ _ (wk_6bef7693d cy h2 (u_5.2.1 0) h3 (u_5.2.1 1) h4 (u_5.2.1 2) h0 0 h1 w0 w1 w2 p2 p3 p4 p5 p6 p7 p8 p9 p10 p11 p12 h2 h3 w3 h4 w4 p13 p14 w5 w6 w7 p15 p16 w8 w9 w10 w11 w12 p17 w13 w14 w15 h1 f0) _ _ := h_6
    refine lv_iload_n hx hb dX12_laundress_31 rfl (lv_at hl 1 rfl) ?_
    refine lv_iconst (v := (-1)) hx hb dX12_laundress_32 (by decide) ?_
    refine lv_ixor hx hb dX12_laundress_33 ?_
    refine q_any (fun z_7 hz_7 => ?_)
    refine lv_iand hx hb dX12_laundress_34 ?_
    obtain ⟨z_8, ez_8, hz_8⟩ := e_and1 (x := r_6) (y := z_7) rfl (by omega)
    refine q_c z_8 ez_8 ?_
    clear ez_8
    refine lv_istore_n (lv' := [(2, .int z_8), (0, .ref h0), (1, .int p0)]) hx hb dX12_laundress_35 rfl hl (by decide) rfl (fun ls_9 hl_9 => ?_)
    clear hl
    refine lv_iconst (v := (-1)) hx hb dX12_laundress_36 (by decide) ?_
    refine lv_istore_n (lv' := [(3, .int (-1)), (2, .int z_8), (0, .ref h0), (1, .int p0)]) hx hb dX12_laundress_37 rfl hl_9 (by decide) rfl (fun ls_10 hl_10 => ?_)
    clear hl_9
    refine lv_iconst (v := 0) hx hb dX12_laundress_38 (by decide) ?_
    refine lv_istore (lv' := [(4, .int 0), (3, .int (-1)), (2, .int z_8), (0, .ref h0), (1, .int p0)]) hx hb dX12_laundress_39 hl_10 (by decide) rfl (fun ls_11 hl_11 => ?_)
    clear hl_10
    refine q_wl (fun (q : Int32 × Int32) H locs ls => match q with | (v41_12_0, v41_12_1) => (0 ≤ (v41_12_0).toInt ∧ (v41_12_0).toInt ≤ 10) ∧ ((-1) ≤ (v41_12_1).toInt ∧ (v41_12_1).toInt ≤ 9) ∧ qW D (va_A (wk_8b19a8a79 cy h0 p1 h1 w0 w1 w2 p2 p3 p4 p5 p6 p7 p8 p9 p10 p11 p12 h2 h3 w3 h4 w4 p13 p14 w5 w6 w7 p15 p16 w8 w9 w10 w11 w12 p17 w13 w14 w15 h1 f0 h2 f1 h3 f2 h4 f3) sz) s.heap (wk_6bef7693d cy h2 (u_5.2.1 0) h3 (u_5.2.1 1) h4 (u_5.2.1 2) h0 0 h1 w0 w1 w2 p2 p3 p4 p5 p6 p7 p8 p9 p10 p11 p12 h2 h3 w3 h4 w4 p13 p14 w5 w6 w7 p15 p16 w8 w9 w10 w11 w12 p17 w13 w14 w15 h1 f0) H locs ∧ lv_has ls 5 [(0, .ref h0), (1, .int p0), (2, .int z_8), (3, .int v41_12_1), (4, .int v41_12_0)]) (fun (q : Int32 × Int32) => match q with | (v41_12_0, v41_12_1) => (11 - (v41_12_0).toInt).toNat) (fun q_41 ih_41 H locs ls hP => ?_) (0, (-1)) ⟨⟨by decide +kernel, by decide +kernel⟩, ⟨by decide +kernel, by decide +kernel⟩, h_6, (lv_sub hl_11 [3, 4, 2, 1, 0] rfl)⟩
    obtain ⟨v41_12_0, v41_12_1⟩ := q_41
    obtain ⟨hv41_12_0, hv41_12_1, h, hl⟩ := hP
    refine lv_iload hx hb dX12_laundress_41 (lv_at hl 4 rfl) ?_
    refine lv_aload_n hx hb dX12_laundress_43 rfl (lv_at hl 0 rfl) ?_
    refine q_get X hK h 3 rfl rfl wf_12 1 (by decide) rfl wm_5_171 dX12_laundress_44 ?_
    refine lv_iconst (v := 2) hx hb dX12_laundress_47 (by decide) ?_
    refine q_iald X hK h 4 rfl (q_in (by decide +kernel)) dX12_laundress_48 ?_
    obtain ⟨z_13, ez_13, hz_13⟩ := al_P rf0 (x := 2) (show (2 : Int32).toInt = 2 by decide) (by omega) (by omega)
    refine q_c z_13 ez_13 ?_
    clear ez_13
    refine lv_icmp_ge (tgt := 102) hx hb dX12_laundress_49 (by decide) (fun c_14 => ?_) (fun c_14 => ?_)
    · replace c_14 := i_le (x := z_13) (y := v41_12_0) rfl rfl c_14
      refine lv_iload_n hx hb dX12_laundress_102 rfl (lv_at hl 3 rfl) ?_
      exact q_iret X hr hlk hK h rfl (fun _ => 0, (vcons (u_5.2.1 0) (vcons (u_5.2.1 1) (vcons (u_5.2.1 2) (vcons (fun _ => 0) (fun _ => (fun _ => 0)))))), fun _ _ => 0) ⟨(bw hv41_12_1 (by decide) (by decide)), (rg_wide w5_0 (by decide) (by decide)), (⟨by decide +kernel, by decide +kernel⟩ : 0 ≤ (0 : Int32).toInt ∧ (0 : Int32).toInt ≤ 0), trivial⟩ [3, 4, 0, 1, 2] rfl rfl dX12_laundress_103 (Nat.le_of_ble_eq_true rfl) (Nat.le_of_ble_eq_true rfl)
    · replace c_14 := i_nle (x := z_13) (y := v41_12_0) rfl rfl c_14
      refine lv_iload_n hx hb dX12_laundress_52 rfl (lv_at hl 2 rfl) ?_
      refine lv_i2l hx hb dX12_laundress_53 rfl ?_
      obtain ⟨z_15, ez_15, hz_15⟩ := e_i2l (x := z_8) rfl
      refine q_cl z_15 ez_15 ?_
      clear ez_15
      refine lv_iload hx hb dX12_laundress_54 (lv_at hl 4 rfl) ?_
      refine q_callSi (rest := []) (wr := (wk_6bef7693d cy h2 (u_5.2.1 0) h3 (u_5.2.1 1) h4 (u_5.2.1 2) h0 0 h1 w0 w1 w2 p2 p3 p4 p5 p6 p7 p8 p9 p10 p11 p12 h2 h3 w3 h4 w4 p13 p14 w5 w6 w7 p15 p16 w8 w9 w10 w11 w12 p17 w13 w14 w15 h1 f0)) X hK hT hA h (fun sz => gX12_isIn_b0455a8 l D cy z_15 v41_12_0 ⟨by omega, by omega⟩ ⟨by omega, by omega⟩ sz) wm_6_167 wm_6_169 wm_1_12 hd_X12_isIn wm_6_168 ⟨Nat.le_of_ble_eq_true rfl, Nat.le_of_ble_eq_true rfl⟩ hl.1 rfl (Nat.le_of_ble_eq_true rfl) dX12_laundress_56 ⟨Nat.le_of_ble_eq_true rfl, Nat.le_of_ble_eq_true rfl⟩ [] [0, 1, 2, 3, 4] rfl rfl (by decide) rfl rfl (fun r_16 u_16 H locs w_16 h_16 => ?_)
      clear h
      obtain ⟨wr_16, _⟩ := w_16
      replace h_16 : qW D _ _ (wk_6bef7693d cy h2 (u_5.2.1 0) h3 (u_5.2.1 1) h4 (u_5.2.1 2) h0 0 h1 w0 w1 w2 p2 p3 p4 p5 p6 p7 p8 p9 p10 p11 p12 h2 h3 w3 h4 w4 p13 p14 w5 w6 w7 p15 p16 w8 w9 w10 w11 w12 p17 w13 w14 w15 h1 f0) _ _ := h_16
      refine q_jn (pc2 := 96) (fun H locs ls st => ∃ v96_17_0 : Int32, ((-1) ≤ (v96_17_0).toInt ∧ (v96_17_0).toInt ≤ 9) ∧ st = [] ∧ qW D (va_A (wk_8b19a8a79 cy h0 p1 h1 w0 w1 w2 p2 p3 p4 p5 p6 p7 p8 p9 p10 p11 p12 h2 h3 w3 h4 w4 p13 p14 w5 w6 w7 p15 p16 w8 w9 w10 w11 w12 p17 w13 w14 w15 h1 f0 h2 f1 h3 f2 h4 f3) sz) s.heap (wk_6bef7693d cy h2 (u_5.2.1 0) h3 (u_5.2.1 1) h4 (u_5.2.1 2) h0 0 h1 w0 w1 w2 p2 p3 p4 p5 p6 p7 p8 p9 p10 p11 p12 h2 h3 w3 h4 w4 p13 p14 w5 w6 w7 p15 p16 w8 w9 w10 w11 w12 p17 w13 w14 w15 h1 f0) H locs ∧ lv_has ls 5 [(0, .ref h0), (1, .int p0), (2, .int z_8), (3, .int v96_17_0), (4, .int v41_12_0)]) (fun H locs ls st hP => ?_) (fun J_96 => ?_)
      · obtain ⟨v96_17_0, hv96_17_0, rfl, h, hl⟩ := hP
        obtain ⟨z_18, ez_18, hz_18⟩ := e_add (x := v41_12_0) (y := Int32.ofInt 1) rfl (b := 1) (by decide) (by omega) (by omega)
        refine lv_iinc (v := z_18) (lv' := [(4, .int z_18), (0, .ref h0), (1, .int p0), (2, .int z_8), (3, .int v96_17_0)]) hx hb dX12_laundress_96 hl (k := 4) rfl ez_18 (by decide) rfl (fun ls_18 hl_18 => ?_)
        clear hl
        refine lv_goto (tgt := 41) hx hb dX12_laundress_99 (by decide) ?_
        exact ih_41 (z_18, v96_17_0) (by show (11 - (z_18).toInt).toNat < (11 - (v41_12_0).toInt).toNat; omega) _ _ _ ⟨⟨by omega, by omega⟩, hv96_17_0, h, (lv_sub hl_18 [1, 2, 3, 4, 0] rfl)⟩
      · skip
        refine lv_if_eq (tgt := 96) hx hb dX12_laundress_59 (by decide) (fun c_19 => ?_) (fun c_19 => ?_)
        · replace c_19 := i_eq (x := r_16) (y := 0) rfl (show (0 : Int32).toInt = 0 by decide) c_19
          exact J_96 _ _ _ _ ⟨v41_12_1, hv41_12_1, rfl, h_16, (lv_sub hl [0, 1, 2, 3, 4] rfl)⟩
        · replace c_19 := i_ne (x := r_16) (y := 0) rfl (show (0 : Int32).toInt = 0 by decide) c_19
          refine lv_iload_n hx hb dX12_laundress_62 rfl (lv_at hl 3 rfl) ?_
          refine lv_iconst (v := (-1)) hx hb dX12_laundress_63 (by decide) ?_
          refine q_jn (pc2 := 93) (fun H locs ls st => st = [] ∧ qW D (va_A (wk_8b19a8a79 cy h0 p1 h1 w0 w1 w2 p2 p3 p4 p5 p6 p7 p8 p9 p10 p11 p12 h2 h3 w3 h4 w4 p13 p14 w5 w6 w7 p15 p16 w8 w9 w10 w11 w12 p17 w13 w14 w15 h1 f0 h2 f1 h3 f2 h4 f3) sz) s.heap (wk_6bef7693d cy h2 (u_5.2.1 0) h3 (u_5.2.1 1) h4 (u_5.2.1 2) h0 0 h1 w0 w1 w2 p2 p3 p4 p5 p6 p7 p8 p9 p10 p11 p12 h2 h3 w3 h4 w4 p13 p14 w5 w6 w7 p15 p16 w8 w9 w10 w11 w12 p17 w13 w14 w15 h1 f0) H locs ∧ lv_has ls 5 [(0, .ref h0), (1, .int p0), (2, .int z_8), (3, .int v41_12_1), (4, .int v41_12_0)]) (fun H locs ls st hP => ?_) (fun J_93 => ?_)
          · obtain ⟨rfl, h, hl⟩ := hP
            refine lv_iload hx hb dX12_laundress_93 (lv_at hl 4 rfl) ?_
            refine lv_istore_n (lv' := [(3, .int v41_12_0), (0, .ref h0), (1, .int p0), (2, .int z_8), (4, .int v41_12_0)]) hx hb dX12_laundress_95 rfl hl (by decide) rfl (fun ls_21 hl_21 => ?_)
            clear hl
            exact J_96 _ _ _ _ ⟨v41_12_0, ⟨by omega, by omega⟩, rfl, h, (lv_sub hl_21 [1, 2, 3, 0, 4] rfl)⟩
          · skip
            refine lv_icmp_eq (tgt := 93) hx hb dX12_laundress_64 (by decide) (fun c_22 => ?_) (fun c_22 => ?_)
            · replace c_22 := i_eq (x := v41_12_1) (y := (-1)) rfl (show ((-1) : Int32).toInt = -1 by decide) c_22
              exact J_93 _ _ _ _ ⟨rfl, h_16, (lv_sub hl [0, 1, 2, 3, 4] rfl)⟩
            · replace c_22 := i_ne (x := v41_12_1) (y := (-1)) rfl (show ((-1) : Int32).toInt = -1 by decide) c_22
              refine lv_aload_n hx hb dX12_laundress_67 rfl (lv_at hl 0 rfl) ?_
              refine q_get X hK h_16 3 rfl rfl wf_12 19 (by decide) rfl wm_5_189 dX12_laundress_68 ?_
              refine lv_iload hx hb dX12_laundress_71 (lv_at hl 4 rfl) ?_
              refine q_iald X hK h_16 2 rfl (i_in rfl (by omega) (by omega)) dX12_laundress_73 ?_
              obtain ⟨z_23, ez_23, hz_23⟩ := rg_get w5_0 (x := v41_12_0) rfl (by omega) (by omega)
              refine q_c z_23 ez_23 ?_
              clear ez_23
              refine lv_iload_n hx hb dX12_laundress_74 rfl (lv_at hl 1 rfl) ?_
              refine lv_iand hx hb dX12_laundress_75 ?_
              obtain ⟨z_24, ez_24, hz_24⟩ := e_and2 (x := z_23) (y := p0) rfl (by omega)
              refine q_c z_24 ez_24 ?_
              clear ez_24
              refine q_callSi (rest := []) (wr := (wk_6bef7693d cy h2 (u_5.2.1 0) h3 (u_5.2.1 1) h4 (u_5.2.1 2) h0 0 h1 w0 w1 w2 p2 p3 p4 p5 p6 p7 p8 p9 p10 p11 p12 h2 h3 w3 h4 w4 p13 p14 w5 w6 w7 p15 p16 w8 w9 w10 w11 w12 p17 w13 w14 w15 h1 f0)) X hK hT hA h_16 (fun sz => gX12_bitsOf_5a43b1c l D cy z_24 (i_rng _) sz) wm_7_8 wm_7_10 wm_1_12 hd_X12_bitsOf wm_7_9 ⟨Nat.le_of_ble_eq_true rfl, Nat.le_of_ble_eq_true rfl⟩ hl.1 rfl (Nat.le_of_ble_eq_true rfl) dX12_laundress_76 ⟨Nat.le_of_ble_eq_true rfl, Nat.le_of_ble_eq_true rfl⟩ [] [0, 1, 2, 3, 4] rfl rfl (by decide) rfl rfl (fun r_25 u_25 H locs w_25 h_25 => ?_)
              clear h_16
              obtain ⟨wr_25, _⟩ := w_25
              replace h_25 : qW D _ _ (wk_6bef7693d cy h2 (u_5.2.1 0) h3 (u_5.2.1 1) h4 (u_5.2.1 2) h0 0 h1 w0 w1 w2 p2 p3 p4 p5 p6 p7 p8 p9 p10 p11 p12 h2 h3 w3 h4 w4 p13 p14 w5 w6 w7 p15 p16 w8 w9 w10 w11 w12 p17 w13 w14 w15 h1 f0) _ _ := h_25
              refine lv_aload_n hx hb dX12_laundress_79 rfl (lv_at hl 0 rfl) ?_
              refine q_get X hK h_25 3 rfl rfl wf_12 19 (by decide) rfl wm_5_189 dX12_laundress_80 ?_
              refine lv_iload_n hx hb dX12_laundress_83 rfl (lv_at hl 3 rfl) ?_
              refine q_iald X hK h_25 2 rfl (i_in rfl (by omega) (by omega)) dX12_laundress_84 ?_
              obtain ⟨z_26, ez_26, hz_26⟩ := rg_get w5_0 (x := v41_12_1) rfl (by omega) (by omega)
              refine q_c z_26 ez_26 ?_
              clear ez_26
              refine lv_iload_n hx hb dX12_laundress_85 rfl (lv_at hl 1 rfl) ?_
              refine lv_iand hx hb dX12_laundress_86 ?_
              obtain ⟨z_27, ez_27, hz_27⟩ := e_and2 (x := z_26) (y := p0) rfl (by omega)
              refine q_c z_27 ez_27 ?_
              clear ez_27
              refine q_callSi (rest := [.int r_25]) (wr := (wk_6bef7693d cy h2 (u_5.2.1 0) h3 (u_5.2.1 1) h4 (u_5.2.1 2) h0 0 h1 w0 w1 w2 p2 p3 p4 p5 p6 p7 p8 p9 p10 p11 p12 h2 h3 w3 h4 w4 p13 p14 w5 w6 w7 p15 p16 w8 w9 w10 w11 w12 p17 w13 w14 w15 h1 f0)) X hK hT hA h_25 (fun sz => gX12_bitsOf_5a43b1c l D cy z_27 (i_rng _) sz) wm_7_8 wm_7_10 wm_1_12 hd_X12_bitsOf wm_7_9 ⟨Nat.le_of_ble_eq_true rfl, Nat.le_of_ble_eq_true rfl⟩ hl.1 rfl (Nat.le_of_ble_eq_true rfl) dX12_laundress_87 ⟨Nat.le_of_ble_eq_true rfl, Nat.le_of_ble_eq_true rfl⟩ [] [0, 1, 2, 3, 4] rfl rfl (by decide) rfl rfl (fun r_28 u_28 H locs w_28 h_28 => ?_)
              clear h_25
              obtain ⟨wr_28, _⟩ := w_28
              replace h_28 : qW D _ _ (wk_6bef7693d cy h2 (u_5.2.1 0) h3 (u_5.2.1 1) h4 (u_5.2.1 2) h0 0 h1 w0 w1 w2 p2 p3 p4 p5 p6 p7 p8 p9 p10 p11 p12 h2 h3 w3 h4 w4 p13 p14 w5 w6 w7 p15 p16 w8 w9 w10 w11 w12 p17 w13 w14 w15 h1 f0) _ _ := h_28
              refine lv_icmp_le (tgt := 96) hx hb dX12_laundress_90 (by decide) (fun c_29 => ?_) (fun c_29 => ?_)
              · replace c_29 := i_le (x := r_25) (y := r_28) rfl rfl c_29
                exact J_96 _ _ _ _ ⟨v41_12_1, hv41_12_1, rfl, h_28, (lv_sub hl [0, 1, 2, 3, 4] rfl)⟩
              · replace c_29 := i_nle (x := r_25) (y := r_28) rfl rfl c_29
                exact J_93 _ _ _ _ ⟨rfl, h_28, (lv_sub hl [0, 1, 2, 3, 4] rfl)⟩
  · replace c_3 := i_eq (x := r_2) (y := 0) rfl (show (0 : Int32).toInt = 0 by decide) c_3
    refine lv_bipush (v := (-3)) hx hb dX12_laundress_13 (by decide) ?_
    exact q_iret X hr hlk hK h_2 rfl (fun _ => 0, (vcons f1 (vcons f2 (vcons f3 (vcons (fun _ => 0) (fun _ => (fun _ => 0)))))), fun _ _ => 0) ⟨⟨by decide +kernel, by decide +kernel⟩, (rg_wide rf3 (by decide) (by decide)), (⟨by decide +kernel, by decide +kernel⟩ : 0 ≤ (0 : Int32).toInt ∧ (0 : Int32).toInt ≤ 0), trivial⟩ [3, 4, 0, 1, 2] rfl rfl dX12_laundress_15 (Nat.le_of_ble_eq_true rfl) (Nat.le_of_ble_eq_true rfl)
set_option maxHeartbeats 4000000 in
set_option maxRecDepth 100000 in
theorem gX12_areTwo_839642f (l : Launch) (D : va_G) (cy : Nat → ClassId) (h0 : Nat) (h1 : Nat) (p0 : Int32) (p1 : Int32) (p2 : Int32) (w0 : Value) (w1 : Value) (w2 : Value) (p3 : Int32) (p4 : Int32) (p5 : Int32) (p6 : Int32) (p7 : Int32) (p8 : Int32) (p9 : Int32) (p10 : Int32) (p11 : Int32) (p12 : Int32) (p13 : Int32) (w3 : Value) (w4 : Value) (w5 : Value) (w6 : Value) (w7 : Value) (p14 : Int32) (p15 : Int32) (w8 : Value) (w9 : Value) (w10 : Value) (p16 : Int32) (p17 : Int32) (w11 : Value) (w12 : Value) (w13 : Value) (w14 : Value) (w15 : Value) (p18 : Int32) (w16 : Value) (w17 : Value) (w18 : Value) (f0 : Nat → Int32) (p19 : Int32) (hp0 : (-2147483648) ≤ (p0).toInt ∧ (p0).toInt ≤ 2147483647) (hp1 : (-2147483648) ≤ (p1).toInt ∧ (p1).toInt ≤ 2147483647) (hp2 : 0 ≤ (p2).toInt ∧ (p2).toInt ≤ 0) (hp3 : 0 ≤ (p3).toInt ∧ (p3).toInt ≤ 900) (hp4 : 0 ≤ (p4).toInt ∧ (p4).toInt ≤ 900) (hp5 : 0 ≤ (p5).toInt ∧ (p5).toInt ≤ 900) (hp6 : 0 ≤ (p6).toInt ∧ (p6).toInt ≤ 900) (hp7 : (-2147483648) ≤ (p7).toInt ∧ (p7).toInt ≤ 2147483647) (hp8 : 0 ≤ (p8).toInt ∧ (p8).toInt ≤ 999) (hp9 : (-2147483648) ≤ (p9).toInt ∧ (p9).toInt ≤ 2147483647) (hp10 : (-2147483648) ≤ (p10).toInt ∧ (p10).toInt ≤ 2147483647) (hp11 : (-2147483648) ≤ (p11).toInt ∧ (p11).toInt ≤ 2147483647) (hp12 : (-2147483648) ≤ (p12).toInt ∧ (p12).toInt ≤ 2147483647) (hp13 : (-2147483648) ≤ (p13).toInt ∧ (p13).toInt ≤ 2147483647) (hp14 : (-2147483648) ≤ (p14).toInt ∧ (p14).toInt ≤ 2147483647) (hp15 : (-2147483648) ≤ (p15).toInt ∧ (p15).toInt ≤ 2147483647) (hp16 : (-2147483648) ≤ (p16).toInt ∧ (p16).toInt ≤ 2147483647) (hp17 : (-2147483648) ≤ (p17).toInt ∧ (p17).toInt ≤ 2147483647) (hp18 : (-2147483648) ≤ (p18).toInt ∧ (p18).toInt ≤ 2147483647) (hp19 : 0 ≤ (p19).toInt ∧ (p19).toInt ≤ 10) (htf0_84 : f0 84 = p19) (rf0 : AL f0) (sz : Nat) : MI l yX12_areTwo cX12_areTwo 3 .boolean { frames := 2, cells := 0, slots := 0, locals := 47 } [.ref h0, .int p0, .int p1] D cy (wk_e1f596b07 cy h0 p2 h1 w0 w1 w2 p3 p4 p5 p6 p7 p8 p9 p10 p11 p12 p13 w3 w4 w5 w6 w7 p14 p15 w8 w9 w10 p16 p17 w11 w12 w13 w14 w15 p18 w16 w17 w18 h1 f0) sz (fun r u => (0 ≤ r.toInt ∧ r.toInt ≤ 1) ∧ ((r : Int32).toInt = 0 ∨ (0 ≤ (p0 : Int32).toInt ∧ (p0 : Int32).toInt ≤ 9 ∧ 0 ≤ (p1 : Int32).toInt ∧ (p1 : Int32).toInt ≤ 9)) ∧ True) (fun u => (wk_e1f596b07 cy h0 p2 h1 w0 w1 w2 p3 p4 p5 p6 p7 p8 p9 p10 p11 p12 p13 w3 w4 w5 w6 w7 p14 p15 w8 w9 w10 p16 p17 w11 w12 w13 w14 w15 p18 w16 w17 w18 h1 f0)) 0 0 := by
  refine q_ent (own := RX12) (by decide) rfl (Nat.le_of_ble_eq_true rfl) (fun p e s m below meth c ls X hr hlk hnm hK hT h hA hl => ?_)
  obtain ⟨hx, hb, hml, hown, ht⟩ := id X
  replace hl : lv_has ls 3 [(0, .ref h0), (1, .int p0), (2, .int p1)] := hl
  refine lv_aload_n hx hb dX12_areTwo_0 rfl (lv_at hl 0 rfl) ?_
  refine lv_iload_n hx hb dX12_areTwo_1 rfl (lv_at hl 1 rfl) ?_
  refine lv_i2l hx hb dX12_areTwo_2 rfl ?_
  obtain ⟨z_1, ez_1, hz_1⟩ := e_i2l (x := p0) rfl
  refine q_cl z_1 ez_1 ?_
  clear ez_1
  refine q_callVi (rest := []) (wr := []) X hK hT hA h (fun sz => gX12_isPerson_039c8d6 l D cy h0 h1 z_1 p2 w0 w1 w2 p3 p4 p5 p6 p7 p8 p9 p10 p11 p12 p13 w3 w4 w5 w6 w7 p14 p15 w8 w9 w10 p16 p17 w11 w12 w13 w14 w15 p18 w16 w17 w18 f0 p19 ⟨by omega, by omega⟩ hp2 hp3 hp4 hp5 hp6 (i_rng _) hp8 (i_rng _) (i_rng _) (i_rng _) (i_rng _) (i_rng _) (i_rng _) (i_rng _) (i_rng _) (i_rng _) (i_rng _) hp19 htf0_84 rf0 sz) wm_6_162 wm_6_165 wm_1_12 hd_X12_isPerson wm_6_164 wp_5_8 (ci := 12) (q0 := 0) rfl rfl ⟨Nat.le_of_ble_eq_true rfl, Nat.le_of_ble_eq_true rfl⟩ hl.1 rfl (Nat.le_of_ble_eq_true rfl) dX12_areTwo_3 ⟨Nat.le_of_ble_eq_true rfl, Nat.le_of_ble_eq_true rfl⟩ [0, 1] [] rfl rfl (by decide) rfl rfl (fun r_2 u_2 H locs w_2 h_2 => ?_)
  clear h
  obtain ⟨wr_2, y2_0, _⟩ := w_2
  replace h_2 : qW D _ _ (wk_e1f596b07 cy h0 p2 h1 w0 w1 w2 p3 p4 p5 p6 p7 p8 p9 p10 p11 p12 p13 w3 w4 w5 w6 w7 p14 p15 w8 w9 w10 p16 p17 w11 w12 w13 w14 w15 p18 w16 w17 w18 h1 f0) _ _ := h_2
  refine lv_if_eq (tgt := 27) hx hb dX12_areTwo_6 (by decide) (fun c_3 => ?_) (fun c_3 => ?_)
  · replace c_3 := i_eq (x := r_2) (y := 0) rfl (show (0 : Int32).toInt = 0 by decide) c_3
    refine lv_iconst (v := 0) hx hb dX12_areTwo_27 (by decide) ?_
    exact q_iret X hr hlk hK h_2 rfl (fun _ => 0, fun _ _ => 0, fun _ _ => 0) ⟨⟨by decide +kernel, by decide +kernel⟩, (show (0 : Int32).toInt = 0 ∨ (0 ≤ (p0 : Int32).toInt ∧ (p0 : Int32).toInt ≤ 9 ∧ 0 ≤ (p1 : Int32).toInt ∧ (p1 : Int32).toInt ≤ 9) from by have q0 : (0 : Int32).toInt = 0 := (by decide); (first | (clear y2_0; omega) | omega)), trivial⟩ [0, 1] rfl rfl dX12_areTwo_28 (Nat.le_of_ble_eq_true rfl) (Nat.le_of_ble_eq_true rfl)
  · replace c_3 := i_ne (x := r_2) (y := 0) rfl (show (0 : Int32).toInt = 0 by decide) c_3
    refine lv_aload_n hx hb dX12_areTwo_9 rfl (lv_at hl 0 rfl) ?_
    refine lv_iload_n hx hb dX12_areTwo_10 rfl (lv_at hl 2 rfl) ?_
    refine lv_i2l hx hb dX12_areTwo_11 rfl ?_
    obtain ⟨z_4, ez_4, hz_4⟩ := e_i2l (x := p1) rfl
    refine q_cl z_4 ez_4 ?_
    clear ez_4
    refine q_callVi (rest := []) (wr := []) X hK hT hA h_2 (fun sz => gX12_isPerson_039c8d6 l D cy h0 h1 z_4 p2 w0 w1 w2 p3 p4 p5 p6 p7 p8 p9 p10 p11 p12 p13 w3 w4 w5 w6 w7 p14 p15 w8 w9 w10 p16 p17 w11 w12 w13 w14 w15 p18 w16 w17 w18 f0 p19 ⟨by omega, by omega⟩ hp2 hp3 hp4 hp5 hp6 (i_rng _) hp8 (i_rng _) (i_rng _) (i_rng _) (i_rng _) (i_rng _) (i_rng _) (i_rng _) (i_rng _) (i_rng _) (i_rng _) hp19 htf0_84 rf0 sz) wm_6_162 wm_6_165 wm_1_12 hd_X12_isPerson wm_6_164 wp_5_8 (ci := 12) (q0 := 0) rfl rfl ⟨Nat.le_of_ble_eq_true rfl, Nat.le_of_ble_eq_true rfl⟩ hl.1 rfl (Nat.le_of_ble_eq_true rfl) dX12_areTwo_12 ⟨Nat.le_of_ble_eq_true rfl, Nat.le_of_ble_eq_true rfl⟩ [0, 1] [] rfl rfl (by decide) rfl rfl (fun r_5 u_5 H locs w_5 h_5 => ?_)
    clear h_2
    obtain ⟨wr_5, y5_0, _⟩ := w_5
    replace h_5 : qW D _ _ (wk_e1f596b07 cy h0 p2 h1 w0 w1 w2 p3 p4 p5 p6 p7 p8 p9 p10 p11 p12 p13 w3 w4 w5 w6 w7 p14 p15 w8 w9 w10 p16 p17 w11 w12 w13 w14 w15 p18 w16 w17 w18 h1 f0) _ _ := h_5
    refine lv_if_eq (tgt := 27) hx hb dX12_areTwo_15 (by decide) (fun c_6 => ?_) (fun c_6 => ?_)
    · replace c_6 := i_eq (x := r_5) (y := 0) rfl (show (0 : Int32).toInt = 0 by decide) c_6
      refine lv_iconst (v := 0) hx hb dX12_areTwo_27 (by decide) ?_
      exact q_iret X hr hlk hK h_5 rfl (fun _ => 0, fun _ _ => 0, fun _ _ => 0) ⟨⟨by decide +kernel, by decide +kernel⟩, (show (0 : Int32).toInt = 0 ∨ (0 ≤ (p0 : Int32).toInt ∧ (p0 : Int32).toInt ≤ 9 ∧ 0 ≤ (p1 : Int32).toInt ∧ (p1 : Int32).toInt ≤ 9) from by have q0 : (0 : Int32).toInt = 0 := (by decide); (first | (clear y2_0 y5_0; omega) | omega)), trivial⟩ [0, 1] rfl rfl dX12_areTwo_28 (Nat.le_of_ble_eq_true rfl) (Nat.le_of_ble_eq_true rfl)
    · replace c_6 := i_ne (x := r_5) (y := 0) rfl (show (0 : Int32).toInt = 0 by decide) c_6
      refine lv_iload_n hx hb dX12_areTwo_18 rfl (lv_at hl 1 rfl) ?_
      refine lv_iload_n hx hb dX12_areTwo_19 rfl (lv_at hl 2 rfl) ?_
      refine lv_icmp_eq (tgt := 27) hx hb dX12_areTwo_20 (by decide) (fun c_7 => ?_) (fun c_7 => ?_)
      · replace c_7 := i_eq (x := p0) (y := p1) rfl rfl c_7
        refine lv_iconst (v := 0) hx hb dX12_areTwo_27 (by decide) ?_
        exact q_iret X hr hlk hK h_5 rfl (fun _ => 0, fun _ _ => 0, fun _ _ => 0) ⟨⟨by decide +kernel, by decide +kernel⟩, (show (0 : Int32).toInt = 0 ∨ (0 ≤ (p0 : Int32).toInt ∧ (p0 : Int32).toInt ≤ 9 ∧ 0 ≤ (p1 : Int32).toInt ∧ (p1 : Int32).toInt ≤ 9) from by have q0 : (0 : Int32).toInt = 0 := (by decide); (first | (clear y2_0 y5_0; omega) | omega)), trivial⟩ [0, 1] rfl rfl dX12_areTwo_28 (Nat.le_of_ble_eq_true rfl) (Nat.le_of_ble_eq_true rfl)
      · replace c_7 := i_ne (x := p0) (y := p1) rfl rfl c_7
        refine lv_iconst (v := 1) hx hb dX12_areTwo_23 (by decide) ?_
        refine lv_goto (tgt := 28) hx hb dX12_areTwo_24 (by decide) ?_
        exact q_iret X hr hlk hK h_5 rfl (fun _ => 0, fun _ _ => 0, fun _ _ => 0) ⟨⟨by decide +kernel, by decide +kernel⟩, (show (1 : Int32).toInt = 0 ∨ (0 ≤ (p0 : Int32).toInt ∧ (p0 : Int32).toInt ≤ 9 ∧ 0 ≤ (p1 : Int32).toInt ∧ (p1 : Int32).toInt ≤ 9) from by have q0 : (1 : Int32).toInt = 1 := (by decide); (first | (clear y2_0 y5_0; omega) | omega)), trivial⟩ [0, 1] rfl rfl dX12_areTwo_28 (Nat.le_of_ble_eq_true rfl) (Nat.le_of_ble_eq_true rfl)
set_option maxHeartbeats 4000000 in
set_option maxRecDepth 100000 in
theorem gX12_viewsOf_bc3d930 (l : Launch) (D : va_G) (cy : Nat → ClassId) (h0 : Nat) (h1 : Nat) (p0 : Int32) (p1 : Int32) (w0 : Value) (w1 : Value) (w2 : Value) (p2 : Int32) (p3 : Int32) (p4 : Int32) (p5 : Int32) (p6 : Int32) (p7 : Int32) (p8 : Int32) (p9 : Int32) (p10 : Int32) (p11 : Int32) (p12 : Int32) (w3 : Value) (w4 : Value) (w5 : Value) (w6 : Value) (w7 : Value) (p13 : Int32) (p14 : Int32) (w8 : Value) (w9 : Value) (w10 : Value) (p15 : Int32) (p16 : Int32) (w11 : Value) (w12 : Value) (w13 : Value) (w14 : Value) (w15 : Value) (p17 : Int32) (w16 : Value) (w17 : Value) (w18 : Value) (f0 : Nat → Int32) (p18 : Int32) (hp0 : 0 ≤ (p0).toInt ∧ (p0).toInt ≤ 9) (hp1 : 0 ≤ (p1).toInt ∧ (p1).toInt ≤ 0) (hp2 : 0 ≤ (p2).toInt ∧ (p2).toInt ≤ 900) (hp3 : 0 ≤ (p3).toInt ∧ (p3).toInt ≤ 900) (hp4 : 0 ≤ (p4).toInt ∧ (p4).toInt ≤ 900) (hp5 : 0 ≤ (p5).toInt ∧ (p5).toInt ≤ 900) (hp6 : (-2147483648) ≤ (p6).toInt ∧ (p6).toInt ≤ 2147483647) (hp7 : 0 ≤ (p7).toInt ∧ (p7).toInt ≤ 999) (hp8 : (-2147483648) ≤ (p8).toInt ∧ (p8).toInt ≤ 2147483647) (hp9 : (-2147483648) ≤ (p9).toInt ∧ (p9).toInt ≤ 2147483647) (hp10 : (-2147483648) ≤ (p10).toInt ∧ (p10).toInt ≤ 2147483647) (hp11 : (-2147483648) ≤ (p11).toInt ∧ (p11).toInt ≤ 2147483647) (hp12 : (-2147483648) ≤ (p12).toInt ∧ (p12).toInt ≤ 2147483647) (hp13 : (-2147483648) ≤ (p13).toInt ∧ (p13).toInt ≤ 2147483647) (hp14 : (-2147483648) ≤ (p14).toInt ∧ (p14).toInt ≤ 2147483647) (hp15 : (-2147483648) ≤ (p15).toInt ∧ (p15).toInt ≤ 2147483647) (hp16 : (-2147483648) ≤ (p16).toInt ∧ (p16).toInt ≤ 2147483647) (hp17 : (-2147483648) ≤ (p17).toInt ∧ (p17).toInt ≤ 2147483647) (hp18 : 0 ≤ (p18).toInt ∧ (p18).toInt ≤ 10) (htf0_84 : f0 84 = p18) (rf0 : AL f0) (sz : Nat) : MI l yX12_viewsOf cX12_viewsOf 2 .int { frames := 0, cells := 0, slots := 0, locals := 0 } [.ref h0, .int p0] D cy (wk_e1f596b07 cy h0 p1 h1 w0 w1 w2 p2 p3 p4 p5 p6 p7 p8 p9 p10 p11 p12 w3 w4 w5 w6 w7 p13 p14 w8 w9 w10 p15 p16 w11 w12 w13 w14 w15 p17 w16 w17 w18 h1 f0) sz (fun r u => (0 ≤ r.toInt ∧ r.toInt ≤ 999) ∧ True) (fun u => (wk_e1f596b07 cy h0 p1 h1 w0 w1 w2 p2 p3 p4 p5 p6 p7 p8 p9 p10 p11 p12 w3 w4 w5 w6 w7 p13 p14 w8 w9 w10 p15 p16 w11 w12 w13 w14 w15 p17 w16 w17 w18 h1 f0)) 0 0 := by
  refine q_ent (own := RX12) (by decide) rfl (Nat.le_of_ble_eq_true rfl) (fun p e s m below meth c ls X hr hlk hnm hK hT h hA hl => ?_)
  obtain ⟨hx, hb, hml, hown, ht⟩ := id X
  replace hl : lv_has ls 2 [(0, .ref h0), (1, .int p0)] := hl
  refine lv_bipush (v := 100) hx hb dX12_viewsOf_0 (by decide) ?_
  refine lv_aload_n hx hb dX12_viewsOf_2 rfl (lv_at hl 0 rfl) ?_
  refine q_get X hK h 0 rfl rfl wf_12 1 (by decide) rfl wm_5_171 dX12_viewsOf_3 ?_
  refine lv_bipush (v := 54) hx hb dX12_viewsOf_6 (by decide) ?_
  refine lv_iconst (v := 3) hx hb dX12_viewsOf_8 (by decide) ?_
  refine lv_iload_n hx hb dX12_viewsOf_9 rfl (lv_at hl 1 rfl) ?_
  refine lv_imul hx hb dX12_viewsOf_10 ?_
  obtain ⟨z_1, ez_1, hz_1⟩ := e_mul (x := 3) (y := p0) (show (3 : Int32).toInt = 3 by decide) rfl (by omega) (by omega)
  refine q_c z_1 ez_1 ?_
  clear ez_1
  refine lv_iadd hx hb dX12_viewsOf_11 ?_
  obtain ⟨z_2, ez_2, hz_2⟩ := e_add (x := 54) (y := z_1) (show (54 : Int32).toInt = 54 by decide) rfl (by omega) (by omega)
  refine q_c z_2 ez_2 ?_
  clear ez_2
  refine q_iald X hK h 1 rfl (i_in rfl (by omega) (by omega)) dX12_viewsOf_12 ?_
  obtain ⟨z_3, ez_3, hz_3⟩ := al_W rf0 (x := z_2) rfl (by omega) (by omega)
  refine q_c z_3 ez_3 ?_
  clear ez_3
  refine lv_imul hx hb dX12_viewsOf_13 ?_
  obtain ⟨z_4, ez_4, hz_4⟩ := e_mul (x := 100) (y := z_3) (show (100 : Int32).toInt = 100 by decide) rfl (by omega) (by omega)
  refine q_c z_4 ez_4 ?_
  clear ez_4
  refine lv_bipush (v := 10) hx hb dX12_viewsOf_14 (by decide) ?_
  refine lv_aload_n hx hb dX12_viewsOf_16 rfl (lv_at hl 0 rfl) ?_
  refine q_get X hK h 0 rfl rfl wf_12 1 (by decide) rfl wm_5_171 dX12_viewsOf_17 ?_
  refine lv_bipush (v := 54) hx hb dX12_viewsOf_20 (by decide) ?_
  refine lv_iconst (v := 3) hx hb dX12_viewsOf_22 (by decide) ?_
  refine lv_iload_n hx hb dX12_viewsOf_23 rfl (lv_at hl 1 rfl) ?_
  refine lv_imul hx hb dX12_viewsOf_24 ?_
  obtain ⟨z_5, ez_5, hz_5⟩ := e_mul (x := 3) (y := p0) (show (3 : Int32).toInt = 3 by decide) rfl (by omega) (by omega)
  refine q_c z_5 ez_5 ?_
  clear ez_5
  refine lv_iadd hx hb dX12_viewsOf_25 ?_
  obtain ⟨z_6, ez_6, hz_6⟩ := e_add (x := 54) (y := z_5) (show (54 : Int32).toInt = 54 by decide) rfl (by omega) (by omega)
  refine q_c z_6 ez_6 ?_
  clear ez_6
  refine lv_iconst (v := 1) hx hb dX12_viewsOf_26 (by decide) ?_
  refine lv_iadd hx hb dX12_viewsOf_27 ?_
  obtain ⟨z_7, ez_7, hz_7⟩ := e_add (x := z_6) (y := 1) rfl (show (1 : Int32).toInt = 1 by decide) (by omega) (by omega)
  refine q_c z_7 ez_7 ?_
  clear ez_7
  refine q_iald X hK h 1 rfl (i_in rfl (by omega) (by omega)) dX12_viewsOf_28 ?_
  obtain ⟨z_8, ez_8, hz_8⟩ := al_W rf0 (x := z_7) rfl (by omega) (by omega)
  refine q_c z_8 ez_8 ?_
  clear ez_8
  refine lv_imul hx hb dX12_viewsOf_29 ?_
  obtain ⟨z_9, ez_9, hz_9⟩ := e_mul (x := 10) (y := z_8) (show (10 : Int32).toInt = 10 by decide) rfl (by omega) (by omega)
  refine q_c z_9 ez_9 ?_
  clear ez_9
  refine lv_iadd hx hb dX12_viewsOf_30 ?_
  obtain ⟨z_10, ez_10, hz_10⟩ := e_add (x := z_4) (y := z_9) rfl rfl (by omega) (by omega)
  refine q_c z_10 ez_10 ?_
  clear ez_10
  refine lv_aload_n hx hb dX12_viewsOf_31 rfl (lv_at hl 0 rfl) ?_
  refine q_get X hK h 0 rfl rfl wf_12 1 (by decide) rfl wm_5_171 dX12_viewsOf_32 ?_
  refine lv_bipush (v := 54) hx hb dX12_viewsOf_35 (by decide) ?_
  refine lv_iconst (v := 3) hx hb dX12_viewsOf_37 (by decide) ?_
  refine lv_iload_n hx hb dX12_viewsOf_38 rfl (lv_at hl 1 rfl) ?_
  refine lv_imul hx hb dX12_viewsOf_39 ?_
  obtain ⟨z_11, ez_11, hz_11⟩ := e_mul (x := 3) (y := p0) (show (3 : Int32).toInt = 3 by decide) rfl (by omega) (by omega)
  refine q_c z_11 ez_11 ?_
  clear ez_11
  refine lv_iadd hx hb dX12_viewsOf_40 ?_
  obtain ⟨z_12, ez_12, hz_12⟩ := e_add (x := 54) (y := z_11) (show (54 : Int32).toInt = 54 by decide) rfl (by omega) (by omega)
  refine q_c z_12 ez_12 ?_
  clear ez_12
  refine lv_iconst (v := 2) hx hb dX12_viewsOf_41 (by decide) ?_
  refine lv_iadd hx hb dX12_viewsOf_42 ?_
  obtain ⟨z_13, ez_13, hz_13⟩ := e_add (x := z_12) (y := 2) rfl (show (2 : Int32).toInt = 2 by decide) (by omega) (by omega)
  refine q_c z_13 ez_13 ?_
  clear ez_13
  refine q_iald X hK h 1 rfl (i_in rfl (by omega) (by omega)) dX12_viewsOf_43 ?_
  obtain ⟨z_14, ez_14, hz_14⟩ := al_W rf0 (x := z_13) rfl (by omega) (by omega)
  refine q_c z_14 ez_14 ?_
  clear ez_14
  refine lv_iadd hx hb dX12_viewsOf_44 ?_
  obtain ⟨z_15, ez_15, hz_15⟩ := e_add (x := z_10) (y := z_14) rfl rfl (by omega) (by omega)
  refine q_c z_15 ez_15 ?_
  clear ez_15
  exact q_iret X hr hlk hK h rfl (fun _ => 0, fun _ _ => 0, fun _ _ => 0) ⟨⟨by omega, by omega⟩, trivial⟩ [0, 1] rfl rfl dX12_viewsOf_45 (Nat.le_of_ble_eq_true rfl) (Nat.le_of_ble_eq_true rfl)
set_option maxHeartbeats 4000000 in
set_option maxRecDepth 100000 in
theorem gX12_puts_2de0910 (l : Launch) (D : va_G) (cy : Nat → ClassId) (h0 : Nat) (h1 : Nat) (p0 : Int32) (p1 : Int32) (p2 : Int32) (w0 : Value) (w1 : Value) (w2 : Value) (p3 : Int32) (p4 : Int32) (p5 : Int32) (p6 : Int32) (p7 : Int32) (p8 : Int32) (p9 : Int32) (p10 : Int32) (p11 : Int32) (p12 : Int32) (p13 : Int32) (w3 : Value) (w4 : Value) (w5 : Value) (w6 : Value) (w7 : Value) (p14 : Int32) (p15 : Int32) (w8 : Value) (w9 : Value) (w10 : Value) (p16 : Int32) (p17 : Int32) (w11 : Value) (w12 : Value) (w13 : Value) (w14 : Value) (w15 : Value) (p18 : Int32) (w16 : Value) (w17 : Value) (w18 : Value) (f0 : Nat → Int32) (p19 : Int32) (hp0 : 0 ≤ (p0).toInt ∧ (p0).toInt ≤ 9) (hp1 : 0 ≤ (p1).toInt ∧ (p1).toInt ≤ 999) (hp2 : 0 ≤ (p2).toInt ∧ (p2).toInt ≤ 0) (hp3 : 0 ≤ (p3).toInt ∧ (p3).toInt ≤ 900) (hp4 : 0 ≤ (p4).toInt ∧ (p4).toInt ≤ 900) (hp5 : 0 ≤ (p5).toInt ∧ (p5).toInt ≤ 900) (hp6 : 0 ≤ (p6).toInt ∧ (p6).toInt ≤ 900) (hp7 : (-2147483648) ≤ (p7).toInt ∧ (p7).toInt ≤ 2147483647) (hp8 : 0 ≤ (p8).toInt ∧ (p8).toInt ≤ 999) (hp9 : (-2147483648) ≤ (p9).toInt ∧ (p9).toInt ≤ 2147483647) (hp10 : (-2147483648) ≤ (p10).toInt ∧ (p10).toInt ≤ 2147483647) (hp11 : (-2147483648) ≤ (p11).toInt ∧ (p11).toInt ≤ 2147483647) (hp12 : (-2147483648) ≤ (p12).toInt ∧ (p12).toInt ≤ 2147483647) (hp13 : (-2147483648) ≤ (p13).toInt ∧ (p13).toInt ≤ 2147483647) (hp14 : (-2147483648) ≤ (p14).toInt ∧ (p14).toInt ≤ 2147483647) (hp15 : (-2147483648) ≤ (p15).toInt ∧ (p15).toInt ≤ 2147483647) (hp16 : (-2147483648) ≤ (p16).toInt ∧ (p16).toInt ≤ 2147483647) (hp17 : (-2147483648) ≤ (p17).toInt ∧ (p17).toInt ≤ 2147483647) (hp18 : (-2147483648) ≤ (p18).toInt ∧ (p18).toInt ≤ 2147483647) (hp19 : 0 ≤ (p19).toInt ∧ (p19).toInt ≤ 10) (htf0_84 : f0 84 = p19) (rf0 : AL f0) (sz : Nat) : MV l yX12_puts cX12_puts 3 { frames := 0, cells := 0, slots := 0, locals := 0 } [.ref h0, .int p0, .int p1] D cy (wk_e1f596b07 cy h0 p2 h1 w0 w1 w2 p3 p4 p5 p6 p7 p8 p9 p10 p11 p12 p13 w3 w4 w5 w6 w7 p14 p15 w8 w9 w10 p16 p17 w11 w12 w13 w14 w15 p18 w16 w17 w18 h1 f0) sz (fun u => AL (u.2.1 0) ∧ (u.2.1 0) 84 = p19 ∧ True) (fun u => (wk_e1f596b07 cy h0 p2 h1 w0 w1 w2 p3 p4 p5 p6 p7 p8 p9 p10 p11 p12 p13 w3 w4 w5 w6 w7 p14 p15 w8 w9 w10 p16 p17 w11 w12 w13 w14 w15 p18 w16 w17 w18 h1 (u.2.1 0))) 0 0 := by
  refine q_ent (own := RX12) (by decide) rfl (Nat.le_of_ble_eq_true rfl) (fun p e s m below meth c ls X hr hlk hnm hK hT h hA hl => ?_)
  obtain ⟨hx, hb, hml, hown, ht⟩ := id X
  replace hl : lv_has ls 3 [(0, .ref h0), (1, .int p0), (2, .int p1)] := hl
  refine lv_aload_n hx hb dX12_puts_0 rfl (lv_at hl 0 rfl) ?_
  refine q_get X hK h 0 rfl rfl wf_12 1 (by decide) rfl wm_5_171 dX12_puts_1 ?_
  refine lv_bipush (v := 54) hx hb dX12_puts_4 (by decide) ?_
  refine lv_iconst (v := 3) hx hb dX12_puts_6 (by decide) ?_
  refine lv_iload_n hx hb dX12_puts_7 rfl (lv_at hl 1 rfl) ?_
  refine lv_imul hx hb dX12_puts_8 ?_
  obtain ⟨z_1, ez_1, hz_1⟩ := e_mul (x := 3) (y := p0) (show (3 : Int32).toInt = 3 by decide) rfl (by omega) (by omega)
  refine q_c z_1 ez_1 ?_
  clear ez_1
  refine lv_iadd hx hb dX12_puts_9 ?_
  obtain ⟨z_2, ez_2, hz_2⟩ := e_add (x := 54) (y := z_1) (show (54 : Int32).toInt = 54 by decide) rfl (by omega) (by omega)
  refine q_c z_2 ez_2 ?_
  clear ez_2
  refine lv_iload_n hx hb dX12_puts_10 rfl (lv_at hl 2 rfl) ?_
  refine lv_bipush (v := 100) hx hb dX12_puts_11 (by decide) ?_
  refine lv_idiv hx hb dX12_puts_13 (by decide) ?_
  obtain ⟨z_3, ez_3, hz_3⟩ := e_div (x := p1) (y := 100) rfl (show (100 : Int32).toInt = 100 by decide) (by omega) (by omega)
  refine q_c z_3 ez_3 ?_
  clear ez_3
  refine q_iast X hK h 1 rfl (i_in rfl (by omega) (by omega)) dX12_puts_14 (fun H locs h_5 => ?_)
  clear h
  replace h_5 : qW D _ _ (wk_e1f596b07 cy h0 p2 h1 w0 w1 w2 p3 p4 p5 p6 p7 p8 p9 p10 p11 p12 p13 w3 w4 w5 w6 w7 p14 p15 w8 w9 w10 p16 p17 w11 w12 w13 w14 w15 p18 w16 w17 w18 h1 (upd f0 (Int32.toNatClampNeg z_2) z_3)) _ _ := h_5
  obtain ⟨F_4, eF_4, rF_4⟩ := al_upd rf0 (i := z_2) (x := z_3) rfl rfl (by omega)
  have trF_4_84 := (tr_ne eF_4 htf0_84 rfl (by omega))
  rw [eF_4] at h_5
  clear eF_4
  refine lv_aload_n hx hb dX12_puts_15 rfl (lv_at hl 0 rfl) ?_
  refine q_get X hK h_5 0 rfl rfl wf_12 1 (by decide) rfl wm_5_171 dX12_puts_16 ?_
  refine lv_bipush (v := 54) hx hb dX12_puts_19 (by decide) ?_
  refine lv_iconst (v := 3) hx hb dX12_puts_21 (by decide) ?_
  refine lv_iload_n hx hb dX12_puts_22 rfl (lv_at hl 1 rfl) ?_
  refine lv_imul hx hb dX12_puts_23 ?_
  obtain ⟨z_6, ez_6, hz_6⟩ := e_mul (x := 3) (y := p0) (show (3 : Int32).toInt = 3 by decide) rfl (by omega) (by omega)
  refine q_c z_6 ez_6 ?_
  clear ez_6
  refine lv_iadd hx hb dX12_puts_24 ?_
  obtain ⟨z_7, ez_7, hz_7⟩ := e_add (x := 54) (y := z_6) (show (54 : Int32).toInt = 54 by decide) rfl (by omega) (by omega)
  refine q_c z_7 ez_7 ?_
  clear ez_7
  refine lv_iconst (v := 1) hx hb dX12_puts_25 (by decide) ?_
  refine lv_iadd hx hb dX12_puts_26 ?_
  obtain ⟨z_8, ez_8, hz_8⟩ := e_add (x := z_7) (y := 1) rfl (show (1 : Int32).toInt = 1 by decide) (by omega) (by omega)
  refine q_c z_8 ez_8 ?_
  clear ez_8
  refine lv_iload_n hx hb dX12_puts_27 rfl (lv_at hl 2 rfl) ?_
  refine lv_bipush (v := 10) hx hb dX12_puts_28 (by decide) ?_
  refine lv_idiv hx hb dX12_puts_30 (by decide) ?_
  obtain ⟨z_9, ez_9, hz_9⟩ := e_div (x := p1) (y := 10) rfl (show (10 : Int32).toInt = 10 by decide) (by omega) (by omega)
  refine q_c z_9 ez_9 ?_
  clear ez_9
  refine lv_bipush (v := 10) hx hb dX12_puts_31 (by decide) ?_
  refine lv_irem hx hb dX12_puts_33 (by decide) ?_
  obtain ⟨z_10, ez_10, hz_10⟩ := e_rem (x := z_9) (y := 10) rfl (show (10 : Int32).toInt = 10 by decide) (by omega) (by omega)
  refine q_c z_10 ez_10 ?_
  clear ez_10
  refine q_iast X hK h_5 1 rfl (i_in rfl (by omega) (by omega)) dX12_puts_34 (fun H locs h_12 => ?_)
  clear h_5
  replace h_12 : qW D _ _ (wk_e1f596b07 cy h0 p2 h1 w0 w1 w2 p3 p4 p5 p6 p7 p8 p9 p10 p11 p12 p13 w3 w4 w5 w6 w7 p14 p15 w8 w9 w10 p16 p17 w11 w12 w13 w14 w15 p18 w16 w17 w18 h1 (upd F_4 (Int32.toNatClampNeg z_8) z_10)) _ _ := h_12
  obtain ⟨F_11, eF_11, rF_11⟩ := al_upd rF_4 (i := z_8) (x := z_10) rfl rfl (by omega)
  have trF_11_84 := (tr_ne eF_11 trF_4_84 rfl (by omega))
  rw [eF_11] at h_12
  clear eF_11
  refine lv_aload_n hx hb dX12_puts_35 rfl (lv_at hl 0 rfl) ?_
  refine q_get X hK h_12 0 rfl rfl wf_12 1 (by decide) rfl wm_5_171 dX12_puts_36 ?_
  refine lv_bipush (v := 54) hx hb dX12_puts_39 (by decide) ?_
  refine lv_iconst (v := 3) hx hb dX12_puts_41 (by decide) ?_
  refine lv_iload_n hx hb dX12_puts_42 rfl (lv_at hl 1 rfl) ?_
  refine lv_imul hx hb dX12_puts_43 ?_
  obtain ⟨z_13, ez_13, hz_13⟩ := e_mul (x := 3) (y := p0) (show (3 : Int32).toInt = 3 by decide) rfl (by omega) (by omega)
  refine q_c z_13 ez_13 ?_
  clear ez_13
  refine lv_iadd hx hb dX12_puts_44 ?_
  obtain ⟨z_14, ez_14, hz_14⟩ := e_add (x := 54) (y := z_13) (show (54 : Int32).toInt = 54 by decide) rfl (by omega) (by omega)
  refine q_c z_14 ez_14 ?_
  clear ez_14
  refine lv_iconst (v := 2) hx hb dX12_puts_45 (by decide) ?_
  refine lv_iadd hx hb dX12_puts_46 ?_
  obtain ⟨z_15, ez_15, hz_15⟩ := e_add (x := z_14) (y := 2) rfl (show (2 : Int32).toInt = 2 by decide) (by omega) (by omega)
  refine q_c z_15 ez_15 ?_
  clear ez_15
  refine lv_iload_n hx hb dX12_puts_47 rfl (lv_at hl 2 rfl) ?_
  refine lv_bipush (v := 10) hx hb dX12_puts_48 (by decide) ?_
  refine lv_irem hx hb dX12_puts_50 (by decide) ?_
  obtain ⟨z_16, ez_16, hz_16⟩ := e_rem (x := p1) (y := 10) rfl (show (10 : Int32).toInt = 10 by decide) (by omega) (by omega)
  refine q_c z_16 ez_16 ?_
  clear ez_16
  refine q_iast X hK h_12 1 rfl (i_in rfl (by omega) (by omega)) dX12_puts_51 (fun H locs h_18 => ?_)
  clear h_12
  replace h_18 : qW D _ _ (wk_e1f596b07 cy h0 p2 h1 w0 w1 w2 p3 p4 p5 p6 p7 p8 p9 p10 p11 p12 p13 w3 w4 w5 w6 w7 p14 p15 w8 w9 w10 p16 p17 w11 w12 w13 w14 w15 p18 w16 w17 w18 h1 (upd F_11 (Int32.toNatClampNeg z_15) z_16)) _ _ := h_18
  obtain ⟨F_17, eF_17, rF_17⟩ := al_upd rF_11 (i := z_15) (x := z_16) rfl rfl (by omega)
  have trF_17_84 := (tr_ne eF_17 trF_11_84 rfl (by omega))
  rw [eF_17] at h_18
  clear eF_17
  exact q_vret X hr hlk hK h_18 (fun _ => 0, (vcons F_17 (fun _ => (fun _ => 0))), fun _ _ => 0) ⟨rF_17, trF_17_84, trivial⟩ [0, 1] rfl rfl dX12_puts_52 (Nat.le_of_ble_eq_true rfl) (Nat.le_of_ble_eq_true rfl)
set_option maxHeartbeats 4000000 in
set_option maxRecDepth 100000 in
theorem gX12_laysTurning_b50106d (l : Launch) (D : va_G) (cy : Nat → ClassId) (h0 : Nat) (h1 : Nat) (h2 : Nat) (h3 : Nat) (h4 : Nat) (h5 : Nat) (h6 : Nat) (h7 : Nat) (h8 : Nat) (h9 : Nat) (p0 : Int32) (p1 : Int32) (p2 : Int32) (w0 : Value) (w1 : Value) (w2 : Value) (p3 : Int32) (p4 : Int32) (p5 : Int32) (p6 : Int32) (p7 : Int32) (p8 : Int32) (p9 : Int32) (p10 : Int32) (p11 : Int32) (p12 : Int32) (p13 : Int32) (w3 : Value) (w4 : Value) (p14 : Int32) (p15 : Int32) (w5 : Value) (w6 : Value) (w7 : Value) (p16 : Int32) (p17 : Int32) (p18 : Int32) (w8 : Value) (w9 : Value) (w10 : Value) (f0 : Nat → Int32) (p19 : Int32) (f1 : Nat → Int32) (f2 : Nat → Int32) (f3 : Nat → Int32) (f4 : Nat → Int32) (f5 : Nat → Int32) (f6 : Nat → Int32) (f7 : Nat → Int32) (f8 : Nat → Int32) (hp0 : 0 ≤ (p0).toInt ∧ (p0).toInt ≤ 9) (hp1 : 0 ≤ (p1).toInt ∧ (p1).toInt ≤ 9) (hp2 : 0 ≤ (p2).toInt ∧ (p2).toInt ≤ 0) (hp3 : 0 ≤ (p3).toInt ∧ (p3).toInt ≤ 900) (hp4 : 0 ≤ (p4).toInt ∧ (p4).toInt ≤ 900) (hp5 : 0 ≤ (p5).toInt ∧ (p5).toInt ≤ 900) (hp6 : 0 ≤ (p6).toInt ∧ (p6).toInt ≤ 900) (hp7 : (-2147483648) ≤ (p7).toInt ∧ (p7).toInt ≤ 2147483647) (hp8 : 0 ≤ (p8).toInt ∧ (p8).toInt ≤ 999) (hp9 : (-2147483648) ≤ (p9).toInt ∧ (p9).toInt ≤ 2147483647) (hp10 : (-2147483648) ≤ (p10).toInt ∧ (p10).toInt ≤ 2147483647) (hp11 : (-2147483648) ≤ (p11).toInt ∧ (p11).toInt ≤ 2147483647) (hp12 : (-2147483648) ≤ (p12).toInt ∧ (p12).toInt ≤ 2147483647) (hp13 : (-2147483648) ≤ (p13).toInt ∧ (p13).toInt ≤ 2147483647) (hp14 : (-2147483648) ≤ (p14).toInt ∧ (p14).toInt ≤ 2147483647) (hp15 : (-2147483648) ≤ (p15).toInt ∧ (p15).toInt ≤ 2147483647) (hp16 : (-2147483648) ≤ (p16).toInt ∧ (p16).toInt ≤ 2147483647) (hp17 : (-2147483648) ≤ (p17).toInt ∧ (p17).toInt ≤ 2147483647) (hp18 : (-2147483648) ≤ (p18).toInt ∧ (p18).toInt ≤ 2147483647) (hp19 : 0 ≤ (p19).toInt ∧ (p19).toInt ≤ 10) (htf0_84 : f0 84 = p19) (rf0 : AL f0) (rf3 : RG f3 3 0 9) (rf4 : RG f4 1000 0 999) (sz : Nat) : MI l yX12_laysTurning cX12_laysTurning 10 .int { frames := 4, cells := 0, slots := 0, locals := 96 } [.ref h0, .int p0, .int p1] D cy (wk_410b6a568 cy h0 p2 h1 w0 w1 w2 p3 p4 p5 p6 p7 p8 p9 p10 p11 p12 p13 h2 h3 h4 w3 w4 p14 p15 w5 w6 w7 p16 p17 h5 h6 h7 h8 h9 p18 w8 w9 w10 h1 f0 h2 f1 h3 f2 h4 f3 h5 f4 h6 f5 h7 f6 h8 f7 h9 f8) sz (fun r u => ((-1) ≤ r.toInt ∧ r.toInt ≤ 999) ∧ RG (u.2.1 2) 3 0 9 ∧ RG (u.2.1 3) 1000 0 999 ∧ ((-2147483648) ≤ (u.2.1 8 0).toInt ∧ (u.2.1 8 0).toInt ≤ 2147483647) ∧ AL (u.2.1 9) ∧ (u.2.1 9) 84 = p19 ∧ True) (fun u => (wk_410b6a568 cy h0 p2 h1 w0 w1 w2 p3 p4 p5 p6 p7 p8 p9 p10 p11 p12 p13 h2 h3 h4 w3 w4 p14 p15 w5 w6 w7 p16 p17 h5 h6 h7 h8 h9 (u.2.1 8 0) w8 w9 w10 h1 (u.2.1 9) h2 (u.2.1 0) h3 (u.2.1 1) h4 (u.2.1 2) h5 (u.2.1 3) h6 (u.2.1 4) h7 (u.2.1 5) h8 (u.2.1 6) h9 (u.2.1 7))) 0 0 := by
  refine q_ent (own := RX12) (by decide) rfl (Nat.le_of_ble_eq_true rfl) (fun p e s m below meth c ls X hr hlk hnm hK hT h hA hl => ?_)
  obtain ⟨hx, hb, hml, hown, ht⟩ := id X
  replace hl : lv_has ls 10 [(0, .ref h0), (1, .int p0), (2, .int p1)] := hl
  refine lv_iconst (v := 0) hx hb dX12_laysTurning_0 (by decide) ?_
  refine lv_istore_n (lv' := [(3, .int 0), (0, .ref h0), (1, .int p0), (2, .int p1)]) hx hb dX12_laysTurning_1 rfl hl (by decide) rfl (fun ls_1 hl_1 => ?_)
  clear hl
  refine q_wl (fun (v2_2_0 : Int32) H locs ls => ∃ v2_2_1 : Nat → Int32, (0 ≤ (v2_2_0).toInt ∧ (v2_2_0).toInt ≤ 1000) ∧ (ZF v2_2_1 (v2_2_0 : Int32).toInt) ∧ qW D (va_A (wk_410b6a568 cy h0 p2 h1 w0 w1 w2 p3 p4 p5 p6 p7 p8 p9 p10 p11 p12 p13 h2 h3 h4 w3 w4 p14 p15 w5 w6 w7 p16 p17 h5 h6 h7 h8 h9 p18 w8 w9 w10 h1 f0 h2 f1 h3 f2 h4 f3 h5 f4 h6 f5 h7 f6 h8 f7 h9 f8) sz) s.heap (wk_410b6a568 cy h0 p2 h1 w0 w1 w2 p3 p4 p5 p6 p7 p8 p9 p10 p11 p12 p13 h2 h3 h4 w3 w4 p14 p15 w5 w6 w7 p16 p17 h5 h6 h7 h8 h9 p18 w8 w9 w10 h1 f0 h2 f1 h3 f2 h4 f3 h5 f4 h6 f5 h7 f6 h8 f7 h9 v2_2_1) H locs ∧ lv_has ls 10 [(0, .ref h0), (1, .int p0), (2, .int p1), (3, .int v2_2_0)]) (fun (v2_2_0 : Int32) => (1001 - (v2_2_0).toInt).toNat) (fun q_2 ih_2 H locs ls hP => ?_) 0 ⟨f8, ⟨by decide +kernel, by decide +kernel⟩, (zf_0 (by have q0 : (0 : Int32).toInt = 0 := (by decide); omega)), h, (lv_sub hl_1 [1, 2, 3, 0] rfl)⟩
  obtain ⟨v2_2_0, rfl⟩ : ∃ z, z = q_2 := ⟨_, rfl⟩
  obtain ⟨v2_2_1, hv2_2_0, x3_0, h, hl⟩ := hP
  refine lv_iload_n hx hb dX12_laysTurning_2 rfl (lv_at hl 3 rfl) ?_
  refine lv_sipush (v := 1000) hx hb dX12_laysTurning_3 (by decide) ?_
  refine lv_icmp_ge (tgt := 22) hx hb dX12_laysTurning_6 (by decide) (fun c_4 => ?_) (fun c_4 => ?_)
  · replace c_4 := i_le (x := 1000) (y := v2_2_0) (show (1000 : Int32).toInt = 1000 by decide) rfl c_4
    refine lv_aload_n hx hb dX12_laysTurning_22 rfl (lv_at hl 0 rfl) ?_
    refine lv_iload_n hx hb dX12_laysTurning_23 rfl (lv_at hl 1 rfl) ?_
    refine q_callVi (rest := []) (wr := (wk_5ec465ffc cy h2 f1 h3 f2 h4 f3 h5 f4 h6 f5 h7 f6 h8 f7 h9 v2_2_1)) X hK hT hA h (fun sz => gX12_viewsOf_bc3d930 l D cy h0 h1 p0 p2 w0 w1 w2 p3 p4 p5 p6 p7 p8 p9 p10 p11 p12 p13 (.ref h2) (.ref h3) (.ref h4) w3 w4 p14 p15 w5 w6 w7 p16 p17 (.ref h5) (.ref h6) (.ref h7) (.ref h8) (.ref h9) p18 w8 w9 w10 f0 p19 hp0 hp2 hp3 hp4 hp5 hp6 (i_rng _) hp8 (i_rng _) (i_rng _) (i_rng _) (i_rng _) (i_rng _) (i_rng _) (i_rng _) (i_rng _) (i_rng _) (i_rng _) hp19 htf0_84 rf0 sz) wm_7_172 wm_7_175 wm_1_12 hd_X12_viewsOf wm_7_174 wp_7_10 (ci := 12) (q0 := 0) rfl rfl ⟨Nat.le_of_ble_eq_true rfl, Nat.le_of_ble_eq_true rfl⟩ hl.1 rfl (Nat.le_of_ble_eq_true rfl) dX12_laysTurning_24 ⟨Nat.le_of_ble_eq_true rfl, Nat.le_of_ble_eq_true rfl⟩ [0, 1] [2, 3, 4, 5, 6, 7, 8, 9] rfl rfl (by decide) rfl rfl (fun r_5 u_5 H locs w_5 h_5 => ?_)
    clear h
    obtain ⟨wr_5, _⟩ := w_5
    replace h_5 : qW D _ _ (wk_dcd050277 cy h2 f1 h3 f2 h4 f3 h5 f4 h6 f5 h7 f6 h8 f7 h9 v2_2_1 h0 p2 h1 w0 w1 w2 p3 p4 p5 p6 p7 p8 p9 p10 p11 p12 p13 h2 h3 h4 w3 w4 p14 p15 w5 w6 w7 p16 p17 h5 h6 h7 h8 h9 p18 w8 w9 w10 h1 f0) _ _ := h_5
    refine lv_istore_n (lv' := [(3, .int r_5), (0, .ref h0), (1, .int p0), (2, .int p1)]) hx hb dX12_laysTurning_27 rfl hl (by decide) rfl (fun ls_6 hl_6 => ?_)
    clear hl
    refine lv_aload_n hx hb dX12_laysTurning_28 rfl (lv_at hl_6 1 rfl) ?_
    refine q_callVi (rest := []) (wr := (wk_5ec465ffc cy h2 f1 h3 f2 h4 f3 h5 f4 h6 f5 h7 f6 h8 f7 h9 v2_2_1)) X hK hT hA h_5 (fun sz => gX12_townNow_2907b4b l D cy h0 h1 p2 w0 w1 w2 p3 p4 p5 p6 p7 p8 p9 p10 p11 p12 p13 (.ref h2) (.ref h3) (.ref h4) w3 w4 p14 p15 w5 w6 w7 p16 p17 (.ref h5) (.ref h6) (.ref h7) (.ref h8) (.ref h9) p18 w8 w9 w10 f0 p19 hp2 hp3 hp4 hp5 hp6 (i_rng _) hp8 (i_rng _) (i_rng _) (i_rng _) (i_rng _) (i_rng _) (i_rng _) (i_rng _) (i_rng _) (i_rng _) (i_rng _) hp19 htf0_84 rf0 sz) wm_6_170 wm_6_173 wm_1_12 hd_X12_townNow wm_6_172 wp_5_9 (ci := 12) (q0 := 0) rfl rfl ⟨Nat.le_of_ble_eq_true rfl, Nat.le_of_ble_eq_true rfl⟩ hl_6.1 rfl (Nat.le_of_ble_eq_true rfl) dX12_laysTurning_29 ⟨Nat.le_of_ble_eq_true rfl, Nat.le_of_ble_eq_true rfl⟩ [8, 9] [0, 1, 2, 3, 4, 5, 6, 7] rfl rfl (by decide) rfl rfl (fun r_7 u_7 H locs w_7 h_7 => ?_)
    clear h_5
    obtain ⟨wr_7, _⟩ := w_7
    replace h_7 : qW D _ _ (wk_dcd050277 cy h2 f1 h3 f2 h4 f3 h5 f4 h6 f5 h7 f6 h8 f7 h9 v2_2_1 h0 p2 h1 w0 w1 w2 p3 p4 p5 p6 p7 p8 p9 p10 p11 p12 p13 h2 h3 h4 w3 w4 p14 p15 w5 w6 w7 p16 p17 h5 h6 h7 h8 h9 p18 w8 w9 w10 h1 f0) _ _ := h_7
    refine lv_istore (lv' := [(4, .int r_7), (3, .int r_5), (0, .ref h0), (1, .int p0), (2, .int p1)]) hx hb dX12_laysTurning_32 hl_6 (by decide) rfl (fun ls_8 hl_8 => ?_)
    clear hl_6
    refine lv_aload_n hx hb dX12_laysTurning_34 rfl (lv_at hl_8 2 rfl) ?_
    refine q_get X hK h_7 8 rfl rfl wf_12 28 (by decide) rfl wm_5_198 dX12_laysTurning_35 ?_
    refine lv_iconst (v := 0) hx hb dX12_laysTurning_38 (by decide) ?_
    refine lv_iload_n hx hb dX12_laysTurning_39 rfl (lv_at hl_8 1 rfl) ?_
    refine q_iast X hK h_7 3 rfl (q_in (by decide +kernel)) dX12_laysTurning_40 (fun H locs h_10 => ?_)
    clear h_7
    replace h_10 : qW D _ _ (wk_dcd050277 cy h2 f1 h3 f2 h4 f3 h5 (upd f4 (Int32.toNatClampNeg 0) r_5) h6 f5 h7 f6 h8 f7 h9 v2_2_1 h0 p2 h1 w0 w1 w2 p3 p4 p5 p6 p7 p8 p9 p10 p11 p12 p13 h2 h3 h4 w3 w4 p14 p15 w5 w6 w7 p16 p17 h5 h6 h7 h8 h9 p18 w8 w9 w10 h1 f0) _ _ := h_10
    obtain ⟨F_9, eF_9, rF_9⟩ := rg_upd rf4 (Int32.toNatClampNeg 0) (x := r_5) rfl (by omega) (by omega)
    rw [eF_9] at h_10
    clear eF_9
    refine lv_aload_n hx hb dX12_laysTurning_41 rfl (lv_at hl_8 2 rfl) ?_
    refine q_get X hK h_10 8 rfl rfl wf_12 30 (by decide) rfl wm_5_200 dX12_laysTurning_42 ?_
    refine lv_iconst (v := 0) hx hb dX12_laysTurning_45 (by decide) ?_
    refine lv_iconst (v := (-1)) hx hb dX12_laysTurning_46 (by decide) ?_
    refine q_iast X hK h_10 5 rfl (q_in (by decide +kernel)) dX12_laysTurning_47 (fun H locs h_12 => ?_)
    clear h_10
    replace h_12 : qW D _ _ (wk_dcd050277 cy h2 f1 h3 f2 h4 f3 h5 F_9 h6 f5 h7 (upd f6 (Int32.toNatClampNeg 0) (-1)) h8 f7 h9 v2_2_1 h0 p2 h1 w0 w1 w2 p3 p4 p5 p6 p7 p8 p9 p10 p11 p12 p13 h2 h3 h4 w3 w4 p14 p15 w5 w6 w7 p16 p17 h5 h6 h7 h8 h9 p18 w8 w9 w10 h1 f0) _ _ := h_12
    obtain ⟨F_11, eF_11⟩ : ∃ z, (upd f6 (Int32.toNatClampNeg 0) (-1)) = z := ⟨_, rfl⟩
    rw [eF_11] at h_12
    refine lv_aload_n hx hb dX12_laysTurning_48 rfl (lv_at hl_8 2 rfl) ?_
    refine q_get X hK h_12 8 rfl rfl wf_12 32 (by decide) rfl wm_5_202 dX12_laysTurning_49 ?_
    refine lv_iload_n hx hb dX12_laysTurning_52 rfl (lv_at hl_8 1 rfl) ?_
    refine lv_iconst (v := 1) hx hb dX12_laysTurning_53 (by decide) ?_
    refine q_zast X hK h_12 7 rfl (i_in rfl (by omega) (by omega)) dX12_laysTurning_54 (fun H locs h_14 => ?_)
    clear h_12
    replace h_14 : qW D _ _ (wk_dcd050277 cy h2 f1 h3 f2 h4 f3 h5 F_9 h6 f5 h7 F_11 h8 f7 h9 (upd v2_2_1 (Int32.toNatClampNeg r_5) (vp_nar .boolean 1)) h0 p2 h1 w0 w1 w2 p3 p4 p5 p6 p7 p8 p9 p10 p11 p12 p13 h2 h3 h4 w3 w4 p14 p15 w5 w6 w7 p16 p17 h5 h6 h7 h8 h9 p18 w8 w9 w10 h1 f0) _ _ := h_14
    obtain ⟨F_13, eF_13⟩ : ∃ z, (upd v2_2_1 (Int32.toNatClampNeg r_5) (vp_nar .boolean 1)) = z := ⟨_, rfl⟩
    rw [eF_13] at h_14
    have mt_a := mt_0 (zf_le x3_0 (by omega)) (by omega) (by omega) eF_13 eF_11 (by decide)
    refine lv_iconst (v := 1) hx hb dX12_laysTurning_55 (by decide) ?_
    refine lv_istore (lv' := [(5, .int 1), (4, .int r_7), (3, .int r_5), (0, .ref h0), (1, .int p0), (2, .int p1)]) hx hb dX12_laysTurning_56 hl_8 (by decide) rfl (fun ls_15 hl_15 => ?_)
    clear hl_8
    refine lv_iconst (v := (-1)) hx hb dX12_laysTurning_58 (by decide) ?_
    refine lv_istore (lv' := [(6, .int (-1)), (5, .int 1), (4, .int r_7), (3, .int r_5), (0, .ref h0), (1, .int p0), (2, .int p1)]) hx hb dX12_laysTurning_59 hl_15 (by decide) rfl (fun ls_16 hl_16 => ?_)
    clear hl_15
    refine lv_iconst (v := 0) hx hb dX12_laysTurning_61 (by decide) ?_
    refine lv_istore (lv' := [(7, .int 0), (6, .int (-1)), (5, .int 1), (4, .int r_7), (3, .int r_5), (0, .ref h0), (1, .int p0), (2, .int p1)]) hx hb dX12_laysTurning_62 hl_16 (by decide) rfl (fun ls_17 hl_17 => ?_)
    clear hl_16
    refine q_wl (fun (q : Int32 × Int32 × Int32) H locs ls => match q with | (v64_18_0, v64_18_1, v64_18_2) => ∃ v64_18_3 : Nat → Int32, ∃ v64_18_4 : Nat → Int32, ∃ v64_18_5 : Nat → Int32, ∃ v64_18_6 : Nat → Int32, ∃ v64_18_7 : Nat → Int32, ∃ v64_18_8 : Nat → Int32, ∃ v64_18_9 : Nat → Int32, ∃ v64_18_10 : Nat → Int32, (0 ≤ (v64_18_0).toInt ∧ (v64_18_0).toInt ≤ 1000) ∧ (1 ≤ (v64_18_1).toInt ∧ (v64_18_1).toInt ≤ 1000) ∧ ((-1) ≤ (v64_18_2).toInt ∧ (v64_18_2).toInt ≤ 999) ∧ RG v64_18_3 3 0 9 ∧ RG v64_18_4 1000 0 999 ∧ v64_18_8 84 = p19 ∧ AL v64_18_8 ∧ (MT v64_18_7 v64_18_6 (v64_18_1 : Int32).toInt) ∧ ((v64_18_2 : Int32).toInt = -1 ∨ (0 ≤ (v64_18_2 : Int32).toInt ∧ (v64_18_2 : Int32).toInt < (v64_18_1 : Int32).toInt)) ∧ qW D (va_A (wk_410b6a568 cy h0 p2 h1 w0 w1 w2 p3 p4 p5 p6 p7 p8 p9 p10 p11 p12 p13 h2 h3 h4 w3 w4 p14 p15 w5 w6 w7 p16 p17 h5 h6 h7 h8 h9 p18 w8 w9 w10 h1 f0 h2 f1 h3 f2 h4 f3 h5 f4 h6 f5 h7 f6 h8 f7 h9 f8) sz) s.heap (wk_dcd050277 cy h2 v64_18_9 h3 v64_18_10 h4 v64_18_3 h5 v64_18_4 h6 v64_18_5 h7 v64_18_6 h8 f7 h9 v64_18_7 h0 p2 h1 w0 w1 w2 p3 p4 p5 p6 p7 p8 p9 p10 p11 p12 p13 h2 h3 h4 w3 w4 p14 p15 w5 w6 w7 p16 p17 h5 h6 h7 h8 h9 p18 w8 w9 w10 h1 v64_18_8) H locs ∧ lv_has ls 10 [(0, .ref h0), (1, .int p0), (2, .int p1), (3, .int r_5), (4, .int r_7), (5, .int v64_18_1), (6, .int v64_18_2), (7, .int v64_18_0)]) (fun (q : Int32 × Int32 × Int32) => match q with | (v64_18_0, v64_18_1, v64_18_2) => (1001 - (v64_18_0).toInt).toNat) (fun q_64 ih_64 H locs ls hP => ?_) (0, 1, (-1)) ⟨f3, F_9, f5, F_11, F_13, f0, f1, f2, ⟨by decide +kernel, by decide +kernel⟩, ⟨by decide +kernel, by decide +kernel⟩, ⟨by decide +kernel, by decide +kernel⟩, (rg_wide rf3 (by decide) (by decide)), (rg_wide rF_9 (by decide) (by decide)), htf0_84, rf0, (mt_n mt_a (by have q0 : (1 : Int32).toInt = 1 := (by decide); omega)), (by have q0 : ((-1) : Int32).toInt = -1 := (by decide); have q1 : (1 : Int32).toInt = 1 := (by decide); omega), h_14, (lv_sub hl_17 [5, 6, 7, 4, 3, 2, 1, 0] rfl)⟩
    obtain ⟨v64_18_0, v64_18_1, v64_18_2⟩ := q_64
    obtain ⟨v64_18_3, v64_18_4, v64_18_5, v64_18_6, v64_18_7, v64_18_8, v64_18_9, v64_18_10, hv64_18_0, hv64_18_1, hv64_18_2, rv64_18_3, rv64_18_4, trv64_18_8_84, rv64_18_8, x19_0, x20_1, h, hl⟩ := hP
    refine lv_iload hx hb dX12_laysTurning_64 (lv_at hl 7 rfl) ?_
    refine lv_iload hx hb dX12_laysTurning_66 (lv_at hl 5 rfl) ?_
    refine q_jn (pc2 := 242) (fun H locs ls st => (MT v64_18_7 v64_18_6 (v64_18_1 : Int32).toInt) ∧ ((v64_18_2 : Int32).toInt = -1 ∨ (0 ≤ (v64_18_2 : Int32).toInt ∧ (v64_18_2 : Int32).toInt < (v64_18_1 : Int32).toInt)) ∧ st = [] ∧ qW D (va_A (wk_410b6a568 cy h0 p2 h1 w0 w1 w2 p3 p4 p5 p6 p7 p8 p9 p10 p11 p12 p13 h2 h3 h4 w3 w4 p14 p15 w5 w6 w7 p16 p17 h5 h6 h7 h8 h9 p18 w8 w9 w10 h1 f0 h2 f1 h3 f2 h4 f3 h5 f4 h6 f5 h7 f6 h8 f7 h9 f8) sz) s.heap (wk_dcd050277 cy h2 v64_18_9 h3 v64_18_10 h4 v64_18_3 h5 v64_18_4 h6 v64_18_5 h7 v64_18_6 h8 f7 h9 v64_18_7 h0 p2 h1 w0 w1 w2 p3 p4 p5 p6 p7 p8 p9 p10 p11 p12 p13 h2 h3 h4 w3 w4 p14 p15 w5 w6 w7 p16 p17 h5 h6 h7 h8 h9 p18 w8 w9 w10 h1 v64_18_8) H locs ∧ lv_has ls 10 [(0, .ref h0), (1, .int p0), (2, .int p1), (3, .int r_5), (4, .int r_7), (5, .int v64_18_1), (6, .int v64_18_2), (7, .int v64_18_0)]) (fun H locs ls st hP => ?_) (fun J_242 => ?_)
    · obtain ⟨x22_0, x23_1, rfl, h, hl⟩ := hP
      refine lv_aload_n hx hb dX12_laysTurning_242 rfl (lv_at hl 0 rfl) ?_
      refine lv_iload_n hx hb dX12_laysTurning_243 rfl (lv_at hl 1 rfl) ?_
      refine lv_iload_n hx hb dX12_laysTurning_244 rfl (lv_at hl 3 rfl) ?_
      refine q_callVv (rest := []) (wr := (wk_5ec465ffc cy h2 v64_18_9 h3 v64_18_10 h4 v64_18_3 h5 v64_18_4 h6 v64_18_5 h7 v64_18_6 h8 f7 h9 v64_18_7)) X hK hT hA h (fun sz => gX12_puts_2de0910 l D cy h0 h1 p0 r_5 p2 w0 w1 w2 p3 p4 p5 p6 p7 p8 p9 p10 p11 p12 p13 (.ref h2) (.ref h3) (.ref h4) w3 w4 p14 p15 w5 w6 w7 p16 p17 (.ref h5) (.ref h6) (.ref h7) (.ref h8) (.ref h9) p18 w8 w9 w10 v64_18_8 p19 hp0 wr_5 hp2 hp3 hp4 hp5 hp6 (i_rng _) hp8 (i_rng _) (i_rng _) (i_rng _) (i_rng _) (i_rng _) (i_rng _) (i_rng _) (i_rng _) (i_rng _) (i_rng _) hp19 trv64_18_8_84 rv64_18_8 sz) wm_7_176 wm_7_179 wm_1_12 hd_X12_puts wm_7_178 wp_7_11 (ci := 12) (q0 := 0) rfl rfl ⟨Nat.le_of_ble_eq_true rfl, Nat.le_of_ble_eq_true rfl⟩ hl.1 rfl (Nat.le_of_ble_eq_true rfl) dX12_laysTurning_245 ⟨Nat.le_of_ble_eq_true rfl, Nat.le_of_ble_eq_true rfl⟩ [8, 9] [0, 1, 2, 3, 4, 5, 6, 7] rfl rfl (by decide) rfl rfl (fun u_24 H locs w_24 h_24 => ?_)
      clear h
      obtain ⟨w24_0, w24_1, _⟩ := w_24
      replace h_24 : qW D _ _ (wk_dcd050277 cy h2 v64_18_9 h3 v64_18_10 h4 v64_18_3 h5 v64_18_4 h6 v64_18_5 h7 v64_18_6 h8 f7 h9 v64_18_7 h0 p2 h1 w0 w1 w2 p3 p4 p5 p6 p7 p8 p9 p10 p11 p12 p13 h2 h3 h4 w3 w4 p14 p15 w5 w6 w7 p16 p17 h5 h6 h7 h8 h9 p18 w8 w9 w10 h1 (u_24.2.1 0)) _ _ := h_24
      refine lv_iload hx hb dX12_laysTurning_248 (lv_at hl 6 rfl) ?_
      refine lv_iconst (v := (-1)) hx hb dX12_laysTurning_250 (by decide) ?_
      refine lv_icmp_ne (tgt := 256) hx hb dX12_laysTurning_251 (by decide) (fun c_25 => ?_) (fun c_25 => ?_)
      · replace c_25 := i_ne (x := v64_18_2) (y := (-1)) rfl (show ((-1) : Int32).toInt = -1 by decide) c_25
        have le_26 := ln_end x22_0 (by omega) (by omega) (k := v64_18_2)
        refine lv_aload_n hx hb dX12_laysTurning_256 rfl (lv_at hl 0 rfl) ?_
        refine lv_iconst (v := 0) hx hb dX12_laysTurning_257 (by decide) ?_
        refine q_put (v := .int 0) X hK h_24 8 rfl rfl wf_12 tyX12 tyX12_ok nmX12 33 (by decide) wm_5_203 rfl rfl rfl (Nat.le_of_ble_eq_true rfl) dX12_laysTurning_258 (fun H locs h_27 => ?_)
        clear h_24
        replace h_27 : qW D _ _ (wk_dcd050277 cy h2 v64_18_9 h3 v64_18_10 h4 v64_18_3 h5 v64_18_4 h6 v64_18_5 h7 v64_18_6 h8 f7 h9 v64_18_7 h0 p2 h1 w0 w1 w2 p3 p4 p5 p6 p7 p8 p9 p10 p11 p12 p13 h2 h3 h4 w3 w4 p14 p15 w5 w6 w7 p16 p17 h5 h6 h7 h8 h9 0 w8 w9 w10 h1 (u_24.2.1 0)) _ _ := h_27
        refine lv_iload hx hb dX12_laysTurning_261 (lv_at hl 6 rfl) ?_
        refine lv_istore (lv' := [(7, .int v64_18_2), (0, .ref h0), (1, .int p0), (2, .int p1), (3, .int r_5), (4, .int r_7), (5, .int v64_18_1), (6, .int v64_18_2)]) hx hb dX12_laysTurning_263 hl (by decide) rfl (fun ls_28 hl_28 => ?_)
        clear hl
        refine q_wl (fun (q : Int32 × Int32) H locs ls => match q with | (v265_29_0, v265_29_1) => (0 ≤ (v265_29_0).toInt ∧ (v265_29_0).toInt ≤ 999) ∧ (0 ≤ (v265_29_1).toInt ∧ (v265_29_1).toInt ≤ 999) ∧ (0 ≤ (v265_29_0 : Int32).toInt ∧ (v265_29_0 : Int32).toInt < (v64_18_1 : Int32).toInt ∧ 0 ≤ (v265_29_1 : Int32).toInt ∧ (v265_29_1 : Int32).toInt + (Ln v64_18_6 (v265_29_0 : Int32).toNatClampNeg : Int) = (Ln v64_18_6 (v64_18_2 : Int32).toNatClampNeg : Int)) ∧ qW D (va_A (wk_410b6a568 cy h0 p2 h1 w0 w1 w2 p3 p4 p5 p6 p7 p8 p9 p10 p11 p12 p13 h2 h3 h4 w3 w4 p14 p15 w5 w6 w7 p16 p17 h5 h6 h7 h8 h9 p18 w8 w9 w10 h1 f0 h2 f1 h3 f2 h4 f3 h5 f4 h6 f5 h7 f6 h8 f7 h9 f8) sz) s.heap (wk_dcd050277 cy h2 v64_18_9 h3 v64_18_10 h4 v64_18_3 h5 v64_18_4 h6 v64_18_5 h7 v64_18_6 h8 f7 h9 v64_18_7 h0 p2 h1 w0 w1 w2 p3 p4 p5 p6 p7 p8 p9 p10 p11 p12 p13 h2 h3 h4 w3 w4 p14 p15 w5 w6 w7 p16 p17 h5 h6 h7 h8 h9 v265_29_1 w8 w9 w10 h1 (u_24.2.1 0)) H locs ∧ lv_has ls 10 [(0, .ref h0), (1, .int p0), (2, .int p1), (3, .int r_5), (4, .int r_7), (5, .int v64_18_1), (6, .int v64_18_2), (7, .int v265_29_0)]) (fun (q : Int32 × Int32) => match q with | (v265_29_0, v265_29_1) => ((v265_29_0).toInt).toNat) (fun q_265 ih_265 H locs ls hP => ?_) (v64_18_2, 0) ⟨⟨by omega, by omega⟩, ⟨by decide +kernel, by decide +kernel⟩, (by have q0 : (0 : Int32).toInt = 0 := (by decide); (first | (clear x23_1; omega) | omega)), h_27, (lv_sub hl_28 [1, 2, 3, 4, 5, 6, 7, 0] rfl)⟩
        obtain ⟨v265_29_0, v265_29_1⟩ := q_265
        obtain ⟨hv265_29_0, hv265_29_1, x30_0, h, hl⟩ := hP
        refine lv_aload_n hx hb dX12_laysTurning_265 rfl (lv_at hl 0 rfl) ?_
        refine q_get X hK h 8 rfl rfl wf_12 30 (by decide) rfl wm_5_200 dX12_laysTurning_266 ?_
        refine lv_iload hx hb dX12_laysTurning_269 (lv_at hl 7 rfl) ?_
        refine q_iald X hK h 5 rfl (i_in rfl (by omega) (by omega)) dX12_laysTurning_271 ?_
        obtain ⟨z_31, ez_31, hz_31⟩ := e_any (v64_18_6 v265_29_0.toNatClampNeg)
        refine q_c z_31 ez_31 ?_
        refine lv_iconst (v := (-1)) hx hb dX12_laysTurning_272 (by decide) ?_
        refine lv_icmp_eq (tgt := 298) hx hb dX12_laysTurning_273 (by decide) (fun c_32 => ?_) (fun c_32 => ?_)
        · replace c_32 := i_eq (x := z_31) (y := (-1)) rfl (show ((-1) : Int32).toInt = -1 by decide) c_32
          have lz_33 : Ln v64_18_6 (v265_29_0 : Int32).toNatClampNeg = 0 := by show (if (v64_18_6 (v265_29_0 : Int32).toNatClampNeg).toInt = -1 then 0 else _) = 0; rw [ez_31, if_pos (by omega)]
          refine lv_aload_n hx hb dX12_laysTurning_298 rfl (lv_at hl 0 rfl) ?_
          refine q_get X hK h 8 rfl rfl wf_12 33 (by decide) rfl wm_5_203 dX12_laysTurning_299 ?_
          refine lv_istore (lv' := [(7, .int v265_29_1), (0, .ref h0), (1, .int p0), (2, .int p1), (3, .int r_5), (4, .int r_7), (5, .int v64_18_1), (6, .int v64_18_2)]) hx hb dX12_laysTurning_302 hl (by decide) rfl (fun ls_34 hl_34 => ?_)
          clear hl
          refine lv_iload hx hb dX12_laysTurning_304 (lv_at hl_34 7 rfl) ?_
          refine lv_istore (lv' := [(8, .int v64_18_2), (7, .int v265_29_1), (0, .ref h0), (1, .int p0), (2, .int p1), (3, .int r_5), (4, .int r_7), (5, .int v64_18_1), (6, .int v64_18_2)]) hx hb dX12_laysTurning_306 hl_34 (by decide) rfl (fun ls_35 hl_35 => ?_)
          clear hl_34
          refine q_wl (fun (q : Int32 × Int32) H locs ls => match q with | (v308_36_0, v308_36_1) => ∃ v308_36_2 : Nat → Int32, (0 ≤ (v308_36_0).toInt ∧ (v308_36_0).toInt ≤ 999) ∧ (0 ≤ (v308_36_1).toInt ∧ (v308_36_1).toInt ≤ 999) ∧ (0 ≤ (v308_36_0 : Int32).toInt ∧ (v308_36_0 : Int32).toInt < (v64_18_1 : Int32).toInt ∧ (v308_36_1 : Int32).toInt = (Ln v64_18_6 (v308_36_0 : Int32).toNatClampNeg : Int)) ∧ qW D (va_A (wk_410b6a568 cy h0 p2 h1 w0 w1 w2 p3 p4 p5 p6 p7 p8 p9 p10 p11 p12 p13 h2 h3 h4 w3 w4 p14 p15 w5 w6 w7 p16 p17 h5 h6 h7 h8 h9 p18 w8 w9 w10 h1 f0 h2 f1 h3 f2 h4 f3 h5 f4 h6 f5 h7 f6 h8 f7 h9 f8) sz) s.heap (wk_dcd050277 cy h2 v64_18_9 h3 v64_18_10 h4 v64_18_3 h5 v64_18_4 h6 v64_18_5 h7 v64_18_6 h8 v308_36_2 h9 v64_18_7 h0 p2 h1 w0 w1 w2 p3 p4 p5 p6 p7 p8 p9 p10 p11 p12 p13 h2 h3 h4 w3 w4 p14 p15 w5 w6 w7 p16 p17 h5 h6 h7 h8 h9 v265_29_1 w8 w9 w10 h1 (u_24.2.1 0)) H locs ∧ lv_has ls 10 [(0, .ref h0), (1, .int p0), (2, .int p1), (3, .int r_5), (4, .int r_7), (5, .int v64_18_1), (6, .int v64_18_2), (7, .int v308_36_1), (8, .int v308_36_0)]) (fun (q : Int32 × Int32) => match q with | (v308_36_0, v308_36_1) => ((v308_36_0).toInt).toNat) (fun q_308 ih_308 H locs ls hP => ?_) (v64_18_2, v265_29_1) ⟨f7, ⟨by omega, by omega⟩, hv265_29_1, (by (first | (clear x23_1; omega) | omega)), h, (lv_sub hl_35 [2, 3, 4, 5, 6, 7, 8, 1, 0] rfl)⟩
          obtain ⟨v308_36_0, v308_36_1⟩ := q_308
          obtain ⟨v308_36_2, hv308_36_0, hv308_36_1, x37_0, h, hl⟩ := hP
          refine lv_aload_n hx hb dX12_laysTurning_308 rfl (lv_at hl 0 rfl) ?_
          refine q_get X hK h 8 rfl rfl wf_12 30 (by decide) rfl wm_5_200 dX12_laysTurning_309 ?_
          refine lv_iload hx hb dX12_laysTurning_312 (lv_at hl 8 rfl) ?_
          refine q_iald X hK h 5 rfl (i_in rfl (by omega) (by omega)) dX12_laysTurning_314 ?_
          obtain ⟨z_38, ez_38, hz_38⟩ := e_any (v64_18_6 v308_36_0.toNatClampNeg)
          refine q_c z_38 ez_38 ?_
          refine lv_iconst (v := (-1)) hx hb dX12_laysTurning_315 (by decide) ?_
          refine lv_icmp_eq (tgt := 348) hx hb dX12_laysTurning_316 (by decide) (fun c_39 => ?_) (fun c_39 => ?_)
          · replace c_39 := i_eq (x := z_38) (y := (-1)) rfl (show ((-1) : Int32).toInt = -1 by decide) c_39
            refine lv_aload_n hx hb dX12_laysTurning_348 rfl (lv_at hl 0 rfl) ?_
            refine q_get X hK h 8 rfl rfl wf_12 33 (by decide) rfl wm_5_203 dX12_laysTurning_349 ?_
            exact q_iret X hr hlk hK h rfl (fun _ => 0, (vcons v64_18_9 (vcons v64_18_10 (vcons v64_18_3 (vcons v64_18_4 (vcons v64_18_5 (vcons v64_18_6 (vcons v308_36_2 (vcons v64_18_7 (vcons (fun _ => v265_29_1) (vcons (u_24.2.1 0) (fun _ => (fun _ => 0)))))))))))), fun _ _ => 0) ⟨(bw hv265_29_1 (by decide) (by decide)), (rg_wide rv64_18_3 (by decide) (by decide)), (rg_wide rv64_18_4 (by decide) (by decide)), (bw hv265_29_1 (by decide) (by decide)), w24_0, w24_1, trivial⟩ [8, 9, 0, 1, 2, 3, 4, 5, 6, 7] rfl rfl dX12_laysTurning_352 (Nat.le_of_ble_eq_true rfl) (Nat.le_of_ble_eq_true rfl)
          · replace c_39 := i_ne (x := z_38) (y := (-1)) rfl (show ((-1) : Int32).toInt = -1 by decide) c_39
            have ly_40 := ln_step x22_0 (by omega) (by omega) ez_38 (by omega)
            obtain ⟨z_41, ez_41, hz_41⟩ := e_add (x := v308_36_1) (y := Int32.ofInt (-1)) rfl (b := (-1)) (by decide) (by omega) (by omega)
            refine lv_iinc (v := z_41) (lv' := [(7, .int z_41), (0, .ref h0), (1, .int p0), (2, .int p1), (3, .int r_5), (4, .int r_7), (5, .int v64_18_1), (6, .int v64_18_2), (8, .int v308_36_0)]) hx hb dX12_laysTurning_319 hl (k := 7) rfl ez_41 (by decide) rfl (fun ls_41 hl_41 => ?_)
            clear hl
            refine lv_aload_n hx hb dX12_laysTurning_322 rfl (lv_at hl_41 1 rfl) ?_
            refine q_get X hK h 8 rfl rfl wf_12 31 (by decide) rfl wm_5_201 dX12_laysTurning_323 ?_
            refine lv_iload hx hb dX12_laysTurning_326 (lv_at hl_41 0 rfl) ?_
            refine lv_aload_n hx hb dX12_laysTurning_328 rfl (lv_at hl_41 1 rfl) ?_
            refine q_get X hK h 8 rfl rfl wf_12 29 (by decide) rfl wm_5_199 dX12_laysTurning_329 ?_
            refine lv_iload hx hb dX12_laysTurning_332 (lv_at hl_41 8 rfl) ?_
            refine q_iald X hK h 4 rfl (i_in rfl (by omega) (by omega)) dX12_laysTurning_334 ?_
            refine q_any (fun z_42 hz_42 => ?_)
            refine q_iast X hK h 6 rfl (i_in rfl (by omega) (by omega)) dX12_laysTurning_335 (fun H locs h_44 => ?_)
            clear h
            replace h_44 : qW D _ _ (wk_dcd050277 cy h2 v64_18_9 h3 v64_18_10 h4 v64_18_3 h5 v64_18_4 h6 v64_18_5 h7 v64_18_6 h8 (upd v308_36_2 (Int32.toNatClampNeg z_41) z_42) h9 v64_18_7 h0 p2 h1 w0 w1 w2 p3 p4 p5 p6 p7 p8 p9 p10 p11 p12 p13 h2 h3 h4 w3 w4 p14 p15 w5 w6 w7 p16 p17 h5 h6 h7 h8 h9 v265_29_1 w8 w9 w10 h1 (u_24.2.1 0)) _ _ := h_44
            obtain ⟨F_43, eF_43⟩ : ∃ z, (upd v308_36_2 (Int32.toNatClampNeg z_41) z_42) = z := ⟨_, rfl⟩
            rw [eF_43] at h_44
            clear eF_43
            refine lv_aload_n hx hb dX12_laysTurning_336 rfl (lv_at hl_41 1 rfl) ?_
            refine q_get X hK h_44 8 rfl rfl wf_12 30 (by decide) rfl wm_5_200 dX12_laysTurning_337 ?_
            refine lv_iload hx hb dX12_laysTurning_340 (lv_at hl_41 8 rfl) ?_
            refine q_iald X hK h_44 5 rfl (i_in rfl (by omega) (by omega)) dX12_laysTurning_342 ?_
            obtain ⟨z_45, ez_45, hz_45⟩ := e_any (v64_18_6 v308_36_0.toNatClampNeg)
            refine q_c z_45 ez_45 ?_
            have l2_46 := ld2 ez_38 ez_45
            have lx_46 := ln_step x22_0 (by omega) (by omega) ez_45 (by omega)
            refine lv_istore (lv' := [(8, .int z_45), (7, .int z_41), (0, .ref h0), (1, .int p0), (2, .int p1), (3, .int r_5), (4, .int r_7), (5, .int v64_18_1), (6, .int v64_18_2)]) hx hb dX12_laysTurning_343 hl_41 (by decide) rfl (fun ls_47 hl_47 => ?_)
            clear hl_41
            refine lv_goto (tgt := 308) hx hb dX12_laysTurning_345 (by decide) ?_
            exact ih_308 (z_45, z_41) (by show ((z_45).toInt).toNat < ((v308_36_0).toInt).toNat; omega) _ _ _ ⟨F_43, ⟨by omega, by omega⟩, ⟨by omega, by omega⟩, (by (first | (clear x23_1; omega) | omega)), h_44, (lv_sub hl_47 [2, 3, 4, 5, 6, 7, 8, 1, 0] rfl)⟩
        · replace c_32 := i_ne (x := z_31) (y := (-1)) rfl (show ((-1) : Int32).toInt = -1 by decide) c_32
          refine lv_aload_n hx hb dX12_laysTurning_276 rfl (lv_at hl 0 rfl) ?_
          refine lv_dup hx hb dX12_laysTurning_277 rfl ?_
          refine q_get X hK h 8 rfl rfl wf_12 33 (by decide) rfl wm_5_203 dX12_laysTurning_278 ?_
          refine lv_iconst (v := 1) hx hb dX12_laysTurning_281 (by decide) ?_
          refine lv_iadd hx hb dX12_laysTurning_282 ?_
          obtain ⟨z_48, ez_48, hz_48⟩ := e_add (x := v265_29_1) (y := 1) rfl (show (1 : Int32).toInt = 1 by decide) (by omega) (by omega)
          refine q_c z_48 ez_48 ?_
          clear ez_48
          refine q_put (v := .int z_48) X hK h 8 rfl rfl wf_12 tyX12 tyX12_ok nmX12 33 (by decide) wm_5_203 rfl rfl rfl (Nat.le_of_ble_eq_true rfl) dX12_laysTurning_283 (fun H locs h_49 => ?_)
          clear h
          replace h_49 : qW D _ _ (wk_dcd050277 cy h2 v64_18_9 h3 v64_18_10 h4 v64_18_3 h5 v64_18_4 h6 v64_18_5 h7 v64_18_6 h8 f7 h9 v64_18_7 h0 p2 h1 w0 w1 w2 p3 p4 p5 p6 p7 p8 p9 p10 p11 p12 p13 h2 h3 h4 w3 w4 p14 p15 w5 w6 w7 p16 p17 h5 h6 h7 h8 h9 z_48 w8 w9 w10 h1 (u_24.2.1 0)) _ _ := h_49
          refine lv_aload_n hx hb dX12_laysTurning_286 rfl (lv_at hl 0 rfl) ?_
          refine q_get X hK h_49 8 rfl rfl wf_12 30 (by decide) rfl wm_5_200 dX12_laysTurning_287 ?_
          refine lv_iload hx hb dX12_laysTurning_290 (lv_at hl 7 rfl) ?_
          refine q_iald X hK h_49 5 rfl (i_in rfl (by omega) (by omega)) dX12_laysTurning_292 ?_
          obtain ⟨z_50, ez_50, hz_50⟩ := e_any (v64_18_6 v265_29_0.toNatClampNeg)
          refine q_c z_50 ez_50 ?_
          have l2_51 := ld2 ez_31 ez_50
          have lx_51 := ln_step x22_0 (by omega) (by omega) ez_50 (by omega)
          refine lv_istore (lv' := [(7, .int z_50), (0, .ref h0), (1, .int p0), (2, .int p1), (3, .int r_5), (4, .int r_7), (5, .int v64_18_1), (6, .int v64_18_2)]) hx hb dX12_laysTurning_293 hl (by decide) rfl (fun ls_52 hl_52 => ?_)
          clear hl
          refine lv_goto (tgt := 265) hx hb dX12_laysTurning_295 (by decide) ?_
          exact ih_265 (z_50, z_48) (by show ((z_50).toInt).toNat < ((v265_29_0).toInt).toNat; omega) _ _ _ ⟨⟨by omega, by omega⟩, ⟨by omega, by omega⟩, (by (first | (clear x23_1; omega) | omega)), h_49, (lv_sub hl_52 [1, 2, 3, 4, 5, 6, 7, 0] rfl)⟩
      · replace c_25 := i_eq (x := v64_18_2) (y := (-1)) rfl (show ((-1) : Int32).toInt = -1 by decide) c_25
        refine lv_iconst (v := (-1)) hx hb dX12_laysTurning_254 (by decide) ?_
        exact q_iret X hr hlk hK h_24 rfl (fun _ => 0, (vcons v64_18_9 (vcons v64_18_10 (vcons v64_18_3 (vcons v64_18_4 (vcons v64_18_5 (vcons v64_18_6 (vcons f7 (vcons v64_18_7 (vcons (fun _ => p18) (vcons (u_24.2.1 0) (fun _ => (fun _ => 0)))))))))))), fun _ _ => 0) ⟨⟨by decide +kernel, by decide +kernel⟩, (rg_wide rv64_18_3 (by decide) (by decide)), (rg_wide rv64_18_4 (by decide) (by decide)), hp18, w24_0, w24_1, trivial⟩ [8, 9, 0, 1, 2, 3, 4, 5, 6, 7] rfl rfl dX12_laysTurning_255 (Nat.le_of_ble_eq_true rfl) (Nat.le_of_ble_eq_true rfl)
    · skip
      refine lv_icmp_ge (tgt := 242) hx hb dX12_laysTurning_68 (by decide) (fun c_53 => ?_) (fun c_53 => ?_)
      · replace c_53 := i_le (x := v64_18_1) (y := v64_18_0) rfl rfl c_53
        exact J_242 _ _ _ _ ⟨(mt_n x19_0 (by (first | assumption | (clear x20_1; omega) | omega))), (x20_1), rfl, h, (lv_sub hl [0, 1, 2, 3, 4, 5, 6, 7] rfl)⟩
      · replace c_53 := i_nle (x := v64_18_1) (y := v64_18_0) rfl rfl c_53
        refine lv_iload hx hb dX12_laysTurning_71 (lv_at hl 6 rfl) ?_
        refine lv_iconst (v := (-1)) hx hb dX12_laysTurning_73 (by decide) ?_
        refine lv_icmp_ne (tgt := 242) hx hb dX12_laysTurning_74 (by decide) (fun c_54 => ?_) (fun c_54 => ?_)
        · replace c_54 := i_ne (x := v64_18_2) (y := (-1)) rfl (show ((-1) : Int32).toInt = -1 by decide) c_54
          exact J_242 _ _ _ _ ⟨(mt_n x19_0 (by (first | assumption | (clear x20_1; omega) | omega))), (x20_1), rfl, h, (lv_sub hl [0, 1, 2, 3, 4, 5, 6, 7] rfl)⟩
        · replace c_54 := i_eq (x := v64_18_2) (y := (-1)) rfl (show ((-1) : Int32).toInt = -1 by decide) c_54
          refine lv_aload_n hx hb dX12_laysTurning_77 rfl (lv_at hl 0 rfl) ?_
          refine lv_iload_n hx hb dX12_laysTurning_78 rfl (lv_at hl 1 rfl) ?_
          refine lv_aload_n hx hb dX12_laysTurning_79 rfl (lv_at hl 0 rfl) ?_
          refine q_get X hK h 8 rfl rfl wf_12 28 (by decide) rfl wm_5_198 dX12_laysTurning_80 ?_
          refine lv_iload hx hb dX12_laysTurning_83 (lv_at hl 7 rfl) ?_
          refine q_iald X hK h 3 rfl (i_in rfl (by omega) (by omega)) dX12_laysTurning_85 ?_
          obtain ⟨z_55, ez_55, hz_55⟩ := rg_get rv64_18_4 (x := v64_18_0) rfl (by omega) (by omega)
          refine q_c z_55 ez_55 ?_
          clear ez_55
          refine q_callVv (rest := []) (wr := (wk_5ec465ffc cy h2 v64_18_9 h3 v64_18_10 h4 v64_18_3 h5 v64_18_4 h6 v64_18_5 h7 v64_18_6 h8 f7 h9 v64_18_7)) X hK hT hA h (fun sz => gX12_puts_2de0910 l D cy h0 h1 p0 z_55 p2 w0 w1 w2 p3 p4 p5 p6 p7 p8 p9 p10 p11 p12 p13 (.ref h2) (.ref h3) (.ref h4) w3 w4 p14 p15 w5 w6 w7 p16 p17 (.ref h5) (.ref h6) (.ref h7) (.ref h8) (.ref h9) p18 w8 w9 w10 v64_18_8 p19 hp0 ⟨by omega, by omega⟩ hp2 hp3 hp4 hp5 hp6 (i_rng _) hp8 (i_rng _) (i_rng _) (i_rng _) (i_rng _) (i_rng _) (i_rng _) (i_rng _) (i_rng _) (i_rng _) (i_rng _) hp19 trv64_18_8_84 rv64_18_8 sz) wm_7_176 wm_7_179 wm_1_12 hd_X12_puts wm_7_178 wp_7_11 (ci := 12) (q0 := 0) rfl rfl ⟨Nat.le_of_ble_eq_true rfl, Nat.le_of_ble_eq_true rfl⟩ hl.1 rfl (Nat.le_of_ble_eq_true rfl) dX12_laysTurning_86 ⟨Nat.le_of_ble_eq_true rfl, Nat.le_of_ble_eq_true rfl⟩ [8, 9] [0, 1, 2, 3, 4, 5, 6, 7] rfl rfl (by decide) rfl rfl (fun u_56 H locs w_56 h_56 => ?_)
          clear h
          obtain ⟨w56_0, w56_1, _⟩ := w_56
          replace h_56 : qW D _ _ (wk_dcd050277 cy h2 v64_18_9 h3 v64_18_10 h4 v64_18_3 h5 v64_18_4 h6 v64_18_5 h7 v64_18_6 h8 f7 h9 v64_18_7 h0 p2 h1 w0 w1 w2 p3 p4 p5 p6 p7 p8 p9 p10 p11 p12 p13 h2 h3 h4 w3 w4 p14 p15 w5 w6 w7 p16 p17 h5 h6 h7 h8 h9 p18 w8 w9 w10 h1 (u_56.2.1 0)) _ _ := h_56
          refine lv_aload_n hx hb dX12_laysTurning_89 rfl (lv_at hl 0 rfl) ?_
          refine lv_iload_n hx hb dX12_laysTurning_90 rfl (lv_at hl 1 rfl) ?_
          refine lv_iload_n hx hb dX12_laysTurning_91 rfl (lv_at hl 2 rfl) ?_
          refine lv_aload_n hx hb dX12_laysTurning_92 rfl (lv_at hl 0 rfl) ?_
          refine q_get X hK h_56 8 rfl rfl wf_12 1 (by decide) rfl wm_5_171 dX12_laysTurning_93 ?_
          refine lv_bipush (v := 52) hx hb dX12_laysTurning_96 (by decide) ?_
          refine q_iald X hK h_56 9 rfl (q_in (by decide +kernel)) dX12_laysTurning_98 ?_
          refine q_any (fun z_57 hz_57 => ?_)
          refine q_callVi (rest := []) (wr := [(h4, .inl (cy 1, 3, .inl v64_18_3)), (h5, .inl (cy 1, 1000, .inl v64_18_4)), (h6, .inl (cy 1, 1000, .inl v64_18_5)), (h7, .inl (cy 1, 1000, .inl v64_18_6)), (h8, .inl (cy 1, 1000, .inl f7)), (h9, .inl (cy 3, 1000, .inl v64_18_7))]) X hK hT hA h_56 (fun sz => gX12_areOpposed_e7e6c1a l D cy h0 h1 h2 h3 p0 p1 z_57 p2 w0 w1 w2 p3 p4 p5 p6 p7 p8 p9 p10 p11 p12 p13 (.ref h4) w3 w4 p14 p15 w5 w6 w7 p16 p17 (.ref h5) (.ref h6) (.ref h7) (.ref h8) (.ref h9) p18 w8 w9 w10 (u_56.2.1 0) p19 v64_18_9 v64_18_10 hp0 hp1 (i_rng _) hp2 hp3 hp4 hp5 hp6 (i_rng _) hp8 (i_rng _) (i_rng _) (i_rng _) (i_rng _) (i_rng _) (i_rng _) (i_rng _) (i_rng _) (i_rng _) (i_rng _) hp19 w56_1 w56_0 sz) wm_6_187 wm_6_190 wm_1_12 hd_X12_areOpposed wm_6_189 wp_5_11 (ci := 12) (q0 := 0) rfl rfl ⟨Nat.le_of_ble_eq_true rfl, Nat.le_of_ble_eq_true rfl⟩ hl.1 rfl (Nat.le_of_ble_eq_true rfl) dX12_laysTurning_99 ⟨Nat.le_of_ble_eq_true rfl, Nat.le_of_ble_eq_true rfl⟩ [8, 9, 0, 1] [2, 3, 4, 5, 6, 7] rfl rfl (by decide) rfl rfl (fun r_58 u_58 H locs w_58 h_58 => ?_)
          clear h_56
          obtain ⟨wr_58, _⟩ := w_58
          replace h_58 : qW D _ _ (wk_aaeff7a5c cy h4 v64_18_3 h5 v64_18_4 h6 v64_18_5 h7 v64_18_6 h8 f7 h9 v64_18_7 h0 p2 h1 w0 w1 w2 p3 p4 p5 p6 p7 p8 p9 p10 p11 p12 p13 h2 h3 h4 w3 w4 p14 p15 w5 w6 w7 p16 p17 h5 h6 h7 h8 h9 p18 w8 w9 w10 h1 (u_56.2.1 0) h2 (u_58.2.1 0) h3 (u_58.2.1 1)) _ _ := h_58
          refine q_jn (pc2 := 109) (fun H locs ls st => ∃ v109_59_0 : Int32, ((-1) ≤ (v109_59_0).toInt ∧ (v109_59_0).toInt ≤ 999) ∧ ((v109_59_0 : Int32).toInt = -1 ∨ (0 ≤ (v109_59_0 : Int32).toInt ∧ (v109_59_0 : Int32).toInt < (v64_18_1 : Int32).toInt)) ∧ st = [] ∧ qW D (va_A (wk_410b6a568 cy h0 p2 h1 w0 w1 w2 p3 p4 p5 p6 p7 p8 p9 p10 p11 p12 p13 h2 h3 h4 w3 w4 p14 p15 w5 w6 w7 p16 p17 h5 h6 h7 h8 h9 p18 w8 w9 w10 h1 f0 h2 f1 h3 f2 h4 f3 h5 f4 h6 f5 h7 f6 h8 f7 h9 f8) sz) s.heap (wk_aaeff7a5c cy h4 v64_18_3 h5 v64_18_4 h6 v64_18_5 h7 v64_18_6 h8 f7 h9 v64_18_7 h0 p2 h1 w0 w1 w2 p3 p4 p5 p6 p7 p8 p9 p10 p11 p12 p13 h2 h3 h4 w3 w4 p14 p15 w5 w6 w7 p16 p17 h5 h6 h7 h8 h9 p18 w8 w9 w10 h1 (u_56.2.1 0) h2 (u_58.2.1 0) h3 (u_58.2.1 1)) H locs ∧ lv_has ls 10 [(0, .ref h0), (1, .int p0), (2, .int p1), (3, .int r_5), (4, .int r_7), (5, .int v64_18_1), (6, .int v109_59_0), (7, .int v64_18_0)]) (fun H locs ls st hP => ?_) (fun J_109 => ?_)
          · obtain ⟨v109_59_0, hv109_59_0, x60_0, rfl, h, hl⟩ := hP
            refine lv_iconst (v := 0) hx hb dX12_laysTurning_109 (by decide) ?_
            refine lv_istore (lv' := [(8, .int 0), (0, .ref h0), (1, .int p0), (2, .int p1), (3, .int r_5), (4, .int r_7), (5, .int v64_18_1), (6, .int v109_59_0), (7, .int v64_18_0)]) hx hb dX12_laysTurning_110 hl (by decide) rfl (fun ls_61 hl_61 => ?_)
            clear hl
            refine q_wl (fun (q : Int32 × Int32) H locs ls => match q with | (v112_62_0, v112_62_1) => ∃ v112_62_2 : Nat → Int32, ∃ v112_62_3 : Nat → Int32, ∃ v112_62_4 : Nat → Int32, ∃ v112_62_5 : Nat → Int32, ∃ v112_62_6 : Nat → Int32, ∃ v112_62_7 : Nat → Int32, ∃ v112_62_8 : Nat → Int32, ∃ v112_62_9 : Nat → Int32, (0 ≤ (v112_62_0).toInt ∧ (v112_62_0).toInt ≤ 10) ∧ (1 ≤ (v112_62_1).toInt ∧ (v112_62_1).toInt ≤ 1000) ∧ RG v112_62_2 3 0 9 ∧ RG v112_62_3 1000 0 999 ∧ v112_62_7 84 = p19 ∧ AL v112_62_7 ∧ (MT v112_62_6 v112_62_5 (v112_62_1 : Int32).toInt) ∧ ((v109_59_0 : Int32).toInt = -1 ∨ (0 ≤ (v109_59_0 : Int32).toInt ∧ (v109_59_0 : Int32).toInt < (v112_62_1 : Int32).toInt)) ∧ ((v64_18_0 : Int32).toInt < (v112_62_1 : Int32).toInt) ∧ qW D (va_A (wk_410b6a568 cy h0 p2 h1 w0 w1 w2 p3 p4 p5 p6 p7 p8 p9 p10 p11 p12 p13 h2 h3 h4 w3 w4 p14 p15 w5 w6 w7 p16 p17 h5 h6 h7 h8 h9 p18 w8 w9 w10 h1 f0 h2 f1 h3 f2 h4 f3 h5 f4 h6 f5 h7 f6 h8 f7 h9 f8) sz) s.heap (wk_aaeff7a5c cy h4 v112_62_2 h5 v112_62_3 h6 v112_62_4 h7 v112_62_5 h8 f7 h9 v112_62_6 h0 p2 h1 w0 w1 w2 p3 p4 p5 p6 p7 p8 p9 p10 p11 p12 p13 h2 h3 h4 w3 w4 p14 p15 w5 w6 w7 p16 p17 h5 h6 h7 h8 h9 p18 w8 w9 w10 h1 v112_62_7 h2 v112_62_8 h3 v112_62_9) H locs ∧ lv_has ls 10 [(0, .ref h0), (1, .int p0), (2, .int p1), (3, .int r_5), (4, .int r_7), (5, .int v112_62_1), (6, .int v109_59_0), (7, .int v64_18_0), (8, .int v112_62_0)]) (fun (q : Int32 × Int32) => match q with | (v112_62_0, v112_62_1) => (11 - (v112_62_0).toInt).toNat) (fun q_112 ih_112 H locs ls hP => ?_) (0, v64_18_1) ⟨v64_18_3, v64_18_4, v64_18_5, v64_18_6, v64_18_7, (u_56.2.1 0), (u_58.2.1 0), (u_58.2.1 1), ⟨by decide +kernel, by decide +kernel⟩, hv64_18_1, (rg_wide rv64_18_3 (by decide) (by decide)), (rg_wide rv64_18_4 (by decide) (by decide)), w56_1, w56_0, (mt_n x19_0 (by (first | assumption | (clear x20_1 x60_0; omega) | omega))), (x60_0), (by (first | (clear x20_1 x60_0; omega) | omega)), h, (lv_sub hl_61 [1, 2, 3, 4, 5, 6, 7, 8, 0] rfl)⟩
            obtain ⟨v112_62_0, v112_62_1⟩ := q_112
            obtain ⟨v112_62_2, v112_62_3, v112_62_4, v112_62_5, v112_62_6, v112_62_7, v112_62_8, v112_62_9, hv112_62_0, hv112_62_1, rv112_62_2, rv112_62_3, trv112_62_7_84, rv112_62_7, x63_0, x64_1, x65_2, h, hl⟩ := hP
            refine lv_iload hx hb dX12_laysTurning_112 (lv_at hl 8 rfl) ?_
            refine lv_aload_n hx hb dX12_laysTurning_114 rfl (lv_at hl 0 rfl) ?_
            refine q_get X hK h 6 rfl rfl wf_12 1 (by decide) rfl wm_5_171 dX12_laysTurning_115 ?_
            refine lv_iconst (v := 2) hx hb dX12_laysTurning_118 (by decide) ?_
            refine q_iald X hK h 7 rfl (q_in (by decide +kernel)) dX12_laysTurning_119 ?_
            obtain ⟨z_66, ez_66, hz_66⟩ := al_P rv112_62_7 (x := 2) (show (2 : Int32).toInt = 2 by decide) (by omega) (by omega)
            refine q_c z_66 ez_66 ?_
            clear ez_66
            refine lv_icmp_ge (tgt := 236) hx hb dX12_laysTurning_120 (by decide) (fun c_67 => ?_) (fun c_67 => ?_)
            · replace c_67 := i_le (x := z_66) (y := v112_62_0) rfl rfl c_67
              obtain ⟨z_68, ez_68, hz_68⟩ := e_add (x := v64_18_0) (y := Int32.ofInt 1) rfl (b := 1) (by decide) (by omega) (by omega)
              refine lv_iinc (v := z_68) (lv' := [(7, .int z_68), (0, .ref h0), (1, .int p0), (2, .int p1), (3, .int r_5), (4, .int r_7), (5, .int v112_62_1), (6, .int v109_59_0), (8, .int v112_62_0)]) hx hb dX12_laysTurning_236 hl (k := 7) rfl ez_68 (by decide) rfl (fun ls_68 hl_68 => ?_)
              clear hl
              refine lv_goto (tgt := 64) hx hb dX12_laysTurning_239 (by decide) ?_
              exact ih_64 (z_68, v112_62_1, v109_59_0) (by show (1001 - (z_68).toInt).toNat < (1001 - (v64_18_0).toInt).toNat; omega) _ _ _ ⟨v112_62_2, v112_62_3, v112_62_4, v112_62_5, v112_62_6, v112_62_7, v112_62_8, v112_62_9, ⟨by omega, by omega⟩, hv112_62_1, hv109_59_0, (rg_wide rv112_62_2 (by decide) (by decide)), (rg_wide rv112_62_3 (by decide) (by decide)), trv112_62_7_84, rv112_62_7, (mt_n x63_0 (by (first | assumption | (clear x20_1 x60_0 x64_1; omega) | omega))), (x64_1), (q_re h [8, 9, 0, 1, 2, 3, 4, 5, 6, 7] rfl rfl), (lv_sub hl_68 [1, 2, 3, 4, 5, 6, 7, 0] rfl)⟩
            · replace c_67 := i_nle (x := z_66) (y := v112_62_0) rfl rfl c_67
              refine lv_iload hx hb dX12_laysTurning_123 (lv_at hl 8 rfl) ?_
              refine lv_iload_n hx hb dX12_laysTurning_125 rfl (lv_at hl 1 rfl) ?_
              refine q_jn (pc2 := 230) (fun H locs ls st => ∃ v230_69_0 : Int32, ∃ v230_69_1 : Nat → Int32, ∃ v230_69_2 : Nat → Int32, ∃ v230_69_3 : Nat → Int32, ∃ v230_69_4 : Nat → Int32, ∃ v230_69_5 : Nat → Int32, ∃ v230_69_6 : Nat → Int32, ∃ v230_69_7 : Nat → Int32, ∃ v230_69_8 : Nat → Int32, (1 ≤ (v230_69_0).toInt ∧ (v230_69_0).toInt ≤ 1000) ∧ RG v230_69_1 1000 0 999 ∧ RG v230_69_7 3 0 9 ∧ v230_69_8 84 = p19 ∧ AL v230_69_8 ∧ (MT v230_69_4 v230_69_3 (v230_69_0 : Int32).toInt) ∧ ((v109_59_0 : Int32).toInt = -1 ∨ (0 ≤ (v109_59_0 : Int32).toInt ∧ (v109_59_0 : Int32).toInt < (v230_69_0 : Int32).toInt)) ∧ ((v64_18_0 : Int32).toInt < (v230_69_0 : Int32).toInt) ∧ st = [] ∧ qW D (va_A (wk_410b6a568 cy h0 p2 h1 w0 w1 w2 p3 p4 p5 p6 p7 p8 p9 p10 p11 p12 p13 h2 h3 h4 w3 w4 p14 p15 w5 w6 w7 p16 p17 h5 h6 h7 h8 h9 p18 w8 w9 w10 h1 f0 h2 f1 h3 f2 h4 f3 h5 f4 h6 f5 h7 f6 h8 f7 h9 f8) sz) s.heap (wk_aaeff7a5c cy h4 v230_69_7 h5 v230_69_1 h6 v230_69_2 h7 v230_69_3 h8 f7 h9 v230_69_4 h0 p2 h1 w0 w1 w2 p3 p4 p5 p6 p7 p8 p9 p10 p11 p12 p13 h2 h3 h4 w3 w4 p14 p15 w5 w6 w7 p16 p17 h5 h6 h7 h8 h9 p18 w8 w9 w10 h1 v230_69_8 h2 v230_69_5 h3 v230_69_6) H locs ∧ lv_has ls 10 [(0, .ref h0), (1, .int p0), (2, .int p1), (3, .int r_5), (4, .int r_7), (5, .int v230_69_0), (6, .int v109_59_0), (7, .int v64_18_0), (8, .int v112_62_0)]) (fun H locs ls st hP => ?_) (fun J_230 => ?_)
              · obtain ⟨v230_69_0, v230_69_1, v230_69_2, v230_69_3, v230_69_4, v230_69_5, v230_69_6, v230_69_7, v230_69_8, hv230_69_0, rv230_69_1, rv230_69_7, trv230_69_8_84, rv230_69_8, x70_0, x71_1, x72_2, rfl, h, hl⟩ := hP
                obtain ⟨z_73, ez_73, hz_73⟩ := e_add (x := v112_62_0) (y := Int32.ofInt 1) rfl (b := 1) (by decide) (by omega) (by omega)
                refine lv_iinc (v := z_73) (lv' := [(8, .int z_73), (0, .ref h0), (1, .int p0), (2, .int p1), (3, .int r_5), (4, .int r_7), (5, .int v230_69_0), (6, .int v109_59_0), (7, .int v64_18_0)]) hx hb dX12_laysTurning_230 hl (k := 8) rfl ez_73 (by decide) rfl (fun ls_73 hl_73 => ?_)
                clear hl
                refine lv_goto (tgt := 112) hx hb dX12_laysTurning_233 (by decide) ?_
                exact ih_112 (z_73, v230_69_0) (by show (11 - (z_73).toInt).toNat < (11 - (v112_62_0).toInt).toNat; omega) _ _ _ ⟨v230_69_7, v230_69_1, v230_69_2, v230_69_3, v230_69_4, v230_69_8, v230_69_5, v230_69_6, ⟨by omega, by omega⟩, hv230_69_0, (rg_wide rv230_69_7 (by decide) (by decide)), (rg_wide rv230_69_1 (by decide) (by decide)), trv230_69_8_84, rv230_69_8, (mt_n x70_0 (by (first | assumption | (clear x20_1 x60_0 x64_1 x71_1; omega) | omega))), (x71_1), (x72_2), h, (lv_sub hl_73 [1, 2, 3, 4, 5, 6, 7, 8, 0] rfl)⟩
              · skip
                refine lv_icmp_eq (tgt := 230) hx hb dX12_laysTurning_126 (by decide) (fun c_74 => ?_) (fun c_74 => ?_)
                · replace c_74 := i_eq (x := v112_62_0) (y := p0) rfl rfl c_74
                  exact J_230 _ _ _ _ ⟨v112_62_1, v112_62_3, v112_62_4, v112_62_5, v112_62_6, v112_62_8, v112_62_9, v112_62_2, v112_62_7, hv112_62_1, (rg_wide rv112_62_3 (by decide) (by decide)), (rg_wide rv112_62_2 (by decide) (by decide)), trv112_62_7_84, rv112_62_7, (mt_n x63_0 (by (first | assumption | (clear x20_1 x60_0 x64_1; omega) | omega))), (x64_1), (x65_2), rfl, h, (lv_sub hl [0, 1, 2, 3, 4, 5, 6, 7, 8] rfl)⟩
                · replace c_74 := i_ne (x := v112_62_0) (y := p0) rfl rfl c_74
                  refine lv_iload hx hb dX12_laysTurning_129 (lv_at hl 4 rfl) ?_
                  refine lv_i2l hx hb dX12_laysTurning_131 rfl ?_
                  obtain ⟨z_75, ez_75, hz_75⟩ := e_i2l (x := r_7) rfl
                  refine q_cl z_75 ez_75 ?_
                  clear ez_75
                  refine lv_iload_n hx hb dX12_laysTurning_132 rfl (lv_at hl 1 rfl) ?_
                  refine q_callSi (rest := []) (wr := (wk_aaeff7a5c cy h4 v112_62_2 h5 v112_62_3 h6 v112_62_4 h7 v112_62_5 h8 f7 h9 v112_62_6 h0 p2 h1 w0 w1 w2 p3 p4 p5 p6 p7 p8 p9 p10 p11 p12 p13 h2 h3 h4 w3 w4 p14 p15 w5 w6 w7 p16 p17 h5 h6 h7 h8 h9 p18 w8 w9 w10 h1 v112_62_7 h2 v112_62_8 h3 v112_62_9)) X hK hT hA h (fun sz => gX12_isIn_b0455a8 l D cy z_75 p0 ⟨by omega, by omega⟩ hp0 sz) wm_6_167 wm_6_169 wm_1_12 hd_X12_isIn wm_6_168 ⟨Nat.le_of_ble_eq_true rfl, Nat.le_of_ble_eq_true rfl⟩ hl.1 rfl (Nat.le_of_ble_eq_true rfl) dX12_laysTurning_133 ⟨Nat.le_of_ble_eq_true rfl, Nat.le_of_ble_eq_true rfl⟩ [] [0, 1, 2, 3, 4, 5, 6, 7, 8, 9] rfl rfl (by decide) rfl rfl (fun r_76 u_76 H locs w_76 h_76 => ?_)
                  clear h
                  obtain ⟨wr_76, _⟩ := w_76
                  replace h_76 : qW D _ _ (wk_aaeff7a5c cy h4 v112_62_2 h5 v112_62_3 h6 v112_62_4 h7 v112_62_5 h8 f7 h9 v112_62_6 h0 p2 h1 w0 w1 w2 p3 p4 p5 p6 p7 p8 p9 p10 p11 p12 p13 h2 h3 h4 w3 w4 p14 p15 w5 w6 w7 p16 p17 h5 h6 h7 h8 h9 p18 w8 w9 w10 h1 v112_62_7 h2 v112_62_8 h3 v112_62_9) _ _ := h_76
                  refine lv_if_eq (tgt := 230) hx hb dX12_laysTurning_136 (by decide) (fun c_77 => ?_) (fun c_77 => ?_)
                  · replace c_77 := i_eq (x := r_76) (y := 0) rfl (show (0 : Int32).toInt = 0 by decide) c_77
                    exact J_230 _ _ _ _ ⟨v112_62_1, v112_62_3, v112_62_4, v112_62_5, v112_62_6, v112_62_8, v112_62_9, v112_62_2, v112_62_7, hv112_62_1, (rg_wide rv112_62_3 (by decide) (by decide)), (rg_wide rv112_62_2 (by decide) (by decide)), trv112_62_7_84, rv112_62_7, (mt_n x63_0 (by (first | assumption | (clear x20_1 x60_0 x64_1; omega) | omega))), (x64_1), (x65_2), rfl, h_76, (lv_sub hl [0, 1, 2, 3, 4, 5, 6, 7, 8] rfl)⟩
                  · replace c_77 := i_ne (x := r_76) (y := 0) rfl (show (0 : Int32).toInt = 0 by decide) c_77
                    refine lv_iload hx hb dX12_laysTurning_139 (lv_at hl 4 rfl) ?_
                    refine lv_i2l hx hb dX12_laysTurning_141 rfl ?_
                    obtain ⟨z_78, ez_78, hz_78⟩ := e_i2l (x := r_7) rfl
                    refine q_cl z_78 ez_78 ?_
                    clear ez_78
                    refine lv_iload hx hb dX12_laysTurning_142 (lv_at hl 8 rfl) ?_
                    refine q_callSi (rest := []) (wr := (wk_aaeff7a5c cy h4 v112_62_2 h5 v112_62_3 h6 v112_62_4 h7 v112_62_5 h8 f7 h9 v112_62_6 h0 p2 h1 w0 w1 w2 p3 p4 p5 p6 p7 p8 p9 p10 p11 p12 p13 h2 h3 h4 w3 w4 p14 p15 w5 w6 w7 p16 p17 h5 h6 h7 h8 h9 p18 w8 w9 w10 h1 v112_62_7 h2 v112_62_8 h3 v112_62_9)) X hK hT hA h_76 (fun sz => gX12_isIn_b0455a8 l D cy z_78 v112_62_0 ⟨by omega, by omega⟩ ⟨by omega, by omega⟩ sz) wm_6_167 wm_6_169 wm_1_12 hd_X12_isIn wm_6_168 ⟨Nat.le_of_ble_eq_true rfl, Nat.le_of_ble_eq_true rfl⟩ hl.1 rfl (Nat.le_of_ble_eq_true rfl) dX12_laysTurning_144 ⟨Nat.le_of_ble_eq_true rfl, Nat.le_of_ble_eq_true rfl⟩ [] [0, 1, 2, 3, 4, 5, 6, 7, 8, 9] rfl rfl (by decide) rfl rfl (fun r_79 u_79 H locs w_79 h_79 => ?_)
                    clear h_76
                    obtain ⟨wr_79, _⟩ := w_79
                    replace h_79 : qW D _ _ (wk_aaeff7a5c cy h4 v112_62_2 h5 v112_62_3 h6 v112_62_4 h7 v112_62_5 h8 f7 h9 v112_62_6 h0 p2 h1 w0 w1 w2 p3 p4 p5 p6 p7 p8 p9 p10 p11 p12 p13 h2 h3 h4 w3 w4 p14 p15 w5 w6 w7 p16 p17 h5 h6 h7 h8 h9 p18 w8 w9 w10 h1 v112_62_7 h2 v112_62_8 h3 v112_62_9) _ _ := h_79
                    refine lv_if_ne (tgt := 153) hx hb dX12_laysTurning_147 (by decide) (fun c_80 => ?_) (fun c_80 => ?_)
                    · replace c_80 := i_ne (x := r_79) (y := 0) rfl (show (0 : Int32).toInt = 0 by decide) c_80
                      refine lv_aload_n hx hb dX12_laysTurning_153 rfl (lv_at hl 0 rfl) ?_
                      refine lv_iload_n hx hb dX12_laysTurning_154 rfl (lv_at hl 1 rfl) ?_
                      refine lv_aload_n hx hb dX12_laysTurning_155 rfl (lv_at hl 0 rfl) ?_
                      refine q_get X hK h_79 6 rfl rfl wf_12 28 (by decide) rfl wm_5_198 dX12_laysTurning_156 ?_
                      refine lv_iload hx hb dX12_laysTurning_159 (lv_at hl 7 rfl) ?_
                      refine q_iald X hK h_79 1 rfl (i_in rfl (by omega) (by omega)) dX12_laysTurning_161 ?_
                      obtain ⟨z_81, ez_81, hz_81⟩ := rg_get rv112_62_3 (x := v64_18_0) rfl (by omega) (by omega)
                      refine q_c z_81 ez_81 ?_
                      clear ez_81
                      refine q_callVv (rest := []) (wr := [(h4, .inl (cy 1, 3, .inl v112_62_2)), (h5, .inl (cy 1, 1000, .inl v112_62_3)), (h6, .inl (cy 1, 1000, .inl v112_62_4)), (h7, .inl (cy 1, 1000, .inl v112_62_5)), (h8, .inl (cy 1, 1000, .inl f7)), (h9, .inl (cy 3, 1000, .inl v112_62_6)), (h2, .inl (cy 1, 900, .inl v112_62_8)), (h3, .inl (cy 1, 11, .inl v112_62_9))]) X hK hT hA h_79 (fun sz => gX12_puts_2de0910 l D cy h0 h1 p0 z_81 p2 w0 w1 w2 p3 p4 p5 p6 p7 p8 p9 p10 p11 p12 p13 (.ref h2) (.ref h3) (.ref h4) w3 w4 p14 p15 w5 w6 w7 p16 p17 (.ref h5) (.ref h6) (.ref h7) (.ref h8) (.ref h9) p18 w8 w9 w10 v112_62_7 p19 hp0 ⟨by omega, by omega⟩ hp2 hp3 hp4 hp5 hp6 (i_rng _) hp8 (i_rng _) (i_rng _) (i_rng _) (i_rng _) (i_rng _) (i_rng _) (i_rng _) (i_rng _) (i_rng _) (i_rng _) hp19 trv112_62_7_84 rv112_62_7 sz) wm_7_176 wm_7_179 wm_1_12 hd_X12_puts wm_7_178 wp_7_11 (ci := 12) (q0 := 0) rfl rfl ⟨Nat.le_of_ble_eq_true rfl, Nat.le_of_ble_eq_true rfl⟩ hl.1 rfl (Nat.le_of_ble_eq_true rfl) dX12_laysTurning_162 ⟨Nat.le_of_ble_eq_true rfl, Nat.le_of_ble_eq_true rfl⟩ [6, 7] [0, 1, 2, 3, 4, 5, 8, 9] rfl rfl (by decide) rfl rfl (fun u_82 H locs w_82 h_82 => ?_)
                      clear h_79
                      obtain ⟨w82_0, w82_1, _⟩ := w_82
                      replace h_82 : qW D _ _ [(h4, .inl (cy 1, 3, .inl v112_62_2)), (h5, .inl (cy 1, 1000, .inl v112_62_3)), (h6, .inl (cy 1, 1000, .inl v112_62_4)), (h7, .inl (cy 1, 1000, .inl v112_62_5)), (h8, .inl (cy 1, 1000, .inl f7)), (h9, .inl (cy 3, 1000, .inl v112_62_6)), (h2, .inl (cy 1, 900, .inl v112_62_8)), (h3, .inl (cy 1, 11, .inl v112_62_9)), (h0, .inr (12, [.int p2, .ref h1, w0, w1, w2, .int p3, .int p4, .int p5, .int p6, .int p7, .int p8, .int p9, .int p10, .int p11, .int p12, .int p13, .ref h2, .ref h3, .ref h4, w3, w4, .int p14, .int p15, w5, w6, w7, .int p16, .int p17, .ref h5, .ref h6, .ref h7, .ref h8, .ref h9, .int p18, w8, w9, w10])), (h1, .inl (cy 1, 3918, .inl (u_82.2.1 0)))] _ _ := h_82
                      refine lv_aload_n hx hb dX12_laysTurning_165 rfl (lv_at hl 0 rfl) ?_
                      refine lv_iload_n hx hb dX12_laysTurning_166 rfl (lv_at hl 1 rfl) ?_
                      refine lv_iload hx hb dX12_laysTurning_167 (lv_at hl 8 rfl) ?_
                      refine q_callVv (rest := []) (wr := [(h5, .inl (cy 1, 1000, .inl v112_62_3)), (h6, .inl (cy 1, 1000, .inl v112_62_4)), (h7, .inl (cy 1, 1000, .inl v112_62_5)), (h8, .inl (cy 1, 1000, .inl f7)), (h9, .inl (cy 3, 1000, .inl v112_62_6))]) X hK hT hA h_82 (fun sz => gX12_talks1_48107b5 l D cy h0 h1 h2 h3 h4 p0 v112_62_0 p2 w0 w1 w2 p3 p4 p5 p6 p7 p8 p9 p10 p11 p12 p13 w3 w4 p14 p15 w5 w6 w7 p16 p17 (.ref h5) (.ref h6) (.ref h7) (.ref h8) (.ref h9) p18 w8 w9 w10 (u_82.2.1 0) p19 v112_62_8 v112_62_9 v112_62_2 hp0 ⟨by omega, by omega⟩ hp2 hp3 hp4 hp5 hp6 (i_rng _) hp8 (i_rng _) (i_rng _) (i_rng _) (i_rng _) (i_rng _) (i_rng _) (i_rng _) (i_rng _) (i_rng _) (i_rng _) hp19 w82_1 w82_0 (rg_wide rv112_62_2 (by decide) (by decide)) sz) wm_6_224 wm_6_227 wm_1_12 hd_X12_talks1 wm_6_226 wp_6_1 (ci := 12) (q0 := 0) rfl rfl ⟨Nat.le_of_ble_eq_true rfl, Nat.le_of_ble_eq_true rfl⟩ hl.1 rfl (Nat.le_of_ble_eq_true rfl) dX12_laysTurning_169 ⟨Nat.le_of_ble_eq_true rfl, Nat.le_of_ble_eq_true rfl⟩ [8, 9, 6, 7, 0] [1, 2, 3, 4, 5] rfl rfl (by decide) rfl rfl (fun u_83 H locs w_83 h_83 => ?_)
                      clear h_82
                      obtain ⟨w83_0, w83_1, w83_2, _⟩ := w_83
                      replace h_83 : qW D _ _ [(h5, .inl (cy 1, 1000, .inl v112_62_3)), (h6, .inl (cy 1, 1000, .inl v112_62_4)), (h7, .inl (cy 1, 1000, .inl v112_62_5)), (h8, .inl (cy 1, 1000, .inl f7)), (h9, .inl (cy 3, 1000, .inl v112_62_6)), (h0, .inr (12, [.int p2, .ref h1, w0, w1, w2, .int p3, .int p4, .int p5, .int p6, .int p7, .int p8, .int p9, .int p10, .int p11, .int p12, .int p13, .ref h2, .ref h3, .ref h4, w3, w4, .int p14, .int p15, w5, w6, w7, .int p16, .int p17, .ref h5, .ref h6, .ref h7, .ref h8, .ref h9, .int p18, w8, w9, w10])), (h1, .inl (cy 1, 3918, .inl (u_83.2.1 0))), (h2, .inl (cy 1, 900, .inl (u_83.2.1 1))), (h3, .inl (cy 1, 11, .inl (u_83.2.1 2))), (h4, .inl (cy 1, 3, .inl (u_83.2.1 3)))] _ _ := h_83
                      refine lv_aload_n hx hb dX12_laysTurning_172 rfl (lv_at hl 0 rfl) ?_
                      refine lv_iload_n hx hb dX12_laysTurning_173 rfl (lv_at hl 1 rfl) ?_
                      refine q_callVi (rest := []) (wr := [(h5, .inl (cy 1, 1000, .inl v112_62_3)), (h6, .inl (cy 1, 1000, .inl v112_62_4)), (h7, .inl (cy 1, 1000, .inl v112_62_5)), (h8, .inl (cy 1, 1000, .inl f7)), (h9, .inl (cy 3, 1000, .inl v112_62_6)), (h2, .inl (cy 1, 900, .inl (u_83.2.1 1))), (h3, .inl (cy 1, 11, .inl (u_83.2.1 2))), (h4, .inl (cy 1, 3, .inl (u_83.2.1 3)))]) X hK hT hA h_83 (fun sz => gX12_viewsOf_bc3d930 l D cy h0 h1 p0 p2 w0 w1 w2 p3 p4 p5 p6 p7 p8 p9 p10 p11 p12 p13 (.ref h2) (.ref h3) (.ref h4) w3 w4 p14 p15 w5 w6 w7 p16 p17 (.ref h5) (.ref h6) (.ref h7) (.ref h8) (.ref h9) p18 w8 w9 w10 (u_83.2.1 0) p19 hp0 hp2 hp3 hp4 hp5 hp6 (i_rng _) hp8 (i_rng _) (i_rng _) (i_rng _) (i_rng _) (i_rng _) (i_rng _) (i_rng _) (i_rng _) (i_rng _) (i_rng _) hp19 w83_2 w83_0 sz) wm_7_172 wm_7_175 wm_1_12 hd_X12_viewsOf wm_7_174 wp_7_10 (ci := 12) (q0 := 0) rfl rfl ⟨Nat.le_of_ble_eq_true rfl, Nat.le_of_ble_eq_true rfl⟩ hl.1 rfl (Nat.le_of_ble_eq_true rfl) dX12_laysTurning_174 ⟨Nat.le_of_ble_eq_true rfl, Nat.le_of_ble_eq_true rfl⟩ [5, 6] [0, 1, 2, 3, 4, 7, 8, 9] rfl rfl (by decide) rfl rfl (fun r_84 u_84 H locs w_84 h_84 => ?_)
                      clear h_83
                      obtain ⟨wr_84, _⟩ := w_84
                      replace h_84 : qW D _ _ (wk_fbde43c06 cy h5 v112_62_3 h6 v112_62_4 h7 v112_62_5 h8 f7 h9 v112_62_6 h2 (u_83.2.1 1) h3 (u_83.2.1 2) h4 (u_83.2.1 3) h0 p2 h1 w0 w1 w2 p3 p4 p5 p6 p7 p8 p9 p10 p11 p12 p13 h2 h3 h4 w3 w4 p14 p15 w5 w6 w7 p16 p17 h5 h6 h7 h8 h9 p18 w8 w9 w10 h1 (u_83.2.1 0)) _ _ := h_84
                      refine lv_istore (lv' := [(9, .int r_84), (0, .ref h0), (1, .int p0), (2, .int p1), (3, .int r_5), (4, .int r_7), (5, .int v112_62_1), (6, .int v109_59_0), (7, .int v64_18_0), (8, .int v112_62_0)]) hx hb dX12_laysTurning_177 hl (by decide) rfl (fun ls_85 hl_85 => ?_)
                      clear hl
                      refine lv_aload_n hx hb dX12_laysTurning_179 rfl (lv_at hl_85 1 rfl) ?_
                      refine q_get X hK h_84 8 rfl rfl wf_12 32 (by decide) rfl wm_5_202 dX12_laysTurning_180 ?_
                      refine lv_iload hx hb dX12_laysTurning_183 (lv_at hl_85 0 rfl) ?_
                      refine q_zald X hK h_84 4 rfl (i_in rfl (by omega) (by omega)) dX12_laysTurning_185 ?_
                      obtain ⟨z_86, ez_86, hz_86⟩ := e_any (v112_62_6 r_84.toNatClampNeg)
                      refine q_c z_86 ez_86 ?_
                      refine lv_if_eq (tgt := 192) hx hb dX12_laysTurning_186 (by decide) (fun c_87 => ?_) (fun c_87 => ?_)
                      · replace c_87 := i_eq (x := z_86) (y := 0) rfl (show (0 : Int32).toInt = 0 by decide) c_87
                        have ml_88 := mt_lt x63_0 (by omega) (by omega) ez_86 (by omega)
                        refine lv_aload_n hx hb dX12_laysTurning_192 rfl (lv_at hl_85 1 rfl) ?_
                        refine q_get X hK h_84 8 rfl rfl wf_12 32 (by decide) rfl wm_5_202 dX12_laysTurning_193 ?_
                        refine lv_iload hx hb dX12_laysTurning_196 (lv_at hl_85 0 rfl) ?_
                        refine lv_iconst (v := 1) hx hb dX12_laysTurning_198 (by decide) ?_
                        refine q_zast X hK h_84 4 rfl (i_in rfl (by omega) (by omega)) dX12_laysTurning_199 (fun H locs h_90 => ?_)
                        clear h_84
                        replace h_90 : qW D _ _ (wk_fbde43c06 cy h5 v112_62_3 h6 v112_62_4 h7 v112_62_5 h8 f7 h9 (upd v112_62_6 (Int32.toNatClampNeg r_84) (vp_nar .boolean 1)) h2 (u_83.2.1 1) h3 (u_83.2.1 2) h4 (u_83.2.1 3) h0 p2 h1 w0 w1 w2 p3 p4 p5 p6 p7 p8 p9 p10 p11 p12 p13 h2 h3 h4 w3 w4 p14 p15 w5 w6 w7 p16 p17 h5 h6 h7 h8 h9 p18 w8 w9 w10 h1 (u_83.2.1 0)) _ _ := h_90
                        obtain ⟨F_89, eF_89⟩ : ∃ z, (upd v112_62_6 (Int32.toNatClampNeg r_84) (vp_nar .boolean 1)) = z := ⟨_, rfl⟩
                        rw [eF_89] at h_90
                        refine lv_aload_n hx hb dX12_laysTurning_200 rfl (lv_at hl_85 1 rfl) ?_
                        refine q_get X hK h_90 8 rfl rfl wf_12 28 (by decide) rfl wm_5_198 dX12_laysTurning_201 ?_
                        refine lv_iload hx hb dX12_laysTurning_204 (lv_at hl_85 6 rfl) ?_
                        refine lv_iload hx hb dX12_laysTurning_206 (lv_at hl_85 0 rfl) ?_
                        refine q_iast X hK h_90 0 rfl (i_in rfl (by omega) (by omega)) dX12_laysTurning_208 (fun H locs h_92 => ?_)
                        clear h_90
                        replace h_92 : qW D _ _ (wk_fbde43c06 cy h5 (upd v112_62_3 (Int32.toNatClampNeg v112_62_1) r_84) h6 v112_62_4 h7 v112_62_5 h8 f7 h9 F_89 h2 (u_83.2.1 1) h3 (u_83.2.1 2) h4 (u_83.2.1 3) h0 p2 h1 w0 w1 w2 p3 p4 p5 p6 p7 p8 p9 p10 p11 p12 p13 h2 h3 h4 w3 w4 p14 p15 w5 w6 w7 p16 p17 h5 h6 h7 h8 h9 p18 w8 w9 w10 h1 (u_83.2.1 0)) _ _ := h_92
                        obtain ⟨F_91, eF_91, rF_91⟩ := rg_upd rv112_62_3 (Int32.toNatClampNeg v112_62_1) (x := r_84) rfl (by omega) (by omega)
                        rw [eF_91] at h_92
                        clear eF_91
                        refine lv_aload_n hx hb dX12_laysTurning_209 rfl (lv_at hl_85 1 rfl) ?_
                        refine q_get X hK h_92 8 rfl rfl wf_12 29 (by decide) rfl wm_5_199 dX12_laysTurning_210 ?_
                        refine lv_iload hx hb dX12_laysTurning_213 (lv_at hl_85 6 rfl) ?_
                        refine lv_iload hx hb dX12_laysTurning_215 (lv_at hl_85 9 rfl) ?_
                        refine q_iast X hK h_92 1 rfl (i_in rfl (by omega) (by omega)) dX12_laysTurning_217 (fun H locs h_94 => ?_)
                        clear h_92
                        replace h_94 : qW D _ _ (wk_fbde43c06 cy h5 F_91 h6 (upd v112_62_4 (Int32.toNatClampNeg v112_62_1) v112_62_0) h7 v112_62_5 h8 f7 h9 F_89 h2 (u_83.2.1 1) h3 (u_83.2.1 2) h4 (u_83.2.1 3) h0 p2 h1 w0 w1 w2 p3 p4 p5 p6 p7 p8 p9 p10 p11 p12 p13 h2 h3 h4 w3 w4 p14 p15 w5 w6 w7 p16 p17 h5 h6 h7 h8 h9 p18 w8 w9 w10 h1 (u_83.2.1 0)) _ _ := h_94
                        obtain ⟨F_93, eF_93⟩ : ∃ z, (upd v112_62_4 (Int32.toNatClampNeg v112_62_1) v112_62_0) = z := ⟨_, rfl⟩
                        rw [eF_93] at h_94
                        clear eF_93
                        refine lv_aload_n hx hb dX12_laysTurning_218 rfl (lv_at hl_85 1 rfl) ?_
                        refine q_get X hK h_94 8 rfl rfl wf_12 30 (by decide) rfl wm_5_200 dX12_laysTurning_219 ?_
                        refine lv_iload hx hb dX12_laysTurning_222 (lv_at hl_85 6 rfl) ?_
                        refine lv_iload hx hb dX12_laysTurning_224 (lv_at hl_85 8 rfl) ?_
                        refine q_iast X hK h_94 2 rfl (i_in rfl (by omega) (by omega)) dX12_laysTurning_226 (fun H locs h_96 => ?_)
                        clear h_94
                        replace h_96 : qW D _ _ (wk_fbde43c06 cy h5 F_91 h6 F_93 h7 (upd v112_62_5 (Int32.toNatClampNeg v112_62_1) v64_18_0) h8 f7 h9 F_89 h2 (u_83.2.1 1) h3 (u_83.2.1 2) h4 (u_83.2.1 3) h0 p2 h1 w0 w1 w2 p3 p4 p5 p6 p7 p8 p9 p10 p11 p12 p13 h2 h3 h4 w3 w4 p14 p15 w5 w6 w7 p16 p17 h5 h6 h7 h8 h9 p18 w8 w9 w10 h1 (u_83.2.1 0)) _ _ := h_96
                        obtain ⟨F_95, eF_95⟩ : ∃ z, (upd v112_62_5 (Int32.toNatClampNeg v112_62_1) v64_18_0) = z := ⟨_, rfl⟩
                        rw [eF_95] at h_96
                        have mt_97 := mt_s x63_0 (by omega) (by omega) ez_86 (by omega) eF_89 eF_95 rfl (by omega)
                        obtain ⟨z_98, ez_98, hz_98⟩ := e_add (x := v112_62_1) (y := Int32.ofInt 1) rfl (b := 1) (by decide) (by omega) (by omega)
                        refine lv_iinc (v := z_98) (lv' := [(5, .int z_98), (9, .int r_84), (0, .ref h0), (1, .int p0), (2, .int p1), (3, .int r_5), (4, .int r_7), (6, .int v109_59_0), (7, .int v64_18_0), (8, .int v112_62_0)]) hx hb dX12_laysTurning_227 hl_85 (k := 6) rfl ez_98 (by decide) rfl (fun ls_98 hl_98 => ?_)
                        clear hl_85
                        exact J_230 _ _ _ _ ⟨z_98, F_91, F_93, F_95, F_89, (u_83.2.1 1), (u_83.2.1 2), (u_83.2.1 3), (u_83.2.1 0), ⟨by omega, by omega⟩, (rg_wide rF_91 (by decide) (by decide)), (rg_wide w83_1 (by decide) (by decide)), w83_2, w83_0, (mt_n mt_97 (by (first | assumption | (clear x20_1 x60_0 x64_1; omega) | omega))), (by (first | (clear x20_1 x60_0 x64_1; omega) | omega)), (by (first | (clear x20_1 x60_0 x64_1; omega) | omega)), rfl, (q_re h_96 [7, 0, 1, 2, 3, 4, 8, 9, 5, 6] rfl rfl), (lv_sub hl_98 [2, 3, 4, 5, 6, 0, 7, 8, 9] rfl)⟩
                      · replace c_87 := i_ne (x := z_86) (y := 0) rfl (show (0 : Int32).toInt = 0 by decide) c_87
                        refine lv_goto (tgt := 230) hx hb dX12_laysTurning_189 (by decide) ?_
                        exact J_230 _ _ _ _ ⟨v112_62_1, v112_62_3, v112_62_4, v112_62_5, v112_62_6, (u_83.2.1 1), (u_83.2.1 2), (u_83.2.1 3), (u_83.2.1 0), hv112_62_1, (rg_wide rv112_62_3 (by decide) (by decide)), (rg_wide w83_1 (by decide) (by decide)), w83_2, w83_0, (mt_n x63_0 (by (first | assumption | (clear x20_1 x60_0 x64_1; omega) | omega))), (x64_1), (x65_2), rfl, (q_re h_84 [7, 0, 1, 2, 3, 4, 8, 9, 5, 6] rfl rfl), (lv_sub hl_85 [1, 2, 3, 4, 5, 6, 7, 8, 9] rfl)⟩
                    · replace c_80 := i_eq (x := r_79) (y := 0) rfl (show (0 : Int32).toInt = 0 by decide) c_80
                      refine lv_goto (tgt := 230) hx hb dX12_laysTurning_150 (by decide) ?_
                      exact J_230 _ _ _ _ ⟨v112_62_1, v112_62_3, v112_62_4, v112_62_5, v112_62_6, v112_62_8, v112_62_9, v112_62_2, v112_62_7, hv112_62_1, (rg_wide rv112_62_3 (by decide) (by decide)), (rg_wide rv112_62_2 (by decide) (by decide)), trv112_62_7_84, rv112_62_7, (mt_n x63_0 (by (first | assumption | (clear x20_1 x60_0 x64_1; omega) | omega))), (x64_1), (x65_2), rfl, h_79, (lv_sub hl [0, 1, 2, 3, 4, 5, 6, 7, 8] rfl)⟩
          · skip
            refine lv_if_eq (tgt := 109) hx hb dX12_laysTurning_102 (by decide) (fun c_99 => ?_) (fun c_99 => ?_)
            · replace c_99 := i_eq (x := r_58) (y := 0) rfl (show (0 : Int32).toInt = 0 by decide) c_99
              exact J_109 _ _ _ _ ⟨v64_18_2, hv64_18_2, (x20_1), rfl, h_58, (lv_sub hl [0, 1, 2, 3, 4, 5, 6, 7] rfl)⟩
            · replace c_99 := i_ne (x := r_58) (y := 0) rfl (show (0 : Int32).toInt = 0 by decide) c_99
              refine lv_iload hx hb dX12_laysTurning_105 (lv_at hl 7 rfl) ?_
              refine lv_istore (lv' := [(6, .int v64_18_0), (0, .ref h0), (1, .int p0), (2, .int p1), (3, .int r_5), (4, .int r_7), (5, .int v64_18_1), (7, .int v64_18_0)]) hx hb dX12_laysTurning_107 hl (by decide) rfl (fun ls_100 hl_100 => ?_)
              clear hl
              exact J_109 _ _ _ _ ⟨v64_18_0, ⟨by omega, by omega⟩, (by (first | (clear x20_1; omega) | omega)), rfl, h_58, (lv_sub hl_100 [1, 2, 3, 4, 5, 6, 0, 7] rfl)⟩
  · replace c_4 := i_nle (x := 1000) (y := v2_2_0) (show (1000 : Int32).toInt = 1000 by decide) rfl c_4
    refine lv_aload_n hx hb dX12_laysTurning_9 rfl (lv_at hl 0 rfl) ?_
    refine q_get X hK h 0 rfl rfl wf_12 32 (by decide) rfl wm_5_202 dX12_laysTurning_10 ?_
    refine lv_iload_n hx hb dX12_laysTurning_13 rfl (lv_at hl 3 rfl) ?_
    refine lv_iconst (v := 0) hx hb dX12_laysTurning_14 (by decide) ?_
    refine q_zast X hK h 9 rfl (i_in rfl (by omega) (by omega)) dX12_laysTurning_15 (fun H locs h_102 => ?_)
    clear h
    replace h_102 : qW D _ _ (wk_410b6a568 cy h0 p2 h1 w0 w1 w2 p3 p4 p5 p6 p7 p8 p9 p10 p11 p12 p13 h2 h3 h4 w3 w4 p14 p15 w5 w6 w7 p16 p17 h5 h6 h7 h8 h9 p18 w8 w9 w10 h1 f0 h2 f1 h3 f2 h4 f3 h5 f4 h6 f5 h7 f6 h8 f7 h9 (upd v2_2_1 (Int32.toNatClampNeg v2_2_0) (vp_nar .boolean 0))) _ _ := h_102
    obtain ⟨F_101, eF_101⟩ : ∃ z, (upd v2_2_1 (Int32.toNatClampNeg v2_2_0) (vp_nar .boolean 0)) = z := ⟨_, rfl⟩
    rw [eF_101] at h_102
    have zs_103 := zf_s x3_0 (by omega) eF_101
    obtain ⟨z_104, ez_104, hz_104⟩ := e_add (x := v2_2_0) (y := Int32.ofInt 1) rfl (b := 1) (by decide) (by omega) (by omega)
    refine lv_iinc (v := z_104) (lv' := [(3, .int z_104), (0, .ref h0), (1, .int p0), (2, .int p1)]) hx hb dX12_laysTurning_16 hl (k := 3) rfl ez_104 (by decide) rfl (fun ls_104 hl_104 => ?_)
    clear hl
    refine lv_goto (tgt := 2) hx hb dX12_laysTurning_19 (by decide) ?_
    exact ih_2 z_104 (by show (1001 - (z_104).toInt).toNat < (1001 - (v2_2_0).toInt).toNat; omega) _ _ _ ⟨F_101, ⟨by omega, by omega⟩, (zf_le zs_103 (by (first | assumption | omega))), h_102, (lv_sub hl_104 [1, 2, 3, 0] rfl)⟩
set_option maxHeartbeats 4000000 in
set_option maxRecDepth 100000 in
theorem gX12_talks_eb0817a (l : Launch) (D : va_G) (cy : Nat → ClassId) (h0 : Nat) (h1 : Nat) (h2 : Nat) (h3 : Nat) (h4 : Nat) (h5 : Nat) (h6 : Nat) (h7 : Nat) (h8 : Nat) (h9 : Nat) (p0 : Int32) (p1 : Int32) (p2 : Int32) (w0 : Value) (w1 : Value) (w2 : Value) (p3 : Int32) (p4 : Int32) (p5 : Int32) (p6 : Int32) (p7 : Int32) (p8 : Int32) (p9 : Int32) (p10 : Int32) (p11 : Int32) (p12 : Int32) (p13 : Int32) (w3 : Value) (w4 : Value) (p14 : Int32) (p15 : Int32) (w5 : Value) (w6 : Value) (w7 : Value) (p16 : Int32) (p17 : Int32) (p18 : Int32) (w8 : Value) (w9 : Value) (w10 : Value) (f0 : Nat → Int32) (p19 : Int32) (f1 : Nat → Int32) (f2 : Nat → Int32) (f3 : Nat → Int32) (f4 : Nat → Int32) (f5 : Nat → Int32) (f6 : Nat → Int32) (f7 : Nat → Int32) (f8 : Nat → Int32) (hp0 : (-2147483648) ≤ (p0).toInt ∧ (p0).toInt ≤ 2147483647) (hp1 : (-2147483648) ≤ (p1).toInt ∧ (p1).toInt ≤ 2147483647) (hp2 : (-2147483648) ≤ (p2).toInt ∧ (p2).toInt ≤ 2147483647) (hp3 : 0 ≤ (p3).toInt ∧ (p3).toInt ≤ 900) (hp4 : 0 ≤ (p4).toInt ∧ (p4).toInt ≤ 900) (hp5 : 0 ≤ (p5).toInt ∧ (p5).toInt ≤ 900) (hp6 : 0 ≤ (p6).toInt ∧ (p6).toInt ≤ 900) (hp7 : (-2147483648) ≤ (p7).toInt ∧ (p7).toInt ≤ 2147483647) (hp8 : 0 ≤ (p8).toInt ∧ (p8).toInt ≤ 999) (hp9 : (-2147483648) ≤ (p9).toInt ∧ (p9).toInt ≤ 2147483647) (hp10 : (-2147483648) ≤ (p10).toInt ∧ (p10).toInt ≤ 2147483647) (hp11 : (-2147483648) ≤ (p11).toInt ∧ (p11).toInt ≤ 2147483647) (hp12 : (-2147483648) ≤ (p12).toInt ∧ (p12).toInt ≤ 2147483647) (hp13 : (-2147483648) ≤ (p13).toInt ∧ (p13).toInt ≤ 2147483647) (hp14 : (-2147483648) ≤ (p14).toInt ∧ (p14).toInt ≤ 2147483647) (hp15 : (-2147483648) ≤ (p15).toInt ∧ (p15).toInt ≤ 2147483647) (hp16 : (-2147483648) ≤ (p16).toInt ∧ (p16).toInt ≤ 2147483647) (hp17 : (-2147483648) ≤ (p17).toInt ∧ (p17).toInt ≤ 2147483647) (hp18 : (-2147483648) ≤ (p18).toInt ∧ (p18).toInt ≤ 2147483647) (hp19 : 0 ≤ (p19).toInt ∧ (p19).toInt ≤ 10) (htf0_84 : f0 84 = p19) (rf0 : AL f0) (rf3 : RG f3 3 0 9) (rf4 : RG f4 1000 0 999) (sz : Nat) : MI l yX12_talks cX12_talks 3 .int { frames := 5, cells := 0, slots := 0, locals := 125 } [.ref h0, .int p0, .int p1] D cy (wk_410b6a568 cy h0 p2 h1 w0 w1 w2 p3 p4 p5 p6 p7 p8 p9 p10 p11 p12 p13 h2 h3 h4 w3 w4 p14 p15 w5 w6 w7 p16 p17 h5 h6 h7 h8 h9 p18 w8 w9 w10 h1 f0 h2 f1 h3 f2 h4 f3 h5 f4 h6 f5 h7 f6 h8 f7 h9 f8) sz (fun r u => ((-2) ≤ r.toInt ∧ r.toInt ≤ 999) ∧ RG (u.2.1 2) 3 0 9 ∧ RG (u.2.1 3) 1000 0 999 ∧ (0 ≤ (u.2.1 8 0).toInt ∧ (u.2.1 8 0).toInt ≤ 0) ∧ ((-2147483648) ≤ (u.2.1 9 0).toInt ∧ (u.2.1 9 0).toInt ≤ 2147483647) ∧ AL (u.2.1 10) ∧ (u.2.1 10) 84 = p19 ∧ True) (fun u => (wk_410b6a568 cy h0 (u.2.1 8 0) h1 w0 w1 w2 p3 p4 p5 p6 p7 p8 p9 p10 p11 p12 p13 h2 h3 h4 w3 w4 p14 p15 w5 w6 w7 p16 p17 h5 h6 h7 h8 h9 (u.2.1 9 0) w8 w9 w10 h1 (u.2.1 10) h2 (u.2.1 0) h3 (u.2.1 1) h4 (u.2.1 2) h5 (u.2.1 3) h6 (u.2.1 4) h7 (u.2.1 5) h8 (u.2.1 6) h9 (u.2.1 7))) 0 0 := by
  refine q_ent (own := RX12) (by decide) rfl (Nat.le_of_ble_eq_true rfl) (fun p e s m below meth c ls X hr hlk hnm hK hT h hA hl => ?_)
  obtain ⟨hx, hb, hml, hown, ht⟩ := id X
  replace hl : lv_has ls 3 [(0, .ref h0), (1, .int p0), (2, .int p1)] := hl
  refine lv_aload_n hx hb dX12_talks_0 rfl (lv_at hl 0 rfl) ?_
  refine lv_iconst (v := 0) hx hb dX12_talks_1 (by decide) ?_
  refine q_put (v := .int 0) X hK h 0 rfl rfl wf_12 tyX12 tyX12_ok nmX12 0 (by decide) wm_5_170 rfl rfl rfl (Nat.le_of_ble_eq_true rfl) dX12_talks_2 (fun H locs h_1 => ?_)
  clear h
  replace h_1 : qW D _ _ (wk_410b6a568 cy h0 0 h1 w0 w1 w2 p3 p4 p5 p6 p7 p8 p9 p10 p11 p12 p13 h2 h3 h4 w3 w4 p14 p15 w5 w6 w7 p16 p17 h5 h6 h7 h8 h9 p18 w8 w9 w10 h1 f0 h2 f1 h3 f2 h4 f3 h5 f4 h6 f5 h7 f6 h8 f7 h9 f8) _ _ := h_1
  refine lv_aload_n hx hb dX12_talks_5 rfl (lv_at hl 0 rfl) ?_
  refine lv_iload_n hx hb dX12_talks_6 rfl (lv_at hl 1 rfl) ?_
  refine lv_iload_n hx hb dX12_talks_7 rfl (lv_at hl 2 rfl) ?_
  refine q_callVi (rest := []) (wr := (wk_5ec465ffc cy h2 f1 h3 f2 h4 f3 h5 f4 h6 f5 h7 f6 h8 f7 h9 f8)) X hK hT hA h_1 (fun sz => gX12_areTwo_839642f l D cy h0 h1 p0 p1 (0 : Int32) w0 w1 w2 p3 p4 p5 p6 p7 p8 p9 p10 p11 p12 p13 (.ref h2) (.ref h3) (.ref h4) w3 w4 p14 p15 w5 w6 w7 p16 p17 (.ref h5) (.ref h6) (.ref h7) (.ref h8) (.ref h9) p18 w8 w9 w10 f0 p19 (i_rng _) (i_rng _) ⟨by decide +kernel, by decide +kernel⟩ hp3 hp4 hp5 hp6 (i_rng _) hp8 (i_rng _) (i_rng _) (i_rng _) (i_rng _) (i_rng _) (i_rng _) (i_rng _) (i_rng _) (i_rng _) (i_rng _) hp19 htf0_84 rf0 sz) wm_7_164 wm_7_167 wm_1_12 hd_X12_areTwo wm_7_166 wp_7_8 (ci := 12) (q0 := 0) rfl rfl ⟨Nat.le_of_ble_eq_true rfl, Nat.le_of_ble_eq_true rfl⟩ hl.1 rfl (Nat.le_of_ble_eq_true rfl) dX12_talks_8 ⟨Nat.le_of_ble_eq_true rfl, Nat.le_of_ble_eq_true rfl⟩ [0, 1] [2, 3, 4, 5, 6, 7, 8, 9] rfl rfl (by decide) rfl rfl (fun r_2 u_2 H locs w_2 h_2 => ?_)
  clear h_1
  obtain ⟨wr_2, y2_0, _⟩ := w_2
  replace h_2 : qW D _ _ (wk_dcd050277 cy h2 f1 h3 f2 h4 f3 h5 f4 h6 f5 h7 f6 h8 f7 h9 f8 h0 0 h1 w0 w1 w2 p3 p4 p5 p6 p7 p8 p9 p10 p11 p12 p13 h2 h3 h4 w3 w4 p14 p15 w5 w6 w7 p16 p17 h5 h6 h7 h8 h9 p18 w8 w9 w10 h1 f0) _ _ := h_2
  refine q_jn (pc2 := 25) (fun H locs ls st => ∃ v25_3_0 : Int32, ∃ v25_3_10 : Int32, ∃ v25_3_1 : Nat → Int32, ∃ v25_3_2 : Nat → Int32, ∃ v25_3_3 : Nat → Int32, ∃ v25_3_4 : Nat → Int32, ∃ v25_3_5 : Nat → Int32, ∃ v25_3_6 : Nat → Int32, ∃ v25_3_7 : Nat → Int32, ∃ v25_3_8 : Nat → Int32, ∃ v25_3_9 : Nat → Int32, ((-2147483648) ≤ (v25_3_0).toInt ∧ (v25_3_0).toInt ≤ 2147483647) ∧ ((-2) ≤ (v25_3_10).toInt ∧ (v25_3_10).toInt ≤ 999) ∧ v25_3_1 84 = p19 ∧ AL v25_3_1 ∧ RG v25_3_4 3 0 9 ∧ RG v25_3_5 1000 0 999 ∧ st = [.int v25_3_10] ∧ qW D (va_A (wk_410b6a568 cy h0 p2 h1 w0 w1 w2 p3 p4 p5 p6 p7 p8 p9 p10 p11 p12 p13 h2 h3 h4 w3 w4 p14 p15 w5 w6 w7 p16 p17 h5 h6 h7 h8 h9 p18 w8 w9 w10 h1 f0 h2 f1 h3 f2 h4 f3 h5 f4 h6 f5 h7 f6 h8 f7 h9 f8) sz) s.heap (wk_dcd050277 cy h2 v25_3_2 h3 v25_3_3 h4 v25_3_4 h5 v25_3_5 h6 v25_3_6 h7 v25_3_7 h8 v25_3_8 h9 v25_3_9 h0 0 h1 w0 w1 w2 p3 p4 p5 p6 p7 p8 p9 p10 p11 p12 p13 h2 h3 h4 w3 w4 p14 p15 w5 w6 w7 p16 p17 h5 h6 h7 h8 h9 v25_3_0 w8 w9 w10 h1 v25_3_1) H locs ∧ lv_has ls 3 [(0, .ref h0), (1, .int p0), (2, .int p1)]) (fun H locs ls st hP => ?_) (fun J_25 => ?_)
  · obtain ⟨v25_3_0, v25_3_10, v25_3_1, v25_3_2, v25_3_3, v25_3_4, v25_3_5, v25_3_6, v25_3_7, v25_3_8, v25_3_9, hv25_3_0, hv25_3_10, trv25_3_1_84, rv25_3_1, rv25_3_4, rv25_3_5, rfl, h, hl⟩ := hP
    exact q_iret X hr hlk hK h rfl (fun _ => 0, (vcons v25_3_2 (vcons v25_3_3 (vcons v25_3_4 (vcons v25_3_5 (vcons v25_3_6 (vcons v25_3_7 (vcons v25_3_8 (vcons v25_3_9 (vcons (fun _ => 0) (vcons (fun _ => v25_3_0) (vcons v25_3_1 (fun _ => (fun _ => 0))))))))))))), fun _ _ => 0) ⟨hv25_3_10, (rg_wide rv25_3_4 (by decide) (by decide)), (rg_wide rv25_3_5 (by decide) (by decide)), (⟨by decide +kernel, by decide +kernel⟩ : 0 ≤ (0 : Int32).toInt ∧ (0 : Int32).toInt ≤ 0), hv25_3_0, rv25_3_1, trv25_3_1_84, trivial⟩ [8, 9, 0, 1, 2, 3, 4, 5, 6, 7] rfl rfl dX12_talks_25 (Nat.le_of_ble_eq_true rfl) (Nat.le_of_ble_eq_true rfl)
  · skip
    refine lv_if_eq (tgt := 23) hx hb dX12_talks_11 (by decide) (fun c_4 => ?_) (fun c_4 => ?_)
    · replace c_4 := i_eq (x := r_2) (y := 0) rfl (show (0 : Int32).toInt = 0 by decide) c_4
      refine lv_bipush (v := (-2)) hx hb dX12_talks_23 (by decide) ?_
      exact J_25 _ _ _ _ ⟨p18, (-2), f0, f1, f2, f3, f4, f5, f6, f7, f8, hp18, ⟨by decide +kernel, by decide +kernel⟩, htf0_84, rf0, (rg_wide rf3 (by decide) (by decide)), (rg_wide rf4 (by decide) (by decide)), rfl, h_2, (lv_sub hl [0, 1, 2] rfl)⟩
    · replace c_4 := i_ne (x := r_2) (y := 0) rfl (show (0 : Int32).toInt = 0 by decide) c_4
      refine lv_aload_n hx hb dX12_talks_14 rfl (lv_at hl 0 rfl) ?_
      refine lv_iload_n hx hb dX12_talks_15 rfl (lv_at hl 1 rfl) ?_
      refine lv_iload_n hx hb dX12_talks_16 rfl (lv_at hl 2 rfl) ?_
      refine q_callVi (rest := []) (wr := []) X hK hT hA h_2 (fun sz => gX12_laysTurning_b50106d l D cy h0 h1 h2 h3 h4 h5 h6 h7 h8 h9 p0 p1 (0 : Int32) w0 w1 w2 p3 p4 p5 p6 p7 p8 p9 p10 p11 p12 p13 w3 w4 p14 p15 w5 w6 w7 p16 p17 p18 w8 w9 w10 f0 p19 f1 f2 f3 f4 f5 f6 f7 f8 ⟨by omega, by omega⟩ ⟨by omega, by omega⟩ ⟨by decide +kernel, by decide +kernel⟩ hp3 hp4 hp5 hp6 (i_rng _) hp8 (i_rng _) (i_rng _) (i_rng _) (i_rng _) (i_rng _) (i_rng _) (i_rng _) (i_rng _) (i_rng _) (i_rng _) hp19 htf0_84 rf0 (rg_wide rf3 (by decide) (by decide)) (rg_wide rf4 (by decide) (by decide)) sz) wm_7_168 wm_7_171 wm_1_12 hd_X12_laysTurning wm_7_170 wp_7_9 (ci := 12) (q0 := 0) rfl rfl ⟨Nat.le_of_ble_eq_true rfl, Nat.le_of_ble_eq_true rfl⟩ hl.1 rfl (Nat.le_of_ble_eq_true rfl) dX12_talks_17 ⟨Nat.le_of_ble_eq_true rfl, Nat.le_of_ble_eq_true rfl⟩ [8, 9, 0, 1, 2, 3, 4, 5, 6, 7] [] rfl rfl (by decide) rfl rfl (fun r_5 u_5 H locs w_5 h_5 => ?_)
      clear h_2
      obtain ⟨wr_5, w5_0, w5_1, w5_2, w5_3, w5_4, _⟩ := w_5
      replace h_5 : qW D _ _ (wk_410b6a568 cy h0 0 h1 w0 w1 w2 p3 p4 p5 p6 p7 p8 p9 p10 p11 p12 p13 h2 h3 h4 w3 w4 p14 p15 w5 w6 w7 p16 p17 h5 h6 h7 h8 h9 (u_5.2.1 8 0) w8 w9 w10 h1 (u_5.2.1 9) h2 (u_5.2.1 0) h3 (u_5.2.1 1) h4 (u_5.2.1 2) h5 (u_5.2.1 3) h6 (u_5.2.1 4) h7 (u_5.2.1 5) h8 (u_5.2.1 6) h9 (u_5.2.1 7)) _ _ := h_5
      refine lv_goto (tgt := 25) hx hb dX12_talks_20 (by decide) ?_
      exact J_25 _ _ _ _ ⟨(u_5.2.1 8 0), r_5, (u_5.2.1 9), (u_5.2.1 0), (u_5.2.1 1), (u_5.2.1 2), (u_5.2.1 3), (u_5.2.1 4), (u_5.2.1 5), (u_5.2.1 6), (u_5.2.1 7), w5_2, (bw wr_5 (by decide) (by decide)), w5_4, w5_3, (rg_wide w5_0 (by decide) (by decide)), (rg_wide w5_1 (by decide) (by decide)), rfl, (q_re h_5 [2, 3, 4, 5, 6, 7, 8, 9, 0, 1] rfl rfl), (lv_sub hl [0, 1, 2] rfl)⟩
set_option maxHeartbeats 4000000 in
set_option maxRecDepth 100000 in
theorem gX12_talkBy_1248cb6 (l : Launch) (D : va_G) (cy : Nat → ClassId) (h0 : Nat) (h1 : Nat) (h2 : Nat) (h3 : Nat) (h4 : Nat) (h5 : Nat) (h6 : Nat) (h7 : Nat) (h8 : Nat) (h9 : Nat) (p0 : Int32) (p1 : Int32) (p2 : Int32) (p3 : Int32) (w0 : Value) (w1 : Value) (w2 : Value) (p4 : Int32) (p5 : Int32) (p6 : Int32) (p7 : Int32) (p8 : Int32) (p9 : Int32) (p10 : Int32) (p11 : Int32) (p12 : Int32) (p13 : Int32) (p14 : Int32) (w3 : Value) (w4 : Value) (p15 : Int32) (p16 : Int32) (w5 : Value) (w6 : Value) (w7 : Value) (p17 : Int32) (p18 : Int32) (p19 : Int32) (w8 : Value) (w9 : Value) (w10 : Value) (f0 : Nat → Int32) (p20 : Int32) (f1 : Nat → Int32) (f2 : Nat → Int32) (f3 : Nat → Int32) (f4 : Nat → Int32) (f5 : Nat → Int32) (f6 : Nat → Int32) (f7 : Nat → Int32) (f8 : Nat → Int32) (hp0 : (-2147483648) ≤ (p0).toInt ∧ (p0).toInt ≤ 2147483647) (hp1 : (-2147483648) ≤ (p1).toInt ∧ (p1).toInt ≤ 2147483647) (hp2 : (-2147483648) ≤ (p2).toInt ∧ (p2).toInt ≤ 2147483647) (hp3 : (-2147483648) ≤ (p3).toInt ∧ (p3).toInt ≤ 2147483647) (hp4 : 0 ≤ (p4).toInt ∧ (p4).toInt ≤ 900) (hp5 : 0 ≤ (p5).toInt ∧ (p5).toInt ≤ 900) (hp6 : 0 ≤ (p6).toInt ∧ (p6).toInt ≤ 900) (hp7 : 0 ≤ (p7).toInt ∧ (p7).toInt ≤ 900) (hp8 : (-2147483648) ≤ (p8).toInt ∧ (p8).toInt ≤ 2147483647) (hp9 : 0 ≤ (p9).toInt ∧ (p9).toInt ≤ 999) (hp10 : (-2147483648) ≤ (p10).toInt ∧ (p10).toInt ≤ 2147483647) (hp11 : (-2147483648) ≤ (p11).toInt ∧ (p11).toInt ≤ 2147483647) (hp12 : (-2147483648) ≤ (p12).toInt ∧ (p12).toInt ≤ 2147483647) (hp13 : (-2147483648) ≤ (p13).toInt ∧ (p13).toInt ≤ 2147483647) (hp14 : (-2147483648) ≤ (p14).toInt ∧ (p14).toInt ≤ 2147483647) (hp15 : (-2147483648) ≤ (p15).toInt ∧ (p15).toInt ≤ 2147483647) (hp16 : (-2147483648) ≤ (p16).toInt ∧ (p16).toInt ≤ 2147483647) (hp17 : (-2147483648) ≤ (p17).toInt ∧ (p17).toInt ≤ 2147483647) (hp18 : (-2147483648) ≤ (p18).toInt ∧ (p18).toInt ≤ 2147483647) (hp19 : (-2147483648) ≤ (p19).toInt ∧ (p19).toInt ≤ 2147483647) (hp20 : 0 ≤ (p20).toInt ∧ (p20).toInt ≤ 10) (htf0_84 : f0 84 = p20) (rf0 : AL f0) (rf3 : RG f3 3 0 9) (rf4 : RG f4 1000 0 999) (sz : Nat) : MI l yX12_talkBy cX12_talkBy 5 .int { frames := 5, cells := 0, slots := 0, locals := 125 } [.ref h0, .int p0, .int p1, .int p2] D cy (wk_410b6a568 cy h0 p3 h1 w0 w1 w2 p4 p5 p6 p7 p8 p9 p10 p11 p12 p13 p14 h2 h3 h4 w3 w4 p15 p16 w5 w6 w7 p17 p18 h5 h6 h7 h8 h9 p19 w8 w9 w10 h1 f0 h2 f1 h3 f2 h4 f3 h5 f4 h6 f5 h7 f6 h8 f7 h9 f8) sz (fun r u => ((-2147483648) ≤ r.toInt ∧ r.toInt ≤ 2147483647) ∧ (0 ≤ (u.2.1 0 0).toInt ∧ (u.2.1 0 0).toInt ≤ 0) ∧ ((-2147483648) ≤ (u.2.1 1 0).toInt ∧ (u.2.1 1 0).toInt ≤ 2147483647) ∧ AL (u.2.1 2) ∧ RG (u.2.1 5) 3 0 9 ∧ RG (u.2.1 6) 1000 0 999 ∧ (u.2.1 2) 84 = p20 ∧ True) (fun u => (wk_410b6a568 cy h0 (u.2.1 0 0) h1 w0 w1 w2 p4 p5 p6 p7 p8 p9 p10 p11 p12 p13 p14 h2 h3 h4 w3 w4 p15 p16 w5 w6 w7 p17 p18 h5 h6 h7 h8 h9 (u.2.1 1 0) w8 w9 w10 h1 (u.2.1 2) h2 (u.2.1 3) h3 (u.2.1 4) h4 (u.2.1 5) h5 (u.2.1 6) h6 (u.2.1 7) h7 (u.2.1 8) h8 (u.2.1 9) h9 (u.2.1 10))) 0 0 := by
  refine q_ent (own := RX12) (by decide) rfl (Nat.le_of_ble_eq_true rfl) (fun p e s m below meth c ls X hr hlk hnm hK hT h hA hl => ?_)
  obtain ⟨hx, hb, hml, hown, ht⟩ := id X
  replace hl : lv_has ls 5 [(0, .ref h0), (1, .int p0), (2, .int p1), (3, .int p2)] := hl
  refine lv_aload_n hx hb dX12_talkBy_0 rfl (lv_at hl 0 rfl) ?_
  refine lv_iconst (v := 0) hx hb dX12_talkBy_1 (by decide) ?_
  refine q_put (v := .int 0) X hK h 0 rfl rfl wf_12 tyX12 tyX12_ok nmX12 0 (by decide) wm_5_170 rfl rfl rfl (Nat.le_of_ble_eq_true rfl) dX12_talkBy_2 (fun H locs h_1 => ?_)
  clear h
  replace h_1 : qW D _ _ (wk_410b6a568 cy h0 0 h1 w0 w1 w2 p4 p5 p6 p7 p8 p9 p10 p11 p12 p13 p14 h2 h3 h4 w3 w4 p15 p16 w5 w6 w7 p17 p18 h5 h6 h7 h8 h9 p19 w8 w9 w10 h1 f0 h2 f1 h3 f2 h4 f3 h5 f4 h6 f5 h7 f6 h8 f7 h9 f8) _ _ := h_1
  refine lv_aload_n hx hb dX12_talkBy_5 rfl (lv_at hl 0 rfl) ?_
  refine lv_iload_n hx hb dX12_talkBy_6 rfl (lv_at hl 1 rfl) ?_
  refine lv_iload_n hx hb dX12_talkBy_7 rfl (lv_at hl 2 rfl) ?_
  refine q_callVi (rest := []) (wr := (wk_5ec465ffc cy h2 f1 h3 f2 h4 f3 h5 f4 h6 f5 h7 f6 h8 f7 h9 f8)) X hK hT hA h_1 (fun sz => gX12_areTwo_839642f l D cy h0 h1 p0 p1 (0 : Int32) w0 w1 w2 p4 p5 p6 p7 p8 p9 p10 p11 p12 p13 p14 (.ref h2) (.ref h3) (.ref h4) w3 w4 p15 p16 w5 w6 w7 p17 p18 (.ref h5) (.ref h6) (.ref h7) (.ref h8) (.ref h9) p19 w8 w9 w10 f0 p20 (i_rng _) (i_rng _) ⟨by decide +kernel, by decide +kernel⟩ hp4 hp5 hp6 hp7 (i_rng _) hp9 (i_rng _) (i_rng _) (i_rng _) (i_rng _) (i_rng _) (i_rng _) (i_rng _) (i_rng _) (i_rng _) (i_rng _) hp20 htf0_84 rf0 sz) wm_7_164 wm_7_167 wm_1_12 hd_X12_areTwo wm_7_166 wp_7_8 (ci := 12) (q0 := 0) rfl rfl ⟨Nat.le_of_ble_eq_true rfl, Nat.le_of_ble_eq_true rfl⟩ hl.1 rfl (Nat.le_of_ble_eq_true rfl) dX12_talkBy_8 ⟨Nat.le_of_ble_eq_true rfl, Nat.le_of_ble_eq_true rfl⟩ [0, 1] [2, 3, 4, 5, 6, 7, 8, 9] rfl rfl (by decide) rfl rfl (fun r_2 u_2 H locs w_2 h_2 => ?_)
  clear h_1
  obtain ⟨wr_2, y2_0, _⟩ := w_2
  replace h_2 : qW D _ _ (wk_dcd050277 cy h2 f1 h3 f2 h4 f3 h5 f4 h6 f5 h7 f6 h8 f7 h9 f8 h0 0 h1 w0 w1 w2 p4 p5 p6 p7 p8 p9 p10 p11 p12 p13 p14 h2 h3 h4 w3 w4 p15 p16 w5 w6 w7 p17 p18 h5 h6 h7 h8 h9 p19 w8 w9 w10 h1 f0) _ _ := h_2
  refine lv_if_ne (tgt := 17) hx hb dX12_talkBy_11 (by decide) (fun c_3 => ?_) (fun c_3 => ?_)
  · replace c_3 := i_ne (x := r_2) (y := 0) rfl (show (0 : Int32).toInt = 0 by decide) c_3
    refine lv_iload_n hx hb dX12_talkBy_17 rfl (lv_at hl 3 rfl) ?_
    refine lv_if_ge (tgt := 24) hx hb dX12_talkBy_18 (by decide) (fun c_4 => ?_) (fun c_4 => ?_)
    · replace c_4 := i_le (x := 0) (y := p2) (show (0 : Int32).toInt = 0 by decide) rfl c_4
      refine lv_aload_n hx hb dX12_talkBy_24 rfl (lv_at hl 0 rfl) ?_
      refine lv_iload_n hx hb dX12_talkBy_25 rfl (lv_at hl 1 rfl) ?_
      refine lv_iload_n hx hb dX12_talkBy_26 rfl (lv_at hl 2 rfl) ?_
      refine q_callVi (rest := []) (wr := []) X hK hT hA h_2 (fun sz => gX12_laysTurning_b50106d l D cy h0 h1 h2 h3 h4 h5 h6 h7 h8 h9 p0 p1 (0 : Int32) w0 w1 w2 p4 p5 p6 p7 p8 p9 p10 p11 p12 p13 p14 w3 w4 p15 p16 w5 w6 w7 p17 p18 p19 w8 w9 w10 f0 p20 f1 f2 f3 f4 f5 f6 f7 f8 ⟨by omega, by omega⟩ ⟨by omega, by omega⟩ ⟨by decide +kernel, by decide +kernel⟩ hp4 hp5 hp6 hp7 (i_rng _) hp9 (i_rng _) (i_rng _) (i_rng _) (i_rng _) (i_rng _) (i_rng _) (i_rng _) (i_rng _) (i_rng _) (i_rng _) hp20 htf0_84 rf0 (rg_wide rf3 (by decide) (by decide)) (rg_wide rf4 (by decide) (by decide)) sz) wm_7_168 wm_7_171 wm_1_12 hd_X12_laysTurning wm_7_170 wp_7_9 (ci := 12) (q0 := 0) rfl rfl ⟨Nat.le_of_ble_eq_true rfl, Nat.le_of_ble_eq_true rfl⟩ hl.1 rfl (Nat.le_of_ble_eq_true rfl) dX12_talkBy_27 ⟨Nat.le_of_ble_eq_true rfl, Nat.le_of_ble_eq_true rfl⟩ [8, 9, 0, 1, 2, 3, 4, 5, 6, 7] [] rfl rfl (by decide) rfl rfl (fun r_5 u_5 H locs w_5 h_5 => ?_)
      clear h_2
      obtain ⟨wr_5, w5_0, w5_1, w5_2, w5_3, w5_4, _⟩ := w_5
      replace h_5 : qW D _ _ (wk_410b6a568 cy h0 0 h1 w0 w1 w2 p4 p5 p6 p7 p8 p9 p10 p11 p12 p13 p14 h2 h3 h4 w3 w4 p15 p16 w5 w6 w7 p17 p18 h5 h6 h7 h8 h9 (u_5.2.1 8 0) w8 w9 w10 h1 (u_5.2.1 9) h2 (u_5.2.1 0) h3 (u_5.2.1 1) h4 (u_5.2.1 2) h5 (u_5.2.1 3) h6 (u_5.2.1 4) h7 (u_5.2.1 5) h8 (u_5.2.1 6) h9 (u_5.2.1 7)) _ _ := h_5
      refine lv_istore (lv' := [(4, .int r_5), (0, .ref h0), (1, .int p0), (2, .int p1), (3, .int p2)]) hx hb dX12_talkBy_30 hl (by decide) rfl (fun ls_6 hl_6 => ?_)
      clear hl
      refine lv_iload_n hx hb dX12_talkBy_32 rfl (lv_at hl_6 4 rfl) ?_
      refine lv_iload hx hb dX12_talkBy_33 (lv_at hl_6 0 rfl) ?_
      refine q_jn (pc2 := 48) (fun H locs ls st => ∃ v48_7_0 : Int32, ((-2147483648) ≤ (v48_7_0).toInt ∧ (v48_7_0).toInt ≤ 2147483647) ∧ st = [.int v48_7_0] ∧ qW D (va_A (wk_410b6a568 cy h0 p3 h1 w0 w1 w2 p4 p5 p6 p7 p8 p9 p10 p11 p12 p13 p14 h2 h3 h4 w3 w4 p15 p16 w5 w6 w7 p17 p18 h5 h6 h7 h8 h9 p19 w8 w9 w10 h1 f0 h2 f1 h3 f2 h4 f3 h5 f4 h6 f5 h7 f6 h8 f7 h9 f8) sz) s.heap (wk_410b6a568 cy h0 0 h1 w0 w1 w2 p4 p5 p6 p7 p8 p9 p10 p11 p12 p13 p14 h2 h3 h4 w3 w4 p15 p16 w5 w6 w7 p17 p18 h5 h6 h7 h8 h9 (u_5.2.1 8 0) w8 w9 w10 h1 (u_5.2.1 9) h2 (u_5.2.1 0) h3 (u_5.2.1 1) h4 (u_5.2.1 2) h5 (u_5.2.1 3) h6 (u_5.2.1 4) h7 (u_5.2.1 5) h8 (u_5.2.1 6) h9 (u_5.2.1 7)) H locs ∧ lv_has ls 5 [(0, .ref h0), (1, .int p0), (2, .int p1), (3, .int p2), (4, .int r_5)]) (fun H locs ls st hP => ?_) (fun J_48 => ?_)
      · obtain ⟨v48_7_0, hv48_7_0, rfl, h, hl⟩ := hP
        exact q_iret X hr hlk hK h rfl (fun _ => 0, (vcons (fun _ => 0) (vcons (fun _ => (u_5.2.1 8 0)) (vcons (u_5.2.1 9) (vcons (u_5.2.1 0) (vcons (u_5.2.1 1) (vcons (u_5.2.1 2) (vcons (u_5.2.1 3) (vcons (u_5.2.1 4) (vcons (u_5.2.1 5) (vcons (u_5.2.1 6) (vcons (u_5.2.1 7) (fun _ => (fun _ => 0))))))))))))), fun _ _ => 0) ⟨hv48_7_0, (⟨by decide +kernel, by decide +kernel⟩ : 0 ≤ (0 : Int32).toInt ∧ (0 : Int32).toInt ≤ 0), w5_2, w5_3, (rg_wide w5_0 (by decide) (by decide)), (rg_wide w5_1 (by decide) (by decide)), w5_4, trivial⟩ [0, 1, 2, 3, 4, 5, 6, 7, 8, 9] rfl rfl dX12_talkBy_48 (Nat.le_of_ble_eq_true rfl) (Nat.le_of_ble_eq_true rfl)
      · skip
        refine lv_icmp_ge (tgt := 47) hx hb dX12_talkBy_35 (by decide) (fun c_8 => ?_) (fun c_8 => ?_)
        · replace c_8 := i_le (x := r_5) (y := p2) rfl rfl c_8
          refine lv_iconst (v := (-1)) hx hb dX12_talkBy_47 (by decide) ?_
          exact J_48 _ _ _ _ ⟨(-1), ⟨by decide +kernel, by decide +kernel⟩, rfl, h_5, (lv_sub hl_6 [1, 2, 3, 4, 0] rfl)⟩
        · replace c_8 := i_nle (x := r_5) (y := p2) rfl rfl c_8
          refine lv_aload_n hx hb dX12_talkBy_38 rfl (lv_at hl_6 1 rfl) ?_
          refine q_get X hK h_5 0 rfl rfl wf_12 31 (by decide) rfl wm_5_201 dX12_talkBy_39 ?_
          refine lv_iload_n hx hb dX12_talkBy_42 rfl (lv_at hl_6 4 rfl) ?_
          refine q_iald X hK h_5 8 rfl (i_in rfl (by omega) (by omega)) dX12_talkBy_43 ?_
          refine q_any (fun z_9 hz_9 => ?_)
          refine lv_goto (tgt := 48) hx hb dX12_talkBy_44 (by decide) ?_
          exact J_48 _ _ _ _ ⟨z_9, ⟨by omega, by omega⟩, rfl, h_5, (lv_sub hl_6 [1, 2, 3, 4, 0] rfl)⟩
    · replace c_4 := i_nle (x := 0) (y := p2) (show (0 : Int32).toInt = 0 by decide) rfl c_4
      refine lv_bipush (v := (-3)) hx hb dX12_talkBy_21 (by decide) ?_
      exact q_iret X hr hlk hK h_2 rfl (fun _ => 0, (vcons (fun _ => 0) (vcons (fun _ => p19) (vcons f0 (vcons f1 (vcons f2 (vcons f3 (vcons f4 (vcons f5 (vcons f6 (vcons f7 (vcons f8 (fun _ => (fun _ => 0))))))))))))), fun _ _ => 0) ⟨⟨by decide +kernel, by decide +kernel⟩, (⟨by decide +kernel, by decide +kernel⟩ : 0 ≤ (0 : Int32).toInt ∧ (0 : Int32).toInt ≤ 0), hp19, rf0, (rg_wide rf3 (by decide) (by decide)), (rg_wide rf4 (by decide) (by decide)), htf0_84, trivial⟩ [8, 9, 0, 1, 2, 3, 4, 5, 6, 7] rfl rfl dX12_talkBy_23 (Nat.le_of_ble_eq_true rfl) (Nat.le_of_ble_eq_true rfl)
  · replace c_3 := i_eq (x := r_2) (y := 0) rfl (show (0 : Int32).toInt = 0 by decide) c_3
    refine lv_bipush (v := (-2)) hx hb dX12_talkBy_14 (by decide) ?_
    exact q_iret X hr hlk hK h_2 rfl (fun _ => 0, (vcons (fun _ => 0) (vcons (fun _ => p19) (vcons f0 (vcons f1 (vcons f2 (vcons f3 (vcons f4 (vcons f5 (vcons f6 (vcons f7 (vcons f8 (fun _ => (fun _ => 0))))))))))))), fun _ _ => 0) ⟨⟨by decide +kernel, by decide +kernel⟩, (⟨by decide +kernel, by decide +kernel⟩ : 0 ≤ (0 : Int32).toInt ∧ (0 : Int32).toInt ≤ 0), hp19, rf0, (rg_wide rf3 (by decide) (by decide)), (rg_wide rf4 (by decide) (by decide)), htf0_84, trivial⟩ [8, 9, 0, 1, 2, 3, 4, 5, 6, 7] rfl rfl dX12_talkBy_16 (Nat.le_of_ble_eq_true rfl) (Nat.le_of_ble_eq_true rfl)
set_option maxHeartbeats 4000000 in
set_option maxRecDepth 100000 in
theorem gX12_word_a97c134 (l : Launch) (D : va_G) (cy : Nat → ClassId) (h0 : Nat) (h1 : Nat) (h2 : Nat) (h3 : Nat) (h4 : Nat) (h5 : Nat) (h6 : Nat) (p0 : Int32) (w0 : Value) (w1 : Value) (w2 : Value) (p1 : Int32) (p2 : Int32) (p3 : Int32) (p4 : Int32) (p5 : Int32) (p6 : Int32) (p7 : Int32) (p8 : Int32) (p9 : Int32) (p10 : Int32) (p11 : Int32) (w3 : Value) (p12 : Int32) (p13 : Int32) (w4 : Value) (w5 : Value) (p14 : Int32) (p15 : Int32) (w6 : Value) (w7 : Value) (w8 : Value) (w9 : Value) (w10 : Value) (p16 : Int32) (w11 : Value) (w12 : Value) (w13 : Value) (f0 : Nat → Int32) (p17 : Int32) (f1 : Nat → Int32) (f2 : Nat → Int32) (f3 : Nat → Int32) (f4 : Nat → Int32) (f5 : Nat → Int32) (hp0 : (-2147483648) ≤ (p0).toInt ∧ (p0).toInt ≤ 2147483647) (hp1 : 0 ≤ (p1).toInt ∧ (p1).toInt ≤ 900) (hp2 : 0 ≤ (p2).toInt ∧ (p2).toInt ≤ 900) (hp3 : 0 ≤ (p3).toInt ∧ (p3).toInt ≤ 900) (hp4 : 0 ≤ (p4).toInt ∧ (p4).toInt ≤ 900) (hp5 : (-2147483648) ≤ (p5).toInt ∧ (p5).toInt ≤ 2147483647) (hp6 : 0 ≤ (p6).toInt ∧ (p6).toInt ≤ 999) (hp7 : (-2147483648) ≤ (p7).toInt ∧ (p7).toInt ≤ 2147483647) (hp8 : (-2147483648) ≤ (p8).toInt ∧ (p8).toInt ≤ 2147483647) (hp9 : (-2147483648) ≤ (p9).toInt ∧ (p9).toInt ≤ 2147483647) (hp10 : (-2147483648) ≤ (p10).toInt ∧ (p10).toInt ≤ 2147483647) (hp11 : (-2147483648) ≤ (p11).toInt ∧ (p11).toInt ≤ 2147483647) (hp12 : (-2147483648) ≤ (p12).toInt ∧ (p12).toInt ≤ 2147483647) (hp13 : (-2147483648) ≤ (p13).toInt ∧ (p13).toInt ≤ 2147483647) (hp14 : (-2147483648) ≤ (p14).toInt ∧ (p14).toInt ≤ 2147483647) (hp15 : (-2147483648) ≤ (p15).toInt ∧ (p15).toInt ≤ 2147483647) (hp16 : (-2147483648) ≤ (p16).toInt ∧ (p16).toInt ≤ 2147483647) (hp17 : 0 ≤ (p17).toInt ∧ (p17).toInt ≤ 10) (htf0_84 : f0 84 = p17) (rf0 : AL f0) (rf3 : RG f3 3 0 9) (rf4 : RG f4 10 0 1023) (sz : Nat) : MI l yX12_word cX12_word 5 .int { frames := 6, cells := 0, slots := 0, locals := 135 } [.ref h0] D cy (wk_9062689b1 cy h0 p0 h1 w0 w1 w2 p1 p2 p3 p4 p5 p6 p7 p8 p9 p10 p11 h2 h3 h4 h5 w3 p12 p13 h6 w4 w5 p14 p15 w6 w7 w8 w9 w10 p16 w11 w12 w13 h1 f0 h2 f1 h3 f2 h4 f3 h5 f4 h6 f5) sz (fun r u => ((-1) ≤ r.toInt ∧ r.toInt ≤ 99) ∧ RG (u.2.1 0) 3 0 9 ∧ (0 ≤ (u.2.1 1 0).toInt ∧ (u.2.1 1 0).toInt ≤ 0) ∧ AL (u.2.1 2) ∧ RG (u.2.1 5) 10 0 1023 ∧ (u.2.1 2) 84 = p17 ∧ True) (fun u => (wk_9062689b1 cy h0 (u.2.1 1 0) h1 w0 w1 w2 p1 p2 p3 p4 p5 p6 p7 p8 p9 p10 p11 h2 h3 h4 h5 w3 p12 p13 h6 w4 w5 p14 p15 w6 w7 w8 w9 w10 p16 w11 w12 w13 h1 (u.2.1 2) h2 (u.2.1 3) h3 (u.2.1 4) h4 (u.2.1 0) h5 (u.2.1 5) h6 (u.2.1 6))) 0 0 := by
  refine q_ent (own := RX12) (by decide) rfl (Nat.le_of_ble_eq_true rfl) (fun p e s m below meth c ls X hr hlk hnm hK hT h hA hl => ?_)
  obtain ⟨hx, hb, hml, hown, ht⟩ := id X
  replace hl : lv_has ls 5 [(0, .ref h0)] := hl
  refine lv_aload_n hx hb dX12_word_0 rfl (lv_at hl 0 rfl) ?_
  refine lv_iconst (v := 0) hx hb dX12_word_1 (by decide) ?_
  refine q_put (v := .int 0) X hK h 0 rfl rfl wf_12 tyX12 tyX12_ok nmX12 0 (by decide) wm_5_170 rfl rfl rfl (Nat.le_of_ble_eq_true rfl) dX12_word_2 (fun H locs h_1 => ?_)
  clear h
  replace h_1 : qW D _ _ (wk_9062689b1 cy h0 0 h1 w0 w1 w2 p1 p2 p3 p4 p5 p6 p7 p8 p9 p10 p11 h2 h3 h4 h5 w3 p12 p13 h6 w4 w5 p14 p15 w6 w7 w8 w9 w10 p16 w11 w12 w13 h1 f0 h2 f1 h3 f2 h4 f3 h5 f4 h6 f5) _ _ := h_1
  refine lv_aload_n hx hb dX12_word_5 rfl (lv_at hl 0 rfl) ?_
  refine lv_aload_n hx hb dX12_word_6 rfl (lv_at hl 0 rfl) ?_
  refine q_callVi (rest := [.ref h0]) (wr := [(h2, .inl (cy 1, 900, .inl f1)), (h3, .inl (cy 1, 11, .inl f2)), (h4, .inl (cy 1, 3, .inl f3)), (h5, .inl (cy 1, 10, .inl f4)), (h6, .inl (cy 1, 1024, .inl f5))]) X hK hT hA h_1 (fun sz => gX12_townNow_2907b4b l D cy h0 h1 (0 : Int32) w0 w1 w2 p1 p2 p3 p4 p5 p6 p7 p8 p9 p10 p11 (.ref h2) (.ref h3) (.ref h4) (.ref h5) w3 p12 p13 (.ref h6) w4 w5 p14 p15 w6 w7 w8 w9 w10 p16 w11 w12 w13 f0 p17 ⟨by decide +kernel, by decide +kernel⟩ hp1 hp2 hp3 hp4 (i_rng _) hp6 (i_rng _) (i_rng _) (i_rng _) (i_rng _) (i_rng _) (i_rng _) (i_rng _) (i_rng _) (i_rng _) (i_rng _) hp17 htf0_84 rf0 sz) wm_6_170 wm_6_173 wm_1_12 hd_X12_townNow wm_6_172 wp_5_9 (ci := 12) (q0 := 0) rfl rfl ⟨Nat.le_of_ble_eq_true rfl, Nat.le_of_ble_eq_true rfl⟩ hl.1 rfl (Nat.le_of_ble_eq_true rfl) dX12_word_7 ⟨Nat.le_of_ble_eq_true rfl, Nat.le_of_ble_eq_true rfl⟩ [0, 1] [2, 3, 4, 5, 6] rfl rfl (by decide) rfl rfl (fun r_2 u_2 H locs w_2 h_2 => ?_)
  clear h_1
  obtain ⟨wr_2, _⟩ := w_2
  replace h_2 : qW D _ _ [(h2, .inl (cy 1, 900, .inl f1)), (h3, .inl (cy 1, 11, .inl f2)), (h4, .inl (cy 1, 3, .inl f3)), (h5, .inl (cy 1, 10, .inl f4)), (h6, .inl (cy 1, 1024, .inl f5)), (h0, .inr (12, [.int 0, .ref h1, w0, w1, w2, .int p1, .int p2, .int p3, .int p4, .int p5, .int p6, .int p7, .int p8, .int p9, .int p10, .int p11, .ref h2, .ref h3, .ref h4, .ref h5, w3, .int p12, .int p13, .ref h6, w4, w5, .int p14, .int p15, w6, w7, w8, w9, w10, .int p16, w11, w12, w13])), (h1, .inl (cy 1, 3918, .inl f0))] _ _ := h_2
  refine q_callVi (rest := []) (wr := [(h4, .inl (cy 1, 3, .inl f3))]) X hK hT hA h_2 (fun sz => gX12_sitsNow_472ffcf l D cy h0 h1 h2 h3 h5 h6 r_2 (0 : Int32) w0 w1 w2 p1 p2 p3 p4 p5 p6 p7 p8 p9 p10 p11 (.ref h4) w3 p12 p13 w4 w5 p14 p15 w6 w7 w8 w9 w10 p16 w11 w12 w13 f0 p17 f1 f2 f4 f5 wr_2 ⟨by decide +kernel, by decide +kernel⟩ hp1 hp2 hp3 hp4 (i_rng _) hp6 (i_rng _) (i_rng _) (i_rng _) (i_rng _) (i_rng _) (i_rng _) (i_rng _) (i_rng _) (i_rng _) (i_rng _) hp17 htf0_84 rf0 (rg_wide rf4 (by decide) (by decide)) sz) wm_7_51 wm_7_54 wm_1_12 hd_X12_sitsNow wm_7_53 wp_6_10 (ci := 12) (q0 := 0) rfl rfl ⟨Nat.le_of_ble_eq_true rfl, Nat.le_of_ble_eq_true rfl⟩ hl.1 rfl (Nat.le_of_ble_eq_true rfl) dX12_word_10 ⟨Nat.le_of_ble_eq_true rfl, Nat.le_of_ble_eq_true rfl⟩ [5, 6, 0, 1, 3, 4] [2] rfl rfl (by decide) rfl rfl (fun r_3 u_3 H locs w_3 h_3 => ?_)
  clear h_2
  obtain ⟨wr_3, w3_0, _⟩ := w_3
  replace h_3 : qW D _ _ (wk_e4bc77630 cy h4 f3 h0 0 h1 w0 w1 w2 p1 p2 p3 p4 p5 p6 p7 p8 p9 p10 p11 h2 h3 h4 h5 w3 p12 p13 h6 w4 w5 p14 p15 w6 w7 w8 w9 w10 p16 w11 w12 w13 h1 f0 h2 (u_3.2.1 0) h3 (u_3.2.1 1) h5 (u_3.2.1 2) h6 (u_3.2.1 3)) _ _ := h_3
  refine lv_if_eq (tgt := 18) hx hb dX12_word_13 (by decide) (fun c_4 => ?_) (fun c_4 => ?_)
  · replace c_4 := i_eq (x := r_3) (y := 0) rfl (show (0 : Int32).toInt = 0 by decide) c_4
    refine lv_iconst (v := 0) hx hb dX12_word_18 (by decide) ?_
    refine lv_istore_n (lv' := [(1, .int 0), (0, .ref h0)]) hx hb dX12_word_19 rfl hl (by decide) rfl (fun ls_5 hl_5 => ?_)
    clear hl
    refine q_wl (fun (v20_6_0 : Int32) H locs ls => ∃ v20_6_1 : Nat → Int32, ∃ v20_6_2 : Nat → Int32, ∃ v20_6_3 : Nat → Int32, ∃ v20_6_4 : Nat → Int32, ∃ v20_6_5 : Nat → Int32, ∃ v20_6_6 : Nat → Int32, (0 ≤ (v20_6_0).toInt ∧ (v20_6_0).toInt ≤ 10) ∧ RG v20_6_1 3 0 9 ∧ v20_6_2 84 = p17 ∧ AL v20_6_2 ∧ RG v20_6_5 10 0 1023 ∧ qW D (va_A (wk_9062689b1 cy h0 p0 h1 w0 w1 w2 p1 p2 p3 p4 p5 p6 p7 p8 p9 p10 p11 h2 h3 h4 h5 w3 p12 p13 h6 w4 w5 p14 p15 w6 w7 w8 w9 w10 p16 w11 w12 w13 h1 f0 h2 f1 h3 f2 h4 f3 h5 f4 h6 f5) sz) s.heap (wk_e4bc77630 cy h4 v20_6_1 h0 0 h1 w0 w1 w2 p1 p2 p3 p4 p5 p6 p7 p8 p9 p10 p11 h2 h3 h4 h5 w3 p12 p13 h6 w4 w5 p14 p15 w6 w7 w8 w9 w10 p16 w11 w12 w13 h1 v20_6_2 h2 v20_6_3 h3 v20_6_4 h5 v20_6_5 h6 v20_6_6) H locs ∧ lv_has ls 5 [(0, .ref h0), (1, .int v20_6_0)]) (fun (v20_6_0 : Int32) => (11 - (v20_6_0).toInt).toNat) (fun q_20 ih_20 H locs ls hP => ?_) 0 ⟨f3, f0, (u_3.2.1 0), (u_3.2.1 1), (u_3.2.1 2), (u_3.2.1 3), ⟨by decide +kernel, by decide +kernel⟩, (rg_wide rf3 (by decide) (by decide)), htf0_84, rf0, (rg_wide w3_0 (by decide) (by decide)), h_3, (lv_sub hl_5 [1, 0] rfl)⟩
    obtain ⟨v20_6_0, rfl⟩ : ∃ z, z = q_20 := ⟨_, rfl⟩
    obtain ⟨v20_6_1, v20_6_2, v20_6_3, v20_6_4, v20_6_5, v20_6_6, hv20_6_0, rv20_6_1, trv20_6_2_84, rv20_6_2, rv20_6_5, h, hl⟩ := hP
    refine lv_iload_n hx hb dX12_word_20 rfl (lv_at hl 1 rfl) ?_
    refine lv_aload_n hx hb dX12_word_21 rfl (lv_at hl 0 rfl) ?_
    refine q_get X hK h 1 rfl rfl wf_12 1 (by decide) rfl wm_5_171 dX12_word_22 ?_
    refine lv_iconst (v := 2) hx hb dX12_word_25 (by decide) ?_
    refine q_iald X hK h 2 rfl (q_in (by decide +kernel)) dX12_word_26 ?_
    obtain ⟨z_7, ez_7, hz_7⟩ := al_P rv20_6_2 (x := 2) (show (2 : Int32).toInt = 2 by decide) (by omega) (by omega)
    refine q_c z_7 ez_7 ?_
    clear ez_7
    refine lv_icmp_ge (tgt := 108) hx hb dX12_word_27 (by decide) (fun c_8 => ?_) (fun c_8 => ?_)
    · replace c_8 := i_le (x := z_7) (y := v20_6_0) rfl rfl c_8
      refine lv_iconst (v := (-1)) hx hb dX12_word_108 (by decide) ?_
      exact q_iret X hr hlk hK h rfl (fun _ => 0, (vcons v20_6_1 (vcons (fun _ => 0) (vcons v20_6_2 (vcons v20_6_3 (vcons v20_6_4 (vcons v20_6_5 (vcons v20_6_6 (fun _ => (fun _ => 0))))))))), fun _ _ => 0) ⟨⟨by decide +kernel, by decide +kernel⟩, (rg_wide rv20_6_1 (by decide) (by decide)), (⟨by decide +kernel, by decide +kernel⟩ : 0 ≤ (0 : Int32).toInt ∧ (0 : Int32).toInt ≤ 0), rv20_6_2, (rg_wide rv20_6_5 (by decide) (by decide)), trv20_6_2_84, trivial⟩ [1, 2, 3, 4, 0, 5, 6] rfl rfl dX12_word_109 (Nat.le_of_ble_eq_true rfl) (Nat.le_of_ble_eq_true rfl)
    · replace c_8 := i_nle (x := z_7) (y := v20_6_0) rfl rfl c_8
      refine lv_iconst (v := 0) hx hb dX12_word_30 (by decide) ?_
      refine lv_istore_n (lv' := [(2, .int 0), (0, .ref h0), (1, .int v20_6_0)]) hx hb dX12_word_31 rfl hl (by decide) rfl (fun ls_9 hl_9 => ?_)
      clear hl
      refine q_wl (fun (v32_10_0 : Int32) H locs ls => ∃ v32_10_1 : Nat → Int32, ∃ v32_10_2 : Nat → Int32, ∃ v32_10_3 : Nat → Int32, ∃ v32_10_4 : Nat → Int32, ∃ v32_10_5 : Nat → Int32, ∃ v32_10_6 : Nat → Int32, (0 ≤ (v32_10_0).toInt ∧ (v32_10_0).toInt ≤ 10) ∧ RG v32_10_1 3 0 9 ∧ RG v32_10_4 10 0 1023 ∧ v32_10_6 84 = p17 ∧ AL v32_10_6 ∧ qW D (va_A (wk_9062689b1 cy h0 p0 h1 w0 w1 w2 p1 p2 p3 p4 p5 p6 p7 p8 p9 p10 p11 h2 h3 h4 h5 w3 p12 p13 h6 w4 w5 p14 p15 w6 w7 w8 w9 w10 p16 w11 w12 w13 h1 f0 h2 f1 h3 f2 h4 f3 h5 f4 h6 f5) sz) s.heap (wk_e4bc77630 cy h4 v32_10_1 h0 0 h1 w0 w1 w2 p1 p2 p3 p4 p5 p6 p7 p8 p9 p10 p11 h2 h3 h4 h5 w3 p12 p13 h6 w4 w5 p14 p15 w6 w7 w8 w9 w10 p16 w11 w12 w13 h1 v32_10_6 h2 v32_10_2 h3 v32_10_3 h5 v32_10_4 h6 v32_10_5) H locs ∧ lv_has ls 5 [(0, .ref h0), (1, .int v20_6_0), (2, .int v32_10_0)]) (fun (v32_10_0 : Int32) => (11 - (v32_10_0).toInt).toNat) (fun q_32 ih_32 H locs ls hP => ?_) 0 ⟨v20_6_1, v20_6_3, v20_6_4, v20_6_5, v20_6_6, v20_6_2, ⟨by decide +kernel, by decide +kernel⟩, (rg_wide rv20_6_1 (by decide) (by decide)), (rg_wide rv20_6_5 (by decide) (by decide)), trv20_6_2_84, rv20_6_2, h, (lv_sub hl_9 [1, 2, 0] rfl)⟩
      obtain ⟨v32_10_0, rfl⟩ : ∃ z, z = q_32 := ⟨_, rfl⟩
      obtain ⟨v32_10_1, v32_10_2, v32_10_3, v32_10_4, v32_10_5, v32_10_6, hv32_10_0, rv32_10_1, rv32_10_4, trv32_10_6_84, rv32_10_6, h, hl⟩ := hP
      refine lv_iload_n hx hb dX12_word_32 rfl (lv_at hl 2 rfl) ?_
      refine lv_aload_n hx hb dX12_word_33 rfl (lv_at hl 0 rfl) ?_
      refine q_get X hK h 1 rfl rfl wf_12 1 (by decide) rfl wm_5_171 dX12_word_34 ?_
      refine lv_iconst (v := 2) hx hb dX12_word_37 (by decide) ?_
      refine q_iald X hK h 2 rfl (q_in (by decide +kernel)) dX12_word_38 ?_
      obtain ⟨z_11, ez_11, hz_11⟩ := al_P rv32_10_6 (x := 2) (show (2 : Int32).toInt = 2 by decide) (by omega) (by omega)
      refine q_c z_11 ez_11 ?_
      clear ez_11
      refine lv_icmp_ge (tgt := 102) hx hb dX12_word_39 (by decide) (fun c_12 => ?_) (fun c_12 => ?_)
      · replace c_12 := i_le (x := z_11) (y := v32_10_0) rfl rfl c_12
        obtain ⟨z_13, ez_13, hz_13⟩ := e_add (x := v20_6_0) (y := Int32.ofInt 1) rfl (b := 1) (by decide) (by omega) (by omega)
        refine lv_iinc (v := z_13) (lv' := [(1, .int z_13), (0, .ref h0), (2, .int v32_10_0)]) hx hb dX12_word_102 hl (k := 1) rfl ez_13 (by decide) rfl (fun ls_13 hl_13 => ?_)
        clear hl
        refine lv_goto (tgt := 20) hx hb dX12_word_105 (by decide) ?_
        exact ih_20 z_13 (by show (11 - (z_13).toInt).toNat < (11 - (v20_6_0).toInt).toNat; omega) _ _ _ ⟨v32_10_1, v32_10_6, v32_10_2, v32_10_3, v32_10_4, v32_10_5, ⟨by omega, by omega⟩, (rg_wide rv32_10_1 (by decide) (by decide)), trv32_10_6_84, rv32_10_6, (rg_wide rv32_10_4 (by decide) (by decide)), h, (lv_sub hl_13 [1, 0] rfl)⟩
      · replace c_12 := i_nle (x := z_11) (y := v32_10_0) rfl rfl c_12
        refine lv_aload_n hx hb dX12_word_42 rfl (lv_at hl 0 rfl) ?_
        refine lv_iload_n hx hb dX12_word_43 rfl (lv_at hl 1 rfl) ?_
        refine lv_i2l hx hb dX12_word_44 rfl ?_
        obtain ⟨z_14, ez_14, hz_14⟩ := e_i2l (x := v20_6_0) rfl
        refine q_cl z_14 ez_14 ?_
        clear ez_14
        refine lv_iload_n hx hb dX12_word_45 rfl (lv_at hl 2 rfl) ?_
        refine lv_i2l hx hb dX12_word_46 rfl ?_
        obtain ⟨z_15, ez_15, hz_15⟩ := e_i2l (x := v32_10_0) rfl
        refine q_cl z_15 ez_15 ?_
        clear ez_15
        refine q_callVi (rest := []) (wr := (wk_e68ee150c cy h4 v32_10_1 h2 v32_10_2 h3 v32_10_3 h5 v32_10_4 h6 v32_10_5)) X hK hT hA h (fun sz => gX12_whyTalk_1a9da66 l D cy h0 h1 z_14 z_15 (0 : Int32) w0 w1 w2 p1 p2 p3 p4 p5 p6 p7 p8 p9 p10 p11 (.ref h2) (.ref h3) (.ref h4) (.ref h5) w3 p12 p13 (.ref h6) w4 w5 p14 p15 w6 w7 w8 w9 w10 p16 w11 w12 w13 v32_10_6 p17 ⟨by omega, by omega⟩ ⟨by omega, by omega⟩ ⟨by decide +kernel, by decide +kernel⟩ hp1 hp2 hp3 hp4 (i_rng _) hp6 (i_rng _) (i_rng _) (i_rng _) (i_rng _) (i_rng _) (i_rng _) (i_rng _) (i_rng _) (i_rng _) (i_rng _) hp17 trv32_10_6_84 rv32_10_6 sz) wm_6_216 wm_6_219 wm_1_12 hd_X12_whyTalk wm_6_218 wp_5_15 (ci := 12) (q0 := 0) rfl rfl ⟨Nat.le_of_ble_eq_true rfl, Nat.le_of_ble_eq_true rfl⟩ hl.1 rfl (Nat.le_of_ble_eq_true rfl) dX12_word_47 ⟨Nat.le_of_ble_eq_true rfl, Nat.le_of_ble_eq_true rfl⟩ [1, 2] [0, 3, 4, 5, 6] rfl rfl (by decide) rfl rfl (fun r_16 u_16 H locs w_16 h_16 => ?_)
        clear h
        obtain ⟨wr_16, y16_0, _⟩ := w_16
        replace h_16 : qW D _ _ (wk_bd9cc9370 cy h4 v32_10_1 h2 v32_10_2 h3 v32_10_3 h5 v32_10_4 h6 v32_10_5 h0 0 h1 w0 w1 w2 p1 p2 p3 p4 p5 p6 p7 p8 p9 p10 p11 h2 h3 h4 h5 w3 p12 p13 h6 w4 w5 p14 p15 w6 w7 w8 w9 w10 p16 w11 w12 w13 h1 v32_10_6) _ _ := h_16
        refine q_jn (pc2 := 96) (fun H locs ls st => ∃ v96_17_0 : Nat → Int32, ∃ v96_17_1 : Nat → Int32, ∃ v96_17_2 : Nat → Int32, ∃ v96_17_3 : Nat → Int32, ∃ v96_17_4 : Nat → Int32, ∃ v96_17_5 : Nat → Int32, RG v96_17_0 3 0 9 ∧ RG v96_17_3 10 0 1023 ∧ v96_17_5 84 = p17 ∧ AL v96_17_5 ∧ st = [] ∧ qW D (va_A (wk_9062689b1 cy h0 p0 h1 w0 w1 w2 p1 p2 p3 p4 p5 p6 p7 p8 p9 p10 p11 h2 h3 h4 h5 w3 p12 p13 h6 w4 w5 p14 p15 w6 w7 w8 w9 w10 p16 w11 w12 w13 h1 f0 h2 f1 h3 f2 h4 f3 h5 f4 h6 f5) sz) s.heap (wk_bd9cc9370 cy h4 v96_17_0 h2 v96_17_1 h3 v96_17_2 h5 v96_17_3 h6 v96_17_4 h0 0 h1 w0 w1 w2 p1 p2 p3 p4 p5 p6 p7 p8 p9 p10 p11 h2 h3 h4 h5 w3 p12 p13 h6 w4 w5 p14 p15 w6 w7 w8 w9 w10 p16 w11 w12 w13 h1 v96_17_5) H locs ∧ lv_has ls 5 [(0, .ref h0), (1, .int v20_6_0), (2, .int v32_10_0)]) (fun H locs ls st hP => ?_) (fun J_96 => ?_)
        · obtain ⟨v96_17_0, v96_17_1, v96_17_2, v96_17_3, v96_17_4, v96_17_5, rv96_17_0, rv96_17_3, trv96_17_5_84, rv96_17_5, rfl, h, hl⟩ := hP
          obtain ⟨z_18, ez_18, hz_18⟩ := e_add (x := v32_10_0) (y := Int32.ofInt 1) rfl (b := 1) (by decide) (by omega) (by omega)
          refine lv_iinc (v := z_18) (lv' := [(2, .int z_18), (0, .ref h0), (1, .int v20_6_0)]) hx hb dX12_word_96 hl (k := 2) rfl ez_18 (by decide) rfl (fun ls_18 hl_18 => ?_)
          clear hl
          refine lv_goto (tgt := 32) hx hb dX12_word_99 (by decide) ?_
          exact ih_32 z_18 (by show (11 - (z_18).toInt).toNat < (11 - (v32_10_0).toInt).toNat; omega) _ _ _ ⟨v96_17_0, v96_17_1, v96_17_2, v96_17_3, v96_17_4, v96_17_5, ⟨by omega, by omega⟩, (rg_wide rv96_17_0 (by decide) (by decide)), (rg_wide rv96_17_3 (by decide) (by decide)), trv96_17_5_84, rv96_17_5, (q_re h [0, 5, 6, 1, 2, 3, 4] rfl rfl), (lv_sub hl_18 [1, 2, 0] rfl)⟩
        · skip
          refine lv_if_eq (tgt := 56) hx hb dX12_word_50 (by decide) (fun c_19 => ?_) (fun c_19 => ?_)
          · replace c_19 := i_eq (x := r_16) (y := 0) rfl (show (0 : Int32).toInt = 0 by decide) c_19
            refine lv_aload_n hx hb dX12_word_56 rfl (lv_at hl 0 rfl) ?_
            refine lv_iload_n hx hb dX12_word_57 rfl (lv_at hl 1 rfl) ?_
            refine q_callVi (rest := []) (wr := (wk_e68ee150c cy h4 v32_10_1 h2 v32_10_2 h3 v32_10_3 h5 v32_10_4 h6 v32_10_5)) X hK hT hA h_16 (fun sz => gX12_viewsOf_bc3d930 l D cy h0 h1 v20_6_0 (0 : Int32) w0 w1 w2 p1 p2 p3 p4 p5 p6 p7 p8 p9 p10 p11 (.ref h2) (.ref h3) (.ref h4) (.ref h5) w3 p12 p13 (.ref h6) w4 w5 p14 p15 w6 w7 w8 w9 w10 p16 w11 w12 w13 v32_10_6 p17 ⟨by omega, by omega⟩ ⟨by decide +kernel, by decide +kernel⟩ hp1 hp2 hp3 hp4 (i_rng _) hp6 (i_rng _) (i_rng _) (i_rng _) (i_rng _) (i_rng _) (i_rng _) (i_rng _) (i_rng _) (i_rng _) (i_rng _) hp17 trv32_10_6_84 rv32_10_6 sz) wm_7_172 wm_7_175 wm_1_12 hd_X12_viewsOf wm_7_174 wp_7_10 (ci := 12) (q0 := 0) rfl rfl ⟨Nat.le_of_ble_eq_true rfl, Nat.le_of_ble_eq_true rfl⟩ hl.1 rfl (Nat.le_of_ble_eq_true rfl) dX12_word_58 ⟨Nat.le_of_ble_eq_true rfl, Nat.le_of_ble_eq_true rfl⟩ [5, 6] [0, 1, 2, 3, 4] rfl rfl (by decide) rfl rfl (fun r_20 u_20 H locs w_20 h_20 => ?_)
            clear h_16
            obtain ⟨wr_20, _⟩ := w_20
            replace h_20 : qW D _ _ (wk_bd9cc9370 cy h4 v32_10_1 h2 v32_10_2 h3 v32_10_3 h5 v32_10_4 h6 v32_10_5 h0 0 h1 w0 w1 w2 p1 p2 p3 p4 p5 p6 p7 p8 p9 p10 p11 h2 h3 h4 h5 w3 p12 p13 h6 w4 w5 p14 p15 w6 w7 w8 w9 w10 p16 w11 w12 w13 h1 v32_10_6) _ _ := h_20
            refine lv_istore_n (lv' := [(3, .int r_20), (0, .ref h0), (1, .int v20_6_0), (2, .int v32_10_0)]) hx hb dX12_word_61 rfl hl (by decide) rfl (fun ls_21 hl_21 => ?_)
            clear hl
            refine lv_aload_n hx hb dX12_word_62 rfl (lv_at hl_21 1 rfl) ?_
            refine lv_iload_n hx hb dX12_word_63 rfl (lv_at hl_21 2 rfl) ?_
            refine lv_iload_n hx hb dX12_word_64 rfl (lv_at hl_21 3 rfl) ?_
            refine q_callVv (rest := []) (wr := (wk_eec75f9e5 cy h5 v32_10_4 h6 v32_10_5)) X hK hT hA h_20 (fun sz => gX12_talks1_48107b5 l D cy h0 h1 h2 h3 h4 v20_6_0 v32_10_0 (0 : Int32) w0 w1 w2 p1 p2 p3 p4 p5 p6 p7 p8 p9 p10 p11 (.ref h5) w3 p12 p13 (.ref h6) w4 w5 p14 p15 w6 w7 w8 w9 w10 p16 w11 w12 w13 v32_10_6 p17 v32_10_2 v32_10_3 v32_10_1 ⟨by omega, by omega⟩ ⟨by omega, by omega⟩ ⟨by decide +kernel, by decide +kernel⟩ hp1 hp2 hp3 hp4 (i_rng _) hp6 (i_rng _) (i_rng _) (i_rng _) (i_rng _) (i_rng _) (i_rng _) (i_rng _) (i_rng _) (i_rng _) (i_rng _) hp17 trv32_10_6_84 rv32_10_6 (rg_wide rv32_10_1 (by decide) (by decide)) sz) wm_6_224 wm_6_227 wm_1_12 hd_X12_talks1 wm_6_226 wp_6_1 (ci := 12) (q0 := 0) rfl rfl ⟨Nat.le_of_ble_eq_true rfl, Nat.le_of_ble_eq_true rfl⟩ hl_21.1 rfl (Nat.le_of_ble_eq_true rfl) dX12_word_65 ⟨Nat.le_of_ble_eq_true rfl, Nat.le_of_ble_eq_true rfl⟩ [5, 6, 1, 2, 0] [3, 4] rfl rfl (by decide) rfl rfl (fun u_22 H locs w_22 h_22 => ?_)
            clear h_20
            obtain ⟨w22_0, w22_1, w22_2, _⟩ := w_22
            replace h_22 : qW D _ _ [(h5, .inl (cy 1, 10, .inl v32_10_4)), (h6, .inl (cy 1, 1024, .inl v32_10_5)), (h0, .inr (12, [.int 0, .ref h1, w0, w1, w2, .int p1, .int p2, .int p3, .int p4, .int p5, .int p6, .int p7, .int p8, .int p9, .int p10, .int p11, .ref h2, .ref h3, .ref h4, .ref h5, w3, .int p12, .int p13, .ref h6, w4, w5, .int p14, .int p15, w6, w7, w8, w9, w10, .int p16, w11, w12, w13])), (h1, .inl (cy 1, 3918, .inl (u_22.2.1 0))), (h2, .inl (cy 1, 900, .inl (u_22.2.1 1))), (h3, .inl (cy 1, 11, .inl (u_22.2.1 2))), (h4, .inl (cy 1, 3, .inl (u_22.2.1 3)))] _ _ := h_22
            refine lv_aload_n hx hb dX12_word_68 rfl (lv_at hl_21 1 rfl) ?_
            refine lv_aload_n hx hb dX12_word_69 rfl (lv_at hl_21 1 rfl) ?_
            refine q_callVi (rest := [.ref h0]) (wr := [(h5, .inl (cy 1, 10, .inl v32_10_4)), (h6, .inl (cy 1, 1024, .inl v32_10_5)), (h2, .inl (cy 1, 900, .inl (u_22.2.1 1))), (h3, .inl (cy 1, 11, .inl (u_22.2.1 2))), (h4, .inl (cy 1, 3, .inl (u_22.2.1 3)))]) X hK hT hA h_22 (fun sz => gX12_townNow_2907b4b l D cy h0 h1 (0 : Int32) w0 w1 w2 p1 p2 p3 p4 p5 p6 p7 p8 p9 p10 p11 (.ref h2) (.ref h3) (.ref h4) (.ref h5) w3 p12 p13 (.ref h6) w4 w5 p14 p15 w6 w7 w8 w9 w10 p16 w11 w12 w13 (u_22.2.1 0) p17 ⟨by decide +kernel, by decide +kernel⟩ hp1 hp2 hp3 hp4 (i_rng _) hp6 (i_rng _) (i_rng _) (i_rng _) (i_rng _) (i_rng _) (i_rng _) (i_rng _) (i_rng _) (i_rng _) (i_rng _) hp17 w22_2 w22_0 sz) wm_6_170 wm_6_173 wm_1_12 hd_X12_townNow wm_6_172 wp_5_9 (ci := 12) (q0 := 0) rfl rfl ⟨Nat.le_of_ble_eq_true rfl, Nat.le_of_ble_eq_true rfl⟩ hl_21.1 rfl (Nat.le_of_ble_eq_true rfl) dX12_word_70 ⟨Nat.le_of_ble_eq_true rfl, Nat.le_of_ble_eq_true rfl⟩ [2, 3] [0, 1, 4, 5, 6] rfl rfl (by decide) rfl rfl (fun r_23 u_23 H locs w_23 h_23 => ?_)
            clear h_22
            obtain ⟨wr_23, _⟩ := w_23
            replace h_23 : qW D _ _ [(h5, .inl (cy 1, 10, .inl v32_10_4)), (h6, .inl (cy 1, 1024, .inl v32_10_5)), (h2, .inl (cy 1, 900, .inl (u_22.2.1 1))), (h3, .inl (cy 1, 11, .inl (u_22.2.1 2))), (h4, .inl (cy 1, 3, .inl (u_22.2.1 3))), (h0, .inr (12, [.int 0, .ref h1, w0, w1, w2, .int p1, .int p2, .int p3, .int p4, .int p5, .int p6, .int p7, .int p8, .int p9, .int p10, .int p11, .ref h2, .ref h3, .ref h4, .ref h5, w3, .int p12, .int p13, .ref h6, w4, w5, .int p14, .int p15, w6, w7, w8, w9, w10, .int p16, w11, w12, w13])), (h1, .inl (cy 1, 3918, .inl (u_22.2.1 0)))] _ _ := h_23
            refine q_callVi (rest := []) (wr := [(h4, .inl (cy 1, 3, .inl (u_22.2.1 3)))]) X hK hT hA h_23 (fun sz => gX12_sitsNow_472ffcf l D cy h0 h1 h2 h3 h5 h6 r_23 (0 : Int32) w0 w1 w2 p1 p2 p3 p4 p5 p6 p7 p8 p9 p10 p11 (.ref h4) w3 p12 p13 w4 w5 p14 p15 w6 w7 w8 w9 w10 p16 w11 w12 w13 (u_22.2.1 0) p17 (u_22.2.1 1) (u_22.2.1 2) v32_10_4 v32_10_5 wr_23 ⟨by decide +kernel, by decide +kernel⟩ hp1 hp2 hp3 hp4 (i_rng _) hp6 (i_rng _) (i_rng _) (i_rng _) (i_rng _) (i_rng _) (i_rng _) (i_rng _) (i_rng _) (i_rng _) (i_rng _) hp17 w22_2 w22_0 (rg_wide rv32_10_4 (by decide) (by decide)) sz) wm_7_51 wm_7_54 wm_1_12 hd_X12_sitsNow wm_7_53 wp_6_10 (ci := 12) (q0 := 0) rfl rfl ⟨Nat.le_of_ble_eq_true rfl, Nat.le_of_ble_eq_true rfl⟩ hl_21.1 rfl (Nat.le_of_ble_eq_true rfl) dX12_word_73 ⟨Nat.le_of_ble_eq_true rfl, Nat.le_of_ble_eq_true rfl⟩ [5, 6, 2, 3, 0, 1] [4] rfl rfl (by decide) rfl rfl (fun r_24 u_24 H locs w_24 h_24 => ?_)
            clear h_23
            obtain ⟨wr_24, w24_0, _⟩ := w_24
            replace h_24 : qW D _ _ (wk_e4bc77630 cy h4 (u_22.2.1 3) h0 0 h1 w0 w1 w2 p1 p2 p3 p4 p5 p6 p7 p8 p9 p10 p11 h2 h3 h4 h5 w3 p12 p13 h6 w4 w5 p14 p15 w6 w7 w8 w9 w10 p16 w11 w12 w13 h1 (u_22.2.1 0) h2 (u_24.2.1 0) h3 (u_24.2.1 1) h5 (u_24.2.1 2) h6 (u_24.2.1 3)) _ _ := h_24
            refine lv_istore (lv' := [(4, .int r_24), (3, .int r_20), (0, .ref h0), (1, .int v20_6_0), (2, .int v32_10_0)]) hx hb dX12_word_76 hl_21 (by decide) rfl (fun ls_25 hl_25 => ?_)
            clear hl_21
            refine lv_aload_n hx hb dX12_word_78 rfl (lv_at hl_25 2 rfl) ?_
            refine lv_iload_n hx hb dX12_word_79 rfl (lv_at hl_25 3 rfl) ?_
            refine lv_iload_n hx hb dX12_word_80 rfl (lv_at hl_25 1 rfl) ?_
            refine q_callVv (rest := []) (wr := (wk_e68ee150c cy h4 (u_22.2.1 3) h2 (u_24.2.1 0) h3 (u_24.2.1 1) h5 (u_24.2.1 2) h6 (u_24.2.1 3))) X hK hT hA h_24 (fun sz => gX12_puts_2de0910 l D cy h0 h1 v20_6_0 r_20 (0 : Int32) w0 w1 w2 p1 p2 p3 p4 p5 p6 p7 p8 p9 p10 p11 (.ref h2) (.ref h3) (.ref h4) (.ref h5) w3 p12 p13 (.ref h6) w4 w5 p14 p15 w6 w7 w8 w9 w10 p16 w11 w12 w13 (u_22.2.1 0) p17 ⟨by omega, by omega⟩ wr_20 ⟨by decide +kernel, by decide +kernel⟩ hp1 hp2 hp3 hp4 (i_rng _) hp6 (i_rng _) (i_rng _) (i_rng _) (i_rng _) (i_rng _) (i_rng _) (i_rng _) (i_rng _) (i_rng _) (i_rng _) hp17 w22_2 w22_0 sz) wm_7_176 wm_7_179 wm_1_12 hd_X12_puts wm_7_178 wp_7_11 (ci := 12) (q0 := 0) rfl rfl ⟨Nat.le_of_ble_eq_true rfl, Nat.le_of_ble_eq_true rfl⟩ hl_25.1 rfl (Nat.le_of_ble_eq_true rfl) dX12_word_81 ⟨Nat.le_of_ble_eq_true rfl, Nat.le_of_ble_eq_true rfl⟩ [1, 2] [0, 3, 4, 5, 6] rfl rfl (by decide) rfl rfl (fun u_26 H locs w_26 h_26 => ?_)
            clear h_24
            obtain ⟨w26_0, w26_1, _⟩ := w_26
            replace h_26 : qW D _ _ (wk_bd9cc9370 cy h4 (u_22.2.1 3) h2 (u_24.2.1 0) h3 (u_24.2.1 1) h5 (u_24.2.1 2) h6 (u_24.2.1 3) h0 0 h1 w0 w1 w2 p1 p2 p3 p4 p5 p6 p7 p8 p9 p10 p11 h2 h3 h4 h5 w3 p12 p13 h6 w4 w5 p14 p15 w6 w7 w8 w9 w10 p16 w11 w12 w13 h1 (u_26.2.1 0)) _ _ := h_26
            refine lv_iload hx hb dX12_word_84 (lv_at hl_25 0 rfl) ?_
            refine lv_if_eq (tgt := 96) hx hb dX12_word_86 (by decide) (fun c_27 => ?_) (fun c_27 => ?_)
            · replace c_27 := i_eq (x := r_24) (y := 0) rfl (show (0 : Int32).toInt = 0 by decide) c_27
              exact J_96 _ _ _ _ ⟨(u_22.2.1 3), (u_24.2.1 0), (u_24.2.1 1), (u_24.2.1 2), (u_24.2.1 3), (u_26.2.1 0), (rg_wide w22_1 (by decide) (by decide)), (rg_wide w24_0 (by decide) (by decide)), w26_1, w26_0, rfl, h_26, (lv_sub hl_25 [2, 3, 4] rfl)⟩
            · replace c_27 := i_ne (x := r_24) (y := 0) rfl (show (0 : Int32).toInt = 0 by decide) c_27
              refine lv_bipush (v := 10) hx hb dX12_word_89 (by decide) ?_
              refine lv_iload_n hx hb dX12_word_91 rfl (lv_at hl_25 3 rfl) ?_
              refine lv_imul hx hb dX12_word_92 ?_
              obtain ⟨z_28, ez_28, hz_28⟩ := e_mul (x := 10) (y := v20_6_0) (show (10 : Int32).toInt = 10 by decide) rfl (by omega) (by omega)
              refine q_c z_28 ez_28 ?_
              clear ez_28
              refine lv_iload_n hx hb dX12_word_93 rfl (lv_at hl_25 4 rfl) ?_
              refine lv_iadd hx hb dX12_word_94 ?_
              obtain ⟨z_29, ez_29, hz_29⟩ := e_add (x := z_28) (y := v32_10_0) rfl rfl (by omega) (by omega)
              refine q_c z_29 ez_29 ?_
              clear ez_29
              exact q_iret X hr hlk hK h_26 rfl (fun _ => 0, (vcons (u_22.2.1 3) (vcons (fun _ => 0) (vcons (u_26.2.1 0) (vcons (u_24.2.1 0) (vcons (u_24.2.1 1) (vcons (u_24.2.1 2) (vcons (u_24.2.1 3) (fun _ => (fun _ => 0))))))))), fun _ _ => 0) ⟨⟨by omega, by omega⟩, (rg_wide w22_1 (by decide) (by decide)), (⟨by decide +kernel, by decide +kernel⟩ : 0 ≤ (0 : Int32).toInt ∧ (0 : Int32).toInt ≤ 0), w26_0, (rg_wide w24_0 (by decide) (by decide)), w26_1, trivial⟩ [5, 6, 1, 2, 0, 3, 4] rfl rfl dX12_word_95 (Nat.le_of_ble_eq_true rfl) (Nat.le_of_ble_eq_true rfl)
          · replace c_19 := i_ne (x := r_16) (y := 0) rfl (show (0 : Int32).toInt = 0 by decide) c_19
            refine lv_goto (tgt := 96) hx hb dX12_word_53 (by decide) ?_
            exact J_96 _ _ _ _ ⟨v32_10_1, v32_10_2, v32_10_3, v32_10_4, v32_10_5, v32_10_6, (rg_wide rv32_10_1 (by decide) (by decide)), (rg_wide rv32_10_4 (by decide) (by decide)), trv32_10_6_84, rv32_10_6, rfl, h_16, (lv_sub hl [0, 1, 2] rfl)⟩
  · replace c_4 := i_ne (x := r_3) (y := 0) rfl (show (0 : Int32).toInt = 0 by decide) c_4
    refine lv_iconst (v := (-1)) hx hb dX12_word_16 (by decide) ?_
    exact q_iret X hr hlk hK h_3 rfl (fun _ => 0, (vcons f3 (vcons (fun _ => 0) (vcons f0 (vcons (u_3.2.1 0) (vcons (u_3.2.1 1) (vcons (u_3.2.1 2) (vcons (u_3.2.1 3) (fun _ => (fun _ => 0))))))))), fun _ _ => 0) ⟨⟨by decide +kernel, by decide +kernel⟩, (rg_wide rf3 (by decide) (by decide)), (⟨by decide +kernel, by decide +kernel⟩ : 0 ≤ (0 : Int32).toInt ∧ (0 : Int32).toInt ≤ 0), rf0, (rg_wide w3_0 (by decide) (by decide)), htf0_84, trivial⟩ [1, 2, 3, 4, 0, 5, 6] rfl rfl dX12_word_17 (Nat.le_of_ble_eq_true rfl) (Nat.le_of_ble_eq_true rfl)
