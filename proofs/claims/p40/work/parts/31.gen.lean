def wk_410b6a568 (cy : Nat → ClassId) (a0 : Nat) (a1 : Int32) (a2 : Nat) (a3 a4 a5 : Value) (a6 a7 a8 a9 a10 a11 a12 a13 a14 a15 a16 : Int32) (a17 a18 a19 : Nat) (a20 a21 : Value) (a22 a23 : Int32) (a24 a25 a26 : Value) (a27 a28 : Int32) (a29 a30 a31 a32 a33 : Nat) (a34 : Int32) (a35 a36 a37 : Value) (a38 : Nat) (a39 : Nat → Int32) (a40 : Nat) (a41 : Nat → Int32) (a42 : Nat) (a43 : Nat → Int32) (a44 : Nat) (a45 : Nat → Int32) (a46 : Nat) (a47 : Nat → Int32) (a48 : Nat) (a49 : Nat → Int32) (a50 : Nat) (a51 : Nat → Int32) (a52 : Nat) (a53 : Nat → Int32) (a54 : Nat) (a55 : Nat → Int32) : va_W := [(a0, .inr (12, [.int a1, .ref a2, a3, a4, a5, .int a6, .int a7, .int a8, .int a9, .int a10, .int a11, .int a12, .int a13, .int a14, .int a15, .int a16, .ref a17, .ref a18, .ref a19, a20, a21, .int a22, .int a23, a24, a25, a26, .int a27, .int a28, .ref a29, .ref a30, .ref a31, .ref a32, .ref a33, .int a34, a35, a36, a37])), (a38, .inl (cy 1, 3918, .inl a39)), (a40, .inl (cy 1, 900, .inl a41)), (a42, .inl (cy 1, 11, .inl a43)), (a44, .inl (cy 1, 3, .inl a45)), (a46, .inl (cy 1, 1000, .inl a47)), (a48, .inl (cy 1, 1000, .inl a49)), (a50, .inl (cy 1, 1000, .inl a51)), (a52, .inl (cy 1, 1000, .inl a53)), (a54, .inl (cy 3, 1000, .inl a55))]
def wk_5ec465ffc (cy : Nat → ClassId) (a0 : Nat) (a1 : Nat → Int32) (a2 : Nat) (a3 : Nat → Int32) (a4 : Nat) (a5 : Nat → Int32) (a6 : Nat) (a7 : Nat → Int32) (a8 : Nat) (a9 : Nat → Int32) (a10 : Nat) (a11 : Nat → Int32) (a12 : Nat) (a13 : Nat → Int32) (a14 : Nat) (a15 : Nat → Int32) : va_W := [(a0, .inl (cy 1, 900, .inl a1)), (a2, .inl (cy 1, 11, .inl a3)), (a4, .inl (cy 1, 3, .inl a5)), (a6, .inl (cy 1, 1000, .inl a7)), (a8, .inl (cy 1, 1000, .inl a9)), (a10, .inl (cy 1, 1000, .inl a11)), (a12, .inl (cy 1, 1000, .inl a13)), (a14, .inl (cy 3, 1000, .inl a15))]
def wk_dcd050277 (cy : Nat → ClassId) (a0 : Nat) (a1 : Nat → Int32) (a2 : Nat) (a3 : Nat → Int32) (a4 : Nat) (a5 : Nat → Int32) (a6 : Nat) (a7 : Nat → Int32) (a8 : Nat) (a9 : Nat → Int32) (a10 : Nat) (a11 : Nat → Int32) (a12 : Nat) (a13 : Nat → Int32) (a14 : Nat) (a15 : Nat → Int32) (a16 : Nat) (a17 : Int32) (a18 : Nat) (a19 a20 a21 : Value) (a22 a23 a24 a25 a26 a27 a28 a29 a30 a31 a32 : Int32) (a33 a34 a35 : Nat) (a36 a37 : Value) (a38 a39 : Int32) (a40 a41 a42 : Value) (a43 a44 : Int32) (a45 a46 a47 a48 a49 : Nat) (a50 : Int32) (a51 a52 a53 : Value) (a54 : Nat) (a55 : Nat → Int32) : va_W := [(a0, .inl (cy 1, 900, .inl a1)), (a2, .inl (cy 1, 11, .inl a3)), (a4, .inl (cy 1, 3, .inl a5)), (a6, .inl (cy 1, 1000, .inl a7)), (a8, .inl (cy 1, 1000, .inl a9)), (a10, .inl (cy 1, 1000, .inl a11)), (a12, .inl (cy 1, 1000, .inl a13)), (a14, .inl (cy 3, 1000, .inl a15)), (a16, .inr (12, [.int a17, .ref a18, a19, a20, a21, .int a22, .int a23, .int a24, .int a25, .int a26, .int a27, .int a28, .int a29, .int a30, .int a31, .int a32, .ref a33, .ref a34, .ref a35, a36, a37, .int a38, .int a39, a40, a41, a42, .int a43, .int a44, .ref a45, .ref a46, .ref a47, .ref a48, .ref a49, .int a50, a51, a52, a53])), (a54, .inl (cy 1, 3918, .inl a55))]
def wk_aaeff7a5c (cy : Nat → ClassId) (a0 : Nat) (a1 : Nat → Int32) (a2 : Nat) (a3 : Nat → Int32) (a4 : Nat) (a5 : Nat → Int32) (a6 : Nat) (a7 : Nat → Int32) (a8 : Nat) (a9 : Nat → Int32) (a10 : Nat) (a11 : Nat → Int32) (a12 : Nat) (a13 : Int32) (a14 : Nat) (a15 a16 a17 : Value) (a18 a19 a20 a21 a22 a23 a24 a25 a26 a27 a28 : Int32) (a29 a30 a31 : Nat) (a32 a33 : Value) (a34 a35 : Int32) (a36 a37 a38 : Value) (a39 a40 : Int32) (a41 a42 a43 a44 a45 : Nat) (a46 : Int32) (a47 a48 a49 : Value) (a50 : Nat) (a51 : Nat → Int32) (a52 : Nat) (a53 : Nat → Int32) (a54 : Nat) (a55 : Nat → Int32) : va_W := [(a0, .inl (cy 1, 3, .inl a1)), (a2, .inl (cy 1, 1000, .inl a3)), (a4, .inl (cy 1, 1000, .inl a5)), (a6, .inl (cy 1, 1000, .inl a7)), (a8, .inl (cy 1, 1000, .inl a9)), (a10, .inl (cy 3, 1000, .inl a11)), (a12, .inr (12, [.int a13, .ref a14, a15, a16, a17, .int a18, .int a19, .int a20, .int a21, .int a22, .int a23, .int a24, .int a25, .int a26, .int a27, .int a28, .ref a29, .ref a30, .ref a31, a32, a33, .int a34, .int a35, a36, a37, a38, .int a39, .int a40, .ref a41, .ref a42, .ref a43, .ref a44, .ref a45, .int a46, a47, a48, a49])), (a50, .inl (cy 1, 3918, .inl a51)), (a52, .inl (cy 1, 900, .inl a53)), (a54, .inl (cy 1, 11, .inl a55))]
def wk_fbde43c06 (cy : Nat → ClassId) (a0 : Nat) (a1 : Nat → Int32) (a2 : Nat) (a3 : Nat → Int32) (a4 : Nat) (a5 : Nat → Int32) (a6 : Nat) (a7 : Nat → Int32) (a8 : Nat) (a9 : Nat → Int32) (a10 : Nat) (a11 : Nat → Int32) (a12 : Nat) (a13 : Nat → Int32) (a14 : Nat) (a15 : Nat → Int32) (a16 : Nat) (a17 : Int32) (a18 : Nat) (a19 a20 a21 : Value) (a22 a23 a24 a25 a26 a27 a28 a29 a30 a31 a32 : Int32) (a33 a34 a35 : Nat) (a36 a37 : Value) (a38 a39 : Int32) (a40 a41 a42 : Value) (a43 a44 : Int32) (a45 a46 a47 a48 a49 : Nat) (a50 : Int32) (a51 a52 a53 : Value) (a54 : Nat) (a55 : Nat → Int32) : va_W := [(a0, .inl (cy 1, 1000, .inl a1)), (a2, .inl (cy 1, 1000, .inl a3)), (a4, .inl (cy 1, 1000, .inl a5)), (a6, .inl (cy 1, 1000, .inl a7)), (a8, .inl (cy 3, 1000, .inl a9)), (a10, .inl (cy 1, 900, .inl a11)), (a12, .inl (cy 1, 11, .inl a13)), (a14, .inl (cy 1, 3, .inl a15)), (a16, .inr (12, [.int a17, .ref a18, a19, a20, a21, .int a22, .int a23, .int a24, .int a25, .int a26, .int a27, .int a28, .int a29, .int a30, .int a31, .int a32, .ref a33, .ref a34, .ref a35, a36, a37, .int a38, .int a39, a40, a41, a42, .int a43, .int a44, .ref a45, .ref a46, .ref a47, .ref a48, .ref a49, .int a50, a51, a52, a53])), (a54, .inl (cy 1, 3918, .inl a55))]
def wk_9062689b1 (cy : Nat → ClassId) (a0 : Nat) (a1 : Int32) (a2 : Nat) (a3 a4 a5 : Value) (a6 a7 a8 a9 a10 a11 a12 a13 a14 a15 a16 : Int32) (a17 a18 a19 a20 : Nat) (a21 : Value) (a22 a23 : Int32) (a24 : Nat) (a25 a26 : Value) (a27 a28 : Int32) (a29 a30 a31 a32 a33 : Value) (a34 : Int32) (a35 a36 a37 : Value) (a38 : Nat) (a39 : Nat → Int32) (a40 : Nat) (a41 : Nat → Int32) (a42 : Nat) (a43 : Nat → Int32) (a44 : Nat) (a45 : Nat → Int32) (a46 : Nat) (a47 : Nat → Int32) (a48 : Nat) (a49 : Nat → Int32) : va_W := [(a0, .inr (12, [.int a1, .ref a2, a3, a4, a5, .int a6, .int a7, .int a8, .int a9, .int a10, .int a11, .int a12, .int a13, .int a14, .int a15, .int a16, .ref a17, .ref a18, .ref a19, .ref a20, a21, .int a22, .int a23, .ref a24, a25, a26, .int a27, .int a28, a29, a30, a31, a32, a33, .int a34, a35, a36, a37])), (a38, .inl (cy 1, 3918, .inl a39)), (a40, .inl (cy 1, 900, .inl a41)), (a42, .inl (cy 1, 11, .inl a43)), (a44, .inl (cy 1, 3, .inl a45)), (a46, .inl (cy 1, 10, .inl a47)), (a48, .inl (cy 1, 1024, .inl a49))]
def wk_e4bc77630 (cy : Nat → ClassId) (a0 : Nat) (a1 : Nat → Int32) (a2 : Nat) (a3 : Int32) (a4 : Nat) (a5 a6 a7 : Value) (a8 a9 a10 a11 a12 a13 a14 a15 a16 a17 a18 : Int32) (a19 a20 a21 a22 : Nat) (a23 : Value) (a24 a25 : Int32) (a26 : Nat) (a27 a28 : Value) (a29 a30 : Int32) (a31 a32 a33 a34 a35 : Value) (a36 : Int32) (a37 a38 a39 : Value) (a40 : Nat) (a41 : Nat → Int32) (a42 : Nat) (a43 : Nat → Int32) (a44 : Nat) (a45 : Nat → Int32) (a46 : Nat) (a47 : Nat → Int32) (a48 : Nat) (a49 : Nat → Int32) : va_W := [(a0, .inl (cy 1, 3, .inl a1)), (a2, .inr (12, [.int a3, .ref a4, a5, a6, a7, .int a8, .int a9, .int a10, .int a11, .int a12, .int a13, .int a14, .int a15, .int a16, .int a17, .int a18, .ref a19, .ref a20, .ref a21, .ref a22, a23, .int a24, .int a25, .ref a26, a27, a28, .int a29, .int a30, a31, a32, a33, a34, a35, .int a36, a37, a38, a39])), (a40, .inl (cy 1, 3918, .inl a41)), (a42, .inl (cy 1, 900, .inl a43)), (a44, .inl (cy 1, 11, .inl a45)), (a46, .inl (cy 1, 10, .inl a47)), (a48, .inl (cy 1, 1024, .inl a49))]
def wk_e68ee150c (cy : Nat → ClassId) (a0 : Nat) (a1 : Nat → Int32) (a2 : Nat) (a3 : Nat → Int32) (a4 : Nat) (a5 : Nat → Int32) (a6 : Nat) (a7 : Nat → Int32) (a8 : Nat) (a9 : Nat → Int32) : va_W := [(a0, .inl (cy 1, 3, .inl a1)), (a2, .inl (cy 1, 900, .inl a3)), (a4, .inl (cy 1, 11, .inl a5)), (a6, .inl (cy 1, 10, .inl a7)), (a8, .inl (cy 1, 1024, .inl a9))]
def wk_bd9cc9370 (cy : Nat → ClassId) (a0 : Nat) (a1 : Nat → Int32) (a2 : Nat) (a3 : Nat → Int32) (a4 : Nat) (a5 : Nat → Int32) (a6 : Nat) (a7 : Nat → Int32) (a8 : Nat) (a9 : Nat → Int32) (a10 : Nat) (a11 : Int32) (a12 : Nat) (a13 a14 a15 : Value) (a16 a17 a18 a19 a20 a21 a22 a23 a24 a25 a26 : Int32) (a27 a28 a29 a30 : Nat) (a31 : Value) (a32 a33 : Int32) (a34 : Nat) (a35 a36 : Value) (a37 a38 : Int32) (a39 a40 a41 a42 a43 : Value) (a44 : Int32) (a45 a46 a47 : Value) (a48 : Nat) (a49 : Nat → Int32) : va_W := [(a0, .inl (cy 1, 3, .inl a1)), (a2, .inl (cy 1, 900, .inl a3)), (a4, .inl (cy 1, 11, .inl a5)), (a6, .inl (cy 1, 10, .inl a7)), (a8, .inl (cy 1, 1024, .inl a9)), (a10, .inr (12, [.int a11, .ref a12, a13, a14, a15, .int a16, .int a17, .int a18, .int a19, .int a20, .int a21, .int a22, .int a23, .int a24, .int a25, .int a26, .ref a27, .ref a28, .ref a29, .ref a30, a31, .int a32, .int a33, .ref a34, a35, a36, .int a37, .int a38, a39, a40, a41, a42, a43, .int a44, a45, a46, a47])), (a48, .inl (cy 1, 3918, .inl a49))]
def wk_eec75f9e5 (cy : Nat → ClassId) (a0 : Nat) (a1 : Nat → Int32) (a2 : Nat) (a3 : Nat → Int32) : va_W := [(a0, .inl (cy 1, 10, .inl a1)), (a2, .inl (cy 1, 1024, .inl a3))]
def wk_d6dc2c191 (cy : Nat → ClassId) (a0 : Nat) (a1 : Int32) (a2 : Nat) (a3 a4 a5 : Value) (a6 a7 a8 a9 a10 a11 a12 a13 a14 a15 a16 : Int32) (a17 a18 : Nat) (a19 a20 a21 : Value) (a22 a23 : Int32) (a24 : Nat) (a25 a26 : Value) (a27 a28 : Int32) (a29 a30 a31 a32 a33 : Value) (a34 : Int32) (a35 a36 a37 : Value) (a38 : Nat) (a39 : Nat → Int32) (a40 : Nat) (a41 : Nat → Int32) (a42 : Nat) (a43 : Nat → Int32) (a44 : Nat) (a45 : Nat → Int32) : va_W := [(a0, .inr (12, [.int a1, .ref a2, a3, a4, a5, .int a6, .int a7, .int a8, .int a9, .int a10, .int a11, .int a12, .int a13, .int a14, .int a15, .int a16, .ref a17, .ref a18, a19, a20, a21, .int a22, .int a23, .ref a24, a25, a26, .int a27, .int a28, a29, a30, a31, a32, a33, .int a34, a35, a36, a37])), (a38, .inl (cy 1, 3918, .inl a39)), (a40, .inl (cy 1, 900, .inl a41)), (a42, .inl (cy 1, 11, .inl a43)), (a44, .inl (cy 1, 1024, .inl a45))]
def wk_dc198b67d (cy : Nat → ClassId) (a0 : Nat) (a1 : Nat → Int32) (a2 : Nat) (a3 : Int32) (a4 : Nat) (a5 a6 a7 : Value) (a8 a9 a10 a11 a12 a13 a14 a15 a16 a17 a18 : Int32) (a19 a20 : Nat) (a21 a22 a23 : Value) (a24 a25 : Int32) (a26 : Nat) (a27 a28 : Value) (a29 a30 : Int32) (a31 a32 a33 a34 a35 : Value) (a36 : Int32) (a37 a38 a39 : Value) (a40 : Nat) (a41 : Nat → Int32) (a42 : Nat) (a43 : Nat → Int32) (a44 : Nat) (a45 : Nat → Int32) : va_W := [(a0, .inl (cy 1, 1024, .inl a1)), (a2, .inr (12, [.int a3, .ref a4, a5, a6, a7, .int a8, .int a9, .int a10, .int a11, .int a12, .int a13, .int a14, .int a15, .int a16, .int a17, .int a18, .ref a19, .ref a20, a21, a22, a23, .int a24, .int a25, .ref a26, a27, a28, .int a29, .int a30, a31, a32, a33, a34, a35, .int a36, a37, a38, a39])), (a40, .inl (cy 1, 3918, .inl a41)), (a42, .inl (cy 1, 900, .inl a43)), (a44, .inl (cy 1, 11, .inl a45))]
def wk_41836cb4f (cy : Nat → ClassId) (a0 : Nat) (a1 : Nat → Int32) (a2 : Nat) (a3 : Int32) (a4 : Nat) (a5 a6 a7 : Value) (a8 a9 a10 a11 a12 a13 a14 a15 a16 a17 a18 : Int32) (a19 a20 : Nat) (a21 : Value) (a22 : Nat) (a23 : Value) (a24 a25 : Int32) (a26 : Nat) (a27 a28 : Value) (a29 a30 : Int32) (a31 a32 a33 a34 a35 : Value) (a36 : Int32) (a37 a38 a39 : Value) (a40 : Nat) (a41 : Nat → Int32) (a42 : Nat) (a43 : Nat → Int32) (a44 : Nat) (a45 : Nat → Int32) (a46 : Nat) (a47 : Nat → Int32) : va_W := [(a0, .inl (cy 1, 10, .inl a1)), (a2, .inr (12, [.int a3, .ref a4, a5, a6, a7, .int a8, .int a9, .int a10, .int a11, .int a12, .int a13, .int a14, .int a15, .int a16, .int a17, .int a18, .ref a19, .ref a20, a21, .ref a22, a23, .int a24, .int a25, .ref a26, a27, a28, .int a29, .int a30, a31, a32, a33, a34, a35, .int a36, a37, a38, a39])), (a40, .inl (cy 1, 3918, .inl a41)), (a42, .inl (cy 1, 900, .inl a43)), (a44, .inl (cy 1, 11, .inl a45)), (a46, .inl (cy 1, 1024, .inl a47))]
def wk_fa21f7301 (cy : Nat → ClassId) (a0 : Nat) (a1 : Int32) (a2 : Nat) (a3 a4 a5 : Value) (a6 a7 a8 a9 a10 a11 a12 a13 a14 a15 a16 : Int32) (a17 a18 : Nat) (a19 a20 a21 : Value) (a22 a23 : Int32) (a24 a25 a26 : Value) (a27 a28 : Int32) (a29 : Nat) (a30 a31 a32 a33 : Value) (a34 : Int32) (a35 a36 a37 : Value) (a38 : Nat) (a39 : Nat → Int32) (a40 : Nat) (a41 : Nat → Int32) (a42 : Nat) (a43 : Nat → Int32) (a44 : Nat) (a45 : Nat → Int32) : va_W := [(a0, .inr (12, [.int a1, .ref a2, a3, a4, a5, .int a6, .int a7, .int a8, .int a9, .int a10, .int a11, .int a12, .int a13, .int a14, .int a15, .int a16, .ref a17, .ref a18, a19, a20, a21, .int a22, .int a23, a24, a25, a26, .int a27, .int a28, .ref a29, a30, a31, a32, a33, .int a34, a35, a36, a37])), (a38, .inl (cy 1, 3918, .inl a39)), (a40, .inl (cy 1, 900, .inl a41)), (a42, .inl (cy 1, 11, .inl a43)), (a44, .inl (cy 1, 1000, .inl a45))]
def wk_8024bc26d (cy : Nat → ClassId) (a0 : Nat) (a1 : Nat → Int32) (a2 : Nat) (a3 : Nat → Int32) (a4 : Nat) (a5 : Nat → Int32) : va_W := [(a0, .inl (cy 1, 900, .inl a1)), (a2, .inl (cy 1, 11, .inl a3)), (a4, .inl (cy 1, 1000, .inl a5))]
def wk_46a08b732 (cy : Nat → ClassId) (a0 : Nat) (a1 : Nat → Int32) (a2 : Nat) (a3 : Nat → Int32) (a4 : Nat) (a5 : Nat → Int32) (a6 : Nat) (a7 : Int32) (a8 : Nat) (a9 a10 a11 : Value) (a12 a13 a14 a15 a16 a17 a18 a19 a20 a21 a22 : Int32) (a23 a24 : Nat) (a25 a26 a27 : Value) (a28 a29 : Int32) (a30 a31 a32 : Value) (a33 a34 : Int32) (a35 : Nat) (a36 a37 a38 a39 : Value) (a40 : Int32) (a41 a42 a43 : Value) (a44 : Nat) (a45 : Nat → Int32) : va_W := [(a0, .inl (cy 1, 900, .inl a1)), (a2, .inl (cy 1, 11, .inl a3)), (a4, .inl (cy 1, 1000, .inl a5)), (a6, .inr (12, [.int a7, .ref a8, a9, a10, a11, .int a12, .int a13, .int a14, .int a15, .int a16, .int a17, .int a18, .int a19, .int a20, .int a21, .int a22, .ref a23, .ref a24, a25, a26, a27, .int a28, .int a29, a30, a31, a32, .int a33, .int a34, .ref a35, a36, a37, a38, a39, .int a40, a41, a42, a43])), (a44, .inl (cy 1, 3918, .inl a45))]
def wk_94071089f (cy : Nat → ClassId) (a0 : Nat) (a1 : Nat → Int32) (a2 : Nat) (a3 : Int32) (a4 : Nat) (a5 a6 a7 : Value) (a8 a9 a10 a11 a12 a13 a14 a15 a16 a17 a18 : Int32) (a19 a20 : Nat) (a21 a22 a23 : Value) (a24 a25 : Int32) (a26 a27 a28 : Value) (a29 a30 : Int32) (a31 : Nat) (a32 a33 a34 a35 : Value) (a36 : Int32) (a37 a38 a39 : Value) (a40 : Nat) (a41 : Nat → Int32) (a42 : Nat) (a43 : Nat → Int32) (a44 : Nat) (a45 : Nat → Int32) : va_W := [(a0, .inl (cy 1, 1000, .inl a1)), (a2, .inr (12, [.int a3, .ref a4, a5, a6, a7, .int a8, .int a9, .int a10, .int a11, .int a12, .int a13, .int a14, .int a15, .int a16, .int a17, .int a18, .ref a19, .ref a20, a21, a22, a23, .int a24, .int a25, a26, a27, a28, .int a29, .int a30, .ref a31, a32, a33, a34, a35, .int a36, a37, a38, a39])), (a40, .inl (cy 1, 3918, .inl a41)), (a42, .inl (cy 1, 900, .inl a43)), (a44, .inl (cy 1, 11, .inl a45))]
theorem wm_7_164 : Cond.methodLink RX12 384 yX12_areTwo ∈ WG := wg_t7 (List.mem_of_getElem? (i := 164) rfl) rfl
theorem wm_7_167 : Cond.code yX12_areTwo cX12_areTwo 3 (some .boolean) ∈ WG := wg_t7 (List.mem_of_getElem? (i := 167) rfl) rfl
theorem wm_7_166 : Cond.instanceMethod yX12_areTwo ∈ WG := wg_t7 (List.mem_of_getElem? (i := 166) rfl) rfl
theorem wp_7_8 : Cond.selects RX12 yX12_areTwo yX12_areTwo ∈ WG := wg_p (q := (yX12_areTwo, 37)) (wg_p7 (List.mem_of_getElem? (i := 8) rfl)) rfl
theorem wm_5_202 : Cond.fieldLink RX12 66 "OppositeHouseModel" "isMet" "[Z" ∈ WG := wg_t5 (List.mem_of_getElem? (i := 202) rfl) rfl
theorem wm_7_172 : Cond.methodLink RX12 375 yX12_viewsOf ∈ WG := wg_t7 (List.mem_of_getElem? (i := 172) rfl) rfl
theorem wm_7_175 : Cond.code yX12_viewsOf cX12_viewsOf 2 (some .int) ∈ WG := wg_t7 (List.mem_of_getElem? (i := 175) rfl) rfl
theorem wm_7_174 : Cond.instanceMethod yX12_viewsOf ∈ WG := wg_t7 (List.mem_of_getElem? (i := 174) rfl) rfl
theorem wp_7_10 : Cond.selects RX12 yX12_viewsOf yX12_viewsOf ∈ WG := wg_p (q := (yX12_viewsOf, 37)) (wg_p7 (List.mem_of_getElem? (i := 10) rfl)) rfl
theorem wm_5_198 : Cond.fieldLink RX12 54 "OppositeHouseModel" "met" "[I" ∈ WG := wg_t5 (List.mem_of_getElem? (i := 198) rfl) rfl
theorem wm_5_200 : Cond.fieldLink RX12 60 "OppositeHouseModel" "metFrom" "[I" ∈ WG := wg_t5 (List.mem_of_getElem? (i := 200) rfl) rfl
theorem wm_7_176 : Cond.methodLink RX12 378 yX12_puts ∈ WG := wg_t7 (List.mem_of_getElem? (i := 176) rfl) rfl
theorem wm_7_179 : Cond.code yX12_puts cX12_puts 3 none ∈ WG := wg_t7 (List.mem_of_getElem? (i := 179) rfl) rfl
theorem wm_7_178 : Cond.instanceMethod yX12_puts ∈ WG := wg_t7 (List.mem_of_getElem? (i := 178) rfl) rfl
theorem wp_7_11 : Cond.selects RX12 yX12_puts yX12_puts ∈ WG := wg_p (q := (yX12_puts, 37)) (wg_p7 (List.mem_of_getElem? (i := 11) rfl)) rfl
theorem wm_5_199 : Cond.fieldLink RX12 57 "OppositeHouseModel" "metWith" "[I" ∈ WG := wg_t5 (List.mem_of_getElem? (i := 199) rfl) rfl
theorem wm_5_203 : Cond.fieldLink RX12 381 "OppositeHouseModel" "turns" "I" ∈ WG := wg_t5 (List.mem_of_getElem? (i := 203) rfl) rfl
theorem wm_5_201 : Cond.fieldLink RX12 63 "OppositeHouseModel" "turning" "[I" ∈ WG := wg_t5 (List.mem_of_getElem? (i := 201) rfl) rfl
theorem wm_7_168 : Cond.methodLink RX12 387 yX12_laysTurning ∈ WG := wg_t7 (List.mem_of_getElem? (i := 168) rfl) rfl
theorem wm_7_171 : Cond.code yX12_laysTurning cX12_laysTurning 10 (some .int) ∈ WG := wg_t7 (List.mem_of_getElem? (i := 171) rfl) rfl
theorem wm_7_170 : Cond.instanceMethod yX12_laysTurning ∈ WG := wg_t7 (List.mem_of_getElem? (i := 170) rfl) rfl
theorem wp_7_9 : Cond.selects RX12 yX12_laysTurning yX12_laysTurning ∈ WG := wg_p (q := (yX12_laysTurning, 37)) (wg_p7 (List.mem_of_getElem? (i := 9) rfl)) rfl
theorem wm_7_192 : Cond.methodLink RX12 393 yX12_isBill ∈ WG := wg_t7 (List.mem_of_getElem? (i := 192) rfl) rfl
theorem wm_7_194 : Cond.code yX12_isBill cX12_isBill 1 (some .boolean) ∈ WG := wg_t7 (List.mem_of_getElem? (i := 194) rfl) rfl
theorem wm_7_193 : Cond.static yX12_isBill ∈ WG := wg_t7 (List.mem_of_getElem? (i := 193) rfl) rfl
theorem wm_7_199 : Cond.methodLink RX12 390 yX12_saysAye ∈ WG := wg_t7 (List.mem_of_getElem? (i := 199) rfl) rfl
theorem wm_7_202 : Cond.code yX12_saysAye cX12_saysAye 3 (some .boolean) ∈ WG := wg_t7 (List.mem_of_getElem? (i := 202) rfl) rfl
theorem wm_7_201 : Cond.instanceMethod yX12_saysAye ∈ WG := wg_t7 (List.mem_of_getElem? (i := 201) rfl) rfl
theorem wp_7_13 : Cond.selects RX12 yX12_saysAye yX12_saysAye ∈ WG := wg_p (q := (yX12_saysAye, 37)) (wg_p7 (List.mem_of_getElem? (i := 13) rfl)) rfl
theorem wm_7_195 : Cond.methodLink RX12 396 yX12_ayesOf ∈ WG := wg_t7 (List.mem_of_getElem? (i := 195) rfl) rfl
theorem wm_7_198 : Cond.code yX12_ayesOf cX12_ayesOf 5 (some .int) ∈ WG := wg_t7 (List.mem_of_getElem? (i := 198) rfl) rfl
theorem wm_7_197 : Cond.instanceMethod yX12_ayesOf ∈ WG := wg_t7 (List.mem_of_getElem? (i := 197) rfl) rfl
theorem wp_7_12 : Cond.selects RX12 yX12_ayesOf yX12_ayesOf ∈ WG := wg_p (q := (yX12_ayesOf, 37)) (wg_p7 (List.mem_of_getElem? (i := 12) rfl)) rfl
theorem wm_7_207 : Cond.methodLink RX12 399 yX12_passedBy ∈ WG := wg_t7 (List.mem_of_getElem? (i := 207) rfl) rfl
theorem wm_7_210 : Cond.code yX12_passedBy cX12_passedBy 7 (some .int) ∈ WG := wg_t7 (List.mem_of_getElem? (i := 210) rfl) rfl
theorem wm_7_209 : Cond.instanceMethod yX12_passedBy ∈ WG := wg_t7 (List.mem_of_getElem? (i := 209) rfl) rfl
theorem wp_7_14 : Cond.selects RX12 yX12_passedBy yX12_passedBy ∈ WG := wg_p (q := (yX12_passedBy, 37)) (wg_p7 (List.mem_of_getElem? (i := 14) rfl)) rfl
theorem wm_7_223 : Cond.methodLink RX12 408 yX12_noHidden ∈ WG := wg_t7 (List.mem_of_getElem? (i := 223) rfl) rfl
theorem wm_7_226 : Cond.code yX12_noHidden cX12_noHidden 3 (some .int) ∈ WG := wg_t7 (List.mem_of_getElem? (i := 226) rfl) rfl
theorem wm_7_225 : Cond.instanceMethod yX12_noHidden ∈ WG := wg_t7 (List.mem_of_getElem? (i := 225) rfl) rfl
theorem wp_7_15 : Cond.selects RX12 yX12_noHidden yX12_noHidden ∈ WG := wg_p (q := (yX12_noHidden, 37)) (wg_p7 (List.mem_of_getElem? (i := 15) rfl)) rfl
theorem wm_7_235 : Cond.methodLink RX12 402 yX12_isTold ∈ WG := wg_t7 (List.mem_of_getElem? (i := 235) rfl) rfl
theorem wm_7_238 : Cond.code yX12_isTold cX12_isTold 2 (some .boolean) ∈ WG := wg_t7 (List.mem_of_getElem? (i := 238) rfl) rfl
theorem wm_7_237 : Cond.instanceMethod yX12_isTold ∈ WG := wg_t7 (List.mem_of_getElem? (i := 237) rfl) rfl
theorem wp_8_2 : Cond.selects RX12 yX12_isTold yX12_isTold ∈ WG := wg_p (q := (yX12_isTold, 37)) (wg_p8 (List.mem_of_getElem? (i := 2) rfl)) rfl
theorem wm_7_231 : Cond.methodLink RX12 405 yX12_fits ∈ WG := wg_t7 (List.mem_of_getElem? (i := 231) rfl) rfl
theorem wm_7_234 : Cond.code yX12_fits cX12_fits 6 (some .boolean) ∈ WG := wg_t7 (List.mem_of_getElem? (i := 234) rfl) rfl
theorem wm_7_233 : Cond.instanceMethod yX12_fits ∈ WG := wg_t7 (List.mem_of_getElem? (i := 233) rfl) rfl
theorem wp_8_1 : Cond.selects RX12 yX12_fits yX12_fits ∈ WG := wg_p (q := (yX12_fits, 37)) (wg_p8 (List.mem_of_getElem? (i := 1) rfl)) rfl
theorem wm_7_227 : Cond.methodLink RX12 411 yX12_laysHidden ∈ WG := wg_t7 (List.mem_of_getElem? (i := 227) rfl) rfl
theorem wm_7_230 : Cond.code yX12_laysHidden cX12_laysHidden 6 (some .int) ∈ WG := wg_t7 (List.mem_of_getElem? (i := 230) rfl) rfl
theorem wm_7_229 : Cond.instanceMethod yX12_laysHidden ∈ WG := wg_t7 (List.mem_of_getElem? (i := 229) rfl) rfl
theorem wp_8_0 : Cond.selects RX12 yX12_laysHidden yX12_laysHidden ∈ WG := wg_p (q := (yX12_laysHidden, 37)) (wg_p8 (List.mem_of_getElem? (i := 0) rfl)) rfl
theorem hd_X12_areTwo : yX12_areTwo.cls ≠ "java/lang/invoke/MethodHandle" ∧ yX12_areTwo.cls ≠ "java/lang/invoke/VarHandle" ∧ (parseMethodDescriptor yX12_areTwo.desc).map (fun d => d.parameters.length) = some 2 := by decide +kernel
theorem hd_X12_viewsOf : yX12_viewsOf.cls ≠ "java/lang/invoke/MethodHandle" ∧ yX12_viewsOf.cls ≠ "java/lang/invoke/VarHandle" ∧ (parseMethodDescriptor yX12_viewsOf.desc).map (fun d => d.parameters.length) = some 1 := by decide +kernel
theorem hd_X12_puts : yX12_puts.cls ≠ "java/lang/invoke/MethodHandle" ∧ yX12_puts.cls ≠ "java/lang/invoke/VarHandle" ∧ (parseMethodDescriptor yX12_puts.desc).map (fun d => d.parameters.length) = some 2 := by decide +kernel
theorem hd_X12_laysTurning : yX12_laysTurning.cls ≠ "java/lang/invoke/MethodHandle" ∧ yX12_laysTurning.cls ≠ "java/lang/invoke/VarHandle" ∧ (parseMethodDescriptor yX12_laysTurning.desc).map (fun d => d.parameters.length) = some 2 := by decide +kernel
theorem hd_X12_isBill : yX12_isBill.cls ≠ "java/lang/invoke/MethodHandle" ∧ yX12_isBill.cls ≠ "java/lang/invoke/VarHandle" ∧ (parseMethodDescriptor yX12_isBill.desc).map (fun d => d.parameters.length) = some 1 := by decide +kernel
theorem hd_X12_saysAye : yX12_saysAye.cls ≠ "java/lang/invoke/MethodHandle" ∧ yX12_saysAye.cls ≠ "java/lang/invoke/VarHandle" ∧ (parseMethodDescriptor yX12_saysAye.desc).map (fun d => d.parameters.length) = some 2 := by decide +kernel
theorem hd_X12_ayesOf : yX12_ayesOf.cls ≠ "java/lang/invoke/MethodHandle" ∧ yX12_ayesOf.cls ≠ "java/lang/invoke/VarHandle" ∧ (parseMethodDescriptor yX12_ayesOf.desc).map (fun d => d.parameters.length) = some 2 := by decide +kernel
theorem hd_X12_passedBy : yX12_passedBy.cls ≠ "java/lang/invoke/MethodHandle" ∧ yX12_passedBy.cls ≠ "java/lang/invoke/VarHandle" ∧ (parseMethodDescriptor yX12_passedBy.desc).map (fun d => d.parameters.length) = some 1 := by decide +kernel
theorem hd_X12_noHidden : yX12_noHidden.cls ≠ "java/lang/invoke/MethodHandle" ∧ yX12_noHidden.cls ≠ "java/lang/invoke/VarHandle" ∧ (parseMethodDescriptor yX12_noHidden.desc).map (fun d => d.parameters.length) = some 2 := by decide +kernel
theorem hd_X12_isTold : yX12_isTold.cls ≠ "java/lang/invoke/MethodHandle" ∧ yX12_isTold.cls ≠ "java/lang/invoke/VarHandle" ∧ (parseMethodDescriptor yX12_isTold.desc).map (fun d => d.parameters.length) = some 1 := by decide +kernel
theorem hd_X12_fits : yX12_fits.cls ≠ "java/lang/invoke/MethodHandle" ∧ yX12_fits.cls ≠ "java/lang/invoke/VarHandle" ∧ (parseMethodDescriptor yX12_fits.desc).map (fun d => d.parameters.length) = some 3 := by decide +kernel
theorem hd_X12_laysHidden : yX12_laysHidden.cls ≠ "java/lang/invoke/MethodHandle" ∧ yX12_laysHidden.cls ≠ "java/lang/invoke/VarHandle" ∧ (parseMethodDescriptor yX12_laysHidden.desc).map (fun d => d.parameters.length) = some 2 := by decide +kernel
theorem dX12_ayes_0 : decode cX12_ayes 0 = .ok (.aload_n 0, 1) := by decide +kernel
theorem dX12_ayes_1 : decode cX12_ayes 1 = .ok (.iconst 0, 1) := by decide +kernel
theorem dX12_ayes_2 : decode cX12_ayes 2 = .ok (.putfield 1, 3) := by decide +kernel
theorem dX12_ayes_5 : decode cX12_ayes 5 = .ok (.iload_n 1, 1) := by decide +kernel
theorem dX12_ayes_6 : decode cX12_ayes 6 = .ok (.invokestatic 393, 3) := by decide +kernel
theorem dX12_ayes_9 : decode cX12_ayes 9 = .ok (.ifCond .eq 15, 3) := by decide +kernel
theorem dX12_ayes_12 : decode cX12_ayes 12 = .ok (.aload_n 0, 1) := by decide +kernel
theorem dX12_ayes_13 : decode cX12_ayes 13 = .ok (.aload_n 0, 1) := by decide +kernel
theorem dX12_ayes_14 : decode cX12_ayes 14 = .ok (.invokevirtual 255, 3) := by decide +kernel
theorem dX12_ayes_17 : decode cX12_ayes 17 = .ok (.iload_n 1, 1) := by decide +kernel
theorem dX12_ayes_18 : decode cX12_ayes 18 = .ok (.invokevirtual 396, 3) := by decide +kernel
theorem dX12_ayes_21 : decode cX12_ayes 21 = .ok (.goto 5, 3) := by decide +kernel
theorem dX12_ayes_24 : decode cX12_ayes 24 = .ok (.bipush (-3), 2) := by decide +kernel
theorem dX12_ayes_26 : decode cX12_ayes 26 = .ok (.ireturn, 1) := by decide +kernel
theorem dX12_ayesOf_0 : decode cX12_ayesOf 0 = .ok (.iconst 0, 1) := by decide +kernel
theorem dX12_ayesOf_1 : decode cX12_ayesOf 1 = .ok (.istore_n 3, 1) := by decide +kernel
theorem dX12_ayesOf_2 : decode cX12_ayesOf 2 = .ok (.iconst 0, 1) := by decide +kernel
theorem dX12_ayesOf_3 : decode cX12_ayesOf 3 = .ok (.istore 4, 2) := by decide +kernel
theorem dX12_ayesOf_5 : decode cX12_ayesOf 5 = .ok (.iload 4, 2) := by decide +kernel
theorem dX12_ayesOf_7 : decode cX12_ayesOf 7 = .ok (.aload_n 0, 1) := by decide +kernel
theorem dX12_ayesOf_8 : decode cX12_ayesOf 8 = .ok (.getfield 13, 3) := by decide +kernel
theorem dX12_ayesOf_11 : decode cX12_ayesOf 11 = .ok (.iconst 2, 1) := by decide +kernel
theorem dX12_ayesOf_12 : decode cX12_ayesOf 12 = .ok (.iaload, 1) := by decide +kernel
theorem dX12_ayesOf_13 : decode cX12_ayesOf 13 = .ok (.if_icmp .ge 40, 3) := by decide +kernel
theorem dX12_ayesOf_16 : decode cX12_ayesOf 16 = .ok (.iload_n 3, 1) := by decide +kernel
theorem dX12_ayesOf_17 : decode cX12_ayesOf 17 = .ok (.iload_n 1, 1) := by decide +kernel
theorem dX12_ayesOf_18 : decode cX12_ayesOf 18 = .ok (.i2l, 1) := by decide +kernel
theorem dX12_ayesOf_19 : decode cX12_ayesOf 19 = .ok (.iload 4, 2) := by decide +kernel
theorem dX12_ayesOf_21 : decode cX12_ayesOf 21 = .ok (.invokestatic 251, 3) := by decide +kernel
theorem dX12_ayesOf_24 : decode cX12_ayesOf 24 = .ok (.ifCond .eq 20, 3) := by decide +kernel
theorem dX12_ayesOf_27 : decode cX12_ayesOf 27 = .ok (.aload_n 0, 1) := by decide +kernel
theorem dX12_ayesOf_28 : decode cX12_ayesOf 28 = .ok (.iload 4, 2) := by decide +kernel
theorem dX12_ayesOf_30 : decode cX12_ayesOf 30 = .ok (.iload_n 2, 1) := by decide +kernel
theorem dX12_ayesOf_31 : decode cX12_ayesOf 31 = .ok (.invokevirtual 390, 3) := by decide +kernel
theorem dX12_ayesOf_34 : decode cX12_ayesOf 34 = .ok (.ifCond .eq 10, 3) := by decide +kernel
theorem dX12_ayesOf_37 : decode cX12_ayesOf 37 = .ok (.iconst 1, 1) := by decide +kernel
theorem dX12_ayesOf_38 : decode cX12_ayesOf 38 = .ok (.iload 4, 2) := by decide +kernel
theorem dX12_ayesOf_40 : decode cX12_ayesOf 40 = .ok (.ishl, 1) := by decide +kernel
theorem dX12_ayesOf_41 : decode cX12_ayesOf 41 = .ok (.goto 4, 3) := by decide +kernel
theorem dX12_ayesOf_44 : decode cX12_ayesOf 44 = .ok (.iconst 0, 1) := by decide +kernel
theorem dX12_ayesOf_45 : decode cX12_ayesOf 45 = .ok (.ior, 1) := by decide +kernel
theorem dX12_ayesOf_46 : decode cX12_ayesOf 46 = .ok (.istore_n 3, 1) := by decide +kernel
theorem dX12_ayesOf_47 : decode cX12_ayesOf 47 = .ok (.iinc 4 1, 3) := by decide +kernel
theorem dX12_ayesOf_50 : decode cX12_ayesOf 50 = .ok (.goto (-45), 3) := by decide +kernel
theorem dX12_ayesOf_53 : decode cX12_ayesOf 53 = .ok (.iload_n 3, 1) := by decide +kernel
theorem dX12_ayesOf_54 : decode cX12_ayesOf 54 = .ok (.ireturn, 1) := by decide +kernel
theorem dX12_easiest_0 : decode cX12_easiest 0 = .ok (.aload_n 0, 1) := by decide +kernel
theorem dX12_easiest_1 : decode cX12_easiest 1 = .ok (.iconst 0, 1) := by decide +kernel
theorem dX12_easiest_2 : decode cX12_easiest 2 = .ok (.putfield 1, 3) := by decide +kernel
theorem dX12_easiest_5 : decode cX12_easiest 5 = .ok (.aload_n 0, 1) := by decide +kernel
theorem dX12_easiest_6 : decode cX12_easiest 6 = .ok (.invokevirtual 346, 3) := by decide +kernel
theorem dX12_easiest_9 : decode cX12_easiest 9 = .ok (.iconst (-1), 1) := by decide +kernel
theorem dX12_easiest_10 : decode cX12_easiest 10 = .ok (.istore_n 1, 1) := by decide +kernel
theorem dX12_easiest_11 : decode cX12_easiest 11 = .ok (.bipush 11, 2) := by decide +kernel
theorem dX12_easiest_13 : decode cX12_easiest 13 = .ok (.istore_n 2, 1) := by decide +kernel
theorem dX12_easiest_14 : decode cX12_easiest 14 = .ok (.iconst 0, 1) := by decide +kernel
theorem dX12_easiest_15 : decode cX12_easiest 15 = .ok (.istore_n 3, 1) := by decide +kernel
theorem dX12_easiest_16 : decode cX12_easiest 16 = .ok (.iload_n 3, 1) := by decide +kernel
theorem dX12_easiest_17 : decode cX12_easiest 17 = .ok (.bipush 10, 2) := by decide +kernel
theorem dX12_easiest_19 : decode cX12_easiest 19 = .ok (.if_icmp .ge 42, 3) := by decide +kernel
theorem dX12_easiest_22 : decode cX12_easiest 22 = .ok (.aload_n 0, 1) := by decide +kernel
theorem dX12_easiest_23 : decode cX12_easiest 23 = .ok (.iload_n 3, 1) := by decide +kernel
theorem dX12_easiest_24 : decode cX12_easiest 24 = .ok (.invokevirtual 399, 3) := by decide +kernel
theorem dX12_easiest_27 : decode cX12_easiest 27 = .ok (.istore 4, 2) := by decide +kernel
theorem dX12_easiest_29 : decode cX12_easiest 29 = .ok (.iload 4, 2) := by decide +kernel
theorem dX12_easiest_31 : decode cX12_easiest 31 = .ok (.iconst (-1), 1) := by decide +kernel
theorem dX12_easiest_32 : decode cX12_easiest 32 = .ok (.if_icmp .eq 23, 3) := by decide +kernel
theorem dX12_easiest_35 : decode cX12_easiest 35 = .ok (.iload 4, 2) := by decide +kernel
theorem dX12_easiest_37 : decode cX12_easiest 37 = .ok (.invokestatic 281, 3) := by decide +kernel
theorem dX12_easiest_40 : decode cX12_easiest 40 = .ok (.iload_n 2, 1) := by decide +kernel
theorem dX12_easiest_41 : decode cX12_easiest 41 = .ok (.if_icmp .lt 6, 3) := by decide +kernel
theorem dX12_easiest_44 : decode cX12_easiest 44 = .ok (.goto 11, 3) := by decide +kernel
theorem dX12_easiest_47 : decode cX12_easiest 47 = .ok (.iload_n 3, 1) := by decide +kernel
theorem dX12_easiest_48 : decode cX12_easiest 48 = .ok (.istore_n 1, 1) := by decide +kernel
theorem dX12_easiest_49 : decode cX12_easiest 49 = .ok (.iload 4, 2) := by decide +kernel
theorem dX12_easiest_51 : decode cX12_easiest 51 = .ok (.invokestatic 281, 3) := by decide +kernel
theorem dX12_easiest_54 : decode cX12_easiest 54 = .ok (.istore_n 2, 1) := by decide +kernel
theorem dX12_easiest_55 : decode cX12_easiest 55 = .ok (.iinc 3 1, 3) := by decide +kernel
theorem dX12_easiest_58 : decode cX12_easiest 58 = .ok (.goto (-42), 3) := by decide +kernel
theorem dX12_easiest_61 : decode cX12_easiest 61 = .ok (.iload_n 1, 1) := by decide +kernel
theorem dX12_easiest_62 : decode cX12_easiest 62 = .ok (.ireturn, 1) := by decide +kernel
theorem dX12_fits_0 : decode cX12_fits 0 = .ok (.aload_n 0, 1) := by decide +kernel
theorem dX12_fits_1 : decode cX12_fits 1 = .ok (.iload_n 3, 1) := by decide +kernel
theorem dX12_fits_2 : decode cX12_fits 2 = .ok (.invokevirtual 402, 3) := by decide +kernel
theorem dX12_fits_5 : decode cX12_fits 5 = .ok (.ifCond .ne 5, 3) := by decide +kernel
theorem dX12_fits_8 : decode cX12_fits 8 = .ok (.iconst 0, 1) := by decide +kernel
theorem dX12_fits_9 : decode cX12_fits 9 = .ok (.ireturn, 1) := by decide +kernel
theorem dX12_fits_10 : decode cX12_fits 10 = .ok (.aload_n 0, 1) := by decide +kernel
theorem dX12_fits_11 : decode cX12_fits 11 = .ok (.iload_n 1, 1) := by decide +kernel
theorem dX12_fits_12 : decode cX12_fits 12 = .ok (.iload_n 3, 1) := by decide +kernel
theorem dX12_fits_13 : decode cX12_fits 13 = .ok (.invokevirtual 378, 3) := by decide +kernel
theorem dX12_fits_16 : decode cX12_fits 16 = .ok (.aload_n 0, 1) := by decide +kernel
theorem dX12_fits_17 : decode cX12_fits 17 = .ok (.invokevirtual 255, 3) := by decide +kernel
theorem dX12_fits_20 : decode cX12_fits 20 = .ok (.iconst 1, 1) := by decide +kernel
theorem dX12_fits_21 : decode cX12_fits 21 = .ok (.iload_n 1, 1) := by decide +kernel
theorem dX12_fits_22 : decode cX12_fits 22 = .ok (.ishl, 1) := by decide +kernel
theorem dX12_fits_23 : decode cX12_fits 23 = .ok (.iconst (-1), 1) := by decide +kernel
theorem dX12_fits_24 : decode cX12_fits 24 = .ok (.ixor, 1) := by decide +kernel
theorem dX12_fits_25 : decode cX12_fits 25 = .ok (.iand, 1) := by decide +kernel
theorem dX12_fits_26 : decode cX12_fits 26 = .ok (.istore 4, 2) := by decide +kernel
theorem dX12_fits_28 : decode cX12_fits 28 = .ok (.iconst 0, 1) := by decide +kernel
theorem dX12_fits_29 : decode cX12_fits 29 = .ok (.istore 5, 2) := by decide +kernel
theorem dX12_fits_31 : decode cX12_fits 31 = .ok (.iload 5, 2) := by decide +kernel
theorem dX12_fits_33 : decode cX12_fits 33 = .ok (.aload_n 0, 1) := by decide +kernel
theorem dX12_fits_34 : decode cX12_fits 34 = .ok (.getfield 13, 3) := by decide +kernel
theorem dX12_fits_37 : decode cX12_fits 37 = .ok (.iconst 2, 1) := by decide +kernel
theorem dX12_fits_38 : decode cX12_fits 38 = .ok (.iaload, 1) := by decide +kernel
theorem dX12_fits_39 : decode cX12_fits 39 = .ok (.if_icmp .ge 46, 3) := by decide +kernel
theorem dX12_fits_42 : decode cX12_fits 42 = .ok (.iload 4, 2) := by decide +kernel
theorem dX12_fits_44 : decode cX12_fits 44 = .ok (.i2l, 1) := by decide +kernel
theorem dX12_fits_45 : decode cX12_fits 45 = .ok (.iload 5, 2) := by decide +kernel
theorem dX12_fits_47 : decode cX12_fits 47 = .ok (.invokestatic 251, 3) := by decide +kernel
theorem dX12_fits_50 : decode cX12_fits 50 = .ok (.ifCond .eq 29, 3) := by decide +kernel
theorem dX12_fits_53 : decode cX12_fits 53 = .ok (.aload_n 0, 1) := by decide +kernel
theorem dX12_fits_54 : decode cX12_fits 54 = .ok (.iload_n 1, 1) := by decide +kernel
theorem dX12_fits_55 : decode cX12_fits 55 = .ok (.iload 5, 2) := by decide +kernel
theorem dX12_fits_57 : decode cX12_fits 57 = .ok (.aload_n 0, 1) := by decide +kernel
theorem dX12_fits_58 : decode cX12_fits 58 = .ok (.getfield 13, 3) := by decide +kernel
theorem dX12_fits_61 : decode cX12_fits 61 = .ok (.bipush 52, 2) := by decide +kernel
theorem dX12_fits_63 : decode cX12_fits 63 = .ok (.iaload, 1) := by decide +kernel
theorem dX12_fits_64 : decode cX12_fits 64 = .ok (.invokevirtual 241, 3) := by decide +kernel
theorem dX12_fits_67 : decode cX12_fits 67 = .ok (.iload_n 2, 1) := by decide +kernel
theorem dX12_fits_68 : decode cX12_fits 68 = .ok (.i2l, 1) := by decide +kernel
theorem dX12_fits_69 : decode cX12_fits 69 = .ok (.iload 5, 2) := by decide +kernel
theorem dX12_fits_71 : decode cX12_fits 71 = .ok (.invokestatic 251, 3) := by decide +kernel
theorem dX12_fits_74 : decode cX12_fits 74 = .ok (.if_icmp .eq 5, 3) := by decide +kernel
theorem dX12_fits_77 : decode cX12_fits 77 = .ok (.iconst 0, 1) := by decide +kernel
theorem dX12_fits_78 : decode cX12_fits 78 = .ok (.ireturn, 1) := by decide +kernel
theorem dX12_fits_79 : decode cX12_fits 79 = .ok (.iinc 5 1, 3) := by decide +kernel
theorem dX12_fits_82 : decode cX12_fits 82 = .ok (.goto (-51), 3) := by decide +kernel
theorem dX12_fits_85 : decode cX12_fits 85 = .ok (.iconst 1, 1) := by decide +kernel
theorem dX12_fits_86 : decode cX12_fits 86 = .ok (.ireturn, 1) := by decide +kernel
theorem dX12_hidden_0 : decode cX12_hidden 0 = .ok (.aload_n 0, 1) := by decide +kernel
theorem dX12_hidden_1 : decode cX12_hidden 1 = .ok (.iconst 0, 1) := by decide +kernel
theorem dX12_hidden_2 : decode cX12_hidden 2 = .ok (.putfield 1, 3) := by decide +kernel
theorem dX12_hidden_5 : decode cX12_hidden 5 = .ok (.aload_n 0, 1) := by decide +kernel
theorem dX12_hidden_6 : decode cX12_hidden 6 = .ok (.iload_n 1, 1) := by decide +kernel
theorem dX12_hidden_7 : decode cX12_hidden 7 = .ok (.iload_n 2, 1) := by decide +kernel
theorem dX12_hidden_8 : decode cX12_hidden 8 = .ok (.invokevirtual 408, 3) := by decide +kernel
theorem dX12_hidden_11 : decode cX12_hidden 11 = .ok (.istore_n 3, 1) := by decide +kernel
theorem dX12_hidden_12 : decode cX12_hidden 12 = .ok (.iload_n 3, 1) := by decide +kernel
theorem dX12_hidden_13 : decode cX12_hidden 13 = .ok (.ifCond .eq 7, 3) := by decide +kernel
theorem dX12_hidden_16 : decode cX12_hidden 16 = .ok (.iload_n 3, 1) := by decide +kernel
theorem dX12_hidden_17 : decode cX12_hidden 17 = .ok (.goto 9, 3) := by decide +kernel
theorem dX12_hidden_20 : decode cX12_hidden 20 = .ok (.aload_n 0, 1) := by decide +kernel
theorem dX12_hidden_21 : decode cX12_hidden 21 = .ok (.iload_n 1, 1) := by decide +kernel
theorem dX12_hidden_22 : decode cX12_hidden 22 = .ok (.iload_n 2, 1) := by decide +kernel
theorem dX12_hidden_23 : decode cX12_hidden 23 = .ok (.invokevirtual 411, 3) := by decide +kernel
theorem dX12_hidden_26 : decode cX12_hidden 26 = .ok (.ireturn, 1) := by decide +kernel
theorem dX12_hiddenAt_0 : decode cX12_hiddenAt 0 = .ok (.aload_n 0, 1) := by decide +kernel
theorem dX12_hiddenAt_1 : decode cX12_hiddenAt 1 = .ok (.iconst 0, 1) := by decide +kernel
theorem dX12_hiddenAt_2 : decode cX12_hiddenAt 2 = .ok (.putfield 1, 3) := by decide +kernel
theorem dX12_hiddenAt_5 : decode cX12_hiddenAt 5 = .ok (.aload_n 0, 1) := by decide +kernel
theorem dX12_hiddenAt_6 : decode cX12_hiddenAt 6 = .ok (.iload_n 1, 1) := by decide +kernel
theorem dX12_hiddenAt_7 : decode cX12_hiddenAt 7 = .ok (.iload_n 2, 1) := by decide +kernel
theorem dX12_hiddenAt_8 : decode cX12_hiddenAt 8 = .ok (.invokevirtual 408, 3) := by decide +kernel
theorem dX12_hiddenAt_11 : decode cX12_hiddenAt 11 = .ok (.istore 4, 2) := by decide +kernel
theorem dX12_hiddenAt_13 : decode cX12_hiddenAt 13 = .ok (.iload 4, 2) := by decide +kernel
theorem dX12_hiddenAt_15 : decode cX12_hiddenAt 15 = .ok (.ifCond .eq 6, 3) := by decide +kernel
theorem dX12_hiddenAt_18 : decode cX12_hiddenAt 18 = .ok (.iload 4, 2) := by decide +kernel
theorem dX12_hiddenAt_20 : decode cX12_hiddenAt 20 = .ok (.ireturn, 1) := by decide +kernel
theorem dX12_hiddenAt_21 : decode cX12_hiddenAt 21 = .ok (.iload_n 3, 1) := by decide +kernel
theorem dX12_hiddenAt_22 : decode cX12_hiddenAt 22 = .ok (.ifCond .ge 6, 3) := by decide +kernel
theorem dX12_hiddenAt_25 : decode cX12_hiddenAt 25 = .ok (.bipush (-3), 2) := by decide +kernel
theorem dX12_hiddenAt_27 : decode cX12_hiddenAt 27 = .ok (.ireturn, 1) := by decide +kernel
theorem dX12_hiddenAt_28 : decode cX12_hiddenAt 28 = .ok (.iload_n 3, 1) := by decide +kernel
theorem dX12_hiddenAt_29 : decode cX12_hiddenAt 29 = .ok (.aload_n 0, 1) := by decide +kernel
theorem dX12_hiddenAt_30 : decode cX12_hiddenAt 30 = .ok (.iload_n 1, 1) := by decide +kernel
theorem dX12_hiddenAt_31 : decode cX12_hiddenAt 31 = .ok (.iload_n 2, 1) := by decide +kernel
theorem dX12_hiddenAt_32 : decode cX12_hiddenAt 32 = .ok (.invokevirtual 411, 3) := by decide +kernel
theorem dX12_hiddenAt_35 : decode cX12_hiddenAt 35 = .ok (.if_icmp .ge 12, 3) := by decide +kernel
theorem dX12_hiddenAt_38 : decode cX12_hiddenAt 38 = .ok (.aload_n 0, 1) := by decide +kernel
theorem dX12_hiddenAt_39 : decode cX12_hiddenAt 39 = .ok (.getfield 54, 3) := by decide +kernel
theorem dX12_hiddenAt_42 : decode cX12_hiddenAt 42 = .ok (.iload_n 3, 1) := by decide +kernel
theorem dX12_hiddenAt_43 : decode cX12_hiddenAt 43 = .ok (.iaload, 1) := by decide +kernel
theorem dX12_hiddenAt_44 : decode cX12_hiddenAt 44 = .ok (.goto 4, 3) := by decide +kernel
theorem dX12_hiddenAt_47 : decode cX12_hiddenAt 47 = .ok (.iconst (-1), 1) := by decide +kernel
theorem dX12_hiddenAt_48 : decode cX12_hiddenAt 48 = .ok (.ireturn, 1) := by decide +kernel
theorem dX12_isBill_0 : decode cX12_isBill 0 = .ok (.iload_n 0, 1) := by decide +kernel
theorem dX12_isBill_1 : decode cX12_isBill 1 = .ok (.i2l, 1) := by decide +kernel
theorem dX12_isBill_2 : decode cX12_isBill 2 = .ok (.lconst 0, 1) := by decide +kernel
theorem dX12_isBill_3 : decode cX12_isBill 3 = .ok (.ldc2_w 203, 3) := by decide +kernel
theorem dX12_isBill_6 : decode cX12_isBill 6 = .ok (.invokestatic 145, 3) := by decide +kernel
theorem dX12_isBill_9 : decode cX12_isBill 9 = .ok (.ireturn, 1) := by decide +kernel
theorem dX12_isTold_0 : decode cX12_isTold 0 = .ok (.aload_n 0, 1) := by decide +kernel
theorem dX12_isTold_1 : decode cX12_isTold 1 = .ok (.getfield 13, 3) := by decide +kernel
theorem dX12_isTold_4 : decode cX12_isTold 4 = .ok (.iconst 1, 1) := by decide +kernel
theorem dX12_isTold_5 : decode cX12_isTold 5 = .ok (.iaload, 1) := by decide +kernel
theorem dX12_isTold_6 : decode cX12_isTold 6 = .ok (.iconst 1, 1) := by decide +kernel
theorem dX12_isTold_7 : decode cX12_isTold 7 = .ok (.if_icmp .gt 13, 3) := by decide +kernel
theorem dX12_isTold_10 : decode cX12_isTold 10 = .ok (.iload_n 1, 1) := by decide +kernel
theorem dX12_isTold_11 : decode cX12_isTold 11 = .ok (.bipush 10, 2) := by decide +kernel
theorem dX12_isTold_13 : decode cX12_isTold 13 = .ok (.idiv, 1) := by decide +kernel
theorem dX12_isTold_14 : decode cX12_isTold 14 = .ok (.bipush 10, 2) := by decide +kernel
theorem dX12_isTold_16 : decode cX12_isTold 16 = .ok (.irem, 1) := by decide +kernel
theorem dX12_isTold_17 : decode cX12_isTold 17 = .ok (.ifCond .ne 24, 3) := by decide +kernel
theorem dX12_isTold_20 : decode cX12_isTold 20 = .ok (.aload_n 0, 1) := by decide +kernel
theorem dX12_isTold_21 : decode cX12_isTold 21 = .ok (.getfield 13, 3) := by decide +kernel
theorem dX12_isTold_24 : decode cX12_isTold 24 = .ok (.iconst 1, 1) := by decide +kernel
theorem dX12_isTold_25 : decode cX12_isTold 25 = .ok (.iaload, 1) := by decide +kernel
theorem dX12_isTold_26 : decode cX12_isTold 26 = .ok (.iconst 2, 1) := by decide +kernel
theorem dX12_isTold_27 : decode cX12_isTold 27 = .ok (.if_icmp .gt 10, 3) := by decide +kernel
theorem dX12_isTold_30 : decode cX12_isTold 30 = .ok (.iload_n 1, 1) := by decide +kernel
theorem dX12_isTold_31 : decode cX12_isTold 31 = .ok (.bipush 10, 2) := by decide +kernel
theorem dX12_isTold_33 : decode cX12_isTold 33 = .ok (.irem, 1) := by decide +kernel
theorem dX12_isTold_34 : decode cX12_isTold 34 = .ok (.ifCond .ne 7, 3) := by decide +kernel
theorem dX12_isTold_37 : decode cX12_isTold 37 = .ok (.iconst 1, 1) := by decide +kernel
theorem dX12_isTold_38 : decode cX12_isTold 38 = .ok (.goto 4, 3) := by decide +kernel
theorem dX12_isTold_41 : decode cX12_isTold 41 = .ok (.iconst 0, 1) := by decide +kernel
theorem dX12_isTold_42 : decode cX12_isTold 42 = .ok (.ireturn, 1) := by decide +kernel
theorem dX12_laysHidden_0 : decode cX12_laysHidden 0 = .ok (.aload_n 0, 1) := by decide +kernel
theorem dX12_laysHidden_1 : decode cX12_laysHidden 1 = .ok (.iload_n 1, 1) := by decide +kernel
theorem dX12_laysHidden_2 : decode cX12_laysHidden 2 = .ok (.invokevirtual 375, 3) := by decide +kernel
theorem dX12_laysHidden_5 : decode cX12_laysHidden 5 = .ok (.istore_n 3, 1) := by decide +kernel
theorem dX12_laysHidden_6 : decode cX12_laysHidden 6 = .ok (.iconst 0, 1) := by decide +kernel
theorem dX12_laysHidden_7 : decode cX12_laysHidden 7 = .ok (.istore 4, 2) := by decide +kernel
theorem dX12_laysHidden_9 : decode cX12_laysHidden 9 = .ok (.iconst 0, 1) := by decide +kernel
theorem dX12_laysHidden_10 : decode cX12_laysHidden 10 = .ok (.istore 5, 2) := by decide +kernel
theorem dX12_laysHidden_12 : decode cX12_laysHidden 12 = .ok (.iload 5, 2) := by decide +kernel
theorem dX12_laysHidden_14 : decode cX12_laysHidden 14 = .ok (.sipush 1000, 3) := by decide +kernel
theorem dX12_laysHidden_17 : decode cX12_laysHidden 17 = .ok (.if_icmp .ge 35, 3) := by decide +kernel
theorem dX12_laysHidden_20 : decode cX12_laysHidden 20 = .ok (.aload_n 0, 1) := by decide +kernel
theorem dX12_laysHidden_21 : decode cX12_laysHidden 21 = .ok (.iload_n 1, 1) := by decide +kernel
theorem dX12_laysHidden_22 : decode cX12_laysHidden 22 = .ok (.iload_n 2, 1) := by decide +kernel
theorem dX12_laysHidden_23 : decode cX12_laysHidden 23 = .ok (.iload 5, 2) := by decide +kernel
theorem dX12_laysHidden_25 : decode cX12_laysHidden 25 = .ok (.invokevirtual 405, 3) := by decide +kernel
theorem dX12_laysHidden_28 : decode cX12_laysHidden 28 = .ok (.ifCond .ne 6, 3) := by decide +kernel
theorem dX12_laysHidden_31 : decode cX12_laysHidden 31 = .ok (.goto 15, 3) := by decide +kernel
theorem dX12_laysHidden_34 : decode cX12_laysHidden 34 = .ok (.aload_n 0, 1) := by decide +kernel
theorem dX12_laysHidden_35 : decode cX12_laysHidden 35 = .ok (.getfield 54, 3) := by decide +kernel
theorem dX12_laysHidden_38 : decode cX12_laysHidden 38 = .ok (.iload 4, 2) := by decide +kernel
theorem dX12_laysHidden_40 : decode cX12_laysHidden 40 = .ok (.iload 5, 2) := by decide +kernel
theorem dX12_laysHidden_42 : decode cX12_laysHidden 42 = .ok (.iastore, 1) := by decide +kernel
theorem dX12_laysHidden_43 : decode cX12_laysHidden 43 = .ok (.iinc 4 1, 3) := by decide +kernel
theorem dX12_laysHidden_46 : decode cX12_laysHidden 46 = .ok (.iinc 5 1, 3) := by decide +kernel
theorem dX12_laysHidden_49 : decode cX12_laysHidden 49 = .ok (.goto (-37), 3) := by decide +kernel
theorem dX12_laysHidden_52 : decode cX12_laysHidden 52 = .ok (.aload_n 0, 1) := by decide +kernel
theorem dX12_laysHidden_53 : decode cX12_laysHidden 53 = .ok (.iload_n 1, 1) := by decide +kernel
theorem dX12_laysHidden_54 : decode cX12_laysHidden 54 = .ok (.iload_n 3, 1) := by decide +kernel
theorem dX12_laysHidden_55 : decode cX12_laysHidden 55 = .ok (.invokevirtual 378, 3) := by decide +kernel
theorem dX12_laysHidden_58 : decode cX12_laysHidden 58 = .ok (.iload 4, 2) := by decide +kernel
theorem dX12_laysHidden_60 : decode cX12_laysHidden 60 = .ok (.ireturn, 1) := by decide +kernel
theorem dX12_laysTurning_0 : decode cX12_laysTurning 0 = .ok (.iconst 0, 1) := by decide +kernel
theorem dX12_laysTurning_1 : decode cX12_laysTurning 1 = .ok (.istore_n 3, 1) := by decide +kernel
theorem dX12_laysTurning_2 : decode cX12_laysTurning 2 = .ok (.iload_n 3, 1) := by decide +kernel
theorem dX12_laysTurning_3 : decode cX12_laysTurning 3 = .ok (.sipush 1000, 3) := by decide +kernel
theorem dX12_laysTurning_6 : decode cX12_laysTurning 6 = .ok (.if_icmp .ge 16, 3) := by decide +kernel
theorem dX12_laysTurning_9 : decode cX12_laysTurning 9 = .ok (.aload_n 0, 1) := by decide +kernel
theorem dX12_laysTurning_10 : decode cX12_laysTurning 10 = .ok (.getfield 66, 3) := by decide +kernel
theorem dX12_laysTurning_13 : decode cX12_laysTurning 13 = .ok (.iload_n 3, 1) := by decide +kernel
theorem dX12_laysTurning_14 : decode cX12_laysTurning 14 = .ok (.iconst 0, 1) := by decide +kernel
theorem dX12_laysTurning_15 : decode cX12_laysTurning 15 = .ok (.bastore, 1) := by decide +kernel
theorem dX12_laysTurning_16 : decode cX12_laysTurning 16 = .ok (.iinc 3 1, 3) := by decide +kernel
theorem dX12_laysTurning_19 : decode cX12_laysTurning 19 = .ok (.goto (-17), 3) := by decide +kernel
theorem dX12_laysTurning_22 : decode cX12_laysTurning 22 = .ok (.aload_n 0, 1) := by decide +kernel
theorem dX12_laysTurning_23 : decode cX12_laysTurning 23 = .ok (.iload_n 1, 1) := by decide +kernel
theorem dX12_laysTurning_24 : decode cX12_laysTurning 24 = .ok (.invokevirtual 375, 3) := by decide +kernel
theorem dX12_laysTurning_27 : decode cX12_laysTurning 27 = .ok (.istore_n 3, 1) := by decide +kernel
theorem dX12_laysTurning_28 : decode cX12_laysTurning 28 = .ok (.aload_n 0, 1) := by decide +kernel
theorem dX12_laysTurning_29 : decode cX12_laysTurning 29 = .ok (.invokevirtual 255, 3) := by decide +kernel
theorem dX12_laysTurning_32 : decode cX12_laysTurning 32 = .ok (.istore 4, 2) := by decide +kernel
theorem dX12_laysTurning_34 : decode cX12_laysTurning 34 = .ok (.aload_n 0, 1) := by decide +kernel
theorem dX12_laysTurning_35 : decode cX12_laysTurning 35 = .ok (.getfield 54, 3) := by decide +kernel
theorem dX12_laysTurning_38 : decode cX12_laysTurning 38 = .ok (.iconst 0, 1) := by decide +kernel
theorem dX12_laysTurning_39 : decode cX12_laysTurning 39 = .ok (.iload_n 3, 1) := by decide +kernel
theorem dX12_laysTurning_40 : decode cX12_laysTurning 40 = .ok (.iastore, 1) := by decide +kernel
theorem dX12_laysTurning_41 : decode cX12_laysTurning 41 = .ok (.aload_n 0, 1) := by decide +kernel
theorem dX12_laysTurning_42 : decode cX12_laysTurning 42 = .ok (.getfield 60, 3) := by decide +kernel
theorem dX12_laysTurning_45 : decode cX12_laysTurning 45 = .ok (.iconst 0, 1) := by decide +kernel
theorem dX12_laysTurning_46 : decode cX12_laysTurning 46 = .ok (.iconst (-1), 1) := by decide +kernel
theorem dX12_laysTurning_47 : decode cX12_laysTurning 47 = .ok (.iastore, 1) := by decide +kernel
theorem dX12_laysTurning_48 : decode cX12_laysTurning 48 = .ok (.aload_n 0, 1) := by decide +kernel
theorem dX12_laysTurning_49 : decode cX12_laysTurning 49 = .ok (.getfield 66, 3) := by decide +kernel
theorem dX12_laysTurning_52 : decode cX12_laysTurning 52 = .ok (.iload_n 3, 1) := by decide +kernel
theorem dX12_laysTurning_53 : decode cX12_laysTurning 53 = .ok (.iconst 1, 1) := by decide +kernel
theorem dX12_laysTurning_54 : decode cX12_laysTurning 54 = .ok (.bastore, 1) := by decide +kernel
theorem dX12_laysTurning_55 : decode cX12_laysTurning 55 = .ok (.iconst 1, 1) := by decide +kernel
theorem dX12_laysTurning_56 : decode cX12_laysTurning 56 = .ok (.istore 5, 2) := by decide +kernel
theorem dX12_laysTurning_58 : decode cX12_laysTurning 58 = .ok (.iconst (-1), 1) := by decide +kernel
theorem dX12_laysTurning_59 : decode cX12_laysTurning 59 = .ok (.istore 6, 2) := by decide +kernel
theorem dX12_laysTurning_61 : decode cX12_laysTurning 61 = .ok (.iconst 0, 1) := by decide +kernel
theorem dX12_laysTurning_62 : decode cX12_laysTurning 62 = .ok (.istore 7, 2) := by decide +kernel
theorem dX12_laysTurning_64 : decode cX12_laysTurning 64 = .ok (.iload 7, 2) := by decide +kernel
theorem dX12_laysTurning_66 : decode cX12_laysTurning 66 = .ok (.iload 5, 2) := by decide +kernel
theorem dX12_laysTurning_68 : decode cX12_laysTurning 68 = .ok (.if_icmp .ge 174, 3) := by decide +kernel
theorem dX12_laysTurning_71 : decode cX12_laysTurning 71 = .ok (.iload 6, 2) := by decide +kernel
theorem dX12_laysTurning_73 : decode cX12_laysTurning 73 = .ok (.iconst (-1), 1) := by decide +kernel
theorem dX12_laysTurning_74 : decode cX12_laysTurning 74 = .ok (.if_icmp .ne 168, 3) := by decide +kernel
theorem dX12_laysTurning_77 : decode cX12_laysTurning 77 = .ok (.aload_n 0, 1) := by decide +kernel
theorem dX12_laysTurning_78 : decode cX12_laysTurning 78 = .ok (.iload_n 1, 1) := by decide +kernel
theorem dX12_laysTurning_79 : decode cX12_laysTurning 79 = .ok (.aload_n 0, 1) := by decide +kernel
theorem dX12_laysTurning_80 : decode cX12_laysTurning 80 = .ok (.getfield 54, 3) := by decide +kernel
theorem dX12_laysTurning_83 : decode cX12_laysTurning 83 = .ok (.iload 7, 2) := by decide +kernel
theorem dX12_laysTurning_85 : decode cX12_laysTurning 85 = .ok (.iaload, 1) := by decide +kernel
theorem dX12_laysTurning_86 : decode cX12_laysTurning 86 = .ok (.invokevirtual 378, 3) := by decide +kernel
theorem dX12_laysTurning_89 : decode cX12_laysTurning 89 = .ok (.aload_n 0, 1) := by decide +kernel
theorem dX12_laysTurning_90 : decode cX12_laysTurning 90 = .ok (.iload_n 1, 1) := by decide +kernel
theorem dX12_laysTurning_91 : decode cX12_laysTurning 91 = .ok (.iload_n 2, 1) := by decide +kernel
theorem dX12_laysTurning_92 : decode cX12_laysTurning 92 = .ok (.aload_n 0, 1) := by decide +kernel
theorem dX12_laysTurning_93 : decode cX12_laysTurning 93 = .ok (.getfield 13, 3) := by decide +kernel
theorem dX12_laysTurning_96 : decode cX12_laysTurning 96 = .ok (.bipush 52, 2) := by decide +kernel
theorem dX12_laysTurning_98 : decode cX12_laysTurning 98 = .ok (.iaload, 1) := by decide +kernel
theorem dX12_laysTurning_99 : decode cX12_laysTurning 99 = .ok (.invokevirtual 241, 3) := by decide +kernel
theorem dX12_laysTurning_102 : decode cX12_laysTurning 102 = .ok (.ifCond .eq 7, 3) := by decide +kernel
theorem dX12_laysTurning_105 : decode cX12_laysTurning 105 = .ok (.iload 7, 2) := by decide +kernel
theorem dX12_laysTurning_107 : decode cX12_laysTurning 107 = .ok (.istore 6, 2) := by decide +kernel
theorem dX12_laysTurning_109 : decode cX12_laysTurning 109 = .ok (.iconst 0, 1) := by decide +kernel
theorem dX12_laysTurning_110 : decode cX12_laysTurning 110 = .ok (.istore 8, 2) := by decide +kernel
theorem dX12_laysTurning_112 : decode cX12_laysTurning 112 = .ok (.iload 8, 2) := by decide +kernel
theorem dX12_laysTurning_114 : decode cX12_laysTurning 114 = .ok (.aload_n 0, 1) := by decide +kernel
theorem dX12_laysTurning_115 : decode cX12_laysTurning 115 = .ok (.getfield 13, 3) := by decide +kernel
theorem dX12_laysTurning_118 : decode cX12_laysTurning 118 = .ok (.iconst 2, 1) := by decide +kernel
theorem dX12_laysTurning_119 : decode cX12_laysTurning 119 = .ok (.iaload, 1) := by decide +kernel
theorem dX12_laysTurning_120 : decode cX12_laysTurning 120 = .ok (.if_icmp .ge 116, 3) := by decide +kernel
theorem dX12_laysTurning_123 : decode cX12_laysTurning 123 = .ok (.iload 8, 2) := by decide +kernel
theorem dX12_laysTurning_125 : decode cX12_laysTurning 125 = .ok (.iload_n 1, 1) := by decide +kernel
theorem dX12_laysTurning_126 : decode cX12_laysTurning 126 = .ok (.if_icmp .eq 104, 3) := by decide +kernel
theorem dX12_laysTurning_129 : decode cX12_laysTurning 129 = .ok (.iload 4, 2) := by decide +kernel
theorem dX12_laysTurning_131 : decode cX12_laysTurning 131 = .ok (.i2l, 1) := by decide +kernel
theorem dX12_laysTurning_132 : decode cX12_laysTurning 132 = .ok (.iload_n 1, 1) := by decide +kernel
theorem dX12_laysTurning_133 : decode cX12_laysTurning 133 = .ok (.invokestatic 251, 3) := by decide +kernel
theorem dX12_laysTurning_136 : decode cX12_laysTurning 136 = .ok (.ifCond .eq 94, 3) := by decide +kernel
theorem dX12_laysTurning_139 : decode cX12_laysTurning 139 = .ok (.iload 4, 2) := by decide +kernel
theorem dX12_laysTurning_141 : decode cX12_laysTurning 141 = .ok (.i2l, 1) := by decide +kernel
theorem dX12_laysTurning_142 : decode cX12_laysTurning 142 = .ok (.iload 8, 2) := by decide +kernel
theorem dX12_laysTurning_144 : decode cX12_laysTurning 144 = .ok (.invokestatic 251, 3) := by decide +kernel
theorem dX12_laysTurning_147 : decode cX12_laysTurning 147 = .ok (.ifCond .ne 6, 3) := by decide +kernel
theorem dX12_laysTurning_150 : decode cX12_laysTurning 150 = .ok (.goto 80, 3) := by decide +kernel
theorem dX12_laysTurning_153 : decode cX12_laysTurning 153 = .ok (.aload_n 0, 1) := by decide +kernel
theorem dX12_laysTurning_154 : decode cX12_laysTurning 154 = .ok (.iload_n 1, 1) := by decide +kernel
theorem dX12_laysTurning_155 : decode cX12_laysTurning 155 = .ok (.aload_n 0, 1) := by decide +kernel
theorem dX12_laysTurning_156 : decode cX12_laysTurning 156 = .ok (.getfield 54, 3) := by decide +kernel
theorem dX12_laysTurning_159 : decode cX12_laysTurning 159 = .ok (.iload 7, 2) := by decide +kernel
theorem dX12_laysTurning_161 : decode cX12_laysTurning 161 = .ok (.iaload, 1) := by decide +kernel
theorem dX12_laysTurning_162 : decode cX12_laysTurning 162 = .ok (.invokevirtual 378, 3) := by decide +kernel
theorem dX12_laysTurning_165 : decode cX12_laysTurning 165 = .ok (.aload_n 0, 1) := by decide +kernel
theorem dX12_laysTurning_166 : decode cX12_laysTurning 166 = .ok (.iload_n 1, 1) := by decide +kernel
theorem dX12_laysTurning_167 : decode cX12_laysTurning 167 = .ok (.iload 8, 2) := by decide +kernel
theorem dX12_laysTurning_169 : decode cX12_laysTurning 169 = .ok (.invokevirtual 270, 3) := by decide +kernel
theorem dX12_laysTurning_172 : decode cX12_laysTurning 172 = .ok (.aload_n 0, 1) := by decide +kernel
theorem dX12_laysTurning_173 : decode cX12_laysTurning 173 = .ok (.iload_n 1, 1) := by decide +kernel
theorem dX12_laysTurning_174 : decode cX12_laysTurning 174 = .ok (.invokevirtual 375, 3) := by decide +kernel
theorem dX12_laysTurning_177 : decode cX12_laysTurning 177 = .ok (.istore 9, 2) := by decide +kernel
theorem dX12_laysTurning_179 : decode cX12_laysTurning 179 = .ok (.aload_n 0, 1) := by decide +kernel
theorem dX12_laysTurning_180 : decode cX12_laysTurning 180 = .ok (.getfield 66, 3) := by decide +kernel
theorem dX12_laysTurning_183 : decode cX12_laysTurning 183 = .ok (.iload 9, 2) := by decide +kernel
theorem dX12_laysTurning_185 : decode cX12_laysTurning 185 = .ok (.baload, 1) := by decide +kernel
theorem dX12_laysTurning_186 : decode cX12_laysTurning 186 = .ok (.ifCond .eq 6, 3) := by decide +kernel
theorem dX12_laysTurning_189 : decode cX12_laysTurning 189 = .ok (.goto 41, 3) := by decide +kernel
theorem dX12_laysTurning_192 : decode cX12_laysTurning 192 = .ok (.aload_n 0, 1) := by decide +kernel
theorem dX12_laysTurning_193 : decode cX12_laysTurning 193 = .ok (.getfield 66, 3) := by decide +kernel
theorem dX12_laysTurning_196 : decode cX12_laysTurning 196 = .ok (.iload 9, 2) := by decide +kernel
theorem dX12_laysTurning_198 : decode cX12_laysTurning 198 = .ok (.iconst 1, 1) := by decide +kernel
theorem dX12_laysTurning_199 : decode cX12_laysTurning 199 = .ok (.bastore, 1) := by decide +kernel
theorem dX12_laysTurning_200 : decode cX12_laysTurning 200 = .ok (.aload_n 0, 1) := by decide +kernel
theorem dX12_laysTurning_201 : decode cX12_laysTurning 201 = .ok (.getfield 54, 3) := by decide +kernel
theorem dX12_laysTurning_204 : decode cX12_laysTurning 204 = .ok (.iload 5, 2) := by decide +kernel
theorem dX12_laysTurning_206 : decode cX12_laysTurning 206 = .ok (.iload 9, 2) := by decide +kernel
theorem dX12_laysTurning_208 : decode cX12_laysTurning 208 = .ok (.iastore, 1) := by decide +kernel
theorem dX12_laysTurning_209 : decode cX12_laysTurning 209 = .ok (.aload_n 0, 1) := by decide +kernel
theorem dX12_laysTurning_210 : decode cX12_laysTurning 210 = .ok (.getfield 57, 3) := by decide +kernel
theorem dX12_laysTurning_213 : decode cX12_laysTurning 213 = .ok (.iload 5, 2) := by decide +kernel
theorem dX12_laysTurning_215 : decode cX12_laysTurning 215 = .ok (.iload 8, 2) := by decide +kernel
theorem dX12_laysTurning_217 : decode cX12_laysTurning 217 = .ok (.iastore, 1) := by decide +kernel
theorem dX12_laysTurning_218 : decode cX12_laysTurning 218 = .ok (.aload_n 0, 1) := by decide +kernel
theorem dX12_laysTurning_219 : decode cX12_laysTurning 219 = .ok (.getfield 60, 3) := by decide +kernel
theorem dX12_laysTurning_222 : decode cX12_laysTurning 222 = .ok (.iload 5, 2) := by decide +kernel
theorem dX12_laysTurning_224 : decode cX12_laysTurning 224 = .ok (.iload 7, 2) := by decide +kernel
theorem dX12_laysTurning_226 : decode cX12_laysTurning 226 = .ok (.iastore, 1) := by decide +kernel
theorem dX12_laysTurning_227 : decode cX12_laysTurning 227 = .ok (.iinc 5 1, 3) := by decide +kernel
theorem dX12_laysTurning_230 : decode cX12_laysTurning 230 = .ok (.iinc 8 1, 3) := by decide +kernel
theorem dX12_laysTurning_233 : decode cX12_laysTurning 233 = .ok (.goto (-121), 3) := by decide +kernel
theorem dX12_laysTurning_236 : decode cX12_laysTurning 236 = .ok (.iinc 7 1, 3) := by decide +kernel
theorem dX12_laysTurning_239 : decode cX12_laysTurning 239 = .ok (.goto (-175), 3) := by decide +kernel
theorem dX12_laysTurning_242 : decode cX12_laysTurning 242 = .ok (.aload_n 0, 1) := by decide +kernel
theorem dX12_laysTurning_243 : decode cX12_laysTurning 243 = .ok (.iload_n 1, 1) := by decide +kernel
theorem dX12_laysTurning_244 : decode cX12_laysTurning 244 = .ok (.iload_n 3, 1) := by decide +kernel
theorem dX12_laysTurning_245 : decode cX12_laysTurning 245 = .ok (.invokevirtual 378, 3) := by decide +kernel
theorem dX12_laysTurning_248 : decode cX12_laysTurning 248 = .ok (.iload 6, 2) := by decide +kernel
theorem dX12_laysTurning_250 : decode cX12_laysTurning 250 = .ok (.iconst (-1), 1) := by decide +kernel
theorem dX12_laysTurning_251 : decode cX12_laysTurning 251 = .ok (.if_icmp .ne 5, 3) := by decide +kernel
theorem dX12_laysTurning_254 : decode cX12_laysTurning 254 = .ok (.iconst (-1), 1) := by decide +kernel
theorem dX12_laysTurning_255 : decode cX12_laysTurning 255 = .ok (.ireturn, 1) := by decide +kernel
theorem dX12_laysTurning_256 : decode cX12_laysTurning 256 = .ok (.aload_n 0, 1) := by decide +kernel
theorem dX12_laysTurning_257 : decode cX12_laysTurning 257 = .ok (.iconst 0, 1) := by decide +kernel
theorem dX12_laysTurning_258 : decode cX12_laysTurning 258 = .ok (.putfield 381, 3) := by decide +kernel
theorem dX12_laysTurning_261 : decode cX12_laysTurning 261 = .ok (.iload 6, 2) := by decide +kernel
theorem dX12_laysTurning_263 : decode cX12_laysTurning 263 = .ok (.istore 7, 2) := by decide +kernel
theorem dX12_laysTurning_265 : decode cX12_laysTurning 265 = .ok (.aload_n 0, 1) := by decide +kernel
theorem dX12_laysTurning_266 : decode cX12_laysTurning 266 = .ok (.getfield 60, 3) := by decide +kernel
theorem dX12_laysTurning_269 : decode cX12_laysTurning 269 = .ok (.iload 7, 2) := by decide +kernel
theorem dX12_laysTurning_271 : decode cX12_laysTurning 271 = .ok (.iaload, 1) := by decide +kernel
theorem dX12_laysTurning_272 : decode cX12_laysTurning 272 = .ok (.iconst (-1), 1) := by decide +kernel
theorem dX12_laysTurning_273 : decode cX12_laysTurning 273 = .ok (.if_icmp .eq 25, 3) := by decide +kernel
theorem dX12_laysTurning_276 : decode cX12_laysTurning 276 = .ok (.aload_n 0, 1) := by decide +kernel
theorem dX12_laysTurning_277 : decode cX12_laysTurning 277 = .ok (.dup, 1) := by decide +kernel
theorem dX12_laysTurning_278 : decode cX12_laysTurning 278 = .ok (.getfield 381, 3) := by decide +kernel
theorem dX12_laysTurning_281 : decode cX12_laysTurning 281 = .ok (.iconst 1, 1) := by decide +kernel
theorem dX12_laysTurning_282 : decode cX12_laysTurning 282 = .ok (.iadd, 1) := by decide +kernel
theorem dX12_laysTurning_283 : decode cX12_laysTurning 283 = .ok (.putfield 381, 3) := by decide +kernel
theorem dX12_laysTurning_286 : decode cX12_laysTurning 286 = .ok (.aload_n 0, 1) := by decide +kernel
theorem dX12_laysTurning_287 : decode cX12_laysTurning 287 = .ok (.getfield 60, 3) := by decide +kernel
theorem dX12_laysTurning_290 : decode cX12_laysTurning 290 = .ok (.iload 7, 2) := by decide +kernel
theorem dX12_laysTurning_292 : decode cX12_laysTurning 292 = .ok (.iaload, 1) := by decide +kernel
theorem dX12_laysTurning_293 : decode cX12_laysTurning 293 = .ok (.istore 7, 2) := by decide +kernel
theorem dX12_laysTurning_295 : decode cX12_laysTurning 295 = .ok (.goto (-30), 3) := by decide +kernel
theorem dX12_laysTurning_298 : decode cX12_laysTurning 298 = .ok (.aload_n 0, 1) := by decide +kernel
theorem dX12_laysTurning_299 : decode cX12_laysTurning 299 = .ok (.getfield 381, 3) := by decide +kernel
theorem dX12_laysTurning_302 : decode cX12_laysTurning 302 = .ok (.istore 7, 2) := by decide +kernel
theorem dX12_laysTurning_304 : decode cX12_laysTurning 304 = .ok (.iload 6, 2) := by decide +kernel
theorem dX12_laysTurning_306 : decode cX12_laysTurning 306 = .ok (.istore 8, 2) := by decide +kernel
theorem dX12_laysTurning_308 : decode cX12_laysTurning 308 = .ok (.aload_n 0, 1) := by decide +kernel
theorem dX12_laysTurning_309 : decode cX12_laysTurning 309 = .ok (.getfield 60, 3) := by decide +kernel
theorem dX12_laysTurning_312 : decode cX12_laysTurning 312 = .ok (.iload 8, 2) := by decide +kernel
theorem dX12_laysTurning_314 : decode cX12_laysTurning 314 = .ok (.iaload, 1) := by decide +kernel
theorem dX12_laysTurning_315 : decode cX12_laysTurning 315 = .ok (.iconst (-1), 1) := by decide +kernel
theorem dX12_laysTurning_316 : decode cX12_laysTurning 316 = .ok (.if_icmp .eq 32, 3) := by decide +kernel
theorem dX12_laysTurning_319 : decode cX12_laysTurning 319 = .ok (.iinc 7 (-1), 3) := by decide +kernel
theorem dX12_laysTurning_322 : decode cX12_laysTurning 322 = .ok (.aload_n 0, 1) := by decide +kernel
theorem dX12_laysTurning_323 : decode cX12_laysTurning 323 = .ok (.getfield 63, 3) := by decide +kernel
theorem dX12_laysTurning_326 : decode cX12_laysTurning 326 = .ok (.iload 7, 2) := by decide +kernel
theorem dX12_laysTurning_328 : decode cX12_laysTurning 328 = .ok (.aload_n 0, 1) := by decide +kernel
theorem dX12_laysTurning_329 : decode cX12_laysTurning 329 = .ok (.getfield 57, 3) := by decide +kernel
theorem dX12_laysTurning_332 : decode cX12_laysTurning 332 = .ok (.iload 8, 2) := by decide +kernel
theorem dX12_laysTurning_334 : decode cX12_laysTurning 334 = .ok (.iaload, 1) := by decide +kernel
theorem dX12_laysTurning_335 : decode cX12_laysTurning 335 = .ok (.iastore, 1) := by decide +kernel
theorem dX12_laysTurning_336 : decode cX12_laysTurning 336 = .ok (.aload_n 0, 1) := by decide +kernel
theorem dX12_laysTurning_337 : decode cX12_laysTurning 337 = .ok (.getfield 60, 3) := by decide +kernel
theorem dX12_laysTurning_340 : decode cX12_laysTurning 340 = .ok (.iload 8, 2) := by decide +kernel
theorem dX12_laysTurning_342 : decode cX12_laysTurning 342 = .ok (.iaload, 1) := by decide +kernel
theorem dX12_laysTurning_343 : decode cX12_laysTurning 343 = .ok (.istore 8, 2) := by decide +kernel
theorem dX12_laysTurning_345 : decode cX12_laysTurning 345 = .ok (.goto (-37), 3) := by decide +kernel
theorem dX12_laysTurning_348 : decode cX12_laysTurning 348 = .ok (.aload_n 0, 1) := by decide +kernel
theorem dX12_laysTurning_349 : decode cX12_laysTurning 349 = .ok (.getfield 381, 3) := by decide +kernel
theorem dX12_laysTurning_352 : decode cX12_laysTurning 352 = .ok (.ireturn, 1) := by decide +kernel
theorem dX12_noHidden_0 : decode cX12_noHidden 0 = .ok (.aload_n 0, 1) := by decide +kernel
theorem dX12_noHidden_1 : decode cX12_noHidden 1 = .ok (.iload_n 1, 1) := by decide +kernel
theorem dX12_noHidden_2 : decode cX12_noHidden 2 = .ok (.i2l, 1) := by decide +kernel
theorem dX12_noHidden_3 : decode cX12_noHidden 3 = .ok (.invokevirtual 245, 3) := by decide +kernel
theorem dX12_noHidden_6 : decode cX12_noHidden 6 = .ok (.ifCond .ne 8, 3) := by decide +kernel
theorem dX12_noHidden_9 : decode cX12_noHidden 9 = .ok (.bipush (-2), 2) := by decide +kernel
theorem dX12_noHidden_11 : decode cX12_noHidden 11 = .ok (.goto 26, 3) := by decide +kernel
theorem dX12_noHidden_14 : decode cX12_noHidden 14 = .ok (.iload_n 2, 1) := by decide +kernel
theorem dX12_noHidden_15 : decode cX12_noHidden 15 = .ok (.aload_n 0, 1) := by decide +kernel
theorem dX12_noHidden_16 : decode cX12_noHidden 16 = .ok (.invokevirtual 255, 3) := by decide +kernel
theorem dX12_noHidden_19 : decode cX12_noHidden 19 = .ok (.iconst 1, 1) := by decide +kernel
theorem dX12_noHidden_20 : decode cX12_noHidden 20 = .ok (.iload_n 1, 1) := by decide +kernel
theorem dX12_noHidden_21 : decode cX12_noHidden 21 = .ok (.ishl, 1) := by decide +kernel
theorem dX12_noHidden_22 : decode cX12_noHidden 22 = .ok (.iconst (-1), 1) := by decide +kernel
theorem dX12_noHidden_23 : decode cX12_noHidden 23 = .ok (.ixor, 1) := by decide +kernel
theorem dX12_noHidden_24 : decode cX12_noHidden 24 = .ok (.iand, 1) := by decide +kernel
theorem dX12_noHidden_25 : decode cX12_noHidden 25 = .ok (.iconst (-1), 1) := by decide +kernel
theorem dX12_noHidden_26 : decode cX12_noHidden 26 = .ok (.ixor, 1) := by decide +kernel
theorem dX12_noHidden_27 : decode cX12_noHidden 27 = .ok (.iand, 1) := by decide +kernel
theorem dX12_noHidden_28 : decode cX12_noHidden 28 = .ok (.ifCond .eq 8, 3) := by decide +kernel
theorem dX12_noHidden_31 : decode cX12_noHidden 31 = .ok (.bipush (-3), 2) := by decide +kernel
theorem dX12_noHidden_33 : decode cX12_noHidden 33 = .ok (.goto 4, 3) := by decide +kernel
theorem dX12_noHidden_36 : decode cX12_noHidden 36 = .ok (.iconst 0, 1) := by decide +kernel
theorem dX12_noHidden_37 : decode cX12_noHidden 37 = .ok (.ireturn, 1) := by decide +kernel
theorem dX12_passed_0 : decode cX12_passed 0 = .ok (.aload_n 0, 1) := by decide +kernel
theorem dX12_passed_1 : decode cX12_passed 1 = .ok (.iconst 0, 1) := by decide +kernel
theorem dX12_passed_2 : decode cX12_passed 2 = .ok (.putfield 1, 3) := by decide +kernel
theorem dX12_passed_5 : decode cX12_passed 5 = .ok (.iload_n 2, 1) := by decide +kernel
theorem dX12_passed_6 : decode cX12_passed 6 = .ok (.i2l, 1) := by decide +kernel
theorem dX12_passed_7 : decode cX12_passed 7 = .ok (.lconst 0, 1) := by decide +kernel
theorem dX12_passed_8 : decode cX12_passed 8 = .ok (.lconst 1, 1) := by decide +kernel
theorem dX12_passed_9 : decode cX12_passed 9 = .ok (.invokestatic 145, 3) := by decide +kernel
theorem dX12_passed_12 : decode cX12_passed 12 = .ok (.ifCond .ne 6, 3) := by decide +kernel
theorem dX12_passed_15 : decode cX12_passed 15 = .ok (.bipush (-2), 2) := by decide +kernel
theorem dX12_passed_17 : decode cX12_passed 17 = .ok (.ireturn, 1) := by decide +kernel
theorem dX12_passed_18 : decode cX12_passed 18 = .ok (.iload_n 1, 1) := by decide +kernel
theorem dX12_passed_19 : decode cX12_passed 19 = .ok (.invokestatic 393, 3) := by decide +kernel
theorem dX12_passed_22 : decode cX12_passed 22 = .ok (.ifCond .ne 6, 3) := by decide +kernel
theorem dX12_passed_25 : decode cX12_passed 25 = .ok (.bipush (-3), 2) := by decide +kernel
theorem dX12_passed_27 : decode cX12_passed 27 = .ok (.ireturn, 1) := by decide +kernel
theorem dX12_passed_28 : decode cX12_passed 28 = .ok (.aload_n 0, 1) := by decide +kernel
theorem dX12_passed_29 : decode cX12_passed 29 = .ok (.invokevirtual 346, 3) := by decide +kernel
theorem dX12_passed_32 : decode cX12_passed 32 = .ok (.aload_n 0, 1) := by decide +kernel
theorem dX12_passed_33 : decode cX12_passed 33 = .ok (.iload_n 1, 1) := by decide +kernel
theorem dX12_passed_34 : decode cX12_passed 34 = .ok (.invokevirtual 399, 3) := by decide +kernel
theorem dX12_passed_37 : decode cX12_passed 37 = .ok (.istore_n 3, 1) := by decide +kernel
theorem dX12_passed_38 : decode cX12_passed 38 = .ok (.iload_n 3, 1) := by decide +kernel
theorem dX12_passed_39 : decode cX12_passed 39 = .ok (.iconst (-1), 1) := by decide +kernel
theorem dX12_passed_40 : decode cX12_passed 40 = .ok (.if_icmp .eq 8, 3) := by decide +kernel
theorem dX12_passed_43 : decode cX12_passed 43 = .ok (.iload_n 2, 1) := by decide +kernel
theorem dX12_passed_44 : decode cX12_passed 44 = .ok (.iconst 1, 1) := by decide +kernel
theorem dX12_passed_45 : decode cX12_passed 45 = .ok (.if_icmp .ne 7, 3) := by decide +kernel
theorem dX12_passed_48 : decode cX12_passed 48 = .ok (.iload_n 3, 1) := by decide +kernel
theorem dX12_passed_49 : decode cX12_passed 49 = .ok (.goto 7, 3) := by decide +kernel
theorem dX12_passed_52 : decode cX12_passed 52 = .ok (.iload_n 3, 1) := by decide +kernel
theorem dX12_passed_53 : decode cX12_passed 53 = .ok (.invokestatic 281, 3) := by decide +kernel
theorem dX12_passed_56 : decode cX12_passed 56 = .ok (.ireturn, 1) := by decide +kernel
theorem dX12_passedBy_0 : decode cX12_passedBy 0 = .ok (.aload_n 0, 1) := by decide +kernel
theorem dX12_passedBy_1 : decode cX12_passedBy 1 = .ok (.invokevirtual 255, 3) := by decide +kernel
theorem dX12_passedBy_4 : decode cX12_passedBy 4 = .ok (.istore_n 2, 1) := by decide +kernel
theorem dX12_passedBy_5 : decode cX12_passedBy 5 = .ok (.aload_n 0, 1) := by decide +kernel
theorem dX12_passedBy_6 : decode cX12_passedBy 6 = .ok (.iload_n 2, 1) := by decide +kernel
theorem dX12_passedBy_7 : decode cX12_passedBy 7 = .ok (.iload_n 1, 1) := by decide +kernel
theorem dX12_passedBy_8 : decode cX12_passedBy 8 = .ok (.invokevirtual 396, 3) := by decide +kernel
theorem dX12_passedBy_11 : decode cX12_passedBy 11 = .ok (.istore_n 3, 1) := by decide +kernel
theorem dX12_passedBy_12 : decode cX12_passedBy 12 = .ok (.iconst (-1), 1) := by decide +kernel
theorem dX12_passedBy_13 : decode cX12_passedBy 13 = .ok (.istore 4, 2) := by decide +kernel
theorem dX12_passedBy_15 : decode cX12_passedBy 15 = .ok (.iconst 0, 1) := by decide +kernel
theorem dX12_passedBy_16 : decode cX12_passedBy 16 = .ok (.istore 5, 2) := by decide +kernel
theorem dX12_passedBy_18 : decode cX12_passedBy 18 = .ok (.iload 5, 2) := by decide +kernel
theorem dX12_passedBy_20 : decode cX12_passedBy 20 = .ok (.iload_n 2, 1) := by decide +kernel
theorem dX12_passedBy_21 : decode cX12_passedBy 21 = .ok (.if_icmp .gt 79, 3) := by decide +kernel
theorem dX12_passedBy_24 : decode cX12_passedBy 24 = .ok (.iload_n 2, 1) := by decide +kernel
theorem dX12_passedBy_25 : decode cX12_passedBy 25 = .ok (.iload 5, 2) := by decide +kernel
theorem dX12_passedBy_27 : decode cX12_passedBy 27 = .ok (.iconst (-1), 1) := by decide +kernel
theorem dX12_passedBy_28 : decode cX12_passedBy 28 = .ok (.ixor, 1) := by decide +kernel
theorem dX12_passedBy_29 : decode cX12_passedBy 29 = .ok (.iand, 1) := by decide +kernel
theorem dX12_passedBy_30 : decode cX12_passedBy 30 = .ok (.istore 6, 2) := by decide +kernel
theorem dX12_passedBy_32 : decode cX12_passedBy 32 = .ok (.iload 5, 2) := by decide +kernel
theorem dX12_passedBy_34 : decode cX12_passedBy 34 = .ok (.iload_n 2, 1) := by decide +kernel
theorem dX12_passedBy_35 : decode cX12_passedBy 35 = .ok (.iconst (-1), 1) := by decide +kernel
theorem dX12_passedBy_36 : decode cX12_passedBy 36 = .ok (.ixor, 1) := by decide +kernel
theorem dX12_passedBy_37 : decode cX12_passedBy 37 = .ok (.iand, 1) := by decide +kernel
theorem dX12_passedBy_38 : decode cX12_passedBy 38 = .ok (.ifCond .ne 56, 3) := by decide +kernel
theorem dX12_passedBy_41 : decode cX12_passedBy 41 = .ok (.iload 4, 2) := by decide +kernel
theorem dX12_passedBy_43 : decode cX12_passedBy 43 = .ok (.iconst (-1), 1) := by decide +kernel
theorem dX12_passedBy_44 : decode cX12_passedBy 44 = .ok (.if_icmp .eq 19, 3) := by decide +kernel
theorem dX12_passedBy_47 : decode cX12_passedBy 47 = .ok (.iload 5, 2) := by decide +kernel
theorem dX12_passedBy_49 : decode cX12_passedBy 49 = .ok (.invokestatic 281, 3) := by decide +kernel
theorem dX12_passedBy_52 : decode cX12_passedBy 52 = .ok (.iload 4, 2) := by decide +kernel
theorem dX12_passedBy_54 : decode cX12_passedBy 54 = .ok (.invokestatic 281, 3) := by decide +kernel
theorem dX12_passedBy_57 : decode cX12_passedBy 57 = .ok (.if_icmp .lt 6, 3) := by decide +kernel
theorem dX12_passedBy_60 : decode cX12_passedBy 60 = .ok (.goto 34, 3) := by decide +kernel
theorem dX12_passedBy_63 : decode cX12_passedBy 63 = .ok (.aload_n 0, 1) := by decide +kernel
theorem dX12_passedBy_64 : decode cX12_passedBy 64 = .ok (.getfield 45, 3) := by decide +kernel
theorem dX12_passedBy_67 : decode cX12_passedBy 67 = .ok (.iload 6, 2) := by decide +kernel
theorem dX12_passedBy_69 : decode cX12_passedBy 69 = .ok (.iaload, 1) := by decide +kernel
theorem dX12_passedBy_70 : decode cX12_passedBy 70 = .ok (.ifCond .le 24, 3) := by decide +kernel
theorem dX12_passedBy_73 : decode cX12_passedBy 73 = .ok (.iconst 2, 1) := by decide +kernel
theorem dX12_passedBy_74 : decode cX12_passedBy 74 = .ok (.iload_n 3, 1) := by decide +kernel
theorem dX12_passedBy_75 : decode cX12_passedBy 75 = .ok (.iload 6, 2) := by decide +kernel
theorem dX12_passedBy_77 : decode cX12_passedBy 77 = .ok (.iand, 1) := by decide +kernel
theorem dX12_passedBy_78 : decode cX12_passedBy 78 = .ok (.invokestatic 281, 3) := by decide +kernel
theorem dX12_passedBy_81 : decode cX12_passedBy 81 = .ok (.imul, 1) := by decide +kernel
theorem dX12_passedBy_82 : decode cX12_passedBy 82 = .ok (.iload 6, 2) := by decide +kernel
theorem dX12_passedBy_84 : decode cX12_passedBy 84 = .ok (.invokestatic 281, 3) := by decide +kernel
theorem dX12_passedBy_87 : decode cX12_passedBy 87 = .ok (.if_icmp .le 7, 3) := by decide +kernel
theorem dX12_passedBy_90 : decode cX12_passedBy 90 = .ok (.iload 5, 2) := by decide +kernel
theorem dX12_passedBy_92 : decode cX12_passedBy 92 = .ok (.istore 4, 2) := by decide +kernel
theorem dX12_passedBy_94 : decode cX12_passedBy 94 = .ok (.iinc 5 1, 3) := by decide +kernel
theorem dX12_passedBy_97 : decode cX12_passedBy 97 = .ok (.goto (-79), 3) := by decide +kernel
theorem dX12_passedBy_100 : decode cX12_passedBy 100 = .ok (.iload 4, 2) := by decide +kernel
theorem dX12_passedBy_102 : decode cX12_passedBy 102 = .ok (.ireturn, 1) := by decide +kernel
theorem dX12_passes_0 : decode cX12_passes 0 = .ok (.aload_n 0, 1) := by decide +kernel
theorem dX12_passes_1 : decode cX12_passes 1 = .ok (.iconst 0, 1) := by decide +kernel
theorem dX12_passes_2 : decode cX12_passes 2 = .ok (.putfield 1, 3) := by decide +kernel
theorem dX12_passes_5 : decode cX12_passes 5 = .ok (.iload_n 1, 1) := by decide +kernel
theorem dX12_passes_6 : decode cX12_passes 6 = .ok (.invokestatic 393, 3) := by decide +kernel
theorem dX12_passes_9 : decode cX12_passes 9 = .ok (.ifCond .ne 6, 3) := by decide +kernel
theorem dX12_passes_12 : decode cX12_passes 12 = .ok (.bipush (-3), 2) := by decide +kernel
theorem dX12_passes_14 : decode cX12_passes 14 = .ok (.ireturn, 1) := by decide +kernel
theorem dX12_passes_15 : decode cX12_passes 15 = .ok (.aload_n 0, 1) := by decide +kernel
theorem dX12_passes_16 : decode cX12_passes 16 = .ok (.invokevirtual 346, 3) := by decide +kernel
theorem dX12_passes_19 : decode cX12_passes 19 = .ok (.aload_n 0, 1) := by decide +kernel
theorem dX12_passes_20 : decode cX12_passes 20 = .ok (.iload_n 1, 1) := by decide +kernel
theorem dX12_passes_21 : decode cX12_passes 21 = .ok (.invokevirtual 399, 3) := by decide +kernel
theorem dX12_passes_24 : decode cX12_passes 24 = .ok (.ifCond .ne 7, 3) := by decide +kernel
theorem dX12_passes_27 : decode cX12_passes 27 = .ok (.iconst 1, 1) := by decide +kernel
theorem dX12_passes_28 : decode cX12_passes 28 = .ok (.goto 4, 3) := by decide +kernel
theorem dX12_passes_31 : decode cX12_passes 31 = .ok (.iconst 0, 1) := by decide +kernel
theorem dX12_passes_32 : decode cX12_passes 32 = .ok (.ireturn, 1) := by decide +kernel
theorem dX12_saysAye_0 : decode cX12_saysAye 0 = .ok (.aload_n 0, 1) := by decide +kernel
theorem dX12_saysAye_1 : decode cX12_saysAye 1 = .ok (.getfield 13, 3) := by decide +kernel
theorem dX12_saysAye_4 : decode cX12_saysAye 4 = .ok (.iconst 4, 1) := by decide +kernel
theorem dX12_saysAye_5 : decode cX12_saysAye 5 = .ok (.iaload, 1) := by decide +kernel
theorem dX12_saysAye_6 : decode cX12_saysAye 6 = .ok (.ifCond .ne 24, 3) := by decide +kernel
theorem dX12_saysAye_9 : decode cX12_saysAye 9 = .ok (.aload_n 0, 1) := by decide +kernel
theorem dX12_saysAye_10 : decode cX12_saysAye 10 = .ok (.getfield 13, 3) := by decide +kernel
theorem dX12_saysAye_13 : decode cX12_saysAye 13 = .ok (.bipush 54, 2) := by decide +kernel
theorem dX12_saysAye_15 : decode cX12_saysAye 15 = .ok (.iconst 3, 1) := by decide +kernel
theorem dX12_saysAye_16 : decode cX12_saysAye 16 = .ok (.iload_n 1, 1) := by decide +kernel
theorem dX12_saysAye_17 : decode cX12_saysAye 17 = .ok (.imul, 1) := by decide +kernel
theorem dX12_saysAye_18 : decode cX12_saysAye 18 = .ok (.iadd, 1) := by decide +kernel
theorem dX12_saysAye_19 : decode cX12_saysAye 19 = .ok (.iaload, 1) := by decide +kernel
theorem dX12_saysAye_20 : decode cX12_saysAye 20 = .ok (.iconst 4, 1) := by decide +kernel
theorem dX12_saysAye_21 : decode cX12_saysAye 21 = .ok (.if_icmp .le 7, 3) := by decide +kernel
theorem dX12_saysAye_24 : decode cX12_saysAye 24 = .ok (.iconst 1, 1) := by decide +kernel
theorem dX12_saysAye_25 : decode cX12_saysAye 25 = .ok (.goto 4, 3) := by decide +kernel
theorem dX12_saysAye_28 : decode cX12_saysAye 28 = .ok (.iconst 0, 1) := by decide +kernel
theorem dX12_saysAye_29 : decode cX12_saysAye 29 = .ok (.ireturn, 1) := by decide +kernel
theorem dX12_saysAye_30 : decode cX12_saysAye 30 = .ok (.aload_n 0, 1) := by decide +kernel
theorem dX12_saysAye_31 : decode cX12_saysAye 31 = .ok (.iload_n 1, 1) := by decide +kernel
theorem dX12_saysAye_32 : decode cX12_saysAye 32 = .ok (.iload_n 1, 1) := by decide +kernel
theorem dX12_saysAye_33 : decode cX12_saysAye 33 = .ok (.aload_n 0, 1) := by decide +kernel
theorem dX12_saysAye_34 : decode cX12_saysAye 34 = .ok (.getfield 13, 3) := by decide +kernel
theorem dX12_saysAye_37 : decode cX12_saysAye 37 = .ok (.bipush 52, 2) := by decide +kernel
theorem dX12_saysAye_39 : decode cX12_saysAye 39 = .ok (.iaload, 1) := by decide +kernel
theorem dX12_saysAye_40 : decode cX12_saysAye 40 = .ok (.invokevirtual 231, 3) := by decide +kernel
theorem dX12_saysAye_43 : decode cX12_saysAye 43 = .ok (.aload_n 0, 1) := by decide +kernel
theorem dX12_saysAye_44 : decode cX12_saysAye 44 = .ok (.getfield 33, 3) := by decide +kernel
theorem dX12_saysAye_47 : decode cX12_saysAye 47 = .ok (.bipush 9, 2) := by decide +kernel
theorem dX12_saysAye_49 : decode cX12_saysAye 49 = .ok (.iload_n 2, 1) := by decide +kernel
theorem dX12_saysAye_50 : decode cX12_saysAye 50 = .ok (.iastore, 1) := by decide +kernel
theorem dX12_saysAye_51 : decode cX12_saysAye 51 = .ok (.aload_n 0, 1) := by decide +kernel
theorem dX12_saysAye_52 : decode cX12_saysAye 52 = .ok (.iconst 1, 1) := by decide +kernel
theorem dX12_saysAye_53 : decode cX12_saysAye 53 = .ok (.invokevirtual 235, 3) := by decide +kernel
theorem dX12_saysAye_56 : decode cX12_saysAye 56 = .ok (.iconst 1, 1) := by decide +kernel
theorem dX12_saysAye_57 : decode cX12_saysAye 57 = .ok (.if_icmp .ne 7, 3) := by decide +kernel
theorem dX12_saysAye_60 : decode cX12_saysAye 60 = .ok (.iconst 1, 1) := by decide +kernel
theorem dX12_saysAye_61 : decode cX12_saysAye 61 = .ok (.goto 4, 3) := by decide +kernel
theorem dX12_saysAye_64 : decode cX12_saysAye 64 = .ok (.iconst 0, 1) := by decide +kernel
theorem dX12_saysAye_65 : decode cX12_saysAye 65 = .ok (.ireturn, 1) := by decide +kernel
theorem dX12_talkBy_0 : decode cX12_talkBy 0 = .ok (.aload_n 0, 1) := by decide +kernel
theorem dX12_talkBy_1 : decode cX12_talkBy 1 = .ok (.iconst 0, 1) := by decide +kernel
theorem dX12_talkBy_2 : decode cX12_talkBy 2 = .ok (.putfield 1, 3) := by decide +kernel
theorem dX12_talkBy_5 : decode cX12_talkBy 5 = .ok (.aload_n 0, 1) := by decide +kernel
theorem dX12_talkBy_6 : decode cX12_talkBy 6 = .ok (.iload_n 1, 1) := by decide +kernel
theorem dX12_talkBy_7 : decode cX12_talkBy 7 = .ok (.iload_n 2, 1) := by decide +kernel
theorem dX12_talkBy_8 : decode cX12_talkBy 8 = .ok (.invokevirtual 384, 3) := by decide +kernel
theorem dX12_talkBy_11 : decode cX12_talkBy 11 = .ok (.ifCond .ne 6, 3) := by decide +kernel
theorem dX12_talkBy_14 : decode cX12_talkBy 14 = .ok (.bipush (-2), 2) := by decide +kernel
theorem dX12_talkBy_16 : decode cX12_talkBy 16 = .ok (.ireturn, 1) := by decide +kernel
theorem dX12_talkBy_17 : decode cX12_talkBy 17 = .ok (.iload_n 3, 1) := by decide +kernel
theorem dX12_talkBy_18 : decode cX12_talkBy 18 = .ok (.ifCond .ge 6, 3) := by decide +kernel
theorem dX12_talkBy_21 : decode cX12_talkBy 21 = .ok (.bipush (-3), 2) := by decide +kernel
theorem dX12_talkBy_23 : decode cX12_talkBy 23 = .ok (.ireturn, 1) := by decide +kernel
theorem dX12_talkBy_24 : decode cX12_talkBy 24 = .ok (.aload_n 0, 1) := by decide +kernel
theorem dX12_talkBy_25 : decode cX12_talkBy 25 = .ok (.iload_n 1, 1) := by decide +kernel
theorem dX12_talkBy_26 : decode cX12_talkBy 26 = .ok (.iload_n 2, 1) := by decide +kernel
theorem dX12_talkBy_27 : decode cX12_talkBy 27 = .ok (.invokevirtual 387, 3) := by decide +kernel
theorem dX12_talkBy_30 : decode cX12_talkBy 30 = .ok (.istore 4, 2) := by decide +kernel
theorem dX12_talkBy_32 : decode cX12_talkBy 32 = .ok (.iload_n 3, 1) := by decide +kernel
theorem dX12_talkBy_33 : decode cX12_talkBy 33 = .ok (.iload 4, 2) := by decide +kernel
theorem dX12_talkBy_35 : decode cX12_talkBy 35 = .ok (.if_icmp .ge 12, 3) := by decide +kernel
theorem dX12_talkBy_38 : decode cX12_talkBy 38 = .ok (.aload_n 0, 1) := by decide +kernel
theorem dX12_talkBy_39 : decode cX12_talkBy 39 = .ok (.getfield 63, 3) := by decide +kernel
theorem dX12_talkBy_42 : decode cX12_talkBy 42 = .ok (.iload_n 3, 1) := by decide +kernel
theorem dX12_talkBy_43 : decode cX12_talkBy 43 = .ok (.iaload, 1) := by decide +kernel
theorem dX12_talkBy_44 : decode cX12_talkBy 44 = .ok (.goto 4, 3) := by decide +kernel
theorem dX12_talkBy_47 : decode cX12_talkBy 47 = .ok (.iconst (-1), 1) := by decide +kernel
theorem dX12_talkBy_48 : decode cX12_talkBy 48 = .ok (.ireturn, 1) := by decide +kernel
theorem dX12_talks_0 : decode cX12_talks 0 = .ok (.aload_n 0, 1) := by decide +kernel
theorem dX12_talks_1 : decode cX12_talks 1 = .ok (.iconst 0, 1) := by decide +kernel
theorem dX12_talks_2 : decode cX12_talks 2 = .ok (.putfield 1, 3) := by decide +kernel
theorem dX12_talks_5 : decode cX12_talks 5 = .ok (.aload_n 0, 1) := by decide +kernel
theorem dX12_talks_6 : decode cX12_talks 6 = .ok (.iload_n 1, 1) := by decide +kernel
theorem dX12_talks_7 : decode cX12_talks 7 = .ok (.iload_n 2, 1) := by decide +kernel
theorem dX12_talks_8 : decode cX12_talks 8 = .ok (.invokevirtual 384, 3) := by decide +kernel
theorem dX12_talks_11 : decode cX12_talks 11 = .ok (.ifCond .eq 12, 3) := by decide +kernel
theorem dX12_talks_14 : decode cX12_talks 14 = .ok (.aload_n 0, 1) := by decide +kernel
theorem dX12_talks_15 : decode cX12_talks 15 = .ok (.iload_n 1, 1) := by decide +kernel
theorem dX12_talks_16 : decode cX12_talks 16 = .ok (.iload_n 2, 1) := by decide +kernel
theorem dX12_talks_17 : decode cX12_talks 17 = .ok (.invokevirtual 387, 3) := by decide +kernel
theorem dX12_talks_20 : decode cX12_talks 20 = .ok (.goto 5, 3) := by decide +kernel
theorem dX12_talks_23 : decode cX12_talks 23 = .ok (.bipush (-2), 2) := by decide +kernel
theorem dX12_talks_25 : decode cX12_talks 25 = .ok (.ireturn, 1) := by decide +kernel
theorem dX12_word_0 : decode cX12_word 0 = .ok (.aload_n 0, 1) := by decide +kernel
theorem dX12_word_1 : decode cX12_word 1 = .ok (.iconst 0, 1) := by decide +kernel
theorem dX12_word_2 : decode cX12_word 2 = .ok (.putfield 1, 3) := by decide +kernel
theorem dX12_word_5 : decode cX12_word 5 = .ok (.aload_n 0, 1) := by decide +kernel
theorem dX12_word_6 : decode cX12_word 6 = .ok (.aload_n 0, 1) := by decide +kernel
theorem dX12_word_7 : decode cX12_word 7 = .ok (.invokevirtual 255, 3) := by decide +kernel
theorem dX12_word_10 : decode cX12_word 10 = .ok (.invokevirtual 319, 3) := by decide +kernel
theorem dX12_word_13 : decode cX12_word 13 = .ok (.ifCond .eq 5, 3) := by decide +kernel
theorem dX12_word_16 : decode cX12_word 16 = .ok (.iconst (-1), 1) := by decide +kernel
theorem dX12_word_17 : decode cX12_word 17 = .ok (.ireturn, 1) := by decide +kernel
theorem dX12_word_18 : decode cX12_word 18 = .ok (.iconst 0, 1) := by decide +kernel
theorem dX12_word_19 : decode cX12_word 19 = .ok (.istore_n 1, 1) := by decide +kernel
theorem dX12_word_20 : decode cX12_word 20 = .ok (.iload_n 1, 1) := by decide +kernel
theorem dX12_word_21 : decode cX12_word 21 = .ok (.aload_n 0, 1) := by decide +kernel
theorem dX12_word_22 : decode cX12_word 22 = .ok (.getfield 13, 3) := by decide +kernel
theorem dX12_word_25 : decode cX12_word 25 = .ok (.iconst 2, 1) := by decide +kernel
theorem dX12_word_26 : decode cX12_word 26 = .ok (.iaload, 1) := by decide +kernel
theorem dX12_word_27 : decode cX12_word 27 = .ok (.if_icmp .ge 81, 3) := by decide +kernel
theorem dX12_word_30 : decode cX12_word 30 = .ok (.iconst 0, 1) := by decide +kernel
theorem dX12_word_31 : decode cX12_word 31 = .ok (.istore_n 2, 1) := by decide +kernel
theorem dX12_word_32 : decode cX12_word 32 = .ok (.iload_n 2, 1) := by decide +kernel
theorem dX12_word_33 : decode cX12_word 33 = .ok (.aload_n 0, 1) := by decide +kernel
theorem dX12_word_34 : decode cX12_word 34 = .ok (.getfield 13, 3) := by decide +kernel
theorem dX12_word_37 : decode cX12_word 37 = .ok (.iconst 2, 1) := by decide +kernel
theorem dX12_word_38 : decode cX12_word 38 = .ok (.iaload, 1) := by decide +kernel
theorem dX12_word_39 : decode cX12_word 39 = .ok (.if_icmp .ge 63, 3) := by decide +kernel
theorem dX12_word_42 : decode cX12_word 42 = .ok (.aload_n 0, 1) := by decide +kernel
theorem dX12_word_43 : decode cX12_word 43 = .ok (.iload_n 1, 1) := by decide +kernel
theorem dX12_word_44 : decode cX12_word 44 = .ok (.i2l, 1) := by decide +kernel
theorem dX12_word_45 : decode cX12_word 45 = .ok (.iload_n 2, 1) := by decide +kernel
theorem dX12_word_46 : decode cX12_word 46 = .ok (.i2l, 1) := by decide +kernel
theorem dX12_word_47 : decode cX12_word 47 = .ok (.invokevirtual 263, 3) := by decide +kernel
theorem dX12_word_50 : decode cX12_word 50 = .ok (.ifCond .eq 6, 3) := by decide +kernel
theorem dX12_word_53 : decode cX12_word 53 = .ok (.goto 43, 3) := by decide +kernel
theorem dX12_word_56 : decode cX12_word 56 = .ok (.aload_n 0, 1) := by decide +kernel
theorem dX12_word_57 : decode cX12_word 57 = .ok (.iload_n 1, 1) := by decide +kernel
theorem dX12_word_58 : decode cX12_word 58 = .ok (.invokevirtual 375, 3) := by decide +kernel
theorem dX12_word_61 : decode cX12_word 61 = .ok (.istore_n 3, 1) := by decide +kernel
theorem dX12_word_62 : decode cX12_word 62 = .ok (.aload_n 0, 1) := by decide +kernel
theorem dX12_word_63 : decode cX12_word 63 = .ok (.iload_n 1, 1) := by decide +kernel
theorem dX12_word_64 : decode cX12_word 64 = .ok (.iload_n 2, 1) := by decide +kernel
theorem dX12_word_65 : decode cX12_word 65 = .ok (.invokevirtual 270, 3) := by decide +kernel
theorem dX12_word_68 : decode cX12_word 68 = .ok (.aload_n 0, 1) := by decide +kernel
theorem dX12_word_69 : decode cX12_word 69 = .ok (.aload_n 0, 1) := by decide +kernel
theorem dX12_word_70 : decode cX12_word 70 = .ok (.invokevirtual 255, 3) := by decide +kernel
theorem dX12_word_73 : decode cX12_word 73 = .ok (.invokevirtual 319, 3) := by decide +kernel
theorem dX12_word_76 : decode cX12_word 76 = .ok (.istore 4, 2) := by decide +kernel
theorem dX12_word_78 : decode cX12_word 78 = .ok (.aload_n 0, 1) := by decide +kernel
theorem dX12_word_79 : decode cX12_word 79 = .ok (.iload_n 1, 1) := by decide +kernel
theorem dX12_word_80 : decode cX12_word 80 = .ok (.iload_n 3, 1) := by decide +kernel
theorem dX12_word_81 : decode cX12_word 81 = .ok (.invokevirtual 378, 3) := by decide +kernel
theorem dX12_word_84 : decode cX12_word 84 = .ok (.iload 4, 2) := by decide +kernel
theorem dX12_word_86 : decode cX12_word 86 = .ok (.ifCond .eq 10, 3) := by decide +kernel
theorem dX12_word_89 : decode cX12_word 89 = .ok (.bipush 10, 2) := by decide +kernel
theorem dX12_word_91 : decode cX12_word 91 = .ok (.iload_n 1, 1) := by decide +kernel
theorem dX12_word_92 : decode cX12_word 92 = .ok (.imul, 1) := by decide +kernel
theorem dX12_word_93 : decode cX12_word 93 = .ok (.iload_n 2, 1) := by decide +kernel
theorem dX12_word_94 : decode cX12_word 94 = .ok (.iadd, 1) := by decide +kernel
theorem dX12_word_95 : decode cX12_word 95 = .ok (.ireturn, 1) := by decide +kernel
theorem dX12_word_96 : decode cX12_word 96 = .ok (.iinc 2 1, 3) := by decide +kernel
theorem dX12_word_99 : decode cX12_word 99 = .ok (.goto (-67), 3) := by decide +kernel
theorem dX12_word_102 : decode cX12_word 102 = .ok (.iinc 1 1, 3) := by decide +kernel
theorem dX12_word_105 : decode cX12_word 105 = .ok (.goto (-85), 3) := by decide +kernel
theorem dX12_word_108 : decode cX12_word 108 = .ok (.iconst (-1), 1) := by decide +kernel
theorem dX12_word_109 : decode cX12_word 109 = .ok (.ireturn, 1) := by decide +kernel
set_option maxHeartbeats 4000000 in
set_option maxRecDepth 100000 in
theorem gX12_laysTurning_b50106d (l : Launch) (D : va_G) (cy : Nat → ClassId) (h0 : Nat) (h1 : Nat) (h2 : Nat) (h3 : Nat) (h4 : Nat) (h5 : Nat) (h6 : Nat) (h7 : Nat) (h8 : Nat) (h9 : Nat) (p0 : Int32) (p1 : Int32) (p2 : Int32) (w0 : Value) (w1 : Value) (w2 : Value) (p3 : Int32) (p4 : Int32) (p5 : Int32) (p6 : Int32) (p7 : Int32) (p8 : Int32) (p9 : Int32) (p10 : Int32) (p11 : Int32) (p12 : Int32) (p13 : Int32) (w3 : Value) (w4 : Value) (p14 : Int32) (p15 : Int32) (w5 : Value) (w6 : Value) (w7 : Value) (p16 : Int32) (p17 : Int32) (p18 : Int32) (w8 : Value) (w9 : Value) (w10 : Value) (f0 : Nat → Int32) (p19 : Int32) (f1 : Nat → Int32) (f2 : Nat → Int32) (f3 : Nat → Int32) (f4 : Nat → Int32) (f5 : Nat → Int32) (f6 : Nat → Int32) (f7 : Nat → Int32) (f8 : Nat → Int32) (hp0 : 0 ≤ (p0).toInt ∧ (p0).toInt ≤ 9) (hp1 : 0 ≤ (p1).toInt ∧ (p1).toInt ≤ 9) (hp2 : 0 ≤ (p2).toInt ∧ (p2).toInt ≤ 0) (hp3 : 0 ≤ (p3).toInt ∧ (p3).toInt ≤ 900) (hp4 : 0 ≤ (p4).toInt ∧ (p4).toInt ≤ 900) (hp5 : 0 ≤ (p5).toInt ∧ (p5).toInt ≤ 900) (hp6 : 0 ≤ (p6).toInt ∧ (p6).toInt ≤ 900) (hp7 : (-2147483648) ≤ (p7).toInt ∧ (p7).toInt ≤ 2147483647) (hp8 : 0 ≤ (p8).toInt ∧ (p8).toInt ≤ 999) (hp9 : (-2147483648) ≤ (p9).toInt ∧ (p9).toInt ≤ 2147483647) (hp10 : (-2147483648) ≤ (p10).toInt ∧ (p10).toInt ≤ 2147483647) (hp11 : (-2147483648) ≤ (p11).toInt ∧ (p11).toInt ≤ 2147483647) (hp12 : (-2147483648) ≤ (p12).toInt ∧ (p12).toInt ≤ 2147483647) (hp13 : (-2147483648) ≤ (p13).toInt ∧ (p13).toInt ≤ 2147483647) (hp14 : (-2147483648) ≤ (p14).toInt ∧ (p14).toInt ≤ 2147483647) (hp15 : (-2147483648) ≤ (p15).toInt ∧ (p15).toInt ≤ 2147483647) (hp16 : (-2147483648) ≤ (p16).toInt ∧ (p16).toInt ≤ 2147483647) (hp17 : (-2147483648) ≤ (p17).toInt ∧ (p17).toInt ≤ 2147483647) (hp18 : (-2147483648) ≤ (p18).toInt ∧ (p18).toInt ≤ 2147483647) (hp19 : 0 ≤ (p19).toInt ∧ (p19).toInt ≤ 10) (htf0_84 : f0 84 = p19) (rf0 : AL f0) (rf3 : RG f3 3 0 9) (rf4 : RG f4 1000 0 999) (sz : Nat) : MI l yX12_laysTurning cX12_laysTurning 10 .int { frames := 4, cells := 0, slots := 0, locals := 96 } [.ref h0, .int p0, .int p1] D cy (wk_410b6a568 cy h0 p2 h1 w0 w1 w2 p3 p4 p5 p6 p7 p8 p9 p10 p11 p12 p13 h2 h3 h4 w3 w4 p14 p15 w5 w6 w7 p16 p17 h5 h6 h7 h8 h9 p18 w8 w9 w10 h1 f0 h2 f1 h3 f2 h4 f3 h5 f4 h6 f5 h7 f6 h8 f7 h9 f8) sz (fun r u => ((-1) ≤ r.toInt ∧ r.toInt ≤ 999) ∧ RG (u.2.1 2) 3 0 9 ∧ RG (u.2.1 3) 1000 0 999 ∧ ((-2147483648) ≤ (u.2.1 8 0).toInt ∧ (u.2.1 8 0).toInt ≤ 2147483647) ∧ AL (u.2.1 9) ∧ (u.2.1 9) 84 = p19 ∧ True) (fun u => (wk_410b6a568 cy h0 p2 h1 w0 w1 w2 p3 p4 p5 p6 p7 p8 p9 p10 p11 p12 p13 h2 h3 h4 w3 w4 p14 p15 w5 w6 w7 p16 p17 h5 h6 h7 h8 h9 (u.2.1 8 0) w8 w9 w10 h1 (u.2.1 9) h2 (u.2.1 0) h3 (u.2.1 1) h4 (u.2.1 2) h5 (u.2.1 3) h6 (u.2.1 4) h7 (u.2.1 5) h8 (u.2.1 6) h9 (u.2.1 7))) 0 0 := by
  refine q_ent (own := RX12) (by decide) rfl (Nat.le_of_ble_eq_true rfl) (fun p e s m below meth c ls X hr hlk hnm hK hT h hA hl => ?_)
  obtain ⟨hx, hb, hml, hown, ht⟩ := id X
  replace hl : lv_has ls 10 [(0, .ref h0), (1, .int p0), (2, .int p1)] := hl
  refine lv_iconst (v := 0) hx hb dX12_laysTurning_0 (by decide) ?_
  refine lv_istore_n (lv' := [(3, .int 0), (0, .ref h0), (1, .int p0), (2, .int p1)]) hx hb dX12_laysTurning_1 rfl hl (by decide) rfl (fun ls_1 hl_1 => ?_)
  clear hl
  refine q_wl (fun (v2_2_0 : Int32) H locs ls => ∃ v2_2_1 : Nat → Int32, (0 ≤ (v2_2_0).toInt ∧ (v2_2_0).toInt ≤ 1000) ∧ (ZF v2_2_1 (v2_2_0 : Int32).toInt) ∧ qW D (va_A (wk_410b6a568 cy h0 p2 h1 w0 w1 w2 p3 p4 p5 p6 p7 p8 p9 p10 p11 p12 p13 h2 h3 h4 w3 w4 p14 p15 w5 w6 w7 p16 p17 h5 h6 h7 h8 h9 p18 w8 w9 w10 h1 f0 h2 f1 h3 f2 h4 f3 h5 f4 h6 f5 h7 f6 h8 f7 h9 f8) sz) s.heap (wk_410b6a568 cy h0 p2 h1 w0 w1 w2 p3 p4 p5 p6 p7 p8 p9 p10 p11 p12 p13 h2 h3 h4 w3 w4 p14 p15 w5 w6 w7 p16 p17 h5 h6 h7 h8 h9 p18 w8 w9 w10 h1 f0 h2 f1 h3 f2 h4 f3 h5 f4 h6 f5 h7 f6 h8 f7 h9 v2_2_1) H locs ∧ lv_has ls 10 [(0, .ref h0), (1, .int p0), (2, .int p1), (3, .int v2_2_0)]) (fun (v2_2_0 : Int32) => (1001 - (v2_2_0).toInt).toNat) (fun q_2 ih_2 H locs ls hP => ?_) 0 ⟨f8, ⟨by decide +kernel, by decide +kernel⟩, (zf_0 (by have q0 : (0 : Int32).toInt = 0 := (by decide); omega)), h, (lv_sub hl_1 [1, 2, 3, 0] rfl)⟩
  obtain ⟨v2_2_0, rfl⟩ : ∃ z, z = q_2 := ⟨_, rfl⟩
  obtain ⟨v2_2_1, hv2_2_0, x3_0, h, hl⟩ := hP
  refine lv_iload_n hx hb dX12_laysTurning_2 rfl (lv_at hl 3 rfl) ?_
  refine lv_sipush (v := 1000) hx hb dX12_laysTurning_3 (by decide) ?_
  refine lv_icmp_ge (tgt := 22) hx hb dX12_laysTurning_6 (by decide) (fun c_4 => ?_) (fun c_4 => ?_)
  · replace c_4 := i_le (x := 1000) (y := v2_2_0) (show (1000 : Int32).toInt = 1000 by decide) rfl c_4
    refine lv_aload_n hx hb dX12_laysTurning_22 rfl (lv_at hl 0 rfl) ?_
    refine lv_iload_n hx hb dX12_laysTurning_23 rfl (lv_at hl 1 rfl) ?_
    refine q_callVi (rest := []) (wr := (wk_5ec465ffc cy h2 f1 h3 f2 h4 f3 h5 f4 h6 f5 h7 f6 h8 f7 h9 v2_2_1)) X hK hT hA h (fun sz => gX12_viewsOf_bc3d930 l D cy h0 h1 p0 p2 w0 w1 w2 p3 p4 p5 p6 p7 p8 p9 p10 p11 p12 p13 (.ref h2) (.ref h3) (.ref h4) w3 w4 p14 p15 w5 w6 w7 p16 p17 (.ref h5) (.ref h6) (.ref h7) (.ref h8) (.ref h9) p18 w8 w9 w10 f0 p19 hp0 hp2 hp3 hp4 hp5 hp6 (i_rng _) hp8 (i_rng _) (i_rng _) (i_rng _) (i_rng _) (i_rng _) (i_rng _) (i_rng _) (i_rng _) (i_rng _) (i_rng _) hp19 htf0_84 rf0 sz) wm_7_172 wm_7_175 wm_1_12 hd_X12_viewsOf wm_7_174 wp_7_10 (ci := 12) (q0 := 0) rfl rfl ⟨Nat.le_of_ble_eq_true rfl, Nat.le_of_ble_eq_true rfl⟩ hl.1 rfl (Nat.le_of_ble_eq_true rfl) dX12_laysTurning_24 ⟨Nat.le_of_ble_eq_true rfl, Nat.le_of_ble_eq_true rfl⟩ [0, 1] [2, 3, 4, 5, 6, 7, 8, 9] rfl rfl (by decide) rfl rfl (fun r_5 u_5 H locs w_5 h_5 => ?_)
    clear h
    obtain ⟨wr_5, _⟩ := w_5
    replace h_5 : qW D _ _ (wk_dcd050277 cy h2 f1 h3 f2 h4 f3 h5 f4 h6 f5 h7 f6 h8 f7 h9 v2_2_1 h0 p2 h1 w0 w1 w2 p3 p4 p5 p6 p7 p8 p9 p10 p11 p12 p13 h2 h3 h4 w3 w4 p14 p15 w5 w6 w7 p16 p17 h5 h6 h7 h8 h9 p18 w8 w9 w10 h1 f0) _ _ := h_5
    refine lv_istore_n (lv' := [(3, .int r_5), (0, .ref h0), (1, .int p0), (2, .int p1)]) hx hb dX12_laysTurning_27 rfl hl (by decide) rfl (fun ls_6 hl_6 => ?_)
    clear hl
    refine lv_aload_n hx hb dX12_laysTurning_28 rfl (lv_at hl_6 1 rfl) ?_
    refine q_callVi (rest := []) (wr := (wk_5ec465ffc cy h2 f1 h3 f2 h4 f3 h5 f4 h6 f5 h7 f6 h8 f7 h9 v2_2_1)) X hK hT hA h_5 (fun sz => gX12_townNow_2907b4b l D cy h0 h1 p2 w0 w1 w2 p3 p4 p5 p6 p7 p8 p9 p10 p11 p12 p13 (.ref h2) (.ref h3) (.ref h4) w3 w4 p14 p15 w5 w6 w7 p16 p17 (.ref h5) (.ref h6) (.ref h7) (.ref h8) (.ref h9) p18 w8 w9 w10 f0 p19 hp2 hp3 hp4 hp5 hp6 (i_rng _) hp8 (i_rng _) (i_rng _) (i_rng _) (i_rng _) (i_rng _) (i_rng _) (i_rng _) (i_rng _) (i_rng _) (i_rng _) hp19 htf0_84 rf0 sz) wm_6_170 wm_6_173 wm_1_12 hd_X12_townNow wm_6_172 wp_5_9 (ci := 12) (q0 := 0) rfl rfl ⟨Nat.le_of_ble_eq_true rfl, Nat.le_of_ble_eq_true rfl⟩ hl_6.1 rfl (Nat.le_of_ble_eq_true rfl) dX12_laysTurning_29 ⟨Nat.le_of_ble_eq_true rfl, Nat.le_of_ble_eq_true rfl⟩ [8, 9] [0, 1, 2, 3, 4, 5, 6, 7] rfl rfl (by decide) rfl rfl (fun r_7 u_7 H locs w_7 h_7 => ?_)
    clear h_5
    obtain ⟨wr_7, _⟩ := w_7
    replace h_7 : qW D _ _ (wk_dcd050277 cy h2 f1 h3 f2 h4 f3 h5 f4 h6 f5 h7 f6 h8 f7 h9 v2_2_1 h0 p2 h1 w0 w1 w2 p3 p4 p5 p6 p7 p8 p9 p10 p11 p12 p13 h2 h3 h4 w3 w4 p14 p15 w5 w6 w7 p16 p17 h5 h6 h7 h8 h9 p18 w8 w9 w10 h1 f0) _ _ := h_7
    refine lv_istore (lv' := [(4, .int r_7), (3, .int r_5), (0, .ref h0), (1, .int p0), (2, .int p1)]) hx hb dX12_laysTurning_32 hl_6 (by decide) rfl (fun ls_8 hl_8 => ?_)
    clear hl_6
    refine lv_aload_n hx hb dX12_laysTurning_34 rfl (lv_at hl_8 2 rfl) ?_
    refine q_get X hK h_7 8 rfl rfl wf_12 28 (by decide) rfl wm_5_198 dX12_laysTurning_35 ?_
    refine lv_iconst (v := 0) hx hb dX12_laysTurning_38 (by decide) ?_
    refine lv_iload_n hx hb dX12_laysTurning_39 rfl (lv_at hl_8 1 rfl) ?_
    refine q_iast X hK h_7 3 rfl (q_in (by decide +kernel)) dX12_laysTurning_40 (fun H locs h_10 => ?_)
    clear h_7
    replace h_10 : qW D _ _ (wk_dcd050277 cy h2 f1 h3 f2 h4 f3 h5 (upd f4 (Int32.toNatClampNeg 0) r_5) h6 f5 h7 f6 h8 f7 h9 v2_2_1 h0 p2 h1 w0 w1 w2 p3 p4 p5 p6 p7 p8 p9 p10 p11 p12 p13 h2 h3 h4 w3 w4 p14 p15 w5 w6 w7 p16 p17 h5 h6 h7 h8 h9 p18 w8 w9 w10 h1 f0) _ _ := h_10
    obtain ⟨F_9, eF_9, rF_9⟩ := rg_upd rf4 (Int32.toNatClampNeg 0) (x := r_5) rfl (by omega) (by omega)
    rw [eF_9] at h_10
    clear eF_9
    refine lv_aload_n hx hb dX12_laysTurning_41 rfl (lv_at hl_8 2 rfl) ?_
    refine q_get X hK h_10 8 rfl rfl wf_12 30 (by decide) rfl wm_5_200 dX12_laysTurning_42 ?_
    refine lv_iconst (v := 0) hx hb dX12_laysTurning_45 (by decide) ?_
    refine lv_iconst (v := (-1)) hx hb dX12_laysTurning_46 (by decide) ?_
    refine q_iast X hK h_10 5 rfl (q_in (by decide +kernel)) dX12_laysTurning_47 (fun H locs h_12 => ?_)
    clear h_10
    replace h_12 : qW D _ _ (wk_dcd050277 cy h2 f1 h3 f2 h4 f3 h5 F_9 h6 f5 h7 (upd f6 (Int32.toNatClampNeg 0) (-1)) h8 f7 h9 v2_2_1 h0 p2 h1 w0 w1 w2 p3 p4 p5 p6 p7 p8 p9 p10 p11 p12 p13 h2 h3 h4 w3 w4 p14 p15 w5 w6 w7 p16 p17 h5 h6 h7 h8 h9 p18 w8 w9 w10 h1 f0) _ _ := h_12
    obtain ⟨F_11, eF_11⟩ : ∃ z, (upd f6 (Int32.toNatClampNeg 0) (-1)) = z := ⟨_, rfl⟩
    rw [eF_11] at h_12
    refine lv_aload_n hx hb dX12_laysTurning_48 rfl (lv_at hl_8 2 rfl) ?_
    refine q_get X hK h_12 8 rfl rfl wf_12 32 (by decide) rfl wm_5_202 dX12_laysTurning_49 ?_
    refine lv_iload_n hx hb dX12_laysTurning_52 rfl (lv_at hl_8 1 rfl) ?_
    refine lv_iconst (v := 1) hx hb dX12_laysTurning_53 (by decide) ?_
    refine q_zast X hK h_12 7 rfl (i_in rfl (by omega) (by omega)) dX12_laysTurning_54 (fun H locs h_14 => ?_)
    clear h_12
    replace h_14 : qW D _ _ (wk_dcd050277 cy h2 f1 h3 f2 h4 f3 h5 F_9 h6 f5 h7 F_11 h8 f7 h9 (upd v2_2_1 (Int32.toNatClampNeg r_5) (vp_nar .boolean 1)) h0 p2 h1 w0 w1 w2 p3 p4 p5 p6 p7 p8 p9 p10 p11 p12 p13 h2 h3 h4 w3 w4 p14 p15 w5 w6 w7 p16 p17 h5 h6 h7 h8 h9 p18 w8 w9 w10 h1 f0) _ _ := h_14
    obtain ⟨F_13, eF_13⟩ : ∃ z, (upd v2_2_1 (Int32.toNatClampNeg r_5) (vp_nar .boolean 1)) = z := ⟨_, rfl⟩
    rw [eF_13] at h_14
    have mt_a := mt_0 (zf_le x3_0 (by omega)) (by omega) (by omega) eF_13 eF_11 (by decide)
    refine lv_iconst (v := 1) hx hb dX12_laysTurning_55 (by decide) ?_
    refine lv_istore (lv' := [(5, .int 1), (4, .int r_7), (3, .int r_5), (0, .ref h0), (1, .int p0), (2, .int p1)]) hx hb dX12_laysTurning_56 hl_8 (by decide) rfl (fun ls_15 hl_15 => ?_)
    clear hl_8
    refine lv_iconst (v := (-1)) hx hb dX12_laysTurning_58 (by decide) ?_
    refine lv_istore (lv' := [(6, .int (-1)), (5, .int 1), (4, .int r_7), (3, .int r_5), (0, .ref h0), (1, .int p0), (2, .int p1)]) hx hb dX12_laysTurning_59 hl_15 (by decide) rfl (fun ls_16 hl_16 => ?_)
    clear hl_15
    refine lv_iconst (v := 0) hx hb dX12_laysTurning_61 (by decide) ?_
    refine lv_istore (lv' := [(7, .int 0), (6, .int (-1)), (5, .int 1), (4, .int r_7), (3, .int r_5), (0, .ref h0), (1, .int p0), (2, .int p1)]) hx hb dX12_laysTurning_62 hl_16 (by decide) rfl (fun ls_17 hl_17 => ?_)
    clear hl_16
    refine q_wl (fun (q : Int32 × Int32 × Int32) H locs ls => match q with | (v64_18_0, v64_18_1, v64_18_2) => ∃ v64_18_3 : Nat → Int32, ∃ v64_18_4 : Nat → Int32, ∃ v64_18_5 : Nat → Int32, ∃ v64_18_6 : Nat → Int32, ∃ v64_18_7 : Nat → Int32, ∃ v64_18_8 : Nat → Int32, ∃ v64_18_9 : Nat → Int32, ∃ v64_18_10 : Nat → Int32, (0 ≤ (v64_18_0).toInt ∧ (v64_18_0).toInt ≤ 1000) ∧ (1 ≤ (v64_18_1).toInt ∧ (v64_18_1).toInt ≤ 1000) ∧ ((-1) ≤ (v64_18_2).toInt ∧ (v64_18_2).toInt ≤ 999) ∧ RG v64_18_3 3 0 9 ∧ RG v64_18_4 1000 0 999 ∧ v64_18_8 84 = p19 ∧ AL v64_18_8 ∧ (MT v64_18_7 v64_18_6 (v64_18_1 : Int32).toInt) ∧ ((v64_18_2 : Int32).toInt = -1 ∨ (0 ≤ (v64_18_2 : Int32).toInt ∧ (v64_18_2 : Int32).toInt < (v64_18_1 : Int32).toInt)) ∧ qW D (va_A (wk_410b6a568 cy h0 p2 h1 w0 w1 w2 p3 p4 p5 p6 p7 p8 p9 p10 p11 p12 p13 h2 h3 h4 w3 w4 p14 p15 w5 w6 w7 p16 p17 h5 h6 h7 h8 h9 p18 w8 w9 w10 h1 f0 h2 f1 h3 f2 h4 f3 h5 f4 h6 f5 h7 f6 h8 f7 h9 f8) sz) s.heap (wk_dcd050277 cy h2 v64_18_9 h3 v64_18_10 h4 v64_18_3 h5 v64_18_4 h6 v64_18_5 h7 v64_18_6 h8 f7 h9 v64_18_7 h0 p2 h1 w0 w1 w2 p3 p4 p5 p6 p7 p8 p9 p10 p11 p12 p13 h2 h3 h4 w3 w4 p14 p15 w5 w6 w7 p16 p17 h5 h6 h7 h8 h9 p18 w8 w9 w10 h1 v64_18_8) H locs ∧ lv_has ls 10 [(0, .ref h0), (1, .int p0), (2, .int p1), (3, .int r_5), (4, .int r_7), (5, .int v64_18_1), (6, .int v64_18_2), (7, .int v64_18_0)]) (fun (q : Int32 × Int32 × Int32) => match q with | (v64_18_0, v64_18_1, v64_18_2) => (1001 - (v64_18_0).toInt).toNat) (fun q_64 ih_64 H locs ls hP => ?_) (0, 1, (-1)) ⟨f3, F_9, f5, F_11, F_13, f0, f1, f2, ⟨by decide +kernel, by decide +kernel⟩, ⟨by decide +kernel, by decide +kernel⟩, ⟨by decide +kernel, by decide +kernel⟩, (rg_wide rf3 (by decide) (by decide)), (rg_wide rF_9 (by decide) (by decide)), htf0_84, rf0, (mt_n mt_a (by have q0 : (1 : Int32).toInt = 1 := (by decide); omega)), (by have q0 : ((-1) : Int32).toInt = -1 := (by decide); have q1 : (1 : Int32).toInt = 1 := (by decide); omega), h_14, (lv_sub hl_17 [5, 6, 7, 4, 3, 2, 1, 0] rfl)⟩
    obtain ⟨v64_18_0, v64_18_1, v64_18_2⟩ := q_64
    obtain ⟨v64_18_3, v64_18_4, v64_18_5, v64_18_6, v64_18_7, v64_18_8, v64_18_9, v64_18_10, hv64_18_0, hv64_18_1, hv64_18_2, rv64_18_3, rv64_18_4, trv64_18_8_84, rv64_18_8, x19_0, x20_1, h, hl⟩ := hP
    refine lv_iload hx hb dX12_laysTurning_64 (lv_at hl 7 rfl) ?_
    refine lv_iload hx hb dX12_laysTurning_66 (lv_at hl 5 rfl) ?_
    refine q_jn (pc2 := 242) (fun H locs ls st => (MT v64_18_7 v64_18_6 (v64_18_1 : Int32).toInt) ∧ ((v64_18_2 : Int32).toInt = -1 ∨ (0 ≤ (v64_18_2 : Int32).toInt ∧ (v64_18_2 : Int32).toInt < (v64_18_1 : Int32).toInt)) ∧ st = [] ∧ qW D (va_A (wk_410b6a568 cy h0 p2 h1 w0 w1 w2 p3 p4 p5 p6 p7 p8 p9 p10 p11 p12 p13 h2 h3 h4 w3 w4 p14 p15 w5 w6 w7 p16 p17 h5 h6 h7 h8 h9 p18 w8 w9 w10 h1 f0 h2 f1 h3 f2 h4 f3 h5 f4 h6 f5 h7 f6 h8 f7 h9 f8) sz) s.heap (wk_dcd050277 cy h2 v64_18_9 h3 v64_18_10 h4 v64_18_3 h5 v64_18_4 h6 v64_18_5 h7 v64_18_6 h8 f7 h9 v64_18_7 h0 p2 h1 w0 w1 w2 p3 p4 p5 p6 p7 p8 p9 p10 p11 p12 p13 h2 h3 h4 w3 w4 p14 p15 w5 w6 w7 p16 p17 h5 h6 h7 h8 h9 p18 w8 w9 w10 h1 v64_18_8) H locs ∧ lv_has ls 10 [(0, .ref h0), (1, .int p0), (2, .int p1), (3, .int r_5), (4, .int r_7), (5, .int v64_18_1), (6, .int v64_18_2), (7, .int v64_18_0)]) (fun H locs ls st hP => ?_) (fun J_242 => ?_)
    · obtain ⟨x22_0, x23_1, rfl, h, hl⟩ := hP
      refine lv_aload_n hx hb dX12_laysTurning_242 rfl (lv_at hl 0 rfl) ?_
      refine lv_iload_n hx hb dX12_laysTurning_243 rfl (lv_at hl 1 rfl) ?_
      refine lv_iload_n hx hb dX12_laysTurning_244 rfl (lv_at hl 3 rfl) ?_
      refine q_callVv (rest := []) (wr := (wk_5ec465ffc cy h2 v64_18_9 h3 v64_18_10 h4 v64_18_3 h5 v64_18_4 h6 v64_18_5 h7 v64_18_6 h8 f7 h9 v64_18_7)) X hK hT hA h (fun sz => gX12_puts_2de0910 l D cy h0 h1 p0 r_5 p2 w0 w1 w2 p3 p4 p5 p6 p7 p8 p9 p10 p11 p12 p13 (.ref h2) (.ref h3) (.ref h4) w3 w4 p14 p15 w5 w6 w7 p16 p17 (.ref h5) (.ref h6) (.ref h7) (.ref h8) (.ref h9) p18 w8 w9 w10 v64_18_8 p19 hp0 wr_5 hp2 hp3 hp4 hp5 hp6 (i_rng _) hp8 (i_rng _) (i_rng _) (i_rng _) (i_rng _) (i_rng _) (i_rng _) (i_rng _) (i_rng _) (i_rng _) (i_rng _) hp19 trv64_18_8_84 rv64_18_8 sz) wm_7_176 wm_7_179 wm_1_12 hd_X12_puts wm_7_178 wp_7_11 (ci := 12) (q0 := 0) rfl rfl ⟨Nat.le_of_ble_eq_true rfl, Nat.le_of_ble_eq_true rfl⟩ hl.1 rfl (Nat.le_of_ble_eq_true rfl) dX12_laysTurning_245 ⟨Nat.le_of_ble_eq_true rfl, Nat.le_of_ble_eq_true rfl⟩ [8, 9] [0, 1, 2, 3, 4, 5, 6, 7] rfl rfl (by decide) rfl rfl (fun u_24 H locs w_24 h_24 => ?_)
      clear h
      obtain ⟨w24_0, w24_1, _⟩ := w_24
      replace h_24 : qW D _ _ (wk_dcd050277 cy h2 v64_18_9 h3 v64_18_10 h4 v64_18_3 h5 v64_18_4 h6 v64_18_5 h7 v64_18_6 h8 f7 h9 v64_18_7 h0 p2 h1 w0 w1 w2 p3 p4 p5 p6 p7 p8 p9 p10 p11 p12 p13 h2 h3 h4 w3 w4 p14 p15 w5 w6 w7 p16 p17 h5 h6 h7 h8 h9 p18 w8 w9 w10 h1 (u_24.2.1 0)) _ _ := h_24
      refine lv_iload hx hb dX12_laysTurning_248 (lv_at hl 6 rfl) ?_
      refine lv_iconst (v := (-1)) hx hb dX12_laysTurning_250 (by decide) ?_
      refine lv_icmp_ne (tgt := 256) hx hb dX12_laysTurning_251 (by decide) (fun c_25 => ?_) (fun c_25 => ?_)
      · replace c_25 := i_ne (x := v64_18_2) (y := (-1)) rfl (show ((-1) : Int32).toInt = -1 by decide) c_25
        have le_26 := ln_end x22_0 (by omega) (by omega) (k := v64_18_2)
        refine lv_aload_n hx hb dX12_laysTurning_256 rfl (lv_at hl 0 rfl) ?_
        refine lv_iconst (v := 0) hx hb dX12_laysTurning_257 (by decide) ?_
        refine q_put (v := .int 0) X hK h_24 8 rfl rfl wf_12 tyX12 tyX12_ok nmX12 33 (by decide) wm_5_203 rfl rfl rfl (Nat.le_of_ble_eq_true rfl) dX12_laysTurning_258 (fun H locs h_27 => ?_)
        clear h_24
        replace h_27 : qW D _ _ (wk_dcd050277 cy h2 v64_18_9 h3 v64_18_10 h4 v64_18_3 h5 v64_18_4 h6 v64_18_5 h7 v64_18_6 h8 f7 h9 v64_18_7 h0 p2 h1 w0 w1 w2 p3 p4 p5 p6 p7 p8 p9 p10 p11 p12 p13 h2 h3 h4 w3 w4 p14 p15 w5 w6 w7 p16 p17 h5 h6 h7 h8 h9 0 w8 w9 w10 h1 (u_24.2.1 0)) _ _ := h_27
        refine lv_iload hx hb dX12_laysTurning_261 (lv_at hl 6 rfl) ?_
        refine lv_istore (lv' := [(7, .int v64_18_2), (0, .ref h0), (1, .int p0), (2, .int p1), (3, .int r_5), (4, .int r_7), (5, .int v64_18_1), (6, .int v64_18_2)]) hx hb dX12_laysTurning_263 hl (by decide) rfl (fun ls_28 hl_28 => ?_)
        clear hl
        refine q_wl (fun (q : Int32 × Int32) H locs ls => match q with | (v265_29_0, v265_29_1) => (0 ≤ (v265_29_0).toInt ∧ (v265_29_0).toInt ≤ 999) ∧ (0 ≤ (v265_29_1).toInt ∧ (v265_29_1).toInt ≤ 999) ∧ (0 ≤ (v265_29_0 : Int32).toInt ∧ (v265_29_0 : Int32).toInt < (v64_18_1 : Int32).toInt ∧ 0 ≤ (v265_29_1 : Int32).toInt ∧ (v265_29_1 : Int32).toInt + (Ln v64_18_6 (v265_29_0 : Int32).toNatClampNeg : Int) = (Ln v64_18_6 (v64_18_2 : Int32).toNatClampNeg : Int)) ∧ qW D (va_A (wk_410b6a568 cy h0 p2 h1 w0 w1 w2 p3 p4 p5 p6 p7 p8 p9 p10 p11 p12 p13 h2 h3 h4 w3 w4 p14 p15 w5 w6 w7 p16 p17 h5 h6 h7 h8 h9 p18 w8 w9 w10 h1 f0 h2 f1 h3 f2 h4 f3 h5 f4 h6 f5 h7 f6 h8 f7 h9 f8) sz) s.heap (wk_dcd050277 cy h2 v64_18_9 h3 v64_18_10 h4 v64_18_3 h5 v64_18_4 h6 v64_18_5 h7 v64_18_6 h8 f7 h9 v64_18_7 h0 p2 h1 w0 w1 w2 p3 p4 p5 p6 p7 p8 p9 p10 p11 p12 p13 h2 h3 h4 w3 w4 p14 p15 w5 w6 w7 p16 p17 h5 h6 h7 h8 h9 v265_29_1 w8 w9 w10 h1 (u_24.2.1 0)) H locs ∧ lv_has ls 10 [(0, .ref h0), (1, .int p0), (2, .int p1), (3, .int r_5), (4, .int r_7), (5, .int v64_18_1), (6, .int v64_18_2), (7, .int v265_29_0)]) (fun (q : Int32 × Int32) => match q with | (v265_29_0, v265_29_1) => ((v265_29_0).toInt).toNat) (fun q_265 ih_265 H locs ls hP => ?_) (v64_18_2, 0) ⟨⟨by omega, by omega⟩, ⟨by decide +kernel, by decide +kernel⟩, (by have q0 : (0 : Int32).toInt = 0 := (by decide); (first | (clear x23_1; omega) | omega)), h_27, (lv_sub hl_28 [1, 2, 3, 4, 5, 6, 7, 0] rfl)⟩
        obtain ⟨v265_29_0, v265_29_1⟩ := q_265
        obtain ⟨hv265_29_0, hv265_29_1, x30_0, h, hl⟩ := hP
        refine lv_aload_n hx hb dX12_laysTurning_265 rfl (lv_at hl 0 rfl) ?_
        refine q_get X hK h 8 rfl rfl wf_12 30 (by decide) rfl wm_5_200 dX12_laysTurning_266 ?_
        refine lv_iload hx hb dX12_laysTurning_269 (lv_at hl 7 rfl) ?_
        refine q_iald X hK h 5 rfl (i_in rfl (by omega) (by omega)) dX12_laysTurning_271 ?_
        obtain ⟨z_31, ez_31, hz_31⟩ := e_any (v64_18_6 v265_29_0.toNatClampNeg)
        refine q_c z_31 ez_31 ?_
        refine lv_iconst (v := (-1)) hx hb dX12_laysTurning_272 (by decide) ?_
        refine lv_icmp_eq (tgt := 298) hx hb dX12_laysTurning_273 (by decide) (fun c_32 => ?_) (fun c_32 => ?_)
        · replace c_32 := i_eq (x := z_31) (y := (-1)) rfl (show ((-1) : Int32).toInt = -1 by decide) c_32
          have lz_33 : Ln v64_18_6 (v265_29_0 : Int32).toNatClampNeg = 0 := by show (if (v64_18_6 (v265_29_0 : Int32).toNatClampNeg).toInt = -1 then 0 else _) = 0; rw [ez_31, if_pos (by omega)]
          refine lv_aload_n hx hb dX12_laysTurning_298 rfl (lv_at hl 0 rfl) ?_
          refine q_get X hK h 8 rfl rfl wf_12 33 (by decide) rfl wm_5_203 dX12_laysTurning_299 ?_
          refine lv_istore (lv' := [(7, .int v265_29_1), (0, .ref h0), (1, .int p0), (2, .int p1), (3, .int r_5), (4, .int r_7), (5, .int v64_18_1), (6, .int v64_18_2)]) hx hb dX12_laysTurning_302 hl (by decide) rfl (fun ls_34 hl_34 => ?_)
          clear hl
          refine lv_iload hx hb dX12_laysTurning_304 (lv_at hl_34 7 rfl) ?_
          refine lv_istore (lv' := [(8, .int v64_18_2), (7, .int v265_29_1), (0, .ref h0), (1, .int p0), (2, .int p1), (3, .int r_5), (4, .int r_7), (5, .int v64_18_1), (6, .int v64_18_2)]) hx hb dX12_laysTurning_306 hl_34 (by decide) rfl (fun ls_35 hl_35 => ?_)
          clear hl_34
          refine q_wl (fun (q : Int32 × Int32) H locs ls => match q with | (v308_36_0, v308_36_1) => ∃ v308_36_2 : Nat → Int32, (0 ≤ (v308_36_0).toInt ∧ (v308_36_0).toInt ≤ 999) ∧ (0 ≤ (v308_36_1).toInt ∧ (v308_36_1).toInt ≤ 999) ∧ (0 ≤ (v308_36_0 : Int32).toInt ∧ (v308_36_0 : Int32).toInt < (v64_18_1 : Int32).toInt ∧ (v308_36_1 : Int32).toInt = (Ln v64_18_6 (v308_36_0 : Int32).toNatClampNeg : Int)) ∧ qW D (va_A (wk_410b6a568 cy h0 p2 h1 w0 w1 w2 p3 p4 p5 p6 p7 p8 p9 p10 p11 p12 p13 h2 h3 h4 w3 w4 p14 p15 w5 w6 w7 p16 p17 h5 h6 h7 h8 h9 p18 w8 w9 w10 h1 f0 h2 f1 h3 f2 h4 f3 h5 f4 h6 f5 h7 f6 h8 f7 h9 f8) sz) s.heap (wk_dcd050277 cy h2 v64_18_9 h3 v64_18_10 h4 v64_18_3 h5 v64_18_4 h6 v64_18_5 h7 v64_18_6 h8 v308_36_2 h9 v64_18_7 h0 p2 h1 w0 w1 w2 p3 p4 p5 p6 p7 p8 p9 p10 p11 p12 p13 h2 h3 h4 w3 w4 p14 p15 w5 w6 w7 p16 p17 h5 h6 h7 h8 h9 v265_29_1 w8 w9 w10 h1 (u_24.2.1 0)) H locs ∧ lv_has ls 10 [(0, .ref h0), (1, .int p0), (2, .int p1), (3, .int r_5), (4, .int r_7), (5, .int v64_18_1), (6, .int v64_18_2), (7, .int v308_36_1), (8, .int v308_36_0)]) (fun (q : Int32 × Int32) => match q with | (v308_36_0, v308_36_1) => ((v308_36_0).toInt).toNat) (fun q_308 ih_308 H locs ls hP => ?_) (v64_18_2, v265_29_1) ⟨f7, ⟨by omega, by omega⟩, hv265_29_1, (by (first | (clear x23_1; omega) | omega)), h, (lv_sub hl_35 [2, 3, 4, 5, 6, 7, 8, 1, 0] rfl)⟩
          obtain ⟨v308_36_0, v308_36_1⟩ := q_308
          obtain ⟨v308_36_2, hv308_36_0, hv308_36_1, x37_0, h, hl⟩ := hP
          refine lv_aload_n hx hb dX12_laysTurning_308 rfl (lv_at hl 0 rfl) ?_
          refine q_get X hK h 8 rfl rfl wf_12 30 (by decide) rfl wm_5_200 dX12_laysTurning_309 ?_
          refine lv_iload hx hb dX12_laysTurning_312 (lv_at hl 8 rfl) ?_
          refine q_iald X hK h 5 rfl (i_in rfl (by omega) (by omega)) dX12_laysTurning_314 ?_
          obtain ⟨z_38, ez_38, hz_38⟩ := e_any (v64_18_6 v308_36_0.toNatClampNeg)
          refine q_c z_38 ez_38 ?_
          refine lv_iconst (v := (-1)) hx hb dX12_laysTurning_315 (by decide) ?_
          refine lv_icmp_eq (tgt := 348) hx hb dX12_laysTurning_316 (by decide) (fun c_39 => ?_) (fun c_39 => ?_)
          · replace c_39 := i_eq (x := z_38) (y := (-1)) rfl (show ((-1) : Int32).toInt = -1 by decide) c_39
            refine lv_aload_n hx hb dX12_laysTurning_348 rfl (lv_at hl 0 rfl) ?_
            refine q_get X hK h 8 rfl rfl wf_12 33 (by decide) rfl wm_5_203 dX12_laysTurning_349 ?_
            exact q_iret X hr hlk hK h rfl (fun _ => 0, (vcons v64_18_9 (vcons v64_18_10 (vcons v64_18_3 (vcons v64_18_4 (vcons v64_18_5 (vcons v64_18_6 (vcons v308_36_2 (vcons v64_18_7 (vcons (fun _ => v265_29_1) (vcons (u_24.2.1 0) (fun _ => (fun _ => 0)))))))))))), fun _ _ => 0) ⟨(bw hv265_29_1 (by decide) (by decide)), (rg_wide rv64_18_3 (by decide) (by decide)), (rg_wide rv64_18_4 (by decide) (by decide)), (bw hv265_29_1 (by decide) (by decide)), w24_0, w24_1, trivial⟩ [8, 9, 0, 1, 2, 3, 4, 5, 6, 7] rfl rfl dX12_laysTurning_352 (Nat.le_of_ble_eq_true rfl) (Nat.le_of_ble_eq_true rfl)
          · replace c_39 := i_ne (x := z_38) (y := (-1)) rfl (show ((-1) : Int32).toInt = -1 by decide) c_39
            have ly_40 := ln_step x22_0 (by omega) (by omega) ez_38 (by omega)
            obtain ⟨z_41, ez_41, hz_41⟩ := e_add (x := v308_36_1) (y := Int32.ofInt (-1)) rfl (b := (-1)) (by decide) (by omega) (by omega)
            refine lv_iinc (v := z_41) (lv' := [(7, .int z_41), (0, .ref h0), (1, .int p0), (2, .int p1), (3, .int r_5), (4, .int r_7), (5, .int v64_18_1), (6, .int v64_18_2), (8, .int v308_36_0)]) hx hb dX12_laysTurning_319 hl (k := 7) rfl ez_41 (by decide) rfl (fun ls_41 hl_41 => ?_)
            clear hl
            refine lv_aload_n hx hb dX12_laysTurning_322 rfl (lv_at hl_41 1 rfl) ?_
            refine q_get X hK h 8 rfl rfl wf_12 31 (by decide) rfl wm_5_201 dX12_laysTurning_323 ?_
            refine lv_iload hx hb dX12_laysTurning_326 (lv_at hl_41 0 rfl) ?_
            refine lv_aload_n hx hb dX12_laysTurning_328 rfl (lv_at hl_41 1 rfl) ?_
            refine q_get X hK h 8 rfl rfl wf_12 29 (by decide) rfl wm_5_199 dX12_laysTurning_329 ?_
            refine lv_iload hx hb dX12_laysTurning_332 (lv_at hl_41 8 rfl) ?_
            refine q_iald X hK h 4 rfl (i_in rfl (by omega) (by omega)) dX12_laysTurning_334 ?_
            refine q_any (fun z_42 hz_42 => ?_)
            refine q_iast X hK h 6 rfl (i_in rfl (by omega) (by omega)) dX12_laysTurning_335 (fun H locs h_44 => ?_)
            clear h
            replace h_44 : qW D _ _ (wk_dcd050277 cy h2 v64_18_9 h3 v64_18_10 h4 v64_18_3 h5 v64_18_4 h6 v64_18_5 h7 v64_18_6 h8 (upd v308_36_2 (Int32.toNatClampNeg z_41) z_42) h9 v64_18_7 h0 p2 h1 w0 w1 w2 p3 p4 p5 p6 p7 p8 p9 p10 p11 p12 p13 h2 h3 h4 w3 w4 p14 p15 w5 w6 w7 p16 p17 h5 h6 h7 h8 h9 v265_29_1 w8 w9 w10 h1 (u_24.2.1 0)) _ _ := h_44
            obtain ⟨F_43, eF_43⟩ : ∃ z, (upd v308_36_2 (Int32.toNatClampNeg z_41) z_42) = z := ⟨_, rfl⟩
            rw [eF_43] at h_44
            clear eF_43
            refine lv_aload_n hx hb dX12_laysTurning_336 rfl (lv_at hl_41 1 rfl) ?_
            refine q_get X hK h_44 8 rfl rfl wf_12 30 (by decide) rfl wm_5_200 dX12_laysTurning_337 ?_
            refine lv_iload hx hb dX12_laysTurning_340 (lv_at hl_41 8 rfl) ?_
            refine q_iald X hK h_44 5 rfl (i_in rfl (by omega) (by omega)) dX12_laysTurning_342 ?_
            obtain ⟨z_45, ez_45, hz_45⟩ := e_any (v64_18_6 v308_36_0.toNatClampNeg)
            refine q_c z_45 ez_45 ?_
            have l2_46 := ld2 ez_38 ez_45
            have lx_46 := ln_step x22_0 (by omega) (by omega) ez_45 (by omega)
            refine lv_istore (lv' := [(8, .int z_45), (7, .int z_41), (0, .ref h0), (1, .int p0), (2, .int p1), (3, .int r_5), (4, .int r_7), (5, .int v64_18_1), (6, .int v64_18_2)]) hx hb dX12_laysTurning_343 hl_41 (by decide) rfl (fun ls_47 hl_47 => ?_)
            clear hl_41
            refine lv_goto (tgt := 308) hx hb dX12_laysTurning_345 (by decide) ?_
            exact ih_308 (z_45, z_41) (by show ((z_45).toInt).toNat < ((v308_36_0).toInt).toNat; omega) _ _ _ ⟨F_43, ⟨by omega, by omega⟩, ⟨by omega, by omega⟩, (by (first | (clear x23_1; omega) | omega)), h_44, (lv_sub hl_47 [2, 3, 4, 5, 6, 7, 8, 1, 0] rfl)⟩
        · replace c_32 := i_ne (x := z_31) (y := (-1)) rfl (show ((-1) : Int32).toInt = -1 by decide) c_32
          refine lv_aload_n hx hb dX12_laysTurning_276 rfl (lv_at hl 0 rfl) ?_
          refine lv_dup hx hb dX12_laysTurning_277 rfl ?_
          refine q_get X hK h 8 rfl rfl wf_12 33 (by decide) rfl wm_5_203 dX12_laysTurning_278 ?_
          refine lv_iconst (v := 1) hx hb dX12_laysTurning_281 (by decide) ?_
          refine lv_iadd hx hb dX12_laysTurning_282 ?_
          obtain ⟨z_48, ez_48, hz_48⟩ := e_add (x := v265_29_1) (y := 1) rfl (show (1 : Int32).toInt = 1 by decide) (by omega) (by omega)
          refine q_c z_48 ez_48 ?_
          clear ez_48
          refine q_put (v := .int z_48) X hK h 8 rfl rfl wf_12 tyX12 tyX12_ok nmX12 33 (by decide) wm_5_203 rfl rfl rfl (Nat.le_of_ble_eq_true rfl) dX12_laysTurning_283 (fun H locs h_49 => ?_)
          clear h
          replace h_49 : qW D _ _ (wk_dcd050277 cy h2 v64_18_9 h3 v64_18_10 h4 v64_18_3 h5 v64_18_4 h6 v64_18_5 h7 v64_18_6 h8 f7 h9 v64_18_7 h0 p2 h1 w0 w1 w2 p3 p4 p5 p6 p7 p8 p9 p10 p11 p12 p13 h2 h3 h4 w3 w4 p14 p15 w5 w6 w7 p16 p17 h5 h6 h7 h8 h9 z_48 w8 w9 w10 h1 (u_24.2.1 0)) _ _ := h_49
          refine lv_aload_n hx hb dX12_laysTurning_286 rfl (lv_at hl 0 rfl) ?_
          refine q_get X hK h_49 8 rfl rfl wf_12 30 (by decide) rfl wm_5_200 dX12_laysTurning_287 ?_
          refine lv_iload hx hb dX12_laysTurning_290 (lv_at hl 7 rfl) ?_
          refine q_iald X hK h_49 5 rfl (i_in rfl (by omega) (by omega)) dX12_laysTurning_292 ?_
          obtain ⟨z_50, ez_50, hz_50⟩ := e_any (v64_18_6 v265_29_0.toNatClampNeg)
          refine q_c z_50 ez_50 ?_
          have l2_51 := ld2 ez_31 ez_50
          have lx_51 := ln_step x22_0 (by omega) (by omega) ez_50 (by omega)
          refine lv_istore (lv' := [(7, .int z_50), (0, .ref h0), (1, .int p0), (2, .int p1), (3, .int r_5), (4, .int r_7), (5, .int v64_18_1), (6, .int v64_18_2)]) hx hb dX12_laysTurning_293 hl (by decide) rfl (fun ls_52 hl_52 => ?_)
          clear hl
          refine lv_goto (tgt := 265) hx hb dX12_laysTurning_295 (by decide) ?_
          exact ih_265 (z_50, z_48) (by show ((z_50).toInt).toNat < ((v265_29_0).toInt).toNat; omega) _ _ _ ⟨⟨by omega, by omega⟩, ⟨by omega, by omega⟩, (by (first | (clear x23_1; omega) | omega)), h_49, (lv_sub hl_52 [1, 2, 3, 4, 5, 6, 7, 0] rfl)⟩
      · replace c_25 := i_eq (x := v64_18_2) (y := (-1)) rfl (show ((-1) : Int32).toInt = -1 by decide) c_25
        refine lv_iconst (v := (-1)) hx hb dX12_laysTurning_254 (by decide) ?_
        exact q_iret X hr hlk hK h_24 rfl (fun _ => 0, (vcons v64_18_9 (vcons v64_18_10 (vcons v64_18_3 (vcons v64_18_4 (vcons v64_18_5 (vcons v64_18_6 (vcons f7 (vcons v64_18_7 (vcons (fun _ => p18) (vcons (u_24.2.1 0) (fun _ => (fun _ => 0)))))))))))), fun _ _ => 0) ⟨⟨by decide +kernel, by decide +kernel⟩, (rg_wide rv64_18_3 (by decide) (by decide)), (rg_wide rv64_18_4 (by decide) (by decide)), hp18, w24_0, w24_1, trivial⟩ [8, 9, 0, 1, 2, 3, 4, 5, 6, 7] rfl rfl dX12_laysTurning_255 (Nat.le_of_ble_eq_true rfl) (Nat.le_of_ble_eq_true rfl)
    · skip
      refine lv_icmp_ge (tgt := 242) hx hb dX12_laysTurning_68 (by decide) (fun c_53 => ?_) (fun c_53 => ?_)
      · replace c_53 := i_le (x := v64_18_1) (y := v64_18_0) rfl rfl c_53
        exact J_242 _ _ _ _ ⟨(mt_n x19_0 (by (first | assumption | (clear x20_1; omega) | omega))), (x20_1), rfl, h, (lv_sub hl [0, 1, 2, 3, 4, 5, 6, 7] rfl)⟩
      · replace c_53 := i_nle (x := v64_18_1) (y := v64_18_0) rfl rfl c_53
        refine lv_iload hx hb dX12_laysTurning_71 (lv_at hl 6 rfl) ?_
        refine lv_iconst (v := (-1)) hx hb dX12_laysTurning_73 (by decide) ?_
        refine lv_icmp_ne (tgt := 242) hx hb dX12_laysTurning_74 (by decide) (fun c_54 => ?_) (fun c_54 => ?_)
        · replace c_54 := i_ne (x := v64_18_2) (y := (-1)) rfl (show ((-1) : Int32).toInt = -1 by decide) c_54
          exact J_242 _ _ _ _ ⟨(mt_n x19_0 (by (first | assumption | (clear x20_1; omega) | omega))), (x20_1), rfl, h, (lv_sub hl [0, 1, 2, 3, 4, 5, 6, 7] rfl)⟩
        · replace c_54 := i_eq (x := v64_18_2) (y := (-1)) rfl (show ((-1) : Int32).toInt = -1 by decide) c_54
          refine lv_aload_n hx hb dX12_laysTurning_77 rfl (lv_at hl 0 rfl) ?_
          refine lv_iload_n hx hb dX12_laysTurning_78 rfl (lv_at hl 1 rfl) ?_
          refine lv_aload_n hx hb dX12_laysTurning_79 rfl (lv_at hl 0 rfl) ?_
          refine q_get X hK h 8 rfl rfl wf_12 28 (by decide) rfl wm_5_198 dX12_laysTurning_80 ?_
          refine lv_iload hx hb dX12_laysTurning_83 (lv_at hl 7 rfl) ?_
          refine q_iald X hK h 3 rfl (i_in rfl (by omega) (by omega)) dX12_laysTurning_85 ?_
          obtain ⟨z_55, ez_55, hz_55⟩ := rg_get rv64_18_4 (x := v64_18_0) rfl (by omega) (by omega)
          refine q_c z_55 ez_55 ?_
          clear ez_55
          refine q_callVv (rest := []) (wr := (wk_5ec465ffc cy h2 v64_18_9 h3 v64_18_10 h4 v64_18_3 h5 v64_18_4 h6 v64_18_5 h7 v64_18_6 h8 f7 h9 v64_18_7)) X hK hT hA h (fun sz => gX12_puts_2de0910 l D cy h0 h1 p0 z_55 p2 w0 w1 w2 p3 p4 p5 p6 p7 p8 p9 p10 p11 p12 p13 (.ref h2) (.ref h3) (.ref h4) w3 w4 p14 p15 w5 w6 w7 p16 p17 (.ref h5) (.ref h6) (.ref h7) (.ref h8) (.ref h9) p18 w8 w9 w10 v64_18_8 p19 hp0 ⟨by omega, by omega⟩ hp2 hp3 hp4 hp5 hp6 (i_rng _) hp8 (i_rng _) (i_rng _) (i_rng _) (i_rng _) (i_rng _) (i_rng _) (i_rng _) (i_rng _) (i_rng _) (i_rng _) hp19 trv64_18_8_84 rv64_18_8 sz) wm_7_176 wm_7_179 wm_1_12 hd_X12_puts wm_7_178 wp_7_11 (ci := 12) (q0 := 0) rfl rfl ⟨Nat.le_of_ble_eq_true rfl, Nat.le_of_ble_eq_true rfl⟩ hl.1 rfl (Nat.le_of_ble_eq_true rfl) dX12_laysTurning_86 ⟨Nat.le_of_ble_eq_true rfl, Nat.le_of_ble_eq_true rfl⟩ [8, 9] [0, 1, 2, 3, 4, 5, 6, 7] rfl rfl (by decide) rfl rfl (fun u_56 H locs w_56 h_56 => ?_)
          clear h
          obtain ⟨w56_0, w56_1, _⟩ := w_56
          replace h_56 : qW D _ _ (wk_dcd050277 cy h2 v64_18_9 h3 v64_18_10 h4 v64_18_3 h5 v64_18_4 h6 v64_18_5 h7 v64_18_6 h8 f7 h9 v64_18_7 h0 p2 h1 w0 w1 w2 p3 p4 p5 p6 p7 p8 p9 p10 p11 p12 p13 h2 h3 h4 w3 w4 p14 p15 w5 w6 w7 p16 p17 h5 h6 h7 h8 h9 p18 w8 w9 w10 h1 (u_56.2.1 0)) _ _ := h_56
          refine lv_aload_n hx hb dX12_laysTurning_89 rfl (lv_at hl 0 rfl) ?_
          refine lv_iload_n hx hb dX12_laysTurning_90 rfl (lv_at hl 1 rfl) ?_
          refine lv_iload_n hx hb dX12_laysTurning_91 rfl (lv_at hl 2 rfl) ?_
          refine lv_aload_n hx hb dX12_laysTurning_92 rfl (lv_at hl 0 rfl) ?_
          refine q_get X hK h_56 8 rfl rfl wf_12 1 (by decide) rfl wm_5_171 dX12_laysTurning_93 ?_
          refine lv_bipush (v := 52) hx hb dX12_laysTurning_96 (by decide) ?_
          refine q_iald X hK h_56 9 rfl (q_in (by decide +kernel)) dX12_laysTurning_98 ?_
          refine q_any (fun z_57 hz_57 => ?_)
          refine q_callVi (rest := []) (wr := [(h4, .inl (cy 1, 3, .inl v64_18_3)), (h5, .inl (cy 1, 1000, .inl v64_18_4)), (h6, .inl (cy 1, 1000, .inl v64_18_5)), (h7, .inl (cy 1, 1000, .inl v64_18_6)), (h8, .inl (cy 1, 1000, .inl f7)), (h9, .inl (cy 3, 1000, .inl v64_18_7))]) X hK hT hA h_56 (fun sz => gX12_areOpposed_e7e6c1a l D cy h0 h1 h2 h3 p0 p1 z_57 p2 w0 w1 w2 p3 p4 p5 p6 p7 p8 p9 p10 p11 p12 p13 (.ref h4) w3 w4 p14 p15 w5 w6 w7 p16 p17 (.ref h5) (.ref h6) (.ref h7) (.ref h8) (.ref h9) p18 w8 w9 w10 (u_56.2.1 0) p19 v64_18_9 v64_18_10 hp0 hp1 (i_rng _) hp2 hp3 hp4 hp5 hp6 (i_rng _) hp8 (i_rng _) (i_rng _) (i_rng _) (i_rng _) (i_rng _) (i_rng _) (i_rng _) (i_rng _) (i_rng _) (i_rng _) hp19 w56_1 w56_0 sz) wm_6_187 wm_6_190 wm_1_12 hd_X12_areOpposed wm_6_189 wp_5_11 (ci := 12) (q0 := 0) rfl rfl ⟨Nat.le_of_ble_eq_true rfl, Nat.le_of_ble_eq_true rfl⟩ hl.1 rfl (Nat.le_of_ble_eq_true rfl) dX12_laysTurning_99 ⟨Nat.le_of_ble_eq_true rfl, Nat.le_of_ble_eq_true rfl⟩ [8, 9, 0, 1] [2, 3, 4, 5, 6, 7] rfl rfl (by decide) rfl rfl (fun r_58 u_58 H locs w_58 h_58 => ?_)
          clear h_56
          obtain ⟨wr_58, _⟩ := w_58
          replace h_58 : qW D _ _ (wk_aaeff7a5c cy h4 v64_18_3 h5 v64_18_4 h6 v64_18_5 h7 v64_18_6 h8 f7 h9 v64_18_7 h0 p2 h1 w0 w1 w2 p3 p4 p5 p6 p7 p8 p9 p10 p11 p12 p13 h2 h3 h4 w3 w4 p14 p15 w5 w6 w7 p16 p17 h5 h6 h7 h8 h9 p18 w8 w9 w10 h1 (u_56.2.1 0) h2 (u_58.2.1 0) h3 (u_58.2.1 1)) _ _ := h_58
          refine q_jn (pc2 := 109) (fun H locs ls st => ∃ v109_59_0 : Int32, ((-1) ≤ (v109_59_0).toInt ∧ (v109_59_0).toInt ≤ 999) ∧ ((v109_59_0 : Int32).toInt = -1 ∨ (0 ≤ (v109_59_0 : Int32).toInt ∧ (v109_59_0 : Int32).toInt < (v64_18_1 : Int32).toInt)) ∧ st = [] ∧ qW D (va_A (wk_410b6a568 cy h0 p2 h1 w0 w1 w2 p3 p4 p5 p6 p7 p8 p9 p10 p11 p12 p13 h2 h3 h4 w3 w4 p14 p15 w5 w6 w7 p16 p17 h5 h6 h7 h8 h9 p18 w8 w9 w10 h1 f0 h2 f1 h3 f2 h4 f3 h5 f4 h6 f5 h7 f6 h8 f7 h9 f8) sz) s.heap (wk_aaeff7a5c cy h4 v64_18_3 h5 v64_18_4 h6 v64_18_5 h7 v64_18_6 h8 f7 h9 v64_18_7 h0 p2 h1 w0 w1 w2 p3 p4 p5 p6 p7 p8 p9 p10 p11 p12 p13 h2 h3 h4 w3 w4 p14 p15 w5 w6 w7 p16 p17 h5 h6 h7 h8 h9 p18 w8 w9 w10 h1 (u_56.2.1 0) h2 (u_58.2.1 0) h3 (u_58.2.1 1)) H locs ∧ lv_has ls 10 [(0, .ref h0), (1, .int p0), (2, .int p1), (3, .int r_5), (4, .int r_7), (5, .int v64_18_1), (6, .int v109_59_0), (7, .int v64_18_0)]) (fun H locs ls st hP => ?_) (fun J_109 => ?_)
          · obtain ⟨v109_59_0, hv109_59_0, x60_0, rfl, h, hl⟩ := hP
            refine lv_iconst (v := 0) hx hb dX12_laysTurning_109 (by decide) ?_
            refine lv_istore (lv' := [(8, .int 0), (0, .ref h0), (1, .int p0), (2, .int p1), (3, .int r_5), (4, .int r_7), (5, .int v64_18_1), (6, .int v109_59_0), (7, .int v64_18_0)]) hx hb dX12_laysTurning_110 hl (by decide) rfl (fun ls_61 hl_61 => ?_)
            clear hl
            refine q_wl (fun (q : Int32 × Int32) H locs ls => match q with | (v112_62_0, v112_62_1) => ∃ v112_62_2 : Nat → Int32, ∃ v112_62_3 : Nat → Int32, ∃ v112_62_4 : Nat → Int32, ∃ v112_62_5 : Nat → Int32, ∃ v112_62_6 : Nat → Int32, ∃ v112_62_7 : Nat → Int32, ∃ v112_62_8 : Nat → Int32, ∃ v112_62_9 : Nat → Int32, (0 ≤ (v112_62_0).toInt ∧ (v112_62_0).toInt ≤ 10) ∧ (1 ≤ (v112_62_1).toInt ∧ (v112_62_1).toInt ≤ 1000) ∧ RG v112_62_2 3 0 9 ∧ RG v112_62_3 1000 0 999 ∧ v112_62_7 84 = p19 ∧ AL v112_62_7 ∧ (MT v112_62_6 v112_62_5 (v112_62_1 : Int32).toInt) ∧ ((v109_59_0 : Int32).toInt = -1 ∨ (0 ≤ (v109_59_0 : Int32).toInt ∧ (v109_59_0 : Int32).toInt < (v112_62_1 : Int32).toInt)) ∧ ((v64_18_0 : Int32).toInt < (v112_62_1 : Int32).toInt) ∧ qW D (va_A (wk_410b6a568 cy h0 p2 h1 w0 w1 w2 p3 p4 p5 p6 p7 p8 p9 p10 p11 p12 p13 h2 h3 h4 w3 w4 p14 p15 w5 w6 w7 p16 p17 h5 h6 h7 h8 h9 p18 w8 w9 w10 h1 f0 h2 f1 h3 f2 h4 f3 h5 f4 h6 f5 h7 f6 h8 f7 h9 f8) sz) s.heap (wk_aaeff7a5c cy h4 v112_62_2 h5 v112_62_3 h6 v112_62_4 h7 v112_62_5 h8 f7 h9 v112_62_6 h0 p2 h1 w0 w1 w2 p3 p4 p5 p6 p7 p8 p9 p10 p11 p12 p13 h2 h3 h4 w3 w4 p14 p15 w5 w6 w7 p16 p17 h5 h6 h7 h8 h9 p18 w8 w9 w10 h1 v112_62_7 h2 v112_62_8 h3 v112_62_9) H locs ∧ lv_has ls 10 [(0, .ref h0), (1, .int p0), (2, .int p1), (3, .int r_5), (4, .int r_7), (5, .int v112_62_1), (6, .int v109_59_0), (7, .int v64_18_0), (8, .int v112_62_0)]) (fun (q : Int32 × Int32) => match q with | (v112_62_0, v112_62_1) => (11 - (v112_62_0).toInt).toNat) (fun q_112 ih_112 H locs ls hP => ?_) (0, v64_18_1) ⟨v64_18_3, v64_18_4, v64_18_5, v64_18_6, v64_18_7, (u_56.2.1 0), (u_58.2.1 0), (u_58.2.1 1), ⟨by decide +kernel, by decide +kernel⟩, hv64_18_1, (rg_wide rv64_18_3 (by decide) (by decide)), (rg_wide rv64_18_4 (by decide) (by decide)), w56_1, w56_0, (mt_n x19_0 (by (first | assumption | (clear x20_1 x60_0; omega) | omega))), (x60_0), (by (first | (clear x20_1 x60_0; omega) | omega)), h, (lv_sub hl_61 [1, 2, 3, 4, 5, 6, 7, 8, 0] rfl)⟩
            obtain ⟨v112_62_0, v112_62_1⟩ := q_112
            obtain ⟨v112_62_2, v112_62_3, v112_62_4, v112_62_5, v112_62_6, v112_62_7, v112_62_8, v112_62_9, hv112_62_0, hv112_62_1, rv112_62_2, rv112_62_3, trv112_62_7_84, rv112_62_7, x63_0, x64_1, x65_2, h, hl⟩ := hP
            refine lv_iload hx hb dX12_laysTurning_112 (lv_at hl 8 rfl) ?_
            refine lv_aload_n hx hb dX12_laysTurning_114 rfl (lv_at hl 0 rfl) ?_
            refine q_get X hK h 6 rfl rfl wf_12 1 (by decide) rfl wm_5_171 dX12_laysTurning_115 ?_
            refine lv_iconst (v := 2) hx hb dX12_laysTurning_118 (by decide) ?_
            refine q_iald X hK h 7 rfl (q_in (by decide +kernel)) dX12_laysTurning_119 ?_
            obtain ⟨z_66, ez_66, hz_66⟩ := al_P rv112_62_7 (x := 2) (show (2 : Int32).toInt = 2 by decide) (by omega) (by omega)
            refine q_c z_66 ez_66 ?_
            clear ez_66
            refine lv_icmp_ge (tgt := 236) hx hb dX12_laysTurning_120 (by decide) (fun c_67 => ?_) (fun c_67 => ?_)
            · replace c_67 := i_le (x := z_66) (y := v112_62_0) rfl rfl c_67
              obtain ⟨z_68, ez_68, hz_68⟩ := e_add (x := v64_18_0) (y := Int32.ofInt 1) rfl (b := 1) (by decide) (by omega) (by omega)
              refine lv_iinc (v := z_68) (lv' := [(7, .int z_68), (0, .ref h0), (1, .int p0), (2, .int p1), (3, .int r_5), (4, .int r_7), (5, .int v112_62_1), (6, .int v109_59_0), (8, .int v112_62_0)]) hx hb dX12_laysTurning_236 hl (k := 7) rfl ez_68 (by decide) rfl (fun ls_68 hl_68 => ?_)
              clear hl
              refine lv_goto (tgt := 64) hx hb dX12_laysTurning_239 (by decide) ?_
              exact ih_64 (z_68, v112_62_1, v109_59_0) (by show (1001 - (z_68).toInt).toNat < (1001 - (v64_18_0).toInt).toNat; omega) _ _ _ ⟨v112_62_2, v112_62_3, v112_62_4, v112_62_5, v112_62_6, v112_62_7, v112_62_8, v112_62_9, ⟨by omega, by omega⟩, hv112_62_1, hv109_59_0, (rg_wide rv112_62_2 (by decide) (by decide)), (rg_wide rv112_62_3 (by decide) (by decide)), trv112_62_7_84, rv112_62_7, (mt_n x63_0 (by (first | assumption | (clear x20_1 x60_0 x64_1; omega) | omega))), (x64_1), (q_re h [8, 9, 0, 1, 2, 3, 4, 5, 6, 7] rfl rfl), (lv_sub hl_68 [1, 2, 3, 4, 5, 6, 7, 0] rfl)⟩
            · replace c_67 := i_nle (x := z_66) (y := v112_62_0) rfl rfl c_67
              refine lv_iload hx hb dX12_laysTurning_123 (lv_at hl 8 rfl) ?_
              refine lv_iload_n hx hb dX12_laysTurning_125 rfl (lv_at hl 1 rfl) ?_
              refine q_jn (pc2 := 230) (fun H locs ls st => ∃ v230_69_0 : Int32, ∃ v230_69_1 : Nat → Int32, ∃ v230_69_2 : Nat → Int32, ∃ v230_69_3 : Nat → Int32, ∃ v230_69_4 : Nat → Int32, ∃ v230_69_5 : Nat → Int32, ∃ v230_69_6 : Nat → Int32, ∃ v230_69_7 : Nat → Int32, ∃ v230_69_8 : Nat → Int32, (1 ≤ (v230_69_0).toInt ∧ (v230_69_0).toInt ≤ 1000) ∧ RG v230_69_1 1000 0 999 ∧ RG v230_69_7 3 0 9 ∧ v230_69_8 84 = p19 ∧ AL v230_69_8 ∧ (MT v230_69_4 v230_69_3 (v230_69_0 : Int32).toInt) ∧ ((v109_59_0 : Int32).toInt = -1 ∨ (0 ≤ (v109_59_0 : Int32).toInt ∧ (v109_59_0 : Int32).toInt < (v230_69_0 : Int32).toInt)) ∧ ((v64_18_0 : Int32).toInt < (v230_69_0 : Int32).toInt) ∧ st = [] ∧ qW D (va_A (wk_410b6a568 cy h0 p2 h1 w0 w1 w2 p3 p4 p5 p6 p7 p8 p9 p10 p11 p12 p13 h2 h3 h4 w3 w4 p14 p15 w5 w6 w7 p16 p17 h5 h6 h7 h8 h9 p18 w8 w9 w10 h1 f0 h2 f1 h3 f2 h4 f3 h5 f4 h6 f5 h7 f6 h8 f7 h9 f8) sz) s.heap (wk_aaeff7a5c cy h4 v230_69_7 h5 v230_69_1 h6 v230_69_2 h7 v230_69_3 h8 f7 h9 v230_69_4 h0 p2 h1 w0 w1 w2 p3 p4 p5 p6 p7 p8 p9 p10 p11 p12 p13 h2 h3 h4 w3 w4 p14 p15 w5 w6 w7 p16 p17 h5 h6 h7 h8 h9 p18 w8 w9 w10 h1 v230_69_8 h2 v230_69_5 h3 v230_69_6) H locs ∧ lv_has ls 10 [(0, .ref h0), (1, .int p0), (2, .int p1), (3, .int r_5), (4, .int r_7), (5, .int v230_69_0), (6, .int v109_59_0), (7, .int v64_18_0), (8, .int v112_62_0)]) (fun H locs ls st hP => ?_) (fun J_230 => ?_)
              · obtain ⟨v230_69_0, v230_69_1, v230_69_2, v230_69_3, v230_69_4, v230_69_5, v230_69_6, v230_69_7, v230_69_8, hv230_69_0, rv230_69_1, rv230_69_7, trv230_69_8_84, rv230_69_8, x70_0, x71_1, x72_2, rfl, h, hl⟩ := hP
                obtain ⟨z_73, ez_73, hz_73⟩ := e_add (x := v112_62_0) (y := Int32.ofInt 1) rfl (b := 1) (by decide) (by omega) (by omega)
                refine lv_iinc (v := z_73) (lv' := [(8, .int z_73), (0, .ref h0), (1, .int p0), (2, .int p1), (3, .int r_5), (4, .int r_7), (5, .int v230_69_0), (6, .int v109_59_0), (7, .int v64_18_0)]) hx hb dX12_laysTurning_230 hl (k := 8) rfl ez_73 (by decide) rfl (fun ls_73 hl_73 => ?_)
                clear hl
                refine lv_goto (tgt := 112) hx hb dX12_laysTurning_233 (by decide) ?_
                exact ih_112 (z_73, v230_69_0) (by show (11 - (z_73).toInt).toNat < (11 - (v112_62_0).toInt).toNat; omega) _ _ _ ⟨v230_69_7, v230_69_1, v230_69_2, v230_69_3, v230_69_4, v230_69_8, v230_69_5, v230_69_6, ⟨by omega, by omega⟩, hv230_69_0, (rg_wide rv230_69_7 (by decide) (by decide)), (rg_wide rv230_69_1 (by decide) (by decide)), trv230_69_8_84, rv230_69_8, (mt_n x70_0 (by (first | assumption | (clear x20_1 x60_0 x64_1 x71_1; omega) | omega))), (x71_1), (x72_2), h, (lv_sub hl_73 [1, 2, 3, 4, 5, 6, 7, 8, 0] rfl)⟩
              · skip
                refine lv_icmp_eq (tgt := 230) hx hb dX12_laysTurning_126 (by decide) (fun c_74 => ?_) (fun c_74 => ?_)
                · replace c_74 := i_eq (x := v112_62_0) (y := p0) rfl rfl c_74
                  exact J_230 _ _ _ _ ⟨v112_62_1, v112_62_3, v112_62_4, v112_62_5, v112_62_6, v112_62_8, v112_62_9, v112_62_2, v112_62_7, hv112_62_1, (rg_wide rv112_62_3 (by decide) (by decide)), (rg_wide rv112_62_2 (by decide) (by decide)), trv112_62_7_84, rv112_62_7, (mt_n x63_0 (by (first | assumption | (clear x20_1 x60_0 x64_1; omega) | omega))), (x64_1), (x65_2), rfl, h, (lv_sub hl [0, 1, 2, 3, 4, 5, 6, 7, 8] rfl)⟩
                · replace c_74 := i_ne (x := v112_62_0) (y := p0) rfl rfl c_74
                  refine lv_iload hx hb dX12_laysTurning_129 (lv_at hl 4 rfl) ?_
                  refine lv_i2l hx hb dX12_laysTurning_131 rfl ?_
                  obtain ⟨z_75, ez_75, hz_75⟩ := e_i2l (x := r_7) rfl
                  refine q_cl z_75 ez_75 ?_
                  clear ez_75
                  refine lv_iload_n hx hb dX12_laysTurning_132 rfl (lv_at hl 1 rfl) ?_
                  refine q_callSi (rest := []) (wr := (wk_aaeff7a5c cy h4 v112_62_2 h5 v112_62_3 h6 v112_62_4 h7 v112_62_5 h8 f7 h9 v112_62_6 h0 p2 h1 w0 w1 w2 p3 p4 p5 p6 p7 p8 p9 p10 p11 p12 p13 h2 h3 h4 w3 w4 p14 p15 w5 w6 w7 p16 p17 h5 h6 h7 h8 h9 p18 w8 w9 w10 h1 v112_62_7 h2 v112_62_8 h3 v112_62_9)) X hK hT hA h (fun sz => gX12_isIn_b0455a8 l D cy z_75 p0 ⟨by omega, by omega⟩ hp0 sz) wm_6_167 wm_6_169 wm_1_12 hd_X12_isIn wm_6_168 ⟨Nat.le_of_ble_eq_true rfl, Nat.le_of_ble_eq_true rfl⟩ hl.1 rfl (Nat.le_of_ble_eq_true rfl) dX12_laysTurning_133 ⟨Nat.le_of_ble_eq_true rfl, Nat.le_of_ble_eq_true rfl⟩ [] [0, 1, 2, 3, 4, 5, 6, 7, 8, 9] rfl rfl (by decide) rfl rfl (fun r_76 u_76 H locs w_76 h_76 => ?_)
                  clear h
                  obtain ⟨wr_76, _⟩ := w_76
                  replace h_76 : qW D _ _ (wk_aaeff7a5c cy h4 v112_62_2 h5 v112_62_3 h6 v112_62_4 h7 v112_62_5 h8 f7 h9 v112_62_6 h0 p2 h1 w0 w1 w2 p3 p4 p5 p6 p7 p8 p9 p10 p11 p12 p13 h2 h3 h4 w3 w4 p14 p15 w5 w6 w7 p16 p17 h5 h6 h7 h8 h9 p18 w8 w9 w10 h1 v112_62_7 h2 v112_62_8 h3 v112_62_9) _ _ := h_76
                  refine lv_if_eq (tgt := 230) hx hb dX12_laysTurning_136 (by decide) (fun c_77 => ?_) (fun c_77 => ?_)
                  · replace c_77 := i_eq (x := r_76) (y := 0) rfl (show (0 : Int32).toInt = 0 by decide) c_77
                    exact J_230 _ _ _ _ ⟨v112_62_1, v112_62_3, v112_62_4, v112_62_5, v112_62_6, v112_62_8, v112_62_9, v112_62_2, v112_62_7, hv112_62_1, (rg_wide rv112_62_3 (by decide) (by decide)), (rg_wide rv112_62_2 (by decide) (by decide)), trv112_62_7_84, rv112_62_7, (mt_n x63_0 (by (first | assumption | (clear x20_1 x60_0 x64_1; omega) | omega))), (x64_1), (x65_2), rfl, h_76, (lv_sub hl [0, 1, 2, 3, 4, 5, 6, 7, 8] rfl)⟩
                  · replace c_77 := i_ne (x := r_76) (y := 0) rfl (show (0 : Int32).toInt = 0 by decide) c_77
                    refine lv_iload hx hb dX12_laysTurning_139 (lv_at hl 4 rfl) ?_
                    refine lv_i2l hx hb dX12_laysTurning_141 rfl ?_
                    obtain ⟨z_78, ez_78, hz_78⟩ := e_i2l (x := r_7) rfl
                    refine q_cl z_78 ez_78 ?_
                    clear ez_78
                    refine lv_iload hx hb dX12_laysTurning_142 (lv_at hl 8 rfl) ?_
                    refine q_callSi (rest := []) (wr := (wk_aaeff7a5c cy h4 v112_62_2 h5 v112_62_3 h6 v112_62_4 h7 v112_62_5 h8 f7 h9 v112_62_6 h0 p2 h1 w0 w1 w2 p3 p4 p5 p6 p7 p8 p9 p10 p11 p12 p13 h2 h3 h4 w3 w4 p14 p15 w5 w6 w7 p16 p17 h5 h6 h7 h8 h9 p18 w8 w9 w10 h1 v112_62_7 h2 v112_62_8 h3 v112_62_9)) X hK hT hA h_76 (fun sz => gX12_isIn_b0455a8 l D cy z_78 v112_62_0 ⟨by omega, by omega⟩ ⟨by omega, by omega⟩ sz) wm_6_167 wm_6_169 wm_1_12 hd_X12_isIn wm_6_168 ⟨Nat.le_of_ble_eq_true rfl, Nat.le_of_ble_eq_true rfl⟩ hl.1 rfl (Nat.le_of_ble_eq_true rfl) dX12_laysTurning_144 ⟨Nat.le_of_ble_eq_true rfl, Nat.le_of_ble_eq_true rfl⟩ [] [0, 1, 2, 3, 4, 5, 6, 7, 8, 9] rfl rfl (by decide) rfl rfl (fun r_79 u_79 H locs w_79 h_79 => ?_)
                    clear h_76
                    obtain ⟨wr_79, _⟩ := w_79
                    replace h_79 : qW D _ _ (wk_aaeff7a5c cy h4 v112_62_2 h5 v112_62_3 h6 v112_62_4 h7 v112_62_5 h8 f7 h9 v112_62_6 h0 p2 h1 w0 w1 w2 p3 p4 p5 p6 p7 p8 p9 p10 p11 p12 p13 h2 h3 h4 w3 w4 p14 p15 w5 w6 w7 p16 p17 h5 h6 h7 h8 h9 p18 w8 w9 w10 h1 v112_62_7 h2 v112_62_8 h3 v112_62_9) _ _ := h_79
                    refine lv_if_ne (tgt := 153) hx hb dX12_laysTurning_147 (by decide) (fun c_80 => ?_) (fun c_80 => ?_)
                    · replace c_80 := i_ne (x := r_79) (y := 0) rfl (show (0 : Int32).toInt = 0 by decide) c_80
                      refine lv_aload_n hx hb dX12_laysTurning_153 rfl (lv_at hl 0 rfl) ?_
                      refine lv_iload_n hx hb dX12_laysTurning_154 rfl (lv_at hl 1 rfl) ?_
                      refine lv_aload_n hx hb dX12_laysTurning_155 rfl (lv_at hl 0 rfl) ?_
                      refine q_get X hK h_79 6 rfl rfl wf_12 28 (by decide) rfl wm_5_198 dX12_laysTurning_156 ?_
                      refine lv_iload hx hb dX12_laysTurning_159 (lv_at hl 7 rfl) ?_
                      refine q_iald X hK h_79 1 rfl (i_in rfl (by omega) (by omega)) dX12_laysTurning_161 ?_
                      obtain ⟨z_81, ez_81, hz_81⟩ := rg_get rv112_62_3 (x := v64_18_0) rfl (by omega) (by omega)
                      refine q_c z_81 ez_81 ?_
                      clear ez_81
                      refine q_callVv (rest := []) (wr := [(h4, .inl (cy 1, 3, .inl v112_62_2)), (h5, .inl (cy 1, 1000, .inl v112_62_3)), (h6, .inl (cy 1, 1000, .inl v112_62_4)), (h7, .inl (cy 1, 1000, .inl v112_62_5)), (h8, .inl (cy 1, 1000, .inl f7)), (h9, .inl (cy 3, 1000, .inl v112_62_6)), (h2, .inl (cy 1, 900, .inl v112_62_8)), (h3, .inl (cy 1, 11, .inl v112_62_9))]) X hK hT hA h_79 (fun sz => gX12_puts_2de0910 l D cy h0 h1 p0 z_81 p2 w0 w1 w2 p3 p4 p5 p6 p7 p8 p9 p10 p11 p12 p13 (.ref h2) (.ref h3) (.ref h4) w3 w4 p14 p15 w5 w6 w7 p16 p17 (.ref h5) (.ref h6) (.ref h7) (.ref h8) (.ref h9) p18 w8 w9 w10 v112_62_7 p19 hp0 ⟨by omega, by omega⟩ hp2 hp3 hp4 hp5 hp6 (i_rng _) hp8 (i_rng _) (i_rng _) (i_rng _) (i_rng _) (i_rng _) (i_rng _) (i_rng _) (i_rng _) (i_rng _) (i_rng _) hp19 trv112_62_7_84 rv112_62_7 sz) wm_7_176 wm_7_179 wm_1_12 hd_X12_puts wm_7_178 wp_7_11 (ci := 12) (q0 := 0) rfl rfl ⟨Nat.le_of_ble_eq_true rfl, Nat.le_of_ble_eq_true rfl⟩ hl.1 rfl (Nat.le_of_ble_eq_true rfl) dX12_laysTurning_162 ⟨Nat.le_of_ble_eq_true rfl, Nat.le_of_ble_eq_true rfl⟩ [6, 7] [0, 1, 2, 3, 4, 5, 8, 9] rfl rfl (by decide) rfl rfl (fun u_82 H locs w_82 h_82 => ?_)
                      clear h_79
                      obtain ⟨w82_0, w82_1, _⟩ := w_82
                      replace h_82 : qW D _ _ [(h4, .inl (cy 1, 3, .inl v112_62_2)), (h5, .inl (cy 1, 1000, .inl v112_62_3)), (h6, .inl (cy 1, 1000, .inl v112_62_4)), (h7, .inl (cy 1, 1000, .inl v112_62_5)), (h8, .inl (cy 1, 1000, .inl f7)), (h9, .inl (cy 3, 1000, .inl v112_62_6)), (h2, .inl (cy 1, 900, .inl v112_62_8)), (h3, .inl (cy 1, 11, .inl v112_62_9)), (h0, .inr (12, [.int p2, .ref h1, w0, w1, w2, .int p3, .int p4, .int p5, .int p6, .int p7, .int p8, .int p9, .int p10, .int p11, .int p12, .int p13, .ref h2, .ref h3, .ref h4, w3, w4, .int p14, .int p15, w5, w6, w7, .int p16, .int p17, .ref h5, .ref h6, .ref h7, .ref h8, .ref h9, .int p18, w8, w9, w10])), (h1, .inl (cy 1, 3918, .inl (u_82.2.1 0)))] _ _ := h_82
                      refine lv_aload_n hx hb dX12_laysTurning_165 rfl (lv_at hl 0 rfl) ?_
                      refine lv_iload_n hx hb dX12_laysTurning_166 rfl (lv_at hl 1 rfl) ?_
                      refine lv_iload hx hb dX12_laysTurning_167 (lv_at hl 8 rfl) ?_
                      refine q_callVv (rest := []) (wr := [(h5, .inl (cy 1, 1000, .inl v112_62_3)), (h6, .inl (cy 1, 1000, .inl v112_62_4)), (h7, .inl (cy 1, 1000, .inl v112_62_5)), (h8, .inl (cy 1, 1000, .inl f7)), (h9, .inl (cy 3, 1000, .inl v112_62_6))]) X hK hT hA h_82 (fun sz => gX12_talks1_48107b5 l D cy h0 h1 h2 h3 h4 p0 v112_62_0 p2 w0 w1 w2 p3 p4 p5 p6 p7 p8 p9 p10 p11 p12 p13 w3 w4 p14 p15 w5 w6 w7 p16 p17 (.ref h5) (.ref h6) (.ref h7) (.ref h8) (.ref h9) p18 w8 w9 w10 (u_82.2.1 0) p19 v112_62_8 v112_62_9 v112_62_2 hp0 ⟨by omega, by omega⟩ hp2 hp3 hp4 hp5 hp6 (i_rng _) hp8 (i_rng _) (i_rng _) (i_rng _) (i_rng _) (i_rng _) (i_rng _) (i_rng _) (i_rng _) (i_rng _) (i_rng _) hp19 w82_1 w82_0 (rg_wide rv112_62_2 (by decide) (by decide)) sz) wm_6_224 wm_6_227 wm_1_12 hd_X12_talks1 wm_6_226 wp_6_1 (ci := 12) (q0 := 0) rfl rfl ⟨Nat.le_of_ble_eq_true rfl, Nat.le_of_ble_eq_true rfl⟩ hl.1 rfl (Nat.le_of_ble_eq_true rfl) dX12_laysTurning_169 ⟨Nat.le_of_ble_eq_true rfl, Nat.le_of_ble_eq_true rfl⟩ [8, 9, 6, 7, 0] [1, 2, 3, 4, 5] rfl rfl (by decide) rfl rfl (fun u_83 H locs w_83 h_83 => ?_)
                      clear h_82
                      obtain ⟨w83_0, w83_1, w83_2, _⟩ := w_83
                      replace h_83 : qW D _ _ [(h5, .inl (cy 1, 1000, .inl v112_62_3)), (h6, .inl (cy 1, 1000, .inl v112_62_4)), (h7, .inl (cy 1, 1000, .inl v112_62_5)), (h8, .inl (cy 1, 1000, .inl f7)), (h9, .inl (cy 3, 1000, .inl v112_62_6)), (h0, .inr (12, [.int p2, .ref h1, w0, w1, w2, .int p3, .int p4, .int p5, .int p6, .int p7, .int p8, .int p9, .int p10, .int p11, .int p12, .int p13, .ref h2, .ref h3, .ref h4, w3, w4, .int p14, .int p15, w5, w6, w7, .int p16, .int p17, .ref h5, .ref h6, .ref h7, .ref h8, .ref h9, .int p18, w8, w9, w10])), (h1, .inl (cy 1, 3918, .inl (u_83.2.1 0))), (h2, .inl (cy 1, 900, .inl (u_83.2.1 1))), (h3, .inl (cy 1, 11, .inl (u_83.2.1 2))), (h4, .inl (cy 1, 3, .inl (u_83.2.1 3)))] _ _ := h_83
                      refine lv_aload_n hx hb dX12_laysTurning_172 rfl (lv_at hl 0 rfl) ?_
                      refine lv_iload_n hx hb dX12_laysTurning_173 rfl (lv_at hl 1 rfl) ?_
                      refine q_callVi (rest := []) (wr := [(h5, .inl (cy 1, 1000, .inl v112_62_3)), (h6, .inl (cy 1, 1000, .inl v112_62_4)), (h7, .inl (cy 1, 1000, .inl v112_62_5)), (h8, .inl (cy 1, 1000, .inl f7)), (h9, .inl (cy 3, 1000, .inl v112_62_6)), (h2, .inl (cy 1, 900, .inl (u_83.2.1 1))), (h3, .inl (cy 1, 11, .inl (u_83.2.1 2))), (h4, .inl (cy 1, 3, .inl (u_83.2.1 3)))]) X hK hT hA h_83 (fun sz => gX12_viewsOf_bc3d930 l D cy h0 h1 p0 p2 w0 w1 w2 p3 p4 p5 p6 p7 p8 p9 p10 p11 p12 p13 (.ref h2) (.ref h3) (.ref h4) w3 w4 p14 p15 w5 w6 w7 p16 p17 (.ref h5) (.ref h6) (.ref h7) (.ref h8) (.ref h9) p18 w8 w9 w10 (u_83.2.1 0) p19 hp0 hp2 hp3 hp4 hp5 hp6 (i_rng _) hp8 (i_rng _) (i_rng _) (i_rng _) (i_rng _) (i_rng _) (i_rng _) (i_rng _) (i_rng _) (i_rng _) (i_rng _) hp19 w83_2 w83_0 sz) wm_7_172 wm_7_175 wm_1_12 hd_X12_viewsOf wm_7_174 wp_7_10 (ci := 12) (q0 := 0) rfl rfl ⟨Nat.le_of_ble_eq_true rfl, Nat.le_of_ble_eq_true rfl⟩ hl.1 rfl (Nat.le_of_ble_eq_true rfl) dX12_laysTurning_174 ⟨Nat.le_of_ble_eq_true rfl, Nat.le_of_ble_eq_true rfl⟩ [5, 6] [0, 1, 2, 3, 4, 7, 8, 9] rfl rfl (by decide) rfl rfl (fun r_84 u_84 H locs w_84 h_84 => ?_)
                      clear h_83
                      obtain ⟨wr_84, _⟩ := w_84
                      replace h_84 : qW D _ _ (wk_fbde43c06 cy h5 v112_62_3 h6 v112_62_4 h7 v112_62_5 h8 f7 h9 v112_62_6 h2 (u_83.2.1 1) h3 (u_83.2.1 2) h4 (u_83.2.1 3) h0 p2 h1 w0 w1 w2 p3 p4 p5 p6 p7 p8 p9 p10 p11 p12 p13 h2 h3 h4 w3 w4 p14 p15 w5 w6 w7 p16 p17 h5 h6 h7 h8 h9 p18 w8 w9 w10 h1 (u_83.2.1 0)) _ _ := h_84
                      refine lv_istore (lv' := [(9, .int r_84), (0, .ref h0), (1, .int p0), (2, .int p1), (3, .int r_5), (4, .int r_7), (5, .int v112_62_1), (6, .int v109_59_0), (7, .int v64_18_0), (8, .int v112_62_0)]) hx hb dX12_laysTurning_177 hl (by decide) rfl (fun ls_85 hl_85 => ?_)
                      clear hl
                      refine lv_aload_n hx hb dX12_laysTurning_179 rfl (lv_at hl_85 1 rfl) ?_
                      refine q_get X hK h_84 8 rfl rfl wf_12 32 (by decide) rfl wm_5_202 dX12_laysTurning_180 ?_
                      refine lv_iload hx hb dX12_laysTurning_183 (lv_at hl_85 0 rfl) ?_
                      refine q_zald X hK h_84 4 rfl (i_in rfl (by omega) (by omega)) dX12_laysTurning_185 ?_
                      obtain ⟨z_86, ez_86, hz_86⟩ := e_any (v112_62_6 r_84.toNatClampNeg)
                      refine q_c z_86 ez_86 ?_
                      refine lv_if_eq (tgt := 192) hx hb dX12_laysTurning_186 (by decide) (fun c_87 => ?_) (fun c_87 => ?_)
                      · replace c_87 := i_eq (x := z_86) (y := 0) rfl (show (0 : Int32).toInt = 0 by decide) c_87
                        have ml_88 := mt_lt x63_0 (by omega) (by omega) ez_86 (by omega)
                        refine lv_aload_n hx hb dX12_laysTurning_192 rfl (lv_at hl_85 1 rfl) ?_
                        refine q_get X hK h_84 8 rfl rfl wf_12 32 (by decide) rfl wm_5_202 dX12_laysTurning_193 ?_
                        refine lv_iload hx hb dX12_laysTurning_196 (lv_at hl_85 0 rfl) ?_
                        refine lv_iconst (v := 1) hx hb dX12_laysTurning_198 (by decide) ?_
                        refine q_zast X hK h_84 4 rfl (i_in rfl (by omega) (by omega)) dX12_laysTurning_199 (fun H locs h_90 => ?_)
                        clear h_84
                        replace h_90 : qW D _ _ (wk_fbde43c06 cy h5 v112_62_3 h6 v112_62_4 h7 v112_62_5 h8 f7 h9 (upd v112_62_6 (Int32.toNatClampNeg r_84) (vp_nar .boolean 1)) h2 (u_83.2.1 1) h3 (u_83.2.1 2) h4 (u_83.2.1 3) h0 p2 h1 w0 w1 w2 p3 p4 p5 p6 p7 p8 p9 p10 p11 p12 p13 h2 h3 h4 w3 w4 p14 p15 w5 w6 w7 p16 p17 h5 h6 h7 h8 h9 p18 w8 w9 w10 h1 (u_83.2.1 0)) _ _ := h_90
                        obtain ⟨F_89, eF_89⟩ : ∃ z, (upd v112_62_6 (Int32.toNatClampNeg r_84) (vp_nar .boolean 1)) = z := ⟨_, rfl⟩
                        rw [eF_89] at h_90
                        refine lv_aload_n hx hb dX12_laysTurning_200 rfl (lv_at hl_85 1 rfl) ?_
                        refine q_get X hK h_90 8 rfl rfl wf_12 28 (by decide) rfl wm_5_198 dX12_laysTurning_201 ?_
                        refine lv_iload hx hb dX12_laysTurning_204 (lv_at hl_85 6 rfl) ?_
                        refine lv_iload hx hb dX12_laysTurning_206 (lv_at hl_85 0 rfl) ?_
                        refine q_iast X hK h_90 0 rfl (i_in rfl (by omega) (by omega)) dX12_laysTurning_208 (fun H locs h_92 => ?_)
                        clear h_90
                        replace h_92 : qW D _ _ (wk_fbde43c06 cy h5 (upd v112_62_3 (Int32.toNatClampNeg v112_62_1) r_84) h6 v112_62_4 h7 v112_62_5 h8 f7 h9 F_89 h2 (u_83.2.1 1) h3 (u_83.2.1 2) h4 (u_83.2.1 3) h0 p2 h1 w0 w1 w2 p3 p4 p5 p6 p7 p8 p9 p10 p11 p12 p13 h2 h3 h4 w3 w4 p14 p15 w5 w6 w7 p16 p17 h5 h6 h7 h8 h9 p18 w8 w9 w10 h1 (u_83.2.1 0)) _ _ := h_92
                        obtain ⟨F_91, eF_91, rF_91⟩ := rg_upd rv112_62_3 (Int32.toNatClampNeg v112_62_1) (x := r_84) rfl (by omega) (by omega)
                        rw [eF_91] at h_92
                        clear eF_91
                        refine lv_aload_n hx hb dX12_laysTurning_209 rfl (lv_at hl_85 1 rfl) ?_
                        refine q_get X hK h_92 8 rfl rfl wf_12 29 (by decide) rfl wm_5_199 dX12_laysTurning_210 ?_
                        refine lv_iload hx hb dX12_laysTurning_213 (lv_at hl_85 6 rfl) ?_
                        refine lv_iload hx hb dX12_laysTurning_215 (lv_at hl_85 9 rfl) ?_
                        refine q_iast X hK h_92 1 rfl (i_in rfl (by omega) (by omega)) dX12_laysTurning_217 (fun H locs h_94 => ?_)
                        clear h_92
                        replace h_94 : qW D _ _ (wk_fbde43c06 cy h5 F_91 h6 (upd v112_62_4 (Int32.toNatClampNeg v112_62_1) v112_62_0) h7 v112_62_5 h8 f7 h9 F_89 h2 (u_83.2.1 1) h3 (u_83.2.1 2) h4 (u_83.2.1 3) h0 p2 h1 w0 w1 w2 p3 p4 p5 p6 p7 p8 p9 p10 p11 p12 p13 h2 h3 h4 w3 w4 p14 p15 w5 w6 w7 p16 p17 h5 h6 h7 h8 h9 p18 w8 w9 w10 h1 (u_83.2.1 0)) _ _ := h_94
                        obtain ⟨F_93, eF_93⟩ : ∃ z, (upd v112_62_4 (Int32.toNatClampNeg v112_62_1) v112_62_0) = z := ⟨_, rfl⟩
                        rw [eF_93] at h_94
                        clear eF_93
                        refine lv_aload_n hx hb dX12_laysTurning_218 rfl (lv_at hl_85 1 rfl) ?_
                        refine q_get X hK h_94 8 rfl rfl wf_12 30 (by decide) rfl wm_5_200 dX12_laysTurning_219 ?_
                        refine lv_iload hx hb dX12_laysTurning_222 (lv_at hl_85 6 rfl) ?_
                        refine lv_iload hx hb dX12_laysTurning_224 (lv_at hl_85 8 rfl) ?_
                        refine q_iast X hK h_94 2 rfl (i_in rfl (by omega) (by omega)) dX12_laysTurning_226 (fun H locs h_96 => ?_)
                        clear h_94
                        replace h_96 : qW D _ _ (wk_fbde43c06 cy h5 F_91 h6 F_93 h7 (upd v112_62_5 (Int32.toNatClampNeg v112_62_1) v64_18_0) h8 f7 h9 F_89 h2 (u_83.2.1 1) h3 (u_83.2.1 2) h4 (u_83.2.1 3) h0 p2 h1 w0 w1 w2 p3 p4 p5 p6 p7 p8 p9 p10 p11 p12 p13 h2 h3 h4 w3 w4 p14 p15 w5 w6 w7 p16 p17 h5 h6 h7 h8 h9 p18 w8 w9 w10 h1 (u_83.2.1 0)) _ _ := h_96
                        obtain ⟨F_95, eF_95⟩ : ∃ z, (upd v112_62_5 (Int32.toNatClampNeg v112_62_1) v64_18_0) = z := ⟨_, rfl⟩
                        rw [eF_95] at h_96
                        have mt_97 := mt_s x63_0 (by omega) (by omega) ez_86 (by omega) eF_89 eF_95 rfl (by omega)
                        obtain ⟨z_98, ez_98, hz_98⟩ := e_add (x := v112_62_1) (y := Int32.ofInt 1) rfl (b := 1) (by decide) (by omega) (by omega)
                        refine lv_iinc (v := z_98) (lv' := [(5, .int z_98), (9, .int r_84), (0, .ref h0), (1, .int p0), (2, .int p1), (3, .int r_5), (4, .int r_7), (6, .int v109_59_0), (7, .int v64_18_0), (8, .int v112_62_0)]) hx hb dX12_laysTurning_227 hl_85 (k := 6) rfl ez_98 (by decide) rfl (fun ls_98 hl_98 => ?_)
                        clear hl_85
                        exact J_230 _ _ _ _ ⟨z_98, F_91, F_93, F_95, F_89, (u_83.2.1 1), (u_83.2.1 2), (u_83.2.1 3), (u_83.2.1 0), ⟨by omega, by omega⟩, (rg_wide rF_91 (by decide) (by decide)), (rg_wide w83_1 (by decide) (by decide)), w83_2, w83_0, (mt_n mt_97 (by (first | assumption | (clear x20_1 x60_0 x64_1; omega) | omega))), (by (first | (clear x20_1 x60_0 x64_1; omega) | omega)), (by (first | (clear x20_1 x60_0 x64_1; omega) | omega)), rfl, (q_re h_96 [7, 0, 1, 2, 3, 4, 8, 9, 5, 6] rfl rfl), (lv_sub hl_98 [2, 3, 4, 5, 6, 0, 7, 8, 9] rfl)⟩
                      · replace c_87 := i_ne (x := z_86) (y := 0) rfl (show (0 : Int32).toInt = 0 by decide) c_87
                        refine lv_goto (tgt := 230) hx hb dX12_laysTurning_189 (by decide) ?_
                        exact J_230 _ _ _ _ ⟨v112_62_1, v112_62_3, v112_62_4, v112_62_5, v112_62_6, (u_83.2.1 1), (u_83.2.1 2), (u_83.2.1 3), (u_83.2.1 0), hv112_62_1, (rg_wide rv112_62_3 (by decide) (by decide)), (rg_wide w83_1 (by decide) (by decide)), w83_2, w83_0, (mt_n x63_0 (by (first | assumption | (clear x20_1 x60_0 x64_1; omega) | omega))), (x64_1), (x65_2), rfl, (q_re h_84 [7, 0, 1, 2, 3, 4, 8, 9, 5, 6] rfl rfl), (lv_sub hl_85 [1, 2, 3, 4, 5, 6, 7, 8, 9] rfl)⟩
                    · replace c_80 := i_eq (x := r_79) (y := 0) rfl (show (0 : Int32).toInt = 0 by decide) c_80
                      refine lv_goto (tgt := 230) hx hb dX12_laysTurning_150 (by decide) ?_
                      exact J_230 _ _ _ _ ⟨v112_62_1, v112_62_3, v112_62_4, v112_62_5, v112_62_6, v112_62_8, v112_62_9, v112_62_2, v112_62_7, hv112_62_1, (rg_wide rv112_62_3 (by decide) (by decide)), (rg_wide rv112_62_2 (by decide) (by decide)), trv112_62_7_84, rv112_62_7, (mt_n x63_0 (by (first | assumption | (clear x20_1 x60_0 x64_1; omega) | omega))), (x64_1), (x65_2), rfl, h_79, (lv_sub hl [0, 1, 2, 3, 4, 5, 6, 7, 8] rfl)⟩
          · skip
            refine lv_if_eq (tgt := 109) hx hb dX12_laysTurning_102 (by decide) (fun c_99 => ?_) (fun c_99 => ?_)
            · replace c_99 := i_eq (x := r_58) (y := 0) rfl (show (0 : Int32).toInt = 0 by decide) c_99
              exact J_109 _ _ _ _ ⟨v64_18_2, hv64_18_2, (x20_1), rfl, h_58, (lv_sub hl [0, 1, 2, 3, 4, 5, 6, 7] rfl)⟩
            · replace c_99 := i_ne (x := r_58) (y := 0) rfl (show (0 : Int32).toInt = 0 by decide) c_99
              refine lv_iload hx hb dX12_laysTurning_105 (lv_at hl 7 rfl) ?_
              refine lv_istore (lv' := [(6, .int v64_18_0), (0, .ref h0), (1, .int p0), (2, .int p1), (3, .int r_5), (4, .int r_7), (5, .int v64_18_1), (7, .int v64_18_0)]) hx hb dX12_laysTurning_107 hl (by decide) rfl (fun ls_100 hl_100 => ?_)
              clear hl
              exact J_109 _ _ _ _ ⟨v64_18_0, ⟨by omega, by omega⟩, (by (first | (clear x20_1; omega) | omega)), rfl, h_58, (lv_sub hl_100 [1, 2, 3, 4, 5, 6, 0, 7] rfl)⟩
  · replace c_4 := i_nle (x := 1000) (y := v2_2_0) (show (1000 : Int32).toInt = 1000 by decide) rfl c_4
    refine lv_aload_n hx hb dX12_laysTurning_9 rfl (lv_at hl 0 rfl) ?_
    refine q_get X hK h 0 rfl rfl wf_12 32 (by decide) rfl wm_5_202 dX12_laysTurning_10 ?_
    refine lv_iload_n hx hb dX12_laysTurning_13 rfl (lv_at hl 3 rfl) ?_
    refine lv_iconst (v := 0) hx hb dX12_laysTurning_14 (by decide) ?_
    refine q_zast X hK h 9 rfl (i_in rfl (by omega) (by omega)) dX12_laysTurning_15 (fun H locs h_102 => ?_)
    clear h
    replace h_102 : qW D _ _ (wk_410b6a568 cy h0 p2 h1 w0 w1 w2 p3 p4 p5 p6 p7 p8 p9 p10 p11 p12 p13 h2 h3 h4 w3 w4 p14 p15 w5 w6 w7 p16 p17 h5 h6 h7 h8 h9 p18 w8 w9 w10 h1 f0 h2 f1 h3 f2 h4 f3 h5 f4 h6 f5 h7 f6 h8 f7 h9 (upd v2_2_1 (Int32.toNatClampNeg v2_2_0) (vp_nar .boolean 0))) _ _ := h_102
    obtain ⟨F_101, eF_101⟩ : ∃ z, (upd v2_2_1 (Int32.toNatClampNeg v2_2_0) (vp_nar .boolean 0)) = z := ⟨_, rfl⟩
    rw [eF_101] at h_102
    have zs_103 := zf_s x3_0 (by omega) eF_101
    obtain ⟨z_104, ez_104, hz_104⟩ := e_add (x := v2_2_0) (y := Int32.ofInt 1) rfl (b := 1) (by decide) (by omega) (by omega)
    refine lv_iinc (v := z_104) (lv' := [(3, .int z_104), (0, .ref h0), (1, .int p0), (2, .int p1)]) hx hb dX12_laysTurning_16 hl (k := 3) rfl ez_104 (by decide) rfl (fun ls_104 hl_104 => ?_)
    clear hl
    refine lv_goto (tgt := 2) hx hb dX12_laysTurning_19 (by decide) ?_
    exact ih_2 z_104 (by show (1001 - (z_104).toInt).toNat < (1001 - (v2_2_0).toInt).toNat; omega) _ _ _ ⟨F_101, ⟨by omega, by omega⟩, (zf_le zs_103 (by (first | assumption | omega))), h_102, (lv_sub hl_104 [1, 2, 3, 0] rfl)⟩
set_option maxHeartbeats 4000000 in
set_option maxRecDepth 100000 in
theorem gX12_talks_eb0817a (l : Launch) (D : va_G) (cy : Nat → ClassId) (h0 : Nat) (h1 : Nat) (h2 : Nat) (h3 : Nat) (h4 : Nat) (h5 : Nat) (h6 : Nat) (h7 : Nat) (h8 : Nat) (h9 : Nat) (p0 : Int32) (p1 : Int32) (p2 : Int32) (w0 : Value) (w1 : Value) (w2 : Value) (p3 : Int32) (p4 : Int32) (p5 : Int32) (p6 : Int32) (p7 : Int32) (p8 : Int32) (p9 : Int32) (p10 : Int32) (p11 : Int32) (p12 : Int32) (p13 : Int32) (w3 : Value) (w4 : Value) (p14 : Int32) (p15 : Int32) (w5 : Value) (w6 : Value) (w7 : Value) (p16 : Int32) (p17 : Int32) (p18 : Int32) (w8 : Value) (w9 : Value) (w10 : Value) (f0 : Nat → Int32) (p19 : Int32) (f1 : Nat → Int32) (f2 : Nat → Int32) (f3 : Nat → Int32) (f4 : Nat → Int32) (f5 : Nat → Int32) (f6 : Nat → Int32) (f7 : Nat → Int32) (f8 : Nat → Int32) (hp0 : (-2147483648) ≤ (p0).toInt ∧ (p0).toInt ≤ 2147483647) (hp1 : (-2147483648) ≤ (p1).toInt ∧ (p1).toInt ≤ 2147483647) (hp2 : (-2147483648) ≤ (p2).toInt ∧ (p2).toInt ≤ 2147483647) (hp3 : 0 ≤ (p3).toInt ∧ (p3).toInt ≤ 900) (hp4 : 0 ≤ (p4).toInt ∧ (p4).toInt ≤ 900) (hp5 : 0 ≤ (p5).toInt ∧ (p5).toInt ≤ 900) (hp6 : 0 ≤ (p6).toInt ∧ (p6).toInt ≤ 900) (hp7 : (-2147483648) ≤ (p7).toInt ∧ (p7).toInt ≤ 2147483647) (hp8 : 0 ≤ (p8).toInt ∧ (p8).toInt ≤ 999) (hp9 : (-2147483648) ≤ (p9).toInt ∧ (p9).toInt ≤ 2147483647) (hp10 : (-2147483648) ≤ (p10).toInt ∧ (p10).toInt ≤ 2147483647) (hp11 : (-2147483648) ≤ (p11).toInt ∧ (p11).toInt ≤ 2147483647) (hp12 : (-2147483648) ≤ (p12).toInt ∧ (p12).toInt ≤ 2147483647) (hp13 : (-2147483648) ≤ (p13).toInt ∧ (p13).toInt ≤ 2147483647) (hp14 : (-2147483648) ≤ (p14).toInt ∧ (p14).toInt ≤ 2147483647) (hp15 : (-2147483648) ≤ (p15).toInt ∧ (p15).toInt ≤ 2147483647) (hp16 : (-2147483648) ≤ (p16).toInt ∧ (p16).toInt ≤ 2147483647) (hp17 : (-2147483648) ≤ (p17).toInt ∧ (p17).toInt ≤ 2147483647) (hp18 : (-2147483648) ≤ (p18).toInt ∧ (p18).toInt ≤ 2147483647) (hp19 : 0 ≤ (p19).toInt ∧ (p19).toInt ≤ 10) (htf0_84 : f0 84 = p19) (rf0 : AL f0) (rf3 : RG f3 3 0 9) (rf4 : RG f4 1000 0 999) (sz : Nat) : MI l yX12_talks cX12_talks 3 .int { frames := 5, cells := 0, slots := 0, locals := 125 } [.ref h0, .int p0, .int p1] D cy (wk_410b6a568 cy h0 p2 h1 w0 w1 w2 p3 p4 p5 p6 p7 p8 p9 p10 p11 p12 p13 h2 h3 h4 w3 w4 p14 p15 w5 w6 w7 p16 p17 h5 h6 h7 h8 h9 p18 w8 w9 w10 h1 f0 h2 f1 h3 f2 h4 f3 h5 f4 h6 f5 h7 f6 h8 f7 h9 f8) sz (fun r u => ((-2) ≤ r.toInt ∧ r.toInt ≤ 999) ∧ RG (u.2.1 2) 3 0 9 ∧ RG (u.2.1 3) 1000 0 999 ∧ (0 ≤ (u.2.1 8 0).toInt ∧ (u.2.1 8 0).toInt ≤ 0) ∧ ((-2147483648) ≤ (u.2.1 9 0).toInt ∧ (u.2.1 9 0).toInt ≤ 2147483647) ∧ AL (u.2.1 10) ∧ (u.2.1 10) 84 = p19 ∧ True) (fun u => (wk_410b6a568 cy h0 (u.2.1 8 0) h1 w0 w1 w2 p3 p4 p5 p6 p7 p8 p9 p10 p11 p12 p13 h2 h3 h4 w3 w4 p14 p15 w5 w6 w7 p16 p17 h5 h6 h7 h8 h9 (u.2.1 9 0) w8 w9 w10 h1 (u.2.1 10) h2 (u.2.1 0) h3 (u.2.1 1) h4 (u.2.1 2) h5 (u.2.1 3) h6 (u.2.1 4) h7 (u.2.1 5) h8 (u.2.1 6) h9 (u.2.1 7))) 0 0 := by
  refine q_ent (own := RX12) (by decide) rfl (Nat.le_of_ble_eq_true rfl) (fun p e s m below meth c ls X hr hlk hnm hK hT h hA hl => ?_)
  obtain ⟨hx, hb, hml, hown, ht⟩ := id X
  replace hl : lv_has ls 3 [(0, .ref h0), (1, .int p0), (2, .int p1)] := hl
  refine lv_aload_n hx hb dX12_talks_0 rfl (lv_at hl 0 rfl) ?_
  refine lv_iconst (v := 0) hx hb dX12_talks_1 (by decide) ?_
  refine q_put (v := .int 0) X hK h 0 rfl rfl wf_12 tyX12 tyX12_ok nmX12 0 (by decide) wm_5_170 rfl rfl rfl (Nat.le_of_ble_eq_true rfl) dX12_talks_2 (fun H locs h_1 => ?_)
  clear h
  replace h_1 : qW D _ _ (wk_410b6a568 cy h0 0 h1 w0 w1 w2 p3 p4 p5 p6 p7 p8 p9 p10 p11 p12 p13 h2 h3 h4 w3 w4 p14 p15 w5 w6 w7 p16 p17 h5 h6 h7 h8 h9 p18 w8 w9 w10 h1 f0 h2 f1 h3 f2 h4 f3 h5 f4 h6 f5 h7 f6 h8 f7 h9 f8) _ _ := h_1
  refine lv_aload_n hx hb dX12_talks_5 rfl (lv_at hl 0 rfl) ?_
  refine lv_iload_n hx hb dX12_talks_6 rfl (lv_at hl 1 rfl) ?_
  refine lv_iload_n hx hb dX12_talks_7 rfl (lv_at hl 2 rfl) ?_
  refine q_callVi (rest := []) (wr := (wk_5ec465ffc cy h2 f1 h3 f2 h4 f3 h5 f4 h6 f5 h7 f6 h8 f7 h9 f8)) X hK hT hA h_1 (fun sz => gX12_areTwo_839642f l D cy h0 h1 p0 p1 (0 : Int32) w0 w1 w2 p3 p4 p5 p6 p7 p8 p9 p10 p11 p12 p13 (.ref h2) (.ref h3) (.ref h4) w3 w4 p14 p15 w5 w6 w7 p16 p17 (.ref h5) (.ref h6) (.ref h7) (.ref h8) (.ref h9) p18 w8 w9 w10 f0 p19 (i_rng _) (i_rng _) ⟨by decide +kernel, by decide +kernel⟩ hp3 hp4 hp5 hp6 (i_rng _) hp8 (i_rng _) (i_rng _) (i_rng _) (i_rng _) (i_rng _) (i_rng _) (i_rng _) (i_rng _) (i_rng _) (i_rng _) hp19 htf0_84 rf0 sz) wm_7_164 wm_7_167 wm_1_12 hd_X12_areTwo wm_7_166 wp_7_8 (ci := 12) (q0 := 0) rfl rfl ⟨Nat.le_of_ble_eq_true rfl, Nat.le_of_ble_eq_true rfl⟩ hl.1 rfl (Nat.le_of_ble_eq_true rfl) dX12_talks_8 ⟨Nat.le_of_ble_eq_true rfl, Nat.le_of_ble_eq_true rfl⟩ [0, 1] [2, 3, 4, 5, 6, 7, 8, 9] rfl rfl (by decide) rfl rfl (fun r_2 u_2 H locs w_2 h_2 => ?_)
  clear h_1
  obtain ⟨wr_2, y2_0, _⟩ := w_2
  replace h_2 : qW D _ _ (wk_dcd050277 cy h2 f1 h3 f2 h4 f3 h5 f4 h6 f5 h7 f6 h8 f7 h9 f8 h0 0 h1 w0 w1 w2 p3 p4 p5 p6 p7 p8 p9 p10 p11 p12 p13 h2 h3 h4 w3 w4 p14 p15 w5 w6 w7 p16 p17 h5 h6 h7 h8 h9 p18 w8 w9 w10 h1 f0) _ _ := h_2
  refine q_jn (pc2 := 25) (fun H locs ls st => ∃ v25_3_0 : Int32, ∃ v25_3_10 : Int32, ∃ v25_3_1 : Nat → Int32, ∃ v25_3_2 : Nat → Int32, ∃ v25_3_3 : Nat → Int32, ∃ v25_3_4 : Nat → Int32, ∃ v25_3_5 : Nat → Int32, ∃ v25_3_6 : Nat → Int32, ∃ v25_3_7 : Nat → Int32, ∃ v25_3_8 : Nat → Int32, ∃ v25_3_9 : Nat → Int32, ((-2147483648) ≤ (v25_3_0).toInt ∧ (v25_3_0).toInt ≤ 2147483647) ∧ ((-2) ≤ (v25_3_10).toInt ∧ (v25_3_10).toInt ≤ 999) ∧ v25_3_1 84 = p19 ∧ AL v25_3_1 ∧ RG v25_3_4 3 0 9 ∧ RG v25_3_5 1000 0 999 ∧ st = [.int v25_3_10] ∧ qW D (va_A (wk_410b6a568 cy h0 p2 h1 w0 w1 w2 p3 p4 p5 p6 p7 p8 p9 p10 p11 p12 p13 h2 h3 h4 w3 w4 p14 p15 w5 w6 w7 p16 p17 h5 h6 h7 h8 h9 p18 w8 w9 w10 h1 f0 h2 f1 h3 f2 h4 f3 h5 f4 h6 f5 h7 f6 h8 f7 h9 f8) sz) s.heap (wk_dcd050277 cy h2 v25_3_2 h3 v25_3_3 h4 v25_3_4 h5 v25_3_5 h6 v25_3_6 h7 v25_3_7 h8 v25_3_8 h9 v25_3_9 h0 0 h1 w0 w1 w2 p3 p4 p5 p6 p7 p8 p9 p10 p11 p12 p13 h2 h3 h4 w3 w4 p14 p15 w5 w6 w7 p16 p17 h5 h6 h7 h8 h9 v25_3_0 w8 w9 w10 h1 v25_3_1) H locs ∧ lv_has ls 3 [(0, .ref h0), (1, .int p0), (2, .int p1)]) (fun H locs ls st hP => ?_) (fun J_25 => ?_)
  · obtain ⟨v25_3_0, v25_3_10, v25_3_1, v25_3_2, v25_3_3, v25_3_4, v25_3_5, v25_3_6, v25_3_7, v25_3_8, v25_3_9, hv25_3_0, hv25_3_10, trv25_3_1_84, rv25_3_1, rv25_3_4, rv25_3_5, rfl, h, hl⟩ := hP
    exact q_iret X hr hlk hK h rfl (fun _ => 0, (vcons v25_3_2 (vcons v25_3_3 (vcons v25_3_4 (vcons v25_3_5 (vcons v25_3_6 (vcons v25_3_7 (vcons v25_3_8 (vcons v25_3_9 (vcons (fun _ => 0) (vcons (fun _ => v25_3_0) (vcons v25_3_1 (fun _ => (fun _ => 0))))))))))))), fun _ _ => 0) ⟨hv25_3_10, (rg_wide rv25_3_4 (by decide) (by decide)), (rg_wide rv25_3_5 (by decide) (by decide)), (⟨by decide +kernel, by decide +kernel⟩ : 0 ≤ (0 : Int32).toInt ∧ (0 : Int32).toInt ≤ 0), hv25_3_0, rv25_3_1, trv25_3_1_84, trivial⟩ [8, 9, 0, 1, 2, 3, 4, 5, 6, 7] rfl rfl dX12_talks_25 (Nat.le_of_ble_eq_true rfl) (Nat.le_of_ble_eq_true rfl)
  · skip
    refine lv_if_eq (tgt := 23) hx hb dX12_talks_11 (by decide) (fun c_4 => ?_) (fun c_4 => ?_)
    · replace c_4 := i_eq (x := r_2) (y := 0) rfl (show (0 : Int32).toInt = 0 by decide) c_4
      refine lv_bipush (v := (-2)) hx hb dX12_talks_23 (by decide) ?_
      exact J_25 _ _ _ _ ⟨p18, (-2), f0, f1, f2, f3, f4, f5, f6, f7, f8, hp18, ⟨by decide +kernel, by decide +kernel⟩, htf0_84, rf0, (rg_wide rf3 (by decide) (by decide)), (rg_wide rf4 (by decide) (by decide)), rfl, h_2, (lv_sub hl [0, 1, 2] rfl)⟩
    · replace c_4 := i_ne (x := r_2) (y := 0) rfl (show (0 : Int32).toInt = 0 by decide) c_4
      refine lv_aload_n hx hb dX12_talks_14 rfl (lv_at hl 0 rfl) ?_
      refine lv_iload_n hx hb dX12_talks_15 rfl (lv_at hl 1 rfl) ?_
      refine lv_iload_n hx hb dX12_talks_16 rfl (lv_at hl 2 rfl) ?_
      refine q_callVi (rest := []) (wr := []) X hK hT hA h_2 (fun sz => gX12_laysTurning_b50106d l D cy h0 h1 h2 h3 h4 h5 h6 h7 h8 h9 p0 p1 (0 : Int32) w0 w1 w2 p3 p4 p5 p6 p7 p8 p9 p10 p11 p12 p13 w3 w4 p14 p15 w5 w6 w7 p16 p17 p18 w8 w9 w10 f0 p19 f1 f2 f3 f4 f5 f6 f7 f8 ⟨by omega, by omega⟩ ⟨by omega, by omega⟩ ⟨by decide +kernel, by decide +kernel⟩ hp3 hp4 hp5 hp6 (i_rng _) hp8 (i_rng _) (i_rng _) (i_rng _) (i_rng _) (i_rng _) (i_rng _) (i_rng _) (i_rng _) (i_rng _) (i_rng _) hp19 htf0_84 rf0 (rg_wide rf3 (by decide) (by decide)) (rg_wide rf4 (by decide) (by decide)) sz) wm_7_168 wm_7_171 wm_1_12 hd_X12_laysTurning wm_7_170 wp_7_9 (ci := 12) (q0 := 0) rfl rfl ⟨Nat.le_of_ble_eq_true rfl, Nat.le_of_ble_eq_true rfl⟩ hl.1 rfl (Nat.le_of_ble_eq_true rfl) dX12_talks_17 ⟨Nat.le_of_ble_eq_true rfl, Nat.le_of_ble_eq_true rfl⟩ [8, 9, 0, 1, 2, 3, 4, 5, 6, 7] [] rfl rfl (by decide) rfl rfl (fun r_5 u_5 H locs w_5 h_5 => ?_)
      clear h_2
      obtain ⟨wr_5, w5_0, w5_1, w5_2, w5_3, w5_4, _⟩ := w_5
      replace h_5 : qW D _ _ (wk_410b6a568 cy h0 0 h1 w0 w1 w2 p3 p4 p5 p6 p7 p8 p9 p10 p11 p12 p13 h2 h3 h4 w3 w4 p14 p15 w5 w6 w7 p16 p17 h5 h6 h7 h8 h9 (u_5.2.1 8 0) w8 w9 w10 h1 (u_5.2.1 9) h2 (u_5.2.1 0) h3 (u_5.2.1 1) h4 (u_5.2.1 2) h5 (u_5.2.1 3) h6 (u_5.2.1 4) h7 (u_5.2.1 5) h8 (u_5.2.1 6) h9 (u_5.2.1 7)) _ _ := h_5
      refine lv_goto (tgt := 25) hx hb dX12_talks_20 (by decide) ?_
      exact J_25 _ _ _ _ ⟨(u_5.2.1 8 0), r_5, (u_5.2.1 9), (u_5.2.1 0), (u_5.2.1 1), (u_5.2.1 2), (u_5.2.1 3), (u_5.2.1 4), (u_5.2.1 5), (u_5.2.1 6), (u_5.2.1 7), w5_2, (bw wr_5 (by decide) (by decide)), w5_4, w5_3, (rg_wide w5_0 (by decide) (by decide)), (rg_wide w5_1 (by decide) (by decide)), rfl, (q_re h_5 [2, 3, 4, 5, 6, 7, 8, 9, 0, 1] rfl rfl), (lv_sub hl [0, 1, 2] rfl)⟩
set_option maxHeartbeats 4000000 in
set_option maxRecDepth 100000 in
theorem gX12_talkBy_1248cb6 (l : Launch) (D : va_G) (cy : Nat → ClassId) (h0 : Nat) (h1 : Nat) (h2 : Nat) (h3 : Nat) (h4 : Nat) (h5 : Nat) (h6 : Nat) (h7 : Nat) (h8 : Nat) (h9 : Nat) (p0 : Int32) (p1 : Int32) (p2 : Int32) (p3 : Int32) (w0 : Value) (w1 : Value) (w2 : Value) (p4 : Int32) (p5 : Int32) (p6 : Int32) (p7 : Int32) (p8 : Int32) (p9 : Int32) (p10 : Int32) (p11 : Int32) (p12 : Int32) (p13 : Int32) (p14 : Int32) (w3 : Value) (w4 : Value) (p15 : Int32) (p16 : Int32) (w5 : Value) (w6 : Value) (w7 : Value) (p17 : Int32) (p18 : Int32) (p19 : Int32) (w8 : Value) (w9 : Value) (w10 : Value) (f0 : Nat → Int32) (p20 : Int32) (f1 : Nat → Int32) (f2 : Nat → Int32) (f3 : Nat → Int32) (f4 : Nat → Int32) (f5 : Nat → Int32) (f6 : Nat → Int32) (f7 : Nat → Int32) (f8 : Nat → Int32) (hp0 : (-2147483648) ≤ (p0).toInt ∧ (p0).toInt ≤ 2147483647) (hp1 : (-2147483648) ≤ (p1).toInt ∧ (p1).toInt ≤ 2147483647) (hp2 : (-2147483648) ≤ (p2).toInt ∧ (p2).toInt ≤ 2147483647) (hp3 : (-2147483648) ≤ (p3).toInt ∧ (p3).toInt ≤ 2147483647) (hp4 : 0 ≤ (p4).toInt ∧ (p4).toInt ≤ 900) (hp5 : 0 ≤ (p5).toInt ∧ (p5).toInt ≤ 900) (hp6 : 0 ≤ (p6).toInt ∧ (p6).toInt ≤ 900) (hp7 : 0 ≤ (p7).toInt ∧ (p7).toInt ≤ 900) (hp8 : (-2147483648) ≤ (p8).toInt ∧ (p8).toInt ≤ 2147483647) (hp9 : 0 ≤ (p9).toInt ∧ (p9).toInt ≤ 999) (hp10 : (-2147483648) ≤ (p10).toInt ∧ (p10).toInt ≤ 2147483647) (hp11 : (-2147483648) ≤ (p11).toInt ∧ (p11).toInt ≤ 2147483647) (hp12 : (-2147483648) ≤ (p12).toInt ∧ (p12).toInt ≤ 2147483647) (hp13 : (-2147483648) ≤ (p13).toInt ∧ (p13).toInt ≤ 2147483647) (hp14 : (-2147483648) ≤ (p14).toInt ∧ (p14).toInt ≤ 2147483647) (hp15 : (-2147483648) ≤ (p15).toInt ∧ (p15).toInt ≤ 2147483647) (hp16 : (-2147483648) ≤ (p16).toInt ∧ (p16).toInt ≤ 2147483647) (hp17 : (-2147483648) ≤ (p17).toInt ∧ (p17).toInt ≤ 2147483647) (hp18 : (-2147483648) ≤ (p18).toInt ∧ (p18).toInt ≤ 2147483647) (hp19 : (-2147483648) ≤ (p19).toInt ∧ (p19).toInt ≤ 2147483647) (hp20 : 0 ≤ (p20).toInt ∧ (p20).toInt ≤ 10) (htf0_84 : f0 84 = p20) (rf0 : AL f0) (rf3 : RG f3 3 0 9) (rf4 : RG f4 1000 0 999) (sz : Nat) : MI l yX12_talkBy cX12_talkBy 5 .int { frames := 5, cells := 0, slots := 0, locals := 125 } [.ref h0, .int p0, .int p1, .int p2] D cy (wk_410b6a568 cy h0 p3 h1 w0 w1 w2 p4 p5 p6 p7 p8 p9 p10 p11 p12 p13 p14 h2 h3 h4 w3 w4 p15 p16 w5 w6 w7 p17 p18 h5 h6 h7 h8 h9 p19 w8 w9 w10 h1 f0 h2 f1 h3 f2 h4 f3 h5 f4 h6 f5 h7 f6 h8 f7 h9 f8) sz (fun r u => ((-2147483648) ≤ r.toInt ∧ r.toInt ≤ 2147483647) ∧ (0 ≤ (u.2.1 0 0).toInt ∧ (u.2.1 0 0).toInt ≤ 0) ∧ ((-2147483648) ≤ (u.2.1 1 0).toInt ∧ (u.2.1 1 0).toInt ≤ 2147483647) ∧ AL (u.2.1 2) ∧ RG (u.2.1 5) 3 0 9 ∧ RG (u.2.1 6) 1000 0 999 ∧ (u.2.1 2) 84 = p20 ∧ True) (fun u => (wk_410b6a568 cy h0 (u.2.1 0 0) h1 w0 w1 w2 p4 p5 p6 p7 p8 p9 p10 p11 p12 p13 p14 h2 h3 h4 w3 w4 p15 p16 w5 w6 w7 p17 p18 h5 h6 h7 h8 h9 (u.2.1 1 0) w8 w9 w10 h1 (u.2.1 2) h2 (u.2.1 3) h3 (u.2.1 4) h4 (u.2.1 5) h5 (u.2.1 6) h6 (u.2.1 7) h7 (u.2.1 8) h8 (u.2.1 9) h9 (u.2.1 10))) 0 0 := by
  refine q_ent (own := RX12) (by decide) rfl (Nat.le_of_ble_eq_true rfl) (fun p e s m below meth c ls X hr hlk hnm hK hT h hA hl => ?_)
  obtain ⟨hx, hb, hml, hown, ht⟩ := id X
  replace hl : lv_has ls 5 [(0, .ref h0), (1, .int p0), (2, .int p1), (3, .int p2)] := hl
  refine lv_aload_n hx hb dX12_talkBy_0 rfl (lv_at hl 0 rfl) ?_
  refine lv_iconst (v := 0) hx hb dX12_talkBy_1 (by decide) ?_
  refine q_put (v := .int 0) X hK h 0 rfl rfl wf_12 tyX12 tyX12_ok nmX12 0 (by decide) wm_5_170 rfl rfl rfl (Nat.le_of_ble_eq_true rfl) dX12_talkBy_2 (fun H locs h_1 => ?_)
  clear h
  replace h_1 : qW D _ _ (wk_410b6a568 cy h0 0 h1 w0 w1 w2 p4 p5 p6 p7 p8 p9 p10 p11 p12 p13 p14 h2 h3 h4 w3 w4 p15 p16 w5 w6 w7 p17 p18 h5 h6 h7 h8 h9 p19 w8 w9 w10 h1 f0 h2 f1 h3 f2 h4 f3 h5 f4 h6 f5 h7 f6 h8 f7 h9 f8) _ _ := h_1
  refine lv_aload_n hx hb dX12_talkBy_5 rfl (lv_at hl 0 rfl) ?_
  refine lv_iload_n hx hb dX12_talkBy_6 rfl (lv_at hl 1 rfl) ?_
  refine lv_iload_n hx hb dX12_talkBy_7 rfl (lv_at hl 2 rfl) ?_
  refine q_callVi (rest := []) (wr := (wk_5ec465ffc cy h2 f1 h3 f2 h4 f3 h5 f4 h6 f5 h7 f6 h8 f7 h9 f8)) X hK hT hA h_1 (fun sz => gX12_areTwo_839642f l D cy h0 h1 p0 p1 (0 : Int32) w0 w1 w2 p4 p5 p6 p7 p8 p9 p10 p11 p12 p13 p14 (.ref h2) (.ref h3) (.ref h4) w3 w4 p15 p16 w5 w6 w7 p17 p18 (.ref h5) (.ref h6) (.ref h7) (.ref h8) (.ref h9) p19 w8 w9 w10 f0 p20 (i_rng _) (i_rng _) ⟨by decide +kernel, by decide +kernel⟩ hp4 hp5 hp6 hp7 (i_rng _) hp9 (i_rng _) (i_rng _) (i_rng _) (i_rng _) (i_rng _) (i_rng _) (i_rng _) (i_rng _) (i_rng _) (i_rng _) hp20 htf0_84 rf0 sz) wm_7_164 wm_7_167 wm_1_12 hd_X12_areTwo wm_7_166 wp_7_8 (ci := 12) (q0 := 0) rfl rfl ⟨Nat.le_of_ble_eq_true rfl, Nat.le_of_ble_eq_true rfl⟩ hl.1 rfl (Nat.le_of_ble_eq_true rfl) dX12_talkBy_8 ⟨Nat.le_of_ble_eq_true rfl, Nat.le_of_ble_eq_true rfl⟩ [0, 1] [2, 3, 4, 5, 6, 7, 8, 9] rfl rfl (by decide) rfl rfl (fun r_2 u_2 H locs w_2 h_2 => ?_)
  clear h_1
  obtain ⟨wr_2, y2_0, _⟩ := w_2
  replace h_2 : qW D _ _ (wk_dcd050277 cy h2 f1 h3 f2 h4 f3 h5 f4 h6 f5 h7 f6 h8 f7 h9 f8 h0 0 h1 w0 w1 w2 p4 p5 p6 p7 p8 p9 p10 p11 p12 p13 p14 h2 h3 h4 w3 w4 p15 p16 w5 w6 w7 p17 p18 h5 h6 h7 h8 h9 p19 w8 w9 w10 h1 f0) _ _ := h_2
  refine lv_if_ne (tgt := 17) hx hb dX12_talkBy_11 (by decide) (fun c_3 => ?_) (fun c_3 => ?_)
  · replace c_3 := i_ne (x := r_2) (y := 0) rfl (show (0 : Int32).toInt = 0 by decide) c_3
    refine lv_iload_n hx hb dX12_talkBy_17 rfl (lv_at hl 3 rfl) ?_
    refine lv_if_ge (tgt := 24) hx hb dX12_talkBy_18 (by decide) (fun c_4 => ?_) (fun c_4 => ?_)
    · replace c_4 := i_le (x := 0) (y := p2) (show (0 : Int32).toInt = 0 by decide) rfl c_4
      refine lv_aload_n hx hb dX12_talkBy_24 rfl (lv_at hl 0 rfl) ?_
      refine lv_iload_n hx hb dX12_talkBy_25 rfl (lv_at hl 1 rfl) ?_
      refine lv_iload_n hx hb dX12_talkBy_26 rfl (lv_at hl 2 rfl) ?_
      refine q_callVi (rest := []) (wr := []) X hK hT hA h_2 (fun sz => gX12_laysTurning_b50106d l D cy h0 h1 h2 h3 h4 h5 h6 h7 h8 h9 p0 p1 (0 : Int32) w0 w1 w2 p4 p5 p6 p7 p8 p9 p10 p11 p12 p13 p14 w3 w4 p15 p16 w5 w6 w7 p17 p18 p19 w8 w9 w10 f0 p20 f1 f2 f3 f4 f5 f6 f7 f8 ⟨by omega, by omega⟩ ⟨by omega, by omega⟩ ⟨by decide +kernel, by decide +kernel⟩ hp4 hp5 hp6 hp7 (i_rng _) hp9 (i_rng _) (i_rng _) (i_rng _) (i_rng _) (i_rng _) (i_rng _) (i_rng _) (i_rng _) (i_rng _) (i_rng _) hp20 htf0_84 rf0 (rg_wide rf3 (by decide) (by decide)) (rg_wide rf4 (by decide) (by decide)) sz) wm_7_168 wm_7_171 wm_1_12 hd_X12_laysTurning wm_7_170 wp_7_9 (ci := 12) (q0 := 0) rfl rfl ⟨Nat.le_of_ble_eq_true rfl, Nat.le_of_ble_eq_true rfl⟩ hl.1 rfl (Nat.le_of_ble_eq_true rfl) dX12_talkBy_27 ⟨Nat.le_of_ble_eq_true rfl, Nat.le_of_ble_eq_true rfl⟩ [8, 9, 0, 1, 2, 3, 4, 5, 6, 7] [] rfl rfl (by decide) rfl rfl (fun r_5 u_5 H locs w_5 h_5 => ?_)
      clear h_2
      obtain ⟨wr_5, w5_0, w5_1, w5_2, w5_3, w5_4, _⟩ := w_5
      replace h_5 : qW D _ _ (wk_410b6a568 cy h0 0 h1 w0 w1 w2 p4 p5 p6 p7 p8 p9 p10 p11 p12 p13 p14 h2 h3 h4 w3 w4 p15 p16 w5 w6 w7 p17 p18 h5 h6 h7 h8 h9 (u_5.2.1 8 0) w8 w9 w10 h1 (u_5.2.1 9) h2 (u_5.2.1 0) h3 (u_5.2.1 1) h4 (u_5.2.1 2) h5 (u_5.2.1 3) h6 (u_5.2.1 4) h7 (u_5.2.1 5) h8 (u_5.2.1 6) h9 (u_5.2.1 7)) _ _ := h_5
      refine lv_istore (lv' := [(4, .int r_5), (0, .ref h0), (1, .int p0), (2, .int p1), (3, .int p2)]) hx hb dX12_talkBy_30 hl (by decide) rfl (fun ls_6 hl_6 => ?_)
      clear hl
      refine lv_iload_n hx hb dX12_talkBy_32 rfl (lv_at hl_6 4 rfl) ?_
      refine lv_iload hx hb dX12_talkBy_33 (lv_at hl_6 0 rfl) ?_
      refine q_jn (pc2 := 48) (fun H locs ls st => ∃ v48_7_0 : Int32, ((-2147483648) ≤ (v48_7_0).toInt ∧ (v48_7_0).toInt ≤ 2147483647) ∧ st = [.int v48_7_0] ∧ qW D (va_A (wk_410b6a568 cy h0 p3 h1 w0 w1 w2 p4 p5 p6 p7 p8 p9 p10 p11 p12 p13 p14 h2 h3 h4 w3 w4 p15 p16 w5 w6 w7 p17 p18 h5 h6 h7 h8 h9 p19 w8 w9 w10 h1 f0 h2 f1 h3 f2 h4 f3 h5 f4 h6 f5 h7 f6 h8 f7 h9 f8) sz) s.heap (wk_410b6a568 cy h0 0 h1 w0 w1 w2 p4 p5 p6 p7 p8 p9 p10 p11 p12 p13 p14 h2 h3 h4 w3 w4 p15 p16 w5 w6 w7 p17 p18 h5 h6 h7 h8 h9 (u_5.2.1 8 0) w8 w9 w10 h1 (u_5.2.1 9) h2 (u_5.2.1 0) h3 (u_5.2.1 1) h4 (u_5.2.1 2) h5 (u_5.2.1 3) h6 (u_5.2.1 4) h7 (u_5.2.1 5) h8 (u_5.2.1 6) h9 (u_5.2.1 7)) H locs ∧ lv_has ls 5 [(0, .ref h0), (1, .int p0), (2, .int p1), (3, .int p2), (4, .int r_5)]) (fun H locs ls st hP => ?_) (fun J_48 => ?_)
      · obtain ⟨v48_7_0, hv48_7_0, rfl, h, hl⟩ := hP
        exact q_iret X hr hlk hK h rfl (fun _ => 0, (vcons (fun _ => 0) (vcons (fun _ => (u_5.2.1 8 0)) (vcons (u_5.2.1 9) (vcons (u_5.2.1 0) (vcons (u_5.2.1 1) (vcons (u_5.2.1 2) (vcons (u_5.2.1 3) (vcons (u_5.2.1 4) (vcons (u_5.2.1 5) (vcons (u_5.2.1 6) (vcons (u_5.2.1 7) (fun _ => (fun _ => 0))))))))))))), fun _ _ => 0) ⟨hv48_7_0, (⟨by decide +kernel, by decide +kernel⟩ : 0 ≤ (0 : Int32).toInt ∧ (0 : Int32).toInt ≤ 0), w5_2, w5_3, (rg_wide w5_0 (by decide) (by decide)), (rg_wide w5_1 (by decide) (by decide)), w5_4, trivial⟩ [0, 1, 2, 3, 4, 5, 6, 7, 8, 9] rfl rfl dX12_talkBy_48 (Nat.le_of_ble_eq_true rfl) (Nat.le_of_ble_eq_true rfl)
      · skip
        refine lv_icmp_ge (tgt := 47) hx hb dX12_talkBy_35 (by decide) (fun c_8 => ?_) (fun c_8 => ?_)
        · replace c_8 := i_le (x := r_5) (y := p2) rfl rfl c_8
          refine lv_iconst (v := (-1)) hx hb dX12_talkBy_47 (by decide) ?_
          exact J_48 _ _ _ _ ⟨(-1), ⟨by decide +kernel, by decide +kernel⟩, rfl, h_5, (lv_sub hl_6 [1, 2, 3, 4, 0] rfl)⟩
        · replace c_8 := i_nle (x := r_5) (y := p2) rfl rfl c_8
          refine lv_aload_n hx hb dX12_talkBy_38 rfl (lv_at hl_6 1 rfl) ?_
          refine q_get X hK h_5 0 rfl rfl wf_12 31 (by decide) rfl wm_5_201 dX12_talkBy_39 ?_
          refine lv_iload_n hx hb dX12_talkBy_42 rfl (lv_at hl_6 4 rfl) ?_
          refine q_iald X hK h_5 8 rfl (i_in rfl (by omega) (by omega)) dX12_talkBy_43 ?_
          refine q_any (fun z_9 hz_9 => ?_)
          refine lv_goto (tgt := 48) hx hb dX12_talkBy_44 (by decide) ?_
          exact J_48 _ _ _ _ ⟨z_9, ⟨by omega, by omega⟩, rfl, h_5, (lv_sub hl_6 [1, 2, 3, 4, 0] rfl)⟩
    · replace c_4 := i_nle (x := 0) (y := p2) (show (0 : Int32).toInt = 0 by decide) rfl c_4
      refine lv_bipush (v := (-3)) hx hb dX12_talkBy_21 (by decide) ?_
      exact q_iret X hr hlk hK h_2 rfl (fun _ => 0, (vcons (fun _ => 0) (vcons (fun _ => p19) (vcons f0 (vcons f1 (vcons f2 (vcons f3 (vcons f4 (vcons f5 (vcons f6 (vcons f7 (vcons f8 (fun _ => (fun _ => 0))))))))))))), fun _ _ => 0) ⟨⟨by decide +kernel, by decide +kernel⟩, (⟨by decide +kernel, by decide +kernel⟩ : 0 ≤ (0 : Int32).toInt ∧ (0 : Int32).toInt ≤ 0), hp19, rf0, (rg_wide rf3 (by decide) (by decide)), (rg_wide rf4 (by decide) (by decide)), htf0_84, trivial⟩ [8, 9, 0, 1, 2, 3, 4, 5, 6, 7] rfl rfl dX12_talkBy_23 (Nat.le_of_ble_eq_true rfl) (Nat.le_of_ble_eq_true rfl)
  · replace c_3 := i_eq (x := r_2) (y := 0) rfl (show (0 : Int32).toInt = 0 by decide) c_3
    refine lv_bipush (v := (-2)) hx hb dX12_talkBy_14 (by decide) ?_
    exact q_iret X hr hlk hK h_2 rfl (fun _ => 0, (vcons (fun _ => 0) (vcons (fun _ => p19) (vcons f0 (vcons f1 (vcons f2 (vcons f3 (vcons f4 (vcons f5 (vcons f6 (vcons f7 (vcons f8 (fun _ => (fun _ => 0))))))))))))), fun _ _ => 0) ⟨⟨by decide +kernel, by decide +kernel⟩, (⟨by decide +kernel, by decide +kernel⟩ : 0 ≤ (0 : Int32).toInt ∧ (0 : Int32).toInt ≤ 0), hp19, rf0, (rg_wide rf3 (by decide) (by decide)), (rg_wide rf4 (by decide) (by decide)), htf0_84, trivial⟩ [8, 9, 0, 1, 2, 3, 4, 5, 6, 7] rfl rfl dX12_talkBy_16 (Nat.le_of_ble_eq_true rfl) (Nat.le_of_ble_eq_true rfl)
set_option maxHeartbeats 4000000 in
set_option maxRecDepth 100000 in
theorem gX12_word_a97c134 (l : Launch) (D : va_G) (cy : Nat → ClassId) (h0 : Nat) (h1 : Nat) (h2 : Nat) (h3 : Nat) (h4 : Nat) (h5 : Nat) (h6 : Nat) (p0 : Int32) (w0 : Value) (w1 : Value) (w2 : Value) (p1 : Int32) (p2 : Int32) (p3 : Int32) (p4 : Int32) (p5 : Int32) (p6 : Int32) (p7 : Int32) (p8 : Int32) (p9 : Int32) (p10 : Int32) (p11 : Int32) (w3 : Value) (p12 : Int32) (p13 : Int32) (w4 : Value) (w5 : Value) (p14 : Int32) (p15 : Int32) (w6 : Value) (w7 : Value) (w8 : Value) (w9 : Value) (w10 : Value) (p16 : Int32) (w11 : Value) (w12 : Value) (w13 : Value) (f0 : Nat → Int32) (p17 : Int32) (f1 : Nat → Int32) (f2 : Nat → Int32) (f3 : Nat → Int32) (f4 : Nat → Int32) (f5 : Nat → Int32) (hp0 : (-2147483648) ≤ (p0).toInt ∧ (p0).toInt ≤ 2147483647) (hp1 : 0 ≤ (p1).toInt ∧ (p1).toInt ≤ 900) (hp2 : 0 ≤ (p2).toInt ∧ (p2).toInt ≤ 900) (hp3 : 0 ≤ (p3).toInt ∧ (p3).toInt ≤ 900) (hp4 : 0 ≤ (p4).toInt ∧ (p4).toInt ≤ 900) (hp5 : (-2147483648) ≤ (p5).toInt ∧ (p5).toInt ≤ 2147483647) (hp6 : 0 ≤ (p6).toInt ∧ (p6).toInt ≤ 999) (hp7 : (-2147483648) ≤ (p7).toInt ∧ (p7).toInt ≤ 2147483647) (hp8 : (-2147483648) ≤ (p8).toInt ∧ (p8).toInt ≤ 2147483647) (hp9 : (-2147483648) ≤ (p9).toInt ∧ (p9).toInt ≤ 2147483647) (hp10 : (-2147483648) ≤ (p10).toInt ∧ (p10).toInt ≤ 2147483647) (hp11 : (-2147483648) ≤ (p11).toInt ∧ (p11).toInt ≤ 2147483647) (hp12 : (-2147483648) ≤ (p12).toInt ∧ (p12).toInt ≤ 2147483647) (hp13 : (-2147483648) ≤ (p13).toInt ∧ (p13).toInt ≤ 2147483647) (hp14 : (-2147483648) ≤ (p14).toInt ∧ (p14).toInt ≤ 2147483647) (hp15 : (-2147483648) ≤ (p15).toInt ∧ (p15).toInt ≤ 2147483647) (hp16 : (-2147483648) ≤ (p16).toInt ∧ (p16).toInt ≤ 2147483647) (hp17 : 0 ≤ (p17).toInt ∧ (p17).toInt ≤ 10) (htf0_84 : f0 84 = p17) (rf0 : AL f0) (rf3 : RG f3 3 0 9) (rf4 : RG f4 10 0 1023) (sz : Nat) : MI l yX12_word cX12_word 5 .int { frames := 6, cells := 0, slots := 0, locals := 135 } [.ref h0] D cy (wk_9062689b1 cy h0 p0 h1 w0 w1 w2 p1 p2 p3 p4 p5 p6 p7 p8 p9 p10 p11 h2 h3 h4 h5 w3 p12 p13 h6 w4 w5 p14 p15 w6 w7 w8 w9 w10 p16 w11 w12 w13 h1 f0 h2 f1 h3 f2 h4 f3 h5 f4 h6 f5) sz (fun r u => ((-1) ≤ r.toInt ∧ r.toInt ≤ 99) ∧ RG (u.2.1 0) 3 0 9 ∧ (0 ≤ (u.2.1 1 0).toInt ∧ (u.2.1 1 0).toInt ≤ 0) ∧ AL (u.2.1 2) ∧ RG (u.2.1 5) 10 0 1023 ∧ (u.2.1 2) 84 = p17 ∧ True) (fun u => (wk_9062689b1 cy h0 (u.2.1 1 0) h1 w0 w1 w2 p1 p2 p3 p4 p5 p6 p7 p8 p9 p10 p11 h2 h3 h4 h5 w3 p12 p13 h6 w4 w5 p14 p15 w6 w7 w8 w9 w10 p16 w11 w12 w13 h1 (u.2.1 2) h2 (u.2.1 3) h3 (u.2.1 4) h4 (u.2.1 0) h5 (u.2.1 5) h6 (u.2.1 6))) 0 0 := by
  refine q_ent (own := RX12) (by decide) rfl (Nat.le_of_ble_eq_true rfl) (fun p e s m below meth c ls X hr hlk hnm hK hT h hA hl => ?_)
  obtain ⟨hx, hb, hml, hown, ht⟩ := id X
  replace hl : lv_has ls 5 [(0, .ref h0)] := hl
  refine lv_aload_n hx hb dX12_word_0 rfl (lv_at hl 0 rfl) ?_
  refine lv_iconst (v := 0) hx hb dX12_word_1 (by decide) ?_
  refine q_put (v := .int 0) X hK h 0 rfl rfl wf_12 tyX12 tyX12_ok nmX12 0 (by decide) wm_5_170 rfl rfl rfl (Nat.le_of_ble_eq_true rfl) dX12_word_2 (fun H locs h_1 => ?_)
  clear h
  replace h_1 : qW D _ _ (wk_9062689b1 cy h0 0 h1 w0 w1 w2 p1 p2 p3 p4 p5 p6 p7 p8 p9 p10 p11 h2 h3 h4 h5 w3 p12 p13 h6 w4 w5 p14 p15 w6 w7 w8 w9 w10 p16 w11 w12 w13 h1 f0 h2 f1 h3 f2 h4 f3 h5 f4 h6 f5) _ _ := h_1
  refine lv_aload_n hx hb dX12_word_5 rfl (lv_at hl 0 rfl) ?_
  refine lv_aload_n hx hb dX12_word_6 rfl (lv_at hl 0 rfl) ?_
  refine q_callVi (rest := [.ref h0]) (wr := [(h2, .inl (cy 1, 900, .inl f1)), (h3, .inl (cy 1, 11, .inl f2)), (h4, .inl (cy 1, 3, .inl f3)), (h5, .inl (cy 1, 10, .inl f4)), (h6, .inl (cy 1, 1024, .inl f5))]) X hK hT hA h_1 (fun sz => gX12_townNow_2907b4b l D cy h0 h1 (0 : Int32) w0 w1 w2 p1 p2 p3 p4 p5 p6 p7 p8 p9 p10 p11 (.ref h2) (.ref h3) (.ref h4) (.ref h5) w3 p12 p13 (.ref h6) w4 w5 p14 p15 w6 w7 w8 w9 w10 p16 w11 w12 w13 f0 p17 ⟨by decide +kernel, by decide +kernel⟩ hp1 hp2 hp3 hp4 (i_rng _) hp6 (i_rng _) (i_rng _) (i_rng _) (i_rng _) (i_rng _) (i_rng _) (i_rng _) (i_rng _) (i_rng _) (i_rng _) hp17 htf0_84 rf0 sz) wm_6_170 wm_6_173 wm_1_12 hd_X12_townNow wm_6_172 wp_5_9 (ci := 12) (q0 := 0) rfl rfl ⟨Nat.le_of_ble_eq_true rfl, Nat.le_of_ble_eq_true rfl⟩ hl.1 rfl (Nat.le_of_ble_eq_true rfl) dX12_word_7 ⟨Nat.le_of_ble_eq_true rfl, Nat.le_of_ble_eq_true rfl⟩ [0, 1] [2, 3, 4, 5, 6] rfl rfl (by decide) rfl rfl (fun r_2 u_2 H locs w_2 h_2 => ?_)
  clear h_1
  obtain ⟨wr_2, _⟩ := w_2
  replace h_2 : qW D _ _ [(h2, .inl (cy 1, 900, .inl f1)), (h3, .inl (cy 1, 11, .inl f2)), (h4, .inl (cy 1, 3, .inl f3)), (h5, .inl (cy 1, 10, .inl f4)), (h6, .inl (cy 1, 1024, .inl f5)), (h0, .inr (12, [.int 0, .ref h1, w0, w1, w2, .int p1, .int p2, .int p3, .int p4, .int p5, .int p6, .int p7, .int p8, .int p9, .int p10, .int p11, .ref h2, .ref h3, .ref h4, .ref h5, w3, .int p12, .int p13, .ref h6, w4, w5, .int p14, .int p15, w6, w7, w8, w9, w10, .int p16, w11, w12, w13])), (h1, .inl (cy 1, 3918, .inl f0))] _ _ := h_2
  refine q_callVi (rest := []) (wr := [(h4, .inl (cy 1, 3, .inl f3))]) X hK hT hA h_2 (fun sz => gX12_sitsNow_472ffcf l D cy h0 h1 h2 h3 h5 h6 r_2 (0 : Int32) w0 w1 w2 p1 p2 p3 p4 p5 p6 p7 p8 p9 p10 p11 (.ref h4) w3 p12 p13 w4 w5 p14 p15 w6 w7 w8 w9 w10 p16 w11 w12 w13 f0 p17 f1 f2 f4 f5 wr_2 ⟨by decide +kernel, by decide +kernel⟩ hp1 hp2 hp3 hp4 (i_rng _) hp6 (i_rng _) (i_rng _) (i_rng _) (i_rng _) (i_rng _) (i_rng _) (i_rng _) (i_rng _) (i_rng _) (i_rng _) hp17 htf0_84 rf0 (rg_wide rf4 (by decide) (by decide)) sz) wm_7_51 wm_7_54 wm_1_12 hd_X12_sitsNow wm_7_53 wp_6_10 (ci := 12) (q0 := 0) rfl rfl ⟨Nat.le_of_ble_eq_true rfl, Nat.le_of_ble_eq_true rfl⟩ hl.1 rfl (Nat.le_of_ble_eq_true rfl) dX12_word_10 ⟨Nat.le_of_ble_eq_true rfl, Nat.le_of_ble_eq_true rfl⟩ [5, 6, 0, 1, 3, 4] [2] rfl rfl (by decide) rfl rfl (fun r_3 u_3 H locs w_3 h_3 => ?_)
  clear h_2
  obtain ⟨wr_3, w3_0, _⟩ := w_3
  replace h_3 : qW D _ _ (wk_e4bc77630 cy h4 f3 h0 0 h1 w0 w1 w2 p1 p2 p3 p4 p5 p6 p7 p8 p9 p10 p11 h2 h3 h4 h5 w3 p12 p13 h6 w4 w5 p14 p15 w6 w7 w8 w9 w10 p16 w11 w12 w13 h1 f0 h2 (u_3.2.1 0) h3 (u_3.2.1 1) h5 (u_3.2.1 2) h6 (u_3.2.1 3)) _ _ := h_3
  refine lv_if_eq (tgt := 18) hx hb dX12_word_13 (by decide) (fun c_4 => ?_) (fun c_4 => ?_)
  · replace c_4 := i_eq (x := r_3) (y := 0) rfl (show (0 : Int32).toInt = 0 by decide) c_4
    refine lv_iconst (v := 0) hx hb dX12_word_18 (by decide) ?_
    refine lv_istore_n (lv' := [(1, .int 0), (0, .ref h0)]) hx hb dX12_word_19 rfl hl (by decide) rfl (fun ls_5 hl_5 => ?_)
    clear hl
    refine q_wl (fun (v20_6_0 : Int32) H locs ls => ∃ v20_6_1 : Nat → Int32, ∃ v20_6_2 : Nat → Int32, ∃ v20_6_3 : Nat → Int32, ∃ v20_6_4 : Nat → Int32, ∃ v20_6_5 : Nat → Int32, ∃ v20_6_6 : Nat → Int32, (0 ≤ (v20_6_0).toInt ∧ (v20_6_0).toInt ≤ 10) ∧ RG v20_6_1 3 0 9 ∧ v20_6_2 84 = p17 ∧ AL v20_6_2 ∧ RG v20_6_5 10 0 1023 ∧ qW D (va_A (wk_9062689b1 cy h0 p0 h1 w0 w1 w2 p1 p2 p3 p4 p5 p6 p7 p8 p9 p10 p11 h2 h3 h4 h5 w3 p12 p13 h6 w4 w5 p14 p15 w6 w7 w8 w9 w10 p16 w11 w12 w13 h1 f0 h2 f1 h3 f2 h4 f3 h5 f4 h6 f5) sz) s.heap (wk_e4bc77630 cy h4 v20_6_1 h0 0 h1 w0 w1 w2 p1 p2 p3 p4 p5 p6 p7 p8 p9 p10 p11 h2 h3 h4 h5 w3 p12 p13 h6 w4 w5 p14 p15 w6 w7 w8 w9 w10 p16 w11 w12 w13 h1 v20_6_2 h2 v20_6_3 h3 v20_6_4 h5 v20_6_5 h6 v20_6_6) H locs ∧ lv_has ls 5 [(0, .ref h0), (1, .int v20_6_0)]) (fun (v20_6_0 : Int32) => (11 - (v20_6_0).toInt).toNat) (fun q_20 ih_20 H locs ls hP => ?_) 0 ⟨f3, f0, (u_3.2.1 0), (u_3.2.1 1), (u_3.2.1 2), (u_3.2.1 3), ⟨by decide +kernel, by decide +kernel⟩, (rg_wide rf3 (by decide) (by decide)), htf0_84, rf0, (rg_wide w3_0 (by decide) (by decide)), h_3, (lv_sub hl_5 [1, 0] rfl)⟩
    obtain ⟨v20_6_0, rfl⟩ : ∃ z, z = q_20 := ⟨_, rfl⟩
    obtain ⟨v20_6_1, v20_6_2, v20_6_3, v20_6_4, v20_6_5, v20_6_6, hv20_6_0, rv20_6_1, trv20_6_2_84, rv20_6_2, rv20_6_5, h, hl⟩ := hP
    refine lv_iload_n hx hb dX12_word_20 rfl (lv_at hl 1 rfl) ?_
    refine lv_aload_n hx hb dX12_word_21 rfl (lv_at hl 0 rfl) ?_
    refine q_get X hK h 1 rfl rfl wf_12 1 (by decide) rfl wm_5_171 dX12_word_22 ?_
    refine lv_iconst (v := 2) hx hb dX12_word_25 (by decide) ?_
    refine q_iald X hK h 2 rfl (q_in (by decide +kernel)) dX12_word_26 ?_
    obtain ⟨z_7, ez_7, hz_7⟩ := al_P rv20_6_2 (x := 2) (show (2 : Int32).toInt = 2 by decide) (by omega) (by omega)
    refine q_c z_7 ez_7 ?_
    clear ez_7
    refine lv_icmp_ge (tgt := 108) hx hb dX12_word_27 (by decide) (fun c_8 => ?_) (fun c_8 => ?_)
    · replace c_8 := i_le (x := z_7) (y := v20_6_0) rfl rfl c_8
      refine lv_iconst (v := (-1)) hx hb dX12_word_108 (by decide) ?_
      exact q_iret X hr hlk hK h rfl (fun _ => 0, (vcons v20_6_1 (vcons (fun _ => 0) (vcons v20_6_2 (vcons v20_6_3 (vcons v20_6_4 (vcons v20_6_5 (vcons v20_6_6 (fun _ => (fun _ => 0))))))))), fun _ _ => 0) ⟨⟨by decide +kernel, by decide +kernel⟩, (rg_wide rv20_6_1 (by decide) (by decide)), (⟨by decide +kernel, by decide +kernel⟩ : 0 ≤ (0 : Int32).toInt ∧ (0 : Int32).toInt ≤ 0), rv20_6_2, (rg_wide rv20_6_5 (by decide) (by decide)), trv20_6_2_84, trivial⟩ [1, 2, 3, 4, 0, 5, 6] rfl rfl dX12_word_109 (Nat.le_of_ble_eq_true rfl) (Nat.le_of_ble_eq_true rfl)
    · replace c_8 := i_nle (x := z_7) (y := v20_6_0) rfl rfl c_8
      refine lv_iconst (v := 0) hx hb dX12_word_30 (by decide) ?_
      refine lv_istore_n (lv' := [(2, .int 0), (0, .ref h0), (1, .int v20_6_0)]) hx hb dX12_word_31 rfl hl (by decide) rfl (fun ls_9 hl_9 => ?_)
      clear hl
      refine q_wl (fun (v32_10_0 : Int32) H locs ls => ∃ v32_10_1 : Nat → Int32, ∃ v32_10_2 : Nat → Int32, ∃ v32_10_3 : Nat → Int32, ∃ v32_10_4 : Nat → Int32, ∃ v32_10_5 : Nat → Int32, ∃ v32_10_6 : Nat → Int32, (0 ≤ (v32_10_0).toInt ∧ (v32_10_0).toInt ≤ 10) ∧ RG v32_10_1 3 0 9 ∧ RG v32_10_4 10 0 1023 ∧ v32_10_6 84 = p17 ∧ AL v32_10_6 ∧ qW D (va_A (wk_9062689b1 cy h0 p0 h1 w0 w1 w2 p1 p2 p3 p4 p5 p6 p7 p8 p9 p10 p11 h2 h3 h4 h5 w3 p12 p13 h6 w4 w5 p14 p15 w6 w7 w8 w9 w10 p16 w11 w12 w13 h1 f0 h2 f1 h3 f2 h4 f3 h5 f4 h6 f5) sz) s.heap (wk_e4bc77630 cy h4 v32_10_1 h0 0 h1 w0 w1 w2 p1 p2 p3 p4 p5 p6 p7 p8 p9 p10 p11 h2 h3 h4 h5 w3 p12 p13 h6 w4 w5 p14 p15 w6 w7 w8 w9 w10 p16 w11 w12 w13 h1 v32_10_6 h2 v32_10_2 h3 v32_10_3 h5 v32_10_4 h6 v32_10_5) H locs ∧ lv_has ls 5 [(0, .ref h0), (1, .int v20_6_0), (2, .int v32_10_0)]) (fun (v32_10_0 : Int32) => (11 - (v32_10_0).toInt).toNat) (fun q_32 ih_32 H locs ls hP => ?_) 0 ⟨v20_6_1, v20_6_3, v20_6_4, v20_6_5, v20_6_6, v20_6_2, ⟨by decide +kernel, by decide +kernel⟩, (rg_wide rv20_6_1 (by decide) (by decide)), (rg_wide rv20_6_5 (by decide) (by decide)), trv20_6_2_84, rv20_6_2, h, (lv_sub hl_9 [1, 2, 0] rfl)⟩
      obtain ⟨v32_10_0, rfl⟩ : ∃ z, z = q_32 := ⟨_, rfl⟩
      obtain ⟨v32_10_1, v32_10_2, v32_10_3, v32_10_4, v32_10_5, v32_10_6, hv32_10_0, rv32_10_1, rv32_10_4, trv32_10_6_84, rv32_10_6, h, hl⟩ := hP
      refine lv_iload_n hx hb dX12_word_32 rfl (lv_at hl 2 rfl) ?_
      refine lv_aload_n hx hb dX12_word_33 rfl (lv_at hl 0 rfl) ?_
      refine q_get X hK h 1 rfl rfl wf_12 1 (by decide) rfl wm_5_171 dX12_word_34 ?_
      refine lv_iconst (v := 2) hx hb dX12_word_37 (by decide) ?_
      refine q_iald X hK h 2 rfl (q_in (by decide +kernel)) dX12_word_38 ?_
      obtain ⟨z_11, ez_11, hz_11⟩ := al_P rv32_10_6 (x := 2) (show (2 : Int32).toInt = 2 by decide) (by omega) (by omega)
      refine q_c z_11 ez_11 ?_
      clear ez_11
      refine lv_icmp_ge (tgt := 102) hx hb dX12_word_39 (by decide) (fun c_12 => ?_) (fun c_12 => ?_)
      · replace c_12 := i_le (x := z_11) (y := v32_10_0) rfl rfl c_12
        obtain ⟨z_13, ez_13, hz_13⟩ := e_add (x := v20_6_0) (y := Int32.ofInt 1) rfl (b := 1) (by decide) (by omega) (by omega)
        refine lv_iinc (v := z_13) (lv' := [(1, .int z_13), (0, .ref h0), (2, .int v32_10_0)]) hx hb dX12_word_102 hl (k := 1) rfl ez_13 (by decide) rfl (fun ls_13 hl_13 => ?_)
        clear hl
        refine lv_goto (tgt := 20) hx hb dX12_word_105 (by decide) ?_
        exact ih_20 z_13 (by show (11 - (z_13).toInt).toNat < (11 - (v20_6_0).toInt).toNat; omega) _ _ _ ⟨v32_10_1, v32_10_6, v32_10_2, v32_10_3, v32_10_4, v32_10_5, ⟨by omega, by omega⟩, (rg_wide rv32_10_1 (by decide) (by decide)), trv32_10_6_84, rv32_10_6, (rg_wide rv32_10_4 (by decide) (by decide)), h, (lv_sub hl_13 [1, 0] rfl)⟩
      · replace c_12 := i_nle (x := z_11) (y := v32_10_0) rfl rfl c_12
        refine lv_aload_n hx hb dX12_word_42 rfl (lv_at hl 0 rfl) ?_
        refine lv_iload_n hx hb dX12_word_43 rfl (lv_at hl 1 rfl) ?_
        refine lv_i2l hx hb dX12_word_44 rfl ?_
        obtain ⟨z_14, ez_14, hz_14⟩ := e_i2l (x := v20_6_0) rfl
        refine q_cl z_14 ez_14 ?_
        clear ez_14
        refine lv_iload_n hx hb dX12_word_45 rfl (lv_at hl 2 rfl) ?_
        refine lv_i2l hx hb dX12_word_46 rfl ?_
        obtain ⟨z_15, ez_15, hz_15⟩ := e_i2l (x := v32_10_0) rfl
        refine q_cl z_15 ez_15 ?_
        clear ez_15
        refine q_callVi (rest := []) (wr := (wk_e68ee150c cy h4 v32_10_1 h2 v32_10_2 h3 v32_10_3 h5 v32_10_4 h6 v32_10_5)) X hK hT hA h (fun sz => gX12_whyTalk_1a9da66 l D cy h0 h1 z_14 z_15 (0 : Int32) w0 w1 w2 p1 p2 p3 p4 p5 p6 p7 p8 p9 p10 p11 (.ref h2) (.ref h3) (.ref h4) (.ref h5) w3 p12 p13 (.ref h6) w4 w5 p14 p15 w6 w7 w8 w9 w10 p16 w11 w12 w13 v32_10_6 p17 ⟨by omega, by omega⟩ ⟨by omega, by omega⟩ ⟨by decide +kernel, by decide +kernel⟩ hp1 hp2 hp3 hp4 (i_rng _) hp6 (i_rng _) (i_rng _) (i_rng _) (i_rng _) (i_rng _) (i_rng _) (i_rng _) (i_rng _) (i_rng _) (i_rng _) hp17 trv32_10_6_84 rv32_10_6 sz) wm_6_216 wm_6_219 wm_1_12 hd_X12_whyTalk wm_6_218 wp_5_15 (ci := 12) (q0 := 0) rfl rfl ⟨Nat.le_of_ble_eq_true rfl, Nat.le_of_ble_eq_true rfl⟩ hl.1 rfl (Nat.le_of_ble_eq_true rfl) dX12_word_47 ⟨Nat.le_of_ble_eq_true rfl, Nat.le_of_ble_eq_true rfl⟩ [1, 2] [0, 3, 4, 5, 6] rfl rfl (by decide) rfl rfl (fun r_16 u_16 H locs w_16 h_16 => ?_)
        clear h
        obtain ⟨wr_16, y16_0, _⟩ := w_16
        replace h_16 : qW D _ _ (wk_bd9cc9370 cy h4 v32_10_1 h2 v32_10_2 h3 v32_10_3 h5 v32_10_4 h6 v32_10_5 h0 0 h1 w0 w1 w2 p1 p2 p3 p4 p5 p6 p7 p8 p9 p10 p11 h2 h3 h4 h5 w3 p12 p13 h6 w4 w5 p14 p15 w6 w7 w8 w9 w10 p16 w11 w12 w13 h1 v32_10_6) _ _ := h_16
        refine q_jn (pc2 := 96) (fun H locs ls st => ∃ v96_17_0 : Nat → Int32, ∃ v96_17_1 : Nat → Int32, ∃ v96_17_2 : Nat → Int32, ∃ v96_17_3 : Nat → Int32, ∃ v96_17_4 : Nat → Int32, ∃ v96_17_5 : Nat → Int32, RG v96_17_0 3 0 9 ∧ RG v96_17_3 10 0 1023 ∧ v96_17_5 84 = p17 ∧ AL v96_17_5 ∧ st = [] ∧ qW D (va_A (wk_9062689b1 cy h0 p0 h1 w0 w1 w2 p1 p2 p3 p4 p5 p6 p7 p8 p9 p10 p11 h2 h3 h4 h5 w3 p12 p13 h6 w4 w5 p14 p15 w6 w7 w8 w9 w10 p16 w11 w12 w13 h1 f0 h2 f1 h3 f2 h4 f3 h5 f4 h6 f5) sz) s.heap (wk_bd9cc9370 cy h4 v96_17_0 h2 v96_17_1 h3 v96_17_2 h5 v96_17_3 h6 v96_17_4 h0 0 h1 w0 w1 w2 p1 p2 p3 p4 p5 p6 p7 p8 p9 p10 p11 h2 h3 h4 h5 w3 p12 p13 h6 w4 w5 p14 p15 w6 w7 w8 w9 w10 p16 w11 w12 w13 h1 v96_17_5) H locs ∧ lv_has ls 5 [(0, .ref h0), (1, .int v20_6_0), (2, .int v32_10_0)]) (fun H locs ls st hP => ?_) (fun J_96 => ?_)
        · obtain ⟨v96_17_0, v96_17_1, v96_17_2, v96_17_3, v96_17_4, v96_17_5, rv96_17_0, rv96_17_3, trv96_17_5_84, rv96_17_5, rfl, h, hl⟩ := hP
          obtain ⟨z_18, ez_18, hz_18⟩ := e_add (x := v32_10_0) (y := Int32.ofInt 1) rfl (b := 1) (by decide) (by omega) (by omega)
          refine lv_iinc (v := z_18) (lv' := [(2, .int z_18), (0, .ref h0), (1, .int v20_6_0)]) hx hb dX12_word_96 hl (k := 2) rfl ez_18 (by decide) rfl (fun ls_18 hl_18 => ?_)
          clear hl
          refine lv_goto (tgt := 32) hx hb dX12_word_99 (by decide) ?_
          exact ih_32 z_18 (by show (11 - (z_18).toInt).toNat < (11 - (v32_10_0).toInt).toNat; omega) _ _ _ ⟨v96_17_0, v96_17_1, v96_17_2, v96_17_3, v96_17_4, v96_17_5, ⟨by omega, by omega⟩, (rg_wide rv96_17_0 (by decide) (by decide)), (rg_wide rv96_17_3 (by decide) (by decide)), trv96_17_5_84, rv96_17_5, (q_re h [0, 5, 6, 1, 2, 3, 4] rfl rfl), (lv_sub hl_18 [1, 2, 0] rfl)⟩
        · skip
          refine lv_if_eq (tgt := 56) hx hb dX12_word_50 (by decide) (fun c_19 => ?_) (fun c_19 => ?_)
          · replace c_19 := i_eq (x := r_16) (y := 0) rfl (show (0 : Int32).toInt = 0 by decide) c_19
            refine lv_aload_n hx hb dX12_word_56 rfl (lv_at hl 0 rfl) ?_
            refine lv_iload_n hx hb dX12_word_57 rfl (lv_at hl 1 rfl) ?_
            refine q_callVi (rest := []) (wr := (wk_e68ee150c cy h4 v32_10_1 h2 v32_10_2 h3 v32_10_3 h5 v32_10_4 h6 v32_10_5)) X hK hT hA h_16 (fun sz => gX12_viewsOf_bc3d930 l D cy h0 h1 v20_6_0 (0 : Int32) w0 w1 w2 p1 p2 p3 p4 p5 p6 p7 p8 p9 p10 p11 (.ref h2) (.ref h3) (.ref h4) (.ref h5) w3 p12 p13 (.ref h6) w4 w5 p14 p15 w6 w7 w8 w9 w10 p16 w11 w12 w13 v32_10_6 p17 ⟨by omega, by omega⟩ ⟨by decide +kernel, by decide +kernel⟩ hp1 hp2 hp3 hp4 (i_rng _) hp6 (i_rng _) (i_rng _) (i_rng _) (i_rng _) (i_rng _) (i_rng _) (i_rng _) (i_rng _) (i_rng _) (i_rng _) hp17 trv32_10_6_84 rv32_10_6 sz) wm_7_172 wm_7_175 wm_1_12 hd_X12_viewsOf wm_7_174 wp_7_10 (ci := 12) (q0 := 0) rfl rfl ⟨Nat.le_of_ble_eq_true rfl, Nat.le_of_ble_eq_true rfl⟩ hl.1 rfl (Nat.le_of_ble_eq_true rfl) dX12_word_58 ⟨Nat.le_of_ble_eq_true rfl, Nat.le_of_ble_eq_true rfl⟩ [5, 6] [0, 1, 2, 3, 4] rfl rfl (by decide) rfl rfl (fun r_20 u_20 H locs w_20 h_20 => ?_)
            clear h_16
            obtain ⟨wr_20, _⟩ := w_20
            replace h_20 : qW D _ _ (wk_bd9cc9370 cy h4 v32_10_1 h2 v32_10_2 h3 v32_10_3 h5 v32_10_4 h6 v32_10_5 h0 0 h1 w0 w1 w2 p1 p2 p3 p4 p5 p6 p7 p8 p9 p10 p11 h2 h3 h4 h5 w3 p12 p13 h6 w4 w5 p14 p15 w6 w7 w8 w9 w10 p16 w11 w12 w13 h1 v32_10_6) _ _ := h_20
            refine lv_istore_n (lv' := [(3, .int r_20), (0, .ref h0), (1, .int v20_6_0), (2, .int v32_10_0)]) hx hb dX12_word_61 rfl hl (by decide) rfl (fun ls_21 hl_21 => ?_)
            clear hl
            refine lv_aload_n hx hb dX12_word_62 rfl (lv_at hl_21 1 rfl) ?_
            refine lv_iload_n hx hb dX12_word_63 rfl (lv_at hl_21 2 rfl) ?_
            refine lv_iload_n hx hb dX12_word_64 rfl (lv_at hl_21 3 rfl) ?_
            refine q_callVv (rest := []) (wr := (wk_eec75f9e5 cy h5 v32_10_4 h6 v32_10_5)) X hK hT hA h_20 (fun sz => gX12_talks1_48107b5 l D cy h0 h1 h2 h3 h4 v20_6_0 v32_10_0 (0 : Int32) w0 w1 w2 p1 p2 p3 p4 p5 p6 p7 p8 p9 p10 p11 (.ref h5) w3 p12 p13 (.ref h6) w4 w5 p14 p15 w6 w7 w8 w9 w10 p16 w11 w12 w13 v32_10_6 p17 v32_10_2 v32_10_3 v32_10_1 ⟨by omega, by omega⟩ ⟨by omega, by omega⟩ ⟨by decide +kernel, by decide +kernel⟩ hp1 hp2 hp3 hp4 (i_rng _) hp6 (i_rng _) (i_rng _) (i_rng _) (i_rng _) (i_rng _) (i_rng _) (i_rng _) (i_rng _) (i_rng _) (i_rng _) hp17 trv32_10_6_84 rv32_10_6 (rg_wide rv32_10_1 (by decide) (by decide)) sz) wm_6_224 wm_6_227 wm_1_12 hd_X12_talks1 wm_6_226 wp_6_1 (ci := 12) (q0 := 0) rfl rfl ⟨Nat.le_of_ble_eq_true rfl, Nat.le_of_ble_eq_true rfl⟩ hl_21.1 rfl (Nat.le_of_ble_eq_true rfl) dX12_word_65 ⟨Nat.le_of_ble_eq_true rfl, Nat.le_of_ble_eq_true rfl⟩ [5, 6, 1, 2, 0] [3, 4] rfl rfl (by decide) rfl rfl (fun u_22 H locs w_22 h_22 => ?_)
            clear h_20
            obtain ⟨w22_0, w22_1, w22_2, _⟩ := w_22
            replace h_22 : qW D _ _ [(h5, .inl (cy 1, 10, .inl v32_10_4)), (h6, .inl (cy 1, 1024, .inl v32_10_5)), (h0, .inr (12, [.int 0, .ref h1, w0, w1, w2, .int p1, .int p2, .int p3, .int p4, .int p5, .int p6, .int p7, .int p8, .int p9, .int p10, .int p11, .ref h2, .ref h3, .ref h4, .ref h5, w3, .int p12, .int p13, .ref h6, w4, w5, .int p14, .int p15, w6, w7, w8, w9, w10, .int p16, w11, w12, w13])), (h1, .inl (cy 1, 3918, .inl (u_22.2.1 0))), (h2, .inl (cy 1, 900, .inl (u_22.2.1 1))), (h3, .inl (cy 1, 11, .inl (u_22.2.1 2))), (h4, .inl (cy 1, 3, .inl (u_22.2.1 3)))] _ _ := h_22
            refine lv_aload_n hx hb dX12_word_68 rfl (lv_at hl_21 1 rfl) ?_
            refine lv_aload_n hx hb dX12_word_69 rfl (lv_at hl_21 1 rfl) ?_
            refine q_callVi (rest := [.ref h0]) (wr := [(h5, .inl (cy 1, 10, .inl v32_10_4)), (h6, .inl (cy 1, 1024, .inl v32_10_5)), (h2, .inl (cy 1, 900, .inl (u_22.2.1 1))), (h3, .inl (cy 1, 11, .inl (u_22.2.1 2))), (h4, .inl (cy 1, 3, .inl (u_22.2.1 3)))]) X hK hT hA h_22 (fun sz => gX12_townNow_2907b4b l D cy h0 h1 (0 : Int32) w0 w1 w2 p1 p2 p3 p4 p5 p6 p7 p8 p9 p10 p11 (.ref h2) (.ref h3) (.ref h4) (.ref h5) w3 p12 p13 (.ref h6) w4 w5 p14 p15 w6 w7 w8 w9 w10 p16 w11 w12 w13 (u_22.2.1 0) p17 ⟨by decide +kernel, by decide +kernel⟩ hp1 hp2 hp3 hp4 (i_rng _) hp6 (i_rng _) (i_rng _) (i_rng _) (i_rng _) (i_rng _) (i_rng _) (i_rng _) (i_rng _) (i_rng _) (i_rng _) hp17 w22_2 w22_0 sz) wm_6_170 wm_6_173 wm_1_12 hd_X12_townNow wm_6_172 wp_5_9 (ci := 12) (q0 := 0) rfl rfl ⟨Nat.le_of_ble_eq_true rfl, Nat.le_of_ble_eq_true rfl⟩ hl_21.1 rfl (Nat.le_of_ble_eq_true rfl) dX12_word_70 ⟨Nat.le_of_ble_eq_true rfl, Nat.le_of_ble_eq_true rfl⟩ [2, 3] [0, 1, 4, 5, 6] rfl rfl (by decide) rfl rfl (fun r_23 u_23 H locs w_23 h_23 => ?_)
            clear h_22
            obtain ⟨wr_23, _⟩ := w_23
            replace h_23 : qW D _ _ [(h5, .inl (cy 1, 10, .inl v32_10_4)), (h6, .inl (cy 1, 1024, .inl v32_10_5)), (h2, .inl (cy 1, 900, .inl (u_22.2.1 1))), (h3, .inl (cy 1, 11, .inl (u_22.2.1 2))), (h4, .inl (cy 1, 3, .inl (u_22.2.1 3))), (h0, .inr (12, [.int 0, .ref h1, w0, w1, w2, .int p1, .int p2, .int p3, .int p4, .int p5, .int p6, .int p7, .int p8, .int p9, .int p10, .int p11, .ref h2, .ref h3, .ref h4, .ref h5, w3, .int p12, .int p13, .ref h6, w4, w5, .int p14, .int p15, w6, w7, w8, w9, w10, .int p16, w11, w12, w13])), (h1, .inl (cy 1, 3918, .inl (u_22.2.1 0)))] _ _ := h_23
            refine q_callVi (rest := []) (wr := [(h4, .inl (cy 1, 3, .inl (u_22.2.1 3)))]) X hK hT hA h_23 (fun sz => gX12_sitsNow_472ffcf l D cy h0 h1 h2 h3 h5 h6 r_23 (0 : Int32) w0 w1 w2 p1 p2 p3 p4 p5 p6 p7 p8 p9 p10 p11 (.ref h4) w3 p12 p13 w4 w5 p14 p15 w6 w7 w8 w9 w10 p16 w11 w12 w13 (u_22.2.1 0) p17 (u_22.2.1 1) (u_22.2.1 2) v32_10_4 v32_10_5 wr_23 ⟨by decide +kernel, by decide +kernel⟩ hp1 hp2 hp3 hp4 (i_rng _) hp6 (i_rng _) (i_rng _) (i_rng _) (i_rng _) (i_rng _) (i_rng _) (i_rng _) (i_rng _) (i_rng _) (i_rng _) hp17 w22_2 w22_0 (rg_wide rv32_10_4 (by decide) (by decide)) sz) wm_7_51 wm_7_54 wm_1_12 hd_X12_sitsNow wm_7_53 wp_6_10 (ci := 12) (q0 := 0) rfl rfl ⟨Nat.le_of_ble_eq_true rfl, Nat.le_of_ble_eq_true rfl⟩ hl_21.1 rfl (Nat.le_of_ble_eq_true rfl) dX12_word_73 ⟨Nat.le_of_ble_eq_true rfl, Nat.le_of_ble_eq_true rfl⟩ [5, 6, 2, 3, 0, 1] [4] rfl rfl (by decide) rfl rfl (fun r_24 u_24 H locs w_24 h_24 => ?_)
            clear h_23
            obtain ⟨wr_24, w24_0, _⟩ := w_24
            replace h_24 : qW D _ _ (wk_e4bc77630 cy h4 (u_22.2.1 3) h0 0 h1 w0 w1 w2 p1 p2 p3 p4 p5 p6 p7 p8 p9 p10 p11 h2 h3 h4 h5 w3 p12 p13 h6 w4 w5 p14 p15 w6 w7 w8 w9 w10 p16 w11 w12 w13 h1 (u_22.2.1 0) h2 (u_24.2.1 0) h3 (u_24.2.1 1) h5 (u_24.2.1 2) h6 (u_24.2.1 3)) _ _ := h_24
            refine lv_istore (lv' := [(4, .int r_24), (3, .int r_20), (0, .ref h0), (1, .int v20_6_0), (2, .int v32_10_0)]) hx hb dX12_word_76 hl_21 (by decide) rfl (fun ls_25 hl_25 => ?_)
            clear hl_21
            refine lv_aload_n hx hb dX12_word_78 rfl (lv_at hl_25 2 rfl) ?_
            refine lv_iload_n hx hb dX12_word_79 rfl (lv_at hl_25 3 rfl) ?_
            refine lv_iload_n hx hb dX12_word_80 rfl (lv_at hl_25 1 rfl) ?_
            refine q_callVv (rest := []) (wr := (wk_e68ee150c cy h4 (u_22.2.1 3) h2 (u_24.2.1 0) h3 (u_24.2.1 1) h5 (u_24.2.1 2) h6 (u_24.2.1 3))) X hK hT hA h_24 (fun sz => gX12_puts_2de0910 l D cy h0 h1 v20_6_0 r_20 (0 : Int32) w0 w1 w2 p1 p2 p3 p4 p5 p6 p7 p8 p9 p10 p11 (.ref h2) (.ref h3) (.ref h4) (.ref h5) w3 p12 p13 (.ref h6) w4 w5 p14 p15 w6 w7 w8 w9 w10 p16 w11 w12 w13 (u_22.2.1 0) p17 ⟨by omega, by omega⟩ wr_20 ⟨by decide +kernel, by decide +kernel⟩ hp1 hp2 hp3 hp4 (i_rng _) hp6 (i_rng _) (i_rng _) (i_rng _) (i_rng _) (i_rng _) (i_rng _) (i_rng _) (i_rng _) (i_rng _) (i_rng _) hp17 w22_2 w22_0 sz) wm_7_176 wm_7_179 wm_1_12 hd_X12_puts wm_7_178 wp_7_11 (ci := 12) (q0 := 0) rfl rfl ⟨Nat.le_of_ble_eq_true rfl, Nat.le_of_ble_eq_true rfl⟩ hl_25.1 rfl (Nat.le_of_ble_eq_true rfl) dX12_word_81 ⟨Nat.le_of_ble_eq_true rfl, Nat.le_of_ble_eq_true rfl⟩ [1, 2] [0, 3, 4, 5, 6] rfl rfl (by decide) rfl rfl (fun u_26 H locs w_26 h_26 => ?_)
            clear h_24
            obtain ⟨w26_0, w26_1, _⟩ := w_26
            replace h_26 : qW D _ _ (wk_bd9cc9370 cy h4 (u_22.2.1 3) h2 (u_24.2.1 0) h3 (u_24.2.1 1) h5 (u_24.2.1 2) h6 (u_24.2.1 3) h0 0 h1 w0 w1 w2 p1 p2 p3 p4 p5 p6 p7 p8 p9 p10 p11 h2 h3 h4 h5 w3 p12 p13 h6 w4 w5 p14 p15 w6 w7 w8 w9 w10 p16 w11 w12 w13 h1 (u_26.2.1 0)) _ _ := h_26
            refine lv_iload hx hb dX12_word_84 (lv_at hl_25 0 rfl) ?_
            refine lv_if_eq (tgt := 96) hx hb dX12_word_86 (by decide) (fun c_27 => ?_) (fun c_27 => ?_)
            · replace c_27 := i_eq (x := r_24) (y := 0) rfl (show (0 : Int32).toInt = 0 by decide) c_27
              exact J_96 _ _ _ _ ⟨(u_22.2.1 3), (u_24.2.1 0), (u_24.2.1 1), (u_24.2.1 2), (u_24.2.1 3), (u_26.2.1 0), (rg_wide w22_1 (by decide) (by decide)), (rg_wide w24_0 (by decide) (by decide)), w26_1, w26_0, rfl, h_26, (lv_sub hl_25 [2, 3, 4] rfl)⟩
            · replace c_27 := i_ne (x := r_24) (y := 0) rfl (show (0 : Int32).toInt = 0 by decide) c_27
              refine lv_bipush (v := 10) hx hb dX12_word_89 (by decide) ?_
              refine lv_iload_n hx hb dX12_word_91 rfl (lv_at hl_25 3 rfl) ?_
              refine lv_imul hx hb dX12_word_92 ?_
              obtain ⟨z_28, ez_28, hz_28⟩ := e_mul (x := 10) (y := v20_6_0) (show (10 : Int32).toInt = 10 by decide) rfl (by omega) (by omega)
              refine q_c z_28 ez_28 ?_
              clear ez_28
              refine lv_iload_n hx hb dX12_word_93 rfl (lv_at hl_25 4 rfl) ?_
              refine lv_iadd hx hb dX12_word_94 ?_
              obtain ⟨z_29, ez_29, hz_29⟩ := e_add (x := z_28) (y := v32_10_0) rfl rfl (by omega) (by omega)
              refine q_c z_29 ez_29 ?_
              clear ez_29
              exact q_iret X hr hlk hK h_26 rfl (fun _ => 0, (vcons (u_22.2.1 3) (vcons (fun _ => 0) (vcons (u_26.2.1 0) (vcons (u_24.2.1 0) (vcons (u_24.2.1 1) (vcons (u_24.2.1 2) (vcons (u_24.2.1 3) (fun _ => (fun _ => 0))))))))), fun _ _ => 0) ⟨⟨by omega, by omega⟩, (rg_wide w22_1 (by decide) (by decide)), (⟨by decide +kernel, by decide +kernel⟩ : 0 ≤ (0 : Int32).toInt ∧ (0 : Int32).toInt ≤ 0), w26_0, (rg_wide w24_0 (by decide) (by decide)), w26_1, trivial⟩ [5, 6, 1, 2, 0, 3, 4] rfl rfl dX12_word_95 (Nat.le_of_ble_eq_true rfl) (Nat.le_of_ble_eq_true rfl)
          · replace c_19 := i_ne (x := r_16) (y := 0) rfl (show (0 : Int32).toInt = 0 by decide) c_19
            refine lv_goto (tgt := 96) hx hb dX12_word_53 (by decide) ?_
            exact J_96 _ _ _ _ ⟨v32_10_1, v32_10_2, v32_10_3, v32_10_4, v32_10_5, v32_10_6, (rg_wide rv32_10_1 (by decide) (by decide)), (rg_wide rv32_10_4 (by decide) (by decide)), trv32_10_6_84, rv32_10_6, rfl, h_16, (lv_sub hl [0, 1, 2] rfl)⟩
  · replace c_4 := i_ne (x := r_3) (y := 0) rfl (show (0 : Int32).toInt = 0 by decide) c_4
    refine lv_iconst (v := (-1)) hx hb dX12_word_16 (by decide) ?_
    exact q_iret X hr hlk hK h_3 rfl (fun _ => 0, (vcons f3 (vcons (fun _ => 0) (vcons f0 (vcons (u_3.2.1 0) (vcons (u_3.2.1 1) (vcons (u_3.2.1 2) (vcons (u_3.2.1 3) (fun _ => (fun _ => 0))))))))), fun _ _ => 0) ⟨⟨by decide +kernel, by decide +kernel⟩, (rg_wide rf3 (by decide) (by decide)), (⟨by decide +kernel, by decide +kernel⟩ : 0 ≤ (0 : Int32).toInt ∧ (0 : Int32).toInt ≤ 0), rf0, (rg_wide w3_0 (by decide) (by decide)), htf0_84, trivial⟩ [1, 2, 3, 4, 0, 5, 6] rfl rfl dX12_word_17 (Nat.le_of_ble_eq_true rfl) (Nat.le_of_ble_eq_true rfl)
set_option maxHeartbeats 4000000 in
set_option maxRecDepth 100000 in
theorem gX12_isBill_0f4990c (l : Launch) (D : va_G) (cy : Nat → ClassId) (p0 : Int32) (hp0 : (-2147483648) ≤ (p0).toInt ∧ (p0).toInt ≤ 2147483647) (sz : Nat) : MI l yX12_isBill cX12_isBill 1 .boolean { frames := 1, cells := 0, slots := 0, locals := 25 } [.int p0] D cy [] sz (fun r u => (0 ≤ r.toInt ∧ r.toInt ≤ 1) ∧ True) (fun u => []) 0 0 := by
  refine q_ent (own := RX12) (by decide) rfl (Nat.le_of_ble_eq_true rfl) (fun p e s m below meth c ls X hr hlk hnm hK hT h hA hl => ?_)
  obtain ⟨hx, hb, hml, hown, ht⟩ := id X
  replace hl : lv_has ls 1 [(0, .int p0)] := hl
  refine lv_iload_n hx hb dX12_isBill_0 rfl (lv_at hl 0 rfl) ?_
  refine lv_i2l hx hb dX12_isBill_1 rfl ?_
  obtain ⟨z_1, ez_1, hz_1⟩ := e_i2l (x := p0) rfl
  refine q_cl z_1 ez_1 ?_
  clear ez_1
  refine lv_lconst (v := 0) hx hb dX12_isBill_2 (by decide) ?_
  refine lv_ldc2 hx hb hown (ht _ wm_6_109) dX12_isBill_3 ?_
  refine q_callSi (rest := []) (wr := []) X hK hT hA h (fun sz => gX12_within_00c7897 l D cy z_1 (0 : Int64) (9 : Int64) (j_rng _) ⟨by decide +kernel, by decide +kernel⟩ ⟨by decide +kernel, by decide +kernel⟩ sz) wm_6_50 wm_6_52 wm_1_12 hd_X12_within wm_6_51 ⟨Nat.le_of_ble_eq_true rfl, Nat.le_of_ble_eq_true rfl⟩ hl.1 rfl (Nat.le_of_ble_eq_true rfl) dX12_isBill_6 ⟨Nat.le_of_ble_eq_true rfl, Nat.le_of_ble_eq_true rfl⟩ [] [] rfl rfl (by decide) rfl rfl (fun r_2 u_2 H locs w_2 h_2 => ?_)
  clear h
  obtain ⟨wr_2, y2_0, _⟩ := w_2
  have lq_2_1 : (0 : Int64).toInt = 0 := (by decide)
  have lq_2_2 : (9 : Int64).toInt = 9 := (by decide)
  replace h_2 : qW D _ _ [] _ _ := h_2
  exact q_iret X hr hlk hK h_2 (q_nz (by omega) (by omega)) (fun _ => 0, fun _ _ => 0, fun _ _ => 0) ⟨wr_2, trivial⟩ [] rfl rfl dX12_isBill_9 (Nat.le_of_ble_eq_true rfl) (Nat.le_of_ble_eq_true rfl)
set_option maxHeartbeats 4000000 in
set_option maxRecDepth 100000 in
theorem gX12_asks_27d8d41 (l : Launch) (D : va_G) (cy : Nat → ClassId) (h0 : Nat) (h1 : Nat) (h2 : Nat) (p0 : Int32) (p1 : Int32) (p2 : Int32) (w0 : Value) (w1 : Value) (w2 : Value) (p3 : Int32) (p4 : Int32) (p5 : Int32) (p6 : Int32) (p7 : Int32) (p8 : Int32) (p9 : Int32) (p10 : Int32) (p11 : Int32) (p12 : Int32) (p13 : Int32) (w3 : Value) (w4 : Value) (w5 : Value) (w6 : Value) (p14 : Int32) (p15 : Int32) (w7 : Value) (w8 : Value) (w9 : Value) (p16 : Int32) (p17 : Int32) (w10 : Value) (w11 : Value) (w12 : Value) (w13 : Value) (w14 : Value) (p18 : Int32) (w15 : Value) (w16 : Value) (w17 : Value) (f0 : Nat → Int32) (p19 : Int32) (f1 : Nat → Int32) (hp0 : 0 ≤ (p0).toInt ∧ (p0).toInt ≤ 9) (hp1 : (-2147483648) ≤ (p1).toInt ∧ (p1).toInt ≤ 2147483647) (hp2 : 0 ≤ (p2).toInt ∧ (p2).toInt ≤ 0) (hp3 : 0 ≤ (p3).toInt ∧ (p3).toInt ≤ 900) (hp4 : 0 ≤ (p4).toInt ∧ (p4).toInt ≤ 900) (hp5 : 0 ≤ (p5).toInt ∧ (p5).toInt ≤ 900) (hp6 : 0 ≤ (p6).toInt ∧ (p6).toInt ≤ 900) (hp7 : (-2147483648) ≤ (p7).toInt ∧ (p7).toInt ≤ 2147483647) (hp8 : 0 ≤ (p8).toInt ∧ (p8).toInt ≤ 999) (hp9 : (-2147483648) ≤ (p9).toInt ∧ (p9).toInt ≤ 2147483647) (hp10 : (-2147483648) ≤ (p10).toInt ∧ (p10).toInt ≤ 2147483647) (hp11 : (-2147483648) ≤ (p11).toInt ∧ (p11).toInt ≤ 2147483647) (hp12 : (-2147483648) ≤ (p12).toInt ∧ (p12).toInt ≤ 2147483647) (hp13 : (-2147483648) ≤ (p13).toInt ∧ (p13).toInt ≤ 2147483647) (hp14 : (-2147483648) ≤ (p14).toInt ∧ (p14).toInt ≤ 2147483647) (hp15 : (-2147483648) ≤ (p15).toInt ∧ (p15).toInt ≤ 2147483647) (hp16 : (-2147483648) ≤ (p16).toInt ∧ (p16).toInt ≤ 2147483647) (hp17 : (-2147483648) ≤ (p17).toInt ∧ (p17).toInt ≤ 2147483647) (hp18 : (-2147483648) ≤ (p18).toInt ∧ (p18).toInt ≤ 2147483647) (hp19 : 0 ≤ (p19).toInt ∧ (p19).toInt ≤ 10) (htf0_84 : f0 84 = p19) (rf0 : AL f0) (sz : Nat) : MV l yX12_asks cX12_asks 5 { frames := 0, cells := 0, slots := 0, locals := 0 } [.ref h0, .int p0, .int p0, .int p1] D cy (wk_177a9dc22 cy h0 p2 h1 w0 w1 w2 p3 p4 p5 p6 p7 p8 p9 p10 p11 p12 p13 w3 h2 w4 w5 w6 p14 p15 w7 w8 w9 p16 p17 w10 w11 w12 w13 w14 p18 w15 w16 w17 h1 f0 h2 f1) sz (fun u => True) (fun u => (wk_177a9dc22 cy h0 p2 h1 w0 w1 w2 p3 p4 p5 p6 p7 p8 p9 p10 p11 p12 p13 w3 h2 w4 w5 w6 p14 p15 w7 w8 w9 p16 p17 w10 w11 w12 w13 w14 p18 w15 w16 w17 h1 f0 h2 (u.2.1 0))) 0 0 := by
  refine q_ent (own := RX12) (by decide) rfl (Nat.le_of_ble_eq_true rfl) (fun p e s m below meth c ls X hr hlk hnm hK hT h hA hl => ?_)
  obtain ⟨hx, hb, hml, hown, ht⟩ := id X
  replace hl : lv_has ls 5 [(0, .ref h0), (1, .int p0), (2, .int p0), (3, .int p1)] := hl
  refine lv_iconst (v := 0) hx hb dX12_asks_0 (by decide) ?_
  refine lv_istore (lv' := [(4, .int 0), (0, .ref h0), (1, .int p0), (2, .int p0), (3, .int p1)]) hx hb dX12_asks_1 hl (by decide) rfl (fun ls_1 hl_1 => ?_)
  clear hl
  refine lv_iload hx hb dX12_asks_3 (lv_at hl_1 0 rfl) ?_
  refine lv_iconst (v := 3) hx hb dX12_asks_5 (by decide) ?_
  refine lv_icmp_ge (tgt := 59) hx hb dX12_asks_6 (by decide) (fun c => absurd c (by decide +kernel)) (fun _ => ?_)
  refine lv_aload_n hx hb dX12_asks_9 rfl (lv_at hl_1 1 rfl) ?_
  refine q_get X hK h 0 rfl rfl wf_12 17 (by decide) rfl wm_5_187 dX12_asks_10 ?_
  refine lv_iload hx hb dX12_asks_13 (lv_at hl_1 0 rfl) ?_
  refine lv_aload_n hx hb dX12_asks_15 rfl (lv_at hl_1 1 rfl) ?_
  refine q_get X hK h 0 rfl rfl wf_12 1 (by decide) rfl wm_5_171 dX12_asks_16 ?_
  refine lv_bipush (v := 54) hx hb dX12_asks_19 (by decide) ?_
  refine lv_iconst (v := 3) hx hb dX12_asks_21 (by decide) ?_
  refine lv_iload_n hx hb dX12_asks_22 rfl (lv_at hl_1 2 rfl) ?_
  refine lv_imul hx hb dX12_asks_23 ?_
  obtain ⟨z_2, ez_2, hz_2⟩ := e_mul (x := 3) (y := p0) (show (3 : Int32).toInt = 3 by decide) rfl (by omega) (by omega)
  refine q_c z_2 ez_2 ?_
  clear ez_2
  refine lv_iadd hx hb dX12_asks_24 ?_
  obtain ⟨z_3, ez_3, hz_3⟩ := e_add (x := 54) (y := z_2) (show (54 : Int32).toInt = 54 by decide) rfl (by omega) (by omega)
  refine q_c z_3 ez_3 ?_
  clear ez_3
  refine lv_iload hx hb dX12_asks_25 (lv_at hl_1 0 rfl) ?_
  refine lv_iadd hx hb dX12_asks_27 ?_
  obtain ⟨z_4, ez_4, hz_4⟩ := e_add (x := z_3) (y := 0) rfl (show (0 : Int32).toInt = 0 by decide) (by omega) (by omega)
  refine q_c z_4 ez_4 ?_
  clear ez_4
  refine q_iald X hK h 1 rfl (i_in rfl (by omega) (by omega)) dX12_asks_28 ?_
  obtain ⟨z_5, ez_5, hz_5⟩ := al_W rf0 (x := z_4) rfl (by omega) (by omega)
  refine q_c z_5 ez_5 ?_
  clear ez_5
  refine q_iast X hK h 2 rfl (q_in (by decide +kernel)) dX12_asks_29 (fun H locs h_7 => ?_)
  clear h
  replace h_7 : qW D _ _ (wk_177a9dc22 cy h0 p2 h1 w0 w1 w2 p3 p4 p5 p6 p7 p8 p9 p10 p11 p12 p13 w3 h2 w4 w5 w6 p14 p15 w7 w8 w9 p16 p17 w10 w11 w12 w13 w14 p18 w15 w16 w17 h1 f0 h2 (upd f1 (Int32.toNatClampNeg 0) z_5)) _ _ := h_7
  obtain ⟨F_6, eF_6⟩ : ∃ z, (upd f1 (Int32.toNatClampNeg 0) z_5) = z := ⟨_, rfl⟩
  rw [eF_6] at h_7
  clear eF_6
  refine lv_aload_n hx hb dX12_asks_30 rfl (lv_at hl_1 1 rfl) ?_
  refine q_get X hK h_7 0 rfl rfl wf_12 17 (by decide) rfl wm_5_187 dX12_asks_31 ?_
  refine lv_iconst (v := 5) hx hb dX12_asks_34 (by decide) ?_
  refine lv_iload hx hb dX12_asks_35 (lv_at hl_1 0 rfl) ?_
  refine lv_iadd hx hb dX12_asks_37 ?_
  refine q_c 5 (by decide +kernel) ?_
  refine lv_aload_n hx hb dX12_asks_38 rfl (lv_at hl_1 1 rfl) ?_
  refine q_get X hK h_7 0 rfl rfl wf_12 1 (by decide) rfl wm_5_171 dX12_asks_39 ?_
  refine lv_bipush (v := 54) hx hb dX12_asks_42 (by decide) ?_
  refine lv_iconst (v := 3) hx hb dX12_asks_44 (by decide) ?_
  refine lv_iload_n hx hb dX12_asks_45 rfl (lv_at hl_1 3 rfl) ?_
  refine lv_imul hx hb dX12_asks_46 ?_
  obtain ⟨z_8, ez_8, hz_8⟩ := e_mul (x := 3) (y := p0) (show (3 : Int32).toInt = 3 by decide) rfl (by omega) (by omega)
  refine q_c z_8 ez_8 ?_
  clear ez_8
  refine lv_iadd hx hb dX12_asks_47 ?_
  obtain ⟨z_9, ez_9, hz_9⟩ := e_add (x := 54) (y := z_8) (show (54 : Int32).toInt = 54 by decide) rfl (by omega) (by omega)
  refine q_c z_9 ez_9 ?_
  clear ez_9
  refine lv_iload hx hb dX12_asks_48 (lv_at hl_1 0 rfl) ?_
  refine lv_iadd hx hb dX12_asks_50 ?_
  obtain ⟨z_10, ez_10, hz_10⟩ := e_add (x := z_9) (y := 0) rfl (show (0 : Int32).toInt = 0 by decide) (by omega) (by omega)
  refine q_c z_10 ez_10 ?_
  clear ez_10
  refine q_iald X hK h_7 1 rfl (i_in rfl (by omega) (by omega)) dX12_asks_51 ?_
  obtain ⟨z_11, ez_11, hz_11⟩ := al_W rf0 (x := z_10) rfl (by omega) (by omega)
  refine q_c z_11 ez_11 ?_
  clear ez_11
  refine q_iast X hK h_7 2 rfl (q_in (by decide +kernel)) dX12_asks_52 (fun H locs h_13 => ?_)
  clear h_7
  replace h_13 : qW D _ _ (wk_177a9dc22 cy h0 p2 h1 w0 w1 w2 p3 p4 p5 p6 p7 p8 p9 p10 p11 p12 p13 w3 h2 w4 w5 w6 p14 p15 w7 w8 w9 p16 p17 w10 w11 w12 w13 w14 p18 w15 w16 w17 h1 f0 h2 (upd F_6 (Int32.toNatClampNeg 5) z_11)) _ _ := h_13
  obtain ⟨F_12, eF_12⟩ : ∃ z, (upd F_6 (Int32.toNatClampNeg 5) z_11) = z := ⟨_, rfl⟩
  rw [eF_12] at h_13
  clear eF_12
  refine lv_iinc (v := 1) (lv' := [(4, .int 1), (0, .ref h0), (1, .int p0), (2, .int p0), (3, .int p1)]) hx hb dX12_asks_53 hl_1 (k := 0) rfl (by decide +kernel) (by decide) rfl (fun ls_14 hl_14 => ?_)
  clear hl_1
  refine lv_goto (tgt := 3) hx hb dX12_asks_56 (by decide) ?_
  refine lv_iload hx hb dX12_asks_3 (lv_at hl_14 0 rfl) ?_
  refine lv_iconst (v := 3) hx hb dX12_asks_5 (by decide) ?_
  refine lv_icmp_ge (tgt := 59) hx hb dX12_asks_6 (by decide) (fun c => absurd c (by decide +kernel)) (fun _ => ?_)
  refine lv_aload_n hx hb dX12_asks_9 rfl (lv_at hl_14 1 rfl) ?_
  refine q_get X hK h_13 0 rfl rfl wf_12 17 (by decide) rfl wm_5_187 dX12_asks_10 ?_
  refine lv_iload hx hb dX12_asks_13 (lv_at hl_14 0 rfl) ?_
  refine lv_aload_n hx hb dX12_asks_15 rfl (lv_at hl_14 1 rfl) ?_
  refine q_get X hK h_13 0 rfl rfl wf_12 1 (by decide) rfl wm_5_171 dX12_asks_16 ?_
  refine lv_bipush (v := 54) hx hb dX12_asks_19 (by decide) ?_
  refine lv_iconst (v := 3) hx hb dX12_asks_21 (by decide) ?_
  refine lv_iload_n hx hb dX12_asks_22 rfl (lv_at hl_14 2 rfl) ?_
  refine lv_imul hx hb dX12_asks_23 ?_
  obtain ⟨z_15, ez_15, hz_15⟩ := e_mul (x := 3) (y := p0) (show (3 : Int32).toInt = 3 by decide) rfl (by omega) (by omega)
  refine q_c z_15 ez_15 ?_
  clear ez_15
  refine lv_iadd hx hb dX12_asks_24 ?_
  obtain ⟨z_16, ez_16, hz_16⟩ := e_add (x := 54) (y := z_15) (show (54 : Int32).toInt = 54 by decide) rfl (by omega) (by omega)
  refine q_c z_16 ez_16 ?_
  clear ez_16
  refine lv_iload hx hb dX12_asks_25 (lv_at hl_14 0 rfl) ?_
  refine lv_iadd hx hb dX12_asks_27 ?_
  obtain ⟨z_17, ez_17, hz_17⟩ := e_add (x := z_16) (y := 1) rfl (show (1 : Int32).toInt = 1 by decide) (by omega) (by omega)
  refine q_c z_17 ez_17 ?_
  clear ez_17
  refine q_iald X hK h_13 1 rfl (i_in rfl (by omega) (by omega)) dX12_asks_28 ?_
  obtain ⟨z_18, ez_18, hz_18⟩ := al_W rf0 (x := z_17) rfl (by omega) (by omega)
  refine q_c z_18 ez_18 ?_
  clear ez_18
  refine q_iast X hK h_13 2 rfl (q_in (by decide +kernel)) dX12_asks_29 (fun H locs h_20 => ?_)
  clear h_13
  replace h_20 : qW D _ _ (wk_177a9dc22 cy h0 p2 h1 w0 w1 w2 p3 p4 p5 p6 p7 p8 p9 p10 p11 p12 p13 w3 h2 w4 w5 w6 p14 p15 w7 w8 w9 p16 p17 w10 w11 w12 w13 w14 p18 w15 w16 w17 h1 f0 h2 (upd F_12 (Int32.toNatClampNeg 1) z_18)) _ _ := h_20
  obtain ⟨F_19, eF_19⟩ : ∃ z, (upd F_12 (Int32.toNatClampNeg 1) z_18) = z := ⟨_, rfl⟩
  rw [eF_19] at h_20
  clear eF_19
  refine lv_aload_n hx hb dX12_asks_30 rfl (lv_at hl_14 1 rfl) ?_
  refine q_get X hK h_20 0 rfl rfl wf_12 17 (by decide) rfl wm_5_187 dX12_asks_31 ?_
  refine lv_iconst (v := 5) hx hb dX12_asks_34 (by decide) ?_
  refine lv_iload hx hb dX12_asks_35 (lv_at hl_14 0 rfl) ?_
  refine lv_iadd hx hb dX12_asks_37 ?_
  refine q_c 6 (by decide +kernel) ?_
  refine lv_aload_n hx hb dX12_asks_38 rfl (lv_at hl_14 1 rfl) ?_
  refine q_get X hK h_20 0 rfl rfl wf_12 1 (by decide) rfl wm_5_171 dX12_asks_39 ?_
  refine lv_bipush (v := 54) hx hb dX12_asks_42 (by decide) ?_
  refine lv_iconst (v := 3) hx hb dX12_asks_44 (by decide) ?_
  refine lv_iload_n hx hb dX12_asks_45 rfl (lv_at hl_14 3 rfl) ?_
  refine lv_imul hx hb dX12_asks_46 ?_
  obtain ⟨z_21, ez_21, hz_21⟩ := e_mul (x := 3) (y := p0) (show (3 : Int32).toInt = 3 by decide) rfl (by omega) (by omega)
  refine q_c z_21 ez_21 ?_
  clear ez_21
  refine lv_iadd hx hb dX12_asks_47 ?_
  obtain ⟨z_22, ez_22, hz_22⟩ := e_add (x := 54) (y := z_21) (show (54 : Int32).toInt = 54 by decide) rfl (by omega) (by omega)
  refine q_c z_22 ez_22 ?_
  clear ez_22
  refine lv_iload hx hb dX12_asks_48 (lv_at hl_14 0 rfl) ?_
  refine lv_iadd hx hb dX12_asks_50 ?_
  obtain ⟨z_23, ez_23, hz_23⟩ := e_add (x := z_22) (y := 1) rfl (show (1 : Int32).toInt = 1 by decide) (by omega) (by omega)
  refine q_c z_23 ez_23 ?_
  clear ez_23
  refine q_iald X hK h_20 1 rfl (i_in rfl (by omega) (by omega)) dX12_asks_51 ?_
  obtain ⟨z_24, ez_24, hz_24⟩ := al_W rf0 (x := z_23) rfl (by omega) (by omega)
  refine q_c z_24 ez_24 ?_
  clear ez_24
  refine q_iast X hK h_20 2 rfl (q_in (by decide +kernel)) dX12_asks_52 (fun H locs h_26 => ?_)
  clear h_20
  replace h_26 : qW D _ _ (wk_177a9dc22 cy h0 p2 h1 w0 w1 w2 p3 p4 p5 p6 p7 p8 p9 p10 p11 p12 p13 w3 h2 w4 w5 w6 p14 p15 w7 w8 w9 p16 p17 w10 w11 w12 w13 w14 p18 w15 w16 w17 h1 f0 h2 (upd F_19 (Int32.toNatClampNeg 6) z_24)) _ _ := h_26
  obtain ⟨F_25, eF_25⟩ : ∃ z, (upd F_19 (Int32.toNatClampNeg 6) z_24) = z := ⟨_, rfl⟩
  rw [eF_25] at h_26
  clear eF_25
  refine lv_iinc (v := 2) (lv' := [(4, .int 2), (0, .ref h0), (1, .int p0), (2, .int p0), (3, .int p1)]) hx hb dX12_asks_53 hl_14 (k := 0) rfl (by decide +kernel) (by decide) rfl (fun ls_27 hl_27 => ?_)
  clear hl_14
  refine lv_goto (tgt := 3) hx hb dX12_asks_56 (by decide) ?_
  refine lv_iload hx hb dX12_asks_3 (lv_at hl_27 0 rfl) ?_
  refine lv_iconst (v := 3) hx hb dX12_asks_5 (by decide) ?_
  refine lv_icmp_ge (tgt := 59) hx hb dX12_asks_6 (by decide) (fun c => absurd c (by decide +kernel)) (fun _ => ?_)
  refine lv_aload_n hx hb dX12_asks_9 rfl (lv_at hl_27 1 rfl) ?_
  refine q_get X hK h_26 0 rfl rfl wf_12 17 (by decide) rfl wm_5_187 dX12_asks_10 ?_
  refine lv_iload hx hb dX12_asks_13 (lv_at hl_27 0 rfl) ?_
  refine lv_aload_n hx hb dX12_asks_15 rfl (lv_at hl_27 1 rfl) ?_
  refine q_get X hK h_26 0 rfl rfl wf_12 1 (by decide) rfl wm_5_171 dX12_asks_16 ?_
  refine lv_bipush (v := 54) hx hb dX12_asks_19 (by decide) ?_
  refine lv_iconst (v := 3) hx hb dX12_asks_21 (by decide) ?_
  refine lv_iload_n hx hb dX12_asks_22 rfl (lv_at hl_27 2 rfl) ?_
  refine lv_imul hx hb dX12_asks_23 ?_
  obtain ⟨z_28, ez_28, hz_28⟩ := e_mul (x := 3) (y := p0) (show (3 : Int32).toInt = 3 by decide) rfl (by omega) (by omega)
  refine q_c z_28 ez_28 ?_
  clear ez_28
  refine lv_iadd hx hb dX12_asks_24 ?_
  obtain ⟨z_29, ez_29, hz_29⟩ := e_add (x := 54) (y := z_28) (show (54 : Int32).toInt = 54 by decide) rfl (by omega) (by omega)
  refine q_c z_29 ez_29 ?_
  clear ez_29
  refine lv_iload hx hb dX12_asks_25 (lv_at hl_27 0 rfl) ?_
  refine lv_iadd hx hb dX12_asks_27 ?_
  obtain ⟨z_30, ez_30, hz_30⟩ := e_add (x := z_29) (y := 2) rfl (show (2 : Int32).toInt = 2 by decide) (by omega) (by omega)
  refine q_c z_30 ez_30 ?_
  clear ez_30
  refine q_iald X hK h_26 1 rfl (i_in rfl (by omega) (by omega)) dX12_asks_28 ?_
  obtain ⟨z_31, ez_31, hz_31⟩ := al_W rf0 (x := z_30) rfl (by omega) (by omega)
  refine q_c z_31 ez_31 ?_
  clear ez_31
  refine q_iast X hK h_26 2 rfl (q_in (by decide +kernel)) dX12_asks_29 (fun H locs h_33 => ?_)
  clear h_26
  replace h_33 : qW D _ _ (wk_177a9dc22 cy h0 p2 h1 w0 w1 w2 p3 p4 p5 p6 p7 p8 p9 p10 p11 p12 p13 w3 h2 w4 w5 w6 p14 p15 w7 w8 w9 p16 p17 w10 w11 w12 w13 w14 p18 w15 w16 w17 h1 f0 h2 (upd F_25 (Int32.toNatClampNeg 2) z_31)) _ _ := h_33
  obtain ⟨F_32, eF_32⟩ : ∃ z, (upd F_25 (Int32.toNatClampNeg 2) z_31) = z := ⟨_, rfl⟩
  rw [eF_32] at h_33
  clear eF_32
  refine lv_aload_n hx hb dX12_asks_30 rfl (lv_at hl_27 1 rfl) ?_
  refine q_get X hK h_33 0 rfl rfl wf_12 17 (by decide) rfl wm_5_187 dX12_asks_31 ?_
  refine lv_iconst (v := 5) hx hb dX12_asks_34 (by decide) ?_
  refine lv_iload hx hb dX12_asks_35 (lv_at hl_27 0 rfl) ?_
  refine lv_iadd hx hb dX12_asks_37 ?_
  refine q_c 7 (by decide +kernel) ?_
  refine lv_aload_n hx hb dX12_asks_38 rfl (lv_at hl_27 1 rfl) ?_
  refine q_get X hK h_33 0 rfl rfl wf_12 1 (by decide) rfl wm_5_171 dX12_asks_39 ?_
  refine lv_bipush (v := 54) hx hb dX12_asks_42 (by decide) ?_
  refine lv_iconst (v := 3) hx hb dX12_asks_44 (by decide) ?_
  refine lv_iload_n hx hb dX12_asks_45 rfl (lv_at hl_27 3 rfl) ?_
  refine lv_imul hx hb dX12_asks_46 ?_
  obtain ⟨z_34, ez_34, hz_34⟩ := e_mul (x := 3) (y := p0) (show (3 : Int32).toInt = 3 by decide) rfl (by omega) (by omega)
  refine q_c z_34 ez_34 ?_
  clear ez_34
  refine lv_iadd hx hb dX12_asks_47 ?_
  obtain ⟨z_35, ez_35, hz_35⟩ := e_add (x := 54) (y := z_34) (show (54 : Int32).toInt = 54 by decide) rfl (by omega) (by omega)
  refine q_c z_35 ez_35 ?_
  clear ez_35
  refine lv_iload hx hb dX12_asks_48 (lv_at hl_27 0 rfl) ?_
  refine lv_iadd hx hb dX12_asks_50 ?_
  obtain ⟨z_36, ez_36, hz_36⟩ := e_add (x := z_35) (y := 2) rfl (show (2 : Int32).toInt = 2 by decide) (by omega) (by omega)
  refine q_c z_36 ez_36 ?_
  clear ez_36
  refine q_iald X hK h_33 1 rfl (i_in rfl (by omega) (by omega)) dX12_asks_51 ?_
  obtain ⟨z_37, ez_37, hz_37⟩ := al_W rf0 (x := z_36) rfl (by omega) (by omega)
  refine q_c z_37 ez_37 ?_
  clear ez_37
  refine q_iast X hK h_33 2 rfl (q_in (by decide +kernel)) dX12_asks_52 (fun H locs h_39 => ?_)
  clear h_33
  replace h_39 : qW D _ _ (wk_177a9dc22 cy h0 p2 h1 w0 w1 w2 p3 p4 p5 p6 p7 p8 p9 p10 p11 p12 p13 w3 h2 w4 w5 w6 p14 p15 w7 w8 w9 p16 p17 w10 w11 w12 w13 w14 p18 w15 w16 w17 h1 f0 h2 (upd F_32 (Int32.toNatClampNeg 7) z_37)) _ _ := h_39
  obtain ⟨F_38, eF_38⟩ : ∃ z, (upd F_32 (Int32.toNatClampNeg 7) z_37) = z := ⟨_, rfl⟩
  rw [eF_38] at h_39
  clear eF_38
  refine lv_iinc (v := 3) (lv' := [(4, .int 3), (0, .ref h0), (1, .int p0), (2, .int p0), (3, .int p1)]) hx hb dX12_asks_53 hl_27 (k := 0) rfl (by decide +kernel) (by decide) rfl (fun ls_40 hl_40 => ?_)
  clear hl_27
  refine lv_goto (tgt := 3) hx hb dX12_asks_56 (by decide) ?_
  refine lv_iload hx hb dX12_asks_3 (lv_at hl_40 0 rfl) ?_
  refine lv_iconst (v := 3) hx hb dX12_asks_5 (by decide) ?_
  refine lv_icmp_ge (tgt := 59) hx hb dX12_asks_6 (by decide) (fun _ => ?_) (fun c => absurd c (by decide +kernel))
  refine lv_aload_n hx hb dX12_asks_59 rfl (lv_at hl_40 1 rfl) ?_
  refine q_get X hK h_39 0 rfl rfl wf_12 17 (by decide) rfl wm_5_187 dX12_asks_60 ?_
  refine lv_iconst (v := 3) hx hb dX12_asks_63 (by decide) ?_
  refine lv_iload_n hx hb dX12_asks_64 rfl (lv_at hl_40 2 rfl) ?_
  refine q_iast X hK h_39 2 rfl (q_in (by decide +kernel)) dX12_asks_65 (fun H locs h_42 => ?_)
  clear h_39
  replace h_42 : qW D _ _ (wk_177a9dc22 cy h0 p2 h1 w0 w1 w2 p3 p4 p5 p6 p7 p8 p9 p10 p11 p12 p13 w3 h2 w4 w5 w6 p14 p15 w7 w8 w9 p16 p17 w10 w11 w12 w13 w14 p18 w15 w16 w17 h1 f0 h2 (upd F_38 (Int32.toNatClampNeg 3) p0)) _ _ := h_42
  obtain ⟨F_41, eF_41⟩ : ∃ z, (upd F_38 (Int32.toNatClampNeg 3) p0) = z := ⟨_, rfl⟩
  rw [eF_41] at h_42
  clear eF_41
  refine lv_aload_n hx hb dX12_asks_66 rfl (lv_at hl_40 1 rfl) ?_
  refine q_get X hK h_42 0 rfl rfl wf_12 17 (by decide) rfl wm_5_187 dX12_asks_67 ?_
  refine lv_bipush (v := 8) hx hb dX12_asks_70 (by decide) ?_
  refine lv_iload_n hx hb dX12_asks_72 rfl (lv_at hl_40 3 rfl) ?_
  refine q_iast X hK h_42 2 rfl (q_in (by decide +kernel)) dX12_asks_73 (fun H locs h_44 => ?_)
  clear h_42
  replace h_44 : qW D _ _ (wk_177a9dc22 cy h0 p2 h1 w0 w1 w2 p3 p4 p5 p6 p7 p8 p9 p10 p11 p12 p13 w3 h2 w4 w5 w6 p14 p15 w7 w8 w9 p16 p17 w10 w11 w12 w13 w14 p18 w15 w16 w17 h1 f0 h2 (upd F_41 (Int32.toNatClampNeg 8) p0)) _ _ := h_44
  obtain ⟨F_43, eF_43⟩ : ∃ z, (upd F_41 (Int32.toNatClampNeg 8) p0) = z := ⟨_, rfl⟩
  rw [eF_43] at h_44
  clear eF_43
  refine lv_aload_n hx hb dX12_asks_74 rfl (lv_at hl_40 1 rfl) ?_
  refine q_get X hK h_44 0 rfl rfl wf_12 17 (by decide) rfl wm_5_187 dX12_asks_75 ?_
  refine lv_iconst (v := 4) hx hb dX12_asks_78 (by decide) ?_
  refine lv_iload_n hx hb dX12_asks_79 rfl (lv_at hl_40 4 rfl) ?_
  refine lv_bipush (v := 7) hx hb dX12_asks_80 (by decide) ?_
  refine lv_irem hx hb dX12_asks_82 (by decide) ?_
  refine q_any (fun z_45 hz_45 => ?_)
  refine q_iast X hK h_44 2 rfl (q_in (by decide +kernel)) dX12_asks_83 (fun H locs h_47 => ?_)
  clear h_44
  replace h_47 : qW D _ _ (wk_177a9dc22 cy h0 p2 h1 w0 w1 w2 p3 p4 p5 p6 p7 p8 p9 p10 p11 p12 p13 w3 h2 w4 w5 w6 p14 p15 w7 w8 w9 p16 p17 w10 w11 w12 w13 w14 p18 w15 w16 w17 h1 f0 h2 (upd F_43 (Int32.toNatClampNeg 4) z_45)) _ _ := h_47
  obtain ⟨F_46, eF_46⟩ : ∃ z, (upd F_43 (Int32.toNatClampNeg 4) z_45) = z := ⟨_, rfl⟩
  rw [eF_46] at h_47
  clear eF_46
  exact q_vret X hr hlk hK h_47 (fun _ => 0, (vcons F_46 (fun _ => (fun _ => 0))), fun _ _ => 0) trivial [0, 1, 2] rfl rfl dX12_asks_84 (Nat.le_of_ble_eq_true rfl) (Nat.le_of_ble_eq_true rfl)
set_option maxHeartbeats 4000000 in
set_option maxRecDepth 100000 in
theorem gX12_reckons_5eb42f9 (l : Launch) (D : va_G) (cy : Nat → ClassId) (h0 : Nat) (h1 : Nat) (h2 : Nat) (h3 : Nat) (p0 : Int32) (w0 : Value) (w1 : Value) (w2 : Value) (p1 : Int32) (p2 : Int32) (p3 : Int32) (p4 : Int32) (p5 : Int32) (p6 : Int32) (p7 : Int32) (p8 : Int32) (p9 : Int32) (p10 : Int32) (p11 : Int32) (w3 : Value) (w4 : Value) (w5 : Value) (p12 : Int32) (p13 : Int32) (w6 : Value) (w7 : Value) (w8 : Value) (p14 : Int32) (p15 : Int32) (w9 : Value) (w10 : Value) (w11 : Value) (w12 : Value) (w13 : Value) (p16 : Int32) (w14 : Value) (w15 : Value) (w16 : Value) (f0 : Nat → Int32) (p17 : Int32) (f1 : Nat → Int32) (f2 : Nat → Int32) (hp0 : 0 ≤ (p0).toInt ∧ (p0).toInt ≤ 0) (hp1 : 0 ≤ (p1).toInt ∧ (p1).toInt ≤ 900) (hp2 : 0 ≤ (p2).toInt ∧ (p2).toInt ≤ 900) (hp3 : 0 ≤ (p3).toInt ∧ (p3).toInt ≤ 900) (hp4 : 0 ≤ (p4).toInt ∧ (p4).toInt ≤ 900) (hp5 : (-2147483648) ≤ (p5).toInt ∧ (p5).toInt ≤ 2147483647) (hp6 : 0 ≤ (p6).toInt ∧ (p6).toInt ≤ 999) (hp7 : (-2147483648) ≤ (p7).toInt ∧ (p7).toInt ≤ 2147483647) (hp8 : (-2147483648) ≤ (p8).toInt ∧ (p8).toInt ≤ 2147483647) (hp9 : (-2147483648) ≤ (p9).toInt ∧ (p9).toInt ≤ 2147483647) (hp10 : (-2147483648) ≤ (p10).toInt ∧ (p10).toInt ≤ 2147483647) (hp11 : (-2147483648) ≤ (p11).toInt ∧ (p11).toInt ≤ 2147483647) (hp12 : (-2147483648) ≤ (p12).toInt ∧ (p12).toInt ≤ 2147483647) (hp13 : (-2147483648) ≤ (p13).toInt ∧ (p13).toInt ≤ 2147483647) (hp14 : (-2147483648) ≤ (p14).toInt ∧ (p14).toInt ≤ 2147483647) (hp15 : (-2147483648) ≤ (p15).toInt ∧ (p15).toInt ≤ 2147483647) (hp16 : (-2147483648) ≤ (p16).toInt ∧ (p16).toInt ≤ 2147483647) (hp17 : 0 ≤ (p17).toInt ∧ (p17).toInt ≤ 10) (htf0_84 : f0 84 = p17) (rf0 : AL f0) (hpre0 : WFL f0 1) (sz : Nat) : MI l yX12_reckons cX12_reckons 5 .int { frames := 1, cells := 0, slots := 0, locals := 24 } [.ref h0, .int 1] D cy (wk_d5826a772 cy h0 p0 h1 w0 w1 w2 p1 p2 p3 p4 p5 p6 p7 p8 p9 p10 p11 h2 h3 w3 w4 w5 p12 p13 w6 w7 w8 p14 p15 w9 w10 w11 w12 w13 p16 w14 w15 w16 h1 f0 h2 f1 h3 f2) sz (fun r u => ((-2147483648) ≤ r.toInt ∧ r.toInt ≤ 2147483647) ∧ True) (fun u => (wk_d5826a772 cy h0 p0 h1 w0 w1 w2 p1 p2 p3 p4 p5 p6 p7 p8 p9 p10 p11 h2 h3 w3 w4 w5 p12 p13 w6 w7 w8 p14 p15 w9 w10 w11 w12 w13 p16 w14 w15 w16 h1 f0 h2 (u.2.1 0) h3 f2)) 0 0 := by
  refine q_ent (own := RX12) (by decide) rfl (Nat.le_of_ble_eq_true rfl) (fun p e s m below meth c ls X hr hlk hnm hK hT h hA hl => ?_)
  obtain ⟨hx, hb, hml, hown, ht⟩ := id X
  replace hl : lv_has ls 5 [(0, .ref h0), (1, .int 1)] := hl
  obtain ⟨wf1, wf2, wf3, wf4⟩ : 0 ≤ (f0 7).toInt ∧ 0 ≤ (f0 10).toInt ∧ (f0 7).toInt + (f0 10).toInt ≤ 900 ∧ ∃ x, sk f0 (406 + (f0 7).toInt.toNat) (f0 10).toInt.toNat 0 = some x := hpre0
  refine lv_iconst (v := 0) hx hb dX12_reckons_0 (by decide) ?_
  refine lv_istore_n (lv' := [(2, .int 0), (0, .ref h0), (1, .int 1)]) hx hb dX12_reckons_1 rfl hl (by decide) rfl (fun ls_1 hl_1 => ?_)
  clear hl
  refine lv_iconst (v := 0) hx hb dX12_reckons_2 (by decide) ?_
  refine lv_istore_n (lv' := [(3, .int 0), (2, .int 0), (0, .ref h0), (1, .int 1)]) hx hb dX12_reckons_3 rfl hl_1 (by decide) rfl (fun ls_2 hl_2 => ?_)
  clear hl_1
  refine q_wl (fun (q : Int32 × Int32) H locs ls => match q with | (v4_3_0, v4_3_1) => ∃ v4_3_2 : Nat → Int32, (0 ≤ (v4_3_0).toInt ∧ (v4_3_0).toInt ≤ 900) ∧ (0 ≤ (v4_3_1).toInt ∧ (v4_3_1).toInt ≤ 900) ∧ (sk f0 (406 + (f0 7).toInt.toNat) ((v4_3_0 : Int32).toInt).toNat 0 = some ((v4_3_1 : Int32).toInt).toNat) ∧ (0 ≤ (v4_3_1 : Int32).toInt ∧ (v4_3_1 : Int32).toInt ≤ (v4_3_0 : Int32).toInt) ∧ qW D (va_A (wk_d5826a772 cy h0 p0 h1 w0 w1 w2 p1 p2 p3 p4 p5 p6 p7 p8 p9 p10 p11 h2 h3 w3 w4 w5 p12 p13 w6 w7 w8 p14 p15 w9 w10 w11 w12 w13 p16 w14 w15 w16 h1 f0 h2 f1 h3 f2) sz) s.heap (wk_d5826a772 cy h0 p0 h1 w0 w1 w2 p1 p2 p3 p4 p5 p6 p7 p8 p9 p10 p11 h2 h3 w3 w4 w5 p12 p13 w6 w7 w8 p14 p15 w9 w10 w11 w12 w13 p16 w14 w15 w16 h1 f0 h2 v4_3_2 h3 f2) H locs ∧ lv_has ls 5 [(0, .ref h0), (1, .int 1), (2, .int v4_3_1), (3, .int v4_3_0)]) (fun (q : Int32 × Int32) => match q with | (v4_3_0, v4_3_1) => (901 - (v4_3_0).toInt).toNat) (fun q_4 ih_4 H locs ls hP => ?_) (0, 0) ⟨f1, ⟨by decide +kernel, by decide +kernel⟩, ⟨by decide +kernel, by decide +kernel⟩, (rfl), (by have q0 : (0 : Int32).toInt = 0 := (by decide); omega), h, (lv_sub hl_2 [2, 3, 1, 0] rfl)⟩
  obtain ⟨v4_3_0, v4_3_1⟩ := q_4
  obtain ⟨v4_3_2, hv4_3_0, hv4_3_1, x4_0, x5_1, h, hl⟩ := hP
  refine lv_iload_n hx hb dX12_reckons_4 rfl (lv_at hl 3 rfl) ?_
  refine lv_aload_n hx hb dX12_reckons_5 rfl (lv_at hl 0 rfl) ?_
  refine q_get X hK h 0 rfl rfl wf_12 1 (by decide) rfl wm_5_171 dX12_reckons_6 ?_
  refine lv_bipush (v := 9) hx hb dX12_reckons_9 (by decide) ?_
  refine lv_iload_n hx hb dX12_reckons_11 rfl (lv_at hl 1 rfl) ?_
  refine lv_iadd hx hb dX12_reckons_12 ?_
  refine q_c 10 (by decide +kernel) ?_
  refine q_iald X hK h 1 rfl (q_in (by decide +kernel)) dX12_reckons_13 ?_
  obtain ⟨z_6, ez_6, hz_6⟩ := e_any (f0 10)
  refine q_c z_6 ez_6 ?_
  have ei_6 := congrArg Int32.toInt ez_6
  refine lv_icmp_ge (tgt := 148) hx hb dX12_reckons_14 (by decide) (fun c_7 => ?_) (fun c_7 => ?_)
  · replace c_7 := i_le (x := z_6) (y := v4_3_0) rfl rfl c_7
    refine lv_aload_n hx hb dX12_reckons_148 rfl (lv_at hl 0 rfl) ?_
    refine q_get X hK h 0 rfl rfl wf_12 16 (by decide) rfl wm_5_186 dX12_reckons_149 ?_
    refine lv_iconst (v := 0) hx hb dX12_reckons_152 (by decide) ?_
    refine q_iald X hK h 2 rfl (q_in (by decide +kernel)) dX12_reckons_153 ?_
    refine q_any (fun z_8 hz_8 => ?_)
    exact q_iret X hr hlk hK h rfl (fun _ => 0, (vcons v4_3_2 (fun _ => (fun _ => 0))), fun _ _ => 0) ⟨⟨by omega, by omega⟩, trivial⟩ [0, 1, 2, 3] rfl rfl dX12_reckons_154 (Nat.le_of_ble_eq_true rfl) (Nat.le_of_ble_eq_true rfl)
  · replace c_7 := i_nle (x := z_6) (y := v4_3_0) rfl rfl c_7
    refine lv_aload_n hx hb dX12_reckons_17 rfl (lv_at hl 0 rfl) ?_
    refine q_get X hK h 0 rfl rfl wf_12 1 (by decide) rfl wm_5_171 dX12_reckons_18 ?_
    refine lv_sipush (v := 406) hx hb dX12_reckons_21 (by decide) ?_
    refine lv_aload_n hx hb dX12_reckons_24 rfl (lv_at hl 0 rfl) ?_
    refine q_get X hK h 0 rfl rfl wf_12 1 (by decide) rfl wm_5_171 dX12_reckons_25 ?_
    refine lv_bipush (v := 6) hx hb dX12_reckons_28 (by decide) ?_
    refine lv_iload_n hx hb dX12_reckons_30 rfl (lv_at hl 1 rfl) ?_
    refine lv_iadd hx hb dX12_reckons_31 ?_
    refine q_c 7 (by decide +kernel) ?_
    refine q_iald X hK h 1 rfl (q_in (by decide +kernel)) dX12_reckons_32 ?_
    obtain ⟨z_9, ez_9, hz_9⟩ := e_any (f0 7)
    refine q_c z_9 ez_9 ?_
    have ei_9 := congrArg Int32.toInt ez_9
    refine lv_iadd hx hb dX12_reckons_33 ?_
    obtain ⟨z_10, ez_10, hz_10⟩ := e_add (x := 406) (y := z_9) (show (406 : Int32).toInt = 406 by decide) rfl (by omega) (by omega)
    refine q_c z_10 ez_10 ?_
    clear ez_10
    refine lv_iload_n hx hb dX12_reckons_34 rfl (lv_at hl 3 rfl) ?_
    refine lv_iadd hx hb dX12_reckons_35 ?_
    obtain ⟨z_11, ez_11, hz_11⟩ := e_add (x := z_10) (y := v4_3_0) rfl rfl (by omega) (by omega)
    refine q_c z_11 ez_11 ?_
    clear ez_11
    refine q_iald X hK h 1 rfl (i_in rfl (by omega) (by omega)) dX12_reckons_36 ?_
    obtain ⟨z_12, ez_12, hz_12⟩ := e_any (f0 z_11.toNatClampNeg)
    refine q_c z_12 ez_12 ?_
    obtain ⟨hh_13, s1_13, s2_13⟩ := sk_step wf4 x4_0 (by omega) (by omega) (by omega) ez_12
    have s3_13 := skc_cases s1_13
    refine lv_istore (lv' := [(4, .int z_12), (0, .ref h0), (1, .int 1), (2, .int v4_3_1), (3, .int v4_3_0)]) hx hb dX12_reckons_37 hl (by decide) rfl (fun ls_14 hl_14 => ?_)
    clear hl
    refine lv_iload hx hb dX12_reckons_39 (lv_at hl_14 0 rfl) ?_
    refine lv_sipush (v := 3000) hx hb dX12_reckons_41 (by decide) ?_
    refine q_jn (pc2 := 142) (fun H locs ls st => ∃ v142_15_0 : Int32, ∃ v142_15_1 : Nat → Int32, (0 ≤ (v142_15_0).toInt ∧ (v142_15_0).toInt ≤ 900) ∧ ((v142_15_0 : Int32).toInt = (hh_13 : Int)) ∧ st = [] ∧ qW D (va_A (wk_d5826a772 cy h0 p0 h1 w0 w1 w2 p1 p2 p3 p4 p5 p6 p7 p8 p9 p10 p11 h2 h3 w3 w4 w5 p12 p13 w6 w7 w8 p14 p15 w9 w10 w11 w12 w13 p16 w14 w15 w16 h1 f0 h2 f1 h3 f2) sz) s.heap (wk_d5826a772 cy h0 p0 h1 w0 w1 w2 p1 p2 p3 p4 p5 p6 p7 p8 p9 p10 p11 h2 h3 w3 w4 w5 p12 p13 w6 w7 w8 p14 p15 w9 w10 w11 w12 w13 p16 w14 w15 w16 h1 f0 h2 v142_15_1 h3 f2) H locs ∧ lv_has ls 5 [(0, .ref h0), (1, .int 1), (2, .int v142_15_0), (3, .int v4_3_0), (4, .int z_12)]) (fun H locs ls st hP => ?_) (fun J_142 => ?_)
    · obtain ⟨v142_15_0, v142_15_1, hv142_15_0, x16_0, rfl, h, hl⟩ := hP
      obtain ⟨z_17, ez_17, hz_17⟩ := e_add (x := v4_3_0) (y := Int32.ofInt 1) rfl (b := 1) (by decide) (by omega) (by omega)
      refine lv_iinc (v := z_17) (lv' := [(3, .int z_17), (0, .ref h0), (1, .int 1), (2, .int v142_15_0), (4, .int z_12)]) hx hb dX12_reckons_142 hl (k := 3) rfl ez_17 (by decide) rfl (fun ls_17 hl_17 => ?_)
      clear hl
      refine lv_goto (tgt := 4) hx hb dX12_reckons_145 (by decide) ?_
      exact ih_4 (z_17, v142_15_0) (by show (901 - (z_17).toInt).toNat < (901 - (v4_3_0).toInt).toNat; omega) _ _ _ ⟨v142_15_1, ⟨by omega, by omega⟩, hv142_15_0, (sk_arr s2_13 (by (first | assumption | omega)) (by (first | assumption | omega))), (by omega), h, (lv_sub hl_17 [1, 2, 3, 0] rfl)⟩
    · skip
      refine lv_icmp_ge (tgt := 83) hx hb dX12_reckons_44 (by decide) (fun c_18 => ?_) (fun c_18 => ?_)
      · replace c_18 := i_le (x := 3000) (y := z_12) (show (3000 : Int32).toInt = 3000 by decide) rfl c_18
        refine lv_iload hx hb dX12_reckons_83 (lv_at hl_14 0 rfl) ?_
        refine lv_sipush (v := 3006) hx hb dX12_reckons_85 (by decide) ?_
        refine lv_icmp_ne (tgt := 112) hx hb dX12_reckons_88 (by decide) (fun c_19 => ?_) (fun c_19 => ?_)
        · replace c_19 := i_ne (x := z_12) (y := 3006) rfl (show (3006 : Int32).toInt = 3006 by decide) c_19
          obtain ⟨z_20, ez_20, hz_20⟩ := e_add (x := v4_3_1) (y := Int32.ofInt (-1)) rfl (b := (-1)) (by decide) (by omega) (by omega)
          refine lv_iinc (v := z_20) (lv' := [(2, .int z_20), (4, .int z_12), (0, .ref h0), (1, .int 1), (3, .int v4_3_0)]) hx hb dX12_reckons_112 hl_14 (k := 3) rfl ez_20 (by decide) rfl (fun ls_20 hl_20 => ?_)
          clear hl_14
          refine lv_aload_n hx hb dX12_reckons_115 rfl (lv_at hl_20 2 rfl) ?_
          refine q_get X hK h 0 rfl rfl wf_12 16 (by decide) rfl wm_5_186 dX12_reckons_116 ?_
          refine lv_iload_n hx hb dX12_reckons_119 rfl (lv_at hl_20 0 rfl) ?_
          refine lv_iconst (v := 1) hx hb dX12_reckons_120 (by decide) ?_
          refine lv_isub hx hb dX12_reckons_121 ?_
          obtain ⟨z_21, ez_21, hz_21⟩ := e_sub (x := z_20) (y := 1) rfl (show (1 : Int32).toInt = 1 by decide) (by omega) (by omega)
          refine q_c z_21 ez_21 ?_
          clear ez_21
          refine lv_iload hx hb dX12_reckons_122 (lv_at hl_20 1 rfl) ?_
          refine lv_aload_n hx hb dX12_reckons_124 rfl (lv_at hl_20 2 rfl) ?_
          refine q_get X hK h 0 rfl rfl wf_12 16 (by decide) rfl wm_5_186 dX12_reckons_125 ?_
          refine lv_iload_n hx hb dX12_reckons_128 rfl (lv_at hl_20 0 rfl) ?_
          refine lv_iconst (v := 1) hx hb dX12_reckons_129 (by decide) ?_
          refine lv_isub hx hb dX12_reckons_130 ?_
          obtain ⟨z_22, ez_22, hz_22⟩ := e_sub (x := z_20) (y := 1) rfl (show (1 : Int32).toInt = 1 by decide) (by omega) (by omega)
          refine q_c z_22 ez_22 ?_
          clear ez_22
          refine q_iald X hK h 2 rfl (i_in rfl (by omega) (by omega)) dX12_reckons_131 ?_
          refine q_any (fun z_23 hz_23 => ?_)
          refine lv_aload_n hx hb dX12_reckons_132 rfl (lv_at hl_20 2 rfl) ?_
          refine q_get X hK h 0 rfl rfl wf_12 16 (by decide) rfl wm_5_186 dX12_reckons_133 ?_
          refine lv_iload_n hx hb dX12_reckons_136 rfl (lv_at hl_20 0 rfl) ?_
          refine q_iald X hK h 2 rfl (i_in rfl (by omega) (by omega)) dX12_reckons_137 ?_
          refine q_any (fun z_24 hz_24 => ?_)
          refine q_callSi (rest := [.int z_21, .ref h2]) (wr := (wk_d5826a772 cy h0 p0 h1 w0 w1 w2 p1 p2 p3 p4 p5 p6 p7 p8 p9 p10 p11 h2 h3 w3 w4 w5 p12 p13 w6 w7 w8 p14 p15 w9 w10 w11 w12 w13 p16 w14 w15 w16 h1 f0 h2 v4_3_2 h3 f2)) X hK hT hA h (fun sz => gX12_between_b825dc3 l D cy z_12 z_23 z_24 ⟨by omega, by omega⟩ (i_rng _) (i_rng _) sz) wm_6_199 wm_6_201 wm_1_12 hd_X12_between wm_6_200 ⟨Nat.le_of_ble_eq_true rfl, Nat.le_of_ble_eq_true rfl⟩ hl_20.1 rfl (Nat.le_of_ble_eq_true rfl) dX12_reckons_138 ⟨Nat.le_of_ble_eq_true rfl, Nat.le_of_ble_eq_true rfl⟩ [] [0, 1, 2, 3] rfl rfl (by decide) rfl rfl (fun r_25 u_25 H locs w_25 h_25 => ?_)
          clear h
          obtain ⟨wr_25, _⟩ := w_25
          replace h_25 : qW D _ _ (wk_d5826a772 cy h0 p0 h1 w0 w1 w2 p1 p2 p3 p4 p5 p6 p7 p8 p9 p10 p11 h2 h3 w3 w4 w5 p12 p13 w6 w7 w8 p14 p15 w9 w10 w11 w12 w13 p16 w14 w15 w16 h1 f0 h2 v4_3_2 h3 f2) _ _ := h_25
          refine q_iast X hK h_25 2 rfl (i_in rfl (by omega) (by omega)) dX12_reckons_141 (fun H locs h_27 => ?_)
          clear h_25
          replace h_27 : qW D _ _ (wk_d5826a772 cy h0 p0 h1 w0 w1 w2 p1 p2 p3 p4 p5 p6 p7 p8 p9 p10 p11 h2 h3 w3 w4 w5 p12 p13 w6 w7 w8 p14 p15 w9 w10 w11 w12 w13 p16 w14 w15 w16 h1 f0 h2 (upd v4_3_2 (Int32.toNatClampNeg z_21) r_25) h3 f2) _ _ := h_27
          obtain ⟨F_26, eF_26⟩ : ∃ z, (upd v4_3_2 (Int32.toNatClampNeg z_21) r_25) = z := ⟨_, rfl⟩
          rw [eF_26] at h_27
          clear eF_26
          exact J_142 _ _ _ _ ⟨z_20, F_26, ⟨by omega, by omega⟩, (by omega), rfl, h_27, (lv_sub hl_20 [2, 3, 0, 4, 1] rfl)⟩
        · replace c_19 := i_eq (x := z_12) (y := 3006) rfl (show (3006 : Int32).toInt = 3006 by decide) c_19
          refine lv_aload_n hx hb dX12_reckons_91 rfl (lv_at hl_14 1 rfl) ?_
          refine q_get X hK h 0 rfl rfl wf_12 16 (by decide) rfl wm_5_186 dX12_reckons_92 ?_
          refine lv_iload_n hx hb dX12_reckons_95 rfl (lv_at hl_14 3 rfl) ?_
          refine lv_iconst (v := 1) hx hb dX12_reckons_96 (by decide) ?_
          refine lv_isub hx hb dX12_reckons_97 ?_
          obtain ⟨z_28, ez_28, hz_28⟩ := e_sub (x := v4_3_1) (y := 1) rfl (show (1 : Int32).toInt = 1 by decide) (by omega) (by omega)
          refine q_c z_28 ez_28 ?_
          clear ez_28
          refine lv_iconst (v := 1) hx hb dX12_reckons_98 (by decide) ?_
          refine lv_aload_n hx hb dX12_reckons_99 rfl (lv_at hl_14 1 rfl) ?_
          refine q_get X hK h 0 rfl rfl wf_12 16 (by decide) rfl wm_5_186 dX12_reckons_100 ?_
          refine lv_iload_n hx hb dX12_reckons_103 rfl (lv_at hl_14 3 rfl) ?_
          refine lv_iconst (v := 1) hx hb dX12_reckons_104 (by decide) ?_
          refine lv_isub hx hb dX12_reckons_105 ?_
          obtain ⟨z_29, ez_29, hz_29⟩ := e_sub (x := v4_3_1) (y := 1) rfl (show (1 : Int32).toInt = 1 by decide) (by omega) (by omega)
          refine q_c z_29 ez_29 ?_
          clear ez_29
          refine q_iald X hK h 2 rfl (i_in rfl (by omega) (by omega)) dX12_reckons_106 ?_
          refine q_any (fun z_30 hz_30 => ?_)
          refine lv_isub hx hb dX12_reckons_107 ?_
          refine q_any (fun z_31 hz_31 => ?_)
          refine q_iast X hK h 2 rfl (i_in rfl (by omega) (by omega)) dX12_reckons_108 (fun H locs h_33 => ?_)
          clear h
          replace h_33 : qW D _ _ (wk_d5826a772 cy h0 p0 h1 w0 w1 w2 p1 p2 p3 p4 p5 p6 p7 p8 p9 p10 p11 h2 h3 w3 w4 w5 p12 p13 w6 w7 w8 p14 p15 w9 w10 w11 w12 w13 p16 w14 w15 w16 h1 f0 h2 (upd v4_3_2 (Int32.toNatClampNeg z_28) z_31) h3 f2) _ _ := h_33
          obtain ⟨F_32, eF_32⟩ : ∃ z, (upd v4_3_2 (Int32.toNatClampNeg z_28) z_31) = z := ⟨_, rfl⟩
          rw [eF_32] at h_33
          clear eF_32
          refine lv_goto (tgt := 142) hx hb dX12_reckons_109 (by decide) ?_
          exact J_142 _ _ _ _ ⟨v4_3_1, F_32, hv4_3_1, (by omega), rfl, h_33, (lv_sub hl_14 [1, 2, 3, 4, 0] rfl)⟩
      · replace c_18 := i_nle (x := 3000) (y := z_12) (show (3000 : Int32).toInt = 3000 by decide) rfl c_18
        refine lv_aload_n hx hb dX12_reckons_47 rfl (lv_at hl_14 1 rfl) ?_
        refine q_get X hK h 0 rfl rfl wf_12 16 (by decide) rfl wm_5_186 dX12_reckons_48 ?_
        refine lv_iload_n hx hb dX12_reckons_51 rfl (lv_at hl_14 3 rfl) ?_
        refine lv_iload hx hb dX12_reckons_52 (lv_at hl_14 0 rfl) ?_
        refine lv_sipush (v := 1000) hx hb dX12_reckons_54 (by decide) ?_
        refine q_jn (pc2 := 76) (fun H locs ls st => ∃ v76_34_0 : Int32, ((-2147483648) ≤ (v76_34_0).toInt ∧ (v76_34_0).toInt ≤ 2147483647) ∧ st = [.int v76_34_0, .int v4_3_1, .ref h2] ∧ qW D (va_A (wk_d5826a772 cy h0 p0 h1 w0 w1 w2 p1 p2 p3 p4 p5 p6 p7 p8 p9 p10 p11 h2 h3 w3 w4 w5 p12 p13 w6 w7 w8 p14 p15 w9 w10 w11 w12 w13 p16 w14 w15 w16 h1 f0 h2 f1 h3 f2) sz) s.heap (wk_d5826a772 cy h0 p0 h1 w0 w1 w2 p1 p2 p3 p4 p5 p6 p7 p8 p9 p10 p11 h2 h3 w3 w4 w5 p12 p13 w6 w7 w8 p14 p15 w9 w10 w11 w12 w13 p16 w14 w15 w16 h1 f0 h2 v4_3_2 h3 f2) H locs ∧ lv_has ls 5 [(0, .ref h0), (1, .int 1), (2, .int v4_3_1), (3, .int v4_3_0), (4, .int z_12)]) (fun H locs ls st hP => ?_) (fun J_76 => ?_)
        · obtain ⟨v76_34_0, hv76_34_0, rfl, h, hl⟩ := hP
          refine q_iast X hK h 2 rfl (i_in rfl (by omega) (by omega)) dX12_reckons_76 (fun H locs h_36 => ?_)
          clear h
          replace h_36 : qW D _ _ (wk_d5826a772 cy h0 p0 h1 w0 w1 w2 p1 p2 p3 p4 p5 p6 p7 p8 p9 p10 p11 h2 h3 w3 w4 w5 p12 p13 w6 w7 w8 p14 p15 w9 w10 w11 w12 w13 p16 w14 w15 w16 h1 f0 h2 (upd v4_3_2 (Int32.toNatClampNeg v4_3_1) v76_34_0) h3 f2) _ _ := h_36
          obtain ⟨F_35, eF_35⟩ : ∃ z, (upd v4_3_2 (Int32.toNatClampNeg v4_3_1) v76_34_0) = z := ⟨_, rfl⟩
          rw [eF_35] at h_36
          clear eF_35
          obtain ⟨z_37, ez_37, hz_37⟩ := e_add (x := v4_3_1) (y := Int32.ofInt 1) rfl (b := 1) (by decide) (by omega) (by omega)
          refine lv_iinc (v := z_37) (lv' := [(2, .int z_37), (0, .ref h0), (1, .int 1), (3, .int v4_3_0), (4, .int z_12)]) hx hb dX12_reckons_77 hl (k := 2) rfl ez_37 (by decide) rfl (fun ls_37 hl_37 => ?_)
          clear hl
          refine lv_goto (tgt := 142) hx hb dX12_reckons_80 (by decide) ?_
          exact J_142 _ _ _ _ ⟨z_37, F_35, ⟨by omega, by omega⟩, (by omega), rfl, h_36, (lv_sub hl_37 [1, 2, 0, 3, 4] rfl)⟩
        · skip
          refine lv_icmp_ge (tgt := 65) hx hb dX12_reckons_57 (by decide) (fun c_38 => ?_) (fun c_38 => ?_)
          · replace c_38 := i_le (x := 1000) (y := z_12) (show (1000 : Int32).toInt = 1000 by decide) rfl c_38
            refine lv_aload_n hx hb dX12_reckons_65 rfl (lv_at hl_14 1 rfl) ?_
            refine q_get X hK h 0 rfl rfl wf_12 17 (by decide) rfl wm_5_187 dX12_reckons_66 ?_
            refine lv_iload hx hb dX12_reckons_69 (lv_at hl_14 0 rfl) ?_
            refine lv_sipush (v := 1000) hx hb dX12_reckons_71 (by decide) ?_
            refine lv_isub hx hb dX12_reckons_74 ?_
            obtain ⟨z_39, ez_39, hz_39⟩ := e_sub (x := z_12) (y := 1000) rfl (show (1000 : Int32).toInt = 1000 by decide) (by omega) (by omega)
            refine q_c z_39 ez_39 ?_
            clear ez_39
            refine q_iald X hK h 3 rfl (i_in rfl (by omega) (by omega)) dX12_reckons_75 ?_
            refine q_any (fun z_40 hz_40 => ?_)
            exact J_76 _ _ _ _ ⟨z_40, ⟨by omega, by omega⟩, rfl, h, (lv_sub hl_14 [1, 2, 3, 4, 0] rfl)⟩
          · replace c_38 := i_nle (x := 1000) (y := z_12) (show (1000 : Int32).toInt = 1000 by decide) rfl c_38
            refine lv_iload hx hb dX12_reckons_60 (lv_at hl_14 0 rfl) ?_
            refine lv_goto (tgt := 76) hx hb dX12_reckons_62 (by decide) ?_
            exact J_76 _ _ _ _ ⟨z_12, ⟨by omega, by omega⟩, rfl, h, (lv_sub hl_14 [1, 2, 3, 4, 0] rfl)⟩
set_option maxHeartbeats 4000000 in
set_option maxRecDepth 100000 in
theorem gX12_saysAye_89c2faa (l : Launch) (D : va_G) (cy : Nat → ClassId) (h0 : Nat) (h1 : Nat) (h2 : Nat) (h3 : Nat) (p0 : Int32) (p1 : Int32) (p2 : Int32) (w0 : Value) (w1 : Value) (w2 : Value) (p3 : Int32) (p4 : Int32) (p5 : Int32) (p6 : Int32) (p7 : Int32) (p8 : Int32) (p9 : Int32) (p10 : Int32) (p11 : Int32) (p12 : Int32) (p13 : Int32) (w3 : Value) (w4 : Value) (w5 : Value) (p14 : Int32) (p15 : Int32) (w6 : Value) (w7 : Value) (w8 : Value) (p16 : Int32) (p17 : Int32) (w9 : Value) (w10 : Value) (w11 : Value) (w12 : Value) (w13 : Value) (p18 : Int32) (w14 : Value) (w15 : Value) (w16 : Value) (f0 : Nat → Int32) (p19 : Int32) (f1 : Nat → Int32) (f2 : Nat → Int32) (hp0 : 0 ≤ (p0).toInt ∧ (p0).toInt ≤ 9) (hp1 : (-2147483648) ≤ (p1).toInt ∧ (p1).toInt ≤ 2147483647) (hp2 : 0 ≤ (p2).toInt ∧ (p2).toInt ≤ 0) (hp3 : 0 ≤ (p3).toInt ∧ (p3).toInt ≤ 900) (hp4 : 0 ≤ (p4).toInt ∧ (p4).toInt ≤ 900) (hp5 : 0 ≤ (p5).toInt ∧ (p5).toInt ≤ 900) (hp6 : 0 ≤ (p6).toInt ∧ (p6).toInt ≤ 900) (hp7 : (-2147483648) ≤ (p7).toInt ∧ (p7).toInt ≤ 2147483647) (hp8 : 0 ≤ (p8).toInt ∧ (p8).toInt ≤ 999) (hp9 : (-2147483648) ≤ (p9).toInt ∧ (p9).toInt ≤ 2147483647) (hp10 : (-2147483648) ≤ (p10).toInt ∧ (p10).toInt ≤ 2147483647) (hp11 : (-2147483648) ≤ (p11).toInt ∧ (p11).toInt ≤ 2147483647) (hp12 : (-2147483648) ≤ (p12).toInt ∧ (p12).toInt ≤ 2147483647) (hp13 : (-2147483648) ≤ (p13).toInt ∧ (p13).toInt ≤ 2147483647) (hp14 : (-2147483648) ≤ (p14).toInt ∧ (p14).toInt ≤ 2147483647) (hp15 : (-2147483648) ≤ (p15).toInt ∧ (p15).toInt ≤ 2147483647) (hp16 : (-2147483648) ≤ (p16).toInt ∧ (p16).toInt ≤ 2147483647) (hp17 : (-2147483648) ≤ (p17).toInt ∧ (p17).toInt ≤ 2147483647) (hp18 : (-2147483648) ≤ (p18).toInt ∧ (p18).toInt ≤ 2147483647) (hp19 : 0 ≤ (p19).toInt ∧ (p19).toInt ≤ 10) (htf0_84 : f0 84 = p19) (rf0 : AL f0) (sz : Nat) : MI l yX12_saysAye cX12_saysAye 3 .boolean { frames := 2, cells := 0, slots := 0, locals := 48 } [.ref h0, .int p0, .int p1] D cy (wk_d5826a772 cy h0 p2 h1 w0 w1 w2 p3 p4 p5 p6 p7 p8 p9 p10 p11 p12 p13 h2 h3 w3 w4 w5 p14 p15 w6 w7 w8 p16 p17 w9 w10 w11 w12 w13 p18 w14 w15 w16 h1 f0 h2 f1 h3 f2) sz (fun r u => (0 ≤ r.toInt ∧ r.toInt ≤ 1) ∧ True) (fun u => (wk_d5826a772 cy h0 p2 h1 w0 w1 w2 p3 p4 p5 p6 p7 p8 p9 p10 p11 p12 p13 h2 h3 w3 w4 w5 p14 p15 w6 w7 w8 p16 p17 w9 w10 w11 w12 w13 p18 w14 w15 w16 h1 f0 h2 (u.2.1 0) h3 (u.2.1 1))) 0 0 := by
  refine q_ent (own := RX12) (by decide) rfl (Nat.le_of_ble_eq_true rfl) (fun p e s m below meth c ls X hr hlk hnm hK hT h hA hl => ?_)
  obtain ⟨hx, hb, hml, hown, ht⟩ := id X
  replace hl : lv_has ls 3 [(0, .ref h0), (1, .int p0), (2, .int p1)] := hl
  refine lv_aload_n hx hb dX12_saysAye_0 rfl (lv_at hl 0 rfl) ?_
  refine q_get X hK h 0 rfl rfl wf_12 1 (by decide) rfl wm_5_171 dX12_saysAye_1 ?_
  refine lv_iconst (v := 4) hx hb dX12_saysAye_4 (by decide) ?_
  refine q_iald X hK h 1 rfl (q_in (by decide +kernel)) dX12_saysAye_5 ?_
  obtain ⟨z_1, ez_1, hz_1⟩ := e_any (f0 4)
  refine q_c z_1 ez_1 ?_
  have ei_1 := congrArg Int32.toInt ez_1
  refine lv_if_ne (tgt := 30) hx hb dX12_saysAye_6 (by decide) (fun c_2 => ?_) (fun c_2 => ?_)
  · replace c_2 := i_ne (x := z_1) (y := 0) rfl (show (0 : Int32).toInt = 0 by decide) c_2
    refine lv_aload_n hx hb dX12_saysAye_30 rfl (lv_at hl 0 rfl) ?_
    refine lv_iload_n hx hb dX12_saysAye_31 rfl (lv_at hl 1 rfl) ?_
    refine lv_iload_n hx hb dX12_saysAye_32 rfl (lv_at hl 1 rfl) ?_
    refine lv_aload_n hx hb dX12_saysAye_33 rfl (lv_at hl 0 rfl) ?_
    refine q_get X hK h 0 rfl rfl wf_12 1 (by decide) rfl wm_5_171 dX12_saysAye_34 ?_
    refine lv_bipush (v := 52) hx hb dX12_saysAye_37 (by decide) ?_
    refine q_iald X hK h 1 rfl (q_in (by decide +kernel)) dX12_saysAye_39 ?_
    refine q_any (fun z_3 hz_3 => ?_)
    refine q_callVv (rest := []) (wr := [(h2, .inl (cy 1, 900, .inl f1))]) X hK hT hA h (fun sz => gX12_asks_27d8d41 l D cy h0 h1 h3 p0 z_3 p2 w0 w1 w2 p3 p4 p5 p6 p7 p8 p9 p10 p11 p12 p13 (.ref h2) w3 w4 w5 p14 p15 w6 w7 w8 p16 p17 w9 w10 w11 w12 w13 p18 w14 w15 w16 f0 p19 f2 hp0 (i_rng _) hp2 hp3 hp4 hp5 hp6 (i_rng _) hp8 (i_rng _) (i_rng _) (i_rng _) (i_rng _) (i_rng _) (i_rng _) (i_rng _) (i_rng _) (i_rng _) (i_rng _) hp19 htf0_84 rf0 sz) wm_6_191 wm_6_194 wm_1_12 hd_X12_asks wm_6_193 wp_5_12 (ci := 12) (q0 := 0) rfl rfl ⟨Nat.le_of_ble_eq_true rfl, Nat.le_of_ble_eq_true rfl⟩ hl.1 rfl (Nat.le_of_ble_eq_true rfl) dX12_saysAye_40 ⟨Nat.le_of_ble_eq_true rfl, Nat.le_of_ble_eq_true rfl⟩ [0, 1, 3] [2] rfl rfl (by decide) rfl rfl (fun u_4 H locs w_4 h_4 => ?_)
    clear h
    clear w_4
    replace h_4 : qW D _ _ (wk_e4244dc24 cy h2 f1 h0 p2 h1 w0 w1 w2 p3 p4 p5 p6 p7 p8 p9 p10 p11 p12 p13 h2 h3 w3 w4 w5 p14 p15 w6 w7 w8 p16 p17 w9 w10 w11 w12 w13 p18 w14 w15 w16 h1 f0 h3 (u_4.2.1 0)) _ _ := h_4
    refine lv_aload_n hx hb dX12_saysAye_43 rfl (lv_at hl 0 rfl) ?_
    refine q_get X hK h_4 1 rfl rfl wf_12 17 (by decide) rfl wm_5_187 dX12_saysAye_44 ?_
    refine lv_bipush (v := 9) hx hb dX12_saysAye_47 (by decide) ?_
    refine lv_iload_n hx hb dX12_saysAye_49 rfl (lv_at hl 2 rfl) ?_
    refine q_iast X hK h_4 3 rfl (q_in (by decide +kernel)) dX12_saysAye_50 (fun H locs h_6 => ?_)
    clear h_4
    replace h_6 : qW D _ _ (wk_e4244dc24 cy h2 f1 h0 p2 h1 w0 w1 w2 p3 p4 p5 p6 p7 p8 p9 p10 p11 p12 p13 h2 h3 w3 w4 w5 p14 p15 w6 w7 w8 p16 p17 w9 w10 w11 w12 w13 p18 w14 w15 w16 h1 f0 h3 (upd (u_4.2.1 0) (Int32.toNatClampNeg 9) p1)) _ _ := h_6
    obtain ⟨F_5, eF_5⟩ : ∃ z, (upd (u_4.2.1 0) (Int32.toNatClampNeg 9) p1) = z := ⟨_, rfl⟩
    rw [eF_5] at h_6
    clear eF_5
    refine lv_aload_n hx hb dX12_saysAye_51 rfl (lv_at hl 0 rfl) ?_
    refine lv_iconst (v := 1) hx hb dX12_saysAye_52 (by decide) ?_
    refine q_callVi (rest := []) (wr := []) X hK hT hA h_6 (fun sz => gX12_reckons_5eb42f9 l D cy h0 h1 h2 h3 p2 w0 w1 w2 p3 p4 p5 p6 p7 p8 p9 p10 p11 p12 p13 w3 w4 w5 p14 p15 w6 w7 w8 p16 p17 w9 w10 w11 w12 w13 p18 w14 w15 w16 f0 p19 f1 F_5 hp2 hp3 hp4 hp5 hp6 (i_rng _) hp8 (i_rng _) (i_rng _) (i_rng _) (i_rng _) (i_rng _) (i_rng _) (i_rng _) (i_rng _) (i_rng _) (i_rng _) hp19 htf0_84 rf0 (al_law rf0 1 (by decide) (by show (f0 4).toInt ≠ 0; omega)) sz) wm_6_195 wm_6_198 wm_1_12 hd_X12_reckons wm_6_197 wp_5_13 (ci := 12) (q0 := 0) rfl rfl ⟨Nat.le_of_ble_eq_true rfl, Nat.le_of_ble_eq_true rfl⟩ hl.1 rfl (Nat.le_of_ble_eq_true rfl) dX12_saysAye_53 ⟨Nat.le_of_ble_eq_true rfl, Nat.le_of_ble_eq_true rfl⟩ [1, 2, 0, 3] [] rfl rfl (by decide) rfl rfl (fun r_7 u_7 H locs w_7 h_7 => ?_)
    clear h_6
    obtain ⟨wr_7, _⟩ := w_7
    replace h_7 : qW D _ _ (wk_d5826a772 cy h0 p2 h1 w0 w1 w2 p3 p4 p5 p6 p7 p8 p9 p10 p11 p12 p13 h2 h3 w3 w4 w5 p14 p15 w6 w7 w8 p16 p17 w9 w10 w11 w12 w13 p18 w14 w15 w16 h1 f0 h2 (u_7.2.1 0) h3 F_5) _ _ := h_7
    refine lv_iconst (v := 1) hx hb dX12_saysAye_56 (by decide) ?_
    refine lv_icmp_ne (tgt := 64) hx hb dX12_saysAye_57 (by decide) (fun c_8 => ?_) (fun c_8 => ?_)
    · replace c_8 := i_ne (x := r_7) (y := 1) rfl (show (1 : Int32).toInt = 1 by decide) c_8
      refine lv_iconst (v := 0) hx hb dX12_saysAye_64 (by decide) ?_
      exact q_iret X hr hlk hK h_7 rfl (fun _ => 0, (vcons (u_7.2.1 0) (vcons F_5 (fun _ => (fun _ => 0)))), fun _ _ => 0) ⟨⟨by decide +kernel, by decide +kernel⟩, trivial⟩ [0, 1, 2, 3] rfl rfl dX12_saysAye_65 (Nat.le_of_ble_eq_true rfl) (Nat.le_of_ble_eq_true rfl)
    · replace c_8 := i_eq (x := r_7) (y := 1) rfl (show (1 : Int32).toInt = 1 by decide) c_8
      refine lv_iconst (v := 1) hx hb dX12_saysAye_60 (by decide) ?_
      refine lv_goto (tgt := 65) hx hb dX12_saysAye_61 (by decide) ?_
      exact q_iret X hr hlk hK h_7 rfl (fun _ => 0, (vcons (u_7.2.1 0) (vcons F_5 (fun _ => (fun _ => 0)))), fun _ _ => 0) ⟨⟨by decide +kernel, by decide +kernel⟩, trivial⟩ [0, 1, 2, 3] rfl rfl dX12_saysAye_65 (Nat.le_of_ble_eq_true rfl) (Nat.le_of_ble_eq_true rfl)
  · replace c_2 := i_eq (x := z_1) (y := 0) rfl (show (0 : Int32).toInt = 0 by decide) c_2
    refine lv_aload_n hx hb dX12_saysAye_9 rfl (lv_at hl 0 rfl) ?_
    refine q_get X hK h 0 rfl rfl wf_12 1 (by decide) rfl wm_5_171 dX12_saysAye_10 ?_
    refine lv_bipush (v := 54) hx hb dX12_saysAye_13 (by decide) ?_
    refine lv_iconst (v := 3) hx hb dX12_saysAye_15 (by decide) ?_
    refine lv_iload_n hx hb dX12_saysAye_16 rfl (lv_at hl 1 rfl) ?_
    refine lv_imul hx hb dX12_saysAye_17 ?_
    obtain ⟨z_9, ez_9, hz_9⟩ := e_mul (x := 3) (y := p0) (show (3 : Int32).toInt = 3 by decide) rfl (by omega) (by omega)
    refine q_c z_9 ez_9 ?_
    clear ez_9
    refine lv_iadd hx hb dX12_saysAye_18 ?_
    obtain ⟨z_10, ez_10, hz_10⟩ := e_add (x := 54) (y := z_9) (show (54 : Int32).toInt = 54 by decide) rfl (by omega) (by omega)
    refine q_c z_10 ez_10 ?_
    clear ez_10
    refine q_iald X hK h 1 rfl (i_in rfl (by omega) (by omega)) dX12_saysAye_19 ?_
    obtain ⟨z_11, ez_11, hz_11⟩ := al_W rf0 (x := z_10) rfl (by omega) (by omega)
    refine q_c z_11 ez_11 ?_
    clear ez_11
    refine lv_iconst (v := 4) hx hb dX12_saysAye_20 (by decide) ?_
    refine lv_icmp_le (tgt := 28) hx hb dX12_saysAye_21 (by decide) (fun c_12 => ?_) (fun c_12 => ?_)
    · replace c_12 := i_le (x := z_11) (y := 4) rfl (show (4 : Int32).toInt = 4 by decide) c_12
      refine lv_iconst (v := 0) hx hb dX12_saysAye_28 (by decide) ?_
      exact q_iret X hr hlk hK h rfl (fun _ => 0, (vcons f1 (vcons f2 (fun _ => (fun _ => 0)))), fun _ _ => 0) ⟨⟨by decide +kernel, by decide +kernel⟩, trivial⟩ [0, 1, 2, 3] rfl rfl dX12_saysAye_29 (Nat.le_of_ble_eq_true rfl) (Nat.le_of_ble_eq_true rfl)
    · replace c_12 := i_nle (x := z_11) (y := 4) rfl (show (4 : Int32).toInt = 4 by decide) c_12
      refine lv_iconst (v := 1) hx hb dX12_saysAye_24 (by decide) ?_
      refine lv_goto (tgt := 29) hx hb dX12_saysAye_25 (by decide) ?_
      exact q_iret X hr hlk hK h rfl (fun _ => 0, (vcons f1 (vcons f2 (fun _ => (fun _ => 0)))), fun _ _ => 0) ⟨⟨by decide +kernel, by decide +kernel⟩, trivial⟩ [0, 1, 2, 3] rfl rfl dX12_saysAye_29 (Nat.le_of_ble_eq_true rfl) (Nat.le_of_ble_eq_true rfl)
set_option maxHeartbeats 4000000 in
set_option maxRecDepth 100000 in
theorem gX12_ayesOf_37b3298 (l : Launch) (D : va_G) (cy : Nat → ClassId) (h0 : Nat) (h1 : Nat) (h2 : Nat) (h3 : Nat) (p0 : Int32) (p1 : Int32) (p2 : Int32) (w0 : Value) (w1 : Value) (w2 : Value) (p3 : Int32) (p4 : Int32) (p5 : Int32) (p6 : Int32) (p7 : Int32) (p8 : Int32) (p9 : Int32) (p10 : Int32) (p11 : Int32) (p12 : Int32) (p13 : Int32) (w3 : Value) (w4 : Value) (w5 : Value) (p14 : Int32) (p15 : Int32) (w6 : Value) (w7 : Value) (w8 : Value) (p16 : Int32) (p17 : Int32) (w9 : Value) (w10 : Value) (w11 : Value) (w12 : Value) (w13 : Value) (p18 : Int32) (w14 : Value) (w15 : Value) (w16 : Value) (f0 : Nat → Int32) (p19 : Int32) (f1 : Nat → Int32) (f2 : Nat → Int32) (hp0 : 0 ≤ (p0).toInt ∧ (p0).toInt ≤ 1023) (hp1 : (-2147483648) ≤ (p1).toInt ∧ (p1).toInt ≤ 2147483647) (hp2 : 0 ≤ (p2).toInt ∧ (p2).toInt ≤ 0) (hp3 : 0 ≤ (p3).toInt ∧ (p3).toInt ≤ 900) (hp4 : 0 ≤ (p4).toInt ∧ (p4).toInt ≤ 900) (hp5 : 0 ≤ (p5).toInt ∧ (p5).toInt ≤ 900) (hp6 : 0 ≤ (p6).toInt ∧ (p6).toInt ≤ 900) (hp7 : (-2147483648) ≤ (p7).toInt ∧ (p7).toInt ≤ 2147483647) (hp8 : 0 ≤ (p8).toInt ∧ (p8).toInt ≤ 999) (hp9 : (-2147483648) ≤ (p9).toInt ∧ (p9).toInt ≤ 2147483647) (hp10 : (-2147483648) ≤ (p10).toInt ∧ (p10).toInt ≤ 2147483647) (hp11 : (-2147483648) ≤ (p11).toInt ∧ (p11).toInt ≤ 2147483647) (hp12 : (-2147483648) ≤ (p12).toInt ∧ (p12).toInt ≤ 2147483647) (hp13 : (-2147483648) ≤ (p13).toInt ∧ (p13).toInt ≤ 2147483647) (hp14 : (-2147483648) ≤ (p14).toInt ∧ (p14).toInt ≤ 2147483647) (hp15 : (-2147483648) ≤ (p15).toInt ∧ (p15).toInt ≤ 2147483647) (hp16 : (-2147483648) ≤ (p16).toInt ∧ (p16).toInt ≤ 2147483647) (hp17 : (-2147483648) ≤ (p17).toInt ∧ (p17).toInt ≤ 2147483647) (hp18 : (-2147483648) ≤ (p18).toInt ∧ (p18).toInt ≤ 2147483647) (hp19 : 0 ≤ (p19).toInt ∧ (p19).toInt ≤ 10) (htf0_84 : f0 84 = p19) (rf0 : AL f0) (sz : Nat) : MI l yX12_ayesOf cX12_ayesOf 5 .int { frames := 3, cells := 0, slots := 0, locals := 70 } [.ref h0, .int p0, .int p1] D cy (wk_d5826a772 cy h0 p2 h1 w0 w1 w2 p3 p4 p5 p6 p7 p8 p9 p10 p11 p12 p13 h2 h3 w3 w4 w5 p14 p15 w6 w7 w8 p16 p17 w9 w10 w11 w12 w13 p18 w14 w15 w16 h1 f0 h2 f1 h3 f2) sz (fun r u => (0 ≤ r.toInt ∧ r.toInt ≤ 1023) ∧ True) (fun u => (wk_d5826a772 cy h0 p2 h1 w0 w1 w2 p3 p4 p5 p6 p7 p8 p9 p10 p11 p12 p13 h2 h3 w3 w4 w5 p14 p15 w6 w7 w8 p16 p17 w9 w10 w11 w12 w13 p18 w14 w15 w16 h1 f0 h2 (u.2.1 0) h3 (u.2.1 1))) 0 0 := by
  refine q_ent (own := RX12) (by decide) rfl (Nat.le_of_ble_eq_true rfl) (fun p e s m below meth c ls X hr hlk hnm hK hT h hA hl => ?_)
  obtain ⟨hx, hb, hml, hown, ht⟩ := id X
  replace hl : lv_has ls 5 [(0, .ref h0), (1, .int p0), (2, .int p1)] := hl
  refine lv_iconst (v := 0) hx hb dX12_ayesOf_0 (by decide) ?_
  refine lv_istore_n (lv' := [(3, .int 0), (0, .ref h0), (1, .int p0), (2, .int p1)]) hx hb dX12_ayesOf_1 rfl hl (by decide) rfl (fun ls_1 hl_1 => ?_)
  clear hl
  refine lv_iconst (v := 0) hx hb dX12_ayesOf_2 (by decide) ?_
  refine lv_istore (lv' := [(4, .int 0), (3, .int 0), (0, .ref h0), (1, .int p0), (2, .int p1)]) hx hb dX12_ayesOf_3 hl_1 (by decide) rfl (fun ls_2 hl_2 => ?_)
  clear hl_1
  refine q_wl (fun (q : Int32 × Int32) H locs ls => match q with | (v5_3_0, v5_3_1) => ∃ v5_3_2 : Nat → Int32, ∃ v5_3_3 : Nat → Int32, (0 ≤ (v5_3_0).toInt ∧ (v5_3_0).toInt ≤ 10) ∧ (0 ≤ (v5_3_1).toInt ∧ (v5_3_1).toInt ≤ 1023) ∧ qW D (va_A (wk_d5826a772 cy h0 p2 h1 w0 w1 w2 p3 p4 p5 p6 p7 p8 p9 p10 p11 p12 p13 h2 h3 w3 w4 w5 p14 p15 w6 w7 w8 p16 p17 w9 w10 w11 w12 w13 p18 w14 w15 w16 h1 f0 h2 f1 h3 f2) sz) s.heap (wk_d5826a772 cy h0 p2 h1 w0 w1 w2 p3 p4 p5 p6 p7 p8 p9 p10 p11 p12 p13 h2 h3 w3 w4 w5 p14 p15 w6 w7 w8 p16 p17 w9 w10 w11 w12 w13 p18 w14 w15 w16 h1 f0 h2 v5_3_2 h3 v5_3_3) H locs ∧ lv_has ls 5 [(0, .ref h0), (1, .int p0), (2, .int p1), (3, .int v5_3_1), (4, .int v5_3_0)]) (fun (q : Int32 × Int32) => match q with | (v5_3_0, v5_3_1) => (11 - (v5_3_0).toInt).toNat) (fun q_5 ih_5 H locs ls hP => ?_) (0, 0) ⟨f1, f2, ⟨by decide +kernel, by decide +kernel⟩, ⟨by decide +kernel, by decide +kernel⟩, h, (lv_sub hl_2 [2, 3, 4, 1, 0] rfl)⟩
  obtain ⟨v5_3_0, v5_3_1⟩ := q_5
  obtain ⟨v5_3_2, v5_3_3, hv5_3_0, hv5_3_1, h, hl⟩ := hP
  refine lv_iload hx hb dX12_ayesOf_5 (lv_at hl 4 rfl) ?_
  refine lv_aload_n hx hb dX12_ayesOf_7 rfl (lv_at hl 0 rfl) ?_
  refine q_get X hK h 0 rfl rfl wf_12 1 (by decide) rfl wm_5_171 dX12_ayesOf_8 ?_
  refine lv_iconst (v := 2) hx hb dX12_ayesOf_11 (by decide) ?_
  refine q_iald X hK h 1 rfl (q_in (by decide +kernel)) dX12_ayesOf_12 ?_
  obtain ⟨z_4, ez_4, hz_4⟩ := al_P rf0 (x := 2) (show (2 : Int32).toInt = 2 by decide) (by omega) (by omega)
  refine q_c z_4 ez_4 ?_
  clear ez_4
  refine lv_icmp_ge (tgt := 53) hx hb dX12_ayesOf_13 (by decide) (fun c_5 => ?_) (fun c_5 => ?_)
  · replace c_5 := i_le (x := z_4) (y := v5_3_0) rfl rfl c_5
    refine lv_iload_n hx hb dX12_ayesOf_53 rfl (lv_at hl 3 rfl) ?_
    exact q_iret X hr hlk hK h rfl (fun _ => 0, (vcons v5_3_2 (vcons v5_3_3 (fun _ => (fun _ => 0)))), fun _ _ => 0) ⟨hv5_3_1, trivial⟩ [0, 1, 2, 3] rfl rfl dX12_ayesOf_54 (Nat.le_of_ble_eq_true rfl) (Nat.le_of_ble_eq_true rfl)
  · replace c_5 := i_nle (x := z_4) (y := v5_3_0) rfl rfl c_5
    refine lv_iload_n hx hb dX12_ayesOf_16 rfl (lv_at hl 3 rfl) ?_
    refine lv_iload_n hx hb dX12_ayesOf_17 rfl (lv_at hl 1 rfl) ?_
    refine lv_i2l hx hb dX12_ayesOf_18 rfl ?_
    obtain ⟨z_6, ez_6, hz_6⟩ := e_i2l (x := p0) rfl
    refine q_cl z_6 ez_6 ?_
    clear ez_6
    refine lv_iload hx hb dX12_ayesOf_19 (lv_at hl 4 rfl) ?_
    refine q_callSi (rest := [.int v5_3_1]) (wr := (wk_d5826a772 cy h0 p2 h1 w0 w1 w2 p3 p4 p5 p6 p7 p8 p9 p10 p11 p12 p13 h2 h3 w3 w4 w5 p14 p15 w6 w7 w8 p16 p17 w9 w10 w11 w12 w13 p18 w14 w15 w16 h1 f0 h2 v5_3_2 h3 v5_3_3)) X hK hT hA h (fun sz => gX12_isIn_b0455a8 l D cy z_6 v5_3_0 ⟨by omega, by omega⟩ ⟨by omega, by omega⟩ sz) wm_6_167 wm_6_169 wm_1_12 hd_X12_isIn wm_6_168 ⟨Nat.le_of_ble_eq_true rfl, Nat.le_of_ble_eq_true rfl⟩ hl.1 rfl (Nat.le_of_ble_eq_true rfl) dX12_ayesOf_21 ⟨Nat.le_of_ble_eq_true rfl, Nat.le_of_ble_eq_true rfl⟩ [] [0, 1, 2, 3] rfl rfl (by decide) rfl rfl (fun r_7 u_7 H locs w_7 h_7 => ?_)
    clear h
    obtain ⟨wr_7, _⟩ := w_7
    replace h_7 : qW D _ _ (wk_d5826a772 cy h0 p2 h1 w0 w1 w2 p3 p4 p5 p6 p7 p8 p9 p10 p11 p12 p13 h2 h3 w3 w4 w5 p14 p15 w6 w7 w8 p16 p17 w9 w10 w11 w12 w13 p18 w14 w15 w16 h1 f0 h2 v5_3_2 h3 v5_3_3) _ _ := h_7
    refine q_jn (pc2 := 45) (fun H locs ls st => ∃ v45_8_2 : Int32, ∃ v45_8_0 : Nat → Int32, ∃ v45_8_1 : Nat → Int32, (0 ≤ (v45_8_2).toInt ∧ (v45_8_2).toInt ≤ 512) ∧ st = [.int v45_8_2, .int v5_3_1] ∧ qW D (va_A (wk_d5826a772 cy h0 p2 h1 w0 w1 w2 p3 p4 p5 p6 p7 p8 p9 p10 p11 p12 p13 h2 h3 w3 w4 w5 p14 p15 w6 w7 w8 p16 p17 w9 w10 w11 w12 w13 p18 w14 w15 w16 h1 f0 h2 f1 h3 f2) sz) s.heap (wk_d5826a772 cy h0 p2 h1 w0 w1 w2 p3 p4 p5 p6 p7 p8 p9 p10 p11 p12 p13 h2 h3 w3 w4 w5 p14 p15 w6 w7 w8 p16 p17 w9 w10 w11 w12 w13 p18 w14 w15 w16 h1 f0 h2 v45_8_0 h3 v45_8_1) H locs ∧ lv_has ls 5 [(0, .ref h0), (1, .int p0), (2, .int p1), (3, .int v5_3_1), (4, .int v5_3_0)]) (fun H locs ls st hP => ?_) (fun J_45 => ?_)
    · obtain ⟨v45_8_2, v45_8_0, v45_8_1, hv45_8_2, rfl, h, hl⟩ := hP
      refine lv_ior hx hb dX12_ayesOf_45 ?_
      obtain ⟨z_9, ez_9, hz_9⟩ := e_orm (x := v5_3_1) (y := v45_8_2) 10 (by decide) rfl rfl (by omega) (by omega) (by omega) (by omega)
      refine q_c z_9 ez_9 ?_
      clear ez_9
      refine lv_istore_n (lv' := [(3, .int z_9), (0, .ref h0), (1, .int p0), (2, .int p1), (4, .int v5_3_0)]) hx hb dX12_ayesOf_46 rfl hl (by decide) rfl (fun ls_10 hl_10 => ?_)
      clear hl
      obtain ⟨z_11, ez_11, hz_11⟩ := e_add (x := v5_3_0) (y := Int32.ofInt 1) rfl (b := 1) (by decide) (by omega) (by omega)
      refine lv_iinc (v := z_11) (lv' := [(4, .int z_11), (3, .int z_9), (0, .ref h0), (1, .int p0), (2, .int p1)]) hx hb dX12_ayesOf_47 hl_10 (k := 4) rfl ez_11 (by decide) rfl (fun ls_11 hl_11 => ?_)
      clear hl_10
      refine lv_goto (tgt := 5) hx hb dX12_ayesOf_50 (by decide) ?_
      exact ih_5 (z_11, z_9) (by show (11 - (z_11).toInt).toNat < (11 - (v5_3_0).toInt).toNat; omega) _ _ _ ⟨v45_8_0, v45_8_1, ⟨by omega, by omega⟩, ⟨by omega, by omega⟩, h, (lv_sub hl_11 [2, 3, 4, 1, 0] rfl)⟩
    · skip
      refine q_jn (pc2 := 44) (fun H locs ls st => ∃ v44_12_0 : Nat → Int32, ∃ v44_12_1 : Nat → Int32, st = [.int v5_3_1] ∧ qW D (va_A (wk_d5826a772 cy h0 p2 h1 w0 w1 w2 p3 p4 p5 p6 p7 p8 p9 p10 p11 p12 p13 h2 h3 w3 w4 w5 p14 p15 w6 w7 w8 p16 p17 w9 w10 w11 w12 w13 p18 w14 w15 w16 h1 f0 h2 f1 h3 f2) sz) s.heap (wk_d5826a772 cy h0 p2 h1 w0 w1 w2 p3 p4 p5 p6 p7 p8 p9 p10 p11 p12 p13 h2 h3 w3 w4 w5 p14 p15 w6 w7 w8 p16 p17 w9 w10 w11 w12 w13 p18 w14 w15 w16 h1 f0 h2 v44_12_0 h3 v44_12_1) H locs ∧ lv_has ls 5 [(0, .ref h0), (1, .int p0), (2, .int p1), (3, .int v5_3_1), (4, .int v5_3_0)]) (fun H locs ls st hP => ?_) (fun J_44 => ?_)
      · obtain ⟨v44_12_0, v44_12_1, rfl, h, hl⟩ := hP
        refine lv_iconst (v := 0) hx hb dX12_ayesOf_44 (by decide) ?_
        exact J_45 _ _ _ _ ⟨0, v44_12_0, v44_12_1, ⟨by decide +kernel, by decide +kernel⟩, rfl, h, (lv_sub hl [0, 1, 2, 3, 4] rfl)⟩
      · skip
        refine lv_if_eq (tgt := 44) hx hb dX12_ayesOf_24 (by decide) (fun c_13 => ?_) (fun c_13 => ?_)
        · replace c_13 := i_eq (x := r_7) (y := 0) rfl (show (0 : Int32).toInt = 0 by decide) c_13
          exact J_44 _ _ _ _ ⟨v5_3_2, v5_3_3, rfl, h_7, (lv_sub hl [0, 1, 2, 3, 4] rfl)⟩
        · replace c_13 := i_ne (x := r_7) (y := 0) rfl (show (0 : Int32).toInt = 0 by decide) c_13
          refine lv_aload_n hx hb dX12_ayesOf_27 rfl (lv_at hl 0 rfl) ?_
          refine lv_iload hx hb dX12_ayesOf_28 (lv_at hl 4 rfl) ?_
          refine lv_iload_n hx hb dX12_ayesOf_30 rfl (lv_at hl 2 rfl) ?_
          refine q_callVi (rest := [.int v5_3_1]) (wr := []) X hK hT hA h_7 (fun sz => gX12_saysAye_89c2faa l D cy h0 h1 h2 h3 v5_3_0 p1 p2 w0 w1 w2 p3 p4 p5 p6 p7 p8 p9 p10 p11 p12 p13 w3 w4 w5 p14 p15 w6 w7 w8 p16 p17 w9 w10 w11 w12 w13 p18 w14 w15 w16 f0 p19 v5_3_2 v5_3_3 ⟨by omega, by omega⟩ (i_rng _) hp2 hp3 hp4 hp5 hp6 (i_rng _) hp8 (i_rng _) (i_rng _) (i_rng _) (i_rng _) (i_rng _) (i_rng _) (i_rng _) (i_rng _) (i_rng _) (i_rng _) hp19 htf0_84 rf0 sz) wm_7_199 wm_7_202 wm_1_12 hd_X12_saysAye wm_7_201 wp_7_13 (ci := 12) (q0 := 0) rfl rfl ⟨Nat.le_of_ble_eq_true rfl, Nat.le_of_ble_eq_true rfl⟩ hl.1 rfl (Nat.le_of_ble_eq_true rfl) dX12_ayesOf_31 ⟨Nat.le_of_ble_eq_true rfl, Nat.le_of_ble_eq_true rfl⟩ [0, 1, 2, 3] [] rfl rfl (by decide) rfl rfl (fun r_14 u_14 H locs w_14 h_14 => ?_)
          clear h_7
          obtain ⟨wr_14, _⟩ := w_14
          replace h_14 : qW D _ _ (wk_d5826a772 cy h0 p2 h1 w0 w1 w2 p3 p4 p5 p6 p7 p8 p9 p10 p11 p12 p13 h2 h3 w3 w4 w5 p14 p15 w6 w7 w8 p16 p17 w9 w10 w11 w12 w13 p18 w14 w15 w16 h1 f0 h2 (u_14.2.1 0) h3 (u_14.2.1 1)) _ _ := h_14
          refine lv_if_eq (tgt := 44) hx hb dX12_ayesOf_34 (by decide) (fun c_15 => ?_) (fun c_15 => ?_)
          · replace c_15 := i_eq (x := r_14) (y := 0) rfl (show (0 : Int32).toInt = 0 by decide) c_15
            exact J_44 _ _ _ _ ⟨(u_14.2.1 0), (u_14.2.1 1), rfl, h_14, (lv_sub hl [0, 1, 2, 3, 4] rfl)⟩
          · replace c_15 := i_ne (x := r_14) (y := 0) rfl (show (0 : Int32).toInt = 0 by decide) c_15
            refine lv_iconst (v := 1) hx hb dX12_ayesOf_37 (by decide) ?_
            refine lv_iload hx hb dX12_ayesOf_38 (lv_at hl 4 rfl) ?_
            refine lv_ishl hx hb dX12_ayesOf_40 ?_
            obtain ⟨z_16, ez_16, hz_16⟩ := e_shlk (p := v5_3_0) 9 (by decide) rfl (by omega) (by omega)
            refine q_c z_16 ez_16 ?_
            clear ez_16
            refine lv_goto (tgt := 45) hx hb dX12_ayesOf_41 (by decide) ?_
            exact J_45 _ _ _ _ ⟨z_16, (u_14.2.1 0), (u_14.2.1 1), ⟨by omega, by omega⟩, rfl, h_14, (lv_sub hl [0, 1, 2, 3, 4] rfl)⟩
set_option maxHeartbeats 4000000 in
set_option maxRecDepth 100000 in
theorem gX12_ayes_7859c38 (l : Launch) (D : va_G) (cy : Nat → ClassId) (h0 : Nat) (h1 : Nat) (h2 : Nat) (h3 : Nat) (p0 : Int32) (p1 : Int32) (w0 : Value) (w1 : Value) (w2 : Value) (p2 : Int32) (p3 : Int32) (p4 : Int32) (p5 : Int32) (p6 : Int32) (p7 : Int32) (p8 : Int32) (p9 : Int32) (p10 : Int32) (p11 : Int32) (p12 : Int32) (w3 : Value) (w4 : Value) (w5 : Value) (p13 : Int32) (p14 : Int32) (w6 : Value) (w7 : Value) (w8 : Value) (p15 : Int32) (p16 : Int32) (w9 : Value) (w10 : Value) (w11 : Value) (w12 : Value) (w13 : Value) (p17 : Int32) (w14 : Value) (w15 : Value) (w16 : Value) (f0 : Nat → Int32) (p18 : Int32) (f1 : Nat → Int32) (f2 : Nat → Int32) (hp0 : (-2147483648) ≤ (p0).toInt ∧ (p0).toInt ≤ 2147483647) (hp1 : (-2147483648) ≤ (p1).toInt ∧ (p1).toInt ≤ 2147483647) (hp2 : 0 ≤ (p2).toInt ∧ (p2).toInt ≤ 900) (hp3 : 0 ≤ (p3).toInt ∧ (p3).toInt ≤ 900) (hp4 : 0 ≤ (p4).toInt ∧ (p4).toInt ≤ 900) (hp5 : 0 ≤ (p5).toInt ∧ (p5).toInt ≤ 900) (hp6 : (-2147483648) ≤ (p6).toInt ∧ (p6).toInt ≤ 2147483647) (hp7 : 0 ≤ (p7).toInt ∧ (p7).toInt ≤ 999) (hp8 : (-2147483648) ≤ (p8).toInt ∧ (p8).toInt ≤ 2147483647) (hp9 : (-2147483648) ≤ (p9).toInt ∧ (p9).toInt ≤ 2147483647) (hp10 : (-2147483648) ≤ (p10).toInt ∧ (p10).toInt ≤ 2147483647) (hp11 : (-2147483648) ≤ (p11).toInt ∧ (p11).toInt ≤ 2147483647) (hp12 : (-2147483648) ≤ (p12).toInt ∧ (p12).toInt ≤ 2147483647) (hp13 : (-2147483648) ≤ (p13).toInt ∧ (p13).toInt ≤ 2147483647) (hp14 : (-2147483648) ≤ (p14).toInt ∧ (p14).toInt ≤ 2147483647) (hp15 : (-2147483648) ≤ (p15).toInt ∧ (p15).toInt ≤ 2147483647) (hp16 : (-2147483648) ≤ (p16).toInt ∧ (p16).toInt ≤ 2147483647) (hp17 : (-2147483648) ≤ (p17).toInt ∧ (p17).toInt ≤ 2147483647) (hp18 : 0 ≤ (p18).toInt ∧ (p18).toInt ≤ 10) (htf0_84 : f0 84 = p18) (rf0 : AL f0) (sz : Nat) : MI l yX12_ayes cX12_ayes 2 .int { frames := 4, cells := 0, slots := 0, locals := 94 } [.ref h0, .int p0] D cy (wk_d5826a772 cy h0 p1 h1 w0 w1 w2 p2 p3 p4 p5 p6 p7 p8 p9 p10 p11 p12 h2 h3 w3 w4 w5 p13 p14 w6 w7 w8 p15 p16 w9 w10 w11 w12 w13 p17 w14 w15 w16 h1 f0 h2 f1 h3 f2) sz (fun r u => ((-3) ≤ r.toInt ∧ r.toInt ≤ 1023) ∧ (0 ≤ (u.2.1 0 0).toInt ∧ (u.2.1 0 0).toInt ≤ 0) ∧ True) (fun u => (wk_d5826a772 cy h0 (u.2.1 0 0) h1 w0 w1 w2 p2 p3 p4 p5 p6 p7 p8 p9 p10 p11 p12 h2 h3 w3 w4 w5 p13 p14 w6 w7 w8 p15 p16 w9 w10 w11 w12 w13 p17 w14 w15 w16 h1 f0 h2 (u.2.1 1) h3 (u.2.1 2))) 0 0 := by
  refine q_ent (own := RX12) (by decide) rfl (Nat.le_of_ble_eq_true rfl) (fun p e s m below meth c ls X hr hlk hnm hK hT h hA hl => ?_)
  obtain ⟨hx, hb, hml, hown, ht⟩ := id X
  replace hl : lv_has ls 2 [(0, .ref h0), (1, .int p0)] := hl
  refine lv_aload_n hx hb dX12_ayes_0 rfl (lv_at hl 0 rfl) ?_
  refine lv_iconst (v := 0) hx hb dX12_ayes_1 (by decide) ?_
  refine q_put (v := .int 0) X hK h 0 rfl rfl wf_12 tyX12 tyX12_ok nmX12 0 (by decide) wm_5_170 rfl rfl rfl (Nat.le_of_ble_eq_true rfl) dX12_ayes_2 (fun H locs h_1 => ?_)
  clear h
  replace h_1 : qW D _ _ (wk_d5826a772 cy h0 0 h1 w0 w1 w2 p2 p3 p4 p5 p6 p7 p8 p9 p10 p11 p12 h2 h3 w3 w4 w5 p13 p14 w6 w7 w8 p15 p16 w9 w10 w11 w12 w13 p17 w14 w15 w16 h1 f0 h2 f1 h3 f2) _ _ := h_1
  refine lv_iload_n hx hb dX12_ayes_5 rfl (lv_at hl 1 rfl) ?_
  refine q_callSi (rest := []) (wr := (wk_d5826a772 cy h0 0 h1 w0 w1 w2 p2 p3 p4 p5 p6 p7 p8 p9 p10 p11 p12 h2 h3 w3 w4 w5 p13 p14 w6 w7 w8 p15 p16 w9 w10 w11 w12 w13 p17 w14 w15 w16 h1 f0 h2 f1 h3 f2)) X hK hT hA h_1 (fun sz => gX12_isBill_0f4990c l D cy p0 (i_rng _) sz) wm_7_192 wm_7_194 wm_1_12 hd_X12_isBill wm_7_193 ⟨Nat.le_of_ble_eq_true rfl, Nat.le_of_ble_eq_true rfl⟩ hl.1 rfl (Nat.le_of_ble_eq_true rfl) dX12_ayes_6 ⟨Nat.le_of_ble_eq_true rfl, Nat.le_of_ble_eq_true rfl⟩ [] [0, 1, 2, 3] rfl rfl (by decide) rfl rfl (fun r_2 u_2 H locs w_2 h_2 => ?_)
  clear h_1
  obtain ⟨wr_2, _⟩ := w_2
  replace h_2 : qW D _ _ (wk_d5826a772 cy h0 0 h1 w0 w1 w2 p2 p3 p4 p5 p6 p7 p8 p9 p10 p11 p12 h2 h3 w3 w4 w5 p13 p14 w6 w7 w8 p15 p16 w9 w10 w11 w12 w13 p17 w14 w15 w16 h1 f0 h2 f1 h3 f2) _ _ := h_2
  refine q_jn (pc2 := 26) (fun H locs ls st => ∃ v26_3_2 : Int32, ∃ v26_3_0 : Nat → Int32, ∃ v26_3_1 : Nat → Int32, ((-3) ≤ (v26_3_2).toInt ∧ (v26_3_2).toInt ≤ 1023) ∧ st = [.int v26_3_2] ∧ qW D (va_A (wk_d5826a772 cy h0 p1 h1 w0 w1 w2 p2 p3 p4 p5 p6 p7 p8 p9 p10 p11 p12 h2 h3 w3 w4 w5 p13 p14 w6 w7 w8 p15 p16 w9 w10 w11 w12 w13 p17 w14 w15 w16 h1 f0 h2 f1 h3 f2) sz) s.heap (wk_d5826a772 cy h0 0 h1 w0 w1 w2 p2 p3 p4 p5 p6 p7 p8 p9 p10 p11 p12 h2 h3 w3 w4 w5 p13 p14 w6 w7 w8 p15 p16 w9 w10 w11 w12 w13 p17 w14 w15 w16 h1 f0 h2 v26_3_0 h3 v26_3_1) H locs ∧ lv_has ls 2 [(0, .ref h0), (1, .int p0)]) (fun H locs ls st hP => ?_) (fun J_26 => ?_)
  · obtain ⟨v26_3_2, v26_3_0, v26_3_1, hv26_3_2, rfl, h, hl⟩ := hP
    exact q_iret X hr hlk hK h rfl (fun _ => 0, (vcons (fun _ => 0) (vcons v26_3_0 (vcons v26_3_1 (fun _ => (fun _ => 0))))), fun _ _ => 0) ⟨hv26_3_2, (⟨by decide +kernel, by decide +kernel⟩ : 0 ≤ (0 : Int32).toInt ∧ (0 : Int32).toInt ≤ 0), trivial⟩ [0, 1, 2, 3] rfl rfl dX12_ayes_26 (Nat.le_of_ble_eq_true rfl) (Nat.le_of_ble_eq_true rfl)
  · skip
    refine lv_if_eq (tgt := 24) hx hb dX12_ayes_9 (by decide) (fun c_4 => ?_) (fun c_4 => ?_)
    · replace c_4 := i_eq (x := r_2) (y := 0) rfl (show (0 : Int32).toInt = 0 by decide) c_4
      refine lv_bipush (v := (-3)) hx hb dX12_ayes_24 (by decide) ?_
      exact J_26 _ _ _ _ ⟨(-3), f1, f2, ⟨by decide +kernel, by decide +kernel⟩, rfl, h_2, (lv_sub hl [0, 1] rfl)⟩
    · replace c_4 := i_ne (x := r_2) (y := 0) rfl (show (0 : Int32).toInt = 0 by decide) c_4
      refine lv_aload_n hx hb dX12_ayes_12 rfl (lv_at hl 0 rfl) ?_
      refine lv_aload_n hx hb dX12_ayes_13 rfl (lv_at hl 0 rfl) ?_
      refine q_callVi (rest := [.ref h0]) (wr := (wk_3fb6de35f cy h2 f1 h3 f2)) X hK hT hA h_2 (fun sz => gX12_townNow_2907b4b l D cy h0 h1 (0 : Int32) w0 w1 w2 p2 p3 p4 p5 p6 p7 p8 p9 p10 p11 p12 (.ref h2) (.ref h3) w3 w4 w5 p13 p14 w6 w7 w8 p15 p16 w9 w10 w11 w12 w13 p17 w14 w15 w16 f0 p18 ⟨by decide +kernel, by decide +kernel⟩ hp2 hp3 hp4 hp5 (i_rng _) hp7 (i_rng _) (i_rng _) (i_rng _) (i_rng _) (i_rng _) (i_rng _) (i_rng _) (i_rng _) (i_rng _) (i_rng _) hp18 htf0_84 rf0 sz) wm_6_170 wm_6_173 wm_1_12 hd_X12_townNow wm_6_172 wp_5_9 (ci := 12) (q0 := 0) rfl rfl ⟨Nat.le_of_ble_eq_true rfl, Nat.le_of_ble_eq_true rfl⟩ hl.1 rfl (Nat.le_of_ble_eq_true rfl) dX12_ayes_14 ⟨Nat.le_of_ble_eq_true rfl, Nat.le_of_ble_eq_true rfl⟩ [0, 1] [2, 3] rfl rfl (by decide) rfl rfl (fun r_5 u_5 H locs w_5 h_5 => ?_)
      clear h_2
      obtain ⟨wr_5, _⟩ := w_5
      replace h_5 : qW D _ _ (wk_974fbaca6 cy h2 f1 h3 f2 h0 0 h1 w0 w1 w2 p2 p3 p4 p5 p6 p7 p8 p9 p10 p11 p12 h2 h3 w3 w4 w5 p13 p14 w6 w7 w8 p15 p16 w9 w10 w11 w12 w13 p17 w14 w15 w16 h1 f0) _ _ := h_5
      refine lv_iload_n hx hb dX12_ayes_17 rfl (lv_at hl 1 rfl) ?_
      refine q_callVi (rest := []) (wr := []) X hK hT hA h_5 (fun sz => gX12_ayesOf_37b3298 l D cy h0 h1 h2 h3 r_5 p0 (0 : Int32) w0 w1 w2 p2 p3 p4 p5 p6 p7 p8 p9 p10 p11 p12 w3 w4 w5 p13 p14 w6 w7 w8 p15 p16 w9 w10 w11 w12 w13 p17 w14 w15 w16 f0 p18 f1 f2 wr_5 (i_rng _) ⟨by decide +kernel, by decide +kernel⟩ hp2 hp3 hp4 hp5 (i_rng _) hp7 (i_rng _) (i_rng _) (i_rng _) (i_rng _) (i_rng _) (i_rng _) (i_rng _) (i_rng _) (i_rng _) (i_rng _) hp18 htf0_84 rf0 sz) wm_7_195 wm_7_198 wm_1_12 hd_X12_ayesOf wm_7_197 wp_7_12 (ci := 12) (q0 := 0) rfl rfl ⟨Nat.le_of_ble_eq_true rfl, Nat.le_of_ble_eq_true rfl⟩ hl.1 rfl (Nat.le_of_ble_eq_true rfl) dX12_ayes_18 ⟨Nat.le_of_ble_eq_true rfl, Nat.le_of_ble_eq_true rfl⟩ [2, 3, 0, 1] [] rfl rfl (by decide) rfl rfl (fun r_6 u_6 H locs w_6 h_6 => ?_)
      clear h_5
      obtain ⟨wr_6, _⟩ := w_6
      replace h_6 : qW D _ _ (wk_d5826a772 cy h0 0 h1 w0 w1 w2 p2 p3 p4 p5 p6 p7 p8 p9 p10 p11 p12 h2 h3 w3 w4 w5 p13 p14 w6 w7 w8 p15 p16 w9 w10 w11 w12 w13 p17 w14 w15 w16 h1 f0 h2 (u_6.2.1 0) h3 (u_6.2.1 1)) _ _ := h_6
      refine lv_goto (tgt := 26) hx hb dX12_ayes_21 (by decide) ?_
      exact J_26 _ _ _ _ ⟨r_6, (u_6.2.1 0), (u_6.2.1 1), (bw wr_6 (by decide) (by decide)), rfl, h_6, (lv_sub hl [0, 1] rfl)⟩
set_option maxHeartbeats 4000000 in
set_option maxRecDepth 100000 in
theorem gX12_passedBy_5e223a1 (l : Launch) (D : va_G) (cy : Nat → ClassId) (h0 : Nat) (h1 : Nat) (h2 : Nat) (h3 : Nat) (h4 : Nat) (p0 : Int32) (p1 : Int32) (w0 : Value) (w1 : Value) (w2 : Value) (p2 : Int32) (p3 : Int32) (p4 : Int32) (p5 : Int32) (p6 : Int32) (p7 : Int32) (p8 : Int32) (p9 : Int32) (p10 : Int32) (p11 : Int32) (p12 : Int32) (w3 : Value) (w4 : Value) (w5 : Value) (p13 : Int32) (p14 : Int32) (w6 : Value) (w7 : Value) (p15 : Int32) (p16 : Int32) (w8 : Value) (w9 : Value) (w10 : Value) (w11 : Value) (w12 : Value) (p17 : Int32) (w13 : Value) (w14 : Value) (w15 : Value) (f0 : Nat → Int32) (p18 : Int32) (f1 : Nat → Int32) (f2 : Nat → Int32) (f3 : Nat → Int32) (hp0 : (-2147483648) ≤ (p0).toInt ∧ (p0).toInt ≤ 2147483647) (hp1 : 0 ≤ (p1).toInt ∧ (p1).toInt ≤ 0) (hp2 : 0 ≤ (p2).toInt ∧ (p2).toInt ≤ 900) (hp3 : 0 ≤ (p3).toInt ∧ (p3).toInt ≤ 900) (hp4 : 0 ≤ (p4).toInt ∧ (p4).toInt ≤ 900) (hp5 : 0 ≤ (p5).toInt ∧ (p5).toInt ≤ 900) (hp6 : (-2147483648) ≤ (p6).toInt ∧ (p6).toInt ≤ 2147483647) (hp7 : 0 ≤ (p7).toInt ∧ (p7).toInt ≤ 999) (hp8 : (-2147483648) ≤ (p8).toInt ∧ (p8).toInt ≤ 2147483647) (hp9 : (-2147483648) ≤ (p9).toInt ∧ (p9).toInt ≤ 2147483647) (hp10 : (-2147483648) ≤ (p10).toInt ∧ (p10).toInt ≤ 2147483647) (hp11 : (-2147483648) ≤ (p11).toInt ∧ (p11).toInt ≤ 2147483647) (hp12 : (-2147483648) ≤ (p12).toInt ∧ (p12).toInt ≤ 2147483647) (hp13 : (-2147483648) ≤ (p13).toInt ∧ (p13).toInt ≤ 2147483647) (hp14 : (-2147483648) ≤ (p14).toInt ∧ (p14).toInt ≤ 2147483647) (hp15 : (-2147483648) ≤ (p15).toInt ∧ (p15).toInt ≤ 2147483647) (hp16 : (-2147483648) ≤ (p16).toInt ∧ (p16).toInt ≤ 2147483647) (hp17 : (-2147483648) ≤ (p17).toInt ∧ (p17).toInt ≤ 2147483647) (hp18 : 0 ≤ (p18).toInt ∧ (p18).toInt ≤ 10) (htf0_84 : f0 84 = p18) (rf0 : AL f0) (sz : Nat) : MI l yX12_passedBy cX12_passedBy 7 .int { frames := 4, cells := 0, slots := 0, locals := 94 } [.ref h0, .int p0] D cy (wk_d6dc2c191 cy h0 p1 h1 w0 w1 w2 p2 p3 p4 p5 p6 p7 p8 p9 p10 p11 p12 h2 h3 w3 w4 w5 p13 p14 h4 w6 w7 p15 p16 w8 w9 w10 w11 w12 p17 w13 w14 w15 h1 f0 h2 f1 h3 f2 h4 f3) sz (fun r u => ((-1) ≤ r.toInt ∧ r.toInt ≤ 1023) ∧ True) (fun u => (wk_d6dc2c191 cy h0 p1 h1 w0 w1 w2 p2 p3 p4 p5 p6 p7 p8 p9 p10 p11 p12 h2 h3 w3 w4 w5 p13 p14 h4 w6 w7 p15 p16 w8 w9 w10 w11 w12 p17 w13 w14 w15 h1 f0 h2 (u.2.1 0) h3 (u.2.1 1) h4 f3)) 0 0 := by
  refine q_ent (own := RX12) (by decide) rfl (Nat.le_of_ble_eq_true rfl) (fun p e s m below meth c ls X hr hlk hnm hK hT h hA hl => ?_)
  obtain ⟨hx, hb, hml, hown, ht⟩ := id X
  replace hl : lv_has ls 7 [(0, .ref h0), (1, .int p0)] := hl
  refine lv_aload_n hx hb dX12_passedBy_0 rfl (lv_at hl 0 rfl) ?_
  refine q_callVi (rest := []) (wr := [(h2, .inl (cy 1, 900, .inl f1)), (h3, .inl (cy 1, 11, .inl f2)), (h4, .inl (cy 1, 1024, .inl f3))]) X hK hT hA h (fun sz => gX12_townNow_2907b4b l D cy h0 h1 p1 w0 w1 w2 p2 p3 p4 p5 p6 p7 p8 p9 p10 p11 p12 (.ref h2) (.ref h3) w3 w4 w5 p13 p14 (.ref h4) w6 w7 p15 p16 w8 w9 w10 w11 w12 p17 w13 w14 w15 f0 p18 hp1 hp2 hp3 hp4 hp5 (i_rng _) hp7 (i_rng _) (i_rng _) (i_rng _) (i_rng _) (i_rng _) (i_rng _) (i_rng _) (i_rng _) (i_rng _) (i_rng _) hp18 htf0_84 rf0 sz) wm_6_170 wm_6_173 wm_1_12 hd_X12_townNow wm_6_172 wp_5_9 (ci := 12) (q0 := 0) rfl rfl ⟨Nat.le_of_ble_eq_true rfl, Nat.le_of_ble_eq_true rfl⟩ hl.1 rfl (Nat.le_of_ble_eq_true rfl) dX12_passedBy_1 ⟨Nat.le_of_ble_eq_true rfl, Nat.le_of_ble_eq_true rfl⟩ [0, 1] [2, 3, 4] rfl rfl (by decide) rfl rfl (fun r_1 u_1 H locs w_1 h_1 => ?_)
  clear h
  obtain ⟨wr_1, _⟩ := w_1
  replace h_1 : qW D _ _ [(h2, .inl (cy 1, 900, .inl f1)), (h3, .inl (cy 1, 11, .inl f2)), (h4, .inl (cy 1, 1024, .inl f3)), (h0, .inr (12, [.int p1, .ref h1, w0, w1, w2, .int p2, .int p3, .int p4, .int p5, .int p6, .int p7, .int p8, .int p9, .int p10, .int p11, .int p12, .ref h2, .ref h3, w3, w4, w5, .int p13, .int p14, .ref h4, w6, w7, .int p15, .int p16, w8, w9, w10, w11, w12, .int p17, w13, w14, w15])), (h1, .inl (cy 1, 3918, .inl f0))] _ _ := h_1
  refine lv_istore_n (lv' := [(2, .int r_1), (0, .ref h0), (1, .int p0)]) hx hb dX12_passedBy_4 rfl hl (by decide) rfl (fun ls_2 hl_2 => ?_)
  clear hl
  refine lv_aload_n hx hb dX12_passedBy_5 rfl (lv_at hl_2 1 rfl) ?_
  refine lv_iload_n hx hb dX12_passedBy_6 rfl (lv_at hl_2 0 rfl) ?_
  refine lv_iload_n hx hb dX12_passedBy_7 rfl (lv_at hl_2 2 rfl) ?_
  refine q_callVi (rest := []) (wr := [(h4, .inl (cy 1, 1024, .inl f3))]) X hK hT hA h_1 (fun sz => gX12_ayesOf_37b3298 l D cy h0 h1 h2 h3 r_1 p0 p1 w0 w1 w2 p2 p3 p4 p5 p6 p7 p8 p9 p10 p11 p12 w3 w4 w5 p13 p14 (.ref h4) w6 w7 p15 p16 w8 w9 w10 w11 w12 p17 w13 w14 w15 f0 p18 f1 f2 wr_1 (i_rng _) hp1 hp2 hp3 hp4 hp5 (i_rng _) hp7 (i_rng _) (i_rng _) (i_rng _) (i_rng _) (i_rng _) (i_rng _) (i_rng _) (i_rng _) (i_rng _) (i_rng _) hp18 htf0_84 rf0 sz) wm_7_195 wm_7_198 wm_1_12 hd_X12_ayesOf wm_7_197 wp_7_12 (ci := 12) (q0 := 0) rfl rfl ⟨Nat.le_of_ble_eq_true rfl, Nat.le_of_ble_eq_true rfl⟩ hl_2.1 rfl (Nat.le_of_ble_eq_true rfl) dX12_passedBy_8 ⟨Nat.le_of_ble_eq_true rfl, Nat.le_of_ble_eq_true rfl⟩ [3, 4, 0, 1] [2] rfl rfl (by decide) rfl rfl (fun r_3 u_3 H locs w_3 h_3 => ?_)
  clear h_1
  obtain ⟨wr_3, _⟩ := w_3
  replace h_3 : qW D _ _ (wk_dc198b67d cy h4 f3 h0 p1 h1 w0 w1 w2 p2 p3 p4 p5 p6 p7 p8 p9 p10 p11 p12 h2 h3 w3 w4 w5 p13 p14 h4 w6 w7 p15 p16 w8 w9 w10 w11 w12 p17 w13 w14 w15 h1 f0 h2 (u_3.2.1 0) h3 (u_3.2.1 1)) _ _ := h_3
  refine lv_istore_n (lv' := [(3, .int r_3), (2, .int r_1), (0, .ref h0), (1, .int p0)]) hx hb dX12_passedBy_11 rfl hl_2 (by decide) rfl (fun ls_4 hl_4 => ?_)
  clear hl_2
  refine lv_iconst (v := (-1)) hx hb dX12_passedBy_12 (by decide) ?_
  refine lv_istore (lv' := [(4, .int (-1)), (3, .int r_3), (2, .int r_1), (0, .ref h0), (1, .int p0)]) hx hb dX12_passedBy_13 hl_4 (by decide) rfl (fun ls_5 hl_5 => ?_)
  clear hl_4
  refine lv_iconst (v := 0) hx hb dX12_passedBy_15 (by decide) ?_
  refine lv_istore (lv' := [(5, .int 0), (4, .int (-1)), (3, .int r_3), (2, .int r_1), (0, .ref h0), (1, .int p0)]) hx hb dX12_passedBy_16 hl_5 (by decide) rfl (fun ls_6 hl_6 => ?_)
  clear hl_5
  refine q_wl (fun (q : Int32 × Int32) H locs ls => match q with | (v18_7_0, v18_7_1) => (0 ≤ (v18_7_0).toInt ∧ (v18_7_0).toInt ≤ 1024) ∧ ((-1) ≤ (v18_7_1).toInt ∧ (v18_7_1).toInt ≤ 1023) ∧ qW D (va_A (wk_d6dc2c191 cy h0 p1 h1 w0 w1 w2 p2 p3 p4 p5 p6 p7 p8 p9 p10 p11 p12 h2 h3 w3 w4 w5 p13 p14 h4 w6 w7 p15 p16 w8 w9 w10 w11 w12 p17 w13 w14 w15 h1 f0 h2 f1 h3 f2 h4 f3) sz) s.heap (wk_dc198b67d cy h4 f3 h0 p1 h1 w0 w1 w2 p2 p3 p4 p5 p6 p7 p8 p9 p10 p11 p12 h2 h3 w3 w4 w5 p13 p14 h4 w6 w7 p15 p16 w8 w9 w10 w11 w12 p17 w13 w14 w15 h1 f0 h2 (u_3.2.1 0) h3 (u_3.2.1 1)) H locs ∧ lv_has ls 7 [(0, .ref h0), (1, .int p0), (2, .int r_1), (3, .int r_3), (4, .int v18_7_1), (5, .int v18_7_0)]) (fun (q : Int32 × Int32) => match q with | (v18_7_0, v18_7_1) => (1025 - (v18_7_0).toInt).toNat) (fun q_18 ih_18 H locs ls hP => ?_) (0, (-1)) ⟨⟨by decide +kernel, by decide +kernel⟩, ⟨by decide +kernel, by decide +kernel⟩, h_3, (lv_sub hl_6 [4, 5, 3, 2, 1, 0] rfl)⟩
  obtain ⟨v18_7_0, v18_7_1⟩ := q_18
  obtain ⟨hv18_7_0, hv18_7_1, h, hl⟩ := hP
  refine lv_iload hx hb dX12_passedBy_18 (lv_at hl 5 rfl) ?_
  refine lv_iload_n hx hb dX12_passedBy_20 rfl (lv_at hl 2 rfl) ?_
  refine lv_icmp_gt (tgt := 100) hx hb dX12_passedBy_21 (by decide) (fun c_8 => ?_) (fun c_8 => ?_)
  · replace c_8 := i_lt (x := r_1) (y := v18_7_0) rfl rfl c_8
    refine lv_iload hx hb dX12_passedBy_100 (lv_at hl 4 rfl) ?_
    exact q_iret X hr hlk hK h rfl (fun _ => 0, (vcons (u_3.2.1 0) (vcons (u_3.2.1 1) (fun _ => (fun _ => 0)))), fun _ _ => 0) ⟨hv18_7_1, trivial⟩ [1, 2, 3, 4, 0] rfl rfl dX12_passedBy_102 (Nat.le_of_ble_eq_true rfl) (Nat.le_of_ble_eq_true rfl)
  · replace c_8 := i_nlt (x := r_1) (y := v18_7_0) rfl rfl c_8
    refine lv_iload_n hx hb dX12_passedBy_24 rfl (lv_at hl 2 rfl) ?_
    refine lv_iload hx hb dX12_passedBy_25 (lv_at hl 5 rfl) ?_
    refine lv_iconst (v := (-1)) hx hb dX12_passedBy_27 (by decide) ?_
    refine lv_ixor hx hb dX12_passedBy_28 ?_
    refine q_any (fun z_9 hz_9 => ?_)
    refine lv_iand hx hb dX12_passedBy_29 ?_
    obtain ⟨z_10, ez_10, hz_10⟩ := e_and1 (x := r_1) (y := z_9) rfl (by omega)
    refine q_c z_10 ez_10 ?_
    clear ez_10
    refine lv_istore (lv' := [(6, .int z_10), (0, .ref h0), (1, .int p0), (2, .int r_1), (3, .int r_3), (4, .int v18_7_1), (5, .int v18_7_0)]) hx hb dX12_passedBy_30 hl (by decide) rfl (fun ls_11 hl_11 => ?_)
    clear hl
    refine lv_iload hx hb dX12_passedBy_32 (lv_at hl_11 6 rfl) ?_
    refine lv_iload_n hx hb dX12_passedBy_34 rfl (lv_at hl_11 3 rfl) ?_
    refine lv_iconst (v := (-1)) hx hb dX12_passedBy_35 (by decide) ?_
    refine lv_ixor hx hb dX12_passedBy_36 ?_
    refine q_any (fun z_12 hz_12 => ?_)
    refine lv_iand hx hb dX12_passedBy_37 ?_
    obtain ⟨z_13, ez_13, hz_13⟩ := e_and1 (x := v18_7_0) (y := z_12) rfl (by omega)
    refine q_c z_13 ez_13 ?_
    clear ez_13
    refine q_jn (pc2 := 94) (fun H locs ls st => ∃ v94_14_0 : Int32, ((-1) ≤ (v94_14_0).toInt ∧ (v94_14_0).toInt ≤ 1023) ∧ st = [] ∧ qW D (va_A (wk_d6dc2c191 cy h0 p1 h1 w0 w1 w2 p2 p3 p4 p5 p6 p7 p8 p9 p10 p11 p12 h2 h3 w3 w4 w5 p13 p14 h4 w6 w7 p15 p16 w8 w9 w10 w11 w12 p17 w13 w14 w15 h1 f0 h2 f1 h3 f2 h4 f3) sz) s.heap (wk_dc198b67d cy h4 f3 h0 p1 h1 w0 w1 w2 p2 p3 p4 p5 p6 p7 p8 p9 p10 p11 p12 h2 h3 w3 w4 w5 p13 p14 h4 w6 w7 p15 p16 w8 w9 w10 w11 w12 p17 w13 w14 w15 h1 f0 h2 (u_3.2.1 0) h3 (u_3.2.1 1)) H locs ∧ lv_has ls 7 [(0, .ref h0), (1, .int p0), (2, .int r_1), (3, .int r_3), (4, .int v94_14_0), (5, .int v18_7_0), (6, .int z_10)]) (fun H locs ls st hP => ?_) (fun J_94 => ?_)
    · obtain ⟨v94_14_0, hv94_14_0, rfl, h, hl⟩ := hP
      obtain ⟨z_15, ez_15, hz_15⟩ := e_add (x := v18_7_0) (y := Int32.ofInt 1) rfl (b := 1) (by decide) (by omega) (by omega)
      refine lv_iinc (v := z_15) (lv' := [(5, .int z_15), (0, .ref h0), (1, .int p0), (2, .int r_1), (3, .int r_3), (4, .int v94_14_0), (6, .int z_10)]) hx hb dX12_passedBy_94 hl (k := 5) rfl ez_15 (by decide) rfl (fun ls_15 hl_15 => ?_)
      clear hl
      refine lv_goto (tgt := 18) hx hb dX12_passedBy_97 (by decide) ?_
      exact ih_18 (z_15, v94_14_0) (by show (1025 - (z_15).toInt).toNat < (1025 - (v18_7_0).toInt).toNat; omega) _ _ _ ⟨⟨by omega, by omega⟩, hv94_14_0, h, (lv_sub hl_15 [1, 2, 3, 4, 5, 0] rfl)⟩
    · skip
      refine lv_if_ne (tgt := 94) hx hb dX12_passedBy_38 (by decide) (fun c_16 => ?_) (fun c_16 => ?_)
      · replace c_16 := i_ne (x := z_13) (y := 0) rfl (show (0 : Int32).toInt = 0 by decide) c_16
        exact J_94 _ _ _ _ ⟨v18_7_1, hv18_7_1, rfl, h, (lv_sub hl_11 [1, 2, 3, 4, 5, 6, 0] rfl)⟩
      · replace c_16 := i_eq (x := z_13) (y := 0) rfl (show (0 : Int32).toInt = 0 by decide) c_16
        refine lv_iload hx hb dX12_passedBy_41 (lv_at hl_11 5 rfl) ?_
        refine lv_iconst (v := (-1)) hx hb dX12_passedBy_43 (by decide) ?_
        refine q_jn (pc2 := 63) (fun H locs ls st => st = [] ∧ qW D (va_A (wk_d6dc2c191 cy h0 p1 h1 w0 w1 w2 p2 p3 p4 p5 p6 p7 p8 p9 p10 p11 p12 h2 h3 w3 w4 w5 p13 p14 h4 w6 w7 p15 p16 w8 w9 w10 w11 w12 p17 w13 w14 w15 h1 f0 h2 f1 h3 f2 h4 f3) sz) s.heap (wk_dc198b67d cy h4 f3 h0 p1 h1 w0 w1 w2 p2 p3 p4 p5 p6 p7 p8 p9 p10 p11 p12 h2 h3 w3 w4 w5 p13 p14 h4 w6 w7 p15 p16 w8 w9 w10 w11 w12 p17 w13 w14 w15 h1 f0 h2 (u_3.2.1 0) h3 (u_3.2.1 1)) H locs ∧ lv_has ls 7 [(0, .ref h0), (1, .int p0), (2, .int r_1), (3, .int r_3), (4, .int v18_7_1), (5, .int v18_7_0), (6, .int z_10)]) (fun H locs ls st hP => ?_) (fun J_63 => ?_)
        · obtain ⟨rfl, h, hl⟩ := hP
          refine lv_aload_n hx hb dX12_passedBy_63 rfl (lv_at hl 0 rfl) ?_
          refine q_get X hK h 1 rfl rfl wf_12 23 (by decide) rfl wm_5_193 dX12_passedBy_64 ?_
          refine lv_iload hx hb dX12_passedBy_67 (lv_at hl 6 rfl) ?_
          refine q_iald X hK h 0 rfl (i_in rfl (by omega) (by omega)) dX12_passedBy_69 ?_
          refine q_any (fun z_18 hz_18 => ?_)
          refine lv_if_le (tgt := 94) hx hb dX12_passedBy_70 (by decide) (fun c_19 => ?_) (fun c_19 => ?_)
          · replace c_19 := i_le (x := z_18) (y := 0) rfl (show (0 : Int32).toInt = 0 by decide) c_19
            exact J_94 _ _ _ _ ⟨v18_7_1, hv18_7_1, rfl, h, (lv_sub hl [0, 1, 2, 3, 4, 5, 6] rfl)⟩
          · replace c_19 := i_nle (x := z_18) (y := 0) rfl (show (0 : Int32).toInt = 0 by decide) c_19
            refine lv_iconst (v := 2) hx hb dX12_passedBy_73 (by decide) ?_
            refine lv_iload_n hx hb dX12_passedBy_74 rfl (lv_at hl 3 rfl) ?_
            refine lv_iload hx hb dX12_passedBy_75 (lv_at hl 6 rfl) ?_
            refine lv_iand hx hb dX12_passedBy_77 ?_
            obtain ⟨z_20, ez_20, hz_20⟩ := e_and2 (x := r_3) (y := z_10) rfl (by omega)
            refine q_c z_20 ez_20 ?_
            clear ez_20
            refine q_callSi (rest := [.int 2]) (wr := (wk_dc198b67d cy h4 f3 h0 p1 h1 w0 w1 w2 p2 p3 p4 p5 p6 p7 p8 p9 p10 p11 p12 h2 h3 w3 w4 w5 p13 p14 h4 w6 w7 p15 p16 w8 w9 w10 w11 w12 p17 w13 w14 w15 h1 f0 h2 (u_3.2.1 0) h3 (u_3.2.1 1))) X hK hT hA h (fun sz => gX12_bitsOf_5a43b1c l D cy z_20 (i_rng _) sz) wm_7_8 wm_7_10 wm_1_12 hd_X12_bitsOf wm_7_9 ⟨Nat.le_of_ble_eq_true rfl, Nat.le_of_ble_eq_true rfl⟩ hl.1 rfl (Nat.le_of_ble_eq_true rfl) dX12_passedBy_78 ⟨Nat.le_of_ble_eq_true rfl, Nat.le_of_ble_eq_true rfl⟩ [] [0, 1, 2, 3, 4] rfl rfl (by decide) rfl rfl (fun r_21 u_21 H locs w_21 h_21 => ?_)
            clear h
            obtain ⟨wr_21, _⟩ := w_21
            replace h_21 : qW D _ _ (wk_dc198b67d cy h4 f3 h0 p1 h1 w0 w1 w2 p2 p3 p4 p5 p6 p7 p8 p9 p10 p11 p12 h2 h3 w3 w4 w5 p13 p14 h4 w6 w7 p15 p16 w8 w9 w10 w11 w12 p17 w13 w14 w15 h1 f0 h2 (u_3.2.1 0) h3 (u_3.2.1 1)) _ _ := h_21
            refine lv_imul hx hb dX12_passedBy_81 ?_
            obtain ⟨z_22, ez_22, hz_22⟩ := e_mul (x := 2) (y := r_21) (show (2 : Int32).toInt = 2 by decide) rfl (by omega) (by omega)
            refine q_c z_22 ez_22 ?_
            clear ez_22
            refine lv_iload hx hb dX12_passedBy_82 (lv_at hl 6 rfl) ?_
            refine q_callSi (rest := [.int z_22]) (wr := (wk_dc198b67d cy h4 f3 h0 p1 h1 w0 w1 w2 p2 p3 p4 p5 p6 p7 p8 p9 p10 p11 p12 h2 h3 w3 w4 w5 p13 p14 h4 w6 w7 p15 p16 w8 w9 w10 w11 w12 p17 w13 w14 w15 h1 f0 h2 (u_3.2.1 0) h3 (u_3.2.1 1))) X hK hT hA h_21 (fun sz => gX12_bitsOf_5a43b1c l D cy z_10 (i_rng _) sz) wm_7_8 wm_7_10 wm_1_12 hd_X12_bitsOf wm_7_9 ⟨Nat.le_of_ble_eq_true rfl, Nat.le_of_ble_eq_true rfl⟩ hl.1 rfl (Nat.le_of_ble_eq_true rfl) dX12_passedBy_84 ⟨Nat.le_of_ble_eq_true rfl, Nat.le_of_ble_eq_true rfl⟩ [] [0, 1, 2, 3, 4] rfl rfl (by decide) rfl rfl (fun r_23 u_23 H locs w_23 h_23 => ?_)
            clear h_21
            obtain ⟨wr_23, _⟩ := w_23
            replace h_23 : qW D _ _ (wk_dc198b67d cy h4 f3 h0 p1 h1 w0 w1 w2 p2 p3 p4 p5 p6 p7 p8 p9 p10 p11 p12 h2 h3 w3 w4 w5 p13 p14 h4 w6 w7 p15 p16 w8 w9 w10 w11 w12 p17 w13 w14 w15 h1 f0 h2 (u_3.2.1 0) h3 (u_3.2.1 1)) _ _ := h_23
            refine lv_icmp_le (tgt := 94) hx hb dX12_passedBy_87 (by decide) (fun c_24 => ?_) (fun c_24 => ?_)
            · replace c_24 := i_le (x := z_22) (y := r_23) rfl rfl c_24
              exact J_94 _ _ _ _ ⟨v18_7_1, hv18_7_1, rfl, h_23, (lv_sub hl [0, 1, 2, 3, 4, 5, 6] rfl)⟩
            · replace c_24 := i_nle (x := z_22) (y := r_23) rfl rfl c_24
              refine lv_iload hx hb dX12_passedBy_90 (lv_at hl 5 rfl) ?_
              refine lv_istore (lv' := [(4, .int v18_7_0), (0, .ref h0), (1, .int p0), (2, .int r_1), (3, .int r_3), (5, .int v18_7_0), (6, .int z_10)]) hx hb dX12_passedBy_92 hl (by decide) rfl (fun ls_25 hl_25 => ?_)
              clear hl
              exact J_94 _ _ _ _ ⟨v18_7_0, ⟨by omega, by omega⟩, rfl, h_23, (lv_sub hl_25 [1, 2, 3, 4, 0, 5, 6] rfl)⟩
        · skip
          refine lv_icmp_eq (tgt := 63) hx hb dX12_passedBy_44 (by decide) (fun c_26 => ?_) (fun c_26 => ?_)
          · replace c_26 := i_eq (x := v18_7_1) (y := (-1)) rfl (show ((-1) : Int32).toInt = -1 by decide) c_26
            exact J_63 _ _ _ _ ⟨rfl, h, (lv_sub hl_11 [1, 2, 3, 4, 5, 6, 0] rfl)⟩
          · replace c_26 := i_ne (x := v18_7_1) (y := (-1)) rfl (show ((-1) : Int32).toInt = -1 by decide) c_26
            refine lv_iload hx hb dX12_passedBy_47 (lv_at hl_11 6 rfl) ?_
            refine q_callSi (rest := []) (wr := (wk_dc198b67d cy h4 f3 h0 p1 h1 w0 w1 w2 p2 p3 p4 p5 p6 p7 p8 p9 p10 p11 p12 h2 h3 w3 w4 w5 p13 p14 h4 w6 w7 p15 p16 w8 w9 w10 w11 w12 p17 w13 w14 w15 h1 f0 h2 (u_3.2.1 0) h3 (u_3.2.1 1))) X hK hT hA h (fun sz => gX12_bitsOf_5a43b1c l D cy v18_7_0 (i_rng _) sz) wm_7_8 wm_7_10 wm_1_12 hd_X12_bitsOf wm_7_9 ⟨Nat.le_of_ble_eq_true rfl, Nat.le_of_ble_eq_true rfl⟩ hl_11.1 rfl (Nat.le_of_ble_eq_true rfl) dX12_passedBy_49 ⟨Nat.le_of_ble_eq_true rfl, Nat.le_of_ble_eq_true rfl⟩ [] [0, 1, 2, 3, 4] rfl rfl (by decide) rfl rfl (fun r_27 u_27 H locs w_27 h_27 => ?_)
            clear h
            obtain ⟨wr_27, _⟩ := w_27
            replace h_27 : qW D _ _ (wk_dc198b67d cy h4 f3 h0 p1 h1 w0 w1 w2 p2 p3 p4 p5 p6 p7 p8 p9 p10 p11 p12 h2 h3 w3 w4 w5 p13 p14 h4 w6 w7 p15 p16 w8 w9 w10 w11 w12 p17 w13 w14 w15 h1 f0 h2 (u_3.2.1 0) h3 (u_3.2.1 1)) _ _ := h_27
            refine lv_iload hx hb dX12_passedBy_52 (lv_at hl_11 5 rfl) ?_
            refine q_callSi (rest := [.int r_27]) (wr := (wk_dc198b67d cy h4 f3 h0 p1 h1 w0 w1 w2 p2 p3 p4 p5 p6 p7 p8 p9 p10 p11 p12 h2 h3 w3 w4 w5 p13 p14 h4 w6 w7 p15 p16 w8 w9 w10 w11 w12 p17 w13 w14 w15 h1 f0 h2 (u_3.2.1 0) h3 (u_3.2.1 1))) X hK hT hA h_27 (fun sz => gX12_bitsOf_5a43b1c l D cy v18_7_1 (i_rng _) sz) wm_7_8 wm_7_10 wm_1_12 hd_X12_bitsOf wm_7_9 ⟨Nat.le_of_ble_eq_true rfl, Nat.le_of_ble_eq_true rfl⟩ hl_11.1 rfl (Nat.le_of_ble_eq_true rfl) dX12_passedBy_54 ⟨Nat.le_of_ble_eq_true rfl, Nat.le_of_ble_eq_true rfl⟩ [] [0, 1, 2, 3, 4] rfl rfl (by decide) rfl rfl (fun r_28 u_28 H locs w_28 h_28 => ?_)
            clear h_27
            obtain ⟨wr_28, _⟩ := w_28
            replace h_28 : qW D _ _ (wk_dc198b67d cy h4 f3 h0 p1 h1 w0 w1 w2 p2 p3 p4 p5 p6 p7 p8 p9 p10 p11 p12 h2 h3 w3 w4 w5 p13 p14 h4 w6 w7 p15 p16 w8 w9 w10 w11 w12 p17 w13 w14 w15 h1 f0 h2 (u_3.2.1 0) h3 (u_3.2.1 1)) _ _ := h_28
            refine lv_icmp_lt (tgt := 63) hx hb dX12_passedBy_57 (by decide) (fun c_29 => ?_) (fun c_29 => ?_)
            · replace c_29 := i_lt (x := r_27) (y := r_28) rfl rfl c_29
              exact J_63 _ _ _ _ ⟨rfl, h_28, (lv_sub hl_11 [1, 2, 3, 4, 5, 6, 0] rfl)⟩
            · replace c_29 := i_nlt (x := r_27) (y := r_28) rfl rfl c_29
              refine lv_goto (tgt := 94) hx hb dX12_passedBy_60 (by decide) ?_
              exact J_94 _ _ _ _ ⟨v18_7_1, hv18_7_1, rfl, h_28, (lv_sub hl_11 [1, 2, 3, 4, 5, 6, 0] rfl)⟩
set_option maxHeartbeats 4000000 in
set_option maxRecDepth 100000 in
theorem gX12_passes_b67d45f (l : Launch) (D : va_G) (cy : Nat → ClassId) (h0 : Nat) (h1 : Nat) (h2 : Nat) (h3 : Nat) (h4 : Nat) (h5 : Nat) (p0 : Int32) (p1 : Int32) (w0 : Value) (w1 : Value) (w2 : Value) (p2 : Int32) (p3 : Int32) (p4 : Int32) (p5 : Int32) (p6 : Int32) (p7 : Int32) (p8 : Int32) (p9 : Int32) (p10 : Int32) (p11 : Int32) (p12 : Int32) (w3 : Value) (w4 : Value) (p13 : Int32) (p14 : Int32) (w5 : Value) (w6 : Value) (p15 : Int32) (p16 : Int32) (w7 : Value) (w8 : Value) (w9 : Value) (w10 : Value) (w11 : Value) (p17 : Int32) (w12 : Value) (w13 : Value) (w14 : Value) (f0 : Nat → Int32) (p18 : Int32) (f1 : Nat → Int32) (f2 : Nat → Int32) (f3 : Nat → Int32) (f4 : Nat → Int32) (hp0 : (-2147483648) ≤ (p0).toInt ∧ (p0).toInt ≤ 2147483647) (hp1 : (-2147483648) ≤ (p1).toInt ∧ (p1).toInt ≤ 2147483647) (hp2 : 0 ≤ (p2).toInt ∧ (p2).toInt ≤ 900) (hp3 : 0 ≤ (p3).toInt ∧ (p3).toInt ≤ 900) (hp4 : 0 ≤ (p4).toInt ∧ (p4).toInt ≤ 900) (hp5 : 0 ≤ (p5).toInt ∧ (p5).toInt ≤ 900) (hp6 : (-2147483648) ≤ (p6).toInt ∧ (p6).toInt ≤ 2147483647) (hp7 : 0 ≤ (p7).toInt ∧ (p7).toInt ≤ 999) (hp8 : (-2147483648) ≤ (p8).toInt ∧ (p8).toInt ≤ 2147483647) (hp9 : (-2147483648) ≤ (p9).toInt ∧ (p9).toInt ≤ 2147483647) (hp10 : (-2147483648) ≤ (p10).toInt ∧ (p10).toInt ≤ 2147483647) (hp11 : (-2147483648) ≤ (p11).toInt ∧ (p11).toInt ≤ 2147483647) (hp12 : (-2147483648) ≤ (p12).toInt ∧ (p12).toInt ≤ 2147483647) (hp13 : (-2147483648) ≤ (p13).toInt ∧ (p13).toInt ≤ 2147483647) (hp14 : (-2147483648) ≤ (p14).toInt ∧ (p14).toInt ≤ 2147483647) (hp15 : (-2147483648) ≤ (p15).toInt ∧ (p15).toInt ≤ 2147483647) (hp16 : (-2147483648) ≤ (p16).toInt ∧ (p16).toInt ≤ 2147483647) (hp17 : (-2147483648) ≤ (p17).toInt ∧ (p17).toInt ≤ 2147483647) (hp18 : 0 ≤ (p18).toInt ∧ (p18).toInt ≤ 10) (htf0_84 : f0 84 = p18) (rf0 : AL f0) (rf3 : RG f3 10 0 1023) (sz : Nat) : MI l yX12_passes cX12_passes 2 .int { frames := 5, cells := 0, slots := 0, locals := 120 } [.ref h0, .int p0] D cy (wk_eecab3214 cy h0 p1 h1 w0 w1 w2 p2 p3 p4 p5 p6 p7 p8 p9 p10 p11 p12 h2 h3 w3 h4 w4 p13 p14 h5 w5 w6 p15 p16 w7 w8 w9 w10 w11 p17 w12 w13 w14 h1 f0 h2 f1 h3 f2 h4 f3 h5 f4) sz (fun r u => ((-3) ≤ r.toInt ∧ r.toInt ≤ 1) ∧ RG (u.2.1 0) 10 0 1023 ∧ (0 ≤ (u.2.1 1 0).toInt ∧ (u.2.1 1 0).toInt ≤ 0) ∧ True) (fun u => (wk_eecab3214 cy h0 (u.2.1 1 0) h1 w0 w1 w2 p2 p3 p4 p5 p6 p7 p8 p9 p10 p11 p12 h2 h3 w3 h4 w4 p13 p14 h5 w5 w6 p15 p16 w7 w8 w9 w10 w11 p17 w12 w13 w14 h1 f0 h2 (u.2.1 2) h3 (u.2.1 3) h4 (u.2.1 0) h5 (u.2.1 4))) 0 0 := by
  refine q_ent (own := RX12) (by decide) rfl (Nat.le_of_ble_eq_true rfl) (fun p e s m below meth c ls X hr hlk hnm hK hT h hA hl => ?_)
  obtain ⟨hx, hb, hml, hown, ht⟩ := id X
  replace hl : lv_has ls 2 [(0, .ref h0), (1, .int p0)] := hl
  refine lv_aload_n hx hb dX12_passes_0 rfl (lv_at hl 0 rfl) ?_
  refine lv_iconst (v := 0) hx hb dX12_passes_1 (by decide) ?_
  refine q_put (v := .int 0) X hK h 0 rfl rfl wf_12 tyX12 tyX12_ok nmX12 0 (by decide) wm_5_170 rfl rfl rfl (Nat.le_of_ble_eq_true rfl) dX12_passes_2 (fun H locs h_1 => ?_)
  clear h
  replace h_1 : qW D _ _ (wk_eecab3214 cy h0 0 h1 w0 w1 w2 p2 p3 p4 p5 p6 p7 p8 p9 p10 p11 p12 h2 h3 w3 h4 w4 p13 p14 h5 w5 w6 p15 p16 w7 w8 w9 w10 w11 p17 w12 w13 w14 h1 f0 h2 f1 h3 f2 h4 f3 h5 f4) _ _ := h_1
  refine lv_iload_n hx hb dX12_passes_5 rfl (lv_at hl 1 rfl) ?_
  refine q_callSi (rest := []) (wr := (wk_eecab3214 cy h0 0 h1 w0 w1 w2 p2 p3 p4 p5 p6 p7 p8 p9 p10 p11 p12 h2 h3 w3 h4 w4 p13 p14 h5 w5 w6 p15 p16 w7 w8 w9 w10 w11 p17 w12 w13 w14 h1 f0 h2 f1 h3 f2 h4 f3 h5 f4)) X hK hT hA h_1 (fun sz => gX12_isBill_0f4990c l D cy p0 (i_rng _) sz) wm_7_192 wm_7_194 wm_1_12 hd_X12_isBill wm_7_193 ⟨Nat.le_of_ble_eq_true rfl, Nat.le_of_ble_eq_true rfl⟩ hl.1 rfl (Nat.le_of_ble_eq_true rfl) dX12_passes_6 ⟨Nat.le_of_ble_eq_true rfl, Nat.le_of_ble_eq_true rfl⟩ [] [0, 1, 2, 3, 4, 5] rfl rfl (by decide) rfl rfl (fun r_2 u_2 H locs w_2 h_2 => ?_)
  clear h_1
  obtain ⟨wr_2, _⟩ := w_2
  replace h_2 : qW D _ _ (wk_eecab3214 cy h0 0 h1 w0 w1 w2 p2 p3 p4 p5 p6 p7 p8 p9 p10 p11 p12 h2 h3 w3 h4 w4 p13 p14 h5 w5 w6 p15 p16 w7 w8 w9 w10 w11 p17 w12 w13 w14 h1 f0 h2 f1 h3 f2 h4 f3 h5 f4) _ _ := h_2
  refine lv_if_ne (tgt := 15) hx hb dX12_passes_9 (by decide) (fun c_3 => ?_) (fun c_3 => ?_)
  · replace c_3 := i_ne (x := r_2) (y := 0) rfl (show (0 : Int32).toInt = 0 by decide) c_3
    refine lv_aload_n hx hb dX12_passes_15 rfl (lv_at hl 0 rfl) ?_
    refine q_callVv (rest := []) (wr := []) X hK hT hA h_2 (fun sz => gX12_laysNow_7e7bd2c l D cy h0 h1 h2 h3 h4 h5 (0 : Int32) w0 w1 w2 p2 p3 p4 p5 p6 p7 p8 p9 p10 p11 p12 w3 w4 p13 p14 w5 w6 p15 p16 w7 w8 w9 w10 w11 p17 w12 w13 w14 f0 p18 f1 f2 f3 f4 ⟨by decide +kernel, by decide +kernel⟩ hp2 hp3 hp4 hp5 (i_rng _) hp7 (i_rng _) (i_rng _) (i_rng _) (i_rng _) (i_rng _) (i_rng _) (i_rng _) (i_rng _) (i_rng _) (i_rng _) hp18 htf0_84 rf0 (rg_wide rf3 (by decide) (by decide)) sz) wm_7_55 wm_7_58 wm_1_12 hd_X12_laysNow wm_7_57 wp_6_11 (ci := 12) (q0 := 0) rfl rfl ⟨Nat.le_of_ble_eq_true rfl, Nat.le_of_ble_eq_true rfl⟩ hl.1 rfl (Nat.le_of_ble_eq_true rfl) dX12_passes_16 ⟨Nat.le_of_ble_eq_true rfl, Nat.le_of_ble_eq_true rfl⟩ [0, 1, 2, 3, 4, 5] [] rfl rfl (by decide) rfl rfl (fun u_4 H locs w_4 h_4 => ?_)
    clear h_2
    obtain ⟨w4_0, _⟩ := w_4
    replace h_4 : qW D _ _ (wk_eecab3214 cy h0 0 h1 w0 w1 w2 p2 p3 p4 p5 p6 p7 p8 p9 p10 p11 p12 h2 h3 w3 h4 w4 p13 p14 h5 w5 w6 p15 p16 w7 w8 w9 w10 w11 p17 w12 w13 w14 h1 f0 h2 (u_4.2.1 0) h3 (u_4.2.1 1) h4 (u_4.2.1 2) h5 (u_4.2.1 3)) _ _ := h_4
    refine lv_aload_n hx hb dX12_passes_19 rfl (lv_at hl 0 rfl) ?_
    refine lv_iload_n hx hb dX12_passes_20 rfl (lv_at hl 1 rfl) ?_
    refine q_callVi (rest := []) (wr := [(h4, .inl (cy 1, 10, .inl (u_4.2.1 2)))]) X hK hT hA h_4 (fun sz => gX12_passedBy_5e223a1 l D cy h0 h1 h2 h3 h5 p0 (0 : Int32) w0 w1 w2 p2 p3 p4 p5 p6 p7 p8 p9 p10 p11 p12 w3 (.ref h4) w4 p13 p14 w5 w6 p15 p16 w7 w8 w9 w10 w11 p17 w12 w13 w14 f0 p18 (u_4.2.1 0) (u_4.2.1 1) (u_4.2.1 3) (i_rng _) ⟨by decide +kernel, by decide +kernel⟩ hp2 hp3 hp4 hp5 (i_rng _) hp7 (i_rng _) (i_rng _) (i_rng _) (i_rng _) (i_rng _) (i_rng _) (i_rng _) (i_rng _) (i_rng _) (i_rng _) hp18 htf0_84 rf0 sz) wm_7_207 wm_7_210 wm_1_12 hd_X12_passedBy wm_7_209 wp_7_14 (ci := 12) (q0 := 0) rfl rfl ⟨Nat.le_of_ble_eq_true rfl, Nat.le_of_ble_eq_true rfl⟩ hl.1 rfl (Nat.le_of_ble_eq_true rfl) dX12_passes_21 ⟨Nat.le_of_ble_eq_true rfl, Nat.le_of_ble_eq_true rfl⟩ [0, 1, 2, 3, 5] [4] rfl rfl (by decide) rfl rfl (fun r_5 u_5 H locs w_5 h_5 => ?_)
    clear h_4
    obtain ⟨wr_5, _⟩ := w_5
    replace h_5 : qW D _ _ (wk_41836cb4f cy h4 (u_4.2.1 2) h0 0 h1 w0 w1 w2 p2 p3 p4 p5 p6 p7 p8 p9 p10 p11 p12 h2 h3 w3 h4 w4 p13 p14 h5 w5 w6 p15 p16 w7 w8 w9 w10 w11 p17 w12 w13 w14 h1 f0 h2 (u_5.2.1 0) h3 (u_5.2.1 1) h5 (u_4.2.1 3)) _ _ := h_5
    refine q_jn (pc2 := 32) (fun H locs ls st => ∃ v32_6_0 : Int32, (0 ≤ (v32_6_0).toInt ∧ (v32_6_0).toInt ≤ 1) ∧ st = [.int v32_6_0] ∧ qW D (va_A (wk_eecab3214 cy h0 p1 h1 w0 w1 w2 p2 p3 p4 p5 p6 p7 p8 p9 p10 p11 p12 h2 h3 w3 h4 w4 p13 p14 h5 w5 w6 p15 p16 w7 w8 w9 w10 w11 p17 w12 w13 w14 h1 f0 h2 f1 h3 f2 h4 f3 h5 f4) sz) s.heap (wk_41836cb4f cy h4 (u_4.2.1 2) h0 0 h1 w0 w1 w2 p2 p3 p4 p5 p6 p7 p8 p9 p10 p11 p12 h2 h3 w3 h4 w4 p13 p14 h5 w5 w6 p15 p16 w7 w8 w9 w10 w11 p17 w12 w13 w14 h1 f0 h2 (u_5.2.1 0) h3 (u_5.2.1 1) h5 (u_4.2.1 3)) H locs ∧ lv_has ls 2 [(0, .ref h0), (1, .int p0)]) (fun H locs ls st hP => ?_) (fun J_32 => ?_)
    · obtain ⟨v32_6_0, hv32_6_0, rfl, h, hl⟩ := hP
      exact q_iret X hr hlk hK h rfl (fun _ => 0, (vcons (u_4.2.1 2) (vcons (fun _ => 0) (vcons (u_5.2.1 0) (vcons (u_5.2.1 1) (vcons (u_4.2.1 3) (fun _ => (fun _ => 0))))))), fun _ _ => 0) ⟨(bw hv32_6_0 (by decide) (by decide)), (rg_wide w4_0 (by decide) (by decide)), (⟨by decide +kernel, by decide +kernel⟩ : 0 ≤ (0 : Int32).toInt ∧ (0 : Int32).toInt ≤ 0), trivial⟩ [1, 2, 3, 4, 0, 5] rfl rfl dX12_passes_32 (Nat.le_of_ble_eq_true rfl) (Nat.le_of_ble_eq_true rfl)
    · skip
      refine lv_if_ne (tgt := 31) hx hb dX12_passes_24 (by decide) (fun c_7 => ?_) (fun c_7 => ?_)
      · replace c_7 := i_ne (x := r_5) (y := 0) rfl (show (0 : Int32).toInt = 0 by decide) c_7
        refine lv_iconst (v := 0) hx hb dX12_passes_31 (by decide) ?_
        exact J_32 _ _ _ _ ⟨0, ⟨by decide +kernel, by decide +kernel⟩, rfl, h_5, (lv_sub hl [0, 1] rfl)⟩
      · replace c_7 := i_eq (x := r_5) (y := 0) rfl (show (0 : Int32).toInt = 0 by decide) c_7
        refine lv_iconst (v := 1) hx hb dX12_passes_27 (by decide) ?_
        refine lv_goto (tgt := 32) hx hb dX12_passes_28 (by decide) ?_
        exact J_32 _ _ _ _ ⟨1, ⟨by decide +kernel, by decide +kernel⟩, rfl, h_5, (lv_sub hl [0, 1] rfl)⟩
  · replace c_3 := i_eq (x := r_2) (y := 0) rfl (show (0 : Int32).toInt = 0 by decide) c_3
    refine lv_bipush (v := (-3)) hx hb dX12_passes_12 (by decide) ?_
    exact q_iret X hr hlk hK h_2 rfl (fun _ => 0, (vcons f3 (vcons (fun _ => 0) (vcons f1 (vcons f2 (vcons f4 (fun _ => (fun _ => 0))))))), fun _ _ => 0) ⟨⟨by decide +kernel, by decide +kernel⟩, (rg_wide rf3 (by decide) (by decide)), (⟨by decide +kernel, by decide +kernel⟩ : 0 ≤ (0 : Int32).toInt ∧ (0 : Int32).toInt ≤ 0), trivial⟩ [0, 1, 2, 3, 4, 5] rfl rfl dX12_passes_14 (Nat.le_of_ble_eq_true rfl) (Nat.le_of_ble_eq_true rfl)
set_option maxHeartbeats 4000000 in
set_option maxRecDepth 100000 in
theorem gX12_passed_4915792 (l : Launch) (D : va_G) (cy : Nat → ClassId) (h0 : Nat) (h1 : Nat) (h2 : Nat) (h3 : Nat) (h4 : Nat) (h5 : Nat) (p0 : Int32) (p1 : Int32) (p2 : Int32) (w0 : Value) (w1 : Value) (w2 : Value) (p3 : Int32) (p4 : Int32) (p5 : Int32) (p6 : Int32) (p7 : Int32) (p8 : Int32) (p9 : Int32) (p10 : Int32) (p11 : Int32) (p12 : Int32) (p13 : Int32) (w3 : Value) (w4 : Value) (p14 : Int32) (p15 : Int32) (w5 : Value) (w6 : Value) (p16 : Int32) (p17 : Int32) (w7 : Value) (w8 : Value) (w9 : Value) (w10 : Value) (w11 : Value) (p18 : Int32) (w12 : Value) (w13 : Value) (w14 : Value) (f0 : Nat → Int32) (p19 : Int32) (f1 : Nat → Int32) (f2 : Nat → Int32) (f3 : Nat → Int32) (f4 : Nat → Int32) (hp0 : (-2147483648) ≤ (p0).toInt ∧ (p0).toInt ≤ 2147483647) (hp1 : (-2147483648) ≤ (p1).toInt ∧ (p1).toInt ≤ 2147483647) (hp2 : (-2147483648) ≤ (p2).toInt ∧ (p2).toInt ≤ 2147483647) (hp3 : 0 ≤ (p3).toInt ∧ (p3).toInt ≤ 900) (hp4 : 0 ≤ (p4).toInt ∧ (p4).toInt ≤ 900) (hp5 : 0 ≤ (p5).toInt ∧ (p5).toInt ≤ 900) (hp6 : 0 ≤ (p6).toInt ∧ (p6).toInt ≤ 900) (hp7 : (-2147483648) ≤ (p7).toInt ∧ (p7).toInt ≤ 2147483647) (hp8 : 0 ≤ (p8).toInt ∧ (p8).toInt ≤ 999) (hp9 : (-2147483648) ≤ (p9).toInt ∧ (p9).toInt ≤ 2147483647) (hp10 : (-2147483648) ≤ (p10).toInt ∧ (p10).toInt ≤ 2147483647) (hp11 : (-2147483648) ≤ (p11).toInt ∧ (p11).toInt ≤ 2147483647) (hp12 : (-2147483648) ≤ (p12).toInt ∧ (p12).toInt ≤ 2147483647) (hp13 : (-2147483648) ≤ (p13).toInt ∧ (p13).toInt ≤ 2147483647) (hp14 : (-2147483648) ≤ (p14).toInt ∧ (p14).toInt ≤ 2147483647) (hp15 : (-2147483648) ≤ (p15).toInt ∧ (p15).toInt ≤ 2147483647) (hp16 : (-2147483648) ≤ (p16).toInt ∧ (p16).toInt ≤ 2147483647) (hp17 : (-2147483648) ≤ (p17).toInt ∧ (p17).toInt ≤ 2147483647) (hp18 : (-2147483648) ≤ (p18).toInt ∧ (p18).toInt ≤ 2147483647) (hp19 : 0 ≤ (p19).toInt ∧ (p19).toInt ≤ 10) (htf0_84 : f0 84 = p19) (rf0 : AL f0) (rf3 : RG f3 10 0 1023) (sz : Nat) : MI l yX12_passed cX12_passed 4 .int { frames := 5, cells := 0, slots := 0, locals := 120 } [.ref h0, .int p0, .int p1] D cy (wk_eecab3214 cy h0 p2 h1 w0 w1 w2 p3 p4 p5 p6 p7 p8 p9 p10 p11 p12 p13 h2 h3 w3 h4 w4 p14 p15 h5 w5 w6 p16 p17 w7 w8 w9 w10 w11 p18 w12 w13 w14 h1 f0 h2 f1 h3 f2 h4 f3 h5 f4) sz (fun r u => ((-3) ≤ r.toInt ∧ r.toInt ≤ 1023) ∧ RG (u.2.1 0) 10 0 1023 ∧ (0 ≤ (u.2.1 1 0).toInt ∧ (u.2.1 1 0).toInt ≤ 0) ∧ True) (fun u => (wk_eecab3214 cy h0 (u.2.1 1 0) h1 w0 w1 w2 p3 p4 p5 p6 p7 p8 p9 p10 p11 p12 p13 h2 h3 w3 h4 w4 p14 p15 h5 w5 w6 p16 p17 w7 w8 w9 w10 w11 p18 w12 w13 w14 h1 f0 h2 (u.2.1 2) h3 (u.2.1 3) h4 (u.2.1 0) h5 (u.2.1 4))) 0 0 := by
  refine q_ent (own := RX12) (by decide) rfl (Nat.le_of_ble_eq_true rfl) (fun p e s m below meth c ls X hr hlk hnm hK hT h hA hl => ?_)
  obtain ⟨hx, hb, hml, hown, ht⟩ := id X
  replace hl : lv_has ls 4 [(0, .ref h0), (1, .int p0), (2, .int p1)] := hl
  refine lv_aload_n hx hb dX12_passed_0 rfl (lv_at hl 0 rfl) ?_
  refine lv_iconst (v := 0) hx hb dX12_passed_1 (by decide) ?_
  refine q_put (v := .int 0) X hK h 0 rfl rfl wf_12 tyX12 tyX12_ok nmX12 0 (by decide) wm_5_170 rfl rfl rfl (Nat.le_of_ble_eq_true rfl) dX12_passed_2 (fun H locs h_1 => ?_)
  clear h
  replace h_1 : qW D _ _ (wk_eecab3214 cy h0 0 h1 w0 w1 w2 p3 p4 p5 p6 p7 p8 p9 p10 p11 p12 p13 h2 h3 w3 h4 w4 p14 p15 h5 w5 w6 p16 p17 w7 w8 w9 w10 w11 p18 w12 w13 w14 h1 f0 h2 f1 h3 f2 h4 f3 h5 f4) _ _ := h_1
  refine lv_iload_n hx hb dX12_passed_5 rfl (lv_at hl 2 rfl) ?_
  refine lv_i2l hx hb dX12_passed_6 rfl ?_
  obtain ⟨z_2, ez_2, hz_2⟩ := e_i2l (x := p1) rfl
  refine q_cl z_2 ez_2 ?_
  clear ez_2
  refine lv_lconst (v := 0) hx hb dX12_passed_7 (by decide) ?_
  refine lv_lconst (v := 1) hx hb dX12_passed_8 (by decide) ?_
  refine q_callSi (rest := []) (wr := (wk_eecab3214 cy h0 0 h1 w0 w1 w2 p3 p4 p5 p6 p7 p8 p9 p10 p11 p12 p13 h2 h3 w3 h4 w4 p14 p15 h5 w5 w6 p16 p17 w7 w8 w9 w10 w11 p18 w12 w13 w14 h1 f0 h2 f1 h3 f2 h4 f3 h5 f4)) X hK hT hA h_1 (fun sz => gX12_within_00c7897 l D cy z_2 (0 : Int64) (1 : Int64) (j_rng _) ⟨by decide +kernel, by decide +kernel⟩ ⟨by decide +kernel, by decide +kernel⟩ sz) wm_6_50 wm_6_52 wm_1_12 hd_X12_within wm_6_51 ⟨Nat.le_of_ble_eq_true rfl, Nat.le_of_ble_eq_true rfl⟩ hl.1 rfl (Nat.le_of_ble_eq_true rfl) dX12_passed_9 ⟨Nat.le_of_ble_eq_true rfl, Nat.le_of_ble_eq_true rfl⟩ [] [0, 1, 2, 3, 4, 5] rfl rfl (by decide) rfl rfl (fun r_3 u_3 H locs w_3 h_3 => ?_)
  clear h_1
  obtain ⟨wr_3, y3_0, _⟩ := w_3
  have lq_3_1 : (0 : Int64).toInt = 0 := (by decide)
  have lq_3_2 : (1 : Int64).toInt = 1 := (by decide)
  replace h_3 : qW D _ _ (wk_eecab3214 cy h0 0 h1 w0 w1 w2 p3 p4 p5 p6 p7 p8 p9 p10 p11 p12 p13 h2 h3 w3 h4 w4 p14 p15 h5 w5 w6 p16 p17 w7 w8 w9 w10 w11 p18 w12 w13 w14 h1 f0 h2 f1 h3 f2 h4 f3 h5 f4) _ _ := h_3
  refine lv_if_ne (tgt := 18) hx hb dX12_passed_12 (by decide) (fun c_4 => ?_) (fun c_4 => ?_)
  · replace c_4 := i_ne (x := r_3) (y := 0) rfl (show (0 : Int32).toInt = 0 by decide) c_4
    replace y3_0 := a10_1 y3_0 c_4
    refine lv_iload_n hx hb dX12_passed_18 rfl (lv_at hl 1 rfl) ?_
    refine q_callSi (rest := []) (wr := (wk_eecab3214 cy h0 0 h1 w0 w1 w2 p3 p4 p5 p6 p7 p8 p9 p10 p11 p12 p13 h2 h3 w3 h4 w4 p14 p15 h5 w5 w6 p16 p17 w7 w8 w9 w10 w11 p18 w12 w13 w14 h1 f0 h2 f1 h3 f2 h4 f3 h5 f4)) X hK hT hA h_3 (fun sz => gX12_isBill_0f4990c l D cy p0 (i_rng _) sz) wm_7_192 wm_7_194 wm_1_12 hd_X12_isBill wm_7_193 ⟨Nat.le_of_ble_eq_true rfl, Nat.le_of_ble_eq_true rfl⟩ hl.1 rfl (Nat.le_of_ble_eq_true rfl) dX12_passed_19 ⟨Nat.le_of_ble_eq_true rfl, Nat.le_of_ble_eq_true rfl⟩ [] [0, 1, 2, 3, 4, 5] rfl rfl (by decide) rfl rfl (fun r_5 u_5 H locs w_5 h_5 => ?_)
    clear h_3
    obtain ⟨wr_5, _⟩ := w_5
    replace h_5 : qW D _ _ (wk_eecab3214 cy h0 0 h1 w0 w1 w2 p3 p4 p5 p6 p7 p8 p9 p10 p11 p12 p13 h2 h3 w3 h4 w4 p14 p15 h5 w5 w6 p16 p17 w7 w8 w9 w10 w11 p18 w12 w13 w14 h1 f0 h2 f1 h3 f2 h4 f3 h5 f4) _ _ := h_5
    refine lv_if_ne (tgt := 28) hx hb dX12_passed_22 (by decide) (fun c_6 => ?_) (fun c_6 => ?_)
    · replace c_6 := i_ne (x := r_5) (y := 0) rfl (show (0 : Int32).toInt = 0 by decide) c_6
      refine lv_aload_n hx hb dX12_passed_28 rfl (lv_at hl 0 rfl) ?_
      refine q_callVv (rest := []) (wr := []) X hK hT hA h_5 (fun sz => gX12_laysNow_7e7bd2c l D cy h0 h1 h2 h3 h4 h5 (0 : Int32) w0 w1 w2 p3 p4 p5 p6 p7 p8 p9 p10 p11 p12 p13 w3 w4 p14 p15 w5 w6 p16 p17 w7 w8 w9 w10 w11 p18 w12 w13 w14 f0 p19 f1 f2 f3 f4 ⟨by decide +kernel, by decide +kernel⟩ hp3 hp4 hp5 hp6 (i_rng _) hp8 (i_rng _) (i_rng _) (i_rng _) (i_rng _) (i_rng _) (i_rng _) (i_rng _) (i_rng _) (i_rng _) (i_rng _) hp19 htf0_84 rf0 (rg_wide rf3 (by decide) (by decide)) sz) wm_7_55 wm_7_58 wm_1_12 hd_X12_laysNow wm_7_57 wp_6_11 (ci := 12) (q0 := 0) rfl rfl ⟨Nat.le_of_ble_eq_true rfl, Nat.le_of_ble_eq_true rfl⟩ hl.1 rfl (Nat.le_of_ble_eq_true rfl) dX12_passed_29 ⟨Nat.le_of_ble_eq_true rfl, Nat.le_of_ble_eq_true rfl⟩ [0, 1, 2, 3, 4, 5] [] rfl rfl (by decide) rfl rfl (fun u_7 H locs w_7 h_7 => ?_)
      clear h_5
      obtain ⟨w7_0, _⟩ := w_7
      replace h_7 : qW D _ _ (wk_eecab3214 cy h0 0 h1 w0 w1 w2 p3 p4 p5 p6 p7 p8 p9 p10 p11 p12 p13 h2 h3 w3 h4 w4 p14 p15 h5 w5 w6 p16 p17 w7 w8 w9 w10 w11 p18 w12 w13 w14 h1 f0 h2 (u_7.2.1 0) h3 (u_7.2.1 1) h4 (u_7.2.1 2) h5 (u_7.2.1 3)) _ _ := h_7
      refine lv_aload_n hx hb dX12_passed_32 rfl (lv_at hl 0 rfl) ?_
      refine lv_iload_n hx hb dX12_passed_33 rfl (lv_at hl 1 rfl) ?_
      refine q_callVi (rest := []) (wr := [(h4, .inl (cy 1, 10, .inl (u_7.2.1 2)))]) X hK hT hA h_7 (fun sz => gX12_passedBy_5e223a1 l D cy h0 h1 h2 h3 h5 p0 (0 : Int32) w0 w1 w2 p3 p4 p5 p6 p7 p8 p9 p10 p11 p12 p13 w3 (.ref h4) w4 p14 p15 w5 w6 p16 p17 w7 w8 w9 w10 w11 p18 w12 w13 w14 f0 p19 (u_7.2.1 0) (u_7.2.1 1) (u_7.2.1 3) (i_rng _) ⟨by decide +kernel, by decide +kernel⟩ hp3 hp4 hp5 hp6 (i_rng _) hp8 (i_rng _) (i_rng _) (i_rng _) (i_rng _) (i_rng _) (i_rng _) (i_rng _) (i_rng _) (i_rng _) (i_rng _) hp19 htf0_84 rf0 sz) wm_7_207 wm_7_210 wm_1_12 hd_X12_passedBy wm_7_209 wp_7_14 (ci := 12) (q0 := 0) rfl rfl ⟨Nat.le_of_ble_eq_true rfl, Nat.le_of_ble_eq_true rfl⟩ hl.1 rfl (Nat.le_of_ble_eq_true rfl) dX12_passed_34 ⟨Nat.le_of_ble_eq_true rfl, Nat.le_of_ble_eq_true rfl⟩ [0, 1, 2, 3, 5] [4] rfl rfl (by decide) rfl rfl (fun r_8 u_8 H locs w_8 h_8 => ?_)
      clear h_7
      obtain ⟨wr_8, _⟩ := w_8
      replace h_8 : qW D _ _ (wk_41836cb4f cy h4 (u_7.2.1 2) h0 0 h1 w0 w1 w2 p3 p4 p5 p6 p7 p8 p9 p10 p11 p12 p13 h2 h3 w3 h4 w4 p14 p15 h5 w5 w6 p16 p17 w7 w8 w9 w10 w11 p18 w12 w13 w14 h1 f0 h2 (u_8.2.1 0) h3 (u_8.2.1 1) h5 (u_7.2.1 3)) _ _ := h_8
      refine lv_istore_n (lv' := [(3, .int r_8), (0, .ref h0), (1, .int p0), (2, .int p1)]) hx hb dX12_passed_37 rfl hl (by decide) rfl (fun ls_9 hl_9 => ?_)
      clear hl
      refine lv_iload_n hx hb dX12_passed_38 rfl (lv_at hl_9 0 rfl) ?_
      refine lv_iconst (v := (-1)) hx hb dX12_passed_39 (by decide) ?_
      refine q_jn (pc2 := 56) (fun H locs ls st => ∃ v56_10_0 : Int32, ((-1) ≤ (v56_10_0).toInt ∧ (v56_10_0).toInt ≤ 1023) ∧ st = [.int v56_10_0] ∧ qW D (va_A (wk_eecab3214 cy h0 p2 h1 w0 w1 w2 p3 p4 p5 p6 p7 p8 p9 p10 p11 p12 p13 h2 h3 w3 h4 w4 p14 p15 h5 w5 w6 p16 p17 w7 w8 w9 w10 w11 p18 w12 w13 w14 h1 f0 h2 f1 h3 f2 h4 f3 h5 f4) sz) s.heap (wk_41836cb4f cy h4 (u_7.2.1 2) h0 0 h1 w0 w1 w2 p3 p4 p5 p6 p7 p8 p9 p10 p11 p12 p13 h2 h3 w3 h4 w4 p14 p15 h5 w5 w6 p16 p17 w7 w8 w9 w10 w11 p18 w12 w13 w14 h1 f0 h2 (u_8.2.1 0) h3 (u_8.2.1 1) h5 (u_7.2.1 3)) H locs ∧ lv_has ls 4 [(0, .ref h0), (1, .int p0), (2, .int p1), (3, .int r_8)]) (fun H locs ls st hP => ?_) (fun J_56 => ?_)
      · obtain ⟨v56_10_0, hv56_10_0, rfl, h, hl⟩ := hP
        exact q_iret X hr hlk hK h rfl (fun _ => 0, (vcons (u_7.2.1 2) (vcons (fun _ => 0) (vcons (u_8.2.1 0) (vcons (u_8.2.1 1) (vcons (u_7.2.1 3) (fun _ => (fun _ => 0))))))), fun _ _ => 0) ⟨(bw hv56_10_0 (by decide) (by decide)), (rg_wide w7_0 (by decide) (by decide)), (⟨by decide +kernel, by decide +kernel⟩ : 0 ≤ (0 : Int32).toInt ∧ (0 : Int32).toInt ≤ 0), trivial⟩ [1, 2, 3, 4, 0, 5] rfl rfl dX12_passed_56 (Nat.le_of_ble_eq_true rfl) (Nat.le_of_ble_eq_true rfl)
      · skip
        refine q_jn (pc2 := 48) (fun H locs ls st => st = [] ∧ qW D (va_A (wk_eecab3214 cy h0 p2 h1 w0 w1 w2 p3 p4 p5 p6 p7 p8 p9 p10 p11 p12 p13 h2 h3 w3 h4 w4 p14 p15 h5 w5 w6 p16 p17 w7 w8 w9 w10 w11 p18 w12 w13 w14 h1 f0 h2 f1 h3 f2 h4 f3 h5 f4) sz) s.heap (wk_41836cb4f cy h4 (u_7.2.1 2) h0 0 h1 w0 w1 w2 p3 p4 p5 p6 p7 p8 p9 p10 p11 p12 p13 h2 h3 w3 h4 w4 p14 p15 h5 w5 w6 p16 p17 w7 w8 w9 w10 w11 p18 w12 w13 w14 h1 f0 h2 (u_8.2.1 0) h3 (u_8.2.1 1) h5 (u_7.2.1 3)) H locs ∧ lv_has ls 4 [(0, .ref h0), (1, .int p0), (2, .int p1), (3, .int r_8)]) (fun H locs ls st hP => ?_) (fun J_48 => ?_)
        · obtain ⟨rfl, h, hl⟩ := hP
          refine lv_iload_n hx hb dX12_passed_48 rfl (lv_at hl 3 rfl) ?_
          refine lv_goto (tgt := 56) hx hb dX12_passed_49 (by decide) ?_
          exact J_56 _ _ _ _ ⟨r_8, wr_8, rfl, h, (lv_sub hl [0, 1, 2, 3] rfl)⟩
        · skip
          refine lv_icmp_eq (tgt := 48) hx hb dX12_passed_40 (by decide) (fun c_12 => ?_) (fun c_12 => ?_)
          · replace c_12 := i_eq (x := r_8) (y := (-1)) rfl (show ((-1) : Int32).toInt = -1 by decide) c_12
            exact J_48 _ _ _ _ ⟨rfl, h_8, (lv_sub hl_9 [1, 2, 3, 0] rfl)⟩
          · replace c_12 := i_ne (x := r_8) (y := (-1)) rfl (show ((-1) : Int32).toInt = -1 by decide) c_12
            refine lv_iload_n hx hb dX12_passed_43 rfl (lv_at hl_9 3 rfl) ?_
            refine lv_iconst (v := 1) hx hb dX12_passed_44 (by decide) ?_
            refine lv_icmp_ne (tgt := 52) hx hb dX12_passed_45 (by decide) (fun c_13 => ?_) (fun c_13 => ?_)
            · replace c_13 := i_ne (x := p1) (y := 1) rfl (show (1 : Int32).toInt = 1 by decide) c_13
              refine lv_iload_n hx hb dX12_passed_52 rfl (lv_at hl_9 0 rfl) ?_
              refine q_callSi (rest := []) (wr := (wk_41836cb4f cy h4 (u_7.2.1 2) h0 0 h1 w0 w1 w2 p3 p4 p5 p6 p7 p8 p9 p10 p11 p12 p13 h2 h3 w3 h4 w4 p14 p15 h5 w5 w6 p16 p17 w7 w8 w9 w10 w11 p18 w12 w13 w14 h1 f0 h2 (u_8.2.1 0) h3 (u_8.2.1 1) h5 (u_7.2.1 3))) X hK hT hA h_8 (fun sz => gX12_bitsOf_5a43b1c l D cy r_8 (i_rng _) sz) wm_7_8 wm_7_10 wm_1_12 hd_X12_bitsOf wm_7_9 ⟨Nat.le_of_ble_eq_true rfl, Nat.le_of_ble_eq_true rfl⟩ hl_9.1 rfl (Nat.le_of_ble_eq_true rfl) dX12_passed_53 ⟨Nat.le_of_ble_eq_true rfl, Nat.le_of_ble_eq_true rfl⟩ [] [0, 1, 2, 3, 4, 5] rfl rfl (by decide) rfl rfl (fun r_14 u_14 H locs w_14 h_14 => ?_)
              clear h_8
              obtain ⟨wr_14, _⟩ := w_14
              replace h_14 : qW D _ _ (wk_41836cb4f cy h4 (u_7.2.1 2) h0 0 h1 w0 w1 w2 p3 p4 p5 p6 p7 p8 p9 p10 p11 p12 p13 h2 h3 w3 h4 w4 p14 p15 h5 w5 w6 p16 p17 w7 w8 w9 w10 w11 p18 w12 w13 w14 h1 f0 h2 (u_8.2.1 0) h3 (u_8.2.1 1) h5 (u_7.2.1 3)) _ _ := h_14
              exact J_56 _ _ _ _ ⟨r_14, (bw wr_14 (by decide) (by decide)), rfl, h_14, (lv_sub hl_9 [1, 2, 3, 0] rfl)⟩
            · replace c_13 := i_eq (x := p1) (y := 1) rfl (show (1 : Int32).toInt = 1 by decide) c_13
              exact J_48 _ _ _ _ ⟨rfl, h_8, (lv_sub hl_9 [1, 2, 3, 0] rfl)⟩
    · replace c_6 := i_eq (x := r_5) (y := 0) rfl (show (0 : Int32).toInt = 0 by decide) c_6
      refine lv_bipush (v := (-3)) hx hb dX12_passed_25 (by decide) ?_
      exact q_iret X hr hlk hK h_5 rfl (fun _ => 0, (vcons f3 (vcons (fun _ => 0) (vcons f1 (vcons f2 (vcons f4 (fun _ => (fun _ => 0))))))), fun _ _ => 0) ⟨⟨by decide +kernel, by decide +kernel⟩, (rg_wide rf3 (by decide) (by decide)), (⟨by decide +kernel, by decide +kernel⟩ : 0 ≤ (0 : Int32).toInt ∧ (0 : Int32).toInt ≤ 0), trivial⟩ [0, 1, 2, 3, 4, 5] rfl rfl dX12_passed_27 (Nat.le_of_ble_eq_true rfl) (Nat.le_of_ble_eq_true rfl)
  · replace c_4 := i_eq (x := r_3) (y := 0) rfl (show (0 : Int32).toInt = 0 by decide) c_4
    replace y3_0 := a10_0 y3_0 c_4
    refine lv_bipush (v := (-2)) hx hb dX12_passed_15 (by decide) ?_
    exact q_iret X hr hlk hK h_3 rfl (fun _ => 0, (vcons f3 (vcons (fun _ => 0) (vcons f1 (vcons f2 (vcons f4 (fun _ => (fun _ => 0))))))), fun _ _ => 0) ⟨⟨by decide +kernel, by decide +kernel⟩, (rg_wide rf3 (by decide) (by decide)), (⟨by decide +kernel, by decide +kernel⟩ : 0 ≤ (0 : Int32).toInt ∧ (0 : Int32).toInt ≤ 0), trivial⟩ [0, 1, 2, 3, 4, 5] rfl rfl dX12_passed_17 (Nat.le_of_ble_eq_true rfl) (Nat.le_of_ble_eq_true rfl)
set_option maxHeartbeats 4000000 in
set_option maxRecDepth 100000 in
theorem gX12_easiest_2bd016c (l : Launch) (D : va_G) (cy : Nat → ClassId) (h0 : Nat) (h1 : Nat) (h2 : Nat) (h3 : Nat) (h4 : Nat) (h5 : Nat) (p0 : Int32) (w0 : Value) (w1 : Value) (w2 : Value) (p1 : Int32) (p2 : Int32) (p3 : Int32) (p4 : Int32) (p5 : Int32) (p6 : Int32) (p7 : Int32) (p8 : Int32) (p9 : Int32) (p10 : Int32) (p11 : Int32) (w3 : Value) (w4 : Value) (p12 : Int32) (p13 : Int32) (w5 : Value) (w6 : Value) (p14 : Int32) (p15 : Int32) (w7 : Value) (w8 : Value) (w9 : Value) (w10 : Value) (w11 : Value) (p16 : Int32) (w12 : Value) (w13 : Value) (w14 : Value) (f0 : Nat → Int32) (p17 : Int32) (f1 : Nat → Int32) (f2 : Nat → Int32) (f3 : Nat → Int32) (f4 : Nat → Int32) (hp0 : (-2147483648) ≤ (p0).toInt ∧ (p0).toInt ≤ 2147483647) (hp1 : 0 ≤ (p1).toInt ∧ (p1).toInt ≤ 900) (hp2 : 0 ≤ (p2).toInt ∧ (p2).toInt ≤ 900) (hp3 : 0 ≤ (p3).toInt ∧ (p3).toInt ≤ 900) (hp4 : 0 ≤ (p4).toInt ∧ (p4).toInt ≤ 900) (hp5 : (-2147483648) ≤ (p5).toInt ∧ (p5).toInt ≤ 2147483647) (hp6 : 0 ≤ (p6).toInt ∧ (p6).toInt ≤ 999) (hp7 : (-2147483648) ≤ (p7).toInt ∧ (p7).toInt ≤ 2147483647) (hp8 : (-2147483648) ≤ (p8).toInt ∧ (p8).toInt ≤ 2147483647) (hp9 : (-2147483648) ≤ (p9).toInt ∧ (p9).toInt ≤ 2147483647) (hp10 : (-2147483648) ≤ (p10).toInt ∧ (p10).toInt ≤ 2147483647) (hp11 : (-2147483648) ≤ (p11).toInt ∧ (p11).toInt ≤ 2147483647) (hp12 : (-2147483648) ≤ (p12).toInt ∧ (p12).toInt ≤ 2147483647) (hp13 : (-2147483648) ≤ (p13).toInt ∧ (p13).toInt ≤ 2147483647) (hp14 : (-2147483648) ≤ (p14).toInt ∧ (p14).toInt ≤ 2147483647) (hp15 : (-2147483648) ≤ (p15).toInt ∧ (p15).toInt ≤ 2147483647) (hp16 : (-2147483648) ≤ (p16).toInt ∧ (p16).toInt ≤ 2147483647) (hp17 : 0 ≤ (p17).toInt ∧ (p17).toInt ≤ 10) (htf0_84 : f0 84 = p17) (rf0 : AL f0) (rf3 : RG f3 10 0 1023) (sz : Nat) : MI l yX12_easiest cX12_easiest 5 .int { frames := 5, cells := 0, slots := 0, locals := 120 } [.ref h0] D cy (wk_eecab3214 cy h0 p0 h1 w0 w1 w2 p1 p2 p3 p4 p5 p6 p7 p8 p9 p10 p11 h2 h3 w3 h4 w4 p12 p13 h5 w5 w6 p14 p15 w7 w8 w9 w10 w11 p16 w12 w13 w14 h1 f0 h2 f1 h3 f2 h4 f3 h5 f4) sz (fun r u => ((-1) ≤ r.toInt ∧ r.toInt ≤ 9) ∧ (0 ≤ (u.2.1 0 0).toInt ∧ (u.2.1 0 0).toInt ≤ 0) ∧ RG (u.2.1 3) 10 0 1023 ∧ True) (fun u => (wk_eecab3214 cy h0 (u.2.1 0 0) h1 w0 w1 w2 p1 p2 p3 p4 p5 p6 p7 p8 p9 p10 p11 h2 h3 w3 h4 w4 p12 p13 h5 w5 w6 p14 p15 w7 w8 w9 w10 w11 p16 w12 w13 w14 h1 f0 h2 (u.2.1 1) h3 (u.2.1 2) h4 (u.2.1 3) h5 (u.2.1 4))) 0 0 := by
  refine q_ent (own := RX12) (by decide) rfl (Nat.le_of_ble_eq_true rfl) (fun p e s m below meth c ls X hr hlk hnm hK hT h hA hl => ?_)
  obtain ⟨hx, hb, hml, hown, ht⟩ := id X
  replace hl : lv_has ls 5 [(0, .ref h0)] := hl
  refine lv_aload_n hx hb dX12_easiest_0 rfl (lv_at hl 0 rfl) ?_
  refine lv_iconst (v := 0) hx hb dX12_easiest_1 (by decide) ?_
  refine q_put (v := .int 0) X hK h 0 rfl rfl wf_12 tyX12 tyX12_ok nmX12 0 (by decide) wm_5_170 rfl rfl rfl (Nat.le_of_ble_eq_true rfl) dX12_easiest_2 (fun H locs h_1 => ?_)
  clear h
  replace h_1 : qW D _ _ (wk_eecab3214 cy h0 0 h1 w0 w1 w2 p1 p2 p3 p4 p5 p6 p7 p8 p9 p10 p11 h2 h3 w3 h4 w4 p12 p13 h5 w5 w6 p14 p15 w7 w8 w9 w10 w11 p16 w12 w13 w14 h1 f0 h2 f1 h3 f2 h4 f3 h5 f4) _ _ := h_1
  refine lv_aload_n hx hb dX12_easiest_5 rfl (lv_at hl 0 rfl) ?_
  refine q_callVv (rest := []) (wr := []) X hK hT hA h_1 (fun sz => gX12_laysNow_7e7bd2c l D cy h0 h1 h2 h3 h4 h5 (0 : Int32) w0 w1 w2 p1 p2 p3 p4 p5 p6 p7 p8 p9 p10 p11 w3 w4 p12 p13 w5 w6 p14 p15 w7 w8 w9 w10 w11 p16 w12 w13 w14 f0 p17 f1 f2 f3 f4 ⟨by decide +kernel, by decide +kernel⟩ hp1 hp2 hp3 hp4 (i_rng _) hp6 (i_rng _) (i_rng _) (i_rng _) (i_rng _) (i_rng _) (i_rng _) (i_rng _) (i_rng _) (i_rng _) (i_rng _) hp17 htf0_84 rf0 (rg_wide rf3 (by decide) (by decide)) sz) wm_7_55 wm_7_58 wm_1_12 hd_X12_laysNow wm_7_57 wp_6_11 (ci := 12) (q0 := 0) rfl rfl ⟨Nat.le_of_ble_eq_true rfl, Nat.le_of_ble_eq_true rfl⟩ hl.1 rfl (Nat.le_of_ble_eq_true rfl) dX12_easiest_6 ⟨Nat.le_of_ble_eq_true rfl, Nat.le_of_ble_eq_true rfl⟩ [0, 1, 2, 3, 4, 5] [] rfl rfl (by decide) rfl rfl (fun u_2 H locs w_2 h_2 => ?_)
  clear h_1
  obtain ⟨w2_0, _⟩ := w_2
  replace h_2 : qW D _ _ (wk_eecab3214 cy h0 0 h1 w0 w1 w2 p1 p2 p3 p4 p5 p6 p7 p8 p9 p10 p11 h2 h3 w3 h4 w4 p12 p13 h5 w5 w6 p14 p15 w7 w8 w9 w10 w11 p16 w12 w13 w14 h1 f0 h2 (u_2.2.1 0) h3 (u_2.2.1 1) h4 (u_2.2.1 2) h5 (u_2.2.1 3)) _ _ := h_2
  refine lv_iconst (v := (-1)) hx hb dX12_easiest_9 (by decide) ?_
  refine lv_istore_n (lv' := [(1, .int (-1)), (0, .ref h0)]) hx hb dX12_easiest_10 rfl hl (by decide) rfl (fun ls_3 hl_3 => ?_)
  clear hl
  refine lv_bipush (v := 11) hx hb dX12_easiest_11 (by decide) ?_
  refine lv_istore_n (lv' := [(2, .int 11), (1, .int (-1)), (0, .ref h0)]) hx hb dX12_easiest_13 rfl hl_3 (by decide) rfl (fun ls_4 hl_4 => ?_)
  clear hl_3
  refine lv_iconst (v := 0) hx hb dX12_easiest_14 (by decide) ?_
  refine lv_istore_n (lv' := [(3, .int 0), (2, .int 11), (1, .int (-1)), (0, .ref h0)]) hx hb dX12_easiest_15 rfl hl_4 (by decide) rfl (fun ls_5 hl_5 => ?_)
  clear hl_4
  refine q_wl (fun (q : Int32 × Int32 × Int32) H locs ls => match q with | (v16_6_0, v16_6_1, v16_6_2) => ∃ v16_6_3 : Nat → Int32, ∃ v16_6_4 : Nat → Int32, (0 ≤ (v16_6_0).toInt ∧ (v16_6_0).toInt ≤ 10) ∧ ((-1) ≤ (v16_6_1).toInt ∧ (v16_6_1).toInt ≤ 9) ∧ (0 ≤ (v16_6_2).toInt ∧ (v16_6_2).toInt ≤ 11) ∧ qW D (va_A (wk_eecab3214 cy h0 p0 h1 w0 w1 w2 p1 p2 p3 p4 p5 p6 p7 p8 p9 p10 p11 h2 h3 w3 h4 w4 p12 p13 h5 w5 w6 p14 p15 w7 w8 w9 w10 w11 p16 w12 w13 w14 h1 f0 h2 f1 h3 f2 h4 f3 h5 f4) sz) s.heap (wk_eecab3214 cy h0 0 h1 w0 w1 w2 p1 p2 p3 p4 p5 p6 p7 p8 p9 p10 p11 h2 h3 w3 h4 w4 p12 p13 h5 w5 w6 p14 p15 w7 w8 w9 w10 w11 p16 w12 w13 w14 h1 f0 h2 v16_6_3 h3 v16_6_4 h4 (u_2.2.1 2) h5 (u_2.2.1 3)) H locs ∧ lv_has ls 5 [(0, .ref h0), (1, .int v16_6_1), (2, .int v16_6_2), (3, .int v16_6_0)]) (fun (q : Int32 × Int32 × Int32) => match q with | (v16_6_0, v16_6_1, v16_6_2) => (11 - (v16_6_0).toInt).toNat) (fun q_16 ih_16 H locs ls hP => ?_) (0, (-1), 11) ⟨(u_2.2.1 0), (u_2.2.1 1), ⟨by decide +kernel, by decide +kernel⟩, ⟨by decide +kernel, by decide +kernel⟩, ⟨by decide +kernel, by decide +kernel⟩, h_2, (lv_sub hl_5 [3, 2, 1, 0] rfl)⟩
  obtain ⟨v16_6_0, v16_6_1, v16_6_2⟩ := q_16
  obtain ⟨v16_6_3, v16_6_4, hv16_6_0, hv16_6_1, hv16_6_2, h, hl⟩ := hP
  refine lv_iload_n hx hb dX12_easiest_16 rfl (lv_at hl 3 rfl) ?_
  refine lv_bipush (v := 10) hx hb dX12_easiest_17 (by decide) ?_
  refine lv_icmp_ge (tgt := 61) hx hb dX12_easiest_19 (by decide) (fun c_7 => ?_) (fun c_7 => ?_)
  · replace c_7 := i_le (x := 10) (y := v16_6_0) (show (10 : Int32).toInt = 10 by decide) rfl c_7
    refine lv_iload_n hx hb dX12_easiest_61 rfl (lv_at hl 1 rfl) ?_
    exact q_iret X hr hlk hK h rfl (fun _ => 0, (vcons (fun _ => 0) (vcons v16_6_3 (vcons v16_6_4 (vcons (u_2.2.1 2) (vcons (u_2.2.1 3) (fun _ => (fun _ => 0))))))), fun _ _ => 0) ⟨hv16_6_1, (⟨by decide +kernel, by decide +kernel⟩ : 0 ≤ (0 : Int32).toInt ∧ (0 : Int32).toInt ≤ 0), (rg_wide w2_0 (by decide) (by decide)), trivial⟩ [0, 1, 2, 3, 4, 5] rfl rfl dX12_easiest_62 (Nat.le_of_ble_eq_true rfl) (Nat.le_of_ble_eq_true rfl)
  · replace c_7 := i_nle (x := 10) (y := v16_6_0) (show (10 : Int32).toInt = 10 by decide) rfl c_7
    refine lv_aload_n hx hb dX12_easiest_22 rfl (lv_at hl 0 rfl) ?_
    refine lv_iload_n hx hb dX12_easiest_23 rfl (lv_at hl 3 rfl) ?_
    refine q_callVi (rest := []) (wr := [(h4, .inl (cy 1, 10, .inl (u_2.2.1 2)))]) X hK hT hA h (fun sz => gX12_passedBy_5e223a1 l D cy h0 h1 h2 h3 h5 v16_6_0 (0 : Int32) w0 w1 w2 p1 p2 p3 p4 p5 p6 p7 p8 p9 p10 p11 w3 (.ref h4) w4 p12 p13 w5 w6 p14 p15 w7 w8 w9 w10 w11 p16 w12 w13 w14 f0 p17 v16_6_3 v16_6_4 (u_2.2.1 3) (i_rng _) ⟨by decide +kernel, by decide +kernel⟩ hp1 hp2 hp3 hp4 (i_rng _) hp6 (i_rng _) (i_rng _) (i_rng _) (i_rng _) (i_rng _) (i_rng _) (i_rng _) (i_rng _) (i_rng _) (i_rng _) hp17 htf0_84 rf0 sz) wm_7_207 wm_7_210 wm_1_12 hd_X12_passedBy wm_7_209 wp_7_14 (ci := 12) (q0 := 0) rfl rfl ⟨Nat.le_of_ble_eq_true rfl, Nat.le_of_ble_eq_true rfl⟩ hl.1 rfl (Nat.le_of_ble_eq_true rfl) dX12_easiest_24 ⟨Nat.le_of_ble_eq_true rfl, Nat.le_of_ble_eq_true rfl⟩ [0, 1, 2, 3, 5] [4] rfl rfl (by decide) rfl rfl (fun r_8 u_8 H locs w_8 h_8 => ?_)
    clear h
    obtain ⟨wr_8, _⟩ := w_8
    replace h_8 : qW D _ _ (wk_41836cb4f cy h4 (u_2.2.1 2) h0 0 h1 w0 w1 w2 p1 p2 p3 p4 p5 p6 p7 p8 p9 p10 p11 h2 h3 w3 h4 w4 p12 p13 h5 w5 w6 p14 p15 w7 w8 w9 w10 w11 p16 w12 w13 w14 h1 f0 h2 (u_8.2.1 0) h3 (u_8.2.1 1) h5 (u_2.2.1 3)) _ _ := h_8
    refine lv_istore (lv' := [(4, .int r_8), (0, .ref h0), (1, .int v16_6_1), (2, .int v16_6_2), (3, .int v16_6_0)]) hx hb dX12_easiest_27 hl (by decide) rfl (fun ls_9 hl_9 => ?_)
    clear hl
    refine lv_iload hx hb dX12_easiest_29 (lv_at hl_9 0 rfl) ?_
    refine lv_iconst (v := (-1)) hx hb dX12_easiest_31 (by decide) ?_
    refine q_jn (pc2 := 55) (fun H locs ls st => ∃ v55_10_0 : Int32, ∃ v55_10_1 : Int32, (0 ≤ (v55_10_0).toInt ∧ (v55_10_0).toInt ≤ 11) ∧ ((-1) ≤ (v55_10_1).toInt ∧ (v55_10_1).toInt ≤ 9) ∧ st = [] ∧ qW D (va_A (wk_eecab3214 cy h0 p0 h1 w0 w1 w2 p1 p2 p3 p4 p5 p6 p7 p8 p9 p10 p11 h2 h3 w3 h4 w4 p12 p13 h5 w5 w6 p14 p15 w7 w8 w9 w10 w11 p16 w12 w13 w14 h1 f0 h2 f1 h3 f2 h4 f3 h5 f4) sz) s.heap (wk_41836cb4f cy h4 (u_2.2.1 2) h0 0 h1 w0 w1 w2 p1 p2 p3 p4 p5 p6 p7 p8 p9 p10 p11 h2 h3 w3 h4 w4 p12 p13 h5 w5 w6 p14 p15 w7 w8 w9 w10 w11 p16 w12 w13 w14 h1 f0 h2 (u_8.2.1 0) h3 (u_8.2.1 1) h5 (u_2.2.1 3)) H locs ∧ lv_has ls 5 [(0, .ref h0), (1, .int v55_10_1), (2, .int v55_10_0), (3, .int v16_6_0), (4, .int r_8)]) (fun H locs ls st hP => ?_) (fun J_55 => ?_)
    · obtain ⟨v55_10_0, v55_10_1, hv55_10_0, hv55_10_1, rfl, h, hl⟩ := hP
      obtain ⟨z_11, ez_11, hz_11⟩ := e_add (x := v16_6_0) (y := Int32.ofInt 1) rfl (b := 1) (by decide) (by omega) (by omega)
      refine lv_iinc (v := z_11) (lv' := [(3, .int z_11), (0, .ref h0), (1, .int v55_10_1), (2, .int v55_10_0), (4, .int r_8)]) hx hb dX12_easiest_55 hl (k := 3) rfl ez_11 (by decide) rfl (fun ls_11 hl_11 => ?_)
      clear hl
      refine lv_goto (tgt := 16) hx hb dX12_easiest_58 (by decide) ?_
      exact ih_16 (z_11, v55_10_1, v55_10_0) (by show (11 - (z_11).toInt).toNat < (11 - (v16_6_0).toInt).toNat; omega) _ _ _ ⟨(u_8.2.1 0), (u_8.2.1 1), ⟨by omega, by omega⟩, hv55_10_1, hv55_10_0, (q_re h [1, 2, 3, 4, 0, 5] rfl rfl), (lv_sub hl_11 [1, 2, 3, 0] rfl)⟩
    · skip
      refine lv_icmp_eq (tgt := 55) hx hb dX12_easiest_32 (by decide) (fun c_12 => ?_) (fun c_12 => ?_)
      · replace c_12 := i_eq (x := r_8) (y := (-1)) rfl (show ((-1) : Int32).toInt = -1 by decide) c_12
        exact J_55 _ _ _ _ ⟨v16_6_2, v16_6_1, hv16_6_2, hv16_6_1, rfl, h_8, (lv_sub hl_9 [1, 2, 3, 4, 0] rfl)⟩
      · replace c_12 := i_ne (x := r_8) (y := (-1)) rfl (show ((-1) : Int32).toInt = -1 by decide) c_12
        refine lv_iload hx hb dX12_easiest_35 (lv_at hl_9 0 rfl) ?_
        refine q_callSi (rest := []) (wr := (wk_41836cb4f cy h4 (u_2.2.1 2) h0 0 h1 w0 w1 w2 p1 p2 p3 p4 p5 p6 p7 p8 p9 p10 p11 h2 h3 w3 h4 w4 p12 p13 h5 w5 w6 p14 p15 w7 w8 w9 w10 w11 p16 w12 w13 w14 h1 f0 h2 (u_8.2.1 0) h3 (u_8.2.1 1) h5 (u_2.2.1 3))) X hK hT hA h_8 (fun sz => gX12_bitsOf_5a43b1c l D cy r_8 (i_rng _) sz) wm_7_8 wm_7_10 wm_1_12 hd_X12_bitsOf wm_7_9 ⟨Nat.le_of_ble_eq_true rfl, Nat.le_of_ble_eq_true rfl⟩ hl_9.1 rfl (Nat.le_of_ble_eq_true rfl) dX12_easiest_37 ⟨Nat.le_of_ble_eq_true rfl, Nat.le_of_ble_eq_true rfl⟩ [] [0, 1, 2, 3, 4, 5] rfl rfl (by decide) rfl rfl (fun r_13 u_13 H locs w_13 h_13 => ?_)
        clear h_8
        obtain ⟨wr_13, _⟩ := w_13
        replace h_13 : qW D _ _ (wk_41836cb4f cy h4 (u_2.2.1 2) h0 0 h1 w0 w1 w2 p1 p2 p3 p4 p5 p6 p7 p8 p9 p10 p11 h2 h3 w3 h4 w4 p12 p13 h5 w5 w6 p14 p15 w7 w8 w9 w10 w11 p16 w12 w13 w14 h1 f0 h2 (u_8.2.1 0) h3 (u_8.2.1 1) h5 (u_2.2.1 3)) _ _ := h_13
        refine lv_iload_n hx hb dX12_easiest_40 rfl (lv_at hl_9 3 rfl) ?_
        refine lv_icmp_lt (tgt := 47) hx hb dX12_easiest_41 (by decide) (fun c_14 => ?_) (fun c_14 => ?_)
        · replace c_14 := i_lt (x := r_13) (y := v16_6_2) rfl rfl c_14
          refine lv_iload_n hx hb dX12_easiest_47 rfl (lv_at hl_9 4 rfl) ?_
          refine lv_istore_n (lv' := [(1, .int v16_6_0), (4, .int r_8), (0, .ref h0), (2, .int v16_6_2), (3, .int v16_6_0)]) hx hb dX12_easiest_48 rfl hl_9 (by decide) rfl (fun ls_15 hl_15 => ?_)
          clear hl_9
          refine lv_iload hx hb dX12_easiest_49 (lv_at hl_15 1 rfl) ?_
          refine q_callSi (rest := []) (wr := (wk_41836cb4f cy h4 (u_2.2.1 2) h0 0 h1 w0 w1 w2 p1 p2 p3 p4 p5 p6 p7 p8 p9 p10 p11 h2 h3 w3 h4 w4 p12 p13 h5 w5 w6 p14 p15 w7 w8 w9 w10 w11 p16 w12 w13 w14 h1 f0 h2 (u_8.2.1 0) h3 (u_8.2.1 1) h5 (u_2.2.1 3))) X hK hT hA h_13 (fun sz => gX12_bitsOf_5a43b1c l D cy r_8 (i_rng _) sz) wm_7_8 wm_7_10 wm_1_12 hd_X12_bitsOf wm_7_9 ⟨Nat.le_of_ble_eq_true rfl, Nat.le_of_ble_eq_true rfl⟩ hl_15.1 rfl (Nat.le_of_ble_eq_true rfl) dX12_easiest_51 ⟨Nat.le_of_ble_eq_true rfl, Nat.le_of_ble_eq_true rfl⟩ [] [0, 1, 2, 3, 4, 5] rfl rfl (by decide) rfl rfl (fun r_16 u_16 H locs w_16 h_16 => ?_)
          clear h_13
          obtain ⟨wr_16, _⟩ := w_16
          replace h_16 : qW D _ _ (wk_41836cb4f cy h4 (u_2.2.1 2) h0 0 h1 w0 w1 w2 p1 p2 p3 p4 p5 p6 p7 p8 p9 p10 p11 h2 h3 w3 h4 w4 p12 p13 h5 w5 w6 p14 p15 w7 w8 w9 w10 w11 p16 w12 w13 w14 h1 f0 h2 (u_8.2.1 0) h3 (u_8.2.1 1) h5 (u_2.2.1 3)) _ _ := h_16
          refine lv_istore_n (lv' := [(2, .int r_16), (1, .int v16_6_0), (4, .int r_8), (0, .ref h0), (3, .int v16_6_0)]) hx hb dX12_easiest_54 rfl hl_15 (by decide) rfl (fun ls_17 hl_17 => ?_)
          clear hl_15
          exact J_55 _ _ _ _ ⟨r_16, v16_6_0, (bw wr_16 (by decide) (by decide)), ⟨by omega, by omega⟩, rfl, h_16, (lv_sub hl_17 [3, 1, 0, 4, 2] rfl)⟩
        · replace c_14 := i_nlt (x := r_13) (y := v16_6_2) rfl rfl c_14
          refine lv_goto (tgt := 55) hx hb dX12_easiest_44 (by decide) ?_
          exact J_55 _ _ _ _ ⟨v16_6_2, v16_6_1, hv16_6_2, hv16_6_1, rfl, h_13, (lv_sub hl_9 [1, 2, 3, 4, 0] rfl)⟩
set_option maxHeartbeats 4000000 in
set_option maxRecDepth 100000 in
theorem gX12_noHidden_6db733f (l : Launch) (D : va_G) (cy : Nat → ClassId) (h0 : Nat) (h1 : Nat) (p0 : Int32) (p1 : Int32) (p2 : Int32) (w0 : Value) (w1 : Value) (w2 : Value) (p3 : Int32) (p4 : Int32) (p5 : Int32) (p6 : Int32) (p7 : Int32) (p8 : Int32) (p9 : Int32) (p10 : Int32) (p11 : Int32) (p12 : Int32) (p13 : Int32) (w3 : Value) (w4 : Value) (w5 : Value) (w6 : Value) (w7 : Value) (p14 : Int32) (p15 : Int32) (w8 : Value) (w9 : Value) (w10 : Value) (p16 : Int32) (p17 : Int32) (w11 : Value) (w12 : Value) (w13 : Value) (w14 : Value) (w15 : Value) (p18 : Int32) (w16 : Value) (w17 : Value) (w18 : Value) (f0 : Nat → Int32) (p19 : Int32) (hp0 : (-2147483648) ≤ (p0).toInt ∧ (p0).toInt ≤ 2147483647) (hp1 : (-2147483648) ≤ (p1).toInt ∧ (p1).toInt ≤ 2147483647) (hp2 : 0 ≤ (p2).toInt ∧ (p2).toInt ≤ 0) (hp3 : 0 ≤ (p3).toInt ∧ (p3).toInt ≤ 900) (hp4 : 0 ≤ (p4).toInt ∧ (p4).toInt ≤ 900) (hp5 : 0 ≤ (p5).toInt ∧ (p5).toInt ≤ 900) (hp6 : 0 ≤ (p6).toInt ∧ (p6).toInt ≤ 900) (hp7 : (-2147483648) ≤ (p7).toInt ∧ (p7).toInt ≤ 2147483647) (hp8 : 0 ≤ (p8).toInt ∧ (p8).toInt ≤ 999) (hp9 : (-2147483648) ≤ (p9).toInt ∧ (p9).toInt ≤ 2147483647) (hp10 : (-2147483648) ≤ (p10).toInt ∧ (p10).toInt ≤ 2147483647) (hp11 : (-2147483648) ≤ (p11).toInt ∧ (p11).toInt ≤ 2147483647) (hp12 : (-2147483648) ≤ (p12).toInt ∧ (p12).toInt ≤ 2147483647) (hp13 : (-2147483648) ≤ (p13).toInt ∧ (p13).toInt ≤ 2147483647) (hp14 : (-2147483648) ≤ (p14).toInt ∧ (p14).toInt ≤ 2147483647) (hp15 : (-2147483648) ≤ (p15).toInt ∧ (p15).toInt ≤ 2147483647) (hp16 : (-2147483648) ≤ (p16).toInt ∧ (p16).toInt ≤ 2147483647) (hp17 : (-2147483648) ≤ (p17).toInt ∧ (p17).toInt ≤ 2147483647) (hp18 : (-2147483648) ≤ (p18).toInt ∧ (p18).toInt ≤ 2147483647) (hp19 : 0 ≤ (p19).toInt ∧ (p19).toInt ≤ 10) (htf0_84 : f0 84 = p19) (rf0 : AL f0) (sz : Nat) : MI l yX12_noHidden cX12_noHidden 3 .int { frames := 3, cells := 0, slots := 0, locals := 68 } [.ref h0, .int p0, .int p1] D cy (wk_e1f596b07 cy h0 p2 h1 w0 w1 w2 p3 p4 p5 p6 p7 p8 p9 p10 p11 p12 p13 w3 w4 w5 w6 w7 p14 p15 w8 w9 w10 p16 p17 w11 w12 w13 w14 w15 p18 w16 w17 w18 h1 f0) sz (fun r u => ((-3) ≤ r.toInt ∧ r.toInt ≤ 0) ∧ ((r : Int32).toInt = -2 ∨ (r : Int32).toInt = -3 ∨ (0 ≤ (p0 : Int32).toInt ∧ (p0 : Int32).toInt ≤ 9)) ∧ True) (fun u => (wk_e1f596b07 cy h0 p2 h1 w0 w1 w2 p3 p4 p5 p6 p7 p8 p9 p10 p11 p12 p13 w3 w4 w5 w6 w7 p14 p15 w8 w9 w10 p16 p17 w11 w12 w13 w14 w15 p18 w16 w17 w18 h1 f0)) 0 0 := by
  refine q_ent (own := RX12) (by decide) rfl (Nat.le_of_ble_eq_true rfl) (fun p e s m below meth c ls X hr hlk hnm hK hT h hA hl => ?_)
  obtain ⟨hx, hb, hml, hown, ht⟩ := id X
  replace hl : lv_has ls 3 [(0, .ref h0), (1, .int p0), (2, .int p1)] := hl
  refine lv_aload_n hx hb dX12_noHidden_0 rfl (lv_at hl 0 rfl) ?_
  refine lv_iload_n hx hb dX12_noHidden_1 rfl (lv_at hl 1 rfl) ?_
  refine lv_i2l hx hb dX12_noHidden_2 rfl ?_
  obtain ⟨z_1, ez_1, hz_1⟩ := e_i2l (x := p0) rfl
  refine q_cl z_1 ez_1 ?_
  clear ez_1
  refine q_callVi (rest := []) (wr := []) X hK hT hA h (fun sz => gX12_isPerson_039c8d6 l D cy h0 h1 z_1 p2 w0 w1 w2 p3 p4 p5 p6 p7 p8 p9 p10 p11 p12 p13 w3 w4 w5 w6 w7 p14 p15 w8 w9 w10 p16 p17 w11 w12 w13 w14 w15 p18 w16 w17 w18 f0 p19 ⟨by omega, by omega⟩ hp2 hp3 hp4 hp5 hp6 (i_rng _) hp8 (i_rng _) (i_rng _) (i_rng _) (i_rng _) (i_rng _) (i_rng _) (i_rng _) (i_rng _) (i_rng _) (i_rng _) hp19 htf0_84 rf0 sz) wm_6_162 wm_6_165 wm_1_12 hd_X12_isPerson wm_6_164 wp_5_8 (ci := 12) (q0 := 0) rfl rfl ⟨Nat.le_of_ble_eq_true rfl, Nat.le_of_ble_eq_true rfl⟩ hl.1 rfl (Nat.le_of_ble_eq_true rfl) dX12_noHidden_3 ⟨Nat.le_of_ble_eq_true rfl, Nat.le_of_ble_eq_true rfl⟩ [0, 1] [] rfl rfl (by decide) rfl rfl (fun r_2 u_2 H locs w_2 h_2 => ?_)
  clear h
  obtain ⟨wr_2, y2_0, _⟩ := w_2
  replace h_2 : qW D _ _ (wk_e1f596b07 cy h0 p2 h1 w0 w1 w2 p3 p4 p5 p6 p7 p8 p9 p10 p11 p12 p13 w3 w4 w5 w6 w7 p14 p15 w8 w9 w10 p16 p17 w11 w12 w13 w14 w15 p18 w16 w17 w18 h1 f0) _ _ := h_2
  refine lv_if_ne (tgt := 14) hx hb dX12_noHidden_6 (by decide) (fun c_3 => ?_) (fun c_3 => ?_)
  · replace c_3 := i_ne (x := r_2) (y := 0) rfl (show (0 : Int32).toInt = 0 by decide) c_3
    refine lv_iload_n hx hb dX12_noHidden_14 rfl (lv_at hl 2 rfl) ?_
    refine lv_aload_n hx hb dX12_noHidden_15 rfl (lv_at hl 0 rfl) ?_
    refine q_callVi (rest := [.int p1]) (wr := []) X hK hT hA h_2 (fun sz => gX12_townNow_2907b4b l D cy h0 h1 p2 w0 w1 w2 p3 p4 p5 p6 p7 p8 p9 p10 p11 p12 p13 w3 w4 w5 w6 w7 p14 p15 w8 w9 w10 p16 p17 w11 w12 w13 w14 w15 p18 w16 w17 w18 f0 p19 hp2 hp3 hp4 hp5 hp6 (i_rng _) hp8 (i_rng _) (i_rng _) (i_rng _) (i_rng _) (i_rng _) (i_rng _) (i_rng _) (i_rng _) (i_rng _) (i_rng _) hp19 htf0_84 rf0 sz) wm_6_170 wm_6_173 wm_1_12 hd_X12_townNow wm_6_172 wp_5_9 (ci := 12) (q0 := 0) rfl rfl ⟨Nat.le_of_ble_eq_true rfl, Nat.le_of_ble_eq_true rfl⟩ hl.1 rfl (Nat.le_of_ble_eq_true rfl) dX12_noHidden_16 ⟨Nat.le_of_ble_eq_true rfl, Nat.le_of_ble_eq_true rfl⟩ [0, 1] [] rfl rfl (by decide) rfl rfl (fun r_4 u_4 H locs w_4 h_4 => ?_)
    clear h_2
    obtain ⟨wr_4, _⟩ := w_4
    replace h_4 : qW D _ _ (wk_e1f596b07 cy h0 p2 h1 w0 w1 w2 p3 p4 p5 p6 p7 p8 p9 p10 p11 p12 p13 w3 w4 w5 w6 w7 p14 p15 w8 w9 w10 p16 p17 w11 w12 w13 w14 w15 p18 w16 w17 w18 h1 f0) _ _ := h_4
    refine lv_iconst (v := 1) hx hb dX12_noHidden_19 (by decide) ?_
    refine lv_iload_n hx hb dX12_noHidden_20 rfl (lv_at hl 1 rfl) ?_
    refine lv_ishl hx hb dX12_noHidden_21 ?_
    obtain ⟨z_5, ez_5, hz_5⟩ := e_shlk (p := p0) 9 (by decide) rfl (by omega) (by omega)
    refine q_c z_5 ez_5 ?_
    clear ez_5
    refine lv_iconst (v := (-1)) hx hb dX12_noHidden_22 (by decide) ?_
    refine lv_ixor hx hb dX12_noHidden_23 ?_
    refine q_any (fun z_6 hz_6 => ?_)
    refine lv_iand hx hb dX12_noHidden_24 ?_
    obtain ⟨z_7, ez_7, hz_7⟩ := e_and1 (x := r_4) (y := z_6) rfl (by omega)
    refine q_c z_7 ez_7 ?_
    clear ez_7
    refine lv_iconst (v := (-1)) hx hb dX12_noHidden_25 (by decide) ?_
    refine lv_ixor hx hb dX12_noHidden_26 ?_
    refine q_any (fun z_8 hz_8 => ?_)
    refine lv_iand hx hb dX12_noHidden_27 ?_
    refine q_any (fun z_9 hz_9 => ?_)
    refine lv_if_eq (tgt := 36) hx hb dX12_noHidden_28 (by decide) (fun c_10 => ?_) (fun c_10 => ?_)
    · replace c_10 := i_eq (x := z_9) (y := 0) rfl (show (0 : Int32).toInt = 0 by decide) c_10
      refine lv_iconst (v := 0) hx hb dX12_noHidden_36 (by decide) ?_
      exact q_iret X hr hlk hK h_4 rfl (fun _ => 0, fun _ _ => 0, fun _ _ => 0) ⟨⟨by decide +kernel, by decide +kernel⟩, (show (0 : Int32).toInt = -2 ∨ (0 : Int32).toInt = -3 ∨ (0 ≤ (p0 : Int32).toInt ∧ (p0 : Int32).toInt ≤ 9) from by have q0 : (0 : Int32).toInt = 0 := (by decide); (first | (clear y2_0; omega) | omega)), trivial⟩ [0, 1] rfl rfl dX12_noHidden_37 (Nat.le_of_ble_eq_true rfl) (Nat.le_of_ble_eq_true rfl)
    · replace c_10 := i_ne (x := z_9) (y := 0) rfl (show (0 : Int32).toInt = 0 by decide) c_10
      refine lv_bipush (v := (-3)) hx hb dX12_noHidden_31 (by decide) ?_
      refine lv_goto (tgt := 37) hx hb dX12_noHidden_33 (by decide) ?_
      exact q_iret X hr hlk hK h_4 rfl (fun _ => 0, fun _ _ => 0, fun _ _ => 0) ⟨⟨by decide +kernel, by decide +kernel⟩, (show ((-3) : Int32).toInt = -2 ∨ ((-3) : Int32).toInt = -3 ∨ (0 ≤ (p0 : Int32).toInt ∧ (p0 : Int32).toInt ≤ 9) from by have q0 : ((-3) : Int32).toInt = -3 := (by decide); (first | (clear y2_0; omega) | omega)), trivial⟩ [0, 1] rfl rfl dX12_noHidden_37 (Nat.le_of_ble_eq_true rfl) (Nat.le_of_ble_eq_true rfl)
  · replace c_3 := i_eq (x := r_2) (y := 0) rfl (show (0 : Int32).toInt = 0 by decide) c_3
    refine lv_bipush (v := (-2)) hx hb dX12_noHidden_9 (by decide) ?_
    refine lv_goto (tgt := 37) hx hb dX12_noHidden_11 (by decide) ?_
    exact q_iret X hr hlk hK h_2 rfl (fun _ => 0, fun _ _ => 0, fun _ _ => 0) ⟨⟨by decide +kernel, by decide +kernel⟩, (show ((-2) : Int32).toInt = -2 ∨ ((-2) : Int32).toInt = -3 ∨ (0 ≤ (p0 : Int32).toInt ∧ (p0 : Int32).toInt ≤ 9) from by have q0 : ((-2) : Int32).toInt = -2 := (by decide); (first | (clear y2_0; omega) | omega)), trivial⟩ [0, 1] rfl rfl dX12_noHidden_37 (Nat.le_of_ble_eq_true rfl) (Nat.le_of_ble_eq_true rfl)
set_option maxHeartbeats 4000000 in
set_option maxRecDepth 100000 in
theorem gX12_isTold_0a2408d (l : Launch) (D : va_G) (cy : Nat → ClassId) (h0 : Nat) (h1 : Nat) (p0 : Int32) (p1 : Int32) (w0 : Value) (w1 : Value) (w2 : Value) (p2 : Int32) (p3 : Int32) (p4 : Int32) (p5 : Int32) (p6 : Int32) (p7 : Int32) (p8 : Int32) (p9 : Int32) (p10 : Int32) (p11 : Int32) (p12 : Int32) (w3 : Value) (w4 : Value) (w5 : Value) (w6 : Value) (w7 : Value) (p13 : Int32) (p14 : Int32) (w8 : Value) (w9 : Value) (w10 : Value) (p15 : Int32) (p16 : Int32) (w11 : Value) (w12 : Value) (w13 : Value) (w14 : Value) (w15 : Value) (p17 : Int32) (w16 : Value) (w17 : Value) (w18 : Value) (f0 : Nat → Int32) (p18 : Int32) (hp0 : 0 ≤ (p0).toInt ∧ (p0).toInt ≤ 999) (hp1 : 0 ≤ (p1).toInt ∧ (p1).toInt ≤ 0) (hp2 : 0 ≤ (p2).toInt ∧ (p2).toInt ≤ 900) (hp3 : 0 ≤ (p3).toInt ∧ (p3).toInt ≤ 900) (hp4 : 0 ≤ (p4).toInt ∧ (p4).toInt ≤ 900) (hp5 : 0 ≤ (p5).toInt ∧ (p5).toInt ≤ 900) (hp6 : (-2147483648) ≤ (p6).toInt ∧ (p6).toInt ≤ 2147483647) (hp7 : 0 ≤ (p7).toInt ∧ (p7).toInt ≤ 999) (hp8 : (-2147483648) ≤ (p8).toInt ∧ (p8).toInt ≤ 2147483647) (hp9 : (-2147483648) ≤ (p9).toInt ∧ (p9).toInt ≤ 2147483647) (hp10 : (-2147483648) ≤ (p10).toInt ∧ (p10).toInt ≤ 2147483647) (hp11 : (-2147483648) ≤ (p11).toInt ∧ (p11).toInt ≤ 2147483647) (hp12 : (-2147483648) ≤ (p12).toInt ∧ (p12).toInt ≤ 2147483647) (hp13 : (-2147483648) ≤ (p13).toInt ∧ (p13).toInt ≤ 2147483647) (hp14 : (-2147483648) ≤ (p14).toInt ∧ (p14).toInt ≤ 2147483647) (hp15 : (-2147483648) ≤ (p15).toInt ∧ (p15).toInt ≤ 2147483647) (hp16 : (-2147483648) ≤ (p16).toInt ∧ (p16).toInt ≤ 2147483647) (hp17 : (-2147483648) ≤ (p17).toInt ∧ (p17).toInt ≤ 2147483647) (hp18 : 0 ≤ (p18).toInt ∧ (p18).toInt ≤ 10) (htf0_84 : f0 84 = p18) (rf0 : AL f0) (sz : Nat) : MI l yX12_isTold cX12_isTold 2 .boolean { frames := 0, cells := 0, slots := 0, locals := 0 } [.ref h0, .int p0] D cy (wk_e1f596b07 cy h0 p1 h1 w0 w1 w2 p2 p3 p4 p5 p6 p7 p8 p9 p10 p11 p12 w3 w4 w5 w6 w7 p13 p14 w8 w9 w10 p15 p16 w11 w12 w13 w14 w15 p17 w16 w17 w18 h1 f0) sz (fun r u => (0 ≤ r.toInt ∧ r.toInt ≤ 1) ∧ True) (fun u => (wk_e1f596b07 cy h0 p1 h1 w0 w1 w2 p2 p3 p4 p5 p6 p7 p8 p9 p10 p11 p12 w3 w4 w5 w6 w7 p13 p14 w8 w9 w10 p15 p16 w11 w12 w13 w14 w15 p17 w16 w17 w18 h1 f0)) 0 0 := by
  refine q_ent (own := RX12) (by decide) rfl (Nat.le_of_ble_eq_true rfl) (fun p e s m below meth c ls X hr hlk hnm hK hT h hA hl => ?_)
  obtain ⟨hx, hb, hml, hown, ht⟩ := id X
  replace hl : lv_has ls 2 [(0, .ref h0), (1, .int p0)] := hl
  refine lv_aload_n hx hb dX12_isTold_0 rfl (lv_at hl 0 rfl) ?_
  refine q_get X hK h 0 rfl rfl wf_12 1 (by decide) rfl wm_5_171 dX12_isTold_1 ?_
  refine lv_iconst (v := 1) hx hb dX12_isTold_4 (by decide) ?_
  refine q_iald X hK h 1 rfl (q_in (by decide +kernel)) dX12_isTold_5 ?_
  obtain ⟨z_1, ez_1, hz_1⟩ := al_V rf0 (x := 1) (show (1 : Int32).toInt = 1 by decide) (by omega) (by omega)
  refine q_c z_1 ez_1 ?_
  clear ez_1
  refine lv_iconst (v := 1) hx hb dX12_isTold_6 (by decide) ?_
  refine q_jn (pc2 := 42) (fun H locs ls st => ∃ v42_2_0 : Int32, (0 ≤ (v42_2_0).toInt ∧ (v42_2_0).toInt ≤ 1) ∧ st = [.int v42_2_0] ∧ qW D (va_A (wk_e1f596b07 cy h0 p1 h1 w0 w1 w2 p2 p3 p4 p5 p6 p7 p8 p9 p10 p11 p12 w3 w4 w5 w6 w7 p13 p14 w8 w9 w10 p15 p16 w11 w12 w13 w14 w15 p17 w16 w17 w18 h1 f0) sz) s.heap (wk_e1f596b07 cy h0 p1 h1 w0 w1 w2 p2 p3 p4 p5 p6 p7 p8 p9 p10 p11 p12 w3 w4 w5 w6 w7 p13 p14 w8 w9 w10 p15 p16 w11 w12 w13 w14 w15 p17 w16 w17 w18 h1 f0) H locs ∧ lv_has ls 2 [(0, .ref h0), (1, .int p0)]) (fun H locs ls st hP => ?_) (fun J_42 => ?_)
  · obtain ⟨v42_2_0, hv42_2_0, rfl, h, hl⟩ := hP
    exact q_iret X hr hlk hK h (q_nz (by omega) (by omega)) (fun _ => 0, fun _ _ => 0, fun _ _ => 0) ⟨hv42_2_0, trivial⟩ [0, 1] rfl rfl dX12_isTold_42 (Nat.le_of_ble_eq_true rfl) (Nat.le_of_ble_eq_true rfl)
  · skip
    refine q_jn (pc2 := 41) (fun H locs ls st => st = [] ∧ qW D (va_A (wk_e1f596b07 cy h0 p1 h1 w0 w1 w2 p2 p3 p4 p5 p6 p7 p8 p9 p10 p11 p12 w3 w4 w5 w6 w7 p13 p14 w8 w9 w10 p15 p16 w11 w12 w13 w14 w15 p17 w16 w17 w18 h1 f0) sz) s.heap (wk_e1f596b07 cy h0 p1 h1 w0 w1 w2 p2 p3 p4 p5 p6 p7 p8 p9 p10 p11 p12 w3 w4 w5 w6 w7 p13 p14 w8 w9 w10 p15 p16 w11 w12 w13 w14 w15 p17 w16 w17 w18 h1 f0) H locs ∧ lv_has ls 2 [(0, .ref h0), (1, .int p0)]) (fun H locs ls st hP => ?_) (fun J_41 => ?_)
    · obtain ⟨rfl, h, hl⟩ := hP
      refine lv_iconst (v := 0) hx hb dX12_isTold_41 (by decide) ?_
      exact J_42 _ _ _ _ ⟨0, ⟨by decide +kernel, by decide +kernel⟩, rfl, h, (lv_sub hl [0, 1] rfl)⟩
    · skip
      refine q_jn (pc2 := 20) (fun H locs ls st => st = [] ∧ qW D (va_A (wk_e1f596b07 cy h0 p1 h1 w0 w1 w2 p2 p3 p4 p5 p6 p7 p8 p9 p10 p11 p12 w3 w4 w5 w6 w7 p13 p14 w8 w9 w10 p15 p16 w11 w12 w13 w14 w15 p17 w16 w17 w18 h1 f0) sz) s.heap (wk_e1f596b07 cy h0 p1 h1 w0 w1 w2 p2 p3 p4 p5 p6 p7 p8 p9 p10 p11 p12 w3 w4 w5 w6 w7 p13 p14 w8 w9 w10 p15 p16 w11 w12 w13 w14 w15 p17 w16 w17 w18 h1 f0) H locs ∧ lv_has ls 2 [(0, .ref h0), (1, .int p0)]) (fun H locs ls st hP => ?_) (fun J_20 => ?_)
      · obtain ⟨rfl, h, hl⟩ := hP
        refine lv_aload_n hx hb dX12_isTold_20 rfl (lv_at hl 0 rfl) ?_
        refine q_get X hK h 0 rfl rfl wf_12 1 (by decide) rfl wm_5_171 dX12_isTold_21 ?_
        refine lv_iconst (v := 1) hx hb dX12_isTold_24 (by decide) ?_
        refine q_iald X hK h 1 rfl (q_in (by decide +kernel)) dX12_isTold_25 ?_
        obtain ⟨z_5, ez_5, hz_5⟩ := al_V rf0 (x := 1) (show (1 : Int32).toInt = 1 by decide) (by omega) (by omega)
        refine q_c z_5 ez_5 ?_
        clear ez_5
        refine lv_iconst (v := 2) hx hb dX12_isTold_26 (by decide) ?_
        refine q_jn (pc2 := 37) (fun H locs ls st => st = [] ∧ qW D (va_A (wk_e1f596b07 cy h0 p1 h1 w0 w1 w2 p2 p3 p4 p5 p6 p7 p8 p9 p10 p11 p12 w3 w4 w5 w6 w7 p13 p14 w8 w9 w10 p15 p16 w11 w12 w13 w14 w15 p17 w16 w17 w18 h1 f0) sz) s.heap (wk_e1f596b07 cy h0 p1 h1 w0 w1 w2 p2 p3 p4 p5 p6 p7 p8 p9 p10 p11 p12 w3 w4 w5 w6 w7 p13 p14 w8 w9 w10 p15 p16 w11 w12 w13 w14 w15 p17 w16 w17 w18 h1 f0) H locs ∧ lv_has ls 2 [(0, .ref h0), (1, .int p0)]) (fun H locs ls st hP => ?_) (fun J_37 => ?_)
        · obtain ⟨rfl, h, hl⟩ := hP
          refine lv_iconst (v := 1) hx hb dX12_isTold_37 (by decide) ?_
          refine lv_goto (tgt := 42) hx hb dX12_isTold_38 (by decide) ?_
          exact J_42 _ _ _ _ ⟨1, ⟨by decide +kernel, by decide +kernel⟩, rfl, h, (lv_sub hl [0, 1] rfl)⟩
        · skip
          refine lv_icmp_gt (tgt := 37) hx hb dX12_isTold_27 (by decide) (fun c_7 => ?_) (fun c_7 => ?_)
          · replace c_7 := i_lt (x := 2) (y := z_5) (show (2 : Int32).toInt = 2 by decide) rfl c_7
            exact J_37 _ _ _ _ ⟨rfl, h, (lv_sub hl [0, 1] rfl)⟩
          · replace c_7 := i_nlt (x := 2) (y := z_5) (show (2 : Int32).toInt = 2 by decide) rfl c_7
            refine lv_iload_n hx hb dX12_isTold_30 rfl (lv_at hl 1 rfl) ?_
            refine lv_bipush (v := 10) hx hb dX12_isTold_31 (by decide) ?_
            refine lv_irem hx hb dX12_isTold_33 (by decide) ?_
            obtain ⟨z_8, ez_8, hz_8⟩ := e_rem (x := p0) (y := 10) rfl (show (10 : Int32).toInt = 10 by decide) (by omega) (by omega)
            refine q_c z_8 ez_8 ?_
            clear ez_8
            refine lv_if_ne (tgt := 41) hx hb dX12_isTold_34 (by decide) (fun c_9 => ?_) (fun c_9 => ?_)
            · replace c_9 := i_ne (x := z_8) (y := 0) rfl (show (0 : Int32).toInt = 0 by decide) c_9
              exact J_41 _ _ _ _ ⟨rfl, h, (lv_sub hl [0, 1] rfl)⟩
            · replace c_9 := i_eq (x := z_8) (y := 0) rfl (show (0 : Int32).toInt = 0 by decide) c_9
              exact J_37 _ _ _ _ ⟨rfl, h, (lv_sub hl [0, 1] rfl)⟩
      · skip
        refine lv_icmp_gt (tgt := 20) hx hb dX12_isTold_7 (by decide) (fun c_10 => ?_) (fun c_10 => ?_)
        · replace c_10 := i_lt (x := 1) (y := z_1) (show (1 : Int32).toInt = 1 by decide) rfl c_10
          exact J_20 _ _ _ _ ⟨rfl, h, (lv_sub hl [0, 1] rfl)⟩
        · replace c_10 := i_nlt (x := 1) (y := z_1) (show (1 : Int32).toInt = 1 by decide) rfl c_10
          refine lv_iload_n hx hb dX12_isTold_10 rfl (lv_at hl 1 rfl) ?_
          refine lv_bipush (v := 10) hx hb dX12_isTold_11 (by decide) ?_
          refine lv_idiv hx hb dX12_isTold_13 (by decide) ?_
          obtain ⟨z_11, ez_11, hz_11⟩ := e_div (x := p0) (y := 10) rfl (show (10 : Int32).toInt = 10 by decide) (by omega) (by omega)
          refine q_c z_11 ez_11 ?_
          clear ez_11
          refine lv_bipush (v := 10) hx hb dX12_isTold_14 (by decide) ?_
          refine lv_irem hx hb dX12_isTold_16 (by decide) ?_
          obtain ⟨z_12, ez_12, hz_12⟩ := e_rem (x := z_11) (y := 10) rfl (show (10 : Int32).toInt = 10 by decide) (by omega) (by omega)
          refine q_c z_12 ez_12 ?_
          clear ez_12
          refine lv_if_ne (tgt := 41) hx hb dX12_isTold_17 (by decide) (fun c_13 => ?_) (fun c_13 => ?_)
          · replace c_13 := i_ne (x := z_12) (y := 0) rfl (show (0 : Int32).toInt = 0 by decide) c_13
            exact J_41 _ _ _ _ ⟨rfl, h, (lv_sub hl [0, 1] rfl)⟩
          · replace c_13 := i_eq (x := z_12) (y := 0) rfl (show (0 : Int32).toInt = 0 by decide) c_13
            exact J_20 _ _ _ _ ⟨rfl, h, (lv_sub hl [0, 1] rfl)⟩
set_option maxHeartbeats 4000000 in
set_option maxRecDepth 100000 in
theorem gX12_fits_c2178b6 (l : Launch) (D : va_G) (cy : Nat → ClassId) (h0 : Nat) (h1 : Nat) (h2 : Nat) (h3 : Nat) (p0 : Int32) (p1 : Int32) (p2 : Int32) (p3 : Int32) (w0 : Value) (w1 : Value) (w2 : Value) (p4 : Int32) (p5 : Int32) (p6 : Int32) (p7 : Int32) (p8 : Int32) (p9 : Int32) (p10 : Int32) (p11 : Int32) (p12 : Int32) (p13 : Int32) (p14 : Int32) (w3 : Value) (w4 : Value) (w5 : Value) (p15 : Int32) (p16 : Int32) (w6 : Value) (w7 : Value) (w8 : Value) (p17 : Int32) (p18 : Int32) (w9 : Value) (w10 : Value) (w11 : Value) (w12 : Value) (w13 : Value) (p19 : Int32) (w14 : Value) (w15 : Value) (w16 : Value) (f0 : Nat → Int32) (p20 : Int32) (f1 : Nat → Int32) (f2 : Nat → Int32) (hp0 : 0 ≤ (p0).toInt ∧ (p0).toInt ≤ 9) (hp1 : (-2147483648) ≤ (p1).toInt ∧ (p1).toInt ≤ 2147483647) (hp2 : 0 ≤ (p2).toInt ∧ (p2).toInt ≤ 999) (hp3 : 0 ≤ (p3).toInt ∧ (p3).toInt ≤ 0) (hp4 : 0 ≤ (p4).toInt ∧ (p4).toInt ≤ 900) (hp5 : 0 ≤ (p5).toInt ∧ (p5).toInt ≤ 900) (hp6 : 0 ≤ (p6).toInt ∧ (p6).toInt ≤ 900) (hp7 : 0 ≤ (p7).toInt ∧ (p7).toInt ≤ 900) (hp8 : (-2147483648) ≤ (p8).toInt ∧ (p8).toInt ≤ 2147483647) (hp9 : 0 ≤ (p9).toInt ∧ (p9).toInt ≤ 999) (hp10 : (-2147483648) ≤ (p10).toInt ∧ (p10).toInt ≤ 2147483647) (hp11 : (-2147483648) ≤ (p11).toInt ∧ (p11).toInt ≤ 2147483647) (hp12 : (-2147483648) ≤ (p12).toInt ∧ (p12).toInt ≤ 2147483647) (hp13 : (-2147483648) ≤ (p13).toInt ∧ (p13).toInt ≤ 2147483647) (hp14 : (-2147483648) ≤ (p14).toInt ∧ (p14).toInt ≤ 2147483647) (hp15 : (-2147483648) ≤ (p15).toInt ∧ (p15).toInt ≤ 2147483647) (hp16 : (-2147483648) ≤ (p16).toInt ∧ (p16).toInt ≤ 2147483647) (hp17 : (-2147483648) ≤ (p17).toInt ∧ (p17).toInt ≤ 2147483647) (hp18 : (-2147483648) ≤ (p18).toInt ∧ (p18).toInt ≤ 2147483647) (hp19 : (-2147483648) ≤ (p19).toInt ∧ (p19).toInt ≤ 2147483647) (hp20 : 0 ≤ (p20).toInt ∧ (p20).toInt ≤ 10) (htf0_84 : f0 84 = p20) (rf0 : AL f0) (sz : Nat) : MI l yX12_fits cX12_fits 6 .boolean { frames := 3, cells := 0, slots := 0, locals := 71 } [.ref h0, .int p0, .int p1, .int p2] D cy (wk_d5826a772 cy h0 p3 h1 w0 w1 w2 p4 p5 p6 p7 p8 p9 p10 p11 p12 p13 p14 h2 h3 w3 w4 w5 p15 p16 w6 w7 w8 p17 p18 w9 w10 w11 w12 w13 p19 w14 w15 w16 h1 f0 h2 f1 h3 f2) sz (fun r u => (0 ≤ r.toInt ∧ r.toInt ≤ 1) ∧ AL (u.2.1 2) ∧ (u.2.1 2) 84 = p20 ∧ True) (fun u => (wk_d5826a772 cy h0 p3 h1 w0 w1 w2 p4 p5 p6 p7 p8 p9 p10 p11 p12 p13 p14 h2 h3 w3 w4 w5 p15 p16 w6 w7 w8 p17 p18 w9 w10 w11 w12 w13 p19 w14 w15 w16 h1 (u.2.1 2) h2 (u.2.1 0) h3 (u.2.1 1))) 0 0 := by
  refine q_ent (own := RX12) (by decide) rfl (Nat.le_of_ble_eq_true rfl) (fun p e s m below meth c ls X hr hlk hnm hK hT h hA hl => ?_)
  obtain ⟨hx, hb, hml, hown, ht⟩ := id X
  replace hl : lv_has ls 6 [(0, .ref h0), (1, .int p0), (2, .int p1), (3, .int p2)] := hl
  refine lv_aload_n hx hb dX12_fits_0 rfl (lv_at hl 0 rfl) ?_
  refine lv_iload_n hx hb dX12_fits_1 rfl (lv_at hl 3 rfl) ?_
  refine q_callVi (rest := []) (wr := (wk_3fb6de35f cy h2 f1 h3 f2)) X hK hT hA h (fun sz => gX12_isTold_0a2408d l D cy h0 h1 p2 p3 w0 w1 w2 p4 p5 p6 p7 p8 p9 p10 p11 p12 p13 p14 (.ref h2) (.ref h3) w3 w4 w5 p15 p16 w6 w7 w8 p17 p18 w9 w10 w11 w12 w13 p19 w14 w15 w16 f0 p20 hp2 hp3 hp4 hp5 hp6 hp7 (i_rng _) hp9 (i_rng _) (i_rng _) (i_rng _) (i_rng _) (i_rng _) (i_rng _) (i_rng _) (i_rng _) (i_rng _) (i_rng _) hp20 htf0_84 rf0 sz) wm_7_235 wm_7_238 wm_1_12 hd_X12_isTold wm_7_237 wp_8_2 (ci := 12) (q0 := 0) rfl rfl ⟨Nat.le_of_ble_eq_true rfl, Nat.le_of_ble_eq_true rfl⟩ hl.1 rfl (Nat.le_of_ble_eq_true rfl) dX12_fits_2 ⟨Nat.le_of_ble_eq_true rfl, Nat.le_of_ble_eq_true rfl⟩ [0, 1] [2, 3] rfl rfl (by decide) rfl rfl (fun r_1 u_1 H locs w_1 h_1 => ?_)
  clear h
  obtain ⟨wr_1, _⟩ := w_1
  replace h_1 : qW D _ _ (wk_974fbaca6 cy h2 f1 h3 f2 h0 p3 h1 w0 w1 w2 p4 p5 p6 p7 p8 p9 p10 p11 p12 p13 p14 h2 h3 w3 w4 w5 p15 p16 w6 w7 w8 p17 p18 w9 w10 w11 w12 w13 p19 w14 w15 w16 h1 f0) _ _ := h_1
  refine lv_if_ne (tgt := 10) hx hb dX12_fits_5 (by decide) (fun c_2 => ?_) (fun c_2 => ?_)
  · replace c_2 := i_ne (x := r_1) (y := 0) rfl (show (0 : Int32).toInt = 0 by decide) c_2
    refine lv_aload_n hx hb dX12_fits_10 rfl (lv_at hl 0 rfl) ?_
    refine lv_iload_n hx hb dX12_fits_11 rfl (lv_at hl 1 rfl) ?_
    refine lv_iload_n hx hb dX12_fits_12 rfl (lv_at hl 3 rfl) ?_
    refine q_callVv (rest := []) (wr := (wk_3fb6de35f cy h2 f1 h3 f2)) X hK hT hA h_1 (fun sz => gX12_puts_2de0910 l D cy h0 h1 p0 p2 p3 w0 w1 w2 p4 p5 p6 p7 p8 p9 p10 p11 p12 p13 p14 (.ref h2) (.ref h3) w3 w4 w5 p15 p16 w6 w7 w8 p17 p18 w9 w10 w11 w12 w13 p19 w14 w15 w16 f0 p20 hp0 hp2 hp3 hp4 hp5 hp6 hp7 (i_rng _) hp9 (i_rng _) (i_rng _) (i_rng _) (i_rng _) (i_rng _) (i_rng _) (i_rng _) (i_rng _) (i_rng _) (i_rng _) hp20 htf0_84 rf0 sz) wm_7_176 wm_7_179 wm_1_12 hd_X12_puts wm_7_178 wp_7_11 (ci := 12) (q0 := 0) rfl rfl ⟨Nat.le_of_ble_eq_true rfl, Nat.le_of_ble_eq_true rfl⟩ hl.1 rfl (Nat.le_of_ble_eq_true rfl) dX12_fits_13 ⟨Nat.le_of_ble_eq_true rfl, Nat.le_of_ble_eq_true rfl⟩ [2, 3] [0, 1] rfl rfl (by decide) rfl rfl (fun u_3 H locs w_3 h_3 => ?_)
    clear h_1
    obtain ⟨w3_0, w3_1, _⟩ := w_3
    replace h_3 : qW D _ _ (wk_974fbaca6 cy h2 f1 h3 f2 h0 p3 h1 w0 w1 w2 p4 p5 p6 p7 p8 p9 p10 p11 p12 p13 p14 h2 h3 w3 w4 w5 p15 p16 w6 w7 w8 p17 p18 w9 w10 w11 w12 w13 p19 w14 w15 w16 h1 (u_3.2.1 0)) _ _ := h_3
    refine lv_aload_n hx hb dX12_fits_16 rfl (lv_at hl 0 rfl) ?_
    refine q_callVi (rest := []) (wr := (wk_3fb6de35f cy h2 f1 h3 f2)) X hK hT hA h_3 (fun sz => gX12_townNow_2907b4b l D cy h0 h1 p3 w0 w1 w2 p4 p5 p6 p7 p8 p9 p10 p11 p12 p13 p14 (.ref h2) (.ref h3) w3 w4 w5 p15 p16 w6 w7 w8 p17 p18 w9 w10 w11 w12 w13 p19 w14 w15 w16 (u_3.2.1 0) p20 hp3 hp4 hp5 hp6 hp7 (i_rng _) hp9 (i_rng _) (i_rng _) (i_rng _) (i_rng _) (i_rng _) (i_rng _) (i_rng _) (i_rng _) (i_rng _) (i_rng _) hp20 w3_1 w3_0 sz) wm_6_170 wm_6_173 wm_1_12 hd_X12_townNow wm_6_172 wp_5_9 (ci := 12) (q0 := 0) rfl rfl ⟨Nat.le_of_ble_eq_true rfl, Nat.le_of_ble_eq_true rfl⟩ hl.1 rfl (Nat.le_of_ble_eq_true rfl) dX12_fits_17 ⟨Nat.le_of_ble_eq_true rfl, Nat.le_of_ble_eq_true rfl⟩ [2, 3] [0, 1] rfl rfl (by decide) rfl rfl (fun r_4 u_4 H locs w_4 h_4 => ?_)
    clear h_3
    obtain ⟨wr_4, _⟩ := w_4
    replace h_4 : qW D _ _ (wk_974fbaca6 cy h2 f1 h3 f2 h0 p3 h1 w0 w1 w2 p4 p5 p6 p7 p8 p9 p10 p11 p12 p13 p14 h2 h3 w3 w4 w5 p15 p16 w6 w7 w8 p17 p18 w9 w10 w11 w12 w13 p19 w14 w15 w16 h1 (u_3.2.1 0)) _ _ := h_4
    refine lv_iconst (v := 1) hx hb dX12_fits_20 (by decide) ?_
    refine lv_iload_n hx hb dX12_fits_21 rfl (lv_at hl 1 rfl) ?_
    refine lv_ishl hx hb dX12_fits_22 ?_
    obtain ⟨z_5, ez_5, hz_5⟩ := e_shlk (p := p0) 9 (by decide) rfl (by omega) (by omega)
    refine q_c z_5 ez_5 ?_
    clear ez_5
    refine lv_iconst (v := (-1)) hx hb dX12_fits_23 (by decide) ?_
    refine lv_ixor hx hb dX12_fits_24 ?_
    refine q_any (fun z_6 hz_6 => ?_)
    refine lv_iand hx hb dX12_fits_25 ?_
    obtain ⟨z_7, ez_7, hz_7⟩ := e_and1 (x := r_4) (y := z_6) rfl (by omega)
    refine q_c z_7 ez_7 ?_
    clear ez_7
    refine lv_istore (lv' := [(4, .int z_7), (0, .ref h0), (1, .int p0), (2, .int p1), (3, .int p2)]) hx hb dX12_fits_26 hl (by decide) rfl (fun ls_8 hl_8 => ?_)
    clear hl
    refine lv_iconst (v := 0) hx hb dX12_fits_28 (by decide) ?_
    refine lv_istore (lv' := [(5, .int 0), (4, .int z_7), (0, .ref h0), (1, .int p0), (2, .int p1), (3, .int p2)]) hx hb dX12_fits_29 hl_8 (by decide) rfl (fun ls_9 hl_9 => ?_)
    clear hl_8
    refine q_wl (fun (v31_10_0 : Int32) H locs ls => ∃ v31_10_1 : Nat → Int32, ∃ v31_10_2 : Nat → Int32, (0 ≤ (v31_10_0).toInt ∧ (v31_10_0).toInt ≤ 10) ∧ qW D (va_A (wk_d5826a772 cy h0 p3 h1 w0 w1 w2 p4 p5 p6 p7 p8 p9 p10 p11 p12 p13 p14 h2 h3 w3 w4 w5 p15 p16 w6 w7 w8 p17 p18 w9 w10 w11 w12 w13 p19 w14 w15 w16 h1 f0 h2 f1 h3 f2) sz) s.heap (wk_974fbaca6 cy h2 v31_10_1 h3 v31_10_2 h0 p3 h1 w0 w1 w2 p4 p5 p6 p7 p8 p9 p10 p11 p12 p13 p14 h2 h3 w3 w4 w5 p15 p16 w6 w7 w8 p17 p18 w9 w10 w11 w12 w13 p19 w14 w15 w16 h1 (u_3.2.1 0)) H locs ∧ lv_has ls 6 [(0, .ref h0), (1, .int p0), (2, .int p1), (3, .int p2), (4, .int z_7), (5, .int v31_10_0)]) (fun (v31_10_0 : Int32) => (11 - (v31_10_0).toInt).toNat) (fun q_31 ih_31 H locs ls hP => ?_) 0 ⟨f1, f2, ⟨by decide +kernel, by decide +kernel⟩, h_4, (lv_sub hl_9 [2, 3, 4, 5, 1, 0] rfl)⟩
    obtain ⟨v31_10_0, rfl⟩ : ∃ z, z = q_31 := ⟨_, rfl⟩
    obtain ⟨v31_10_1, v31_10_2, hv31_10_0, h, hl⟩ := hP
    refine lv_iload hx hb dX12_fits_31 (lv_at hl 5 rfl) ?_
    refine lv_aload_n hx hb dX12_fits_33 rfl (lv_at hl 0 rfl) ?_
    refine q_get X hK h 2 rfl rfl wf_12 1 (by decide) rfl wm_5_171 dX12_fits_34 ?_
    refine lv_iconst (v := 2) hx hb dX12_fits_37 (by decide) ?_
    refine q_iald X hK h 3 rfl (q_in (by decide +kernel)) dX12_fits_38 ?_
    obtain ⟨z_11, ez_11, hz_11⟩ := al_P w3_0 (x := 2) (show (2 : Int32).toInt = 2 by decide) (by omega) (by omega)
    refine q_c z_11 ez_11 ?_
    clear ez_11
    refine lv_icmp_ge (tgt := 85) hx hb dX12_fits_39 (by decide) (fun c_12 => ?_) (fun c_12 => ?_)
    · replace c_12 := i_le (x := z_11) (y := v31_10_0) rfl rfl c_12
      refine lv_iconst (v := 1) hx hb dX12_fits_85 (by decide) ?_
      exact q_iret X hr hlk hK h rfl (fun _ => 0, (vcons v31_10_1 (vcons v31_10_2 (vcons (u_3.2.1 0) (fun _ => (fun _ => 0))))), fun _ _ => 0) ⟨⟨by decide +kernel, by decide +kernel⟩, w3_0, w3_1, trivial⟩ [2, 3, 0, 1] rfl rfl dX12_fits_86 (Nat.le_of_ble_eq_true rfl) (Nat.le_of_ble_eq_true rfl)
    · replace c_12 := i_nle (x := z_11) (y := v31_10_0) rfl rfl c_12
      refine lv_iload hx hb dX12_fits_42 (lv_at hl 4 rfl) ?_
      refine lv_i2l hx hb dX12_fits_44 rfl ?_
      obtain ⟨z_13, ez_13, hz_13⟩ := e_i2l (x := z_7) rfl
      refine q_cl z_13 ez_13 ?_
      clear ez_13
      refine lv_iload hx hb dX12_fits_45 (lv_at hl 5 rfl) ?_
      refine q_callSi (rest := []) (wr := (wk_974fbaca6 cy h2 v31_10_1 h3 v31_10_2 h0 p3 h1 w0 w1 w2 p4 p5 p6 p7 p8 p9 p10 p11 p12 p13 p14 h2 h3 w3 w4 w5 p15 p16 w6 w7 w8 p17 p18 w9 w10 w11 w12 w13 p19 w14 w15 w16 h1 (u_3.2.1 0))) X hK hT hA h (fun sz => gX12_isIn_b0455a8 l D cy z_13 v31_10_0 ⟨by omega, by omega⟩ ⟨by omega, by omega⟩ sz) wm_6_167 wm_6_169 wm_1_12 hd_X12_isIn wm_6_168 ⟨Nat.le_of_ble_eq_true rfl, Nat.le_of_ble_eq_true rfl⟩ hl.1 rfl (Nat.le_of_ble_eq_true rfl) dX12_fits_47 ⟨Nat.le_of_ble_eq_true rfl, Nat.le_of_ble_eq_true rfl⟩ [] [0, 1, 2, 3] rfl rfl (by decide) rfl rfl (fun r_14 u_14 H locs w_14 h_14 => ?_)
      clear h
      obtain ⟨wr_14, _⟩ := w_14
      replace h_14 : qW D _ _ (wk_974fbaca6 cy h2 v31_10_1 h3 v31_10_2 h0 p3 h1 w0 w1 w2 p4 p5 p6 p7 p8 p9 p10 p11 p12 p13 p14 h2 h3 w3 w4 w5 p15 p16 w6 w7 w8 p17 p18 w9 w10 w11 w12 w13 p19 w14 w15 w16 h1 (u_3.2.1 0)) _ _ := h_14
      refine q_jn (pc2 := 79) (fun H locs ls st => ∃ v79_15_0 : Nat → Int32, ∃ v79_15_1 : Nat → Int32, st = [] ∧ qW D (va_A (wk_d5826a772 cy h0 p3 h1 w0 w1 w2 p4 p5 p6 p7 p8 p9 p10 p11 p12 p13 p14 h2 h3 w3 w4 w5 p15 p16 w6 w7 w8 p17 p18 w9 w10 w11 w12 w13 p19 w14 w15 w16 h1 f0 h2 f1 h3 f2) sz) s.heap (wk_974fbaca6 cy h2 v79_15_0 h3 v79_15_1 h0 p3 h1 w0 w1 w2 p4 p5 p6 p7 p8 p9 p10 p11 p12 p13 p14 h2 h3 w3 w4 w5 p15 p16 w6 w7 w8 p17 p18 w9 w10 w11 w12 w13 p19 w14 w15 w16 h1 (u_3.2.1 0)) H locs ∧ lv_has ls 6 [(0, .ref h0), (1, .int p0), (2, .int p1), (3, .int p2), (4, .int z_7), (5, .int v31_10_0)]) (fun H locs ls st hP => ?_) (fun J_79 => ?_)
      · obtain ⟨v79_15_0, v79_15_1, rfl, h, hl⟩ := hP
        obtain ⟨z_16, ez_16, hz_16⟩ := e_add (x := v31_10_0) (y := Int32.ofInt 1) rfl (b := 1) (by decide) (by omega) (by omega)
        refine lv_iinc (v := z_16) (lv' := [(5, .int z_16), (0, .ref h0), (1, .int p0), (2, .int p1), (3, .int p2), (4, .int z_7)]) hx hb dX12_fits_79 hl (k := 5) rfl ez_16 (by decide) rfl (fun ls_16 hl_16 => ?_)
        clear hl
        refine lv_goto (tgt := 31) hx hb dX12_fits_82 (by decide) ?_
        exact ih_31 z_16 (by show (11 - (z_16).toInt).toNat < (11 - (v31_10_0).toInt).toNat; omega) _ _ _ ⟨v79_15_0, v79_15_1, ⟨by omega, by omega⟩, h, (lv_sub hl_16 [1, 2, 3, 4, 5, 0] rfl)⟩
      · skip
        refine lv_if_eq (tgt := 79) hx hb dX12_fits_50 (by decide) (fun c_17 => ?_) (fun c_17 => ?_)
        · replace c_17 := i_eq (x := r_14) (y := 0) rfl (show (0 : Int32).toInt = 0 by decide) c_17
          exact J_79 _ _ _ _ ⟨v31_10_1, v31_10_2, rfl, h_14, (lv_sub hl [0, 1, 2, 3, 4, 5] rfl)⟩
        · replace c_17 := i_ne (x := r_14) (y := 0) rfl (show (0 : Int32).toInt = 0 by decide) c_17
          refine lv_aload_n hx hb dX12_fits_53 rfl (lv_at hl 0 rfl) ?_
          refine lv_iload_n hx hb dX12_fits_54 rfl (lv_at hl 1 rfl) ?_
          refine lv_iload hx hb dX12_fits_55 (lv_at hl 5 rfl) ?_
          refine lv_aload_n hx hb dX12_fits_57 rfl (lv_at hl 0 rfl) ?_
          refine q_get X hK h_14 2 rfl rfl wf_12 1 (by decide) rfl wm_5_171 dX12_fits_58 ?_
          refine lv_bipush (v := 52) hx hb dX12_fits_61 (by decide) ?_
          refine q_iald X hK h_14 3 rfl (q_in (by decide +kernel)) dX12_fits_63 ?_
          refine q_any (fun z_18 hz_18 => ?_)
          refine q_callVi (rest := []) (wr := []) X hK hT hA h_14 (fun sz => gX12_areOpposed_e7e6c1a l D cy h0 h1 h2 h3 p0 v31_10_0 z_18 p3 w0 w1 w2 p4 p5 p6 p7 p8 p9 p10 p11 p12 p13 p14 w3 w4 w5 p15 p16 w6 w7 w8 p17 p18 w9 w10 w11 w12 w13 p19 w14 w15 w16 (u_3.2.1 0) p20 v31_10_1 v31_10_2 hp0 ⟨by omega, by omega⟩ (i_rng _) hp3 hp4 hp5 hp6 hp7 (i_rng _) hp9 (i_rng _) (i_rng _) (i_rng _) (i_rng _) (i_rng _) (i_rng _) (i_rng _) (i_rng _) (i_rng _) (i_rng _) hp20 w3_1 w3_0 sz) wm_6_187 wm_6_190 wm_1_12 hd_X12_areOpposed wm_6_189 wp_5_11 (ci := 12) (q0 := 0) rfl rfl ⟨Nat.le_of_ble_eq_true rfl, Nat.le_of_ble_eq_true rfl⟩ hl.1 rfl (Nat.le_of_ble_eq_true rfl) dX12_fits_64 ⟨Nat.le_of_ble_eq_true rfl, Nat.le_of_ble_eq_true rfl⟩ [2, 3, 0, 1] [] rfl rfl (by decide) rfl rfl (fun r_19 u_19 H locs w_19 h_19 => ?_)
          clear h_14
          obtain ⟨wr_19, _⟩ := w_19
          replace h_19 : qW D _ _ (wk_d5826a772 cy h0 p3 h1 w0 w1 w2 p4 p5 p6 p7 p8 p9 p10 p11 p12 p13 p14 h2 h3 w3 w4 w5 p15 p16 w6 w7 w8 p17 p18 w9 w10 w11 w12 w13 p19 w14 w15 w16 h1 (u_3.2.1 0) h2 (u_19.2.1 0) h3 (u_19.2.1 1)) _ _ := h_19
          refine lv_iload_n hx hb dX12_fits_67 rfl (lv_at hl 2 rfl) ?_
          refine lv_i2l hx hb dX12_fits_68 rfl ?_
          obtain ⟨z_20, ez_20, hz_20⟩ := e_i2l (x := p1) rfl
          refine q_cl z_20 ez_20 ?_
          clear ez_20
          refine lv_iload hx hb dX12_fits_69 (lv_at hl 5 rfl) ?_
          refine q_callSi (rest := [.int r_19]) (wr := (wk_d5826a772 cy h0 p3 h1 w0 w1 w2 p4 p5 p6 p7 p8 p9 p10 p11 p12 p13 p14 h2 h3 w3 w4 w5 p15 p16 w6 w7 w8 p17 p18 w9 w10 w11 w12 w13 p19 w14 w15 w16 h1 (u_3.2.1 0) h2 (u_19.2.1 0) h3 (u_19.2.1 1))) X hK hT hA h_19 (fun sz => gX12_isIn_b0455a8 l D cy z_20 v31_10_0 ⟨by omega, by omega⟩ ⟨by omega, by omega⟩ sz) wm_6_167 wm_6_169 wm_1_12 hd_X12_isIn wm_6_168 ⟨Nat.le_of_ble_eq_true rfl, Nat.le_of_ble_eq_true rfl⟩ hl.1 rfl (Nat.le_of_ble_eq_true rfl) dX12_fits_71 ⟨Nat.le_of_ble_eq_true rfl, Nat.le_of_ble_eq_true rfl⟩ [] [0, 1, 2, 3] rfl rfl (by decide) rfl rfl (fun r_21 u_21 H locs w_21 h_21 => ?_)
          clear h_19
          obtain ⟨wr_21, _⟩ := w_21
          replace h_21 : qW D _ _ (wk_d5826a772 cy h0 p3 h1 w0 w1 w2 p4 p5 p6 p7 p8 p9 p10 p11 p12 p13 p14 h2 h3 w3 w4 w5 p15 p16 w6 w7 w8 p17 p18 w9 w10 w11 w12 w13 p19 w14 w15 w16 h1 (u_3.2.1 0) h2 (u_19.2.1 0) h3 (u_19.2.1 1)) _ _ := h_21
          refine lv_icmp_eq (tgt := 79) hx hb dX12_fits_74 (by decide) (fun c_22 => ?_) (fun c_22 => ?_)
          · replace c_22 := i_eq (x := r_19) (y := r_21) rfl rfl c_22
            exact J_79 _ _ _ _ ⟨(u_19.2.1 0), (u_19.2.1 1), rfl, (q_re h_21 [2, 3, 0, 1] rfl rfl), (lv_sub hl [0, 1, 2, 3, 4, 5] rfl)⟩
          · replace c_22 := i_ne (x := r_19) (y := r_21) rfl rfl c_22
            refine lv_iconst (v := 0) hx hb dX12_fits_77 (by decide) ?_
            exact q_iret X hr hlk hK h_21 rfl (fun _ => 0, (vcons (u_19.2.1 0) (vcons (u_19.2.1 1) (vcons (u_3.2.1 0) (fun _ => (fun _ => 0))))), fun _ _ => 0) ⟨⟨by decide +kernel, by decide +kernel⟩, w3_0, w3_1, trivial⟩ [0, 1, 2, 3] rfl rfl dX12_fits_78 (Nat.le_of_ble_eq_true rfl) (Nat.le_of_ble_eq_true rfl)
  · replace c_2 := i_eq (x := r_1) (y := 0) rfl (show (0 : Int32).toInt = 0 by decide) c_2
    refine lv_iconst (v := 0) hx hb dX12_fits_8 (by decide) ?_
    exact q_iret X hr hlk hK h_1 rfl (fun _ => 0, (vcons f1 (vcons f2 (vcons f0 (fun _ => (fun _ => 0))))), fun _ _ => 0) ⟨⟨by decide +kernel, by decide +kernel⟩, rf0, htf0_84, trivial⟩ [2, 3, 0, 1] rfl rfl dX12_fits_9 (Nat.le_of_ble_eq_true rfl) (Nat.le_of_ble_eq_true rfl)
set_option maxHeartbeats 4000000 in
set_option maxRecDepth 100000 in
theorem gX12_laysHidden_bb1e8ce (l : Launch) (D : va_G) (cy : Nat → ClassId) (h0 : Nat) (h1 : Nat) (h2 : Nat) (h3 : Nat) (h4 : Nat) (p0 : Int32) (p1 : Int32) (p2 : Int32) (w0 : Value) (w1 : Value) (w2 : Value) (p3 : Int32) (p4 : Int32) (p5 : Int32) (p6 : Int32) (p7 : Int32) (p8 : Int32) (p9 : Int32) (p10 : Int32) (p11 : Int32) (p12 : Int32) (p13 : Int32) (w3 : Value) (w4 : Value) (w5 : Value) (p14 : Int32) (p15 : Int32) (w6 : Value) (w7 : Value) (w8 : Value) (p16 : Int32) (p17 : Int32) (w9 : Value) (w10 : Value) (w11 : Value) (w12 : Value) (p18 : Int32) (w13 : Value) (w14 : Value) (w15 : Value) (f0 : Nat → Int32) (p19 : Int32) (f1 : Nat → Int32) (f2 : Nat → Int32) (f3 : Nat → Int32) (hp0 : 0 ≤ (p0).toInt ∧ (p0).toInt ≤ 9) (hp1 : (-2147483648) ≤ (p1).toInt ∧ (p1).toInt ≤ 2147483647) (hp2 : 0 ≤ (p2).toInt ∧ (p2).toInt ≤ 0) (hp3 : 0 ≤ (p3).toInt ∧ (p3).toInt ≤ 900) (hp4 : 0 ≤ (p4).toInt ∧ (p4).toInt ≤ 900) (hp5 : 0 ≤ (p5).toInt ∧ (p5).toInt ≤ 900) (hp6 : 0 ≤ (p6).toInt ∧ (p6).toInt ≤ 900) (hp7 : (-2147483648) ≤ (p7).toInt ∧ (p7).toInt ≤ 2147483647) (hp8 : 0 ≤ (p8).toInt ∧ (p8).toInt ≤ 999) (hp9 : (-2147483648) ≤ (p9).toInt ∧ (p9).toInt ≤ 2147483647) (hp10 : (-2147483648) ≤ (p10).toInt ∧ (p10).toInt ≤ 2147483647) (hp11 : (-2147483648) ≤ (p11).toInt ∧ (p11).toInt ≤ 2147483647) (hp12 : (-2147483648) ≤ (p12).toInt ∧ (p12).toInt ≤ 2147483647) (hp13 : (-2147483648) ≤ (p13).toInt ∧ (p13).toInt ≤ 2147483647) (hp14 : (-2147483648) ≤ (p14).toInt ∧ (p14).toInt ≤ 2147483647) (hp15 : (-2147483648) ≤ (p15).toInt ∧ (p15).toInt ≤ 2147483647) (hp16 : (-2147483648) ≤ (p16).toInt ∧ (p16).toInt ≤ 2147483647) (hp17 : (-2147483648) ≤ (p17).toInt ∧ (p17).toInt ≤ 2147483647) (hp18 : (-2147483648) ≤ (p18).toInt ∧ (p18).toInt ≤ 2147483647) (hp19 : 0 ≤ (p19).toInt ∧ (p19).toInt ≤ 10) (htf0_84 : f0 84 = p19) (rf0 : AL f0) (rf3 : RG f3 1000 0 999) (sz : Nat) : MI l yX12_laysHidden cX12_laysHidden 6 .int { frames := 4, cells := 0, slots := 0, locals := 96 } [.ref h0, .int p0, .int p1] D cy (wk_fa21f7301 cy h0 p2 h1 w0 w1 w2 p3 p4 p5 p6 p7 p8 p9 p10 p11 p12 p13 h2 h3 w3 w4 w5 p14 p15 w6 w7 w8 p16 p17 h4 w9 w10 w11 w12 p18 w13 w14 w15 h1 f0 h2 f1 h3 f2 h4 f3) sz (fun r u => (0 ≤ r.toInt ∧ r.toInt ≤ 1000) ∧ RG (u.2.1 2) 1000 0 999 ∧ AL (u.2.1 3) ∧ (u.2.1 3) 84 = p19 ∧ True) (fun u => (wk_fa21f7301 cy h0 p2 h1 w0 w1 w2 p3 p4 p5 p6 p7 p8 p9 p10 p11 p12 p13 h2 h3 w3 w4 w5 p14 p15 w6 w7 w8 p16 p17 h4 w9 w10 w11 w12 p18 w13 w14 w15 h1 (u.2.1 3) h2 (u.2.1 0) h3 (u.2.1 1) h4 (u.2.1 2))) 0 0 := by
  refine q_ent (own := RX12) (by decide) rfl (Nat.le_of_ble_eq_true rfl) (fun p e s m below meth c ls X hr hlk hnm hK hT h hA hl => ?_)
  obtain ⟨hx, hb, hml, hown, ht⟩ := id X
  replace hl : lv_has ls 6 [(0, .ref h0), (1, .int p0), (2, .int p1)] := hl
  refine lv_aload_n hx hb dX12_laysHidden_0 rfl (lv_at hl 0 rfl) ?_
  refine lv_iload_n hx hb dX12_laysHidden_1 rfl (lv_at hl 1 rfl) ?_
  refine q_callVi (rest := []) (wr := (wk_8024bc26d cy h2 f1 h3 f2 h4 f3)) X hK hT hA h (fun sz => gX12_viewsOf_bc3d930 l D cy h0 h1 p0 p2 w0 w1 w2 p3 p4 p5 p6 p7 p8 p9 p10 p11 p12 p13 (.ref h2) (.ref h3) w3 w4 w5 p14 p15 w6 w7 w8 p16 p17 (.ref h4) w9 w10 w11 w12 p18 w13 w14 w15 f0 p19 hp0 hp2 hp3 hp4 hp5 hp6 (i_rng _) hp8 (i_rng _) (i_rng _) (i_rng _) (i_rng _) (i_rng _) (i_rng _) (i_rng _) (i_rng _) (i_rng _) (i_rng _) hp19 htf0_84 rf0 sz) wm_7_172 wm_7_175 wm_1_12 hd_X12_viewsOf wm_7_174 wp_7_10 (ci := 12) (q0 := 0) rfl rfl ⟨Nat.le_of_ble_eq_true rfl, Nat.le_of_ble_eq_true rfl⟩ hl.1 rfl (Nat.le_of_ble_eq_true rfl) dX12_laysHidden_2 ⟨Nat.le_of_ble_eq_true rfl, Nat.le_of_ble_eq_true rfl⟩ [0, 1] [2, 3, 4] rfl rfl (by decide) rfl rfl (fun r_1 u_1 H locs w_1 h_1 => ?_)
  clear h
  obtain ⟨wr_1, _⟩ := w_1
  replace h_1 : qW D _ _ (wk_46a08b732 cy h2 f1 h3 f2 h4 f3 h0 p2 h1 w0 w1 w2 p3 p4 p5 p6 p7 p8 p9 p10 p11 p12 p13 h2 h3 w3 w4 w5 p14 p15 w6 w7 w8 p16 p17 h4 w9 w10 w11 w12 p18 w13 w14 w15 h1 f0) _ _ := h_1
  refine lv_istore_n (lv' := [(3, .int r_1), (0, .ref h0), (1, .int p0), (2, .int p1)]) hx hb dX12_laysHidden_5 rfl hl (by decide) rfl (fun ls_2 hl_2 => ?_)
  clear hl
  refine lv_iconst (v := 0) hx hb dX12_laysHidden_6 (by decide) ?_
  refine lv_istore (lv' := [(4, .int 0), (3, .int r_1), (0, .ref h0), (1, .int p0), (2, .int p1)]) hx hb dX12_laysHidden_7 hl_2 (by decide) rfl (fun ls_3 hl_3 => ?_)
  clear hl_2
  refine lv_iconst (v := 0) hx hb dX12_laysHidden_9 (by decide) ?_
  refine lv_istore (lv' := [(5, .int 0), (4, .int 0), (3, .int r_1), (0, .ref h0), (1, .int p0), (2, .int p1)]) hx hb dX12_laysHidden_10 hl_3 (by decide) rfl (fun ls_4 hl_4 => ?_)
  clear hl_3
  refine q_wl (fun (q : Int32 × Int32) H locs ls => match q with | (v12_5_0, v12_5_1) => ∃ v12_5_2 : Nat → Int32, ∃ v12_5_3 : Nat → Int32, ∃ v12_5_4 : Nat → Int32, ∃ v12_5_5 : Nat → Int32, (0 ≤ (v12_5_0).toInt ∧ (v12_5_0).toInt ≤ 1000) ∧ (0 ≤ (v12_5_1).toInt ∧ (v12_5_1).toInt ≤ 1000) ∧ RG v12_5_2 1000 0 999 ∧ v12_5_3 84 = p19 ∧ AL v12_5_3 ∧ (0 ≤ (v12_5_1 : Int32).toInt ∧ (v12_5_1 : Int32).toInt ≤ (v12_5_0 : Int32).toInt) ∧ qW D (va_A (wk_fa21f7301 cy h0 p2 h1 w0 w1 w2 p3 p4 p5 p6 p7 p8 p9 p10 p11 p12 p13 h2 h3 w3 w4 w5 p14 p15 w6 w7 w8 p16 p17 h4 w9 w10 w11 w12 p18 w13 w14 w15 h1 f0 h2 f1 h3 f2 h4 f3) sz) s.heap (wk_46a08b732 cy h2 v12_5_4 h3 v12_5_5 h4 v12_5_2 h0 p2 h1 w0 w1 w2 p3 p4 p5 p6 p7 p8 p9 p10 p11 p12 p13 h2 h3 w3 w4 w5 p14 p15 w6 w7 w8 p16 p17 h4 w9 w10 w11 w12 p18 w13 w14 w15 h1 v12_5_3) H locs ∧ lv_has ls 6 [(0, .ref h0), (1, .int p0), (2, .int p1), (3, .int r_1), (4, .int v12_5_1), (5, .int v12_5_0)]) (fun (q : Int32 × Int32) => match q with | (v12_5_0, v12_5_1) => (1001 - (v12_5_0).toInt).toNat) (fun q_12 ih_12 H locs ls hP => ?_) (0, 0) ⟨f3, f0, f1, f2, ⟨by decide +kernel, by decide +kernel⟩, ⟨by decide +kernel, by decide +kernel⟩, (rg_wide rf3 (by decide) (by decide)), htf0_84, rf0, (by have q0 : (0 : Int32).toInt = 0 := (by decide); omega), h_1, (lv_sub hl_4 [3, 4, 5, 2, 1, 0] rfl)⟩
  obtain ⟨v12_5_0, v12_5_1⟩ := q_12
  obtain ⟨v12_5_2, v12_5_3, v12_5_4, v12_5_5, hv12_5_0, hv12_5_1, rv12_5_2, trv12_5_3_84, rv12_5_3, x6_0, h, hl⟩ := hP
  refine lv_iload hx hb dX12_laysHidden_12 (lv_at hl 5 rfl) ?_
  refine lv_sipush (v := 1000) hx hb dX12_laysHidden_14 (by decide) ?_
  refine lv_icmp_ge (tgt := 52) hx hb dX12_laysHidden_17 (by decide) (fun c_7 => ?_) (fun c_7 => ?_)
  · replace c_7 := i_le (x := 1000) (y := v12_5_0) (show (1000 : Int32).toInt = 1000 by decide) rfl c_7
    refine lv_aload_n hx hb dX12_laysHidden_52 rfl (lv_at hl 0 rfl) ?_
    refine lv_iload_n hx hb dX12_laysHidden_53 rfl (lv_at hl 1 rfl) ?_
    refine lv_iload_n hx hb dX12_laysHidden_54 rfl (lv_at hl 3 rfl) ?_
    refine q_callVv (rest := []) (wr := (wk_8024bc26d cy h2 v12_5_4 h3 v12_5_5 h4 v12_5_2)) X hK hT hA h (fun sz => gX12_puts_2de0910 l D cy h0 h1 p0 r_1 p2 w0 w1 w2 p3 p4 p5 p6 p7 p8 p9 p10 p11 p12 p13 (.ref h2) (.ref h3) w3 w4 w5 p14 p15 w6 w7 w8 p16 p17 (.ref h4) w9 w10 w11 w12 p18 w13 w14 w15 v12_5_3 p19 hp0 wr_1 hp2 hp3 hp4 hp5 hp6 (i_rng _) hp8 (i_rng _) (i_rng _) (i_rng _) (i_rng _) (i_rng _) (i_rng _) (i_rng _) (i_rng _) (i_rng _) (i_rng _) hp19 trv12_5_3_84 rv12_5_3 sz) wm_7_176 wm_7_179 wm_1_12 hd_X12_puts wm_7_178 wp_7_11 (ci := 12) (q0 := 0) rfl rfl ⟨Nat.le_of_ble_eq_true rfl, Nat.le_of_ble_eq_true rfl⟩ hl.1 rfl (Nat.le_of_ble_eq_true rfl) dX12_laysHidden_55 ⟨Nat.le_of_ble_eq_true rfl, Nat.le_of_ble_eq_true rfl⟩ [3, 4] [0, 1, 2] rfl rfl (by decide) rfl rfl (fun u_8 H locs w_8 h_8 => ?_)
    clear h
    obtain ⟨w8_0, w8_1, _⟩ := w_8
    replace h_8 : qW D _ _ (wk_46a08b732 cy h2 v12_5_4 h3 v12_5_5 h4 v12_5_2 h0 p2 h1 w0 w1 w2 p3 p4 p5 p6 p7 p8 p9 p10 p11 p12 p13 h2 h3 w3 w4 w5 p14 p15 w6 w7 w8 p16 p17 h4 w9 w10 w11 w12 p18 w13 w14 w15 h1 (u_8.2.1 0)) _ _ := h_8
    refine lv_iload hx hb dX12_laysHidden_58 (lv_at hl 4 rfl) ?_
    exact q_iret X hr hlk hK h_8 rfl (fun _ => 0, (vcons v12_5_4 (vcons v12_5_5 (vcons v12_5_2 (vcons (u_8.2.1 0) (fun _ => (fun _ => 0)))))), fun _ _ => 0) ⟨hv12_5_1, (rg_wide rv12_5_2 (by decide) (by decide)), w8_0, w8_1, trivial⟩ [3, 4, 0, 1, 2] rfl rfl dX12_laysHidden_60 (Nat.le_of_ble_eq_true rfl) (Nat.le_of_ble_eq_true rfl)
  · replace c_7 := i_nle (x := 1000) (y := v12_5_0) (show (1000 : Int32).toInt = 1000 by decide) rfl c_7
    refine lv_aload_n hx hb dX12_laysHidden_20 rfl (lv_at hl 0 rfl) ?_
    refine lv_iload_n hx hb dX12_laysHidden_21 rfl (lv_at hl 1 rfl) ?_
    refine lv_iload_n hx hb dX12_laysHidden_22 rfl (lv_at hl 2 rfl) ?_
    refine lv_iload hx hb dX12_laysHidden_23 (lv_at hl 5 rfl) ?_
    refine q_callVi (rest := []) (wr := [(h4, .inl (cy 1, 1000, .inl v12_5_2))]) X hK hT hA h (fun sz => gX12_fits_c2178b6 l D cy h0 h1 h2 h3 p0 p1 v12_5_0 p2 w0 w1 w2 p3 p4 p5 p6 p7 p8 p9 p10 p11 p12 p13 w3 w4 w5 p14 p15 w6 w7 w8 p16 p17 (.ref h4) w9 w10 w11 w12 p18 w13 w14 w15 v12_5_3 p19 v12_5_4 v12_5_5 hp0 (i_rng _) ⟨by omega, by omega⟩ hp2 hp3 hp4 hp5 hp6 (i_rng _) hp8 (i_rng _) (i_rng _) (i_rng _) (i_rng _) (i_rng _) (i_rng _) (i_rng _) (i_rng _) (i_rng _) (i_rng _) hp19 trv12_5_3_84 rv12_5_3 sz) wm_7_231 wm_7_234 wm_1_12 hd_X12_fits wm_7_233 wp_8_1 (ci := 12) (q0 := 0) rfl rfl ⟨Nat.le_of_ble_eq_true rfl, Nat.le_of_ble_eq_true rfl⟩ hl.1 rfl (Nat.le_of_ble_eq_true rfl) dX12_laysHidden_25 ⟨Nat.le_of_ble_eq_true rfl, Nat.le_of_ble_eq_true rfl⟩ [3, 4, 0, 1] [2] rfl rfl (by decide) rfl rfl (fun r_9 u_9 H locs w_9 h_9 => ?_)
    clear h
    obtain ⟨wr_9, w9_0, w9_1, _⟩ := w_9
    replace h_9 : qW D _ _ (wk_94071089f cy h4 v12_5_2 h0 p2 h1 w0 w1 w2 p3 p4 p5 p6 p7 p8 p9 p10 p11 p12 p13 h2 h3 w3 w4 w5 p14 p15 w6 w7 w8 p16 p17 h4 w9 w10 w11 w12 p18 w13 w14 w15 h1 (u_9.2.1 2) h2 (u_9.2.1 0) h3 (u_9.2.1 1)) _ _ := h_9
    refine q_jn (pc2 := 46) (fun H locs ls st => ∃ v46_10_0 : Int32, ∃ v46_10_1 : Nat → Int32, (0 ≤ (v46_10_0).toInt ∧ (v46_10_0).toInt ≤ 1001) ∧ RG v46_10_1 1000 0 999 ∧ ((v46_10_0 : Int32).toInt ≤ (v12_5_0 : Int32).toInt + 1) ∧ st = [] ∧ qW D (va_A (wk_fa21f7301 cy h0 p2 h1 w0 w1 w2 p3 p4 p5 p6 p7 p8 p9 p10 p11 p12 p13 h2 h3 w3 w4 w5 p14 p15 w6 w7 w8 p16 p17 h4 w9 w10 w11 w12 p18 w13 w14 w15 h1 f0 h2 f1 h3 f2 h4 f3) sz) s.heap (wk_94071089f cy h4 v46_10_1 h0 p2 h1 w0 w1 w2 p3 p4 p5 p6 p7 p8 p9 p10 p11 p12 p13 h2 h3 w3 w4 w5 p14 p15 w6 w7 w8 p16 p17 h4 w9 w10 w11 w12 p18 w13 w14 w15 h1 (u_9.2.1 2) h2 (u_9.2.1 0) h3 (u_9.2.1 1)) H locs ∧ lv_has ls 6 [(0, .ref h0), (1, .int p0), (2, .int p1), (3, .int r_1), (4, .int v46_10_0), (5, .int v12_5_0)]) (fun H locs ls st hP => ?_) (fun J_46 => ?_)
    · obtain ⟨v46_10_0, v46_10_1, hv46_10_0, rv46_10_1, x11_0, rfl, h, hl⟩ := hP
      obtain ⟨z_12, ez_12, hz_12⟩ := e_add (x := v12_5_0) (y := Int32.ofInt 1) rfl (b := 1) (by decide) (by omega) (by omega)
      refine lv_iinc (v := z_12) (lv' := [(5, .int z_12), (0, .ref h0), (1, .int p0), (2, .int p1), (3, .int r_1), (4, .int v46_10_0)]) hx hb dX12_laysHidden_46 hl (k := 5) rfl ez_12 (by decide) rfl (fun ls_12 hl_12 => ?_)
      clear hl
      refine lv_goto (tgt := 12) hx hb dX12_laysHidden_49 (by decide) ?_
      exact ih_12 (z_12, v46_10_0) (by show (1001 - (z_12).toInt).toNat < (1001 - (v12_5_0).toInt).toNat; omega) _ _ _ ⟨v46_10_1, (u_9.2.1 2), (u_9.2.1 0), (u_9.2.1 1), ⟨by omega, by omega⟩, ⟨by omega, by omega⟩, (rg_wide rv46_10_1 (by decide) (by decide)), w9_1, w9_0, (by omega), (q_re h [3, 4, 0, 1, 2] rfl rfl), (lv_sub hl_12 [1, 2, 3, 4, 5, 0] rfl)⟩
    · skip
      refine lv_if_ne (tgt := 34) hx hb dX12_laysHidden_28 (by decide) (fun c_13 => ?_) (fun c_13 => ?_)
      · replace c_13 := i_ne (x := r_9) (y := 0) rfl (show (0 : Int32).toInt = 0 by decide) c_13
        refine lv_aload_n hx hb dX12_laysHidden_34 rfl (lv_at hl 0 rfl) ?_
        refine q_get X hK h_9 1 rfl rfl wf_12 28 (by decide) rfl wm_5_198 dX12_laysHidden_35 ?_
        refine lv_iload hx hb dX12_laysHidden_38 (lv_at hl 4 rfl) ?_
        refine lv_iload hx hb dX12_laysHidden_40 (lv_at hl 5 rfl) ?_
        refine q_iast X hK h_9 0 rfl (i_in rfl (by omega) (by omega)) dX12_laysHidden_42 (fun H locs h_15 => ?_)
        clear h_9
        replace h_15 : qW D _ _ (wk_94071089f cy h4 (upd v12_5_2 (Int32.toNatClampNeg v12_5_1) v12_5_0) h0 p2 h1 w0 w1 w2 p3 p4 p5 p6 p7 p8 p9 p10 p11 p12 p13 h2 h3 w3 w4 w5 p14 p15 w6 w7 w8 p16 p17 h4 w9 w10 w11 w12 p18 w13 w14 w15 h1 (u_9.2.1 2) h2 (u_9.2.1 0) h3 (u_9.2.1 1)) _ _ := h_15
        obtain ⟨F_14, eF_14, rF_14⟩ := rg_upd rv12_5_2 (Int32.toNatClampNeg v12_5_1) (x := v12_5_0) rfl (by omega) (by omega)
        rw [eF_14] at h_15
        clear eF_14
        obtain ⟨z_16, ez_16, hz_16⟩ := e_add (x := v12_5_1) (y := Int32.ofInt 1) rfl (b := 1) (by decide) (by omega) (by omega)
        refine lv_iinc (v := z_16) (lv' := [(4, .int z_16), (0, .ref h0), (1, .int p0), (2, .int p1), (3, .int r_1), (5, .int v12_5_0)]) hx hb dX12_laysHidden_43 hl (k := 4) rfl ez_16 (by decide) rfl (fun ls_16 hl_16 => ?_)
        clear hl
        exact J_46 _ _ _ _ ⟨z_16, F_14, ⟨by omega, by omega⟩, (rg_wide rF_14 (by decide) (by decide)), (by omega), rfl, h_15, (lv_sub hl_16 [1, 2, 3, 4, 0, 5] rfl)⟩
      · replace c_13 := i_eq (x := r_9) (y := 0) rfl (show (0 : Int32).toInt = 0 by decide) c_13
        refine lv_goto (tgt := 46) hx hb dX12_laysHidden_31 (by decide) ?_
        exact J_46 _ _ _ _ ⟨v12_5_1, v12_5_2, (bw hv12_5_1 (by decide) (by decide)), (rg_wide rv12_5_2 (by decide) (by decide)), (by omega), rfl, h_9, (lv_sub hl [0, 1, 2, 3, 4, 5] rfl)⟩
set_option maxHeartbeats 4000000 in
set_option maxRecDepth 100000 in
theorem gX12_hidden_fd71e35 (l : Launch) (D : va_G) (cy : Nat → ClassId) (h0 : Nat) (h1 : Nat) (h2 : Nat) (h3 : Nat) (h4 : Nat) (p0 : Int32) (p1 : Int32) (p2 : Int32) (w0 : Value) (w1 : Value) (w2 : Value) (p3 : Int32) (p4 : Int32) (p5 : Int32) (p6 : Int32) (p7 : Int32) (p8 : Int32) (p9 : Int32) (p10 : Int32) (p11 : Int32) (p12 : Int32) (p13 : Int32) (w3 : Value) (w4 : Value) (w5 : Value) (p14 : Int32) (p15 : Int32) (w6 : Value) (w7 : Value) (w8 : Value) (p16 : Int32) (p17 : Int32) (w9 : Value) (w10 : Value) (w11 : Value) (w12 : Value) (p18 : Int32) (w13 : Value) (w14 : Value) (w15 : Value) (f0 : Nat → Int32) (p19 : Int32) (f1 : Nat → Int32) (f2 : Nat → Int32) (f3 : Nat → Int32) (hp0 : (-2147483648) ≤ (p0).toInt ∧ (p0).toInt ≤ 2147483647) (hp1 : (-2147483648) ≤ (p1).toInt ∧ (p1).toInt ≤ 2147483647) (hp2 : (-2147483648) ≤ (p2).toInt ∧ (p2).toInt ≤ 2147483647) (hp3 : 0 ≤ (p3).toInt ∧ (p3).toInt ≤ 900) (hp4 : 0 ≤ (p4).toInt ∧ (p4).toInt ≤ 900) (hp5 : 0 ≤ (p5).toInt ∧ (p5).toInt ≤ 900) (hp6 : 0 ≤ (p6).toInt ∧ (p6).toInt ≤ 900) (hp7 : (-2147483648) ≤ (p7).toInt ∧ (p7).toInt ≤ 2147483647) (hp8 : 0 ≤ (p8).toInt ∧ (p8).toInt ≤ 999) (hp9 : (-2147483648) ≤ (p9).toInt ∧ (p9).toInt ≤ 2147483647) (hp10 : (-2147483648) ≤ (p10).toInt ∧ (p10).toInt ≤ 2147483647) (hp11 : (-2147483648) ≤ (p11).toInt ∧ (p11).toInt ≤ 2147483647) (hp12 : (-2147483648) ≤ (p12).toInt ∧ (p12).toInt ≤ 2147483647) (hp13 : (-2147483648) ≤ (p13).toInt ∧ (p13).toInt ≤ 2147483647) (hp14 : (-2147483648) ≤ (p14).toInt ∧ (p14).toInt ≤ 2147483647) (hp15 : (-2147483648) ≤ (p15).toInt ∧ (p15).toInt ≤ 2147483647) (hp16 : (-2147483648) ≤ (p16).toInt ∧ (p16).toInt ≤ 2147483647) (hp17 : (-2147483648) ≤ (p17).toInt ∧ (p17).toInt ≤ 2147483647) (hp18 : (-2147483648) ≤ (p18).toInt ∧ (p18).toInt ≤ 2147483647) (hp19 : 0 ≤ (p19).toInt ∧ (p19).toInt ≤ 10) (htf0_84 : f0 84 = p19) (rf0 : AL f0) (rf3 : RG f3 1000 0 999) (sz : Nat) : MI l yX12_hidden cX12_hidden 4 .int { frames := 5, cells := 0, slots := 0, locals := 121 } [.ref h0, .int p0, .int p1] D cy (wk_fa21f7301 cy h0 p2 h1 w0 w1 w2 p3 p4 p5 p6 p7 p8 p9 p10 p11 p12 p13 h2 h3 w3 w4 w5 p14 p15 w6 w7 w8 p16 p17 h4 w9 w10 w11 w12 p18 w13 w14 w15 h1 f0 h2 f1 h3 f2 h4 f3) sz (fun r u => ((-3) ≤ r.toInt ∧ r.toInt ≤ 1000) ∧ RG (u.2.1 2) 1000 0 999 ∧ (0 ≤ (u.2.1 3 0).toInt ∧ (u.2.1 3 0).toInt ≤ 0) ∧ AL (u.2.1 4) ∧ (u.2.1 4) 84 = p19 ∧ True) (fun u => (wk_fa21f7301 cy h0 (u.2.1 3 0) h1 w0 w1 w2 p3 p4 p5 p6 p7 p8 p9 p10 p11 p12 p13 h2 h3 w3 w4 w5 p14 p15 w6 w7 w8 p16 p17 h4 w9 w10 w11 w12 p18 w13 w14 w15 h1 (u.2.1 4) h2 (u.2.1 0) h3 (u.2.1 1) h4 (u.2.1 2))) 0 0 := by
  refine q_ent (own := RX12) (by decide) rfl (Nat.le_of_ble_eq_true rfl) (fun p e s m below meth c ls X hr hlk hnm hK hT h hA hl => ?_)
  obtain ⟨hx, hb, hml, hown, ht⟩ := id X
  replace hl : lv_has ls 4 [(0, .ref h0), (1, .int p0), (2, .int p1)] := hl
  refine lv_aload_n hx hb dX12_hidden_0 rfl (lv_at hl 0 rfl) ?_
  refine lv_iconst (v := 0) hx hb dX12_hidden_1 (by decide) ?_
  refine q_put (v := .int 0) X hK h 0 rfl rfl wf_12 tyX12 tyX12_ok nmX12 0 (by decide) wm_5_170 rfl rfl rfl (Nat.le_of_ble_eq_true rfl) dX12_hidden_2 (fun H locs h_1 => ?_)
  clear h
  replace h_1 : qW D _ _ (wk_fa21f7301 cy h0 0 h1 w0 w1 w2 p3 p4 p5 p6 p7 p8 p9 p10 p11 p12 p13 h2 h3 w3 w4 w5 p14 p15 w6 w7 w8 p16 p17 h4 w9 w10 w11 w12 p18 w13 w14 w15 h1 f0 h2 f1 h3 f2 h4 f3) _ _ := h_1
  refine lv_aload_n hx hb dX12_hidden_5 rfl (lv_at hl 0 rfl) ?_
  refine lv_iload_n hx hb dX12_hidden_6 rfl (lv_at hl 1 rfl) ?_
  refine lv_iload_n hx hb dX12_hidden_7 rfl (lv_at hl 2 rfl) ?_
  refine q_callVi (rest := []) (wr := (wk_8024bc26d cy h2 f1 h3 f2 h4 f3)) X hK hT hA h_1 (fun sz => gX12_noHidden_6db733f l D cy h0 h1 p0 p1 (0 : Int32) w0 w1 w2 p3 p4 p5 p6 p7 p8 p9 p10 p11 p12 p13 (.ref h2) (.ref h3) w3 w4 w5 p14 p15 w6 w7 w8 p16 p17 (.ref h4) w9 w10 w11 w12 p18 w13 w14 w15 f0 p19 (i_rng _) (i_rng _) ⟨by decide +kernel, by decide +kernel⟩ hp3 hp4 hp5 hp6 (i_rng _) hp8 (i_rng _) (i_rng _) (i_rng _) (i_rng _) (i_rng _) (i_rng _) (i_rng _) (i_rng _) (i_rng _) (i_rng _) hp19 htf0_84 rf0 sz) wm_7_223 wm_7_226 wm_1_12 hd_X12_noHidden wm_7_225 wp_7_15 (ci := 12) (q0 := 0) rfl rfl ⟨Nat.le_of_ble_eq_true rfl, Nat.le_of_ble_eq_true rfl⟩ hl.1 rfl (Nat.le_of_ble_eq_true rfl) dX12_hidden_8 ⟨Nat.le_of_ble_eq_true rfl, Nat.le_of_ble_eq_true rfl⟩ [0, 1] [2, 3, 4] rfl rfl (by decide) rfl rfl (fun r_2 u_2 H locs w_2 h_2 => ?_)
  clear h_1
  obtain ⟨wr_2, y2_0, _⟩ := w_2
  replace h_2 : qW D _ _ (wk_46a08b732 cy h2 f1 h3 f2 h4 f3 h0 0 h1 w0 w1 w2 p3 p4 p5 p6 p7 p8 p9 p10 p11 p12 p13 h2 h3 w3 w4 w5 p14 p15 w6 w7 w8 p16 p17 h4 w9 w10 w11 w12 p18 w13 w14 w15 h1 f0) _ _ := h_2
  refine lv_istore_n (lv' := [(3, .int r_2), (0, .ref h0), (1, .int p0), (2, .int p1)]) hx hb dX12_hidden_11 rfl hl (by decide) rfl (fun ls_3 hl_3 => ?_)
  clear hl
  refine lv_iload_n hx hb dX12_hidden_12 rfl (lv_at hl_3 0 rfl) ?_
  refine q_jn (pc2 := 26) (fun H locs ls st => ∃ v26_4_4 : Int32, ∃ v26_4_0 : Nat → Int32, ∃ v26_4_1 : Nat → Int32, ∃ v26_4_2 : Nat → Int32, ∃ v26_4_3 : Nat → Int32, ((-3) ≤ (v26_4_4).toInt ∧ (v26_4_4).toInt ≤ 1000) ∧ v26_4_0 84 = p19 ∧ AL v26_4_0 ∧ RG v26_4_3 1000 0 999 ∧ st = [.int v26_4_4] ∧ qW D (va_A (wk_fa21f7301 cy h0 p2 h1 w0 w1 w2 p3 p4 p5 p6 p7 p8 p9 p10 p11 p12 p13 h2 h3 w3 w4 w5 p14 p15 w6 w7 w8 p16 p17 h4 w9 w10 w11 w12 p18 w13 w14 w15 h1 f0 h2 f1 h3 f2 h4 f3) sz) s.heap (wk_46a08b732 cy h2 v26_4_1 h3 v26_4_2 h4 v26_4_3 h0 0 h1 w0 w1 w2 p3 p4 p5 p6 p7 p8 p9 p10 p11 p12 p13 h2 h3 w3 w4 w5 p14 p15 w6 w7 w8 p16 p17 h4 w9 w10 w11 w12 p18 w13 w14 w15 h1 v26_4_0) H locs ∧ lv_has ls 4 [(0, .ref h0), (1, .int p0), (2, .int p1), (3, .int r_2)]) (fun H locs ls st hP => ?_) (fun J_26 => ?_)
  · obtain ⟨v26_4_4, v26_4_0, v26_4_1, v26_4_2, v26_4_3, hv26_4_4, trv26_4_0_84, rv26_4_0, rv26_4_3, rfl, h, hl⟩ := hP
    exact q_iret X hr hlk hK h rfl (fun _ => 0, (vcons v26_4_1 (vcons v26_4_2 (vcons v26_4_3 (vcons (fun _ => 0) (vcons v26_4_0 (fun _ => (fun _ => 0))))))), fun _ _ => 0) ⟨hv26_4_4, (rg_wide rv26_4_3 (by decide) (by decide)), (⟨by decide +kernel, by decide +kernel⟩ : 0 ≤ (0 : Int32).toInt ∧ (0 : Int32).toInt ≤ 0), rv26_4_0, trv26_4_0_84, trivial⟩ [3, 4, 0, 1, 2] rfl rfl dX12_hidden_26 (Nat.le_of_ble_eq_true rfl) (Nat.le_of_ble_eq_true rfl)
  · skip
    refine lv_if_eq (tgt := 20) hx hb dX12_hidden_13 (by decide) (fun c_5 => ?_) (fun c_5 => ?_)
    · replace c_5 := i_eq (x := r_2) (y := 0) rfl (show (0 : Int32).toInt = 0 by decide) c_5
      refine lv_aload_n hx hb dX12_hidden_20 rfl (lv_at hl_3 1 rfl) ?_
      refine lv_iload_n hx hb dX12_hidden_21 rfl (lv_at hl_3 2 rfl) ?_
      refine lv_iload_n hx hb dX12_hidden_22 rfl (lv_at hl_3 3 rfl) ?_
      refine q_callVi (rest := []) (wr := []) X hK hT hA h_2 (fun sz => gX12_laysHidden_bb1e8ce l D cy h0 h1 h2 h3 h4 p0 p1 (0 : Int32) w0 w1 w2 p3 p4 p5 p6 p7 p8 p9 p10 p11 p12 p13 w3 w4 w5 p14 p15 w6 w7 w8 p16 p17 w9 w10 w11 w12 p18 w13 w14 w15 f0 p19 f1 f2 f3 ⟨by omega, by omega⟩ (i_rng _) ⟨by decide +kernel, by decide +kernel⟩ hp3 hp4 hp5 hp6 (i_rng _) hp8 (i_rng _) (i_rng _) (i_rng _) (i_rng _) (i_rng _) (i_rng _) (i_rng _) (i_rng _) (i_rng _) (i_rng _) hp19 htf0_84 rf0 (rg_wide rf3 (by decide) (by decide)) sz) wm_7_227 wm_7_230 wm_1_12 hd_X12_laysHidden wm_7_229 wp_8_0 (ci := 12) (q0 := 0) rfl rfl ⟨Nat.le_of_ble_eq_true rfl, Nat.le_of_ble_eq_true rfl⟩ hl_3.1 rfl (Nat.le_of_ble_eq_true rfl) dX12_hidden_23 ⟨Nat.le_of_ble_eq_true rfl, Nat.le_of_ble_eq_true rfl⟩ [3, 4, 0, 1, 2] [] rfl rfl (by decide) rfl rfl (fun r_6 u_6 H locs w_6 h_6 => ?_)
      clear h_2
      obtain ⟨wr_6, w6_0, w6_1, w6_2, _⟩ := w_6
      replace h_6 : qW D _ _ (wk_fa21f7301 cy h0 0 h1 w0 w1 w2 p3 p4 p5 p6 p7 p8 p9 p10 p11 p12 p13 h2 h3 w3 w4 w5 p14 p15 w6 w7 w8 p16 p17 h4 w9 w10 w11 w12 p18 w13 w14 w15 h1 (u_6.2.1 3) h2 (u_6.2.1 0) h3 (u_6.2.1 1) h4 (u_6.2.1 2)) _ _ := h_6
      exact J_26 _ _ _ _ ⟨r_6, (u_6.2.1 3), (u_6.2.1 0), (u_6.2.1 1), (u_6.2.1 2), (bw wr_6 (by decide) (by decide)), w6_2, w6_1, (rg_wide w6_0 (by decide) (by decide)), rfl, (q_re h_6 [2, 3, 4, 0, 1] rfl rfl), (lv_sub hl_3 [1, 2, 3, 0] rfl)⟩
    · replace c_5 := i_ne (x := r_2) (y := 0) rfl (show (0 : Int32).toInt = 0 by decide) c_5
      refine lv_iload_n hx hb dX12_hidden_16 rfl (lv_at hl_3 0 rfl) ?_
      refine lv_goto (tgt := 26) hx hb dX12_hidden_17 (by decide) ?_
      exact J_26 _ _ _ _ ⟨r_2, f0, f1, f2, f3, (bw wr_2 (by decide) (by decide)), htf0_84, rf0, (rg_wide rf3 (by decide) (by decide)), rfl, h_2, (lv_sub hl_3 [1, 2, 3, 0] rfl)⟩
set_option maxHeartbeats 4000000 in
set_option maxRecDepth 100000 in
theorem gX12_hiddenAt_9b80646 (l : Launch) (D : va_G) (cy : Nat → ClassId) (h0 : Nat) (h1 : Nat) (h2 : Nat) (h3 : Nat) (h4 : Nat) (p0 : Int32) (p1 : Int32) (p2 : Int32) (p3 : Int32) (w0 : Value) (w1 : Value) (w2 : Value) (p4 : Int32) (p5 : Int32) (p6 : Int32) (p7 : Int32) (p8 : Int32) (p9 : Int32) (p10 : Int32) (p11 : Int32) (p12 : Int32) (p13 : Int32) (p14 : Int32) (w3 : Value) (w4 : Value) (w5 : Value) (p15 : Int32) (p16 : Int32) (w6 : Value) (w7 : Value) (w8 : Value) (p17 : Int32) (p18 : Int32) (w9 : Value) (w10 : Value) (w11 : Value) (w12 : Value) (p19 : Int32) (w13 : Value) (w14 : Value) (w15 : Value) (f0 : Nat → Int32) (p20 : Int32) (f1 : Nat → Int32) (f2 : Nat → Int32) (f3 : Nat → Int32) (hp0 : (-2147483648) ≤ (p0).toInt ∧ (p0).toInt ≤ 2147483647) (hp1 : (-2147483648) ≤ (p1).toInt ∧ (p1).toInt ≤ 2147483647) (hp2 : (-2147483648) ≤ (p2).toInt ∧ (p2).toInt ≤ 2147483647) (hp3 : (-2147483648) ≤ (p3).toInt ∧ (p3).toInt ≤ 2147483647) (hp4 : 0 ≤ (p4).toInt ∧ (p4).toInt ≤ 900) (hp5 : 0 ≤ (p5).toInt ∧ (p5).toInt ≤ 900) (hp6 : 0 ≤ (p6).toInt ∧ (p6).toInt ≤ 900) (hp7 : 0 ≤ (p7).toInt ∧ (p7).toInt ≤ 900) (hp8 : (-2147483648) ≤ (p8).toInt ∧ (p8).toInt ≤ 2147483647) (hp9 : 0 ≤ (p9).toInt ∧ (p9).toInt ≤ 999) (hp10 : (-2147483648) ≤ (p10).toInt ∧ (p10).toInt ≤ 2147483647) (hp11 : (-2147483648) ≤ (p11).toInt ∧ (p11).toInt ≤ 2147483647) (hp12 : (-2147483648) ≤ (p12).toInt ∧ (p12).toInt ≤ 2147483647) (hp13 : (-2147483648) ≤ (p13).toInt ∧ (p13).toInt ≤ 2147483647) (hp14 : (-2147483648) ≤ (p14).toInt ∧ (p14).toInt ≤ 2147483647) (hp15 : (-2147483648) ≤ (p15).toInt ∧ (p15).toInt ≤ 2147483647) (hp16 : (-2147483648) ≤ (p16).toInt ∧ (p16).toInt ≤ 2147483647) (hp17 : (-2147483648) ≤ (p17).toInt ∧ (p17).toInt ≤ 2147483647) (hp18 : (-2147483648) ≤ (p18).toInt ∧ (p18).toInt ≤ 2147483647) (hp19 : (-2147483648) ≤ (p19).toInt ∧ (p19).toInt ≤ 2147483647) (hp20 : 0 ≤ (p20).toInt ∧ (p20).toInt ≤ 10) (htf0_84 : f0 84 = p20) (rf0 : AL f0) (rf3 : RG f3 1000 0 999) (sz : Nat) : MI l yX12_hiddenAt cX12_hiddenAt 5 .int { frames := 5, cells := 0, slots := 0, locals := 121 } [.ref h0, .int p0, .int p1, .int p2] D cy (wk_fa21f7301 cy h0 p3 h1 w0 w1 w2 p4 p5 p6 p7 p8 p9 p10 p11 p12 p13 p14 h2 h3 w3 w4 w5 p15 p16 w6 w7 w8 p17 p18 h4 w9 w10 w11 w12 p19 w13 w14 w15 h1 f0 h2 f1 h3 f2 h4 f3) sz (fun r u => ((-3) ≤ r.toInt ∧ r.toInt ≤ 999) ∧ (0 ≤ (u.2.1 0 0).toInt ∧ (u.2.1 0 0).toInt ≤ 0) ∧ AL (u.2.1 1) ∧ RG (u.2.1 4) 1000 0 999 ∧ (u.2.1 1) 84 = p20 ∧ True) (fun u => (wk_fa21f7301 cy h0 (u.2.1 0 0) h1 w0 w1 w2 p4 p5 p6 p7 p8 p9 p10 p11 p12 p13 p14 h2 h3 w3 w4 w5 p15 p16 w6 w7 w8 p17 p18 h4 w9 w10 w11 w12 p19 w13 w14 w15 h1 (u.2.1 1) h2 (u.2.1 2) h3 (u.2.1 3) h4 (u.2.1 4))) 0 0 := by
  refine q_ent (own := RX12) (by decide) rfl (Nat.le_of_ble_eq_true rfl) (fun p e s m below meth c ls X hr hlk hnm hK hT h hA hl => ?_)
  obtain ⟨hx, hb, hml, hown, ht⟩ := id X
  replace hl : lv_has ls 5 [(0, .ref h0), (1, .int p0), (2, .int p1), (3, .int p2)] := hl
  refine lv_aload_n hx hb dX12_hiddenAt_0 rfl (lv_at hl 0 rfl) ?_
  refine lv_iconst (v := 0) hx hb dX12_hiddenAt_1 (by decide) ?_
  refine q_put (v := .int 0) X hK h 0 rfl rfl wf_12 tyX12 tyX12_ok nmX12 0 (by decide) wm_5_170 rfl rfl rfl (Nat.le_of_ble_eq_true rfl) dX12_hiddenAt_2 (fun H locs h_1 => ?_)
  clear h
  replace h_1 : qW D _ _ (wk_fa21f7301 cy h0 0 h1 w0 w1 w2 p4 p5 p6 p7 p8 p9 p10 p11 p12 p13 p14 h2 h3 w3 w4 w5 p15 p16 w6 w7 w8 p17 p18 h4 w9 w10 w11 w12 p19 w13 w14 w15 h1 f0 h2 f1 h3 f2 h4 f3) _ _ := h_1
  refine lv_aload_n hx hb dX12_hiddenAt_5 rfl (lv_at hl 0 rfl) ?_
  refine lv_iload_n hx hb dX12_hiddenAt_6 rfl (lv_at hl 1 rfl) ?_
  refine lv_iload_n hx hb dX12_hiddenAt_7 rfl (lv_at hl 2 rfl) ?_
  refine q_callVi (rest := []) (wr := (wk_8024bc26d cy h2 f1 h3 f2 h4 f3)) X hK hT hA h_1 (fun sz => gX12_noHidden_6db733f l D cy h0 h1 p0 p1 (0 : Int32) w0 w1 w2 p4 p5 p6 p7 p8 p9 p10 p11 p12 p13 p14 (.ref h2) (.ref h3) w3 w4 w5 p15 p16 w6 w7 w8 p17 p18 (.ref h4) w9 w10 w11 w12 p19 w13 w14 w15 f0 p20 (i_rng _) (i_rng _) ⟨by decide +kernel, by decide +kernel⟩ hp4 hp5 hp6 hp7 (i_rng _) hp9 (i_rng _) (i_rng _) (i_rng _) (i_rng _) (i_rng _) (i_rng _) (i_rng _) (i_rng _) (i_rng _) (i_rng _) hp20 htf0_84 rf0 sz) wm_7_223 wm_7_226 wm_1_12 hd_X12_noHidden wm_7_225 wp_7_15 (ci := 12) (q0 := 0) rfl rfl ⟨Nat.le_of_ble_eq_true rfl, Nat.le_of_ble_eq_true rfl⟩ hl.1 rfl (Nat.le_of_ble_eq_true rfl) dX12_hiddenAt_8 ⟨Nat.le_of_ble_eq_true rfl, Nat.le_of_ble_eq_true rfl⟩ [0, 1] [2, 3, 4] rfl rfl (by decide) rfl rfl (fun r_2 u_2 H locs w_2 h_2 => ?_)
  clear h_1
  obtain ⟨wr_2, y2_0, _⟩ := w_2
  replace h_2 : qW D _ _ (wk_46a08b732 cy h2 f1 h3 f2 h4 f3 h0 0 h1 w0 w1 w2 p4 p5 p6 p7 p8 p9 p10 p11 p12 p13 p14 h2 h3 w3 w4 w5 p15 p16 w6 w7 w8 p17 p18 h4 w9 w10 w11 w12 p19 w13 w14 w15 h1 f0) _ _ := h_2
  refine lv_istore (lv' := [(4, .int r_2), (0, .ref h0), (1, .int p0), (2, .int p1), (3, .int p2)]) hx hb dX12_hiddenAt_11 hl (by decide) rfl (fun ls_3 hl_3 => ?_)
  clear hl
  refine lv_iload hx hb dX12_hiddenAt_13 (lv_at hl_3 0 rfl) ?_
  refine lv_if_eq (tgt := 21) hx hb dX12_hiddenAt_15 (by decide) (fun c_4 => ?_) (fun c_4 => ?_)
  · replace c_4 := i_eq (x := r_2) (y := 0) rfl (show (0 : Int32).toInt = 0 by decide) c_4
    refine lv_iload_n hx hb dX12_hiddenAt_21 rfl (lv_at hl_3 4 rfl) ?_
    refine lv_if_ge (tgt := 28) hx hb dX12_hiddenAt_22 (by decide) (fun c_5 => ?_) (fun c_5 => ?_)
    · replace c_5 := i_le (x := 0) (y := p2) (show (0 : Int32).toInt = 0 by decide) rfl c_5
      refine lv_iload_n hx hb dX12_hiddenAt_28 rfl (lv_at hl_3 4 rfl) ?_
      refine lv_aload_n hx hb dX12_hiddenAt_29 rfl (lv_at hl_3 1 rfl) ?_
      refine lv_iload_n hx hb dX12_hiddenAt_30 rfl (lv_at hl_3 2 rfl) ?_
      refine lv_iload_n hx hb dX12_hiddenAt_31 rfl (lv_at hl_3 3 rfl) ?_
      refine q_callVi (rest := [.int p2]) (wr := []) X hK hT hA h_2 (fun sz => gX12_laysHidden_bb1e8ce l D cy h0 h1 h2 h3 h4 p0 p1 (0 : Int32) w0 w1 w2 p4 p5 p6 p7 p8 p9 p10 p11 p12 p13 p14 w3 w4 w5 p15 p16 w6 w7 w8 p17 p18 w9 w10 w11 w12 p19 w13 w14 w15 f0 p20 f1 f2 f3 ⟨by omega, by omega⟩ (i_rng _) ⟨by decide +kernel, by decide +kernel⟩ hp4 hp5 hp6 hp7 (i_rng _) hp9 (i_rng _) (i_rng _) (i_rng _) (i_rng _) (i_rng _) (i_rng _) (i_rng _) (i_rng _) (i_rng _) (i_rng _) hp20 htf0_84 rf0 (rg_wide rf3 (by decide) (by decide)) sz) wm_7_227 wm_7_230 wm_1_12 hd_X12_laysHidden wm_7_229 wp_8_0 (ci := 12) (q0 := 0) rfl rfl ⟨Nat.le_of_ble_eq_true rfl, Nat.le_of_ble_eq_true rfl⟩ hl_3.1 rfl (Nat.le_of_ble_eq_true rfl) dX12_hiddenAt_32 ⟨Nat.le_of_ble_eq_true rfl, Nat.le_of_ble_eq_true rfl⟩ [3, 4, 0, 1, 2] [] rfl rfl (by decide) rfl rfl (fun r_6 u_6 H locs w_6 h_6 => ?_)
      clear h_2
      obtain ⟨wr_6, w6_0, w6_1, w6_2, _⟩ := w_6
      replace h_6 : qW D _ _ (wk_fa21f7301 cy h0 0 h1 w0 w1 w2 p4 p5 p6 p7 p8 p9 p10 p11 p12 p13 p14 h2 h3 w3 w4 w5 p15 p16 w6 w7 w8 p17 p18 h4 w9 w10 w11 w12 p19 w13 w14 w15 h1 (u_6.2.1 3) h2 (u_6.2.1 0) h3 (u_6.2.1 1) h4 (u_6.2.1 2)) _ _ := h_6
      refine q_jn (pc2 := 48) (fun H locs ls st => ∃ v48_7_0 : Int32, ((-1) ≤ (v48_7_0).toInt ∧ (v48_7_0).toInt ≤ 999) ∧ st = [.int v48_7_0] ∧ qW D (va_A (wk_fa21f7301 cy h0 p3 h1 w0 w1 w2 p4 p5 p6 p7 p8 p9 p10 p11 p12 p13 p14 h2 h3 w3 w4 w5 p15 p16 w6 w7 w8 p17 p18 h4 w9 w10 w11 w12 p19 w13 w14 w15 h1 f0 h2 f1 h3 f2 h4 f3) sz) s.heap (wk_fa21f7301 cy h0 0 h1 w0 w1 w2 p4 p5 p6 p7 p8 p9 p10 p11 p12 p13 p14 h2 h3 w3 w4 w5 p15 p16 w6 w7 w8 p17 p18 h4 w9 w10 w11 w12 p19 w13 w14 w15 h1 (u_6.2.1 3) h2 (u_6.2.1 0) h3 (u_6.2.1 1) h4 (u_6.2.1 2)) H locs ∧ lv_has ls 5 [(0, .ref h0), (1, .int p0), (2, .int p1), (3, .int p2), (4, .int r_2)]) (fun H locs ls st hP => ?_) (fun J_48 => ?_)
      · obtain ⟨v48_7_0, hv48_7_0, rfl, h, hl⟩ := hP
        exact q_iret X hr hlk hK h rfl (fun _ => 0, (vcons (fun _ => 0) (vcons (u_6.2.1 3) (vcons (u_6.2.1 0) (vcons (u_6.2.1 1) (vcons (u_6.2.1 2) (fun _ => (fun _ => 0))))))), fun _ _ => 0) ⟨(bw hv48_7_0 (by decide) (by decide)), (⟨by decide +kernel, by decide +kernel⟩ : 0 ≤ (0 : Int32).toInt ∧ (0 : Int32).toInt ≤ 0), w6_1, (rg_wide w6_0 (by decide) (by decide)), w6_2, trivial⟩ [0, 1, 2, 3, 4] rfl rfl dX12_hiddenAt_48 (Nat.le_of_ble_eq_true rfl) (Nat.le_of_ble_eq_true rfl)
      · skip
        refine lv_icmp_ge (tgt := 47) hx hb dX12_hiddenAt_35 (by decide) (fun c_8 => ?_) (fun c_8 => ?_)
        · replace c_8 := i_le (x := r_6) (y := p2) rfl rfl c_8
          refine lv_iconst (v := (-1)) hx hb dX12_hiddenAt_47 (by decide) ?_
          exact J_48 _ _ _ _ ⟨(-1), ⟨by decide +kernel, by decide +kernel⟩, rfl, h_6, (lv_sub hl_3 [1, 2, 3, 4, 0] rfl)⟩
        · replace c_8 := i_nle (x := r_6) (y := p2) rfl rfl c_8
          refine lv_aload_n hx hb dX12_hiddenAt_38 rfl (lv_at hl_3 1 rfl) ?_
          refine q_get X hK h_6 0 rfl rfl wf_12 28 (by decide) rfl wm_5_198 dX12_hiddenAt_39 ?_
          refine lv_iload_n hx hb dX12_hiddenAt_42 rfl (lv_at hl_3 4 rfl) ?_
          refine q_iald X hK h_6 4 rfl (i_in rfl (by omega) (by omega)) dX12_hiddenAt_43 ?_
          obtain ⟨z_9, ez_9, hz_9⟩ := rg_get w6_0 (x := p2) rfl (by omega) (by omega)
          refine q_c z_9 ez_9 ?_
          clear ez_9
          refine lv_goto (tgt := 48) hx hb dX12_hiddenAt_44 (by decide) ?_
          exact J_48 _ _ _ _ ⟨z_9, ⟨by omega, by omega⟩, rfl, h_6, (lv_sub hl_3 [1, 2, 3, 4, 0] rfl)⟩
    · replace c_5 := i_nle (x := 0) (y := p2) (show (0 : Int32).toInt = 0 by decide) rfl c_5
      refine lv_bipush (v := (-3)) hx hb dX12_hiddenAt_25 (by decide) ?_
      exact q_iret X hr hlk hK h_2 rfl (fun _ => 0, (vcons (fun _ => 0) (vcons f0 (vcons f1 (vcons f2 (vcons f3 (fun _ => (fun _ => 0))))))), fun _ _ => 0) ⟨⟨by decide +kernel, by decide +kernel⟩, (⟨by decide +kernel, by decide +kernel⟩ : 0 ≤ (0 : Int32).toInt ∧ (0 : Int32).toInt ≤ 0), rf0, (rg_wide rf3 (by decide) (by decide)), htf0_84, trivial⟩ [3, 4, 0, 1, 2] rfl rfl dX12_hiddenAt_27 (Nat.le_of_ble_eq_true rfl) (Nat.le_of_ble_eq_true rfl)
  · replace c_4 := i_ne (x := r_2) (y := 0) rfl (show (0 : Int32).toInt = 0 by decide) c_4
    refine lv_iload hx hb dX12_hiddenAt_18 (lv_at hl_3 0 rfl) ?_
    exact q_iret X hr hlk hK h_2 rfl (fun _ => 0, (vcons (fun _ => 0) (vcons f0 (vcons f1 (vcons f2 (vcons f3 (fun _ => (fun _ => 0))))))), fun _ _ => 0) ⟨(bw wr_2 (by decide) (by decide)), (⟨by decide +kernel, by decide +kernel⟩ : 0 ≤ (0 : Int32).toInt ∧ (0 : Int32).toInt ≤ 0), rf0, (rg_wide rf3 (by decide) (by decide)), htf0_84, trivial⟩ [3, 4, 0, 1, 2] rfl rfl dX12_hiddenAt_20 (Nat.le_of_ble_eq_true rfl) (Nat.le_of_ble_eq_true rfl)
